section
/-- a private method of a class that the tables say can be made, by its rows of tables_1 -/
def lw_okq (q : MethodName × Nat) : Prop := (q.1.cls ≠ "java/lang/invoke/MethodHandle" ∧ q.1.cls ≠ "java/lang/invoke/VarHandle") ∧ Cond.instantiable q.1.cls q.2 ∈ tables_1 ∧ Cond.privateMethod q.1 ∈ tables_1 ∧ Cond.instanceMethod q.1 ∈ tables_1
theorem lw_p0 : lw_okq (⟨"PacketSpreader$Digester", "takeIn", "(J)V"⟩, 6) := ⟨⟨by decide +kernel, by decide +kernel⟩, List.mem_of_getElem? (i := 52) (by decide +kernel), List.mem_of_getElem? (i := 152) (by decide +kernel), List.mem_of_getElem? (i := 153) (by decide +kernel)⟩
theorem lw_p1 : lw_okq (⟨"PacketSpreader$Digester", "round", "()V"⟩, 6) := ⟨⟨by decide +kernel, by decide +kernel⟩, List.mem_of_getElem? (i := 52) (by decide +kernel), List.mem_of_getElem? (i := 156) (by decide +kernel), List.mem_of_getElem? (i := 157) (by decide +kernel)⟩
theorem lw_p2 : lw_okq (⟨"PacketSpreader$Table", "takeFirstFree", "(I)I"⟩, 5) := ⟨⟨by decide +kernel, by decide +kernel⟩, List.mem_of_getElem? (i := 223) (by decide +kernel), List.mem_of_getElem? (i := 257) (by decide +kernel), List.mem_of_getElem? (i := 258) (by decide +kernel)⟩
theorem lw_p3 : lw_okq (⟨"PacketSpreader", "route", "(J)I"⟩, 11) := ⟨⟨by decide +kernel, by decide +kernel⟩, List.mem_of_getElem? (i := 18) (by decide +kernel), List.mem_of_getElem? (i := 363) (by decide +kernel), List.mem_of_getElem? (i := 364) (by decide +kernel)⟩
theorem lw_p4 : lw_okq (⟨"PacketSpreader", "placeOf", "(J)I"⟩, 11) := ⟨⟨by decide +kernel, by decide +kernel⟩, List.mem_of_getElem? (i := 18) (by decide +kernel), List.mem_of_getElem? (i := 367) (by decide +kernel), List.mem_of_getElem? (i := 368) (by decide +kernel)⟩
theorem lw_p5 : lw_okq (⟨"PacketSpreader", "deliver", "(IIIII)V"⟩, 11) := ⟨⟨by decide +kernel, by decide +kernel⟩, List.mem_of_getElem? (i := 18) (by decide +kernel), List.mem_of_getElem? (i := 403) (by decide +kernel), List.mem_of_getElem? (i := 404) (by decide +kernel)⟩
theorem lw_p6 : lw_okq (⟨"PacketSpreader$Server", "greet", "(II)I"⟩, 6) := ⟨⟨by decide +kernel, by decide +kernel⟩, List.mem_of_getElem? (i := 79) (by decide +kernel), List.mem_of_getElem? (i := 416) (by decide +kernel), List.mem_of_getElem? (i := 417) (by decide +kernel)⟩
theorem lw_p7 : lw_okq (⟨"PacketSpreader$Server", "goOn", "(III)I"⟩, 6) := ⟨⟨by decide +kernel, by decide +kernel⟩, List.mem_of_getElem? (i := 79) (by decide +kernel), List.mem_of_getElem? (i := 422) (by decide +kernel), List.mem_of_getElem? (i := 423) (by decide +kernel)⟩
theorem lw_p8 : lw_okq (⟨"PacketSpreader$Wire", "putChecksum", "(I)V"⟩, 1) := ⟨⟨by decide +kernel, by decide +kernel⟩, List.mem_of_getElem? (i := 26) (by decide +kernel), List.mem_of_getElem? (i := 441) (by decide +kernel), List.mem_of_getElem? (i := 442) (by decide +kernel)⟩
theorem lw_p9 : lw_okq (⟨"PacketSpreader", "isBalancer", "(I)Z"⟩, 11) := ⟨⟨by decide +kernel, by decide +kernel⟩, List.mem_of_getElem? (i := 18) (by decide +kernel), List.mem_of_getElem? (i := 488) (by decide +kernel), List.mem_of_getElem? (i := 489) (by decide +kernel)⟩
theorem lw_p10 : lw_okq (⟨"PacketSpreader", "isServer", "(I)Z"⟩, 11) := ⟨⟨by decide +kernel, by decide +kernel⟩, List.mem_of_getElem? (i := 18) (by decide +kernel), List.mem_of_getElem? (i := 497) (by decide +kernel), List.mem_of_getElem? (i := 498) (by decide +kernel)⟩
theorem lw_p11 : lw_okq (⟨"PacketSpreaderModel", "digestOf", "(J)J"⟩, 38) := ⟨⟨by decide +kernel, by decide +kernel⟩, List.mem_of_getElem? (i := 595) (by decide +kernel), List.mem_of_getElem? (i := 609) (by decide +kernel), List.mem_of_getElem? (i := 610) (by decide +kernel)⟩
theorem lw_p12 : lw_okq (⟨"PacketSpreaderModel", "takeIn", "(J)V"⟩, 38) := ⟨⟨by decide +kernel, by decide +kernel⟩, List.mem_of_getElem? (i := 595) (by decide +kernel), List.mem_of_getElem? (i := 617) (by decide +kernel), List.mem_of_getElem? (i := 618) (by decide +kernel)⟩
theorem lw_p13 : lw_okq (⟨"PacketSpreaderModel", "rounds", "(I)V"⟩, 38) := ⟨⟨by decide +kernel, by decide +kernel⟩, List.mem_of_getElem? (i := 595) (by decide +kernel), List.mem_of_getElem? (i := 621) (by decide +kernel), List.mem_of_getElem? (i := 622) (by decide +kernel)⟩
theorem lw_p14 : lw_okq (⟨"PacketSpreaderModel", "mix", "(IIII)V"⟩, 38) := ⟨⟨by decide +kernel, by decide +kernel⟩, List.mem_of_getElem? (i := 595) (by decide +kernel), List.mem_of_getElem? (i := 625) (by decide +kernel), List.mem_of_getElem? (i := 626) (by decide +kernel)⟩
theorem lw_p15 : lw_okq (⟨"PacketSpreaderModel", "isBalancer", "(I)Z"⟩, 38) := ⟨⟨by decide +kernel, by decide +kernel⟩, List.mem_of_getElem? (i := 595) (by decide +kernel), List.mem_of_getElem? (i := 783) (by decide +kernel), List.mem_of_getElem? (i := 784) (by decide +kernel)⟩
def lw_privs_1 : List (MethodName × Nat) := [(⟨"PacketSpreader$Digester", "takeIn", "(J)V"⟩, 6), (⟨"PacketSpreader$Digester", "round", "()V"⟩, 6), (⟨"PacketSpreader$Table", "takeFirstFree", "(I)I"⟩, 5), (⟨"PacketSpreader", "route", "(J)I"⟩, 11), (⟨"PacketSpreader", "placeOf", "(J)I"⟩, 11), (⟨"PacketSpreader", "deliver", "(IIIII)V"⟩, 11), (⟨"PacketSpreader$Server", "greet", "(II)I"⟩, 6), (⟨"PacketSpreader$Server", "goOn", "(III)I"⟩, 6), (⟨"PacketSpreader$Wire", "putChecksum", "(I)V"⟩, 1), (⟨"PacketSpreader", "isBalancer", "(I)Z"⟩, 11), (⟨"PacketSpreader", "isServer", "(I)Z"⟩, 11), (⟨"PacketSpreaderModel", "digestOf", "(J)J"⟩, 38), (⟨"PacketSpreaderModel", "takeIn", "(J)V"⟩, 38), (⟨"PacketSpreaderModel", "rounds", "(I)V"⟩, 38), (⟨"PacketSpreaderModel", "mix", "(IIII)V"⟩, 38), (⟨"PacketSpreaderModel", "isBalancer", "(I)Z"⟩, 38)]
theorem lw_r1 : ∀ q ∈ lw_privs_1, lw_okq q := List.forall_mem_cons.mpr ⟨lw_p0, List.forall_mem_cons.mpr ⟨lw_p1, List.forall_mem_cons.mpr ⟨lw_p2, List.forall_mem_cons.mpr ⟨lw_p3, List.forall_mem_cons.mpr ⟨lw_p4, List.forall_mem_cons.mpr ⟨lw_p5, List.forall_mem_cons.mpr ⟨lw_p6, List.forall_mem_cons.mpr ⟨lw_p7, List.forall_mem_cons.mpr ⟨lw_p8, List.forall_mem_cons.mpr ⟨lw_p9, List.forall_mem_cons.mpr ⟨lw_p10, List.forall_mem_cons.mpr ⟨lw_p11, List.forall_mem_cons.mpr ⟨lw_p12, List.forall_mem_cons.mpr ⟨lw_p13, List.forall_mem_cons.mpr ⟨lw_p14, List.forall_mem_cons.mpr ⟨lw_p15, fun _ h => absurd h List.not_mem_nil⟩⟩⟩⟩⟩⟩⟩⟩⟩⟩⟩⟩⟩⟩⟩⟩
theorem lw_p16 : lw_okq (⟨"PacketSpreaderModel", "deal", "(I)V"⟩, 38) := ⟨⟨by decide +kernel, by decide +kernel⟩, List.mem_of_getElem? (i := 595) (by decide +kernel), List.mem_of_getElem? (i := 787) (by decide +kernel), List.mem_of_getElem? (i := 788) (by decide +kernel)⟩
theorem lw_p17 : lw_okq (⟨"PacketSpreaderModel", "ups", "(I)I"⟩, 38) := ⟨⟨by decide +kernel, by decide +kernel⟩, List.mem_of_getElem? (i := 595) (by decide +kernel), List.mem_of_getElem? (i := 791) (by decide +kernel), List.mem_of_getElem? (i := 792) (by decide +kernel)⟩
theorem lw_p18 : lw_okq (⟨"PacketSpreaderModel", "wish", "(I)I"⟩, 38) := ⟨⟨by decide +kernel, by decide +kernel⟩, List.mem_of_getElem? (i := 595) (by decide +kernel), List.mem_of_getElem? (i := 795) (by decide +kernel), List.mem_of_getElem? (i := 796) (by decide +kernel)⟩
theorem lw_p19 : lw_okq (⟨"PacketSpreaderModel", "isServer", "(I)Z"⟩, 38) := ⟨⟨by decide +kernel, by decide +kernel⟩, List.mem_of_getElem? (i := 595) (by decide +kernel), List.mem_of_getElem? (i := 803) (by decide +kernel), List.mem_of_getElem? (i := 804) (by decide +kernel)⟩
theorem lw_p20 : lw_okq (⟨"PacketSpreaderModel", "ask", "(II)Z"⟩, 38) := ⟨⟨by decide +kernel, by decide +kernel⟩, List.mem_of_getElem? (i := 595) (by decide +kernel), List.mem_of_getElem? (i := 827) (by decide +kernel), List.mem_of_getElem? (i := 828) (by decide +kernel)⟩
theorem lw_p21 : lw_okq (⟨"PacketSpreaderModel", "meets", "(II)Z"⟩, 38) := ⟨⟨by decide +kernel, by decide +kernel⟩, List.mem_of_getElem? (i := 595) (by decide +kernel), List.mem_of_getElem? (i := 831) (by decide +kernel), List.mem_of_getElem? (i := 832) (by decide +kernel)⟩
theorem lw_p22 : lw_okq (⟨"PacketSpreaderModel", "route", "(J)I"⟩, 38) := ⟨⟨by decide +kernel, by decide +kernel⟩, List.mem_of_getElem? (i := 595) (by decide +kernel), List.mem_of_getElem? (i := 848) (by decide +kernel), List.mem_of_getElem? (i := 849) (by decide +kernel)⟩
theorem lw_p23 : lw_okq (⟨"PacketSpreaderModel", "slot", "(III)I"⟩, 38) := ⟨⟨by decide +kernel, by decide +kernel⟩, List.mem_of_getElem? (i := 595) (by decide +kernel), List.mem_of_getElem? (i := 852) (by decide +kernel), List.mem_of_getElem? (i := 853) (by decide +kernel)⟩
theorem lw_p24 : lw_okq (⟨"PacketSpreaderModel", "note", "(IIIII)V"⟩, 38) := ⟨⟨by decide +kernel, by decide +kernel⟩, List.mem_of_getElem? (i := 595) (by decide +kernel), List.mem_of_getElem? (i := 856) (by decide +kernel), List.mem_of_getElem? (i := 857) (by decide +kernel)⟩
theorem lw_p25 : lw_okq (⟨"PacketSpreaderModel", "freeSlot", "(I)I"⟩, 38) := ⟨⟨by decide +kernel, by decide +kernel⟩, List.mem_of_getElem? (i := 595) (by decide +kernel), List.mem_of_getElem? (i := 860) (by decide +kernel), List.mem_of_getElem? (i := 861) (by decide +kernel)⟩
theorem lw_p26 : lw_okq (⟨"PacketSpreaderModel", "serve", "(IIII)I"⟩, 38) := ⟨⟨by decide +kernel, by decide +kernel⟩, List.mem_of_getElem? (i := 595) (by decide +kernel), List.mem_of_getElem? (i := 864) (by decide +kernel), List.mem_of_getElem? (i := 865) (by decide +kernel)⟩
theorem lw_p27 : lw_okq (⟨"PacketSpreaderModel", "session", "(II)I"⟩, 38) := ⟨⟨by decide +kernel, by decide +kernel⟩, List.mem_of_getElem? (i := 595) (by decide +kernel), List.mem_of_getElem? (i := 868) (by decide +kernel), List.mem_of_getElem? (i := 869) (by decide +kernel)⟩
theorem lw_p28 : lw_okq (⟨"PacketSpreaderModel", "freeSession", "(I)I"⟩, 38) := ⟨⟨by decide +kernel, by decide +kernel⟩, List.mem_of_getElem? (i := 595) (by decide +kernel), List.mem_of_getElem? (i := 872) (by decide +kernel), List.mem_of_getElem? (i := 873) (by decide +kernel)⟩
theorem lw_p29 : lw_okq (⟨"PacketSpreaderModel", "greet", "(III)I"⟩, 38) := ⟨⟨by decide +kernel, by decide +kernel⟩, List.mem_of_getElem? (i := 595) (by decide +kernel), List.mem_of_getElem? (i := 876) (by decide +kernel), List.mem_of_getElem? (i := 877) (by decide +kernel)⟩
theorem lw_p30 : lw_okq (⟨"PacketSpreaderModel", "five", "(IIIIII)I"⟩, 38) := ⟨⟨by decide +kernel, by decide +kernel⟩, List.mem_of_getElem? (i := 595) (by decide +kernel), List.mem_of_getElem? (i := 898) (by decide +kernel), List.mem_of_getElem? (i := 899) (by decide +kernel)⟩
def lw_privs_2 : List (MethodName × Nat) := [(⟨"PacketSpreaderModel", "deal", "(I)V"⟩, 38), (⟨"PacketSpreaderModel", "ups", "(I)I"⟩, 38), (⟨"PacketSpreaderModel", "wish", "(I)I"⟩, 38), (⟨"PacketSpreaderModel", "isServer", "(I)Z"⟩, 38), (⟨"PacketSpreaderModel", "ask", "(II)Z"⟩, 38), (⟨"PacketSpreaderModel", "meets", "(II)Z"⟩, 38), (⟨"PacketSpreaderModel", "route", "(J)I"⟩, 38), (⟨"PacketSpreaderModel", "slot", "(III)I"⟩, 38), (⟨"PacketSpreaderModel", "note", "(IIIII)V"⟩, 38), (⟨"PacketSpreaderModel", "freeSlot", "(I)I"⟩, 38), (⟨"PacketSpreaderModel", "serve", "(IIII)I"⟩, 38), (⟨"PacketSpreaderModel", "session", "(II)I"⟩, 38), (⟨"PacketSpreaderModel", "freeSession", "(I)I"⟩, 38), (⟨"PacketSpreaderModel", "greet", "(III)I"⟩, 38), (⟨"PacketSpreaderModel", "five", "(IIIIII)I"⟩, 38)]
theorem lw_r2 : ∀ q ∈ lw_privs_2, lw_okq q := List.forall_mem_cons.mpr ⟨lw_p16, List.forall_mem_cons.mpr ⟨lw_p17, List.forall_mem_cons.mpr ⟨lw_p18, List.forall_mem_cons.mpr ⟨lw_p19, List.forall_mem_cons.mpr ⟨lw_p20, List.forall_mem_cons.mpr ⟨lw_p21, List.forall_mem_cons.mpr ⟨lw_p22, List.forall_mem_cons.mpr ⟨lw_p23, List.forall_mem_cons.mpr ⟨lw_p24, List.forall_mem_cons.mpr ⟨lw_p25, List.forall_mem_cons.mpr ⟨lw_p26, List.forall_mem_cons.mpr ⟨lw_p27, List.forall_mem_cons.mpr ⟨lw_p28, List.forall_mem_cons.mpr ⟨lw_p29, List.forall_mem_cons.mpr ⟨lw_p30, fun _ h => absurd h List.not_mem_nil⟩⟩⟩⟩⟩⟩⟩⟩⟩⟩⟩⟩⟩⟩⟩
def lw_privs : List (MethodName × Nat) := lw_privs_1 ++ (lw_privs_2)
def lw_tbl : List Cond := k2_sels lw_privs ++ tables_1
theorem lw_privs_ok : ∀ q ∈ lw_privs, lw_okq q := by
  show ∀ q ∈ lw_privs_1 ++ (lw_privs_2), lw_okq q
  exact List.forall_mem_append.mpr ⟨lw_r1, lw_r2⟩
end
section
def R_PS : String := "PacketSpreader"
def F_PS : u_T := fun k => match k with
  | 0 => ("PacketSpreader", "digester", "LPacketSpreader$Digester;", true)
  | 1 => ("PacketSpreader", "balancers", "[LPacketSpreader$Balancer;", true)
  | 2 => ("PacketSpreader", "servers", "[LPacketSpreader$Server;", true)
  | 3 => ("PacketSpreader", "size", "I", true)
  | 4 => ("PacketSpreader", "kept", "[I", true)
  | 5 => ("PacketSpreader", "latestWire", "LPacketSpreader$Wire;", true)
  | 6 => ("PacketSpreader", "headerKept", "Z", false)
  | 7 => ("PacketSpreader", "latestCarrier", "I", false)
  | 8 => ("PacketSpreader", "latestReply", "I", false)
  | 9 => ("PacketSpreader", "latestTaken", "I", false)
  | _ => ("PacketSpreader", "time", "I", false)
def t_PS : Nat → FieldType := fun k => match k with
  | 0 => .object "PacketSpreader$Digester"
  | 1 => .array (.object "PacketSpreader$Balancer")
  | 2 => .array (.object "PacketSpreader$Server")
  | 3 => .int
  | 4 => .array (.int)
  | 5 => .object "PacketSpreader$Wire"
  | 6 => .boolean
  | 7 => .int
  | 8 => .int
  | 9 => .int
  | _ => .int
theorem n_PS : ∀ a, a < 11 → ∀ b, b < 11 → a ≠ b → (F_PS a).2.1 ≠ (F_PS b).2.1 := by decide +kernel
theorem t_PS_ok : ∀ k, k < 11 → parseFieldDescriptor (F_PS k).2.2.1 = some (t_PS k) := by decide +kernel
def R_Bal : String := "PacketSpreader$Balancer"
def F_Bal : u_T := fun k => match k with
  | 0 => ("PacketSpreader$Balancer", "watch", "LPacketSpreader$Watch;", true)
  | 1 => ("PacketSpreader$Balancer", "table", "LPacketSpreader$Table;", true)
  | 2 => ("PacketSpreader$Balancer", "entries", "LPacketSpreader$Entries;", true)
  | 3 => ("PacketSpreader$Balancer", "stamp", "LPacketSpreader$Stamp;", true)
  | 4 => ("PacketSpreader$Balancer", "isLive", "Z", false)
  | _ => ("PacketSpreader$Balancer", "cut", "[Z", true)
def t_Bal : Nat → FieldType := fun k => match k with
  | 0 => .object "PacketSpreader$Watch"
  | 1 => .object "PacketSpreader$Table"
  | 2 => .object "PacketSpreader$Entries"
  | 3 => .object "PacketSpreader$Stamp"
  | 4 => .boolean
  | _ => .array (.boolean)
theorem n_Bal : ∀ a, a < 6 → ∀ b, b < 6 → a ≠ b → (F_Bal a).2.1 ≠ (F_Bal b).2.1 := by decide +kernel
theorem t_Bal_ok : ∀ k, k < 6 → parseFieldDescriptor (F_Bal k).2.2.1 = some (t_Bal k) := by decide +kernel
def R_Dig : String := "PacketSpreader$Digester"
def F_Dig : u_T := fun k => match k with
  | 0 => ("PacketSpreader$Digester", "k0", "J", true)
  | 1 => ("PacketSpreader$Digester", "k1", "J", true)
  | 2 => ("PacketSpreader$Digester", "a", "J", false)
  | 3 => ("PacketSpreader$Digester", "b", "J", false)
  | 4 => ("PacketSpreader$Digester", "c", "J", false)
  | _ => ("PacketSpreader$Digester", "d", "J", false)
def t_Dig : Nat → FieldType := fun k => match k with
  | 0 => .long
  | 1 => .long
  | 2 => .long
  | 3 => .long
  | 4 => .long
  | _ => .long
theorem n_Dig : ∀ a, a < 6 → ∀ b, b < 6 → a ≠ b → (F_Dig a).2.1 ≠ (F_Dig b).2.1 := by decide +kernel
theorem t_Dig_ok : ∀ k, k < 6 → parseFieldDescriptor (F_Dig k).2.2.1 = some (t_Dig k) := by decide +kernel
def R_Ent : String := "PacketSpreader$Entries"
def F_Ent : u_T := fun k => match k with
  | 0 => ("PacketSpreader$Entries", "slots", "LPacketSpreader$Slots;", true)
  | 1 => ("PacketSpreader$Entries", "servers", "[I", true)
  | 2 => ("PacketSpreader$Entries", "patience", "[I", true)
  | _ => ("PacketSpreader$Entries", "latestUse", "[I", true)
def t_Ent : Nat → FieldType := fun k => match k with
  | 0 => .object "PacketSpreader$Slots"
  | 1 => .array (.int)
  | 2 => .array (.int)
  | _ => .array (.int)
theorem n_Ent : ∀ a, a < 4 → ∀ b, b < 4 → a ≠ b → (F_Ent a).2.1 ≠ (F_Ent b).2.1 := by decide +kernel
theorem t_Ent_ok : ∀ k, k < 4 → parseFieldDescriptor (F_Ent k).2.2.1 = some (t_Ent k) := by decide +kernel
def R_Lst : String := "PacketSpreader$Lists"
def F_Lst : u_T := fun k => match k with
  | 0 => ("PacketSpreader$Lists", "size", "I", true)
  | 1 => ("PacketSpreader$Lists", "first", "[I", true)
  | _ => ("PacketSpreader$Lists", "step", "[I", true)
def t_Lst : Nat → FieldType := fun k => match k with
  | 0 => .int
  | 1 => .array (.int)
  | _ => .array (.int)
theorem n_Lst : ∀ a, a < 3 → ∀ b, b < 3 → a ≠ b → (F_Lst a).2.1 ≠ (F_Lst b).2.1 := by decide +kernel
theorem t_Lst_ok : ∀ k, k < 3 → parseFieldDescriptor (F_Lst k).2.2.1 = some (t_Lst k) := by decide +kernel
def R_Srv : String := "PacketSpreader$Server"
def F_Srv : u_T := fun k => match k with
  | 0 => ("PacketSpreader$Server", "slots", "LPacketSpreader$Slots;", true)
  | 1 => ("PacketSpreader$Server", "stamp", "LPacketSpreader$Stamp;", true)
  | 2 => ("PacketSpreader$Server", "isOn", "Z", false)
  | 3 => ("PacketSpreader$Server", "takenAtReply", "I", false)
  | 4 => ("PacketSpreader$Server", "nextNumber", "[I", true)
  | _ => ("PacketSpreader$Server", "dataTaken", "[I", true)
def t_Srv : Nat → FieldType := fun k => match k with
  | 0 => .object "PacketSpreader$Slots"
  | 1 => .object "PacketSpreader$Stamp"
  | 2 => .boolean
  | 3 => .int
  | 4 => .array (.int)
  | _ => .array (.int)
theorem n_Srv : ∀ a, a < 6 → ∀ b, b < 6 → a ≠ b → (F_Srv a).2.1 ≠ (F_Srv b).2.1 := by decide +kernel
theorem t_Srv_ok : ∀ k, k < 6 → parseFieldDescriptor (F_Srv k).2.2.1 = some (t_Srv k) := by decide +kernel
def R_Slo : String := "PacketSpreader$Slots"
def F_Slo : u_T := fun k => match k with
  | 0 => ("PacketSpreader$Slots", "sources", "[I", true)
  | 1 => ("PacketSpreader$Slots", "ports", "[I", true)
  | 2 => ("PacketSpreader$Slots", "inUse", "[Z", true)
  | _ => ("PacketSpreader$Slots", "count", "I", false)
def t_Slo : Nat → FieldType := fun k => match k with
  | 0 => .array (.int)
  | 1 => .array (.int)
  | 2 => .array (.boolean)
  | _ => .int
theorem n_Slo : ∀ a, a < 4 → ∀ b, b < 4 → a ≠ b → (F_Slo a).2.1 ≠ (F_Slo b).2.1 := by decide +kernel
theorem t_Slo_ok : ∀ k, k < 4 → parseFieldDescriptor (F_Slo k).2.2.1 = some (t_Slo k) := by decide +kernel
def R_Stp : String := "PacketSpreader$Stamp"
def F_Stp : u_T := fun k => match k with
  | _ => ("PacketSpreader$Stamp", "following", "I", false)
def t_Stp : Nat → FieldType := fun k => match k with
  | _ => .int
theorem n_Stp : ∀ a, a < 1 → ∀ b, b < 1 → a ≠ b → (F_Stp a).2.1 ≠ (F_Stp b).2.1 := by decide +kernel
theorem t_Stp_ok : ∀ k, k < 1 → parseFieldDescriptor (F_Stp k).2.2.1 = some (t_Stp k) := by decide +kernel
def R_Tab : String := "PacketSpreader$Table"
def F_Tab : u_T := fun k => match k with
  | 0 => ("PacketSpreader$Table", "changes", "I", false)
  | 1 => ("PacketSpreader$Table", "lists", "LPacketSpreader$Lists;", true)
  | 2 => ("PacketSpreader$Table", "owners", "[I", true)
  | 3 => ("PacketSpreader$Table", "ownersBefore", "[I", true)
  | _ => ("PacketSpreader$Table", "nextInList", "[I", true)
def t_Tab : Nat → FieldType := fun k => match k with
  | 0 => .int
  | 1 => .object "PacketSpreader$Lists"
  | 2 => .array (.int)
  | 3 => .array (.int)
  | _ => .array (.int)
theorem n_Tab : ∀ a, a < 5 → ∀ b, b < 5 → a ≠ b → (F_Tab a).2.1 ≠ (F_Tab b).2.1 := by decide +kernel
theorem t_Tab_ok : ∀ k, k < 5 → parseFieldDescriptor (F_Tab k).2.2.1 = some (t_Tab k) := by decide +kernel
def R_Wat : String := "PacketSpreader$Watch"
def F_Wat : u_T := fun k => match k with
  | 0 => ("PacketSpreader$Watch", "up", "[Z", true)
  | _ => ("PacketSpreader$Watch", "contrary", "[I", true)
def t_Wat : Nat → FieldType := fun k => match k with
  | 0 => .array (.boolean)
  | _ => .array (.int)
theorem n_Wat : ∀ a, a < 2 → ∀ b, b < 2 → a ≠ b → (F_Wat a).2.1 ≠ (F_Wat b).2.1 := by decide +kernel
theorem t_Wat_ok : ∀ k, k < 2 → parseFieldDescriptor (F_Wat k).2.2.1 = some (t_Wat k) := by decide +kernel
def R_Wir : String := "PacketSpreader$Wire"
def F_Wir : u_T := fun k => match k with
  | _ => ("PacketSpreader$Wire", "words", "[I", true)
def t_Wir : Nat → FieldType := fun k => match k with
  | _ => .array (.int)
theorem n_Wir : ∀ a, a < 1 → ∀ b, b < 1 → a ≠ b → (F_Wir a).2.1 ≠ (F_Wir b).2.1 := by decide +kernel
theorem t_Wir_ok : ∀ k, k < 1 → parseFieldDescriptor (F_Wir k).2.2.1 = some (t_Wir k) := by decide +kernel
def R_Mod : String := "PacketSpreaderModel"
def F_Mod : u_T := fun k => match k with
  | 0 => ("PacketSpreaderModel", "balancers", "I", false)
  | 1 => ("PacketSpreaderModel", "servers", "I", false)
  | 2 => ("PacketSpreaderModel", "places", "I", false)
  | 3 => ("PacketSpreaderModel", "key0", "J", false)
  | 4 => ("PacketSpreaderModel", "key1", "J", false)
  | 5 => ("PacketSpreaderModel", "now", "I", false)
  | 6 => ("PacketSpreaderModel", "word", "[J", true)
  | 7 => ("PacketSpreaderModel", "begin", "[I", true)
  | 8 => ("PacketSpreaderModel", "stride", "[I", true)
  | 9 => ("PacketSpreaderModel", "dealt", "[I", true)
  | 10 => ("PacketSpreaderModel", "former", "[I", true)
  | 11 => ("PacketSpreaderModel", "alive", "[Z", true)
  | 12 => ("PacketSpreaderModel", "stamp", "[I", true)
  | 13 => ("PacketSpreaderModel", "moves", "[I", true)
  | 14 => ("PacketSpreaderModel", "down", "[Z", true)
  | 15 => ("PacketSpreaderModel", "counted", "[I", true)
  | 16 => ("PacketSpreaderModel", "cut", "[Z", true)
  | 17 => ("PacketSpreaderModel", "phase", "[I", true)
  | 18 => ("PacketSpreaderModel", "used", "[I", true)
  | 19 => ("PacketSpreaderModel", "goal", "[I", true)
  | 20 => ("PacketSpreaderModel", "entrySource", "[I", true)
  | 21 => ("PacketSpreaderModel", "entryPorts", "[I", true)
  | 22 => ("PacketSpreaderModel", "off", "[Z", true)
  | 23 => ("PacketSpreaderModel", "answerStamp", "[I", true)
  | 24 => ("PacketSpreaderModel", "open", "[Z", true)
  | 25 => ("PacketSpreaderModel", "sessionSource", "[I", true)
  | 26 => ("PacketSpreaderModel", "sessionPorts", "[I", true)
  | 27 => ("PacketSpreaderModel", "awaited", "[I", true)
  | 28 => ("PacketSpreaderModel", "data", "[I", true)
  | 29 => ("PacketSpreaderModel", "kept", "Z", false)
  | 30 => ("PacketSpreaderModel", "head", "[I", true)
  | 31 => ("PacketSpreaderModel", "by", "I", false)
  | 32 => ("PacketSpreaderModel", "to", "I", false)
  | 33 => ("PacketSpreaderModel", "reply", "I", false)
  | 34 => ("PacketSpreaderModel", "had", "I", false)
  | 35 => ("PacketSpreaderModel", "outerStamp", "I", false)
  | 36 => ("PacketSpreaderModel", "backStamp", "I", false)
  | _ => ("PacketSpreaderModel", "inner", "[I", true)
def t_Mod : Nat → FieldType := fun k => match k with
  | 0 => .int
  | 1 => .int
  | 2 => .int
  | 3 => .long
  | 4 => .long
  | 5 => .int
  | 6 => .array (.long)
  | 7 => .array (.int)
  | 8 => .array (.int)
  | 9 => .array (.int)
  | 10 => .array (.int)
  | 11 => .array (.boolean)
  | 12 => .array (.int)
  | 13 => .array (.int)
  | 14 => .array (.boolean)
  | 15 => .array (.int)
  | 16 => .array (.boolean)
  | 17 => .array (.int)
  | 18 => .array (.int)
  | 19 => .array (.int)
  | 20 => .array (.int)
  | 21 => .array (.int)
  | 22 => .array (.boolean)
  | 23 => .array (.int)
  | 24 => .array (.boolean)
  | 25 => .array (.int)
  | 26 => .array (.int)
  | 27 => .array (.int)
  | 28 => .array (.int)
  | 29 => .boolean
  | 30 => .array (.int)
  | 31 => .int
  | 32 => .int
  | 33 => .int
  | 34 => .int
  | 35 => .int
  | 36 => .int
  | _ => .array (.int)
theorem n_Mod : ∀ a, a < 38 → ∀ b, b < 38 → a ≠ b → (F_Mod a).2.1 ≠ (F_Mod b).2.1 := by decide +kernel
theorem t_Mod_ok : ∀ k, k < 38 → parseFieldDescriptor (F_Mod k).2.2.1 = some (t_Mod k) := by decide +kernel
def R_Sum : String := "PacketSpreader$Sums"
def R_Law : String := "PacketSpreaderLaw"
def R_Arr : String := "java/util/Arrays"
abbrev zCl : List vw_C := [(R_PS, F_PS, 11), (R_Bal, F_Bal, 6), (R_Dig, F_Dig, 6), (R_Ent, F_Ent, 4), (R_Lst, F_Lst, 3), (R_Srv, F_Srv, 6), (R_Slo, F_Slo, 4), (R_Stp, F_Stp, 1), (R_Tab, F_Tab, 5), (R_Wat, F_Wat, 2), (R_Wir, F_Wir, 1), (R_Mod, F_Mod, 38)]
def y_PS_init : MethodName := ⟨R_PS, "<init>", "(IIII)V"⟩
abbrev b_PS_init : ByteArray := prog_1_method_1_code
def y_Wir_init : MethodName := ⟨R_Wir, "<init>", "()V"⟩
abbrev b_Wir_init : ByteArray := prog_12_method_1_code
def y_PS_clamp : MethodName := ⟨R_PS, "clamp", "(III)I"⟩
abbrev b_PS_clamp : ByteArray := prog_1_method_29_code
def y_PS_primeFrom : MethodName := ⟨R_PS, "primeFrom", "(I)I"⟩
abbrev b_PS_primeFrom : ByteArray := prog_1_method_30_code
def y_PS_isPrime : MethodName := ⟨R_PS, "isPrime", "(I)Z"⟩
abbrev b_PS_isPrime : ByteArray := prog_1_method_31_code
def y_Dig_init : MethodName := ⟨R_Dig, "<init>", "(JJ)V"⟩
abbrev b_Dig_init : ByteArray := prog_3_method_1_code
def y_Srv_init : MethodName := ⟨R_Srv, "<init>", "()V"⟩
abbrev b_Srv_init : ByteArray := prog_6_method_1_code
def y_Slo_init : MethodName := ⟨R_Slo, "<init>", "(I)V"⟩
abbrev b_Slo_init : ByteArray := prog_7_method_1_code
def y_Stp_init : MethodName := ⟨R_Stp, "<init>", "(I)V"⟩
abbrev b_Stp_init : ByteArray := prog_8_method_1_code
def y_Lst_init : MethodName := ⟨R_Lst, "<init>", "(IILPacketSpreader$Digester;)V"⟩
abbrev b_Lst_init : ByteArray := prog_5_method_1_code
def y_Dig_digestOf : MethodName := ⟨R_Dig, "digestOf", "(J)J"⟩
abbrev b_Dig_digestOf : ByteArray := prog_3_method_2_code
def y_Dig_takeIn : MethodName := ⟨R_Dig, "takeIn", "(J)V"⟩
abbrev b_Dig_takeIn : ByteArray := prog_3_method_3_code
def y_Dig_round : MethodName := ⟨R_Dig, "round", "()V"⟩
abbrev b_Dig_round : ByteArray := prog_3_method_4_code
def y_Dig_turnedLeft : MethodName := ⟨R_Dig, "turnedLeft", "(JI)J"⟩
abbrev b_Dig_turnedLeft : ByteArray := prog_3_method_5_code
def y_Bal_init : MethodName := ⟨R_Bal, "<init>", "(ILPacketSpreader$Lists;)V"⟩
abbrev b_Bal_init : ByteArray := prog_2_method_1_code
def y_Ent_init : MethodName := ⟨R_Ent, "<init>", "()V"⟩
abbrev b_Ent_init : ByteArray := prog_4_method_1_code
def y_Wat_init : MethodName := ⟨R_Wat, "<init>", "(I)V"⟩
abbrev b_Wat_init : ByteArray := prog_11_method_1_code
def y_Tab_init : MethodName := ⟨R_Tab, "<init>", "(ILPacketSpreader$Lists;)V"⟩
abbrev b_Tab_init : ByteArray := prog_10_method_1_code
def y_Tab_fill : MethodName := ⟨R_Tab, "fill", "(LPacketSpreader$Watch;)V"⟩
abbrev b_Tab_fill : ByteArray := prog_10_method_5_code
def y_Arr_fill : MethodName := ⟨R_Arr, "fill", "([II)V"⟩
abbrev b_Arr_fill : ByteArray := prog_17_method_103_code
def y_Wat_isUp : MethodName := ⟨R_Wat, "isUp", "(I)Z"⟩
abbrev b_Wat_isUp : ByteArray := prog_11_method_2_code
def y_Tab_takeFirstFree : MethodName := ⟨R_Tab, "takeFirstFree", "(I)I"⟩
abbrev b_Tab_takeFirstFree : ByteArray := prog_10_method_6_code
def y_Lst_placeAt : MethodName := ⟨R_Lst, "placeAt", "(II)I"⟩
abbrev b_Lst_placeAt : ByteArray := prog_5_method_2_code
def y_PS_checksum : MethodName := ⟨R_PS, "checksum", "(IIIII)I"⟩
abbrev b_PS_checksum : ByteArray := prog_1_method_2_code
def y_Sum_rightChecksum : MethodName := ⟨R_Sum, "rightChecksum", "(IIIII)I"⟩
abbrev b_Sum_rightChecksum : ByteArray := prog_9_method_2_code
def y_Sum_sumOf : MethodName := ⟨R_Sum, "sumOf", "(IIIII)I"⟩
abbrev b_Sum_sumOf : ByteArray := prog_9_method_3_code
def y_Sum_halves : MethodName := ⟨R_Sum, "halves", "(I)I"⟩
abbrev b_Sum_halves : ByteArray := prog_9_method_4_code
def y_Sum_fold : MethodName := ⟨R_Sum, "fold", "(I)I"⟩
abbrev b_Sum_fold : ByteArray := prog_9_method_5_code
def y_PS_header : MethodName := ⟨R_PS, "header", "(IIIII)I"⟩
abbrev b_PS_header : ByteArray := prog_1_method_3_code
def y_PS_faultOf : MethodName := ⟨R_PS, "faultOf", "(IIIII)I"⟩
abbrev b_PS_faultOf : ByteArray := prog_1_method_26_code
def y_PS_segment : MethodName := ⟨R_PS, "segment", "(III)I"⟩
abbrev b_PS_segment : ByteArray := prog_1_method_4_code
def y_PS_isKind : MethodName := ⟨R_PS, "isKind", "(I)Z"⟩
abbrev b_PS_isKind : ByteArray := prog_1_method_27_code
def y_PS_joined : MethodName := ⟨R_PS, "joined", "(II)J"⟩
abbrev b_PS_joined : ByteArray := prog_1_method_28_code
def y_PS_route : MethodName := ⟨R_PS, "route", "(J)I"⟩
abbrev b_PS_route : ByteArray := prog_1_method_24_code
def y_PS_placeOf : MethodName := ⟨R_PS, "placeOf", "(J)I"⟩
abbrev b_PS_placeOf : ByteArray := prog_1_method_23_code
def y_Bal_serverFor : MethodName := ⟨R_Bal, "serverFor", "(III)I"⟩
abbrev b_Bal_serverFor : ByteArray := prog_2_method_5_code
def y_Ent_serverOf : MethodName := ⟨R_Ent, "serverOf", "(II)I"⟩
abbrev b_Ent_serverOf : ByteArray := prog_4_method_2_code
def y_Slo_find : MethodName := ⟨R_Slo, "find", "(II)I"⟩
abbrev b_Slo_find : ByteArray := prog_7_method_3_code
def y_Tab_serverAt : MethodName := ⟨R_Tab, "serverAt", "(I)I"⟩
abbrev b_Tab_serverAt : ByteArray := prog_10_method_2_code
def y_Ent_note : MethodName := ⟨R_Ent, "note", "(IIIII)V"⟩
abbrev b_Ent_note : ByteArray := prog_4_method_3_code
def y_Slo_findOrTake : MethodName := ⟨R_Slo, "findOrTake", "(II)I"⟩
abbrev b_Slo_findOrTake : ByteArray := prog_7_method_4_code
def y_Slo_release : MethodName := ⟨R_Slo, "release", "(I)V"⟩
abbrev b_Slo_release : ByteArray := prog_7_method_5_code
def y_Ent_patienceAfter : MethodName := ⟨R_Ent, "patienceAfter", "(I)I"⟩
abbrev b_Ent_patienceAfter : ByteArray := prog_4_method_6_code
def y_PS_deliver : MethodName := ⟨R_PS, "deliver", "(IIIII)V"⟩
abbrev b_PS_deliver : ByteArray := prog_1_method_25_code
def y_Bal_reaches : MethodName := ⟨R_Bal, "reaches", "(ILPacketSpreader$Server;)Z"⟩
abbrev b_Bal_reaches : ByteArray := prog_2_method_4_code
def y_Srv_receive : MethodName := ⟨R_Srv, "receive", "(IIII)I"⟩
abbrev b_Srv_receive : ByteArray := prog_6_method_3_code
def y_Srv_greet : MethodName := ⟨R_Srv, "greet", "(II)I"⟩
abbrev b_Srv_greet : ByteArray := prog_6_method_4_code
def y_Srv_goOn : MethodName := ⟨R_Srv, "goOn", "(III)I"⟩
abbrev b_Srv_goOn : ByteArray := prog_6_method_5_code
def y_Stp_next : MethodName := ⟨R_Stp, "next", "()I"⟩
abbrev b_Stp_next : ByteArray := prog_8_method_2_code
def y_Wir_putForward : MethodName := ⟨R_Wir, "putForward", "([IIII)V"⟩
abbrev b_Wir_putForward : ByteArray := prog_12_method_3_code
def y_Wir_putChecksum : MethodName := ⟨R_Wir, "putChecksum", "(I)V"⟩
abbrev b_Wir_putChecksum : ByteArray := prog_12_method_6_code
def y_Wir_clearAnswer : MethodName := ⟨R_Wir, "clearAnswer", "()V"⟩
abbrev b_Wir_clearAnswer : ByteArray := prog_12_method_5_code
def y_Wir_putAnswer : MethodName := ⟨R_Wir, "putAnswer", "(II)V"⟩
abbrev b_Wir_putAnswer : ByteArray := prog_12_method_4_code
def y_PS_carrier : MethodName := ⟨R_PS, "carrier", "()I"⟩
abbrev b_PS_carrier : ByteArray := prog_1_method_5_code
def y_PS_reply : MethodName := ⟨R_PS, "reply", "()I"⟩
abbrev b_PS_reply : ByteArray := prog_1_method_6_code
def y_PS_taken : MethodName := ⟨R_PS, "taken", "()I"⟩
abbrev b_PS_taken : ByteArray := prog_1_method_7_code
def y_PS_wire : MethodName := ⟨R_PS, "wire", "(I)I"⟩
abbrev b_PS_wire : ByteArray := prog_1_method_8_code
def y_Wir_word : MethodName := ⟨R_Wir, "word", "(I)I"⟩
abbrev b_Wir_word : ByteArray := prog_12_method_2_code
def y_PS_digest : MethodName := ⟨R_PS, "digest", "(II)J"⟩
abbrev b_PS_digest : ByteArray := prog_1_method_9_code
def y_PS_place : MethodName := ⟨R_PS, "place", "(II)I"⟩
abbrev b_PS_place : ByteArray := prog_1_method_10_code
def y_PS_isBalancer : MethodName := ⟨R_PS, "isBalancer", "(I)Z"⟩
abbrev b_PS_isBalancer : ByteArray := prog_1_method_21_code
def y_PS_share : MethodName := ⟨R_PS, "share", "(II)I"⟩
abbrev b_PS_share : ByteArray := prog_1_method_11_code
def y_PS_isServer : MethodName := ⟨R_PS, "isServer", "(I)Z"⟩
abbrev b_PS_isServer : ByteArray := prog_1_method_22_code
def y_Tab_placesOf : MethodName := ⟨R_Tab, "placesOf", "(I)I"⟩
abbrev b_Tab_placesOf : ByteArray := prog_10_method_3_code
def y_PS_moved : MethodName := ⟨R_PS, "moved", "(I)I"⟩
abbrev b_PS_moved : ByteArray := prog_1_method_12_code
def y_PS_live : MethodName := ⟨R_PS, "live", "(IZ)Z"⟩
abbrev b_PS_live : ByteArray := prog_1_method_13_code
def y_Bal_setLive : MethodName := ⟨R_Bal, "setLive", "(Z)Z"⟩
abbrev b_Bal_setLive : ByteArray := prog_2_method_2_code
def y_Slo_releaseAll : MethodName := ⟨R_Slo, "releaseAll", "()V"⟩
abbrev b_Slo_releaseAll : ByteArray := prog_7_method_6_code
def y_PS_power : MethodName := ⟨R_PS, "power", "(IZ)Z"⟩
abbrev b_PS_power : ByteArray := prog_1_method_14_code
def y_Srv_setOn : MethodName := ⟨R_Srv, "setOn", "(Z)Z"⟩
abbrev b_Srv_setOn : ByteArray := prog_6_method_2_code
def y_PS_path : MethodName := ⟨R_PS, "path", "(IIZ)Z"⟩
abbrev b_PS_path : ByteArray := prog_1_method_15_code
def y_Bal_setPath : MethodName := ⟨R_Bal, "setPath", "(IZ)Z"⟩
abbrev b_Bal_setPath : ByteArray := prog_2_method_3_code
def y_PS_probe : MethodName := ⟨R_PS, "probe", "(I)I"⟩
abbrev b_PS_probe : ByteArray := prog_1_method_16_code
def y_Bal_probeAll : MethodName := ⟨R_Bal, "probeAll", "([LPacketSpreader$Server;)I"⟩
abbrev b_Bal_probeAll : ByteArray := prog_2_method_6_code
def y_Wat_observe : MethodName := ⟨R_Wat, "observe", "(IZ)Z"⟩
abbrev b_Wat_observe : ByteArray := prog_11_method_4_code
def y_Ent_removeForServersDown : MethodName := ⟨R_Ent, "removeForServersDown", "(LPacketSpreader$Watch;)V"⟩
abbrev b_Ent_removeForServersDown : ByteArray := prog_4_method_5_code
def y_Tab_fillAnew : MethodName := ⟨R_Tab, "fillAnew", "(LPacketSpreader$Watch;)V"⟩
abbrev b_Tab_fillAnew : ByteArray := prog_10_method_4_code
def y_PS_held : MethodName := ⟨R_PS, "held", "(II)I"⟩
abbrev b_PS_held : ByteArray := prog_1_method_17_code
def y_Wat_stateOf : MethodName := ⟨R_Wat, "stateOf", "(I)I"⟩
abbrev b_Wat_stateOf : ByteArray := prog_11_method_3_code
def y_PS_tick : MethodName := ⟨R_PS, "tick", "(I)Z"⟩
abbrev b_PS_tick : ByteArray := prog_1_method_18_code
def y_Ent_removeStale : MethodName := ⟨R_Ent, "removeStale", "(I)V"⟩
abbrev b_Ent_removeStale : ByteArray := prog_4_method_4_code
def y_PS_entry : MethodName := ⟨R_PS, "entry", "(III)I"⟩
abbrev b_PS_entry : ByteArray := prog_1_method_19_code
def y_PS_load : MethodName := ⟨R_PS, "load", "(II)I"⟩
abbrev b_PS_load : ByteArray := prog_1_method_20_code
def y_Slo_used : MethodName := ⟨R_Slo, "used", "()I"⟩
abbrev b_Slo_used : ByteArray := prog_7_method_2_code
def y_Law_cell : MethodName := ⟨R_Law, "cell", "([II)I"⟩
abbrev b_Law_cell : ByteArray := method_2_code
def y_Mod_init : MethodName := ⟨R_Mod, "<init>", "(IIII)V"⟩
abbrev b_Mod_init : ByteArray := prog_14_method_1_code
def y_Mod_within : MethodName := ⟨R_Mod, "within", "(III)I"⟩
abbrev b_Mod_within : ByteArray := prog_14_method_2_code
def y_Mod_prime : MethodName := ⟨R_Mod, "prime", "(I)Z"⟩
abbrev b_Mod_prime : ByteArray := prog_14_method_3_code
def y_Mod_digestOf : MethodName := ⟨R_Mod, "digestOf", "(J)J"⟩
abbrev b_Mod_digestOf : ByteArray := prog_14_method_14_code
def y_Mod_takeIn : MethodName := ⟨R_Mod, "takeIn", "(J)V"⟩
abbrev b_Mod_takeIn : ByteArray := prog_14_method_13_code
def y_Mod_rounds : MethodName := ⟨R_Mod, "rounds", "(I)V"⟩
abbrev b_Mod_rounds : ByteArray := prog_14_method_12_code
def y_Mod_mix : MethodName := ⟨R_Mod, "mix", "(IIII)V"⟩
abbrev b_Mod_mix : ByteArray := prog_14_method_11_code
def y_Mod_turned : MethodName := ⟨R_Mod, "turned", "(JI)J"⟩
abbrev b_Mod_turned : ByteArray := prog_14_method_10_code
def y_Mod_upper : MethodName := ⟨R_Mod, "upper", "(J)J"⟩
abbrev b_Mod_upper : ByteArray := prog_14_method_4_code
def y_Mod_lower : MethodName := ⟨R_Mod, "lower", "(J)J"⟩
abbrev b_Mod_lower : ByteArray := prog_14_method_5_code
def y_Mod_checksum : MethodName := ⟨R_Mod, "checksum", "(IIIII)I"⟩
abbrev b_Mod_checksum : ByteArray := prog_14_method_8_code
def y_Mod_halves : MethodName := ⟨R_Mod, "halves", "(I)I"⟩
abbrev b_Mod_halves : ByteArray := prog_14_method_6_code
def y_Mod_fold : MethodName := ⟨R_Mod, "fold", "(I)I"⟩
abbrev b_Mod_fold : ByteArray := prog_14_method_7_code
def y_Mod_header : MethodName := ⟨R_Mod, "header", "(IIIII)I"⟩
abbrev b_Mod_header : ByteArray := prog_14_method_9_code
def y_Mod_digest : MethodName := ⟨R_Mod, "digest", "(II)J"⟩
abbrev b_Mod_digest : ByteArray := prog_14_method_15_code
def y_Mod_place : MethodName := ⟨R_Mod, "place", "(II)I"⟩
abbrev b_Mod_place : ByteArray := prog_14_method_21_code
def y_Mod_isBalancer : MethodName := ⟨R_Mod, "isBalancer", "(I)Z"⟩
abbrev b_Mod_isBalancer : ByteArray := prog_14_method_16_code
def y_Mod_deal : MethodName := ⟨R_Mod, "deal", "(I)V"⟩
abbrev b_Mod_deal : ByteArray := prog_14_method_20_code
def y_Mod_ups : MethodName := ⟨R_Mod, "ups", "(I)I"⟩
abbrev b_Mod_ups : ByteArray := prog_14_method_18_code
def y_Mod_wish : MethodName := ⟨R_Mod, "wish", "(I)I"⟩
abbrev b_Mod_wish : ByteArray := prog_14_method_19_code
def y_Mod_share : MethodName := ⟨R_Mod, "share", "(II)I"⟩
abbrev b_Mod_share : ByteArray := prog_14_method_22_code
def y_Mod_isServer : MethodName := ⟨R_Mod, "isServer", "(I)Z"⟩
abbrev b_Mod_isServer : ByteArray := prog_14_method_17_code
def y_Mod_moved : MethodName := ⟨R_Mod, "moved", "(I)I"⟩
abbrev b_Mod_moved : ByteArray := prog_14_method_23_code
def y_Mod_live : MethodName := ⟨R_Mod, "live", "(IZ)Z"⟩
abbrev b_Mod_live : ByteArray := prog_14_method_24_code
def y_Mod_power : MethodName := ⟨R_Mod, "power", "(IZ)Z"⟩
abbrev b_Mod_power : ByteArray := prog_14_method_25_code
def y_Mod_path : MethodName := ⟨R_Mod, "path", "(IIZ)Z"⟩
abbrev b_Mod_path : ByteArray := prog_14_method_26_code
def y_Mod_probe : MethodName := ⟨R_Mod, "probe", "(I)I"⟩
abbrev b_Mod_probe : ByteArray := prog_14_method_29_code
def y_Mod_ask : MethodName := ⟨R_Mod, "ask", "(II)Z"⟩
abbrev b_Mod_ask : ByteArray := prog_14_method_28_code
def y_Mod_meets : MethodName := ⟨R_Mod, "meets", "(II)Z"⟩
abbrev b_Mod_meets : ByteArray := prog_14_method_27_code
def y_Mod_held : MethodName := ⟨R_Mod, "held", "(II)I"⟩
abbrev b_Mod_held : ByteArray := prog_14_method_30_code
def y_Mod_tick : MethodName := ⟨R_Mod, "tick", "(I)Z"⟩
abbrev b_Mod_tick : ByteArray := prog_14_method_31_code
def y_Mod_segment : MethodName := ⟨R_Mod, "segment", "(III)I"⟩
abbrev b_Mod_segment : ByteArray := prog_14_method_35_code
def y_Mod_route : MethodName := ⟨R_Mod, "route", "(J)I"⟩
abbrev b_Mod_route : ByteArray := prog_14_method_34_code
def y_Mod_slot : MethodName := ⟨R_Mod, "slot", "(III)I"⟩
abbrev b_Mod_slot : ByteArray := prog_14_method_32_code
def y_Mod_note : MethodName := ⟨R_Mod, "note", "(IIIII)V"⟩
abbrev b_Mod_note : ByteArray := prog_14_method_36_code
def y_Mod_freeSlot : MethodName := ⟨R_Mod, "freeSlot", "(I)I"⟩
abbrev b_Mod_freeSlot : ByteArray := prog_14_method_33_code
def y_Mod_serve : MethodName := ⟨R_Mod, "serve", "(IIII)I"⟩
abbrev b_Mod_serve : ByteArray := prog_14_method_39_code
def y_Mod_session : MethodName := ⟨R_Mod, "session", "(II)I"⟩
abbrev b_Mod_session : ByteArray := prog_14_method_37_code
def y_Mod_freeSession : MethodName := ⟨R_Mod, "freeSession", "(I)I"⟩
abbrev b_Mod_freeSession : ByteArray := prog_14_method_38_code
def y_Mod_greet : MethodName := ⟨R_Mod, "greet", "(III)I"⟩
abbrev b_Mod_greet : ByteArray := prog_14_method_40_code
def y_Mod_carrier : MethodName := ⟨R_Mod, "carrier", "()I"⟩
abbrev b_Mod_carrier : ByteArray := prog_14_method_41_code
def y_Mod_reply : MethodName := ⟨R_Mod, "reply", "()I"⟩
abbrev b_Mod_reply : ByteArray := prog_14_method_42_code
def y_Mod_taken : MethodName := ⟨R_Mod, "taken", "()I"⟩
abbrev b_Mod_taken : ByteArray := prog_14_method_43_code
def y_Mod_wire : MethodName := ⟨R_Mod, "wire", "(I)I"⟩
abbrev b_Mod_wire : ByteArray := prog_14_method_44_code
def y_Mod_five : MethodName := ⟨R_Mod, "five", "(IIIIII)I"⟩
abbrev b_Mod_five : ByteArray := prog_14_method_45_code
def y_Mod_entry : MethodName := ⟨R_Mod, "entry", "(III)I"⟩
abbrev b_Mod_entry : ByteArray := prog_14_method_46_code
def y_Mod_load : MethodName := ⟨R_Mod, "load", "(II)I"⟩
abbrev b_Mod_load : ByteArray := prog_14_method_47_code
def zAll : List Cond := lw_tbl.filter goodWord
theorem zi {w : Cond} (i : Nat) (h : tables_1[i]? = some w) (hg : goodWord w = true) : w ∈ zAll := List.mem_filter.mpr ⟨List.mem_append_right _ (List.mem_of_getElem? h), hg⟩
theorem zj {w : Cond} (i : Nat) (h : (k2_sels lw_privs)[i]? = some w) (hg : goodWord w = true) : w ∈ zAll := List.mem_filter.mpr ⟨List.mem_append_left _ (List.mem_of_getElem? h), hg⟩
abbrev zT (y : MethodName) (b : ByteArray) (n : Nat) (r : Option FieldType) : List Cond := Cond.code y b n r :: zAll
theorem wz_Law : Cond.initialized R_Law ∈ zAll := zi 0 (by decide +kernel) rfl
theorem wz_PS : Cond.initialized R_PS ∈ zAll := zi 1 (by decide +kernel) rfl
theorem wz_Wir : Cond.initialized R_Wir ∈ zAll := zi 2 (by decide +kernel) rfl
theorem wz_Mth : Cond.initialized "java/lang/Math" ∈ zAll := zi 3 (by decide +kernel) rfl
theorem wz_Dig : Cond.initialized R_Dig ∈ zAll := zi 4 (by decide +kernel) rfl
theorem wz_Srv : Cond.initialized R_Srv ∈ zAll := zi 5 (by decide +kernel) rfl
theorem wz_Slo : Cond.initialized R_Slo ∈ zAll := zi 6 (by decide +kernel) rfl
theorem wz_Stp : Cond.initialized R_Stp ∈ zAll := zi 7 (by decide +kernel) rfl
theorem wz_Lst : Cond.initialized R_Lst ∈ zAll := zi 8 (by decide +kernel) rfl
theorem wz_Bal : Cond.initialized R_Bal ∈ zAll := zi 9 (by decide +kernel) rfl
theorem wz_Ent : Cond.initialized R_Ent ∈ zAll := zi 10 (by decide +kernel) rfl
theorem wz_Wat : Cond.initialized R_Wat ∈ zAll := zi 11 (by decide +kernel) rfl
theorem wz_Tab : Cond.initialized R_Tab ∈ zAll := zi 12 (by decide +kernel) rfl
theorem wz_Arr : Cond.initialized R_Arr ∈ zAll := zi 13 (by decide +kernel) rfl
theorem wz_Mod : Cond.initialized R_Mod ∈ zAll := zi 14 (by decide +kernel) rfl
theorem wz_Sum : Cond.initialized R_Sum ∈ zAll := zi 15 (by decide +kernel) rfl
theorem wx_copy_init : Cond.initialized "java/lang/System" ∈ zAll := zi 16 (by decide +kernel) rfl
theorem wc_Law_7 : Cond.classLink R_Law 7 R_PS ∈ zAll := zi 17 (by decide +kernel) rfl
theorem wn_PS : Cond.instantiable R_PS 11 ∈ zAll := zi 18 (by decide +kernel) rfl
theorem wm_Law_15 : Cond.methodLink R_Law 15 y_PS_init ∈ zAll := zi 19 (by decide +kernel) rfl
theorem wi_PS_init : Cond.instanceMethod y_PS_init ∈ zAll := zi 20 (by decide +kernel) rfl
theorem wb_PS_init : Cond.code y_PS_init b_PS_init 9 none ∈ zAll := zi 21 (by decide +kernel) rfl
theorem wm_PS_1 : Cond.methodLink R_PS 1 objectInit ∈ zAll := zi 22 (by decide +kernel) rfl
theorem wx_oi_inst : Cond.instanceMethod objectInit ∈ zAll := zi 23 (by decide +kernel) rfl
theorem wx_oi_code : Cond.code objectInit object_method_1_code 1 none ∈ zAll := zi 24 (by decide +kernel) rfl
theorem wc_PS_13 : Cond.classLink R_PS 13 R_Wir ∈ zAll := zi 25 (by decide +kernel) rfl
theorem wn_Wir : Cond.instantiable R_Wir 1 ∈ zAll := zi 26 (by decide +kernel) rfl
theorem wi_Wir_init : Cond.instanceMethod y_Wir_init ∈ zAll := zi 28 (by decide +kernel) rfl
theorem wb_Wir_init : Cond.code y_Wir_init b_Wir_init 1 none ∈ zAll := zi 29 (by decide +kernel) rfl
theorem wm_Wir_3 : Cond.methodLink R_Wir 3 objectInit ∈ zAll := zi 30 (by decide +kernel) rfl
theorem wf_Wir_11 : Cond.fieldLink R_Wir 11 "PacketSpreader$Wire" "words" "[I" ∈ zAll := zi 31 (by decide +kernel) rfl
theorem wm_PS_30 : Cond.methodLink R_PS 30 y_PS_clamp ∈ zAll := zi 36 (by decide +kernel) rfl
theorem wt_PS_clamp : Cond.static y_PS_clamp ∈ zAll := zi 37 (by decide +kernel) rfl
theorem wb_PS_clamp : Cond.code y_PS_clamp b_PS_clamp 3 (some .int) ∈ zAll := zi 38 (by decide +kernel) rfl
theorem wm_PS_233 : Cond.methodLink R_PS 233 ⟨"java/lang/Math", "min", "(II)I"⟩ ∈ zAll := zi 39 (by decide +kernel) rfl
theorem wx_min_static : Cond.static ⟨"java/lang/Math", "min", "(II)I"⟩ ∈ zAll := zi 40 (by decide +kernel) rfl
theorem wx_min_code : Cond.code ⟨"java/lang/Math", "min", "(II)I"⟩ prog_15_method_69_code 2 (some .int) ∈ zAll := zi 41 (by decide +kernel) rfl
theorem wm_PS_238 : Cond.methodLink R_PS 238 ⟨"java/lang/Math", "max", "(II)I"⟩ ∈ zAll := zi 42 (by decide +kernel) rfl
theorem wx_max_static : Cond.static ⟨"java/lang/Math", "max", "(II)I"⟩ ∈ zAll := zi 43 (by decide +kernel) rfl
theorem wx_max_code : Cond.code ⟨"java/lang/Math", "max", "(II)I"⟩ prog_15_method_65_code 2 (some .int) ∈ zAll := zi 44 (by decide +kernel) rfl
theorem wm_PS_34 : Cond.methodLink R_PS 34 y_PS_primeFrom ∈ zAll := zi 45 (by decide +kernel) rfl
theorem wt_PS_primeFrom : Cond.static y_PS_primeFrom ∈ zAll := zi 46 (by decide +kernel) rfl
theorem wb_PS_primeFrom : Cond.code y_PS_primeFrom b_PS_primeFrom 2 (some .int) ∈ zAll := zi 47 (by decide +kernel) rfl
theorem wm_PS_241 : Cond.methodLink R_PS 241 y_PS_isPrime ∈ zAll := zi 48 (by decide +kernel) rfl
theorem wt_PS_isPrime : Cond.static y_PS_isPrime ∈ zAll := zi 49 (by decide +kernel) rfl
theorem wb_PS_isPrime : Cond.code y_PS_isPrime b_PS_isPrime 2 (some .boolean) ∈ zAll := zi 50 (by decide +kernel) rfl
theorem wc_PS_41 : Cond.classLink R_PS 41 R_Dig ∈ zAll := zi 51 (by decide +kernel) rfl
theorem wn_Dig : Cond.instantiable R_Dig 6 ∈ zAll := zi 52 (by decide +kernel) rfl
theorem wk_PS_43 : Cond.constantLong R_PS 43 (1084818905618843912) ∈ zAll := zi 53 (by decide +kernel) rfl
theorem wm_PS_45 : Cond.methodLink R_PS 45 y_Dig_init ∈ zAll := zi 54 (by decide +kernel) rfl
theorem wi_Dig_init : Cond.instanceMethod y_Dig_init ∈ zAll := zi 55 (by decide +kernel) rfl
theorem wb_Dig_init : Cond.code y_Dig_init b_Dig_init 5 none ∈ zAll := zi 56 (by decide +kernel) rfl
theorem wm_Dig_1 : Cond.methodLink R_Dig 1 objectInit ∈ zAll := zi 57 (by decide +kernel) rfl
theorem wf_Dig_7 : Cond.fieldLink R_Dig 7 "PacketSpreader$Digester" "k0" "J" ∈ zAll := zi 58 (by decide +kernel) rfl
theorem wf_Dig_13 : Cond.fieldLink R_Dig 13 "PacketSpreader$Digester" "k1" "J" ∈ zAll := zi 59 (by decide +kernel) rfl
theorem wf_Dig_18 : Cond.fieldLink R_Dig 18 "PacketSpreader$Digester" "a" "J" ∈ zAll := zi 60 (by decide +kernel) rfl
theorem wf_Dig_23 : Cond.fieldLink R_Dig 23 "PacketSpreader$Digester" "b" "J" ∈ zAll := zi 61 (by decide +kernel) rfl
theorem wf_Dig_28 : Cond.fieldLink R_Dig 28 "PacketSpreader$Digester" "c" "J" ∈ zAll := zi 62 (by decide +kernel) rfl
theorem wf_Dig_33 : Cond.fieldLink R_Dig 33 "PacketSpreader$Digester" "d" "J" ∈ zAll := zi 63 (by decide +kernel) rfl
theorem wc_PS_52 : Cond.classLink R_PS 52 R_Srv ∈ zAll := zi 77 (by decide +kernel) rfl
theorem wn_Srv : Cond.instantiable R_Srv 6 ∈ zAll := zi 79 (by decide +kernel) rfl
theorem wi_Srv_init : Cond.instanceMethod y_Srv_init ∈ zAll := zi 81 (by decide +kernel) rfl
theorem wb_Srv_init : Cond.code y_Srv_init b_Srv_init 1 none ∈ zAll := zi 82 (by decide +kernel) rfl
theorem wm_Srv_3 : Cond.methodLink R_Srv 3 objectInit ∈ zAll := zi 83 (by decide +kernel) rfl
theorem wc_Srv_9 : Cond.classLink R_Srv 9 R_Slo ∈ zAll := zi 84 (by decide +kernel) rfl
theorem wn_Slo : Cond.instantiable R_Slo 4 ∈ zAll := zi 85 (by decide +kernel) rfl
theorem wm_Srv_13 : Cond.methodLink R_Srv 13 y_Slo_init ∈ zAll := zi 86 (by decide +kernel) rfl
theorem wi_Slo_init : Cond.instanceMethod y_Slo_init ∈ zAll := zi 87 (by decide +kernel) rfl
theorem wb_Slo_init : Cond.code y_Slo_init b_Slo_init 2 none ∈ zAll := zi 88 (by decide +kernel) rfl
theorem wm_Slo_3 : Cond.methodLink R_Slo 3 objectInit ∈ zAll := zi 89 (by decide +kernel) rfl
theorem wf_Slo_9 : Cond.fieldLink R_Slo 9 "PacketSpreader$Slots" "sources" "[I" ∈ zAll := zi 90 (by decide +kernel) rfl
theorem wf_Slo_15 : Cond.fieldLink R_Slo 15 "PacketSpreader$Slots" "ports" "[I" ∈ zAll := zi 91 (by decide +kernel) rfl
theorem wf_Slo_18 : Cond.fieldLink R_Slo 18 "PacketSpreader$Slots" "inUse" "[Z" ∈ zAll := zi 92 (by decide +kernel) rfl
theorem wf_Slo_22 : Cond.fieldLink R_Slo 22 "PacketSpreader$Slots" "count" "I" ∈ zAll := zi 93 (by decide +kernel) rfl
theorem wc_Srv_20 : Cond.classLink R_Srv 20 R_Stp ∈ zAll := zi 104 (by decide +kernel) rfl
theorem wn_Stp : Cond.instantiable R_Stp 1 ∈ zAll := zi 105 (by decide +kernel) rfl
theorem wm_Srv_22 : Cond.methodLink R_Srv 22 y_Stp_init ∈ zAll := zi 106 (by decide +kernel) rfl
theorem wi_Stp_init : Cond.instanceMethod y_Stp_init ∈ zAll := zi 107 (by decide +kernel) rfl
theorem wb_Stp_init : Cond.code y_Stp_init b_Stp_init 2 none ∈ zAll := zi 108 (by decide +kernel) rfl
theorem wm_Stp_3 : Cond.methodLink R_Stp 3 objectInit ∈ zAll := zi 109 (by decide +kernel) rfl
theorem wf_Stp_9 : Cond.fieldLink R_Stp 9 "PacketSpreader$Stamp" "following" "I" ∈ zAll := zi 110 (by decide +kernel) rfl
theorem wf_Srv_16 : Cond.fieldLink R_Srv 16 "PacketSpreader$Server" "slots" "LPacketSpreader$Slots;" ∈ zAll := zi 114 (by decide +kernel) rfl
theorem wf_PS_193 : Cond.fieldLink R_PS 193 "PacketSpreader$Server" "slots" "LPacketSpreader$Slots;" ∈ zAll := zi 115 (by decide +kernel) rfl
theorem wf_Srv_23 : Cond.fieldLink R_Srv 23 "PacketSpreader$Server" "stamp" "LPacketSpreader$Stamp;" ∈ zAll := zi 116 (by decide +kernel) rfl
theorem wf_PS_223 : Cond.fieldLink R_PS 223 "PacketSpreader$Server" "stamp" "LPacketSpreader$Stamp;" ∈ zAll := zi 117 (by decide +kernel) rfl
theorem wf_Srv_27 : Cond.fieldLink R_Srv 27 "PacketSpreader$Server" "isOn" "Z" ∈ zAll := zi 118 (by decide +kernel) rfl
theorem wf_Bal_65 : Cond.fieldLink R_Bal 65 "PacketSpreader$Server" "isOn" "Z" ∈ zAll := zi 119 (by decide +kernel) rfl
theorem wf_Srv_41 : Cond.fieldLink R_Srv 41 "PacketSpreader$Server" "takenAtReply" "I" ∈ zAll := zi 120 (by decide +kernel) rfl
theorem wf_PS_204 : Cond.fieldLink R_PS 204 "PacketSpreader$Server" "takenAtReply" "I" ∈ zAll := zi 121 (by decide +kernel) rfl
theorem wf_Srv_31 : Cond.fieldLink R_Srv 31 "PacketSpreader$Server" "nextNumber" "[I" ∈ zAll := zi 122 (by decide +kernel) rfl
theorem wf_Srv_35 : Cond.fieldLink R_Srv 35 "PacketSpreader$Server" "dataTaken" "[I" ∈ zAll := zi 123 (by decide +kernel) rfl
theorem wc_PS_59 : Cond.classLink R_PS 59 R_Lst ∈ zAll := zi 137 (by decide +kernel) rfl
theorem wn_Lst : Cond.instantiable R_Lst 3 ∈ zAll := zi 138 (by decide +kernel) rfl
theorem wm_PS_61 : Cond.methodLink R_PS 61 y_Lst_init ∈ zAll := zi 139 (by decide +kernel) rfl
theorem wi_Lst_init : Cond.instanceMethod y_Lst_init ∈ zAll := zi 140 (by decide +kernel) rfl
theorem wb_Lst_init : Cond.code y_Lst_init b_Lst_init 7 none ∈ zAll := zi 141 (by decide +kernel) rfl
theorem wm_Lst_3 : Cond.methodLink R_Lst 3 objectInit ∈ zAll := zi 142 (by decide +kernel) rfl
theorem wm_Lst_22 : Cond.methodLink R_Lst 22 y_Dig_digestOf ∈ zAll := zi 143 (by decide +kernel) rfl
theorem wi_Dig_digestOf : Cond.instanceMethod y_Dig_digestOf ∈ zAll := zi 144 (by decide +kernel) rfl
theorem we_Dig_digestOf : Cond.selects R_Dig y_Dig_digestOf y_Dig_digestOf ∈ zAll := zi 145 (by decide +kernel) rfl
theorem wb_Dig_digestOf : Cond.code y_Dig_digestOf b_Dig_digestOf 4 (some .long) ∈ zAll := zi 146 (by decide +kernel) rfl
theorem wk_Dig_16 : Cond.constantLong R_Dig 16 (8317987319222330741) ∈ zAll := zi 147 (by decide +kernel) rfl
theorem wk_Dig_21 : Cond.constantLong R_Dig 21 (7237128888997146477) ∈ zAll := zi 148 (by decide +kernel) rfl
theorem wk_Dig_26 : Cond.constantLong R_Dig 26 (7816392313619706465) ∈ zAll := zi 149 (by decide +kernel) rfl
theorem wk_Dig_31 : Cond.constantLong R_Dig 31 (8387220255154660723) ∈ zAll := zi 150 (by decide +kernel) rfl
theorem wm_Dig_36 : Cond.methodLink R_Dig 36 y_Dig_takeIn ∈ zAll := zi 151 (by decide +kernel) rfl
theorem wi_Dig_takeIn : Cond.instanceMethod y_Dig_takeIn ∈ zAll := zi 153 (by decide +kernel) rfl
theorem wb_Dig_takeIn : Cond.code y_Dig_takeIn b_Dig_takeIn 3 none ∈ zAll := zi 154 (by decide +kernel) rfl
theorem wm_Dig_44 : Cond.methodLink R_Dig 44 y_Dig_round ∈ zAll := zi 155 (by decide +kernel) rfl
theorem wi_Dig_round : Cond.instanceMethod y_Dig_round ∈ zAll := zi 157 (by decide +kernel) rfl
theorem wb_Dig_round : Cond.code y_Dig_round b_Dig_round 1 none ∈ zAll := zi 158 (by decide +kernel) rfl
theorem wm_Dig_47 : Cond.methodLink R_Dig 47 y_Dig_turnedLeft ∈ zAll := zi 159 (by decide +kernel) rfl
theorem wt_Dig_turnedLeft : Cond.static y_Dig_turnedLeft ∈ zAll := zi 160 (by decide +kernel) rfl
theorem wb_Dig_turnedLeft : Cond.code y_Dig_turnedLeft b_Dig_turnedLeft 3 (some .long) ∈ zAll := zi 161 (by decide +kernel) rfl
theorem wk_Dig_40 : Cond.constantLong R_Dig 40 (576460752303423488) ∈ zAll := zi 162 (by decide +kernel) rfl
theorem wk_Dig_42 : Cond.constantLong R_Dig 42 (255) ∈ zAll := zi 163 (by decide +kernel) rfl
theorem wk_Lst_28 : Cond.constantLong R_Lst 28 (4294967295) ∈ zAll := zi 164 (by decide +kernel) rfl
theorem wf_Lst_9 : Cond.fieldLink R_Lst 9 "PacketSpreader$Lists" "size" "I" ∈ zAll := zi 165 (by decide +kernel) rfl
theorem wf_Tab_15 : Cond.fieldLink R_Tab 15 "PacketSpreader$Lists" "size" "I" ∈ zAll := zi 166 (by decide +kernel) rfl
theorem wf_Lst_15 : Cond.fieldLink R_Lst 15 "PacketSpreader$Lists" "first" "[I" ∈ zAll := zi 167 (by decide +kernel) rfl
theorem wf_Lst_19 : Cond.fieldLink R_Lst 19 "PacketSpreader$Lists" "step" "[I" ∈ zAll := zi 168 (by decide +kernel) rfl
theorem wc_PS_64 : Cond.classLink R_PS 64 R_Bal ∈ zAll := zi 176 (by decide +kernel) rfl
theorem wn_Bal : Cond.instantiable R_Bal 6 ∈ zAll := zi 178 (by decide +kernel) rfl
theorem wm_PS_70 : Cond.methodLink R_PS 70 y_Bal_init ∈ zAll := zi 179 (by decide +kernel) rfl
theorem wi_Bal_init : Cond.instanceMethod y_Bal_init ∈ zAll := zi 180 (by decide +kernel) rfl
theorem wb_Bal_init : Cond.code y_Bal_init b_Bal_init 3 none ∈ zAll := zi 181 (by decide +kernel) rfl
theorem wm_Bal_3 : Cond.methodLink R_Bal 3 objectInit ∈ zAll := zi 182 (by decide +kernel) rfl
theorem wc_Bal_9 : Cond.classLink R_Bal 9 R_Ent ∈ zAll := zi 183 (by decide +kernel) rfl
theorem wn_Ent : Cond.instantiable R_Ent 4 ∈ zAll := zi 184 (by decide +kernel) rfl
theorem wi_Ent_init : Cond.instanceMethod y_Ent_init ∈ zAll := zi 186 (by decide +kernel) rfl
theorem wb_Ent_init : Cond.code y_Ent_init b_Ent_init 1 none ∈ zAll := zi 187 (by decide +kernel) rfl
theorem wm_Ent_3 : Cond.methodLink R_Ent 3 objectInit ∈ zAll := zi 188 (by decide +kernel) rfl
theorem wc_Ent_9 : Cond.classLink R_Ent 9 R_Slo ∈ zAll := zi 189 (by decide +kernel) rfl
theorem wm_Ent_13 : Cond.methodLink R_Ent 13 y_Slo_init ∈ zAll := zi 190 (by decide +kernel) rfl
theorem wf_Ent_16 : Cond.fieldLink R_Ent 16 "PacketSpreader$Entries" "slots" "LPacketSpreader$Slots;" ∈ zAll := zi 191 (by decide +kernel) rfl
theorem wf_Bal_56 : Cond.fieldLink R_Bal 56 "PacketSpreader$Entries" "slots" "LPacketSpreader$Slots;" ∈ zAll := zi 192 (by decide +kernel) rfl
theorem wf_PS_183 : Cond.fieldLink R_PS 183 "PacketSpreader$Entries" "slots" "LPacketSpreader$Slots;" ∈ zAll := zi 193 (by decide +kernel) rfl
theorem wf_Ent_20 : Cond.fieldLink R_Ent 20 "PacketSpreader$Entries" "servers" "[I" ∈ zAll := zi 194 (by decide +kernel) rfl
theorem wf_Ent_24 : Cond.fieldLink R_Ent 24 "PacketSpreader$Entries" "patience" "[I" ∈ zAll := zi 195 (by decide +kernel) rfl
theorem wf_Ent_27 : Cond.fieldLink R_Ent 27 "PacketSpreader$Entries" "latestUse" "[I" ∈ zAll := zi 196 (by decide +kernel) rfl
theorem wc_Bal_18 : Cond.classLink R_Bal 18 R_Stp ∈ zAll := zi 206 (by decide +kernel) rfl
theorem wk_Bal_20 : Cond.constant R_Bal 20 (65530) ∈ zAll := zi 207 (by decide +kernel) rfl
theorem wm_Bal_21 : Cond.methodLink R_Bal 21 y_Stp_init ∈ zAll := zi 208 (by decide +kernel) rfl
theorem wc_Bal_32 : Cond.classLink R_Bal 32 R_Wat ∈ zAll := zi 209 (by decide +kernel) rfl
theorem wn_Wat : Cond.instantiable R_Wat 2 ∈ zAll := zi 210 (by decide +kernel) rfl
theorem wm_Bal_34 : Cond.methodLink R_Bal 34 y_Wat_init ∈ zAll := zi 211 (by decide +kernel) rfl
theorem wi_Wat_init : Cond.instanceMethod y_Wat_init ∈ zAll := zi 212 (by decide +kernel) rfl
theorem wb_Wat_init : Cond.code y_Wat_init b_Wat_init 3 none ∈ zAll := zi 213 (by decide +kernel) rfl
theorem wm_Wat_1 : Cond.methodLink R_Wat 1 objectInit ∈ zAll := zi 214 (by decide +kernel) rfl
theorem wf_Wat_7 : Cond.fieldLink R_Wat 7 "PacketSpreader$Watch" "up" "[Z" ∈ zAll := zi 215 (by decide +kernel) rfl
theorem wf_Wat_13 : Cond.fieldLink R_Wat 13 "PacketSpreader$Watch" "contrary" "[I" ∈ zAll := zi 216 (by decide +kernel) rfl
theorem wc_Bal_39 : Cond.classLink R_Bal 39 R_Tab ∈ zAll := zi 222 (by decide +kernel) rfl
theorem wn_Tab : Cond.instantiable R_Tab 5 ∈ zAll := zi 223 (by decide +kernel) rfl
theorem wm_Bal_41 : Cond.methodLink R_Bal 41 y_Tab_init ∈ zAll := zi 224 (by decide +kernel) rfl
theorem wi_Tab_init : Cond.instanceMethod y_Tab_init ∈ zAll := zi 225 (by decide +kernel) rfl
theorem wb_Tab_init : Cond.code y_Tab_init b_Tab_init 3 none ∈ zAll := zi 226 (by decide +kernel) rfl
theorem wm_Tab_3 : Cond.methodLink R_Tab 3 objectInit ∈ zAll := zi 227 (by decide +kernel) rfl
theorem wf_Tab_41 : Cond.fieldLink R_Tab 41 "PacketSpreader$Table" "changes" "I" ∈ zAll := zi 228 (by decide +kernel) rfl
theorem wf_PS_145 : Cond.fieldLink R_PS 145 "PacketSpreader$Table" "changes" "I" ∈ zAll := zi 229 (by decide +kernel) rfl
theorem wf_Tab_9 : Cond.fieldLink R_Tab 9 "PacketSpreader$Table" "lists" "LPacketSpreader$Lists;" ∈ zAll := zi 230 (by decide +kernel) rfl
theorem wf_Tab_21 : Cond.fieldLink R_Tab 21 "PacketSpreader$Table" "owners" "[I" ∈ zAll := zi 231 (by decide +kernel) rfl
theorem wf_Tab_25 : Cond.fieldLink R_Tab 25 "PacketSpreader$Table" "ownersBefore" "[I" ∈ zAll := zi 232 (by decide +kernel) rfl
theorem wf_Tab_28 : Cond.fieldLink R_Tab 28 "PacketSpreader$Table" "nextInList" "[I" ∈ zAll := zi 233 (by decide +kernel) rfl
theorem wm_Bal_52 : Cond.methodLink R_Bal 52 y_Tab_fill ∈ zAll := zi 245 (by decide +kernel) rfl
theorem wi_Tab_fill : Cond.instanceMethod y_Tab_fill ∈ zAll := zi 246 (by decide +kernel) rfl
theorem we_Tab_fill : Cond.selects R_Tab y_Tab_fill y_Tab_fill ∈ zAll := zi 247 (by decide +kernel) rfl
theorem wb_Tab_fill : Cond.code y_Tab_fill b_Tab_fill 5 none ∈ zAll := zi 248 (by decide +kernel) rfl
theorem wm_Tab_44 : Cond.methodLink R_Tab 44 y_Arr_fill ∈ zAll := zi 249 (by decide +kernel) rfl
theorem wt_Arr_fill : Cond.static y_Arr_fill ∈ zAll := zi 250 (by decide +kernel) rfl
theorem wb_Arr_fill : Cond.code y_Arr_fill b_Arr_fill 4 none ∈ zAll := zi 251 (by decide +kernel) rfl
theorem wm_Tab_49 : Cond.methodLink R_Tab 49 y_Wat_isUp ∈ zAll := zi 252 (by decide +kernel) rfl
theorem wi_Wat_isUp : Cond.instanceMethod y_Wat_isUp ∈ zAll := zi 253 (by decide +kernel) rfl
theorem we_Wat_isUp : Cond.selects R_Wat y_Wat_isUp y_Wat_isUp ∈ zAll := zi 254 (by decide +kernel) rfl
theorem wb_Wat_isUp : Cond.code y_Wat_isUp b_Wat_isUp 2 (some .boolean) ∈ zAll := zi 255 (by decide +kernel) rfl
theorem wm_Tab_55 : Cond.methodLink R_Tab 55 y_Tab_takeFirstFree ∈ zAll := zi 256 (by decide +kernel) rfl
theorem wi_Tab_takeFirstFree : Cond.instanceMethod y_Tab_takeFirstFree ∈ zAll := zi 258 (by decide +kernel) rfl
theorem wb_Tab_takeFirstFree : Cond.code y_Tab_takeFirstFree b_Tab_takeFirstFree 3 (some .int) ∈ zAll := zi 259 (by decide +kernel) rfl
theorem wm_Tab_59 : Cond.methodLink R_Tab 59 y_Lst_placeAt ∈ zAll := zi 260 (by decide +kernel) rfl
theorem wi_Lst_placeAt : Cond.instanceMethod y_Lst_placeAt ∈ zAll := zi 261 (by decide +kernel) rfl
theorem we_Lst_placeAt : Cond.selects R_Lst y_Lst_placeAt y_Lst_placeAt ∈ zAll := zi 262 (by decide +kernel) rfl
theorem wb_Lst_placeAt : Cond.code y_Lst_placeAt b_Lst_placeAt 3 (some .int) ∈ zAll := zi 263 (by decide +kernel) rfl
theorem wf_Bal_35 : Cond.fieldLink R_Bal 35 "PacketSpreader$Balancer" "watch" "LPacketSpreader$Watch;" ∈ zAll := zi 264 (by decide +kernel) rfl
theorem wf_PS_166 : Cond.fieldLink R_PS 166 "PacketSpreader$Balancer" "watch" "LPacketSpreader$Watch;" ∈ zAll := zi 265 (by decide +kernel) rfl
theorem wf_Bal_44 : Cond.fieldLink R_Bal 44 "PacketSpreader$Balancer" "table" "LPacketSpreader$Table;" ∈ zAll := zi 266 (by decide +kernel) rfl
theorem wf_PS_130 : Cond.fieldLink R_PS 130 "PacketSpreader$Balancer" "table" "LPacketSpreader$Table;" ∈ zAll := zi 267 (by decide +kernel) rfl
theorem wf_Bal_12 : Cond.fieldLink R_Bal 12 "PacketSpreader$Balancer" "entries" "LPacketSpreader$Entries;" ∈ zAll := zi 268 (by decide +kernel) rfl
theorem wf_PS_108 : Cond.fieldLink R_PS 108 "PacketSpreader$Balancer" "entries" "LPacketSpreader$Entries;" ∈ zAll := zi 269 (by decide +kernel) rfl
theorem wf_Bal_24 : Cond.fieldLink R_Bal 24 "PacketSpreader$Balancer" "stamp" "LPacketSpreader$Stamp;" ∈ zAll := zi 270 (by decide +kernel) rfl
theorem wf_PS_207 : Cond.fieldLink R_PS 207 "PacketSpreader$Balancer" "stamp" "LPacketSpreader$Stamp;" ∈ zAll := zi 271 (by decide +kernel) rfl
theorem wf_Bal_28 : Cond.fieldLink R_Bal 28 "PacketSpreader$Balancer" "isLive" "Z" ∈ zAll := zi 272 (by decide +kernel) rfl
theorem wf_PS_159 : Cond.fieldLink R_PS 159 "PacketSpreader$Balancer" "isLive" "Z" ∈ zAll := zi 273 (by decide +kernel) rfl
theorem wf_Bal_48 : Cond.fieldLink R_Bal 48 "PacketSpreader$Balancer" "cut" "[Z" ∈ zAll := zi 274 (by decide +kernel) rfl
theorem wf_PS_48 : Cond.fieldLink R_PS 48 "PacketSpreader" "digester" "LPacketSpreader$Digester;" ∈ zAll := zi 288 (by decide +kernel) rfl
theorem wf_PS_66 : Cond.fieldLink R_PS 66 "PacketSpreader" "balancers" "[LPacketSpreader$Balancer;" ∈ zAll := zi 289 (by decide +kernel) rfl
theorem wf_PS_54 : Cond.fieldLink R_PS 54 "PacketSpreader" "servers" "[LPacketSpreader$Server;" ∈ zAll := zi 290 (by decide +kernel) rfl
theorem wf_PS_38 : Cond.fieldLink R_PS 38 "PacketSpreader" "size" "I" ∈ zAll := zi 291 (by decide +kernel) rfl
theorem wf_PS_7 : Cond.fieldLink R_PS 7 "PacketSpreader" "kept" "[I" ∈ zAll := zi 292 (by decide +kernel) rfl
theorem wf_PS_16 : Cond.fieldLink R_PS 16 "PacketSpreader" "latestWire" "LPacketSpreader$Wire;" ∈ zAll := zi 293 (by decide +kernel) rfl
theorem wf_PS_82 : Cond.fieldLink R_PS 82 "PacketSpreader" "headerKept" "Z" ∈ zAll := zi 294 (by decide +kernel) rfl
theorem wf_PS_20 : Cond.fieldLink R_PS 20 "PacketSpreader" "latestCarrier" "I" ∈ zAll := zi 295 (by decide +kernel) rfl
theorem wf_PS_24 : Cond.fieldLink R_PS 24 "PacketSpreader" "latestReply" "I" ∈ zAll := zi 296 (by decide +kernel) rfl
theorem wf_PS_27 : Cond.fieldLink R_PS 27 "PacketSpreader" "latestTaken" "I" ∈ zAll := zi 297 (by decide +kernel) rfl
theorem wf_PS_112 : Cond.fieldLink R_PS 112 "PacketSpreader" "time" "I" ∈ zAll := zi 298 (by decide +kernel) rfl
theorem wm_Law_21 : Cond.methodLink R_Law 21 y_PS_checksum ∈ zAll := zi 322 (by decide +kernel) rfl
theorem wi_PS_checksum : Cond.instanceMethod y_PS_checksum ∈ zAll := zi 323 (by decide +kernel) rfl
theorem we_PS_checksum : Cond.selects R_PS y_PS_checksum y_PS_checksum ∈ zAll := zi 324 (by decide +kernel) rfl
theorem wb_PS_checksum : Cond.code y_PS_checksum b_PS_checksum 6 (some .int) ∈ zAll := zi 325 (by decide +kernel) rfl
theorem wm_PS_73 : Cond.methodLink R_PS 73 y_Sum_rightChecksum ∈ zAll := zi 326 (by decide +kernel) rfl
theorem wt_Sum_rightChecksum : Cond.static y_Sum_rightChecksum ∈ zAll := zi 327 (by decide +kernel) rfl
theorem wb_Sum_rightChecksum : Cond.code y_Sum_rightChecksum b_Sum_rightChecksum 5 (some .int) ∈ zAll := zi 328 (by decide +kernel) rfl
theorem wk_Sum_11 : Cond.constant R_Sum 11 (65535) ∈ zAll := zi 329 (by decide +kernel) rfl
theorem wk_Sum_12 : Cond.constant R_Sum 12 (-65536) ∈ zAll := zi 330 (by decide +kernel) rfl
theorem wm_Sum_13 : Cond.methodLink R_Sum 13 y_Sum_sumOf ∈ zAll := zi 331 (by decide +kernel) rfl
theorem wt_Sum_sumOf : Cond.static y_Sum_sumOf ∈ zAll := zi 332 (by decide +kernel) rfl
theorem wb_Sum_sumOf : Cond.code y_Sum_sumOf b_Sum_sumOf 6 (some .int) ∈ zAll := zi 333 (by decide +kernel) rfl
theorem wm_Sum_17 : Cond.methodLink R_Sum 17 y_Sum_halves ∈ zAll := zi 334 (by decide +kernel) rfl
theorem wt_Sum_halves : Cond.static y_Sum_halves ∈ zAll := zi 335 (by decide +kernel) rfl
theorem wb_Sum_halves : Cond.code y_Sum_halves b_Sum_halves 1 (some .int) ∈ zAll := zi 336 (by decide +kernel) rfl
theorem wm_Sum_21 : Cond.methodLink R_Sum 21 y_Sum_fold ∈ zAll := zi 337 (by decide +kernel) rfl
theorem wt_Sum_fold : Cond.static y_Sum_fold ∈ zAll := zi 338 (by decide +kernel) rfl
theorem wb_Sum_fold : Cond.code y_Sum_fold b_Sum_fold 1 (some .int) ∈ zAll := zi 339 (by decide +kernel) rfl
theorem wm_Law_26 : Cond.methodLink R_Law 26 y_PS_header ∈ zAll := zi 340 (by decide +kernel) rfl
theorem wi_PS_header : Cond.instanceMethod y_PS_header ∈ zAll := zi 341 (by decide +kernel) rfl
theorem we_PS_header : Cond.selects R_PS y_PS_header y_PS_header ∈ zAll := zi 342 (by decide +kernel) rfl
theorem wb_PS_header : Cond.code y_PS_header b_PS_header 7 (some .int) ∈ zAll := zi 343 (by decide +kernel) rfl
theorem wm_PS_79 : Cond.methodLink R_PS 79 y_PS_faultOf ∈ zAll := zi 344 (by decide +kernel) rfl
theorem wt_PS_faultOf : Cond.static y_PS_faultOf ∈ zAll := zi 345 (by decide +kernel) rfl
theorem wb_PS_faultOf : Cond.code y_PS_faultOf b_PS_faultOf 6 (some .int) ∈ zAll := zi 346 (by decide +kernel) rfl
theorem wm_PS_228 : Cond.methodLink R_PS 228 y_Sum_sumOf ∈ zAll := zi 347 (by decide +kernel) rfl
theorem wk_PS_231 : Cond.constant R_PS 231 (65535) ∈ zAll := zi 348 (by decide +kernel) rfl
theorem wk_PS_232 : Cond.constant R_PS 232 (167772161) ∈ zAll := zi 349 (by decide +kernel) rfl
theorem wm_Law_30 : Cond.methodLink R_Law 30 y_PS_segment ∈ zAll := zi 350 (by decide +kernel) rfl
theorem wi_PS_segment : Cond.instanceMethod y_PS_segment ∈ zAll := zi 351 (by decide +kernel) rfl
theorem we_PS_segment : Cond.selects R_PS y_PS_segment y_PS_segment ∈ zAll := zi 352 (by decide +kernel) rfl
theorem wb_PS_segment : Cond.code y_PS_segment b_PS_segment 9 (some .int) ∈ zAll := zi 353 (by decide +kernel) rfl
theorem wm_PS_86 : Cond.methodLink R_PS 86 y_PS_isKind ∈ zAll := zi 354 (by decide +kernel) rfl
theorem wt_PS_isKind : Cond.static y_PS_isKind ∈ zAll := zi 355 (by decide +kernel) rfl
theorem wb_PS_isKind : Cond.code y_PS_isKind b_PS_isKind 1 (some .boolean) ∈ zAll := zi 356 (by decide +kernel) rfl
theorem wm_PS_90 : Cond.methodLink R_PS 90 y_PS_joined ∈ zAll := zi 357 (by decide +kernel) rfl
theorem wt_PS_joined : Cond.static y_PS_joined ∈ zAll := zi 358 (by decide +kernel) rfl
theorem wb_PS_joined : Cond.code y_PS_joined b_PS_joined 2 (some .long) ∈ zAll := zi 359 (by decide +kernel) rfl
theorem wk_PS_194 : Cond.constantLong R_PS 194 (4294967295) ∈ zAll := zi 360 (by decide +kernel) rfl
theorem wm_PS_94 : Cond.methodLink R_PS 94 y_Dig_digestOf ∈ zAll := zi 361 (by decide +kernel) rfl
theorem wm_PS_98 : Cond.methodLink R_PS 98 y_PS_route ∈ zAll := zi 362 (by decide +kernel) rfl
theorem wi_PS_route : Cond.instanceMethod y_PS_route ∈ zAll := zi 364 (by decide +kernel) rfl
theorem wb_PS_route : Cond.code y_PS_route b_PS_route 6 (some .int) ∈ zAll := zi 365 (by decide +kernel) rfl
theorem wm_PS_102 : Cond.methodLink R_PS 102 y_PS_placeOf ∈ zAll := zi 366 (by decide +kernel) rfl
theorem wi_PS_placeOf : Cond.instanceMethod y_PS_placeOf ∈ zAll := zi 368 (by decide +kernel) rfl
theorem wb_PS_placeOf : Cond.code y_PS_placeOf b_PS_placeOf 3 (some .int) ∈ zAll := zi 369 (by decide +kernel) rfl
theorem wm_PS_105 : Cond.methodLink R_PS 105 y_Bal_serverFor ∈ zAll := zi 370 (by decide +kernel) rfl
theorem wi_Bal_serverFor : Cond.instanceMethod y_Bal_serverFor ∈ zAll := zi 371 (by decide +kernel) rfl
theorem we_Bal_serverFor : Cond.selects R_Bal y_Bal_serverFor y_Bal_serverFor ∈ zAll := zi 372 (by decide +kernel) rfl
theorem wb_Bal_serverFor : Cond.code y_Bal_serverFor b_Bal_serverFor 5 (some .int) ∈ zAll := zi 373 (by decide +kernel) rfl
theorem wm_Bal_70 : Cond.methodLink R_Bal 70 y_Ent_serverOf ∈ zAll := zi 374 (by decide +kernel) rfl
theorem wi_Ent_serverOf : Cond.instanceMethod y_Ent_serverOf ∈ zAll := zi 375 (by decide +kernel) rfl
theorem we_Ent_serverOf : Cond.selects R_Ent y_Ent_serverOf y_Ent_serverOf ∈ zAll := zi 376 (by decide +kernel) rfl
theorem wb_Ent_serverOf : Cond.code y_Ent_serverOf b_Ent_serverOf 4 (some .int) ∈ zAll := zi 377 (by decide +kernel) rfl
theorem wm_Ent_30 : Cond.methodLink R_Ent 30 y_Slo_find ∈ zAll := zi 378 (by decide +kernel) rfl
theorem wi_Slo_find : Cond.instanceMethod y_Slo_find ∈ zAll := zi 379 (by decide +kernel) rfl
theorem we_Slo_find : Cond.selects R_Slo y_Slo_find y_Slo_find ∈ zAll := zi 380 (by decide +kernel) rfl
theorem wb_Slo_find : Cond.code y_Slo_find b_Slo_find 4 (some .int) ∈ zAll := zi 381 (by decide +kernel) rfl
theorem wm_Bal_74 : Cond.methodLink R_Bal 74 y_Tab_serverAt ∈ zAll := zi 382 (by decide +kernel) rfl
theorem wi_Tab_serverAt : Cond.instanceMethod y_Tab_serverAt ∈ zAll := zi 383 (by decide +kernel) rfl
theorem we_Tab_serverAt : Cond.selects R_Tab y_Tab_serverAt y_Tab_serverAt ∈ zAll := zi 384 (by decide +kernel) rfl
theorem wb_Tab_serverAt : Cond.code y_Tab_serverAt b_Tab_serverAt 2 (some .int) ∈ zAll := zi 385 (by decide +kernel) rfl
theorem wm_PS_115 : Cond.methodLink R_PS 115 y_Ent_note ∈ zAll := zi 386 (by decide +kernel) rfl
theorem wi_Ent_note : Cond.instanceMethod y_Ent_note ∈ zAll := zi 387 (by decide +kernel) rfl
theorem we_Ent_note : Cond.selects R_Ent y_Ent_note y_Ent_note ∈ zAll := zi 388 (by decide +kernel) rfl
theorem wb_Ent_note : Cond.code y_Ent_note b_Ent_note 7 none ∈ zAll := zi 389 (by decide +kernel) rfl
theorem wm_Ent_34 : Cond.methodLink R_Ent 34 y_Slo_findOrTake ∈ zAll := zi 390 (by decide +kernel) rfl
theorem wi_Slo_findOrTake : Cond.instanceMethod y_Slo_findOrTake ∈ zAll := zi 391 (by decide +kernel) rfl
theorem we_Slo_findOrTake : Cond.selects R_Slo y_Slo_findOrTake y_Slo_findOrTake ∈ zAll := zi 392 (by decide +kernel) rfl
theorem wb_Slo_findOrTake : Cond.code y_Slo_findOrTake b_Slo_findOrTake 5 (some .int) ∈ zAll := zi 393 (by decide +kernel) rfl
theorem wm_Slo_26 : Cond.methodLink R_Slo 26 y_Slo_find ∈ zAll := zi 394 (by decide +kernel) rfl
theorem wm_Ent_37 : Cond.methodLink R_Ent 37 y_Slo_release ∈ zAll := zi 395 (by decide +kernel) rfl
theorem wi_Slo_release : Cond.instanceMethod y_Slo_release ∈ zAll := zi 396 (by decide +kernel) rfl
theorem we_Slo_release : Cond.selects R_Slo y_Slo_release y_Slo_release ∈ zAll := zi 397 (by decide +kernel) rfl
theorem wb_Slo_release : Cond.code y_Slo_release b_Slo_release 2 none ∈ zAll := zi 398 (by decide +kernel) rfl
theorem wm_Ent_40 : Cond.methodLink R_Ent 40 y_Ent_patienceAfter ∈ zAll := zi 399 (by decide +kernel) rfl
theorem wt_Ent_patienceAfter : Cond.static y_Ent_patienceAfter ∈ zAll := zi 400 (by decide +kernel) rfl
theorem wb_Ent_patienceAfter : Cond.code y_Ent_patienceAfter b_Ent_patienceAfter 1 (some .int) ∈ zAll := zi 401 (by decide +kernel) rfl
theorem wm_PS_121 : Cond.methodLink R_PS 121 y_PS_deliver ∈ zAll := zi 402 (by decide +kernel) rfl
theorem wi_PS_deliver : Cond.instanceMethod y_PS_deliver ∈ zAll := zi 404 (by decide +kernel) rfl
theorem wb_PS_deliver : Cond.code y_PS_deliver b_PS_deliver 8 none ∈ zAll := zi 405 (by decide +kernel) rfl
theorem wm_PS_196 : Cond.methodLink R_PS 196 y_Bal_reaches ∈ zAll := zi 406 (by decide +kernel) rfl
theorem wi_Bal_reaches : Cond.instanceMethod y_Bal_reaches ∈ zAll := zi 407 (by decide +kernel) rfl
theorem we_Bal_reaches : Cond.selects R_Bal y_Bal_reaches y_Bal_reaches ∈ zAll := zi 408 (by decide +kernel) rfl
theorem wb_Bal_reaches : Cond.code y_Bal_reaches b_Bal_reaches 3 (some .boolean) ∈ zAll := zi 409 (by decide +kernel) rfl
theorem wm_PS_200 : Cond.methodLink R_PS 200 y_Srv_receive ∈ zAll := zi 410 (by decide +kernel) rfl
theorem wi_Srv_receive : Cond.instanceMethod y_Srv_receive ∈ zAll := zi 411 (by decide +kernel) rfl
theorem we_Srv_receive : Cond.selects R_Srv y_Srv_receive y_Srv_receive ∈ zAll := zi 412 (by decide +kernel) rfl
theorem wb_Srv_receive : Cond.code y_Srv_receive b_Srv_receive 6 (some .int) ∈ zAll := zi 413 (by decide +kernel) rfl
theorem wm_Srv_45 : Cond.methodLink R_Srv 45 y_Slo_findOrTake ∈ zAll := zi 414 (by decide +kernel) rfl
theorem wm_Srv_49 : Cond.methodLink R_Srv 49 y_Srv_greet ∈ zAll := zi 415 (by decide +kernel) rfl
theorem wi_Srv_greet : Cond.instanceMethod y_Srv_greet ∈ zAll := zi 417 (by decide +kernel) rfl
theorem wb_Srv_greet : Cond.code y_Srv_greet b_Srv_greet 3 (some .int) ∈ zAll := zi 418 (by decide +kernel) rfl
theorem wm_Srv_52 : Cond.methodLink R_Srv 52 y_Slo_find ∈ zAll := zi 419 (by decide +kernel) rfl
theorem wm_Srv_55 : Cond.methodLink R_Srv 55 y_Slo_release ∈ zAll := zi 420 (by decide +kernel) rfl
theorem wm_Srv_58 : Cond.methodLink R_Srv 58 y_Srv_goOn ∈ zAll := zi 421 (by decide +kernel) rfl
theorem wi_Srv_goOn : Cond.instanceMethod y_Srv_goOn ∈ zAll := zi 423 (by decide +kernel) rfl
theorem wb_Srv_goOn : Cond.code y_Srv_goOn b_Srv_goOn 5 (some .int) ∈ zAll := zi 424 (by decide +kernel) rfl
theorem wm_PS_211 : Cond.methodLink R_PS 211 y_Stp_next ∈ zAll := zi 425 (by decide +kernel) rfl
theorem wi_Stp_next : Cond.instanceMethod y_Stp_next ∈ zAll := zi 426 (by decide +kernel) rfl
theorem we_Stp_next : Cond.selects R_Stp y_Stp_next y_Stp_next ∈ zAll := zi 427 (by decide +kernel) rfl
theorem wb_Stp_next : Cond.code y_Stp_next b_Stp_next 2 (some .int) ∈ zAll := zi 428 (by decide +kernel) rfl
theorem wk_Stp_15 : Cond.constant R_Stp 15 (65535) ∈ zAll := zi 429 (by decide +kernel) rfl
theorem wm_PS_216 : Cond.methodLink R_PS 216 y_Wir_putForward ∈ zAll := zi 430 (by decide +kernel) rfl
theorem wi_Wir_putForward : Cond.instanceMethod y_Wir_putForward ∈ zAll := zi 431 (by decide +kernel) rfl
theorem we_Wir_putForward : Cond.selects R_Wir y_Wir_putForward y_Wir_putForward ∈ zAll := zi 432 (by decide +kernel) rfl
theorem wb_Wir_putForward : Cond.code y_Wir_putForward b_Wir_putForward 5 none ∈ zAll := zi 433 (by decide +kernel) rfl
theorem wk_Wir_15 : Cond.constant R_Wir 15 (1157627928) ∈ zAll := zi 434 (by decide +kernel) rfl
theorem wk_Wir_16 : Cond.constant R_Wir 16 (65535) ∈ zAll := zi 435 (by decide +kernel) rfl
theorem wk_Wir_17 : Cond.constant R_Wir 17 (65536) ∈ zAll := zi 436 (by decide +kernel) rfl
theorem wk_Wir_18 : Cond.constant R_Wir 18 (1076822016) ∈ zAll := zi 437 (by decide +kernel) rfl
theorem wk_Wir_19 : Cond.constant R_Wir 19 (167772416) ∈ zAll := zi 438 (by decide +kernel) rfl
theorem wk_Wir_20 : Cond.constant R_Wir 20 (167772672) ∈ zAll := zi 439 (by decide +kernel) rfl
theorem wm_Wir_21 : Cond.methodLink R_Wir 21 y_Wir_putChecksum ∈ zAll := zi 440 (by decide +kernel) rfl
theorem wi_Wir_putChecksum : Cond.instanceMethod y_Wir_putChecksum ∈ zAll := zi 442 (by decide +kernel) rfl
theorem wb_Wir_putChecksum : Cond.code y_Wir_putChecksum b_Wir_putChecksum 2 none ∈ zAll := zi 443 (by decide +kernel) rfl
theorem wm_Wir_34 : Cond.methodLink R_Wir 34 y_Sum_rightChecksum ∈ zAll := zi 444 (by decide +kernel) rfl
theorem wm_Wir_25 : Cond.methodLink R_Wir 25 ⟨"java/lang/System", "arraycopy", "(Ljava/lang/Object;ILjava/lang/Object;II)V"⟩ ∈ zAll := zi 445 (by decide +kernel) rfl
theorem wx_copy_static : Cond.static ⟨"java/lang/System", "arraycopy", "(Ljava/lang/Object;ILjava/lang/Object;II)V"⟩ ∈ zAll := zi 446 (by decide +kernel) rfl
theorem wx_copy_native : Cond.native ⟨"java/lang/System", "arraycopy", "(Ljava/lang/Object;ILjava/lang/Object;II)V"⟩ ∈ zAll := zi 447 (by decide +kernel) rfl
theorem wm_PS_220 : Cond.methodLink R_PS 220 y_Wir_clearAnswer ∈ zAll := zi 448 (by decide +kernel) rfl
theorem wi_Wir_clearAnswer : Cond.instanceMethod y_Wir_clearAnswer ∈ zAll := zi 449 (by decide +kernel) rfl
theorem we_Wir_clearAnswer : Cond.selects R_Wir y_Wir_clearAnswer y_Wir_clearAnswer ∈ zAll := zi 450 (by decide +kernel) rfl
theorem wb_Wir_clearAnswer : Cond.code y_Wir_clearAnswer b_Wir_clearAnswer 2 none ∈ zAll := zi 451 (by decide +kernel) rfl
theorem wm_PS_224 : Cond.methodLink R_PS 224 y_Wir_putAnswer ∈ zAll := zi 452 (by decide +kernel) rfl
theorem wi_Wir_putAnswer : Cond.instanceMethod y_Wir_putAnswer ∈ zAll := zi 453 (by decide +kernel) rfl
theorem we_Wir_putAnswer : Cond.selects R_Wir y_Wir_putAnswer y_Wir_putAnswer ∈ zAll := zi 454 (by decide +kernel) rfl
theorem wb_Wir_putAnswer : Cond.code y_Wir_putAnswer b_Wir_putAnswer 3 none ∈ zAll := zi 455 (by decide +kernel) rfl
theorem wk_Wir_31 : Cond.constant R_Wir 31 (1157627944) ∈ zAll := zi 456 (by decide +kernel) rfl
theorem wk_Wir_32 : Cond.constant R_Wir 32 (1074135040) ∈ zAll := zi 457 (by decide +kernel) rfl
theorem wk_Wir_33 : Cond.constant R_Wir 33 (167772161) ∈ zAll := zi 458 (by decide +kernel) rfl
theorem wm_Law_35 : Cond.methodLink R_Law 35 y_PS_carrier ∈ zAll := zi 459 (by decide +kernel) rfl
theorem wi_PS_carrier : Cond.instanceMethod y_PS_carrier ∈ zAll := zi 460 (by decide +kernel) rfl
theorem we_PS_carrier : Cond.selects R_PS y_PS_carrier y_PS_carrier ∈ zAll := zi 461 (by decide +kernel) rfl
theorem wb_PS_carrier : Cond.code y_PS_carrier b_PS_carrier 1 (some .int) ∈ zAll := zi 462 (by decide +kernel) rfl
theorem wm_Law_40 : Cond.methodLink R_Law 40 y_PS_reply ∈ zAll := zi 463 (by decide +kernel) rfl
theorem wi_PS_reply : Cond.instanceMethod y_PS_reply ∈ zAll := zi 464 (by decide +kernel) rfl
theorem we_PS_reply : Cond.selects R_PS y_PS_reply y_PS_reply ∈ zAll := zi 465 (by decide +kernel) rfl
theorem wb_PS_reply : Cond.code y_PS_reply b_PS_reply 1 (some .int) ∈ zAll := zi 466 (by decide +kernel) rfl
theorem wm_Law_44 : Cond.methodLink R_Law 44 y_PS_taken ∈ zAll := zi 467 (by decide +kernel) rfl
theorem wi_PS_taken : Cond.instanceMethod y_PS_taken ∈ zAll := zi 468 (by decide +kernel) rfl
theorem we_PS_taken : Cond.selects R_PS y_PS_taken y_PS_taken ∈ zAll := zi 469 (by decide +kernel) rfl
theorem wb_PS_taken : Cond.code y_PS_taken b_PS_taken 1 (some .int) ∈ zAll := zi 470 (by decide +kernel) rfl
theorem wm_Law_48 : Cond.methodLink R_Law 48 y_PS_wire ∈ zAll := zi 471 (by decide +kernel) rfl
theorem wi_PS_wire : Cond.instanceMethod y_PS_wire ∈ zAll := zi 472 (by decide +kernel) rfl
theorem we_PS_wire : Cond.selects R_PS y_PS_wire y_PS_wire ∈ zAll := zi 473 (by decide +kernel) rfl
theorem wb_PS_wire : Cond.code y_PS_wire b_PS_wire 2 (some .int) ∈ zAll := zi 474 (by decide +kernel) rfl
theorem wm_PS_124 : Cond.methodLink R_PS 124 y_Wir_word ∈ zAll := zi 475 (by decide +kernel) rfl
theorem wi_Wir_word : Cond.instanceMethod y_Wir_word ∈ zAll := zi 476 (by decide +kernel) rfl
theorem we_Wir_word : Cond.selects R_Wir y_Wir_word y_Wir_word ∈ zAll := zi 477 (by decide +kernel) rfl
theorem wb_Wir_word : Cond.code y_Wir_word b_Wir_word 2 (some .int) ∈ zAll := zi 478 (by decide +kernel) rfl
theorem wm_Law_53 : Cond.methodLink R_Law 53 y_PS_digest ∈ zAll := zi 479 (by decide +kernel) rfl
theorem wi_PS_digest : Cond.instanceMethod y_PS_digest ∈ zAll := zi 480 (by decide +kernel) rfl
theorem we_PS_digest : Cond.selects R_PS y_PS_digest y_PS_digest ∈ zAll := zi 481 (by decide +kernel) rfl
theorem wb_PS_digest : Cond.code y_PS_digest b_PS_digest 3 (some .long) ∈ zAll := zi 482 (by decide +kernel) rfl
theorem wm_Law_58 : Cond.methodLink R_Law 58 y_PS_place ∈ zAll := zi 483 (by decide +kernel) rfl
theorem wi_PS_place : Cond.instanceMethod y_PS_place ∈ zAll := zi 484 (by decide +kernel) rfl
theorem we_PS_place : Cond.selects R_PS y_PS_place y_PS_place ∈ zAll := zi 485 (by decide +kernel) rfl
theorem wb_PS_place : Cond.code y_PS_place b_PS_place 3 (some .int) ∈ zAll := zi 486 (by decide +kernel) rfl
theorem wm_PS_127 : Cond.methodLink R_PS 127 y_PS_isBalancer ∈ zAll := zi 487 (by decide +kernel) rfl
theorem wi_PS_isBalancer : Cond.instanceMethod y_PS_isBalancer ∈ zAll := zi 489 (by decide +kernel) rfl
theorem wb_PS_isBalancer : Cond.code y_PS_isBalancer b_PS_isBalancer 2 (some .boolean) ∈ zAll := zi 490 (by decide +kernel) rfl
theorem wm_PS_134 : Cond.methodLink R_PS 134 y_Tab_serverAt ∈ zAll := zi 491 (by decide +kernel) rfl
theorem wm_Law_63 : Cond.methodLink R_Law 63 y_PS_share ∈ zAll := zi 492 (by decide +kernel) rfl
theorem wi_PS_share : Cond.instanceMethod y_PS_share ∈ zAll := zi 493 (by decide +kernel) rfl
theorem we_PS_share : Cond.selects R_PS y_PS_share y_PS_share ∈ zAll := zi 494 (by decide +kernel) rfl
theorem wb_PS_share : Cond.code y_PS_share b_PS_share 3 (some .int) ∈ zAll := zi 495 (by decide +kernel) rfl
theorem wm_PS_139 : Cond.methodLink R_PS 139 y_PS_isServer ∈ zAll := zi 496 (by decide +kernel) rfl
theorem wi_PS_isServer : Cond.instanceMethod y_PS_isServer ∈ zAll := zi 498 (by decide +kernel) rfl
theorem wb_PS_isServer : Cond.code y_PS_isServer b_PS_isServer 2 (some .boolean) ∈ zAll := zi 499 (by decide +kernel) rfl
theorem wm_PS_142 : Cond.methodLink R_PS 142 y_Tab_placesOf ∈ zAll := zi 500 (by decide +kernel) rfl
theorem wi_Tab_placesOf : Cond.instanceMethod y_Tab_placesOf ∈ zAll := zi 501 (by decide +kernel) rfl
theorem we_Tab_placesOf : Cond.selects R_Tab y_Tab_placesOf y_Tab_placesOf ∈ zAll := zi 502 (by decide +kernel) rfl
theorem wb_Tab_placesOf : Cond.code y_Tab_placesOf b_Tab_placesOf 4 (some .int) ∈ zAll := zi 503 (by decide +kernel) rfl
theorem wm_Law_67 : Cond.methodLink R_Law 67 y_PS_moved ∈ zAll := zi 504 (by decide +kernel) rfl
theorem wi_PS_moved : Cond.instanceMethod y_PS_moved ∈ zAll := zi 505 (by decide +kernel) rfl
theorem we_PS_moved : Cond.selects R_PS y_PS_moved y_PS_moved ∈ zAll := zi 506 (by decide +kernel) rfl
theorem wb_PS_moved : Cond.code y_PS_moved b_PS_moved 2 (some .int) ∈ zAll := zi 507 (by decide +kernel) rfl
theorem wm_Law_71 : Cond.methodLink R_Law 71 y_PS_live ∈ zAll := zi 508 (by decide +kernel) rfl
theorem wi_PS_live : Cond.instanceMethod y_PS_live ∈ zAll := zi 509 (by decide +kernel) rfl
theorem we_PS_live : Cond.selects R_PS y_PS_live y_PS_live ∈ zAll := zi 510 (by decide +kernel) rfl
theorem wb_PS_live : Cond.code y_PS_live b_PS_live 3 (some .boolean) ∈ zAll := zi 511 (by decide +kernel) rfl
theorem wm_PS_148 : Cond.methodLink R_PS 148 y_Bal_setLive ∈ zAll := zi 512 (by decide +kernel) rfl
theorem wi_Bal_setLive : Cond.instanceMethod y_Bal_setLive ∈ zAll := zi 513 (by decide +kernel) rfl
theorem we_Bal_setLive : Cond.selects R_Bal y_Bal_setLive y_Bal_setLive ∈ zAll := zi 514 (by decide +kernel) rfl
theorem wb_Bal_setLive : Cond.code y_Bal_setLive b_Bal_setLive 2 (some .boolean) ∈ zAll := zi 515 (by decide +kernel) rfl
theorem wm_Bal_60 : Cond.methodLink R_Bal 60 y_Slo_releaseAll ∈ zAll := zi 516 (by decide +kernel) rfl
theorem wi_Slo_releaseAll : Cond.instanceMethod y_Slo_releaseAll ∈ zAll := zi 517 (by decide +kernel) rfl
theorem we_Slo_releaseAll : Cond.selects R_Slo y_Slo_releaseAll y_Slo_releaseAll ∈ zAll := zi 518 (by decide +kernel) rfl
theorem wb_Slo_releaseAll : Cond.code y_Slo_releaseAll b_Slo_releaseAll 2 none ∈ zAll := zi 519 (by decide +kernel) rfl
theorem wm_Slo_30 : Cond.methodLink R_Slo 30 y_Slo_release ∈ zAll := zi 520 (by decide +kernel) rfl
theorem wm_Law_76 : Cond.methodLink R_Law 76 y_PS_power ∈ zAll := zi 521 (by decide +kernel) rfl
theorem wi_PS_power : Cond.instanceMethod y_PS_power ∈ zAll := zi 522 (by decide +kernel) rfl
theorem we_PS_power : Cond.selects R_PS y_PS_power y_PS_power ∈ zAll := zi 523 (by decide +kernel) rfl
theorem wb_PS_power : Cond.code y_PS_power b_PS_power 3 (some .boolean) ∈ zAll := zi 524 (by decide +kernel) rfl
theorem wm_PS_152 : Cond.methodLink R_PS 152 y_Srv_setOn ∈ zAll := zi 525 (by decide +kernel) rfl
theorem wi_Srv_setOn : Cond.instanceMethod y_Srv_setOn ∈ zAll := zi 526 (by decide +kernel) rfl
theorem we_Srv_setOn : Cond.selects R_Srv y_Srv_setOn y_Srv_setOn ∈ zAll := zi 527 (by decide +kernel) rfl
theorem wb_Srv_setOn : Cond.code y_Srv_setOn b_Srv_setOn 2 (some .boolean) ∈ zAll := zi 528 (by decide +kernel) rfl
theorem wm_Srv_38 : Cond.methodLink R_Srv 38 y_Slo_releaseAll ∈ zAll := zi 529 (by decide +kernel) rfl
theorem wm_Law_80 : Cond.methodLink R_Law 80 y_PS_path ∈ zAll := zi 530 (by decide +kernel) rfl
theorem wi_PS_path : Cond.instanceMethod y_PS_path ∈ zAll := zi 531 (by decide +kernel) rfl
theorem we_PS_path : Cond.selects R_PS y_PS_path y_PS_path ∈ zAll := zi 532 (by decide +kernel) rfl
theorem wb_PS_path : Cond.code y_PS_path b_PS_path 4 (some .boolean) ∈ zAll := zi 533 (by decide +kernel) rfl
theorem wm_PS_155 : Cond.methodLink R_PS 155 y_Bal_setPath ∈ zAll := zi 534 (by decide +kernel) rfl
theorem wi_Bal_setPath : Cond.instanceMethod y_Bal_setPath ∈ zAll := zi 535 (by decide +kernel) rfl
theorem we_Bal_setPath : Cond.selects R_Bal y_Bal_setPath y_Bal_setPath ∈ zAll := zi 536 (by decide +kernel) rfl
theorem wb_Bal_setPath : Cond.code y_Bal_setPath b_Bal_setPath 4 (some .boolean) ∈ zAll := zi 537 (by decide +kernel) rfl
theorem wm_Law_85 : Cond.methodLink R_Law 85 y_PS_probe ∈ zAll := zi 538 (by decide +kernel) rfl
theorem wi_PS_probe : Cond.instanceMethod y_PS_probe ∈ zAll := zi 539 (by decide +kernel) rfl
theorem we_PS_probe : Cond.selects R_PS y_PS_probe y_PS_probe ∈ zAll := zi 540 (by decide +kernel) rfl
theorem wb_PS_probe : Cond.code y_PS_probe b_PS_probe 2 (some .int) ∈ zAll := zi 541 (by decide +kernel) rfl
theorem wm_PS_162 : Cond.methodLink R_PS 162 y_Bal_probeAll ∈ zAll := zi 542 (by decide +kernel) rfl
theorem wi_Bal_probeAll : Cond.instanceMethod y_Bal_probeAll ∈ zAll := zi 543 (by decide +kernel) rfl
theorem we_Bal_probeAll : Cond.selects R_Bal y_Bal_probeAll y_Bal_probeAll ∈ zAll := zi 544 (by decide +kernel) rfl
theorem wb_Bal_probeAll : Cond.code y_Bal_probeAll b_Bal_probeAll 4 (some .int) ∈ zAll := zi 545 (by decide +kernel) rfl
theorem wm_Bal_78 : Cond.methodLink R_Bal 78 y_Bal_reaches ∈ zAll := zi 546 (by decide +kernel) rfl
theorem wm_Bal_82 : Cond.methodLink R_Bal 82 y_Wat_observe ∈ zAll := zi 547 (by decide +kernel) rfl
theorem wi_Wat_observe : Cond.instanceMethod y_Wat_observe ∈ zAll := zi 548 (by decide +kernel) rfl
theorem we_Wat_observe : Cond.selects R_Wat y_Wat_observe y_Wat_observe ∈ zAll := zi 549 (by decide +kernel) rfl
theorem wb_Wat_observe : Cond.code y_Wat_observe b_Wat_observe 3 (some .boolean) ∈ zAll := zi 550 (by decide +kernel) rfl
theorem wm_Bal_86 : Cond.methodLink R_Bal 86 y_Ent_removeForServersDown ∈ zAll := zi 551 (by decide +kernel) rfl
theorem wi_Ent_removeForServersDown : Cond.instanceMethod y_Ent_removeForServersDown ∈ zAll := zi 552 (by decide +kernel) rfl
theorem we_Ent_removeForServersDown : Cond.selects R_Ent y_Ent_removeForServersDown y_Ent_removeForServersDown ∈ zAll := zi 553 (by decide +kernel) rfl
theorem wb_Ent_removeForServersDown : Cond.code y_Ent_removeForServersDown b_Ent_removeForServersDown 3 none ∈ zAll := zi 554 (by decide +kernel) rfl
theorem wm_Ent_44 : Cond.methodLink R_Ent 44 y_Wat_isUp ∈ zAll := zi 555 (by decide +kernel) rfl
theorem wm_Bal_89 : Cond.methodLink R_Bal 89 y_Tab_fillAnew ∈ zAll := zi 556 (by decide +kernel) rfl
theorem wi_Tab_fillAnew : Cond.instanceMethod y_Tab_fillAnew ∈ zAll := zi 557 (by decide +kernel) rfl
theorem we_Tab_fillAnew : Cond.selects R_Tab y_Tab_fillAnew y_Tab_fillAnew ∈ zAll := zi 558 (by decide +kernel) rfl
theorem wb_Tab_fillAnew : Cond.code y_Tab_fillAnew b_Tab_fillAnew 3 none ∈ zAll := zi 559 (by decide +kernel) rfl
theorem wm_Tab_31 : Cond.methodLink R_Tab 31 ⟨"java/lang/System", "arraycopy", "(Ljava/lang/Object;ILjava/lang/Object;II)V"⟩ ∈ zAll := zi 560 (by decide +kernel) rfl
theorem wm_Tab_37 : Cond.methodLink R_Tab 37 y_Tab_fill ∈ zAll := zi 561 (by decide +kernel) rfl
theorem wm_Law_89 : Cond.methodLink R_Law 89 y_PS_held ∈ zAll := zi 562 (by decide +kernel) rfl
theorem wi_PS_held : Cond.instanceMethod y_PS_held ∈ zAll := zi 563 (by decide +kernel) rfl
theorem we_PS_held : Cond.selects R_PS y_PS_held y_PS_held ∈ zAll := zi 564 (by decide +kernel) rfl
theorem wb_PS_held : Cond.code y_PS_held b_PS_held 3 (some .int) ∈ zAll := zi 565 (by decide +kernel) rfl
theorem wm_PS_170 : Cond.methodLink R_PS 170 y_Wat_stateOf ∈ zAll := zi 566 (by decide +kernel) rfl
theorem wi_Wat_stateOf : Cond.instanceMethod y_Wat_stateOf ∈ zAll := zi 567 (by decide +kernel) rfl
theorem we_Wat_stateOf : Cond.selects R_Wat y_Wat_stateOf y_Wat_stateOf ∈ zAll := zi 568 (by decide +kernel) rfl
theorem wb_Wat_stateOf : Cond.code y_Wat_stateOf b_Wat_stateOf 2 (some .int) ∈ zAll := zi 569 (by decide +kernel) rfl
theorem wm_Law_93 : Cond.methodLink R_Law 93 y_PS_tick ∈ zAll := zi 570 (by decide +kernel) rfl
theorem wi_PS_tick : Cond.instanceMethod y_PS_tick ∈ zAll := zi 571 (by decide +kernel) rfl
theorem we_PS_tick : Cond.selects R_PS y_PS_tick y_PS_tick ∈ zAll := zi 572 (by decide +kernel) rfl
theorem wb_PS_tick : Cond.code y_PS_tick b_PS_tick 3 (some .boolean) ∈ zAll := zi 573 (by decide +kernel) rfl
theorem wm_PS_175 : Cond.methodLink R_PS 175 y_Ent_removeStale ∈ zAll := zi 574 (by decide +kernel) rfl
theorem wi_Ent_removeStale : Cond.instanceMethod y_Ent_removeStale ∈ zAll := zi 575 (by decide +kernel) rfl
theorem we_Ent_removeStale : Cond.selects R_Ent y_Ent_removeStale y_Ent_removeStale ∈ zAll := zi 576 (by decide +kernel) rfl
theorem wb_Ent_removeStale : Cond.code y_Ent_removeStale b_Ent_removeStale 3 none ∈ zAll := zi 577 (by decide +kernel) rfl
theorem wm_Law_98 : Cond.methodLink R_Law 98 y_PS_entry ∈ zAll := zi 578 (by decide +kernel) rfl
theorem wi_PS_entry : Cond.instanceMethod y_PS_entry ∈ zAll := zi 579 (by decide +kernel) rfl
theorem we_PS_entry : Cond.selects R_PS y_PS_entry y_PS_entry ∈ zAll := zi 580 (by decide +kernel) rfl
theorem wb_PS_entry : Cond.code y_PS_entry b_PS_entry 4 (some .int) ∈ zAll := zi 581 (by decide +kernel) rfl
theorem wm_PS_179 : Cond.methodLink R_PS 179 y_Ent_serverOf ∈ zAll := zi 582 (by decide +kernel) rfl
theorem wm_Law_102 : Cond.methodLink R_Law 102 y_PS_load ∈ zAll := zi 583 (by decide +kernel) rfl
theorem wi_PS_load : Cond.instanceMethod y_PS_load ∈ zAll := zi 584 (by decide +kernel) rfl
theorem we_PS_load : Cond.selects R_PS y_PS_load y_PS_load ∈ zAll := zi 585 (by decide +kernel) rfl
theorem wb_PS_load : Cond.code y_PS_load b_PS_load 5 (some .int) ∈ zAll := zi 586 (by decide +kernel) rfl
theorem wm_PS_187 : Cond.methodLink R_PS 187 y_Slo_used ∈ zAll := zi 587 (by decide +kernel) rfl
theorem wi_Slo_used : Cond.instanceMethod y_Slo_used ∈ zAll := zi 588 (by decide +kernel) rfl
theorem we_Slo_used : Cond.selects R_Slo y_Slo_used y_Slo_used ∈ zAll := zi 589 (by decide +kernel) rfl
theorem wb_Slo_used : Cond.code y_Slo_used b_Slo_used 1 (some .int) ∈ zAll := zi 590 (by decide +kernel) rfl
theorem wm_Law_9 : Cond.methodLink R_Law 9 y_Law_cell ∈ zAll := zi 591 (by decide +kernel) rfl
theorem wt_Law_cell : Cond.static y_Law_cell ∈ zAll := zi 592 (by decide +kernel) rfl
theorem wb_Law_cell : Cond.code y_Law_cell b_Law_cell 2 (some .int) ∈ zAll := zi 593 (by decide +kernel) rfl
theorem wc_Law_18 : Cond.classLink R_Law 18 R_Mod ∈ zAll := zi 594 (by decide +kernel) rfl
theorem wn_Mod : Cond.instantiable R_Mod 38 ∈ zAll := zi 595 (by decide +kernel) rfl
theorem wm_Law_20 : Cond.methodLink R_Law 20 y_Mod_init ∈ zAll := zi 596 (by decide +kernel) rfl
theorem wi_Mod_init : Cond.instanceMethod y_Mod_init ∈ zAll := zi 597 (by decide +kernel) rfl
theorem wb_Mod_init : Cond.code y_Mod_init b_Mod_init 8 none ∈ zAll := zi 598 (by decide +kernel) rfl
theorem wm_Mod_1 : Cond.methodLink R_Mod 1 objectInit ∈ zAll := zi 599 (by decide +kernel) rfl
theorem wm_Mod_97 : Cond.methodLink R_Mod 97 y_Mod_within ∈ zAll := zi 600 (by decide +kernel) rfl
theorem wt_Mod_within : Cond.static y_Mod_within ∈ zAll := zi 601 (by decide +kernel) rfl
theorem wb_Mod_within : Cond.code y_Mod_within b_Mod_within 3 (some .int) ∈ zAll := zi 602 (by decide +kernel) rfl
theorem wm_Mod_110 : Cond.methodLink R_Mod 110 y_Mod_prime ∈ zAll := zi 603 (by decide +kernel) rfl
theorem wt_Mod_prime : Cond.static y_Mod_prime ∈ zAll := zi 604 (by decide +kernel) rfl
theorem wb_Mod_prime : Cond.code y_Mod_prime b_Mod_prime 2 (some .boolean) ∈ zAll := zi 605 (by decide +kernel) rfl
theorem wk_Mod_118 : Cond.constantLong R_Mod 118 (1084818905618843912) ∈ zAll := zi 606 (by decide +kernel) rfl
theorem wk_Mod_123 : Cond.constant R_Mod 123 (65530) ∈ zAll := zi 607 (by decide +kernel) rfl
theorem wm_Mod_124 : Cond.methodLink R_Mod 124 y_Mod_digestOf ∈ zAll := zi 608 (by decide +kernel) rfl
theorem wi_Mod_digestOf : Cond.instanceMethod y_Mod_digestOf ∈ zAll := zi 610 (by decide +kernel) rfl
theorem wb_Mod_digestOf : Cond.code y_Mod_digestOf b_Mod_digestOf 3 (some .long) ∈ zAll := zi 611 (by decide +kernel) rfl
theorem wk_Mod_164 : Cond.constantLong R_Mod 164 (8317987319222330741) ∈ zAll := zi 612 (by decide +kernel) rfl
theorem wk_Mod_166 : Cond.constantLong R_Mod 166 (7237128888997146477) ∈ zAll := zi 613 (by decide +kernel) rfl
theorem wk_Mod_168 : Cond.constantLong R_Mod 168 (7816392313619706465) ∈ zAll := zi 614 (by decide +kernel) rfl
theorem wk_Mod_170 : Cond.constantLong R_Mod 170 (8387220255154660723) ∈ zAll := zi 615 (by decide +kernel) rfl
theorem wm_Mod_172 : Cond.methodLink R_Mod 172 y_Mod_takeIn ∈ zAll := zi 616 (by decide +kernel) rfl
theorem wi_Mod_takeIn : Cond.instanceMethod y_Mod_takeIn ∈ zAll := zi 618 (by decide +kernel) rfl
theorem wb_Mod_takeIn : Cond.code y_Mod_takeIn b_Mod_takeIn 3 none ∈ zAll := zi 619 (by decide +kernel) rfl
theorem wm_Mod_160 : Cond.methodLink R_Mod 160 y_Mod_rounds ∈ zAll := zi 620 (by decide +kernel) rfl
theorem wi_Mod_rounds : Cond.instanceMethod y_Mod_rounds ∈ zAll := zi 622 (by decide +kernel) rfl
theorem wb_Mod_rounds : Cond.code y_Mod_rounds b_Mod_rounds 3 none ∈ zAll := zi 623 (by decide +kernel) rfl
theorem wm_Mod_156 : Cond.methodLink R_Mod 156 y_Mod_mix ∈ zAll := zi 624 (by decide +kernel) rfl
theorem wi_Mod_mix : Cond.instanceMethod y_Mod_mix ∈ zAll := zi 626 (by decide +kernel) rfl
theorem wb_Mod_mix : Cond.code y_Mod_mix b_Mod_mix 5 none ∈ zAll := zi 627 (by decide +kernel) rfl
theorem wm_Mod_152 : Cond.methodLink R_Mod 152 y_Mod_turned ∈ zAll := zi 628 (by decide +kernel) rfl
theorem wt_Mod_turned : Cond.static y_Mod_turned ∈ zAll := zi 629 (by decide +kernel) rfl
theorem wb_Mod_turned : Cond.code y_Mod_turned b_Mod_turned 6 (some .long) ∈ zAll := zi 630 (by decide +kernel) rfl
theorem wk_Mod_176 : Cond.constantLong R_Mod 176 (576460752303423488) ∈ zAll := zi 631 (by decide +kernel) rfl
theorem wk_Mod_178 : Cond.constantLong R_Mod 178 (255) ∈ zAll := zi 632 (by decide +kernel) rfl
theorem wm_Mod_128 : Cond.methodLink R_Mod 128 y_Mod_upper ∈ zAll := zi 633 (by decide +kernel) rfl
theorem wt_Mod_upper : Cond.static y_Mod_upper ∈ zAll := zi 634 (by decide +kernel) rfl
theorem wb_Mod_upper : Cond.code y_Mod_upper b_Mod_upper 8 (some .long) ∈ zAll := zi 635 (by decide +kernel) rfl
theorem wk_Mod_134 : Cond.constantLong R_Mod 134 (65536) ∈ zAll := zi 636 (by decide +kernel) rfl
theorem wk_Mod_136 : Cond.constantLong R_Mod 136 (4294967296) ∈ zAll := zi 637 (by decide +kernel) rfl
theorem wm_Mod_131 : Cond.methodLink R_Mod 131 y_Mod_lower ∈ zAll := zi 638 (by decide +kernel) rfl
theorem wt_Mod_lower : Cond.static y_Mod_lower ∈ zAll := zi 639 (by decide +kernel) rfl
theorem wb_Mod_lower : Cond.code y_Mod_lower b_Mod_lower 4 (some .long) ∈ zAll := zi 640 (by decide +kernel) rfl
theorem wf_Mod_101 : Cond.fieldLink R_Mod 101 "PacketSpreaderModel" "balancers" "I" ∈ zAll := zi 641 (by decide +kernel) rfl
theorem wf_Mod_104 : Cond.fieldLink R_Mod 104 "PacketSpreaderModel" "servers" "I" ∈ zAll := zi 642 (by decide +kernel) rfl
theorem wf_Mod_107 : Cond.fieldLink R_Mod 107 "PacketSpreaderModel" "places" "I" ∈ zAll := zi 643 (by decide +kernel) rfl
theorem wf_Mod_114 : Cond.fieldLink R_Mod 114 "PacketSpreaderModel" "key0" "J" ∈ zAll := zi 644 (by decide +kernel) rfl
theorem wf_Mod_120 : Cond.fieldLink R_Mod 120 "PacketSpreaderModel" "key1" "J" ∈ zAll := zi 645 (by decide +kernel) rfl
theorem wf_Mod_202 : Cond.fieldLink R_Mod 202 "PacketSpreaderModel" "now" "I" ∈ zAll := zi 646 (by decide +kernel) rfl
theorem wf_Mod_7 : Cond.fieldLink R_Mod 7 "PacketSpreaderModel" "word" "[J" ∈ zAll := zi 647 (by decide +kernel) rfl
theorem wf_Mod_13 : Cond.fieldLink R_Mod 13 "PacketSpreaderModel" "begin" "[I" ∈ zAll := zi 648 (by decide +kernel) rfl
theorem wf_Mod_17 : Cond.fieldLink R_Mod 17 "PacketSpreaderModel" "stride" "[I" ∈ zAll := zi 649 (by decide +kernel) rfl
theorem wf_Mod_20 : Cond.fieldLink R_Mod 20 "PacketSpreaderModel" "dealt" "[I" ∈ zAll := zi 650 (by decide +kernel) rfl
theorem wf_Mod_23 : Cond.fieldLink R_Mod 23 "PacketSpreaderModel" "former" "[I" ∈ zAll := zi 651 (by decide +kernel) rfl
theorem wf_Mod_26 : Cond.fieldLink R_Mod 26 "PacketSpreaderModel" "alive" "[Z" ∈ zAll := zi 652 (by decide +kernel) rfl
theorem wf_Mod_30 : Cond.fieldLink R_Mod 30 "PacketSpreaderModel" "stamp" "[I" ∈ zAll := zi 653 (by decide +kernel) rfl
theorem wf_Mod_33 : Cond.fieldLink R_Mod 33 "PacketSpreaderModel" "moves" "[I" ∈ zAll := zi 654 (by decide +kernel) rfl
theorem wf_Mod_36 : Cond.fieldLink R_Mod 36 "PacketSpreaderModel" "down" "[Z" ∈ zAll := zi 655 (by decide +kernel) rfl
theorem wf_Mod_39 : Cond.fieldLink R_Mod 39 "PacketSpreaderModel" "counted" "[I" ∈ zAll := zi 656 (by decide +kernel) rfl
theorem wf_Mod_42 : Cond.fieldLink R_Mod 42 "PacketSpreaderModel" "cut" "[Z" ∈ zAll := zi 657 (by decide +kernel) rfl
theorem wf_Mod_45 : Cond.fieldLink R_Mod 45 "PacketSpreaderModel" "phase" "[I" ∈ zAll := zi 658 (by decide +kernel) rfl
theorem wf_Mod_48 : Cond.fieldLink R_Mod 48 "PacketSpreaderModel" "used" "[I" ∈ zAll := zi 659 (by decide +kernel) rfl
theorem wf_Mod_51 : Cond.fieldLink R_Mod 51 "PacketSpreaderModel" "goal" "[I" ∈ zAll := zi 660 (by decide +kernel) rfl
theorem wf_Mod_54 : Cond.fieldLink R_Mod 54 "PacketSpreaderModel" "entrySource" "[I" ∈ zAll := zi 661 (by decide +kernel) rfl
theorem wf_Mod_57 : Cond.fieldLink R_Mod 57 "PacketSpreaderModel" "entryPorts" "[I" ∈ zAll := zi 662 (by decide +kernel) rfl
theorem wf_Mod_60 : Cond.fieldLink R_Mod 60 "PacketSpreaderModel" "off" "[Z" ∈ zAll := zi 663 (by decide +kernel) rfl
theorem wf_Mod_63 : Cond.fieldLink R_Mod 63 "PacketSpreaderModel" "answerStamp" "[I" ∈ zAll := zi 664 (by decide +kernel) rfl
theorem wf_Mod_66 : Cond.fieldLink R_Mod 66 "PacketSpreaderModel" "open" "[Z" ∈ zAll := zi 665 (by decide +kernel) rfl
theorem wf_Mod_69 : Cond.fieldLink R_Mod 69 "PacketSpreaderModel" "sessionSource" "[I" ∈ zAll := zi 666 (by decide +kernel) rfl
theorem wf_Mod_72 : Cond.fieldLink R_Mod 72 "PacketSpreaderModel" "sessionPorts" "[I" ∈ zAll := zi 667 (by decide +kernel) rfl
theorem wf_Mod_75 : Cond.fieldLink R_Mod 75 "PacketSpreaderModel" "awaited" "[I" ∈ zAll := zi 668 (by decide +kernel) rfl
theorem wf_Mod_78 : Cond.fieldLink R_Mod 78 "PacketSpreaderModel" "data" "[I" ∈ zAll := zi 669 (by decide +kernel) rfl
theorem wf_Mod_148 : Cond.fieldLink R_Mod 148 "PacketSpreaderModel" "kept" "Z" ∈ zAll := zi 670 (by decide +kernel) rfl
theorem wf_Mod_81 : Cond.fieldLink R_Mod 81 "PacketSpreaderModel" "head" "[I" ∈ zAll := zi 671 (by decide +kernel) rfl
theorem wf_Mod_84 : Cond.fieldLink R_Mod 84 "PacketSpreaderModel" "by" "I" ∈ zAll := zi 672 (by decide +kernel) rfl
theorem wf_Mod_220 : Cond.fieldLink R_Mod 220 "PacketSpreaderModel" "to" "I" ∈ zAll := zi 673 (by decide +kernel) rfl
theorem wf_Mod_88 : Cond.fieldLink R_Mod 88 "PacketSpreaderModel" "reply" "I" ∈ zAll := zi 674 (by decide +kernel) rfl
theorem wf_Mod_91 : Cond.fieldLink R_Mod 91 "PacketSpreaderModel" "had" "I" ∈ zAll := zi 675 (by decide +kernel) rfl
theorem wf_Mod_223 : Cond.fieldLink R_Mod 223 "PacketSpreaderModel" "outerStamp" "I" ∈ zAll := zi 676 (by decide +kernel) rfl
theorem wf_Mod_230 : Cond.fieldLink R_Mod 230 "PacketSpreaderModel" "backStamp" "I" ∈ zAll := zi 677 (by decide +kernel) rfl
theorem wf_Mod_94 : Cond.fieldLink R_Mod 94 "PacketSpreaderModel" "inner" "[I" ∈ zAll := zi 678 (by decide +kernel) rfl
theorem wm_Law_25 : Cond.methodLink R_Law 25 y_Mod_checksum ∈ zAll := zi 757 (by decide +kernel) rfl
theorem wi_Mod_checksum : Cond.instanceMethod y_Mod_checksum ∈ zAll := zi 758 (by decide +kernel) rfl
theorem we_Mod_checksum : Cond.selects R_Mod y_Mod_checksum y_Mod_checksum ∈ zAll := zi 759 (by decide +kernel) rfl
theorem wb_Mod_checksum : Cond.code y_Mod_checksum b_Mod_checksum 7 (some .int) ∈ zAll := zi 760 (by decide +kernel) rfl
theorem wm_Mod_140 : Cond.methodLink R_Mod 140 y_Mod_halves ∈ zAll := zi 761 (by decide +kernel) rfl
theorem wt_Mod_halves : Cond.static y_Mod_halves ∈ zAll := zi 762 (by decide +kernel) rfl
theorem wb_Mod_halves : Cond.code y_Mod_halves b_Mod_halves 3 (some .int) ∈ zAll := zi 763 (by decide +kernel) rfl
theorem wk_Mod_138 : Cond.constant R_Mod 138 (65535) ∈ zAll := zi 764 (by decide +kernel) rfl
theorem wm_Mod_144 : Cond.methodLink R_Mod 144 y_Mod_fold ∈ zAll := zi 765 (by decide +kernel) rfl
theorem wt_Mod_fold : Cond.static y_Mod_fold ∈ zAll := zi 766 (by decide +kernel) rfl
theorem wb_Mod_fold : Cond.code y_Mod_fold b_Mod_fold 3 (some .int) ∈ zAll := zi 767 (by decide +kernel) rfl
theorem wk_Mod_139 : Cond.constant R_Mod 139 (65536) ∈ zAll := zi 768 (by decide +kernel) rfl
theorem wm_Law_29 : Cond.methodLink R_Law 29 y_Mod_header ∈ zAll := zi 769 (by decide +kernel) rfl
theorem wi_Mod_header : Cond.instanceMethod y_Mod_header ∈ zAll := zi 770 (by decide +kernel) rfl
theorem we_Mod_header : Cond.selects R_Mod y_Mod_header y_Mod_header ∈ zAll := zi 771 (by decide +kernel) rfl
theorem wb_Mod_header : Cond.code y_Mod_header b_Mod_header 8 (some .int) ∈ zAll := zi 772 (by decide +kernel) rfl
theorem wk_Mod_147 : Cond.constant R_Mod 147 (167772161) ∈ zAll := zi 773 (by decide +kernel) rfl
theorem wm_Law_57 : Cond.methodLink R_Law 57 y_Mod_digest ∈ zAll := zi 774 (by decide +kernel) rfl
theorem wi_Mod_digest : Cond.instanceMethod y_Mod_digest ∈ zAll := zi 775 (by decide +kernel) rfl
theorem we_Mod_digest : Cond.selects R_Mod y_Mod_digest y_Mod_digest ∈ zAll := zi 776 (by decide +kernel) rfl
theorem wb_Mod_digest : Cond.code y_Mod_digest b_Mod_digest 5 (some .long) ∈ zAll := zi 777 (by decide +kernel) rfl
theorem wm_Law_62 : Cond.methodLink R_Law 62 y_Mod_place ∈ zAll := zi 778 (by decide +kernel) rfl
theorem wi_Mod_place : Cond.instanceMethod y_Mod_place ∈ zAll := zi 779 (by decide +kernel) rfl
theorem we_Mod_place : Cond.selects R_Mod y_Mod_place y_Mod_place ∈ zAll := zi 780 (by decide +kernel) rfl
theorem wb_Mod_place : Cond.code y_Mod_place b_Mod_place 3 (some .int) ∈ zAll := zi 781 (by decide +kernel) rfl
theorem wm_Mod_186 : Cond.methodLink R_Mod 186 y_Mod_isBalancer ∈ zAll := zi 782 (by decide +kernel) rfl
theorem wi_Mod_isBalancer : Cond.instanceMethod y_Mod_isBalancer ∈ zAll := zi 784 (by decide +kernel) rfl
theorem wb_Mod_isBalancer : Cond.code y_Mod_isBalancer b_Mod_isBalancer 2 (some .boolean) ∈ zAll := zi 785 (by decide +kernel) rfl
theorem wm_Mod_189 : Cond.methodLink R_Mod 189 y_Mod_deal ∈ zAll := zi 786 (by decide +kernel) rfl
theorem wi_Mod_deal : Cond.instanceMethod y_Mod_deal ∈ zAll := zi 788 (by decide +kernel) rfl
theorem wb_Mod_deal : Cond.code y_Mod_deal b_Mod_deal 6 none ∈ zAll := zi 789 (by decide +kernel) rfl
theorem wm_Mod_180 : Cond.methodLink R_Mod 180 y_Mod_ups ∈ zAll := zi 790 (by decide +kernel) rfl
theorem wi_Mod_ups : Cond.instanceMethod y_Mod_ups ∈ zAll := zi 792 (by decide +kernel) rfl
theorem wb_Mod_ups : Cond.code y_Mod_ups b_Mod_ups 4 (some .int) ∈ zAll := zi 793 (by decide +kernel) rfl
theorem wm_Mod_183 : Cond.methodLink R_Mod 183 y_Mod_wish ∈ zAll := zi 794 (by decide +kernel) rfl
theorem wi_Mod_wish : Cond.instanceMethod y_Mod_wish ∈ zAll := zi 796 (by decide +kernel) rfl
theorem wb_Mod_wish : Cond.code y_Mod_wish b_Mod_wish 4 (some .int) ∈ zAll := zi 797 (by decide +kernel) rfl
theorem wm_Law_66 : Cond.methodLink R_Law 66 y_Mod_share ∈ zAll := zi 798 (by decide +kernel) rfl
theorem wi_Mod_share : Cond.instanceMethod y_Mod_share ∈ zAll := zi 799 (by decide +kernel) rfl
theorem we_Mod_share : Cond.selects R_Mod y_Mod_share y_Mod_share ∈ zAll := zi 800 (by decide +kernel) rfl
theorem wb_Mod_share : Cond.code y_Mod_share b_Mod_share 5 (some .int) ∈ zAll := zi 801 (by decide +kernel) rfl
theorem wm_Mod_192 : Cond.methodLink R_Mod 192 y_Mod_isServer ∈ zAll := zi 802 (by decide +kernel) rfl
theorem wi_Mod_isServer : Cond.instanceMethod y_Mod_isServer ∈ zAll := zi 804 (by decide +kernel) rfl
theorem wb_Mod_isServer : Cond.code y_Mod_isServer b_Mod_isServer 2 (some .boolean) ∈ zAll := zi 805 (by decide +kernel) rfl
theorem wm_Law_70 : Cond.methodLink R_Law 70 y_Mod_moved ∈ zAll := zi 806 (by decide +kernel) rfl
theorem wi_Mod_moved : Cond.instanceMethod y_Mod_moved ∈ zAll := zi 807 (by decide +kernel) rfl
theorem we_Mod_moved : Cond.selects R_Mod y_Mod_moved y_Mod_moved ∈ zAll := zi 808 (by decide +kernel) rfl
theorem wb_Mod_moved : Cond.code y_Mod_moved b_Mod_moved 2 (some .int) ∈ zAll := zi 809 (by decide +kernel) rfl
theorem wm_Law_75 : Cond.methodLink R_Law 75 y_Mod_live ∈ zAll := zi 810 (by decide +kernel) rfl
theorem wi_Mod_live : Cond.instanceMethod y_Mod_live ∈ zAll := zi 811 (by decide +kernel) rfl
theorem we_Mod_live : Cond.selects R_Mod y_Mod_live y_Mod_live ∈ zAll := zi 812 (by decide +kernel) rfl
theorem wb_Mod_live : Cond.code y_Mod_live b_Mod_live 4 (some .boolean) ∈ zAll := zi 813 (by decide +kernel) rfl
theorem wm_Law_79 : Cond.methodLink R_Law 79 y_Mod_power ∈ zAll := zi 814 (by decide +kernel) rfl
theorem wi_Mod_power : Cond.instanceMethod y_Mod_power ∈ zAll := zi 815 (by decide +kernel) rfl
theorem we_Mod_power : Cond.selects R_Mod y_Mod_power y_Mod_power ∈ zAll := zi 816 (by decide +kernel) rfl
theorem wb_Mod_power : Cond.code y_Mod_power b_Mod_power 4 (some .boolean) ∈ zAll := zi 817 (by decide +kernel) rfl
theorem wm_Law_84 : Cond.methodLink R_Law 84 y_Mod_path ∈ zAll := zi 818 (by decide +kernel) rfl
theorem wi_Mod_path : Cond.instanceMethod y_Mod_path ∈ zAll := zi 819 (by decide +kernel) rfl
theorem we_Mod_path : Cond.selects R_Mod y_Mod_path y_Mod_path ∈ zAll := zi 820 (by decide +kernel) rfl
theorem wb_Mod_path : Cond.code y_Mod_path b_Mod_path 4 (some .boolean) ∈ zAll := zi 821 (by decide +kernel) rfl
theorem wm_Law_88 : Cond.methodLink R_Law 88 y_Mod_probe ∈ zAll := zi 822 (by decide +kernel) rfl
theorem wi_Mod_probe : Cond.instanceMethod y_Mod_probe ∈ zAll := zi 823 (by decide +kernel) rfl
theorem we_Mod_probe : Cond.selects R_Mod y_Mod_probe y_Mod_probe ∈ zAll := zi 824 (by decide +kernel) rfl
theorem wb_Mod_probe : Cond.code y_Mod_probe b_Mod_probe 5 (some .int) ∈ zAll := zi 825 (by decide +kernel) rfl
theorem wm_Mod_199 : Cond.methodLink R_Mod 199 y_Mod_ask ∈ zAll := zi 826 (by decide +kernel) rfl
theorem wi_Mod_ask : Cond.instanceMethod y_Mod_ask ∈ zAll := zi 828 (by decide +kernel) rfl
theorem wb_Mod_ask : Cond.code y_Mod_ask b_Mod_ask 5 (some .boolean) ∈ zAll := zi 829 (by decide +kernel) rfl
theorem wm_Mod_195 : Cond.methodLink R_Mod 195 y_Mod_meets ∈ zAll := zi 830 (by decide +kernel) rfl
theorem wi_Mod_meets : Cond.instanceMethod y_Mod_meets ∈ zAll := zi 832 (by decide +kernel) rfl
theorem wb_Mod_meets : Cond.code y_Mod_meets b_Mod_meets 3 (some .boolean) ∈ zAll := zi 833 (by decide +kernel) rfl
theorem wm_Law_92 : Cond.methodLink R_Law 92 y_Mod_held ∈ zAll := zi 834 (by decide +kernel) rfl
theorem wi_Mod_held : Cond.instanceMethod y_Mod_held ∈ zAll := zi 835 (by decide +kernel) rfl
theorem we_Mod_held : Cond.selects R_Mod y_Mod_held y_Mod_held ∈ zAll := zi 836 (by decide +kernel) rfl
theorem wb_Mod_held : Cond.code y_Mod_held b_Mod_held 4 (some .int) ∈ zAll := zi 837 (by decide +kernel) rfl
theorem wm_Law_97 : Cond.methodLink R_Law 97 y_Mod_tick ∈ zAll := zi 838 (by decide +kernel) rfl
theorem wi_Mod_tick : Cond.instanceMethod y_Mod_tick ∈ zAll := zi 839 (by decide +kernel) rfl
theorem we_Mod_tick : Cond.selects R_Mod y_Mod_tick y_Mod_tick ∈ zAll := zi 840 (by decide +kernel) rfl
theorem wb_Mod_tick : Cond.code y_Mod_tick b_Mod_tick 3 (some .boolean) ∈ zAll := zi 841 (by decide +kernel) rfl
theorem wm_Law_34 : Cond.methodLink R_Law 34 y_Mod_segment ∈ zAll := zi 842 (by decide +kernel) rfl
theorem wi_Mod_segment : Cond.instanceMethod y_Mod_segment ∈ zAll := zi 843 (by decide +kernel) rfl
theorem we_Mod_segment : Cond.selects R_Mod y_Mod_segment y_Mod_segment ∈ zAll := zi 844 (by decide +kernel) rfl
theorem wb_Mod_segment : Cond.code y_Mod_segment b_Mod_segment 11 (some .int) ∈ zAll := zi 845 (by decide +kernel) rfl
theorem wm_Mod_205 : Cond.methodLink R_Mod 205 y_Mod_digest ∈ zAll := zi 846 (by decide +kernel) rfl
theorem wm_Mod_209 : Cond.methodLink R_Mod 209 y_Mod_route ∈ zAll := zi 847 (by decide +kernel) rfl
theorem wi_Mod_route : Cond.instanceMethod y_Mod_route ∈ zAll := zi 849 (by decide +kernel) rfl
theorem wb_Mod_route : Cond.code y_Mod_route b_Mod_route 8 (some .int) ∈ zAll := zi 850 (by decide +kernel) rfl
theorem wm_Mod_213 : Cond.methodLink R_Mod 213 y_Mod_slot ∈ zAll := zi 851 (by decide +kernel) rfl
theorem wi_Mod_slot : Cond.instanceMethod y_Mod_slot ∈ zAll := zi 853 (by decide +kernel) rfl
theorem wb_Mod_slot : Cond.code y_Mod_slot b_Mod_slot 5 (some .int) ∈ zAll := zi 854 (by decide +kernel) rfl
theorem wm_Mod_216 : Cond.methodLink R_Mod 216 y_Mod_note ∈ zAll := zi 855 (by decide +kernel) rfl
theorem wi_Mod_note : Cond.instanceMethod y_Mod_note ∈ zAll := zi 857 (by decide +kernel) rfl
theorem wb_Mod_note : Cond.code y_Mod_note b_Mod_note 7 none ∈ zAll := zi 858 (by decide +kernel) rfl
theorem wm_Mod_233 : Cond.methodLink R_Mod 233 y_Mod_freeSlot ∈ zAll := zi 859 (by decide +kernel) rfl
theorem wi_Mod_freeSlot : Cond.instanceMethod y_Mod_freeSlot ∈ zAll := zi 861 (by decide +kernel) rfl
theorem wb_Mod_freeSlot : Cond.code y_Mod_freeSlot b_Mod_freeSlot 3 (some .int) ∈ zAll := zi 862 (by decide +kernel) rfl
theorem wm_Mod_226 : Cond.methodLink R_Mod 226 y_Mod_serve ∈ zAll := zi 863 (by decide +kernel) rfl
theorem wi_Mod_serve : Cond.instanceMethod y_Mod_serve ∈ zAll := zi 865 (by decide +kernel) rfl
theorem wb_Mod_serve : Cond.code y_Mod_serve b_Mod_serve 6 (some .int) ∈ zAll := zi 866 (by decide +kernel) rfl
theorem wm_Mod_236 : Cond.methodLink R_Mod 236 y_Mod_session ∈ zAll := zi 867 (by decide +kernel) rfl
theorem wi_Mod_session : Cond.instanceMethod y_Mod_session ∈ zAll := zi 869 (by decide +kernel) rfl
theorem wb_Mod_session : Cond.code y_Mod_session b_Mod_session 4 (some .int) ∈ zAll := zi 870 (by decide +kernel) rfl
theorem wm_Mod_240 : Cond.methodLink R_Mod 240 y_Mod_freeSession ∈ zAll := zi 871 (by decide +kernel) rfl
theorem wi_Mod_freeSession : Cond.instanceMethod y_Mod_freeSession ∈ zAll := zi 873 (by decide +kernel) rfl
theorem wb_Mod_freeSession : Cond.code y_Mod_freeSession b_Mod_freeSession 3 (some .int) ∈ zAll := zi 874 (by decide +kernel) rfl
theorem wm_Mod_243 : Cond.methodLink R_Mod 243 y_Mod_greet ∈ zAll := zi 875 (by decide +kernel) rfl
theorem wi_Mod_greet : Cond.instanceMethod y_Mod_greet ∈ zAll := zi 877 (by decide +kernel) rfl
theorem wb_Mod_greet : Cond.code y_Mod_greet b_Mod_greet 4 (some .int) ∈ zAll := zi 878 (by decide +kernel) rfl
theorem wm_Law_39 : Cond.methodLink R_Law 39 y_Mod_carrier ∈ zAll := zi 879 (by decide +kernel) rfl
theorem wi_Mod_carrier : Cond.instanceMethod y_Mod_carrier ∈ zAll := zi 880 (by decide +kernel) rfl
theorem we_Mod_carrier : Cond.selects R_Mod y_Mod_carrier y_Mod_carrier ∈ zAll := zi 881 (by decide +kernel) rfl
theorem wb_Mod_carrier : Cond.code y_Mod_carrier b_Mod_carrier 1 (some .int) ∈ zAll := zi 882 (by decide +kernel) rfl
theorem wm_Law_43 : Cond.methodLink R_Law 43 y_Mod_reply ∈ zAll := zi 883 (by decide +kernel) rfl
theorem wi_Mod_reply : Cond.instanceMethod y_Mod_reply ∈ zAll := zi 884 (by decide +kernel) rfl
theorem we_Mod_reply : Cond.selects R_Mod y_Mod_reply y_Mod_reply ∈ zAll := zi 885 (by decide +kernel) rfl
theorem wb_Mod_reply : Cond.code y_Mod_reply b_Mod_reply 1 (some .int) ∈ zAll := zi 886 (by decide +kernel) rfl
theorem wm_Law_47 : Cond.methodLink R_Law 47 y_Mod_taken ∈ zAll := zi 887 (by decide +kernel) rfl
theorem wi_Mod_taken : Cond.instanceMethod y_Mod_taken ∈ zAll := zi 888 (by decide +kernel) rfl
theorem we_Mod_taken : Cond.selects R_Mod y_Mod_taken y_Mod_taken ∈ zAll := zi 889 (by decide +kernel) rfl
theorem wb_Mod_taken : Cond.code y_Mod_taken b_Mod_taken 1 (some .int) ∈ zAll := zi 890 (by decide +kernel) rfl
theorem wm_Law_52 : Cond.methodLink R_Law 52 y_Mod_wire ∈ zAll := zi 891 (by decide +kernel) rfl
theorem wi_Mod_wire : Cond.instanceMethod y_Mod_wire ∈ zAll := zi 892 (by decide +kernel) rfl
theorem we_Mod_wire : Cond.selects R_Mod y_Mod_wire y_Mod_wire ∈ zAll := zi 893 (by decide +kernel) rfl
theorem wb_Mod_wire : Cond.code y_Mod_wire b_Mod_wire 3 (some .int) ∈ zAll := zi 894 (by decide +kernel) rfl
theorem wk_Mod_246 : Cond.constant R_Mod 246 (1157627944) ∈ zAll := zi 895 (by decide +kernel) rfl
theorem wk_Mod_247 : Cond.constant R_Mod 247 (1074135040) ∈ zAll := zi 896 (by decide +kernel) rfl
theorem wm_Mod_248 : Cond.methodLink R_Mod 248 y_Mod_five ∈ zAll := zi 897 (by decide +kernel) rfl
theorem wi_Mod_five : Cond.instanceMethod y_Mod_five ∈ zAll := zi 899 (by decide +kernel) rfl
theorem wb_Mod_five : Cond.code y_Mod_five b_Mod_five 9 (some .int) ∈ zAll := zi 900 (by decide +kernel) rfl
theorem wm_Mod_256 : Cond.methodLink R_Mod 256 y_Mod_checksum ∈ zAll := zi 901 (by decide +kernel) rfl
theorem wk_Mod_252 : Cond.constant R_Mod 252 (1157627928) ∈ zAll := zi 902 (by decide +kernel) rfl
theorem wk_Mod_253 : Cond.constant R_Mod 253 (1076822016) ∈ zAll := zi 903 (by decide +kernel) rfl
theorem wk_Mod_254 : Cond.constant R_Mod 254 (167772416) ∈ zAll := zi 904 (by decide +kernel) rfl
theorem wk_Mod_255 : Cond.constant R_Mod 255 (167772672) ∈ zAll := zi 905 (by decide +kernel) rfl
theorem wm_Law_101 : Cond.methodLink R_Law 101 y_Mod_entry ∈ zAll := zi 906 (by decide +kernel) rfl
theorem wi_Mod_entry : Cond.instanceMethod y_Mod_entry ∈ zAll := zi 907 (by decide +kernel) rfl
theorem we_Mod_entry : Cond.selects R_Mod y_Mod_entry y_Mod_entry ∈ zAll := zi 908 (by decide +kernel) rfl
theorem wb_Mod_entry : Cond.code y_Mod_entry b_Mod_entry 5 (some .int) ∈ zAll := zi 909 (by decide +kernel) rfl
theorem wm_Law_105 : Cond.methodLink R_Law 105 y_Mod_load ∈ zAll := zi 910 (by decide +kernel) rfl
theorem wi_Mod_load : Cond.instanceMethod y_Mod_load ∈ zAll := zi 911 (by decide +kernel) rfl
theorem we_Mod_load : Cond.selects R_Mod y_Mod_load y_Mod_load ∈ zAll := zi 912 (by decide +kernel) rfl
theorem wb_Mod_load : Cond.code y_Mod_load b_Mod_load 5 (some .int) ∈ zAll := zi 913 (by decide +kernel) rfl
theorem we_Dig_takeIn : Cond.selects R_Dig y_Dig_takeIn y_Dig_takeIn ∈ zAll := zj 0 (by decide +kernel) rfl
theorem we_Dig_round : Cond.selects R_Dig y_Dig_round y_Dig_round ∈ zAll := zj 1 (by decide +kernel) rfl
theorem we_Tab_takeFirstFree : Cond.selects R_Tab y_Tab_takeFirstFree y_Tab_takeFirstFree ∈ zAll := zj 2 (by decide +kernel) rfl
theorem we_PS_route : Cond.selects R_PS y_PS_route y_PS_route ∈ zAll := zj 3 (by decide +kernel) rfl
theorem we_PS_placeOf : Cond.selects R_PS y_PS_placeOf y_PS_placeOf ∈ zAll := zj 4 (by decide +kernel) rfl
theorem we_PS_deliver : Cond.selects R_PS y_PS_deliver y_PS_deliver ∈ zAll := zj 5 (by decide +kernel) rfl
theorem we_Srv_greet : Cond.selects R_Srv y_Srv_greet y_Srv_greet ∈ zAll := zj 6 (by decide +kernel) rfl
theorem we_Srv_goOn : Cond.selects R_Srv y_Srv_goOn y_Srv_goOn ∈ zAll := zj 7 (by decide +kernel) rfl
theorem we_Wir_putChecksum : Cond.selects R_Wir y_Wir_putChecksum y_Wir_putChecksum ∈ zAll := zj 8 (by decide +kernel) rfl
theorem we_PS_isBalancer : Cond.selects R_PS y_PS_isBalancer y_PS_isBalancer ∈ zAll := zj 9 (by decide +kernel) rfl
theorem we_PS_isServer : Cond.selects R_PS y_PS_isServer y_PS_isServer ∈ zAll := zj 10 (by decide +kernel) rfl
theorem we_Mod_digestOf : Cond.selects R_Mod y_Mod_digestOf y_Mod_digestOf ∈ zAll := zj 11 (by decide +kernel) rfl
theorem we_Mod_takeIn : Cond.selects R_Mod y_Mod_takeIn y_Mod_takeIn ∈ zAll := zj 12 (by decide +kernel) rfl
theorem we_Mod_rounds : Cond.selects R_Mod y_Mod_rounds y_Mod_rounds ∈ zAll := zj 13 (by decide +kernel) rfl
theorem we_Mod_mix : Cond.selects R_Mod y_Mod_mix y_Mod_mix ∈ zAll := zj 14 (by decide +kernel) rfl
theorem we_Mod_isBalancer : Cond.selects R_Mod y_Mod_isBalancer y_Mod_isBalancer ∈ zAll := zj 15 (by decide +kernel) rfl
theorem we_Mod_deal : Cond.selects R_Mod y_Mod_deal y_Mod_deal ∈ zAll := zj 16 (by decide +kernel) rfl
theorem we_Mod_ups : Cond.selects R_Mod y_Mod_ups y_Mod_ups ∈ zAll := zj 17 (by decide +kernel) rfl
theorem we_Mod_wish : Cond.selects R_Mod y_Mod_wish y_Mod_wish ∈ zAll := zj 18 (by decide +kernel) rfl
theorem we_Mod_isServer : Cond.selects R_Mod y_Mod_isServer y_Mod_isServer ∈ zAll := zj 19 (by decide +kernel) rfl
theorem we_Mod_ask : Cond.selects R_Mod y_Mod_ask y_Mod_ask ∈ zAll := zj 20 (by decide +kernel) rfl
theorem we_Mod_meets : Cond.selects R_Mod y_Mod_meets y_Mod_meets ∈ zAll := zj 21 (by decide +kernel) rfl
theorem we_Mod_route : Cond.selects R_Mod y_Mod_route y_Mod_route ∈ zAll := zj 22 (by decide +kernel) rfl
theorem we_Mod_slot : Cond.selects R_Mod y_Mod_slot y_Mod_slot ∈ zAll := zj 23 (by decide +kernel) rfl
theorem we_Mod_note : Cond.selects R_Mod y_Mod_note y_Mod_note ∈ zAll := zj 24 (by decide +kernel) rfl
theorem we_Mod_freeSlot : Cond.selects R_Mod y_Mod_freeSlot y_Mod_freeSlot ∈ zAll := zj 25 (by decide +kernel) rfl
theorem we_Mod_serve : Cond.selects R_Mod y_Mod_serve y_Mod_serve ∈ zAll := zj 26 (by decide +kernel) rfl
theorem we_Mod_session : Cond.selects R_Mod y_Mod_session y_Mod_session ∈ zAll := zj 27 (by decide +kernel) rfl
theorem we_Mod_freeSession : Cond.selects R_Mod y_Mod_freeSession y_Mod_freeSession ∈ zAll := zj 28 (by decide +kernel) rfl
theorem we_Mod_greet : Cond.selects R_Mod y_Mod_greet y_Mod_greet ∈ zAll := zj 29 (by decide +kernel) rfl
theorem we_Mod_five : Cond.selects R_Mod y_Mod_five y_Mod_five ∈ zAll := zj 30 (by decide +kernel) rfl
theorem wu_PS : ∀ w ∈ u_ws R_PS F_PS 11, w ∈ zAll := by decide +kernel
theorem wu_Bal : ∀ w ∈ u_ws R_Bal F_Bal 6, w ∈ zAll := by decide +kernel
theorem wu_Dig : ∀ w ∈ u_ws R_Dig F_Dig 6, w ∈ zAll := by decide +kernel
theorem wu_Ent : ∀ w ∈ u_ws R_Ent F_Ent 4, w ∈ zAll := by decide +kernel
theorem wu_Lst : ∀ w ∈ u_ws R_Lst F_Lst 3, w ∈ zAll := by decide +kernel
theorem wu_Srv : ∀ w ∈ u_ws R_Srv F_Srv 6, w ∈ zAll := by decide +kernel
theorem wu_Slo : ∀ w ∈ u_ws R_Slo F_Slo 4, w ∈ zAll := by decide +kernel
theorem wu_Stp : ∀ w ∈ u_ws R_Stp F_Stp 1, w ∈ zAll := by decide +kernel
theorem wu_Tab : ∀ w ∈ u_ws R_Tab F_Tab 5, w ∈ zAll := by decide +kernel
theorem wu_Wat : ∀ w ∈ u_ws R_Wat F_Wat 2, w ∈ zAll := by decide +kernel
theorem wu_Wir : ∀ w ∈ u_ws R_Wir F_Wir 1, w ∈ zAll := by decide +kernel
theorem wu_Mod : ∀ w ∈ u_ws R_Mod F_Mod 38, w ∈ zAll := by decide +kernel
end
section
section ZX
/-- the kinds of arrays: int, boolean, long; others behind them -/
abbrev zTy (K : Nat → ClassId) (M : List (ClassId × FieldType)) : List (ClassId × FieldType) := (K 0, .int) :: (K 1, .boolean) :: (K 2, .long) :: M
abbrev cI (K : Nat → ClassId) (a n : Nat) (f : Nat → Int32) : Nat × va_E := (a, .inl (K 0, n, .inl f))
abbrev cZ (K : Nat → ClassId) (a n : Nat) (f : Nat → Int32) : Nat × va_E := (a, .inl (K 1, n, .inl f))
abbrev cJ (K : Nat → ClassId) (a n : Nat) (f : Nat → Int64) : Nat × va_E := (a, .inl (K 2, n, .inr (.inl f)))
abbrev cO (a ci : Nat) (fs : List Value) : Nat × va_E := (a, .inr (ci, fs))
/-- what a method's walk has all the way: code, locals, words, tables, and that new cells are its own -/
def zF (p : Program) (s : State) (m : MethodId) (args : Array Value) (c : Code) (cc : ByteArray) (nL : Nat) (own : String) (D : va_G) (K : Nat → ClassId) (M : List (ClassId × FieldType)) (A : Nat → Prop) : Prop :=
  p.tables.exec = Jvm.exec ∧ c.code = cc ∧ c.maxLocals = nL ∧ s.vm.findClass own = some m.cls ∧ (∀ w ∈ zAll, w.before args s = true) ∧ va_K D zCl (zTy K M) s ∧ ∀ q : Nat, s.heap.size ≤ q → A q
/-- from every heap that holds ws, with locals that hold lv: the walk goes on well at pc with the stack st -/
def zW (p : Program) (l : Launch) (e : Env) (R : Room) (s : State) (m : MethodId) (args : Array Value) (below : List Frame) (meth : Method) (c : Code) (D : va_G) (A : Nat → Prop) (cells slots : Nat) (Q : State → Prop) (nL : Nat) (ws : va_W) (lv : List (Nat × Value)) (pc : Nat) (st : List Value) : Prop :=
  ∀ (H : Heap) (locs : List Loc) (ls : Array Slot), lv_has ls nL lv → va_P D zCl ws H → va_D A ws → va_S A s.heap H locs → W p l e R s m args below meth c H locs cells slots Q (F0 m pc ls st)
variable {p : Program} {l : Launch} {e : Env} {R : Room} {s : State} {m : MethodId} {args : Array Value} {below : List Frame} {meth : Method} {c : Code} {cells slots : Nat} {Q : State → Prop}
variable {cc : ByteArray} {nL pc : Nat} {rest : List Value} {D : va_G} {K : Nat → ClassId} {M : List (ClassId × FieldType)} {A : Nat → Prop} {ws : va_W} {lv : List (Nat × Value)} {own : String}
theorem zw (hF : zF p s m args c cc nL own D K M A) {w : Cond} (h : w ∈ zAll) : w.before args s = true := hF.2.2.2.2.1 w h
theorem zx_iconst (hF : zF p s m args c cc nL own D K M A) {n : Int} {v : Int32} (hdg : decode cc pc = .ok (.iconst n, 1)) (hv : Int32.ofInt n = v) (k : zW p l e R s m args below meth c D A cells slots Q nL ws lv (pc + 1) (.int v :: rest)) : zW p l e R s m args below meth c D A cells slots Q nL ws lv pc (rest) := fun _ _ _ h1 h2 h3 h4 => lv_iconst hF.1 hF.2.1 hdg hv (k _ _ _ h1 h2 h3 h4)
theorem zx_bipush (hF : zF p s m args c cc nL own D K M A) {n : Int} {v : Int32} (hdg : decode cc pc = .ok (.bipush n, 2)) (hv : (Int8.ofInt n).toInt32 = v) (k : zW p l e R s m args below meth c D A cells slots Q nL ws lv (pc + 2) (.int v :: rest)) : zW p l e R s m args below meth c D A cells slots Q nL ws lv pc (rest) := fun _ _ _ h1 h2 h3 h4 => lv_bipush hF.1 hF.2.1 hdg hv (k _ _ _ h1 h2 h3 h4)
theorem zx_sipush (hF : zF p s m args c cc nL own D K M A) {n : Int} {v : Int32} (hdg : decode cc pc = .ok (.sipush n, 3)) (hv : (Int16.ofInt n).toInt32 = v) (k : zW p l e R s m args below meth c D A cells slots Q nL ws lv (pc + 3) (.int v :: rest)) : zW p l e R s m args below meth c D A cells slots Q nL ws lv pc (rest) := fun _ _ _ h1 h2 h3 h4 => lv_sipush hF.1 hF.2.1 hdg hv (k _ _ _ h1 h2 h3 h4)
theorem zx_lconst (hF : zF p s m args c cc nL own D K M A) {n : Fin 2} {v : Int64} (hdg : decode cc pc = .ok (.lconst n, 1)) (hv : Int64.ofNat (n : Nat) = v) (k : zW p l e R s m args below meth c D A cells slots Q nL ws lv (pc + 1) (.long v :: rest)) : zW p l e R s m args below meth c D A cells slots Q nL ws lv pc (rest) := fun _ _ _ h1 h2 h3 h4 => lv_lconst hF.1 hF.2.1 hdg hv (k _ _ _ h1 h2 h3 h4)
theorem zx_ldc (hF : zF p s m args c cc nL own D K M A) {index : Nat} {v : Int32} (hc : Cond.constant own index v ∈ zAll) (hdg : decode cc pc = .ok (.ldc index, 2)) (k : zW p l e R s m args below meth c D A cells slots Q nL ws lv (pc + 2) (.int v :: rest)) : zW p l e R s m args below meth c D A cells slots Q nL ws lv pc (rest) := fun _ _ _ h1 h2 h3 h4 => lv_ldc hF.1 hF.2.1 hF.2.2.2.1 (zw hF hc) hdg (k _ _ _ h1 h2 h3 h4)
theorem zx_ldc2 (hF : zF p s m args c cc nL own D K M A) {index : Nat} {v : Int64} (hc : Cond.constantLong own index v ∈ zAll) (hdg : decode cc pc = .ok (.ldc2_w index, 3)) (k : zW p l e R s m args below meth c D A cells slots Q nL ws lv (pc + 3) (.long v :: rest)) : zW p l e R s m args below meth c D A cells slots Q nL ws lv pc (rest) := fun _ _ _ h1 h2 h3 h4 => lv_ldc2 hF.1 hF.2.1 hF.2.2.2.1 (zw hF hc) hdg (k _ _ _ h1 h2 h3 h4)
theorem zx_iload_n (hF : zF p s m args c cc nL own D K M A) {k0 : Fin 4} {i : Nat} {x : Int32} (hdg : decode cc pc = .ok (.iload_n k0, 1)) (hi : (k0 : Nat) = i) (q : Nat) (hq : lv[q]? = some (i, .int x)) (k : zW p l e R s m args below meth c D A cells slots Q nL ws lv (pc + 1) (.int x :: rest)) : zW p l e R s m args below meth c D A cells slots Q nL ws lv pc rest := fun _ _ _ h1 h2 h3 h4 => lv_iload_n hF.1 hF.2.1 hdg hi (lv_at h1 q hq) (k _ _ _ h1 h2 h3 h4)
theorem zx_iload (hF : zF p s m args c cc nL own D K M A) {i : Nat} {x : Int32} (hdg : decode cc pc = .ok (.iload i, 2)) (q : Nat) (hq : lv[q]? = some (i, .int x)) (k : zW p l e R s m args below meth c D A cells slots Q nL ws lv (pc + 2) (.int x :: rest)) : zW p l e R s m args below meth c D A cells slots Q nL ws lv pc rest := fun _ _ _ h1 h2 h3 h4 => lv_iload hF.1 hF.2.1 hdg (lv_at h1 q hq) (k _ _ _ h1 h2 h3 h4)
theorem zx_lload_n (hF : zF p s m args c cc nL own D K M A) {k0 : Fin 4} {i : Nat} {x : Int64} (hdg : decode cc pc = .ok (.lload_n k0, 1)) (hi : (k0 : Nat) = i) (q : Nat) (hq : lv[q]? = some (i, .long x)) (k : zW p l e R s m args below meth c D A cells slots Q nL ws lv (pc + 1) (.long x :: rest)) : zW p l e R s m args below meth c D A cells slots Q nL ws lv pc rest := fun _ _ _ h1 h2 h3 h4 => lv_lload_n hF.1 hF.2.1 hdg hi (lv_at h1 q hq) (k _ _ _ h1 h2 h3 h4)
theorem zx_lload (hF : zF p s m args c cc nL own D K M A) {i : Nat} {x : Int64} (hdg : decode cc pc = .ok (.lload i, 2)) (q : Nat) (hq : lv[q]? = some (i, .long x)) (k : zW p l e R s m args below meth c D A cells slots Q nL ws lv (pc + 2) (.long x :: rest)) : zW p l e R s m args below meth c D A cells slots Q nL ws lv pc rest := fun _ _ _ h1 h2 h3 h4 => lv_lload hF.1 hF.2.1 hdg (lv_at h1 q hq) (k _ _ _ h1 h2 h3 h4)
theorem zx_aload_n (hF : zF p s m args c cc nL own D K M A) {k0 : Fin 4} {i : Nat} {x : Nat} (hdg : decode cc pc = .ok (.aload_n k0, 1)) (hi : (k0 : Nat) = i) (q : Nat) (hq : lv[q]? = some (i, .ref x)) (k : zW p l e R s m args below meth c D A cells slots Q nL ws lv (pc + 1) (.ref x :: rest)) : zW p l e R s m args below meth c D A cells slots Q nL ws lv pc rest := fun _ _ _ h1 h2 h3 h4 => lv_aload_n hF.1 hF.2.1 hdg hi (lv_at h1 q hq) (k _ _ _ h1 h2 h3 h4)
theorem zx_aload (hF : zF p s m args c cc nL own D K M A) {i : Nat} {x : Nat} (hdg : decode cc pc = .ok (.aload i, 2)) (q : Nat) (hq : lv[q]? = some (i, .ref x)) (k : zW p l e R s m args below meth c D A cells slots Q nL ws lv (pc + 2) (.ref x :: rest)) : zW p l e R s m args below meth c D A cells slots Q nL ws lv pc rest := fun _ _ _ h1 h2 h3 h4 => lv_aload hF.1 hF.2.1 hdg (lv_at h1 q hq) (k _ _ _ h1 h2 h3 h4)
theorem zx_istore_n (hF : zF p s m args c cc nL own D K M A) {k0 : Fin 4} {i : Nat} {x : Int32} {lv' : List (Nat × Value)} (hdg : decode cc pc = .ok (.istore_n k0, 1)) (hi : (k0 : Nat) = i) (hn : i < nL) (hl : (i, Value.int x) :: lv.filter (fun q => !(q.1 == i) && !(q.1 + 1 == i && q.2.category == 2)) = lv') (k : zW p l e R s m args below meth c D A cells slots Q nL ws lv' (pc + 1) rest) : zW p l e R s m args below meth c D A cells slots Q nL ws lv pc (.int x :: rest) := fun _ _ _ h1 h2 h3 h4 => lv_istore_n hF.1 hF.2.1 hdg hi h1 hn hl (fun _ h5 => k _ _ _ h5 h2 h3 h4)
theorem zx_istore (hF : zF p s m args c cc nL own D K M A) {i : Nat} {x : Int32} {lv' : List (Nat × Value)} (hdg : decode cc pc = .ok (.istore i, 2)) (hn : i < nL) (hl : (i, Value.int x) :: lv.filter (fun q => !(q.1 == i) && !(q.1 + 1 == i && q.2.category == 2)) = lv') (k : zW p l e R s m args below meth c D A cells slots Q nL ws lv' (pc + 2) rest) : zW p l e R s m args below meth c D A cells slots Q nL ws lv pc (.int x :: rest) := fun _ _ _ h1 h2 h3 h4 => lv_istore hF.1 hF.2.1 hdg h1 hn hl (fun _ h5 => k _ _ _ h5 h2 h3 h4)
theorem zx_astore_n (hF : zF p s m args c cc nL own D K M A) {k0 : Fin 4} {i : Nat} {x : Nat} {lv' : List (Nat × Value)} (hdg : decode cc pc = .ok (.astore_n k0, 1)) (hi : (k0 : Nat) = i) (hn : i < nL) (hl : (i, Value.ref x) :: lv.filter (fun q => !(q.1 == i) && !(q.1 + 1 == i && q.2.category == 2)) = lv') (k : zW p l e R s m args below meth c D A cells slots Q nL ws lv' (pc + 1) rest) : zW p l e R s m args below meth c D A cells slots Q nL ws lv pc (.ref x :: rest) := fun _ _ _ h1 h2 h3 h4 => lv_astore_n hF.1 hF.2.1 hdg hi h1 hn hl (fun _ h5 => k _ _ _ h5 h2 h3 h4)
theorem zx_astore (hF : zF p s m args c cc nL own D K M A) {i : Nat} {x : Nat} {lv' : List (Nat × Value)} (hdg : decode cc pc = .ok (.astore i, 2)) (hn : i < nL) (hl : (i, Value.ref x) :: lv.filter (fun q => !(q.1 == i) && !(q.1 + 1 == i && q.2.category == 2)) = lv') (k : zW p l e R s m args below meth c D A cells slots Q nL ws lv' (pc + 2) rest) : zW p l e R s m args below meth c D A cells slots Q nL ws lv pc (.ref x :: rest) := fun _ _ _ h1 h2 h3 h4 => lv_astore hF.1 hF.2.1 hdg h1 hn hl (fun _ h5 => k _ _ _ h5 h2 h3 h4)
theorem zx_lstore_n (hF : zF p s m args c cc nL own D K M A) {k0 : Fin 4} {i : Nat} {x : Int64} {lv' : List (Nat × Value)} (hdg : decode cc pc = .ok (.lstore_n k0, 1)) (hi : (k0 : Nat) = i) (hn : i + 1 < nL) (hl : (i, Value.long x) :: lv.filter (fun q => !(q.1 == i) && (!(q.1 == i + 1) && !(q.1 + 1 == i && q.2.category == 2))) = lv') (k : zW p l e R s m args below meth c D A cells slots Q nL ws lv' (pc + 1) rest) : zW p l e R s m args below meth c D A cells slots Q nL ws lv pc (.long x :: rest) := fun _ _ _ h1 h2 h3 h4 => lv_lstore_n hF.1 hF.2.1 hdg hi h1 hn hl (fun _ h5 => k _ _ _ h5 h2 h3 h4)
theorem zx_lstore (hF : zF p s m args c cc nL own D K M A) {i : Nat} {x : Int64} {lv' : List (Nat × Value)} (hdg : decode cc pc = .ok (.lstore i, 2)) (hn : i + 1 < nL) (hl : (i, Value.long x) :: lv.filter (fun q => !(q.1 == i) && (!(q.1 == i + 1) && !(q.1 + 1 == i && q.2.category == 2))) = lv') (k : zW p l e R s m args below meth c D A cells slots Q nL ws lv' (pc + 2) rest) : zW p l e R s m args below meth c D A cells slots Q nL ws lv pc (.long x :: rest) := fun _ _ _ h1 h2 h3 h4 => lv_lstore hF.1 hF.2.1 hdg h1 hn hl (fun _ h5 => k _ _ _ h5 h2 h3 h4)
theorem zx_iinc (hF : zF p s m args c cc nL own D K M A) {i : Nat} {n : Int} {x v : Int32} {lv' : List (Nat × Value)} (hdg : decode cc pc = .ok (.iinc i n, 3)) (q : Nat) (hq : lv[q]? = some (i, .int x)) (hv : x + Int32.ofInt n = v) (hn : i < nL) (hl : (i, Value.int v) :: lv.filter (fun q => !(q.1 == i) && !(q.1 + 1 == i && q.2.category == 2)) = lv') (k : zW p l e R s m args below meth c D A cells slots Q nL ws lv' (pc + 3) rest) : zW p l e R s m args below meth c D A cells slots Q nL ws lv pc rest := fun _ _ _ h1 h2 h3 h4 => lv_iinc hF.1 hF.2.1 hdg h1 hq hv hn hl (fun _ h5 => k _ _ _ h5 h2 h3 h4)
theorem zx_iadd (hF : zF p s m args c cc nL own D K M A) {x y : Int32} (hdg : decode cc pc = .ok (.iadd, 1)) (k : zW p l e R s m args below meth c D A cells slots Q nL ws lv (pc + 1) (.int (x + y) :: rest)) : zW p l e R s m args below meth c D A cells slots Q nL ws lv pc (.int y :: .int x :: rest) := fun _ _ _ h1 h2 h3 h4 => lv_iadd hF.1 hF.2.1 hdg (k _ _ _ h1 h2 h3 h4)
theorem zx_isub (hF : zF p s m args c cc nL own D K M A) {x y : Int32} (hdg : decode cc pc = .ok (.isub, 1)) (k : zW p l e R s m args below meth c D A cells slots Q nL ws lv (pc + 1) (.int (x - y) :: rest)) : zW p l e R s m args below meth c D A cells slots Q nL ws lv pc (.int y :: .int x :: rest) := fun _ _ _ h1 h2 h3 h4 => lv_isub hF.1 hF.2.1 hdg (k _ _ _ h1 h2 h3 h4)
theorem zx_imul (hF : zF p s m args c cc nL own D K M A) {x y : Int32} (hdg : decode cc pc = .ok (.imul, 1)) (k : zW p l e R s m args below meth c D A cells slots Q nL ws lv (pc + 1) (.int (x * y) :: rest)) : zW p l e R s m args below meth c D A cells slots Q nL ws lv pc (.int y :: .int x :: rest) := fun _ _ _ h1 h2 h3 h4 => lv_imul hF.1 hF.2.1 hdg (k _ _ _ h1 h2 h3 h4)
theorem zx_iand (hF : zF p s m args c cc nL own D K M A) {x y : Int32} (hdg : decode cc pc = .ok (.iand, 1)) (k : zW p l e R s m args below meth c D A cells slots Q nL ws lv (pc + 1) (.int (x &&& y) :: rest)) : zW p l e R s m args below meth c D A cells slots Q nL ws lv pc (.int y :: .int x :: rest) := fun _ _ _ h1 h2 h3 h4 => lv_iand hF.1 hF.2.1 hdg (k _ _ _ h1 h2 h3 h4)
theorem zx_ior (hF : zF p s m args c cc nL own D K M A) {x y : Int32} (hdg : decode cc pc = .ok (.ior, 1)) (k : zW p l e R s m args below meth c D A cells slots Q nL ws lv (pc + 1) (.int (x ||| y) :: rest)) : zW p l e R s m args below meth c D A cells slots Q nL ws lv pc (.int y :: .int x :: rest) := fun _ _ _ h1 h2 h3 h4 => lv_ior hF.1 hF.2.1 hdg (k _ _ _ h1 h2 h3 h4)
theorem zx_ixor (hF : zF p s m args c cc nL own D K M A) {x y : Int32} (hdg : decode cc pc = .ok (.ixor, 1)) (k : zW p l e R s m args below meth c D A cells slots Q nL ws lv (pc + 1) (.int (x ^^^ y) :: rest)) : zW p l e R s m args below meth c D A cells slots Q nL ws lv pc (.int y :: .int x :: rest) := fun _ _ _ h1 h2 h3 h4 => lv_ixor hF.1 hF.2.1 hdg (k _ _ _ h1 h2 h3 h4)
theorem zx_ishl (hF : zF p s m args c cc nL own D K M A) {x y : Int32} (hdg : decode cc pc = .ok (.ishl, 1)) (k : zW p l e R s m args below meth c D A cells slots Q nL ws lv (pc + 1) (.int (x <<< (y &&& 31)) :: rest)) : zW p l e R s m args below meth c D A cells slots Q nL ws lv pc (.int y :: .int x :: rest) := fun _ _ _ h1 h2 h3 h4 => lv_ishl hF.1 hF.2.1 hdg (k _ _ _ h1 h2 h3 h4)
theorem zx_ishr (hF : zF p s m args c cc nL own D K M A) {x y : Int32} (hdg : decode cc pc = .ok (.ishr, 1)) (k : zW p l e R s m args below meth c D A cells slots Q nL ws lv (pc + 1) (.int (x >>> (y &&& 31)) :: rest)) : zW p l e R s m args below meth c D A cells slots Q nL ws lv pc (.int y :: .int x :: rest) := fun _ _ _ h1 h2 h3 h4 => lv_ishr hF.1 hF.2.1 hdg (k _ _ _ h1 h2 h3 h4)
theorem zx_idiv (hF : zF p s m args c cc nL own D K M A) {x y : Int32} (hdg : decode cc pc = .ok (.idiv, 1)) (hne : ¬ y = 0) (k : zW p l e R s m args below meth c D A cells slots Q nL ws lv (pc + 1) (.int (x / y) :: rest)) : zW p l e R s m args below meth c D A cells slots Q nL ws lv pc (.int y :: .int x :: rest) := fun _ _ _ h1 h2 h3 h4 => lv_idiv hF.1 hF.2.1 hdg hne (k _ _ _ h1 h2 h3 h4)
theorem zx_irem (hF : zF p s m args c cc nL own D K M A) {x y : Int32} (hdg : decode cc pc = .ok (.irem, 1)) (hne : ¬ y = 0) (k : zW p l e R s m args below meth c D A cells slots Q nL ws lv (pc + 1) (.int (x - x / y * y) :: rest)) : zW p l e R s m args below meth c D A cells slots Q nL ws lv pc (.int y :: .int x :: rest) := fun _ _ _ h1 h2 h3 h4 => lv_irem hF.1 hF.2.1 hdg hne (k _ _ _ h1 h2 h3 h4)
theorem zx_ladd (hF : zF p s m args c cc nL own D K M A) {x y : Int64} (hdg : decode cc pc = .ok (.ladd, 1)) (k : zW p l e R s m args below meth c D A cells slots Q nL ws lv (pc + 1) (.long (x + y) :: rest)) : zW p l e R s m args below meth c D A cells slots Q nL ws lv pc (.long y :: .long x :: rest) := fun _ _ _ h1 h2 h3 h4 => lv_ladd hF.1 hF.2.1 hdg (k _ _ _ h1 h2 h3 h4)
theorem zx_lsub (hF : zF p s m args c cc nL own D K M A) {x y : Int64} (hdg : decode cc pc = .ok (.lsub, 1)) (k : zW p l e R s m args below meth c D A cells slots Q nL ws lv (pc + 1) (.long (x - y) :: rest)) : zW p l e R s m args below meth c D A cells slots Q nL ws lv pc (.long y :: .long x :: rest) := fun _ _ _ h1 h2 h3 h4 => lv_lsub hF.1 hF.2.1 hdg (k _ _ _ h1 h2 h3 h4)
theorem zx_lmul (hF : zF p s m args c cc nL own D K M A) {x y : Int64} (hdg : decode cc pc = .ok (.lmul, 1)) (k : zW p l e R s m args below meth c D A cells slots Q nL ws lv (pc + 1) (.long (x * y) :: rest)) : zW p l e R s m args below meth c D A cells slots Q nL ws lv pc (.long y :: .long x :: rest) := fun _ _ _ h1 h2 h3 h4 => lv_lmul hF.1 hF.2.1 hdg (k _ _ _ h1 h2 h3 h4)
theorem zx_land (hF : zF p s m args c cc nL own D K M A) {x y : Int64} (hdg : decode cc pc = .ok (.land, 1)) (k : zW p l e R s m args below meth c D A cells slots Q nL ws lv (pc + 1) (.long (x &&& y) :: rest)) : zW p l e R s m args below meth c D A cells slots Q nL ws lv pc (.long y :: .long x :: rest) := fun _ _ _ h1 h2 h3 h4 => lv_land hF.1 hF.2.1 hdg (k _ _ _ h1 h2 h3 h4)
theorem zx_lor (hF : zF p s m args c cc nL own D K M A) {x y : Int64} (hdg : decode cc pc = .ok (.lor, 1)) (k : zW p l e R s m args below meth c D A cells slots Q nL ws lv (pc + 1) (.long (x ||| y) :: rest)) : zW p l e R s m args below meth c D A cells slots Q nL ws lv pc (.long y :: .long x :: rest) := fun _ _ _ h1 h2 h3 h4 => lv_lor hF.1 hF.2.1 hdg (k _ _ _ h1 h2 h3 h4)
theorem zx_lxor (hF : zF p s m args c cc nL own D K M A) {x y : Int64} (hdg : decode cc pc = .ok (.lxor, 1)) (k : zW p l e R s m args below meth c D A cells slots Q nL ws lv (pc + 1) (.long (x ^^^ y) :: rest)) : zW p l e R s m args below meth c D A cells slots Q nL ws lv pc (.long y :: .long x :: rest) := fun _ _ _ h1 h2 h3 h4 => lv_lxor hF.1 hF.2.1 hdg (k _ _ _ h1 h2 h3 h4)
theorem zx_ldiv (hF : zF p s m args c cc nL own D K M A) {x y : Int64} (hdg : decode cc pc = .ok (.ldiv, 1)) (hne : ¬ y = 0) (k : zW p l e R s m args below meth c D A cells slots Q nL ws lv (pc + 1) (.long (x / y) :: rest)) : zW p l e R s m args below meth c D A cells slots Q nL ws lv pc (.long y :: .long x :: rest) := fun _ _ _ h1 h2 h3 h4 => lv_ldiv hF.1 hF.2.1 hdg hne (k _ _ _ h1 h2 h3 h4)
theorem zx_lrem (hF : zF p s m args c cc nL own D K M A) {x y : Int64} (hdg : decode cc pc = .ok (.lrem, 1)) (hne : ¬ y = 0) (k : zW p l e R s m args below meth c D A cells slots Q nL ws lv (pc + 1) (.long (x - x / y * y) :: rest)) : zW p l e R s m args below meth c D A cells slots Q nL ws lv pc (.long y :: .long x :: rest) := fun _ _ _ h1 h2 h3 h4 => lv_lrem hF.1 hF.2.1 hdg hne (k _ _ _ h1 h2 h3 h4)
theorem zx_iushr (hF : zF p s m args c cc nL own D K M A) {x y v : Int32} (hdg : decode cc pc = .ok (.iushr, 1)) (hv : (x.toUInt32 >>> (y.toUInt32 &&& Int32.toUInt32 31)).toInt32 = v) (k : zW p l e R s m args below meth c D A cells slots Q nL ws lv (pc + 1) (.int v :: rest)) : zW p l e R s m args below meth c D A cells slots Q nL ws lv pc (.int y :: .int x :: rest) := fun _ _ _ h1 h2 h3 h4 => lv_iushr hF.1 hF.2.1 hdg hv (k _ _ _ h1 h2 h3 h4)
theorem zx_lushr (hF : zF p s m args c cc nL own D K M A) {x v : Int64} {y : Int32} (hdg : decode cc pc = .ok (.lushr, 1)) (hv : (x.toUInt64 >>> (y.toInt64.toUInt64 &&& Int64.toUInt64 63)).toInt64 = v) (k : zW p l e R s m args below meth c D A cells slots Q nL ws lv (pc + 1) (.long v :: rest)) : zW p l e R s m args below meth c D A cells slots Q nL ws lv pc (.int y :: .long x :: rest) := fun _ _ _ h1 h2 h3 h4 => lv_lushr hF.1 hF.2.1 hdg hv (k _ _ _ h1 h2 h3 h4)
theorem zx_lshl (hF : zF p s m args c cc nL own D K M A) {x v : Int64} {y : Int32} (hdg : decode cc pc = .ok (.lshl, 1)) (hv : x <<< (y.toInt64 &&& 63) = v) (k : zW p l e R s m args below meth c D A cells slots Q nL ws lv (pc + 1) (.long v :: rest)) : zW p l e R s m args below meth c D A cells slots Q nL ws lv pc (.int y :: .long x :: rest) := fun _ _ _ h1 h2 h3 h4 => lv_lshl hF.1 hF.2.1 hdg hv (k _ _ _ h1 h2 h3 h4)
theorem zx_i2l (hF : zF p s m args c cc nL own D K M A) {x : Int32} {v : Int64} (hdg : decode cc pc = .ok (.i2l, 1)) (hv : x.toInt64 = v) (k : zW p l e R s m args below meth c D A cells slots Q nL ws lv (pc + 1) (.long v :: rest)) : zW p l e R s m args below meth c D A cells slots Q nL ws lv pc (.int x :: rest) := fun _ _ _ h1 h2 h3 h4 => lv_i2l hF.1 hF.2.1 hdg hv (k _ _ _ h1 h2 h3 h4)
theorem zx_l2i (hF : zF p s m args c cc nL own D K M A) {x : Int64} {v : Int32} (hdg : decode cc pc = .ok (.l2i, 1)) (hv : x.toInt32 = v) (k : zW p l e R s m args below meth c D A cells slots Q nL ws lv (pc + 1) (.int v :: rest)) : zW p l e R s m args below meth c D A cells slots Q nL ws lv pc (.long x :: rest) := fun _ _ _ h1 h2 h3 h4 => lv_l2i hF.1 hF.2.1 hdg hv (k _ _ _ h1 h2 h3 h4)
theorem zx_lcmp (hF : zF p s m args c cc nL own D K M A) {x y : Int64} (hdg : decode cc pc = .ok (.lcmp, 1)) (k : zW p l e R s m args below meth c D A cells slots Q nL ws lv (pc + 1) (.int (lg_cmp x y) :: rest)) : zW p l e R s m args below meth c D A cells slots Q nL ws lv pc (.long y :: .long x :: rest) := fun _ _ _ h1 h2 h3 h4 => W.lcmp hF.1 hF.2.1 hdg (k _ _ _ h1 h2 h3 h4)
theorem zx_dup (hF : zF p s m args c cc nL own D K M A) {va : Value} (hdg : decode cc pc = .ok (.dup, 1)) (hva : va.category = 1) (k : zW p l e R s m args below meth c D A cells slots Q nL ws lv (pc + 1) (va :: va :: rest)) : zW p l e R s m args below meth c D A cells slots Q nL ws lv pc (va :: rest) := fun _ _ _ h1 h2 h3 h4 => lv_dup hF.1 hF.2.1 hdg hva (k _ _ _ h1 h2 h3 h4)
theorem zx_pop (hF : zF p s m args c cc nL own D K M A) {va : Value} (hdg : decode cc pc = .ok (.pop, 1)) (hva : va.category = 1) (k : zW p l e R s m args below meth c D A cells slots Q nL ws lv (pc + 1) (rest)) : zW p l e R s m args below meth c D A cells slots Q nL ws lv pc (va :: rest) := fun _ _ _ h1 h2 h3 h4 => lv_pop hF.1 hF.2.1 hdg hva (k _ _ _ h1 h2 h3 h4)
theorem zx_dup2 (hF : zF p s m args c cc nL own D K M A) {va vb : Value} (hdg : decode cc pc = .ok (.dup2, 1)) (hva : va.category = 1) (hvb : vb.category = 1) (k : zW p l e R s m args below meth c D A cells slots Q nL ws lv (pc + 1) (va :: vb :: va :: vb :: rest)) : zW p l e R s m args below meth c D A cells slots Q nL ws lv pc (va :: vb :: rest) := fun _ _ _ h1 h2 h3 h4 => lv_dup2_11 hF.1 hF.2.1 hdg hva hvb (k _ _ _ h1 h2 h3 h4)
theorem zx_topi {x : Int32} (y : Int32) (h : x = y) (k : zW p l e R s m args below meth c D A cells slots Q nL ws lv pc (.int y :: rest)) : zW p l e R s m args below meth c D A cells slots Q nL ws lv pc (.int x :: rest) := h ▸ k
theorem zx_topl {x : Int64} (y : Int64) (h : x = y) (k : zW p l e R s m args below meth c D A cells slots Q nL ws lv pc (.long y :: rest)) : zW p l e R s m args below meth c D A cells slots Q nL ws lv pc (.long x :: rest) := h ▸ k
theorem zx_if_eq (hF : zF p s m args c cc nL own D K M A) {x : Int32} {off : Int} {tgt : Nat} (hdg : decode cc pc = .ok (.ifCond .eq off, 3)) (ht : (pc : Int) + off = (tgt : Int)) (kt : x = 0 → zW p l e R s m args below meth c D A cells slots Q nL ws lv tgt rest) (kf : ¬ x = 0 → zW p l e R s m args below meth c D A cells slots Q nL ws lv (pc + 3) rest) : zW p l e R s m args below meth c D A cells slots Q nL ws lv pc (.int x :: rest) := fun _ _ _ h1 h2 h3 h4 => lv_if_eq hF.1 hF.2.1 hdg ht (fun h => kt h _ _ _ h1 h2 h3 h4) (fun h => kf h _ _ _ h1 h2 h3 h4)
theorem zx_if_ne (hF : zF p s m args c cc nL own D K M A) {x : Int32} {off : Int} {tgt : Nat} (hdg : decode cc pc = .ok (.ifCond .ne off, 3)) (ht : (pc : Int) + off = (tgt : Int)) (kt : ¬ x = 0 → zW p l e R s m args below meth c D A cells slots Q nL ws lv tgt rest) (kf : x = 0 → zW p l e R s m args below meth c D A cells slots Q nL ws lv (pc + 3) rest) : zW p l e R s m args below meth c D A cells slots Q nL ws lv pc (.int x :: rest) := fun _ _ _ h1 h2 h3 h4 => lv_if_ne hF.1 hF.2.1 hdg ht (fun h => kt h _ _ _ h1 h2 h3 h4) (fun h => kf h _ _ _ h1 h2 h3 h4)
theorem zx_if_lt (hF : zF p s m args c cc nL own D K M A) {x : Int32} {off : Int} {tgt : Nat} (hdg : decode cc pc = .ok (.ifCond .lt off, 3)) (ht : (pc : Int) + off = (tgt : Int)) (kt : x < 0 → zW p l e R s m args below meth c D A cells slots Q nL ws lv tgt rest) (kf : ¬ x < 0 → zW p l e R s m args below meth c D A cells slots Q nL ws lv (pc + 3) rest) : zW p l e R s m args below meth c D A cells slots Q nL ws lv pc (.int x :: rest) := fun _ _ _ h1 h2 h3 h4 => lv_if_lt hF.1 hF.2.1 hdg ht (fun h => kt h _ _ _ h1 h2 h3 h4) (fun h => kf h _ _ _ h1 h2 h3 h4)
theorem zx_if_ge (hF : zF p s m args c cc nL own D K M A) {x : Int32} {off : Int} {tgt : Nat} (hdg : decode cc pc = .ok (.ifCond .ge off, 3)) (ht : (pc : Int) + off = (tgt : Int)) (kt : 0 ≤ x → zW p l e R s m args below meth c D A cells slots Q nL ws lv tgt rest) (kf : ¬ 0 ≤ x → zW p l e R s m args below meth c D A cells slots Q nL ws lv (pc + 3) rest) : zW p l e R s m args below meth c D A cells slots Q nL ws lv pc (.int x :: rest) := fun _ _ _ h1 h2 h3 h4 => lv_if_ge hF.1 hF.2.1 hdg ht (fun h => kt h _ _ _ h1 h2 h3 h4) (fun h => kf h _ _ _ h1 h2 h3 h4)
theorem zx_if_gt (hF : zF p s m args c cc nL own D K M A) {x : Int32} {off : Int} {tgt : Nat} (hdg : decode cc pc = .ok (.ifCond .gt off, 3)) (ht : (pc : Int) + off = (tgt : Int)) (kt : 0 < x → zW p l e R s m args below meth c D A cells slots Q nL ws lv tgt rest) (kf : ¬ 0 < x → zW p l e R s m args below meth c D A cells slots Q nL ws lv (pc + 3) rest) : zW p l e R s m args below meth c D A cells slots Q nL ws lv pc (.int x :: rest) := fun _ _ _ h1 h2 h3 h4 => lv_if_gt hF.1 hF.2.1 hdg ht (fun h => kt h _ _ _ h1 h2 h3 h4) (fun h => kf h _ _ _ h1 h2 h3 h4)
theorem zx_if_le (hF : zF p s m args c cc nL own D K M A) {x : Int32} {off : Int} {tgt : Nat} (hdg : decode cc pc = .ok (.ifCond .le off, 3)) (ht : (pc : Int) + off = (tgt : Int)) (kt : x ≤ 0 → zW p l e R s m args below meth c D A cells slots Q nL ws lv tgt rest) (kf : ¬ x ≤ 0 → zW p l e R s m args below meth c D A cells slots Q nL ws lv (pc + 3) rest) : zW p l e R s m args below meth c D A cells slots Q nL ws lv pc (.int x :: rest) := fun _ _ _ h1 h2 h3 h4 => lv_if_le hF.1 hF.2.1 hdg ht (fun h => kt h _ _ _ h1 h2 h3 h4) (fun h => kf h _ _ _ h1 h2 h3 h4)
theorem zx_icmp_eq (hF : zF p s m args c cc nL own D K M A) {x y : Int32} {off : Int} {tgt : Nat} (hdg : decode cc pc = .ok (.if_icmp .eq off, 3)) (ht : (pc : Int) + off = (tgt : Int)) (kt : x = y → zW p l e R s m args below meth c D A cells slots Q nL ws lv tgt rest) (kf : ¬ x = y → zW p l e R s m args below meth c D A cells slots Q nL ws lv (pc + 3) rest) : zW p l e R s m args below meth c D A cells slots Q nL ws lv pc (.int y :: .int x :: rest) := fun _ _ _ h1 h2 h3 h4 => lv_icmp_eq hF.1 hF.2.1 hdg ht (fun h => kt h _ _ _ h1 h2 h3 h4) (fun h => kf h _ _ _ h1 h2 h3 h4)
theorem zx_icmp_ne (hF : zF p s m args c cc nL own D K M A) {x y : Int32} {off : Int} {tgt : Nat} (hdg : decode cc pc = .ok (.if_icmp .ne off, 3)) (ht : (pc : Int) + off = (tgt : Int)) (kt : ¬ x = y → zW p l e R s m args below meth c D A cells slots Q nL ws lv tgt rest) (kf : x = y → zW p l e R s m args below meth c D A cells slots Q nL ws lv (pc + 3) rest) : zW p l e R s m args below meth c D A cells slots Q nL ws lv pc (.int y :: .int x :: rest) := fun _ _ _ h1 h2 h3 h4 => lv_icmp_ne hF.1 hF.2.1 hdg ht (fun h => kt h _ _ _ h1 h2 h3 h4) (fun h => kf h _ _ _ h1 h2 h3 h4)
theorem zx_icmp_lt (hF : zF p s m args c cc nL own D K M A) {x y : Int32} {off : Int} {tgt : Nat} (hdg : decode cc pc = .ok (.if_icmp .lt off, 3)) (ht : (pc : Int) + off = (tgt : Int)) (kt : x < y → zW p l e R s m args below meth c D A cells slots Q nL ws lv tgt rest) (kf : ¬ x < y → zW p l e R s m args below meth c D A cells slots Q nL ws lv (pc + 3) rest) : zW p l e R s m args below meth c D A cells slots Q nL ws lv pc (.int y :: .int x :: rest) := fun _ _ _ h1 h2 h3 h4 => lv_icmp_lt hF.1 hF.2.1 hdg ht (fun h => kt h _ _ _ h1 h2 h3 h4) (fun h => kf h _ _ _ h1 h2 h3 h4)
theorem zx_icmp_ge (hF : zF p s m args c cc nL own D K M A) {x y : Int32} {off : Int} {tgt : Nat} (hdg : decode cc pc = .ok (.if_icmp .ge off, 3)) (ht : (pc : Int) + off = (tgt : Int)) (kt : y ≤ x → zW p l e R s m args below meth c D A cells slots Q nL ws lv tgt rest) (kf : ¬ y ≤ x → zW p l e R s m args below meth c D A cells slots Q nL ws lv (pc + 3) rest) : zW p l e R s m args below meth c D A cells slots Q nL ws lv pc (.int y :: .int x :: rest) := fun _ _ _ h1 h2 h3 h4 => lv_icmp_ge hF.1 hF.2.1 hdg ht (fun h => kt h _ _ _ h1 h2 h3 h4) (fun h => kf h _ _ _ h1 h2 h3 h4)
theorem zx_icmp_gt (hF : zF p s m args c cc nL own D K M A) {x y : Int32} {off : Int} {tgt : Nat} (hdg : decode cc pc = .ok (.if_icmp .gt off, 3)) (ht : (pc : Int) + off = (tgt : Int)) (kt : y < x → zW p l e R s m args below meth c D A cells slots Q nL ws lv tgt rest) (kf : ¬ y < x → zW p l e R s m args below meth c D A cells slots Q nL ws lv (pc + 3) rest) : zW p l e R s m args below meth c D A cells slots Q nL ws lv pc (.int y :: .int x :: rest) := fun _ _ _ h1 h2 h3 h4 => lv_icmp_gt hF.1 hF.2.1 hdg ht (fun h => kt h _ _ _ h1 h2 h3 h4) (fun h => kf h _ _ _ h1 h2 h3 h4)
theorem zx_icmp_le (hF : zF p s m args c cc nL own D K M A) {x y : Int32} {off : Int} {tgt : Nat} (hdg : decode cc pc = .ok (.if_icmp .le off, 3)) (ht : (pc : Int) + off = (tgt : Int)) (kt : x ≤ y → zW p l e R s m args below meth c D A cells slots Q nL ws lv tgt rest) (kf : ¬ x ≤ y → zW p l e R s m args below meth c D A cells slots Q nL ws lv (pc + 3) rest) : zW p l e R s m args below meth c D A cells slots Q nL ws lv pc (.int y :: .int x :: rest) := fun _ _ _ h1 h2 h3 h4 => lv_icmp_le hF.1 hF.2.1 hdg ht (fun h => kt h _ _ _ h1 h2 h3 h4) (fun h => kf h _ _ _ h1 h2 h3 h4)
theorem zx_goto (hF : zF p s m args c cc nL own D K M A) {off : Int} {tgt : Nat} (hdg : decode cc pc = .ok (.goto off, 3)) (ht : (pc : Int) + off = (tgt : Int)) (k : zW p l e R s m args below meth c D A cells slots Q nL ws lv tgt rest) : zW p l e R s m args below meth c D A cells slots Q nL ws lv pc rest := fun _ _ _ h1 h2 h3 h4 => lv_goto hF.1 hF.2.1 hdg ht (k _ _ _ h1 h2 h3 h4)
theorem zx_lv {lv' : List (Nat × Value)} {st : List Value} (ks : List Nat) (hl : lv_pick lv ks = lv') (k : zW p l e R s m args below meth c D A cells slots Q nL ws lv' pc st) : zW p l e R s m args below meth c D A cells slots Q nL ws lv pc st := fun _ _ _ h1 h2 h3 h4 => k _ _ _ (lv_sub h1 ks hl) h2 h3 h4
theorem zx_eq {ws' : va_W} {lv' : List (Nat × Value)} {st st' : List Value} (h1 : ws = ws') (h2 : lv = lv') (h3 : st = st') (k : zW p l e R s m args below meth c D A cells slots Q nL ws' lv' pc st') : zW p l e R s m args below meth c D A cells slots Q nL ws lv pc st := by subst h1; subst h2; subst h3; exact k
theorem zx_get (hF : zF p s m args c cc nL own D K M A) {C : String} {T : u_T} {N ci index a : Nat} (hin : ∀ w ∈ u_ws C T N, w ∈ zAll) (q0 : Nat) {fs : List Value} (he : ws[q0]? = some (a, .inr (ci, fs))) (hc : zCl[ci]? = some (C, T, N)) (k0 : Nat) (hk : k0 < N) (hlink : Cond.fieldLink own index (T k0).1 (T k0).2.1 (T k0).2.2.1 ∈ zAll) {v : Value} (hv : fs[k0]? = some v) (hdg : decode cc pc = .ok (.getfield index, 3)) (k : zW p l e R s m args below meth c D A cells slots Q nL ws lv (pc + 3) (v :: rest)) : zW p l e R s m args below meth c D A cells slots Q nL ws lv pc (.ref a :: rest) := fun _ _ _ h1 h2 h3 h4 => va_get hF.1 hF.2.1 hF.2.2.2.2.1 hin hF.2.2.2.1 hF.2.2.2.2.2.1 h2 q0 he hc k0 hk (zw hF hlink) (fun _ h => h) hv hdg (k _ _ _ h1 h2 h3 h4)
theorem zx_put (hF : zF p s m args c cc nL own D K M A) {C : String} {T : u_T} {N ci index a : Nat} (hin : ∀ w ∈ u_ws C T N, w ∈ zAll) (q0 : Nat) {fs : List Value} (he : ws[q0]? = some (a, .inr (ci, fs))) (hc : zCl[ci]? = some (C, T, N)) (k0 : Nat) (hk : k0 < N) (hlink : Cond.fieldLink own index (T k0).1 (T k0).2.1 (T k0).2.2.1 ∈ zAll) (ty0 : Nat → FieldType) (hty : ∀ k, k < N → parseFieldDescriptor (T k).2.2.1 = some (ty0 k)) (hnm : ∀ a, a < N → ∀ b, b < N → a ≠ b → (T a).2.1 ≠ (T b).2.1) (hfin : (T k0).2.2.2 = false) {ty : FieldType} {v : Value} (hd : parseFieldDescriptor (T k0).2.2.1 = some ty) (hn : narrow ty v = v) (hfit : fits ty v = true) (hl : k0 < fs.length) (hdg : decode cc pc = .ok (.putfield index, 3)) {ws' : va_W} (hw : ws.set q0 (a, .inr (ci, fs.set k0 v)) = ws') (k : zW p l e R s m args below meth c D A cells slots Q nL ws' lv (pc + 3) rest) : zW p l e R s m args below meth c D A cells slots Q nL ws lv pc (v :: .ref a :: rest) := fun _ _ _ h1 h2 h3 h4 => va_put hF.1 hF.2.1 hF.2.2.2.2.1 hin ty0 hty hnm hF.2.2.2.1 hF.2.2.2.2.2.1 h2 h3 h4 q0 he hc k0 hk (zw hF hlink) (fun _ h => h) hfin hd hn hfit hl hdg (fun _ _ h5 h6 h7 => k _ _ _ h1 (hw ▸ h5) (hw ▸ h6) h7)
theorem zx_putF (hF : zF p s m args c cc nL own D K M A) {C : String} {T : u_T} {N ci index a : Nat} (hin : ∀ w ∈ u_ws C T N, w ∈ zAll) (q0 : Nat) {fs : List Value} (he : ws[q0]? = some (a, .inr (ci, fs))) (hc : zCl[ci]? = some (C, T, N)) (k0 : Nat) (hk : k0 < N) (hlink : Cond.fieldLink own index (T k0).1 (T k0).2.1 (T k0).2.2.1 ∈ zAll) (ty0 : Nat → FieldType) (hty : ∀ k, k < N → parseFieldDescriptor (T k).2.2.1 = some (ty0 k)) (hnm : ∀ a, a < N → ∀ b, b < N → a ≠ b → (T a).2.1 ≠ (T b).2.1) (hfin : (T k0).2.2.2 = true) (hin2 : meth.name = "<init>") (hdecl : (T k0).1 = own) {ty : FieldType} {v : Value} (hd : parseFieldDescriptor (T k0).2.2.1 = some ty) (hn : narrow ty v = v) (hfit : fits ty v = true) (hl : k0 < fs.length) (hdg : decode cc pc = .ok (.putfield index, 3)) {ws' : va_W} (hw : ws.set q0 (a, .inr (ci, fs.set k0 v)) = ws') (k : zW p l e R s m args below meth c D A cells slots Q nL ws' lv (pc + 3) rest) : zW p l e R s m args below meth c D A cells slots Q nL ws lv pc (v :: .ref a :: rest) := fun _ _ _ h1 h2 h3 h4 => va_putF hF.1 hF.2.1 hF.2.2.2.2.1 hin ty0 hty hnm hF.2.2.2.1 hF.2.2.2.2.2.1 h2 h3 h4 q0 he hc k0 hk (zw hF hlink) (fun _ h => h) hfin hin2 hdecl hd hn hfit hl hdg (fun _ _ h5 h6 h7 => k _ _ _ h1 (hw ▸ h5) (hw ▸ h6) h7)
theorem zx_iald (hF : zF p s m args c cc nL own D K M A) (q0 : Nat) {a n : Nat} {f : Nat → Int32} (ha : ws[q0]? = some (cI K a n f)) {i : Int32} (hi : vp_in i n) (hdg : decode cc pc = .ok (.iaload, 1)) (k : zW p l e R s m args below meth c D A cells slots Q nL ws lv (pc + 1) (.int (f i.toNatClampNeg) :: rest)) : zW p l e R s m args below meth c D A cells slots Q nL ws lv pc (.int i :: .ref a :: rest) := fun _ _ _ h1 h2 h3 h4 => va_iald hF.1 hF.2.1 hF.2.2.2.2.2.1 h2 q0 0 ha rfl hi hdg (k _ _ _ h1 h2 h3 h4)
theorem zx_ialdn (hF : zF p s m args c cc nL own D K M A) (q0 : Nat) {a n : Nat} {f : Nat → Int32} (ha : ws[q0]? = some (cI K a n f)) {i : Nat} (hi : i < n) (hn : n < 2 ^ 31) (hdg : decode cc pc = .ok (.iaload, 1)) (k : zW p l e R s m args below meth c D A cells slots Q nL ws lv (pc + 1) (.int (f i) :: rest)) : zW p l e R s m args below meth c D A cells slots Q nL ws lv pc (.int (nI i) :: .ref a :: rest) := zx_iald hF q0 ha (vp_in_nI hi hn) hdg (by rw [nI_clamp (Nat.lt_trans hi hn)]; exact k)
theorem zx_zald (hF : zF p s m args c cc nL own D K M A) (q0 : Nat) {a n : Nat} {f : Nat → Int32} (ha : ws[q0]? = some (cZ K a n f)) {i : Int32} (hi : vp_in i n) (hdg : decode cc pc = .ok (.baload, 1)) (k : zW p l e R s m args below meth c D A cells slots Q nL ws lv (pc + 1) (.int (f i.toNatClampNeg) :: rest)) : zW p l e R s m args below meth c D A cells slots Q nL ws lv pc (.int i :: .ref a :: rest) := fun _ _ _ h1 h2 h3 h4 => va_zald hF.1 hF.2.1 hF.2.2.2.2.2.1 h2 q0 1 ha rfl hi hdg (k _ _ _ h1 h2 h3 h4)
theorem zx_zaldn (hF : zF p s m args c cc nL own D K M A) (q0 : Nat) {a n : Nat} {f : Nat → Int32} (ha : ws[q0]? = some (cZ K a n f)) {i : Nat} (hi : i < n) (hn : n < 2 ^ 31) (hdg : decode cc pc = .ok (.baload, 1)) (k : zW p l e R s m args below meth c D A cells slots Q nL ws lv (pc + 1) (.int (f i) :: rest)) : zW p l e R s m args below meth c D A cells slots Q nL ws lv pc (.int (nI i) :: .ref a :: rest) := zx_zald hF q0 ha (vp_in_nI hi hn) hdg (by rw [nI_clamp (Nat.lt_trans hi hn)]; exact k)
theorem zx_lald (hF : zF p s m args c cc nL own D K M A) (q0 : Nat) {a n : Nat} {f : Nat → Int64} (ha : ws[q0]? = some (cJ K a n f)) {i : Int32} (hi : vp_in i n) (hdg : decode cc pc = .ok (.laload, 1)) (k : zW p l e R s m args below meth c D A cells slots Q nL ws lv (pc + 1) (.long (f i.toNatClampNeg) :: rest)) : zW p l e R s m args below meth c D A cells slots Q nL ws lv pc (.int i :: .ref a :: rest) := fun _ _ _ h1 h2 h3 h4 => va_lald hF.1 hF.2.1 hF.2.2.2.2.2.1 h2 q0 2 ha rfl hi hdg (k _ _ _ h1 h2 h3 h4)
theorem zx_laldn (hF : zF p s m args c cc nL own D K M A) (q0 : Nat) {a n : Nat} {f : Nat → Int64} (ha : ws[q0]? = some (cJ K a n f)) {i : Nat} (hi : i < n) (hn : n < 2 ^ 31) (hdg : decode cc pc = .ok (.laload, 1)) (k : zW p l e R s m args below meth c D A cells slots Q nL ws lv (pc + 1) (.long (f i) :: rest)) : zW p l e R s m args below meth c D A cells slots Q nL ws lv pc (.int (nI i) :: .ref a :: rest) := zx_lald hF q0 ha (vp_in_nI hi hn) hdg (by rw [nI_clamp (Nat.lt_trans hi hn)]; exact k)
theorem zx_iast (hF : zF p s m args c cc nL own D K M A) (q0 : Nat) {a n : Nat} {f : Nat → Int32} (ha : ws[q0]? = some (cI K a n f)) {i : Int32} {x : Int32} (hi : vp_in i n) (hdg : decode cc pc = .ok (.iastore, 1)) {ws' : va_W} (hw : ws.set q0 (cI K a n (upd f i.toNatClampNeg x)) = ws') (k : zW p l e R s m args below meth c D A cells slots Q nL ws' lv (pc + 1) rest) : zW p l e R s m args below meth c D A cells slots Q nL ws lv pc (.int x :: .int i :: .ref a :: rest) := fun _ _ _ h1 h2 h3 h4 => va_iast hF.1 hF.2.1 hF.2.2.2.2.2.1 h2 h3 h4 q0 0 ha rfl hi hdg (fun _ _ h5 h6 h7 => k _ _ _ h1 (hw ▸ h5) (hw ▸ h6) h7)
theorem zx_iastn (hF : zF p s m args c cc nL own D K M A) (q0 : Nat) {a n : Nat} {f : Nat → Int32} (ha : ws[q0]? = some (cI K a n f)) {i : Nat} {x : Int32} (hi : i < n) (hn : n < 2 ^ 31) (hdg : decode cc pc = .ok (.iastore, 1)) {ws' : va_W} (hw : ws.set q0 (cI K a n (upd f i x)) = ws') (k : zW p l e R s m args below meth c D A cells slots Q nL ws' lv (pc + 1) rest) : zW p l e R s m args below meth c D A cells slots Q nL ws lv pc (.int x :: .int (nI i) :: .ref a :: rest) := zx_iast hF q0 ha (vp_in_nI hi hn) hdg (by rw [nI_clamp (Nat.lt_trans hi hn)]; exact hw) k
theorem zx_zast (hF : zF p s m args c cc nL own D K M A) (q0 : Nat) {a n : Nat} {f : Nat → Int32} (ha : ws[q0]? = some (cZ K a n f)) {i : Int32} {x : Int32} (hi : vp_in i n) (hdg : decode cc pc = .ok (.bastore, 1)) {ws' : va_W} (hw : ws.set q0 (cZ K a n (upd f i.toNatClampNeg (vp_nar .boolean x))) = ws') (k : zW p l e R s m args below meth c D A cells slots Q nL ws' lv (pc + 1) rest) : zW p l e R s m args below meth c D A cells slots Q nL ws lv pc (.int x :: .int i :: .ref a :: rest) := fun _ _ _ h1 h2 h3 h4 => va_zast hF.1 hF.2.1 hF.2.2.2.2.2.1 h2 h3 h4 q0 1 ha rfl hi hdg (fun _ _ h5 h6 h7 => k _ _ _ h1 (hw ▸ h5) (hw ▸ h6) h7)
theorem zx_zastn (hF : zF p s m args c cc nL own D K M A) (q0 : Nat) {a n : Nat} {f : Nat → Int32} (ha : ws[q0]? = some (cZ K a n f)) {i : Nat} {x : Int32} (hi : i < n) (hn : n < 2 ^ 31) (hx : vp_nar .boolean x = x) (hdg : decode cc pc = .ok (.bastore, 1)) {ws' : va_W} (hw : ws.set q0 (cZ K a n (upd f i x)) = ws') (k : zW p l e R s m args below meth c D A cells slots Q nL ws' lv (pc + 1) rest) : zW p l e R s m args below meth c D A cells slots Q nL ws lv pc (.int x :: .int (nI i) :: .ref a :: rest) := zx_zast hF q0 ha (vp_in_nI hi hn) hdg (by rw [nI_clamp (Nat.lt_trans hi hn)]; rw [hx]; exact hw) k
theorem zx_last (hF : zF p s m args c cc nL own D K M A) (q0 : Nat) {a n : Nat} {f : Nat → Int64} (ha : ws[q0]? = some (cJ K a n f)) {i : Int32} {x : Int64} (hi : vp_in i n) (hdg : decode cc pc = .ok (.lastore, 1)) {ws' : va_W} (hw : ws.set q0 (cJ K a n (vp_updL f i.toNatClampNeg x)) = ws') (k : zW p l e R s m args below meth c D A cells slots Q nL ws' lv (pc + 1) rest) : zW p l e R s m args below meth c D A cells slots Q nL ws lv pc (.long x :: .int i :: .ref a :: rest) := fun _ _ _ h1 h2 h3 h4 => va_last hF.1 hF.2.1 hF.2.2.2.2.2.1 h2 h3 h4 q0 2 ha rfl hi hdg (fun _ _ h5 h6 h7 => k _ _ _ h1 (hw ▸ h5) (hw ▸ h6) h7)
theorem zx_lastn (hF : zF p s m args c cc nL own D K M A) (q0 : Nat) {a n : Nat} {f : Nat → Int64} (ha : ws[q0]? = some (cJ K a n f)) {i : Nat} {x : Int64} (hi : i < n) (hn : n < 2 ^ 31) (hdg : decode cc pc = .ok (.lastore, 1)) {ws' : va_W} (hw : ws.set q0 (cJ K a n (vp_updL f i x)) = ws') (k : zW p l e R s m args below meth c D A cells slots Q nL ws' lv (pc + 1) rest) : zW p l e R s m args below meth c D A cells slots Q nL ws lv pc (.long x :: .int (nI i) :: .ref a :: rest) := zx_last hF q0 ha (vp_in_nI hi hn) hdg (by rw [nI_clamp (Nat.lt_trans hi hn)]; exact hw) k
theorem zx_aldq (hF : zF p s m args c cc nL own D K M A) (q0 t0 : Nat) {a b : Nat} {cA : ClassId} {C : String} {n : Nat} {f : Nat → Option Nat} (ha : ws[q0]? = some (a, .inl (cA, n, .inr (.inr (.inr (.inr f)))))) (ht : (zTy K M)[t0]? = some (cA, .object C)) {i : Int32} (hi : vp_in i n) (hf : f i.toNatClampNeg = some b) (hdg : decode cc pc = .ok (.aaload, 1)) (k : zW p l e R s m args below meth c D A cells slots Q nL ws lv (pc + 1) (.ref b :: rest)) : zW p l e R s m args below meth c D A cells slots Q nL ws lv pc (.int i :: .ref a :: rest) := fun _ _ _ h1 h2 h3 h4 => va_aldq hF.1 hF.2.1 hF.2.2.2.2.2.1 h2 q0 t0 ha ht hi hdg (by rw [hf]; exact k _ _ _ h1 h2 h3 h4)
theorem zx_alen (hF : zF p s m args c cc nL own D K M A) (q0 t0 : Nat) {a : Nat} {cA : ClassId} {x : vp_A} (ha : ws[q0]? = some (a, .inl (cA, x))) {ty : FieldType} (ht : (zTy K M)[t0]? = some (cA, ty)) {v : Int32} (hv : nI x.1 = v) (hdg : decode cc pc = .ok (.arraylength, 1)) (k : zW p l e R s m args below meth c D A cells slots Q nL ws lv (pc + 1) (.int v :: rest)) : zW p l e R s m args below meth c D A cells slots Q nL ws lv pc (.ref a :: rest) := fun _ _ _ h1 h2 h3 h4 => va_alen hF.1 hF.2.1 hF.2.2.2.2.2.1 h2 q0 t0 ha ht hv hdg (k _ _ _ h1 h2 h3 h4)
/-- a method's start: its world stands, at a heap of size sz -/
def zA (D : va_G) (K : Nat → ClassId) (M : List (ClassId × FieldType)) (w0 : va_W) (sz : Nat) (U : State) : Prop := U.heap.size = sz ∧ va_P D zCl w0 U.heap ∧ va_K D zCl (zTy K M) U ∧ va_D (fun _ => True) w0
/-- .. and its end -/
def zB (D : va_G) (K : Nat → ClassId) (M : List (ClassId × FieldType)) (A : Nat → Prop) (w1 : va_W) (t : State) : Prop := va_P D zCl w1 t.heap ∧ va_K D zCl (zTy K M) t ∧ va_D A w1
abbrev zQi (D : va_G) (K : Nat → ClassId) (M : List (ClassId × FieldType)) (r : Int32) (w1 : va_W) (A : Nat → Prop) : Array Value → State → Outcome → State → Prop := va_Qi (fun x (_ : Unit) => x = r) (fun _ => zB D K M A w1) A
abbrev zQl (D : va_G) (K : Nat → ClassId) (M : List (ClassId × FieldType)) (r : Int64) (w1 : va_W) (A : Nat → Prop) : Array Value → State → Outcome → State → Prop := va_Ql (fun x (_ : Unit) => x = r) (fun _ => zB D K M A w1) A
abbrev zQv (D : va_G) (K : Nat → ClassId) (M : List (ClassId × FieldType)) (w1 : va_W) (A : Nat → Prop) : Array Value → State → Outcome → State → Prop := va_Qv (fun (_ : Unit) => True) (fun _ => zB D K M A w1) A
/-- of a maker: the new cells' addresses are u's -/
abbrev zQn (D : va_G) (K : Nat → ClassId) (M : List (ClassId × FieldType)) (w1 : (Nat → Nat) → va_W) (A : Nat → Prop) : Array Value → State → Outcome → State → Prop := va_Qv (fun (_ : Nat → Nat) => True) (fun u => zB D K M A (w1 u)) A
abbrev zM (l : Launch) (y : MethodName) (Ys : List Cond) (rm : Room) (mc ms : Nat) (D : va_G) (K : Nat → ClassId) (M : List (ClassId × FieldType)) (av : List Value) (w0 : va_W) (sz : Nat) (QC : (Nat → Prop) → Array Value → State → Outcome → State → Prop) : Prop :=
  Met l y Ys rm (va_Pc av (zA D K M w0 sz)) (QC (va_A w0 sz)) mc ms (va_A w0 sz)
theorem zx_head {y : MethodName} {rm : Room} {mc ms : Nat} {av : List Value} {w0 : va_W} {sz : Nat} {ret : Option FieldType} {QC : (Nat → Prop) → Array Value → State → Outcome → State → Prop} (hy : plainName y.cls = true) (hav : (lg_sl av).length ≤ nL)
    (body : ∀ (p : Program) (e : Env) (s : State) (m : MethodId) (args : Array Value) (below : List Frame) (meth : Method) (c : Code) (A : Nat → Prop), zF p s m args c cc nL y.cls D K M A → meth.sig.returnType = ret → meth.locks = false → meth.name = y.name →
      zW p l e rm s m args below meth c D A 0 0 (MQ below (QC A) args s mc ms A) nL w0 (lv_args 0 av) 0 []) : zM l y (zT y cc nL ret) rm mc ms D K M av w0 sz QC := by
  refine Met.ofW (cc := cc) (maxL := nL) (ret := ret) hy rfl ?_
  intro p e s m args below meth c s₁ B hml hv
  obtain ⟨rfl, hsz, hP, hK, hD0⟩ := hv
  subst hsz
  have hts := atoms_spec (ws := zT y cc nL ret) B.pre
  have hown : s.vm.findClass y.cls = some m.cls := findClass_of_methodNamed B.named
  have hin : meth.name = y.name := (name_of_methodNamed B.named B.method).1
  have hl := lv_entry av hav
  rw [lg_entry_eq]
  exact body p e s m av.toArray below meth c _ ⟨B.exec, B.bytes, hml, hown, fun w h => hts w (List.mem_cons_of_mem _ h), hK, fun q h => Or.inr h⟩ B.returns B.notSynchronized hin s.heap [] _ hl hP (hD0.self (sz := s.heap.size)) va_S.rf
theorem zx_iret (hF : zF p s m args c cc nL own D K M A) (hr : meth.sig.returnType = some .int) (hlk : meth.locks = false) {v r : Int32} {w1 : va_W} (hv : v = r) (hw : ws = w1) (hdg : decode cc pc = .ok (.ireturn, 1)) : zW p l e R s m args below meth c D A cells slots (MQ below (zQi D K M r w1 A) args s cells slots A) nL ws lv pc [.int v] := fun _ _ _ h1 h2 h3 h4 => W.iret hF.1 hF.2.1 hr (fun t ht hW => ⟨⟨v, (), rfl, hv, by rw [ht, ← hw]; exact h2, va_K.moved hW.alike hF.2.2.2.2.2.1, hw ▸ h3⟩, h4.F ht⟩) h4.2.2 hdg hlk
theorem zx_zret (hF : zF p s m args c cc nL own D K M A) {ty : FieldType} (hr : meth.sig.returnType = some ty) (hlk : meth.locks = false) {v r : Int32} {w1 : va_W} (hn : narrow ty (.int v) = .int v) (hv : v = r) (hw : ws = w1) (hdg : decode cc pc = .ok (.ireturn, 1)) : zW p l e R s m args below meth c D A cells slots (MQ below (zQi D K M r w1 A) args s cells slots A) nL ws lv pc [.int v] := fun _ _ _ h1 h2 h3 h4 => W.zret hF.1 hF.2.1 hr hn (fun t ht hW => ⟨⟨v, (), rfl, hv, by rw [ht, ← hw]; exact h2, va_K.moved hW.alike hF.2.2.2.2.2.1, hw ▸ h3⟩, h4.F ht⟩) h4.2.2 hdg hlk
theorem zx_lret (hF : zF p s m args c cc nL own D K M A) (hr : meth.sig.returnType = some .long) (hlk : meth.locks = false) {v r : Int64} {w1 : va_W} (hv : v = r) (hw : ws = w1) (hdg : decode cc pc = .ok (.lreturn, 1)) : zW p l e R s m args below meth c D A cells slots (MQ below (zQl D K M r w1 A) args s cells slots A) nL ws lv pc [.long v] := fun _ _ _ h1 h2 h3 h4 => W.lret hF.1 hF.2.1 hr (fun t ht hW => ⟨⟨v, (), rfl, hv, by rw [ht, ← hw]; exact h2, va_K.moved hW.alike hF.2.2.2.2.2.1, hw ▸ h3⟩, h4.F ht⟩) h4.2.2 hdg hlk
theorem zx_vret (hF : zF p s m args c cc nL own D K M A) (hr : meth.sig.returnType = none) (hlk : meth.locks = false) {w1 : va_W} (hw : ws = w1) (hdg : decode cc pc = .ok (.return_, 1)) : zW p l e R s m args below meth c D A cells slots (MQ below (zQv D K M w1 A) args s cells slots A) nL ws lv pc [] := fun _ _ _ h1 h2 h3 h4 => W.vret hF.1 hF.2.1 hr (fun t ht hW => ⟨⟨(), rfl, trivial, by rw [ht, ← hw]; exact h2, va_K.moved hW.alike hF.2.2.2.2.2.1, hw ▸ h3⟩, h4.F ht⟩) h4.2.2 hdg hlk
theorem zx_nret (hF : zF p s m args c cc nL own D K M A) (hr : meth.sig.returnType = none) (hlk : meth.locks = false) (u : Nat → Nat) {w1 : (Nat → Nat) → va_W} (hw : ws = w1 u) (hdg : decode cc pc = .ok (.return_, 1)) : zW p l e R s m args below meth c D A cells slots (MQ below (zQn D K M w1 A) args s cells slots A) nL ws lv pc [] := fun _ _ _ h1 h2 h3 h4 => W.vret hF.1 hF.2.1 hr (fun t ht hW => ⟨⟨u, rfl, trivial, by rw [ht, ← hw]; exact h2, va_K.moved hW.alike hF.2.2.2.2.2.1, hw ▸ h3⟩, h4.F ht⟩) h4.2.2 hdg hlk
/-- the cells xs at the places is -/
def zset : va_W → List Nat → va_W → va_W
  | ws, i :: is, x :: xs => zset (ws.set i x) is xs
  | ws, _, _ => ws
theorem zset_nil (ws xs : va_W) : zset ws [] xs = ws := by cases xs <;> rfl
theorem zset_out : ∀ (is : List Nat) (ws xs : va_W) (k : Nat), k ∉ is → (zset ws is xs)[k]? = ws[k]?
  | [], ws, xs, k, _ => by rw [zset_nil]
  | _ :: _, ws, [], k, _ => rfl
  | i :: is, ws, x :: xs, k, h => by
    have h1 : k ≠ i := fun e => h (by rw [e]; exact List.mem_cons_self)
    have h2 : k ∉ is := fun e => h (List.mem_cons_of_mem _ e)
    show (zset (ws.set i x) is xs)[k]? = ws[k]?
    rw [zset_out is (ws.set i x) xs k h2, List.getElem?_set_ne (Ne.symm h1)]
theorem zset_in : ∀ (is : List Nat) (ws xs : va_W) (j k : Nat) (x : Nat × va_E), is.Nodup → is[j]? = some k → xs[j]? = some x → k < ws.length → (zset ws is xs)[k]? = some x
  | [], _, _, _, _, _, _, h, _, _ => by simp at h
  | _ :: _, _, [], _, _, _, _, _, h, _ => by simp at h
  | i :: is, ws, y :: xs, 0, k, x, hn, h1, h2, hk => by
    have e1 : i = k := Option.some.inj h1
    have e2 : y = x := Option.some.inj h2
    subst e1; subst e2
    show (zset (ws.set i y) is xs)[i]? = some y
    rw [zset_out is _ xs i (List.nodup_cons.mp hn).1, List.getElem?_set_self hk]
  | i :: is, ws, y :: xs, j + 1, k, x, hn, h1, h2, hk => by
    show (zset (ws.set i y) is xs)[k]? = some x
    exact zset_in is (ws.set i y) xs j k x (List.nodup_cons.mp hn).2 h1 h2 (by rw [List.length_set]; exact hk)
theorem zjoin {A0 : Nat → Prop} {D : va_G} {cl : List vw_C} {ws wc w1 wn : va_W} {H H1 : Heap} (hP : va_P D cl ws H) (hD : va_D A0 ws) (is : List Nat) (hC : is.map (fun i => ws[i]?) = wc.map some) (hn : is.Nodup) (hfst : w1.map Prod.fst = wc.map Prod.fst)
    (hk : ∀ q : Nat, q < H.size → ¬ va_A wc H.size q → H1[q]? = H[q]?) (hF : ∀ q, va_A wc H.size q → A0 q) (hP1 : va_P D cl (w1 ++ wn) H1) (hD1 : va_D (va_A wc H.size) (w1 ++ wn)) : va_P D cl (zset ws is w1 ++ wn) H1 ∧ va_D A0 (zset ws is w1 ++ wn) := by
  have at' : ∀ (j : Nat) (x : Nat × va_E), wc[j]? = some x → ∃ i, is[j]? = some i ∧ ws[i]? = some x := by
    intro j x hx
    have h1 : (is.map (fun i => ws[i]?))[j]? = some (some x) := by rw [hC, List.getElem?_map, hx]; rfl
    rw [List.getElem?_map] at h1
    cases hi : is[j]? with
    | none => rw [hi] at h1; cases h1
    | some i => rw [hi] at h1; exact ⟨i, rfl, Option.some.inj h1⟩
  have back : ∀ i, i ∈ is → ∃ (j : Nat) (x y : Nat × va_E), is[j]? = some i ∧ ws[i]? = some x ∧ wc[j]? = some x ∧ w1[j]? = some y ∧ y.1 = x.1 := by
    intro i hi
    obtain ⟨j, hj⟩ := List.getElem?_of_mem hi
    have h1 : (wc.map some)[j]? = some (ws[i]?) := by rw [← hC, List.getElem?_map, hj]; rfl
    rw [List.getElem?_map] at h1
    cases hw : wc[j]? with
    | none => rw [hw] at h1; cases h1
    | some x =>
      rw [hw] at h1
      have h2 : (w1.map Prod.fst)[j]? = some x.1 := by rw [hfst, List.getElem?_map, hw]; rfl
      rw [List.getElem?_map] at h2
      cases hy : w1[j]? with
      | none => rw [hy] at h2; cases h2
      | some y => rw [hy] at h2; exact ⟨j, x, y, hj, (Option.some.inj h1).symm, hw, hy, Option.some.inj h2⟩
  have key : ∀ (k : Nat) (q : Nat × va_E), (zset ws is w1)[k]? = some q → ∃ x, ws[k]? = some x ∧ x.1 = q.1 ∧ ((∃ j : Nat, w1[j]? = some q) ∨ (k ∉ is ∧ x = q)) := by
    intro k q hq
    by_cases hm : k ∈ is
    · obtain ⟨j, x, y, g1, g2, g3, g4, g5⟩ := back k hm
      have hl : k < ws.length := (List.getElem?_eq_some_iff.mp g2).1
      rw [zset_in is ws w1 j k y hn g1 g4 hl] at hq
      cases hq
      exact ⟨x, g2, g5.symm, Or.inl ⟨j, g4⟩⟩
    · rw [zset_out is ws w1 k hm] at hq
      exact ⟨q, hq, rfl, Or.inr ⟨hm, rfl⟩⟩
  have apart : ∀ (k : Nat) (q : Nat × va_E), ws[k]? = some q → k ∉ is → q.1 < H.size ∧ ¬ va_A wc H.size q.1 := by
    intro k q hq hm
    have hl := (hP k q hq).lt
    refine ⟨hl, fun h => ?_⟩
    rcases h with ⟨j, e, h⟩ | h
    · obtain ⟨i, h3, h4⟩ := at' j (q.1, e) h
      have hij := hD.1 k i q (q.1, e) hq h4 rfl
      subst hij
      exact hm (List.mem_of_getElem? h3)
    · omega
  have left : ∀ (j : Nat) (q : Nat × va_E), w1[j]? = some q → (w1 ++ wn)[j]? = some q := fun j q h => by rw [List.getElem?_append_left (List.getElem?_eq_some_iff.mp h).1]; exact h
  have right : ∀ (j : Nat) (q : Nat × va_E), wn[j]? = some q → (w1 ++ wn)[w1.length + j]? = some q := fun j q h => by rw [List.getElem?_append_right (by omega), Nat.add_sub_cancel_left]; exact h
  refine ⟨va_P.app (fun k q hq => ?_) (fun k q hq => hP1 _ q (right k q hq)), va_D.app ⟨fun i j x y hi hj hxy => ?_, fun k q hq => ?_⟩ ⟨fun i j x y hi hj hxy => ?_, fun k q hq => hF _ (hD1.2 _ q (right k q hq))⟩ (fun i j x y hx hy hxy => ?_)⟩
  · obtain ⟨x, g1, g2, g3 | ⟨g3, g4⟩⟩ := key k q hq
    · obtain ⟨j, g3⟩ := g3
      exact hP1 j q (left j q g3)
    · subst g4
      obtain ⟨a1, a2⟩ := apart k x g1 g3
      exact (hP k x g1).kept (hk _ a1 a2)
  · obtain ⟨x0, a1, a2, -⟩ := key i x hi
    obtain ⟨y0, b1, b2, -⟩ := key j y hj
    exact hD.1 i j x0 y0 a1 b1 (a2.trans (hxy.trans b2.symm))
  · obtain ⟨x0, a1, a2, -⟩ := key k q hq
    rw [← a2]
    exact hD.2 k x0 a1
  · have := hD1.1 _ _ x y (right i x hi) (right j y hj) hxy
    omega
  · obtain ⟨x0, g1, g2, g3 | ⟨g3, g4⟩⟩ := key i x hx
    · obtain ⟨j0, g3⟩ := g3
      have h5 := hD1.1 _ _ x y (left j0 x g3) (right j y hy) hxy
      have h6 := (List.getElem?_eq_some_iff.mp g3).1
      omega
    · subst g4
      exact (apart i x0 g1 g3).2 (by rw [hxy]; exact hD1.2 _ y (right j y hy))
theorem zfree {A0 : Nat → Prop} {ws wc : va_W} {H0 H : Heap} {locs : List Loc} (hD : va_D A0 ws) (hS : va_S A0 H0 H locs) (hA : ∀ q, H0.size ≤ q → A0 q) (is : List Nat) (hC : is.map (fun i => ws[i]?) = wc.map some) : ∀ q, va_A wc H.size q → A0 q := va_free hD hS hA is hC
theorem zsubP {D : va_G} {cl : List vw_C} {A : Nat → Prop} {ws wc : va_W} {H : Heap} (hP : va_P D cl ws H) (hD : va_D A ws) (is : List Nat) (hC : is.map (fun i => ws[i]?) = wc.map some) (hn : is.Nodup) : va_P D cl wc H ∧ va_D A wc := by
  have at' : ∀ (j : Nat) (x : Nat × va_E), wc[j]? = some x → ∃ i, is[j]? = some i ∧ ws[i]? = some x := by
    intro j x hx
    have h1 : (is.map (fun i => ws[i]?))[j]? = some (some x) := by rw [hC, List.getElem?_map, hx]; rfl
    rw [List.getElem?_map] at h1
    cases hi : is[j]? with
    | none => rw [hi] at h1; cases h1
    | some i => rw [hi] at h1; exact ⟨i, rfl, Option.some.inj h1⟩
  refine ⟨fun k q hq => ?_, fun i j x y hi hj hxy => ?_, fun k q hq => ?_⟩
  · obtain ⟨i, -, h2⟩ := at' k q hq
    exact hP i q h2
  · obtain ⟨a, a1, a2⟩ := at' i x hi
    obtain ⟨b, b1, b2⟩ := at' j y hj
    have hab := hD.1 a b x y a2 b2 hxy
    subst hab
    exact (List.getElem?_inj (List.getElem?_eq_some_iff.mp a1).1 hn).mp (a1.trans b1.symm)
  · obtain ⟨i, -, h2⟩ := at' k q hq
    exact hD.2 i q h2
theorem zx_blind {D : va_G} {K : Nat → ClassId} {M : List (ClassId × FieldType)} {av : List Value} {w0 : va_W} {sz : Nat} : FrameBlind (va_Pc av (zA D K M w0 sz)) := fun a U g mk q => by
  obtain ⟨q0, q1, qP, qK, qD⟩ := q
  exact ⟨q0, q1, qP, va_K.moved (u := U) (U := U.calling g mk a) (Vm.Alike.refl U.vm) qK, qD⟩
/-- a callee's words are the caller's -/
theorem zgood {ws : List Cond} (h : ∀ w ∈ ws, w ∈ zAll) : GoodIn zAll ws := fun w hw => ⟨h w hw, good_of_word (List.mem_filter.mp (h w hw)).2⟩
theorem zcV {R : Room} {s : State} {args : Array Value} {own C : String} {index maxL n mc ms : Nat} {y : MethodName} {bytes : ByteArray} {ret : Option FieldType} {rm : Room} (ht : ∀ w ∈ zAll, w.before args s = true) (hb : Cond.code y bytes maxL ret ∈ zAll) (hl : Cond.methodLink own index y ∈ zAll) (hi : Cond.instanceMethod y ∈ zAll) (hs : Cond.selects C y y ∈ zAll) (hz : Cond.initialized C ∈ zAll) (hrc : rm.cells = mc) (hrs : rm.slots = ms)
    (hd : y.cls = C ∧ y.cls ≠ "java/lang/invoke/MethodHandle" ∧ y.cls ≠ "java/lang/invoke/VarHandle" ∧ (parseMethodDescriptor y.desc).map (fun d => d.parameters.length) = some n) (hR : rm.frames + 1 ≤ R.frames ∧ 8 + (maxL + 11) + rm.locals ≤ R.locals) : CallW R s args own C index y bytes maxL ret (zT y bytes maxL ret) rm mc ms n := by
  refine cwV n ht (zgood ?_) rfl hrc hrs hd hR
  intro w hw
  unfold wsV at hw
  rcases List.mem_append.mp hw with h | h
  · simp only [List.mem_cons, List.not_mem_nil, or_false] at h
    rcases h with h | h | h | h <;> subst h <;> assumption
  · rcases List.mem_cons.mp h with h | h
    · subst h; exact hb
    · exact h
theorem zcB {R : Room} {s : State} {args : Array Value} {own : String} {index maxL n mc ms : Nat} {y : MethodName} {bytes : ByteArray} {ret : Option FieldType} {rm : Room} (ht : ∀ w ∈ zAll, w.before args s = true) (hb : Cond.code y bytes maxL ret ∈ zAll) (hl : (Cond.methodLink own index y).before args s = true) (hz : Cond.initialized y.cls ∈ zAll) (hrc : rm.cells = mc) (hrs : rm.slots = ms)
    (hd : y.cls ≠ "java/lang/invoke/MethodHandle" ∧ y.cls ≠ "java/lang/invoke/VarHandle" ∧ (parseMethodDescriptor y.desc).map (fun d => d.parameters.length) = some n) (hR : rm.frames + 1 ≤ R.frames ∧ 8 + (maxL + 11) + rm.locals ≤ R.locals) : CallB R s args own index y bytes maxL ret (zT y bytes maxL ret) rm mc ms n := by
  refine callB_of n ht (zgood ?_) rfl hrc hrs (ht _ hz) hl hd hR
  intro w hw
  rcases List.mem_cons.mp hw with h | h
  · subst h; exact hb
  · exact h
theorem zx_Vi (hF : zF p s m args c cc nL own D K M A) {y : MethodName} {index maxL n : Nat} {bytes : ByteArray} {ret : Option FieldType} {rm : Room} {b : Nat} {As st0 : List Value} {r : Int32} {wc w1 ws' : va_W} (hM : ∀ sz : Nat, zM l y (zT y bytes maxL ret) rm 0 0 D K M (.ref b :: As) wc sz (zQi D K M r w1)) (is : List Nat) (hC : is.map (fun i => ws[i]?) = wc.map some) (hn : is.Nodup) {as : List Nat} (hf1 : w1.map Prod.fst = as) (hf2 : wc.map Prod.fst = as) (hw : zset ws is w1 = ws') {C : String} (q0 ci : Nat) {fs : List Value} {cq : vw_C} (hq0 : wc[q0]? = some (b, .inr (ci, fs))) (hcq : zCl[ci]? = some cq) (hcC : cq.1 = C) (cw : CallW R s args own C index y bytes maxL ret (zT y bytes maxL ret) rm 0 0 n) (hlen : As.length = n) (hst : st0 = (As.reverse ++ .ref b :: rest)) (hroom : (rest.map fun v => v.category).sum ≤ 8) (hdg : decode cc pc = .ok (.invokevirtual index, 3)) (hf : cells ≤ R.cells ∧ slots ≤ R.slots) (k : zW p l e R s m args below meth c D A cells slots Q nL ws' lv (pc + 3) (.int r :: rest)) : zW p l e R s m args below meth c D A cells slots Q nL ws lv pc st0 := fun H locs ls h1 h2 h3 h4 => by
  subst hst
  obtain ⟨hPc, hDc⟩ := zsubP h2 h3 is hC hn
  have hFc := zfree h3 h4 hF.2.2.2.2.2.2 is hC
  have hKc := hF.2.2.2.2.2.1
  refine va_calli (va_runV ⟨hF.1, hF.2.1, hF.2.2.1, hF.2.2.2.1, hF.2.2.2.2.1⟩ (hM H.size) cw ⟨zx_blind, by obtain ⟨cell, g1, g2, g3⟩ := va_recv hKc hPc hcq hq0; exact ⟨cell, g1, g2, by rw [← hcC]; exact g3⟩, fun U hU hW => ⟨rfl, by rw [hU], by rw [hU]; exact hPc, va_K.moved hW.alike hKc, hDc.weaken (fun _ _ _ _ => trivial)⟩⟩ rfl hlen h1.1 rfl (lv_room hroom) hdg ⟨hf.1, hf.2⟩) h4 (fun q _ h => hFc q h) hFc (fun r9 u t H1 locs1 ht hvm hp hB hz hk hS => ?_)
  subst hp
  obtain ⟨hP1, hK1, hD1⟩ := hB
  rw [ht] at hP1
  obtain ⟨hP2, hD2⟩ := zjoin (wn := []) h2 h3 is hC hn (hf1.trans hf2.symm) hk hFc (by rw [List.append_nil]; exact hP1) (by rw [List.append_nil]; exact hD1)
  rw [List.append_nil, hw] at hP2 hD2
  exact k H1 locs1 ls h1 hP2 hD2 hS
theorem zx_Vl (hF : zF p s m args c cc nL own D K M A) {y : MethodName} {index maxL n : Nat} {bytes : ByteArray} {ret : Option FieldType} {rm : Room} {b : Nat} {As st0 : List Value} {r : Int64} {wc w1 ws' : va_W} (hM : ∀ sz : Nat, zM l y (zT y bytes maxL ret) rm 0 0 D K M (.ref b :: As) wc sz (zQl D K M r w1)) (is : List Nat) (hC : is.map (fun i => ws[i]?) = wc.map some) (hn : is.Nodup) {as : List Nat} (hf1 : w1.map Prod.fst = as) (hf2 : wc.map Prod.fst = as) (hw : zset ws is w1 = ws') {C : String} (q0 ci : Nat) {fs : List Value} {cq : vw_C} (hq0 : wc[q0]? = some (b, .inr (ci, fs))) (hcq : zCl[ci]? = some cq) (hcC : cq.1 = C) (cw : CallW R s args own C index y bytes maxL ret (zT y bytes maxL ret) rm 0 0 n) (hlen : As.length = n) (hst : st0 = (As.reverse ++ .ref b :: rest)) (hroom : (rest.map fun v => v.category).sum ≤ 8) (hdg : decode cc pc = .ok (.invokevirtual index, 3)) (hf : cells ≤ R.cells ∧ slots ≤ R.slots) (k : zW p l e R s m args below meth c D A cells slots Q nL ws' lv (pc + 3) (.long r :: rest)) : zW p l e R s m args below meth c D A cells slots Q nL ws lv pc st0 := fun H locs ls h1 h2 h3 h4 => by
  subst hst
  obtain ⟨hPc, hDc⟩ := zsubP h2 h3 is hC hn
  have hFc := zfree h3 h4 hF.2.2.2.2.2.2 is hC
  have hKc := hF.2.2.2.2.2.1
  refine va_calll (va_runV ⟨hF.1, hF.2.1, hF.2.2.1, hF.2.2.2.1, hF.2.2.2.2.1⟩ (hM H.size) cw ⟨zx_blind, by obtain ⟨cell, g1, g2, g3⟩ := va_recv hKc hPc hcq hq0; exact ⟨cell, g1, g2, by rw [← hcC]; exact g3⟩, fun U hU hW => ⟨rfl, by rw [hU], by rw [hU]; exact hPc, va_K.moved hW.alike hKc, hDc.weaken (fun _ _ _ _ => trivial)⟩⟩ rfl hlen h1.1 rfl (lv_room hroom) hdg ⟨hf.1, hf.2⟩) h4 (fun q _ h => hFc q h) hFc (fun r9 u t H1 locs1 ht hvm hp hB hz hk hS => ?_)
  subst hp
  obtain ⟨hP1, hK1, hD1⟩ := hB
  rw [ht] at hP1
  obtain ⟨hP2, hD2⟩ := zjoin (wn := []) h2 h3 is hC hn (hf1.trans hf2.symm) hk hFc (by rw [List.append_nil]; exact hP1) (by rw [List.append_nil]; exact hD1)
  rw [List.append_nil, hw] at hP2 hD2
  exact k H1 locs1 ls h1 hP2 hD2 hS
theorem zx_Vv (hF : zF p s m args c cc nL own D K M A) {y : MethodName} {index maxL n : Nat} {bytes : ByteArray} {ret : Option FieldType} {rm : Room} {b : Nat} {As st0 : List Value}  {wc w1 ws' : va_W} (hM : ∀ sz : Nat, zM l y (zT y bytes maxL ret) rm 0 0 D K M (.ref b :: As) wc sz (zQv D K M w1)) (is : List Nat) (hC : is.map (fun i => ws[i]?) = wc.map some) (hn : is.Nodup) {as : List Nat} (hf1 : w1.map Prod.fst = as) (hf2 : wc.map Prod.fst = as) (hw : zset ws is w1 = ws') {C : String} (q0 ci : Nat) {fs : List Value} {cq : vw_C} (hq0 : wc[q0]? = some (b, .inr (ci, fs))) (hcq : zCl[ci]? = some cq) (hcC : cq.1 = C) (cw : CallW R s args own C index y bytes maxL ret (zT y bytes maxL ret) rm 0 0 n) (hlen : As.length = n) (hst : st0 = (As.reverse ++ .ref b :: rest)) (hroom : (rest.map fun v => v.category).sum ≤ 8) (hdg : decode cc pc = .ok (.invokevirtual index, 3)) (hf : cells ≤ R.cells ∧ slots ≤ R.slots) (k : zW p l e R s m args below meth c D A cells slots Q nL ws' lv (pc + 3) rest) : zW p l e R s m args below meth c D A cells slots Q nL ws lv pc st0 := fun H locs ls h1 h2 h3 h4 => by
  subst hst
  obtain ⟨hPc, hDc⟩ := zsubP h2 h3 is hC hn
  have hFc := zfree h3 h4 hF.2.2.2.2.2.2 is hC
  have hKc := hF.2.2.2.2.2.1
  refine va_callv (va_runV ⟨hF.1, hF.2.1, hF.2.2.1, hF.2.2.2.1, hF.2.2.2.2.1⟩ (hM H.size) cw ⟨zx_blind, by obtain ⟨cell, g1, g2, g3⟩ := va_recv hKc hPc hcq hq0; exact ⟨cell, g1, g2, by rw [← hcC]; exact g3⟩, fun U hU hW => ⟨rfl, by rw [hU], by rw [hU]; exact hPc, va_K.moved hW.alike hKc, hDc.weaken (fun _ _ _ _ => trivial)⟩⟩ rfl hlen h1.1 rfl (lv_room hroom) hdg ⟨hf.1, hf.2⟩) h4 (fun q _ h => hFc q h) hFc (fun u t H1 locs1 ht hvm hp hB hz hk hS => ?_)
  clear hp
  obtain ⟨hP1, hK1, hD1⟩ := hB
  rw [ht] at hP1
  obtain ⟨hP2, hD2⟩ := zjoin (wn := []) h2 h3 is hC hn (hf1.trans hf2.symm) hk hFc (by rw [List.append_nil]; exact hP1) (by rw [List.append_nil]; exact hD1)
  rw [List.append_nil, hw] at hP2 hD2
  exact k H1 locs1 ls h1 hP2 hD2 hS
theorem zx_Si (hF : zF p s m args c cc nL own D K M A) {y : MethodName} {index maxL n : Nat} {bytes : ByteArray} {ret : Option FieldType} {rm : Room}  {As st0 : List Value} {r : Int32} {wc w1 ws' : va_W} (hM : ∀ sz : Nat, zM l y (zT y bytes maxL ret) rm 0 0 D K M As wc sz (zQi D K M r w1)) (is : List Nat) (hC : is.map (fun i => ws[i]?) = wc.map some) (hn : is.Nodup) {as : List Nat} (hf1 : w1.map Prod.fst = as) (hf2 : wc.map Prod.fst = as) (hw : zset ws is w1 = ws')  (cw : CallB R s args own index y bytes maxL ret (zT y bytes maxL ret) rm 0 0 n ∧ (Cond.static y).before args s = true) (hlen : As.length = n) (hst : st0 = (As.reverse ++ rest)) (hroom : (rest.map fun v => v.category).sum ≤ 8) (hdg : decode cc pc = .ok (.invokestatic index, 3)) (hf : cells ≤ R.cells ∧ slots ≤ R.slots) (k : zW p l e R s m args below meth c D A cells slots Q nL ws' lv (pc + 3) (.int r :: rest)) : zW p l e R s m args below meth c D A cells slots Q nL ws lv pc st0 := fun H locs ls h1 h2 h3 h4 => by
  subst hst
  obtain ⟨hPc, hDc⟩ := zsubP h2 h3 is hC hn
  have hFc := zfree h3 h4 hF.2.2.2.2.2.2 is hC
  have hKc := hF.2.2.2.2.2.1
  refine va_calli (va_runS ⟨hF.1, hF.2.1, hF.2.2.1, hF.2.2.2.1, hF.2.2.2.2.1⟩ (hM H.size) cw ⟨zx_blind, fun U hU hW => ⟨rfl, by rw [hU], by rw [hU]; exact hPc, va_K.moved hW.alike hKc, hDc.weaken (fun _ _ _ _ => trivial)⟩⟩ rfl hlen h1.1 rfl (lv_room hroom) hdg ⟨hf.1, hf.2⟩) h4 (fun q _ h => hFc q h) hFc (fun r9 u t H1 locs1 ht hvm hp hB hz hk hS => ?_)
  subst hp
  obtain ⟨hP1, hK1, hD1⟩ := hB
  rw [ht] at hP1
  obtain ⟨hP2, hD2⟩ := zjoin (wn := []) h2 h3 is hC hn (hf1.trans hf2.symm) hk hFc (by rw [List.append_nil]; exact hP1) (by rw [List.append_nil]; exact hD1)
  rw [List.append_nil, hw] at hP2 hD2
  exact k H1 locs1 ls h1 hP2 hD2 hS
theorem zx_Sl (hF : zF p s m args c cc nL own D K M A) {y : MethodName} {index maxL n : Nat} {bytes : ByteArray} {ret : Option FieldType} {rm : Room}  {As st0 : List Value} {r : Int64} {wc w1 ws' : va_W} (hM : ∀ sz : Nat, zM l y (zT y bytes maxL ret) rm 0 0 D K M As wc sz (zQl D K M r w1)) (is : List Nat) (hC : is.map (fun i => ws[i]?) = wc.map some) (hn : is.Nodup) {as : List Nat} (hf1 : w1.map Prod.fst = as) (hf2 : wc.map Prod.fst = as) (hw : zset ws is w1 = ws')  (cw : CallB R s args own index y bytes maxL ret (zT y bytes maxL ret) rm 0 0 n ∧ (Cond.static y).before args s = true) (hlen : As.length = n) (hst : st0 = (As.reverse ++ rest)) (hroom : (rest.map fun v => v.category).sum ≤ 8) (hdg : decode cc pc = .ok (.invokestatic index, 3)) (hf : cells ≤ R.cells ∧ slots ≤ R.slots) (k : zW p l e R s m args below meth c D A cells slots Q nL ws' lv (pc + 3) (.long r :: rest)) : zW p l e R s m args below meth c D A cells slots Q nL ws lv pc st0 := fun H locs ls h1 h2 h3 h4 => by
  subst hst
  obtain ⟨hPc, hDc⟩ := zsubP h2 h3 is hC hn
  have hFc := zfree h3 h4 hF.2.2.2.2.2.2 is hC
  have hKc := hF.2.2.2.2.2.1
  refine va_calll (va_runS ⟨hF.1, hF.2.1, hF.2.2.1, hF.2.2.2.1, hF.2.2.2.2.1⟩ (hM H.size) cw ⟨zx_blind, fun U hU hW => ⟨rfl, by rw [hU], by rw [hU]; exact hPc, va_K.moved hW.alike hKc, hDc.weaken (fun _ _ _ _ => trivial)⟩⟩ rfl hlen h1.1 rfl (lv_room hroom) hdg ⟨hf.1, hf.2⟩) h4 (fun q _ h => hFc q h) hFc (fun r9 u t H1 locs1 ht hvm hp hB hz hk hS => ?_)
  subst hp
  obtain ⟨hP1, hK1, hD1⟩ := hB
  rw [ht] at hP1
  obtain ⟨hP2, hD2⟩ := zjoin (wn := []) h2 h3 is hC hn (hf1.trans hf2.symm) hk hFc (by rw [List.append_nil]; exact hP1) (by rw [List.append_nil]; exact hD1)
  rw [List.append_nil, hw] at hP2 hD2
  exact k H1 locs1 ls h1 hP2 hD2 hS
theorem zx_Sv (hF : zF p s m args c cc nL own D K M A) {y : MethodName} {index maxL n : Nat} {bytes : ByteArray} {ret : Option FieldType} {rm : Room}  {As st0 : List Value}  {wc w1 ws' : va_W} (hM : ∀ sz : Nat, zM l y (zT y bytes maxL ret) rm 0 0 D K M As wc sz (zQv D K M w1)) (is : List Nat) (hC : is.map (fun i => ws[i]?) = wc.map some) (hn : is.Nodup) {as : List Nat} (hf1 : w1.map Prod.fst = as) (hf2 : wc.map Prod.fst = as) (hw : zset ws is w1 = ws')  (cw : CallB R s args own index y bytes maxL ret (zT y bytes maxL ret) rm 0 0 n ∧ (Cond.static y).before args s = true) (hlen : As.length = n) (hst : st0 = (As.reverse ++ rest)) (hroom : (rest.map fun v => v.category).sum ≤ 8) (hdg : decode cc pc = .ok (.invokestatic index, 3)) (hf : cells ≤ R.cells ∧ slots ≤ R.slots) (k : zW p l e R s m args below meth c D A cells slots Q nL ws' lv (pc + 3) rest) : zW p l e R s m args below meth c D A cells slots Q nL ws lv pc st0 := fun H locs ls h1 h2 h3 h4 => by
  subst hst
  obtain ⟨hPc, hDc⟩ := zsubP h2 h3 is hC hn
  have hFc := zfree h3 h4 hF.2.2.2.2.2.2 is hC
  have hKc := hF.2.2.2.2.2.1
  refine va_callv (va_runS ⟨hF.1, hF.2.1, hF.2.2.1, hF.2.2.2.1, hF.2.2.2.2.1⟩ (hM H.size) cw ⟨zx_blind, fun U hU hW => ⟨rfl, by rw [hU], by rw [hU]; exact hPc, va_K.moved hW.alike hKc, hDc.weaken (fun _ _ _ _ => trivial)⟩⟩ rfl hlen h1.1 rfl (lv_room hroom) hdg ⟨hf.1, hf.2⟩) h4 (fun q _ h => hFc q h) hFc (fun u t H1 locs1 ht hvm hp hB hz hk hS => ?_)
  clear hp
  obtain ⟨hP1, hK1, hD1⟩ := hB
  rw [ht] at hP1
  obtain ⟨hP2, hD2⟩ := zjoin (wn := []) h2 h3 is hC hn (hf1.trans hf2.symm) hk hFc (by rw [List.append_nil]; exact hP1) (by rw [List.append_nil]; exact hD1)
  rw [List.append_nil, hw] at hP2 hD2
  exact k H1 locs1 ls h1 hP2 hD2 hS
abbrev zR (f n : Nat) : Room := { frames := f, cells := 0, slots := 0, locals := n }
theorem zinc (i : Nat) : nI i + Int32.ofInt 1 = nI (i + 1) := nI_1 i
theorem zbool {x : Int32} (h : x = 0 ∨ x = 1) : narrow .boolean (.int x) = .int x ∧ fits .boolean (.int x) = true := by rcases h with h | h <;> subst h <;> decide
theorem znar {x : Int32} (h : x = 0 ∨ x = 1) : vp_nar .boolean x = x := by rcases h with h | h <;> subst h <;> decide
def ziushr (x y : Int32) : Int32 := (x.toUInt32 >>> (y.toUInt32 &&& Int32.toUInt32 31)).toInt32
def zlushr (x : Int64) (y : Int32) : Int64 := (x.toUInt64 >>> (y.toInt64.toUInt64 &&& Int64.toUInt64 63)).toInt64
def zlshl (x : Int64) (y : Int32) : Int64 := x <<< (y.toInt64 &&& 63)
theorem zx_loop {σ : Type} (I : Nat → σ → Prop) (wf : σ → va_W) (lf : σ → List (Nat × Value)) {st : List Value} (k0 : Nat) (x0 : σ) (h0 : I k0 x0) (hw : ws = wf x0) (hl : lv = lf x0) (step : ∀ (k : Nat) (x : σ), I k x → (∀ (k' : Nat) (x' : σ), k' < k → I k' x' → zW p l e R s m args below meth c D A cells slots Q nL (wf x') (lf x') pc st) → zW p l e R s m args below meth c D A cells slots Q nL (wf x) (lf x) pc st) : zW p l e R s m args below meth c D A cells slots Q nL ws lv pc st := by
  subst hw; subst hl
  have key : ∀ (k : Nat) (x : σ), I k x → zW p l e R s m args below meth c D A cells slots Q nL (wf x) (lf x) pc st := by
    intro k
    induction k using Nat.strongRecOn with
    | _ k ih =>
      intro x hx
      exact step k x hx (fun k' x' hk' hx' => ih k' hk' x' hx')
  exact key k0 x0 h0
theorem zin {x : Int32} {n : Nat} (hn : n < 2 ^ 31) (h0 : ¬ x < 0) (h1 : ¬ nI n ≤ x) : vp_in x n := by
  obtain ⟨j, hj, rfl⟩ := nI_of h0
  exact vp_in_nI (Nat.lt_of_not_le (fun z => h1 (nI_le z hj))) hn
theorem zcl {x : Int32} {n : Nat} (hn : n < 2 ^ 31) (h : vp_in x n) : x = nI x.toNatClampNeg ∧ x.toNatClampNeg < n := by
  obtain ⟨j, hj, rfl⟩ := vp_in_of h hn
  rw [nI_clamp (Nat.lt_trans hj hn)]
  exact ⟨rfl, hj⟩
theorem zx_copy (hF : zF p s m args c cc nL own D K M A) {index : Nat} (hl : Cond.methodLink own index arraycopyName ∈ zAll) (q0 q1 : Nat) {a0 a n0 n1 : Nat} {f g : Nat → Int32} (ha0 : ws[q0]? = some (cI K a0 n0 f)) (ha1 : ws[q1]? = some (cI K a n1 g)) {sp dp n : Nat} (h4 : sp + n ≤ n0) (h5 : dp + n ≤ n1) (hn0 : n0 < 2 ^ 31) (hn1 : n1 < 2 ^ 31) (hframes : 1 ≤ R.frames) (hlocals : (rest.map fun v => v.category).sum + (nativeFrameWords "java/lang/System" "arraycopy" 5 + 11) ≤ R.locals) (hdg : decode cc pc = .ok (.invokestatic index, 3)) {ws' : va_W} (hw : ws.set q1 (cI K a n1 (va_cpy f g sp dp n)) = ws') (k : zW p l e R s m args below meth c D A cells slots Q nL ws' lv (pc + 3) rest) : zW p l e R s m args below meth c D A cells slots Q nL ws lv pc (.int (nI n) :: .int (nI dp) :: .ref a :: .int (nI sp) :: .ref a0 :: rest) := fun _ _ _ h1 h2 h3 g4 => by
  have e1 : (nI sp).toNatClampNeg = sp := nI_clamp (by omega)
  have e2 : (nI dp).toNatClampNeg = dp := nI_clamp (by omega)
  have e3 : (nI n).toNatClampNeg = n := nI_clamp (by omega)
  refine va_copyi hF.1 hF.2.1 (by rw [hF.2.2.1]; exact h1.1.symm) hF.2.2.2.1 (zw hF hl) (zw hF wx_copy_native) (zw hF wx_copy_static) (zw hF wx_copy_init) hF.2.2.2.2.2.1 h2 h3 g4 q0 q1 0 0 ha0 ha1 rfl rfl rfl (nI_pos (by omega)) (nI_pos (by omega)) (nI_pos (by omega)) (by rw [e1, e3]; exact h4) (by rw [e2, e3]; exact h5) (fun _ _ => rfl) hframes hlocals hdg (fun _ _ h5 h6 h7 => k _ _ _ h1 ?_ ?_ h7)
  · rw [← hw, ← e1, ← e2, ← e3]; exact h5
  · rw [← hw, ← e1, ← e2, ← e3]; exact h6
end ZX
end
section
theorem d_Stp_next_0 : decode b_Stp_next 0 = .ok (.aload_n 0, 1) := by decide +kernel
theorem d_Stp_next_1 : decode b_Stp_next 1 = .ok (.getfield 9, 3) := by decide +kernel
theorem d_Stp_next_4 : decode b_Stp_next 4 = .ok (.istore_n 1, 1) := by decide +kernel
theorem d_Stp_next_5 : decode b_Stp_next 5 = .ok (.aload_n 0, 1) := by decide +kernel
theorem d_Stp_next_6 : decode b_Stp_next 6 = .ok (.iload_n 1, 1) := by decide +kernel
theorem d_Stp_next_7 : decode b_Stp_next 7 = .ok (.iconst 1, 1) := by decide +kernel
theorem d_Stp_next_8 : decode b_Stp_next 8 = .ok (.iadd, 1) := by decide +kernel
theorem d_Stp_next_9 : decode b_Stp_next 9 = .ok (.ldc 15, 2) := by decide +kernel
theorem d_Stp_next_11 : decode b_Stp_next 11 = .ok (.iand, 1) := by decide +kernel
theorem d_Stp_next_12 : decode b_Stp_next 12 = .ok (.putfield 9, 3) := by decide +kernel
theorem d_Stp_next_15 : decode b_Stp_next 15 = .ok (.iload_n 1, 1) := by decide +kernel
theorem d_Stp_next_16 : decode b_Stp_next 16 = .ok (.ireturn, 1) := by decide +kernel
theorem d_Sum_halves_0 : decode b_Sum_halves 0 = .ok (.iload_n 0, 1) := by decide +kernel
theorem d_Sum_halves_1 : decode b_Sum_halves 1 = .ok (.bipush 16, 2) := by decide +kernel
theorem d_Sum_halves_3 : decode b_Sum_halves 3 = .ok (.iushr, 1) := by decide +kernel
theorem d_Sum_halves_4 : decode b_Sum_halves 4 = .ok (.iload_n 0, 1) := by decide +kernel
theorem d_Sum_halves_5 : decode b_Sum_halves 5 = .ok (.ldc 11, 2) := by decide +kernel
theorem d_Sum_halves_7 : decode b_Sum_halves 7 = .ok (.iand, 1) := by decide +kernel
theorem d_Sum_halves_8 : decode b_Sum_halves 8 = .ok (.iadd, 1) := by decide +kernel
theorem d_Sum_halves_9 : decode b_Sum_halves 9 = .ok (.ireturn, 1) := by decide +kernel
theorem d_Sum_fold_0 : decode b_Sum_fold 0 = .ok (.iload_n 0, 1) := by decide +kernel
theorem d_Sum_fold_1 : decode b_Sum_fold 1 = .ok (.ldc 11, 2) := by decide +kernel
theorem d_Sum_fold_3 : decode b_Sum_fold 3 = .ok (.iand, 1) := by decide +kernel
theorem d_Sum_fold_4 : decode b_Sum_fold 4 = .ok (.iload_n 0, 1) := by decide +kernel
theorem d_Sum_fold_5 : decode b_Sum_fold 5 = .ok (.bipush 16, 2) := by decide +kernel
theorem d_Sum_fold_7 : decode b_Sum_fold 7 = .ok (.iushr, 1) := by decide +kernel
theorem d_Sum_fold_8 : decode b_Sum_fold 8 = .ok (.iadd, 1) := by decide +kernel
theorem d_Sum_fold_9 : decode b_Sum_fold 9 = .ok (.ireturn, 1) := by decide +kernel
theorem d_Sum_sumOf_0 : decode b_Sum_sumOf 0 = .ok (.iload_n 0, 1) := by decide +kernel
theorem d_Sum_sumOf_1 : decode b_Sum_sumOf 1 = .ok (.invokestatic 17, 3) := by decide +kernel
theorem d_Sum_sumOf_4 : decode b_Sum_sumOf 4 = .ok (.iload_n 1, 1) := by decide +kernel
theorem d_Sum_sumOf_5 : decode b_Sum_sumOf 5 = .ok (.invokestatic 17, 3) := by decide +kernel
theorem d_Sum_sumOf_8 : decode b_Sum_sumOf 8 = .ok (.iadd, 1) := by decide +kernel
theorem d_Sum_sumOf_9 : decode b_Sum_sumOf 9 = .ok (.iload_n 2, 1) := by decide +kernel
theorem d_Sum_sumOf_10 : decode b_Sum_sumOf 10 = .ok (.invokestatic 17, 3) := by decide +kernel
theorem d_Sum_sumOf_13 : decode b_Sum_sumOf 13 = .ok (.iadd, 1) := by decide +kernel
theorem d_Sum_sumOf_14 : decode b_Sum_sumOf 14 = .ok (.iload_n 3, 1) := by decide +kernel
theorem d_Sum_sumOf_15 : decode b_Sum_sumOf 15 = .ok (.invokestatic 17, 3) := by decide +kernel
theorem d_Sum_sumOf_18 : decode b_Sum_sumOf 18 = .ok (.iadd, 1) := by decide +kernel
theorem d_Sum_sumOf_19 : decode b_Sum_sumOf 19 = .ok (.iload 4, 2) := by decide +kernel
theorem d_Sum_sumOf_21 : decode b_Sum_sumOf 21 = .ok (.invokestatic 17, 3) := by decide +kernel
theorem d_Sum_sumOf_24 : decode b_Sum_sumOf 24 = .ok (.iadd, 1) := by decide +kernel
theorem d_Sum_sumOf_25 : decode b_Sum_sumOf 25 = .ok (.istore 5, 2) := by decide +kernel
theorem d_Sum_sumOf_27 : decode b_Sum_sumOf 27 = .ok (.iload 5, 2) := by decide +kernel
theorem d_Sum_sumOf_29 : decode b_Sum_sumOf 29 = .ok (.invokestatic 21, 3) := by decide +kernel
theorem d_Sum_sumOf_32 : decode b_Sum_sumOf 32 = .ok (.invokestatic 21, 3) := by decide +kernel
theorem d_Sum_sumOf_35 : decode b_Sum_sumOf 35 = .ok (.ireturn, 1) := by decide +kernel
theorem d_Sum_rightChecksum_0 : decode b_Sum_rightChecksum 0 = .ok (.ldc 11, 2) := by decide +kernel
theorem d_Sum_rightChecksum_2 : decode b_Sum_rightChecksum 2 = .ok (.iload_n 0, 1) := by decide +kernel
theorem d_Sum_rightChecksum_3 : decode b_Sum_rightChecksum 3 = .ok (.iload_n 1, 1) := by decide +kernel
theorem d_Sum_rightChecksum_4 : decode b_Sum_rightChecksum 4 = .ok (.iload_n 2, 1) := by decide +kernel
theorem d_Sum_rightChecksum_5 : decode b_Sum_rightChecksum 5 = .ok (.ldc 12, 2) := by decide +kernel
theorem d_Sum_rightChecksum_7 : decode b_Sum_rightChecksum 7 = .ok (.iand, 1) := by decide +kernel
theorem d_Sum_rightChecksum_8 : decode b_Sum_rightChecksum 8 = .ok (.iload_n 3, 1) := by decide +kernel
theorem d_Sum_rightChecksum_9 : decode b_Sum_rightChecksum 9 = .ok (.iload 4, 2) := by decide +kernel
theorem d_Sum_rightChecksum_11 : decode b_Sum_rightChecksum 11 = .ok (.invokestatic 13, 3) := by decide +kernel
theorem d_Sum_rightChecksum_14 : decode b_Sum_rightChecksum 14 = .ok (.isub, 1) := by decide +kernel
theorem d_Sum_rightChecksum_15 : decode b_Sum_rightChecksum 15 = .ok (.ireturn, 1) := by decide +kernel
theorem d_Dig_turnedLeft_0 : decode b_Dig_turnedLeft 0 = .ok (.lload_n 0, 1) := by decide +kernel
theorem d_Dig_turnedLeft_1 : decode b_Dig_turnedLeft 1 = .ok (.iload_n 2, 1) := by decide +kernel
theorem d_Dig_turnedLeft_2 : decode b_Dig_turnedLeft 2 = .ok (.lshl, 1) := by decide +kernel
theorem d_Dig_turnedLeft_3 : decode b_Dig_turnedLeft 3 = .ok (.lload_n 0, 1) := by decide +kernel
theorem d_Dig_turnedLeft_4 : decode b_Dig_turnedLeft 4 = .ok (.bipush 64, 2) := by decide +kernel
theorem d_Dig_turnedLeft_6 : decode b_Dig_turnedLeft 6 = .ok (.iload_n 2, 1) := by decide +kernel
theorem d_Dig_turnedLeft_7 : decode b_Dig_turnedLeft 7 = .ok (.isub, 1) := by decide +kernel
theorem d_Dig_turnedLeft_8 : decode b_Dig_turnedLeft 8 = .ok (.lushr, 1) := by decide +kernel
theorem d_Dig_turnedLeft_9 : decode b_Dig_turnedLeft 9 = .ok (.lor, 1) := by decide +kernel
theorem d_Dig_turnedLeft_10 : decode b_Dig_turnedLeft 10 = .ok (.lreturn, 1) := by decide +kernel
theorem d_Dig_round_0 : decode b_Dig_round 0 = .ok (.aload_n 0, 1) := by decide +kernel
theorem d_Dig_round_1 : decode b_Dig_round 1 = .ok (.dup, 1) := by decide +kernel
theorem d_Dig_round_2 : decode b_Dig_round 2 = .ok (.getfield 18, 3) := by decide +kernel
theorem d_Dig_round_5 : decode b_Dig_round 5 = .ok (.aload_n 0, 1) := by decide +kernel
theorem d_Dig_round_6 : decode b_Dig_round 6 = .ok (.getfield 23, 3) := by decide +kernel
theorem d_Dig_round_9 : decode b_Dig_round 9 = .ok (.ladd, 1) := by decide +kernel
theorem d_Dig_round_10 : decode b_Dig_round 10 = .ok (.putfield 18, 3) := by decide +kernel
theorem d_Dig_round_13 : decode b_Dig_round 13 = .ok (.aload_n 0, 1) := by decide +kernel
theorem d_Dig_round_14 : decode b_Dig_round 14 = .ok (.aload_n 0, 1) := by decide +kernel
theorem d_Dig_round_15 : decode b_Dig_round 15 = .ok (.getfield 23, 3) := by decide +kernel
theorem d_Dig_round_18 : decode b_Dig_round 18 = .ok (.bipush 13, 2) := by decide +kernel
theorem d_Dig_round_20 : decode b_Dig_round 20 = .ok (.invokestatic 47, 3) := by decide +kernel
theorem d_Dig_round_23 : decode b_Dig_round 23 = .ok (.aload_n 0, 1) := by decide +kernel
theorem d_Dig_round_24 : decode b_Dig_round 24 = .ok (.getfield 18, 3) := by decide +kernel
theorem d_Dig_round_27 : decode b_Dig_round 27 = .ok (.lxor, 1) := by decide +kernel
theorem d_Dig_round_28 : decode b_Dig_round 28 = .ok (.putfield 23, 3) := by decide +kernel
theorem d_Dig_round_31 : decode b_Dig_round 31 = .ok (.aload_n 0, 1) := by decide +kernel
theorem d_Dig_round_32 : decode b_Dig_round 32 = .ok (.aload_n 0, 1) := by decide +kernel
theorem d_Dig_round_33 : decode b_Dig_round 33 = .ok (.getfield 18, 3) := by decide +kernel
theorem d_Dig_round_36 : decode b_Dig_round 36 = .ok (.bipush 32, 2) := by decide +kernel
theorem d_Dig_round_38 : decode b_Dig_round 38 = .ok (.invokestatic 47, 3) := by decide +kernel
theorem d_Dig_round_41 : decode b_Dig_round 41 = .ok (.putfield 18, 3) := by decide +kernel
theorem d_Dig_round_44 : decode b_Dig_round 44 = .ok (.aload_n 0, 1) := by decide +kernel
theorem d_Dig_round_45 : decode b_Dig_round 45 = .ok (.dup, 1) := by decide +kernel
theorem d_Dig_round_46 : decode b_Dig_round 46 = .ok (.getfield 28, 3) := by decide +kernel
theorem d_Dig_round_49 : decode b_Dig_round 49 = .ok (.aload_n 0, 1) := by decide +kernel
theorem d_Dig_round_50 : decode b_Dig_round 50 = .ok (.getfield 33, 3) := by decide +kernel
theorem d_Dig_round_53 : decode b_Dig_round 53 = .ok (.ladd, 1) := by decide +kernel
theorem d_Dig_round_54 : decode b_Dig_round 54 = .ok (.putfield 28, 3) := by decide +kernel
theorem d_Dig_round_57 : decode b_Dig_round 57 = .ok (.aload_n 0, 1) := by decide +kernel
theorem d_Dig_round_58 : decode b_Dig_round 58 = .ok (.aload_n 0, 1) := by decide +kernel
theorem d_Dig_round_59 : decode b_Dig_round 59 = .ok (.getfield 33, 3) := by decide +kernel
theorem d_Dig_round_62 : decode b_Dig_round 62 = .ok (.bipush 16, 2) := by decide +kernel
theorem d_Dig_round_64 : decode b_Dig_round 64 = .ok (.invokestatic 47, 3) := by decide +kernel
theorem d_Dig_round_67 : decode b_Dig_round 67 = .ok (.aload_n 0, 1) := by decide +kernel
theorem d_Dig_round_68 : decode b_Dig_round 68 = .ok (.getfield 28, 3) := by decide +kernel
theorem d_Dig_round_71 : decode b_Dig_round 71 = .ok (.lxor, 1) := by decide +kernel
theorem d_Dig_round_72 : decode b_Dig_round 72 = .ok (.putfield 33, 3) := by decide +kernel
theorem d_Dig_round_75 : decode b_Dig_round 75 = .ok (.aload_n 0, 1) := by decide +kernel
theorem d_Dig_round_76 : decode b_Dig_round 76 = .ok (.dup, 1) := by decide +kernel
theorem d_Dig_round_77 : decode b_Dig_round 77 = .ok (.getfield 18, 3) := by decide +kernel
theorem d_Dig_round_80 : decode b_Dig_round 80 = .ok (.aload_n 0, 1) := by decide +kernel
theorem d_Dig_round_81 : decode b_Dig_round 81 = .ok (.getfield 33, 3) := by decide +kernel
theorem d_Dig_round_84 : decode b_Dig_round 84 = .ok (.ladd, 1) := by decide +kernel
theorem d_Dig_round_85 : decode b_Dig_round 85 = .ok (.putfield 18, 3) := by decide +kernel
theorem d_Dig_round_88 : decode b_Dig_round 88 = .ok (.aload_n 0, 1) := by decide +kernel
theorem d_Dig_round_89 : decode b_Dig_round 89 = .ok (.aload_n 0, 1) := by decide +kernel
theorem d_Dig_round_90 : decode b_Dig_round 90 = .ok (.getfield 33, 3) := by decide +kernel
theorem d_Dig_round_93 : decode b_Dig_round 93 = .ok (.bipush 21, 2) := by decide +kernel
theorem d_Dig_round_95 : decode b_Dig_round 95 = .ok (.invokestatic 47, 3) := by decide +kernel
theorem d_Dig_round_98 : decode b_Dig_round 98 = .ok (.aload_n 0, 1) := by decide +kernel
theorem d_Dig_round_99 : decode b_Dig_round 99 = .ok (.getfield 18, 3) := by decide +kernel
theorem d_Dig_round_102 : decode b_Dig_round 102 = .ok (.lxor, 1) := by decide +kernel
theorem d_Dig_round_103 : decode b_Dig_round 103 = .ok (.putfield 33, 3) := by decide +kernel
theorem d_Dig_round_106 : decode b_Dig_round 106 = .ok (.aload_n 0, 1) := by decide +kernel
theorem d_Dig_round_107 : decode b_Dig_round 107 = .ok (.dup, 1) := by decide +kernel
theorem d_Dig_round_108 : decode b_Dig_round 108 = .ok (.getfield 28, 3) := by decide +kernel
theorem d_Dig_round_111 : decode b_Dig_round 111 = .ok (.aload_n 0, 1) := by decide +kernel
theorem d_Dig_round_112 : decode b_Dig_round 112 = .ok (.getfield 23, 3) := by decide +kernel
theorem d_Dig_round_115 : decode b_Dig_round 115 = .ok (.ladd, 1) := by decide +kernel
theorem d_Dig_round_116 : decode b_Dig_round 116 = .ok (.putfield 28, 3) := by decide +kernel
theorem d_Dig_round_119 : decode b_Dig_round 119 = .ok (.aload_n 0, 1) := by decide +kernel
theorem d_Dig_round_120 : decode b_Dig_round 120 = .ok (.aload_n 0, 1) := by decide +kernel
theorem d_Dig_round_121 : decode b_Dig_round 121 = .ok (.getfield 23, 3) := by decide +kernel
theorem d_Dig_round_124 : decode b_Dig_round 124 = .ok (.bipush 17, 2) := by decide +kernel
theorem d_Dig_round_126 : decode b_Dig_round 126 = .ok (.invokestatic 47, 3) := by decide +kernel
theorem d_Dig_round_129 : decode b_Dig_round 129 = .ok (.aload_n 0, 1) := by decide +kernel
theorem d_Dig_round_130 : decode b_Dig_round 130 = .ok (.getfield 28, 3) := by decide +kernel
theorem d_Dig_round_133 : decode b_Dig_round 133 = .ok (.lxor, 1) := by decide +kernel
theorem d_Dig_round_134 : decode b_Dig_round 134 = .ok (.putfield 23, 3) := by decide +kernel
theorem d_Dig_round_137 : decode b_Dig_round 137 = .ok (.aload_n 0, 1) := by decide +kernel
theorem d_Dig_round_138 : decode b_Dig_round 138 = .ok (.aload_n 0, 1) := by decide +kernel
theorem d_Dig_round_139 : decode b_Dig_round 139 = .ok (.getfield 28, 3) := by decide +kernel
theorem d_Dig_round_142 : decode b_Dig_round 142 = .ok (.bipush 32, 2) := by decide +kernel
theorem d_Dig_round_144 : decode b_Dig_round 144 = .ok (.invokestatic 47, 3) := by decide +kernel
theorem d_Dig_round_147 : decode b_Dig_round 147 = .ok (.putfield 28, 3) := by decide +kernel
theorem d_Dig_round_150 : decode b_Dig_round 150 = .ok (.return_, 1) := by decide +kernel
theorem d_Dig_takeIn_0 : decode b_Dig_takeIn 0 = .ok (.aload_n 0, 1) := by decide +kernel
theorem d_Dig_takeIn_1 : decode b_Dig_takeIn 1 = .ok (.dup, 1) := by decide +kernel
theorem d_Dig_takeIn_2 : decode b_Dig_takeIn 2 = .ok (.getfield 33, 3) := by decide +kernel
theorem d_Dig_takeIn_5 : decode b_Dig_takeIn 5 = .ok (.lload_n 1, 1) := by decide +kernel
theorem d_Dig_takeIn_6 : decode b_Dig_takeIn 6 = .ok (.lxor, 1) := by decide +kernel
theorem d_Dig_takeIn_7 : decode b_Dig_takeIn 7 = .ok (.putfield 33, 3) := by decide +kernel
theorem d_Dig_takeIn_10 : decode b_Dig_takeIn 10 = .ok (.aload_n 0, 1) := by decide +kernel
theorem d_Dig_takeIn_11 : decode b_Dig_takeIn 11 = .ok (.invokevirtual 44, 3) := by decide +kernel
theorem d_Dig_takeIn_14 : decode b_Dig_takeIn 14 = .ok (.aload_n 0, 1) := by decide +kernel
theorem d_Dig_takeIn_15 : decode b_Dig_takeIn 15 = .ok (.invokevirtual 44, 3) := by decide +kernel
theorem d_Dig_takeIn_18 : decode b_Dig_takeIn 18 = .ok (.aload_n 0, 1) := by decide +kernel
theorem d_Dig_takeIn_19 : decode b_Dig_takeIn 19 = .ok (.dup, 1) := by decide +kernel
theorem d_Dig_takeIn_20 : decode b_Dig_takeIn 20 = .ok (.getfield 18, 3) := by decide +kernel
theorem d_Dig_takeIn_23 : decode b_Dig_takeIn 23 = .ok (.lload_n 1, 1) := by decide +kernel
theorem d_Dig_takeIn_24 : decode b_Dig_takeIn 24 = .ok (.lxor, 1) := by decide +kernel
theorem d_Dig_takeIn_25 : decode b_Dig_takeIn 25 = .ok (.putfield 18, 3) := by decide +kernel
theorem d_Dig_takeIn_28 : decode b_Dig_takeIn 28 = .ok (.return_, 1) := by decide +kernel
theorem d_Dig_digestOf_0 : decode b_Dig_digestOf 0 = .ok (.aload_n 0, 1) := by decide +kernel
theorem d_Dig_digestOf_1 : decode b_Dig_digestOf 1 = .ok (.aload_n 0, 1) := by decide +kernel
theorem d_Dig_digestOf_2 : decode b_Dig_digestOf 2 = .ok (.getfield 7, 3) := by decide +kernel
theorem d_Dig_digestOf_5 : decode b_Dig_digestOf 5 = .ok (.ldc2_w 16, 3) := by decide +kernel
theorem d_Dig_digestOf_8 : decode b_Dig_digestOf 8 = .ok (.lxor, 1) := by decide +kernel
theorem d_Dig_digestOf_9 : decode b_Dig_digestOf 9 = .ok (.putfield 18, 3) := by decide +kernel
theorem d_Dig_digestOf_12 : decode b_Dig_digestOf 12 = .ok (.aload_n 0, 1) := by decide +kernel
theorem d_Dig_digestOf_13 : decode b_Dig_digestOf 13 = .ok (.aload_n 0, 1) := by decide +kernel
theorem d_Dig_digestOf_14 : decode b_Dig_digestOf 14 = .ok (.getfield 13, 3) := by decide +kernel
theorem d_Dig_digestOf_17 : decode b_Dig_digestOf 17 = .ok (.ldc2_w 21, 3) := by decide +kernel
theorem d_Dig_digestOf_20 : decode b_Dig_digestOf 20 = .ok (.lxor, 1) := by decide +kernel
theorem d_Dig_digestOf_21 : decode b_Dig_digestOf 21 = .ok (.putfield 23, 3) := by decide +kernel
theorem d_Dig_digestOf_24 : decode b_Dig_digestOf 24 = .ok (.aload_n 0, 1) := by decide +kernel
theorem d_Dig_digestOf_25 : decode b_Dig_digestOf 25 = .ok (.aload_n 0, 1) := by decide +kernel
theorem d_Dig_digestOf_26 : decode b_Dig_digestOf 26 = .ok (.getfield 7, 3) := by decide +kernel
theorem d_Dig_digestOf_29 : decode b_Dig_digestOf 29 = .ok (.ldc2_w 26, 3) := by decide +kernel
theorem d_Dig_digestOf_32 : decode b_Dig_digestOf 32 = .ok (.lxor, 1) := by decide +kernel
theorem d_Dig_digestOf_33 : decode b_Dig_digestOf 33 = .ok (.putfield 28, 3) := by decide +kernel
theorem d_Dig_digestOf_36 : decode b_Dig_digestOf 36 = .ok (.aload_n 0, 1) := by decide +kernel
theorem d_Dig_digestOf_37 : decode b_Dig_digestOf 37 = .ok (.aload_n 0, 1) := by decide +kernel
theorem d_Dig_digestOf_38 : decode b_Dig_digestOf 38 = .ok (.getfield 13, 3) := by decide +kernel
theorem d_Dig_digestOf_41 : decode b_Dig_digestOf 41 = .ok (.ldc2_w 31, 3) := by decide +kernel
theorem d_Dig_digestOf_44 : decode b_Dig_digestOf 44 = .ok (.lxor, 1) := by decide +kernel
theorem d_Dig_digestOf_45 : decode b_Dig_digestOf 45 = .ok (.putfield 33, 3) := by decide +kernel
theorem d_Dig_digestOf_48 : decode b_Dig_digestOf 48 = .ok (.aload_n 0, 1) := by decide +kernel
theorem d_Dig_digestOf_49 : decode b_Dig_digestOf 49 = .ok (.lload_n 1, 1) := by decide +kernel
theorem d_Dig_digestOf_50 : decode b_Dig_digestOf 50 = .ok (.invokevirtual 36, 3) := by decide +kernel
theorem d_Dig_digestOf_53 : decode b_Dig_digestOf 53 = .ok (.aload_n 0, 1) := by decide +kernel
theorem d_Dig_digestOf_54 : decode b_Dig_digestOf 54 = .ok (.ldc2_w 40, 3) := by decide +kernel
theorem d_Dig_digestOf_57 : decode b_Dig_digestOf 57 = .ok (.invokevirtual 36, 3) := by decide +kernel
theorem d_Dig_digestOf_60 : decode b_Dig_digestOf 60 = .ok (.aload_n 0, 1) := by decide +kernel
theorem d_Dig_digestOf_61 : decode b_Dig_digestOf 61 = .ok (.dup, 1) := by decide +kernel
theorem d_Dig_digestOf_62 : decode b_Dig_digestOf 62 = .ok (.getfield 28, 3) := by decide +kernel
theorem d_Dig_digestOf_65 : decode b_Dig_digestOf 65 = .ok (.ldc2_w 42, 3) := by decide +kernel
theorem d_Dig_digestOf_68 : decode b_Dig_digestOf 68 = .ok (.lxor, 1) := by decide +kernel
theorem d_Dig_digestOf_69 : decode b_Dig_digestOf 69 = .ok (.putfield 28, 3) := by decide +kernel
theorem d_Dig_digestOf_72 : decode b_Dig_digestOf 72 = .ok (.iconst 0, 1) := by decide +kernel
theorem d_Dig_digestOf_73 : decode b_Dig_digestOf 73 = .ok (.istore_n 3, 1) := by decide +kernel
theorem d_Dig_digestOf_74 : decode b_Dig_digestOf 74 = .ok (.iload_n 3, 1) := by decide +kernel
theorem d_Dig_digestOf_75 : decode b_Dig_digestOf 75 = .ok (.iconst 4, 1) := by decide +kernel
theorem d_Dig_digestOf_76 : decode b_Dig_digestOf 76 = .ok (.if_icmp .ge 13, 3) := by decide +kernel
theorem d_Dig_digestOf_79 : decode b_Dig_digestOf 79 = .ok (.aload_n 0, 1) := by decide +kernel
theorem d_Dig_digestOf_80 : decode b_Dig_digestOf 80 = .ok (.invokevirtual 44, 3) := by decide +kernel
theorem d_Dig_digestOf_83 : decode b_Dig_digestOf 83 = .ok (.iinc 3 1, 3) := by decide +kernel
theorem d_Dig_digestOf_86 : decode b_Dig_digestOf 86 = .ok (.goto (-12), 3) := by decide +kernel
theorem d_Dig_digestOf_89 : decode b_Dig_digestOf 89 = .ok (.aload_n 0, 1) := by decide +kernel
theorem d_Dig_digestOf_90 : decode b_Dig_digestOf 90 = .ok (.getfield 18, 3) := by decide +kernel
theorem d_Dig_digestOf_93 : decode b_Dig_digestOf 93 = .ok (.aload_n 0, 1) := by decide +kernel
theorem d_Dig_digestOf_94 : decode b_Dig_digestOf 94 = .ok (.getfield 23, 3) := by decide +kernel
theorem d_Dig_digestOf_97 : decode b_Dig_digestOf 97 = .ok (.lxor, 1) := by decide +kernel
theorem d_Dig_digestOf_98 : decode b_Dig_digestOf 98 = .ok (.aload_n 0, 1) := by decide +kernel
theorem d_Dig_digestOf_99 : decode b_Dig_digestOf 99 = .ok (.getfield 28, 3) := by decide +kernel
theorem d_Dig_digestOf_102 : decode b_Dig_digestOf 102 = .ok (.lxor, 1) := by decide +kernel
theorem d_Dig_digestOf_103 : decode b_Dig_digestOf 103 = .ok (.aload_n 0, 1) := by decide +kernel
theorem d_Dig_digestOf_104 : decode b_Dig_digestOf 104 = .ok (.getfield 33, 3) := by decide +kernel
theorem d_Dig_digestOf_107 : decode b_Dig_digestOf 107 = .ok (.lxor, 1) := by decide +kernel
theorem d_Dig_digestOf_108 : decode b_Dig_digestOf 108 = .ok (.lreturn, 1) := by decide +kernel
theorem d_Wat_isUp_0 : decode b_Wat_isUp 0 = .ok (.aload_n 0, 1) := by decide +kernel
theorem d_Wat_isUp_1 : decode b_Wat_isUp 1 = .ok (.getfield 7, 3) := by decide +kernel
theorem d_Wat_isUp_4 : decode b_Wat_isUp 4 = .ok (.iload_n 1, 1) := by decide +kernel
theorem d_Wat_isUp_5 : decode b_Wat_isUp 5 = .ok (.baload, 1) := by decide +kernel
theorem d_Wat_isUp_6 : decode b_Wat_isUp 6 = .ok (.ireturn, 1) := by decide +kernel
theorem d_Wat_stateOf_0 : decode b_Wat_stateOf 0 = .ok (.aload_n 0, 1) := by decide +kernel
theorem d_Wat_stateOf_1 : decode b_Wat_stateOf 1 = .ok (.getfield 7, 3) := by decide +kernel
theorem d_Wat_stateOf_4 : decode b_Wat_stateOf 4 = .ok (.iload_n 1, 1) := by decide +kernel
theorem d_Wat_stateOf_5 : decode b_Wat_stateOf 5 = .ok (.baload, 1) := by decide +kernel
theorem d_Wat_stateOf_6 : decode b_Wat_stateOf 6 = .ok (.ifCond .eq 12, 3) := by decide +kernel
theorem d_Wat_stateOf_9 : decode b_Wat_stateOf 9 = .ok (.aload_n 0, 1) := by decide +kernel
theorem d_Wat_stateOf_10 : decode b_Wat_stateOf 10 = .ok (.getfield 13, 3) := by decide +kernel
theorem d_Wat_stateOf_13 : decode b_Wat_stateOf 13 = .ok (.iload_n 1, 1) := by decide +kernel
theorem d_Wat_stateOf_14 : decode b_Wat_stateOf 14 = .ok (.iaload, 1) := by decide +kernel
theorem d_Wat_stateOf_15 : decode b_Wat_stateOf 15 = .ok (.goto 12, 3) := by decide +kernel
theorem d_Wat_stateOf_18 : decode b_Wat_stateOf 18 = .ok (.bipush 10, 2) := by decide +kernel
theorem d_Wat_stateOf_20 : decode b_Wat_stateOf 20 = .ok (.aload_n 0, 1) := by decide +kernel
theorem d_Wat_stateOf_21 : decode b_Wat_stateOf 21 = .ok (.getfield 13, 3) := by decide +kernel
theorem d_Wat_stateOf_24 : decode b_Wat_stateOf 24 = .ok (.iload_n 1, 1) := by decide +kernel
theorem d_Wat_stateOf_25 : decode b_Wat_stateOf 25 = .ok (.iaload, 1) := by decide +kernel
theorem d_Wat_stateOf_26 : decode b_Wat_stateOf 26 = .ok (.iadd, 1) := by decide +kernel
theorem d_Wat_stateOf_27 : decode b_Wat_stateOf 27 = .ok (.ireturn, 1) := by decide +kernel
theorem d_Wat_observe_0 : decode b_Wat_observe 0 = .ok (.aload_n 0, 1) := by decide +kernel
theorem d_Wat_observe_1 : decode b_Wat_observe 1 = .ok (.getfield 13, 3) := by decide +kernel
theorem d_Wat_observe_4 : decode b_Wat_observe 4 = .ok (.iload_n 1, 1) := by decide +kernel
theorem d_Wat_observe_5 : decode b_Wat_observe 5 = .ok (.iload_n 2, 1) := by decide +kernel
theorem d_Wat_observe_6 : decode b_Wat_observe 6 = .ok (.aload_n 0, 1) := by decide +kernel
theorem d_Wat_observe_7 : decode b_Wat_observe 7 = .ok (.getfield 7, 3) := by decide +kernel
theorem d_Wat_observe_10 : decode b_Wat_observe 10 = .ok (.iload_n 1, 1) := by decide +kernel
theorem d_Wat_observe_11 : decode b_Wat_observe 11 = .ok (.baload, 1) := by decide +kernel
theorem d_Wat_observe_12 : decode b_Wat_observe 12 = .ok (.if_icmp .ne 7, 3) := by decide +kernel
theorem d_Wat_observe_15 : decode b_Wat_observe 15 = .ok (.iconst 0, 1) := by decide +kernel
theorem d_Wat_observe_16 : decode b_Wat_observe 16 = .ok (.goto 11, 3) := by decide +kernel
theorem d_Wat_observe_19 : decode b_Wat_observe 19 = .ok (.aload_n 0, 1) := by decide +kernel
theorem d_Wat_observe_20 : decode b_Wat_observe 20 = .ok (.getfield 13, 3) := by decide +kernel
theorem d_Wat_observe_23 : decode b_Wat_observe 23 = .ok (.iload_n 1, 1) := by decide +kernel
theorem d_Wat_observe_24 : decode b_Wat_observe 24 = .ok (.iaload, 1) := by decide +kernel
theorem d_Wat_observe_25 : decode b_Wat_observe 25 = .ok (.iconst 1, 1) := by decide +kernel
theorem d_Wat_observe_26 : decode b_Wat_observe 26 = .ok (.iadd, 1) := by decide +kernel
theorem d_Wat_observe_27 : decode b_Wat_observe 27 = .ok (.iastore, 1) := by decide +kernel
theorem d_Wat_observe_28 : decode b_Wat_observe 28 = .ok (.aload_n 0, 1) := by decide +kernel
theorem d_Wat_observe_29 : decode b_Wat_observe 29 = .ok (.getfield 13, 3) := by decide +kernel
theorem d_Wat_observe_32 : decode b_Wat_observe 32 = .ok (.iload_n 1, 1) := by decide +kernel
theorem d_Wat_observe_33 : decode b_Wat_observe 33 = .ok (.iaload, 1) := by decide +kernel
theorem d_Wat_observe_34 : decode b_Wat_observe 34 = .ok (.iconst 3, 1) := by decide +kernel
theorem d_Wat_observe_35 : decode b_Wat_observe 35 = .ok (.if_icmp .ge 5, 3) := by decide +kernel
theorem d_Wat_observe_38 : decode b_Wat_observe 38 = .ok (.iconst 0, 1) := by decide +kernel
theorem d_Wat_observe_39 : decode b_Wat_observe 39 = .ok (.ireturn, 1) := by decide +kernel
theorem d_Wat_observe_40 : decode b_Wat_observe 40 = .ok (.aload_n 0, 1) := by decide +kernel
theorem d_Wat_observe_41 : decode b_Wat_observe 41 = .ok (.getfield 7, 3) := by decide +kernel
theorem d_Wat_observe_44 : decode b_Wat_observe 44 = .ok (.iload_n 1, 1) := by decide +kernel
theorem d_Wat_observe_45 : decode b_Wat_observe 45 = .ok (.iload_n 2, 1) := by decide +kernel
theorem d_Wat_observe_46 : decode b_Wat_observe 46 = .ok (.bastore, 1) := by decide +kernel
theorem d_Wat_observe_47 : decode b_Wat_observe 47 = .ok (.aload_n 0, 1) := by decide +kernel
theorem d_Wat_observe_48 : decode b_Wat_observe 48 = .ok (.getfield 13, 3) := by decide +kernel
theorem d_Wat_observe_51 : decode b_Wat_observe 51 = .ok (.iload_n 1, 1) := by decide +kernel
theorem d_Wat_observe_52 : decode b_Wat_observe 52 = .ok (.iconst 0, 1) := by decide +kernel
theorem d_Wat_observe_53 : decode b_Wat_observe 53 = .ok (.iastore, 1) := by decide +kernel
theorem d_Wat_observe_54 : decode b_Wat_observe 54 = .ok (.iconst 1, 1) := by decide +kernel
theorem d_Wat_observe_55 : decode b_Wat_observe 55 = .ok (.ireturn, 1) := by decide +kernel
theorem d_Slo_used_0 : decode b_Slo_used 0 = .ok (.aload_n 0, 1) := by decide +kernel
theorem d_Slo_used_1 : decode b_Slo_used 1 = .ok (.getfield 22, 3) := by decide +kernel
theorem d_Slo_used_4 : decode b_Slo_used 4 = .ok (.ireturn, 1) := by decide +kernel
theorem d_Slo_find_0 : decode b_Slo_find 0 = .ok (.iconst 0, 1) := by decide +kernel
theorem d_Slo_find_1 : decode b_Slo_find 1 = .ok (.istore_n 3, 1) := by decide +kernel
theorem d_Slo_find_2 : decode b_Slo_find 2 = .ok (.iload_n 3, 1) := by decide +kernel
theorem d_Slo_find_3 : decode b_Slo_find 3 = .ok (.aload_n 0, 1) := by decide +kernel
theorem d_Slo_find_4 : decode b_Slo_find 4 = .ok (.getfield 18, 3) := by decide +kernel
theorem d_Slo_find_7 : decode b_Slo_find 7 = .ok (.arraylength, 1) := by decide +kernel
theorem d_Slo_find_8 : decode b_Slo_find 8 = .ok (.if_icmp .ge 40, 3) := by decide +kernel
theorem d_Slo_find_11 : decode b_Slo_find 11 = .ok (.aload_n 0, 1) := by decide +kernel
theorem d_Slo_find_12 : decode b_Slo_find 12 = .ok (.getfield 18, 3) := by decide +kernel
theorem d_Slo_find_15 : decode b_Slo_find 15 = .ok (.iload_n 3, 1) := by decide +kernel
theorem d_Slo_find_16 : decode b_Slo_find 16 = .ok (.baload, 1) := by decide +kernel
theorem d_Slo_find_17 : decode b_Slo_find 17 = .ok (.ifCond .eq 25, 3) := by decide +kernel
theorem d_Slo_find_20 : decode b_Slo_find 20 = .ok (.aload_n 0, 1) := by decide +kernel
theorem d_Slo_find_21 : decode b_Slo_find 21 = .ok (.getfield 9, 3) := by decide +kernel
theorem d_Slo_find_24 : decode b_Slo_find 24 = .ok (.iload_n 3, 1) := by decide +kernel
theorem d_Slo_find_25 : decode b_Slo_find 25 = .ok (.iaload, 1) := by decide +kernel
theorem d_Slo_find_26 : decode b_Slo_find 26 = .ok (.iload_n 1, 1) := by decide +kernel
theorem d_Slo_find_27 : decode b_Slo_find 27 = .ok (.if_icmp .ne 15, 3) := by decide +kernel
theorem d_Slo_find_30 : decode b_Slo_find 30 = .ok (.aload_n 0, 1) := by decide +kernel
theorem d_Slo_find_31 : decode b_Slo_find 31 = .ok (.getfield 15, 3) := by decide +kernel
theorem d_Slo_find_34 : decode b_Slo_find 34 = .ok (.iload_n 3, 1) := by decide +kernel
theorem d_Slo_find_35 : decode b_Slo_find 35 = .ok (.iaload, 1) := by decide +kernel
theorem d_Slo_find_36 : decode b_Slo_find 36 = .ok (.iload_n 2, 1) := by decide +kernel
theorem d_Slo_find_37 : decode b_Slo_find 37 = .ok (.if_icmp .ne 5, 3) := by decide +kernel
theorem d_Slo_find_40 : decode b_Slo_find 40 = .ok (.iload_n 3, 1) := by decide +kernel
theorem d_Slo_find_41 : decode b_Slo_find 41 = .ok (.ireturn, 1) := by decide +kernel
theorem d_Slo_find_42 : decode b_Slo_find 42 = .ok (.iinc 3 1, 3) := by decide +kernel
theorem d_Slo_find_45 : decode b_Slo_find 45 = .ok (.goto (-43), 3) := by decide +kernel
theorem d_Slo_find_48 : decode b_Slo_find 48 = .ok (.iconst (-1), 1) := by decide +kernel
theorem d_Slo_find_49 : decode b_Slo_find 49 = .ok (.ireturn, 1) := by decide +kernel
theorem d_Slo_release_0 : decode b_Slo_release 0 = .ok (.aload_n 0, 1) := by decide +kernel
theorem d_Slo_release_1 : decode b_Slo_release 1 = .ok (.getfield 18, 3) := by decide +kernel
theorem d_Slo_release_4 : decode b_Slo_release 4 = .ok (.iload_n 1, 1) := by decide +kernel
theorem d_Slo_release_5 : decode b_Slo_release 5 = .ok (.baload, 1) := by decide +kernel
theorem d_Slo_release_6 : decode b_Slo_release 6 = .ok (.ifCond .eq 20, 3) := by decide +kernel
theorem d_Slo_release_9 : decode b_Slo_release 9 = .ok (.aload_n 0, 1) := by decide +kernel
theorem d_Slo_release_10 : decode b_Slo_release 10 = .ok (.getfield 18, 3) := by decide +kernel
theorem d_Slo_release_13 : decode b_Slo_release 13 = .ok (.iload_n 1, 1) := by decide +kernel
theorem d_Slo_release_14 : decode b_Slo_release 14 = .ok (.iconst 0, 1) := by decide +kernel
theorem d_Slo_release_15 : decode b_Slo_release 15 = .ok (.bastore, 1) := by decide +kernel
theorem d_Slo_release_16 : decode b_Slo_release 16 = .ok (.aload_n 0, 1) := by decide +kernel
theorem d_Slo_release_17 : decode b_Slo_release 17 = .ok (.dup, 1) := by decide +kernel
theorem d_Slo_release_18 : decode b_Slo_release 18 = .ok (.getfield 22, 3) := by decide +kernel
theorem d_Slo_release_21 : decode b_Slo_release 21 = .ok (.iconst 1, 1) := by decide +kernel
theorem d_Slo_release_22 : decode b_Slo_release 22 = .ok (.isub, 1) := by decide +kernel
theorem d_Slo_release_23 : decode b_Slo_release 23 = .ok (.putfield 22, 3) := by decide +kernel
theorem d_Slo_release_26 : decode b_Slo_release 26 = .ok (.return_, 1) := by decide +kernel
theorem d_Slo_releaseAll_0 : decode b_Slo_releaseAll 0 = .ok (.iconst 0, 1) := by decide +kernel
theorem d_Slo_releaseAll_1 : decode b_Slo_releaseAll 1 = .ok (.istore_n 1, 1) := by decide +kernel
theorem d_Slo_releaseAll_2 : decode b_Slo_releaseAll 2 = .ok (.iload_n 1, 1) := by decide +kernel
theorem d_Slo_releaseAll_3 : decode b_Slo_releaseAll 3 = .ok (.aload_n 0, 1) := by decide +kernel
theorem d_Slo_releaseAll_4 : decode b_Slo_releaseAll 4 = .ok (.getfield 18, 3) := by decide +kernel
theorem d_Slo_releaseAll_7 : decode b_Slo_releaseAll 7 = .ok (.arraylength, 1) := by decide +kernel
theorem d_Slo_releaseAll_8 : decode b_Slo_releaseAll 8 = .ok (.if_icmp .ge 14, 3) := by decide +kernel
theorem d_Slo_releaseAll_11 : decode b_Slo_releaseAll 11 = .ok (.aload_n 0, 1) := by decide +kernel
theorem d_Slo_releaseAll_12 : decode b_Slo_releaseAll 12 = .ok (.iload_n 1, 1) := by decide +kernel
theorem d_Slo_releaseAll_13 : decode b_Slo_releaseAll 13 = .ok (.invokevirtual 30, 3) := by decide +kernel
theorem d_Slo_releaseAll_16 : decode b_Slo_releaseAll 16 = .ok (.iinc 1 1, 3) := by decide +kernel
theorem d_Slo_releaseAll_19 : decode b_Slo_releaseAll 19 = .ok (.goto (-17), 3) := by decide +kernel
theorem d_Slo_releaseAll_22 : decode b_Slo_releaseAll 22 = .ok (.return_, 1) := by decide +kernel
theorem d_Slo_findOrTake_0 : decode b_Slo_findOrTake 0 = .ok (.aload_n 0, 1) := by decide +kernel
theorem d_Slo_findOrTake_1 : decode b_Slo_findOrTake 1 = .ok (.iload_n 1, 1) := by decide +kernel
theorem d_Slo_findOrTake_2 : decode b_Slo_findOrTake 2 = .ok (.iload_n 2, 1) := by decide +kernel
theorem d_Slo_findOrTake_3 : decode b_Slo_findOrTake 3 = .ok (.invokevirtual 26, 3) := by decide +kernel
theorem d_Slo_findOrTake_6 : decode b_Slo_findOrTake 6 = .ok (.istore_n 3, 1) := by decide +kernel
theorem d_Slo_findOrTake_7 : decode b_Slo_findOrTake 7 = .ok (.iload_n 3, 1) := by decide +kernel
theorem d_Slo_findOrTake_8 : decode b_Slo_findOrTake 8 = .ok (.iconst (-1), 1) := by decide +kernel
theorem d_Slo_findOrTake_9 : decode b_Slo_findOrTake 9 = .ok (.if_icmp .eq 5, 3) := by decide +kernel
theorem d_Slo_findOrTake_12 : decode b_Slo_findOrTake 12 = .ok (.iload_n 3, 1) := by decide +kernel
theorem d_Slo_findOrTake_13 : decode b_Slo_findOrTake 13 = .ok (.ireturn, 1) := by decide +kernel
theorem d_Slo_findOrTake_14 : decode b_Slo_findOrTake 14 = .ok (.iconst 0, 1) := by decide +kernel
theorem d_Slo_findOrTake_15 : decode b_Slo_findOrTake 15 = .ok (.istore 4, 2) := by decide +kernel
theorem d_Slo_findOrTake_17 : decode b_Slo_findOrTake 17 = .ok (.iload 4, 2) := by decide +kernel
theorem d_Slo_findOrTake_19 : decode b_Slo_findOrTake 19 = .ok (.aload_n 0, 1) := by decide +kernel
theorem d_Slo_findOrTake_20 : decode b_Slo_findOrTake 20 = .ok (.getfield 18, 3) := by decide +kernel
theorem d_Slo_findOrTake_23 : decode b_Slo_findOrTake 23 = .ok (.arraylength, 1) := by decide +kernel
theorem d_Slo_findOrTake_24 : decode b_Slo_findOrTake 24 = .ok (.if_icmp .ge 56, 3) := by decide +kernel
theorem d_Slo_findOrTake_27 : decode b_Slo_findOrTake 27 = .ok (.aload_n 0, 1) := by decide +kernel
theorem d_Slo_findOrTake_28 : decode b_Slo_findOrTake 28 = .ok (.getfield 18, 3) := by decide +kernel
theorem d_Slo_findOrTake_31 : decode b_Slo_findOrTake 31 = .ok (.iload 4, 2) := by decide +kernel
theorem d_Slo_findOrTake_33 : decode b_Slo_findOrTake 33 = .ok (.baload, 1) := by decide +kernel
theorem d_Slo_findOrTake_34 : decode b_Slo_findOrTake 34 = .ok (.ifCond .ne 40, 3) := by decide +kernel
theorem d_Slo_findOrTake_37 : decode b_Slo_findOrTake 37 = .ok (.aload_n 0, 1) := by decide +kernel
theorem d_Slo_findOrTake_38 : decode b_Slo_findOrTake 38 = .ok (.getfield 18, 3) := by decide +kernel
theorem d_Slo_findOrTake_41 : decode b_Slo_findOrTake 41 = .ok (.iload 4, 2) := by decide +kernel
theorem d_Slo_findOrTake_43 : decode b_Slo_findOrTake 43 = .ok (.iconst 1, 1) := by decide +kernel
theorem d_Slo_findOrTake_44 : decode b_Slo_findOrTake 44 = .ok (.bastore, 1) := by decide +kernel
theorem d_Slo_findOrTake_45 : decode b_Slo_findOrTake 45 = .ok (.aload_n 0, 1) := by decide +kernel
theorem d_Slo_findOrTake_46 : decode b_Slo_findOrTake 46 = .ok (.getfield 9, 3) := by decide +kernel
theorem d_Slo_findOrTake_49 : decode b_Slo_findOrTake 49 = .ok (.iload 4, 2) := by decide +kernel
theorem d_Slo_findOrTake_51 : decode b_Slo_findOrTake 51 = .ok (.iload_n 1, 1) := by decide +kernel
theorem d_Slo_findOrTake_52 : decode b_Slo_findOrTake 52 = .ok (.iastore, 1) := by decide +kernel
theorem d_Slo_findOrTake_53 : decode b_Slo_findOrTake 53 = .ok (.aload_n 0, 1) := by decide +kernel
theorem d_Slo_findOrTake_54 : decode b_Slo_findOrTake 54 = .ok (.getfield 15, 3) := by decide +kernel
theorem d_Slo_findOrTake_57 : decode b_Slo_findOrTake 57 = .ok (.iload 4, 2) := by decide +kernel
theorem d_Slo_findOrTake_59 : decode b_Slo_findOrTake 59 = .ok (.iload_n 2, 1) := by decide +kernel
theorem d_Slo_findOrTake_60 : decode b_Slo_findOrTake 60 = .ok (.iastore, 1) := by decide +kernel
theorem d_Slo_findOrTake_61 : decode b_Slo_findOrTake 61 = .ok (.aload_n 0, 1) := by decide +kernel
theorem d_Slo_findOrTake_62 : decode b_Slo_findOrTake 62 = .ok (.dup, 1) := by decide +kernel
theorem d_Slo_findOrTake_63 : decode b_Slo_findOrTake 63 = .ok (.getfield 22, 3) := by decide +kernel
theorem d_Slo_findOrTake_66 : decode b_Slo_findOrTake 66 = .ok (.iconst 1, 1) := by decide +kernel
theorem d_Slo_findOrTake_67 : decode b_Slo_findOrTake 67 = .ok (.iadd, 1) := by decide +kernel
theorem d_Slo_findOrTake_68 : decode b_Slo_findOrTake 68 = .ok (.putfield 22, 3) := by decide +kernel
theorem d_Slo_findOrTake_71 : decode b_Slo_findOrTake 71 = .ok (.iload 4, 2) := by decide +kernel
theorem d_Slo_findOrTake_73 : decode b_Slo_findOrTake 73 = .ok (.ireturn, 1) := by decide +kernel
theorem d_Slo_findOrTake_74 : decode b_Slo_findOrTake 74 = .ok (.iinc 4 1, 3) := by decide +kernel
theorem d_Slo_findOrTake_77 : decode b_Slo_findOrTake 77 = .ok (.goto (-60), 3) := by decide +kernel
theorem d_Slo_findOrTake_80 : decode b_Slo_findOrTake 80 = .ok (.iconst (-1), 1) := by decide +kernel
theorem d_Slo_findOrTake_81 : decode b_Slo_findOrTake 81 = .ok (.ireturn, 1) := by decide +kernel
theorem d_Lst_placeAt_0 : decode b_Lst_placeAt 0 = .ok (.aload_n 0, 1) := by decide +kernel
theorem d_Lst_placeAt_1 : decode b_Lst_placeAt 1 = .ok (.getfield 15, 3) := by decide +kernel
theorem d_Lst_placeAt_4 : decode b_Lst_placeAt 4 = .ok (.iload_n 1, 1) := by decide +kernel
theorem d_Lst_placeAt_5 : decode b_Lst_placeAt 5 = .ok (.iaload, 1) := by decide +kernel
theorem d_Lst_placeAt_6 : decode b_Lst_placeAt 6 = .ok (.iload_n 2, 1) := by decide +kernel
theorem d_Lst_placeAt_7 : decode b_Lst_placeAt 7 = .ok (.aload_n 0, 1) := by decide +kernel
theorem d_Lst_placeAt_8 : decode b_Lst_placeAt 8 = .ok (.getfield 19, 3) := by decide +kernel
theorem d_Lst_placeAt_11 : decode b_Lst_placeAt 11 = .ok (.iload_n 1, 1) := by decide +kernel
theorem d_Lst_placeAt_12 : decode b_Lst_placeAt 12 = .ok (.iaload, 1) := by decide +kernel
theorem d_Lst_placeAt_13 : decode b_Lst_placeAt 13 = .ok (.imul, 1) := by decide +kernel
theorem d_Lst_placeAt_14 : decode b_Lst_placeAt 14 = .ok (.iadd, 1) := by decide +kernel
theorem d_Lst_placeAt_15 : decode b_Lst_placeAt 15 = .ok (.aload_n 0, 1) := by decide +kernel
theorem d_Lst_placeAt_16 : decode b_Lst_placeAt 16 = .ok (.getfield 9, 3) := by decide +kernel
theorem d_Lst_placeAt_19 : decode b_Lst_placeAt 19 = .ok (.irem, 1) := by decide +kernel
theorem d_Lst_placeAt_20 : decode b_Lst_placeAt 20 = .ok (.ireturn, 1) := by decide +kernel
end
section
theorem k_b10 : (Int8.ofInt (10)).toInt32 = (10 : Int32) := by decide
theorem k_b13 : (Int8.ofInt (13)).toInt32 = (13 : Int32) := by decide
theorem k_b16 : (Int8.ofInt (16)).toInt32 = (16 : Int32) := by decide
theorem k_b17 : (Int8.ofInt (17)).toInt32 = (17 : Int32) := by decide
theorem k_b21 : (Int8.ofInt (21)).toInt32 = (21 : Int32) := by decide
theorem k_b32 : (Int8.ofInt (32)).toInt32 = (32 : Int32) := by decide
theorem k_b64 : (Int8.ofInt (64)).toInt32 = (64 : Int32) := by decide
theorem k_i0 : Int32.ofInt (0) = (0 : Int32) := by decide
theorem k_i1 : Int32.ofInt (1) = (1 : Int32) := by decide
theorem k_i3 : Int32.ofInt (3) = (3 : Int32) := by decide
theorem k_i4 : Int32.ofInt (4) = (4 : Int32) := by decide
theorem k_im1 : Int32.ofInt (-1) = (-1 : Int32) := by decide
section ZG
variable {p : Program} {l : Launch} {e : Env} {R : Room} {s : State} {m : MethodId} {args : Array Value} {below : List Frame} {meth : Method} {c : Code} {cells slots : Nat} {Q : State → Prop} {cc : ByteArray} {nL pc : Nat} {rest : List Value} {D : va_G} {K : Nat → ClassId} {M : List (ClassId × FieldType)} {A : Nat → Prop} {ws : va_W} {lv : List (Nat × Value)}
theorem zg_Dig_13 (hF : zF p s m args c cc nL R_Dig D K M A) (q0 : Nat) {a : Nat} {fs : List Value} {v : Value} (he : ws[q0]? = some (a, .inr (2, fs))) (hv : fs[1]? = some v) (hdg : decode cc pc = .ok (.getfield 13, 3)) (k : zW p l e R s m args below meth c D A cells slots Q nL ws lv (pc + 3) (v :: rest)) : zW p l e R s m args below meth c D A cells slots Q nL ws lv pc (.ref a :: rest) := zx_get hF (C := R_Dig) (T := F_Dig) (N := 6) wu_Dig q0 he rfl 1 (by decide) wf_Dig_13 hv hdg k
theorem zg_Dig_18 (hF : zF p s m args c cc nL R_Dig D K M A) (q0 : Nat) {a : Nat} {fs : List Value} {v : Value} (he : ws[q0]? = some (a, .inr (2, fs))) (hv : fs[2]? = some v) (hdg : decode cc pc = .ok (.getfield 18, 3)) (k : zW p l e R s m args below meth c D A cells slots Q nL ws lv (pc + 3) (v :: rest)) : zW p l e R s m args below meth c D A cells slots Q nL ws lv pc (.ref a :: rest) := zx_get hF (C := R_Dig) (T := F_Dig) (N := 6) wu_Dig q0 he rfl 2 (by decide) wf_Dig_18 hv hdg k
theorem zg_Dig_23 (hF : zF p s m args c cc nL R_Dig D K M A) (q0 : Nat) {a : Nat} {fs : List Value} {v : Value} (he : ws[q0]? = some (a, .inr (2, fs))) (hv : fs[3]? = some v) (hdg : decode cc pc = .ok (.getfield 23, 3)) (k : zW p l e R s m args below meth c D A cells slots Q nL ws lv (pc + 3) (v :: rest)) : zW p l e R s m args below meth c D A cells slots Q nL ws lv pc (.ref a :: rest) := zx_get hF (C := R_Dig) (T := F_Dig) (N := 6) wu_Dig q0 he rfl 3 (by decide) wf_Dig_23 hv hdg k
theorem zg_Dig_28 (hF : zF p s m args c cc nL R_Dig D K M A) (q0 : Nat) {a : Nat} {fs : List Value} {v : Value} (he : ws[q0]? = some (a, .inr (2, fs))) (hv : fs[4]? = some v) (hdg : decode cc pc = .ok (.getfield 28, 3)) (k : zW p l e R s m args below meth c D A cells slots Q nL ws lv (pc + 3) (v :: rest)) : zW p l e R s m args below meth c D A cells slots Q nL ws lv pc (.ref a :: rest) := zx_get hF (C := R_Dig) (T := F_Dig) (N := 6) wu_Dig q0 he rfl 4 (by decide) wf_Dig_28 hv hdg k
theorem zg_Dig_33 (hF : zF p s m args c cc nL R_Dig D K M A) (q0 : Nat) {a : Nat} {fs : List Value} {v : Value} (he : ws[q0]? = some (a, .inr (2, fs))) (hv : fs[5]? = some v) (hdg : decode cc pc = .ok (.getfield 33, 3)) (k : zW p l e R s m args below meth c D A cells slots Q nL ws lv (pc + 3) (v :: rest)) : zW p l e R s m args below meth c D A cells slots Q nL ws lv pc (.ref a :: rest) := zx_get hF (C := R_Dig) (T := F_Dig) (N := 6) wu_Dig q0 he rfl 5 (by decide) wf_Dig_33 hv hdg k
theorem zg_Dig_7 (hF : zF p s m args c cc nL R_Dig D K M A) (q0 : Nat) {a : Nat} {fs : List Value} {v : Value} (he : ws[q0]? = some (a, .inr (2, fs))) (hv : fs[0]? = some v) (hdg : decode cc pc = .ok (.getfield 7, 3)) (k : zW p l e R s m args below meth c D A cells slots Q nL ws lv (pc + 3) (v :: rest)) : zW p l e R s m args below meth c D A cells slots Q nL ws lv pc (.ref a :: rest) := zx_get hF (C := R_Dig) (T := F_Dig) (N := 6) wu_Dig q0 he rfl 0 (by decide) wf_Dig_7 hv hdg k
theorem zg_Lst_15 (hF : zF p s m args c cc nL R_Lst D K M A) (q0 : Nat) {a : Nat} {fs : List Value} {v : Value} (he : ws[q0]? = some (a, .inr (4, fs))) (hv : fs[1]? = some v) (hdg : decode cc pc = .ok (.getfield 15, 3)) (k : zW p l e R s m args below meth c D A cells slots Q nL ws lv (pc + 3) (v :: rest)) : zW p l e R s m args below meth c D A cells slots Q nL ws lv pc (.ref a :: rest) := zx_get hF (C := R_Lst) (T := F_Lst) (N := 3) wu_Lst q0 he rfl 1 (by decide) wf_Lst_15 hv hdg k
theorem zg_Lst_19 (hF : zF p s m args c cc nL R_Lst D K M A) (q0 : Nat) {a : Nat} {fs : List Value} {v : Value} (he : ws[q0]? = some (a, .inr (4, fs))) (hv : fs[2]? = some v) (hdg : decode cc pc = .ok (.getfield 19, 3)) (k : zW p l e R s m args below meth c D A cells slots Q nL ws lv (pc + 3) (v :: rest)) : zW p l e R s m args below meth c D A cells slots Q nL ws lv pc (.ref a :: rest) := zx_get hF (C := R_Lst) (T := F_Lst) (N := 3) wu_Lst q0 he rfl 2 (by decide) wf_Lst_19 hv hdg k
theorem zg_Lst_9 (hF : zF p s m args c cc nL R_Lst D K M A) (q0 : Nat) {a : Nat} {fs : List Value} {v : Value} (he : ws[q0]? = some (a, .inr (4, fs))) (hv : fs[0]? = some v) (hdg : decode cc pc = .ok (.getfield 9, 3)) (k : zW p l e R s m args below meth c D A cells slots Q nL ws lv (pc + 3) (v :: rest)) : zW p l e R s m args below meth c D A cells slots Q nL ws lv pc (.ref a :: rest) := zx_get hF (C := R_Lst) (T := F_Lst) (N := 3) wu_Lst q0 he rfl 0 (by decide) wf_Lst_9 hv hdg k
theorem zg_Slo_15 (hF : zF p s m args c cc nL R_Slo D K M A) (q0 : Nat) {a : Nat} {fs : List Value} {v : Value} (he : ws[q0]? = some (a, .inr (6, fs))) (hv : fs[1]? = some v) (hdg : decode cc pc = .ok (.getfield 15, 3)) (k : zW p l e R s m args below meth c D A cells slots Q nL ws lv (pc + 3) (v :: rest)) : zW p l e R s m args below meth c D A cells slots Q nL ws lv pc (.ref a :: rest) := zx_get hF (C := R_Slo) (T := F_Slo) (N := 4) wu_Slo q0 he rfl 1 (by decide) wf_Slo_15 hv hdg k
theorem zg_Slo_18 (hF : zF p s m args c cc nL R_Slo D K M A) (q0 : Nat) {a : Nat} {fs : List Value} {v : Value} (he : ws[q0]? = some (a, .inr (6, fs))) (hv : fs[2]? = some v) (hdg : decode cc pc = .ok (.getfield 18, 3)) (k : zW p l e R s m args below meth c D A cells slots Q nL ws lv (pc + 3) (v :: rest)) : zW p l e R s m args below meth c D A cells slots Q nL ws lv pc (.ref a :: rest) := zx_get hF (C := R_Slo) (T := F_Slo) (N := 4) wu_Slo q0 he rfl 2 (by decide) wf_Slo_18 hv hdg k
theorem zg_Slo_22 (hF : zF p s m args c cc nL R_Slo D K M A) (q0 : Nat) {a : Nat} {fs : List Value} {v : Value} (he : ws[q0]? = some (a, .inr (6, fs))) (hv : fs[3]? = some v) (hdg : decode cc pc = .ok (.getfield 22, 3)) (k : zW p l e R s m args below meth c D A cells slots Q nL ws lv (pc + 3) (v :: rest)) : zW p l e R s m args below meth c D A cells slots Q nL ws lv pc (.ref a :: rest) := zx_get hF (C := R_Slo) (T := F_Slo) (N := 4) wu_Slo q0 he rfl 3 (by decide) wf_Slo_22 hv hdg k
theorem zg_Slo_9 (hF : zF p s m args c cc nL R_Slo D K M A) (q0 : Nat) {a : Nat} {fs : List Value} {v : Value} (he : ws[q0]? = some (a, .inr (6, fs))) (hv : fs[0]? = some v) (hdg : decode cc pc = .ok (.getfield 9, 3)) (k : zW p l e R s m args below meth c D A cells slots Q nL ws lv (pc + 3) (v :: rest)) : zW p l e R s m args below meth c D A cells slots Q nL ws lv pc (.ref a :: rest) := zx_get hF (C := R_Slo) (T := F_Slo) (N := 4) wu_Slo q0 he rfl 0 (by decide) wf_Slo_9 hv hdg k
theorem zg_Stp_9 (hF : zF p s m args c cc nL R_Stp D K M A) (q0 : Nat) {a : Nat} {fs : List Value} {v : Value} (he : ws[q0]? = some (a, .inr (7, fs))) (hv : fs[0]? = some v) (hdg : decode cc pc = .ok (.getfield 9, 3)) (k : zW p l e R s m args below meth c D A cells slots Q nL ws lv (pc + 3) (v :: rest)) : zW p l e R s m args below meth c D A cells slots Q nL ws lv pc (.ref a :: rest) := zx_get hF (C := R_Stp) (T := F_Stp) (N := 1) wu_Stp q0 he rfl 0 (by decide) wf_Stp_9 hv hdg k
theorem zg_Wat_13 (hF : zF p s m args c cc nL R_Wat D K M A) (q0 : Nat) {a : Nat} {fs : List Value} {v : Value} (he : ws[q0]? = some (a, .inr (9, fs))) (hv : fs[1]? = some v) (hdg : decode cc pc = .ok (.getfield 13, 3)) (k : zW p l e R s m args below meth c D A cells slots Q nL ws lv (pc + 3) (v :: rest)) : zW p l e R s m args below meth c D A cells slots Q nL ws lv pc (.ref a :: rest) := zx_get hF (C := R_Wat) (T := F_Wat) (N := 2) wu_Wat q0 he rfl 1 (by decide) wf_Wat_13 hv hdg k
theorem zg_Wat_7 (hF : zF p s m args c cc nL R_Wat D K M A) (q0 : Nat) {a : Nat} {fs : List Value} {v : Value} (he : ws[q0]? = some (a, .inr (9, fs))) (hv : fs[0]? = some v) (hdg : decode cc pc = .ok (.getfield 7, 3)) (k : zW p l e R s m args below meth c D A cells slots Q nL ws lv (pc + 3) (v :: rest)) : zW p l e R s m args below meth c D A cells slots Q nL ws lv pc (.ref a :: rest) := zx_get hF (C := R_Wat) (T := F_Wat) (N := 2) wu_Wat q0 he rfl 0 (by decide) wf_Wat_7 hv hdg k
theorem zp_Dig_18 (hF : zF p s m args c cc nL R_Dig D K M A) (q0 : Nat) {a : Nat} {fs : List Value} {x : Int64} (he : ws[q0]? = some (a, .inr (2, fs))) (hl : 2 < fs.length) (hdg : decode cc pc = .ok (.putfield 18, 3)) {ws' : va_W} (hw : ws.set q0 (a, .inr (2, fs.set 2 (.long x))) = ws') (k : zW p l e R s m args below meth c D A cells slots Q nL ws' lv (pc + 3) rest) : zW p l e R s m args below meth c D A cells slots Q nL ws lv pc ((.long x) :: .ref a :: rest) := zx_put hF (C := R_Dig) (T := F_Dig) (N := 6) wu_Dig q0 he rfl 2 (by decide) wf_Dig_18 t_Dig t_Dig_ok n_Dig rfl (t_Dig_ok 2 (by decide)) rfl rfl hl hdg hw k
theorem zp_Dig_23 (hF : zF p s m args c cc nL R_Dig D K M A) (q0 : Nat) {a : Nat} {fs : List Value} {x : Int64} (he : ws[q0]? = some (a, .inr (2, fs))) (hl : 3 < fs.length) (hdg : decode cc pc = .ok (.putfield 23, 3)) {ws' : va_W} (hw : ws.set q0 (a, .inr (2, fs.set 3 (.long x))) = ws') (k : zW p l e R s m args below meth c D A cells slots Q nL ws' lv (pc + 3) rest) : zW p l e R s m args below meth c D A cells slots Q nL ws lv pc ((.long x) :: .ref a :: rest) := zx_put hF (C := R_Dig) (T := F_Dig) (N := 6) wu_Dig q0 he rfl 3 (by decide) wf_Dig_23 t_Dig t_Dig_ok n_Dig rfl (t_Dig_ok 3 (by decide)) rfl rfl hl hdg hw k
theorem zp_Dig_28 (hF : zF p s m args c cc nL R_Dig D K M A) (q0 : Nat) {a : Nat} {fs : List Value} {x : Int64} (he : ws[q0]? = some (a, .inr (2, fs))) (hl : 4 < fs.length) (hdg : decode cc pc = .ok (.putfield 28, 3)) {ws' : va_W} (hw : ws.set q0 (a, .inr (2, fs.set 4 (.long x))) = ws') (k : zW p l e R s m args below meth c D A cells slots Q nL ws' lv (pc + 3) rest) : zW p l e R s m args below meth c D A cells slots Q nL ws lv pc ((.long x) :: .ref a :: rest) := zx_put hF (C := R_Dig) (T := F_Dig) (N := 6) wu_Dig q0 he rfl 4 (by decide) wf_Dig_28 t_Dig t_Dig_ok n_Dig rfl (t_Dig_ok 4 (by decide)) rfl rfl hl hdg hw k
theorem zp_Dig_33 (hF : zF p s m args c cc nL R_Dig D K M A) (q0 : Nat) {a : Nat} {fs : List Value} {x : Int64} (he : ws[q0]? = some (a, .inr (2, fs))) (hl : 5 < fs.length) (hdg : decode cc pc = .ok (.putfield 33, 3)) {ws' : va_W} (hw : ws.set q0 (a, .inr (2, fs.set 5 (.long x))) = ws') (k : zW p l e R s m args below meth c D A cells slots Q nL ws' lv (pc + 3) rest) : zW p l e R s m args below meth c D A cells slots Q nL ws lv pc ((.long x) :: .ref a :: rest) := zx_put hF (C := R_Dig) (T := F_Dig) (N := 6) wu_Dig q0 he rfl 5 (by decide) wf_Dig_33 t_Dig t_Dig_ok n_Dig rfl (t_Dig_ok 5 (by decide)) rfl rfl hl hdg hw k
theorem zp_Slo_22 (hF : zF p s m args c cc nL R_Slo D K M A) (q0 : Nat) {a : Nat} {fs : List Value} {x : Int32} (he : ws[q0]? = some (a, .inr (6, fs))) (hl : 3 < fs.length) (hdg : decode cc pc = .ok (.putfield 22, 3)) {ws' : va_W} (hw : ws.set q0 (a, .inr (6, fs.set 3 (.int x))) = ws') (k : zW p l e R s m args below meth c D A cells slots Q nL ws' lv (pc + 3) rest) : zW p l e R s m args below meth c D A cells slots Q nL ws lv pc ((.int x) :: .ref a :: rest) := zx_put hF (C := R_Slo) (T := F_Slo) (N := 4) wu_Slo q0 he rfl 3 (by decide) wf_Slo_22 t_Slo t_Slo_ok n_Slo rfl (t_Slo_ok 3 (by decide)) rfl rfl hl hdg hw k
theorem zp_Stp_9 (hF : zF p s m args c cc nL R_Stp D K M A) (q0 : Nat) {a : Nat} {fs : List Value} {x : Int32} (he : ws[q0]? = some (a, .inr (7, fs))) (hl : 0 < fs.length) (hdg : decode cc pc = .ok (.putfield 9, 3)) {ws' : va_W} (hw : ws.set q0 (a, .inr (7, fs.set 0 (.int x))) = ws') (k : zW p l e R s m args below meth c D A cells slots Q nL ws' lv (pc + 3) rest) : zW p l e R s m args below meth c D A cells slots Q nL ws lv pc ((.int x) :: .ref a :: rest) := zx_put hF (C := R_Stp) (T := F_Stp) (N := 1) wu_Stp q0 he rfl 0 (by decide) wf_Stp_9 t_Stp t_Stp_ok n_Stp rfl (t_Stp_ok 0 (by decide)) rfl rfl hl hdg hw k
end ZG
theorem hd_Dig_takeIn : y_Dig_takeIn.cls = R_Dig ∧ y_Dig_takeIn.cls ≠ "java/lang/invoke/MethodHandle" ∧ y_Dig_takeIn.cls ≠ "java/lang/invoke/VarHandle" ∧ (parseMethodDescriptor y_Dig_takeIn.desc).map (fun d => d.parameters.length) = some 1 := by decide +kernel
theorem hd_Dig_round : y_Dig_round.cls = R_Dig ∧ y_Dig_round.cls ≠ "java/lang/invoke/MethodHandle" ∧ y_Dig_round.cls ≠ "java/lang/invoke/VarHandle" ∧ (parseMethodDescriptor y_Dig_round.desc).map (fun d => d.parameters.length) = some 0 := by decide +kernel
theorem hd_Dig_turnedLeft : y_Dig_turnedLeft.cls = R_Dig ∧ y_Dig_turnedLeft.cls ≠ "java/lang/invoke/MethodHandle" ∧ y_Dig_turnedLeft.cls ≠ "java/lang/invoke/VarHandle" ∧ (parseMethodDescriptor y_Dig_turnedLeft.desc).map (fun d => d.parameters.length) = some 2 := by decide +kernel
theorem hd_Slo_find : y_Slo_find.cls = R_Slo ∧ y_Slo_find.cls ≠ "java/lang/invoke/MethodHandle" ∧ y_Slo_find.cls ≠ "java/lang/invoke/VarHandle" ∧ (parseMethodDescriptor y_Slo_find.desc).map (fun d => d.parameters.length) = some 2 := by decide +kernel
theorem hd_Slo_release : y_Slo_release.cls = R_Slo ∧ y_Slo_release.cls ≠ "java/lang/invoke/MethodHandle" ∧ y_Slo_release.cls ≠ "java/lang/invoke/VarHandle" ∧ (parseMethodDescriptor y_Slo_release.desc).map (fun d => d.parameters.length) = some 1 := by decide +kernel
theorem hd_Sum_sumOf : y_Sum_sumOf.cls = R_Sum ∧ y_Sum_sumOf.cls ≠ "java/lang/invoke/MethodHandle" ∧ y_Sum_sumOf.cls ≠ "java/lang/invoke/VarHandle" ∧ (parseMethodDescriptor y_Sum_sumOf.desc).map (fun d => d.parameters.length) = some 5 := by decide +kernel
theorem hd_Sum_halves : y_Sum_halves.cls = R_Sum ∧ y_Sum_halves.cls ≠ "java/lang/invoke/MethodHandle" ∧ y_Sum_halves.cls ≠ "java/lang/invoke/VarHandle" ∧ (parseMethodDescriptor y_Sum_halves.desc).map (fun d => d.parameters.length) = some 1 := by decide +kernel
theorem hd_Sum_fold : y_Sum_fold.cls = R_Sum ∧ y_Sum_fold.cls ≠ "java/lang/invoke/MethodHandle" ∧ y_Sum_fold.cls ≠ "java/lang/invoke/VarHandle" ∧ (parseMethodDescriptor y_Sum_fold.desc).map (fun d => d.parameters.length) = some 1 := by decide +kernel
theorem cw_Dig_36 {R : Room} {s : State} {args : Array Value} {rm : Room} (ht : ∀ w ∈ zAll, w.before args s = true) (h1 : rm.cells = 0) (h2 : rm.slots = 0) (hR : rm.frames + 1 ≤ R.frames ∧ 8 + (3 + 11) + rm.locals ≤ R.locals) : CallW R s args R_Dig R_Dig 36 y_Dig_takeIn b_Dig_takeIn 3 none (zT y_Dig_takeIn b_Dig_takeIn 3 none) rm 0 0 1 := zcV ht wb_Dig_takeIn wm_Dig_36 wi_Dig_takeIn we_Dig_takeIn wz_Dig h1 h2 hd_Dig_takeIn hR
theorem cw_Dig_44 {R : Room} {s : State} {args : Array Value} {rm : Room} (ht : ∀ w ∈ zAll, w.before args s = true) (h1 : rm.cells = 0) (h2 : rm.slots = 0) (hR : rm.frames + 1 ≤ R.frames ∧ 8 + (1 + 11) + rm.locals ≤ R.locals) : CallW R s args R_Dig R_Dig 44 y_Dig_round b_Dig_round 1 none (zT y_Dig_round b_Dig_round 1 none) rm 0 0 0 := zcV ht wb_Dig_round wm_Dig_44 wi_Dig_round we_Dig_round wz_Dig h1 h2 hd_Dig_round hR
theorem cw_Dig_47 {R : Room} {s : State} {args : Array Value} {rm : Room} (ht : ∀ w ∈ zAll, w.before args s = true) (h1 : rm.cells = 0) (h2 : rm.slots = 0) (hR : rm.frames + 1 ≤ R.frames ∧ 8 + (3 + 11) + rm.locals ≤ R.locals) : CallB R s args R_Dig 47 y_Dig_turnedLeft b_Dig_turnedLeft 3 (some .long) (zT y_Dig_turnedLeft b_Dig_turnedLeft 3 (some .long)) rm 0 0 2 ∧ (Cond.static y_Dig_turnedLeft).before args s = true := ⟨zcB ht wb_Dig_turnedLeft (ht _ wm_Dig_47) wz_Dig h1 h2 hd_Dig_turnedLeft.2 hR, ht _ wt_Dig_turnedLeft⟩
theorem cw_Slo_26 {R : Room} {s : State} {args : Array Value} {rm : Room} (ht : ∀ w ∈ zAll, w.before args s = true) (h1 : rm.cells = 0) (h2 : rm.slots = 0) (hR : rm.frames + 1 ≤ R.frames ∧ 8 + (4 + 11) + rm.locals ≤ R.locals) : CallW R s args R_Slo R_Slo 26 y_Slo_find b_Slo_find 4 (some .int) (zT y_Slo_find b_Slo_find 4 (some .int)) rm 0 0 2 := zcV ht wb_Slo_find wm_Slo_26 wi_Slo_find we_Slo_find wz_Slo h1 h2 hd_Slo_find hR
theorem cw_Slo_30 {R : Room} {s : State} {args : Array Value} {rm : Room} (ht : ∀ w ∈ zAll, w.before args s = true) (h1 : rm.cells = 0) (h2 : rm.slots = 0) (hR : rm.frames + 1 ≤ R.frames ∧ 8 + (2 + 11) + rm.locals ≤ R.locals) : CallW R s args R_Slo R_Slo 30 y_Slo_release b_Slo_release 2 none (zT y_Slo_release b_Slo_release 2 none) rm 0 0 1 := zcV ht wb_Slo_release wm_Slo_30 wi_Slo_release we_Slo_release wz_Slo h1 h2 hd_Slo_release hR
theorem cw_Sum_13 {R : Room} {s : State} {args : Array Value} {rm : Room} (ht : ∀ w ∈ zAll, w.before args s = true) (h1 : rm.cells = 0) (h2 : rm.slots = 0) (hR : rm.frames + 1 ≤ R.frames ∧ 8 + (6 + 11) + rm.locals ≤ R.locals) : CallB R s args R_Sum 13 y_Sum_sumOf b_Sum_sumOf 6 (some .int) (zT y_Sum_sumOf b_Sum_sumOf 6 (some .int)) rm 0 0 5 ∧ (Cond.static y_Sum_sumOf).before args s = true := ⟨zcB ht wb_Sum_sumOf (ht _ wm_Sum_13) wz_Sum h1 h2 hd_Sum_sumOf.2 hR, ht _ wt_Sum_sumOf⟩
theorem cw_Sum_17 {R : Room} {s : State} {args : Array Value} {rm : Room} (ht : ∀ w ∈ zAll, w.before args s = true) (h1 : rm.cells = 0) (h2 : rm.slots = 0) (hR : rm.frames + 1 ≤ R.frames ∧ 8 + (1 + 11) + rm.locals ≤ R.locals) : CallB R s args R_Sum 17 y_Sum_halves b_Sum_halves 1 (some .int) (zT y_Sum_halves b_Sum_halves 1 (some .int)) rm 0 0 1 ∧ (Cond.static y_Sum_halves).before args s = true := ⟨zcB ht wb_Sum_halves (ht _ wm_Sum_17) wz_Sum h1 h2 hd_Sum_halves.2 hR, ht _ wt_Sum_halves⟩
theorem cw_Sum_21 {R : Room} {s : State} {args : Array Value} {rm : Room} (ht : ∀ w ∈ zAll, w.before args s = true) (h1 : rm.cells = 0) (h2 : rm.slots = 0) (hR : rm.frames + 1 ≤ R.frames ∧ 8 + (1 + 11) + rm.locals ≤ R.locals) : CallB R s args R_Sum 21 y_Sum_fold b_Sum_fold 1 (some .int) (zT y_Sum_fold b_Sum_fold 1 (some .int)) rm 0 0 1 ∧ (Cond.static y_Sum_fold).before args s = true := ⟨zcB ht wb_Sum_fold (ht _ wm_Sum_21) wz_Sum h1 h2 hd_Sum_fold.2 hR, ht _ wt_Sum_fold⟩
end
section
def z01 (f : Nat → Int32) : Prop := ∀ j, f j = 0 ∨ f j = 1
def f_next (x : Int32) : Int32 := (x + 1) &&& 65535
def f_halves (w : Int32) : Int32 := ziushr w 16 + (w &&& 65535)
def f_fold (t : Int32) : Int32 := (t &&& 65535) + ziushr t 16
def f_sum (w0 w1 w2 w3 w4 : Int32) : Int32 := f_fold (f_fold (f_halves w0 + f_halves w1 + f_halves w2 + f_halves w3 + f_halves w4))
def f_cks (w0 w1 w2 w3 w4 : Int32) : Int32 := 65535 - f_sum w0 w1 (w2 &&& (-65536)) w3 w4
def f_rot (x : Int64) (n : Int32) : Int64 := zlshl x n ||| zlushr x (64 - n)
abbrev f_4 : Type := Int64 × Int64 × Int64 × Int64
def f_rb1 (a b : Int64) : Int64 := f_rot b 13 ^^^ (a + b)
def f_rd1 (c d : Int64) : Int64 := f_rot d 16 ^^^ (c + d)
def f_ra (a b c d : Int64) : Int64 := f_rot (a + b) 32 + f_rd1 c d
def f_rd (a b c d : Int64) : Int64 := f_rot (f_rd1 c d) 21 ^^^ f_ra a b c d
def f_rc2 (a b c d : Int64) : Int64 := (c + d) + f_rb1 a b
def f_rb (a b c d : Int64) : Int64 := f_rot (f_rb1 a b) 17 ^^^ f_rc2 a b c d
def f_rc (a b c d : Int64) : Int64 := f_rot (f_rc2 a b c d) 32
def f_round (v : f_4) : f_4 := (f_ra v.1 v.2.1 v.2.2.1 v.2.2.2, f_rb v.1 v.2.1 v.2.2.1 v.2.2.2, f_rc v.1 v.2.1 v.2.2.1 v.2.2.2, f_rd v.1 v.2.1 v.2.2.1 v.2.2.2)
def f_iter : Nat → f_4 → f_4
  | 0, v => v
  | k + 1, v => f_iter k (f_round v)
def f_in (y : Int64) (v : f_4) : f_4 := ((f_iter 2 (v.1, v.2.1, v.2.2.1, v.2.2.2 ^^^ y)).1 ^^^ y, (f_iter 2 (v.1, v.2.1, v.2.2.1, v.2.2.2 ^^^ y)).2)
def f_ini (k0 k1 : Int64) : f_4 := (k0 ^^^ 8317987319222330741, k1 ^^^ 7237128888997146477, k0 ^^^ 7816392313619706465, k1 ^^^ 8387220255154660723)
def f_mid (k0 k1 x : Int64) : f_4 := f_in 576460752303423488 (f_in x (f_ini k0 k1))
def f_end (k0 k1 x : Int64) : f_4 := f_iter 4 ((f_mid k0 k1 x).1, (f_mid k0 k1 x).2.1, (f_mid k0 k1 x).2.2.1 ^^^ 255, (f_mid k0 k1 x).2.2.2)
def f_dig (k0 k1 x : Int64) : Int64 := (f_end k0 k1 x).1 ^^^ (f_end k0 k1 x).2.1 ^^^ (f_end k0 k1 x).2.2.1 ^^^ (f_end k0 k1 x).2.2.2
def f_first (P : Nat → Bool) : Nat → Nat → Int32
  | 0, _ => -1
  | k + 1, i => if P i then nI i else f_first P k (i + 1)
def f_same (use src prt : Nat → Int32) (s p : Int32) (j : Nat) : Bool := !(use j == 0) && (src j == s) && (prt j == p)
def f_find (use src prt : Nat → Int32) (n : Nat) (s p : Int32) : Int32 := f_first (f_same use src prt s p) n 0
def f_free (use : Nat → Int32) (n : Nat) : Int32 := f_first (fun j => use j == 0) n 0
def f_new (use src prt : Nat → Int32) (n : Nat) (s p : Int32) : Int32 := if f_find use src prt n s p = -1 then f_free use n else -1
def f_fot (use src prt : Nat → Int32) (n : Nat) (s p : Int32) : Int32 := if f_find use src prt n s p = -1 then f_free use n else f_find use src prt n s p
def f_put (f : Nat → Int32) (j v : Int32) : Nat → Int32 := if j = -1 then f else upd f j.toNatClampNeg v
def f_inc (cnt j : Int32) : Int32 := if j = -1 then cnt else cnt + 1
def f_rem (x y : Int32) : Int32 := x - x / y * y
def f_ru (use : Nat → Int32) (j : Nat) : Nat → Int32 := if use j = 0 then use else upd use j 0
def f_rn (use : Nat → Int32) (cnt : Int32) (j : Nat) : Int32 := if use j = 0 then cnt else cnt - 1
def f_all : Nat → Nat → (Nat → Int32) → Int32 → (Nat → Int32) × Int32
  | 0, _, use, cnt => (use, cnt)
  | k + 1, j, use, cnt => f_all k (j + 1) (f_ru use j) (f_rn use cnt j)
def f_oc (up con : Nat → Int32) (j : Nat) (ans : Int32) : Int32 := if ans = up j then 0 else con j + 1
def f_or (up con : Nat → Int32) (j : Nat) (ans : Int32) : Int32 := if 3 ≤ f_oc up con j ans then 1 else 0
def f_ou (up con : Nat → Int32) (j : Nat) (ans : Int32) : Nat → Int32 := if 3 ≤ f_oc up con j ans then upd up j ans else up
def f_on (up con : Nat → Int32) (j : Nat) (ans : Int32) : Nat → Int32 := if 3 ≤ f_oc up con j ans then upd (upd con j (f_oc up con j ans)) j 0 else upd con j (f_oc up con j ans)
theorem zm1 {j : Nat} (h : j < 2 ^ 31) : ¬ nI j = -1 := fun e => by
  have h1 := congrArg Int32.toInt e
  have h2 : (-1 : Int32).toInt = -1 := by decide
  rw [nI_toInt h, h2] at h1
  omega
theorem f_first_or (P : Nat → Bool) : ∀ k i, f_first P k i = -1 ∨ ∃ j, i ≤ j ∧ j < i + k ∧ P j = true ∧ f_first P k i = nI j
  | 0, i => Or.inl rfl
  | k + 1, i => by
    by_cases h : P i = true
    · exact Or.inr ⟨i, Nat.le_refl _, by omega, h, by simp [f_first, h]⟩
    · rcases f_first_or P k (i + 1) with g | ⟨j, g1, g2, g3, g4⟩
      · exact Or.inl (by simp [f_first, h, g])
      · exact Or.inr ⟨j, by omega, by omega, g3, by simp [f_first, h, g4]⟩
theorem f_first_in {P : Nat → Bool} {k : Nat} (h : ¬ f_first P k 0 = -1) : ∃ j, j < k ∧ P j = true ∧ f_first P k 0 = nI j := by
  rcases f_first_or P k 0 with g | ⟨j, _, g2, g3, g4⟩
  · exact absurd g h
  · exact ⟨j, by omega, g3, g4⟩
theorem f_first_cl {P : Nat → Bool} {k : Nat} (hn : k < 2 ^ 31) (h : ¬ f_first P k 0 = -1) : f_first P k 0 = nI (f_first P k 0).toNatClampNeg ∧ (f_first P k 0).toNatClampNeg < k := by
  obtain ⟨j, h1, _, h3⟩ := f_first_in h
  rw [h3, nI_clamp (by omega)]
  exact ⟨rfl, h1⟩
theorem f_find_cl {use src prt : Nat → Int32} {n : Nat} {s p : Int32} (hn : n < 2 ^ 31) (h : ¬ f_find use src prt n s p = -1) : f_find use src prt n s p = nI (f_find use src prt n s p).toNatClampNeg ∧ (f_find use src prt n s p).toNatClampNeg < n := f_first_cl hn h
theorem f_fot_cl {use src prt : Nat → Int32} {n : Nat} {s p : Int32} (hn : n < 2 ^ 31) (h : ¬ f_fot use src prt n s p = -1) : f_fot use src prt n s p = nI (f_fot use src prt n s p).toNatClampNeg ∧ (f_fot use src prt n s p).toNatClampNeg < n := by
  unfold f_fot at h ⊢
  by_cases g : f_find use src prt n s p = -1
  · rw [if_pos g] at h ⊢; exact f_first_cl hn h
  · rw [if_neg g] at h ⊢; exact f_find_cl hn g
end
section
set_option maxRecDepth 20000 in
theorem M_Stp_next (l : Launch) (D : va_G) (K : Nat → ClassId) (M : List (ClassId × FieldType)) (a0 : Nat) (x : Int32) (sz : Nat) : zM l y_Stp_next (zT y_Stp_next b_Stp_next 2 (some .int)) (zR 0 0) 0 0 D K M [.ref a0] [cO a0 7 [.int x]] sz (zQi D K M x [cO a0 7 [.int (f_next x)]]) := by
  refine zx_head (by decide) (Nat.le_of_ble_eq_true rfl) ?_
  intro _ _ _ _ _ _ _ _ _ hF hr hlk hnm
  refine zx_aload_n (pc := 0) hF d_Stp_next_0 rfl 0 rfl ?_
  refine zg_Stp_9 (pc := 1) hF 0 rfl rfl d_Stp_next_1 ?_
  refine zx_istore_n (pc := 4) hF (lv' := [(1, .int x), (0, .ref a0)]) d_Stp_next_4 rfl (by decide) rfl ?_
  refine zx_aload_n (pc := 5) hF d_Stp_next_5 rfl 1 rfl ?_
  refine zx_iload_n (pc := 6) hF d_Stp_next_6 rfl 0 rfl ?_
  refine zx_iconst (pc := 7) hF d_Stp_next_7 k_i1 ?_
  refine zx_iadd (pc := 8) hF d_Stp_next_8 ?_
  refine zx_ldc (pc := 9) hF wk_Stp_15 d_Stp_next_9 ?_
  refine zx_iand (pc := 11) hF d_Stp_next_11 ?_
  refine zp_Stp_9 (pc := 12) hF 0 rfl (Nat.le_of_ble_eq_true rfl) d_Stp_next_12 (ws' := [cO a0 7 [.int ((x + 1) &&& 65535)]]) rfl ?_
  refine zx_iload_n (pc := 15) hF d_Stp_next_15 rfl 0 rfl ?_
  exact zx_iret (pc := 16) hF hr hlk (by first | rfl | (simp only []; done) | (simp only [↓reduceIte]; done) | simp []) (by first | rfl | (simp only []; done) | (simp only [↓reduceIte]; done) | simp []) d_Stp_next_16
set_option maxRecDepth 20000 in
theorem M_Sum_halves (l : Launch) (D : va_G) (K : Nat → ClassId) (M : List (ClassId × FieldType)) (w : Int32) (sz : Nat) : zM l y_Sum_halves (zT y_Sum_halves b_Sum_halves 1 (some .int)) (zR 0 0) 0 0 D K M [.int w] [] sz (zQi D K M (f_halves w) []) := by
  refine zx_head (by decide) (Nat.le_of_ble_eq_true rfl) ?_
  intro _ _ _ _ _ _ _ _ _ hF hr hlk hnm
  refine zx_iload_n (pc := 0) hF d_Sum_halves_0 rfl 0 rfl ?_
  refine zx_bipush (pc := 1) hF d_Sum_halves_1 k_b16 ?_
  refine zx_iushr (pc := 3) hF (v := (ziushr w 16)) d_Sum_halves_3 rfl ?_
  refine zx_iload_n (pc := 4) hF d_Sum_halves_4 rfl 0 rfl ?_
  refine zx_ldc (pc := 5) hF wk_Sum_11 d_Sum_halves_5 ?_
  refine zx_iand (pc := 7) hF d_Sum_halves_7 ?_
  refine zx_iadd (pc := 8) hF d_Sum_halves_8 ?_
  exact zx_iret (pc := 9) hF hr hlk (by first | rfl | (simp only []; done) | (simp only [↓reduceIte]; done) | simp []) (by first | rfl | (simp only []; done) | (simp only [↓reduceIte]; done) | simp []) d_Sum_halves_9
set_option maxRecDepth 20000 in
theorem M_Sum_fold (l : Launch) (D : va_G) (K : Nat → ClassId) (M : List (ClassId × FieldType)) (t : Int32) (sz : Nat) : zM l y_Sum_fold (zT y_Sum_fold b_Sum_fold 1 (some .int)) (zR 0 0) 0 0 D K M [.int t] [] sz (zQi D K M (f_fold t) []) := by
  refine zx_head (by decide) (Nat.le_of_ble_eq_true rfl) ?_
  intro _ _ _ _ _ _ _ _ _ hF hr hlk hnm
  refine zx_iload_n (pc := 0) hF d_Sum_fold_0 rfl 0 rfl ?_
  refine zx_ldc (pc := 1) hF wk_Sum_11 d_Sum_fold_1 ?_
  refine zx_iand (pc := 3) hF d_Sum_fold_3 ?_
  refine zx_iload_n (pc := 4) hF d_Sum_fold_4 rfl 0 rfl ?_
  refine zx_bipush (pc := 5) hF d_Sum_fold_5 k_b16 ?_
  refine zx_iushr (pc := 7) hF (v := (ziushr t 16)) d_Sum_fold_7 rfl ?_
  refine zx_iadd (pc := 8) hF d_Sum_fold_8 ?_
  exact zx_iret (pc := 9) hF hr hlk (by first | rfl | (simp only []; done) | (simp only [↓reduceIte]; done) | simp []) (by first | rfl | (simp only []; done) | (simp only [↓reduceIte]; done) | simp []) d_Sum_fold_9
set_option maxRecDepth 20000 in
theorem M_Sum_sumOf (l : Launch) (D : va_G) (K : Nat → ClassId) (M : List (ClassId × FieldType)) (w0 : Int32) (w1 : Int32) (w2 : Int32) (w3 : Int32) (w4 : Int32) (sz : Nat) : zM l y_Sum_sumOf (zT y_Sum_sumOf b_Sum_sumOf 6 (some .int)) (zR 1 20) 0 0 D K M [.int w0, .int w1, .int w2, .int w3, .int w4] [] sz (zQi D K M (f_sum w0 w1 w2 w3 w4) []) := by
  refine zx_head (by decide) (Nat.le_of_ble_eq_true rfl) ?_
  intro _ _ _ _ _ _ _ _ _ hF hr hlk hnm
  refine zx_iload_n (pc := 0) hF d_Sum_sumOf_0 rfl 0 rfl ?_
  refine zx_Si (pc := 1) hF (As := [.int w0]) (rest := []) (fun sz => M_Sum_halves l D K M w0  sz) [] rfl List.nodup_nil (as := []) rfl rfl (ws' := []) rfl (cw_Sum_17 hF.2.2.2.2.1 rfl rfl ⟨by decide, by decide⟩) rfl rfl (Nat.le_of_ble_eq_true rfl) d_Sum_sumOf_1 ⟨Nat.zero_le _, Nat.zero_le _⟩ ?_
  refine zx_iload_n (pc := 4) hF d_Sum_sumOf_4 rfl 1 rfl ?_
  refine zx_Si (pc := 5) hF (As := [.int w1]) (rest := [.int (f_halves w0)]) (fun sz => M_Sum_halves l D K M w1  sz) [] rfl List.nodup_nil (as := []) rfl rfl (ws' := []) rfl (cw_Sum_17 hF.2.2.2.2.1 rfl rfl ⟨by decide, by decide⟩) rfl rfl (Nat.le_of_ble_eq_true rfl) d_Sum_sumOf_5 ⟨Nat.zero_le _, Nat.zero_le _⟩ ?_
  refine zx_iadd (pc := 8) hF d_Sum_sumOf_8 ?_
  refine zx_iload_n (pc := 9) hF d_Sum_sumOf_9 rfl 2 rfl ?_
  refine zx_Si (pc := 10) hF (As := [.int w2]) (rest := [.int ((f_halves w0) + (f_halves w1))]) (fun sz => M_Sum_halves l D K M w2  sz) [] rfl List.nodup_nil (as := []) rfl rfl (ws' := []) rfl (cw_Sum_17 hF.2.2.2.2.1 rfl rfl ⟨by decide, by decide⟩) rfl rfl (Nat.le_of_ble_eq_true rfl) d_Sum_sumOf_10 ⟨Nat.zero_le _, Nat.zero_le _⟩ ?_
  refine zx_iadd (pc := 13) hF d_Sum_sumOf_13 ?_
  refine zx_iload_n (pc := 14) hF d_Sum_sumOf_14 rfl 3 rfl ?_
  refine zx_Si (pc := 15) hF (As := [.int w3]) (rest := [.int (((f_halves w0) + (f_halves w1)) + (f_halves w2))]) (fun sz => M_Sum_halves l D K M w3  sz) [] rfl List.nodup_nil (as := []) rfl rfl (ws' := []) rfl (cw_Sum_17 hF.2.2.2.2.1 rfl rfl ⟨by decide, by decide⟩) rfl rfl (Nat.le_of_ble_eq_true rfl) d_Sum_sumOf_15 ⟨Nat.zero_le _, Nat.zero_le _⟩ ?_
  refine zx_iadd (pc := 18) hF d_Sum_sumOf_18 ?_
  refine zx_iload (pc := 19) hF d_Sum_sumOf_19 4 rfl ?_
  refine zx_Si (pc := 21) hF (As := [.int w4]) (rest := [.int ((((f_halves w0) + (f_halves w1)) + (f_halves w2)) + (f_halves w3))]) (fun sz => M_Sum_halves l D K M w4  sz) [] rfl List.nodup_nil (as := []) rfl rfl (ws' := []) rfl (cw_Sum_17 hF.2.2.2.2.1 rfl rfl ⟨by decide, by decide⟩) rfl rfl (Nat.le_of_ble_eq_true rfl) d_Sum_sumOf_21 ⟨Nat.zero_le _, Nat.zero_le _⟩ ?_
  refine zx_iadd (pc := 24) hF d_Sum_sumOf_24 ?_
  refine zx_istore (pc := 25) hF (lv' := [(5, .int (((((f_halves w0) + (f_halves w1)) + (f_halves w2)) + (f_halves w3)) + (f_halves w4))), (0, .int w0), (1, .int w1), (2, .int w2), (3, .int w3), (4, .int w4)]) d_Sum_sumOf_25 (by decide) rfl ?_
  refine zx_iload (pc := 27) hF d_Sum_sumOf_27 0 rfl ?_
  refine zx_Si (pc := 29) hF (As := [.int (((((f_halves w0) + (f_halves w1)) + (f_halves w2)) + (f_halves w3)) + (f_halves w4))]) (rest := []) (fun sz => M_Sum_fold l D K M (((((f_halves w0) + (f_halves w1)) + (f_halves w2)) + (f_halves w3)) + (f_halves w4))  sz) [] rfl List.nodup_nil (as := []) rfl rfl (ws' := []) rfl (cw_Sum_21 hF.2.2.2.2.1 rfl rfl ⟨by decide, by decide⟩) rfl rfl (Nat.le_of_ble_eq_true rfl) d_Sum_sumOf_29 ⟨Nat.zero_le _, Nat.zero_le _⟩ ?_
  refine zx_Si (pc := 32) hF (As := [.int (f_fold (((((f_halves w0) + (f_halves w1)) + (f_halves w2)) + (f_halves w3)) + (f_halves w4)))]) (rest := []) (fun sz => M_Sum_fold l D K M (f_fold (((((f_halves w0) + (f_halves w1)) + (f_halves w2)) + (f_halves w3)) + (f_halves w4)))  sz) [] rfl List.nodup_nil (as := []) rfl rfl (ws' := []) rfl (cw_Sum_21 hF.2.2.2.2.1 rfl rfl ⟨by decide, by decide⟩) rfl rfl (Nat.le_of_ble_eq_true rfl) d_Sum_sumOf_32 ⟨Nat.zero_le _, Nat.zero_le _⟩ ?_
  exact zx_iret (pc := 35) hF hr hlk (by first | rfl | (simp only []; done) | (simp only [↓reduceIte]; done) | simp []) (by first | rfl | (simp only []; done) | (simp only [↓reduceIte]; done) | simp []) d_Sum_sumOf_35
set_option maxRecDepth 20000 in
theorem M_Sum_rightChecksum (l : Launch) (D : va_G) (K : Nat → ClassId) (M : List (ClassId × FieldType)) (w0 : Int32) (w1 : Int32) (w2 : Int32) (w3 : Int32) (w4 : Int32) (sz : Nat) : zM l y_Sum_rightChecksum (zT y_Sum_rightChecksum b_Sum_rightChecksum 5 (some .int)) (zR 2 45) 0 0 D K M [.int w0, .int w1, .int w2, .int w3, .int w4] [] sz (zQi D K M (f_cks w0 w1 w2 w3 w4) []) := by
  refine zx_head (by decide) (Nat.le_of_ble_eq_true rfl) ?_
  intro _ _ _ _ _ _ _ _ _ hF hr hlk hnm
  refine zx_ldc (pc := 0) hF wk_Sum_11 d_Sum_rightChecksum_0 ?_
  refine zx_iload_n (pc := 2) hF d_Sum_rightChecksum_2 rfl 0 rfl ?_
  refine zx_iload_n (pc := 3) hF d_Sum_rightChecksum_3 rfl 1 rfl ?_
  refine zx_iload_n (pc := 4) hF d_Sum_rightChecksum_4 rfl 2 rfl ?_
  refine zx_ldc (pc := 5) hF wk_Sum_12 d_Sum_rightChecksum_5 ?_
  refine zx_iand (pc := 7) hF d_Sum_rightChecksum_7 ?_
  refine zx_iload_n (pc := 8) hF d_Sum_rightChecksum_8 rfl 3 rfl ?_
  refine zx_iload (pc := 9) hF d_Sum_rightChecksum_9 4 rfl ?_
  refine zx_Si (pc := 11) hF (As := [.int w0, .int w1, .int (w2 &&& (-65536)), .int w3, .int w4]) (rest := [.int 65535]) (fun sz => M_Sum_sumOf l D K M w0 w1 (w2 &&& (-65536)) w3 w4  sz) [] rfl List.nodup_nil (as := []) rfl rfl (ws' := []) rfl (cw_Sum_13 hF.2.2.2.2.1 rfl rfl ⟨by decide, by decide⟩) rfl rfl (Nat.le_of_ble_eq_true rfl) d_Sum_rightChecksum_11 ⟨Nat.zero_le _, Nat.zero_le _⟩ ?_
  refine zx_isub (pc := 14) hF d_Sum_rightChecksum_14 ?_
  exact zx_iret (pc := 15) hF hr hlk (by first | rfl | (simp only []; done) | (simp only [↓reduceIte]; done) | simp []) (by first | rfl | (simp only []; done) | (simp only [↓reduceIte]; done) | simp []) d_Sum_rightChecksum_15
set_option maxRecDepth 20000 in
theorem M_Dig_turnedLeft (l : Launch) (D : va_G) (K : Nat → ClassId) (M : List (ClassId × FieldType)) (x : Int64) (n : Int32) (sz : Nat) : zM l y_Dig_turnedLeft (zT y_Dig_turnedLeft b_Dig_turnedLeft 3 (some .long)) (zR 0 0) 0 0 D K M [.long x, .int n] [] sz (zQl D K M (f_rot x n) []) := by
  refine zx_head (by decide) (Nat.le_of_ble_eq_true rfl) ?_
  intro _ _ _ _ _ _ _ _ _ hF hr hlk hnm
  refine zx_lload_n (pc := 0) hF d_Dig_turnedLeft_0 rfl 0 rfl ?_
  refine zx_iload_n (pc := 1) hF d_Dig_turnedLeft_1 rfl 1 rfl ?_
  refine zx_lshl (pc := 2) hF (v := (zlshl x n)) d_Dig_turnedLeft_2 rfl ?_
  refine zx_lload_n (pc := 3) hF d_Dig_turnedLeft_3 rfl 0 rfl ?_
  refine zx_bipush (pc := 4) hF d_Dig_turnedLeft_4 k_b64 ?_
  refine zx_iload_n (pc := 6) hF d_Dig_turnedLeft_6 rfl 1 rfl ?_
  refine zx_isub (pc := 7) hF d_Dig_turnedLeft_7 ?_
  refine zx_lushr (pc := 8) hF (v := (zlushr x (64 - n))) d_Dig_turnedLeft_8 rfl ?_
  refine zx_lor (pc := 9) hF d_Dig_turnedLeft_9 ?_
  exact zx_lret (pc := 10) hF hr hlk (by first | rfl | (simp only []; done) | (simp only [↓reduceIte]; done) | simp []) (by first | rfl | (simp only []; done) | (simp only [↓reduceIte]; done) | simp []) d_Dig_turnedLeft_10
set_option maxRecDepth 20000 in
theorem M_Dig_round (l : Launch) (D : va_G) (K : Nat → ClassId) (M : List (ClassId × FieldType)) (a0 : Nat) (k0 : Int64) (k1 : Int64) (a : Int64) (b : Int64) (c : Int64) (d : Int64) (sz : Nat) : zM l y_Dig_round (zT y_Dig_round b_Dig_round 1 none) (zR 1 22) 0 0 D K M [.ref a0] [cO a0 2 [.long k0, .long k1, .long a, .long b, .long c, .long d]] sz (zQv D K M [cO a0 2 [.long k0, .long k1, .long (f_ra a b c d), .long (f_rb a b c d), .long (f_rc a b c d), .long (f_rd a b c d)]]) := by
  refine zx_head (by decide) (Nat.le_of_ble_eq_true rfl) ?_
  intro _ _ _ _ _ _ _ _ _ hF hr hlk hnm
  refine zx_aload_n (pc := 0) hF d_Dig_round_0 rfl 0 rfl ?_
  refine zx_dup (pc := 1) hF d_Dig_round_1 rfl ?_
  refine zg_Dig_18 (pc := 2) hF 0 rfl rfl d_Dig_round_2 ?_
  refine zx_aload_n (pc := 5) hF d_Dig_round_5 rfl 0 rfl ?_
  refine zg_Dig_23 (pc := 6) hF 0 rfl rfl d_Dig_round_6 ?_
  refine zx_ladd (pc := 9) hF d_Dig_round_9 ?_
  refine zp_Dig_18 (pc := 10) hF 0 rfl (Nat.le_of_ble_eq_true rfl) d_Dig_round_10 (ws' := [cO a0 2 [.long k0, .long k1, .long (a + b), .long b, .long c, .long d]]) rfl ?_
  refine zx_aload_n (pc := 13) hF d_Dig_round_13 rfl 0 rfl ?_
  refine zx_aload_n (pc := 14) hF d_Dig_round_14 rfl 0 rfl ?_
  refine zg_Dig_23 (pc := 15) hF 0 rfl rfl d_Dig_round_15 ?_
  refine zx_bipush (pc := 18) hF d_Dig_round_18 k_b13 ?_
  refine zx_Sl (pc := 20) hF (As := [.long b, .int 13]) (rest := [.ref a0]) (fun sz => M_Dig_turnedLeft l D K M b 13  sz) [] rfl List.nodup_nil (as := []) rfl rfl (ws' := [cO a0 2 [.long k0, .long k1, .long (a + b), .long b, .long c, .long d]]) rfl (cw_Dig_47 hF.2.2.2.2.1 rfl rfl ⟨by decide, by decide⟩) rfl rfl (Nat.le_of_ble_eq_true rfl) d_Dig_round_20 ⟨Nat.zero_le _, Nat.zero_le _⟩ ?_
  refine zx_aload_n (pc := 23) hF d_Dig_round_23 rfl 0 rfl ?_
  refine zg_Dig_18 (pc := 24) hF 0 rfl rfl d_Dig_round_24 ?_
  refine zx_lxor (pc := 27) hF d_Dig_round_27 ?_
  refine zp_Dig_23 (pc := 28) hF 0 rfl (Nat.le_of_ble_eq_true rfl) d_Dig_round_28 (ws' := [cO a0 2 [.long k0, .long k1, .long (a + b), .long ((f_rot b 13) ^^^ (a + b)), .long c, .long d]]) rfl ?_
  refine zx_aload_n (pc := 31) hF d_Dig_round_31 rfl 0 rfl ?_
  refine zx_aload_n (pc := 32) hF d_Dig_round_32 rfl 0 rfl ?_
  refine zg_Dig_18 (pc := 33) hF 0 rfl rfl d_Dig_round_33 ?_
  refine zx_bipush (pc := 36) hF d_Dig_round_36 k_b32 ?_
  refine zx_Sl (pc := 38) hF (As := [.long (a + b), .int 32]) (rest := [.ref a0]) (fun sz => M_Dig_turnedLeft l D K M (a + b) 32  sz) [] rfl List.nodup_nil (as := []) rfl rfl (ws' := [cO a0 2 [.long k0, .long k1, .long (a + b), .long ((f_rot b 13) ^^^ (a + b)), .long c, .long d]]) rfl (cw_Dig_47 hF.2.2.2.2.1 rfl rfl ⟨by decide, by decide⟩) rfl rfl (Nat.le_of_ble_eq_true rfl) d_Dig_round_38 ⟨Nat.zero_le _, Nat.zero_le _⟩ ?_
  refine zp_Dig_18 (pc := 41) hF 0 rfl (Nat.le_of_ble_eq_true rfl) d_Dig_round_41 (ws' := [cO a0 2 [.long k0, .long k1, .long (f_rot (a + b) 32), .long ((f_rot b 13) ^^^ (a + b)), .long c, .long d]]) rfl ?_
  refine zx_aload_n (pc := 44) hF d_Dig_round_44 rfl 0 rfl ?_
  refine zx_dup (pc := 45) hF d_Dig_round_45 rfl ?_
  refine zg_Dig_28 (pc := 46) hF 0 rfl rfl d_Dig_round_46 ?_
  refine zx_aload_n (pc := 49) hF d_Dig_round_49 rfl 0 rfl ?_
  refine zg_Dig_33 (pc := 50) hF 0 rfl rfl d_Dig_round_50 ?_
  refine zx_ladd (pc := 53) hF d_Dig_round_53 ?_
  refine zp_Dig_28 (pc := 54) hF 0 rfl (Nat.le_of_ble_eq_true rfl) d_Dig_round_54 (ws' := [cO a0 2 [.long k0, .long k1, .long (f_rot (a + b) 32), .long ((f_rot b 13) ^^^ (a + b)), .long (c + d), .long d]]) rfl ?_
  refine zx_aload_n (pc := 57) hF d_Dig_round_57 rfl 0 rfl ?_
  refine zx_aload_n (pc := 58) hF d_Dig_round_58 rfl 0 rfl ?_
  refine zg_Dig_33 (pc := 59) hF 0 rfl rfl d_Dig_round_59 ?_
  refine zx_bipush (pc := 62) hF d_Dig_round_62 k_b16 ?_
  refine zx_Sl (pc := 64) hF (As := [.long d, .int 16]) (rest := [.ref a0]) (fun sz => M_Dig_turnedLeft l D K M d 16  sz) [] rfl List.nodup_nil (as := []) rfl rfl (ws' := [cO a0 2 [.long k0, .long k1, .long (f_rot (a + b) 32), .long ((f_rot b 13) ^^^ (a + b)), .long (c + d), .long d]]) rfl (cw_Dig_47 hF.2.2.2.2.1 rfl rfl ⟨by decide, by decide⟩) rfl rfl (Nat.le_of_ble_eq_true rfl) d_Dig_round_64 ⟨Nat.zero_le _, Nat.zero_le _⟩ ?_
  refine zx_aload_n (pc := 67) hF d_Dig_round_67 rfl 0 rfl ?_
  refine zg_Dig_28 (pc := 68) hF 0 rfl rfl d_Dig_round_68 ?_
  refine zx_lxor (pc := 71) hF d_Dig_round_71 ?_
  refine zp_Dig_33 (pc := 72) hF 0 rfl (Nat.le_of_ble_eq_true rfl) d_Dig_round_72 (ws' := [cO a0 2 [.long k0, .long k1, .long (f_rot (a + b) 32), .long ((f_rot b 13) ^^^ (a + b)), .long (c + d), .long ((f_rot d 16) ^^^ (c + d))]]) rfl ?_
  refine zx_aload_n (pc := 75) hF d_Dig_round_75 rfl 0 rfl ?_
  refine zx_dup (pc := 76) hF d_Dig_round_76 rfl ?_
  refine zg_Dig_18 (pc := 77) hF 0 rfl rfl d_Dig_round_77 ?_
  refine zx_aload_n (pc := 80) hF d_Dig_round_80 rfl 0 rfl ?_
  refine zg_Dig_33 (pc := 81) hF 0 rfl rfl d_Dig_round_81 ?_
  refine zx_ladd (pc := 84) hF d_Dig_round_84 ?_
  refine zp_Dig_18 (pc := 85) hF 0 rfl (Nat.le_of_ble_eq_true rfl) d_Dig_round_85 (ws' := [cO a0 2 [.long k0, .long k1, .long ((f_rot (a + b) 32) + ((f_rot d 16) ^^^ (c + d))), .long ((f_rot b 13) ^^^ (a + b)), .long (c + d), .long ((f_rot d 16) ^^^ (c + d))]]) rfl ?_
  refine zx_aload_n (pc := 88) hF d_Dig_round_88 rfl 0 rfl ?_
  refine zx_aload_n (pc := 89) hF d_Dig_round_89 rfl 0 rfl ?_
  refine zg_Dig_33 (pc := 90) hF 0 rfl rfl d_Dig_round_90 ?_
  refine zx_bipush (pc := 93) hF d_Dig_round_93 k_b21 ?_
  refine zx_Sl (pc := 95) hF (As := [.long ((f_rot d 16) ^^^ (c + d)), .int 21]) (rest := [.ref a0]) (fun sz => M_Dig_turnedLeft l D K M ((f_rot d 16) ^^^ (c + d)) 21  sz) [] rfl List.nodup_nil (as := []) rfl rfl (ws' := [cO a0 2 [.long k0, .long k1, .long ((f_rot (a + b) 32) + ((f_rot d 16) ^^^ (c + d))), .long ((f_rot b 13) ^^^ (a + b)), .long (c + d), .long ((f_rot d 16) ^^^ (c + d))]]) rfl (cw_Dig_47 hF.2.2.2.2.1 rfl rfl ⟨by decide, by decide⟩) rfl rfl (Nat.le_of_ble_eq_true rfl) d_Dig_round_95 ⟨Nat.zero_le _, Nat.zero_le _⟩ ?_
  refine zx_aload_n (pc := 98) hF d_Dig_round_98 rfl 0 rfl ?_
  refine zg_Dig_18 (pc := 99) hF 0 rfl rfl d_Dig_round_99 ?_
  refine zx_lxor (pc := 102) hF d_Dig_round_102 ?_
  refine zp_Dig_33 (pc := 103) hF 0 rfl (Nat.le_of_ble_eq_true rfl) d_Dig_round_103 (ws' := [cO a0 2 [.long k0, .long k1, .long ((f_rot (a + b) 32) + ((f_rot d 16) ^^^ (c + d))), .long ((f_rot b 13) ^^^ (a + b)), .long (c + d), .long ((f_rot ((f_rot d 16) ^^^ (c + d)) 21) ^^^ ((f_rot (a + b) 32) + ((f_rot d 16) ^^^ (c + d))))]]) rfl ?_
  refine zx_aload_n (pc := 106) hF d_Dig_round_106 rfl 0 rfl ?_
  refine zx_dup (pc := 107) hF d_Dig_round_107 rfl ?_
  refine zg_Dig_28 (pc := 108) hF 0 rfl rfl d_Dig_round_108 ?_
  refine zx_aload_n (pc := 111) hF d_Dig_round_111 rfl 0 rfl ?_
  refine zg_Dig_23 (pc := 112) hF 0 rfl rfl d_Dig_round_112 ?_
  refine zx_ladd (pc := 115) hF d_Dig_round_115 ?_
  refine zp_Dig_28 (pc := 116) hF 0 rfl (Nat.le_of_ble_eq_true rfl) d_Dig_round_116 (ws' := [cO a0 2 [.long k0, .long k1, .long ((f_rot (a + b) 32) + ((f_rot d 16) ^^^ (c + d))), .long ((f_rot b 13) ^^^ (a + b)), .long ((c + d) + ((f_rot b 13) ^^^ (a + b))), .long ((f_rot ((f_rot d 16) ^^^ (c + d)) 21) ^^^ ((f_rot (a + b) 32) + ((f_rot d 16) ^^^ (c + d))))]]) rfl ?_
  refine zx_aload_n (pc := 119) hF d_Dig_round_119 rfl 0 rfl ?_
  refine zx_aload_n (pc := 120) hF d_Dig_round_120 rfl 0 rfl ?_
  refine zg_Dig_23 (pc := 121) hF 0 rfl rfl d_Dig_round_121 ?_
  refine zx_bipush (pc := 124) hF d_Dig_round_124 k_b17 ?_
  refine zx_Sl (pc := 126) hF (As := [.long ((f_rot b 13) ^^^ (a + b)), .int 17]) (rest := [.ref a0]) (fun sz => M_Dig_turnedLeft l D K M ((f_rot b 13) ^^^ (a + b)) 17  sz) [] rfl List.nodup_nil (as := []) rfl rfl (ws' := [cO a0 2 [.long k0, .long k1, .long ((f_rot (a + b) 32) + ((f_rot d 16) ^^^ (c + d))), .long ((f_rot b 13) ^^^ (a + b)), .long ((c + d) + ((f_rot b 13) ^^^ (a + b))), .long ((f_rot ((f_rot d 16) ^^^ (c + d)) 21) ^^^ ((f_rot (a + b) 32) + ((f_rot d 16) ^^^ (c + d))))]]) rfl (cw_Dig_47 hF.2.2.2.2.1 rfl rfl ⟨by decide, by decide⟩) rfl rfl (Nat.le_of_ble_eq_true rfl) d_Dig_round_126 ⟨Nat.zero_le _, Nat.zero_le _⟩ ?_
  refine zx_aload_n (pc := 129) hF d_Dig_round_129 rfl 0 rfl ?_
  refine zg_Dig_28 (pc := 130) hF 0 rfl rfl d_Dig_round_130 ?_
  refine zx_lxor (pc := 133) hF d_Dig_round_133 ?_
  refine zp_Dig_23 (pc := 134) hF 0 rfl (Nat.le_of_ble_eq_true rfl) d_Dig_round_134 (ws' := [cO a0 2 [.long k0, .long k1, .long ((f_rot (a + b) 32) + ((f_rot d 16) ^^^ (c + d))), .long ((f_rot ((f_rot b 13) ^^^ (a + b)) 17) ^^^ ((c + d) + ((f_rot b 13) ^^^ (a + b)))), .long ((c + d) + ((f_rot b 13) ^^^ (a + b))), .long ((f_rot ((f_rot d 16) ^^^ (c + d)) 21) ^^^ ((f_rot (a + b) 32) + ((f_rot d 16) ^^^ (c + d))))]]) rfl ?_
  refine zx_aload_n (pc := 137) hF d_Dig_round_137 rfl 0 rfl ?_
  refine zx_aload_n (pc := 138) hF d_Dig_round_138 rfl 0 rfl ?_
  refine zg_Dig_28 (pc := 139) hF 0 rfl rfl d_Dig_round_139 ?_
  refine zx_bipush (pc := 142) hF d_Dig_round_142 k_b32 ?_
  refine zx_Sl (pc := 144) hF (As := [.long ((c + d) + ((f_rot b 13) ^^^ (a + b))), .int 32]) (rest := [.ref a0]) (fun sz => M_Dig_turnedLeft l D K M ((c + d) + ((f_rot b 13) ^^^ (a + b))) 32  sz) [] rfl List.nodup_nil (as := []) rfl rfl (ws' := [cO a0 2 [.long k0, .long k1, .long ((f_rot (a + b) 32) + ((f_rot d 16) ^^^ (c + d))), .long ((f_rot ((f_rot b 13) ^^^ (a + b)) 17) ^^^ ((c + d) + ((f_rot b 13) ^^^ (a + b)))), .long ((c + d) + ((f_rot b 13) ^^^ (a + b))), .long ((f_rot ((f_rot d 16) ^^^ (c + d)) 21) ^^^ ((f_rot (a + b) 32) + ((f_rot d 16) ^^^ (c + d))))]]) rfl (cw_Dig_47 hF.2.2.2.2.1 rfl rfl ⟨by decide, by decide⟩) rfl rfl (Nat.le_of_ble_eq_true rfl) d_Dig_round_144 ⟨Nat.zero_le _, Nat.zero_le _⟩ ?_
  refine zp_Dig_28 (pc := 147) hF 0 rfl (Nat.le_of_ble_eq_true rfl) d_Dig_round_147 (ws' := [cO a0 2 [.long k0, .long k1, .long ((f_rot (a + b) 32) + ((f_rot d 16) ^^^ (c + d))), .long ((f_rot ((f_rot b 13) ^^^ (a + b)) 17) ^^^ ((c + d) + ((f_rot b 13) ^^^ (a + b)))), .long (f_rot ((c + d) + ((f_rot b 13) ^^^ (a + b))) 32), .long ((f_rot ((f_rot d 16) ^^^ (c + d)) 21) ^^^ ((f_rot (a + b) 32) + ((f_rot d 16) ^^^ (c + d))))]]) rfl ?_
  exact zx_vret (pc := 150) hF hr hlk (by first | rfl | (simp only []; done) | (simp only [↓reduceIte]; done) | simp []) d_Dig_round_150
set_option maxRecDepth 20000 in
theorem M_Dig_takeIn (l : Launch) (D : va_G) (K : Nat → ClassId) (M : List (ClassId × FieldType)) (a0 : Nat) (k0 : Int64) (k1 : Int64) (v : f_4) (y : Int64) (sz : Nat) : zM l y_Dig_takeIn (zT y_Dig_takeIn b_Dig_takeIn 3 none) (zR 2 42) 0 0 D K M [.ref a0, .long y] [cO a0 2 [.long k0, .long k1, .long v.1, .long v.2.1, .long v.2.2.1, .long v.2.2.2]] sz (zQv D K M [cO a0 2 [.long k0, .long k1, .long (f_in y v).1, .long (f_in y v).2.1, .long (f_in y v).2.2.1, .long (f_in y v).2.2.2]]) := by
  refine zx_head (by decide) (Nat.le_of_ble_eq_true rfl) ?_
  intro _ _ _ _ _ _ _ _ _ hF hr hlk hnm
  refine zx_aload_n (pc := 0) hF d_Dig_takeIn_0 rfl 0 rfl ?_
  refine zx_dup (pc := 1) hF d_Dig_takeIn_1 rfl ?_
  refine zg_Dig_33 (pc := 2) hF 0 rfl rfl d_Dig_takeIn_2 ?_
  refine zx_lload_n (pc := 5) hF d_Dig_takeIn_5 rfl 1 rfl ?_
  refine zx_lxor (pc := 6) hF d_Dig_takeIn_6 ?_
  refine zp_Dig_33 (pc := 7) hF 0 rfl (Nat.le_of_ble_eq_true rfl) d_Dig_takeIn_7 (ws' := [cO a0 2 [.long k0, .long k1, .long v.1, .long v.2.1, .long v.2.2.1, .long (v.2.2.2 ^^^ y)]]) rfl ?_
  refine zx_aload_n (pc := 10) hF d_Dig_takeIn_10 rfl 0 rfl ?_
  refine zx_Vv (pc := 11) hF (As := []) (rest := []) (fun sz => M_Dig_round l D K M a0 k0 k1 v.1 v.2.1 v.2.2.1 (v.2.2.2 ^^^ y)  sz) [0] rfl (by decide) (as := [a0]) rfl rfl (ws' := [cO a0 2 [.long k0, .long k1, .long (f_ra v.1 v.2.1 v.2.2.1 (v.2.2.2 ^^^ y)), .long (f_rb v.1 v.2.1 v.2.2.1 (v.2.2.2 ^^^ y)), .long (f_rc v.1 v.2.1 v.2.2.1 (v.2.2.2 ^^^ y)), .long (f_rd v.1 v.2.1 v.2.2.1 (v.2.2.2 ^^^ y))]]) rfl 0 2 rfl rfl rfl (cw_Dig_44 hF.2.2.2.2.1 rfl rfl ⟨by decide, by decide⟩) rfl rfl (Nat.le_of_ble_eq_true rfl) d_Dig_takeIn_11 ⟨Nat.zero_le _, Nat.zero_le _⟩ ?_
  refine zx_aload_n (pc := 14) hF d_Dig_takeIn_14 rfl 0 rfl ?_
  refine zx_Vv (pc := 15) hF (As := []) (rest := []) (fun sz => M_Dig_round l D K M a0 k0 k1 (f_ra v.1 v.2.1 v.2.2.1 (v.2.2.2 ^^^ y)) (f_rb v.1 v.2.1 v.2.2.1 (v.2.2.2 ^^^ y)) (f_rc v.1 v.2.1 v.2.2.1 (v.2.2.2 ^^^ y)) (f_rd v.1 v.2.1 v.2.2.1 (v.2.2.2 ^^^ y))  sz) [0] rfl (by decide) (as := [a0]) rfl rfl (ws' := [cO a0 2 [.long k0, .long k1, .long (f_ra (f_ra v.1 v.2.1 v.2.2.1 (v.2.2.2 ^^^ y)) (f_rb v.1 v.2.1 v.2.2.1 (v.2.2.2 ^^^ y)) (f_rc v.1 v.2.1 v.2.2.1 (v.2.2.2 ^^^ y)) (f_rd v.1 v.2.1 v.2.2.1 (v.2.2.2 ^^^ y))), .long (f_rb (f_ra v.1 v.2.1 v.2.2.1 (v.2.2.2 ^^^ y)) (f_rb v.1 v.2.1 v.2.2.1 (v.2.2.2 ^^^ y)) (f_rc v.1 v.2.1 v.2.2.1 (v.2.2.2 ^^^ y)) (f_rd v.1 v.2.1 v.2.2.1 (v.2.2.2 ^^^ y))), .long (f_rc (f_ra v.1 v.2.1 v.2.2.1 (v.2.2.2 ^^^ y)) (f_rb v.1 v.2.1 v.2.2.1 (v.2.2.2 ^^^ y)) (f_rc v.1 v.2.1 v.2.2.1 (v.2.2.2 ^^^ y)) (f_rd v.1 v.2.1 v.2.2.1 (v.2.2.2 ^^^ y))), .long (f_rd (f_ra v.1 v.2.1 v.2.2.1 (v.2.2.2 ^^^ y)) (f_rb v.1 v.2.1 v.2.2.1 (v.2.2.2 ^^^ y)) (f_rc v.1 v.2.1 v.2.2.1 (v.2.2.2 ^^^ y)) (f_rd v.1 v.2.1 v.2.2.1 (v.2.2.2 ^^^ y)))]]) rfl 0 2 rfl rfl rfl (cw_Dig_44 hF.2.2.2.2.1 rfl rfl ⟨by decide, by decide⟩) rfl rfl (Nat.le_of_ble_eq_true rfl) d_Dig_takeIn_15 ⟨Nat.zero_le _, Nat.zero_le _⟩ ?_
  refine zx_aload_n (pc := 18) hF d_Dig_takeIn_18 rfl 0 rfl ?_
  refine zx_dup (pc := 19) hF d_Dig_takeIn_19 rfl ?_
  refine zg_Dig_18 (pc := 20) hF 0 rfl rfl d_Dig_takeIn_20 ?_
  refine zx_lload_n (pc := 23) hF d_Dig_takeIn_23 rfl 1 rfl ?_
  refine zx_lxor (pc := 24) hF d_Dig_takeIn_24 ?_
  refine zp_Dig_18 (pc := 25) hF 0 rfl (Nat.le_of_ble_eq_true rfl) d_Dig_takeIn_25 (ws' := [cO a0 2 [.long k0, .long k1, .long ((f_ra (f_ra v.1 v.2.1 v.2.2.1 (v.2.2.2 ^^^ y)) (f_rb v.1 v.2.1 v.2.2.1 (v.2.2.2 ^^^ y)) (f_rc v.1 v.2.1 v.2.2.1 (v.2.2.2 ^^^ y)) (f_rd v.1 v.2.1 v.2.2.1 (v.2.2.2 ^^^ y))) ^^^ y), .long (f_rb (f_ra v.1 v.2.1 v.2.2.1 (v.2.2.2 ^^^ y)) (f_rb v.1 v.2.1 v.2.2.1 (v.2.2.2 ^^^ y)) (f_rc v.1 v.2.1 v.2.2.1 (v.2.2.2 ^^^ y)) (f_rd v.1 v.2.1 v.2.2.1 (v.2.2.2 ^^^ y))), .long (f_rc (f_ra v.1 v.2.1 v.2.2.1 (v.2.2.2 ^^^ y)) (f_rb v.1 v.2.1 v.2.2.1 (v.2.2.2 ^^^ y)) (f_rc v.1 v.2.1 v.2.2.1 (v.2.2.2 ^^^ y)) (f_rd v.1 v.2.1 v.2.2.1 (v.2.2.2 ^^^ y))), .long (f_rd (f_ra v.1 v.2.1 v.2.2.1 (v.2.2.2 ^^^ y)) (f_rb v.1 v.2.1 v.2.2.1 (v.2.2.2 ^^^ y)) (f_rc v.1 v.2.1 v.2.2.1 (v.2.2.2 ^^^ y)) (f_rd v.1 v.2.1 v.2.2.1 (v.2.2.2 ^^^ y)))]]) rfl ?_
  exact zx_vret (pc := 28) hF hr hlk (by simp only [f_in, f_iter, f_round]) d_Dig_takeIn_28
end
section
set_option maxRecDepth 20000 in
theorem M_Dig_digestOf (l : Launch) (D : va_G) (K : Nat → ClassId) (M : List (ClassId × FieldType)) (a0 : Nat) (k0 : Int64) (k1 : Int64) (a : Int64) (b : Int64) (c : Int64) (d : Int64) (x : Int64) (sz : Nat) : zM l y_Dig_digestOf (zT y_Dig_digestOf b_Dig_digestOf 4 (some .long)) (zR 3 64) 0 0 D K M [.ref a0, .long x] [cO a0 2 [.long k0, .long k1, .long a, .long b, .long c, .long d]] sz (zQl D K M (f_dig k0 k1 x) [cO a0 2 [.long k0, .long k1, .long (f_end k0 k1 x).1, .long (f_end k0 k1 x).2.1, .long (f_end k0 k1 x).2.2.1, .long (f_end k0 k1 x).2.2.2]]) := by
  refine zx_head (by decide) (Nat.le_of_ble_eq_true rfl) ?_
  intro _ _ _ _ _ _ _ _ _ hF hr hlk hnm
  refine zx_aload_n (pc := 0) hF d_Dig_digestOf_0 rfl 0 rfl ?_
  refine zx_aload_n (pc := 1) hF d_Dig_digestOf_1 rfl 0 rfl ?_
  refine zg_Dig_7 (pc := 2) hF 0 rfl rfl d_Dig_digestOf_2 ?_
  refine zx_ldc2 (pc := 5) hF wk_Dig_16 d_Dig_digestOf_5 ?_
  refine zx_lxor (pc := 8) hF d_Dig_digestOf_8 ?_
  refine zp_Dig_18 (pc := 9) hF 0 rfl (Nat.le_of_ble_eq_true rfl) d_Dig_digestOf_9 (ws' := [cO a0 2 [.long k0, .long k1, .long (k0 ^^^ 8317987319222330741), .long b, .long c, .long d]]) rfl ?_
  refine zx_aload_n (pc := 12) hF d_Dig_digestOf_12 rfl 0 rfl ?_
  refine zx_aload_n (pc := 13) hF d_Dig_digestOf_13 rfl 0 rfl ?_
  refine zg_Dig_13 (pc := 14) hF 0 rfl rfl d_Dig_digestOf_14 ?_
  refine zx_ldc2 (pc := 17) hF wk_Dig_21 d_Dig_digestOf_17 ?_
  refine zx_lxor (pc := 20) hF d_Dig_digestOf_20 ?_
  refine zp_Dig_23 (pc := 21) hF 0 rfl (Nat.le_of_ble_eq_true rfl) d_Dig_digestOf_21 (ws' := [cO a0 2 [.long k0, .long k1, .long (k0 ^^^ 8317987319222330741), .long (k1 ^^^ 7237128888997146477), .long c, .long d]]) rfl ?_
  refine zx_aload_n (pc := 24) hF d_Dig_digestOf_24 rfl 0 rfl ?_
  refine zx_aload_n (pc := 25) hF d_Dig_digestOf_25 rfl 0 rfl ?_
  refine zg_Dig_7 (pc := 26) hF 0 rfl rfl d_Dig_digestOf_26 ?_
  refine zx_ldc2 (pc := 29) hF wk_Dig_26 d_Dig_digestOf_29 ?_
  refine zx_lxor (pc := 32) hF d_Dig_digestOf_32 ?_
  refine zp_Dig_28 (pc := 33) hF 0 rfl (Nat.le_of_ble_eq_true rfl) d_Dig_digestOf_33 (ws' := [cO a0 2 [.long k0, .long k1, .long (k0 ^^^ 8317987319222330741), .long (k1 ^^^ 7237128888997146477), .long (k0 ^^^ 7816392313619706465), .long d]]) rfl ?_
  refine zx_aload_n (pc := 36) hF d_Dig_digestOf_36 rfl 0 rfl ?_
  refine zx_aload_n (pc := 37) hF d_Dig_digestOf_37 rfl 0 rfl ?_
  refine zg_Dig_13 (pc := 38) hF 0 rfl rfl d_Dig_digestOf_38 ?_
  refine zx_ldc2 (pc := 41) hF wk_Dig_31 d_Dig_digestOf_41 ?_
  refine zx_lxor (pc := 44) hF d_Dig_digestOf_44 ?_
  refine zp_Dig_33 (pc := 45) hF 0 rfl (Nat.le_of_ble_eq_true rfl) d_Dig_digestOf_45 (ws' := [cO a0 2 [.long k0, .long k1, .long (k0 ^^^ 8317987319222330741), .long (k1 ^^^ 7237128888997146477), .long (k0 ^^^ 7816392313619706465), .long (k1 ^^^ 8387220255154660723)]]) rfl ?_
  refine zx_aload_n (pc := 48) hF d_Dig_digestOf_48 rfl 0 rfl ?_
  refine zx_lload_n (pc := 49) hF d_Dig_digestOf_49 rfl 1 rfl ?_
  refine zx_eq (ws' := [cO a0 2 [.long k0, .long k1, .long (f_ini k0 k1).1, .long (f_ini k0 k1).2.1, .long (f_ini k0 k1).2.2.1, .long (f_ini k0 k1).2.2.2]]) (lv' := [(0, .ref a0), (1, .long x)]) rfl rfl rfl ?_
  refine zx_Vv (pc := 50) hF (As := [.long x]) (rest := []) (fun sz => M_Dig_takeIn l D K M a0 k0 k1 (f_ini k0 k1) x  sz) [0] rfl (by decide) (as := [a0]) rfl rfl (ws' := [cO a0 2 [.long k0, .long k1, .long (f_in x (f_ini k0 k1)).1, .long (f_in x (f_ini k0 k1)).2.1, .long (f_in x (f_ini k0 k1)).2.2.1, .long (f_in x (f_ini k0 k1)).2.2.2]]) rfl 0 2 rfl rfl rfl (cw_Dig_36 hF.2.2.2.2.1 rfl rfl ⟨by decide, by decide⟩) rfl rfl (Nat.le_of_ble_eq_true rfl) d_Dig_digestOf_50 ⟨Nat.zero_le _, Nat.zero_le _⟩ ?_
  refine zx_aload_n (pc := 53) hF d_Dig_digestOf_53 rfl 0 rfl ?_
  refine zx_ldc2 (pc := 54) hF wk_Dig_40 d_Dig_digestOf_54 ?_
  refine zx_Vv (pc := 57) hF (As := [.long 576460752303423488]) (rest := []) (fun sz => M_Dig_takeIn l D K M a0 k0 k1 (f_in x (f_ini k0 k1)) 576460752303423488  sz) [0] rfl (by decide) (as := [a0]) rfl rfl (ws' := [cO a0 2 [.long k0, .long k1, .long (f_in 576460752303423488 (f_in x (f_ini k0 k1))).1, .long (f_in 576460752303423488 (f_in x (f_ini k0 k1))).2.1, .long (f_in 576460752303423488 (f_in x (f_ini k0 k1))).2.2.1, .long (f_in 576460752303423488 (f_in x (f_ini k0 k1))).2.2.2]]) rfl 0 2 rfl rfl rfl (cw_Dig_36 hF.2.2.2.2.1 rfl rfl ⟨by decide, by decide⟩) rfl rfl (Nat.le_of_ble_eq_true rfl) d_Dig_digestOf_57 ⟨Nat.zero_le _, Nat.zero_le _⟩ ?_
  refine zx_aload_n (pc := 60) hF d_Dig_digestOf_60 rfl 0 rfl ?_
  refine zx_dup (pc := 61) hF d_Dig_digestOf_61 rfl ?_
  refine zg_Dig_28 (pc := 62) hF 0 rfl rfl d_Dig_digestOf_62 ?_
  refine zx_ldc2 (pc := 65) hF wk_Dig_42 d_Dig_digestOf_65 ?_
  refine zx_lxor (pc := 68) hF d_Dig_digestOf_68 ?_
  refine zp_Dig_28 (pc := 69) hF 0 rfl (Nat.le_of_ble_eq_true rfl) d_Dig_digestOf_69 (ws' := [cO a0 2 [.long k0, .long k1, .long (f_in 576460752303423488 (f_in x (f_ini k0 k1))).1, .long (f_in 576460752303423488 (f_in x (f_ini k0 k1))).2.1, .long ((f_in 576460752303423488 (f_in x (f_ini k0 k1))).2.2.1 ^^^ 255), .long (f_in 576460752303423488 (f_in x (f_ini k0 k1))).2.2.2]]) rfl ?_
  refine zx_iconst (pc := 72) hF d_Dig_digestOf_72 k_i0 ?_
  refine zx_istore_n (pc := 73) hF (lv' := [(3, .int 0), (0, .ref a0), (1, .long x)]) d_Dig_digestOf_73 rfl (by decide) rfl ?_
  refine zx_eq (ws' := [cO a0 2 [.long k0, .long k1, .long (f_mid k0 k1 x).1, .long (f_mid k0 k1 x).2.1, .long ((f_mid k0 k1 x).2.2.1 ^^^ 255), .long (f_mid k0 k1 x).2.2.2]]) (lv' := [(3, .int 0), (0, .ref a0), (1, .long x)]) rfl rfl rfl ?_
  refine zx_lv [1, 0] (lv' := [(0, .ref a0), (3, .int 0)]) rfl ?_
  refine zx_loop (pc := 74) (σ := Nat × Int64 × Int64 × Int64 × Int64) (fun k zv => (zv.1 + k = 4) ∧ (f_iter k (zv.2.1, zv.2.2.1, zv.2.2.2.1, zv.2.2.2.2) = f_end k0 k1 x)) (fun zv => [cO a0 2 [.long k0, .long k1, .long zv.2.1, .long zv.2.2.1, .long zv.2.2.2.1, .long zv.2.2.2.2]]) (fun zv => [(0, .ref a0), (3, .int (nI zv.1))]) 4 (0, (f_mid k0 k1 x).1, (f_mid k0 k1 x).2.1, (f_mid k0 k1 x).2.2.1 ^^^ 255, (f_mid k0 k1 x).2.2.2) ⟨rfl, rfl⟩ rfl rfl ?_
  intro k zv hI ih
  obtain ⟨j, a, b, c, d⟩ := zv
  obtain ⟨hk, hX⟩ := hI
  replace hk : j + k = 4 := hk
  replace hX : f_iter k (a, b, c, d) = f_end k0 k1 x := hX
  refine zx_eq (ws' := [cO a0 2 [.long k0, .long k1, .long a, .long b, .long c, .long d]]) (lv' := [(0, .ref a0), (3, .int (nI j))]) rfl rfl rfl ?_
  refine zx_iload_n (pc := 74) hF d_Dig_digestOf_74 rfl 1 rfl ?_
  refine zx_iconst (pc := 75) hF d_Dig_digestOf_75 k_i4 ?_
  refine zx_icmp_ge (pc := 76) hF d_Dig_digestOf_76 (tgt := 89) rfl (fun h76 => ?_) (fun h76 => ?_)
  · replace h76 : 4 ≤ j := (nI_leI (a := 4) (b := j) (by omega) (by omega)).mp h76
    obtain rfl : k = 0 := (by omega)
    replace hX : (a, b, c, d) = f_end k0 k1 x := hX
    refine zx_aload_n (pc := 89) hF d_Dig_digestOf_89 rfl 0 rfl ?_
    refine zg_Dig_18 (pc := 90) hF 0 rfl rfl d_Dig_digestOf_90 ?_
    refine zx_aload_n (pc := 93) hF d_Dig_digestOf_93 rfl 0 rfl ?_
    refine zg_Dig_23 (pc := 94) hF 0 rfl rfl d_Dig_digestOf_94 ?_
    refine zx_lxor (pc := 97) hF d_Dig_digestOf_97 ?_
    refine zx_aload_n (pc := 98) hF d_Dig_digestOf_98 rfl 0 rfl ?_
    refine zg_Dig_28 (pc := 99) hF 0 rfl rfl d_Dig_digestOf_99 ?_
    refine zx_lxor (pc := 102) hF d_Dig_digestOf_102 ?_
    refine zx_aload_n (pc := 103) hF d_Dig_digestOf_103 rfl 0 rfl ?_
    refine zg_Dig_33 (pc := 104) hF 0 rfl rfl d_Dig_digestOf_104 ?_
    refine zx_lxor (pc := 107) hF d_Dig_digestOf_107 ?_
    exact zx_lret (pc := 108) hF hr hlk (by show _ = f_dig k0 k1 x; unfold f_dig; rw [← hX]) (by rw [← hX]) d_Dig_digestOf_108
  · replace h76 : ¬ 4 ≤ j := fun z => h76 ((nI_leI (a := 4) (b := j) (by omega) (by omega)).mpr z)
    refine zx_aload_n (pc := 79) hF d_Dig_digestOf_79 rfl 0 rfl ?_
    refine zx_Vv (pc := 80) hF (As := []) (rest := []) (fun sz => M_Dig_round l D K M a0 k0 k1 a b c d  sz) [0] rfl (by decide) (as := [a0]) rfl rfl (ws' := [cO a0 2 [.long k0, .long k1, .long (f_ra a b c d), .long (f_rb a b c d), .long (f_rc a b c d), .long (f_rd a b c d)]]) rfl 0 2 rfl rfl rfl (cw_Dig_44 hF.2.2.2.2.1 rfl rfl ⟨by decide, by decide⟩) rfl rfl (Nat.le_of_ble_eq_true rfl) d_Dig_digestOf_80 ⟨Nat.zero_le _, Nat.zero_le _⟩ ?_
    refine zx_iinc (pc := 83) hF (v := nI (j + 1)) (lv' := [(3, .int (nI (j + 1))), (0, .ref a0)]) d_Dig_digestOf_83 1 rfl (zinc j) (by decide) rfl ?_
    refine zx_goto (pc := 86) hF d_Dig_digestOf_86 (tgt := 74) rfl ?_
    refine zx_lv [1, 0] (lv' := [(0, .ref a0), (3, .int (nI (j + 1)))]) rfl ?_
    exact ih (k - 1) (j + 1, f_ra a b c d, f_rb a b c d, f_rc a b c d, f_rd a b c d) (by omega) ⟨by (try dsimp only); omega, by obtain ⟨k', rfl⟩ : ∃ k', k = k' + 1 := ⟨k - 1, by omega⟩; exact hX⟩
set_option maxRecDepth 20000 in
theorem M_Wat_isUp (l : Launch) (D : va_G) (K : Nat → ClassId) (M : List (ClassId × FieldType)) (a0 : Nat) (a1 : Nat) (a2 : Nat) (n : Nat) (up : Nat → Int32) (con : Nat → Int32) (j : Nat) (hj : j < n) (hn : n < 2 ^ 31) (hu : z01 up) (sz : Nat) : zM l y_Wat_isUp (zT y_Wat_isUp b_Wat_isUp 2 (some .boolean)) (zR 0 0) 0 0 D K M [.ref a0, .int (nI j)] [cO a0 9 [.ref a1, .ref a2], cZ K a1 n up, cI K a2 n con] sz (zQi D K M (up j) [cO a0 9 [.ref a1, .ref a2], cZ K a1 n up, cI K a2 n con]) := by
  refine zx_head (by decide) (Nat.le_of_ble_eq_true rfl) ?_
  intro _ _ _ _ _ _ _ _ _ hF hr hlk hnm
  refine zx_aload_n (pc := 0) hF d_Wat_isUp_0 rfl 0 rfl ?_
  refine zg_Wat_7 (pc := 1) hF 0 rfl rfl d_Wat_isUp_1 ?_
  refine zx_iload_n (pc := 4) hF d_Wat_isUp_4 rfl 1 rfl ?_
  refine zx_zaldn (pc := 5) hF (i := j) 1 rfl (by omega) (by omega) d_Wat_isUp_5 ?_
  exact zx_zret (pc := 6) hF hr hlk (zbool (hu j)).1 rfl rfl d_Wat_isUp_6
set_option maxRecDepth 20000 in
theorem M_Wat_stateOf (l : Launch) (D : va_G) (K : Nat → ClassId) (M : List (ClassId × FieldType)) (a0 : Nat) (a1 : Nat) (a2 : Nat) (n : Nat) (up : Nat → Int32) (con : Nat → Int32) (j : Nat) (hj : j < n) (hn : n < 2 ^ 31) (sz : Nat) : zM l y_Wat_stateOf (zT y_Wat_stateOf b_Wat_stateOf 2 (some .int)) (zR 0 0) 0 0 D K M [.ref a0, .int (nI j)] [cO a0 9 [.ref a1, .ref a2], cZ K a1 n up, cI K a2 n con] sz (zQi D K M (if up j = 0 then 10 + con j else con j) [cO a0 9 [.ref a1, .ref a2], cZ K a1 n up, cI K a2 n con]) := by
  refine zx_head (by decide) (Nat.le_of_ble_eq_true rfl) ?_
  intro _ _ _ _ _ _ _ _ _ hF hr hlk hnm
  refine zx_aload_n (pc := 0) hF d_Wat_stateOf_0 rfl 0 rfl ?_
  refine zg_Wat_7 (pc := 1) hF 0 rfl rfl d_Wat_stateOf_1 ?_
  refine zx_iload_n (pc := 4) hF d_Wat_stateOf_4 rfl 1 rfl ?_
  refine zx_zaldn (pc := 5) hF (i := j) 1 rfl (by omega) (by omega) d_Wat_stateOf_5 ?_
  refine zx_if_eq (pc := 6) hF d_Wat_stateOf_6 (tgt := 18) rfl (fun h6 => ?_) (fun h6 => ?_)
  · refine zx_bipush (pc := 18) hF d_Wat_stateOf_18 k_b10 ?_
    refine zx_aload_n (pc := 20) hF d_Wat_stateOf_20 rfl 0 rfl ?_
    refine zg_Wat_13 (pc := 21) hF 0 rfl rfl d_Wat_stateOf_21 ?_
    refine zx_iload_n (pc := 24) hF d_Wat_stateOf_24 rfl 1 rfl ?_
    refine zx_ialdn (pc := 25) hF (i := j) 2 rfl (by omega) (by omega) d_Wat_stateOf_25 ?_
    refine zx_iadd (pc := 26) hF d_Wat_stateOf_26 ?_
    exact zx_iret (pc := 27) hF hr hlk (by first | rfl | (simp only [if_pos h6]; done) | (simp only [h6, ↓reduceIte]; done) | simp [h6]) (by first | rfl | (simp only [if_pos h6]; done) | (simp only [h6, ↓reduceIte]; done) | simp [h6]) d_Wat_stateOf_27
  · refine zx_aload_n (pc := 9) hF d_Wat_stateOf_9 rfl 0 rfl ?_
    refine zg_Wat_13 (pc := 10) hF 0 rfl rfl d_Wat_stateOf_10 ?_
    refine zx_iload_n (pc := 13) hF d_Wat_stateOf_13 rfl 1 rfl ?_
    refine zx_ialdn (pc := 14) hF (i := j) 2 rfl (by omega) (by omega) d_Wat_stateOf_14 ?_
    refine zx_goto (pc := 15) hF d_Wat_stateOf_15 (tgt := 27) rfl ?_
    exact zx_iret (pc := 27) hF hr hlk (by first | rfl | (simp only [if_neg h6]; done) | (simp only [h6, ↓reduceIte]; done) | simp [h6]) (by first | rfl | (simp only [if_neg h6]; done) | (simp only [h6, ↓reduceIte]; done) | simp [h6]) d_Wat_stateOf_27
set_option maxRecDepth 20000 in
theorem M_Wat_observe (l : Launch) (D : va_G) (K : Nat → ClassId) (M : List (ClassId × FieldType)) (a0 : Nat) (a1 : Nat) (a2 : Nat) (n : Nat) (up : Nat → Int32) (con : Nat → Int32) (j : Nat) (ans : Int32) (hj : j < n) (hn : n < 2 ^ 31) (ha : ans = 0 ∨ ans = 1) (sz : Nat) : zM l y_Wat_observe (zT y_Wat_observe b_Wat_observe 3 (some .boolean)) (zR 0 0) 0 0 D K M [.ref a0, .int (nI j), .int ans] [cO a0 9 [.ref a1, .ref a2], cZ K a1 n up, cI K a2 n con] sz (zQi D K M (f_or up con j ans) [cO a0 9 [.ref a1, .ref a2], cZ K a1 n (f_ou up con j ans), cI K a2 n (f_on up con j ans)]) := by
  refine zx_head (by decide) (Nat.le_of_ble_eq_true rfl) ?_
  intro _ _ _ _ _ _ _ _ _ hF hr hlk hnm
  refine zx_aload_n (pc := 0) hF d_Wat_observe_0 rfl 0 rfl ?_
  refine zg_Wat_13 (pc := 1) hF 0 rfl rfl d_Wat_observe_1 ?_
  refine zx_iload_n (pc := 4) hF d_Wat_observe_4 rfl 1 rfl ?_
  refine zx_iload_n (pc := 5) hF d_Wat_observe_5 rfl 2 rfl ?_
  refine zx_aload_n (pc := 6) hF d_Wat_observe_6 rfl 0 rfl ?_
  refine zg_Wat_7 (pc := 7) hF 0 rfl rfl d_Wat_observe_7 ?_
  refine zx_iload_n (pc := 10) hF d_Wat_observe_10 rfl 1 rfl ?_
  refine zx_zaldn (pc := 11) hF (i := j) 1 rfl (by omega) (by omega) d_Wat_observe_11 ?_
  refine zx_icmp_ne (pc := 12) hF d_Wat_observe_12 (tgt := 19) rfl (fun h12 => ?_) (fun h12 => ?_)
  · refine zx_aload_n (pc := 19) hF d_Wat_observe_19 rfl 0 rfl ?_
    refine zg_Wat_13 (pc := 20) hF 0 rfl rfl d_Wat_observe_20 ?_
    refine zx_iload_n (pc := 23) hF d_Wat_observe_23 rfl 1 rfl ?_
    refine zx_ialdn (pc := 24) hF (i := j) 2 rfl (by omega) (by omega) d_Wat_observe_24 ?_
    refine zx_iconst (pc := 25) hF d_Wat_observe_25 k_i1 ?_
    refine zx_iadd (pc := 26) hF d_Wat_observe_26 ?_
    refine zx_iastn (pc := 27) hF (i := j) 2 rfl (by omega) (by omega) d_Wat_observe_27 (ws' := [cO a0 9 [.ref a1, .ref a2], cZ K a1 n up, cI K a2 n (upd con j ((con j) + 1))]) rfl ?_
    refine zx_aload_n (pc := 28) hF d_Wat_observe_28 rfl 0 rfl ?_
    refine zg_Wat_13 (pc := 29) hF 0 rfl rfl d_Wat_observe_29 ?_
    refine zx_iload_n (pc := 32) hF d_Wat_observe_32 rfl 1 rfl ?_
    refine zx_ialdn (pc := 33) hF (i := j) 2 rfl (by omega) (by omega) d_Wat_observe_33 ?_
    refine zx_topi ((con j) + 1) (pk_us) ?_
    refine zx_iconst (pc := 34) hF d_Wat_observe_34 k_i3 ?_
    refine zx_icmp_ge (pc := 35) hF d_Wat_observe_35 (tgt := 40) rfl (fun h35 => ?_) (fun h35 => ?_)
    · refine zx_aload_n (pc := 40) hF d_Wat_observe_40 rfl 0 rfl ?_
      refine zg_Wat_7 (pc := 41) hF 0 rfl rfl d_Wat_observe_41 ?_
      refine zx_iload_n (pc := 44) hF d_Wat_observe_44 rfl 1 rfl ?_
      refine zx_iload_n (pc := 45) hF d_Wat_observe_45 rfl 2 rfl ?_
      refine zx_zastn (pc := 46) hF (i := j) 1 rfl (by omega) (by omega) (znar ha) d_Wat_observe_46 (ws' := [cO a0 9 [.ref a1, .ref a2], cZ K a1 n (upd up j ans), cI K a2 n (upd con j ((con j) + 1))]) rfl ?_
      refine zx_aload_n (pc := 47) hF d_Wat_observe_47 rfl 0 rfl ?_
      refine zg_Wat_13 (pc := 48) hF 0 rfl rfl d_Wat_observe_48 ?_
      refine zx_iload_n (pc := 51) hF d_Wat_observe_51 rfl 1 rfl ?_
      refine zx_iconst (pc := 52) hF d_Wat_observe_52 k_i0 ?_
      refine zx_iastn (pc := 53) hF (i := j) 2 rfl (by omega) (by omega) d_Wat_observe_53 (ws' := [cO a0 9 [.ref a1, .ref a2], cZ K a1 n (upd up j ans), cI K a2 n (upd (upd con j ((con j) + 1)) j 0)]) rfl ?_
      refine zx_iconst (pc := 54) hF d_Wat_observe_54 k_i1 ?_
      exact zx_zret (pc := 55) hF hr hlk rfl (by first | with_reducible rfl | (simp only [f_or, f_ou, f_on, f_oc, if_neg h12, if_pos h35]; done) | (simp only [f_or, f_ou, f_on, f_oc, h12, h35, ↓reduceIte]; done) | simp [f_or, f_ou, f_on, f_oc, h12, h35]) (by first | with_reducible rfl | (simp only [f_or, f_ou, f_on, f_oc, if_neg h12, if_pos h35]; done) | (simp only [f_or, f_ou, f_on, f_oc, h12, h35, ↓reduceIte]; done) | simp [f_or, f_ou, f_on, f_oc, h12, h35]) d_Wat_observe_55
    · refine zx_iconst (pc := 38) hF d_Wat_observe_38 k_i0 ?_
      exact zx_zret (pc := 39) hF hr hlk rfl (by first | with_reducible rfl | (simp only [f_or, f_ou, f_on, f_oc, if_neg h12, if_neg h35]; done) | (simp only [f_or, f_ou, f_on, f_oc, h12, h35, ↓reduceIte]; done) | simp [f_or, f_ou, f_on, f_oc, h12, h35]) (by first | with_reducible rfl | (simp only [f_or, f_ou, f_on, f_oc, if_neg h12, if_neg h35]; done) | (simp only [f_or, f_ou, f_on, f_oc, h12, h35, ↓reduceIte]; done) | simp [f_or, f_ou, f_on, f_oc, h12, h35]) d_Wat_observe_39
  · refine zx_iconst (pc := 15) hF d_Wat_observe_15 k_i0 ?_
    refine zx_goto (pc := 16) hF d_Wat_observe_16 (tgt := 27) rfl ?_
    refine zx_iastn (pc := 27) hF (i := j) 2 rfl (by omega) (by omega) d_Wat_observe_27 (ws' := [cO a0 9 [.ref a1, .ref a2], cZ K a1 n up, cI K a2 n (upd con j 0)]) rfl ?_
    refine zx_aload_n (pc := 28) hF d_Wat_observe_28 rfl 0 rfl ?_
    refine zg_Wat_13 (pc := 29) hF 0 rfl rfl d_Wat_observe_29 ?_
    refine zx_iload_n (pc := 32) hF d_Wat_observe_32 rfl 1 rfl ?_
    refine zx_ialdn (pc := 33) hF (i := j) 2 rfl (by omega) (by omega) d_Wat_observe_33 ?_
    refine zx_topi 0 (pk_us) ?_
    refine zx_iconst (pc := 34) hF d_Wat_observe_34 k_i3 ?_
    refine zx_icmp_ge (pc := 35) hF d_Wat_observe_35 (tgt := 40) rfl (fun h35 => ?_) (fun h35 => ?_)
    · exact absurd h35 (by decide)
    · refine zx_iconst (pc := 38) hF d_Wat_observe_38 k_i0 ?_
      exact zx_zret (pc := 39) hF hr hlk rfl (by first | with_reducible rfl | (simp only [f_or, f_ou, f_on, f_oc, if_pos h12]; done) | (simp only [f_or, f_ou, f_on, f_oc, h12, ↓reduceIte]; done) | simp [f_or, f_ou, f_on, f_oc, h12]) (by first | with_reducible rfl | (simp only [f_or, f_ou, f_on, f_oc, if_pos h12]; done) | (simp only [f_or, f_ou, f_on, f_oc, h12, ↓reduceIte]; done) | simp [f_or, f_ou, f_on, f_oc, h12]) d_Wat_observe_39
set_option maxRecDepth 20000 in
theorem M_Slo_used (l : Launch) (D : va_G) (K : Nat → ClassId) (M : List (ClassId × FieldType)) (a0 : Nat) (a1 : Nat) (a2 : Nat) (a3 : Nat) (n : Nat) (src : Nat → Int32) (prt : Nat → Int32) (use : Nat → Int32) (cnt : Int32) (sz : Nat) : zM l y_Slo_used (zT y_Slo_used b_Slo_used 1 (some .int)) (zR 0 0) 0 0 D K M [.ref a0] [cO a0 6 [.ref a1, .ref a2, .ref a3, .int cnt], cI K a1 n src, cI K a2 n prt, cZ K a3 n use] sz (zQi D K M cnt [cO a0 6 [.ref a1, .ref a2, .ref a3, .int cnt], cI K a1 n src, cI K a2 n prt, cZ K a3 n use]) := by
  refine zx_head (by decide) (Nat.le_of_ble_eq_true rfl) ?_
  intro _ _ _ _ _ _ _ _ _ hF hr hlk hnm
  refine zx_aload_n (pc := 0) hF d_Slo_used_0 rfl 0 rfl ?_
  refine zg_Slo_22 (pc := 1) hF 0 rfl rfl d_Slo_used_1 ?_
  exact zx_iret (pc := 4) hF hr hlk (by first | rfl | (simp only []; done) | (simp only [↓reduceIte]; done) | simp []) (by first | rfl | (simp only []; done) | (simp only [↓reduceIte]; done) | simp []) d_Slo_used_4
set_option maxRecDepth 20000 in
theorem M_Slo_find (l : Launch) (D : va_G) (K : Nat → ClassId) (M : List (ClassId × FieldType)) (a0 : Nat) (a1 : Nat) (a2 : Nat) (a3 : Nat) (n : Nat) (src : Nat → Int32) (prt : Nat → Int32) (use : Nat → Int32) (cnt : Int32) (s0 : Int32) (p0 : Int32) (hn : n < 2 ^ 31) (sz : Nat) : zM l y_Slo_find (zT y_Slo_find b_Slo_find 4 (some .int)) (zR 0 0) 0 0 D K M [.ref a0, .int s0, .int p0] [cO a0 6 [.ref a1, .ref a2, .ref a3, .int cnt], cI K a1 n src, cI K a2 n prt, cZ K a3 n use] sz (zQi D K M (f_find use src prt n s0 p0) [cO a0 6 [.ref a1, .ref a2, .ref a3, .int cnt], cI K a1 n src, cI K a2 n prt, cZ K a3 n use]) := by
  refine zx_head (by decide) (Nat.le_of_ble_eq_true rfl) ?_
  intro _ _ _ _ _ _ _ _ _ hF hr hlk hnm
  refine zx_iconst (pc := 0) hF d_Slo_find_0 k_i0 ?_
  refine zx_istore_n (pc := 1) hF (lv' := [(3, .int 0), (0, .ref a0), (1, .int s0), (2, .int p0)]) d_Slo_find_1 rfl (by decide) rfl ?_
  refine zx_lv [1, 2, 3, 0] (lv' := [(0, .ref a0), (1, .int s0), (2, .int p0), (3, .int 0)]) rfl ?_
  refine zx_loop (pc := 2) (σ := Nat) (fun k zv => (zv + k = n) ∧ (f_first (f_same use src prt s0 p0) k zv = f_find use src prt n s0 p0)) (fun zv => [cO a0 6 [.ref a1, .ref a2, .ref a3, .int cnt], cI K a1 n src, cI K a2 n prt, cZ K a3 n use]) (fun zv => [(0, .ref a0), (1, .int s0), (2, .int p0), (3, .int (nI zv))]) n 0 ⟨by (try dsimp only); omega, rfl⟩ rfl rfl ?_
  intro k j hI ih
  obtain ⟨hk, hX⟩ := hI
  replace hk : j + k = n := hk
  replace hX : f_first (f_same use src prt s0 p0) k j = f_find use src prt n s0 p0 := hX
  refine zx_eq (ws' := [cO a0 6 [.ref a1, .ref a2, .ref a3, .int cnt], cI K a1 n src, cI K a2 n prt, cZ K a3 n use]) (lv' := [(0, .ref a0), (1, .int s0), (2, .int p0), (3, .int (nI j))]) rfl rfl rfl ?_
  refine zx_iload_n (pc := 2) hF d_Slo_find_2 rfl 3 rfl ?_
  refine zx_aload_n (pc := 3) hF d_Slo_find_3 rfl 0 rfl ?_
  refine zg_Slo_18 (pc := 4) hF 0 rfl rfl d_Slo_find_4 ?_
  refine zx_alen (pc := 7) hF 3 1 rfl rfl (v := nI n) rfl d_Slo_find_7 ?_
  refine zx_icmp_ge (pc := 8) hF d_Slo_find_8 (tgt := 48) rfl (fun h8 => ?_) (fun h8 => ?_)
  · replace h8 : n ≤ j := (nI_leI (a := n) (b := j) (by omega) (by omega)).mp h8
    refine zx_iconst (pc := 48) hF d_Slo_find_48 k_im1 ?_
    exact zx_iret (pc := 49) hF hr hlk (by obtain rfl : k = 0 := (by omega); exact hX) rfl d_Slo_find_49
  · replace h8 : ¬ n ≤ j := fun z => h8 ((nI_leI (a := n) (b := j) (by omega) (by omega)).mpr z)
    refine zx_aload_n (pc := 11) hF d_Slo_find_11 rfl 0 rfl ?_
    refine zg_Slo_18 (pc := 12) hF 0 rfl rfl d_Slo_find_12 ?_
    refine zx_iload_n (pc := 15) hF d_Slo_find_15 rfl 3 rfl ?_
    refine zx_zaldn (pc := 16) hF (i := j) 3 rfl (by omega) (by omega) d_Slo_find_16 ?_
    refine zx_if_eq (pc := 17) hF d_Slo_find_17 (tgt := 42) rfl (fun h17 => ?_) (fun h17 => ?_)
    · refine zx_iinc (pc := 42) hF (v := nI (j + 1)) (lv' := [(3, .int (nI (j + 1))), (0, .ref a0), (1, .int s0), (2, .int p0)]) d_Slo_find_42 3 rfl (zinc j) (by decide) rfl ?_
      refine zx_goto (pc := 45) hF d_Slo_find_45 (tgt := 2) rfl ?_
      refine zx_lv [1, 2, 3, 0] (lv' := [(0, .ref a0), (1, .int s0), (2, .int p0), (3, .int (nI (j + 1)))]) rfl ?_
      exact ih (k - 1) (j + 1) (by omega) ⟨by (try dsimp only); omega, by obtain ⟨k', rfl⟩ : ∃ k', k = k' + 1 := ⟨k - 1, by omega⟩; simpa [f_first, f_same, h8, h17] using hX⟩
    · refine zx_aload_n (pc := 20) hF d_Slo_find_20 rfl 0 rfl ?_
      refine zg_Slo_9 (pc := 21) hF 0 rfl rfl d_Slo_find_21 ?_
      refine zx_iload_n (pc := 24) hF d_Slo_find_24 rfl 3 rfl ?_
      refine zx_ialdn (pc := 25) hF (i := j) 1 rfl (by omega) (by omega) d_Slo_find_25 ?_
      refine zx_iload_n (pc := 26) hF d_Slo_find_26 rfl 1 rfl ?_
      refine zx_icmp_ne (pc := 27) hF d_Slo_find_27 (tgt := 42) rfl (fun h27 => ?_) (fun h27 => ?_)
      · refine zx_iinc (pc := 42) hF (v := nI (j + 1)) (lv' := [(3, .int (nI (j + 1))), (0, .ref a0), (1, .int s0), (2, .int p0)]) d_Slo_find_42 3 rfl (zinc j) (by decide) rfl ?_
        refine zx_goto (pc := 45) hF d_Slo_find_45 (tgt := 2) rfl ?_
        refine zx_lv [1, 2, 3, 0] (lv' := [(0, .ref a0), (1, .int s0), (2, .int p0), (3, .int (nI (j + 1)))]) rfl ?_
        exact ih (k - 1) (j + 1) (by omega) ⟨by (try dsimp only); omega, by obtain ⟨k', rfl⟩ : ∃ k', k = k' + 1 := ⟨k - 1, by omega⟩; simpa [f_first, f_same, h8, h17, h27] using hX⟩
      · refine zx_aload_n (pc := 30) hF d_Slo_find_30 rfl 0 rfl ?_
        refine zg_Slo_15 (pc := 31) hF 0 rfl rfl d_Slo_find_31 ?_
        refine zx_iload_n (pc := 34) hF d_Slo_find_34 rfl 3 rfl ?_
        refine zx_ialdn (pc := 35) hF (i := j) 2 rfl (by omega) (by omega) d_Slo_find_35 ?_
        refine zx_iload_n (pc := 36) hF d_Slo_find_36 rfl 2 rfl ?_
        refine zx_icmp_ne (pc := 37) hF d_Slo_find_37 (tgt := 42) rfl (fun h37 => ?_) (fun h37 => ?_)
        · refine zx_iinc (pc := 42) hF (v := nI (j + 1)) (lv' := [(3, .int (nI (j + 1))), (0, .ref a0), (1, .int s0), (2, .int p0)]) d_Slo_find_42 3 rfl (zinc j) (by decide) rfl ?_
          refine zx_goto (pc := 45) hF d_Slo_find_45 (tgt := 2) rfl ?_
          refine zx_lv [1, 2, 3, 0] (lv' := [(0, .ref a0), (1, .int s0), (2, .int p0), (3, .int (nI (j + 1)))]) rfl ?_
          exact ih (k - 1) (j + 1) (by omega) ⟨by (try dsimp only); omega, by obtain ⟨k', rfl⟩ : ∃ k', k = k' + 1 := ⟨k - 1, by omega⟩; simpa [f_first, f_same, h8, h17, h27, h37] using hX⟩
        · refine zx_iload_n (pc := 40) hF d_Slo_find_40 rfl 3 rfl ?_
          exact zx_iret (pc := 41) hF hr hlk (by obtain ⟨k', rfl⟩ : ∃ k', k = k' + 1 := ⟨k - 1, by omega⟩; simpa [f_first, f_same, h8, h17, h27, h37] using hX) rfl d_Slo_find_41
set_option maxRecDepth 20000 in
theorem M_Slo_release (l : Launch) (D : va_G) (K : Nat → ClassId) (M : List (ClassId × FieldType)) (a0 : Nat) (a1 : Nat) (a2 : Nat) (a3 : Nat) (n : Nat) (src : Nat → Int32) (prt : Nat → Int32) (use : Nat → Int32) (cnt : Int32) (j : Nat) (hj : j < n) (hn : n < 2 ^ 31) (sz : Nat) : zM l y_Slo_release (zT y_Slo_release b_Slo_release 2 none) (zR 0 0) 0 0 D K M [.ref a0, .int (nI j)] [cO a0 6 [.ref a1, .ref a2, .ref a3, .int cnt], cI K a1 n src, cI K a2 n prt, cZ K a3 n use] sz (zQv D K M [cO a0 6 [.ref a1, .ref a2, .ref a3, .int (f_rn use cnt j)], cI K a1 n src, cI K a2 n prt, cZ K a3 n (f_ru use j)]) := by
  refine zx_head (by decide) (Nat.le_of_ble_eq_true rfl) ?_
  intro _ _ _ _ _ _ _ _ _ hF hr hlk hnm
  refine zx_aload_n (pc := 0) hF d_Slo_release_0 rfl 0 rfl ?_
  refine zg_Slo_18 (pc := 1) hF 0 rfl rfl d_Slo_release_1 ?_
  refine zx_iload_n (pc := 4) hF d_Slo_release_4 rfl 1 rfl ?_
  refine zx_zaldn (pc := 5) hF (i := j) 3 rfl (by omega) (by omega) d_Slo_release_5 ?_
  refine zx_if_eq (pc := 6) hF d_Slo_release_6 (tgt := 26) rfl (fun h6 => ?_) (fun h6 => ?_)
  · exact zx_vret (pc := 26) hF hr hlk (by first | with_reducible rfl | (simp only [f_ru, f_rn, if_pos h6]; done) | (simp only [f_ru, f_rn, h6, ↓reduceIte]; done) | simp [f_ru, f_rn, h6]) d_Slo_release_26
  · refine zx_aload_n (pc := 9) hF d_Slo_release_9 rfl 0 rfl ?_
    refine zg_Slo_18 (pc := 10) hF 0 rfl rfl d_Slo_release_10 ?_
    refine zx_iload_n (pc := 13) hF d_Slo_release_13 rfl 1 rfl ?_
    refine zx_iconst (pc := 14) hF d_Slo_release_14 k_i0 ?_
    refine zx_zastn (pc := 15) hF (i := j) 3 rfl (by omega) (by omega) rfl d_Slo_release_15 (ws' := [cO a0 6 [.ref a1, .ref a2, .ref a3, .int cnt], cI K a1 n src, cI K a2 n prt, cZ K a3 n (upd use j 0)]) rfl ?_
    refine zx_aload_n (pc := 16) hF d_Slo_release_16 rfl 0 rfl ?_
    refine zx_dup (pc := 17) hF d_Slo_release_17 rfl ?_
    refine zg_Slo_22 (pc := 18) hF 0 rfl rfl d_Slo_release_18 ?_
    refine zx_iconst (pc := 21) hF d_Slo_release_21 k_i1 ?_
    refine zx_isub (pc := 22) hF d_Slo_release_22 ?_
    refine zp_Slo_22 (pc := 23) hF 0 rfl (Nat.le_of_ble_eq_true rfl) d_Slo_release_23 (ws' := [cO a0 6 [.ref a1, .ref a2, .ref a3, .int (cnt - 1)], cI K a1 n src, cI K a2 n prt, cZ K a3 n (upd use j 0)]) rfl ?_
    exact zx_vret (pc := 26) hF hr hlk (by first | with_reducible rfl | (simp only [f_ru, f_rn, if_neg h6]; done) | (simp only [f_ru, f_rn, h6, ↓reduceIte]; done) | simp [f_ru, f_rn, h6]) d_Slo_release_26
end
section
set_option maxRecDepth 20000 in
theorem M_Slo_releaseAll (l : Launch) (D : va_G) (K : Nat → ClassId) (M : List (ClassId × FieldType)) (a0 : Nat) (a1 : Nat) (a2 : Nat) (a3 : Nat) (n : Nat) (src : Nat → Int32) (prt : Nat → Int32) (use : Nat → Int32) (cnt : Int32) (hn : n < 2 ^ 31) (sz : Nat) : zM l y_Slo_releaseAll (zT y_Slo_releaseAll b_Slo_releaseAll 2 none) (zR 1 21) 0 0 D K M [.ref a0] [cO a0 6 [.ref a1, .ref a2, .ref a3, .int cnt], cI K a1 n src, cI K a2 n prt, cZ K a3 n use] sz (zQv D K M [cO a0 6 [.ref a1, .ref a2, .ref a3, .int (f_all n 0 use cnt).2], cI K a1 n src, cI K a2 n prt, cZ K a3 n (f_all n 0 use cnt).1]) := by
  refine zx_head (by decide) (Nat.le_of_ble_eq_true rfl) ?_
  intro _ _ _ _ _ _ _ _ _ hF hr hlk hnm
  refine zx_iconst (pc := 0) hF d_Slo_releaseAll_0 k_i0 ?_
  refine zx_istore_n (pc := 1) hF (lv' := [(1, .int 0), (0, .ref a0)]) d_Slo_releaseAll_1 rfl (by decide) rfl ?_
  refine zx_lv [1, 0] (lv' := [(0, .ref a0), (1, .int 0)]) rfl ?_
  refine zx_loop (pc := 2) (σ := Nat × (Nat → Int32) × Int32) (fun k zv => (zv.1 + k = n) ∧ (f_all k zv.1 zv.2.1 zv.2.2 = f_all n 0 use cnt)) (fun zv => [cO a0 6 [.ref a1, .ref a2, .ref a3, .int zv.2.2], cI K a1 n src, cI K a2 n prt, cZ K a3 n zv.2.1]) (fun zv => [(0, .ref a0), (1, .int (nI zv.1))]) n (0, use, cnt) ⟨by (try dsimp only); omega, rfl⟩ rfl rfl ?_
  intro k zv hI ih
  obtain ⟨j, use', cnt'⟩ := zv
  obtain ⟨hk, hX⟩ := hI
  replace hk : j + k = n := hk
  replace hX : f_all k j use' cnt' = f_all n 0 use cnt := hX
  refine zx_eq (ws' := [cO a0 6 [.ref a1, .ref a2, .ref a3, .int cnt'], cI K a1 n src, cI K a2 n prt, cZ K a3 n use']) (lv' := [(0, .ref a0), (1, .int (nI j))]) rfl rfl rfl ?_
  refine zx_iload_n (pc := 2) hF d_Slo_releaseAll_2 rfl 1 rfl ?_
  refine zx_aload_n (pc := 3) hF d_Slo_releaseAll_3 rfl 0 rfl ?_
  refine zg_Slo_18 (pc := 4) hF 0 rfl rfl d_Slo_releaseAll_4 ?_
  refine zx_alen (pc := 7) hF 3 1 rfl rfl (v := nI n) rfl d_Slo_releaseAll_7 ?_
  refine zx_icmp_ge (pc := 8) hF d_Slo_releaseAll_8 (tgt := 22) rfl (fun h8 => ?_) (fun h8 => ?_)
  · replace h8 : n ≤ j := (nI_leI (a := n) (b := j) (by omega) (by omega)).mp h8
    exact zx_vret (pc := 22) hF hr hlk (by obtain rfl : k = 0 := (by omega); rw [← hX]; rfl) d_Slo_releaseAll_22
  · replace h8 : ¬ n ≤ j := fun z => h8 ((nI_leI (a := n) (b := j) (by omega) (by omega)).mpr z)
    refine zx_aload_n (pc := 11) hF d_Slo_releaseAll_11 rfl 0 rfl ?_
    refine zx_iload_n (pc := 12) hF d_Slo_releaseAll_12 rfl 1 rfl ?_
    refine zx_Vv (pc := 13) hF (As := [.int (nI j)]) (rest := []) (fun sz => M_Slo_release l D K M a0 a1 a2 a3 n src prt use' cnt' j (by first | assumption | omega) (by first | assumption | omega) sz) [0, 1, 2, 3] rfl (by decide) (as := [a0, a1, a2, a3]) rfl rfl (ws' := [cO a0 6 [.ref a1, .ref a2, .ref a3, .int (f_rn use' cnt' j)], cI K a1 n src, cI K a2 n prt, cZ K a3 n (f_ru use' j)]) rfl 0 6 rfl rfl rfl (cw_Slo_30 hF.2.2.2.2.1 rfl rfl ⟨by decide, by decide⟩) rfl rfl (Nat.le_of_ble_eq_true rfl) d_Slo_releaseAll_13 ⟨Nat.zero_le _, Nat.zero_le _⟩ ?_
    refine zx_iinc (pc := 16) hF (v := nI (j + 1)) (lv' := [(1, .int (nI (j + 1))), (0, .ref a0)]) d_Slo_releaseAll_16 1 rfl (zinc j) (by decide) rfl ?_
    refine zx_goto (pc := 19) hF d_Slo_releaseAll_19 (tgt := 2) rfl ?_
    refine zx_lv [1, 0] (lv' := [(0, .ref a0), (1, .int (nI (j + 1)))]) rfl ?_
    exact ih (k - 1) (j + 1, f_ru use' j, f_rn use' cnt' j) (by omega) ⟨by (try dsimp only); omega, by obtain ⟨k', rfl⟩ : ∃ k', k = k' + 1 := ⟨k - 1, by omega⟩; exact hX⟩
set_option maxRecDepth 20000 in
theorem M_Slo_findOrTake (l : Launch) (D : va_G) (K : Nat → ClassId) (M : List (ClassId × FieldType)) (a0 : Nat) (a1 : Nat) (a2 : Nat) (a3 : Nat) (n : Nat) (src : Nat → Int32) (prt : Nat → Int32) (use : Nat → Int32) (cnt : Int32) (s0 : Int32) (p0 : Int32) (hn : n < 2 ^ 31) (sz : Nat) : zM l y_Slo_findOrTake (zT y_Slo_findOrTake b_Slo_findOrTake 5 (some .int)) (zR 1 23) 0 0 D K M [.ref a0, .int s0, .int p0] [cO a0 6 [.ref a1, .ref a2, .ref a3, .int cnt], cI K a1 n src, cI K a2 n prt, cZ K a3 n use] sz (zQi D K M (f_fot use src prt n s0 p0) [cO a0 6 [.ref a1, .ref a2, .ref a3, .int (f_inc cnt (f_new use src prt n s0 p0))], cI K a1 n (f_put src (f_new use src prt n s0 p0) s0), cI K a2 n (f_put prt (f_new use src prt n s0 p0) p0), cZ K a3 n (f_put use (f_new use src prt n s0 p0) 1)]) := by
  refine zx_head (by decide) (Nat.le_of_ble_eq_true rfl) ?_
  intro _ _ _ _ _ _ _ _ _ hF hr hlk hnm
  refine zx_aload_n (pc := 0) hF d_Slo_findOrTake_0 rfl 0 rfl ?_
  refine zx_iload_n (pc := 1) hF d_Slo_findOrTake_1 rfl 1 rfl ?_
  refine zx_iload_n (pc := 2) hF d_Slo_findOrTake_2 rfl 2 rfl ?_
  refine zx_Vi (pc := 3) hF (As := [.int s0, .int p0]) (rest := []) (fun sz => M_Slo_find l D K M a0 a1 a2 a3 n src prt use cnt s0 p0 (by first | assumption | omega) sz) [0, 1, 2, 3] rfl (by decide) (as := [a0, a1, a2, a3]) rfl rfl (ws' := [cO a0 6 [.ref a1, .ref a2, .ref a3, .int cnt], cI K a1 n src, cI K a2 n prt, cZ K a3 n use]) rfl 0 6 rfl rfl rfl (cw_Slo_26 hF.2.2.2.2.1 rfl rfl ⟨by decide, by decide⟩) rfl rfl (Nat.le_of_ble_eq_true rfl) d_Slo_findOrTake_3 ⟨Nat.zero_le _, Nat.zero_le _⟩ ?_
  refine zx_istore_n (pc := 6) hF (lv' := [(3, .int (f_find use src prt n s0 p0)), (0, .ref a0), (1, .int s0), (2, .int p0)]) d_Slo_findOrTake_6 rfl (by decide) rfl ?_
  refine zx_iload_n (pc := 7) hF d_Slo_findOrTake_7 rfl 0 rfl ?_
  refine zx_iconst (pc := 8) hF d_Slo_findOrTake_8 k_im1 ?_
  refine zx_icmp_eq (pc := 9) hF d_Slo_findOrTake_9 (tgt := 14) rfl (fun h9 => ?_) (fun h9 => ?_)
  · refine zx_iconst (pc := 14) hF d_Slo_findOrTake_14 k_i0 ?_
    refine zx_istore (pc := 15) hF (lv' := [(4, .int 0), (3, .int (f_find use src prt n s0 p0)), (0, .ref a0), (1, .int s0), (2, .int p0)]) d_Slo_findOrTake_15 (by decide) rfl ?_
    refine zx_lv [2, 3, 4, 0] (lv' := [(0, .ref a0), (1, .int s0), (2, .int p0), (4, .int 0)]) rfl ?_
    refine zx_loop (pc := 17) (σ := Nat) (fun k zv => (zv + k = n) ∧ (f_first (fun zv => use zv == 0) k zv = f_free use n)) (fun zv => [cO a0 6 [.ref a1, .ref a2, .ref a3, .int cnt], cI K a1 n src, cI K a2 n prt, cZ K a3 n use]) (fun zv => [(0, .ref a0), (1, .int s0), (2, .int p0), (4, .int (nI zv))]) n 0 ⟨by (try dsimp only); omega, rfl⟩ rfl rfl ?_
    intro k j hI ih
    obtain ⟨hk, hX⟩ := hI
    replace hk : j + k = n := hk
    replace hX : f_first (fun j => use j == 0) k j = f_free use n := hX
    refine zx_eq (ws' := [cO a0 6 [.ref a1, .ref a2, .ref a3, .int cnt], cI K a1 n src, cI K a2 n prt, cZ K a3 n use]) (lv' := [(0, .ref a0), (1, .int s0), (2, .int p0), (4, .int (nI j))]) rfl rfl rfl ?_
    refine zx_iload (pc := 17) hF d_Slo_findOrTake_17 3 rfl ?_
    refine zx_aload_n (pc := 19) hF d_Slo_findOrTake_19 rfl 0 rfl ?_
    refine zg_Slo_18 (pc := 20) hF 0 rfl rfl d_Slo_findOrTake_20 ?_
    refine zx_alen (pc := 23) hF 3 1 rfl rfl (v := nI n) rfl d_Slo_findOrTake_23 ?_
    refine zx_icmp_ge (pc := 24) hF d_Slo_findOrTake_24 (tgt := 80) rfl (fun h24 => ?_) (fun h24 => ?_)
    · replace h24 : n ≤ j := (nI_leI (a := n) (b := j) (by omega) (by omega)).mp h24
      refine zx_iconst (pc := 80) hF d_Slo_findOrTake_80 k_im1 ?_
      exact zx_iret (pc := 81) hF hr hlk (by obtain rfl : k = 0 := (by omega); simp [f_fot, h9, ← hX, f_first]) (by obtain rfl : k = 0 := (by omega); simp [f_new, f_put, f_inc, h9, ← hX, f_first]) d_Slo_findOrTake_81
    · replace h24 : ¬ n ≤ j := fun z => h24 ((nI_leI (a := n) (b := j) (by omega) (by omega)).mpr z)
      refine zx_aload_n (pc := 27) hF d_Slo_findOrTake_27 rfl 0 rfl ?_
      refine zg_Slo_18 (pc := 28) hF 0 rfl rfl d_Slo_findOrTake_28 ?_
      refine zx_iload (pc := 31) hF d_Slo_findOrTake_31 3 rfl ?_
      refine zx_zaldn (pc := 33) hF (i := j) 3 rfl (by omega) (by omega) d_Slo_findOrTake_33 ?_
      refine zx_if_ne (pc := 34) hF d_Slo_findOrTake_34 (tgt := 74) rfl (fun h34 => ?_) (fun h34 => ?_)
      · refine zx_iinc (pc := 74) hF (v := nI (j + 1)) (lv' := [(4, .int (nI (j + 1))), (0, .ref a0), (1, .int s0), (2, .int p0)]) d_Slo_findOrTake_74 3 rfl (zinc j) (by decide) rfl ?_
        refine zx_goto (pc := 77) hF d_Slo_findOrTake_77 (tgt := 17) rfl ?_
        refine zx_lv [1, 2, 3, 0] (lv' := [(0, .ref a0), (1, .int s0), (2, .int p0), (4, .int (nI (j + 1)))]) rfl ?_
        exact ih (k - 1) (j + 1) (by omega) ⟨by (try dsimp only); omega, by obtain ⟨k', rfl⟩ : ∃ k', k = k' + 1 := ⟨k - 1, by omega⟩; simpa [f_first, h9, h24, h34] using hX⟩
      · refine zx_aload_n (pc := 37) hF d_Slo_findOrTake_37 rfl 0 rfl ?_
        refine zg_Slo_18 (pc := 38) hF 0 rfl rfl d_Slo_findOrTake_38 ?_
        refine zx_iload (pc := 41) hF d_Slo_findOrTake_41 3 rfl ?_
        refine zx_iconst (pc := 43) hF d_Slo_findOrTake_43 k_i1 ?_
        refine zx_zastn (pc := 44) hF (i := j) 3 rfl (by omega) (by omega) rfl d_Slo_findOrTake_44 (ws' := [cO a0 6 [.ref a1, .ref a2, .ref a3, .int cnt], cI K a1 n src, cI K a2 n prt, cZ K a3 n (upd use j 1)]) rfl ?_
        refine zx_aload_n (pc := 45) hF d_Slo_findOrTake_45 rfl 0 rfl ?_
        refine zg_Slo_9 (pc := 46) hF 0 rfl rfl d_Slo_findOrTake_46 ?_
        refine zx_iload (pc := 49) hF d_Slo_findOrTake_49 3 rfl ?_
        refine zx_iload_n (pc := 51) hF d_Slo_findOrTake_51 rfl 1 rfl ?_
        refine zx_iastn (pc := 52) hF (i := j) 1 rfl (by omega) (by omega) d_Slo_findOrTake_52 (ws' := [cO a0 6 [.ref a1, .ref a2, .ref a3, .int cnt], cI K a1 n (upd src j s0), cI K a2 n prt, cZ K a3 n (upd use j 1)]) rfl ?_
        refine zx_aload_n (pc := 53) hF d_Slo_findOrTake_53 rfl 0 rfl ?_
        refine zg_Slo_15 (pc := 54) hF 0 rfl rfl d_Slo_findOrTake_54 ?_
        refine zx_iload (pc := 57) hF d_Slo_findOrTake_57 3 rfl ?_
        refine zx_iload_n (pc := 59) hF d_Slo_findOrTake_59 rfl 2 rfl ?_
        refine zx_iastn (pc := 60) hF (i := j) 2 rfl (by omega) (by omega) d_Slo_findOrTake_60 (ws' := [cO a0 6 [.ref a1, .ref a2, .ref a3, .int cnt], cI K a1 n (upd src j s0), cI K a2 n (upd prt j p0), cZ K a3 n (upd use j 1)]) rfl ?_
        refine zx_aload_n (pc := 61) hF d_Slo_findOrTake_61 rfl 0 rfl ?_
        refine zx_dup (pc := 62) hF d_Slo_findOrTake_62 rfl ?_
        refine zg_Slo_22 (pc := 63) hF 0 rfl rfl d_Slo_findOrTake_63 ?_
        refine zx_iconst (pc := 66) hF d_Slo_findOrTake_66 k_i1 ?_
        refine zx_iadd (pc := 67) hF d_Slo_findOrTake_67 ?_
        refine zp_Slo_22 (pc := 68) hF 0 rfl (Nat.le_of_ble_eq_true rfl) d_Slo_findOrTake_68 (ws' := [cO a0 6 [.ref a1, .ref a2, .ref a3, .int (cnt + 1)], cI K a1 n (upd src j s0), cI K a2 n (upd prt j p0), cZ K a3 n (upd use j 1)]) rfl ?_
        refine zx_iload (pc := 71) hF d_Slo_findOrTake_71 3 rfl ?_
        exact zx_iret (pc := 73) hF hr hlk (by have hf : f_free use n = nI j := (by obtain ⟨k', rfl⟩ : ∃ k', k = k' + 1 := ⟨k - 1, by omega⟩; simpa [f_first, h34] using hX.symm); simp [f_fot, h9, hf]) (by have hf : f_free use n = nI j := (by obtain ⟨k', rfl⟩ : ∃ k', k = k' + 1 := ⟨k - 1, by omega⟩; simpa [f_first, h34] using hX.symm); have hj : j < 2 ^ 31 := (by omega); simp [f_new, f_put, f_inc, h9, hf, zm1 hj, nI_clamp hj]) d_Slo_findOrTake_73
  · refine zx_iload_n (pc := 12) hF d_Slo_findOrTake_12 rfl 0 rfl ?_
    exact zx_iret (pc := 13) hF hr hlk (by simp [f_fot, h9]) (by simp [f_new, f_put, f_inc, h9]) d_Slo_findOrTake_13
set_option maxRecDepth 20000 in
theorem M_Lst_placeAt (l : Launch) (D : va_G) (K : Nat → ClassId) (M : List (ClassId × FieldType)) (a0 : Nat) (a1 : Nat) (a2 : Nat) (n : Nat) (q : Int32) (fst : Nat → Int32) (stp : Nat → Int32) (j : Nat) (t : Int32) (hj : j < n) (hn : n < 2 ^ 31) (hq : ¬ q = 0) (sz : Nat) : zM l y_Lst_placeAt (zT y_Lst_placeAt b_Lst_placeAt 3 (some .int)) (zR 0 0) 0 0 D K M [.ref a0, .int (nI j), .int t] [cO a0 4 [.int q, .ref a1, .ref a2], cI K a1 n fst, cI K a2 n stp] sz (zQi D K M (f_rem (fst j + t * stp j) q) [cO a0 4 [.int q, .ref a1, .ref a2], cI K a1 n fst, cI K a2 n stp]) := by
  refine zx_head (by decide) (Nat.le_of_ble_eq_true rfl) ?_
  intro _ _ _ _ _ _ _ _ _ hF hr hlk hnm
  refine zx_aload_n (pc := 0) hF d_Lst_placeAt_0 rfl 0 rfl ?_
  refine zg_Lst_15 (pc := 1) hF 0 rfl rfl d_Lst_placeAt_1 ?_
  refine zx_iload_n (pc := 4) hF d_Lst_placeAt_4 rfl 1 rfl ?_
  refine zx_ialdn (pc := 5) hF (i := j) 1 rfl (by omega) (by omega) d_Lst_placeAt_5 ?_
  refine zx_iload_n (pc := 6) hF d_Lst_placeAt_6 rfl 2 rfl ?_
  refine zx_aload_n (pc := 7) hF d_Lst_placeAt_7 rfl 0 rfl ?_
  refine zg_Lst_19 (pc := 8) hF 0 rfl rfl d_Lst_placeAt_8 ?_
  refine zx_iload_n (pc := 11) hF d_Lst_placeAt_11 rfl 1 rfl ?_
  refine zx_ialdn (pc := 12) hF (i := j) 2 rfl (by omega) (by omega) d_Lst_placeAt_12 ?_
  refine zx_imul (pc := 13) hF d_Lst_placeAt_13 ?_
  refine zx_iadd (pc := 14) hF d_Lst_placeAt_14 ?_
  refine zx_aload_n (pc := 15) hF d_Lst_placeAt_15 rfl 0 rfl ?_
  refine zg_Lst_9 (pc := 16) hF 0 rfl rfl d_Lst_placeAt_16 ?_
  refine zx_irem (pc := 19) hF d_Lst_placeAt_19 hq ?_
  exact zx_iret (pc := 20) hF hr hlk (by first | rfl | (simp only []; done) | (simp only [↓reduceIte]; done) | simp []) (by first | rfl | (simp only []; done) | (simp only [↓reduceIte]; done) | simp []) d_Lst_placeAt_20
end
section
theorem d_Wir_word_0 : decode b_Wir_word 0 = .ok (.iload_n 1, 1) := by decide +kernel
theorem d_Wir_word_1 : decode b_Wir_word 1 = .ok (.ifCond .lt 18, 3) := by decide +kernel
theorem d_Wir_word_4 : decode b_Wir_word 4 = .ok (.iload_n 1, 1) := by decide +kernel
theorem d_Wir_word_5 : decode b_Wir_word 5 = .ok (.bipush 16, 2) := by decide +kernel
theorem d_Wir_word_7 : decode b_Wir_word 7 = .ok (.if_icmp .ge 12, 3) := by decide +kernel
theorem d_Wir_word_10 : decode b_Wir_word 10 = .ok (.aload_n 0, 1) := by decide +kernel
theorem d_Wir_word_11 : decode b_Wir_word 11 = .ok (.getfield 11, 3) := by decide +kernel
theorem d_Wir_word_14 : decode b_Wir_word 14 = .ok (.iload_n 1, 1) := by decide +kernel
theorem d_Wir_word_15 : decode b_Wir_word 15 = .ok (.iaload, 1) := by decide +kernel
theorem d_Wir_word_16 : decode b_Wir_word 16 = .ok (.goto 4, 3) := by decide +kernel
theorem d_Wir_word_19 : decode b_Wir_word 19 = .ok (.iconst 0, 1) := by decide +kernel
theorem d_Wir_word_20 : decode b_Wir_word 20 = .ok (.ireturn, 1) := by decide +kernel
theorem d_Wir_putChecksum_0 : decode b_Wir_putChecksum 0 = .ok (.aload_n 0, 1) := by decide +kernel
theorem d_Wir_putChecksum_1 : decode b_Wir_putChecksum 1 = .ok (.getfield 11, 3) := by decide +kernel
theorem d_Wir_putChecksum_4 : decode b_Wir_putChecksum 4 = .ok (.iload_n 1, 1) := by decide +kernel
theorem d_Wir_putChecksum_5 : decode b_Wir_putChecksum 5 = .ok (.iconst 2, 1) := by decide +kernel
theorem d_Wir_putChecksum_6 : decode b_Wir_putChecksum 6 = .ok (.iadd, 1) := by decide +kernel
theorem d_Wir_putChecksum_7 : decode b_Wir_putChecksum 7 = .ok (.dup2, 1) := by decide +kernel
theorem d_Wir_putChecksum_8 : decode b_Wir_putChecksum 8 = .ok (.iaload, 1) := by decide +kernel
theorem d_Wir_putChecksum_9 : decode b_Wir_putChecksum 9 = .ok (.aload_n 0, 1) := by decide +kernel
theorem d_Wir_putChecksum_10 : decode b_Wir_putChecksum 10 = .ok (.getfield 11, 3) := by decide +kernel
theorem d_Wir_putChecksum_13 : decode b_Wir_putChecksum 13 = .ok (.iload_n 1, 1) := by decide +kernel
theorem d_Wir_putChecksum_14 : decode b_Wir_putChecksum 14 = .ok (.iaload, 1) := by decide +kernel
theorem d_Wir_putChecksum_15 : decode b_Wir_putChecksum 15 = .ok (.aload_n 0, 1) := by decide +kernel
theorem d_Wir_putChecksum_16 : decode b_Wir_putChecksum 16 = .ok (.getfield 11, 3) := by decide +kernel
theorem d_Wir_putChecksum_19 : decode b_Wir_putChecksum 19 = .ok (.iload_n 1, 1) := by decide +kernel
theorem d_Wir_putChecksum_20 : decode b_Wir_putChecksum 20 = .ok (.iconst 1, 1) := by decide +kernel
theorem d_Wir_putChecksum_21 : decode b_Wir_putChecksum 21 = .ok (.iadd, 1) := by decide +kernel
theorem d_Wir_putChecksum_22 : decode b_Wir_putChecksum 22 = .ok (.iaload, 1) := by decide +kernel
theorem d_Wir_putChecksum_23 : decode b_Wir_putChecksum 23 = .ok (.aload_n 0, 1) := by decide +kernel
theorem d_Wir_putChecksum_24 : decode b_Wir_putChecksum 24 = .ok (.getfield 11, 3) := by decide +kernel
theorem d_Wir_putChecksum_27 : decode b_Wir_putChecksum 27 = .ok (.iload_n 1, 1) := by decide +kernel
theorem d_Wir_putChecksum_28 : decode b_Wir_putChecksum 28 = .ok (.iconst 2, 1) := by decide +kernel
theorem d_Wir_putChecksum_29 : decode b_Wir_putChecksum 29 = .ok (.iadd, 1) := by decide +kernel
theorem d_Wir_putChecksum_30 : decode b_Wir_putChecksum 30 = .ok (.iaload, 1) := by decide +kernel
theorem d_Wir_putChecksum_31 : decode b_Wir_putChecksum 31 = .ok (.aload_n 0, 1) := by decide +kernel
theorem d_Wir_putChecksum_32 : decode b_Wir_putChecksum 32 = .ok (.getfield 11, 3) := by decide +kernel
theorem d_Wir_putChecksum_35 : decode b_Wir_putChecksum 35 = .ok (.iload_n 1, 1) := by decide +kernel
theorem d_Wir_putChecksum_36 : decode b_Wir_putChecksum 36 = .ok (.iconst 3, 1) := by decide +kernel
theorem d_Wir_putChecksum_37 : decode b_Wir_putChecksum 37 = .ok (.iadd, 1) := by decide +kernel
theorem d_Wir_putChecksum_38 : decode b_Wir_putChecksum 38 = .ok (.iaload, 1) := by decide +kernel
theorem d_Wir_putChecksum_39 : decode b_Wir_putChecksum 39 = .ok (.aload_n 0, 1) := by decide +kernel
theorem d_Wir_putChecksum_40 : decode b_Wir_putChecksum 40 = .ok (.getfield 11, 3) := by decide +kernel
theorem d_Wir_putChecksum_43 : decode b_Wir_putChecksum 43 = .ok (.iload_n 1, 1) := by decide +kernel
theorem d_Wir_putChecksum_44 : decode b_Wir_putChecksum 44 = .ok (.iconst 4, 1) := by decide +kernel
theorem d_Wir_putChecksum_45 : decode b_Wir_putChecksum 45 = .ok (.iadd, 1) := by decide +kernel
theorem d_Wir_putChecksum_46 : decode b_Wir_putChecksum 46 = .ok (.iaload, 1) := by decide +kernel
theorem d_Wir_putChecksum_47 : decode b_Wir_putChecksum 47 = .ok (.invokestatic 34, 3) := by decide +kernel
theorem d_Wir_putChecksum_50 : decode b_Wir_putChecksum 50 = .ok (.iadd, 1) := by decide +kernel
theorem d_Wir_putChecksum_51 : decode b_Wir_putChecksum 51 = .ok (.iastore, 1) := by decide +kernel
theorem d_Wir_putChecksum_52 : decode b_Wir_putChecksum 52 = .ok (.return_, 1) := by decide +kernel
theorem d_Wir_putForward_0 : decode b_Wir_putForward 0 = .ok (.aload_n 0, 1) := by decide +kernel
theorem d_Wir_putForward_1 : decode b_Wir_putForward 1 = .ok (.getfield 11, 3) := by decide +kernel
theorem d_Wir_putForward_4 : decode b_Wir_putForward 4 = .ok (.iconst 0, 1) := by decide +kernel
theorem d_Wir_putForward_5 : decode b_Wir_putForward 5 = .ok (.ldc 15, 2) := by decide +kernel
theorem d_Wir_putForward_7 : decode b_Wir_putForward 7 = .ok (.aload_n 1, 1) := by decide +kernel
theorem d_Wir_putForward_8 : decode b_Wir_putForward 8 = .ok (.iconst 0, 1) := by decide +kernel
theorem d_Wir_putForward_9 : decode b_Wir_putForward 9 = .ok (.iaload, 1) := by decide +kernel
theorem d_Wir_putForward_10 : decode b_Wir_putForward 10 = .ok (.ldc 16, 2) := by decide +kernel
theorem d_Wir_putForward_12 : decode b_Wir_putForward 12 = .ok (.iand, 1) := by decide +kernel
theorem d_Wir_putForward_13 : decode b_Wir_putForward 13 = .ok (.iadd, 1) := by decide +kernel
theorem d_Wir_putForward_14 : decode b_Wir_putForward 14 = .ok (.iastore, 1) := by decide +kernel
theorem d_Wir_putForward_15 : decode b_Wir_putForward 15 = .ok (.aload_n 0, 1) := by decide +kernel
theorem d_Wir_putForward_16 : decode b_Wir_putForward 16 = .ok (.getfield 11, 3) := by decide +kernel
theorem d_Wir_putForward_19 : decode b_Wir_putForward 19 = .ok (.iconst 1, 1) := by decide +kernel
theorem d_Wir_putForward_20 : decode b_Wir_putForward 20 = .ok (.iload_n 2, 1) := by decide +kernel
theorem d_Wir_putForward_21 : decode b_Wir_putForward 21 = .ok (.ldc 17, 2) := by decide +kernel
theorem d_Wir_putForward_23 : decode b_Wir_putForward 23 = .ok (.imul, 1) := by decide +kernel
theorem d_Wir_putForward_24 : decode b_Wir_putForward 24 = .ok (.iastore, 1) := by decide +kernel
theorem d_Wir_putForward_25 : decode b_Wir_putForward 25 = .ok (.aload_n 0, 1) := by decide +kernel
theorem d_Wir_putForward_26 : decode b_Wir_putForward 26 = .ok (.getfield 11, 3) := by decide +kernel
theorem d_Wir_putForward_29 : decode b_Wir_putForward 29 = .ok (.iconst 2, 1) := by decide +kernel
theorem d_Wir_putForward_30 : decode b_Wir_putForward 30 = .ok (.ldc 18, 2) := by decide +kernel
theorem d_Wir_putForward_32 : decode b_Wir_putForward 32 = .ok (.iastore, 1) := by decide +kernel
theorem d_Wir_putForward_33 : decode b_Wir_putForward 33 = .ok (.aload_n 0, 1) := by decide +kernel
theorem d_Wir_putForward_34 : decode b_Wir_putForward 34 = .ok (.getfield 11, 3) := by decide +kernel
theorem d_Wir_putForward_37 : decode b_Wir_putForward 37 = .ok (.iconst 3, 1) := by decide +kernel
theorem d_Wir_putForward_38 : decode b_Wir_putForward 38 = .ok (.ldc 19, 2) := by decide +kernel
theorem d_Wir_putForward_40 : decode b_Wir_putForward 40 = .ok (.iload_n 3, 1) := by decide +kernel
theorem d_Wir_putForward_41 : decode b_Wir_putForward 41 = .ok (.iadd, 1) := by decide +kernel
theorem d_Wir_putForward_42 : decode b_Wir_putForward 42 = .ok (.iastore, 1) := by decide +kernel
theorem d_Wir_putForward_43 : decode b_Wir_putForward 43 = .ok (.aload_n 0, 1) := by decide +kernel
theorem d_Wir_putForward_44 : decode b_Wir_putForward 44 = .ok (.getfield 11, 3) := by decide +kernel
theorem d_Wir_putForward_47 : decode b_Wir_putForward 47 = .ok (.iconst 4, 1) := by decide +kernel
theorem d_Wir_putForward_48 : decode b_Wir_putForward 48 = .ok (.ldc 20, 2) := by decide +kernel
theorem d_Wir_putForward_50 : decode b_Wir_putForward 50 = .ok (.iload 4, 2) := by decide +kernel
theorem d_Wir_putForward_52 : decode b_Wir_putForward 52 = .ok (.iadd, 1) := by decide +kernel
theorem d_Wir_putForward_53 : decode b_Wir_putForward 53 = .ok (.iastore, 1) := by decide +kernel
theorem d_Wir_putForward_54 : decode b_Wir_putForward 54 = .ok (.aload_n 0, 1) := by decide +kernel
theorem d_Wir_putForward_55 : decode b_Wir_putForward 55 = .ok (.getfield 11, 3) := by decide +kernel
theorem d_Wir_putForward_58 : decode b_Wir_putForward 58 = .ok (.iconst 5, 1) := by decide +kernel
theorem d_Wir_putForward_59 : decode b_Wir_putForward 59 = .ok (.sipush 2048, 3) := by decide +kernel
theorem d_Wir_putForward_62 : decode b_Wir_putForward 62 = .ok (.iastore, 1) := by decide +kernel
theorem d_Wir_putForward_63 : decode b_Wir_putForward 63 = .ok (.aload_n 0, 1) := by decide +kernel
theorem d_Wir_putForward_64 : decode b_Wir_putForward 64 = .ok (.iconst 0, 1) := by decide +kernel
theorem d_Wir_putForward_65 : decode b_Wir_putForward 65 = .ok (.invokevirtual 21, 3) := by decide +kernel
theorem d_Wir_putForward_68 : decode b_Wir_putForward 68 = .ok (.aload_n 1, 1) := by decide +kernel
theorem d_Wir_putForward_69 : decode b_Wir_putForward 69 = .ok (.iconst 0, 1) := by decide +kernel
theorem d_Wir_putForward_70 : decode b_Wir_putForward 70 = .ok (.aload_n 0, 1) := by decide +kernel
theorem d_Wir_putForward_71 : decode b_Wir_putForward 71 = .ok (.getfield 11, 3) := by decide +kernel
theorem d_Wir_putForward_74 : decode b_Wir_putForward 74 = .ok (.bipush 6, 2) := by decide +kernel
theorem d_Wir_putForward_76 : decode b_Wir_putForward 76 = .ok (.aload_n 1, 1) := by decide +kernel
theorem d_Wir_putForward_77 : decode b_Wir_putForward 77 = .ok (.arraylength, 1) := by decide +kernel
theorem d_Wir_putForward_78 : decode b_Wir_putForward 78 = .ok (.invokestatic 25, 3) := by decide +kernel
theorem d_Wir_putForward_81 : decode b_Wir_putForward 81 = .ok (.return_, 1) := by decide +kernel
theorem d_Wir_putAnswer_0 : decode b_Wir_putAnswer 0 = .ok (.aload_n 0, 1) := by decide +kernel
theorem d_Wir_putAnswer_1 : decode b_Wir_putAnswer 1 = .ok (.getfield 11, 3) := by decide +kernel
theorem d_Wir_putAnswer_4 : decode b_Wir_putAnswer 4 = .ok (.bipush 11, 2) := by decide +kernel
theorem d_Wir_putAnswer_6 : decode b_Wir_putAnswer 6 = .ok (.ldc 31, 2) := by decide +kernel
theorem d_Wir_putAnswer_8 : decode b_Wir_putAnswer 8 = .ok (.iastore, 1) := by decide +kernel
theorem d_Wir_putAnswer_9 : decode b_Wir_putAnswer 9 = .ok (.aload_n 0, 1) := by decide +kernel
theorem d_Wir_putAnswer_10 : decode b_Wir_putAnswer 10 = .ok (.getfield 11, 3) := by decide +kernel
theorem d_Wir_putAnswer_13 : decode b_Wir_putAnswer 13 = .ok (.bipush 12, 2) := by decide +kernel
theorem d_Wir_putAnswer_15 : decode b_Wir_putAnswer 15 = .ok (.iload_n 1, 1) := by decide +kernel
theorem d_Wir_putAnswer_16 : decode b_Wir_putAnswer 16 = .ok (.ldc 17, 2) := by decide +kernel
theorem d_Wir_putAnswer_18 : decode b_Wir_putAnswer 18 = .ok (.imul, 1) := by decide +kernel
theorem d_Wir_putAnswer_19 : decode b_Wir_putAnswer 19 = .ok (.iastore, 1) := by decide +kernel
theorem d_Wir_putAnswer_20 : decode b_Wir_putAnswer 20 = .ok (.aload_n 0, 1) := by decide +kernel
theorem d_Wir_putAnswer_21 : decode b_Wir_putAnswer 21 = .ok (.getfield 11, 3) := by decide +kernel
theorem d_Wir_putAnswer_24 : decode b_Wir_putAnswer 24 = .ok (.bipush 13, 2) := by decide +kernel
theorem d_Wir_putAnswer_26 : decode b_Wir_putAnswer 26 = .ok (.ldc 32, 2) := by decide +kernel
theorem d_Wir_putAnswer_28 : decode b_Wir_putAnswer 28 = .ok (.iastore, 1) := by decide +kernel
theorem d_Wir_putAnswer_29 : decode b_Wir_putAnswer 29 = .ok (.aload_n 0, 1) := by decide +kernel
theorem d_Wir_putAnswer_30 : decode b_Wir_putAnswer 30 = .ok (.getfield 11, 3) := by decide +kernel
theorem d_Wir_putAnswer_33 : decode b_Wir_putAnswer 33 = .ok (.bipush 14, 2) := by decide +kernel
theorem d_Wir_putAnswer_35 : decode b_Wir_putAnswer 35 = .ok (.ldc 33, 2) := by decide +kernel
theorem d_Wir_putAnswer_37 : decode b_Wir_putAnswer 37 = .ok (.iastore, 1) := by decide +kernel
theorem d_Wir_putAnswer_38 : decode b_Wir_putAnswer 38 = .ok (.aload_n 0, 1) := by decide +kernel
theorem d_Wir_putAnswer_39 : decode b_Wir_putAnswer 39 = .ok (.getfield 11, 3) := by decide +kernel
theorem d_Wir_putAnswer_42 : decode b_Wir_putAnswer 42 = .ok (.bipush 15, 2) := by decide +kernel
theorem d_Wir_putAnswer_44 : decode b_Wir_putAnswer 44 = .ok (.iload_n 2, 1) := by decide +kernel
theorem d_Wir_putAnswer_45 : decode b_Wir_putAnswer 45 = .ok (.iastore, 1) := by decide +kernel
theorem d_Wir_putAnswer_46 : decode b_Wir_putAnswer 46 = .ok (.aload_n 0, 1) := by decide +kernel
theorem d_Wir_putAnswer_47 : decode b_Wir_putAnswer 47 = .ok (.bipush 11, 2) := by decide +kernel
theorem d_Wir_putAnswer_49 : decode b_Wir_putAnswer 49 = .ok (.invokevirtual 21, 3) := by decide +kernel
theorem d_Wir_putAnswer_52 : decode b_Wir_putAnswer 52 = .ok (.return_, 1) := by decide +kernel
theorem d_Wir_clearAnswer_0 : decode b_Wir_clearAnswer 0 = .ok (.bipush 11, 2) := by decide +kernel
theorem d_Wir_clearAnswer_2 : decode b_Wir_clearAnswer 2 = .ok (.istore_n 1, 1) := by decide +kernel
theorem d_Wir_clearAnswer_3 : decode b_Wir_clearAnswer 3 = .ok (.iload_n 1, 1) := by decide +kernel
theorem d_Wir_clearAnswer_4 : decode b_Wir_clearAnswer 4 = .ok (.bipush 16, 2) := by decide +kernel
theorem d_Wir_clearAnswer_6 : decode b_Wir_clearAnswer 6 = .ok (.if_icmp .ge 16, 3) := by decide +kernel
theorem d_Wir_clearAnswer_9 : decode b_Wir_clearAnswer 9 = .ok (.aload_n 0, 1) := by decide +kernel
theorem d_Wir_clearAnswer_10 : decode b_Wir_clearAnswer 10 = .ok (.getfield 11, 3) := by decide +kernel
theorem d_Wir_clearAnswer_13 : decode b_Wir_clearAnswer 13 = .ok (.iload_n 1, 1) := by decide +kernel
theorem d_Wir_clearAnswer_14 : decode b_Wir_clearAnswer 14 = .ok (.iconst 0, 1) := by decide +kernel
theorem d_Wir_clearAnswer_15 : decode b_Wir_clearAnswer 15 = .ok (.iastore, 1) := by decide +kernel
theorem d_Wir_clearAnswer_16 : decode b_Wir_clearAnswer 16 = .ok (.iinc 1 1, 3) := by decide +kernel
theorem d_Wir_clearAnswer_19 : decode b_Wir_clearAnswer 19 = .ok (.goto (-16), 3) := by decide +kernel
theorem d_Wir_clearAnswer_22 : decode b_Wir_clearAnswer 22 = .ok (.return_, 1) := by decide +kernel
theorem d_Ent_patienceAfter_0 : decode b_Ent_patienceAfter 0 = .ok (.iload_n 0, 1) := by decide +kernel
theorem d_Ent_patienceAfter_1 : decode b_Ent_patienceAfter 1 = .ok (.iconst 2, 1) := by decide +kernel
theorem d_Ent_patienceAfter_2 : decode b_Ent_patienceAfter 2 = .ok (.if_icmp .ne 5, 3) := by decide +kernel
theorem d_Ent_patienceAfter_5 : decode b_Ent_patienceAfter 5 = .ok (.iconst 4, 1) := by decide +kernel
theorem d_Ent_patienceAfter_6 : decode b_Ent_patienceAfter 6 = .ok (.ireturn, 1) := by decide +kernel
theorem d_Ent_patienceAfter_7 : decode b_Ent_patienceAfter 7 = .ok (.iload_n 0, 1) := by decide +kernel
theorem d_Ent_patienceAfter_8 : decode b_Ent_patienceAfter 8 = .ok (.bipush 16, 2) := by decide +kernel
theorem d_Ent_patienceAfter_10 : decode b_Ent_patienceAfter 10 = .ok (.if_icmp .ne 8, 3) := by decide +kernel
theorem d_Ent_patienceAfter_13 : decode b_Ent_patienceAfter 13 = .ok (.bipush 16, 2) := by decide +kernel
theorem d_Ent_patienceAfter_15 : decode b_Ent_patienceAfter 15 = .ok (.goto 4, 3) := by decide +kernel
theorem d_Ent_patienceAfter_18 : decode b_Ent_patienceAfter 18 = .ok (.iconst 2, 1) := by decide +kernel
theorem d_Ent_patienceAfter_19 : decode b_Ent_patienceAfter 19 = .ok (.ireturn, 1) := by decide +kernel
theorem d_Ent_serverOf_0 : decode b_Ent_serverOf 0 = .ok (.aload_n 0, 1) := by decide +kernel
theorem d_Ent_serverOf_1 : decode b_Ent_serverOf 1 = .ok (.getfield 16, 3) := by decide +kernel
theorem d_Ent_serverOf_4 : decode b_Ent_serverOf 4 = .ok (.iload_n 1, 1) := by decide +kernel
theorem d_Ent_serverOf_5 : decode b_Ent_serverOf 5 = .ok (.iload_n 2, 1) := by decide +kernel
theorem d_Ent_serverOf_6 : decode b_Ent_serverOf 6 = .ok (.invokevirtual 30, 3) := by decide +kernel
theorem d_Ent_serverOf_9 : decode b_Ent_serverOf 9 = .ok (.istore_n 3, 1) := by decide +kernel
theorem d_Ent_serverOf_10 : decode b_Ent_serverOf 10 = .ok (.iload_n 3, 1) := by decide +kernel
theorem d_Ent_serverOf_11 : decode b_Ent_serverOf 11 = .ok (.iconst (-1), 1) := by decide +kernel
theorem d_Ent_serverOf_12 : decode b_Ent_serverOf 12 = .ok (.if_icmp .ne 7, 3) := by decide +kernel
theorem d_Ent_serverOf_15 : decode b_Ent_serverOf 15 = .ok (.iconst (-1), 1) := by decide +kernel
theorem d_Ent_serverOf_16 : decode b_Ent_serverOf 16 = .ok (.goto 9, 3) := by decide +kernel
theorem d_Ent_serverOf_19 : decode b_Ent_serverOf 19 = .ok (.aload_n 0, 1) := by decide +kernel
theorem d_Ent_serverOf_20 : decode b_Ent_serverOf 20 = .ok (.getfield 20, 3) := by decide +kernel
theorem d_Ent_serverOf_23 : decode b_Ent_serverOf 23 = .ok (.iload_n 3, 1) := by decide +kernel
theorem d_Ent_serverOf_24 : decode b_Ent_serverOf 24 = .ok (.iaload, 1) := by decide +kernel
theorem d_Ent_serverOf_25 : decode b_Ent_serverOf 25 = .ok (.ireturn, 1) := by decide +kernel
theorem d_Ent_note_0 : decode b_Ent_note 0 = .ok (.iload 4, 2) := by decide +kernel
theorem d_Ent_note_2 : decode b_Ent_note 2 = .ok (.iconst 2, 1) := by decide +kernel
theorem d_Ent_note_3 : decode b_Ent_note 3 = .ok (.if_icmp .ne 15, 3) := by decide +kernel
theorem d_Ent_note_6 : decode b_Ent_note 6 = .ok (.aload_n 0, 1) := by decide +kernel
theorem d_Ent_note_7 : decode b_Ent_note 7 = .ok (.getfield 16, 3) := by decide +kernel
theorem d_Ent_note_10 : decode b_Ent_note 10 = .ok (.iload_n 1, 1) := by decide +kernel
theorem d_Ent_note_11 : decode b_Ent_note 11 = .ok (.iload_n 2, 1) := by decide +kernel
theorem d_Ent_note_12 : decode b_Ent_note 12 = .ok (.invokevirtual 34, 3) := by decide +kernel
theorem d_Ent_note_15 : decode b_Ent_note 15 = .ok (.goto 12, 3) := by decide +kernel
theorem d_Ent_note_18 : decode b_Ent_note 18 = .ok (.aload_n 0, 1) := by decide +kernel
theorem d_Ent_note_19 : decode b_Ent_note 19 = .ok (.getfield 16, 3) := by decide +kernel
theorem d_Ent_note_22 : decode b_Ent_note 22 = .ok (.iload_n 1, 1) := by decide +kernel
theorem d_Ent_note_23 : decode b_Ent_note 23 = .ok (.iload_n 2, 1) := by decide +kernel
theorem d_Ent_note_24 : decode b_Ent_note 24 = .ok (.invokevirtual 30, 3) := by decide +kernel
theorem d_Ent_note_27 : decode b_Ent_note 27 = .ok (.istore 6, 2) := by decide +kernel
theorem d_Ent_note_29 : decode b_Ent_note 29 = .ok (.iload 6, 2) := by decide +kernel
theorem d_Ent_note_31 : decode b_Ent_note 31 = .ok (.iconst (-1), 1) := by decide +kernel
theorem d_Ent_note_32 : decode b_Ent_note 32 = .ok (.if_icmp .ne 4, 3) := by decide +kernel
theorem d_Ent_note_35 : decode b_Ent_note 35 = .ok (.return_, 1) := by decide +kernel
theorem d_Ent_note_36 : decode b_Ent_note 36 = .ok (.iload 4, 2) := by decide +kernel
theorem d_Ent_note_38 : decode b_Ent_note 38 = .ok (.iconst 4, 1) := by decide +kernel
theorem d_Ent_note_39 : decode b_Ent_note 39 = .ok (.if_icmp .ne 13, 3) := by decide +kernel
theorem d_Ent_note_42 : decode b_Ent_note 42 = .ok (.aload_n 0, 1) := by decide +kernel
theorem d_Ent_note_43 : decode b_Ent_note 43 = .ok (.getfield 16, 3) := by decide +kernel
theorem d_Ent_note_46 : decode b_Ent_note 46 = .ok (.iload 6, 2) := by decide +kernel
theorem d_Ent_note_48 : decode b_Ent_note 48 = .ok (.invokevirtual 37, 3) := by decide +kernel
theorem d_Ent_note_51 : decode b_Ent_note 51 = .ok (.return_, 1) := by decide +kernel
theorem d_Ent_note_52 : decode b_Ent_note 52 = .ok (.aload_n 0, 1) := by decide +kernel
theorem d_Ent_note_53 : decode b_Ent_note 53 = .ok (.getfield 20, 3) := by decide +kernel
theorem d_Ent_note_56 : decode b_Ent_note 56 = .ok (.iload 6, 2) := by decide +kernel
theorem d_Ent_note_58 : decode b_Ent_note 58 = .ok (.iload_n 3, 1) := by decide +kernel
theorem d_Ent_note_59 : decode b_Ent_note 59 = .ok (.iastore, 1) := by decide +kernel
theorem d_Ent_note_60 : decode b_Ent_note 60 = .ok (.aload_n 0, 1) := by decide +kernel
theorem d_Ent_note_61 : decode b_Ent_note 61 = .ok (.getfield 24, 3) := by decide +kernel
theorem d_Ent_note_64 : decode b_Ent_note 64 = .ok (.iload 6, 2) := by decide +kernel
theorem d_Ent_note_66 : decode b_Ent_note 66 = .ok (.iload 4, 2) := by decide +kernel
theorem d_Ent_note_68 : decode b_Ent_note 68 = .ok (.invokestatic 40, 3) := by decide +kernel
theorem d_Ent_note_71 : decode b_Ent_note 71 = .ok (.iastore, 1) := by decide +kernel
theorem d_Ent_note_72 : decode b_Ent_note 72 = .ok (.aload_n 0, 1) := by decide +kernel
theorem d_Ent_note_73 : decode b_Ent_note 73 = .ok (.getfield 27, 3) := by decide +kernel
theorem d_Ent_note_76 : decode b_Ent_note 76 = .ok (.iload 6, 2) := by decide +kernel
theorem d_Ent_note_78 : decode b_Ent_note 78 = .ok (.iload 5, 2) := by decide +kernel
theorem d_Ent_note_80 : decode b_Ent_note 80 = .ok (.iastore, 1) := by decide +kernel
theorem d_Ent_note_81 : decode b_Ent_note 81 = .ok (.return_, 1) := by decide +kernel
theorem d_Ent_removeStale_0 : decode b_Ent_removeStale 0 = .ok (.iconst 0, 1) := by decide +kernel
theorem d_Ent_removeStale_1 : decode b_Ent_removeStale 1 = .ok (.istore_n 2, 1) := by decide +kernel
theorem d_Ent_removeStale_2 : decode b_Ent_removeStale 2 = .ok (.iload_n 2, 1) := by decide +kernel
theorem d_Ent_removeStale_3 : decode b_Ent_removeStale 3 = .ok (.bipush 8, 2) := by decide +kernel
theorem d_Ent_removeStale_5 : decode b_Ent_removeStale 5 = .ok (.if_icmp .ge 34, 3) := by decide +kernel
theorem d_Ent_removeStale_8 : decode b_Ent_removeStale 8 = .ok (.iload_n 1, 1) := by decide +kernel
theorem d_Ent_removeStale_9 : decode b_Ent_removeStale 9 = .ok (.aload_n 0, 1) := by decide +kernel
theorem d_Ent_removeStale_10 : decode b_Ent_removeStale 10 = .ok (.getfield 27, 3) := by decide +kernel
theorem d_Ent_removeStale_13 : decode b_Ent_removeStale 13 = .ok (.iload_n 2, 1) := by decide +kernel
theorem d_Ent_removeStale_14 : decode b_Ent_removeStale 14 = .ok (.iaload, 1) := by decide +kernel
theorem d_Ent_removeStale_15 : decode b_Ent_removeStale 15 = .ok (.isub, 1) := by decide +kernel
theorem d_Ent_removeStale_16 : decode b_Ent_removeStale 16 = .ok (.aload_n 0, 1) := by decide +kernel
theorem d_Ent_removeStale_17 : decode b_Ent_removeStale 17 = .ok (.getfield 24, 3) := by decide +kernel
theorem d_Ent_removeStale_20 : decode b_Ent_removeStale 20 = .ok (.iload_n 2, 1) := by decide +kernel
theorem d_Ent_removeStale_21 : decode b_Ent_removeStale 21 = .ok (.iaload, 1) := by decide +kernel
theorem d_Ent_removeStale_22 : decode b_Ent_removeStale 22 = .ok (.if_icmp .le 11, 3) := by decide +kernel
theorem d_Ent_removeStale_25 : decode b_Ent_removeStale 25 = .ok (.aload_n 0, 1) := by decide +kernel
theorem d_Ent_removeStale_26 : decode b_Ent_removeStale 26 = .ok (.getfield 16, 3) := by decide +kernel
theorem d_Ent_removeStale_29 : decode b_Ent_removeStale 29 = .ok (.iload_n 2, 1) := by decide +kernel
theorem d_Ent_removeStale_30 : decode b_Ent_removeStale 30 = .ok (.invokevirtual 37, 3) := by decide +kernel
theorem d_Ent_removeStale_33 : decode b_Ent_removeStale 33 = .ok (.iinc 2 1, 3) := by decide +kernel
theorem d_Ent_removeStale_36 : decode b_Ent_removeStale 36 = .ok (.goto (-34), 3) := by decide +kernel
theorem d_Ent_removeStale_39 : decode b_Ent_removeStale 39 = .ok (.return_, 1) := by decide +kernel
theorem d_Ent_removeForServersDown_0 : decode b_Ent_removeForServersDown 0 = .ok (.iconst 0, 1) := by decide +kernel
theorem d_Ent_removeForServersDown_1 : decode b_Ent_removeForServersDown 1 = .ok (.istore_n 2, 1) := by decide +kernel
theorem d_Ent_removeForServersDown_2 : decode b_Ent_removeForServersDown 2 = .ok (.iload_n 2, 1) := by decide +kernel
theorem d_Ent_removeForServersDown_3 : decode b_Ent_removeForServersDown 3 = .ok (.bipush 8, 2) := by decide +kernel
theorem d_Ent_removeForServersDown_5 : decode b_Ent_removeForServersDown 5 = .ok (.if_icmp .ge 30, 3) := by decide +kernel
theorem d_Ent_removeForServersDown_8 : decode b_Ent_removeForServersDown 8 = .ok (.aload_n 1, 1) := by decide +kernel
theorem d_Ent_removeForServersDown_9 : decode b_Ent_removeForServersDown 9 = .ok (.aload_n 0, 1) := by decide +kernel
theorem d_Ent_removeForServersDown_10 : decode b_Ent_removeForServersDown 10 = .ok (.getfield 20, 3) := by decide +kernel
theorem d_Ent_removeForServersDown_13 : decode b_Ent_removeForServersDown 13 = .ok (.iload_n 2, 1) := by decide +kernel
theorem d_Ent_removeForServersDown_14 : decode b_Ent_removeForServersDown 14 = .ok (.iaload, 1) := by decide +kernel
theorem d_Ent_removeForServersDown_15 : decode b_Ent_removeForServersDown 15 = .ok (.invokevirtual 44, 3) := by decide +kernel
theorem d_Ent_removeForServersDown_18 : decode b_Ent_removeForServersDown 18 = .ok (.ifCond .ne 11, 3) := by decide +kernel
theorem d_Ent_removeForServersDown_21 : decode b_Ent_removeForServersDown 21 = .ok (.aload_n 0, 1) := by decide +kernel
theorem d_Ent_removeForServersDown_22 : decode b_Ent_removeForServersDown 22 = .ok (.getfield 16, 3) := by decide +kernel
theorem d_Ent_removeForServersDown_25 : decode b_Ent_removeForServersDown 25 = .ok (.iload_n 2, 1) := by decide +kernel
theorem d_Ent_removeForServersDown_26 : decode b_Ent_removeForServersDown 26 = .ok (.invokevirtual 37, 3) := by decide +kernel
theorem d_Ent_removeForServersDown_29 : decode b_Ent_removeForServersDown 29 = .ok (.iinc 2 1, 3) := by decide +kernel
theorem d_Ent_removeForServersDown_32 : decode b_Ent_removeForServersDown 32 = .ok (.goto (-30), 3) := by decide +kernel
theorem d_Ent_removeForServersDown_35 : decode b_Ent_removeForServersDown 35 = .ok (.return_, 1) := by decide +kernel
theorem d_Srv_setOn_0 : decode b_Srv_setOn 0 = .ok (.aload_n 0, 1) := by decide +kernel
theorem d_Srv_setOn_1 : decode b_Srv_setOn 1 = .ok (.getfield 27, 3) := by decide +kernel
theorem d_Srv_setOn_4 : decode b_Srv_setOn 4 = .ok (.iload_n 1, 1) := by decide +kernel
theorem d_Srv_setOn_5 : decode b_Srv_setOn 5 = .ok (.if_icmp .ne 5, 3) := by decide +kernel
theorem d_Srv_setOn_8 : decode b_Srv_setOn 8 = .ok (.iconst 0, 1) := by decide +kernel
theorem d_Srv_setOn_9 : decode b_Srv_setOn 9 = .ok (.ireturn, 1) := by decide +kernel
theorem d_Srv_setOn_10 : decode b_Srv_setOn 10 = .ok (.aload_n 0, 1) := by decide +kernel
theorem d_Srv_setOn_11 : decode b_Srv_setOn 11 = .ok (.iload_n 1, 1) := by decide +kernel
theorem d_Srv_setOn_12 : decode b_Srv_setOn 12 = .ok (.putfield 27, 3) := by decide +kernel
theorem d_Srv_setOn_15 : decode b_Srv_setOn 15 = .ok (.iload_n 1, 1) := by decide +kernel
theorem d_Srv_setOn_16 : decode b_Srv_setOn 16 = .ok (.ifCond .ne 10, 3) := by decide +kernel
theorem d_Srv_setOn_19 : decode b_Srv_setOn 19 = .ok (.aload_n 0, 1) := by decide +kernel
theorem d_Srv_setOn_20 : decode b_Srv_setOn 20 = .ok (.getfield 16, 3) := by decide +kernel
theorem d_Srv_setOn_23 : decode b_Srv_setOn 23 = .ok (.invokevirtual 38, 3) := by decide +kernel
theorem d_Srv_setOn_26 : decode b_Srv_setOn 26 = .ok (.iconst 1, 1) := by decide +kernel
theorem d_Srv_setOn_27 : decode b_Srv_setOn 27 = .ok (.ireturn, 1) := by decide +kernel
theorem d_Srv_greet_0 : decode b_Srv_greet 0 = .ok (.iload_n 1, 1) := by decide +kernel
theorem d_Srv_greet_1 : decode b_Srv_greet 1 = .ok (.iconst (-1), 1) := by decide +kernel
theorem d_Srv_greet_2 : decode b_Srv_greet 2 = .ok (.if_icmp .ne 5, 3) := by decide +kernel
theorem d_Srv_greet_5 : decode b_Srv_greet 5 = .ok (.iconst 4, 1) := by decide +kernel
theorem d_Srv_greet_6 : decode b_Srv_greet 6 = .ok (.ireturn, 1) := by decide +kernel
theorem d_Srv_greet_7 : decode b_Srv_greet 7 = .ok (.aload_n 0, 1) := by decide +kernel
theorem d_Srv_greet_8 : decode b_Srv_greet 8 = .ok (.getfield 31, 3) := by decide +kernel
theorem d_Srv_greet_11 : decode b_Srv_greet 11 = .ok (.iload_n 1, 1) := by decide +kernel
theorem d_Srv_greet_12 : decode b_Srv_greet 12 = .ok (.iload_n 2, 1) := by decide +kernel
theorem d_Srv_greet_13 : decode b_Srv_greet 13 = .ok (.iconst 1, 1) := by decide +kernel
theorem d_Srv_greet_14 : decode b_Srv_greet 14 = .ok (.iadd, 1) := by decide +kernel
theorem d_Srv_greet_15 : decode b_Srv_greet 15 = .ok (.iastore, 1) := by decide +kernel
theorem d_Srv_greet_16 : decode b_Srv_greet 16 = .ok (.aload_n 0, 1) := by decide +kernel
theorem d_Srv_greet_17 : decode b_Srv_greet 17 = .ok (.getfield 35, 3) := by decide +kernel
theorem d_Srv_greet_20 : decode b_Srv_greet 20 = .ok (.iload_n 1, 1) := by decide +kernel
theorem d_Srv_greet_21 : decode b_Srv_greet 21 = .ok (.iconst 0, 1) := by decide +kernel
theorem d_Srv_greet_22 : decode b_Srv_greet 22 = .ok (.iastore, 1) := by decide +kernel
theorem d_Srv_greet_23 : decode b_Srv_greet 23 = .ok (.iconst 1, 1) := by decide +kernel
theorem d_Srv_greet_24 : decode b_Srv_greet 24 = .ok (.ireturn, 1) := by decide +kernel
theorem d_Srv_goOn_0 : decode b_Srv_goOn 0 = .ok (.iload_n 2, 1) := by decide +kernel
theorem d_Srv_goOn_1 : decode b_Srv_goOn 1 = .ok (.aload_n 0, 1) := by decide +kernel
theorem d_Srv_goOn_2 : decode b_Srv_goOn 2 = .ok (.getfield 31, 3) := by decide +kernel
theorem d_Srv_goOn_5 : decode b_Srv_goOn 5 = .ok (.iload_n 1, 1) := by decide +kernel
theorem d_Srv_goOn_6 : decode b_Srv_goOn 6 = .ok (.iaload, 1) := by decide +kernel
theorem d_Srv_goOn_7 : decode b_Srv_goOn 7 = .ok (.if_icmp .ne 7, 3) := by decide +kernel
theorem d_Srv_goOn_10 : decode b_Srv_goOn 10 = .ok (.iconst 1, 1) := by decide +kernel
theorem d_Srv_goOn_11 : decode b_Srv_goOn 11 = .ok (.goto 4, 3) := by decide +kernel
theorem d_Srv_goOn_14 : decode b_Srv_goOn 14 = .ok (.iconst 0, 1) := by decide +kernel
theorem d_Srv_goOn_15 : decode b_Srv_goOn 15 = .ok (.istore 4, 2) := by decide +kernel
theorem d_Srv_goOn_17 : decode b_Srv_goOn 17 = .ok (.iload 4, 2) := by decide +kernel
theorem d_Srv_goOn_19 : decode b_Srv_goOn 19 = .ok (.ifCond .eq 29, 3) := by decide +kernel
theorem d_Srv_goOn_22 : decode b_Srv_goOn 22 = .ok (.iload_n 3, 1) := by decide +kernel
theorem d_Srv_goOn_23 : decode b_Srv_goOn 23 = .ok (.bipush 16, 2) := by decide +kernel
theorem d_Srv_goOn_25 : decode b_Srv_goOn 25 = .ok (.if_icmp .ne 23, 3) := by decide +kernel
theorem d_Srv_goOn_28 : decode b_Srv_goOn 28 = .ok (.aload_n 0, 1) := by decide +kernel
theorem d_Srv_goOn_29 : decode b_Srv_goOn 29 = .ok (.getfield 31, 3) := by decide +kernel
theorem d_Srv_goOn_32 : decode b_Srv_goOn 32 = .ok (.iload_n 1, 1) := by decide +kernel
theorem d_Srv_goOn_33 : decode b_Srv_goOn 33 = .ok (.dup2, 1) := by decide +kernel
theorem d_Srv_goOn_34 : decode b_Srv_goOn 34 = .ok (.iaload, 1) := by decide +kernel
theorem d_Srv_goOn_35 : decode b_Srv_goOn 35 = .ok (.iconst 1, 1) := by decide +kernel
theorem d_Srv_goOn_36 : decode b_Srv_goOn 36 = .ok (.iadd, 1) := by decide +kernel
theorem d_Srv_goOn_37 : decode b_Srv_goOn 37 = .ok (.iastore, 1) := by decide +kernel
theorem d_Srv_goOn_38 : decode b_Srv_goOn 38 = .ok (.aload_n 0, 1) := by decide +kernel
theorem d_Srv_goOn_39 : decode b_Srv_goOn 39 = .ok (.getfield 35, 3) := by decide +kernel
theorem d_Srv_goOn_42 : decode b_Srv_goOn 42 = .ok (.iload_n 1, 1) := by decide +kernel
theorem d_Srv_goOn_43 : decode b_Srv_goOn 43 = .ok (.dup2, 1) := by decide +kernel
theorem d_Srv_goOn_44 : decode b_Srv_goOn 44 = .ok (.iaload, 1) := by decide +kernel
theorem d_Srv_goOn_45 : decode b_Srv_goOn 45 = .ok (.iconst 1, 1) := by decide +kernel
theorem d_Srv_goOn_46 : decode b_Srv_goOn 46 = .ok (.iadd, 1) := by decide +kernel
theorem d_Srv_goOn_47 : decode b_Srv_goOn 47 = .ok (.iastore, 1) := by decide +kernel
theorem d_Srv_goOn_48 : decode b_Srv_goOn 48 = .ok (.aload_n 0, 1) := by decide +kernel
theorem d_Srv_goOn_49 : decode b_Srv_goOn 49 = .ok (.aload_n 0, 1) := by decide +kernel
theorem d_Srv_goOn_50 : decode b_Srv_goOn 50 = .ok (.getfield 35, 3) := by decide +kernel
theorem d_Srv_goOn_53 : decode b_Srv_goOn 53 = .ok (.iload_n 1, 1) := by decide +kernel
theorem d_Srv_goOn_54 : decode b_Srv_goOn 54 = .ok (.iaload, 1) := by decide +kernel
theorem d_Srv_goOn_55 : decode b_Srv_goOn 55 = .ok (.putfield 41, 3) := by decide +kernel
theorem d_Srv_goOn_58 : decode b_Srv_goOn 58 = .ok (.iload 4, 2) := by decide +kernel
theorem d_Srv_goOn_60 : decode b_Srv_goOn 60 = .ok (.ifCond .ne 5, 3) := by decide +kernel
theorem d_Srv_goOn_63 : decode b_Srv_goOn 63 = .ok (.iconst 3, 1) := by decide +kernel
theorem d_Srv_goOn_64 : decode b_Srv_goOn 64 = .ok (.ireturn, 1) := by decide +kernel
theorem d_Srv_goOn_65 : decode b_Srv_goOn 65 = .ok (.iload_n 3, 1) := by decide +kernel
theorem d_Srv_goOn_66 : decode b_Srv_goOn 66 = .ok (.bipush 16, 2) := by decide +kernel
theorem d_Srv_goOn_68 : decode b_Srv_goOn 68 = .ok (.if_icmp .ne 5, 3) := by decide +kernel
theorem d_Srv_goOn_71 : decode b_Srv_goOn 71 = .ok (.iconst 2, 1) := by decide +kernel
theorem d_Srv_goOn_72 : decode b_Srv_goOn 72 = .ok (.ireturn, 1) := by decide +kernel
theorem d_Srv_goOn_73 : decode b_Srv_goOn 73 = .ok (.aload_n 0, 1) := by decide +kernel
theorem d_Srv_goOn_74 : decode b_Srv_goOn 74 = .ok (.getfield 16, 3) := by decide +kernel
theorem d_Srv_goOn_77 : decode b_Srv_goOn 77 = .ok (.iload_n 1, 1) := by decide +kernel
theorem d_Srv_goOn_78 : decode b_Srv_goOn 78 = .ok (.invokevirtual 55, 3) := by decide +kernel
theorem d_Srv_goOn_81 : decode b_Srv_goOn 81 = .ok (.iconst 5, 1) := by decide +kernel
theorem d_Srv_goOn_82 : decode b_Srv_goOn 82 = .ok (.ireturn, 1) := by decide +kernel
theorem d_Srv_receive_0 : decode b_Srv_receive 0 = .ok (.aload_n 0, 1) := by decide +kernel
theorem d_Srv_receive_1 : decode b_Srv_receive 1 = .ok (.iconst 0, 1) := by decide +kernel
theorem d_Srv_receive_2 : decode b_Srv_receive 2 = .ok (.putfield 41, 3) := by decide +kernel
theorem d_Srv_receive_5 : decode b_Srv_receive 5 = .ok (.iload 4, 2) := by decide +kernel
theorem d_Srv_receive_7 : decode b_Srv_receive 7 = .ok (.iconst 2, 1) := by decide +kernel
theorem d_Srv_receive_8 : decode b_Srv_receive 8 = .ok (.if_icmp .ne 18, 3) := by decide +kernel
theorem d_Srv_receive_11 : decode b_Srv_receive 11 = .ok (.aload_n 0, 1) := by decide +kernel
theorem d_Srv_receive_12 : decode b_Srv_receive 12 = .ok (.aload_n 0, 1) := by decide +kernel
theorem d_Srv_receive_13 : decode b_Srv_receive 13 = .ok (.getfield 16, 3) := by decide +kernel
theorem d_Srv_receive_16 : decode b_Srv_receive 16 = .ok (.iload_n 1, 1) := by decide +kernel
theorem d_Srv_receive_17 : decode b_Srv_receive 17 = .ok (.iload_n 2, 1) := by decide +kernel
theorem d_Srv_receive_18 : decode b_Srv_receive 18 = .ok (.invokevirtual 45, 3) := by decide +kernel
theorem d_Srv_receive_21 : decode b_Srv_receive 21 = .ok (.iload_n 3, 1) := by decide +kernel
theorem d_Srv_receive_22 : decode b_Srv_receive 22 = .ok (.invokevirtual 49, 3) := by decide +kernel
theorem d_Srv_receive_25 : decode b_Srv_receive 25 = .ok (.ireturn, 1) := by decide +kernel
theorem d_Srv_receive_26 : decode b_Srv_receive 26 = .ok (.aload_n 0, 1) := by decide +kernel
theorem d_Srv_receive_27 : decode b_Srv_receive 27 = .ok (.getfield 16, 3) := by decide +kernel
theorem d_Srv_receive_30 : decode b_Srv_receive 30 = .ok (.iload_n 1, 1) := by decide +kernel
theorem d_Srv_receive_31 : decode b_Srv_receive 31 = .ok (.iload_n 2, 1) := by decide +kernel
theorem d_Srv_receive_32 : decode b_Srv_receive 32 = .ok (.invokevirtual 52, 3) := by decide +kernel
theorem d_Srv_receive_35 : decode b_Srv_receive 35 = .ok (.istore 5, 2) := by decide +kernel
theorem d_Srv_receive_37 : decode b_Srv_receive 37 = .ok (.iload 4, 2) := by decide +kernel
theorem d_Srv_receive_39 : decode b_Srv_receive 39 = .ok (.iconst 4, 1) := by decide +kernel
theorem d_Srv_receive_40 : decode b_Srv_receive 40 = .ok (.if_icmp .ne 20, 3) := by decide +kernel
theorem d_Srv_receive_43 : decode b_Srv_receive 43 = .ok (.iload 5, 2) := by decide +kernel
theorem d_Srv_receive_45 : decode b_Srv_receive 45 = .ok (.iconst (-1), 1) := by decide +kernel
theorem d_Srv_receive_46 : decode b_Srv_receive 46 = .ok (.if_icmp .eq 12, 3) := by decide +kernel
theorem d_Srv_receive_49 : decode b_Srv_receive 49 = .ok (.aload_n 0, 1) := by decide +kernel
theorem d_Srv_receive_50 : decode b_Srv_receive 50 = .ok (.getfield 16, 3) := by decide +kernel
theorem d_Srv_receive_53 : decode b_Srv_receive 53 = .ok (.iload 5, 2) := by decide +kernel
theorem d_Srv_receive_55 : decode b_Srv_receive 55 = .ok (.invokevirtual 55, 3) := by decide +kernel
theorem d_Srv_receive_58 : decode b_Srv_receive 58 = .ok (.iconst 0, 1) := by decide +kernel
theorem d_Srv_receive_59 : decode b_Srv_receive 59 = .ok (.ireturn, 1) := by decide +kernel
theorem d_Srv_receive_60 : decode b_Srv_receive 60 = .ok (.iload 5, 2) := by decide +kernel
theorem d_Srv_receive_62 : decode b_Srv_receive 62 = .ok (.iconst (-1), 1) := by decide +kernel
theorem d_Srv_receive_63 : decode b_Srv_receive 63 = .ok (.if_icmp .ne 7, 3) := by decide +kernel
theorem d_Srv_receive_66 : decode b_Srv_receive 66 = .ok (.iconst 4, 1) := by decide +kernel
theorem d_Srv_receive_67 : decode b_Srv_receive 67 = .ok (.goto 12, 3) := by decide +kernel
theorem d_Srv_receive_70 : decode b_Srv_receive 70 = .ok (.aload_n 0, 1) := by decide +kernel
theorem d_Srv_receive_71 : decode b_Srv_receive 71 = .ok (.iload 5, 2) := by decide +kernel
theorem d_Srv_receive_73 : decode b_Srv_receive 73 = .ok (.iload_n 3, 1) := by decide +kernel
theorem d_Srv_receive_74 : decode b_Srv_receive 74 = .ok (.iload 4, 2) := by decide +kernel
theorem d_Srv_receive_76 : decode b_Srv_receive 76 = .ok (.invokevirtual 58, 3) := by decide +kernel
theorem d_Srv_receive_79 : decode b_Srv_receive 79 = .ok (.ireturn, 1) := by decide +kernel
end
section
theorem k_b11 : (Int8.ofInt (11)).toInt32 = (11 : Int32) := by decide
theorem k_b12 : (Int8.ofInt (12)).toInt32 = (12 : Int32) := by decide
theorem k_b14 : (Int8.ofInt (14)).toInt32 = (14 : Int32) := by decide
theorem k_b15 : (Int8.ofInt (15)).toInt32 = (15 : Int32) := by decide
theorem k_b6 : (Int8.ofInt (6)).toInt32 = (6 : Int32) := by decide
theorem k_b8 : (Int8.ofInt (8)).toInt32 = (8 : Int32) := by decide
theorem k_i2 : Int32.ofInt (2) = (2 : Int32) := by decide
theorem k_i5 : Int32.ofInt (5) = (5 : Int32) := by decide
theorem k_s2048 : (Int16.ofInt (2048)).toInt32 = (2048 : Int32) := by decide
section ZG
variable {p : Program} {l : Launch} {e : Env} {R : Room} {s : State} {m : MethodId} {args : Array Value} {below : List Frame} {meth : Method} {c : Code} {cells slots : Nat} {Q : State → Prop} {cc : ByteArray} {nL pc : Nat} {rest : List Value} {D : va_G} {K : Nat → ClassId} {M : List (ClassId × FieldType)} {A : Nat → Prop} {ws : va_W} {lv : List (Nat × Value)}
theorem zg_Ent_16 (hF : zF p s m args c cc nL R_Ent D K M A) (q0 : Nat) {a : Nat} {fs : List Value} {v : Value} (he : ws[q0]? = some (a, .inr (3, fs))) (hv : fs[0]? = some v) (hdg : decode cc pc = .ok (.getfield 16, 3)) (k : zW p l e R s m args below meth c D A cells slots Q nL ws lv (pc + 3) (v :: rest)) : zW p l e R s m args below meth c D A cells slots Q nL ws lv pc (.ref a :: rest) := zx_get hF (C := R_Ent) (T := F_Ent) (N := 4) wu_Ent q0 he rfl 0 (by decide) wf_Ent_16 hv hdg k
theorem zg_Ent_20 (hF : zF p s m args c cc nL R_Ent D K M A) (q0 : Nat) {a : Nat} {fs : List Value} {v : Value} (he : ws[q0]? = some (a, .inr (3, fs))) (hv : fs[1]? = some v) (hdg : decode cc pc = .ok (.getfield 20, 3)) (k : zW p l e R s m args below meth c D A cells slots Q nL ws lv (pc + 3) (v :: rest)) : zW p l e R s m args below meth c D A cells slots Q nL ws lv pc (.ref a :: rest) := zx_get hF (C := R_Ent) (T := F_Ent) (N := 4) wu_Ent q0 he rfl 1 (by decide) wf_Ent_20 hv hdg k
theorem zg_Ent_24 (hF : zF p s m args c cc nL R_Ent D K M A) (q0 : Nat) {a : Nat} {fs : List Value} {v : Value} (he : ws[q0]? = some (a, .inr (3, fs))) (hv : fs[2]? = some v) (hdg : decode cc pc = .ok (.getfield 24, 3)) (k : zW p l e R s m args below meth c D A cells slots Q nL ws lv (pc + 3) (v :: rest)) : zW p l e R s m args below meth c D A cells slots Q nL ws lv pc (.ref a :: rest) := zx_get hF (C := R_Ent) (T := F_Ent) (N := 4) wu_Ent q0 he rfl 2 (by decide) wf_Ent_24 hv hdg k
theorem zg_Ent_27 (hF : zF p s m args c cc nL R_Ent D K M A) (q0 : Nat) {a : Nat} {fs : List Value} {v : Value} (he : ws[q0]? = some (a, .inr (3, fs))) (hv : fs[3]? = some v) (hdg : decode cc pc = .ok (.getfield 27, 3)) (k : zW p l e R s m args below meth c D A cells slots Q nL ws lv (pc + 3) (v :: rest)) : zW p l e R s m args below meth c D A cells slots Q nL ws lv pc (.ref a :: rest) := zx_get hF (C := R_Ent) (T := F_Ent) (N := 4) wu_Ent q0 he rfl 3 (by decide) wf_Ent_27 hv hdg k
theorem zg_Srv_16 (hF : zF p s m args c cc nL R_Srv D K M A) (q0 : Nat) {a : Nat} {fs : List Value} {v : Value} (he : ws[q0]? = some (a, .inr (5, fs))) (hv : fs[0]? = some v) (hdg : decode cc pc = .ok (.getfield 16, 3)) (k : zW p l e R s m args below meth c D A cells slots Q nL ws lv (pc + 3) (v :: rest)) : zW p l e R s m args below meth c D A cells slots Q nL ws lv pc (.ref a :: rest) := zx_get hF (C := R_Srv) (T := F_Srv) (N := 6) wu_Srv q0 he rfl 0 (by decide) wf_Srv_16 hv hdg k
theorem zg_Srv_27 (hF : zF p s m args c cc nL R_Srv D K M A) (q0 : Nat) {a : Nat} {fs : List Value} {v : Value} (he : ws[q0]? = some (a, .inr (5, fs))) (hv : fs[2]? = some v) (hdg : decode cc pc = .ok (.getfield 27, 3)) (k : zW p l e R s m args below meth c D A cells slots Q nL ws lv (pc + 3) (v :: rest)) : zW p l e R s m args below meth c D A cells slots Q nL ws lv pc (.ref a :: rest) := zx_get hF (C := R_Srv) (T := F_Srv) (N := 6) wu_Srv q0 he rfl 2 (by decide) wf_Srv_27 hv hdg k
theorem zg_Srv_31 (hF : zF p s m args c cc nL R_Srv D K M A) (q0 : Nat) {a : Nat} {fs : List Value} {v : Value} (he : ws[q0]? = some (a, .inr (5, fs))) (hv : fs[4]? = some v) (hdg : decode cc pc = .ok (.getfield 31, 3)) (k : zW p l e R s m args below meth c D A cells slots Q nL ws lv (pc + 3) (v :: rest)) : zW p l e R s m args below meth c D A cells slots Q nL ws lv pc (.ref a :: rest) := zx_get hF (C := R_Srv) (T := F_Srv) (N := 6) wu_Srv q0 he rfl 4 (by decide) wf_Srv_31 hv hdg k
theorem zg_Srv_35 (hF : zF p s m args c cc nL R_Srv D K M A) (q0 : Nat) {a : Nat} {fs : List Value} {v : Value} (he : ws[q0]? = some (a, .inr (5, fs))) (hv : fs[5]? = some v) (hdg : decode cc pc = .ok (.getfield 35, 3)) (k : zW p l e R s m args below meth c D A cells slots Q nL ws lv (pc + 3) (v :: rest)) : zW p l e R s m args below meth c D A cells slots Q nL ws lv pc (.ref a :: rest) := zx_get hF (C := R_Srv) (T := F_Srv) (N := 6) wu_Srv q0 he rfl 5 (by decide) wf_Srv_35 hv hdg k
theorem zg_Wir_11 (hF : zF p s m args c cc nL R_Wir D K M A) (q0 : Nat) {a : Nat} {fs : List Value} {v : Value} (he : ws[q0]? = some (a, .inr (10, fs))) (hv : fs[0]? = some v) (hdg : decode cc pc = .ok (.getfield 11, 3)) (k : zW p l e R s m args below meth c D A cells slots Q nL ws lv (pc + 3) (v :: rest)) : zW p l e R s m args below meth c D A cells slots Q nL ws lv pc (.ref a :: rest) := zx_get hF (C := R_Wir) (T := F_Wir) (N := 1) wu_Wir q0 he rfl 0 (by decide) wf_Wir_11 hv hdg k
theorem zp_Srv_27 (hF : zF p s m args c cc nL R_Srv D K M A) (q0 : Nat) {a : Nat} {fs : List Value} {x : Int32} (he : ws[q0]? = some (a, .inr (5, fs))) (hz : x = 0 ∨ x = 1) (hl : 2 < fs.length) (hdg : decode cc pc = .ok (.putfield 27, 3)) {ws' : va_W} (hw : ws.set q0 (a, .inr (5, fs.set 2 (.int x))) = ws') (k : zW p l e R s m args below meth c D A cells slots Q nL ws' lv (pc + 3) rest) : zW p l e R s m args below meth c D A cells slots Q nL ws lv pc ((.int x) :: .ref a :: rest) := zx_put hF (C := R_Srv) (T := F_Srv) (N := 6) wu_Srv q0 he rfl 2 (by decide) wf_Srv_27 t_Srv t_Srv_ok n_Srv rfl (t_Srv_ok 2 (by decide)) (zbool hz).1 (zbool hz).2 hl hdg hw k
theorem zp_Srv_41 (hF : zF p s m args c cc nL R_Srv D K M A) (q0 : Nat) {a : Nat} {fs : List Value} {x : Int32} (he : ws[q0]? = some (a, .inr (5, fs))) (hl : 3 < fs.length) (hdg : decode cc pc = .ok (.putfield 41, 3)) {ws' : va_W} (hw : ws.set q0 (a, .inr (5, fs.set 3 (.int x))) = ws') (k : zW p l e R s m args below meth c D A cells slots Q nL ws' lv (pc + 3) rest) : zW p l e R s m args below meth c D A cells slots Q nL ws lv pc ((.int x) :: .ref a :: rest) := zx_put hF (C := R_Srv) (T := F_Srv) (N := 6) wu_Srv q0 he rfl 3 (by decide) wf_Srv_41 t_Srv t_Srv_ok n_Srv rfl (t_Srv_ok 3 (by decide)) rfl rfl hl hdg hw k
end ZG
theorem hd_Slo_findOrTake : y_Slo_findOrTake.cls = R_Slo ∧ y_Slo_findOrTake.cls ≠ "java/lang/invoke/MethodHandle" ∧ y_Slo_findOrTake.cls ≠ "java/lang/invoke/VarHandle" ∧ (parseMethodDescriptor y_Slo_findOrTake.desc).map (fun d => d.parameters.length) = some 2 := by decide +kernel
theorem hd_Ent_patienceAfter : y_Ent_patienceAfter.cls = R_Ent ∧ y_Ent_patienceAfter.cls ≠ "java/lang/invoke/MethodHandle" ∧ y_Ent_patienceAfter.cls ≠ "java/lang/invoke/VarHandle" ∧ (parseMethodDescriptor y_Ent_patienceAfter.desc).map (fun d => d.parameters.length) = some 1 := by decide +kernel
theorem hd_Wat_isUp : y_Wat_isUp.cls = R_Wat ∧ y_Wat_isUp.cls ≠ "java/lang/invoke/MethodHandle" ∧ y_Wat_isUp.cls ≠ "java/lang/invoke/VarHandle" ∧ (parseMethodDescriptor y_Wat_isUp.desc).map (fun d => d.parameters.length) = some 1 := by decide +kernel
theorem hd_Slo_releaseAll : y_Slo_releaseAll.cls = R_Slo ∧ y_Slo_releaseAll.cls ≠ "java/lang/invoke/MethodHandle" ∧ y_Slo_releaseAll.cls ≠ "java/lang/invoke/VarHandle" ∧ (parseMethodDescriptor y_Slo_releaseAll.desc).map (fun d => d.parameters.length) = some 0 := by decide +kernel
theorem hd_Srv_greet : y_Srv_greet.cls = R_Srv ∧ y_Srv_greet.cls ≠ "java/lang/invoke/MethodHandle" ∧ y_Srv_greet.cls ≠ "java/lang/invoke/VarHandle" ∧ (parseMethodDescriptor y_Srv_greet.desc).map (fun d => d.parameters.length) = some 2 := by decide +kernel
theorem hd_Srv_goOn : y_Srv_goOn.cls = R_Srv ∧ y_Srv_goOn.cls ≠ "java/lang/invoke/MethodHandle" ∧ y_Srv_goOn.cls ≠ "java/lang/invoke/VarHandle" ∧ (parseMethodDescriptor y_Srv_goOn.desc).map (fun d => d.parameters.length) = some 3 := by decide +kernel
theorem hd_Wir_putChecksum : y_Wir_putChecksum.cls = R_Wir ∧ y_Wir_putChecksum.cls ≠ "java/lang/invoke/MethodHandle" ∧ y_Wir_putChecksum.cls ≠ "java/lang/invoke/VarHandle" ∧ (parseMethodDescriptor y_Wir_putChecksum.desc).map (fun d => d.parameters.length) = some 1 := by decide +kernel
theorem hd_Sum_rightChecksum : y_Sum_rightChecksum.cls = R_Sum ∧ y_Sum_rightChecksum.cls ≠ "java/lang/invoke/MethodHandle" ∧ y_Sum_rightChecksum.cls ≠ "java/lang/invoke/VarHandle" ∧ (parseMethodDescriptor y_Sum_rightChecksum.desc).map (fun d => d.parameters.length) = some 5 := by decide +kernel
theorem cw_Ent_30 {R : Room} {s : State} {args : Array Value} {rm : Room} (ht : ∀ w ∈ zAll, w.before args s = true) (h1 : rm.cells = 0) (h2 : rm.slots = 0) (hR : rm.frames + 1 ≤ R.frames ∧ 8 + (4 + 11) + rm.locals ≤ R.locals) : CallW R s args R_Ent R_Slo 30 y_Slo_find b_Slo_find 4 (some .int) (zT y_Slo_find b_Slo_find 4 (some .int)) rm 0 0 2 := zcV ht wb_Slo_find wm_Ent_30 wi_Slo_find we_Slo_find wz_Slo h1 h2 hd_Slo_find hR
theorem cw_Ent_34 {R : Room} {s : State} {args : Array Value} {rm : Room} (ht : ∀ w ∈ zAll, w.before args s = true) (h1 : rm.cells = 0) (h2 : rm.slots = 0) (hR : rm.frames + 1 ≤ R.frames ∧ 8 + (5 + 11) + rm.locals ≤ R.locals) : CallW R s args R_Ent R_Slo 34 y_Slo_findOrTake b_Slo_findOrTake 5 (some .int) (zT y_Slo_findOrTake b_Slo_findOrTake 5 (some .int)) rm 0 0 2 := zcV ht wb_Slo_findOrTake wm_Ent_34 wi_Slo_findOrTake we_Slo_findOrTake wz_Slo h1 h2 hd_Slo_findOrTake hR
theorem cw_Ent_37 {R : Room} {s : State} {args : Array Value} {rm : Room} (ht : ∀ w ∈ zAll, w.before args s = true) (h1 : rm.cells = 0) (h2 : rm.slots = 0) (hR : rm.frames + 1 ≤ R.frames ∧ 8 + (2 + 11) + rm.locals ≤ R.locals) : CallW R s args R_Ent R_Slo 37 y_Slo_release b_Slo_release 2 none (zT y_Slo_release b_Slo_release 2 none) rm 0 0 1 := zcV ht wb_Slo_release wm_Ent_37 wi_Slo_release we_Slo_release wz_Slo h1 h2 hd_Slo_release hR
theorem cw_Ent_40 {R : Room} {s : State} {args : Array Value} {rm : Room} (ht : ∀ w ∈ zAll, w.before args s = true) (h1 : rm.cells = 0) (h2 : rm.slots = 0) (hR : rm.frames + 1 ≤ R.frames ∧ 8 + (1 + 11) + rm.locals ≤ R.locals) : CallB R s args R_Ent 40 y_Ent_patienceAfter b_Ent_patienceAfter 1 (some .int) (zT y_Ent_patienceAfter b_Ent_patienceAfter 1 (some .int)) rm 0 0 1 ∧ (Cond.static y_Ent_patienceAfter).before args s = true := ⟨zcB ht wb_Ent_patienceAfter (ht _ wm_Ent_40) wz_Ent h1 h2 hd_Ent_patienceAfter.2 hR, ht _ wt_Ent_patienceAfter⟩
theorem cw_Ent_44 {R : Room} {s : State} {args : Array Value} {rm : Room} (ht : ∀ w ∈ zAll, w.before args s = true) (h1 : rm.cells = 0) (h2 : rm.slots = 0) (hR : rm.frames + 1 ≤ R.frames ∧ 8 + (2 + 11) + rm.locals ≤ R.locals) : CallW R s args R_Ent R_Wat 44 y_Wat_isUp b_Wat_isUp 2 (some .boolean) (zT y_Wat_isUp b_Wat_isUp 2 (some .boolean)) rm 0 0 1 := zcV ht wb_Wat_isUp wm_Ent_44 wi_Wat_isUp we_Wat_isUp wz_Wat h1 h2 hd_Wat_isUp hR
theorem cw_Srv_38 {R : Room} {s : State} {args : Array Value} {rm : Room} (ht : ∀ w ∈ zAll, w.before args s = true) (h1 : rm.cells = 0) (h2 : rm.slots = 0) (hR : rm.frames + 1 ≤ R.frames ∧ 8 + (2 + 11) + rm.locals ≤ R.locals) : CallW R s args R_Srv R_Slo 38 y_Slo_releaseAll b_Slo_releaseAll 2 none (zT y_Slo_releaseAll b_Slo_releaseAll 2 none) rm 0 0 0 := zcV ht wb_Slo_releaseAll wm_Srv_38 wi_Slo_releaseAll we_Slo_releaseAll wz_Slo h1 h2 hd_Slo_releaseAll hR
theorem cw_Srv_45 {R : Room} {s : State} {args : Array Value} {rm : Room} (ht : ∀ w ∈ zAll, w.before args s = true) (h1 : rm.cells = 0) (h2 : rm.slots = 0) (hR : rm.frames + 1 ≤ R.frames ∧ 8 + (5 + 11) + rm.locals ≤ R.locals) : CallW R s args R_Srv R_Slo 45 y_Slo_findOrTake b_Slo_findOrTake 5 (some .int) (zT y_Slo_findOrTake b_Slo_findOrTake 5 (some .int)) rm 0 0 2 := zcV ht wb_Slo_findOrTake wm_Srv_45 wi_Slo_findOrTake we_Slo_findOrTake wz_Slo h1 h2 hd_Slo_findOrTake hR
theorem cw_Srv_49 {R : Room} {s : State} {args : Array Value} {rm : Room} (ht : ∀ w ∈ zAll, w.before args s = true) (h1 : rm.cells = 0) (h2 : rm.slots = 0) (hR : rm.frames + 1 ≤ R.frames ∧ 8 + (3 + 11) + rm.locals ≤ R.locals) : CallW R s args R_Srv R_Srv 49 y_Srv_greet b_Srv_greet 3 (some .int) (zT y_Srv_greet b_Srv_greet 3 (some .int)) rm 0 0 2 := zcV ht wb_Srv_greet wm_Srv_49 wi_Srv_greet we_Srv_greet wz_Srv h1 h2 hd_Srv_greet hR
theorem cw_Srv_52 {R : Room} {s : State} {args : Array Value} {rm : Room} (ht : ∀ w ∈ zAll, w.before args s = true) (h1 : rm.cells = 0) (h2 : rm.slots = 0) (hR : rm.frames + 1 ≤ R.frames ∧ 8 + (4 + 11) + rm.locals ≤ R.locals) : CallW R s args R_Srv R_Slo 52 y_Slo_find b_Slo_find 4 (some .int) (zT y_Slo_find b_Slo_find 4 (some .int)) rm 0 0 2 := zcV ht wb_Slo_find wm_Srv_52 wi_Slo_find we_Slo_find wz_Slo h1 h2 hd_Slo_find hR
theorem cw_Srv_55 {R : Room} {s : State} {args : Array Value} {rm : Room} (ht : ∀ w ∈ zAll, w.before args s = true) (h1 : rm.cells = 0) (h2 : rm.slots = 0) (hR : rm.frames + 1 ≤ R.frames ∧ 8 + (2 + 11) + rm.locals ≤ R.locals) : CallW R s args R_Srv R_Slo 55 y_Slo_release b_Slo_release 2 none (zT y_Slo_release b_Slo_release 2 none) rm 0 0 1 := zcV ht wb_Slo_release wm_Srv_55 wi_Slo_release we_Slo_release wz_Slo h1 h2 hd_Slo_release hR
theorem cw_Srv_58 {R : Room} {s : State} {args : Array Value} {rm : Room} (ht : ∀ w ∈ zAll, w.before args s = true) (h1 : rm.cells = 0) (h2 : rm.slots = 0) (hR : rm.frames + 1 ≤ R.frames ∧ 8 + (5 + 11) + rm.locals ≤ R.locals) : CallW R s args R_Srv R_Srv 58 y_Srv_goOn b_Srv_goOn 5 (some .int) (zT y_Srv_goOn b_Srv_goOn 5 (some .int)) rm 0 0 3 := zcV ht wb_Srv_goOn wm_Srv_58 wi_Srv_goOn we_Srv_goOn wz_Srv h1 h2 hd_Srv_goOn hR
theorem cw_Wir_21 {R : Room} {s : State} {args : Array Value} {rm : Room} (ht : ∀ w ∈ zAll, w.before args s = true) (h1 : rm.cells = 0) (h2 : rm.slots = 0) (hR : rm.frames + 1 ≤ R.frames ∧ 8 + (2 + 11) + rm.locals ≤ R.locals) : CallW R s args R_Wir R_Wir 21 y_Wir_putChecksum b_Wir_putChecksum 2 none (zT y_Wir_putChecksum b_Wir_putChecksum 2 none) rm 0 0 1 := zcV ht wb_Wir_putChecksum wm_Wir_21 wi_Wir_putChecksum we_Wir_putChecksum wz_Wir h1 h2 hd_Wir_putChecksum hR
theorem cw_Wir_34 {R : Room} {s : State} {args : Array Value} {rm : Room} (ht : ∀ w ∈ zAll, w.before args s = true) (h1 : rm.cells = 0) (h2 : rm.slots = 0) (hR : rm.frames + 1 ≤ R.frames ∧ 8 + (5 + 11) + rm.locals ≤ R.locals) : CallB R s args R_Wir 34 y_Sum_rightChecksum b_Sum_rightChecksum 5 (some .int) (zT y_Sum_rightChecksum b_Sum_rightChecksum 5 (some .int)) rm 0 0 5 ∧ (Cond.static y_Sum_rightChecksum).before args s = true := ⟨zcB ht wb_Sum_rightChecksum (ht _ wm_Wir_34) wz_Sum h1 h2 hd_Sum_rightChecksum.2 hR, ht _ wt_Sum_rightChecksum⟩
end
section
def f_ck (w : Nat → Int32) (t : Nat) : Nat → Int32 := upd w (t + 2) (w (t + 2) + f_cks (w t) (w (t + 1)) (w (t + 2)) (w (t + 3)) (w (t + 4)))
def f_fwd (w kp : Nat → Int32) (st b k : Int32) : Nat → Int32 := va_cpy kp (f_ck (upd (upd (upd (upd (upd (upd w 0 (1157627928 + (kp 0 &&& 65535))) 1 (st * 65536)) 2 1076822016) 3 (167772416 + b)) 4 (167772672 + k)) 5 2048) 0) 0 6 5
def f_ans (w : Nat → Int32) (st s : Int32) : Nat → Int32 := f_ck (upd (upd (upd (upd (upd w 11 1157627944) 12 (st * 65536)) 13 1074135040) 14 167772161) 15 s) 11
def f_zero : Nat → Nat → (Nat → Int32) → Nat → Int32
  | 0, _, w => w
  | k + 1, j, w => f_zero k (j + 1) (upd w j 0)
def f_pat (fl : Int32) : Int32 := if fl = 2 then 4 else if fl = 16 then 16 else 2
def f_relP (P : Nat → Bool) : Nat → Nat → (Nat → Int32) → Int32 → (Nat → Int32) × Int32
  | 0, _, use, cnt => (use, cnt)
  | k + 1, j, use, cnt => if P j then f_relP P k (j + 1) (f_ru use j) (f_rn use cnt j) else f_relP P k (j + 1) use cnt
def f_old (lu pat : Nat → Int32) (t : Int32) (j : Nat) : Bool := !decide (t - lu j ≤ pat j)
def f_dn (up sv : Nat → Int32) (j : Nat) : Bool := up (sv j).toNatClampNeg == 0
def f_eslot (fl : Int32) (use src prt : Nat → Int32) (s p : Int32) : Int32 := if fl = 2 then f_fot use src prt 8 s p else f_find use src prt 8 s p
def f_enew (fl : Int32) (use src prt : Nat → Int32) (s p : Int32) : Int32 := if fl = 2 then f_new use src prt 8 s p else -1
def f_relu (use : Nat → Int32) (j : Int32) : Nat → Int32 := if j = -1 then use else f_ru use j.toNatClampNeg
def f_reln (use : Nat → Int32) (cnt j : Int32) : Int32 := if j = -1 then cnt else f_rn use cnt j.toNatClampNeg
def f_euse (fl : Int32) (use src prt : Nat → Int32) (s p : Int32) : Nat → Int32 := if fl = 4 then f_relu use (f_eslot fl use src prt s p) else f_put use (f_enew fl use src prt s p) 1
def f_ecnt (fl cnt : Int32) (use src prt : Nat → Int32) (s p : Int32) : Int32 := if fl = 4 then f_reln use cnt (f_eslot fl use src prt s p) else f_inc cnt (f_enew fl use src prt s p)
def f_eput (fl : Int32) (f use src prt : Nat → Int32) (s p v : Int32) : Nat → Int32 := if fl = 4 then f else f_put f (f_eslot fl use src prt s p) v
def f_seton (on o : Int32) : Int32 := if on = o then 0 else 1
def f_onuse (on o : Int32) (use : Nat → Int32) (cnt : Int32) : (Nat → Int32) × Int32 := if on = o then (use, cnt) else if o = 0 then f_all 10 0 use cnt else (use, cnt)
def f_gr (j : Int32) : Int32 := if j = -1 then 4 else 1
def f_gor (nx : Nat → Int32) (j : Nat) (sq fl : Int32) : Int32 := if sq = nx j then (if fl = 16 then 2 else 5) else 3
def f_goi (nx f : Nat → Int32) (j : Nat) (sq fl : Int32) : Nat → Int32 := if sq = nx j then (if fl = 16 then upd f j (f j + 1) else f) else f
def f_gou (nx use : Nat → Int32) (j : Nat) (sq fl : Int32) : Nat → Int32 := if sq = nx j then (if fl = 16 then use else f_ru use j) else use
def f_gon (nx use : Nat → Int32) (cnt : Int32) (j : Nat) (sq fl : Int32) : Int32 := if sq = nx j then (if fl = 16 then cnt else f_rn use cnt j) else cnt
def f_rslot (fl : Int32) (use src prt : Nat → Int32) (s p : Int32) : Int32 := if fl = 2 then f_fot use src prt 10 s p else f_find use src prt 10 s p
def f_rnew (fl : Int32) (use src prt : Nat → Int32) (s p : Int32) : Int32 := if fl = 2 then f_new use src prt 10 s p else -1
/-- what a server does with a segment: answer, taken, next, data, in use, count -/
def f_rec (nx dt use src prt : Nat → Int32) (cnt s p sq fl : Int32) : Int32 × Int32 × (Nat → Int32) × (Nat → Int32) × (Nat → Int32) × Int32 :=
  if fl = 2 then (f_gr (f_fot use src prt 10 s p), 0, f_put nx (f_fot use src prt 10 s p) (sq + 1), f_put dt (f_fot use src prt 10 s p) 0, f_put use (f_new use src prt 10 s p) 1, f_inc cnt (f_new use src prt 10 s p))
  else if fl = 4 then (0, 0, nx, dt, f_relu use (f_find use src prt 10 s p), f_reln use cnt (f_find use src prt 10 s p))
  else if f_find use src prt 10 s p = -1 then (4, 0, nx, dt, use, cnt)
  else (f_gor nx (f_find use src prt 10 s p).toNatClampNeg sq fl, f_goi nx dt (f_find use src prt 10 s p).toNatClampNeg sq fl (f_find use src prt 10 s p).toNatClampNeg, f_goi nx nx (f_find use src prt 10 s p).toNatClampNeg sq fl, f_goi nx dt (f_find use src prt 10 s p).toNatClampNeg sq fl, f_gou nx use (f_find use src prt 10 s p).toNatClampNeg sq fl, f_gon nx use cnt (f_find use src prt 10 s p).toNatClampNeg sq fl)
end
section
set_option maxRecDepth 20000 in
theorem M_Wir_word (l : Launch) (D : va_G) (K : Nat → ClassId) (M : List (ClassId × FieldType)) (a0 : Nat) (a1 : Nat) (w : Nat → Int32) (t : Int32) (sz : Nat) : zM l y_Wir_word (zT y_Wir_word b_Wir_word 2 (some .int)) (zR 0 0) 0 0 D K M [.ref a0, .int t] [cO a0 10 [.ref a1], cI K a1 16 w] sz (zQi D K M (if t < 0 then 0 else if 16 ≤ t then 0 else w t.toNatClampNeg) [cO a0 10 [.ref a1], cI K a1 16 w]) := by
  refine zx_head (by decide) (Nat.le_of_ble_eq_true rfl) ?_
  intro _ _ _ _ _ _ _ _ _ hF hr hlk hnm
  refine zx_iload_n (pc := 0) hF d_Wir_word_0 rfl 1 rfl ?_
  refine zx_if_lt (pc := 1) hF d_Wir_word_1 (tgt := 19) rfl (fun h1 => ?_) (fun h1 => ?_)
  · refine zx_iconst (pc := 19) hF d_Wir_word_19 k_i0 ?_
    exact zx_iret (pc := 20) hF hr hlk (by first | rfl | (simp only [if_pos h1]; done) | (simp only [h1, ↓reduceIte]; done) | simp [h1]) (by first | rfl | (simp only [if_pos h1]; done) | (simp only [h1, ↓reduceIte]; done) | simp [h1]) d_Wir_word_20
  · refine zx_iload_n (pc := 4) hF d_Wir_word_4 rfl 1 rfl ?_
    refine zx_bipush (pc := 5) hF d_Wir_word_5 k_b16 ?_
    refine zx_icmp_ge (pc := 7) hF d_Wir_word_7 (tgt := 19) rfl (fun h7 => ?_) (fun h7 => ?_)
    · refine zx_iconst (pc := 19) hF d_Wir_word_19 k_i0 ?_
      exact zx_iret (pc := 20) hF hr hlk (by first | rfl | (simp only [if_neg h1, if_pos h7]; done) | (simp only [h1, h7, ↓reduceIte]; done) | simp [h1, h7]) (by first | rfl | (simp only [if_neg h1, if_pos h7]; done) | (simp only [h1, h7, ↓reduceIte]; done) | simp [h1, h7]) d_Wir_word_20
    · refine zx_aload_n (pc := 10) hF d_Wir_word_10 rfl 0 rfl ?_
      refine zg_Wir_11 (pc := 11) hF 0 rfl rfl d_Wir_word_11 ?_
      refine zx_iload_n (pc := 14) hF d_Wir_word_14 rfl 1 rfl ?_
      refine zx_iald (pc := 15) hF 1 rfl (zin (n := 16) (by omega) h1 h7) d_Wir_word_15 ?_
      refine zx_goto (pc := 16) hF d_Wir_word_16 (tgt := 20) rfl ?_
      exact zx_iret (pc := 20) hF hr hlk (by first | rfl | (simp only [if_neg h1, if_neg h7]; done) | (simp only [h1, h7, ↓reduceIte]; done) | simp [h1, h7]) (by first | rfl | (simp only [if_neg h1, if_neg h7]; done) | (simp only [h1, h7, ↓reduceIte]; done) | simp [h1, h7]) d_Wir_word_20
set_option maxRecDepth 20000 in
theorem M_Wir_putChecksum (l : Launch) (D : va_G) (K : Nat → ClassId) (M : List (ClassId × FieldType)) (a0 : Nat) (a1 : Nat) (w : Nat → Int32) (t : Nat) (ht : t + 4 < 16) (sz : Nat) : zM l y_Wir_putChecksum (zT y_Wir_putChecksum b_Wir_putChecksum 2 none) (zR 3 69) 0 0 D K M [.ref a0, .int (nI t)] [cO a0 10 [.ref a1], cI K a1 16 w] sz (zQv D K M [cO a0 10 [.ref a1], cI K a1 16 (f_ck w t)]) := by
  refine zx_head (by decide) (Nat.le_of_ble_eq_true rfl) ?_
  intro _ _ _ _ _ _ _ _ _ hF hr hlk hnm
  refine zx_aload_n (pc := 0) hF d_Wir_putChecksum_0 rfl 0 rfl ?_
  refine zg_Wir_11 (pc := 1) hF 0 rfl rfl d_Wir_putChecksum_1 ?_
  refine zx_iload_n (pc := 4) hF d_Wir_putChecksum_4 rfl 1 rfl ?_
  refine zx_iconst (pc := 5) hF d_Wir_putChecksum_5 k_i2 ?_
  refine zx_iadd (pc := 6) hF d_Wir_putChecksum_6 ?_
  refine zx_topi (nI (t + 2)) (nI_add t 2) ?_
  refine zx_dup2 (pc := 7) hF d_Wir_putChecksum_7 rfl rfl ?_
  refine zx_ialdn (pc := 8) hF (i := t + 2) 1 rfl (by omega) (by omega) d_Wir_putChecksum_8 ?_
  refine zx_aload_n (pc := 9) hF d_Wir_putChecksum_9 rfl 0 rfl ?_
  refine zg_Wir_11 (pc := 10) hF 0 rfl rfl d_Wir_putChecksum_10 ?_
  refine zx_iload_n (pc := 13) hF d_Wir_putChecksum_13 rfl 1 rfl ?_
  refine zx_ialdn (pc := 14) hF (i := t) 1 rfl (by omega) (by omega) d_Wir_putChecksum_14 ?_
  refine zx_aload_n (pc := 15) hF d_Wir_putChecksum_15 rfl 0 rfl ?_
  refine zg_Wir_11 (pc := 16) hF 0 rfl rfl d_Wir_putChecksum_16 ?_
  refine zx_iload_n (pc := 19) hF d_Wir_putChecksum_19 rfl 1 rfl ?_
  refine zx_iconst (pc := 20) hF d_Wir_putChecksum_20 k_i1 ?_
  refine zx_iadd (pc := 21) hF d_Wir_putChecksum_21 ?_
  refine zx_topi (nI (t + 1)) (nI_add t 1) ?_
  refine zx_ialdn (pc := 22) hF (i := t + 1) 1 rfl (by omega) (by omega) d_Wir_putChecksum_22 ?_
  refine zx_aload_n (pc := 23) hF d_Wir_putChecksum_23 rfl 0 rfl ?_
  refine zg_Wir_11 (pc := 24) hF 0 rfl rfl d_Wir_putChecksum_24 ?_
  refine zx_iload_n (pc := 27) hF d_Wir_putChecksum_27 rfl 1 rfl ?_
  refine zx_iconst (pc := 28) hF d_Wir_putChecksum_28 k_i2 ?_
  refine zx_iadd (pc := 29) hF d_Wir_putChecksum_29 ?_
  refine zx_topi (nI (t + 2)) (nI_add t 2) ?_
  refine zx_ialdn (pc := 30) hF (i := t + 2) 1 rfl (by omega) (by omega) d_Wir_putChecksum_30 ?_
  refine zx_aload_n (pc := 31) hF d_Wir_putChecksum_31 rfl 0 rfl ?_
  refine zg_Wir_11 (pc := 32) hF 0 rfl rfl d_Wir_putChecksum_32 ?_
  refine zx_iload_n (pc := 35) hF d_Wir_putChecksum_35 rfl 1 rfl ?_
  refine zx_iconst (pc := 36) hF d_Wir_putChecksum_36 k_i3 ?_
  refine zx_iadd (pc := 37) hF d_Wir_putChecksum_37 ?_
  refine zx_topi (nI (t + 3)) (nI_add t 3) ?_
  refine zx_ialdn (pc := 38) hF (i := t + 3) 1 rfl (by omega) (by omega) d_Wir_putChecksum_38 ?_
  refine zx_aload_n (pc := 39) hF d_Wir_putChecksum_39 rfl 0 rfl ?_
  refine zg_Wir_11 (pc := 40) hF 0 rfl rfl d_Wir_putChecksum_40 ?_
  refine zx_iload_n (pc := 43) hF d_Wir_putChecksum_43 rfl 1 rfl ?_
  refine zx_iconst (pc := 44) hF d_Wir_putChecksum_44 k_i4 ?_
  refine zx_iadd (pc := 45) hF d_Wir_putChecksum_45 ?_
  refine zx_topi (nI (t + 4)) (nI_add t 4) ?_
  refine zx_ialdn (pc := 46) hF (i := t + 4) 1 rfl (by omega) (by omega) d_Wir_putChecksum_46 ?_
  refine zx_Si (pc := 47) hF (As := [.int (w t), .int (w (t + 1)), .int (w (t + 2)), .int (w (t + 3)), .int (w (t + 4))]) (rest := [.int (w (t + 2)), .int (nI (t + 2)), .ref a1]) (fun sz => M_Sum_rightChecksum l D K M (w t) (w (t + 1)) (w (t + 2)) (w (t + 3)) (w (t + 4))  sz) [] rfl List.nodup_nil (as := []) rfl rfl (ws' := [cO a0 10 [.ref a1], cI K a1 16 w]) rfl (cw_Wir_34 hF.2.2.2.2.1 rfl rfl ⟨by decide, by decide⟩) rfl rfl (Nat.le_of_ble_eq_true rfl) d_Wir_putChecksum_47 ⟨Nat.zero_le _, Nat.zero_le _⟩ ?_
  refine zx_iadd (pc := 50) hF d_Wir_putChecksum_50 ?_
  refine zx_iastn (pc := 51) hF (i := t + 2) 1 rfl (by omega) (by omega) d_Wir_putChecksum_51 (ws' := [cO a0 10 [.ref a1], cI K a1 16 (upd w (t + 2) ((w (t + 2)) + (f_cks (w t) (w (t + 1)) (w (t + 2)) (w (t + 3)) (w (t + 4)))))]) rfl ?_
  exact zx_vret (pc := 52) hF hr hlk (by first | rfl | (simp only []; done) | (simp only [↓reduceIte]; done) | simp []) d_Wir_putChecksum_52
set_option maxRecDepth 20000 in
theorem M_Wir_putForward (l : Launch) (D : va_G) (K : Nat → ClassId) (M : List (ClassId × FieldType)) (a0 : Nat) (a1 : Nat) (w : Nat → Int32) (c0 : Nat) (kp : Nat → Int32) (st : Int32) (b : Int32) (k : Int32) (sz : Nat) : zM l y_Wir_putForward (zT y_Wir_putForward b_Wir_putForward 5 none) (zR 4 90) 0 0 D K M [.ref a0, .ref c0, .int st, .int b, .int k] [cO a0 10 [.ref a1], cI K a1 16 w, cI K c0 5 kp] sz (zQv D K M [cO a0 10 [.ref a1], cI K a1 16 (f_fwd w kp st b k), cI K c0 5 kp]) := by
  refine zx_head (by decide) (Nat.le_of_ble_eq_true rfl) ?_
  intro _ _ _ _ _ _ _ _ _ hF hr hlk hnm
  refine zx_aload_n (pc := 0) hF d_Wir_putForward_0 rfl 0 rfl ?_
  refine zg_Wir_11 (pc := 1) hF 0 rfl rfl d_Wir_putForward_1 ?_
  refine zx_iconst (pc := 4) hF d_Wir_putForward_4 k_i0 ?_
  refine zx_ldc (pc := 5) hF wk_Wir_15 d_Wir_putForward_5 ?_
  refine zx_aload_n (pc := 7) hF d_Wir_putForward_7 rfl 1 rfl ?_
  refine zx_iconst (pc := 8) hF d_Wir_putForward_8 k_i0 ?_
  refine zx_ialdn (pc := 9) hF (i := 0) 2 rfl (by omega) (by omega) d_Wir_putForward_9 ?_
  refine zx_ldc (pc := 10) hF wk_Wir_16 d_Wir_putForward_10 ?_
  refine zx_iand (pc := 12) hF d_Wir_putForward_12 ?_
  refine zx_iadd (pc := 13) hF d_Wir_putForward_13 ?_
  refine zx_iastn (pc := 14) hF (i := 0) 1 rfl (by omega) (by omega) d_Wir_putForward_14 (ws' := [cO a0 10 [.ref a1], cI K a1 16 (upd w 0 (1157627928 + ((kp 0) &&& 65535))), cI K c0 5 kp]) rfl ?_
  refine zx_aload_n (pc := 15) hF d_Wir_putForward_15 rfl 0 rfl ?_
  refine zg_Wir_11 (pc := 16) hF 0 rfl rfl d_Wir_putForward_16 ?_
  refine zx_iconst (pc := 19) hF d_Wir_putForward_19 k_i1 ?_
  refine zx_iload_n (pc := 20) hF d_Wir_putForward_20 rfl 2 rfl ?_
  refine zx_ldc (pc := 21) hF wk_Wir_17 d_Wir_putForward_21 ?_
  refine zx_imul (pc := 23) hF d_Wir_putForward_23 ?_
  refine zx_iastn (pc := 24) hF (i := 1) 1 rfl (by omega) (by omega) d_Wir_putForward_24 (ws' := [cO a0 10 [.ref a1], cI K a1 16 (upd (upd w 0 (1157627928 + ((kp 0) &&& 65535))) 1 (st * 65536)), cI K c0 5 kp]) rfl ?_
  refine zx_aload_n (pc := 25) hF d_Wir_putForward_25 rfl 0 rfl ?_
  refine zg_Wir_11 (pc := 26) hF 0 rfl rfl d_Wir_putForward_26 ?_
  refine zx_iconst (pc := 29) hF d_Wir_putForward_29 k_i2 ?_
  refine zx_ldc (pc := 30) hF wk_Wir_18 d_Wir_putForward_30 ?_
  refine zx_iastn (pc := 32) hF (i := 2) 1 rfl (by omega) (by omega) d_Wir_putForward_32 (ws' := [cO a0 10 [.ref a1], cI K a1 16 (upd (upd (upd w 0 (1157627928 + ((kp 0) &&& 65535))) 1 (st * 65536)) 2 1076822016), cI K c0 5 kp]) rfl ?_
  refine zx_aload_n (pc := 33) hF d_Wir_putForward_33 rfl 0 rfl ?_
  refine zg_Wir_11 (pc := 34) hF 0 rfl rfl d_Wir_putForward_34 ?_
  refine zx_iconst (pc := 37) hF d_Wir_putForward_37 k_i3 ?_
  refine zx_ldc (pc := 38) hF wk_Wir_19 d_Wir_putForward_38 ?_
  refine zx_iload_n (pc := 40) hF d_Wir_putForward_40 rfl 3 rfl ?_
  refine zx_iadd (pc := 41) hF d_Wir_putForward_41 ?_
  refine zx_iastn (pc := 42) hF (i := 3) 1 rfl (by omega) (by omega) d_Wir_putForward_42 (ws' := [cO a0 10 [.ref a1], cI K a1 16 (upd (upd (upd (upd w 0 (1157627928 + ((kp 0) &&& 65535))) 1 (st * 65536)) 2 1076822016) 3 (167772416 + b)), cI K c0 5 kp]) rfl ?_
  refine zx_aload_n (pc := 43) hF d_Wir_putForward_43 rfl 0 rfl ?_
  refine zg_Wir_11 (pc := 44) hF 0 rfl rfl d_Wir_putForward_44 ?_
  refine zx_iconst (pc := 47) hF d_Wir_putForward_47 k_i4 ?_
  refine zx_ldc (pc := 48) hF wk_Wir_20 d_Wir_putForward_48 ?_
  refine zx_iload (pc := 50) hF d_Wir_putForward_50 4 rfl ?_
  refine zx_iadd (pc := 52) hF d_Wir_putForward_52 ?_
  refine zx_iastn (pc := 53) hF (i := 4) 1 rfl (by omega) (by omega) d_Wir_putForward_53 (ws' := [cO a0 10 [.ref a1], cI K a1 16 (upd (upd (upd (upd (upd w 0 (1157627928 + ((kp 0) &&& 65535))) 1 (st * 65536)) 2 1076822016) 3 (167772416 + b)) 4 (167772672 + k)), cI K c0 5 kp]) rfl ?_
  refine zx_aload_n (pc := 54) hF d_Wir_putForward_54 rfl 0 rfl ?_
  refine zg_Wir_11 (pc := 55) hF 0 rfl rfl d_Wir_putForward_55 ?_
  refine zx_iconst (pc := 58) hF d_Wir_putForward_58 k_i5 ?_
  refine zx_sipush (pc := 59) hF d_Wir_putForward_59 k_s2048 ?_
  refine zx_iastn (pc := 62) hF (i := 5) 1 rfl (by omega) (by omega) d_Wir_putForward_62 (ws' := [cO a0 10 [.ref a1], cI K a1 16 (upd (upd (upd (upd (upd (upd w 0 (1157627928 + ((kp 0) &&& 65535))) 1 (st * 65536)) 2 1076822016) 3 (167772416 + b)) 4 (167772672 + k)) 5 2048), cI K c0 5 kp]) rfl ?_
  refine zx_aload_n (pc := 63) hF d_Wir_putForward_63 rfl 0 rfl ?_
  refine zx_iconst (pc := 64) hF d_Wir_putForward_64 k_i0 ?_
  refine zx_Vv (pc := 65) hF (As := [.int 0]) (rest := []) (fun sz => M_Wir_putChecksum l D K M a0 a1 (upd (upd (upd (upd (upd (upd w 0 (1157627928 + ((kp 0) &&& 65535))) 1 (st * 65536)) 2 1076822016) 3 (167772416 + b)) 4 (167772672 + k)) 5 2048) 0 (by first | assumption | omega) sz) [0, 1] rfl (by decide) (as := [a0, a1]) rfl rfl (ws' := [cO a0 10 [.ref a1], cI K a1 16 (f_ck (upd (upd (upd (upd (upd (upd w 0 (1157627928 + ((kp 0) &&& 65535))) 1 (st * 65536)) 2 1076822016) 3 (167772416 + b)) 4 (167772672 + k)) 5 2048) 0), cI K c0 5 kp]) rfl 0 10 rfl rfl rfl (cw_Wir_21 hF.2.2.2.2.1 rfl rfl ⟨by decide, by decide⟩) rfl rfl (Nat.le_of_ble_eq_true rfl) d_Wir_putForward_65 ⟨Nat.zero_le _, Nat.zero_le _⟩ ?_
  refine zx_aload_n (pc := 68) hF d_Wir_putForward_68 rfl 1 rfl ?_
  refine zx_iconst (pc := 69) hF d_Wir_putForward_69 k_i0 ?_
  refine zx_aload_n (pc := 70) hF d_Wir_putForward_70 rfl 0 rfl ?_
  refine zg_Wir_11 (pc := 71) hF 0 rfl rfl d_Wir_putForward_71 ?_
  refine zx_bipush (pc := 74) hF d_Wir_putForward_74 k_b6 ?_
  refine zx_aload_n (pc := 76) hF d_Wir_putForward_76 rfl 1 rfl ?_
  refine zx_alen (pc := 77) hF 2 0 rfl rfl (v := nI 5) rfl d_Wir_putForward_77 ?_
  refine zx_copy (pc := 78) hF wm_Wir_25 2 1 rfl rfl (sp := 0) (dp := 6) (n := 5) (by omega) (by omega) (by omega) (by omega) (Nat.le_of_ble_eq_true rfl) (Nat.le_of_ble_eq_true rfl) d_Wir_putForward_78 (ws' := [cO a0 10 [.ref a1], cI K a1 16 (va_cpy kp (f_ck (upd (upd (upd (upd (upd (upd w 0 (1157627928 + ((kp 0) &&& 65535))) 1 (st * 65536)) 2 1076822016) 3 (167772416 + b)) 4 (167772672 + k)) 5 2048) 0) 0 6 5), cI K c0 5 kp]) rfl ?_
  exact zx_vret (pc := 81) hF hr hlk (by first | rfl | (simp only []; done) | (simp only [↓reduceIte]; done) | simp []) d_Wir_putForward_81
set_option maxRecDepth 20000 in
theorem M_Wir_putAnswer (l : Launch) (D : va_G) (K : Nat → ClassId) (M : List (ClassId × FieldType)) (a0 : Nat) (a1 : Nat) (w : Nat → Int32) (st : Int32) (s0 : Int32) (sz : Nat) : zM l y_Wir_putAnswer (zT y_Wir_putAnswer b_Wir_putAnswer 3 none) (zR 4 90) 0 0 D K M [.ref a0, .int st, .int s0] [cO a0 10 [.ref a1], cI K a1 16 w] sz (zQv D K M [cO a0 10 [.ref a1], cI K a1 16 (f_ans w st s0)]) := by
  refine zx_head (by decide) (Nat.le_of_ble_eq_true rfl) ?_
  intro _ _ _ _ _ _ _ _ _ hF hr hlk hnm
  refine zx_aload_n (pc := 0) hF d_Wir_putAnswer_0 rfl 0 rfl ?_
  refine zg_Wir_11 (pc := 1) hF 0 rfl rfl d_Wir_putAnswer_1 ?_
  refine zx_bipush (pc := 4) hF d_Wir_putAnswer_4 k_b11 ?_
  refine zx_ldc (pc := 6) hF wk_Wir_31 d_Wir_putAnswer_6 ?_
  refine zx_iastn (pc := 8) hF (i := 11) 1 rfl (by omega) (by omega) d_Wir_putAnswer_8 (ws' := [cO a0 10 [.ref a1], cI K a1 16 (upd w 11 1157627944)]) rfl ?_
  refine zx_aload_n (pc := 9) hF d_Wir_putAnswer_9 rfl 0 rfl ?_
  refine zg_Wir_11 (pc := 10) hF 0 rfl rfl d_Wir_putAnswer_10 ?_
  refine zx_bipush (pc := 13) hF d_Wir_putAnswer_13 k_b12 ?_
  refine zx_iload_n (pc := 15) hF d_Wir_putAnswer_15 rfl 1 rfl ?_
  refine zx_ldc (pc := 16) hF wk_Wir_17 d_Wir_putAnswer_16 ?_
  refine zx_imul (pc := 18) hF d_Wir_putAnswer_18 ?_
  refine zx_iastn (pc := 19) hF (i := 12) 1 rfl (by omega) (by omega) d_Wir_putAnswer_19 (ws' := [cO a0 10 [.ref a1], cI K a1 16 (upd (upd w 11 1157627944) 12 (st * 65536))]) rfl ?_
  refine zx_aload_n (pc := 20) hF d_Wir_putAnswer_20 rfl 0 rfl ?_
  refine zg_Wir_11 (pc := 21) hF 0 rfl rfl d_Wir_putAnswer_21 ?_
  refine zx_bipush (pc := 24) hF d_Wir_putAnswer_24 k_b13 ?_
  refine zx_ldc (pc := 26) hF wk_Wir_32 d_Wir_putAnswer_26 ?_
  refine zx_iastn (pc := 28) hF (i := 13) 1 rfl (by omega) (by omega) d_Wir_putAnswer_28 (ws' := [cO a0 10 [.ref a1], cI K a1 16 (upd (upd (upd w 11 1157627944) 12 (st * 65536)) 13 1074135040)]) rfl ?_
  refine zx_aload_n (pc := 29) hF d_Wir_putAnswer_29 rfl 0 rfl ?_
  refine zg_Wir_11 (pc := 30) hF 0 rfl rfl d_Wir_putAnswer_30 ?_
  refine zx_bipush (pc := 33) hF d_Wir_putAnswer_33 k_b14 ?_
  refine zx_ldc (pc := 35) hF wk_Wir_33 d_Wir_putAnswer_35 ?_
  refine zx_iastn (pc := 37) hF (i := 14) 1 rfl (by omega) (by omega) d_Wir_putAnswer_37 (ws' := [cO a0 10 [.ref a1], cI K a1 16 (upd (upd (upd (upd w 11 1157627944) 12 (st * 65536)) 13 1074135040) 14 167772161)]) rfl ?_
  refine zx_aload_n (pc := 38) hF d_Wir_putAnswer_38 rfl 0 rfl ?_
  refine zg_Wir_11 (pc := 39) hF 0 rfl rfl d_Wir_putAnswer_39 ?_
  refine zx_bipush (pc := 42) hF d_Wir_putAnswer_42 k_b15 ?_
  refine zx_iload_n (pc := 44) hF d_Wir_putAnswer_44 rfl 2 rfl ?_
  refine zx_iastn (pc := 45) hF (i := 15) 1 rfl (by omega) (by omega) d_Wir_putAnswer_45 (ws' := [cO a0 10 [.ref a1], cI K a1 16 (upd (upd (upd (upd (upd w 11 1157627944) 12 (st * 65536)) 13 1074135040) 14 167772161) 15 s0)]) rfl ?_
  refine zx_aload_n (pc := 46) hF d_Wir_putAnswer_46 rfl 0 rfl ?_
  refine zx_bipush (pc := 47) hF d_Wir_putAnswer_47 k_b11 ?_
  refine zx_Vv (pc := 49) hF (As := [.int 11]) (rest := []) (fun sz => M_Wir_putChecksum l D K M a0 a1 (upd (upd (upd (upd (upd w 11 1157627944) 12 (st * 65536)) 13 1074135040) 14 167772161) 15 s0) 11 (by first | assumption | omega) sz) [0, 1] rfl (by decide) (as := [a0, a1]) rfl rfl (ws' := [cO a0 10 [.ref a1], cI K a1 16 (f_ck (upd (upd (upd (upd (upd w 11 1157627944) 12 (st * 65536)) 13 1074135040) 14 167772161) 15 s0) 11)]) rfl 0 10 rfl rfl rfl (cw_Wir_21 hF.2.2.2.2.1 rfl rfl ⟨by decide, by decide⟩) rfl rfl (Nat.le_of_ble_eq_true rfl) d_Wir_putAnswer_49 ⟨Nat.zero_le _, Nat.zero_le _⟩ ?_
  exact zx_vret (pc := 52) hF hr hlk (by first | rfl | (simp only []; done) | (simp only [↓reduceIte]; done) | simp []) d_Wir_putAnswer_52
set_option maxRecDepth 20000 in
theorem M_Wir_clearAnswer (l : Launch) (D : va_G) (K : Nat → ClassId) (M : List (ClassId × FieldType)) (a0 : Nat) (a1 : Nat) (w : Nat → Int32) (sz : Nat) : zM l y_Wir_clearAnswer (zT y_Wir_clearAnswer b_Wir_clearAnswer 2 none) (zR 0 0) 0 0 D K M [.ref a0] [cO a0 10 [.ref a1], cI K a1 16 w] sz (zQv D K M [cO a0 10 [.ref a1], cI K a1 16 (f_zero 5 11 w)]) := by
  refine zx_head (by decide) (Nat.le_of_ble_eq_true rfl) ?_
  intro _ _ _ _ _ _ _ _ _ hF hr hlk hnm
  refine zx_bipush (pc := 0) hF d_Wir_clearAnswer_0 k_b11 ?_
  refine zx_istore_n (pc := 2) hF (lv' := [(1, .int 11), (0, .ref a0)]) d_Wir_clearAnswer_2 rfl (by decide) rfl ?_
  refine zx_lv [1, 0] (lv' := [(0, .ref a0), (1, .int 11)]) rfl ?_
  refine zx_loop (pc := 3) (σ := Nat × (Nat → Int32)) (fun k zv => (zv.1 + k = 16) ∧ (f_zero k zv.1 zv.2 = f_zero 5 11 w)) (fun zv => [cO a0 10 [.ref a1], cI K a1 16 zv.2]) (fun zv => [(0, .ref a0), (1, .int (nI zv.1))]) 5 (11, w) ⟨rfl, rfl⟩ rfl rfl ?_
  intro k zv hI ih
  obtain ⟨j, w'⟩ := zv
  obtain ⟨hk, hX⟩ := hI
  replace hk : j + k = 16 := hk
  replace hX : f_zero k j w' = f_zero 5 11 w := hX
  refine zx_eq (ws' := [cO a0 10 [.ref a1], cI K a1 16 w']) (lv' := [(0, .ref a0), (1, .int (nI j))]) rfl rfl rfl ?_
  refine zx_iload_n (pc := 3) hF d_Wir_clearAnswer_3 rfl 1 rfl ?_
  refine zx_bipush (pc := 4) hF d_Wir_clearAnswer_4 k_b16 ?_
  refine zx_icmp_ge (pc := 6) hF d_Wir_clearAnswer_6 (tgt := 22) rfl (fun h6 => ?_) (fun h6 => ?_)
  · replace h6 : 16 ≤ j := (nI_leI (a := 16) (b := j) (by omega) (by omega)).mp h6
    exact zx_vret (pc := 22) hF hr hlk (by obtain rfl : k = 0 := (by omega); rw [← hX]; rfl) d_Wir_clearAnswer_22
  · replace h6 : ¬ 16 ≤ j := fun z => h6 ((nI_leI (a := 16) (b := j) (by omega) (by omega)).mpr z)
    refine zx_aload_n (pc := 9) hF d_Wir_clearAnswer_9 rfl 0 rfl ?_
    refine zg_Wir_11 (pc := 10) hF 0 rfl rfl d_Wir_clearAnswer_10 ?_
    refine zx_iload_n (pc := 13) hF d_Wir_clearAnswer_13 rfl 1 rfl ?_
    refine zx_iconst (pc := 14) hF d_Wir_clearAnswer_14 k_i0 ?_
    refine zx_iastn (pc := 15) hF (i := j) 1 rfl (by omega) (by omega) d_Wir_clearAnswer_15 (ws' := [cO a0 10 [.ref a1], cI K a1 16 (upd w' j 0)]) rfl ?_
    refine zx_iinc (pc := 16) hF (v := nI (j + 1)) (lv' := [(1, .int (nI (j + 1))), (0, .ref a0)]) d_Wir_clearAnswer_16 1 rfl (zinc j) (by decide) rfl ?_
    refine zx_goto (pc := 19) hF d_Wir_clearAnswer_19 (tgt := 3) rfl ?_
    refine zx_lv [1, 0] (lv' := [(0, .ref a0), (1, .int (nI (j + 1)))]) rfl ?_
    exact ih (k - 1) (j + 1, upd w' j 0) (by omega) ⟨by (try dsimp only); omega, by obtain ⟨k', rfl⟩ : ∃ k', k = k' + 1 := ⟨k - 1, by omega⟩; exact hX⟩
set_option maxRecDepth 20000 in
theorem M_Ent_patienceAfter (l : Launch) (D : va_G) (K : Nat → ClassId) (M : List (ClassId × FieldType)) (fl : Int32) (sz : Nat) : zM l y_Ent_patienceAfter (zT y_Ent_patienceAfter b_Ent_patienceAfter 1 (some .int)) (zR 0 0) 0 0 D K M [.int fl] [] sz (zQi D K M (f_pat fl) []) := by
  refine zx_head (by decide) (Nat.le_of_ble_eq_true rfl) ?_
  intro _ _ _ _ _ _ _ _ _ hF hr hlk hnm
  refine zx_iload_n (pc := 0) hF d_Ent_patienceAfter_0 rfl 0 rfl ?_
  refine zx_iconst (pc := 1) hF d_Ent_patienceAfter_1 k_i2 ?_
  refine zx_icmp_ne (pc := 2) hF d_Ent_patienceAfter_2 (tgt := 7) rfl (fun h2 => ?_) (fun h2 => ?_)
  · refine zx_iload_n (pc := 7) hF d_Ent_patienceAfter_7 rfl 0 rfl ?_
    refine zx_bipush (pc := 8) hF d_Ent_patienceAfter_8 k_b16 ?_
    refine zx_icmp_ne (pc := 10) hF d_Ent_patienceAfter_10 (tgt := 18) rfl (fun h10 => ?_) (fun h10 => ?_)
    · refine zx_iconst (pc := 18) hF d_Ent_patienceAfter_18 k_i2 ?_
      exact zx_iret (pc := 19) hF hr hlk (by first | with_reducible rfl | (simp only [f_pat, if_neg h2, if_neg h10]; done) | (simp only [f_pat, h2, h10, ↓reduceIte]; done) | simp [f_pat, h2, h10]) (by first | with_reducible rfl | (simp only [f_pat, if_neg h2, if_neg h10]; done) | (simp only [f_pat, h2, h10, ↓reduceIte]; done) | simp [f_pat, h2, h10]) d_Ent_patienceAfter_19
    · refine zx_bipush (pc := 13) hF d_Ent_patienceAfter_13 k_b16 ?_
      refine zx_goto (pc := 15) hF d_Ent_patienceAfter_15 (tgt := 19) rfl ?_
      exact zx_iret (pc := 19) hF hr hlk (by first | with_reducible rfl | (simp only [f_pat, if_neg h2, if_pos h10]; done) | (simp only [f_pat, h2, h10, ↓reduceIte]; done) | simp [f_pat, h2, h10]) (by first | with_reducible rfl | (simp only [f_pat, if_neg h2, if_pos h10]; done) | (simp only [f_pat, h2, h10, ↓reduceIte]; done) | simp [f_pat, h2, h10]) d_Ent_patienceAfter_19
  · refine zx_iconst (pc := 5) hF d_Ent_patienceAfter_5 k_i4 ?_
    exact zx_iret (pc := 6) hF hr hlk (by first | with_reducible rfl | (simp only [f_pat, if_pos h2]; done) | (simp only [f_pat, h2, ↓reduceIte]; done) | simp [f_pat, h2]) (by first | with_reducible rfl | (simp only [f_pat, if_pos h2]; done) | (simp only [f_pat, h2, ↓reduceIte]; done) | simp [f_pat, h2]) d_Ent_patienceAfter_6
set_option maxRecDepth 20000 in
theorem M_Ent_serverOf (l : Launch) (D : va_G) (K : Nat → ClassId) (M : List (ClassId × FieldType)) (e0 : Nat) (e1 : Nat) (e2 : Nat) (e3 : Nat) (a0 : Nat) (a1 : Nat) (a2 : Nat) (a3 : Nat) (src : Nat → Int32) (prt : Nat → Int32) (use : Nat → Int32) (cnt : Int32) (sv : Nat → Int32) (pat : Nat → Int32) (lu : Nat → Int32) (s0 : Int32) (p0 : Int32) (sz : Nat) : zM l y_Ent_serverOf (zT y_Ent_serverOf b_Ent_serverOf 4 (some .int)) (zR 1 23) 0 0 D K M [.ref e0, .int s0, .int p0] [cO e0 3 [.ref a0, .ref e1, .ref e2, .ref e3], cO a0 6 [.ref a1, .ref a2, .ref a3, .int cnt], cI K a1 8 src, cI K a2 8 prt, cZ K a3 8 use, cI K e1 8 sv, cI K e2 8 pat, cI K e3 8 lu] sz (zQi D K M (if f_find use src prt 8 s0 p0 = -1 then -1 else sv (f_find use src prt 8 s0 p0).toNatClampNeg) [cO e0 3 [.ref a0, .ref e1, .ref e2, .ref e3], cO a0 6 [.ref a1, .ref a2, .ref a3, .int cnt], cI K a1 8 src, cI K a2 8 prt, cZ K a3 8 use, cI K e1 8 sv, cI K e2 8 pat, cI K e3 8 lu]) := by
  refine zx_head (by decide) (Nat.le_of_ble_eq_true rfl) ?_
  intro _ _ _ _ _ _ _ _ _ hF hr hlk hnm
  refine zx_aload_n (pc := 0) hF d_Ent_serverOf_0 rfl 0 rfl ?_
  refine zg_Ent_16 (pc := 1) hF 0 rfl rfl d_Ent_serverOf_1 ?_
  refine zx_iload_n (pc := 4) hF d_Ent_serverOf_4 rfl 1 rfl ?_
  refine zx_iload_n (pc := 5) hF d_Ent_serverOf_5 rfl 2 rfl ?_
  refine zx_Vi (pc := 6) hF (As := [.int s0, .int p0]) (rest := []) (fun sz => M_Slo_find l D K M a0 a1 a2 a3 8 src prt use cnt s0 p0 (by first | assumption | omega) sz) [1, 2, 3, 4] rfl (by decide) (as := [a0, a1, a2, a3]) rfl rfl (ws' := [cO e0 3 [.ref a0, .ref e1, .ref e2, .ref e3], cO a0 6 [.ref a1, .ref a2, .ref a3, .int cnt], cI K a1 8 src, cI K a2 8 prt, cZ K a3 8 use, cI K e1 8 sv, cI K e2 8 pat, cI K e3 8 lu]) rfl 0 6 rfl rfl rfl (cw_Ent_30 hF.2.2.2.2.1 rfl rfl ⟨by decide, by decide⟩) rfl rfl (Nat.le_of_ble_eq_true rfl) d_Ent_serverOf_6 ⟨Nat.zero_le _, Nat.zero_le _⟩ ?_
  refine zx_istore_n (pc := 9) hF (lv' := [(3, .int (f_find use src prt 8 s0 p0)), (0, .ref e0), (1, .int s0), (2, .int p0)]) d_Ent_serverOf_9 rfl (by decide) rfl ?_
  refine zx_iload_n (pc := 10) hF d_Ent_serverOf_10 rfl 0 rfl ?_
  refine zx_iconst (pc := 11) hF d_Ent_serverOf_11 k_im1 ?_
  refine zx_icmp_ne (pc := 12) hF d_Ent_serverOf_12 (tgt := 19) rfl (fun h12 => ?_) (fun h12 => ?_)
  · refine zx_aload_n (pc := 19) hF d_Ent_serverOf_19 rfl 1 rfl ?_
    refine zg_Ent_20 (pc := 20) hF 0 rfl rfl d_Ent_serverOf_20 ?_
    refine zx_iload_n (pc := 23) hF d_Ent_serverOf_23 rfl 0 rfl ?_
    refine zx_topi (nI (Int32.toNatClampNeg (f_find use src prt 8 s0 p0))) ((f_find_cl (by omega) h12).1) ?_
    refine zx_ialdn (pc := 24) hF (i := Int32.toNatClampNeg (f_find use src prt 8 s0 p0)) 5 rfl (f_find_cl (by omega) h12).2 (by omega) d_Ent_serverOf_24 ?_
    exact zx_iret (pc := 25) hF hr hlk (by first | rfl | (simp only [if_neg h12]; done) | (simp only [h12, ↓reduceIte]; done) | simp [h12]) (by first | rfl | (simp only [if_neg h12]; done) | (simp only [h12, ↓reduceIte]; done) | simp [h12]) d_Ent_serverOf_25
  · refine zx_iconst (pc := 15) hF d_Ent_serverOf_15 k_im1 ?_
    refine zx_goto (pc := 16) hF d_Ent_serverOf_16 (tgt := 25) rfl ?_
    exact zx_iret (pc := 25) hF hr hlk (by first | rfl | (simp only [if_pos h12]; done) | (simp only [h12, ↓reduceIte]; done) | simp [h12]) (by first | rfl | (simp only [if_pos h12]; done) | (simp only [h12, ↓reduceIte]; done) | simp [h12]) d_Ent_serverOf_25
end
section
set_option maxRecDepth 20000 in
theorem M_Ent_note (l : Launch) (D : va_G) (K : Nat → ClassId) (M : List (ClassId × FieldType)) (e0 : Nat) (e1 : Nat) (e2 : Nat) (e3 : Nat) (a0 : Nat) (a1 : Nat) (a2 : Nat) (a3 : Nat) (src : Nat → Int32) (prt : Nat → Int32) (use : Nat → Int32) (cnt : Int32) (sv : Nat → Int32) (pat : Nat → Int32) (lu : Nat → Int32) (s0 : Int32) (p0 : Int32) (sv0 : Int32) (fl : Int32) (t : Int32) (sz : Nat) : zM l y_Ent_note (zT y_Ent_note b_Ent_note 7 none) (zR 2 47) 0 0 D K M [.ref e0, .int s0, .int p0, .int sv0, .int fl, .int t] [cO e0 3 [.ref a0, .ref e1, .ref e2, .ref e3], cO a0 6 [.ref a1, .ref a2, .ref a3, .int cnt], cI K a1 8 src, cI K a2 8 prt, cZ K a3 8 use, cI K e1 8 sv, cI K e2 8 pat, cI K e3 8 lu] sz (zQv D K M [cO e0 3 [.ref a0, .ref e1, .ref e2, .ref e3], cO a0 6 [.ref a1, .ref a2, .ref a3, .int (f_ecnt fl cnt use src prt s0 p0)], cI K a1 8 (f_put src (f_enew fl use src prt s0 p0) s0), cI K a2 8 (f_put prt (f_enew fl use src prt s0 p0) p0), cZ K a3 8 (f_euse fl use src prt s0 p0), cI K e1 8 (f_eput fl sv use src prt s0 p0 sv0), cI K e2 8 (f_eput fl pat use src prt s0 p0 (f_pat fl)), cI K e3 8 (f_eput fl lu use src prt s0 p0 t)]) := by
  refine zx_head (by decide) (Nat.le_of_ble_eq_true rfl) ?_
  intro _ _ _ _ _ _ _ _ _ hF hr hlk hnm
  refine zx_iload (pc := 0) hF d_Ent_note_0 4 rfl ?_
  refine zx_iconst (pc := 2) hF d_Ent_note_2 k_i2 ?_
  refine zx_icmp_ne (pc := 3) hF d_Ent_note_3 (tgt := 18) rfl (fun h3 => ?_) (fun h3 => ?_)
  · refine zx_aload_n (pc := 18) hF d_Ent_note_18 rfl 0 rfl ?_
    refine zg_Ent_16 (pc := 19) hF 0 rfl rfl d_Ent_note_19 ?_
    refine zx_iload_n (pc := 22) hF d_Ent_note_22 rfl 1 rfl ?_
    refine zx_iload_n (pc := 23) hF d_Ent_note_23 rfl 2 rfl ?_
    refine zx_Vi (pc := 24) hF (As := [.int s0, .int p0]) (rest := []) (fun sz => M_Slo_find l D K M a0 a1 a2 a3 8 src prt use cnt s0 p0 (by first | assumption | omega) sz) [1, 2, 3, 4] rfl (by decide) (as := [a0, a1, a2, a3]) rfl rfl (ws' := [cO e0 3 [.ref a0, .ref e1, .ref e2, .ref e3], cO a0 6 [.ref a1, .ref a2, .ref a3, .int cnt], cI K a1 8 src, cI K a2 8 prt, cZ K a3 8 use, cI K e1 8 sv, cI K e2 8 pat, cI K e3 8 lu]) rfl 0 6 rfl rfl rfl (cw_Ent_30 hF.2.2.2.2.1 rfl rfl ⟨by decide, by decide⟩) rfl rfl (Nat.le_of_ble_eq_true rfl) d_Ent_note_24 ⟨Nat.zero_le _, Nat.zero_le _⟩ ?_
    refine zx_istore (pc := 27) hF (lv' := [(6, .int (f_find use src prt 8 s0 p0)), (0, .ref e0), (1, .int s0), (2, .int p0), (3, .int sv0), (4, .int fl), (5, .int t)]) d_Ent_note_27 (by decide) rfl ?_
    refine zx_iload (pc := 29) hF d_Ent_note_29 0 rfl ?_
    refine zx_iconst (pc := 31) hF d_Ent_note_31 k_im1 ?_
    refine zx_icmp_ne (pc := 32) hF d_Ent_note_32 (tgt := 36) rfl (fun h32 => ?_) (fun h32 => ?_)
    · refine zx_iload (pc := 36) hF d_Ent_note_36 5 rfl ?_
      refine zx_iconst (pc := 38) hF d_Ent_note_38 k_i4 ?_
      refine zx_icmp_ne (pc := 39) hF d_Ent_note_39 (tgt := 52) rfl (fun h39 => ?_) (fun h39 => ?_)
      · refine zx_aload_n (pc := 52) hF d_Ent_note_52 rfl 1 rfl ?_
        refine zg_Ent_20 (pc := 53) hF 0 rfl rfl d_Ent_note_53 ?_
        refine zx_iload (pc := 56) hF d_Ent_note_56 0 rfl ?_
        refine zx_topi (nI (Int32.toNatClampNeg (f_find use src prt 8 s0 p0))) ((f_find_cl (by omega) h32).1) ?_
        refine zx_iload_n (pc := 58) hF d_Ent_note_58 rfl 4 rfl ?_
        refine zx_iastn (pc := 59) hF (i := Int32.toNatClampNeg (f_find use src prt 8 s0 p0)) 5 rfl (f_find_cl (by omega) h32).2 (by omega) d_Ent_note_59 (ws' := [cO e0 3 [.ref a0, .ref e1, .ref e2, .ref e3], cO a0 6 [.ref a1, .ref a2, .ref a3, .int cnt], cI K a1 8 src, cI K a2 8 prt, cZ K a3 8 use, cI K e1 8 (upd sv (Int32.toNatClampNeg (f_find use src prt 8 s0 p0)) sv0), cI K e2 8 pat, cI K e3 8 lu]) rfl ?_
        refine zx_aload_n (pc := 60) hF d_Ent_note_60 rfl 1 rfl ?_
        refine zg_Ent_24 (pc := 61) hF 0 rfl rfl d_Ent_note_61 ?_
        refine zx_iload (pc := 64) hF d_Ent_note_64 0 rfl ?_
        refine zx_topi (nI (Int32.toNatClampNeg (f_find use src prt 8 s0 p0))) ((f_find_cl (by omega) h32).1) ?_
        refine zx_iload (pc := 66) hF d_Ent_note_66 5 rfl ?_
        refine zx_Si (pc := 68) hF (As := [.int fl]) (rest := [.int (nI (Int32.toNatClampNeg (f_find use src prt 8 s0 p0))), .ref e2]) (fun sz => M_Ent_patienceAfter l D K M fl  sz) [] rfl List.nodup_nil (as := []) rfl rfl (ws' := [cO e0 3 [.ref a0, .ref e1, .ref e2, .ref e3], cO a0 6 [.ref a1, .ref a2, .ref a3, .int cnt], cI K a1 8 src, cI K a2 8 prt, cZ K a3 8 use, cI K e1 8 (upd sv (Int32.toNatClampNeg (f_find use src prt 8 s0 p0)) sv0), cI K e2 8 pat, cI K e3 8 lu]) rfl (cw_Ent_40 hF.2.2.2.2.1 rfl rfl ⟨by decide, by decide⟩) rfl rfl (Nat.le_of_ble_eq_true rfl) d_Ent_note_68 ⟨Nat.zero_le _, Nat.zero_le _⟩ ?_
        refine zx_iastn (pc := 71) hF (i := Int32.toNatClampNeg (f_find use src prt 8 s0 p0)) 6 rfl (f_find_cl (by omega) h32).2 (by omega) d_Ent_note_71 (ws' := [cO e0 3 [.ref a0, .ref e1, .ref e2, .ref e3], cO a0 6 [.ref a1, .ref a2, .ref a3, .int cnt], cI K a1 8 src, cI K a2 8 prt, cZ K a3 8 use, cI K e1 8 (upd sv (Int32.toNatClampNeg (f_find use src prt 8 s0 p0)) sv0), cI K e2 8 (upd pat (Int32.toNatClampNeg (f_find use src prt 8 s0 p0)) (f_pat fl)), cI K e3 8 lu]) rfl ?_
        refine zx_aload_n (pc := 72) hF d_Ent_note_72 rfl 1 rfl ?_
        refine zg_Ent_27 (pc := 73) hF 0 rfl rfl d_Ent_note_73 ?_
        refine zx_iload (pc := 76) hF d_Ent_note_76 0 rfl ?_
        refine zx_topi (nI (Int32.toNatClampNeg (f_find use src prt 8 s0 p0))) ((f_find_cl (by omega) h32).1) ?_
        refine zx_iload (pc := 78) hF d_Ent_note_78 6 rfl ?_
        refine zx_iastn (pc := 80) hF (i := Int32.toNatClampNeg (f_find use src prt 8 s0 p0)) 7 rfl (f_find_cl (by omega) h32).2 (by omega) d_Ent_note_80 (ws' := [cO e0 3 [.ref a0, .ref e1, .ref e2, .ref e3], cO a0 6 [.ref a1, .ref a2, .ref a3, .int cnt], cI K a1 8 src, cI K a2 8 prt, cZ K a3 8 use, cI K e1 8 (upd sv (Int32.toNatClampNeg (f_find use src prt 8 s0 p0)) sv0), cI K e2 8 (upd pat (Int32.toNatClampNeg (f_find use src prt 8 s0 p0)) (f_pat fl)), cI K e3 8 (upd lu (Int32.toNatClampNeg (f_find use src prt 8 s0 p0)) t)]) rfl ?_
        exact zx_vret (pc := 81) hF hr hlk (by first | with_reducible rfl | (simp only [f_eput, f_pat, f_enew, f_eslot, f_euse, f_ecnt, f_relu, f_reln, f_put, f_inc, if_neg h3, if_neg h32, if_neg h39]; done) | (simp only [f_eput, f_pat, f_enew, f_eslot, f_euse, f_ecnt, f_relu, f_reln, f_put, f_inc, h3, h32, h39, ↓reduceIte]; done) | simp [f_eput, f_pat, f_enew, f_eslot, f_euse, f_ecnt, f_relu, f_reln, f_put, f_inc, h3, h32, h39]) d_Ent_note_81
      · refine zx_aload_n (pc := 42) hF d_Ent_note_42 rfl 1 rfl ?_
        refine zg_Ent_16 (pc := 43) hF 0 rfl rfl d_Ent_note_43 ?_
        refine zx_iload (pc := 46) hF d_Ent_note_46 0 rfl ?_
        refine zx_topi (nI (Int32.toNatClampNeg (f_find use src prt 8 s0 p0))) ((f_find_cl (by omega) h32).1) ?_
        refine zx_Vv (pc := 48) hF (As := [.int (nI (Int32.toNatClampNeg (f_find use src prt 8 s0 p0)))]) (rest := []) (fun sz => M_Slo_release l D K M a0 a1 a2 a3 8 src prt use cnt (Int32.toNatClampNeg (f_find use src prt 8 s0 p0)) (f_find_cl (by omega) h32).2 (by first | assumption | omega) sz) [1, 2, 3, 4] rfl (by decide) (as := [a0, a1, a2, a3]) rfl rfl (ws' := [cO e0 3 [.ref a0, .ref e1, .ref e2, .ref e3], cO a0 6 [.ref a1, .ref a2, .ref a3, .int (f_rn use cnt (Int32.toNatClampNeg (f_find use src prt 8 s0 p0)))], cI K a1 8 src, cI K a2 8 prt, cZ K a3 8 (f_ru use (Int32.toNatClampNeg (f_find use src prt 8 s0 p0))), cI K e1 8 sv, cI K e2 8 pat, cI K e3 8 lu]) rfl 0 6 rfl rfl rfl (cw_Ent_37 hF.2.2.2.2.1 rfl rfl ⟨by decide, by decide⟩) rfl rfl (Nat.le_of_ble_eq_true rfl) d_Ent_note_48 ⟨Nat.zero_le _, Nat.zero_le _⟩ ?_
        exact zx_vret (pc := 51) hF hr hlk (by first | with_reducible rfl | (simp only [f_eput, f_pat, f_enew, f_eslot, f_euse, f_ecnt, f_relu, f_reln, f_put, f_inc, if_neg h3, if_neg h32, if_pos h39]; done) | (simp only [f_eput, f_pat, f_enew, f_eslot, f_euse, f_ecnt, f_relu, f_reln, f_put, f_inc, h3, h32, h39, ↓reduceIte]; done) | simp [f_eput, f_pat, f_enew, f_eslot, f_euse, f_ecnt, f_relu, f_reln, f_put, f_inc, h3, h32, h39]) d_Ent_note_51
    · exact zx_vret (pc := 35) hF hr hlk (by first | with_reducible rfl | (simp only [f_eput, f_pat, f_enew, f_eslot, f_euse, f_ecnt, f_relu, f_reln, f_put, f_inc, if_neg h3, if_pos h32]; done) | (simp only [f_eput, f_pat, f_enew, f_eslot, f_euse, f_ecnt, f_relu, f_reln, f_put, f_inc, h3, h32, ↓reduceIte]; done) | simp [f_eput, f_pat, f_enew, f_eslot, f_euse, f_ecnt, f_relu, f_reln, f_put, f_inc, h3, h32]) d_Ent_note_35
  · refine zx_aload_n (pc := 6) hF d_Ent_note_6 rfl 0 rfl ?_
    refine zg_Ent_16 (pc := 7) hF 0 rfl rfl d_Ent_note_7 ?_
    refine zx_iload_n (pc := 10) hF d_Ent_note_10 rfl 1 rfl ?_
    refine zx_iload_n (pc := 11) hF d_Ent_note_11 rfl 2 rfl ?_
    refine zx_Vi (pc := 12) hF (As := [.int s0, .int p0]) (rest := []) (fun sz => M_Slo_findOrTake l D K M a0 a1 a2 a3 8 src prt use cnt s0 p0 (by first | assumption | omega) sz) [1, 2, 3, 4] rfl (by decide) (as := [a0, a1, a2, a3]) rfl rfl (ws' := [cO e0 3 [.ref a0, .ref e1, .ref e2, .ref e3], cO a0 6 [.ref a1, .ref a2, .ref a3, .int (f_inc cnt (f_new use src prt 8 s0 p0))], cI K a1 8 (f_put src (f_new use src prt 8 s0 p0) s0), cI K a2 8 (f_put prt (f_new use src prt 8 s0 p0) p0), cZ K a3 8 (f_put use (f_new use src prt 8 s0 p0) 1), cI K e1 8 sv, cI K e2 8 pat, cI K e3 8 lu]) rfl 0 6 rfl rfl rfl (cw_Ent_34 hF.2.2.2.2.1 rfl rfl ⟨by decide, by decide⟩) rfl rfl (Nat.le_of_ble_eq_true rfl) d_Ent_note_12 ⟨Nat.zero_le _, Nat.zero_le _⟩ ?_
    refine zx_goto (pc := 15) hF d_Ent_note_15 (tgt := 27) rfl ?_
    refine zx_istore (pc := 27) hF (lv' := [(6, .int (f_fot use src prt 8 s0 p0)), (0, .ref e0), (1, .int s0), (2, .int p0), (3, .int sv0), (4, .int fl), (5, .int t)]) d_Ent_note_27 (by decide) rfl ?_
    refine zx_iload (pc := 29) hF d_Ent_note_29 0 rfl ?_
    refine zx_iconst (pc := 31) hF d_Ent_note_31 k_im1 ?_
    refine zx_icmp_ne (pc := 32) hF d_Ent_note_32 (tgt := 36) rfl (fun h32 => ?_) (fun h32 => ?_)
    · refine zx_iload (pc := 36) hF d_Ent_note_36 5 rfl ?_
      refine zx_iconst (pc := 38) hF d_Ent_note_38 k_i4 ?_
      refine zx_icmp_ne (pc := 39) hF d_Ent_note_39 (tgt := 52) rfl (fun h39 => ?_) (fun h39 => ?_)
      · refine zx_aload_n (pc := 52) hF d_Ent_note_52 rfl 1 rfl ?_
        refine zg_Ent_20 (pc := 53) hF 0 rfl rfl d_Ent_note_53 ?_
        refine zx_iload (pc := 56) hF d_Ent_note_56 0 rfl ?_
        refine zx_topi (nI (Int32.toNatClampNeg (f_fot use src prt 8 s0 p0))) ((f_fot_cl (by omega) h32).1) ?_
        refine zx_iload_n (pc := 58) hF d_Ent_note_58 rfl 4 rfl ?_
        refine zx_iastn (pc := 59) hF (i := Int32.toNatClampNeg (f_fot use src prt 8 s0 p0)) 5 rfl (f_fot_cl (by omega) h32).2 (by omega) d_Ent_note_59 (ws' := [cO e0 3 [.ref a0, .ref e1, .ref e2, .ref e3], cO a0 6 [.ref a1, .ref a2, .ref a3, .int (f_inc cnt (f_new use src prt 8 s0 p0))], cI K a1 8 (f_put src (f_new use src prt 8 s0 p0) s0), cI K a2 8 (f_put prt (f_new use src prt 8 s0 p0) p0), cZ K a3 8 (f_put use (f_new use src prt 8 s0 p0) 1), cI K e1 8 (upd sv (Int32.toNatClampNeg (f_fot use src prt 8 s0 p0)) sv0), cI K e2 8 pat, cI K e3 8 lu]) rfl ?_
        refine zx_aload_n (pc := 60) hF d_Ent_note_60 rfl 1 rfl ?_
        refine zg_Ent_24 (pc := 61) hF 0 rfl rfl d_Ent_note_61 ?_
        refine zx_iload (pc := 64) hF d_Ent_note_64 0 rfl ?_
        refine zx_topi (nI (Int32.toNatClampNeg (f_fot use src prt 8 s0 p0))) ((f_fot_cl (by omega) h32).1) ?_
        refine zx_iload (pc := 66) hF d_Ent_note_66 5 rfl ?_
        refine zx_Si (pc := 68) hF (As := [.int fl]) (rest := [.int (nI (Int32.toNatClampNeg (f_fot use src prt 8 s0 p0))), .ref e2]) (fun sz => M_Ent_patienceAfter l D K M fl  sz) [] rfl List.nodup_nil (as := []) rfl rfl (ws' := [cO e0 3 [.ref a0, .ref e1, .ref e2, .ref e3], cO a0 6 [.ref a1, .ref a2, .ref a3, .int (f_inc cnt (f_new use src prt 8 s0 p0))], cI K a1 8 (f_put src (f_new use src prt 8 s0 p0) s0), cI K a2 8 (f_put prt (f_new use src prt 8 s0 p0) p0), cZ K a3 8 (f_put use (f_new use src prt 8 s0 p0) 1), cI K e1 8 (upd sv (Int32.toNatClampNeg (f_fot use src prt 8 s0 p0)) sv0), cI K e2 8 pat, cI K e3 8 lu]) rfl (cw_Ent_40 hF.2.2.2.2.1 rfl rfl ⟨by decide, by decide⟩) rfl rfl (Nat.le_of_ble_eq_true rfl) d_Ent_note_68 ⟨Nat.zero_le _, Nat.zero_le _⟩ ?_
        refine zx_iastn (pc := 71) hF (i := Int32.toNatClampNeg (f_fot use src prt 8 s0 p0)) 6 rfl (f_fot_cl (by omega) h32).2 (by omega) d_Ent_note_71 (ws' := [cO e0 3 [.ref a0, .ref e1, .ref e2, .ref e3], cO a0 6 [.ref a1, .ref a2, .ref a3, .int (f_inc cnt (f_new use src prt 8 s0 p0))], cI K a1 8 (f_put src (f_new use src prt 8 s0 p0) s0), cI K a2 8 (f_put prt (f_new use src prt 8 s0 p0) p0), cZ K a3 8 (f_put use (f_new use src prt 8 s0 p0) 1), cI K e1 8 (upd sv (Int32.toNatClampNeg (f_fot use src prt 8 s0 p0)) sv0), cI K e2 8 (upd pat (Int32.toNatClampNeg (f_fot use src prt 8 s0 p0)) (f_pat fl)), cI K e3 8 lu]) rfl ?_
        refine zx_aload_n (pc := 72) hF d_Ent_note_72 rfl 1 rfl ?_
        refine zg_Ent_27 (pc := 73) hF 0 rfl rfl d_Ent_note_73 ?_
        refine zx_iload (pc := 76) hF d_Ent_note_76 0 rfl ?_
        refine zx_topi (nI (Int32.toNatClampNeg (f_fot use src prt 8 s0 p0))) ((f_fot_cl (by omega) h32).1) ?_
        refine zx_iload (pc := 78) hF d_Ent_note_78 6 rfl ?_
        refine zx_iastn (pc := 80) hF (i := Int32.toNatClampNeg (f_fot use src prt 8 s0 p0)) 7 rfl (f_fot_cl (by omega) h32).2 (by omega) d_Ent_note_80 (ws' := [cO e0 3 [.ref a0, .ref e1, .ref e2, .ref e3], cO a0 6 [.ref a1, .ref a2, .ref a3, .int (f_inc cnt (f_new use src prt 8 s0 p0))], cI K a1 8 (f_put src (f_new use src prt 8 s0 p0) s0), cI K a2 8 (f_put prt (f_new use src prt 8 s0 p0) p0), cZ K a3 8 (f_put use (f_new use src prt 8 s0 p0) 1), cI K e1 8 (upd sv (Int32.toNatClampNeg (f_fot use src prt 8 s0 p0)) sv0), cI K e2 8 (upd pat (Int32.toNatClampNeg (f_fot use src prt 8 s0 p0)) (f_pat fl)), cI K e3 8 (upd lu (Int32.toNatClampNeg (f_fot use src prt 8 s0 p0)) t)]) rfl ?_
        exact zx_vret (pc := 81) hF hr hlk (by first | with_reducible rfl | (simp only [f_eput, f_pat, f_enew, f_eslot, f_euse, f_ecnt, f_relu, f_reln, f_put, f_inc, if_pos h3, if_neg h32, if_neg h39]; done) | (simp only [f_eput, f_pat, f_enew, f_eslot, f_euse, f_ecnt, f_relu, f_reln, f_put, f_inc, h3, h32, h39, ↓reduceIte]; done) | simp [f_eput, f_pat, f_enew, f_eslot, f_euse, f_ecnt, f_relu, f_reln, f_put, f_inc, h3, h32, h39]) d_Ent_note_81
      · exact absurd (h3.symm.trans h39) (by decide)
    · exact zx_vret (pc := 35) hF hr hlk (by first | with_reducible rfl | (simp only [f_eput, f_pat, f_enew, f_eslot, f_euse, f_ecnt, f_relu, f_reln, f_put, f_inc, if_pos h3, if_pos h32]; done) | (simp only [f_eput, f_pat, f_enew, f_eslot, f_euse, f_ecnt, f_relu, f_reln, f_put, f_inc, h3, h32, ↓reduceIte]; done) | simp [f_eput, f_pat, f_enew, f_eslot, f_euse, f_ecnt, f_relu, f_reln, f_put, f_inc, h3, h32]) d_Ent_note_35
set_option maxRecDepth 20000 in
theorem M_Ent_removeStale (l : Launch) (D : va_G) (K : Nat → ClassId) (M : List (ClassId × FieldType)) (e0 : Nat) (e1 : Nat) (e2 : Nat) (e3 : Nat) (a0 : Nat) (a1 : Nat) (a2 : Nat) (a3 : Nat) (src : Nat → Int32) (prt : Nat → Int32) (use : Nat → Int32) (cnt : Int32) (sv : Nat → Int32) (pat : Nat → Int32) (lu : Nat → Int32) (t : Int32) (sz : Nat) : zM l y_Ent_removeStale (zT y_Ent_removeStale b_Ent_removeStale 3 none) (zR 1 21) 0 0 D K M [.ref e0, .int t] [cO e0 3 [.ref a0, .ref e1, .ref e2, .ref e3], cO a0 6 [.ref a1, .ref a2, .ref a3, .int cnt], cI K a1 8 src, cI K a2 8 prt, cZ K a3 8 use, cI K e1 8 sv, cI K e2 8 pat, cI K e3 8 lu] sz (zQv D K M [cO e0 3 [.ref a0, .ref e1, .ref e2, .ref e3], cO a0 6 [.ref a1, .ref a2, .ref a3, .int (f_relP (f_old lu pat t) 8 0 use cnt).2], cI K a1 8 src, cI K a2 8 prt, cZ K a3 8 (f_relP (f_old lu pat t) 8 0 use cnt).1, cI K e1 8 sv, cI K e2 8 pat, cI K e3 8 lu]) := by
  refine zx_head (by decide) (Nat.le_of_ble_eq_true rfl) ?_
  intro _ _ _ _ _ _ _ _ _ hF hr hlk hnm
  refine zx_iconst (pc := 0) hF d_Ent_removeStale_0 k_i0 ?_
  refine zx_istore_n (pc := 1) hF (lv' := [(2, .int 0), (0, .ref e0), (1, .int t)]) d_Ent_removeStale_1 rfl (by decide) rfl ?_
  refine zx_lv [1, 2, 0] (lv' := [(0, .ref e0), (1, .int t), (2, .int 0)]) rfl ?_
  refine zx_loop (pc := 2) (σ := Nat × (Nat → Int32) × Int32) (fun k zv => (zv.1 + k = 8) ∧ (f_relP (f_old lu pat t) k zv.1 zv.2.1 zv.2.2 = f_relP (f_old lu pat t) 8 0 use cnt)) (fun zv => [cO e0 3 [.ref a0, .ref e1, .ref e2, .ref e3], cO a0 6 [.ref a1, .ref a2, .ref a3, .int zv.2.2], cI K a1 8 src, cI K a2 8 prt, cZ K a3 8 zv.2.1, cI K e1 8 sv, cI K e2 8 pat, cI K e3 8 lu]) (fun zv => [(0, .ref e0), (1, .int t), (2, .int (nI zv.1))]) 8 (0, use, cnt) ⟨rfl, rfl⟩ rfl rfl ?_
  intro k zv hI ih
  obtain ⟨j, use', cnt'⟩ := zv
  obtain ⟨hk, hX⟩ := hI
  replace hk : j + k = 8 := hk
  replace hX : f_relP (f_old lu pat t) k j use' cnt' = f_relP (f_old lu pat t) 8 0 use cnt := hX
  refine zx_eq (ws' := [cO e0 3 [.ref a0, .ref e1, .ref e2, .ref e3], cO a0 6 [.ref a1, .ref a2, .ref a3, .int cnt'], cI K a1 8 src, cI K a2 8 prt, cZ K a3 8 use', cI K e1 8 sv, cI K e2 8 pat, cI K e3 8 lu]) (lv' := [(0, .ref e0), (1, .int t), (2, .int (nI j))]) rfl rfl rfl ?_
  refine zx_iload_n (pc := 2) hF d_Ent_removeStale_2 rfl 2 rfl ?_
  refine zx_bipush (pc := 3) hF d_Ent_removeStale_3 k_b8 ?_
  refine zx_icmp_ge (pc := 5) hF d_Ent_removeStale_5 (tgt := 39) rfl (fun h5 => ?_) (fun h5 => ?_)
  · replace h5 : 8 ≤ j := (nI_leI (a := 8) (b := j) (by omega) (by omega)).mp h5
    exact zx_vret (pc := 39) hF hr hlk (by obtain rfl : k = 0 := (by omega); rw [← hX]; rfl) d_Ent_removeStale_39
  · replace h5 : ¬ 8 ≤ j := fun z => h5 ((nI_leI (a := 8) (b := j) (by omega) (by omega)).mpr z)
    refine zx_iload_n (pc := 8) hF d_Ent_removeStale_8 rfl 1 rfl ?_
    refine zx_aload_n (pc := 9) hF d_Ent_removeStale_9 rfl 0 rfl ?_
    refine zg_Ent_27 (pc := 10) hF 0 rfl rfl d_Ent_removeStale_10 ?_
    refine zx_iload_n (pc := 13) hF d_Ent_removeStale_13 rfl 2 rfl ?_
    refine zx_ialdn (pc := 14) hF (i := j) 7 rfl (by omega) (by omega) d_Ent_removeStale_14 ?_
    refine zx_isub (pc := 15) hF d_Ent_removeStale_15 ?_
    refine zx_aload_n (pc := 16) hF d_Ent_removeStale_16 rfl 0 rfl ?_
    refine zg_Ent_24 (pc := 17) hF 0 rfl rfl d_Ent_removeStale_17 ?_
    refine zx_iload_n (pc := 20) hF d_Ent_removeStale_20 rfl 2 rfl ?_
    refine zx_ialdn (pc := 21) hF (i := j) 6 rfl (by omega) (by omega) d_Ent_removeStale_21 ?_
    refine zx_icmp_le (pc := 22) hF d_Ent_removeStale_22 (tgt := 33) rfl (fun h22 => ?_) (fun h22 => ?_)
    · refine zx_iinc (pc := 33) hF (v := nI (j + 1)) (lv' := [(2, .int (nI (j + 1))), (0, .ref e0), (1, .int t)]) d_Ent_removeStale_33 2 rfl (zinc j) (by decide) rfl ?_
      refine zx_goto (pc := 36) hF d_Ent_removeStale_36 (tgt := 2) rfl ?_
      refine zx_lv [1, 2, 0] (lv' := [(0, .ref e0), (1, .int t), (2, .int (nI (j + 1)))]) rfl ?_
      exact ih (k - 1) (j + 1, use', cnt') (by omega) ⟨by (try dsimp only); omega, by obtain ⟨k', rfl⟩ : ∃ k', k = k' + 1 := ⟨k - 1, by omega⟩; simpa [f_relP, f_old, f_dn, h5, h22] using hX⟩
    · refine zx_aload_n (pc := 25) hF d_Ent_removeStale_25 rfl 0 rfl ?_
      refine zg_Ent_16 (pc := 26) hF 0 rfl rfl d_Ent_removeStale_26 ?_
      refine zx_iload_n (pc := 29) hF d_Ent_removeStale_29 rfl 2 rfl ?_
      refine zx_Vv (pc := 30) hF (As := [.int (nI j)]) (rest := []) (fun sz => M_Slo_release l D K M a0 a1 a2 a3 8 src prt use' cnt' j (by first | assumption | omega) (by first | assumption | omega) sz) [1, 2, 3, 4] rfl (by decide) (as := [a0, a1, a2, a3]) rfl rfl (ws' := [cO e0 3 [.ref a0, .ref e1, .ref e2, .ref e3], cO a0 6 [.ref a1, .ref a2, .ref a3, .int (f_rn use' cnt' j)], cI K a1 8 src, cI K a2 8 prt, cZ K a3 8 (f_ru use' j), cI K e1 8 sv, cI K e2 8 pat, cI K e3 8 lu]) rfl 0 6 rfl rfl rfl (cw_Ent_37 hF.2.2.2.2.1 rfl rfl ⟨by decide, by decide⟩) rfl rfl (Nat.le_of_ble_eq_true rfl) d_Ent_removeStale_30 ⟨Nat.zero_le _, Nat.zero_le _⟩ ?_
      refine zx_iinc (pc := 33) hF (v := nI (j + 1)) (lv' := [(2, .int (nI (j + 1))), (0, .ref e0), (1, .int t)]) d_Ent_removeStale_33 2 rfl (zinc j) (by decide) rfl ?_
      refine zx_goto (pc := 36) hF d_Ent_removeStale_36 (tgt := 2) rfl ?_
      refine zx_lv [1, 2, 0] (lv' := [(0, .ref e0), (1, .int t), (2, .int (nI (j + 1)))]) rfl ?_
      exact ih (k - 1) (j + 1, f_ru use' j, f_rn use' cnt' j) (by omega) ⟨by (try dsimp only); omega, by obtain ⟨k', rfl⟩ : ∃ k', k = k' + 1 := ⟨k - 1, by omega⟩; simpa [f_relP, f_old, f_dn, h5, h22] using hX⟩
set_option maxRecDepth 20000 in
theorem M_Ent_removeForServersDown (l : Launch) (D : va_G) (K : Nat → ClassId) (M : List (ClassId × FieldType)) (e0 : Nat) (e1 : Nat) (e2 : Nat) (e3 : Nat) (a0 : Nat) (a1 : Nat) (a2 : Nat) (a3 : Nat) (src : Nat → Int32) (prt : Nat → Int32) (use : Nat → Int32) (cnt : Int32) (sv : Nat → Int32) (pat : Nat → Int32) (lu : Nat → Int32) (w0 : Nat) (w1 : Nat) (w2 : Nat) (n : Nat) (up : Nat → Int32) (con : Nat → Int32) (hn : n < 2 ^ 31) (hu : z01 up) (hv : ∀ j, j < 8 → vp_in (sv j) n) (sz : Nat) : zM l y_Ent_removeForServersDown (zT y_Ent_removeForServersDown b_Ent_removeForServersDown 3 none) (zR 1 21) 0 0 D K M [.ref e0, .ref w0] [cO e0 3 [.ref a0, .ref e1, .ref e2, .ref e3], cO a0 6 [.ref a1, .ref a2, .ref a3, .int cnt], cI K a1 8 src, cI K a2 8 prt, cZ K a3 8 use, cI K e1 8 sv, cI K e2 8 pat, cI K e3 8 lu, cO w0 9 [.ref w1, .ref w2], cZ K w1 n up, cI K w2 n con] sz (zQv D K M [cO e0 3 [.ref a0, .ref e1, .ref e2, .ref e3], cO a0 6 [.ref a1, .ref a2, .ref a3, .int (f_relP (f_dn up sv) 8 0 use cnt).2], cI K a1 8 src, cI K a2 8 prt, cZ K a3 8 (f_relP (f_dn up sv) 8 0 use cnt).1, cI K e1 8 sv, cI K e2 8 pat, cI K e3 8 lu, cO w0 9 [.ref w1, .ref w2], cZ K w1 n up, cI K w2 n con]) := by
  refine zx_head (by decide) (Nat.le_of_ble_eq_true rfl) ?_
  intro _ _ _ _ _ _ _ _ _ hF hr hlk hnm
  refine zx_iconst (pc := 0) hF d_Ent_removeForServersDown_0 k_i0 ?_
  refine zx_istore_n (pc := 1) hF (lv' := [(2, .int 0), (0, .ref e0), (1, .ref w0)]) d_Ent_removeForServersDown_1 rfl (by decide) rfl ?_
  refine zx_lv [1, 2, 0] (lv' := [(0, .ref e0), (1, .ref w0), (2, .int 0)]) rfl ?_
  refine zx_loop (pc := 2) (σ := Nat × (Nat → Int32) × Int32) (fun k zv => (zv.1 + k = 8) ∧ (f_relP (f_dn up sv) k zv.1 zv.2.1 zv.2.2 = f_relP (f_dn up sv) 8 0 use cnt)) (fun zv => [cO e0 3 [.ref a0, .ref e1, .ref e2, .ref e3], cO a0 6 [.ref a1, .ref a2, .ref a3, .int zv.2.2], cI K a1 8 src, cI K a2 8 prt, cZ K a3 8 zv.2.1, cI K e1 8 sv, cI K e2 8 pat, cI K e3 8 lu, cO w0 9 [.ref w1, .ref w2], cZ K w1 n up, cI K w2 n con]) (fun zv => [(0, .ref e0), (1, .ref w0), (2, .int (nI zv.1))]) 8 (0, use, cnt) ⟨rfl, rfl⟩ rfl rfl ?_
  intro k zv hI ih
  obtain ⟨j, use', cnt'⟩ := zv
  obtain ⟨hk, hX⟩ := hI
  replace hk : j + k = 8 := hk
  replace hX : f_relP (f_dn up sv) k j use' cnt' = f_relP (f_dn up sv) 8 0 use cnt := hX
  refine zx_eq (ws' := [cO e0 3 [.ref a0, .ref e1, .ref e2, .ref e3], cO a0 6 [.ref a1, .ref a2, .ref a3, .int cnt'], cI K a1 8 src, cI K a2 8 prt, cZ K a3 8 use', cI K e1 8 sv, cI K e2 8 pat, cI K e3 8 lu, cO w0 9 [.ref w1, .ref w2], cZ K w1 n up, cI K w2 n con]) (lv' := [(0, .ref e0), (1, .ref w0), (2, .int (nI j))]) rfl rfl rfl ?_
  refine zx_iload_n (pc := 2) hF d_Ent_removeForServersDown_2 rfl 2 rfl ?_
  refine zx_bipush (pc := 3) hF d_Ent_removeForServersDown_3 k_b8 ?_
  refine zx_icmp_ge (pc := 5) hF d_Ent_removeForServersDown_5 (tgt := 35) rfl (fun h5 => ?_) (fun h5 => ?_)
  · replace h5 : 8 ≤ j := (nI_leI (a := 8) (b := j) (by omega) (by omega)).mp h5
    exact zx_vret (pc := 35) hF hr hlk (by obtain rfl : k = 0 := (by omega); rw [← hX]; rfl) d_Ent_removeForServersDown_35
  · replace h5 : ¬ 8 ≤ j := fun z => h5 ((nI_leI (a := 8) (b := j) (by omega) (by omega)).mpr z)
    refine zx_aload_n (pc := 8) hF d_Ent_removeForServersDown_8 rfl 1 rfl ?_
    refine zx_aload_n (pc := 9) hF d_Ent_removeForServersDown_9 rfl 0 rfl ?_
    refine zg_Ent_20 (pc := 10) hF 0 rfl rfl d_Ent_removeForServersDown_10 ?_
    refine zx_iload_n (pc := 13) hF d_Ent_removeForServersDown_13 rfl 2 rfl ?_
    refine zx_ialdn (pc := 14) hF (i := j) 5 rfl (by omega) (by omega) d_Ent_removeForServersDown_14 ?_
    refine zx_topi (nI (Int32.toNatClampNeg (sv j))) ((zcl hn (hv j (by omega))).1) ?_
    refine zx_Vi (pc := 15) hF (As := [.int (nI (Int32.toNatClampNeg (sv j)))]) (rest := []) (fun sz => M_Wat_isUp l D K M w0 w1 w2 n up con (Int32.toNatClampNeg (sv j)) (zcl hn (hv j (by omega))).2 (by first | assumption | omega) (by first | assumption | omega) sz) [8, 9, 10] rfl (by decide) (as := [w0, w1, w2]) rfl rfl (ws' := [cO e0 3 [.ref a0, .ref e1, .ref e2, .ref e3], cO a0 6 [.ref a1, .ref a2, .ref a3, .int cnt'], cI K a1 8 src, cI K a2 8 prt, cZ K a3 8 use', cI K e1 8 sv, cI K e2 8 pat, cI K e3 8 lu, cO w0 9 [.ref w1, .ref w2], cZ K w1 n up, cI K w2 n con]) rfl 0 9 rfl rfl rfl (cw_Ent_44 hF.2.2.2.2.1 rfl rfl ⟨by decide, by decide⟩) rfl rfl (Nat.le_of_ble_eq_true rfl) d_Ent_removeForServersDown_15 ⟨Nat.zero_le _, Nat.zero_le _⟩ ?_
    refine zx_if_ne (pc := 18) hF d_Ent_removeForServersDown_18 (tgt := 29) rfl (fun h18 => ?_) (fun h18 => ?_)
    · refine zx_iinc (pc := 29) hF (v := nI (j + 1)) (lv' := [(2, .int (nI (j + 1))), (0, .ref e0), (1, .ref w0)]) d_Ent_removeForServersDown_29 2 rfl (zinc j) (by decide) rfl ?_
      refine zx_goto (pc := 32) hF d_Ent_removeForServersDown_32 (tgt := 2) rfl ?_
      refine zx_lv [1, 2, 0] (lv' := [(0, .ref e0), (1, .ref w0), (2, .int (nI (j + 1)))]) rfl ?_
      exact ih (k - 1) (j + 1, use', cnt') (by omega) ⟨by (try dsimp only); omega, by obtain ⟨k', rfl⟩ : ∃ k', k = k' + 1 := ⟨k - 1, by omega⟩; simpa [f_relP, f_old, f_dn, h5, h18] using hX⟩
    · refine zx_aload_n (pc := 21) hF d_Ent_removeForServersDown_21 rfl 0 rfl ?_
      refine zg_Ent_16 (pc := 22) hF 0 rfl rfl d_Ent_removeForServersDown_22 ?_
      refine zx_iload_n (pc := 25) hF d_Ent_removeForServersDown_25 rfl 2 rfl ?_
      refine zx_Vv (pc := 26) hF (As := [.int (nI j)]) (rest := []) (fun sz => M_Slo_release l D K M a0 a1 a2 a3 8 src prt use' cnt' j (by first | assumption | omega) (by first | assumption | omega) sz) [1, 2, 3, 4] rfl (by decide) (as := [a0, a1, a2, a3]) rfl rfl (ws' := [cO e0 3 [.ref a0, .ref e1, .ref e2, .ref e3], cO a0 6 [.ref a1, .ref a2, .ref a3, .int (f_rn use' cnt' j)], cI K a1 8 src, cI K a2 8 prt, cZ K a3 8 (f_ru use' j), cI K e1 8 sv, cI K e2 8 pat, cI K e3 8 lu, cO w0 9 [.ref w1, .ref w2], cZ K w1 n up, cI K w2 n con]) rfl 0 6 rfl rfl rfl (cw_Ent_37 hF.2.2.2.2.1 rfl rfl ⟨by decide, by decide⟩) rfl rfl (Nat.le_of_ble_eq_true rfl) d_Ent_removeForServersDown_26 ⟨Nat.zero_le _, Nat.zero_le _⟩ ?_
      refine zx_iinc (pc := 29) hF (v := nI (j + 1)) (lv' := [(2, .int (nI (j + 1))), (0, .ref e0), (1, .ref w0)]) d_Ent_removeForServersDown_29 2 rfl (zinc j) (by decide) rfl ?_
      refine zx_goto (pc := 32) hF d_Ent_removeForServersDown_32 (tgt := 2) rfl ?_
      refine zx_lv [1, 2, 0] (lv' := [(0, .ref e0), (1, .ref w0), (2, .int (nI (j + 1)))]) rfl ?_
      exact ih (k - 1) (j + 1, f_ru use' j, f_rn use' cnt' j) (by omega) ⟨by (try dsimp only); omega, by obtain ⟨k', rfl⟩ : ∃ k', k = k' + 1 := ⟨k - 1, by omega⟩; simpa [f_relP, f_old, f_dn, h5, h18] using hX⟩
set_option maxRecDepth 20000 in
theorem M_Srv_setOn (l : Launch) (D : va_G) (K : Nat → ClassId) (M : List (ClassId × FieldType)) (v0 : Nat) (v1 : Nat) (v2 : Nat) (t0 : Nat) (a0 : Nat) (a1 : Nat) (a2 : Nat) (a3 : Nat) (src : Nat → Int32) (prt : Nat → Int32) (use : Nat → Int32) (cnt : Int32) (on : Int32) (tk : Int32) (nx : Nat → Int32) (dt : Nat → Int32) (o : Int32) (ho : o = 0 ∨ o = 1) (sz : Nat) : zM l y_Srv_setOn (zT y_Srv_setOn b_Srv_setOn 2 (some .boolean)) (zR 2 42) 0 0 D K M [.ref v0, .int o] [cO v0 5 [.ref a0, .ref t0, .int on, .int tk, .ref v1, .ref v2], cO a0 6 [.ref a1, .ref a2, .ref a3, .int cnt], cI K a1 10 src, cI K a2 10 prt, cZ K a3 10 use, cI K v1 10 nx, cI K v2 10 dt] sz (zQi D K M (f_seton on o) [cO v0 5 [.ref a0, .ref t0, .int o, .int tk, .ref v1, .ref v2], cO a0 6 [.ref a1, .ref a2, .ref a3, .int (f_onuse on o use cnt).2], cI K a1 10 src, cI K a2 10 prt, cZ K a3 10 (f_onuse on o use cnt).1, cI K v1 10 nx, cI K v2 10 dt]) := by
  refine zx_head (by decide) (Nat.le_of_ble_eq_true rfl) ?_
  intro _ _ _ _ _ _ _ _ _ hF hr hlk hnm
  refine zx_aload_n (pc := 0) hF d_Srv_setOn_0 rfl 0 rfl ?_
  refine zg_Srv_27 (pc := 1) hF 0 rfl rfl d_Srv_setOn_1 ?_
  refine zx_iload_n (pc := 4) hF d_Srv_setOn_4 rfl 1 rfl ?_
  refine zx_icmp_ne (pc := 5) hF d_Srv_setOn_5 (tgt := 10) rfl (fun h5 => ?_) (fun h5 => ?_)
  · refine zx_aload_n (pc := 10) hF d_Srv_setOn_10 rfl 0 rfl ?_
    refine zx_iload_n (pc := 11) hF d_Srv_setOn_11 rfl 1 rfl ?_
    refine zp_Srv_27 (pc := 12) hF 0 rfl ho (Nat.le_of_ble_eq_true rfl) d_Srv_setOn_12 (ws' := [cO v0 5 [.ref a0, .ref t0, .int o, .int tk, .ref v1, .ref v2], cO a0 6 [.ref a1, .ref a2, .ref a3, .int cnt], cI K a1 10 src, cI K a2 10 prt, cZ K a3 10 use, cI K v1 10 nx, cI K v2 10 dt]) rfl ?_
    refine zx_iload_n (pc := 15) hF d_Srv_setOn_15 rfl 1 rfl ?_
    refine zx_if_ne (pc := 16) hF d_Srv_setOn_16 (tgt := 26) rfl (fun h16 => ?_) (fun h16 => ?_)
    · refine zx_iconst (pc := 26) hF d_Srv_setOn_26 k_i1 ?_
      exact zx_zret (pc := 27) hF hr hlk rfl (by first | with_reducible rfl | (simp only [f_seton, f_onuse, if_neg h5, if_neg h16]; done) | (simp only [f_seton, f_onuse, h5, h16, ↓reduceIte]; done) | simp [f_seton, f_onuse, h5, h16]) (by first | with_reducible rfl | (simp only [f_seton, f_onuse, if_neg h5, if_neg h16]; done) | (simp only [f_seton, f_onuse, h5, h16, ↓reduceIte]; done) | simp [f_seton, f_onuse, h5, h16]) d_Srv_setOn_27
    · refine zx_aload_n (pc := 19) hF d_Srv_setOn_19 rfl 0 rfl ?_
      refine zg_Srv_16 (pc := 20) hF 0 rfl rfl d_Srv_setOn_20 ?_
      refine zx_Vv (pc := 23) hF (As := []) (rest := []) (fun sz => M_Slo_releaseAll l D K M a0 a1 a2 a3 10 src prt use cnt (by first | assumption | omega) sz) [1, 2, 3, 4] rfl (by decide) (as := [a0, a1, a2, a3]) rfl rfl (ws' := [cO v0 5 [.ref a0, .ref t0, .int o, .int tk, .ref v1, .ref v2], cO a0 6 [.ref a1, .ref a2, .ref a3, .int (f_all 10 0 use cnt).2], cI K a1 10 src, cI K a2 10 prt, cZ K a3 10 (f_all 10 0 use cnt).1, cI K v1 10 nx, cI K v2 10 dt]) rfl 0 6 rfl rfl rfl (cw_Srv_38 hF.2.2.2.2.1 rfl rfl ⟨by decide, by decide⟩) rfl rfl (Nat.le_of_ble_eq_true rfl) d_Srv_setOn_23 ⟨Nat.zero_le _, Nat.zero_le _⟩ ?_
      refine zx_iconst (pc := 26) hF d_Srv_setOn_26 k_i1 ?_
      exact zx_zret (pc := 27) hF hr hlk rfl (by first | with_reducible rfl | (simp only [f_seton, f_onuse, if_neg h5, if_pos h16]; done) | (simp only [f_seton, f_onuse, h5, h16, ↓reduceIte]; done) | simp [f_seton, f_onuse, h5, h16]) (by first | with_reducible rfl | (simp only [f_seton, f_onuse, if_neg h5, if_pos h16]; done) | (simp only [f_seton, f_onuse, h5, h16, ↓reduceIte]; done) | simp [f_seton, f_onuse, h5, h16]) d_Srv_setOn_27
  · refine zx_iconst (pc := 8) hF d_Srv_setOn_8 k_i0 ?_
    exact zx_zret (pc := 9) hF hr hlk rfl (by first | with_reducible rfl | (simp only [f_seton, f_onuse, if_pos h5]; done) | (simp only [f_seton, f_onuse, h5, ↓reduceIte]; done) | simp [f_seton, f_onuse, h5]) (by first | with_reducible rfl | (simp only [f_seton, f_onuse, if_pos h5]; done) | (simp only [f_seton, f_onuse, h5, ↓reduceIte]; done) | simp [f_seton, f_onuse, h5]) d_Srv_setOn_9
set_option maxRecDepth 20000 in
theorem M_Srv_greet (l : Launch) (D : va_G) (K : Nat → ClassId) (M : List (ClassId × FieldType)) (v0 : Nat) (v1 : Nat) (v2 : Nat) (t0 : Nat) (a0 : Nat) (a1 : Nat) (a2 : Nat) (a3 : Nat) (src : Nat → Int32) (prt : Nat → Int32) (use : Nat → Int32) (cnt : Int32) (on : Int32) (tk : Int32) (nx : Nat → Int32) (dt : Nat → Int32) (j : Int32) (sq : Int32) (hj : ¬ j = -1 → vp_in j 10) (sz : Nat) : zM l y_Srv_greet (zT y_Srv_greet b_Srv_greet 3 (some .int)) (zR 0 0) 0 0 D K M [.ref v0, .int j, .int sq] [cO v0 5 [.ref a0, .ref t0, .int on, .int tk, .ref v1, .ref v2], cO a0 6 [.ref a1, .ref a2, .ref a3, .int cnt], cI K a1 10 src, cI K a2 10 prt, cZ K a3 10 use, cI K v1 10 nx, cI K v2 10 dt] sz (zQi D K M (f_gr j) [cO v0 5 [.ref a0, .ref t0, .int on, .int tk, .ref v1, .ref v2], cO a0 6 [.ref a1, .ref a2, .ref a3, .int cnt], cI K a1 10 src, cI K a2 10 prt, cZ K a3 10 use, cI K v1 10 (f_put nx j (sq + 1)), cI K v2 10 (f_put dt j 0)]) := by
  refine zx_head (by decide) (Nat.le_of_ble_eq_true rfl) ?_
  intro _ _ _ _ _ _ _ _ _ hF hr hlk hnm
  refine zx_iload_n (pc := 0) hF d_Srv_greet_0 rfl 1 rfl ?_
  refine zx_iconst (pc := 1) hF d_Srv_greet_1 k_im1 ?_
  refine zx_icmp_ne (pc := 2) hF d_Srv_greet_2 (tgt := 7) rfl (fun h2 => ?_) (fun h2 => ?_)
  · refine zx_aload_n (pc := 7) hF d_Srv_greet_7 rfl 0 rfl ?_
    refine zg_Srv_31 (pc := 8) hF 0 rfl rfl d_Srv_greet_8 ?_
    refine zx_iload_n (pc := 11) hF d_Srv_greet_11 rfl 1 rfl ?_
    refine zx_iload_n (pc := 12) hF d_Srv_greet_12 rfl 2 rfl ?_
    refine zx_iconst (pc := 13) hF d_Srv_greet_13 k_i1 ?_
    refine zx_iadd (pc := 14) hF d_Srv_greet_14 ?_
    refine zx_iast (pc := 15) hF 5 rfl (hj h2) d_Srv_greet_15 (ws' := [cO v0 5 [.ref a0, .ref t0, .int on, .int tk, .ref v1, .ref v2], cO a0 6 [.ref a1, .ref a2, .ref a3, .int cnt], cI K a1 10 src, cI K a2 10 prt, cZ K a3 10 use, cI K v1 10 (upd nx (Int32.toNatClampNeg j) (sq + 1)), cI K v2 10 dt]) rfl ?_
    refine zx_aload_n (pc := 16) hF d_Srv_greet_16 rfl 0 rfl ?_
    refine zg_Srv_35 (pc := 17) hF 0 rfl rfl d_Srv_greet_17 ?_
    refine zx_iload_n (pc := 20) hF d_Srv_greet_20 rfl 1 rfl ?_
    refine zx_iconst (pc := 21) hF d_Srv_greet_21 k_i0 ?_
    refine zx_iast (pc := 22) hF 6 rfl (hj h2) d_Srv_greet_22 (ws' := [cO v0 5 [.ref a0, .ref t0, .int on, .int tk, .ref v1, .ref v2], cO a0 6 [.ref a1, .ref a2, .ref a3, .int cnt], cI K a1 10 src, cI K a2 10 prt, cZ K a3 10 use, cI K v1 10 (upd nx (Int32.toNatClampNeg j) (sq + 1)), cI K v2 10 (upd dt (Int32.toNatClampNeg j) 0)]) rfl ?_
    refine zx_iconst (pc := 23) hF d_Srv_greet_23 k_i1 ?_
    exact zx_iret (pc := 24) hF hr hlk (by first | with_reducible rfl | (simp only [f_gr, f_put, if_neg h2]; done) | (simp only [f_gr, f_put, h2, ↓reduceIte]; done) | simp [f_gr, f_put, h2]) (by first | with_reducible rfl | (simp only [f_gr, f_put, if_neg h2]; done) | (simp only [f_gr, f_put, h2, ↓reduceIte]; done) | simp [f_gr, f_put, h2]) d_Srv_greet_24
  · refine zx_iconst (pc := 5) hF d_Srv_greet_5 k_i4 ?_
    exact zx_iret (pc := 6) hF hr hlk (by first | with_reducible rfl | (simp only [f_gr, f_put, if_pos h2]; done) | (simp only [f_gr, f_put, h2, ↓reduceIte]; done) | simp [f_gr, f_put, h2]) (by first | with_reducible rfl | (simp only [f_gr, f_put, if_pos h2]; done) | (simp only [f_gr, f_put, h2, ↓reduceIte]; done) | simp [f_gr, f_put, h2]) d_Srv_greet_6
end
section
set_option maxRecDepth 20000 in
theorem M_Srv_goOn (l : Launch) (D : va_G) (K : Nat → ClassId) (M : List (ClassId × FieldType)) (v0 : Nat) (v1 : Nat) (v2 : Nat) (t0 : Nat) (a0 : Nat) (a1 : Nat) (a2 : Nat) (a3 : Nat) (src : Nat → Int32) (prt : Nat → Int32) (use : Nat → Int32) (cnt : Int32) (on : Int32) (tk : Int32) (nx : Nat → Int32) (dt : Nat → Int32) (j : Nat) (sq : Int32) (fl : Int32) (hj : j < 10) (sz : Nat) : zM l y_Srv_goOn (zT y_Srv_goOn b_Srv_goOn 5 (some .int)) (zR 1 21) 0 0 D K M [.ref v0, .int (nI j), .int sq, .int fl] [cO v0 5 [.ref a0, .ref t0, .int on, .int tk, .ref v1, .ref v2], cO a0 6 [.ref a1, .ref a2, .ref a3, .int cnt], cI K a1 10 src, cI K a2 10 prt, cZ K a3 10 use, cI K v1 10 nx, cI K v2 10 dt] sz (zQi D K M (f_gor nx j sq fl) [cO v0 5 [.ref a0, .ref t0, .int on, .int (f_goi nx dt j sq fl j), .ref v1, .ref v2], cO a0 6 [.ref a1, .ref a2, .ref a3, .int (f_gon nx use cnt j sq fl)], cI K a1 10 src, cI K a2 10 prt, cZ K a3 10 (f_gou nx use j sq fl), cI K v1 10 (f_goi nx nx j sq fl), cI K v2 10 (f_goi nx dt j sq fl)]) := by
  refine zx_head (by decide) (Nat.le_of_ble_eq_true rfl) ?_
  intro _ _ _ _ _ _ _ _ _ hF hr hlk hnm
  refine zx_iload_n (pc := 0) hF d_Srv_goOn_0 rfl 2 rfl ?_
  refine zx_aload_n (pc := 1) hF d_Srv_goOn_1 rfl 0 rfl ?_
  refine zg_Srv_31 (pc := 2) hF 0 rfl rfl d_Srv_goOn_2 ?_
  refine zx_iload_n (pc := 5) hF d_Srv_goOn_5 rfl 1 rfl ?_
  refine zx_ialdn (pc := 6) hF (i := j) 5 rfl (by omega) (by omega) d_Srv_goOn_6 ?_
  refine zx_icmp_ne (pc := 7) hF d_Srv_goOn_7 (tgt := 14) rfl (fun h7 => ?_) (fun h7 => ?_)
  · refine zx_iconst (pc := 14) hF d_Srv_goOn_14 k_i0 ?_
    refine zx_istore (pc := 15) hF (lv' := [(4, .int 0), (0, .ref v0), (1, .int (nI j)), (2, .int sq), (3, .int fl)]) d_Srv_goOn_15 (by decide) rfl ?_
    refine zx_iload (pc := 17) hF d_Srv_goOn_17 0 rfl ?_
    refine zx_if_eq (pc := 19) hF d_Srv_goOn_19 (tgt := 48) rfl (fun h19 => ?_) (fun h19 => ?_)
    · refine zx_aload_n (pc := 48) hF d_Srv_goOn_48 rfl 1 rfl ?_
      refine zx_aload_n (pc := 49) hF d_Srv_goOn_49 rfl 1 rfl ?_
      refine zg_Srv_35 (pc := 50) hF 0 rfl rfl d_Srv_goOn_50 ?_
      refine zx_iload_n (pc := 53) hF d_Srv_goOn_53 rfl 2 rfl ?_
      refine zx_ialdn (pc := 54) hF (i := j) 6 rfl (by omega) (by omega) d_Srv_goOn_54 ?_
      refine zp_Srv_41 (pc := 55) hF 0 rfl (Nat.le_of_ble_eq_true rfl) d_Srv_goOn_55 (ws' := [cO v0 5 [.ref a0, .ref t0, .int on, .int (dt j), .ref v1, .ref v2], cO a0 6 [.ref a1, .ref a2, .ref a3, .int cnt], cI K a1 10 src, cI K a2 10 prt, cZ K a3 10 use, cI K v1 10 nx, cI K v2 10 dt]) rfl ?_
      refine zx_iload (pc := 58) hF d_Srv_goOn_58 0 rfl ?_
      refine zx_if_ne (pc := 60) hF d_Srv_goOn_60 (tgt := 65) rfl (fun h60 => ?_) (fun h60 => ?_)
      · exact absurd h60 (by decide)
      · refine zx_iconst (pc := 63) hF d_Srv_goOn_63 k_i3 ?_
        exact zx_iret (pc := 64) hF hr hlk (by first | with_reducible rfl | (simp only [f_gor, f_goi, f_gou, f_gon, pk_us, if_neg h7]; done) | (simp only [f_gor, f_goi, f_gou, f_gon, pk_us, h7, ↓reduceIte]; done) | simp [f_gor, f_goi, f_gou, f_gon, pk_us, h7]) (by first | with_reducible rfl | (simp only [f_gor, f_goi, f_gou, f_gon, pk_us, if_neg h7]; done) | (simp only [f_gor, f_goi, f_gou, f_gon, pk_us, h7, ↓reduceIte]; done) | simp [f_gor, f_goi, f_gou, f_gon, pk_us, h7]) d_Srv_goOn_64
    · exact absurd h19 (by decide)
  · refine zx_iconst (pc := 10) hF d_Srv_goOn_10 k_i1 ?_
    refine zx_goto (pc := 11) hF d_Srv_goOn_11 (tgt := 15) rfl ?_
    refine zx_istore (pc := 15) hF (lv' := [(4, .int 1), (0, .ref v0), (1, .int (nI j)), (2, .int sq), (3, .int fl)]) d_Srv_goOn_15 (by decide) rfl ?_
    refine zx_iload (pc := 17) hF d_Srv_goOn_17 0 rfl ?_
    refine zx_if_eq (pc := 19) hF d_Srv_goOn_19 (tgt := 48) rfl (fun h19 => ?_) (fun h19 => ?_)
    · exact absurd h19 (by decide)
    · refine zx_iload_n (pc := 22) hF d_Srv_goOn_22 rfl 4 rfl ?_
      refine zx_bipush (pc := 23) hF d_Srv_goOn_23 k_b16 ?_
      refine zx_icmp_ne (pc := 25) hF d_Srv_goOn_25 (tgt := 48) rfl (fun h25 => ?_) (fun h25 => ?_)
      · refine zx_aload_n (pc := 48) hF d_Srv_goOn_48 rfl 1 rfl ?_
        refine zx_aload_n (pc := 49) hF d_Srv_goOn_49 rfl 1 rfl ?_
        refine zg_Srv_35 (pc := 50) hF 0 rfl rfl d_Srv_goOn_50 ?_
        refine zx_iload_n (pc := 53) hF d_Srv_goOn_53 rfl 2 rfl ?_
        refine zx_ialdn (pc := 54) hF (i := j) 6 rfl (by omega) (by omega) d_Srv_goOn_54 ?_
        refine zp_Srv_41 (pc := 55) hF 0 rfl (Nat.le_of_ble_eq_true rfl) d_Srv_goOn_55 (ws' := [cO v0 5 [.ref a0, .ref t0, .int on, .int (dt j), .ref v1, .ref v2], cO a0 6 [.ref a1, .ref a2, .ref a3, .int cnt], cI K a1 10 src, cI K a2 10 prt, cZ K a3 10 use, cI K v1 10 nx, cI K v2 10 dt]) rfl ?_
        refine zx_iload (pc := 58) hF d_Srv_goOn_58 0 rfl ?_
        refine zx_if_ne (pc := 60) hF d_Srv_goOn_60 (tgt := 65) rfl (fun h60 => ?_) (fun h60 => ?_)
        · refine zx_iload_n (pc := 65) hF d_Srv_goOn_65 rfl 4 rfl ?_
          refine zx_bipush (pc := 66) hF d_Srv_goOn_66 k_b16 ?_
          refine zx_icmp_ne (pc := 68) hF d_Srv_goOn_68 (tgt := 73) rfl (fun h68 => ?_) (fun h68 => ?_)
          · refine zx_aload_n (pc := 73) hF d_Srv_goOn_73 rfl 1 rfl ?_
            refine zg_Srv_16 (pc := 74) hF 0 rfl rfl d_Srv_goOn_74 ?_
            refine zx_iload_n (pc := 77) hF d_Srv_goOn_77 rfl 2 rfl ?_
            refine zx_Vv (pc := 78) hF (As := [.int (nI j)]) (rest := []) (fun sz => M_Slo_release l D K M a0 a1 a2 a3 10 src prt use cnt j (by first | assumption | omega) (by first | assumption | omega) sz) [1, 2, 3, 4] rfl (by decide) (as := [a0, a1, a2, a3]) rfl rfl (ws' := [cO v0 5 [.ref a0, .ref t0, .int on, .int (dt j), .ref v1, .ref v2], cO a0 6 [.ref a1, .ref a2, .ref a3, .int (f_rn use cnt j)], cI K a1 10 src, cI K a2 10 prt, cZ K a3 10 (f_ru use j), cI K v1 10 nx, cI K v2 10 dt]) rfl 0 6 rfl rfl rfl (cw_Srv_55 hF.2.2.2.2.1 rfl rfl ⟨by decide, by decide⟩) rfl rfl (Nat.le_of_ble_eq_true rfl) d_Srv_goOn_78 ⟨Nat.zero_le _, Nat.zero_le _⟩ ?_
            refine zx_iconst (pc := 81) hF d_Srv_goOn_81 k_i5 ?_
            exact zx_iret (pc := 82) hF hr hlk (by first | with_reducible rfl | (simp only [f_gor, f_goi, f_gou, f_gon, pk_us, if_pos h7, if_neg h25, if_neg h68]; done) | (simp only [f_gor, f_goi, f_gou, f_gon, pk_us, h7, h25, h68, ↓reduceIte]; done) | simp [f_gor, f_goi, f_gou, f_gon, pk_us, h7, h25, h68]) (by first | with_reducible rfl | (simp only [f_gor, f_goi, f_gou, f_gon, pk_us, if_pos h7, if_neg h25, if_neg h68]; done) | (simp only [f_gor, f_goi, f_gou, f_gon, pk_us, h7, h25, h68, ↓reduceIte]; done) | simp [f_gor, f_goi, f_gou, f_gon, pk_us, h7, h25, h68]) d_Srv_goOn_82
          · exact absurd h68 h25
        · exact absurd h60 (by decide)
      · refine zx_aload_n (pc := 28) hF d_Srv_goOn_28 rfl 1 rfl ?_
        refine zg_Srv_31 (pc := 29) hF 0 rfl rfl d_Srv_goOn_29 ?_
        refine zx_iload_n (pc := 32) hF d_Srv_goOn_32 rfl 2 rfl ?_
        refine zx_dup2 (pc := 33) hF d_Srv_goOn_33 rfl rfl ?_
        refine zx_ialdn (pc := 34) hF (i := j) 5 rfl (by omega) (by omega) d_Srv_goOn_34 ?_
        refine zx_iconst (pc := 35) hF d_Srv_goOn_35 k_i1 ?_
        refine zx_iadd (pc := 36) hF d_Srv_goOn_36 ?_
        refine zx_iastn (pc := 37) hF (i := j) 5 rfl (by omega) (by omega) d_Srv_goOn_37 (ws' := [cO v0 5 [.ref a0, .ref t0, .int on, .int tk, .ref v1, .ref v2], cO a0 6 [.ref a1, .ref a2, .ref a3, .int cnt], cI K a1 10 src, cI K a2 10 prt, cZ K a3 10 use, cI K v1 10 (upd nx j ((nx j) + 1)), cI K v2 10 dt]) rfl ?_
        refine zx_aload_n (pc := 38) hF d_Srv_goOn_38 rfl 1 rfl ?_
        refine zg_Srv_35 (pc := 39) hF 0 rfl rfl d_Srv_goOn_39 ?_
        refine zx_iload_n (pc := 42) hF d_Srv_goOn_42 rfl 2 rfl ?_
        refine zx_dup2 (pc := 43) hF d_Srv_goOn_43 rfl rfl ?_
        refine zx_ialdn (pc := 44) hF (i := j) 6 rfl (by omega) (by omega) d_Srv_goOn_44 ?_
        refine zx_iconst (pc := 45) hF d_Srv_goOn_45 k_i1 ?_
        refine zx_iadd (pc := 46) hF d_Srv_goOn_46 ?_
        refine zx_iastn (pc := 47) hF (i := j) 6 rfl (by omega) (by omega) d_Srv_goOn_47 (ws' := [cO v0 5 [.ref a0, .ref t0, .int on, .int tk, .ref v1, .ref v2], cO a0 6 [.ref a1, .ref a2, .ref a3, .int cnt], cI K a1 10 src, cI K a2 10 prt, cZ K a3 10 use, cI K v1 10 (upd nx j ((nx j) + 1)), cI K v2 10 (upd dt j ((dt j) + 1))]) rfl ?_
        refine zx_aload_n (pc := 48) hF d_Srv_goOn_48 rfl 1 rfl ?_
        refine zx_aload_n (pc := 49) hF d_Srv_goOn_49 rfl 1 rfl ?_
        refine zg_Srv_35 (pc := 50) hF 0 rfl rfl d_Srv_goOn_50 ?_
        refine zx_iload_n (pc := 53) hF d_Srv_goOn_53 rfl 2 rfl ?_
        refine zx_ialdn (pc := 54) hF (i := j) 6 rfl (by omega) (by omega) d_Srv_goOn_54 ?_
        refine zx_topi ((dt j) + 1) (pk_us) ?_
        refine zp_Srv_41 (pc := 55) hF 0 rfl (Nat.le_of_ble_eq_true rfl) d_Srv_goOn_55 (ws' := [cO v0 5 [.ref a0, .ref t0, .int on, .int ((dt j) + 1), .ref v1, .ref v2], cO a0 6 [.ref a1, .ref a2, .ref a3, .int cnt], cI K a1 10 src, cI K a2 10 prt, cZ K a3 10 use, cI K v1 10 (upd nx j ((nx j) + 1)), cI K v2 10 (upd dt j ((dt j) + 1))]) rfl ?_
        refine zx_iload (pc := 58) hF d_Srv_goOn_58 0 rfl ?_
        refine zx_if_ne (pc := 60) hF d_Srv_goOn_60 (tgt := 65) rfl (fun h60 => ?_) (fun h60 => ?_)
        · refine zx_iload_n (pc := 65) hF d_Srv_goOn_65 rfl 4 rfl ?_
          refine zx_bipush (pc := 66) hF d_Srv_goOn_66 k_b16 ?_
          refine zx_icmp_ne (pc := 68) hF d_Srv_goOn_68 (tgt := 73) rfl (fun h68 => ?_) (fun h68 => ?_)
          · exact absurd h25 h68
          · refine zx_iconst (pc := 71) hF d_Srv_goOn_71 k_i2 ?_
            exact zx_iret (pc := 72) hF hr hlk (by first | with_reducible rfl | (simp only [f_gor, f_goi, f_gou, f_gon, pk_us, if_pos h7, if_pos h25, if_pos h68]; done) | (simp only [f_gor, f_goi, f_gou, f_gon, pk_us, h7, h25, h68, ↓reduceIte]; done) | simp [f_gor, f_goi, f_gou, f_gon, pk_us, h7, h25, h68]) (by first | with_reducible rfl | (simp only [f_gor, f_goi, f_gou, f_gon, pk_us, if_pos h7, if_pos h25, if_pos h68]; done) | (simp only [f_gor, f_goi, f_gou, f_gon, pk_us, h7, h25, h68, ↓reduceIte]; done) | simp [f_gor, f_goi, f_gou, f_gon, pk_us, h7, h25, h68]) d_Srv_goOn_72
        · exact absurd h60 (by decide)
set_option maxRecDepth 20000 in
theorem M_Srv_receive (l : Launch) (D : va_G) (K : Nat → ClassId) (M : List (ClassId × FieldType)) (v0 : Nat) (v1 : Nat) (v2 : Nat) (t0 : Nat) (a0 : Nat) (a1 : Nat) (a2 : Nat) (a3 : Nat) (src : Nat → Int32) (prt : Nat → Int32) (use : Nat → Int32) (cnt : Int32) (on : Int32) (tk : Int32) (nx : Nat → Int32) (dt : Nat → Int32) (s0 : Int32) (p0 : Int32) (sq : Int32) (fl : Int32) (sz : Nat) : zM l y_Srv_receive (zT y_Srv_receive b_Srv_receive 6 (some .int)) (zR 2 47) 0 0 D K M [.ref v0, .int s0, .int p0, .int sq, .int fl] [cO v0 5 [.ref a0, .ref t0, .int on, .int tk, .ref v1, .ref v2], cO a0 6 [.ref a1, .ref a2, .ref a3, .int cnt], cI K a1 10 src, cI K a2 10 prt, cZ K a3 10 use, cI K v1 10 nx, cI K v2 10 dt] sz (zQi D K M (f_rec nx dt use src prt cnt s0 p0 sq fl).1 [cO v0 5 [.ref a0, .ref t0, .int on, .int (f_rec nx dt use src prt cnt s0 p0 sq fl).2.1, .ref v1, .ref v2], cO a0 6 [.ref a1, .ref a2, .ref a3, .int (f_rec nx dt use src prt cnt s0 p0 sq fl).2.2.2.2.2], cI K a1 10 (f_put src (f_rnew fl use src prt s0 p0) s0), cI K a2 10 (f_put prt (f_rnew fl use src prt s0 p0) p0), cZ K a3 10 (f_rec nx dt use src prt cnt s0 p0 sq fl).2.2.2.2.1, cI K v1 10 (f_rec nx dt use src prt cnt s0 p0 sq fl).2.2.1, cI K v2 10 (f_rec nx dt use src prt cnt s0 p0 sq fl).2.2.2.1]) := by
  refine zx_head (by decide) (Nat.le_of_ble_eq_true rfl) ?_
  intro _ _ _ _ _ _ _ _ _ hF hr hlk hnm
  refine zx_aload_n (pc := 0) hF d_Srv_receive_0 rfl 0 rfl ?_
  refine zx_iconst (pc := 1) hF d_Srv_receive_1 k_i0 ?_
  refine zp_Srv_41 (pc := 2) hF 0 rfl (Nat.le_of_ble_eq_true rfl) d_Srv_receive_2 (ws' := [cO v0 5 [.ref a0, .ref t0, .int on, .int 0, .ref v1, .ref v2], cO a0 6 [.ref a1, .ref a2, .ref a3, .int cnt], cI K a1 10 src, cI K a2 10 prt, cZ K a3 10 use, cI K v1 10 nx, cI K v2 10 dt]) rfl ?_
  refine zx_iload (pc := 5) hF d_Srv_receive_5 4 rfl ?_
  refine zx_iconst (pc := 7) hF d_Srv_receive_7 k_i2 ?_
  refine zx_icmp_ne (pc := 8) hF d_Srv_receive_8 (tgt := 26) rfl (fun h8 => ?_) (fun h8 => ?_)
  · refine zx_aload_n (pc := 26) hF d_Srv_receive_26 rfl 0 rfl ?_
    refine zg_Srv_16 (pc := 27) hF 0 rfl rfl d_Srv_receive_27 ?_
    refine zx_iload_n (pc := 30) hF d_Srv_receive_30 rfl 1 rfl ?_
    refine zx_iload_n (pc := 31) hF d_Srv_receive_31 rfl 2 rfl ?_
    refine zx_Vi (pc := 32) hF (As := [.int s0, .int p0]) (rest := []) (fun sz => M_Slo_find l D K M a0 a1 a2 a3 10 src prt use cnt s0 p0 (by first | assumption | omega) sz) [1, 2, 3, 4] rfl (by decide) (as := [a0, a1, a2, a3]) rfl rfl (ws' := [cO v0 5 [.ref a0, .ref t0, .int on, .int 0, .ref v1, .ref v2], cO a0 6 [.ref a1, .ref a2, .ref a3, .int cnt], cI K a1 10 src, cI K a2 10 prt, cZ K a3 10 use, cI K v1 10 nx, cI K v2 10 dt]) rfl 0 6 rfl rfl rfl (cw_Srv_52 hF.2.2.2.2.1 rfl rfl ⟨by decide, by decide⟩) rfl rfl (Nat.le_of_ble_eq_true rfl) d_Srv_receive_32 ⟨Nat.zero_le _, Nat.zero_le _⟩ ?_
    refine zx_istore (pc := 35) hF (lv' := [(5, .int (f_find use src prt 10 s0 p0)), (0, .ref v0), (1, .int s0), (2, .int p0), (3, .int sq), (4, .int fl)]) d_Srv_receive_35 (by decide) rfl ?_
    refine zx_iload (pc := 37) hF d_Srv_receive_37 5 rfl ?_
    refine zx_iconst (pc := 39) hF d_Srv_receive_39 k_i4 ?_
    refine zx_icmp_ne (pc := 40) hF d_Srv_receive_40 (tgt := 60) rfl (fun h40 => ?_) (fun h40 => ?_)
    · refine zx_iload (pc := 60) hF d_Srv_receive_60 0 rfl ?_
      refine zx_iconst (pc := 62) hF d_Srv_receive_62 k_im1 ?_
      refine zx_icmp_ne (pc := 63) hF d_Srv_receive_63 (tgt := 70) rfl (fun h63 => ?_) (fun h63 => ?_)
      · refine zx_aload_n (pc := 70) hF d_Srv_receive_70 rfl 1 rfl ?_
        refine zx_iload (pc := 71) hF d_Srv_receive_71 0 rfl ?_
        refine zx_topi (nI (Int32.toNatClampNeg (f_find use src prt 10 s0 p0))) ((f_find_cl (by omega) h63).1) ?_
        refine zx_iload_n (pc := 73) hF d_Srv_receive_73 rfl 4 rfl ?_
        refine zx_iload (pc := 74) hF d_Srv_receive_74 5 rfl ?_
        refine zx_Vi (pc := 76) hF (As := [.int (nI (Int32.toNatClampNeg (f_find use src prt 10 s0 p0))), .int sq, .int fl]) (rest := []) (fun sz => M_Srv_goOn l D K M v0 v1 v2 t0 a0 a1 a2 a3 src prt use cnt on 0 nx dt (Int32.toNatClampNeg (f_find use src prt 10 s0 p0)) sq fl (f_find_cl (by omega) h63).2 sz) [0, 1, 2, 3, 4, 5, 6] rfl (by decide) (as := [v0, a0, a1, a2, a3, v1, v2]) rfl rfl (ws' := [cO v0 5 [.ref a0, .ref t0, .int on, .int (f_goi nx dt (Int32.toNatClampNeg (f_find use src prt 10 s0 p0)) sq fl (Int32.toNatClampNeg (f_find use src prt 10 s0 p0))), .ref v1, .ref v2], cO a0 6 [.ref a1, .ref a2, .ref a3, .int (f_gon nx use cnt (Int32.toNatClampNeg (f_find use src prt 10 s0 p0)) sq fl)], cI K a1 10 src, cI K a2 10 prt, cZ K a3 10 (f_gou nx use (Int32.toNatClampNeg (f_find use src prt 10 s0 p0)) sq fl), cI K v1 10 (f_goi nx nx (Int32.toNatClampNeg (f_find use src prt 10 s0 p0)) sq fl), cI K v2 10 (f_goi nx dt (Int32.toNatClampNeg (f_find use src prt 10 s0 p0)) sq fl)]) rfl 0 5 rfl rfl rfl (cw_Srv_58 hF.2.2.2.2.1 rfl rfl ⟨by decide, by decide⟩) rfl rfl (Nat.le_of_ble_eq_true rfl) d_Srv_receive_76 ⟨Nat.zero_le _, Nat.zero_le _⟩ ?_
        exact zx_iret (pc := 79) hF hr hlk (by first | with_reducible rfl | (simp only [f_rec, f_rnew, f_relu, f_reln, f_put, if_neg h8, if_neg h40, if_neg h63]; done) | (simp only [f_rec, f_rnew, f_relu, f_reln, f_put, h8, h40, h63, ↓reduceIte]; done) | simp [f_rec, f_rnew, f_relu, f_reln, f_put, h8, h40, h63]) (by first | with_reducible rfl | (simp only [f_rec, f_rnew, f_relu, f_reln, f_put, if_neg h8, if_neg h40, if_neg h63]; done) | (simp only [f_rec, f_rnew, f_relu, f_reln, f_put, h8, h40, h63, ↓reduceIte]; done) | simp [f_rec, f_rnew, f_relu, f_reln, f_put, h8, h40, h63]) d_Srv_receive_79
      · refine zx_iconst (pc := 66) hF d_Srv_receive_66 k_i4 ?_
        refine zx_goto (pc := 67) hF d_Srv_receive_67 (tgt := 79) rfl ?_
        exact zx_iret (pc := 79) hF hr hlk (by first | with_reducible rfl | (simp only [f_rec, f_rnew, f_relu, f_reln, f_put, if_neg h8, if_neg h40, if_pos h63]; done) | (simp only [f_rec, f_rnew, f_relu, f_reln, f_put, h8, h40, h63, ↓reduceIte]; done) | simp [f_rec, f_rnew, f_relu, f_reln, f_put, h8, h40, h63]) (by first | with_reducible rfl | (simp only [f_rec, f_rnew, f_relu, f_reln, f_put, if_neg h8, if_neg h40, if_pos h63]; done) | (simp only [f_rec, f_rnew, f_relu, f_reln, f_put, h8, h40, h63, ↓reduceIte]; done) | simp [f_rec, f_rnew, f_relu, f_reln, f_put, h8, h40, h63]) d_Srv_receive_79
    · refine zx_iload (pc := 43) hF d_Srv_receive_43 0 rfl ?_
      refine zx_iconst (pc := 45) hF d_Srv_receive_45 k_im1 ?_
      refine zx_icmp_eq (pc := 46) hF d_Srv_receive_46 (tgt := 58) rfl (fun h46 => ?_) (fun h46 => ?_)
      · refine zx_iconst (pc := 58) hF d_Srv_receive_58 k_i0 ?_
        exact zx_iret (pc := 59) hF hr hlk (by first | with_reducible rfl | (simp only [f_rec, f_rnew, f_relu, f_reln, f_put, if_neg h8, if_pos h40, if_pos h46]; done) | (simp only [f_rec, f_rnew, f_relu, f_reln, f_put, h8, h40, h46, ↓reduceIte]; done) | simp [f_rec, f_rnew, f_relu, f_reln, f_put, h8, h40, h46]) (by first | with_reducible rfl | (simp only [f_rec, f_rnew, f_relu, f_reln, f_put, if_neg h8, if_pos h40, if_pos h46]; done) | (simp only [f_rec, f_rnew, f_relu, f_reln, f_put, h8, h40, h46, ↓reduceIte]; done) | simp [f_rec, f_rnew, f_relu, f_reln, f_put, h8, h40, h46]) d_Srv_receive_59
      · refine zx_aload_n (pc := 49) hF d_Srv_receive_49 rfl 1 rfl ?_
        refine zg_Srv_16 (pc := 50) hF 0 rfl rfl d_Srv_receive_50 ?_
        refine zx_iload (pc := 53) hF d_Srv_receive_53 0 rfl ?_
        refine zx_topi (nI (Int32.toNatClampNeg (f_find use src prt 10 s0 p0))) ((f_find_cl (by omega) h46).1) ?_
        refine zx_Vv (pc := 55) hF (As := [.int (nI (Int32.toNatClampNeg (f_find use src prt 10 s0 p0)))]) (rest := []) (fun sz => M_Slo_release l D K M a0 a1 a2 a3 10 src prt use cnt (Int32.toNatClampNeg (f_find use src prt 10 s0 p0)) (f_find_cl (by omega) h46).2 (by first | assumption | omega) sz) [1, 2, 3, 4] rfl (by decide) (as := [a0, a1, a2, a3]) rfl rfl (ws' := [cO v0 5 [.ref a0, .ref t0, .int on, .int 0, .ref v1, .ref v2], cO a0 6 [.ref a1, .ref a2, .ref a3, .int (f_rn use cnt (Int32.toNatClampNeg (f_find use src prt 10 s0 p0)))], cI K a1 10 src, cI K a2 10 prt, cZ K a3 10 (f_ru use (Int32.toNatClampNeg (f_find use src prt 10 s0 p0))), cI K v1 10 nx, cI K v2 10 dt]) rfl 0 6 rfl rfl rfl (cw_Srv_55 hF.2.2.2.2.1 rfl rfl ⟨by decide, by decide⟩) rfl rfl (Nat.le_of_ble_eq_true rfl) d_Srv_receive_55 ⟨Nat.zero_le _, Nat.zero_le _⟩ ?_
        refine zx_iconst (pc := 58) hF d_Srv_receive_58 k_i0 ?_
        exact zx_iret (pc := 59) hF hr hlk (by first | with_reducible rfl | (simp only [f_rec, f_rnew, f_relu, f_reln, f_put, if_neg h8, if_pos h40, if_neg h46]; done) | (simp only [f_rec, f_rnew, f_relu, f_reln, f_put, h8, h40, h46, ↓reduceIte]; done) | simp [f_rec, f_rnew, f_relu, f_reln, f_put, h8, h40, h46]) (by first | with_reducible rfl | (simp only [f_rec, f_rnew, f_relu, f_reln, f_put, if_neg h8, if_pos h40, if_neg h46]; done) | (simp only [f_rec, f_rnew, f_relu, f_reln, f_put, h8, h40, h46, ↓reduceIte]; done) | simp [f_rec, f_rnew, f_relu, f_reln, f_put, h8, h40, h46]) d_Srv_receive_59
  · refine zx_aload_n (pc := 11) hF d_Srv_receive_11 rfl 0 rfl ?_
    refine zx_aload_n (pc := 12) hF d_Srv_receive_12 rfl 0 rfl ?_
    refine zg_Srv_16 (pc := 13) hF 0 rfl rfl d_Srv_receive_13 ?_
    refine zx_iload_n (pc := 16) hF d_Srv_receive_16 rfl 1 rfl ?_
    refine zx_iload_n (pc := 17) hF d_Srv_receive_17 rfl 2 rfl ?_
    refine zx_Vi (pc := 18) hF (As := [.int s0, .int p0]) (rest := [.ref v0]) (fun sz => M_Slo_findOrTake l D K M a0 a1 a2 a3 10 src prt use cnt s0 p0 (by first | assumption | omega) sz) [1, 2, 3, 4] rfl (by decide) (as := [a0, a1, a2, a3]) rfl rfl (ws' := [cO v0 5 [.ref a0, .ref t0, .int on, .int 0, .ref v1, .ref v2], cO a0 6 [.ref a1, .ref a2, .ref a3, .int (f_inc cnt (f_new use src prt 10 s0 p0))], cI K a1 10 (f_put src (f_new use src prt 10 s0 p0) s0), cI K a2 10 (f_put prt (f_new use src prt 10 s0 p0) p0), cZ K a3 10 (f_put use (f_new use src prt 10 s0 p0) 1), cI K v1 10 nx, cI K v2 10 dt]) rfl 0 6 rfl rfl rfl (cw_Srv_45 hF.2.2.2.2.1 rfl rfl ⟨by decide, by decide⟩) rfl rfl (Nat.le_of_ble_eq_true rfl) d_Srv_receive_18 ⟨Nat.zero_le _, Nat.zero_le _⟩ ?_
    refine zx_iload_n (pc := 21) hF d_Srv_receive_21 rfl 3 rfl ?_
    refine zx_Vi (pc := 22) hF (As := [.int (f_fot use src prt 10 s0 p0), .int sq]) (rest := []) (fun sz => M_Srv_greet l D K M v0 v1 v2 t0 a0 a1 a2 a3 (f_put src (f_new use src prt 10 s0 p0) s0) (f_put prt (f_new use src prt 10 s0 p0) p0) (f_put use (f_new use src prt 10 s0 p0) 1) (f_inc cnt (f_new use src prt 10 s0 p0)) on 0 nx dt (f_fot use src prt 10 s0 p0) sq (fun h => by have h9 := f_fot_cl (by omega) h; rw [h9.1]; exact vp_in_nI h9.2 (by omega)) sz) [0, 1, 2, 3, 4, 5, 6] rfl (by decide) (as := [v0, a0, a1, a2, a3, v1, v2]) rfl rfl (ws' := [cO v0 5 [.ref a0, .ref t0, .int on, .int 0, .ref v1, .ref v2], cO a0 6 [.ref a1, .ref a2, .ref a3, .int (f_inc cnt (f_new use src prt 10 s0 p0))], cI K a1 10 (f_put src (f_new use src prt 10 s0 p0) s0), cI K a2 10 (f_put prt (f_new use src prt 10 s0 p0) p0), cZ K a3 10 (f_put use (f_new use src prt 10 s0 p0) 1), cI K v1 10 (f_put nx (f_fot use src prt 10 s0 p0) (sq + 1)), cI K v2 10 (f_put dt (f_fot use src prt 10 s0 p0) 0)]) rfl 0 5 rfl rfl rfl (cw_Srv_49 hF.2.2.2.2.1 rfl rfl ⟨by decide, by decide⟩) rfl rfl (Nat.le_of_ble_eq_true rfl) d_Srv_receive_22 ⟨Nat.zero_le _, Nat.zero_le _⟩ ?_
    exact zx_iret (pc := 25) hF hr hlk (by first | with_reducible rfl | (simp only [f_rec, f_rnew, f_relu, f_reln, f_put, if_pos h8]; done) | (simp only [f_rec, f_rnew, f_relu, f_reln, f_put, h8, ↓reduceIte]; done) | simp [f_rec, f_rnew, f_relu, f_reln, f_put, h8]) (by first | with_reducible rfl | (simp only [f_rec, f_rnew, f_relu, f_reln, f_put, if_pos h8]; done) | (simp only [f_rec, f_rnew, f_relu, f_reln, f_put, h8, ↓reduceIte]; done) | simp [f_rec, f_rnew, f_relu, f_reln, f_put, h8]) d_Srv_receive_25
end
section
theorem d_Arr_fill_0 : decode b_Arr_fill 0 = .ok (.iconst 0, 1) := by decide +kernel
theorem d_Arr_fill_1 : decode b_Arr_fill 1 = .ok (.istore_n 2, 1) := by decide +kernel
theorem d_Arr_fill_2 : decode b_Arr_fill 2 = .ok (.aload_n 0, 1) := by decide +kernel
theorem d_Arr_fill_3 : decode b_Arr_fill 3 = .ok (.arraylength, 1) := by decide +kernel
theorem d_Arr_fill_4 : decode b_Arr_fill 4 = .ok (.istore_n 3, 1) := by decide +kernel
theorem d_Arr_fill_5 : decode b_Arr_fill 5 = .ok (.iload_n 2, 1) := by decide +kernel
theorem d_Arr_fill_6 : decode b_Arr_fill 6 = .ok (.iload_n 3, 1) := by decide +kernel
theorem d_Arr_fill_7 : decode b_Arr_fill 7 = .ok (.if_icmp .ge 13, 3) := by decide +kernel
theorem d_Arr_fill_10 : decode b_Arr_fill 10 = .ok (.aload_n 0, 1) := by decide +kernel
theorem d_Arr_fill_11 : decode b_Arr_fill 11 = .ok (.iload_n 2, 1) := by decide +kernel
theorem d_Arr_fill_12 : decode b_Arr_fill 12 = .ok (.iload_n 1, 1) := by decide +kernel
theorem d_Arr_fill_13 : decode b_Arr_fill 13 = .ok (.iastore, 1) := by decide +kernel
theorem d_Arr_fill_14 : decode b_Arr_fill 14 = .ok (.iinc 2 1, 3) := by decide +kernel
theorem d_Arr_fill_17 : decode b_Arr_fill 17 = .ok (.goto (-12), 3) := by decide +kernel
theorem d_Arr_fill_20 : decode b_Arr_fill 20 = .ok (.return_, 1) := by decide +kernel
theorem d_Tab_serverAt_0 : decode b_Tab_serverAt 0 = .ok (.aload_n 0, 1) := by decide +kernel
theorem d_Tab_serverAt_1 : decode b_Tab_serverAt 1 = .ok (.getfield 21, 3) := by decide +kernel
theorem d_Tab_serverAt_4 : decode b_Tab_serverAt 4 = .ok (.iload_n 1, 1) := by decide +kernel
theorem d_Tab_serverAt_5 : decode b_Tab_serverAt 5 = .ok (.iaload, 1) := by decide +kernel
theorem d_Tab_serverAt_6 : decode b_Tab_serverAt 6 = .ok (.ireturn, 1) := by decide +kernel
theorem d_Tab_placesOf_0 : decode b_Tab_placesOf 0 = .ok (.iconst 0, 1) := by decide +kernel
theorem d_Tab_placesOf_1 : decode b_Tab_placesOf 1 = .ok (.istore_n 2, 1) := by decide +kernel
theorem d_Tab_placesOf_2 : decode b_Tab_placesOf 2 = .ok (.iconst 0, 1) := by decide +kernel
theorem d_Tab_placesOf_3 : decode b_Tab_placesOf 3 = .ok (.istore_n 3, 1) := by decide +kernel
theorem d_Tab_placesOf_4 : decode b_Tab_placesOf 4 = .ok (.iload_n 3, 1) := by decide +kernel
theorem d_Tab_placesOf_5 : decode b_Tab_placesOf 5 = .ok (.aload_n 0, 1) := by decide +kernel
theorem d_Tab_placesOf_6 : decode b_Tab_placesOf 6 = .ok (.getfield 21, 3) := by decide +kernel
theorem d_Tab_placesOf_9 : decode b_Tab_placesOf 9 = .ok (.arraylength, 1) := by decide +kernel
theorem d_Tab_placesOf_10 : decode b_Tab_placesOf 10 = .ok (.if_icmp .ge 22, 3) := by decide +kernel
theorem d_Tab_placesOf_13 : decode b_Tab_placesOf 13 = .ok (.aload_n 0, 1) := by decide +kernel
theorem d_Tab_placesOf_14 : decode b_Tab_placesOf 14 = .ok (.getfield 21, 3) := by decide +kernel
theorem d_Tab_placesOf_17 : decode b_Tab_placesOf 17 = .ok (.iload_n 3, 1) := by decide +kernel
theorem d_Tab_placesOf_18 : decode b_Tab_placesOf 18 = .ok (.iaload, 1) := by decide +kernel
theorem d_Tab_placesOf_19 : decode b_Tab_placesOf 19 = .ok (.iload_n 1, 1) := by decide +kernel
theorem d_Tab_placesOf_20 : decode b_Tab_placesOf 20 = .ok (.if_icmp .ne 6, 3) := by decide +kernel
theorem d_Tab_placesOf_23 : decode b_Tab_placesOf 23 = .ok (.iinc 2 1, 3) := by decide +kernel
theorem d_Tab_placesOf_26 : decode b_Tab_placesOf 26 = .ok (.iinc 3 1, 3) := by decide +kernel
theorem d_Tab_placesOf_29 : decode b_Tab_placesOf 29 = .ok (.goto (-25), 3) := by decide +kernel
theorem d_Tab_placesOf_32 : decode b_Tab_placesOf 32 = .ok (.iload_n 2, 1) := by decide +kernel
theorem d_Tab_placesOf_33 : decode b_Tab_placesOf 33 = .ok (.ireturn, 1) := by decide +kernel
theorem d_Tab_takeFirstFree_0 : decode b_Tab_takeFirstFree 0 = .ok (.aload_n 0, 1) := by decide +kernel
theorem d_Tab_takeFirstFree_1 : decode b_Tab_takeFirstFree 1 = .ok (.getfield 28, 3) := by decide +kernel
theorem d_Tab_takeFirstFree_4 : decode b_Tab_takeFirstFree 4 = .ok (.iload_n 1, 1) := by decide +kernel
theorem d_Tab_takeFirstFree_5 : decode b_Tab_takeFirstFree 5 = .ok (.iaload, 1) := by decide +kernel
theorem d_Tab_takeFirstFree_6 : decode b_Tab_takeFirstFree 6 = .ok (.istore_n 2, 1) := by decide +kernel
theorem d_Tab_takeFirstFree_7 : decode b_Tab_takeFirstFree 7 = .ok (.iload_n 2, 1) := by decide +kernel
theorem d_Tab_takeFirstFree_8 : decode b_Tab_takeFirstFree 8 = .ok (.aload_n 0, 1) := by decide +kernel
theorem d_Tab_takeFirstFree_9 : decode b_Tab_takeFirstFree 9 = .ok (.getfield 21, 3) := by decide +kernel
theorem d_Tab_takeFirstFree_12 : decode b_Tab_takeFirstFree 12 = .ok (.arraylength, 1) := by decide +kernel
theorem d_Tab_takeFirstFree_13 : decode b_Tab_takeFirstFree 13 = .ok (.if_icmp .ge 27, 3) := by decide +kernel
theorem d_Tab_takeFirstFree_16 : decode b_Tab_takeFirstFree 16 = .ok (.aload_n 0, 1) := by decide +kernel
theorem d_Tab_takeFirstFree_17 : decode b_Tab_takeFirstFree 17 = .ok (.getfield 21, 3) := by decide +kernel
theorem d_Tab_takeFirstFree_20 : decode b_Tab_takeFirstFree 20 = .ok (.aload_n 0, 1) := by decide +kernel
theorem d_Tab_takeFirstFree_21 : decode b_Tab_takeFirstFree 21 = .ok (.getfield 9, 3) := by decide +kernel
theorem d_Tab_takeFirstFree_24 : decode b_Tab_takeFirstFree 24 = .ok (.iload_n 1, 1) := by decide +kernel
theorem d_Tab_takeFirstFree_25 : decode b_Tab_takeFirstFree 25 = .ok (.iload_n 2, 1) := by decide +kernel
theorem d_Tab_takeFirstFree_26 : decode b_Tab_takeFirstFree 26 = .ok (.invokevirtual 59, 3) := by decide +kernel
theorem d_Tab_takeFirstFree_29 : decode b_Tab_takeFirstFree 29 = .ok (.iaload, 1) := by decide +kernel
theorem d_Tab_takeFirstFree_30 : decode b_Tab_takeFirstFree 30 = .ok (.iconst (-1), 1) := by decide +kernel
theorem d_Tab_takeFirstFree_31 : decode b_Tab_takeFirstFree 31 = .ok (.if_icmp .eq 9, 3) := by decide +kernel
theorem d_Tab_takeFirstFree_34 : decode b_Tab_takeFirstFree 34 = .ok (.iinc 2 1, 3) := by decide +kernel
theorem d_Tab_takeFirstFree_37 : decode b_Tab_takeFirstFree 37 = .ok (.goto (-30), 3) := by decide +kernel
theorem d_Tab_takeFirstFree_40 : decode b_Tab_takeFirstFree 40 = .ok (.aload_n 0, 1) := by decide +kernel
theorem d_Tab_takeFirstFree_41 : decode b_Tab_takeFirstFree 41 = .ok (.getfield 28, 3) := by decide +kernel
theorem d_Tab_takeFirstFree_44 : decode b_Tab_takeFirstFree 44 = .ok (.iload_n 1, 1) := by decide +kernel
theorem d_Tab_takeFirstFree_45 : decode b_Tab_takeFirstFree 45 = .ok (.iload_n 2, 1) := by decide +kernel
theorem d_Tab_takeFirstFree_46 : decode b_Tab_takeFirstFree 46 = .ok (.iconst 1, 1) := by decide +kernel
theorem d_Tab_takeFirstFree_47 : decode b_Tab_takeFirstFree 47 = .ok (.iadd, 1) := by decide +kernel
theorem d_Tab_takeFirstFree_48 : decode b_Tab_takeFirstFree 48 = .ok (.iastore, 1) := by decide +kernel
theorem d_Tab_takeFirstFree_49 : decode b_Tab_takeFirstFree 49 = .ok (.aload_n 0, 1) := by decide +kernel
theorem d_Tab_takeFirstFree_50 : decode b_Tab_takeFirstFree 50 = .ok (.getfield 9, 3) := by decide +kernel
theorem d_Tab_takeFirstFree_53 : decode b_Tab_takeFirstFree 53 = .ok (.iload_n 1, 1) := by decide +kernel
theorem d_Tab_takeFirstFree_54 : decode b_Tab_takeFirstFree 54 = .ok (.iload_n 2, 1) := by decide +kernel
theorem d_Tab_takeFirstFree_55 : decode b_Tab_takeFirstFree 55 = .ok (.invokevirtual 59, 3) := by decide +kernel
theorem d_Tab_takeFirstFree_58 : decode b_Tab_takeFirstFree 58 = .ok (.ireturn, 1) := by decide +kernel
theorem d_Tab_fill_0 : decode b_Tab_fill 0 = .ok (.aload_n 0, 1) := by decide +kernel
theorem d_Tab_fill_1 : decode b_Tab_fill 1 = .ok (.getfield 21, 3) := by decide +kernel
theorem d_Tab_fill_4 : decode b_Tab_fill 4 = .ok (.iconst (-1), 1) := by decide +kernel
theorem d_Tab_fill_5 : decode b_Tab_fill 5 = .ok (.invokestatic 44, 3) := by decide +kernel
theorem d_Tab_fill_8 : decode b_Tab_fill 8 = .ok (.aload_n 0, 1) := by decide +kernel
theorem d_Tab_fill_9 : decode b_Tab_fill 9 = .ok (.getfield 28, 3) := by decide +kernel
theorem d_Tab_fill_12 : decode b_Tab_fill 12 = .ok (.iconst 0, 1) := by decide +kernel
theorem d_Tab_fill_13 : decode b_Tab_fill 13 = .ok (.invokestatic 44, 3) := by decide +kernel
theorem d_Tab_fill_16 : decode b_Tab_fill 16 = .ok (.iconst 0, 1) := by decide +kernel
theorem d_Tab_fill_17 : decode b_Tab_fill 17 = .ok (.istore_n 2, 1) := by decide +kernel
theorem d_Tab_fill_18 : decode b_Tab_fill 18 = .ok (.iconst 0, 1) := by decide +kernel
theorem d_Tab_fill_19 : decode b_Tab_fill 19 = .ok (.istore_n 3, 1) := by decide +kernel
theorem d_Tab_fill_20 : decode b_Tab_fill 20 = .ok (.iload_n 3, 1) := by decide +kernel
theorem d_Tab_fill_21 : decode b_Tab_fill 21 = .ok (.aload_n 0, 1) := by decide +kernel
theorem d_Tab_fill_22 : decode b_Tab_fill 22 = .ok (.getfield 21, 3) := by decide +kernel
theorem d_Tab_fill_25 : decode b_Tab_fill 25 = .ok (.arraylength, 1) := by decide +kernel
theorem d_Tab_fill_26 : decode b_Tab_fill 26 = .ok (.if_icmp .ge 62, 3) := by decide +kernel
theorem d_Tab_fill_29 : decode b_Tab_fill 29 = .ok (.iconst 0, 1) := by decide +kernel
theorem d_Tab_fill_30 : decode b_Tab_fill 30 = .ok (.istore 4, 2) := by decide +kernel
theorem d_Tab_fill_32 : decode b_Tab_fill 32 = .ok (.iload 4, 2) := by decide +kernel
theorem d_Tab_fill_34 : decode b_Tab_fill 34 = .ok (.aload_n 0, 1) := by decide +kernel
theorem d_Tab_fill_35 : decode b_Tab_fill 35 = .ok (.getfield 28, 3) := by decide +kernel
theorem d_Tab_fill_38 : decode b_Tab_fill 38 = .ok (.arraylength, 1) := by decide +kernel
theorem d_Tab_fill_39 : decode b_Tab_fill 39 = .ok (.if_icmp .ge 43, 3) := by decide +kernel
theorem d_Tab_fill_42 : decode b_Tab_fill 42 = .ok (.aload_n 1, 1) := by decide +kernel
theorem d_Tab_fill_43 : decode b_Tab_fill 43 = .ok (.iload 4, 2) := by decide +kernel
theorem d_Tab_fill_45 : decode b_Tab_fill 45 = .ok (.invokevirtual 49, 3) := by decide +kernel
theorem d_Tab_fill_48 : decode b_Tab_fill 48 = .ok (.ifCond .eq 28, 3) := by decide +kernel
theorem d_Tab_fill_51 : decode b_Tab_fill 51 = .ok (.iload_n 2, 1) := by decide +kernel
theorem d_Tab_fill_52 : decode b_Tab_fill 52 = .ok (.aload_n 0, 1) := by decide +kernel
theorem d_Tab_fill_53 : decode b_Tab_fill 53 = .ok (.getfield 21, 3) := by decide +kernel
theorem d_Tab_fill_56 : decode b_Tab_fill 56 = .ok (.arraylength, 1) := by decide +kernel
theorem d_Tab_fill_57 : decode b_Tab_fill 57 = .ok (.if_icmp .ge 19, 3) := by decide +kernel
theorem d_Tab_fill_60 : decode b_Tab_fill 60 = .ok (.aload_n 0, 1) := by decide +kernel
theorem d_Tab_fill_61 : decode b_Tab_fill 61 = .ok (.getfield 21, 3) := by decide +kernel
theorem d_Tab_fill_64 : decode b_Tab_fill 64 = .ok (.aload_n 0, 1) := by decide +kernel
theorem d_Tab_fill_65 : decode b_Tab_fill 65 = .ok (.iload 4, 2) := by decide +kernel
theorem d_Tab_fill_67 : decode b_Tab_fill 67 = .ok (.invokevirtual 55, 3) := by decide +kernel
theorem d_Tab_fill_70 : decode b_Tab_fill 70 = .ok (.iload 4, 2) := by decide +kernel
theorem d_Tab_fill_72 : decode b_Tab_fill 72 = .ok (.iastore, 1) := by decide +kernel
theorem d_Tab_fill_73 : decode b_Tab_fill 73 = .ok (.iinc 2 1, 3) := by decide +kernel
theorem d_Tab_fill_76 : decode b_Tab_fill 76 = .ok (.iinc 4 1, 3) := by decide +kernel
theorem d_Tab_fill_79 : decode b_Tab_fill 79 = .ok (.goto (-47), 3) := by decide +kernel
theorem d_Tab_fill_82 : decode b_Tab_fill 82 = .ok (.iinc 3 1, 3) := by decide +kernel
theorem d_Tab_fill_85 : decode b_Tab_fill 85 = .ok (.goto (-65), 3) := by decide +kernel
theorem d_Tab_fill_88 : decode b_Tab_fill 88 = .ok (.return_, 1) := by decide +kernel
theorem d_Tab_fillAnew_0 : decode b_Tab_fillAnew 0 = .ok (.aload_n 0, 1) := by decide +kernel
theorem d_Tab_fillAnew_1 : decode b_Tab_fillAnew 1 = .ok (.getfield 21, 3) := by decide +kernel
theorem d_Tab_fillAnew_4 : decode b_Tab_fillAnew 4 = .ok (.iconst 0, 1) := by decide +kernel
theorem d_Tab_fillAnew_5 : decode b_Tab_fillAnew 5 = .ok (.aload_n 0, 1) := by decide +kernel
theorem d_Tab_fillAnew_6 : decode b_Tab_fillAnew 6 = .ok (.getfield 25, 3) := by decide +kernel
theorem d_Tab_fillAnew_9 : decode b_Tab_fillAnew 9 = .ok (.iconst 0, 1) := by decide +kernel
theorem d_Tab_fillAnew_10 : decode b_Tab_fillAnew 10 = .ok (.aload_n 0, 1) := by decide +kernel
theorem d_Tab_fillAnew_11 : decode b_Tab_fillAnew 11 = .ok (.getfield 21, 3) := by decide +kernel
theorem d_Tab_fillAnew_14 : decode b_Tab_fillAnew 14 = .ok (.arraylength, 1) := by decide +kernel
theorem d_Tab_fillAnew_15 : decode b_Tab_fillAnew 15 = .ok (.invokestatic 31, 3) := by decide +kernel
theorem d_Tab_fillAnew_18 : decode b_Tab_fillAnew 18 = .ok (.aload_n 0, 1) := by decide +kernel
theorem d_Tab_fillAnew_19 : decode b_Tab_fillAnew 19 = .ok (.aload_n 1, 1) := by decide +kernel
theorem d_Tab_fillAnew_20 : decode b_Tab_fillAnew 20 = .ok (.invokevirtual 37, 3) := by decide +kernel
theorem d_Tab_fillAnew_23 : decode b_Tab_fillAnew 23 = .ok (.aload_n 0, 1) := by decide +kernel
theorem d_Tab_fillAnew_24 : decode b_Tab_fillAnew 24 = .ok (.iconst 0, 1) := by decide +kernel
theorem d_Tab_fillAnew_25 : decode b_Tab_fillAnew 25 = .ok (.putfield 41, 3) := by decide +kernel
theorem d_Tab_fillAnew_28 : decode b_Tab_fillAnew 28 = .ok (.iconst 0, 1) := by decide +kernel
theorem d_Tab_fillAnew_29 : decode b_Tab_fillAnew 29 = .ok (.istore_n 2, 1) := by decide +kernel
theorem d_Tab_fillAnew_30 : decode b_Tab_fillAnew 30 = .ok (.iload_n 2, 1) := by decide +kernel
theorem d_Tab_fillAnew_31 : decode b_Tab_fillAnew 31 = .ok (.aload_n 0, 1) := by decide +kernel
theorem d_Tab_fillAnew_32 : decode b_Tab_fillAnew 32 = .ok (.getfield 21, 3) := by decide +kernel
theorem d_Tab_fillAnew_35 : decode b_Tab_fillAnew 35 = .ok (.arraylength, 1) := by decide +kernel
theorem d_Tab_fillAnew_36 : decode b_Tab_fillAnew 36 = .ok (.if_icmp .ge 34, 3) := by decide +kernel
theorem d_Tab_fillAnew_39 : decode b_Tab_fillAnew 39 = .ok (.aload_n 0, 1) := by decide +kernel
theorem d_Tab_fillAnew_40 : decode b_Tab_fillAnew 40 = .ok (.getfield 21, 3) := by decide +kernel
theorem d_Tab_fillAnew_43 : decode b_Tab_fillAnew 43 = .ok (.iload_n 2, 1) := by decide +kernel
theorem d_Tab_fillAnew_44 : decode b_Tab_fillAnew 44 = .ok (.iaload, 1) := by decide +kernel
theorem d_Tab_fillAnew_45 : decode b_Tab_fillAnew 45 = .ok (.aload_n 0, 1) := by decide +kernel
theorem d_Tab_fillAnew_46 : decode b_Tab_fillAnew 46 = .ok (.getfield 25, 3) := by decide +kernel
theorem d_Tab_fillAnew_49 : decode b_Tab_fillAnew 49 = .ok (.iload_n 2, 1) := by decide +kernel
theorem d_Tab_fillAnew_50 : decode b_Tab_fillAnew 50 = .ok (.iaload, 1) := by decide +kernel
theorem d_Tab_fillAnew_51 : decode b_Tab_fillAnew 51 = .ok (.if_icmp .eq 13, 3) := by decide +kernel
theorem d_Tab_fillAnew_54 : decode b_Tab_fillAnew 54 = .ok (.aload_n 0, 1) := by decide +kernel
theorem d_Tab_fillAnew_55 : decode b_Tab_fillAnew 55 = .ok (.dup, 1) := by decide +kernel
theorem d_Tab_fillAnew_56 : decode b_Tab_fillAnew 56 = .ok (.getfield 41, 3) := by decide +kernel
theorem d_Tab_fillAnew_59 : decode b_Tab_fillAnew 59 = .ok (.iconst 1, 1) := by decide +kernel
theorem d_Tab_fillAnew_60 : decode b_Tab_fillAnew 60 = .ok (.iadd, 1) := by decide +kernel
theorem d_Tab_fillAnew_61 : decode b_Tab_fillAnew 61 = .ok (.putfield 41, 3) := by decide +kernel
theorem d_Tab_fillAnew_64 : decode b_Tab_fillAnew 64 = .ok (.iinc 2 1, 3) := by decide +kernel
theorem d_Tab_fillAnew_67 : decode b_Tab_fillAnew 67 = .ok (.goto (-37), 3) := by decide +kernel
theorem d_Tab_fillAnew_70 : decode b_Tab_fillAnew 70 = .ok (.return_, 1) := by decide +kernel
theorem d_Bal_setLive_0 : decode b_Bal_setLive 0 = .ok (.aload_n 0, 1) := by decide +kernel
theorem d_Bal_setLive_1 : decode b_Bal_setLive 1 = .ok (.getfield 28, 3) := by decide +kernel
theorem d_Bal_setLive_4 : decode b_Bal_setLive 4 = .ok (.iload_n 1, 1) := by decide +kernel
theorem d_Bal_setLive_5 : decode b_Bal_setLive 5 = .ok (.if_icmp .ne 5, 3) := by decide +kernel
theorem d_Bal_setLive_8 : decode b_Bal_setLive 8 = .ok (.iconst 0, 1) := by decide +kernel
theorem d_Bal_setLive_9 : decode b_Bal_setLive 9 = .ok (.ireturn, 1) := by decide +kernel
theorem d_Bal_setLive_10 : decode b_Bal_setLive 10 = .ok (.aload_n 0, 1) := by decide +kernel
theorem d_Bal_setLive_11 : decode b_Bal_setLive 11 = .ok (.iload_n 1, 1) := by decide +kernel
theorem d_Bal_setLive_12 : decode b_Bal_setLive 12 = .ok (.putfield 28, 3) := by decide +kernel
theorem d_Bal_setLive_15 : decode b_Bal_setLive 15 = .ok (.iload_n 1, 1) := by decide +kernel
theorem d_Bal_setLive_16 : decode b_Bal_setLive 16 = .ok (.ifCond .ne 13, 3) := by decide +kernel
theorem d_Bal_setLive_19 : decode b_Bal_setLive 19 = .ok (.aload_n 0, 1) := by decide +kernel
theorem d_Bal_setLive_20 : decode b_Bal_setLive 20 = .ok (.getfield 12, 3) := by decide +kernel
theorem d_Bal_setLive_23 : decode b_Bal_setLive 23 = .ok (.getfield 56, 3) := by decide +kernel
theorem d_Bal_setLive_26 : decode b_Bal_setLive 26 = .ok (.invokevirtual 60, 3) := by decide +kernel
theorem d_Bal_setLive_29 : decode b_Bal_setLive 29 = .ok (.iconst 1, 1) := by decide +kernel
theorem d_Bal_setLive_30 : decode b_Bal_setLive 30 = .ok (.ireturn, 1) := by decide +kernel
theorem d_Bal_setPath_0 : decode b_Bal_setPath 0 = .ok (.aload_n 0, 1) := by decide +kernel
theorem d_Bal_setPath_1 : decode b_Bal_setPath 1 = .ok (.getfield 48, 3) := by decide +kernel
theorem d_Bal_setPath_4 : decode b_Bal_setPath 4 = .ok (.iload_n 1, 1) := by decide +kernel
theorem d_Bal_setPath_5 : decode b_Bal_setPath 5 = .ok (.baload, 1) := by decide +kernel
theorem d_Bal_setPath_6 : decode b_Bal_setPath 6 = .ok (.iload_n 2, 1) := by decide +kernel
theorem d_Bal_setPath_7 : decode b_Bal_setPath 7 = .ok (.if_icmp .ne 7, 3) := by decide +kernel
theorem d_Bal_setPath_10 : decode b_Bal_setPath 10 = .ok (.iconst 1, 1) := by decide +kernel
theorem d_Bal_setPath_11 : decode b_Bal_setPath 11 = .ok (.goto 4, 3) := by decide +kernel
theorem d_Bal_setPath_14 : decode b_Bal_setPath 14 = .ok (.iconst 0, 1) := by decide +kernel
theorem d_Bal_setPath_15 : decode b_Bal_setPath 15 = .ok (.istore_n 3, 1) := by decide +kernel
theorem d_Bal_setPath_16 : decode b_Bal_setPath 16 = .ok (.aload_n 0, 1) := by decide +kernel
theorem d_Bal_setPath_17 : decode b_Bal_setPath 17 = .ok (.getfield 48, 3) := by decide +kernel
theorem d_Bal_setPath_20 : decode b_Bal_setPath 20 = .ok (.iload_n 1, 1) := by decide +kernel
theorem d_Bal_setPath_21 : decode b_Bal_setPath 21 = .ok (.iload_n 2, 1) := by decide +kernel
theorem d_Bal_setPath_22 : decode b_Bal_setPath 22 = .ok (.ifCond .ne 7, 3) := by decide +kernel
theorem d_Bal_setPath_25 : decode b_Bal_setPath 25 = .ok (.iconst 1, 1) := by decide +kernel
theorem d_Bal_setPath_26 : decode b_Bal_setPath 26 = .ok (.goto 4, 3) := by decide +kernel
theorem d_Bal_setPath_29 : decode b_Bal_setPath 29 = .ok (.iconst 0, 1) := by decide +kernel
theorem d_Bal_setPath_30 : decode b_Bal_setPath 30 = .ok (.bastore, 1) := by decide +kernel
theorem d_Bal_setPath_31 : decode b_Bal_setPath 31 = .ok (.iload_n 3, 1) := by decide +kernel
theorem d_Bal_setPath_32 : decode b_Bal_setPath 32 = .ok (.ireturn, 1) := by decide +kernel
theorem d_Bal_reaches_0 : decode b_Bal_reaches 0 = .ok (.aload_n 2, 1) := by decide +kernel
theorem d_Bal_reaches_1 : decode b_Bal_reaches 1 = .ok (.getfield 65, 3) := by decide +kernel
theorem d_Bal_reaches_4 : decode b_Bal_reaches 4 = .ok (.ifCond .eq 16, 3) := by decide +kernel
theorem d_Bal_reaches_7 : decode b_Bal_reaches 7 = .ok (.aload_n 0, 1) := by decide +kernel
theorem d_Bal_reaches_8 : decode b_Bal_reaches 8 = .ok (.getfield 48, 3) := by decide +kernel
theorem d_Bal_reaches_11 : decode b_Bal_reaches 11 = .ok (.iload_n 1, 1) := by decide +kernel
theorem d_Bal_reaches_12 : decode b_Bal_reaches 12 = .ok (.baload, 1) := by decide +kernel
theorem d_Bal_reaches_13 : decode b_Bal_reaches 13 = .ok (.ifCond .ne 7, 3) := by decide +kernel
theorem d_Bal_reaches_16 : decode b_Bal_reaches 16 = .ok (.iconst 1, 1) := by decide +kernel
theorem d_Bal_reaches_17 : decode b_Bal_reaches 17 = .ok (.goto 4, 3) := by decide +kernel
theorem d_Bal_reaches_20 : decode b_Bal_reaches 20 = .ok (.iconst 0, 1) := by decide +kernel
theorem d_Bal_reaches_21 : decode b_Bal_reaches 21 = .ok (.ireturn, 1) := by decide +kernel
theorem d_Bal_serverFor_0 : decode b_Bal_serverFor 0 = .ok (.aload_n 0, 1) := by decide +kernel
theorem d_Bal_serverFor_1 : decode b_Bal_serverFor 1 = .ok (.getfield 12, 3) := by decide +kernel
theorem d_Bal_serverFor_4 : decode b_Bal_serverFor 4 = .ok (.iload_n 1, 1) := by decide +kernel
theorem d_Bal_serverFor_5 : decode b_Bal_serverFor 5 = .ok (.iload_n 2, 1) := by decide +kernel
theorem d_Bal_serverFor_6 : decode b_Bal_serverFor 6 = .ok (.invokevirtual 70, 3) := by decide +kernel
theorem d_Bal_serverFor_9 : decode b_Bal_serverFor 9 = .ok (.istore 4, 2) := by decide +kernel
theorem d_Bal_serverFor_11 : decode b_Bal_serverFor 11 = .ok (.iload 4, 2) := by decide +kernel
theorem d_Bal_serverFor_13 : decode b_Bal_serverFor 13 = .ok (.iconst (-1), 1) := by decide +kernel
theorem d_Bal_serverFor_14 : decode b_Bal_serverFor 14 = .ok (.if_icmp .ne 14, 3) := by decide +kernel
theorem d_Bal_serverFor_17 : decode b_Bal_serverFor 17 = .ok (.aload_n 0, 1) := by decide +kernel
theorem d_Bal_serverFor_18 : decode b_Bal_serverFor 18 = .ok (.getfield 44, 3) := by decide +kernel
theorem d_Bal_serverFor_21 : decode b_Bal_serverFor 21 = .ok (.iload_n 3, 1) := by decide +kernel
theorem d_Bal_serverFor_22 : decode b_Bal_serverFor 22 = .ok (.invokevirtual 74, 3) := by decide +kernel
theorem d_Bal_serverFor_25 : decode b_Bal_serverFor 25 = .ok (.goto 5, 3) := by decide +kernel
theorem d_Bal_serverFor_28 : decode b_Bal_serverFor 28 = .ok (.iload 4, 2) := by decide +kernel
theorem d_Bal_serverFor_30 : decode b_Bal_serverFor 30 = .ok (.ireturn, 1) := by decide +kernel
end
section
section ZG
variable {p : Program} {l : Launch} {e : Env} {R : Room} {s : State} {m : MethodId} {args : Array Value} {below : List Frame} {meth : Method} {c : Code} {cells slots : Nat} {Q : State → Prop} {cc : ByteArray} {nL pc : Nat} {rest : List Value} {D : va_G} {K : Nat → ClassId} {M : List (ClassId × FieldType)} {A : Nat → Prop} {ws : va_W} {lv : List (Nat × Value)}
theorem zg_Bal_12 (hF : zF p s m args c cc nL R_Bal D K M A) (q0 : Nat) {a : Nat} {fs : List Value} {v : Value} (he : ws[q0]? = some (a, .inr (1, fs))) (hv : fs[2]? = some v) (hdg : decode cc pc = .ok (.getfield 12, 3)) (k : zW p l e R s m args below meth c D A cells slots Q nL ws lv (pc + 3) (v :: rest)) : zW p l e R s m args below meth c D A cells slots Q nL ws lv pc (.ref a :: rest) := zx_get hF (C := R_Bal) (T := F_Bal) (N := 6) wu_Bal q0 he rfl 2 (by decide) wf_Bal_12 hv hdg k
theorem zg_Bal_28 (hF : zF p s m args c cc nL R_Bal D K M A) (q0 : Nat) {a : Nat} {fs : List Value} {v : Value} (he : ws[q0]? = some (a, .inr (1, fs))) (hv : fs[4]? = some v) (hdg : decode cc pc = .ok (.getfield 28, 3)) (k : zW p l e R s m args below meth c D A cells slots Q nL ws lv (pc + 3) (v :: rest)) : zW p l e R s m args below meth c D A cells slots Q nL ws lv pc (.ref a :: rest) := zx_get hF (C := R_Bal) (T := F_Bal) (N := 6) wu_Bal q0 he rfl 4 (by decide) wf_Bal_28 hv hdg k
theorem zg_Bal_44 (hF : zF p s m args c cc nL R_Bal D K M A) (q0 : Nat) {a : Nat} {fs : List Value} {v : Value} (he : ws[q0]? = some (a, .inr (1, fs))) (hv : fs[1]? = some v) (hdg : decode cc pc = .ok (.getfield 44, 3)) (k : zW p l e R s m args below meth c D A cells slots Q nL ws lv (pc + 3) (v :: rest)) : zW p l e R s m args below meth c D A cells slots Q nL ws lv pc (.ref a :: rest) := zx_get hF (C := R_Bal) (T := F_Bal) (N := 6) wu_Bal q0 he rfl 1 (by decide) wf_Bal_44 hv hdg k
theorem zg_Bal_48 (hF : zF p s m args c cc nL R_Bal D K M A) (q0 : Nat) {a : Nat} {fs : List Value} {v : Value} (he : ws[q0]? = some (a, .inr (1, fs))) (hv : fs[5]? = some v) (hdg : decode cc pc = .ok (.getfield 48, 3)) (k : zW p l e R s m args below meth c D A cells slots Q nL ws lv (pc + 3) (v :: rest)) : zW p l e R s m args below meth c D A cells slots Q nL ws lv pc (.ref a :: rest) := zx_get hF (C := R_Bal) (T := F_Bal) (N := 6) wu_Bal q0 he rfl 5 (by decide) wf_Bal_48 hv hdg k
theorem zg_Bal_56 (hF : zF p s m args c cc nL R_Bal D K M A) (q0 : Nat) {a : Nat} {fs : List Value} {v : Value} (he : ws[q0]? = some (a, .inr (3, fs))) (hv : fs[0]? = some v) (hdg : decode cc pc = .ok (.getfield 56, 3)) (k : zW p l e R s m args below meth c D A cells slots Q nL ws lv (pc + 3) (v :: rest)) : zW p l e R s m args below meth c D A cells slots Q nL ws lv pc (.ref a :: rest) := zx_get hF (C := R_Ent) (T := F_Ent) (N := 4) wu_Ent q0 he rfl 0 (by decide) wf_Bal_56 hv hdg k
theorem zg_Bal_65 (hF : zF p s m args c cc nL R_Bal D K M A) (q0 : Nat) {a : Nat} {fs : List Value} {v : Value} (he : ws[q0]? = some (a, .inr (5, fs))) (hv : fs[2]? = some v) (hdg : decode cc pc = .ok (.getfield 65, 3)) (k : zW p l e R s m args below meth c D A cells slots Q nL ws lv (pc + 3) (v :: rest)) : zW p l e R s m args below meth c D A cells slots Q nL ws lv pc (.ref a :: rest) := zx_get hF (C := R_Srv) (T := F_Srv) (N := 6) wu_Srv q0 he rfl 2 (by decide) wf_Bal_65 hv hdg k
theorem zg_Tab_21 (hF : zF p s m args c cc nL R_Tab D K M A) (q0 : Nat) {a : Nat} {fs : List Value} {v : Value} (he : ws[q0]? = some (a, .inr (8, fs))) (hv : fs[2]? = some v) (hdg : decode cc pc = .ok (.getfield 21, 3)) (k : zW p l e R s m args below meth c D A cells slots Q nL ws lv (pc + 3) (v :: rest)) : zW p l e R s m args below meth c D A cells slots Q nL ws lv pc (.ref a :: rest) := zx_get hF (C := R_Tab) (T := F_Tab) (N := 5) wu_Tab q0 he rfl 2 (by decide) wf_Tab_21 hv hdg k
theorem zg_Tab_25 (hF : zF p s m args c cc nL R_Tab D K M A) (q0 : Nat) {a : Nat} {fs : List Value} {v : Value} (he : ws[q0]? = some (a, .inr (8, fs))) (hv : fs[3]? = some v) (hdg : decode cc pc = .ok (.getfield 25, 3)) (k : zW p l e R s m args below meth c D A cells slots Q nL ws lv (pc + 3) (v :: rest)) : zW p l e R s m args below meth c D A cells slots Q nL ws lv pc (.ref a :: rest) := zx_get hF (C := R_Tab) (T := F_Tab) (N := 5) wu_Tab q0 he rfl 3 (by decide) wf_Tab_25 hv hdg k
theorem zg_Tab_28 (hF : zF p s m args c cc nL R_Tab D K M A) (q0 : Nat) {a : Nat} {fs : List Value} {v : Value} (he : ws[q0]? = some (a, .inr (8, fs))) (hv : fs[4]? = some v) (hdg : decode cc pc = .ok (.getfield 28, 3)) (k : zW p l e R s m args below meth c D A cells slots Q nL ws lv (pc + 3) (v :: rest)) : zW p l e R s m args below meth c D A cells slots Q nL ws lv pc (.ref a :: rest) := zx_get hF (C := R_Tab) (T := F_Tab) (N := 5) wu_Tab q0 he rfl 4 (by decide) wf_Tab_28 hv hdg k
theorem zg_Tab_41 (hF : zF p s m args c cc nL R_Tab D K M A) (q0 : Nat) {a : Nat} {fs : List Value} {v : Value} (he : ws[q0]? = some (a, .inr (8, fs))) (hv : fs[0]? = some v) (hdg : decode cc pc = .ok (.getfield 41, 3)) (k : zW p l e R s m args below meth c D A cells slots Q nL ws lv (pc + 3) (v :: rest)) : zW p l e R s m args below meth c D A cells slots Q nL ws lv pc (.ref a :: rest) := zx_get hF (C := R_Tab) (T := F_Tab) (N := 5) wu_Tab q0 he rfl 0 (by decide) wf_Tab_41 hv hdg k
theorem zg_Tab_9 (hF : zF p s m args c cc nL R_Tab D K M A) (q0 : Nat) {a : Nat} {fs : List Value} {v : Value} (he : ws[q0]? = some (a, .inr (8, fs))) (hv : fs[1]? = some v) (hdg : decode cc pc = .ok (.getfield 9, 3)) (k : zW p l e R s m args below meth c D A cells slots Q nL ws lv (pc + 3) (v :: rest)) : zW p l e R s m args below meth c D A cells slots Q nL ws lv pc (.ref a :: rest) := zx_get hF (C := R_Tab) (T := F_Tab) (N := 5) wu_Tab q0 he rfl 1 (by decide) wf_Tab_9 hv hdg k
theorem zp_Bal_28 (hF : zF p s m args c cc nL R_Bal D K M A) (q0 : Nat) {a : Nat} {fs : List Value} {x : Int32} (he : ws[q0]? = some (a, .inr (1, fs))) (hz : x = 0 ∨ x = 1) (hl : 4 < fs.length) (hdg : decode cc pc = .ok (.putfield 28, 3)) {ws' : va_W} (hw : ws.set q0 (a, .inr (1, fs.set 4 (.int x))) = ws') (k : zW p l e R s m args below meth c D A cells slots Q nL ws' lv (pc + 3) rest) : zW p l e R s m args below meth c D A cells slots Q nL ws lv pc ((.int x) :: .ref a :: rest) := zx_put hF (C := R_Bal) (T := F_Bal) (N := 6) wu_Bal q0 he rfl 4 (by decide) wf_Bal_28 t_Bal t_Bal_ok n_Bal rfl (t_Bal_ok 4 (by decide)) (zbool hz).1 (zbool hz).2 hl hdg hw k
theorem zp_Tab_41 (hF : zF p s m args c cc nL R_Tab D K M A) (q0 : Nat) {a : Nat} {fs : List Value} {x : Int32} (he : ws[q0]? = some (a, .inr (8, fs))) (hl : 0 < fs.length) (hdg : decode cc pc = .ok (.putfield 41, 3)) {ws' : va_W} (hw : ws.set q0 (a, .inr (8, fs.set 0 (.int x))) = ws') (k : zW p l e R s m args below meth c D A cells slots Q nL ws' lv (pc + 3) rest) : zW p l e R s m args below meth c D A cells slots Q nL ws lv pc ((.int x) :: .ref a :: rest) := zx_put hF (C := R_Tab) (T := F_Tab) (N := 5) wu_Tab q0 he rfl 0 (by decide) wf_Tab_41 t_Tab t_Tab_ok n_Tab rfl (t_Tab_ok 0 (by decide)) rfl rfl hl hdg hw k
end ZG
theorem hd_Ent_serverOf : y_Ent_serverOf.cls = R_Ent ∧ y_Ent_serverOf.cls ≠ "java/lang/invoke/MethodHandle" ∧ y_Ent_serverOf.cls ≠ "java/lang/invoke/VarHandle" ∧ (parseMethodDescriptor y_Ent_serverOf.desc).map (fun d => d.parameters.length) = some 2 := by decide +kernel
theorem hd_Tab_serverAt : y_Tab_serverAt.cls = R_Tab ∧ y_Tab_serverAt.cls ≠ "java/lang/invoke/MethodHandle" ∧ y_Tab_serverAt.cls ≠ "java/lang/invoke/VarHandle" ∧ (parseMethodDescriptor y_Tab_serverAt.desc).map (fun d => d.parameters.length) = some 1 := by decide +kernel
theorem hd_Tab_fill : y_Tab_fill.cls = R_Tab ∧ y_Tab_fill.cls ≠ "java/lang/invoke/MethodHandle" ∧ y_Tab_fill.cls ≠ "java/lang/invoke/VarHandle" ∧ (parseMethodDescriptor y_Tab_fill.desc).map (fun d => d.parameters.length) = some 1 := by decide +kernel
theorem hd_Arr_fill : y_Arr_fill.cls = R_Arr ∧ y_Arr_fill.cls ≠ "java/lang/invoke/MethodHandle" ∧ y_Arr_fill.cls ≠ "java/lang/invoke/VarHandle" ∧ (parseMethodDescriptor y_Arr_fill.desc).map (fun d => d.parameters.length) = some 2 := by decide +kernel
theorem hd_Tab_takeFirstFree : y_Tab_takeFirstFree.cls = R_Tab ∧ y_Tab_takeFirstFree.cls ≠ "java/lang/invoke/MethodHandle" ∧ y_Tab_takeFirstFree.cls ≠ "java/lang/invoke/VarHandle" ∧ (parseMethodDescriptor y_Tab_takeFirstFree.desc).map (fun d => d.parameters.length) = some 1 := by decide +kernel
theorem hd_Lst_placeAt : y_Lst_placeAt.cls = R_Lst ∧ y_Lst_placeAt.cls ≠ "java/lang/invoke/MethodHandle" ∧ y_Lst_placeAt.cls ≠ "java/lang/invoke/VarHandle" ∧ (parseMethodDescriptor y_Lst_placeAt.desc).map (fun d => d.parameters.length) = some 2 := by decide +kernel
theorem cw_Bal_60 {R : Room} {s : State} {args : Array Value} {rm : Room} (ht : ∀ w ∈ zAll, w.before args s = true) (h1 : rm.cells = 0) (h2 : rm.slots = 0) (hR : rm.frames + 1 ≤ R.frames ∧ 8 + (2 + 11) + rm.locals ≤ R.locals) : CallW R s args R_Bal R_Slo 60 y_Slo_releaseAll b_Slo_releaseAll 2 none (zT y_Slo_releaseAll b_Slo_releaseAll 2 none) rm 0 0 0 := zcV ht wb_Slo_releaseAll wm_Bal_60 wi_Slo_releaseAll we_Slo_releaseAll wz_Slo h1 h2 hd_Slo_releaseAll hR
theorem cw_Bal_70 {R : Room} {s : State} {args : Array Value} {rm : Room} (ht : ∀ w ∈ zAll, w.before args s = true) (h1 : rm.cells = 0) (h2 : rm.slots = 0) (hR : rm.frames + 1 ≤ R.frames ∧ 8 + (4 + 11) + rm.locals ≤ R.locals) : CallW R s args R_Bal R_Ent 70 y_Ent_serverOf b_Ent_serverOf 4 (some .int) (zT y_Ent_serverOf b_Ent_serverOf 4 (some .int)) rm 0 0 2 := zcV ht wb_Ent_serverOf wm_Bal_70 wi_Ent_serverOf we_Ent_serverOf wz_Ent h1 h2 hd_Ent_serverOf hR
theorem cw_Bal_74 {R : Room} {s : State} {args : Array Value} {rm : Room} (ht : ∀ w ∈ zAll, w.before args s = true) (h1 : rm.cells = 0) (h2 : rm.slots = 0) (hR : rm.frames + 1 ≤ R.frames ∧ 8 + (2 + 11) + rm.locals ≤ R.locals) : CallW R s args R_Bal R_Tab 74 y_Tab_serverAt b_Tab_serverAt 2 (some .int) (zT y_Tab_serverAt b_Tab_serverAt 2 (some .int)) rm 0 0 1 := zcV ht wb_Tab_serverAt wm_Bal_74 wi_Tab_serverAt we_Tab_serverAt wz_Tab h1 h2 hd_Tab_serverAt hR
theorem cw_Tab_37 {R : Room} {s : State} {args : Array Value} {rm : Room} (ht : ∀ w ∈ zAll, w.before args s = true) (h1 : rm.cells = 0) (h2 : rm.slots = 0) (hR : rm.frames + 1 ≤ R.frames ∧ 8 + (5 + 11) + rm.locals ≤ R.locals) : CallW R s args R_Tab R_Tab 37 y_Tab_fill b_Tab_fill 5 none (zT y_Tab_fill b_Tab_fill 5 none) rm 0 0 1 := zcV ht wb_Tab_fill wm_Tab_37 wi_Tab_fill we_Tab_fill wz_Tab h1 h2 hd_Tab_fill hR
theorem cw_Tab_44 {R : Room} {s : State} {args : Array Value} {rm : Room} (ht : ∀ w ∈ zAll, w.before args s = true) (h1 : rm.cells = 0) (h2 : rm.slots = 0) (hR : rm.frames + 1 ≤ R.frames ∧ 8 + (4 + 11) + rm.locals ≤ R.locals) : CallB R s args R_Tab 44 y_Arr_fill b_Arr_fill 4 none (zT y_Arr_fill b_Arr_fill 4 none) rm 0 0 2 ∧ (Cond.static y_Arr_fill).before args s = true := ⟨zcB ht wb_Arr_fill (ht _ wm_Tab_44) wz_Arr h1 h2 hd_Arr_fill.2 hR, ht _ wt_Arr_fill⟩
theorem cw_Tab_49 {R : Room} {s : State} {args : Array Value} {rm : Room} (ht : ∀ w ∈ zAll, w.before args s = true) (h1 : rm.cells = 0) (h2 : rm.slots = 0) (hR : rm.frames + 1 ≤ R.frames ∧ 8 + (2 + 11) + rm.locals ≤ R.locals) : CallW R s args R_Tab R_Wat 49 y_Wat_isUp b_Wat_isUp 2 (some .boolean) (zT y_Wat_isUp b_Wat_isUp 2 (some .boolean)) rm 0 0 1 := zcV ht wb_Wat_isUp wm_Tab_49 wi_Wat_isUp we_Wat_isUp wz_Wat h1 h2 hd_Wat_isUp hR
theorem cw_Tab_55 {R : Room} {s : State} {args : Array Value} {rm : Room} (ht : ∀ w ∈ zAll, w.before args s = true) (h1 : rm.cells = 0) (h2 : rm.slots = 0) (hR : rm.frames + 1 ≤ R.frames ∧ 8 + (3 + 11) + rm.locals ≤ R.locals) : CallW R s args R_Tab R_Tab 55 y_Tab_takeFirstFree b_Tab_takeFirstFree 3 (some .int) (zT y_Tab_takeFirstFree b_Tab_takeFirstFree 3 (some .int)) rm 0 0 1 := zcV ht wb_Tab_takeFirstFree wm_Tab_55 wi_Tab_takeFirstFree we_Tab_takeFirstFree wz_Tab h1 h2 hd_Tab_takeFirstFree hR
theorem cw_Tab_59 {R : Room} {s : State} {args : Array Value} {rm : Room} (ht : ∀ w ∈ zAll, w.before args s = true) (h1 : rm.cells = 0) (h2 : rm.slots = 0) (hR : rm.frames + 1 ≤ R.frames ∧ 8 + (3 + 11) + rm.locals ≤ R.locals) : CallW R s args R_Tab R_Lst 59 y_Lst_placeAt b_Lst_placeAt 3 (some .int) (zT y_Lst_placeAt b_Lst_placeAt 3 (some .int)) rm 0 0 2 := zcV ht wb_Lst_placeAt wm_Tab_59 wi_Lst_placeAt we_Lst_placeAt wz_Lst h1 h2 hd_Lst_placeAt hR
end
section
def f_fill : Nat → Nat → Int32 → (Nat → Int32) → Nat → Int32
  | 0, _, _, f => f
  | k + 1, j, v, f => f_fill k (j + 1) v (upd f j v)
def f_count (P : Nat → Bool) : Nat → Nat → Nat → Nat
  | 0, _, c => c
  | k + 1, j, c => f_count P k (j + 1) (if P j then c + 1 else c)
def f_pl (fN sN : Nat → Nat) (m k j : Nat) : Nat := (fN k + j * sN k) % m
def f_ff (own : Nat → Int32) (pl : Nat → Nat) : Nat → Nat → Nat
  | 0, j => j
  | k + 1, j => if own (pl j) = -1 then j else f_ff own pl k (j + 1)
abbrev f_S : Type := (Nat → Int32) × (Nat → Int32) × Nat
def f_j1 (fN sN : Nat → Nat) (m k : Nat) (own nxt : Nat → Int32) : Nat := f_ff own (f_pl fN sN m k) (m - (nxt k).toNatClampNeg) (nxt k).toNatClampNeg
def f_turn (fN sN : Nat → Nat) (m : Nat) (up : Nat → Int32) (k : Nat) (x : f_S) : f_S :=
  if up k = 0 then x else if m ≤ x.2.2 then x else (upd x.1 (f_pl fN sN m k (f_j1 fN sN m k x.1 x.2.1)) (nI k), upd x.2.1 k (nI (f_j1 fN sN m k x.1 x.2.1 + 1)), x.2.2 + 1)
def f_inner (fN sN : Nat → Nat) (m : Nat) (up : Nat → Int32) : Nat → Nat → f_S → f_S
  | 0, _, x => x
  | k + 1, j, x => f_inner fN sN m up k (j + 1) (f_turn fN sN m up j x)
def f_outer (fN sN : Nat → Nat) (m n : Nat) (up : Nat → Int32) : Nat → f_S → f_S
  | 0, x => x
  | k + 1, x => f_outer fN sN m n up k (f_inner fN sN m up n 0 x)
def f_tab (fN sN : Nat → Nat) (m n : Nat) (up own nxt : Nat → Int32) : f_S := f_outer fN sN m n up m (f_fill m 0 (-1) own, f_fill n 0 0 nxt, 0)
def f_LN (fst stp : Nat → Int32) (fN sN : Nat → Nat) (m n : Nat) : Prop := ∀ k, k < n → fst k = nI (fN k) ∧ fN k < m ∧ stp k = nI (sN k) ∧ sN k < m
theorem f_ff_le (own : Nat → Int32) (pl : Nat → Nat) : ∀ k j, f_ff own pl k j ≤ j + k
  | 0, j => Nat.le_refl _
  | k + 1, j => by
    by_cases h : own (pl j) = -1
    · simp [f_ff, h]
    · have := f_ff_le own pl k (j + 1)
      simp only [f_ff, if_neg h]; omega
theorem f_pl_eq {fst stp : Nat → Int32} {fN sN : Nat → Nat} {m n k j : Nat} (hL : f_LN fst stp fN sN m n) (hm : 0 < m ∧ m ≤ 101) (hk : k < n) (hj : j ≤ 1000) : f_rem (fst k + nI j * stp k) (nI m) = nI (f_pl fN sN m k j) := by
  obtain ⟨h1, h2, h3, h4⟩ := hL k hk
  have h5 : j * sN k ≤ 1000 * 101 := Nat.mul_le_mul hj (by omega)
  rw [h1, h3, pk_mul, nI_add]
  exact pk_rem (by omega) (by omega) (by omega)
theorem f_pl_lt {fN sN : Nat → Nat} {m k j : Nat} (hm : 0 < m) : f_pl fN sN m k j < m := Nat.mod_lt _ hm
/-- the row of next places stays small -/
def f_nok (nxt : Nat → Int32) (n b : Nat) : Prop := ∀ k, k < n → nxt k = nI (nxt k).toNatClampNeg ∧ (nxt k).toNatClampNeg ≤ b
theorem f_fill_at (v : Int32) : ∀ (k j : Nat) (f : Nat → Int32) (i : Nat), f_fill k j v f i = if j ≤ i ∧ i < j + k then v else f i
  | 0, j, f, i => by rw [if_neg (by omega)]; rfl
  | k + 1, j, f, i => by
    simp only [f_fill]
    rw [f_fill_at v k (j + 1) (upd f j v) i]
    by_cases h : j ≤ i ∧ i < j + (k + 1)
    · rw [if_pos h]
      by_cases h2 : i = j
      · subst h2; rw [if_neg (by omega), pk_us]
      · rw [if_pos (by omega)]
    · rw [if_neg h, if_neg (by omega), pk_un (by omega)]
theorem f_nok_0 {nxt : Nat → Int32} {n b : Nat} : f_nok (f_fill n 0 0 nxt) n b := fun k hk => by
  rw [f_fill_at, if_pos (by omega)]
  exact ⟨rfl, Nat.zero_le _⟩
theorem f_nok_put {nxt : Nat → Int32} {n b k j : Nat} (h : f_nok nxt n b) (hj : j ≤ b + 1) (hb : b < 2 ^ 30) : f_nok (upd nxt k (nI j)) n (b + 1) := fun i hi => by
  by_cases e : i = k
  · subst e; rw [pk_us, nI_clamp (by omega)]; exact ⟨rfl, hj⟩
  · rw [pk_un e]; exact ⟨(h i hi).1, Nat.le_succ_of_le (h i hi).2⟩
def f_liveuse (on o : Int32) (use : Nat → Int32) (cnt : Int32) : (Nat → Int32) × Int32 := if on = o then (use, cnt) else if o = 0 then f_all 8 0 use cnt else (use, cnt)
def f_sw (x y : Int32) : Int32 := if x = y then 1 else 0
def f_not (x : Int32) : Int32 := if x = 0 then 1 else 0
def f_meets (on c : Int32) : Int32 := if on = 0 then 0 else if c = 0 then 1 else 0
end
section
set_option maxRecDepth 20000 in
theorem M_Arr_fill (l : Launch) (D : va_G) (K : Nat → ClassId) (M : List (ClassId × FieldType)) (a0 : Nat) (n : Nat) (f : Nat → Int32) (v : Int32) (hn : n < 2 ^ 31) (sz : Nat) : zM l y_Arr_fill (zT y_Arr_fill b_Arr_fill 4 none) (zR 0 0) 0 0 D K M [.ref a0, .int v] [cI K a0 n f] sz (zQv D K M [cI K a0 n (f_fill n 0 v f)]) := by
  refine zx_head (by decide) (Nat.le_of_ble_eq_true rfl) ?_
  intro _ _ _ _ _ _ _ _ _ hF hr hlk hnm
  refine zx_iconst (pc := 0) hF d_Arr_fill_0 k_i0 ?_
  refine zx_istore_n (pc := 1) hF (lv' := [(2, .int 0), (0, .ref a0), (1, .int v)]) d_Arr_fill_1 rfl (by decide) rfl ?_
  refine zx_aload_n (pc := 2) hF d_Arr_fill_2 rfl 1 rfl ?_
  refine zx_alen (pc := 3) hF 0 0 rfl rfl (v := nI n) rfl d_Arr_fill_3 ?_
  refine zx_istore_n (pc := 4) hF (lv' := [(3, .int (nI n)), (2, .int 0), (0, .ref a0), (1, .int v)]) d_Arr_fill_4 rfl (by decide) rfl ?_
  refine zx_lv [2, 3, 1, 0] (lv' := [(0, .ref a0), (1, .int v), (2, .int 0), (3, .int (nI n))]) rfl ?_
  refine zx_loop (pc := 5) (σ := Nat × (Nat → Int32)) (fun k zv => (zv.1 + k = n) ∧ (f_fill k zv.1 v zv.2 = f_fill n 0 v f)) (fun zv => [cI K a0 n zv.2]) (fun zv => [(0, .ref a0), (1, .int v), (2, .int (nI zv.1)), (3, .int (nI n))]) n (0, f) ⟨by (try dsimp only); omega, rfl⟩ rfl rfl ?_
  intro k zv hI ih
  obtain ⟨j, f'⟩ := zv
  obtain ⟨hk, hX⟩ := hI
  replace hk : j + k = n := hk
  replace hX : f_fill k j v f' = f_fill n 0 v f := hX
  refine zx_eq (ws' := [cI K a0 n f']) (lv' := [(0, .ref a0), (1, .int v), (2, .int (nI j)), (3, .int (nI n))]) rfl rfl rfl ?_
  refine zx_iload_n (pc := 5) hF d_Arr_fill_5 rfl 2 rfl ?_
  refine zx_iload_n (pc := 6) hF d_Arr_fill_6 rfl 3 rfl ?_
  refine zx_icmp_ge (pc := 7) hF d_Arr_fill_7 (tgt := 20) rfl (fun h7 => ?_) (fun h7 => ?_)
  · replace h7 : n ≤ j := (nI_leI (a := n) (b := j) (by omega) (by omega)).mp h7
    exact zx_vret (pc := 20) hF hr hlk (by obtain rfl : k = 0 := (by omega); rw [← hX]; rfl) d_Arr_fill_20
  · replace h7 : ¬ n ≤ j := fun z => h7 ((nI_leI (a := n) (b := j) (by omega) (by omega)).mpr z)
    refine zx_aload_n (pc := 10) hF d_Arr_fill_10 rfl 0 rfl ?_
    refine zx_iload_n (pc := 11) hF d_Arr_fill_11 rfl 2 rfl ?_
    refine zx_iload_n (pc := 12) hF d_Arr_fill_12 rfl 1 rfl ?_
    refine zx_iastn (pc := 13) hF (i := j) 0 rfl (by omega) (by omega) d_Arr_fill_13 (ws' := [cI K a0 n (upd f' j v)]) rfl ?_
    refine zx_iinc (pc := 14) hF (v := nI (j + 1)) (lv' := [(2, .int (nI (j + 1))), (0, .ref a0), (1, .int v), (3, .int (nI n))]) d_Arr_fill_14 2 rfl (zinc j) (by decide) rfl ?_
    refine zx_goto (pc := 17) hF d_Arr_fill_17 (tgt := 5) rfl ?_
    refine zx_lv [1, 2, 0, 3] (lv' := [(0, .ref a0), (1, .int v), (2, .int (nI (j + 1))), (3, .int (nI n))]) rfl ?_
    exact ih (k - 1) (j + 1, upd f' j v) (by omega) ⟨by (try dsimp only); omega, by obtain ⟨k', rfl⟩ : ∃ k', k = k' + 1 := ⟨k - 1, by omega⟩; exact hX⟩
set_option maxRecDepth 20000 in
theorem M_Tab_serverAt (l : Launch) (D : va_G) (K : Nat → ClassId) (M : List (ClassId × FieldType)) (b0 : Nat) (b1 : Nat) (b2 : Nat) (b3 : Nat) (l0 : Nat) (chg : Int32) (m : Nat) (own : Nat → Int32) (j : Nat) (hm : m < 2 ^ 31) (hj : j < m) (sz : Nat) : zM l y_Tab_serverAt (zT y_Tab_serverAt b_Tab_serverAt 2 (some .int)) (zR 0 0) 0 0 D K M [.ref b0, .int (nI j)] [cO b0 8 [.int chg, .ref l0, .ref b1, .ref b2, .ref b3], cI K b1 m own] sz (zQi D K M (own j) [cO b0 8 [.int chg, .ref l0, .ref b1, .ref b2, .ref b3], cI K b1 m own]) := by
  refine zx_head (by decide) (Nat.le_of_ble_eq_true rfl) ?_
  intro _ _ _ _ _ _ _ _ _ hF hr hlk hnm
  refine zx_aload_n (pc := 0) hF d_Tab_serverAt_0 rfl 0 rfl ?_
  refine zg_Tab_21 (pc := 1) hF 0 rfl rfl d_Tab_serverAt_1 ?_
  refine zx_iload_n (pc := 4) hF d_Tab_serverAt_4 rfl 1 rfl ?_
  refine zx_ialdn (pc := 5) hF (i := j) 1 rfl (by omega) (by omega) d_Tab_serverAt_5 ?_
  exact zx_iret (pc := 6) hF hr hlk (by first | rfl | (simp only []; done) | (simp only [↓reduceIte]; done) | simp []) (by first | rfl | (simp only []; done) | (simp only [↓reduceIte]; done) | simp []) d_Tab_serverAt_6
set_option maxRecDepth 20000 in
theorem M_Tab_placesOf (l : Launch) (D : va_G) (K : Nat → ClassId) (M : List (ClassId × FieldType)) (b0 : Nat) (b1 : Nat) (b2 : Nat) (b3 : Nat) (l0 : Nat) (chg : Int32) (m : Nat) (own : Nat → Int32) (v : Int32) (hm : m < 2 ^ 31) (sz : Nat) : zM l y_Tab_placesOf (zT y_Tab_placesOf b_Tab_placesOf 4 (some .int)) (zR 0 0) 0 0 D K M [.ref b0, .int v] [cO b0 8 [.int chg, .ref l0, .ref b1, .ref b2, .ref b3], cI K b1 m own] sz (zQi D K M (nI (f_count (fun p => own p == v) m 0 0)) [cO b0 8 [.int chg, .ref l0, .ref b1, .ref b2, .ref b3], cI K b1 m own]) := by
  refine zx_head (by decide) (Nat.le_of_ble_eq_true rfl) ?_
  intro _ _ _ _ _ _ _ _ _ hF hr hlk hnm
  refine zx_iconst (pc := 0) hF d_Tab_placesOf_0 k_i0 ?_
  refine zx_istore_n (pc := 1) hF (lv' := [(2, .int 0), (0, .ref b0), (1, .int v)]) d_Tab_placesOf_1 rfl (by decide) rfl ?_
  refine zx_iconst (pc := 2) hF d_Tab_placesOf_2 k_i0 ?_
  refine zx_istore_n (pc := 3) hF (lv' := [(3, .int 0), (2, .int 0), (0, .ref b0), (1, .int v)]) d_Tab_placesOf_3 rfl (by decide) rfl ?_
  refine zx_lv [2, 3, 1, 0] (lv' := [(0, .ref b0), (1, .int v), (2, .int 0), (3, .int 0)]) rfl ?_
  refine zx_loop (pc := 4) (σ := Nat × Nat) (fun k zv => (zv.1 + k = m) ∧ (f_count (fun p => own p == v) k zv.1 zv.2 = f_count (fun p => own p == v) m 0 0)) (fun zv => [cO b0 8 [.int chg, .ref l0, .ref b1, .ref b2, .ref b3], cI K b1 m own]) (fun zv => [(0, .ref b0), (1, .int v), (2, .int (nI zv.2)), (3, .int (nI zv.1))]) m (0, 0) ⟨by (try dsimp only); omega, rfl⟩ rfl rfl ?_
  intro k zv hI ih
  obtain ⟨j, c⟩ := zv
  obtain ⟨hk, hX⟩ := hI
  replace hk : j + k = m := hk
  replace hX : f_count (fun p => own p == v) k j c = f_count (fun p => own p == v) m 0 0 := hX
  refine zx_eq (ws' := [cO b0 8 [.int chg, .ref l0, .ref b1, .ref b2, .ref b3], cI K b1 m own]) (lv' := [(0, .ref b0), (1, .int v), (2, .int (nI c)), (3, .int (nI j))]) rfl rfl rfl ?_
  refine zx_iload_n (pc := 4) hF d_Tab_placesOf_4 rfl 3 rfl ?_
  refine zx_aload_n (pc := 5) hF d_Tab_placesOf_5 rfl 0 rfl ?_
  refine zg_Tab_21 (pc := 6) hF 0 rfl rfl d_Tab_placesOf_6 ?_
  refine zx_alen (pc := 9) hF 1 0 rfl rfl (v := nI m) rfl d_Tab_placesOf_9 ?_
  refine zx_icmp_ge (pc := 10) hF d_Tab_placesOf_10 (tgt := 32) rfl (fun h10 => ?_) (fun h10 => ?_)
  · replace h10 : m ≤ j := (nI_leI (a := m) (b := j) (by omega) (by omega)).mp h10
    refine zx_iload_n (pc := 32) hF d_Tab_placesOf_32 rfl 2 rfl ?_
    exact zx_iret (pc := 33) hF hr hlk (by obtain rfl : k = 0 := (by omega); rw [← hX]; rfl) rfl d_Tab_placesOf_33
  · replace h10 : ¬ m ≤ j := fun z => h10 ((nI_leI (a := m) (b := j) (by omega) (by omega)).mpr z)
    refine zx_aload_n (pc := 13) hF d_Tab_placesOf_13 rfl 0 rfl ?_
    refine zg_Tab_21 (pc := 14) hF 0 rfl rfl d_Tab_placesOf_14 ?_
    refine zx_iload_n (pc := 17) hF d_Tab_placesOf_17 rfl 3 rfl ?_
    refine zx_ialdn (pc := 18) hF (i := j) 1 rfl (by omega) (by omega) d_Tab_placesOf_18 ?_
    refine zx_iload_n (pc := 19) hF d_Tab_placesOf_19 rfl 1 rfl ?_
    refine zx_icmp_ne (pc := 20) hF d_Tab_placesOf_20 (tgt := 26) rfl (fun h20 => ?_) (fun h20 => ?_)
    · refine zx_iinc (pc := 26) hF (v := nI (j + 1)) (lv' := [(3, .int (nI (j + 1))), (0, .ref b0), (1, .int v), (2, .int (nI c))]) d_Tab_placesOf_26 3 rfl (zinc j) (by decide) rfl ?_
      refine zx_goto (pc := 29) hF d_Tab_placesOf_29 (tgt := 4) rfl ?_
      refine zx_lv [1, 2, 3, 0] (lv' := [(0, .ref b0), (1, .int v), (2, .int (nI c)), (3, .int (nI (j + 1)))]) rfl ?_
      exact ih (k - 1) (j + 1, c) (by omega) ⟨by (try dsimp only); omega, by obtain ⟨k', rfl⟩ : ∃ k', k = k' + 1 := ⟨k - 1, by omega⟩; simpa [f_count, h10, h20] using hX⟩
    · refine zx_iinc (pc := 23) hF (v := nI (c + 1)) (lv' := [(2, .int (nI (c + 1))), (0, .ref b0), (1, .int v), (3, .int (nI j))]) d_Tab_placesOf_23 2 rfl (zinc c) (by decide) rfl ?_
      refine zx_iinc (pc := 26) hF (v := nI (j + 1)) (lv' := [(3, .int (nI (j + 1))), (2, .int (nI (c + 1))), (0, .ref b0), (1, .int v)]) d_Tab_placesOf_26 3 rfl (zinc j) (by decide) rfl ?_
      refine zx_goto (pc := 29) hF d_Tab_placesOf_29 (tgt := 4) rfl ?_
      refine zx_lv [2, 3, 1, 0] (lv' := [(0, .ref b0), (1, .int v), (2, .int (nI (c + 1))), (3, .int (nI (j + 1)))]) rfl ?_
      exact ih (k - 1) (j + 1, c + 1) (by omega) ⟨by (try dsimp only); omega, by obtain ⟨k', rfl⟩ : ∃ k', k = k' + 1 := ⟨k - 1, by omega⟩; simpa [f_count, h10, h20] using hX⟩
set_option maxRecDepth 20000 in
theorem M_Tab_takeFirstFree (l : Launch) (D : va_G) (K : Nat → ClassId) (M : List (ClassId × FieldType)) (b0 : Nat) (b1 : Nat) (b2 : Nat) (b3 : Nat) (l0 : Nat) (chg : Int32) (m : Nat) (own : Nat → Int32) (l1 : Nat) (l2 : Nat) (n : Nat) (fst : Nat → Int32) (stp : Nat → Int32) (bef : Nat → Int32) (nxt : Nat → Int32) (fN : Nat → Nat) (sN : Nat → Nat) (q : Nat) (hm : 0 < m ∧ m ≤ 101) (hn : n ≤ 8) (hL : f_LN fst stp fN sN m n) (hq : q < n) (hx : nxt q = nI (nxt q).toNatClampNeg ∧ (nxt q).toNatClampNeg ≤ 500) (sz : Nat) : zM l y_Tab_takeFirstFree (zT y_Tab_takeFirstFree b_Tab_takeFirstFree 3 (some .int)) (zR 1 22) 0 0 D K M [.ref b0, .int (nI q)] [cO b0 8 [.int chg, .ref l0, .ref b1, .ref b2, .ref b3], cO l0 4 [.int (nI m), .ref l1, .ref l2], cI K l1 n fst, cI K l2 n stp, cI K b1 m own, cI K b2 m bef, cI K b3 n nxt] sz (zQi D K M (nI (f_pl fN sN m q (f_j1 fN sN m q own nxt))) [cO b0 8 [.int chg, .ref l0, .ref b1, .ref b2, .ref b3], cO l0 4 [.int (nI m), .ref l1, .ref l2], cI K l1 n fst, cI K l2 n stp, cI K b1 m own, cI K b2 m bef, cI K b3 n (upd nxt q (nI (f_j1 fN sN m q own nxt + 1)))]) := by
  refine zx_head (by decide) (Nat.le_of_ble_eq_true rfl) ?_
  intro _ _ _ _ _ _ _ _ _ hF hr hlk hnm
  refine zx_aload_n (pc := 0) hF d_Tab_takeFirstFree_0 rfl 0 rfl ?_
  refine zg_Tab_28 (pc := 1) hF 0 rfl rfl d_Tab_takeFirstFree_1 ?_
  refine zx_iload_n (pc := 4) hF d_Tab_takeFirstFree_4 rfl 1 rfl ?_
  refine zx_ialdn (pc := 5) hF (i := q) 6 rfl (by omega) (by omega) d_Tab_takeFirstFree_5 ?_
  refine zx_topi (nI (Int32.toNatClampNeg (nxt q))) (hx.1) ?_
  refine zx_istore_n (pc := 6) hF (lv' := [(2, .int (nI (Int32.toNatClampNeg (nxt q)))), (0, .ref b0), (1, .int (nI q))]) d_Tab_takeFirstFree_6 rfl (by decide) rfl ?_
  refine zx_lv [1, 2, 0] (lv' := [(0, .ref b0), (1, .int (nI q)), (2, .int (nI (Int32.toNatClampNeg (nxt q))))]) rfl ?_
  refine zx_loop (pc := 7) (σ := Nat) (fun k zv => (k = m - zv) ∧ (zv ≤ 700) ∧ (f_ff own (f_pl fN sN m q) k zv = f_j1 fN sN m q own nxt)) (fun zv => [cO b0 8 [.int chg, .ref l0, .ref b1, .ref b2, .ref b3], cO l0 4 [.int (nI m), .ref l1, .ref l2], cI K l1 n fst, cI K l2 n stp, cI K b1 m own, cI K b2 m bef, cI K b3 n nxt]) (fun zv => [(0, .ref b0), (1, .int (nI q)), (2, .int (nI zv))]) (m - (nxt q).toNatClampNeg) (Int32.toNatClampNeg (nxt q)) ⟨rfl, by (try dsimp only); omega, rfl⟩ rfl rfl ?_
  intro k j hI ih
  obtain ⟨hk, hb, hX⟩ := hI
  replace hk : k = m - j := hk
  replace hb : j ≤ 700 := hb
  replace hX : f_ff own (f_pl fN sN m q) k j = f_j1 fN sN m q own nxt := hX
  refine zx_eq (ws' := [cO b0 8 [.int chg, .ref l0, .ref b1, .ref b2, .ref b3], cO l0 4 [.int (nI m), .ref l1, .ref l2], cI K l1 n fst, cI K l2 n stp, cI K b1 m own, cI K b2 m bef, cI K b3 n nxt]) (lv' := [(0, .ref b0), (1, .int (nI q)), (2, .int (nI j))]) rfl rfl rfl ?_
  refine zx_iload_n (pc := 7) hF d_Tab_takeFirstFree_7 rfl 2 rfl ?_
  refine zx_aload_n (pc := 8) hF d_Tab_takeFirstFree_8 rfl 0 rfl ?_
  refine zg_Tab_21 (pc := 9) hF 0 rfl rfl d_Tab_takeFirstFree_9 ?_
  refine zx_alen (pc := 12) hF 4 0 rfl rfl (v := nI m) rfl d_Tab_takeFirstFree_12 ?_
  refine zx_icmp_ge (pc := 13) hF d_Tab_takeFirstFree_13 (tgt := 40) rfl (fun h13 => ?_) (fun h13 => ?_)
  · replace h13 : m ≤ j := (nI_leI (a := m) (b := j) (by omega) (by omega)).mp h13
    have hj1 : j = f_j1 fN sN m q own nxt := by obtain rfl : k = 0 := (by omega); exact hX
    refine zx_aload_n (pc := 40) hF d_Tab_takeFirstFree_40 rfl 0 rfl ?_
    refine zg_Tab_28 (pc := 41) hF 0 rfl rfl d_Tab_takeFirstFree_41 ?_
    refine zx_iload_n (pc := 44) hF d_Tab_takeFirstFree_44 rfl 1 rfl ?_
    refine zx_iload_n (pc := 45) hF d_Tab_takeFirstFree_45 rfl 2 rfl ?_
    refine zx_iconst (pc := 46) hF d_Tab_takeFirstFree_46 k_i1 ?_
    refine zx_iadd (pc := 47) hF d_Tab_takeFirstFree_47 ?_
    refine zx_topi (nI (j + 1)) (nI_add j 1) ?_
    refine zx_iastn (pc := 48) hF (i := q) 6 rfl (by omega) (by omega) d_Tab_takeFirstFree_48 (ws' := [cO b0 8 [.int chg, .ref l0, .ref b1, .ref b2, .ref b3], cO l0 4 [.int (nI m), .ref l1, .ref l2], cI K l1 n fst, cI K l2 n stp, cI K b1 m own, cI K b2 m bef, cI K b3 n (upd nxt q (nI (j + 1)))]) rfl ?_
    refine zx_aload_n (pc := 49) hF d_Tab_takeFirstFree_49 rfl 0 rfl ?_
    refine zg_Tab_9 (pc := 50) hF 0 rfl rfl d_Tab_takeFirstFree_50 ?_
    refine zx_iload_n (pc := 53) hF d_Tab_takeFirstFree_53 rfl 1 rfl ?_
    refine zx_iload_n (pc := 54) hF d_Tab_takeFirstFree_54 rfl 2 rfl ?_
    refine zx_Vi (pc := 55) hF (As := [.int (nI q), .int (nI j)]) (rest := []) (fun sz => M_Lst_placeAt l D K M l0 l1 l2 n (nI m) fst stp q (nI j) (by first | assumption | omega) (by first | assumption | omega) (nI_ne0 hm.1 (by omega)) sz) [1, 2, 3] rfl (by decide) (as := [l0, l1, l2]) rfl rfl (ws' := [cO b0 8 [.int chg, .ref l0, .ref b1, .ref b2, .ref b3], cO l0 4 [.int (nI m), .ref l1, .ref l2], cI K l1 n fst, cI K l2 n stp, cI K b1 m own, cI K b2 m bef, cI K b3 n (upd nxt q (nI (j + 1)))]) rfl 0 4 rfl rfl rfl (cw_Tab_59 hF.2.2.2.2.1 rfl rfl ⟨by decide, by decide⟩) rfl rfl (Nat.le_of_ble_eq_true rfl) d_Tab_takeFirstFree_55 ⟨Nat.zero_le _, Nat.zero_le _⟩ ?_
    refine zx_topi (nI (f_pl fN sN m q j)) (f_pl_eq hL hm hq (by omega)) ?_
    exact zx_iret (pc := 58) hF hr hlk (by rw [hj1]) (by rw [hj1]) d_Tab_takeFirstFree_58
  · replace h13 : ¬ m ≤ j := fun z => h13 ((nI_leI (a := m) (b := j) (by omega) (by omega)).mpr z)
    refine zx_aload_n (pc := 16) hF d_Tab_takeFirstFree_16 rfl 0 rfl ?_
    refine zg_Tab_21 (pc := 17) hF 0 rfl rfl d_Tab_takeFirstFree_17 ?_
    refine zx_aload_n (pc := 20) hF d_Tab_takeFirstFree_20 rfl 0 rfl ?_
    refine zg_Tab_9 (pc := 21) hF 0 rfl rfl d_Tab_takeFirstFree_21 ?_
    refine zx_iload_n (pc := 24) hF d_Tab_takeFirstFree_24 rfl 1 rfl ?_
    refine zx_iload_n (pc := 25) hF d_Tab_takeFirstFree_25 rfl 2 rfl ?_
    refine zx_Vi (pc := 26) hF (As := [.int (nI q), .int (nI j)]) (rest := [.ref b1]) (fun sz => M_Lst_placeAt l D K M l0 l1 l2 n (nI m) fst stp q (nI j) (by first | assumption | omega) (by first | assumption | omega) (nI_ne0 hm.1 (by omega)) sz) [1, 2, 3] rfl (by decide) (as := [l0, l1, l2]) rfl rfl (ws' := [cO b0 8 [.int chg, .ref l0, .ref b1, .ref b2, .ref b3], cO l0 4 [.int (nI m), .ref l1, .ref l2], cI K l1 n fst, cI K l2 n stp, cI K b1 m own, cI K b2 m bef, cI K b3 n nxt]) rfl 0 4 rfl rfl rfl (cw_Tab_59 hF.2.2.2.2.1 rfl rfl ⟨by decide, by decide⟩) rfl rfl (Nat.le_of_ble_eq_true rfl) d_Tab_takeFirstFree_26 ⟨Nat.zero_le _, Nat.zero_le _⟩ ?_
    refine zx_topi (nI (f_pl fN sN m q j)) (f_pl_eq hL hm hq (by omega)) ?_
    refine zx_ialdn (pc := 29) hF (i := f_pl fN sN m q j) 4 rfl (f_pl_lt hm.1) (by omega) d_Tab_takeFirstFree_29 ?_
    refine zx_iconst (pc := 30) hF d_Tab_takeFirstFree_30 k_im1 ?_
    refine zx_icmp_eq (pc := 31) hF d_Tab_takeFirstFree_31 (tgt := 40) rfl (fun h31 => ?_) (fun h31 => ?_)
    · have hj1 : j = f_j1 fN sN m q own nxt := by obtain ⟨k', rfl⟩ : ∃ k', k = k' + 1 := ⟨k - 1, by omega⟩; simpa [f_ff, h31] using hX
      refine zx_aload_n (pc := 40) hF d_Tab_takeFirstFree_40 rfl 0 rfl ?_
      refine zg_Tab_28 (pc := 41) hF 0 rfl rfl d_Tab_takeFirstFree_41 ?_
      refine zx_iload_n (pc := 44) hF d_Tab_takeFirstFree_44 rfl 1 rfl ?_
      refine zx_iload_n (pc := 45) hF d_Tab_takeFirstFree_45 rfl 2 rfl ?_
      refine zx_iconst (pc := 46) hF d_Tab_takeFirstFree_46 k_i1 ?_
      refine zx_iadd (pc := 47) hF d_Tab_takeFirstFree_47 ?_
      refine zx_topi (nI (j + 1)) (nI_add j 1) ?_
      refine zx_iastn (pc := 48) hF (i := q) 6 rfl (by omega) (by omega) d_Tab_takeFirstFree_48 (ws' := [cO b0 8 [.int chg, .ref l0, .ref b1, .ref b2, .ref b3], cO l0 4 [.int (nI m), .ref l1, .ref l2], cI K l1 n fst, cI K l2 n stp, cI K b1 m own, cI K b2 m bef, cI K b3 n (upd nxt q (nI (j + 1)))]) rfl ?_
      refine zx_aload_n (pc := 49) hF d_Tab_takeFirstFree_49 rfl 0 rfl ?_
      refine zg_Tab_9 (pc := 50) hF 0 rfl rfl d_Tab_takeFirstFree_50 ?_
      refine zx_iload_n (pc := 53) hF d_Tab_takeFirstFree_53 rfl 1 rfl ?_
      refine zx_iload_n (pc := 54) hF d_Tab_takeFirstFree_54 rfl 2 rfl ?_
      refine zx_Vi (pc := 55) hF (As := [.int (nI q), .int (nI j)]) (rest := []) (fun sz => M_Lst_placeAt l D K M l0 l1 l2 n (nI m) fst stp q (nI j) (by first | assumption | omega) (by first | assumption | omega) (nI_ne0 hm.1 (by omega)) sz) [1, 2, 3] rfl (by decide) (as := [l0, l1, l2]) rfl rfl (ws' := [cO b0 8 [.int chg, .ref l0, .ref b1, .ref b2, .ref b3], cO l0 4 [.int (nI m), .ref l1, .ref l2], cI K l1 n fst, cI K l2 n stp, cI K b1 m own, cI K b2 m bef, cI K b3 n (upd nxt q (nI (j + 1)))]) rfl 0 4 rfl rfl rfl (cw_Tab_59 hF.2.2.2.2.1 rfl rfl ⟨by decide, by decide⟩) rfl rfl (Nat.le_of_ble_eq_true rfl) d_Tab_takeFirstFree_55 ⟨Nat.zero_le _, Nat.zero_le _⟩ ?_
      refine zx_topi (nI (f_pl fN sN m q j)) (f_pl_eq hL hm hq (by omega)) ?_
      exact zx_iret (pc := 58) hF hr hlk (by rw [hj1]) (by rw [hj1]) d_Tab_takeFirstFree_58
    · refine zx_iinc (pc := 34) hF (v := nI (j + 1)) (lv' := [(2, .int (nI (j + 1))), (0, .ref b0), (1, .int (nI q))]) d_Tab_takeFirstFree_34 2 rfl (zinc j) (by decide) rfl ?_
      refine zx_goto (pc := 37) hF d_Tab_takeFirstFree_37 (tgt := 7) rfl ?_
      refine zx_lv [1, 2, 0] (lv' := [(0, .ref b0), (1, .int (nI q)), (2, .int (nI (j + 1)))]) rfl ?_
      exact ih (k - 1) (j + 1) (by omega) ⟨by (try dsimp only); omega, by (try dsimp only); omega, by obtain ⟨k', rfl⟩ : ∃ k', k = k' + 1 := ⟨k - 1, by omega⟩; simpa [f_ff, h31] using hX⟩
set_option maxRecDepth 20000 in
theorem M_Tab_fill (l : Launch) (D : va_G) (K : Nat → ClassId) (M : List (ClassId × FieldType)) (b0 : Nat) (b1 : Nat) (b2 : Nat) (b3 : Nat) (l0 : Nat) (chg : Int32) (m : Nat) (own : Nat → Int32) (l1 : Nat) (l2 : Nat) (n : Nat) (fst : Nat → Int32) (stp : Nat → Int32) (bef : Nat → Int32) (nxt : Nat → Int32) (fN : Nat → Nat) (sN : Nat → Nat) (w0 : Nat) (w1 : Nat) (w2 : Nat) (up : Nat → Int32) (con : Nat → Int32) (hm : 0 < m ∧ m ≤ 101) (hn : n ≤ 8) (hL : f_LN fst stp fN sN m n) (hu : z01 up) (sz : Nat) : zM l y_Tab_fill (zT y_Tab_fill b_Tab_fill 5 none) (zR 2 44) 0 0 D K M [.ref b0, .ref w0] [cO b0 8 [.int chg, .ref l0, .ref b1, .ref b2, .ref b3], cO l0 4 [.int (nI m), .ref l1, .ref l2], cI K l1 n fst, cI K l2 n stp, cI K b1 m own, cI K b2 m bef, cI K b3 n nxt, cO w0 9 [.ref w1, .ref w2], cZ K w1 n up, cI K w2 n con] sz (zQv D K M [cO b0 8 [.int chg, .ref l0, .ref b1, .ref b2, .ref b3], cO l0 4 [.int (nI m), .ref l1, .ref l2], cI K l1 n fst, cI K l2 n stp, cI K b1 m (f_tab fN sN m n up own nxt).1, cI K b2 m bef, cI K b3 n (f_tab fN sN m n up own nxt).2.1, cO w0 9 [.ref w1, .ref w2], cZ K w1 n up, cI K w2 n con]) := by
  refine zx_head (by decide) (Nat.le_of_ble_eq_true rfl) ?_
  intro _ _ _ _ _ _ _ _ _ hF hr hlk hnm
  refine zx_aload_n (pc := 0) hF d_Tab_fill_0 rfl 0 rfl ?_
  refine zg_Tab_21 (pc := 1) hF 0 rfl rfl d_Tab_fill_1 ?_
  refine zx_iconst (pc := 4) hF d_Tab_fill_4 k_im1 ?_
  refine zx_Sv (pc := 5) hF (As := [.ref b1, .int (-1)]) (rest := []) (fun sz => M_Arr_fill l D K M b1 m own (-1) (by omega) sz) [4] rfl (by decide) (as := [b1]) rfl rfl (ws' := [cO b0 8 [.int chg, .ref l0, .ref b1, .ref b2, .ref b3], cO l0 4 [.int (nI m), .ref l1, .ref l2], cI K l1 n fst, cI K l2 n stp, cI K b1 m (f_fill m 0 (-1) own), cI K b2 m bef, cI K b3 n nxt, cO w0 9 [.ref w1, .ref w2], cZ K w1 n up, cI K w2 n con]) rfl (cw_Tab_44 hF.2.2.2.2.1 rfl rfl ⟨by decide, by decide⟩) rfl rfl (Nat.le_of_ble_eq_true rfl) d_Tab_fill_5 ⟨Nat.zero_le _, Nat.zero_le _⟩ ?_
  refine zx_aload_n (pc := 8) hF d_Tab_fill_8 rfl 0 rfl ?_
  refine zg_Tab_28 (pc := 9) hF 0 rfl rfl d_Tab_fill_9 ?_
  refine zx_iconst (pc := 12) hF d_Tab_fill_12 k_i0 ?_
  refine zx_Sv (pc := 13) hF (As := [.ref b3, .int 0]) (rest := []) (fun sz => M_Arr_fill l D K M b3 n nxt 0 (by omega) sz) [6] rfl (by decide) (as := [b3]) rfl rfl (ws' := [cO b0 8 [.int chg, .ref l0, .ref b1, .ref b2, .ref b3], cO l0 4 [.int (nI m), .ref l1, .ref l2], cI K l1 n fst, cI K l2 n stp, cI K b1 m (f_fill m 0 (-1) own), cI K b2 m bef, cI K b3 n (f_fill n 0 0 nxt), cO w0 9 [.ref w1, .ref w2], cZ K w1 n up, cI K w2 n con]) rfl (cw_Tab_44 hF.2.2.2.2.1 rfl rfl ⟨by decide, by decide⟩) rfl rfl (Nat.le_of_ble_eq_true rfl) d_Tab_fill_13 ⟨Nat.zero_le _, Nat.zero_le _⟩ ?_
  refine zx_iconst (pc := 16) hF d_Tab_fill_16 k_i0 ?_
  refine zx_istore_n (pc := 17) hF (lv' := [(2, .int 0), (0, .ref b0), (1, .ref w0)]) d_Tab_fill_17 rfl (by decide) rfl ?_
  refine zx_iconst (pc := 18) hF d_Tab_fill_18 k_i0 ?_
  refine zx_istore_n (pc := 19) hF (lv' := [(3, .int 0), (2, .int 0), (0, .ref b0), (1, .ref w0)]) d_Tab_fill_19 rfl (by decide) rfl ?_
  refine zx_lv [2, 3, 1, 0] (lv' := [(0, .ref b0), (1, .ref w0), (2, .int 0), (3, .int 0)]) rfl ?_
  refine zx_loop (pc := 20) (σ := Nat × Nat × (Nat → Int32) × (Nat → Int32)) (fun k1 zv => (zv.1 + k1 = m) ∧ (zv.2.1 ≤ m) ∧ (f_nok zv.2.2.2 n (m + zv.2.1)) ∧ (f_outer fN sN m n up k1 (zv.2.2.1, zv.2.2.2, zv.2.1) = f_tab fN sN m n up own nxt)) (fun zv => [cO b0 8 [.int chg, .ref l0, .ref b1, .ref b2, .ref b3], cO l0 4 [.int (nI m), .ref l1, .ref l2], cI K l1 n fst, cI K l2 n stp, cI K b1 m zv.2.2.1, cI K b2 m bef, cI K b3 n zv.2.2.2, cO w0 9 [.ref w1, .ref w2], cZ K w1 n up, cI K w2 n con]) (fun zv => [(0, .ref b0), (1, .ref w0), (2, .int (nI zv.2.1)), (3, .int (nI zv.1))]) m (0, 0, f_fill m 0 (-1) own, f_fill n 0 0 nxt) ⟨by (try dsimp only); omega, by (try dsimp only); omega, f_nok_0, rfl⟩ rfl rfl ?_
  intro k1 zv hI ih1
  obtain ⟨t, g, own', nxt'⟩ := zv
  obtain ⟨hk1, hg1, hN1, hX1⟩ := hI
  replace hk1 : t + k1 = m := hk1
  replace hg1 : g ≤ m := hg1
  replace hN1 : f_nok nxt' n (m + g) := hN1
  replace hX1 : f_outer fN sN m n up k1 (own', nxt', g) = f_tab fN sN m n up own nxt := hX1
  refine zx_eq (ws' := [cO b0 8 [.int chg, .ref l0, .ref b1, .ref b2, .ref b3], cO l0 4 [.int (nI m), .ref l1, .ref l2], cI K l1 n fst, cI K l2 n stp, cI K b1 m own', cI K b2 m bef, cI K b3 n nxt', cO w0 9 [.ref w1, .ref w2], cZ K w1 n up, cI K w2 n con]) (lv' := [(0, .ref b0), (1, .ref w0), (2, .int (nI g)), (3, .int (nI t))]) rfl rfl rfl ?_
  refine zx_iload_n (pc := 20) hF d_Tab_fill_20 rfl 3 rfl ?_
  refine zx_aload_n (pc := 21) hF d_Tab_fill_21 rfl 0 rfl ?_
  refine zg_Tab_21 (pc := 22) hF 0 rfl rfl d_Tab_fill_22 ?_
  refine zx_alen (pc := 25) hF 4 0 rfl rfl (v := nI m) rfl d_Tab_fill_25 ?_
  refine zx_icmp_ge (pc := 26) hF d_Tab_fill_26 (tgt := 88) rfl (fun h26 => ?_) (fun h26 => ?_)
  · replace h26 : m ≤ t := (nI_leI (a := m) (b := t) (by omega) (by omega)).mp h26
    exact zx_vret (pc := 88) hF hr hlk (by obtain rfl : k1 = 0 := (by omega); rw [← hX1]; rfl) d_Tab_fill_88
  · replace h26 : ¬ m ≤ t := fun z => h26 ((nI_leI (a := m) (b := t) (by omega) (by omega)).mpr z)
    refine zx_iconst (pc := 29) hF d_Tab_fill_29 k_i0 ?_
    refine zx_istore (pc := 30) hF (lv' := [(4, .int 0), (0, .ref b0), (1, .ref w0), (2, .int (nI g)), (3, .int (nI t))]) d_Tab_fill_30 (by decide) rfl ?_
    refine zx_lv [1, 2, 3, 4, 0] (lv' := [(0, .ref b0), (1, .ref w0), (2, .int (nI g)), (3, .int (nI t)), (4, .int 0)]) rfl ?_
    refine zx_loop (pc := 32) (σ := Nat × Nat × (Nat → Int32) × (Nat → Int32)) (fun k zv => (zv.1 + k = n) ∧ (zv.2.1 ≤ m) ∧ (f_nok zv.2.2.2 n (m + zv.2.1)) ∧ (f_outer fN sN m n up (k1 - 1) (f_inner fN sN m up k zv.1 (zv.2.2.1, zv.2.2.2, zv.2.1)) = f_tab fN sN m n up own nxt)) (fun zv => [cO b0 8 [.int chg, .ref l0, .ref b1, .ref b2, .ref b3], cO l0 4 [.int (nI m), .ref l1, .ref l2], cI K l1 n fst, cI K l2 n stp, cI K b1 m zv.2.2.1, cI K b2 m bef, cI K b3 n zv.2.2.2, cO w0 9 [.ref w1, .ref w2], cZ K w1 n up, cI K w2 n con]) (fun zv => [(0, .ref b0), (1, .ref w0), (2, .int (nI zv.2.1)), (3, .int (nI t)), (4, .int (nI zv.1))]) n (0, g, own', nxt') ⟨by (try dsimp only); omega, by assumption, by assumption, by obtain ⟨k', rfl⟩ : ∃ k', k1 = k' + 1 := ⟨k1 - 1, by omega⟩; exact hX1⟩ rfl rfl ?_
    intro k zv hI ih
    obtain ⟨j, g, own', nxt'⟩ := zv
    obtain ⟨hk, hg, hN, hX⟩ := hI
    replace hk : j + k = n := hk
    replace hg : g ≤ m := hg
    replace hN : f_nok nxt' n (m + g) := hN
    replace hX : f_outer fN sN m n up (k1 - 1) (f_inner fN sN m up k j (own', nxt', g)) = f_tab fN sN m n up own nxt := hX
    refine zx_eq (ws' := [cO b0 8 [.int chg, .ref l0, .ref b1, .ref b2, .ref b3], cO l0 4 [.int (nI m), .ref l1, .ref l2], cI K l1 n fst, cI K l2 n stp, cI K b1 m own', cI K b2 m bef, cI K b3 n nxt', cO w0 9 [.ref w1, .ref w2], cZ K w1 n up, cI K w2 n con]) (lv' := [(0, .ref b0), (1, .ref w0), (2, .int (nI g)), (3, .int (nI t)), (4, .int (nI j))]) rfl rfl rfl ?_
    refine zx_iload (pc := 32) hF d_Tab_fill_32 4 rfl ?_
    refine zx_aload_n (pc := 34) hF d_Tab_fill_34 rfl 0 rfl ?_
    refine zg_Tab_28 (pc := 35) hF 0 rfl rfl d_Tab_fill_35 ?_
    refine zx_alen (pc := 38) hF 6 0 rfl rfl (v := nI n) rfl d_Tab_fill_38 ?_
    refine zx_icmp_ge (pc := 39) hF d_Tab_fill_39 (tgt := 82) rfl (fun h39 => ?_) (fun h39 => ?_)
    · replace h39 : n ≤ j := (nI_leI (a := n) (b := j) (by omega) (by omega)).mp h39
      refine zx_iinc (pc := 82) hF (v := nI (t + 1)) (lv' := [(3, .int (nI (t + 1))), (0, .ref b0), (1, .ref w0), (2, .int (nI g)), (4, .int (nI j))]) d_Tab_fill_82 3 rfl (zinc t) (by decide) rfl ?_
      refine zx_goto (pc := 85) hF d_Tab_fill_85 (tgt := 20) rfl ?_
      refine zx_lv [1, 2, 3, 0] (lv' := [(0, .ref b0), (1, .ref w0), (2, .int (nI g)), (3, .int (nI (t + 1)))]) rfl ?_
      exact ih1 (k1 - 1) (t + 1, g, own', nxt') (by omega) ⟨by (try dsimp only); omega, by assumption, by assumption, by obtain rfl : k = 0 := (by omega); exact hX⟩
    · replace h39 : ¬ n ≤ j := fun z => h39 ((nI_leI (a := n) (b := j) (by omega) (by omega)).mpr z)
      refine zx_aload_n (pc := 42) hF d_Tab_fill_42 rfl 1 rfl ?_
      refine zx_iload (pc := 43) hF d_Tab_fill_43 4 rfl ?_
      refine zx_Vi (pc := 45) hF (As := [.int (nI j)]) (rest := []) (fun sz => M_Wat_isUp l D K M w0 w1 w2 n up con j (by omega) (by first | assumption | omega) (by first | assumption | omega) sz) [7, 8, 9] rfl (by decide) (as := [w0, w1, w2]) rfl rfl (ws' := [cO b0 8 [.int chg, .ref l0, .ref b1, .ref b2, .ref b3], cO l0 4 [.int (nI m), .ref l1, .ref l2], cI K l1 n fst, cI K l2 n stp, cI K b1 m own', cI K b2 m bef, cI K b3 n nxt', cO w0 9 [.ref w1, .ref w2], cZ K w1 n up, cI K w2 n con]) rfl 0 9 rfl rfl rfl (cw_Tab_49 hF.2.2.2.2.1 rfl rfl ⟨by decide, by decide⟩) rfl rfl (Nat.le_of_ble_eq_true rfl) d_Tab_fill_45 ⟨Nat.zero_le _, Nat.zero_le _⟩ ?_
      refine zx_if_eq (pc := 48) hF d_Tab_fill_48 (tgt := 76) rfl (fun h48 => ?_) (fun h48 => ?_)
      · refine zx_iinc (pc := 76) hF (v := nI (j + 1)) (lv' := [(4, .int (nI (j + 1))), (0, .ref b0), (1, .ref w0), (2, .int (nI g)), (3, .int (nI t))]) d_Tab_fill_76 4 rfl (zinc j) (by decide) rfl ?_
        refine zx_goto (pc := 79) hF d_Tab_fill_79 (tgt := 32) rfl ?_
        refine zx_lv [1, 2, 3, 4, 0] (lv' := [(0, .ref b0), (1, .ref w0), (2, .int (nI g)), (3, .int (nI t)), (4, .int (nI (j + 1)))]) rfl ?_
        exact ih (k - 1) (j + 1, g, own', nxt') (by omega) ⟨by (try dsimp only); omega, by (try dsimp only); omega, by assumption, by obtain ⟨k', rfl⟩ : ∃ k', k = k' + 1 := ⟨k - 1, by omega⟩; simpa [f_inner, f_turn, h39, h48] using hX⟩
      · refine zx_iload_n (pc := 51) hF d_Tab_fill_51 rfl 2 rfl ?_
        refine zx_aload_n (pc := 52) hF d_Tab_fill_52 rfl 0 rfl ?_
        refine zg_Tab_21 (pc := 53) hF 0 rfl rfl d_Tab_fill_53 ?_
        refine zx_alen (pc := 56) hF 4 0 rfl rfl (v := nI m) rfl d_Tab_fill_56 ?_
        refine zx_icmp_ge (pc := 57) hF d_Tab_fill_57 (tgt := 76) rfl (fun h57 => ?_) (fun h57 => ?_)
        · replace h57 : m ≤ g := (nI_leI (a := m) (b := g) (by omega) (by omega)).mp h57
          refine zx_iinc (pc := 76) hF (v := nI (j + 1)) (lv' := [(4, .int (nI (j + 1))), (0, .ref b0), (1, .ref w0), (2, .int (nI g)), (3, .int (nI t))]) d_Tab_fill_76 4 rfl (zinc j) (by decide) rfl ?_
          refine zx_goto (pc := 79) hF d_Tab_fill_79 (tgt := 32) rfl ?_
          refine zx_lv [1, 2, 3, 4, 0] (lv' := [(0, .ref b0), (1, .ref w0), (2, .int (nI g)), (3, .int (nI t)), (4, .int (nI (j + 1)))]) rfl ?_
          exact ih (k - 1) (j + 1, g, own', nxt') (by omega) ⟨by (try dsimp only); omega, by (try dsimp only); omega, by assumption, by obtain ⟨k', rfl⟩ : ∃ k', k = k' + 1 := ⟨k - 1, by omega⟩; simpa [f_inner, f_turn, h39, h48, h57] using hX⟩
        · replace h57 : ¬ m ≤ g := fun z => h57 ((nI_leI (a := m) (b := g) (by omega) (by omega)).mpr z)
          refine zx_aload_n (pc := 60) hF d_Tab_fill_60 rfl 0 rfl ?_
          refine zg_Tab_21 (pc := 61) hF 0 rfl rfl d_Tab_fill_61 ?_
          refine zx_aload_n (pc := 64) hF d_Tab_fill_64 rfl 0 rfl ?_
          refine zx_iload (pc := 65) hF d_Tab_fill_65 4 rfl ?_
          refine zx_Vi (pc := 67) hF (As := [.int (nI j)]) (rest := [.ref b1]) (fun sz => M_Tab_takeFirstFree l D K M b0 b1 b2 b3 l0 chg m own' l1 l2 n fst stp bef nxt' fN sN j (by first | assumption | omega) (by first | assumption | omega) (by first | assumption | omega) (by omega) ⟨(hN j (by omega)).1, by have h8 := (hN j (by omega)).2; omega⟩ sz) [0, 1, 2, 3, 4, 5, 6] rfl (by decide) (as := [b0, l0, l1, l2, b1, b2, b3]) rfl rfl (ws' := [cO b0 8 [.int chg, .ref l0, .ref b1, .ref b2, .ref b3], cO l0 4 [.int (nI m), .ref l1, .ref l2], cI K l1 n fst, cI K l2 n stp, cI K b1 m own', cI K b2 m bef, cI K b3 n (upd nxt' j (nI (f_j1 fN sN m j own' nxt' + 1))), cO w0 9 [.ref w1, .ref w2], cZ K w1 n up, cI K w2 n con]) rfl 0 8 rfl rfl rfl (cw_Tab_55 hF.2.2.2.2.1 rfl rfl ⟨by decide, by decide⟩) rfl rfl (Nat.le_of_ble_eq_true rfl) d_Tab_fill_67 ⟨Nat.zero_le _, Nat.zero_le _⟩ ?_
          refine zx_iload (pc := 70) hF d_Tab_fill_70 4 rfl ?_
          refine zx_iastn (pc := 72) hF (i := f_pl fN sN m j (f_j1 fN sN m j own' nxt')) 4 rfl (f_pl_lt hm.1) (by omega) d_Tab_fill_72 (ws' := [cO b0 8 [.int chg, .ref l0, .ref b1, .ref b2, .ref b3], cO l0 4 [.int (nI m), .ref l1, .ref l2], cI K l1 n fst, cI K l2 n stp, cI K b1 m (upd own' (f_pl fN sN m j (f_j1 fN sN m j own' nxt')) (nI j)), cI K b2 m bef, cI K b3 n (upd nxt' j (nI (f_j1 fN sN m j own' nxt' + 1))), cO w0 9 [.ref w1, .ref w2], cZ K w1 n up, cI K w2 n con]) rfl ?_
          refine zx_iinc (pc := 73) hF (v := nI (g + 1)) (lv' := [(2, .int (nI (g + 1))), (0, .ref b0), (1, .ref w0), (3, .int (nI t)), (4, .int (nI j))]) d_Tab_fill_73 2 rfl (zinc g) (by decide) rfl ?_
          refine zx_iinc (pc := 76) hF (v := nI (j + 1)) (lv' := [(4, .int (nI (j + 1))), (2, .int (nI (g + 1))), (0, .ref b0), (1, .ref w0), (3, .int (nI t))]) d_Tab_fill_76 4 rfl (zinc j) (by decide) rfl ?_
          refine zx_goto (pc := 79) hF d_Tab_fill_79 (tgt := 32) rfl ?_
          refine zx_lv [2, 3, 1, 4, 0] (lv' := [(0, .ref b0), (1, .ref w0), (2, .int (nI (g + 1))), (3, .int (nI t)), (4, .int (nI (j + 1)))]) rfl ?_
          exact ih (k - 1) (j + 1, g + 1, upd own' (f_pl fN sN m j (f_j1 fN sN m j own' nxt')) (nI j), upd nxt' j (nI (f_j1 fN sN m j own' nxt' + 1))) (by omega) ⟨by (try dsimp only); omega, by (try dsimp only); omega, f_nok_put (b := m + g) hN (by unfold f_j1; have h9 := f_ff_le own' (f_pl fN sN m j) (m - (nxt' j).toNatClampNeg) (nxt' j).toNatClampNeg; have h8 := (hN j (by omega)).2; omega) (by omega), by obtain ⟨k', rfl⟩ : ∃ k', k = k' + 1 := ⟨k - 1, by omega⟩; simpa [f_inner, f_turn, h39, h48, h57] using hX⟩
end
section
set_option maxRecDepth 20000 in
theorem M_Tab_fillAnew (l : Launch) (D : va_G) (K : Nat → ClassId) (M : List (ClassId × FieldType)) (b0 : Nat) (b1 : Nat) (b2 : Nat) (b3 : Nat) (l0 : Nat) (chg : Int32) (m : Nat) (own : Nat → Int32) (l1 : Nat) (l2 : Nat) (n : Nat) (fst : Nat → Int32) (stp : Nat → Int32) (bef : Nat → Int32) (nxt : Nat → Int32) (fN : Nat → Nat) (sN : Nat → Nat) (w0 : Nat) (w1 : Nat) (w2 : Nat) (up : Nat → Int32) (con : Nat → Int32) (hm : 0 < m ∧ m ≤ 101) (hn : n ≤ 8) (hL : f_LN fst stp fN sN m n) (hu : z01 up) (sz : Nat) : zM l y_Tab_fillAnew (zT y_Tab_fillAnew b_Tab_fillAnew 3 none) (zR 3 68) 0 0 D K M [.ref b0, .ref w0] [cO b0 8 [.int chg, .ref l0, .ref b1, .ref b2, .ref b3], cO l0 4 [.int (nI m), .ref l1, .ref l2], cI K l1 n fst, cI K l2 n stp, cI K b1 m own, cI K b2 m bef, cI K b3 n nxt, cO w0 9 [.ref w1, .ref w2], cZ K w1 n up, cI K w2 n con] sz (zQv D K M [cO b0 8 [.int (nI (f_count (fun p => !((f_tab fN sN m n up own nxt).1 p == (va_cpy own bef 0 0 m) p)) m 0 0)), .ref l0, .ref b1, .ref b2, .ref b3], cO l0 4 [.int (nI m), .ref l1, .ref l2], cI K l1 n fst, cI K l2 n stp, cI K b1 m (f_tab fN sN m n up own nxt).1, cI K b2 m (va_cpy own bef 0 0 m), cI K b3 n (f_tab fN sN m n up own nxt).2.1, cO w0 9 [.ref w1, .ref w2], cZ K w1 n up, cI K w2 n con]) := by
  refine zx_head (by decide) (Nat.le_of_ble_eq_true rfl) ?_
  intro _ _ _ _ _ _ _ _ _ hF hr hlk hnm
  refine zx_aload_n (pc := 0) hF d_Tab_fillAnew_0 rfl 0 rfl ?_
  refine zg_Tab_21 (pc := 1) hF 0 rfl rfl d_Tab_fillAnew_1 ?_
  refine zx_iconst (pc := 4) hF d_Tab_fillAnew_4 k_i0 ?_
  refine zx_aload_n (pc := 5) hF d_Tab_fillAnew_5 rfl 0 rfl ?_
  refine zg_Tab_25 (pc := 6) hF 0 rfl rfl d_Tab_fillAnew_6 ?_
  refine zx_iconst (pc := 9) hF d_Tab_fillAnew_9 k_i0 ?_
  refine zx_aload_n (pc := 10) hF d_Tab_fillAnew_10 rfl 0 rfl ?_
  refine zg_Tab_21 (pc := 11) hF 0 rfl rfl d_Tab_fillAnew_11 ?_
  refine zx_alen (pc := 14) hF 4 0 rfl rfl (v := nI m) rfl d_Tab_fillAnew_14 ?_
  refine zx_copy (pc := 15) hF wm_Tab_31 4 5 rfl rfl (sp := 0) (dp := 0) (n := m) (by omega) (by omega) (by omega) (by omega) (Nat.le_of_ble_eq_true rfl) (Nat.le_of_ble_eq_true rfl) d_Tab_fillAnew_15 (ws' := [cO b0 8 [.int chg, .ref l0, .ref b1, .ref b2, .ref b3], cO l0 4 [.int (nI m), .ref l1, .ref l2], cI K l1 n fst, cI K l2 n stp, cI K b1 m own, cI K b2 m (va_cpy own bef 0 0 m), cI K b3 n nxt, cO w0 9 [.ref w1, .ref w2], cZ K w1 n up, cI K w2 n con]) rfl ?_
  refine zx_aload_n (pc := 18) hF d_Tab_fillAnew_18 rfl 0 rfl ?_
  refine zx_aload_n (pc := 19) hF d_Tab_fillAnew_19 rfl 1 rfl ?_
  refine zx_Vv (pc := 20) hF (As := [.ref w0]) (rest := []) (fun sz => M_Tab_fill l D K M b0 b1 b2 b3 l0 chg m own l1 l2 n fst stp (va_cpy own bef 0 0 m) nxt fN sN w0 w1 w2 up con (by first | assumption | omega) (by first | assumption | omega) (by first | assumption | omega) (by first | assumption | omega) sz) [0, 1, 2, 3, 4, 5, 6, 7, 8, 9] rfl (by decide) (as := [b0, l0, l1, l2, b1, b2, b3, w0, w1, w2]) rfl rfl (ws' := [cO b0 8 [.int chg, .ref l0, .ref b1, .ref b2, .ref b3], cO l0 4 [.int (nI m), .ref l1, .ref l2], cI K l1 n fst, cI K l2 n stp, cI K b1 m (f_tab fN sN m n up own nxt).1, cI K b2 m (va_cpy own bef 0 0 m), cI K b3 n (f_tab fN sN m n up own nxt).2.1, cO w0 9 [.ref w1, .ref w2], cZ K w1 n up, cI K w2 n con]) rfl 0 8 rfl rfl rfl (cw_Tab_37 hF.2.2.2.2.1 rfl rfl ⟨by decide, by decide⟩) rfl rfl (Nat.le_of_ble_eq_true rfl) d_Tab_fillAnew_20 ⟨Nat.zero_le _, Nat.zero_le _⟩ ?_
  refine zx_aload_n (pc := 23) hF d_Tab_fillAnew_23 rfl 0 rfl ?_
  refine zx_iconst (pc := 24) hF d_Tab_fillAnew_24 k_i0 ?_
  refine zp_Tab_41 (pc := 25) hF 0 rfl (Nat.le_of_ble_eq_true rfl) d_Tab_fillAnew_25 (ws' := [cO b0 8 [.int 0, .ref l0, .ref b1, .ref b2, .ref b3], cO l0 4 [.int (nI m), .ref l1, .ref l2], cI K l1 n fst, cI K l2 n stp, cI K b1 m (f_tab fN sN m n up own nxt).1, cI K b2 m (va_cpy own bef 0 0 m), cI K b3 n (f_tab fN sN m n up own nxt).2.1, cO w0 9 [.ref w1, .ref w2], cZ K w1 n up, cI K w2 n con]) rfl ?_
  refine zx_iconst (pc := 28) hF d_Tab_fillAnew_28 k_i0 ?_
  refine zx_istore_n (pc := 29) hF (lv' := [(2, .int 0), (0, .ref b0), (1, .ref w0)]) d_Tab_fillAnew_29 rfl (by decide) rfl ?_
  refine zx_lv [1, 0] (lv' := [(0, .ref b0), (2, .int 0)]) rfl ?_
  refine zx_loop (pc := 30) (σ := Nat × Nat) (fun k zv => (zv.1 + k = m) ∧ (f_count (fun p => !((f_tab fN sN m n up own nxt).1 p == (va_cpy own bef 0 0 m) p)) k zv.1 zv.2 = f_count (fun p => !((f_tab fN sN m n up own nxt).1 p == (va_cpy own bef 0 0 m) p)) m 0 0)) (fun zv => [cO b0 8 [.int (nI zv.2), .ref l0, .ref b1, .ref b2, .ref b3], cO l0 4 [.int (nI m), .ref l1, .ref l2], cI K l1 n fst, cI K l2 n stp, cI K b1 m (f_tab fN sN m n up own nxt).1, cI K b2 m (va_cpy own bef 0 0 m), cI K b3 n (f_tab fN sN m n up own nxt).2.1, cO w0 9 [.ref w1, .ref w2], cZ K w1 n up, cI K w2 n con]) (fun zv => [(0, .ref b0), (2, .int (nI zv.1))]) m (0, 0) ⟨by (try dsimp only); omega, rfl⟩ rfl rfl ?_
  intro k zv hI ih
  obtain ⟨j, c⟩ := zv
  obtain ⟨hk, hX⟩ := hI
  replace hk : j + k = m := hk
  replace hX : f_count (fun p => !((f_tab fN sN m n up own nxt).1 p == (va_cpy own bef 0 0 m) p)) k j c = f_count (fun p => !((f_tab fN sN m n up own nxt).1 p == (va_cpy own bef 0 0 m) p)) m 0 0 := hX
  refine zx_eq (ws' := [cO b0 8 [.int (nI c), .ref l0, .ref b1, .ref b2, .ref b3], cO l0 4 [.int (nI m), .ref l1, .ref l2], cI K l1 n fst, cI K l2 n stp, cI K b1 m (f_tab fN sN m n up own nxt).1, cI K b2 m (va_cpy own bef 0 0 m), cI K b3 n (f_tab fN sN m n up own nxt).2.1, cO w0 9 [.ref w1, .ref w2], cZ K w1 n up, cI K w2 n con]) (lv' := [(0, .ref b0), (2, .int (nI j))]) rfl rfl rfl ?_
  refine zx_iload_n (pc := 30) hF d_Tab_fillAnew_30 rfl 1 rfl ?_
  refine zx_aload_n (pc := 31) hF d_Tab_fillAnew_31 rfl 0 rfl ?_
  refine zg_Tab_21 (pc := 32) hF 0 rfl rfl d_Tab_fillAnew_32 ?_
  refine zx_alen (pc := 35) hF 4 0 rfl rfl (v := nI m) rfl d_Tab_fillAnew_35 ?_
  refine zx_icmp_ge (pc := 36) hF d_Tab_fillAnew_36 (tgt := 70) rfl (fun h36 => ?_) (fun h36 => ?_)
  · replace h36 : m ≤ j := (nI_leI (a := m) (b := j) (by omega) (by omega)).mp h36
    exact zx_vret (pc := 70) hF hr hlk (by obtain rfl : k = 0 := (by omega); rw [← hX]; rfl) d_Tab_fillAnew_70
  · replace h36 : ¬ m ≤ j := fun z => h36 ((nI_leI (a := m) (b := j) (by omega) (by omega)).mpr z)
    refine zx_aload_n (pc := 39) hF d_Tab_fillAnew_39 rfl 0 rfl ?_
    refine zg_Tab_21 (pc := 40) hF 0 rfl rfl d_Tab_fillAnew_40 ?_
    refine zx_iload_n (pc := 43) hF d_Tab_fillAnew_43 rfl 1 rfl ?_
    refine zx_ialdn (pc := 44) hF (i := j) 4 rfl (by omega) (by omega) d_Tab_fillAnew_44 ?_
    refine zx_aload_n (pc := 45) hF d_Tab_fillAnew_45 rfl 0 rfl ?_
    refine zg_Tab_25 (pc := 46) hF 0 rfl rfl d_Tab_fillAnew_46 ?_
    refine zx_iload_n (pc := 49) hF d_Tab_fillAnew_49 rfl 1 rfl ?_
    refine zx_ialdn (pc := 50) hF (i := j) 5 rfl (by omega) (by omega) d_Tab_fillAnew_50 ?_
    refine zx_icmp_eq (pc := 51) hF d_Tab_fillAnew_51 (tgt := 64) rfl (fun h51 => ?_) (fun h51 => ?_)
    · refine zx_iinc (pc := 64) hF (v := nI (j + 1)) (lv' := [(2, .int (nI (j + 1))), (0, .ref b0)]) d_Tab_fillAnew_64 1 rfl (zinc j) (by decide) rfl ?_
      refine zx_goto (pc := 67) hF d_Tab_fillAnew_67 (tgt := 30) rfl ?_
      refine zx_lv [1, 0] (lv' := [(0, .ref b0), (2, .int (nI (j + 1)))]) rfl ?_
      exact ih (k - 1) (j + 1, c) (by omega) ⟨by (try dsimp only); omega, by obtain ⟨k', rfl⟩ : ∃ k', k = k' + 1 := ⟨k - 1, by omega⟩; simpa [f_count, h36, h51] using hX⟩
    · refine zx_aload_n (pc := 54) hF d_Tab_fillAnew_54 rfl 0 rfl ?_
      refine zx_dup (pc := 55) hF d_Tab_fillAnew_55 rfl ?_
      refine zg_Tab_41 (pc := 56) hF 0 rfl rfl d_Tab_fillAnew_56 ?_
      refine zx_iconst (pc := 59) hF d_Tab_fillAnew_59 k_i1 ?_
      refine zx_iadd (pc := 60) hF d_Tab_fillAnew_60 ?_
      refine zx_topi (nI (c + 1)) (nI_add c 1) ?_
      refine zp_Tab_41 (pc := 61) hF 0 rfl (Nat.le_of_ble_eq_true rfl) d_Tab_fillAnew_61 (ws' := [cO b0 8 [.int (nI (c + 1)), .ref l0, .ref b1, .ref b2, .ref b3], cO l0 4 [.int (nI m), .ref l1, .ref l2], cI K l1 n fst, cI K l2 n stp, cI K b1 m (f_tab fN sN m n up own nxt).1, cI K b2 m (va_cpy own bef 0 0 m), cI K b3 n (f_tab fN sN m n up own nxt).2.1, cO w0 9 [.ref w1, .ref w2], cZ K w1 n up, cI K w2 n con]) rfl ?_
      refine zx_iinc (pc := 64) hF (v := nI (j + 1)) (lv' := [(2, .int (nI (j + 1))), (0, .ref b0)]) d_Tab_fillAnew_64 1 rfl (zinc j) (by decide) rfl ?_
      refine zx_goto (pc := 67) hF d_Tab_fillAnew_67 (tgt := 30) rfl ?_
      refine zx_lv [1, 0] (lv' := [(0, .ref b0), (2, .int (nI (j + 1)))]) rfl ?_
      exact ih (k - 1) (j + 1, c + 1) (by omega) ⟨by (try dsimp only); omega, by obtain ⟨k', rfl⟩ : ∃ k', k = k' + 1 := ⟨k - 1, by omega⟩; simpa [f_count, h36, h51] using hX⟩
set_option maxRecDepth 20000 in
theorem M_Bal_setLive (l : Launch) (D : va_G) (K : Nat → ClassId) (M : List (ClassId × FieldType)) (o0 : Nat) (w0 : Nat) (b0 : Nat) (e0 : Nat) (t0 : Nat) (x0 : Nat) (live : Int32) (e1 : Nat) (e2 : Nat) (e3 : Nat) (a0 : Nat) (a1 : Nat) (a2 : Nat) (a3 : Nat) (src : Nat → Int32) (prt : Nat → Int32) (use : Nat → Int32) (cnt : Int32) (o : Int32) (ho : o = 0 ∨ o = 1) (sz : Nat) : zM l y_Bal_setLive (zT y_Bal_setLive b_Bal_setLive 2 (some .boolean)) (zR 2 42) 0 0 D K M [.ref o0, .int o] [cO o0 1 [.ref w0, .ref b0, .ref e0, .ref t0, .int live, .ref x0], cO e0 3 [.ref a0, .ref e1, .ref e2, .ref e3], cO a0 6 [.ref a1, .ref a2, .ref a3, .int cnt], cI K a1 8 src, cI K a2 8 prt, cZ K a3 8 use] sz (zQi D K M (f_seton live o) [cO o0 1 [.ref w0, .ref b0, .ref e0, .ref t0, .int o, .ref x0], cO e0 3 [.ref a0, .ref e1, .ref e2, .ref e3], cO a0 6 [.ref a1, .ref a2, .ref a3, .int (f_liveuse live o use cnt).2], cI K a1 8 src, cI K a2 8 prt, cZ K a3 8 (f_liveuse live o use cnt).1]) := by
  refine zx_head (by decide) (Nat.le_of_ble_eq_true rfl) ?_
  intro _ _ _ _ _ _ _ _ _ hF hr hlk hnm
  refine zx_aload_n (pc := 0) hF d_Bal_setLive_0 rfl 0 rfl ?_
  refine zg_Bal_28 (pc := 1) hF 0 rfl rfl d_Bal_setLive_1 ?_
  refine zx_iload_n (pc := 4) hF d_Bal_setLive_4 rfl 1 rfl ?_
  refine zx_icmp_ne (pc := 5) hF d_Bal_setLive_5 (tgt := 10) rfl (fun h5 => ?_) (fun h5 => ?_)
  · refine zx_aload_n (pc := 10) hF d_Bal_setLive_10 rfl 0 rfl ?_
    refine zx_iload_n (pc := 11) hF d_Bal_setLive_11 rfl 1 rfl ?_
    refine zp_Bal_28 (pc := 12) hF 0 rfl ho (Nat.le_of_ble_eq_true rfl) d_Bal_setLive_12 (ws' := [cO o0 1 [.ref w0, .ref b0, .ref e0, .ref t0, .int o, .ref x0], cO e0 3 [.ref a0, .ref e1, .ref e2, .ref e3], cO a0 6 [.ref a1, .ref a2, .ref a3, .int cnt], cI K a1 8 src, cI K a2 8 prt, cZ K a3 8 use]) rfl ?_
    refine zx_iload_n (pc := 15) hF d_Bal_setLive_15 rfl 1 rfl ?_
    refine zx_if_ne (pc := 16) hF d_Bal_setLive_16 (tgt := 29) rfl (fun h16 => ?_) (fun h16 => ?_)
    · refine zx_iconst (pc := 29) hF d_Bal_setLive_29 k_i1 ?_
      exact zx_zret (pc := 30) hF hr hlk rfl (by first | with_reducible rfl | (simp only [f_seton, f_liveuse, if_neg h5, if_neg h16]; done) | (simp only [f_seton, f_liveuse, h5, h16, ↓reduceIte]; done) | simp [f_seton, f_liveuse, h5, h16]) (by first | with_reducible rfl | (simp only [f_seton, f_liveuse, if_neg h5, if_neg h16]; done) | (simp only [f_seton, f_liveuse, h5, h16, ↓reduceIte]; done) | simp [f_seton, f_liveuse, h5, h16]) d_Bal_setLive_30
    · refine zx_aload_n (pc := 19) hF d_Bal_setLive_19 rfl 0 rfl ?_
      refine zg_Bal_12 (pc := 20) hF 0 rfl rfl d_Bal_setLive_20 ?_
      refine zg_Bal_56 (pc := 23) hF 1 rfl rfl d_Bal_setLive_23 ?_
      refine zx_Vv (pc := 26) hF (As := []) (rest := []) (fun sz => M_Slo_releaseAll l D K M a0 a1 a2 a3 8 src prt use cnt (by first | assumption | omega) sz) [2, 3, 4, 5] rfl (by decide) (as := [a0, a1, a2, a3]) rfl rfl (ws' := [cO o0 1 [.ref w0, .ref b0, .ref e0, .ref t0, .int o, .ref x0], cO e0 3 [.ref a0, .ref e1, .ref e2, .ref e3], cO a0 6 [.ref a1, .ref a2, .ref a3, .int (f_all 8 0 use cnt).2], cI K a1 8 src, cI K a2 8 prt, cZ K a3 8 (f_all 8 0 use cnt).1]) rfl 0 6 rfl rfl rfl (cw_Bal_60 hF.2.2.2.2.1 rfl rfl ⟨by decide, by decide⟩) rfl rfl (Nat.le_of_ble_eq_true rfl) d_Bal_setLive_26 ⟨Nat.zero_le _, Nat.zero_le _⟩ ?_
      refine zx_iconst (pc := 29) hF d_Bal_setLive_29 k_i1 ?_
      exact zx_zret (pc := 30) hF hr hlk rfl (by first | with_reducible rfl | (simp only [f_seton, f_liveuse, if_neg h5, if_pos h16]; done) | (simp only [f_seton, f_liveuse, h5, h16, ↓reduceIte]; done) | simp [f_seton, f_liveuse, h5, h16]) (by first | with_reducible rfl | (simp only [f_seton, f_liveuse, if_neg h5, if_pos h16]; done) | (simp only [f_seton, f_liveuse, h5, h16, ↓reduceIte]; done) | simp [f_seton, f_liveuse, h5, h16]) d_Bal_setLive_30
  · refine zx_iconst (pc := 8) hF d_Bal_setLive_8 k_i0 ?_
    exact zx_zret (pc := 9) hF hr hlk rfl (by first | with_reducible rfl | (simp only [f_seton, f_liveuse, if_pos h5]; done) | (simp only [f_seton, f_liveuse, h5, ↓reduceIte]; done) | simp [f_seton, f_liveuse, h5]) (by first | with_reducible rfl | (simp only [f_seton, f_liveuse, if_pos h5]; done) | (simp only [f_seton, f_liveuse, h5, ↓reduceIte]; done) | simp [f_seton, f_liveuse, h5]) d_Bal_setLive_9
set_option maxRecDepth 20000 in
theorem M_Bal_setPath (l : Launch) (D : va_G) (K : Nat → ClassId) (M : List (ClassId × FieldType)) (o0 : Nat) (w0 : Nat) (b0 : Nat) (e0 : Nat) (t0 : Nat) (x0 : Nat) (live : Int32) (n : Nat) (cut : Nat → Int32) (j : Nat) (v : Int32) (hj : j < n) (hn : n < 2 ^ 31) (sz : Nat) : zM l y_Bal_setPath (zT y_Bal_setPath b_Bal_setPath 4 (some .boolean)) (zR 0 0) 0 0 D K M [.ref o0, .int (nI j), .int v] [cO o0 1 [.ref w0, .ref b0, .ref e0, .ref t0, .int live, .ref x0], cZ K x0 n cut] sz (zQi D K M (f_sw (cut j) v) [cO o0 1 [.ref w0, .ref b0, .ref e0, .ref t0, .int live, .ref x0], cZ K x0 n (upd cut j (f_not v))]) := by
  refine zx_head (by decide) (Nat.le_of_ble_eq_true rfl) ?_
  intro _ _ _ _ _ _ _ _ _ hF hr hlk hnm
  refine zx_aload_n (pc := 0) hF d_Bal_setPath_0 rfl 0 rfl ?_
  refine zg_Bal_48 (pc := 1) hF 0 rfl rfl d_Bal_setPath_1 ?_
  refine zx_iload_n (pc := 4) hF d_Bal_setPath_4 rfl 1 rfl ?_
  refine zx_zaldn (pc := 5) hF (i := j) 1 rfl (by omega) (by omega) d_Bal_setPath_5 ?_
  refine zx_iload_n (pc := 6) hF d_Bal_setPath_6 rfl 2 rfl ?_
  refine zx_icmp_ne (pc := 7) hF d_Bal_setPath_7 (tgt := 14) rfl (fun h7 => ?_) (fun h7 => ?_)
  · refine zx_iconst (pc := 14) hF d_Bal_setPath_14 k_i0 ?_
    refine zx_istore_n (pc := 15) hF (lv' := [(3, .int 0), (0, .ref o0), (1, .int (nI j)), (2, .int v)]) d_Bal_setPath_15 rfl (by decide) rfl ?_
    refine zx_aload_n (pc := 16) hF d_Bal_setPath_16 rfl 1 rfl ?_
    refine zg_Bal_48 (pc := 17) hF 0 rfl rfl d_Bal_setPath_17 ?_
    refine zx_iload_n (pc := 20) hF d_Bal_setPath_20 rfl 2 rfl ?_
    refine zx_iload_n (pc := 21) hF d_Bal_setPath_21 rfl 3 rfl ?_
    refine zx_if_ne (pc := 22) hF d_Bal_setPath_22 (tgt := 29) rfl (fun h22 => ?_) (fun h22 => ?_)
    · refine zx_iconst (pc := 29) hF d_Bal_setPath_29 k_i0 ?_
      refine zx_zastn (pc := 30) hF (i := j) 1 rfl (by omega) (by omega) rfl d_Bal_setPath_30 (ws' := [cO o0 1 [.ref w0, .ref b0, .ref e0, .ref t0, .int live, .ref x0], cZ K x0 n (upd cut j 0)]) rfl ?_
      refine zx_iload_n (pc := 31) hF d_Bal_setPath_31 rfl 0 rfl ?_
      exact zx_zret (pc := 32) hF hr hlk rfl (by first | with_reducible rfl | (simp only [f_sw, f_not, if_neg h7, if_neg h22]; done) | (simp only [f_sw, f_not, h7, h22, ↓reduceIte]; done) | simp [f_sw, f_not, h7, h22]) (by first | with_reducible rfl | (simp only [f_sw, f_not, if_neg h7, if_neg h22]; done) | (simp only [f_sw, f_not, h7, h22, ↓reduceIte]; done) | simp [f_sw, f_not, h7, h22]) d_Bal_setPath_32
    · refine zx_iconst (pc := 25) hF d_Bal_setPath_25 k_i1 ?_
      refine zx_goto (pc := 26) hF d_Bal_setPath_26 (tgt := 30) rfl ?_
      refine zx_zastn (pc := 30) hF (i := j) 1 rfl (by omega) (by omega) rfl d_Bal_setPath_30 (ws' := [cO o0 1 [.ref w0, .ref b0, .ref e0, .ref t0, .int live, .ref x0], cZ K x0 n (upd cut j 1)]) rfl ?_
      refine zx_iload_n (pc := 31) hF d_Bal_setPath_31 rfl 0 rfl ?_
      exact zx_zret (pc := 32) hF hr hlk rfl (by first | with_reducible rfl | (simp only [f_sw, f_not, if_neg h7, if_pos h22]; done) | (simp only [f_sw, f_not, h7, h22, ↓reduceIte]; done) | simp [f_sw, f_not, h7, h22]) (by first | with_reducible rfl | (simp only [f_sw, f_not, if_neg h7, if_pos h22]; done) | (simp only [f_sw, f_not, h7, h22, ↓reduceIte]; done) | simp [f_sw, f_not, h7, h22]) d_Bal_setPath_32
  · refine zx_iconst (pc := 10) hF d_Bal_setPath_10 k_i1 ?_
    refine zx_goto (pc := 11) hF d_Bal_setPath_11 (tgt := 15) rfl ?_
    refine zx_istore_n (pc := 15) hF (lv' := [(3, .int 1), (0, .ref o0), (1, .int (nI j)), (2, .int v)]) d_Bal_setPath_15 rfl (by decide) rfl ?_
    refine zx_aload_n (pc := 16) hF d_Bal_setPath_16 rfl 1 rfl ?_
    refine zg_Bal_48 (pc := 17) hF 0 rfl rfl d_Bal_setPath_17 ?_
    refine zx_iload_n (pc := 20) hF d_Bal_setPath_20 rfl 2 rfl ?_
    refine zx_iload_n (pc := 21) hF d_Bal_setPath_21 rfl 3 rfl ?_
    refine zx_if_ne (pc := 22) hF d_Bal_setPath_22 (tgt := 29) rfl (fun h22 => ?_) (fun h22 => ?_)
    · refine zx_iconst (pc := 29) hF d_Bal_setPath_29 k_i0 ?_
      refine zx_zastn (pc := 30) hF (i := j) 1 rfl (by omega) (by omega) rfl d_Bal_setPath_30 (ws' := [cO o0 1 [.ref w0, .ref b0, .ref e0, .ref t0, .int live, .ref x0], cZ K x0 n (upd cut j 0)]) rfl ?_
      refine zx_iload_n (pc := 31) hF d_Bal_setPath_31 rfl 0 rfl ?_
      exact zx_zret (pc := 32) hF hr hlk rfl (by first | with_reducible rfl | (simp only [f_sw, f_not, if_pos h7, if_neg h22]; done) | (simp only [f_sw, f_not, h7, h22, ↓reduceIte]; done) | simp [f_sw, f_not, h7, h22]) (by first | with_reducible rfl | (simp only [f_sw, f_not, if_pos h7, if_neg h22]; done) | (simp only [f_sw, f_not, h7, h22, ↓reduceIte]; done) | simp [f_sw, f_not, h7, h22]) d_Bal_setPath_32
    · refine zx_iconst (pc := 25) hF d_Bal_setPath_25 k_i1 ?_
      refine zx_goto (pc := 26) hF d_Bal_setPath_26 (tgt := 30) rfl ?_
      refine zx_zastn (pc := 30) hF (i := j) 1 rfl (by omega) (by omega) rfl d_Bal_setPath_30 (ws' := [cO o0 1 [.ref w0, .ref b0, .ref e0, .ref t0, .int live, .ref x0], cZ K x0 n (upd cut j 1)]) rfl ?_
      refine zx_iload_n (pc := 31) hF d_Bal_setPath_31 rfl 0 rfl ?_
      exact zx_zret (pc := 32) hF hr hlk rfl (by first | with_reducible rfl | (simp only [f_sw, f_not, if_pos h7, if_pos h22]; done) | (simp only [f_sw, f_not, h7, h22, ↓reduceIte]; done) | simp [f_sw, f_not, h7, h22]) (by first | with_reducible rfl | (simp only [f_sw, f_not, if_pos h7, if_pos h22]; done) | (simp only [f_sw, f_not, h7, h22, ↓reduceIte]; done) | simp [f_sw, f_not, h7, h22]) d_Bal_setPath_32
set_option maxRecDepth 20000 in
theorem M_Bal_reaches (l : Launch) (D : va_G) (K : Nat → ClassId) (M : List (ClassId × FieldType)) (o0 : Nat) (w0 : Nat) (b0 : Nat) (e0 : Nat) (t0 : Nat) (x0 : Nat) (live : Int32) (n : Nat) (cut : Nat → Int32) (v0 : Nat) (c0 : Nat) (c1 : Nat) (on : Int32) (tk : Int32) (v1 : Nat) (v2 : Nat) (j : Nat) (hj : j < n) (hn : n < 2 ^ 31) (sz : Nat) : zM l y_Bal_reaches (zT y_Bal_reaches b_Bal_reaches 3 (some .boolean)) (zR 0 0) 0 0 D K M [.ref o0, .int (nI j), .ref v0] [cO o0 1 [.ref w0, .ref b0, .ref e0, .ref t0, .int live, .ref x0], cZ K x0 n cut, cO v0 5 [.ref c0, .ref c1, .int on, .int tk, .ref v1, .ref v2]] sz (zQi D K M (f_meets on (cut j)) [cO o0 1 [.ref w0, .ref b0, .ref e0, .ref t0, .int live, .ref x0], cZ K x0 n cut, cO v0 5 [.ref c0, .ref c1, .int on, .int tk, .ref v1, .ref v2]]) := by
  refine zx_head (by decide) (Nat.le_of_ble_eq_true rfl) ?_
  intro _ _ _ _ _ _ _ _ _ hF hr hlk hnm
  refine zx_aload_n (pc := 0) hF d_Bal_reaches_0 rfl 2 rfl ?_
  refine zg_Bal_65 (pc := 1) hF 2 rfl rfl d_Bal_reaches_1 ?_
  refine zx_if_eq (pc := 4) hF d_Bal_reaches_4 (tgt := 20) rfl (fun h4 => ?_) (fun h4 => ?_)
  · refine zx_iconst (pc := 20) hF d_Bal_reaches_20 k_i0 ?_
    exact zx_zret (pc := 21) hF hr hlk rfl (by first | with_reducible rfl | (simp only [f_meets, if_pos h4]; done) | (simp only [f_meets, h4, ↓reduceIte]; done) | simp [f_meets, h4]) (by first | with_reducible rfl | (simp only [f_meets, if_pos h4]; done) | (simp only [f_meets, h4, ↓reduceIte]; done) | simp [f_meets, h4]) d_Bal_reaches_21
  · refine zx_aload_n (pc := 7) hF d_Bal_reaches_7 rfl 0 rfl ?_
    refine zg_Bal_48 (pc := 8) hF 0 rfl rfl d_Bal_reaches_8 ?_
    refine zx_iload_n (pc := 11) hF d_Bal_reaches_11 rfl 1 rfl ?_
    refine zx_zaldn (pc := 12) hF (i := j) 1 rfl (by omega) (by omega) d_Bal_reaches_12 ?_
    refine zx_if_ne (pc := 13) hF d_Bal_reaches_13 (tgt := 20) rfl (fun h13 => ?_) (fun h13 => ?_)
    · refine zx_iconst (pc := 20) hF d_Bal_reaches_20 k_i0 ?_
      exact zx_zret (pc := 21) hF hr hlk rfl (by first | with_reducible rfl | (simp only [f_meets, if_neg h4, if_neg h13]; done) | (simp only [f_meets, h4, h13, ↓reduceIte]; done) | simp [f_meets, h4, h13]) (by first | with_reducible rfl | (simp only [f_meets, if_neg h4, if_neg h13]; done) | (simp only [f_meets, h4, h13, ↓reduceIte]; done) | simp [f_meets, h4, h13]) d_Bal_reaches_21
    · refine zx_iconst (pc := 16) hF d_Bal_reaches_16 k_i1 ?_
      refine zx_goto (pc := 17) hF d_Bal_reaches_17 (tgt := 21) rfl ?_
      exact zx_zret (pc := 21) hF hr hlk rfl (by first | with_reducible rfl | (simp only [f_meets, if_neg h4, if_pos h13]; done) | (simp only [f_meets, h4, h13, ↓reduceIte]; done) | simp [f_meets, h4, h13]) (by first | with_reducible rfl | (simp only [f_meets, if_neg h4, if_pos h13]; done) | (simp only [f_meets, h4, h13, ↓reduceIte]; done) | simp [f_meets, h4, h13]) d_Bal_reaches_21
set_option maxRecDepth 20000 in
theorem M_Bal_serverFor (l : Launch) (D : va_G) (K : Nat → ClassId) (M : List (ClassId × FieldType)) (o0 : Nat) (w0 : Nat) (b0 : Nat) (e0 : Nat) (t0 : Nat) (x0 : Nat) (live : Int32) (e1 : Nat) (e2 : Nat) (e3 : Nat) (a0 : Nat) (a1 : Nat) (a2 : Nat) (a3 : Nat) (src : Nat → Int32) (prt : Nat → Int32) (use : Nat → Int32) (cnt : Int32) (sv : Nat → Int32) (pat : Nat → Int32) (lu : Nat → Int32) (b1 : Nat) (b2 : Nat) (b3 : Nat) (l0 : Nat) (chg : Int32) (m : Nat) (own : Nat → Int32) (s0 : Int32) (p0 : Int32) (j : Nat) (hm : m < 2 ^ 31) (hj : j < m) (sz : Nat) : zM l y_Bal_serverFor (zT y_Bal_serverFor b_Bal_serverFor 5 (some .int)) (zR 2 46) 0 0 D K M [.ref o0, .int s0, .int p0, .int (nI j)] [cO o0 1 [.ref w0, .ref b0, .ref e0, .ref t0, .int live, .ref x0], cO e0 3 [.ref a0, .ref e1, .ref e2, .ref e3], cO a0 6 [.ref a1, .ref a2, .ref a3, .int cnt], cI K a1 8 src, cI K a2 8 prt, cZ K a3 8 use, cI K e1 8 sv, cI K e2 8 pat, cI K e3 8 lu, cO b0 8 [.int chg, .ref l0, .ref b1, .ref b2, .ref b3], cI K b1 m own] sz (zQi D K M (if (if f_find use src prt 8 s0 p0 = -1 then -1 else sv (f_find use src prt 8 s0 p0).toNatClampNeg) = -1 then own j else (if f_find use src prt 8 s0 p0 = -1 then -1 else sv (f_find use src prt 8 s0 p0).toNatClampNeg)) [cO o0 1 [.ref w0, .ref b0, .ref e0, .ref t0, .int live, .ref x0], cO e0 3 [.ref a0, .ref e1, .ref e2, .ref e3], cO a0 6 [.ref a1, .ref a2, .ref a3, .int cnt], cI K a1 8 src, cI K a2 8 prt, cZ K a3 8 use, cI K e1 8 sv, cI K e2 8 pat, cI K e3 8 lu, cO b0 8 [.int chg, .ref l0, .ref b1, .ref b2, .ref b3], cI K b1 m own]) := by
  refine zx_head (by decide) (Nat.le_of_ble_eq_true rfl) ?_
  intro _ _ _ _ _ _ _ _ _ hF hr hlk hnm
  refine zx_aload_n (pc := 0) hF d_Bal_serverFor_0 rfl 0 rfl ?_
  refine zg_Bal_12 (pc := 1) hF 0 rfl rfl d_Bal_serverFor_1 ?_
  refine zx_iload_n (pc := 4) hF d_Bal_serverFor_4 rfl 1 rfl ?_
  refine zx_iload_n (pc := 5) hF d_Bal_serverFor_5 rfl 2 rfl ?_
  refine zx_Vi (pc := 6) hF (As := [.int s0, .int p0]) (rest := []) (fun sz => M_Ent_serverOf l D K M e0 e1 e2 e3 a0 a1 a2 a3 src prt use cnt sv pat lu s0 p0  sz) [1, 2, 3, 4, 5, 6, 7, 8] rfl (by decide) (as := [e0, a0, a1, a2, a3, e1, e2, e3]) rfl rfl (ws' := [cO o0 1 [.ref w0, .ref b0, .ref e0, .ref t0, .int live, .ref x0], cO e0 3 [.ref a0, .ref e1, .ref e2, .ref e3], cO a0 6 [.ref a1, .ref a2, .ref a3, .int cnt], cI K a1 8 src, cI K a2 8 prt, cZ K a3 8 use, cI K e1 8 sv, cI K e2 8 pat, cI K e3 8 lu, cO b0 8 [.int chg, .ref l0, .ref b1, .ref b2, .ref b3], cI K b1 m own]) rfl 0 3 rfl rfl rfl (cw_Bal_70 hF.2.2.2.2.1 rfl rfl ⟨by decide, by decide⟩) rfl rfl (Nat.le_of_ble_eq_true rfl) d_Bal_serverFor_6 ⟨Nat.zero_le _, Nat.zero_le _⟩ ?_
  refine zx_istore (pc := 9) hF (lv' := [(4, .int (if f_find use src prt 8 s0 p0 = -1 then -1 else sv (f_find use src prt 8 s0 p0).toNatClampNeg)), (0, .ref o0), (1, .int s0), (2, .int p0), (3, .int (nI j))]) d_Bal_serverFor_9 (by decide) rfl ?_
  refine zx_iload (pc := 11) hF d_Bal_serverFor_11 0 rfl ?_
  refine zx_iconst (pc := 13) hF d_Bal_serverFor_13 k_im1 ?_
  refine zx_icmp_ne (pc := 14) hF d_Bal_serverFor_14 (tgt := 28) rfl (fun h14 => ?_) (fun h14 => ?_)
  · refine zx_iload (pc := 28) hF d_Bal_serverFor_28 0 rfl ?_
    exact zx_iret (pc := 30) hF hr hlk (by first | rfl | (simp only [if_neg h14]; done) | (simp only [h14, ↓reduceIte]; done) | simp [h14]) (by first | rfl | (simp only [if_neg h14]; done) | (simp only [h14, ↓reduceIte]; done) | simp [h14]) d_Bal_serverFor_30
  · refine zx_aload_n (pc := 17) hF d_Bal_serverFor_17 rfl 1 rfl ?_
    refine zg_Bal_44 (pc := 18) hF 0 rfl rfl d_Bal_serverFor_18 ?_
    refine zx_iload_n (pc := 21) hF d_Bal_serverFor_21 rfl 4 rfl ?_
    refine zx_Vi (pc := 22) hF (As := [.int (nI j)]) (rest := []) (fun sz => M_Tab_serverAt l D K M b0 b1 b2 b3 l0 chg m own j (by first | assumption | omega) (by first | assumption | omega) sz) [9, 10] rfl (by decide) (as := [b0, b1]) rfl rfl (ws' := [cO o0 1 [.ref w0, .ref b0, .ref e0, .ref t0, .int live, .ref x0], cO e0 3 [.ref a0, .ref e1, .ref e2, .ref e3], cO a0 6 [.ref a1, .ref a2, .ref a3, .int cnt], cI K a1 8 src, cI K a2 8 prt, cZ K a3 8 use, cI K e1 8 sv, cI K e2 8 pat, cI K e3 8 lu, cO b0 8 [.int chg, .ref l0, .ref b1, .ref b2, .ref b3], cI K b1 m own]) rfl 0 8 rfl rfl rfl (cw_Bal_74 hF.2.2.2.2.1 rfl rfl ⟨by decide, by decide⟩) rfl rfl (Nat.le_of_ble_eq_true rfl) d_Bal_serverFor_22 ⟨Nat.zero_le _, Nat.zero_le _⟩ ?_
    refine zx_goto (pc := 25) hF d_Bal_serverFor_25 (tgt := 30) rfl ?_
    exact zx_iret (pc := 30) hF hr hlk (by first | rfl | (simp only [if_pos h14]; done) | (simp only [h14, ↓reduceIte]; done) | simp [h14]) (by first | rfl | (simp only [if_pos h14]; done) | (simp only [h14, ↓reduceIte]; done) | simp [h14]) d_Bal_serverFor_30
end
section
theorem d_Mod_within_0 : decode b_Mod_within 0 = .ok (.iload_n 0, 1) := by decide +kernel
theorem d_Mod_within_1 : decode b_Mod_within 1 = .ok (.iload_n 1, 1) := by decide +kernel
theorem d_Mod_within_2 : decode b_Mod_within 2 = .ok (.if_icmp .ge 7, 3) := by decide +kernel
theorem d_Mod_within_5 : decode b_Mod_within 5 = .ok (.iload_n 1, 1) := by decide +kernel
theorem d_Mod_within_6 : decode b_Mod_within 6 = .ok (.goto 13, 3) := by decide +kernel
theorem d_Mod_within_9 : decode b_Mod_within 9 = .ok (.iload_n 0, 1) := by decide +kernel
theorem d_Mod_within_10 : decode b_Mod_within 10 = .ok (.iload_n 2, 1) := by decide +kernel
theorem d_Mod_within_11 : decode b_Mod_within 11 = .ok (.if_icmp .le 7, 3) := by decide +kernel
theorem d_Mod_within_14 : decode b_Mod_within 14 = .ok (.iload_n 2, 1) := by decide +kernel
theorem d_Mod_within_15 : decode b_Mod_within 15 = .ok (.goto 4, 3) := by decide +kernel
theorem d_Mod_within_18 : decode b_Mod_within 18 = .ok (.iload_n 0, 1) := by decide +kernel
theorem d_Mod_within_19 : decode b_Mod_within 19 = .ok (.ireturn, 1) := by decide +kernel
theorem d_Mod_prime_0 : decode b_Mod_prime 0 = .ok (.iconst 2, 1) := by decide +kernel
theorem d_Mod_prime_1 : decode b_Mod_prime 1 = .ok (.istore_n 1, 1) := by decide +kernel
theorem d_Mod_prime_2 : decode b_Mod_prime 2 = .ok (.iload_n 1, 1) := by decide +kernel
theorem d_Mod_prime_3 : decode b_Mod_prime 3 = .ok (.iload_n 0, 1) := by decide +kernel
theorem d_Mod_prime_4 : decode b_Mod_prime 4 = .ok (.if_icmp .ge 17, 3) := by decide +kernel
theorem d_Mod_prime_7 : decode b_Mod_prime 7 = .ok (.iload_n 0, 1) := by decide +kernel
theorem d_Mod_prime_8 : decode b_Mod_prime 8 = .ok (.iload_n 1, 1) := by decide +kernel
theorem d_Mod_prime_9 : decode b_Mod_prime 9 = .ok (.irem, 1) := by decide +kernel
theorem d_Mod_prime_10 : decode b_Mod_prime 10 = .ok (.ifCond .ne 5, 3) := by decide +kernel
theorem d_Mod_prime_13 : decode b_Mod_prime 13 = .ok (.iconst 0, 1) := by decide +kernel
theorem d_Mod_prime_14 : decode b_Mod_prime 14 = .ok (.ireturn, 1) := by decide +kernel
theorem d_Mod_prime_15 : decode b_Mod_prime 15 = .ok (.iinc 1 1, 3) := by decide +kernel
theorem d_Mod_prime_18 : decode b_Mod_prime 18 = .ok (.goto (-16), 3) := by decide +kernel
theorem d_Mod_prime_21 : decode b_Mod_prime 21 = .ok (.iconst 1, 1) := by decide +kernel
theorem d_Mod_prime_22 : decode b_Mod_prime 22 = .ok (.ireturn, 1) := by decide +kernel
theorem d_Mod_upper_0 : decode b_Mod_upper 0 = .ok (.lload_n 0, 1) := by decide +kernel
theorem d_Mod_upper_1 : decode b_Mod_upper 1 = .ok (.ldc2_w 134, 3) := by decide +kernel
theorem d_Mod_upper_4 : decode b_Mod_upper 4 = .ok (.ldiv, 1) := by decide +kernel
theorem d_Mod_upper_5 : decode b_Mod_upper 5 = .ok (.ldc2_w 134, 3) := by decide +kernel
theorem d_Mod_upper_8 : decode b_Mod_upper 8 = .ok (.ldiv, 1) := by decide +kernel
theorem d_Mod_upper_9 : decode b_Mod_upper 9 = .ok (.lstore_n 2, 1) := by decide +kernel
theorem d_Mod_upper_10 : decode b_Mod_upper 10 = .ok (.lload_n 0, 1) := by decide +kernel
theorem d_Mod_upper_11 : decode b_Mod_upper 11 = .ok (.lload_n 2, 1) := by decide +kernel
theorem d_Mod_upper_12 : decode b_Mod_upper 12 = .ok (.ldc2_w 134, 3) := by decide +kernel
theorem d_Mod_upper_15 : decode b_Mod_upper 15 = .ok (.lmul, 1) := by decide +kernel
theorem d_Mod_upper_16 : decode b_Mod_upper 16 = .ok (.ldc2_w 134, 3) := by decide +kernel
theorem d_Mod_upper_19 : decode b_Mod_upper 19 = .ok (.lmul, 1) := by decide +kernel
theorem d_Mod_upper_20 : decode b_Mod_upper 20 = .ok (.lsub, 1) := by decide +kernel
theorem d_Mod_upper_21 : decode b_Mod_upper 21 = .ok (.lstore 4, 2) := by decide +kernel
theorem d_Mod_upper_23 : decode b_Mod_upper 23 = .ok (.lload 4, 2) := by decide +kernel
theorem d_Mod_upper_25 : decode b_Mod_upper 25 = .ok (.lconst 0, 1) := by decide +kernel
theorem d_Mod_upper_26 : decode b_Mod_upper 26 = .ok (.lcmp, 1) := by decide +kernel
theorem d_Mod_upper_27 : decode b_Mod_upper 27 = .ok (.ifCond .ge 9, 3) := by decide +kernel
theorem d_Mod_upper_30 : decode b_Mod_upper 30 = .ok (.lload_n 2, 1) := by decide +kernel
theorem d_Mod_upper_31 : decode b_Mod_upper 31 = .ok (.lconst 1, 1) := by decide +kernel
theorem d_Mod_upper_32 : decode b_Mod_upper 32 = .ok (.lsub, 1) := by decide +kernel
theorem d_Mod_upper_33 : decode b_Mod_upper 33 = .ok (.goto 4, 3) := by decide +kernel
theorem d_Mod_upper_36 : decode b_Mod_upper 36 = .ok (.lload_n 2, 1) := by decide +kernel
theorem d_Mod_upper_37 : decode b_Mod_upper 37 = .ok (.lstore 6, 2) := by decide +kernel
theorem d_Mod_upper_39 : decode b_Mod_upper 39 = .ok (.lload 6, 2) := by decide +kernel
theorem d_Mod_upper_41 : decode b_Mod_upper 41 = .ok (.lconst 0, 1) := by decide +kernel
theorem d_Mod_upper_42 : decode b_Mod_upper 42 = .ok (.lcmp, 1) := by decide +kernel
theorem d_Mod_upper_43 : decode b_Mod_upper 43 = .ok (.ifCond .ge 12, 3) := by decide +kernel
theorem d_Mod_upper_46 : decode b_Mod_upper 46 = .ok (.lload 6, 2) := by decide +kernel
theorem d_Mod_upper_48 : decode b_Mod_upper 48 = .ok (.ldc2_w 136, 3) := by decide +kernel
theorem d_Mod_upper_51 : decode b_Mod_upper 51 = .ok (.ladd, 1) := by decide +kernel
theorem d_Mod_upper_52 : decode b_Mod_upper 52 = .ok (.goto 5, 3) := by decide +kernel
theorem d_Mod_upper_55 : decode b_Mod_upper 55 = .ok (.lload 6, 2) := by decide +kernel
theorem d_Mod_upper_57 : decode b_Mod_upper 57 = .ok (.lreturn, 1) := by decide +kernel
theorem d_Mod_lower_0 : decode b_Mod_lower 0 = .ok (.lload_n 0, 1) := by decide +kernel
theorem d_Mod_lower_1 : decode b_Mod_lower 1 = .ok (.ldc2_w 136, 3) := by decide +kernel
theorem d_Mod_lower_4 : decode b_Mod_lower 4 = .ok (.lrem, 1) := by decide +kernel
theorem d_Mod_lower_5 : decode b_Mod_lower 5 = .ok (.lstore_n 2, 1) := by decide +kernel
theorem d_Mod_lower_6 : decode b_Mod_lower 6 = .ok (.lload_n 2, 1) := by decide +kernel
theorem d_Mod_lower_7 : decode b_Mod_lower 7 = .ok (.lconst 0, 1) := by decide +kernel
theorem d_Mod_lower_8 : decode b_Mod_lower 8 = .ok (.lcmp, 1) := by decide +kernel
theorem d_Mod_lower_9 : decode b_Mod_lower 9 = .ok (.ifCond .ge 11, 3) := by decide +kernel
theorem d_Mod_lower_12 : decode b_Mod_lower 12 = .ok (.lload_n 2, 1) := by decide +kernel
theorem d_Mod_lower_13 : decode b_Mod_lower 13 = .ok (.ldc2_w 136, 3) := by decide +kernel
theorem d_Mod_lower_16 : decode b_Mod_lower 16 = .ok (.ladd, 1) := by decide +kernel
theorem d_Mod_lower_17 : decode b_Mod_lower 17 = .ok (.goto 4, 3) := by decide +kernel
theorem d_Mod_lower_20 : decode b_Mod_lower 20 = .ok (.lload_n 2, 1) := by decide +kernel
theorem d_Mod_lower_21 : decode b_Mod_lower 21 = .ok (.lreturn, 1) := by decide +kernel
theorem d_Mod_halves_0 : decode b_Mod_halves 0 = .ok (.iload_n 0, 1) := by decide +kernel
theorem d_Mod_halves_1 : decode b_Mod_halves 1 = .ok (.ldc 138, 2) := by decide +kernel
theorem d_Mod_halves_3 : decode b_Mod_halves 3 = .ok (.iand, 1) := by decide +kernel
theorem d_Mod_halves_4 : decode b_Mod_halves 4 = .ok (.istore_n 1, 1) := by decide +kernel
theorem d_Mod_halves_5 : decode b_Mod_halves 5 = .ok (.iload_n 0, 1) := by decide +kernel
theorem d_Mod_halves_6 : decode b_Mod_halves 6 = .ok (.bipush 16, 2) := by decide +kernel
theorem d_Mod_halves_8 : decode b_Mod_halves 8 = .ok (.ishr, 1) := by decide +kernel
theorem d_Mod_halves_9 : decode b_Mod_halves 9 = .ok (.ldc 138, 2) := by decide +kernel
theorem d_Mod_halves_11 : decode b_Mod_halves 11 = .ok (.iand, 1) := by decide +kernel
theorem d_Mod_halves_12 : decode b_Mod_halves 12 = .ok (.istore_n 2, 1) := by decide +kernel
theorem d_Mod_halves_13 : decode b_Mod_halves 13 = .ok (.iload_n 1, 1) := by decide +kernel
theorem d_Mod_halves_14 : decode b_Mod_halves 14 = .ok (.iload_n 2, 1) := by decide +kernel
theorem d_Mod_halves_15 : decode b_Mod_halves 15 = .ok (.iadd, 1) := by decide +kernel
theorem d_Mod_halves_16 : decode b_Mod_halves 16 = .ok (.ireturn, 1) := by decide +kernel
theorem d_Mod_fold_0 : decode b_Mod_fold 0 = .ok (.iload_n 0, 1) := by decide +kernel
theorem d_Mod_fold_1 : decode b_Mod_fold 1 = .ok (.istore_n 1, 1) := by decide +kernel
theorem d_Mod_fold_2 : decode b_Mod_fold 2 = .ok (.iconst 0, 1) := by decide +kernel
theorem d_Mod_fold_3 : decode b_Mod_fold 3 = .ok (.istore_n 2, 1) := by decide +kernel
theorem d_Mod_fold_4 : decode b_Mod_fold 4 = .ok (.iload_n 2, 1) := by decide +kernel
theorem d_Mod_fold_5 : decode b_Mod_fold 5 = .ok (.bipush 20, 2) := by decide +kernel
theorem d_Mod_fold_7 : decode b_Mod_fold 7 = .ok (.if_icmp .ge 25, 3) := by decide +kernel
theorem d_Mod_fold_10 : decode b_Mod_fold 10 = .ok (.iload_n 1, 1) := by decide +kernel
theorem d_Mod_fold_11 : decode b_Mod_fold 11 = .ok (.ldc 138, 2) := by decide +kernel
theorem d_Mod_fold_13 : decode b_Mod_fold 13 = .ok (.if_icmp .le 19, 3) := by decide +kernel
theorem d_Mod_fold_16 : decode b_Mod_fold 16 = .ok (.iload_n 1, 1) := by decide +kernel
theorem d_Mod_fold_17 : decode b_Mod_fold 17 = .ok (.ldc 139, 2) := by decide +kernel
theorem d_Mod_fold_19 : decode b_Mod_fold 19 = .ok (.irem, 1) := by decide +kernel
theorem d_Mod_fold_20 : decode b_Mod_fold 20 = .ok (.iload_n 1, 1) := by decide +kernel
theorem d_Mod_fold_21 : decode b_Mod_fold 21 = .ok (.ldc 139, 2) := by decide +kernel
theorem d_Mod_fold_23 : decode b_Mod_fold 23 = .ok (.idiv, 1) := by decide +kernel
theorem d_Mod_fold_24 : decode b_Mod_fold 24 = .ok (.iadd, 1) := by decide +kernel
theorem d_Mod_fold_25 : decode b_Mod_fold 25 = .ok (.istore_n 1, 1) := by decide +kernel
theorem d_Mod_fold_26 : decode b_Mod_fold 26 = .ok (.iinc 2 1, 3) := by decide +kernel
theorem d_Mod_fold_29 : decode b_Mod_fold 29 = .ok (.goto (-25), 3) := by decide +kernel
theorem d_Mod_fold_32 : decode b_Mod_fold 32 = .ok (.iload_n 1, 1) := by decide +kernel
theorem d_Mod_fold_33 : decode b_Mod_fold 33 = .ok (.ireturn, 1) := by decide +kernel
theorem d_Mod_checksum_0 : decode b_Mod_checksum 0 = .ok (.iload_n 1, 1) := by decide +kernel
theorem d_Mod_checksum_1 : decode b_Mod_checksum 1 = .ok (.invokestatic 140, 3) := by decide +kernel
theorem d_Mod_checksum_4 : decode b_Mod_checksum 4 = .ok (.iload_n 2, 1) := by decide +kernel
theorem d_Mod_checksum_5 : decode b_Mod_checksum 5 = .ok (.invokestatic 140, 3) := by decide +kernel
theorem d_Mod_checksum_8 : decode b_Mod_checksum 8 = .ok (.iadd, 1) := by decide +kernel
theorem d_Mod_checksum_9 : decode b_Mod_checksum 9 = .ok (.iload_n 3, 1) := by decide +kernel
theorem d_Mod_checksum_10 : decode b_Mod_checksum 10 = .ok (.bipush 16, 2) := by decide +kernel
theorem d_Mod_checksum_12 : decode b_Mod_checksum 12 = .ok (.ishr, 1) := by decide +kernel
theorem d_Mod_checksum_13 : decode b_Mod_checksum 13 = .ok (.ldc 138, 2) := by decide +kernel
theorem d_Mod_checksum_15 : decode b_Mod_checksum 15 = .ok (.iand, 1) := by decide +kernel
theorem d_Mod_checksum_16 : decode b_Mod_checksum 16 = .ok (.iadd, 1) := by decide +kernel
theorem d_Mod_checksum_17 : decode b_Mod_checksum 17 = .ok (.iload 4, 2) := by decide +kernel
theorem d_Mod_checksum_19 : decode b_Mod_checksum 19 = .ok (.invokestatic 140, 3) := by decide +kernel
theorem d_Mod_checksum_22 : decode b_Mod_checksum 22 = .ok (.iadd, 1) := by decide +kernel
theorem d_Mod_checksum_23 : decode b_Mod_checksum 23 = .ok (.iload 5, 2) := by decide +kernel
theorem d_Mod_checksum_25 : decode b_Mod_checksum 25 = .ok (.invokestatic 140, 3) := by decide +kernel
theorem d_Mod_checksum_28 : decode b_Mod_checksum 28 = .ok (.iadd, 1) := by decide +kernel
theorem d_Mod_checksum_29 : decode b_Mod_checksum 29 = .ok (.istore 6, 2) := by decide +kernel
theorem d_Mod_checksum_31 : decode b_Mod_checksum 31 = .ok (.ldc 138, 2) := by decide +kernel
theorem d_Mod_checksum_33 : decode b_Mod_checksum 33 = .ok (.iload 6, 2) := by decide +kernel
theorem d_Mod_checksum_35 : decode b_Mod_checksum 35 = .ok (.invokestatic 144, 3) := by decide +kernel
theorem d_Mod_checksum_38 : decode b_Mod_checksum 38 = .ok (.isub, 1) := by decide +kernel
theorem d_Mod_checksum_39 : decode b_Mod_checksum 39 = .ok (.ireturn, 1) := by decide +kernel
theorem d_Mod_header_0 : decode b_Mod_header 0 = .ok (.iload_n 1, 1) := by decide +kernel
theorem d_Mod_header_1 : decode b_Mod_header 1 = .ok (.invokestatic 140, 3) := by decide +kernel
theorem d_Mod_header_4 : decode b_Mod_header 4 = .ok (.iload_n 2, 1) := by decide +kernel
theorem d_Mod_header_5 : decode b_Mod_header 5 = .ok (.invokestatic 140, 3) := by decide +kernel
theorem d_Mod_header_8 : decode b_Mod_header 8 = .ok (.iadd, 1) := by decide +kernel
theorem d_Mod_header_9 : decode b_Mod_header 9 = .ok (.iload_n 3, 1) := by decide +kernel
theorem d_Mod_header_10 : decode b_Mod_header 10 = .ok (.invokestatic 140, 3) := by decide +kernel
theorem d_Mod_header_13 : decode b_Mod_header 13 = .ok (.iadd, 1) := by decide +kernel
theorem d_Mod_header_14 : decode b_Mod_header 14 = .ok (.iload 4, 2) := by decide +kernel
theorem d_Mod_header_16 : decode b_Mod_header 16 = .ok (.invokestatic 140, 3) := by decide +kernel
theorem d_Mod_header_19 : decode b_Mod_header 19 = .ok (.iadd, 1) := by decide +kernel
theorem d_Mod_header_20 : decode b_Mod_header 20 = .ok (.iload 5, 2) := by decide +kernel
theorem d_Mod_header_22 : decode b_Mod_header 22 = .ok (.invokestatic 140, 3) := by decide +kernel
theorem d_Mod_header_25 : decode b_Mod_header 25 = .ok (.iadd, 1) := by decide +kernel
theorem d_Mod_header_26 : decode b_Mod_header 26 = .ok (.invokestatic 144, 3) := by decide +kernel
theorem d_Mod_header_29 : decode b_Mod_header 29 = .ok (.istore 6, 2) := by decide +kernel
theorem d_Mod_header_31 : decode b_Mod_header 31 = .ok (.iload_n 1, 1) := by decide +kernel
theorem d_Mod_header_32 : decode b_Mod_header 32 = .ok (.ldc 138, 2) := by decide +kernel
theorem d_Mod_header_34 : decode b_Mod_header 34 = .ok (.iand, 1) := by decide +kernel
theorem d_Mod_header_35 : decode b_Mod_header 35 = .ok (.istore 7, 2) := by decide +kernel
theorem d_Mod_header_37 : decode b_Mod_header 37 = .ok (.iload_n 1, 1) := by decide +kernel
theorem d_Mod_header_38 : decode b_Mod_header 38 = .ok (.bipush 24, 2) := by decide +kernel
theorem d_Mod_header_40 : decode b_Mod_header 40 = .ok (.ishr, 1) := by decide +kernel
theorem d_Mod_header_41 : decode b_Mod_header 41 = .ok (.sipush 255, 3) := by decide +kernel
theorem d_Mod_header_44 : decode b_Mod_header 44 = .ok (.iand, 1) := by decide +kernel
theorem d_Mod_header_45 : decode b_Mod_header 45 = .ok (.bipush 69, 2) := by decide +kernel
theorem d_Mod_header_47 : decode b_Mod_header 47 = .ok (.if_icmp .eq 5, 3) := by decide +kernel
theorem d_Mod_header_50 : decode b_Mod_header 50 = .ok (.iconst 1, 1) := by decide +kernel
theorem d_Mod_header_51 : decode b_Mod_header 51 = .ok (.ireturn, 1) := by decide +kernel
theorem d_Mod_header_52 : decode b_Mod_header 52 = .ok (.iload 6, 2) := by decide +kernel
theorem d_Mod_header_54 : decode b_Mod_header 54 = .ok (.ldc 138, 2) := by decide +kernel
theorem d_Mod_header_56 : decode b_Mod_header 56 = .ok (.if_icmp .eq 5, 3) := by decide +kernel
theorem d_Mod_header_59 : decode b_Mod_header 59 = .ok (.iconst 2, 1) := by decide +kernel
theorem d_Mod_header_60 : decode b_Mod_header 60 = .ok (.ireturn, 1) := by decide +kernel
theorem d_Mod_header_61 : decode b_Mod_header 61 = .ok (.iload 7, 2) := by decide +kernel
theorem d_Mod_header_63 : decode b_Mod_header 63 = .ok (.bipush 40, 2) := by decide +kernel
theorem d_Mod_header_65 : decode b_Mod_header 65 = .ok (.if_icmp .lt 11, 3) := by decide +kernel
theorem d_Mod_header_68 : decode b_Mod_header 68 = .ok (.iload 7, 2) := by decide +kernel
theorem d_Mod_header_70 : decode b_Mod_header 70 = .ok (.sipush 1480, 3) := by decide +kernel
theorem d_Mod_header_73 : decode b_Mod_header 73 = .ok (.if_icmp .le 5, 3) := by decide +kernel
theorem d_Mod_header_76 : decode b_Mod_header 76 = .ok (.iconst 3, 1) := by decide +kernel
theorem d_Mod_header_77 : decode b_Mod_header 77 = .ok (.ireturn, 1) := by decide +kernel
theorem d_Mod_header_78 : decode b_Mod_header 78 = .ok (.iload_n 2, 1) := by decide +kernel
theorem d_Mod_header_79 : decode b_Mod_header 79 = .ok (.sipush 16384, 3) := by decide +kernel
theorem d_Mod_header_82 : decode b_Mod_header 82 = .ok (.irem, 1) := by decide +kernel
theorem d_Mod_header_83 : decode b_Mod_header 83 = .ok (.ifCond .eq 5, 3) := by decide +kernel
theorem d_Mod_header_86 : decode b_Mod_header 86 = .ok (.iconst 4, 1) := by decide +kernel
theorem d_Mod_header_87 : decode b_Mod_header 87 = .ok (.ireturn, 1) := by decide +kernel
theorem d_Mod_header_88 : decode b_Mod_header 88 = .ok (.iload_n 3, 1) := by decide +kernel
theorem d_Mod_header_89 : decode b_Mod_header 89 = .ok (.bipush 24, 2) := by decide +kernel
theorem d_Mod_header_91 : decode b_Mod_header 91 = .ok (.ishr, 1) := by decide +kernel
theorem d_Mod_header_92 : decode b_Mod_header 92 = .ok (.sipush 255, 3) := by decide +kernel
theorem d_Mod_header_95 : decode b_Mod_header 95 = .ok (.iand, 1) := by decide +kernel
theorem d_Mod_header_96 : decode b_Mod_header 96 = .ok (.ifCond .ne 5, 3) := by decide +kernel
theorem d_Mod_header_99 : decode b_Mod_header 99 = .ok (.iconst 5, 1) := by decide +kernel
theorem d_Mod_header_100 : decode b_Mod_header 100 = .ok (.ireturn, 1) := by decide +kernel
theorem d_Mod_header_101 : decode b_Mod_header 101 = .ok (.iload_n 3, 1) := by decide +kernel
theorem d_Mod_header_102 : decode b_Mod_header 102 = .ok (.bipush 16, 2) := by decide +kernel
theorem d_Mod_header_104 : decode b_Mod_header 104 = .ok (.ishr, 1) := by decide +kernel
theorem d_Mod_header_105 : decode b_Mod_header 105 = .ok (.sipush 255, 3) := by decide +kernel
theorem d_Mod_header_108 : decode b_Mod_header 108 = .ok (.iand, 1) := by decide +kernel
theorem d_Mod_header_109 : decode b_Mod_header 109 = .ok (.bipush 6, 2) := by decide +kernel
theorem d_Mod_header_111 : decode b_Mod_header 111 = .ok (.if_icmp .eq 6, 3) := by decide +kernel
theorem d_Mod_header_114 : decode b_Mod_header 114 = .ok (.bipush 6, 2) := by decide +kernel
theorem d_Mod_header_116 : decode b_Mod_header 116 = .ok (.ireturn, 1) := by decide +kernel
theorem d_Mod_header_117 : decode b_Mod_header 117 = .ok (.iload 5, 2) := by decide +kernel
theorem d_Mod_header_119 : decode b_Mod_header 119 = .ok (.ldc 147, 2) := by decide +kernel
theorem d_Mod_header_121 : decode b_Mod_header 121 = .ok (.if_icmp .eq 6, 3) := by decide +kernel
theorem d_Mod_header_124 : decode b_Mod_header 124 = .ok (.bipush 7, 2) := by decide +kernel
theorem d_Mod_header_126 : decode b_Mod_header 126 = .ok (.ireturn, 1) := by decide +kernel
theorem d_Mod_header_127 : decode b_Mod_header 127 = .ok (.aload_n 0, 1) := by decide +kernel
theorem d_Mod_header_128 : decode b_Mod_header 128 = .ok (.iconst 1, 1) := by decide +kernel
theorem d_Mod_header_129 : decode b_Mod_header 129 = .ok (.putfield 148, 3) := by decide +kernel
theorem d_Mod_header_132 : decode b_Mod_header 132 = .ok (.aload_n 0, 1) := by decide +kernel
theorem d_Mod_header_133 : decode b_Mod_header 133 = .ok (.getfield 81, 3) := by decide +kernel
theorem d_Mod_header_136 : decode b_Mod_header 136 = .ok (.iconst 0, 1) := by decide +kernel
theorem d_Mod_header_137 : decode b_Mod_header 137 = .ok (.iload_n 1, 1) := by decide +kernel
theorem d_Mod_header_138 : decode b_Mod_header 138 = .ok (.iastore, 1) := by decide +kernel
theorem d_Mod_header_139 : decode b_Mod_header 139 = .ok (.aload_n 0, 1) := by decide +kernel
theorem d_Mod_header_140 : decode b_Mod_header 140 = .ok (.getfield 81, 3) := by decide +kernel
theorem d_Mod_header_143 : decode b_Mod_header 143 = .ok (.iconst 1, 1) := by decide +kernel
theorem d_Mod_header_144 : decode b_Mod_header 144 = .ok (.iload_n 2, 1) := by decide +kernel
theorem d_Mod_header_145 : decode b_Mod_header 145 = .ok (.iastore, 1) := by decide +kernel
theorem d_Mod_header_146 : decode b_Mod_header 146 = .ok (.aload_n 0, 1) := by decide +kernel
theorem d_Mod_header_147 : decode b_Mod_header 147 = .ok (.getfield 81, 3) := by decide +kernel
theorem d_Mod_header_150 : decode b_Mod_header 150 = .ok (.iconst 2, 1) := by decide +kernel
theorem d_Mod_header_151 : decode b_Mod_header 151 = .ok (.iload_n 3, 1) := by decide +kernel
theorem d_Mod_header_152 : decode b_Mod_header 152 = .ok (.iastore, 1) := by decide +kernel
theorem d_Mod_header_153 : decode b_Mod_header 153 = .ok (.aload_n 0, 1) := by decide +kernel
theorem d_Mod_header_154 : decode b_Mod_header 154 = .ok (.getfield 81, 3) := by decide +kernel
theorem d_Mod_header_157 : decode b_Mod_header 157 = .ok (.iconst 3, 1) := by decide +kernel
theorem d_Mod_header_158 : decode b_Mod_header 158 = .ok (.iload 4, 2) := by decide +kernel
theorem d_Mod_header_160 : decode b_Mod_header 160 = .ok (.iastore, 1) := by decide +kernel
theorem d_Mod_header_161 : decode b_Mod_header 161 = .ok (.aload_n 0, 1) := by decide +kernel
theorem d_Mod_header_162 : decode b_Mod_header 162 = .ok (.getfield 81, 3) := by decide +kernel
theorem d_Mod_header_165 : decode b_Mod_header 165 = .ok (.iconst 4, 1) := by decide +kernel
theorem d_Mod_header_166 : decode b_Mod_header 166 = .ok (.iload 5, 2) := by decide +kernel
theorem d_Mod_header_168 : decode b_Mod_header 168 = .ok (.iastore, 1) := by decide +kernel
theorem d_Mod_header_169 : decode b_Mod_header 169 = .ok (.iconst 0, 1) := by decide +kernel
theorem d_Mod_header_170 : decode b_Mod_header 170 = .ok (.ireturn, 1) := by decide +kernel
theorem d_Mod_turned_0 : decode b_Mod_turned 0 = .ok (.lload_n 0, 1) := by decide +kernel
theorem d_Mod_turned_1 : decode b_Mod_turned 1 = .ok (.lstore_n 3, 1) := by decide +kernel
theorem d_Mod_turned_2 : decode b_Mod_turned 2 = .ok (.iconst 0, 1) := by decide +kernel
theorem d_Mod_turned_3 : decode b_Mod_turned 3 = .ok (.istore 5, 2) := by decide +kernel
theorem d_Mod_turned_5 : decode b_Mod_turned 5 = .ok (.iload 5, 2) := by decide +kernel
theorem d_Mod_turned_7 : decode b_Mod_turned 7 = .ok (.iload_n 2, 1) := by decide +kernel
theorem d_Mod_turned_8 : decode b_Mod_turned 8 = .ok (.if_icmp .ge 27, 3) := by decide +kernel
theorem d_Mod_turned_11 : decode b_Mod_turned 11 = .ok (.lload_n 3, 1) := by decide +kernel
theorem d_Mod_turned_12 : decode b_Mod_turned 12 = .ok (.lconst 0, 1) := by decide +kernel
theorem d_Mod_turned_13 : decode b_Mod_turned 13 = .ok (.lcmp, 1) := by decide +kernel
theorem d_Mod_turned_14 : decode b_Mod_turned 14 = .ok (.ifCond .ge 11, 3) := by decide +kernel
theorem d_Mod_turned_17 : decode b_Mod_turned 17 = .ok (.lload_n 3, 1) := by decide +kernel
theorem d_Mod_turned_18 : decode b_Mod_turned 18 = .ok (.lload_n 3, 1) := by decide +kernel
theorem d_Mod_turned_19 : decode b_Mod_turned 19 = .ok (.ladd, 1) := by decide +kernel
theorem d_Mod_turned_20 : decode b_Mod_turned 20 = .ok (.lconst 1, 1) := by decide +kernel
theorem d_Mod_turned_21 : decode b_Mod_turned 21 = .ok (.ladd, 1) := by decide +kernel
theorem d_Mod_turned_22 : decode b_Mod_turned 22 = .ok (.goto 6, 3) := by decide +kernel
theorem d_Mod_turned_25 : decode b_Mod_turned 25 = .ok (.lload_n 3, 1) := by decide +kernel
theorem d_Mod_turned_26 : decode b_Mod_turned 26 = .ok (.lload_n 3, 1) := by decide +kernel
theorem d_Mod_turned_27 : decode b_Mod_turned 27 = .ok (.ladd, 1) := by decide +kernel
theorem d_Mod_turned_28 : decode b_Mod_turned 28 = .ok (.lstore_n 3, 1) := by decide +kernel
theorem d_Mod_turned_29 : decode b_Mod_turned 29 = .ok (.iinc 5 1, 3) := by decide +kernel
theorem d_Mod_turned_32 : decode b_Mod_turned 32 = .ok (.goto (-27), 3) := by decide +kernel
theorem d_Mod_turned_35 : decode b_Mod_turned 35 = .ok (.lload_n 3, 1) := by decide +kernel
theorem d_Mod_turned_36 : decode b_Mod_turned 36 = .ok (.lreturn, 1) := by decide +kernel
theorem d_Mod_mix_0 : decode b_Mod_mix 0 = .ok (.aload_n 0, 1) := by decide +kernel
theorem d_Mod_mix_1 : decode b_Mod_mix 1 = .ok (.getfield 7, 3) := by decide +kernel
theorem d_Mod_mix_4 : decode b_Mod_mix 4 = .ok (.iload_n 1, 1) := by decide +kernel
theorem d_Mod_mix_5 : decode b_Mod_mix 5 = .ok (.aload_n 0, 1) := by decide +kernel
theorem d_Mod_mix_6 : decode b_Mod_mix 6 = .ok (.getfield 7, 3) := by decide +kernel
theorem d_Mod_mix_9 : decode b_Mod_mix 9 = .ok (.iload_n 1, 1) := by decide +kernel
theorem d_Mod_mix_10 : decode b_Mod_mix 10 = .ok (.laload, 1) := by decide +kernel
theorem d_Mod_mix_11 : decode b_Mod_mix 11 = .ok (.aload_n 0, 1) := by decide +kernel
theorem d_Mod_mix_12 : decode b_Mod_mix 12 = .ok (.getfield 7, 3) := by decide +kernel
theorem d_Mod_mix_15 : decode b_Mod_mix 15 = .ok (.iload_n 2, 1) := by decide +kernel
theorem d_Mod_mix_16 : decode b_Mod_mix 16 = .ok (.laload, 1) := by decide +kernel
theorem d_Mod_mix_17 : decode b_Mod_mix 17 = .ok (.ladd, 1) := by decide +kernel
theorem d_Mod_mix_18 : decode b_Mod_mix 18 = .ok (.lastore, 1) := by decide +kernel
theorem d_Mod_mix_19 : decode b_Mod_mix 19 = .ok (.aload_n 0, 1) := by decide +kernel
theorem d_Mod_mix_20 : decode b_Mod_mix 20 = .ok (.getfield 7, 3) := by decide +kernel
theorem d_Mod_mix_23 : decode b_Mod_mix 23 = .ok (.iload_n 2, 1) := by decide +kernel
theorem d_Mod_mix_24 : decode b_Mod_mix 24 = .ok (.aload_n 0, 1) := by decide +kernel
theorem d_Mod_mix_25 : decode b_Mod_mix 25 = .ok (.getfield 7, 3) := by decide +kernel
theorem d_Mod_mix_28 : decode b_Mod_mix 28 = .ok (.iload_n 2, 1) := by decide +kernel
theorem d_Mod_mix_29 : decode b_Mod_mix 29 = .ok (.laload, 1) := by decide +kernel
theorem d_Mod_mix_30 : decode b_Mod_mix 30 = .ok (.iload_n 3, 1) := by decide +kernel
theorem d_Mod_mix_31 : decode b_Mod_mix 31 = .ok (.invokestatic 152, 3) := by decide +kernel
theorem d_Mod_mix_34 : decode b_Mod_mix 34 = .ok (.lastore, 1) := by decide +kernel
theorem d_Mod_mix_35 : decode b_Mod_mix 35 = .ok (.aload_n 0, 1) := by decide +kernel
theorem d_Mod_mix_36 : decode b_Mod_mix 36 = .ok (.getfield 7, 3) := by decide +kernel
theorem d_Mod_mix_39 : decode b_Mod_mix 39 = .ok (.iload_n 2, 1) := by decide +kernel
theorem d_Mod_mix_40 : decode b_Mod_mix 40 = .ok (.aload_n 0, 1) := by decide +kernel
theorem d_Mod_mix_41 : decode b_Mod_mix 41 = .ok (.getfield 7, 3) := by decide +kernel
theorem d_Mod_mix_44 : decode b_Mod_mix 44 = .ok (.iload_n 2, 1) := by decide +kernel
theorem d_Mod_mix_45 : decode b_Mod_mix 45 = .ok (.laload, 1) := by decide +kernel
theorem d_Mod_mix_46 : decode b_Mod_mix 46 = .ok (.aload_n 0, 1) := by decide +kernel
theorem d_Mod_mix_47 : decode b_Mod_mix 47 = .ok (.getfield 7, 3) := by decide +kernel
theorem d_Mod_mix_50 : decode b_Mod_mix 50 = .ok (.iload_n 1, 1) := by decide +kernel
theorem d_Mod_mix_51 : decode b_Mod_mix 51 = .ok (.laload, 1) := by decide +kernel
theorem d_Mod_mix_52 : decode b_Mod_mix 52 = .ok (.lxor, 1) := by decide +kernel
theorem d_Mod_mix_53 : decode b_Mod_mix 53 = .ok (.lastore, 1) := by decide +kernel
theorem d_Mod_mix_54 : decode b_Mod_mix 54 = .ok (.aload_n 0, 1) := by decide +kernel
theorem d_Mod_mix_55 : decode b_Mod_mix 55 = .ok (.getfield 7, 3) := by decide +kernel
theorem d_Mod_mix_58 : decode b_Mod_mix 58 = .ok (.iload_n 1, 1) := by decide +kernel
theorem d_Mod_mix_59 : decode b_Mod_mix 59 = .ok (.aload_n 0, 1) := by decide +kernel
theorem d_Mod_mix_60 : decode b_Mod_mix 60 = .ok (.getfield 7, 3) := by decide +kernel
theorem d_Mod_mix_63 : decode b_Mod_mix 63 = .ok (.iload_n 1, 1) := by decide +kernel
theorem d_Mod_mix_64 : decode b_Mod_mix 64 = .ok (.laload, 1) := by decide +kernel
theorem d_Mod_mix_65 : decode b_Mod_mix 65 = .ok (.iload 4, 2) := by decide +kernel
theorem d_Mod_mix_67 : decode b_Mod_mix 67 = .ok (.invokestatic 152, 3) := by decide +kernel
theorem d_Mod_mix_70 : decode b_Mod_mix 70 = .ok (.lastore, 1) := by decide +kernel
theorem d_Mod_mix_71 : decode b_Mod_mix 71 = .ok (.return_, 1) := by decide +kernel
theorem d_Mod_rounds_0 : decode b_Mod_rounds 0 = .ok (.iconst 0, 1) := by decide +kernel
theorem d_Mod_rounds_1 : decode b_Mod_rounds 1 = .ok (.istore_n 2, 1) := by decide +kernel
theorem d_Mod_rounds_2 : decode b_Mod_rounds 2 = .ok (.iload_n 2, 1) := by decide +kernel
theorem d_Mod_rounds_3 : decode b_Mod_rounds 3 = .ok (.iload_n 1, 1) := by decide +kernel
theorem d_Mod_rounds_4 : decode b_Mod_rounds 4 = .ok (.if_icmp .ge 47, 3) := by decide +kernel
theorem d_Mod_rounds_7 : decode b_Mod_rounds 7 = .ok (.aload_n 0, 1) := by decide +kernel
theorem d_Mod_rounds_8 : decode b_Mod_rounds 8 = .ok (.iconst 0, 1) := by decide +kernel
theorem d_Mod_rounds_9 : decode b_Mod_rounds 9 = .ok (.iconst 1, 1) := by decide +kernel
theorem d_Mod_rounds_10 : decode b_Mod_rounds 10 = .ok (.bipush 13, 2) := by decide +kernel
theorem d_Mod_rounds_12 : decode b_Mod_rounds 12 = .ok (.bipush 32, 2) := by decide +kernel
theorem d_Mod_rounds_14 : decode b_Mod_rounds 14 = .ok (.invokevirtual 156, 3) := by decide +kernel
theorem d_Mod_rounds_17 : decode b_Mod_rounds 17 = .ok (.aload_n 0, 1) := by decide +kernel
theorem d_Mod_rounds_18 : decode b_Mod_rounds 18 = .ok (.iconst 2, 1) := by decide +kernel
theorem d_Mod_rounds_19 : decode b_Mod_rounds 19 = .ok (.iconst 3, 1) := by decide +kernel
theorem d_Mod_rounds_20 : decode b_Mod_rounds 20 = .ok (.bipush 16, 2) := by decide +kernel
theorem d_Mod_rounds_22 : decode b_Mod_rounds 22 = .ok (.iconst 0, 1) := by decide +kernel
theorem d_Mod_rounds_23 : decode b_Mod_rounds 23 = .ok (.invokevirtual 156, 3) := by decide +kernel
theorem d_Mod_rounds_26 : decode b_Mod_rounds 26 = .ok (.aload_n 0, 1) := by decide +kernel
theorem d_Mod_rounds_27 : decode b_Mod_rounds 27 = .ok (.iconst 0, 1) := by decide +kernel
theorem d_Mod_rounds_28 : decode b_Mod_rounds 28 = .ok (.iconst 3, 1) := by decide +kernel
theorem d_Mod_rounds_29 : decode b_Mod_rounds 29 = .ok (.bipush 21, 2) := by decide +kernel
theorem d_Mod_rounds_31 : decode b_Mod_rounds 31 = .ok (.iconst 0, 1) := by decide +kernel
theorem d_Mod_rounds_32 : decode b_Mod_rounds 32 = .ok (.invokevirtual 156, 3) := by decide +kernel
theorem d_Mod_rounds_35 : decode b_Mod_rounds 35 = .ok (.aload_n 0, 1) := by decide +kernel
theorem d_Mod_rounds_36 : decode b_Mod_rounds 36 = .ok (.iconst 2, 1) := by decide +kernel
theorem d_Mod_rounds_37 : decode b_Mod_rounds 37 = .ok (.iconst 1, 1) := by decide +kernel
theorem d_Mod_rounds_38 : decode b_Mod_rounds 38 = .ok (.bipush 17, 2) := by decide +kernel
theorem d_Mod_rounds_40 : decode b_Mod_rounds 40 = .ok (.bipush 32, 2) := by decide +kernel
theorem d_Mod_rounds_42 : decode b_Mod_rounds 42 = .ok (.invokevirtual 156, 3) := by decide +kernel
theorem d_Mod_rounds_45 : decode b_Mod_rounds 45 = .ok (.iinc 2 1, 3) := by decide +kernel
theorem d_Mod_rounds_48 : decode b_Mod_rounds 48 = .ok (.goto (-46), 3) := by decide +kernel
theorem d_Mod_rounds_51 : decode b_Mod_rounds 51 = .ok (.return_, 1) := by decide +kernel
theorem d_Mod_takeIn_0 : decode b_Mod_takeIn 0 = .ok (.aload_n 0, 1) := by decide +kernel
theorem d_Mod_takeIn_1 : decode b_Mod_takeIn 1 = .ok (.getfield 7, 3) := by decide +kernel
theorem d_Mod_takeIn_4 : decode b_Mod_takeIn 4 = .ok (.iconst 3, 1) := by decide +kernel
theorem d_Mod_takeIn_5 : decode b_Mod_takeIn 5 = .ok (.aload_n 0, 1) := by decide +kernel
theorem d_Mod_takeIn_6 : decode b_Mod_takeIn 6 = .ok (.getfield 7, 3) := by decide +kernel
theorem d_Mod_takeIn_9 : decode b_Mod_takeIn 9 = .ok (.iconst 3, 1) := by decide +kernel
theorem d_Mod_takeIn_10 : decode b_Mod_takeIn 10 = .ok (.laload, 1) := by decide +kernel
theorem d_Mod_takeIn_11 : decode b_Mod_takeIn 11 = .ok (.lload_n 1, 1) := by decide +kernel
theorem d_Mod_takeIn_12 : decode b_Mod_takeIn 12 = .ok (.lxor, 1) := by decide +kernel
theorem d_Mod_takeIn_13 : decode b_Mod_takeIn 13 = .ok (.lastore, 1) := by decide +kernel
theorem d_Mod_takeIn_14 : decode b_Mod_takeIn 14 = .ok (.aload_n 0, 1) := by decide +kernel
theorem d_Mod_takeIn_15 : decode b_Mod_takeIn 15 = .ok (.iconst 2, 1) := by decide +kernel
theorem d_Mod_takeIn_16 : decode b_Mod_takeIn 16 = .ok (.invokevirtual 160, 3) := by decide +kernel
theorem d_Mod_takeIn_19 : decode b_Mod_takeIn 19 = .ok (.aload_n 0, 1) := by decide +kernel
theorem d_Mod_takeIn_20 : decode b_Mod_takeIn 20 = .ok (.getfield 7, 3) := by decide +kernel
theorem d_Mod_takeIn_23 : decode b_Mod_takeIn 23 = .ok (.iconst 0, 1) := by decide +kernel
theorem d_Mod_takeIn_24 : decode b_Mod_takeIn 24 = .ok (.aload_n 0, 1) := by decide +kernel
theorem d_Mod_takeIn_25 : decode b_Mod_takeIn 25 = .ok (.getfield 7, 3) := by decide +kernel
theorem d_Mod_takeIn_28 : decode b_Mod_takeIn 28 = .ok (.iconst 0, 1) := by decide +kernel
theorem d_Mod_takeIn_29 : decode b_Mod_takeIn 29 = .ok (.laload, 1) := by decide +kernel
theorem d_Mod_takeIn_30 : decode b_Mod_takeIn 30 = .ok (.lload_n 1, 1) := by decide +kernel
theorem d_Mod_takeIn_31 : decode b_Mod_takeIn 31 = .ok (.lxor, 1) := by decide +kernel
theorem d_Mod_takeIn_32 : decode b_Mod_takeIn 32 = .ok (.lastore, 1) := by decide +kernel
theorem d_Mod_takeIn_33 : decode b_Mod_takeIn 33 = .ok (.return_, 1) := by decide +kernel
theorem d_Mod_digestOf_0 : decode b_Mod_digestOf 0 = .ok (.aload_n 0, 1) := by decide +kernel
theorem d_Mod_digestOf_1 : decode b_Mod_digestOf 1 = .ok (.getfield 7, 3) := by decide +kernel
theorem d_Mod_digestOf_4 : decode b_Mod_digestOf 4 = .ok (.iconst 0, 1) := by decide +kernel
theorem d_Mod_digestOf_5 : decode b_Mod_digestOf 5 = .ok (.aload_n 0, 1) := by decide +kernel
theorem d_Mod_digestOf_6 : decode b_Mod_digestOf 6 = .ok (.getfield 114, 3) := by decide +kernel
theorem d_Mod_digestOf_9 : decode b_Mod_digestOf 9 = .ok (.ldc2_w 164, 3) := by decide +kernel
theorem d_Mod_digestOf_12 : decode b_Mod_digestOf 12 = .ok (.lxor, 1) := by decide +kernel
theorem d_Mod_digestOf_13 : decode b_Mod_digestOf 13 = .ok (.lastore, 1) := by decide +kernel
theorem d_Mod_digestOf_14 : decode b_Mod_digestOf 14 = .ok (.aload_n 0, 1) := by decide +kernel
theorem d_Mod_digestOf_15 : decode b_Mod_digestOf 15 = .ok (.getfield 7, 3) := by decide +kernel
theorem d_Mod_digestOf_18 : decode b_Mod_digestOf 18 = .ok (.iconst 1, 1) := by decide +kernel
theorem d_Mod_digestOf_19 : decode b_Mod_digestOf 19 = .ok (.aload_n 0, 1) := by decide +kernel
theorem d_Mod_digestOf_20 : decode b_Mod_digestOf 20 = .ok (.getfield 120, 3) := by decide +kernel
theorem d_Mod_digestOf_23 : decode b_Mod_digestOf 23 = .ok (.ldc2_w 166, 3) := by decide +kernel
theorem d_Mod_digestOf_26 : decode b_Mod_digestOf 26 = .ok (.lxor, 1) := by decide +kernel
theorem d_Mod_digestOf_27 : decode b_Mod_digestOf 27 = .ok (.lastore, 1) := by decide +kernel
theorem d_Mod_digestOf_28 : decode b_Mod_digestOf 28 = .ok (.aload_n 0, 1) := by decide +kernel
theorem d_Mod_digestOf_29 : decode b_Mod_digestOf 29 = .ok (.getfield 7, 3) := by decide +kernel
theorem d_Mod_digestOf_32 : decode b_Mod_digestOf 32 = .ok (.iconst 2, 1) := by decide +kernel
theorem d_Mod_digestOf_33 : decode b_Mod_digestOf 33 = .ok (.aload_n 0, 1) := by decide +kernel
theorem d_Mod_digestOf_34 : decode b_Mod_digestOf 34 = .ok (.getfield 114, 3) := by decide +kernel
theorem d_Mod_digestOf_37 : decode b_Mod_digestOf 37 = .ok (.ldc2_w 168, 3) := by decide +kernel
theorem d_Mod_digestOf_40 : decode b_Mod_digestOf 40 = .ok (.lxor, 1) := by decide +kernel
theorem d_Mod_digestOf_41 : decode b_Mod_digestOf 41 = .ok (.lastore, 1) := by decide +kernel
theorem d_Mod_digestOf_42 : decode b_Mod_digestOf 42 = .ok (.aload_n 0, 1) := by decide +kernel
theorem d_Mod_digestOf_43 : decode b_Mod_digestOf 43 = .ok (.getfield 7, 3) := by decide +kernel
theorem d_Mod_digestOf_46 : decode b_Mod_digestOf 46 = .ok (.iconst 3, 1) := by decide +kernel
theorem d_Mod_digestOf_47 : decode b_Mod_digestOf 47 = .ok (.aload_n 0, 1) := by decide +kernel
theorem d_Mod_digestOf_48 : decode b_Mod_digestOf 48 = .ok (.getfield 120, 3) := by decide +kernel
theorem d_Mod_digestOf_51 : decode b_Mod_digestOf 51 = .ok (.ldc2_w 170, 3) := by decide +kernel
theorem d_Mod_digestOf_54 : decode b_Mod_digestOf 54 = .ok (.lxor, 1) := by decide +kernel
theorem d_Mod_digestOf_55 : decode b_Mod_digestOf 55 = .ok (.lastore, 1) := by decide +kernel
theorem d_Mod_digestOf_56 : decode b_Mod_digestOf 56 = .ok (.aload_n 0, 1) := by decide +kernel
theorem d_Mod_digestOf_57 : decode b_Mod_digestOf 57 = .ok (.lload_n 1, 1) := by decide +kernel
theorem d_Mod_digestOf_58 : decode b_Mod_digestOf 58 = .ok (.invokevirtual 172, 3) := by decide +kernel
theorem d_Mod_digestOf_61 : decode b_Mod_digestOf 61 = .ok (.aload_n 0, 1) := by decide +kernel
theorem d_Mod_digestOf_62 : decode b_Mod_digestOf 62 = .ok (.ldc2_w 176, 3) := by decide +kernel
theorem d_Mod_digestOf_65 : decode b_Mod_digestOf 65 = .ok (.invokevirtual 172, 3) := by decide +kernel
theorem d_Mod_digestOf_68 : decode b_Mod_digestOf 68 = .ok (.aload_n 0, 1) := by decide +kernel
theorem d_Mod_digestOf_69 : decode b_Mod_digestOf 69 = .ok (.getfield 7, 3) := by decide +kernel
theorem d_Mod_digestOf_72 : decode b_Mod_digestOf 72 = .ok (.iconst 2, 1) := by decide +kernel
theorem d_Mod_digestOf_73 : decode b_Mod_digestOf 73 = .ok (.aload_n 0, 1) := by decide +kernel
theorem d_Mod_digestOf_74 : decode b_Mod_digestOf 74 = .ok (.getfield 7, 3) := by decide +kernel
theorem d_Mod_digestOf_77 : decode b_Mod_digestOf 77 = .ok (.iconst 2, 1) := by decide +kernel
theorem d_Mod_digestOf_78 : decode b_Mod_digestOf 78 = .ok (.laload, 1) := by decide +kernel
theorem d_Mod_digestOf_79 : decode b_Mod_digestOf 79 = .ok (.ldc2_w 178, 3) := by decide +kernel
theorem d_Mod_digestOf_82 : decode b_Mod_digestOf 82 = .ok (.lxor, 1) := by decide +kernel
theorem d_Mod_digestOf_83 : decode b_Mod_digestOf 83 = .ok (.lastore, 1) := by decide +kernel
theorem d_Mod_digestOf_84 : decode b_Mod_digestOf 84 = .ok (.aload_n 0, 1) := by decide +kernel
theorem d_Mod_digestOf_85 : decode b_Mod_digestOf 85 = .ok (.iconst 4, 1) := by decide +kernel
theorem d_Mod_digestOf_86 : decode b_Mod_digestOf 86 = .ok (.invokevirtual 160, 3) := by decide +kernel
theorem d_Mod_digestOf_89 : decode b_Mod_digestOf 89 = .ok (.aload_n 0, 1) := by decide +kernel
theorem d_Mod_digestOf_90 : decode b_Mod_digestOf 90 = .ok (.getfield 7, 3) := by decide +kernel
theorem d_Mod_digestOf_93 : decode b_Mod_digestOf 93 = .ok (.iconst 0, 1) := by decide +kernel
theorem d_Mod_digestOf_94 : decode b_Mod_digestOf 94 = .ok (.laload, 1) := by decide +kernel
theorem d_Mod_digestOf_95 : decode b_Mod_digestOf 95 = .ok (.aload_n 0, 1) := by decide +kernel
theorem d_Mod_digestOf_96 : decode b_Mod_digestOf 96 = .ok (.getfield 7, 3) := by decide +kernel
theorem d_Mod_digestOf_99 : decode b_Mod_digestOf 99 = .ok (.iconst 1, 1) := by decide +kernel
theorem d_Mod_digestOf_100 : decode b_Mod_digestOf 100 = .ok (.laload, 1) := by decide +kernel
theorem d_Mod_digestOf_101 : decode b_Mod_digestOf 101 = .ok (.lxor, 1) := by decide +kernel
theorem d_Mod_digestOf_102 : decode b_Mod_digestOf 102 = .ok (.aload_n 0, 1) := by decide +kernel
theorem d_Mod_digestOf_103 : decode b_Mod_digestOf 103 = .ok (.getfield 7, 3) := by decide +kernel
theorem d_Mod_digestOf_106 : decode b_Mod_digestOf 106 = .ok (.iconst 2, 1) := by decide +kernel
theorem d_Mod_digestOf_107 : decode b_Mod_digestOf 107 = .ok (.laload, 1) := by decide +kernel
theorem d_Mod_digestOf_108 : decode b_Mod_digestOf 108 = .ok (.lxor, 1) := by decide +kernel
theorem d_Mod_digestOf_109 : decode b_Mod_digestOf 109 = .ok (.aload_n 0, 1) := by decide +kernel
theorem d_Mod_digestOf_110 : decode b_Mod_digestOf 110 = .ok (.getfield 7, 3) := by decide +kernel
theorem d_Mod_digestOf_113 : decode b_Mod_digestOf 113 = .ok (.iconst 3, 1) := by decide +kernel
theorem d_Mod_digestOf_114 : decode b_Mod_digestOf 114 = .ok (.laload, 1) := by decide +kernel
theorem d_Mod_digestOf_115 : decode b_Mod_digestOf 115 = .ok (.lxor, 1) := by decide +kernel
theorem d_Mod_digestOf_116 : decode b_Mod_digestOf 116 = .ok (.lreturn, 1) := by decide +kernel
theorem d_Mod_digest_0 : decode b_Mod_digest 0 = .ok (.iload_n 2, 1) := by decide +kernel
theorem d_Mod_digest_1 : decode b_Mod_digest 1 = .ok (.ifCond .ge 12, 3) := by decide +kernel
theorem d_Mod_digest_4 : decode b_Mod_digest 4 = .ok (.iload_n 2, 1) := by decide +kernel
theorem d_Mod_digest_5 : decode b_Mod_digest 5 = .ok (.i2l, 1) := by decide +kernel
theorem d_Mod_digest_6 : decode b_Mod_digest 6 = .ok (.ldc2_w 136, 3) := by decide +kernel
theorem d_Mod_digest_9 : decode b_Mod_digest 9 = .ok (.ladd, 1) := by decide +kernel
theorem d_Mod_digest_10 : decode b_Mod_digest 10 = .ok (.goto 5, 3) := by decide +kernel
theorem d_Mod_digest_13 : decode b_Mod_digest 13 = .ok (.iload_n 2, 1) := by decide +kernel
theorem d_Mod_digest_14 : decode b_Mod_digest 14 = .ok (.i2l, 1) := by decide +kernel
theorem d_Mod_digest_15 : decode b_Mod_digest 15 = .ok (.lstore_n 3, 1) := by decide +kernel
theorem d_Mod_digest_16 : decode b_Mod_digest 16 = .ok (.aload_n 0, 1) := by decide +kernel
theorem d_Mod_digest_17 : decode b_Mod_digest 17 = .ok (.iload_n 1, 1) := by decide +kernel
theorem d_Mod_digest_18 : decode b_Mod_digest 18 = .ok (.i2l, 1) := by decide +kernel
theorem d_Mod_digest_19 : decode b_Mod_digest 19 = .ok (.ldc2_w 136, 3) := by decide +kernel
theorem d_Mod_digest_22 : decode b_Mod_digest 22 = .ok (.lmul, 1) := by decide +kernel
theorem d_Mod_digest_23 : decode b_Mod_digest 23 = .ok (.lload_n 3, 1) := by decide +kernel
theorem d_Mod_digest_24 : decode b_Mod_digest 24 = .ok (.ladd, 1) := by decide +kernel
theorem d_Mod_digest_25 : decode b_Mod_digest 25 = .ok (.invokevirtual 124, 3) := by decide +kernel
theorem d_Mod_digest_28 : decode b_Mod_digest 28 = .ok (.lreturn, 1) := by decide +kernel
theorem d_Mod_carrier_0 : decode b_Mod_carrier 0 = .ok (.aload_n 0, 1) := by decide +kernel
theorem d_Mod_carrier_1 : decode b_Mod_carrier 1 = .ok (.getfield 84, 3) := by decide +kernel
theorem d_Mod_carrier_4 : decode b_Mod_carrier 4 = .ok (.ireturn, 1) := by decide +kernel
theorem d_Mod_reply_0 : decode b_Mod_reply 0 = .ok (.aload_n 0, 1) := by decide +kernel
theorem d_Mod_reply_1 : decode b_Mod_reply 1 = .ok (.getfield 88, 3) := by decide +kernel
theorem d_Mod_reply_4 : decode b_Mod_reply 4 = .ok (.ireturn, 1) := by decide +kernel
theorem d_Mod_taken_0 : decode b_Mod_taken 0 = .ok (.aload_n 0, 1) := by decide +kernel
theorem d_Mod_taken_1 : decode b_Mod_taken 1 = .ok (.getfield 91, 3) := by decide +kernel
theorem d_Mod_taken_4 : decode b_Mod_taken 4 = .ok (.ireturn, 1) := by decide +kernel
theorem d_Mod_isBalancer_0 : decode b_Mod_isBalancer 0 = .ok (.iload_n 1, 1) := by decide +kernel
theorem d_Mod_isBalancer_1 : decode b_Mod_isBalancer 1 = .ok (.ifCond .lt 15, 3) := by decide +kernel
theorem d_Mod_isBalancer_4 : decode b_Mod_isBalancer 4 = .ok (.iload_n 1, 1) := by decide +kernel
theorem d_Mod_isBalancer_5 : decode b_Mod_isBalancer 5 = .ok (.aload_n 0, 1) := by decide +kernel
theorem d_Mod_isBalancer_6 : decode b_Mod_isBalancer 6 = .ok (.getfield 101, 3) := by decide +kernel
theorem d_Mod_isBalancer_9 : decode b_Mod_isBalancer 9 = .ok (.if_icmp .ge 7, 3) := by decide +kernel
theorem d_Mod_isBalancer_12 : decode b_Mod_isBalancer 12 = .ok (.iconst 1, 1) := by decide +kernel
theorem d_Mod_isBalancer_13 : decode b_Mod_isBalancer 13 = .ok (.goto 4, 3) := by decide +kernel
theorem d_Mod_isBalancer_16 : decode b_Mod_isBalancer 16 = .ok (.iconst 0, 1) := by decide +kernel
theorem d_Mod_isBalancer_17 : decode b_Mod_isBalancer 17 = .ok (.ireturn, 1) := by decide +kernel
theorem d_Mod_isServer_0 : decode b_Mod_isServer 0 = .ok (.iload_n 1, 1) := by decide +kernel
theorem d_Mod_isServer_1 : decode b_Mod_isServer 1 = .ok (.ifCond .lt 15, 3) := by decide +kernel
theorem d_Mod_isServer_4 : decode b_Mod_isServer 4 = .ok (.iload_n 1, 1) := by decide +kernel
theorem d_Mod_isServer_5 : decode b_Mod_isServer 5 = .ok (.aload_n 0, 1) := by decide +kernel
theorem d_Mod_isServer_6 : decode b_Mod_isServer 6 = .ok (.getfield 104, 3) := by decide +kernel
theorem d_Mod_isServer_9 : decode b_Mod_isServer 9 = .ok (.if_icmp .ge 7, 3) := by decide +kernel
theorem d_Mod_isServer_12 : decode b_Mod_isServer 12 = .ok (.iconst 1, 1) := by decide +kernel
theorem d_Mod_isServer_13 : decode b_Mod_isServer 13 = .ok (.goto 4, 3) := by decide +kernel
theorem d_Mod_isServer_16 : decode b_Mod_isServer 16 = .ok (.iconst 0, 1) := by decide +kernel
theorem d_Mod_isServer_17 : decode b_Mod_isServer 17 = .ok (.ireturn, 1) := by decide +kernel
end
section
theorem k_b20 : (Int8.ofInt (20)).toInt32 = (20 : Int32) := by decide
theorem k_b24 : (Int8.ofInt (24)).toInt32 = (24 : Int32) := by decide
theorem k_b40 : (Int8.ofInt (40)).toInt32 = (40 : Int32) := by decide
theorem k_b69 : (Int8.ofInt (69)).toInt32 = (69 : Int32) := by decide
theorem k_b7 : (Int8.ofInt (7)).toInt32 = (7 : Int32) := by decide
theorem k_l0 : Int64.ofNat ((0 : Fin 2) : Nat) = (0 : Int64) := by decide
theorem k_l1 : Int64.ofNat ((1 : Fin 2) : Nat) = (1 : Int64) := by decide
theorem k_s1480 : (Int16.ofInt (1480)).toInt32 = (1480 : Int32) := by decide
theorem k_s16384 : (Int16.ofInt (16384)).toInt32 = (16384 : Int32) := by decide
theorem k_s255 : (Int16.ofInt (255)).toInt32 = (255 : Int32) := by decide
section ZG
variable {p : Program} {l : Launch} {e : Env} {R : Room} {s : State} {m : MethodId} {args : Array Value} {below : List Frame} {meth : Method} {c : Code} {cells slots : Nat} {Q : State → Prop} {cc : ByteArray} {nL pc : Nat} {rest : List Value} {D : va_G} {K : Nat → ClassId} {M : List (ClassId × FieldType)} {A : Nat → Prop} {ws : va_W} {lv : List (Nat × Value)}
theorem zg_Mod_101 (hF : zF p s m args c cc nL R_Mod D K M A) (q0 : Nat) {a : Nat} {fs : List Value} {v : Value} (he : ws[q0]? = some (a, .inr (11, fs))) (hv : fs[0]? = some v) (hdg : decode cc pc = .ok (.getfield 101, 3)) (k : zW p l e R s m args below meth c D A cells slots Q nL ws lv (pc + 3) (v :: rest)) : zW p l e R s m args below meth c D A cells slots Q nL ws lv pc (.ref a :: rest) := zx_get hF (C := R_Mod) (T := F_Mod) (N := 38) wu_Mod q0 he rfl 0 (by decide) wf_Mod_101 hv hdg k
theorem zg_Mod_104 (hF : zF p s m args c cc nL R_Mod D K M A) (q0 : Nat) {a : Nat} {fs : List Value} {v : Value} (he : ws[q0]? = some (a, .inr (11, fs))) (hv : fs[1]? = some v) (hdg : decode cc pc = .ok (.getfield 104, 3)) (k : zW p l e R s m args below meth c D A cells slots Q nL ws lv (pc + 3) (v :: rest)) : zW p l e R s m args below meth c D A cells slots Q nL ws lv pc (.ref a :: rest) := zx_get hF (C := R_Mod) (T := F_Mod) (N := 38) wu_Mod q0 he rfl 1 (by decide) wf_Mod_104 hv hdg k
theorem zg_Mod_114 (hF : zF p s m args c cc nL R_Mod D K M A) (q0 : Nat) {a : Nat} {fs : List Value} {v : Value} (he : ws[q0]? = some (a, .inr (11, fs))) (hv : fs[3]? = some v) (hdg : decode cc pc = .ok (.getfield 114, 3)) (k : zW p l e R s m args below meth c D A cells slots Q nL ws lv (pc + 3) (v :: rest)) : zW p l e R s m args below meth c D A cells slots Q nL ws lv pc (.ref a :: rest) := zx_get hF (C := R_Mod) (T := F_Mod) (N := 38) wu_Mod q0 he rfl 3 (by decide) wf_Mod_114 hv hdg k
theorem zg_Mod_120 (hF : zF p s m args c cc nL R_Mod D K M A) (q0 : Nat) {a : Nat} {fs : List Value} {v : Value} (he : ws[q0]? = some (a, .inr (11, fs))) (hv : fs[4]? = some v) (hdg : decode cc pc = .ok (.getfield 120, 3)) (k : zW p l e R s m args below meth c D A cells slots Q nL ws lv (pc + 3) (v :: rest)) : zW p l e R s m args below meth c D A cells slots Q nL ws lv pc (.ref a :: rest) := zx_get hF (C := R_Mod) (T := F_Mod) (N := 38) wu_Mod q0 he rfl 4 (by decide) wf_Mod_120 hv hdg k
theorem zg_Mod_7 (hF : zF p s m args c cc nL R_Mod D K M A) (q0 : Nat) {a : Nat} {fs : List Value} {v : Value} (he : ws[q0]? = some (a, .inr (11, fs))) (hv : fs[6]? = some v) (hdg : decode cc pc = .ok (.getfield 7, 3)) (k : zW p l e R s m args below meth c D A cells slots Q nL ws lv (pc + 3) (v :: rest)) : zW p l e R s m args below meth c D A cells slots Q nL ws lv pc (.ref a :: rest) := zx_get hF (C := R_Mod) (T := F_Mod) (N := 38) wu_Mod q0 he rfl 6 (by decide) wf_Mod_7 hv hdg k
theorem zg_Mod_81 (hF : zF p s m args c cc nL R_Mod D K M A) (q0 : Nat) {a : Nat} {fs : List Value} {v : Value} (he : ws[q0]? = some (a, .inr (11, fs))) (hv : fs[30]? = some v) (hdg : decode cc pc = .ok (.getfield 81, 3)) (k : zW p l e R s m args below meth c D A cells slots Q nL ws lv (pc + 3) (v :: rest)) : zW p l e R s m args below meth c D A cells slots Q nL ws lv pc (.ref a :: rest) := zx_get hF (C := R_Mod) (T := F_Mod) (N := 38) wu_Mod q0 he rfl 30 (by decide) wf_Mod_81 hv hdg k
theorem zg_Mod_84 (hF : zF p s m args c cc nL R_Mod D K M A) (q0 : Nat) {a : Nat} {fs : List Value} {v : Value} (he : ws[q0]? = some (a, .inr (11, fs))) (hv : fs[31]? = some v) (hdg : decode cc pc = .ok (.getfield 84, 3)) (k : zW p l e R s m args below meth c D A cells slots Q nL ws lv (pc + 3) (v :: rest)) : zW p l e R s m args below meth c D A cells slots Q nL ws lv pc (.ref a :: rest) := zx_get hF (C := R_Mod) (T := F_Mod) (N := 38) wu_Mod q0 he rfl 31 (by decide) wf_Mod_84 hv hdg k
theorem zg_Mod_88 (hF : zF p s m args c cc nL R_Mod D K M A) (q0 : Nat) {a : Nat} {fs : List Value} {v : Value} (he : ws[q0]? = some (a, .inr (11, fs))) (hv : fs[33]? = some v) (hdg : decode cc pc = .ok (.getfield 88, 3)) (k : zW p l e R s m args below meth c D A cells slots Q nL ws lv (pc + 3) (v :: rest)) : zW p l e R s m args below meth c D A cells slots Q nL ws lv pc (.ref a :: rest) := zx_get hF (C := R_Mod) (T := F_Mod) (N := 38) wu_Mod q0 he rfl 33 (by decide) wf_Mod_88 hv hdg k
theorem zg_Mod_91 (hF : zF p s m args c cc nL R_Mod D K M A) (q0 : Nat) {a : Nat} {fs : List Value} {v : Value} (he : ws[q0]? = some (a, .inr (11, fs))) (hv : fs[34]? = some v) (hdg : decode cc pc = .ok (.getfield 91, 3)) (k : zW p l e R s m args below meth c D A cells slots Q nL ws lv (pc + 3) (v :: rest)) : zW p l e R s m args below meth c D A cells slots Q nL ws lv pc (.ref a :: rest) := zx_get hF (C := R_Mod) (T := F_Mod) (N := 38) wu_Mod q0 he rfl 34 (by decide) wf_Mod_91 hv hdg k
theorem zp_Mod_148 (hF : zF p s m args c cc nL R_Mod D K M A) (q0 : Nat) {a : Nat} {fs : List Value} {x : Int32} (he : ws[q0]? = some (a, .inr (11, fs))) (hz : x = 0 ∨ x = 1) (hl : 29 < fs.length) (hdg : decode cc pc = .ok (.putfield 148, 3)) {ws' : va_W} (hw : ws.set q0 (a, .inr (11, fs.set 29 (.int x))) = ws') (k : zW p l e R s m args below meth c D A cells slots Q nL ws' lv (pc + 3) rest) : zW p l e R s m args below meth c D A cells slots Q nL ws lv pc ((.int x) :: .ref a :: rest) := zx_put hF (C := R_Mod) (T := F_Mod) (N := 38) wu_Mod q0 he rfl 29 (by decide) wf_Mod_148 t_Mod t_Mod_ok n_Mod rfl (t_Mod_ok 29 (by decide)) (zbool hz).1 (zbool hz).2 hl hdg hw k
end ZG
theorem hd_Mod_digestOf : y_Mod_digestOf.cls = R_Mod ∧ y_Mod_digestOf.cls ≠ "java/lang/invoke/MethodHandle" ∧ y_Mod_digestOf.cls ≠ "java/lang/invoke/VarHandle" ∧ (parseMethodDescriptor y_Mod_digestOf.desc).map (fun d => d.parameters.length) = some 1 := by decide +kernel
theorem hd_Mod_halves : y_Mod_halves.cls = R_Mod ∧ y_Mod_halves.cls ≠ "java/lang/invoke/MethodHandle" ∧ y_Mod_halves.cls ≠ "java/lang/invoke/VarHandle" ∧ (parseMethodDescriptor y_Mod_halves.desc).map (fun d => d.parameters.length) = some 1 := by decide +kernel
theorem hd_Mod_fold : y_Mod_fold.cls = R_Mod ∧ y_Mod_fold.cls ≠ "java/lang/invoke/MethodHandle" ∧ y_Mod_fold.cls ≠ "java/lang/invoke/VarHandle" ∧ (parseMethodDescriptor y_Mod_fold.desc).map (fun d => d.parameters.length) = some 1 := by decide +kernel
theorem hd_Mod_turned : y_Mod_turned.cls = R_Mod ∧ y_Mod_turned.cls ≠ "java/lang/invoke/MethodHandle" ∧ y_Mod_turned.cls ≠ "java/lang/invoke/VarHandle" ∧ (parseMethodDescriptor y_Mod_turned.desc).map (fun d => d.parameters.length) = some 2 := by decide +kernel
theorem hd_Mod_mix : y_Mod_mix.cls = R_Mod ∧ y_Mod_mix.cls ≠ "java/lang/invoke/MethodHandle" ∧ y_Mod_mix.cls ≠ "java/lang/invoke/VarHandle" ∧ (parseMethodDescriptor y_Mod_mix.desc).map (fun d => d.parameters.length) = some 4 := by decide +kernel
theorem hd_Mod_rounds : y_Mod_rounds.cls = R_Mod ∧ y_Mod_rounds.cls ≠ "java/lang/invoke/MethodHandle" ∧ y_Mod_rounds.cls ≠ "java/lang/invoke/VarHandle" ∧ (parseMethodDescriptor y_Mod_rounds.desc).map (fun d => d.parameters.length) = some 1 := by decide +kernel
theorem hd_Mod_takeIn : y_Mod_takeIn.cls = R_Mod ∧ y_Mod_takeIn.cls ≠ "java/lang/invoke/MethodHandle" ∧ y_Mod_takeIn.cls ≠ "java/lang/invoke/VarHandle" ∧ (parseMethodDescriptor y_Mod_takeIn.desc).map (fun d => d.parameters.length) = some 1 := by decide +kernel
theorem cw_Mod_124 {R : Room} {s : State} {args : Array Value} {rm : Room} (ht : ∀ w ∈ zAll, w.before args s = true) (h1 : rm.cells = 0) (h2 : rm.slots = 0) (hR : rm.frames + 1 ≤ R.frames ∧ 8 + (3 + 11) + rm.locals ≤ R.locals) : CallW R s args R_Mod R_Mod 124 y_Mod_digestOf b_Mod_digestOf 3 (some .long) (zT y_Mod_digestOf b_Mod_digestOf 3 (some .long)) rm 0 0 1 := zcV ht wb_Mod_digestOf wm_Mod_124 wi_Mod_digestOf we_Mod_digestOf wz_Mod h1 h2 hd_Mod_digestOf hR
theorem cw_Mod_140 {R : Room} {s : State} {args : Array Value} {rm : Room} (ht : ∀ w ∈ zAll, w.before args s = true) (h1 : rm.cells = 0) (h2 : rm.slots = 0) (hR : rm.frames + 1 ≤ R.frames ∧ 8 + (3 + 11) + rm.locals ≤ R.locals) : CallB R s args R_Mod 140 y_Mod_halves b_Mod_halves 3 (some .int) (zT y_Mod_halves b_Mod_halves 3 (some .int)) rm 0 0 1 ∧ (Cond.static y_Mod_halves).before args s = true := ⟨zcB ht wb_Mod_halves (ht _ wm_Mod_140) wz_Mod h1 h2 hd_Mod_halves.2 hR, ht _ wt_Mod_halves⟩
theorem cw_Mod_144 {R : Room} {s : State} {args : Array Value} {rm : Room} (ht : ∀ w ∈ zAll, w.before args s = true) (h1 : rm.cells = 0) (h2 : rm.slots = 0) (hR : rm.frames + 1 ≤ R.frames ∧ 8 + (3 + 11) + rm.locals ≤ R.locals) : CallB R s args R_Mod 144 y_Mod_fold b_Mod_fold 3 (some .int) (zT y_Mod_fold b_Mod_fold 3 (some .int)) rm 0 0 1 ∧ (Cond.static y_Mod_fold).before args s = true := ⟨zcB ht wb_Mod_fold (ht _ wm_Mod_144) wz_Mod h1 h2 hd_Mod_fold.2 hR, ht _ wt_Mod_fold⟩
theorem cw_Mod_152 {R : Room} {s : State} {args : Array Value} {rm : Room} (ht : ∀ w ∈ zAll, w.before args s = true) (h1 : rm.cells = 0) (h2 : rm.slots = 0) (hR : rm.frames + 1 ≤ R.frames ∧ 8 + (6 + 11) + rm.locals ≤ R.locals) : CallB R s args R_Mod 152 y_Mod_turned b_Mod_turned 6 (some .long) (zT y_Mod_turned b_Mod_turned 6 (some .long)) rm 0 0 2 ∧ (Cond.static y_Mod_turned).before args s = true := ⟨zcB ht wb_Mod_turned (ht _ wm_Mod_152) wz_Mod h1 h2 hd_Mod_turned.2 hR, ht _ wt_Mod_turned⟩
theorem cw_Mod_156 {R : Room} {s : State} {args : Array Value} {rm : Room} (ht : ∀ w ∈ zAll, w.before args s = true) (h1 : rm.cells = 0) (h2 : rm.slots = 0) (hR : rm.frames + 1 ≤ R.frames ∧ 8 + (5 + 11) + rm.locals ≤ R.locals) : CallW R s args R_Mod R_Mod 156 y_Mod_mix b_Mod_mix 5 none (zT y_Mod_mix b_Mod_mix 5 none) rm 0 0 4 := zcV ht wb_Mod_mix wm_Mod_156 wi_Mod_mix we_Mod_mix wz_Mod h1 h2 hd_Mod_mix hR
theorem cw_Mod_160 {R : Room} {s : State} {args : Array Value} {rm : Room} (ht : ∀ w ∈ zAll, w.before args s = true) (h1 : rm.cells = 0) (h2 : rm.slots = 0) (hR : rm.frames + 1 ≤ R.frames ∧ 8 + (3 + 11) + rm.locals ≤ R.locals) : CallW R s args R_Mod R_Mod 160 y_Mod_rounds b_Mod_rounds 3 none (zT y_Mod_rounds b_Mod_rounds 3 none) rm 0 0 1 := zcV ht wb_Mod_rounds wm_Mod_160 wi_Mod_rounds we_Mod_rounds wz_Mod h1 h2 hd_Mod_rounds hR
theorem cw_Mod_172 {R : Room} {s : State} {args : Array Value} {rm : Room} (ht : ∀ w ∈ zAll, w.before args s = true) (h1 : rm.cells = 0) (h2 : rm.slots = 0) (hR : rm.frames + 1 ≤ R.frames ∧ 8 + (3 + 11) + rm.locals ≤ R.locals) : CallW R s args R_Mod R_Mod 172 y_Mod_takeIn b_Mod_takeIn 3 none (zT y_Mod_takeIn b_Mod_takeIn 3 none) rm 0 0 1 := zcV ht wb_Mod_takeIn wm_Mod_172 wi_Mod_takeIn we_Mod_takeIn wz_Mod h1 h2 hd_Mod_takeIn hR
end
section
def f_within (v lo hi : Int32) : Int32 := if lo ≤ v then (if v ≤ hi then v else hi) else lo
def f_prm (N : Nat) : Nat → Nat → Int32
  | 0, _ => 1
  | k + 1, d => if N % d = 0 then 0 else f_prm N k (d + 1)
def f_half (x : Int64) : Int64 := x / 65536 / 65536
def f_rst (x : Int64) : Int64 := x - x / 65536 / 65536 * 65536 * 65536
def f_upper (x : Int64) : Int64 := if 0 ≤ lg_cmp (f_rst x) 0 then (if 0 ≤ lg_cmp (f_half x) 0 then f_half x else f_half x + 4294967296) else (if 0 ≤ lg_cmp (f_half x - 1) 0 then f_half x - 1 else f_half x - 1 + 4294967296)
def f_lrem (x y : Int64) : Int64 := x - x / y * y
def f_lower (x : Int64) : Int64 := if 0 ≤ lg_cmp (f_lrem x 4294967296) 0 then f_lrem x 4294967296 else f_lrem x 4294967296 + 4294967296
def g_halves (w : Int32) : Int32 := (w &&& 65535) + ((w >>> ((16 : Int32) &&& 31)) &&& 65535)
def g_fold1 (t : Int32) : Int32 := f_rem t 65536 + t / 65536
def g_fold : Nat → Int32 → Int32
  | 0, t => t
  | k + 1, t => if t ≤ 65535 then t else g_fold k (g_fold1 t)
def g_cks (w0 w1 w2 w3 w4 : Int32) : Int32 := 65535 - g_fold 20 (g_halves w0 + g_halves w1 + ((w2 >>> ((16 : Int32) &&& 31)) &&& 65535) + g_halves w3 + g_halves w4)
def g_all (w0 w1 w2 w3 w4 : Int32) : Int32 := g_fold 20 (g_halves w0 + g_halves w1 + g_halves w2 + g_halves w3 + g_halves w4)
def g_hd (w0 w1 w2 w3 w4 : Int32) : Int32 :=
  if (w0 >>> ((24 : Int32) &&& 31)) &&& 255 = 69 then
    if g_all w0 w1 w2 w3 w4 = 65535 then
      if w0 &&& 65535 < 40 then 3 else if w0 &&& 65535 ≤ 1480 then
        if f_rem w1 16384 = 0 then
          if (w2 >>> ((24 : Int32) &&& 31)) &&& 255 = 0 then 5 else
            if (w2 >>> ((16 : Int32) &&& 31)) &&& 255 = 6 then
              if w4 = 167772161 then 0 else 7
            else 6
        else 4
      else 3
    else 2
  else 1
def g_dbl (y : Int64) : Int64 := if 0 ≤ lg_cmp y 0 then y + y else y + y + 1
def g_turn : Nat → Int64 → Int64
  | 0, y => y
  | k + 1, y => g_turn k (g_dbl y)
def g_mix (a b n m : Nat) (w : Nat → Int64) : Nat → Int64 := vp_updL (vp_updL (vp_updL (vp_updL w a (w a + w b)) b (g_turn n (vp_updL w a (w a + w b) b))) b (g_turn n (vp_updL w a (w a + w b) b) ^^^ vp_updL (vp_updL w a (w a + w b)) b (g_turn n (vp_updL w a (w a + w b) b)) a)) a (g_turn m (vp_updL (vp_updL (vp_updL w a (w a + w b)) b (g_turn n (vp_updL w a (w a + w b) b))) b (g_turn n (vp_updL w a (w a + w b) b) ^^^ vp_updL (vp_updL w a (w a + w b)) b (g_turn n (vp_updL w a (w a + w b) b)) a) a))
def g_round (w : Nat → Int64) : Nat → Int64 := g_mix 2 1 17 32 (g_mix 0 3 21 0 (g_mix 2 3 16 0 (g_mix 0 1 13 32 w)))
def g_iter : Nat → (Nat → Int64) → Nat → Int64
  | 0, w => w
  | k + 1, w => g_iter k (g_round w)
def g_in (y : Int64) (w : Nat → Int64) : Nat → Int64 := vp_updL (g_iter 2 (vp_updL w 3 (w 3 ^^^ y))) 0 (g_iter 2 (vp_updL w 3 (w 3 ^^^ y)) 0 ^^^ y)
def g_ini (k0 k1 : Int64) (w : Nat → Int64) : Nat → Int64 := vp_updL (vp_updL (vp_updL (vp_updL w 0 (k0 ^^^ 8317987319222330741)) 1 (k1 ^^^ 7237128888997146477)) 2 (k0 ^^^ 7816392313619706465)) 3 (k1 ^^^ 8387220255154660723)
def g_mid (k0 k1 x : Int64) (w : Nat → Int64) : Nat → Int64 := g_in 576460752303423488 (g_in x (g_ini k0 k1 w))
def g_end (k0 k1 x : Int64) (w : Nat → Int64) : Nat → Int64 := g_iter 4 (vp_updL (g_mid k0 k1 x w) 2 (g_mid k0 k1 x w 2 ^^^ 255))
def g_dig (k0 k1 x : Int64) (w : Nat → Int64) : Int64 := g_end k0 k1 x w 0 ^^^ g_end k0 k1 x w 1 ^^^ g_end k0 k1 x w 2 ^^^ g_end k0 k1 x w 3
def g_join (s p : Int32) : Int64 := Int32.toInt64 s * 4294967296 + (if 0 ≤ p then Int32.toInt64 p else Int32.toInt64 p + 4294967296)
def g_kept (w0 w1 w2 w3 w4 kpt : Int32) : Int32 := if g_hd w0 w1 w2 w3 w4 = 0 then 1 else kpt
def g_head (w0 w1 w2 w3 w4 : Int32) (hd : Nat → Int32) : Nat → Int32 := if g_hd w0 w1 w2 w3 w4 = 0 then upd (upd (upd (upd (upd hd 0 w0) 1 w1) 2 w2) 3 w3) 4 w4 else hd
def g_is (b : Int32) (n : Nat) : Int32 := if b < 0 then 0 else if nI n ≤ b then 0 else 1
end
section
set_option maxRecDepth 20000 in
theorem M_Mod_within (l : Launch) (D : va_G) (K : Nat → ClassId) (M : List (ClassId × FieldType)) (v : Int32) (lo : Int32) (hi : Int32) (sz : Nat) : zM l y_Mod_within (zT y_Mod_within b_Mod_within 3 (some .int)) (zR 0 0) 0 0 D K M [.int v, .int lo, .int hi] [] sz (zQi D K M (f_within v lo hi) []) := by
  refine zx_head (by decide) (Nat.le_of_ble_eq_true rfl) ?_
  intro _ _ _ _ _ _ _ _ _ hF hr hlk hnm
  refine zx_iload_n (pc := 0) hF d_Mod_within_0 rfl 0 rfl ?_
  refine zx_iload_n (pc := 1) hF d_Mod_within_1 rfl 1 rfl ?_
  refine zx_icmp_ge (pc := 2) hF d_Mod_within_2 (tgt := 9) rfl (fun h2 => ?_) (fun h2 => ?_)
  · refine zx_iload_n (pc := 9) hF d_Mod_within_9 rfl 0 rfl ?_
    refine zx_iload_n (pc := 10) hF d_Mod_within_10 rfl 2 rfl ?_
    refine zx_icmp_le (pc := 11) hF d_Mod_within_11 (tgt := 18) rfl (fun h11 => ?_) (fun h11 => ?_)
    · refine zx_iload_n (pc := 18) hF d_Mod_within_18 rfl 0 rfl ?_
      exact zx_iret (pc := 19) hF hr hlk (by first | with_reducible rfl | (simp only [f_within, if_pos h2, if_pos h11]; done) | (simp only [f_within, h2, h11, ↓reduceIte]; done) | simp [f_within, h2, h11]) (by first | with_reducible rfl | (simp only [f_within, if_pos h2, if_pos h11]; done) | (simp only [f_within, h2, h11, ↓reduceIte]; done) | simp [f_within, h2, h11]) d_Mod_within_19
    · refine zx_iload_n (pc := 14) hF d_Mod_within_14 rfl 2 rfl ?_
      refine zx_goto (pc := 15) hF d_Mod_within_15 (tgt := 19) rfl ?_
      exact zx_iret (pc := 19) hF hr hlk (by first | with_reducible rfl | (simp only [f_within, if_pos h2, if_neg h11]; done) | (simp only [f_within, h2, h11, ↓reduceIte]; done) | simp [f_within, h2, h11]) (by first | with_reducible rfl | (simp only [f_within, if_pos h2, if_neg h11]; done) | (simp only [f_within, h2, h11, ↓reduceIte]; done) | simp [f_within, h2, h11]) d_Mod_within_19
  · refine zx_iload_n (pc := 5) hF d_Mod_within_5 rfl 1 rfl ?_
    refine zx_goto (pc := 6) hF d_Mod_within_6 (tgt := 19) rfl ?_
    exact zx_iret (pc := 19) hF hr hlk (by first | with_reducible rfl | (simp only [f_within, if_neg h2]; done) | (simp only [f_within, h2, ↓reduceIte]; done) | simp [f_within, h2]) (by first | with_reducible rfl | (simp only [f_within, if_neg h2]; done) | (simp only [f_within, h2, ↓reduceIte]; done) | simp [f_within, h2]) d_Mod_within_19
set_option maxRecDepth 20000 in
theorem M_Mod_prime (l : Launch) (D : va_G) (K : Nat → ClassId) (M : List (ClassId × FieldType)) (N : Nat) (hN : N < 2 ^ 30) (sz : Nat) : zM l y_Mod_prime (zT y_Mod_prime b_Mod_prime 2 (some .boolean)) (zR 0 0) 0 0 D K M [.int (nI N)] [] sz (zQi D K M (f_prm N (N - 2) 2) []) := by
  refine zx_head (by decide) (Nat.le_of_ble_eq_true rfl) ?_
  intro _ _ _ _ _ _ _ _ _ hF hr hlk hnm
  refine zx_iconst (pc := 0) hF d_Mod_prime_0 k_i2 ?_
  refine zx_istore_n (pc := 1) hF (lv' := [(1, .int 2), (0, .int (nI N))]) d_Mod_prime_1 rfl (by decide) rfl ?_
  refine zx_lv [1, 0] (lv' := [(0, .int (nI N)), (1, .int 2)]) rfl ?_
  refine zx_loop (pc := 2) (σ := Nat) (fun k zv => (k = N - zv) ∧ (2 ≤ zv ∧ zv ≤ N + 2) ∧ (f_prm N k zv = f_prm N (N - 2) 2)) (fun zv => []) (fun zv => [(0, .int (nI N)), (1, .int (nI zv))]) (N - 2) 2 ⟨rfl, by (try dsimp only); omega, rfl⟩ rfl rfl ?_
  intro k d hI ih
  obtain ⟨hk, hd, hX⟩ := hI
  replace hk : k = N - d := hk
  replace hd : 2 ≤ d ∧ d ≤ N + 2 := hd
  replace hX : f_prm N k d = f_prm N (N - 2) 2 := hX
  refine zx_eq (ws' := []) (lv' := [(0, .int (nI N)), (1, .int (nI d))]) rfl rfl rfl ?_
  refine zx_iload_n (pc := 2) hF d_Mod_prime_2 rfl 1 rfl ?_
  refine zx_iload_n (pc := 3) hF d_Mod_prime_3 rfl 0 rfl ?_
  refine zx_icmp_ge (pc := 4) hF d_Mod_prime_4 (tgt := 21) rfl (fun h4 => ?_) (fun h4 => ?_)
  · replace h4 : N ≤ d := (nI_leI (a := N) (b := d) (by omega) (by omega)).mp h4
    refine zx_iconst (pc := 21) hF d_Mod_prime_21 k_i1 ?_
    exact zx_zret (pc := 22) hF hr hlk rfl (by obtain rfl : k = 0 := (by omega); exact hX) rfl d_Mod_prime_22
  · replace h4 : ¬ N ≤ d := fun z => h4 ((nI_leI (a := N) (b := d) (by omega) (by omega)).mpr z)
    refine zx_iload_n (pc := 7) hF d_Mod_prime_7 rfl 0 rfl ?_
    refine zx_iload_n (pc := 8) hF d_Mod_prime_8 rfl 1 rfl ?_
    refine zx_irem (pc := 9) hF d_Mod_prime_9 (nI_ne0 (by omega) (by omega)) ?_
    refine zx_topi (nI (N % d)) (pk_rem (a := N) (d := d) (by omega) (by omega) (by omega)) ?_
    refine zx_if_ne (pc := 10) hF d_Mod_prime_10 (tgt := 15) rfl (fun h10 => ?_) (fun h10 => ?_)
    · replace h10 : ¬ (N % d) = 0 := fun z => h10 ((nI_eq (a := N % d) (b := 0) (Nat.lt_of_le_of_lt (Nat.mod_le _ _) (by omega)) (by omega)).mpr z)
      refine zx_iinc (pc := 15) hF (v := nI (d + 1)) (lv' := [(1, .int (nI (d + 1))), (0, .int (nI N))]) d_Mod_prime_15 1 rfl (zinc d) (by decide) rfl ?_
      refine zx_goto (pc := 18) hF d_Mod_prime_18 (tgt := 2) rfl ?_
      refine zx_lv [1, 0] (lv' := [(0, .int (nI N)), (1, .int (nI (d + 1)))]) rfl ?_
      exact ih (k - 1) (d + 1) (by omega) ⟨by (try dsimp only); omega, by (try dsimp only); omega, by obtain ⟨k', rfl⟩ : ∃ k', k = k' + 1 := ⟨k - 1, by omega⟩; simpa [f_prm, h10] using hX⟩
    · replace h10 : (N % d) = 0 := (nI_eq (a := N % d) (b := 0) (Nat.lt_of_le_of_lt (Nat.mod_le _ _) (by omega)) (by omega)).mp h10
      refine zx_iconst (pc := 13) hF d_Mod_prime_13 k_i0 ?_
      exact zx_zret (pc := 14) hF hr hlk rfl (by obtain ⟨k', rfl⟩ : ∃ k', k = k' + 1 := ⟨k - 1, by omega⟩; simpa [f_prm, h10] using hX) rfl d_Mod_prime_14
set_option maxRecDepth 20000 in
theorem M_Mod_upper (l : Launch) (D : va_G) (K : Nat → ClassId) (M : List (ClassId × FieldType)) (x : Int64) (sz : Nat) : zM l y_Mod_upper (zT y_Mod_upper b_Mod_upper 8 (some .long)) (zR 0 0) 0 0 D K M [.long x] [] sz (zQl D K M (f_upper x) []) := by
  refine zx_head (by decide) (Nat.le_of_ble_eq_true rfl) ?_
  intro _ _ _ _ _ _ _ _ _ hF hr hlk hnm
  refine zx_lload_n (pc := 0) hF d_Mod_upper_0 rfl 0 rfl ?_
  refine zx_ldc2 (pc := 1) hF wk_Mod_134 d_Mod_upper_1 ?_
  refine zx_ldiv (pc := 4) hF d_Mod_upper_4 (by decide) ?_
  refine zx_ldc2 (pc := 5) hF wk_Mod_134 d_Mod_upper_5 ?_
  refine zx_ldiv (pc := 8) hF d_Mod_upper_8 (by decide) ?_
  refine zx_lstore_n (pc := 9) hF (lv' := [(2, .long ((x / 65536) / 65536)), (0, .long x)]) d_Mod_upper_9 rfl (by decide) rfl ?_
  refine zx_lload_n (pc := 10) hF d_Mod_upper_10 rfl 1 rfl ?_
  refine zx_lload_n (pc := 11) hF d_Mod_upper_11 rfl 0 rfl ?_
  refine zx_ldc2 (pc := 12) hF wk_Mod_134 d_Mod_upper_12 ?_
  refine zx_lmul (pc := 15) hF d_Mod_upper_15 ?_
  refine zx_ldc2 (pc := 16) hF wk_Mod_134 d_Mod_upper_16 ?_
  refine zx_lmul (pc := 19) hF d_Mod_upper_19 ?_
  refine zx_lsub (pc := 20) hF d_Mod_upper_20 ?_
  refine zx_lstore (pc := 21) hF (lv' := [(4, .long (x - ((((x / 65536) / 65536) * 65536) * 65536))), (2, .long ((x / 65536) / 65536)), (0, .long x)]) d_Mod_upper_21 (by decide) rfl ?_
  refine zx_lload (pc := 23) hF d_Mod_upper_23 0 rfl ?_
  refine zx_lconst (pc := 25) hF d_Mod_upper_25 k_l0 ?_
  refine zx_lcmp (pc := 26) hF d_Mod_upper_26 ?_
  refine zx_if_ge (pc := 27) hF d_Mod_upper_27 (tgt := 36) rfl (fun h27 => ?_) (fun h27 => ?_)
  · refine zx_lload_n (pc := 36) hF d_Mod_upper_36 rfl 1 rfl ?_
    refine zx_lstore (pc := 37) hF (lv' := [(6, .long ((x / 65536) / 65536)), (4, .long (x - ((((x / 65536) / 65536) * 65536) * 65536))), (2, .long ((x / 65536) / 65536)), (0, .long x)]) d_Mod_upper_37 (by decide) rfl ?_
    refine zx_lload (pc := 39) hF d_Mod_upper_39 0 rfl ?_
    refine zx_lconst (pc := 41) hF d_Mod_upper_41 k_l0 ?_
    refine zx_lcmp (pc := 42) hF d_Mod_upper_42 ?_
    refine zx_if_ge (pc := 43) hF d_Mod_upper_43 (tgt := 55) rfl (fun h43 => ?_) (fun h43 => ?_)
    · refine zx_lload (pc := 55) hF d_Mod_upper_55 0 rfl ?_
      exact zx_lret (pc := 57) hF hr hlk (by first | with_reducible rfl | (simp only [f_upper, f_half, f_rst, if_pos h27, if_pos h43]; done) | (simp only [f_upper, f_half, f_rst, h27, h43, ↓reduceIte]; done) | simp [f_upper, f_half, f_rst, h27, h43]) (by first | with_reducible rfl | (simp only [f_upper, f_half, f_rst, if_pos h27, if_pos h43]; done) | (simp only [f_upper, f_half, f_rst, h27, h43, ↓reduceIte]; done) | simp [f_upper, f_half, f_rst, h27, h43]) d_Mod_upper_57
    · refine zx_lload (pc := 46) hF d_Mod_upper_46 0 rfl ?_
      refine zx_ldc2 (pc := 48) hF wk_Mod_136 d_Mod_upper_48 ?_
      refine zx_ladd (pc := 51) hF d_Mod_upper_51 ?_
      refine zx_goto (pc := 52) hF d_Mod_upper_52 (tgt := 57) rfl ?_
      exact zx_lret (pc := 57) hF hr hlk (by first | with_reducible rfl | (simp only [f_upper, f_half, f_rst, if_pos h27, if_neg h43]; done) | (simp only [f_upper, f_half, f_rst, h27, h43, ↓reduceIte]; done) | simp [f_upper, f_half, f_rst, h27, h43]) (by first | with_reducible rfl | (simp only [f_upper, f_half, f_rst, if_pos h27, if_neg h43]; done) | (simp only [f_upper, f_half, f_rst, h27, h43, ↓reduceIte]; done) | simp [f_upper, f_half, f_rst, h27, h43]) d_Mod_upper_57
  · refine zx_lload_n (pc := 30) hF d_Mod_upper_30 rfl 1 rfl ?_
    refine zx_lconst (pc := 31) hF d_Mod_upper_31 k_l1 ?_
    refine zx_lsub (pc := 32) hF d_Mod_upper_32 ?_
    refine zx_goto (pc := 33) hF d_Mod_upper_33 (tgt := 37) rfl ?_
    refine zx_lstore (pc := 37) hF (lv' := [(6, .long (((x / 65536) / 65536) - 1)), (4, .long (x - ((((x / 65536) / 65536) * 65536) * 65536))), (2, .long ((x / 65536) / 65536)), (0, .long x)]) d_Mod_upper_37 (by decide) rfl ?_
    refine zx_lload (pc := 39) hF d_Mod_upper_39 0 rfl ?_
    refine zx_lconst (pc := 41) hF d_Mod_upper_41 k_l0 ?_
    refine zx_lcmp (pc := 42) hF d_Mod_upper_42 ?_
    refine zx_if_ge (pc := 43) hF d_Mod_upper_43 (tgt := 55) rfl (fun h43 => ?_) (fun h43 => ?_)
    · refine zx_lload (pc := 55) hF d_Mod_upper_55 0 rfl ?_
      exact zx_lret (pc := 57) hF hr hlk (by first | with_reducible rfl | (simp only [f_upper, f_half, f_rst, if_neg h27, if_pos h43]; done) | (simp only [f_upper, f_half, f_rst, h27, h43, ↓reduceIte]; done) | simp [f_upper, f_half, f_rst, h27, h43]) (by first | with_reducible rfl | (simp only [f_upper, f_half, f_rst, if_neg h27, if_pos h43]; done) | (simp only [f_upper, f_half, f_rst, h27, h43, ↓reduceIte]; done) | simp [f_upper, f_half, f_rst, h27, h43]) d_Mod_upper_57
    · refine zx_lload (pc := 46) hF d_Mod_upper_46 0 rfl ?_
      refine zx_ldc2 (pc := 48) hF wk_Mod_136 d_Mod_upper_48 ?_
      refine zx_ladd (pc := 51) hF d_Mod_upper_51 ?_
      refine zx_goto (pc := 52) hF d_Mod_upper_52 (tgt := 57) rfl ?_
      exact zx_lret (pc := 57) hF hr hlk (by first | with_reducible rfl | (simp only [f_upper, f_half, f_rst, if_neg h27, if_neg h43]; done) | (simp only [f_upper, f_half, f_rst, h27, h43, ↓reduceIte]; done) | simp [f_upper, f_half, f_rst, h27, h43]) (by first | with_reducible rfl | (simp only [f_upper, f_half, f_rst, if_neg h27, if_neg h43]; done) | (simp only [f_upper, f_half, f_rst, h27, h43, ↓reduceIte]; done) | simp [f_upper, f_half, f_rst, h27, h43]) d_Mod_upper_57
set_option maxRecDepth 20000 in
theorem M_Mod_lower (l : Launch) (D : va_G) (K : Nat → ClassId) (M : List (ClassId × FieldType)) (x : Int64) (sz : Nat) : zM l y_Mod_lower (zT y_Mod_lower b_Mod_lower 4 (some .long)) (zR 0 0) 0 0 D K M [.long x] [] sz (zQl D K M (f_lower x) []) := by
  refine zx_head (by decide) (Nat.le_of_ble_eq_true rfl) ?_
  intro _ _ _ _ _ _ _ _ _ hF hr hlk hnm
  refine zx_lload_n (pc := 0) hF d_Mod_lower_0 rfl 0 rfl ?_
  refine zx_ldc2 (pc := 1) hF wk_Mod_136 d_Mod_lower_1 ?_
  refine zx_lrem (pc := 4) hF d_Mod_lower_4 (by decide) ?_
  refine zx_lstore_n (pc := 5) hF (lv' := [(2, .long (x - x / 4294967296 * 4294967296)), (0, .long x)]) d_Mod_lower_5 rfl (by decide) rfl ?_
  refine zx_lload_n (pc := 6) hF d_Mod_lower_6 rfl 0 rfl ?_
  refine zx_lconst (pc := 7) hF d_Mod_lower_7 k_l0 ?_
  refine zx_lcmp (pc := 8) hF d_Mod_lower_8 ?_
  refine zx_if_ge (pc := 9) hF d_Mod_lower_9 (tgt := 20) rfl (fun h9 => ?_) (fun h9 => ?_)
  · refine zx_lload_n (pc := 20) hF d_Mod_lower_20 rfl 0 rfl ?_
    exact zx_lret (pc := 21) hF hr hlk (by first | with_reducible rfl | (simp only [f_lower, f_lrem, if_pos h9]; done) | (simp only [f_lower, f_lrem, h9, ↓reduceIte]; done) | simp [f_lower, f_lrem, h9]) (by first | with_reducible rfl | (simp only [f_lower, f_lrem, if_pos h9]; done) | (simp only [f_lower, f_lrem, h9, ↓reduceIte]; done) | simp [f_lower, f_lrem, h9]) d_Mod_lower_21
  · refine zx_lload_n (pc := 12) hF d_Mod_lower_12 rfl 0 rfl ?_
    refine zx_ldc2 (pc := 13) hF wk_Mod_136 d_Mod_lower_13 ?_
    refine zx_ladd (pc := 16) hF d_Mod_lower_16 ?_
    refine zx_goto (pc := 17) hF d_Mod_lower_17 (tgt := 21) rfl ?_
    exact zx_lret (pc := 21) hF hr hlk (by first | with_reducible rfl | (simp only [f_lower, f_lrem, if_neg h9]; done) | (simp only [f_lower, f_lrem, h9, ↓reduceIte]; done) | simp [f_lower, f_lrem, h9]) (by first | with_reducible rfl | (simp only [f_lower, f_lrem, if_neg h9]; done) | (simp only [f_lower, f_lrem, h9, ↓reduceIte]; done) | simp [f_lower, f_lrem, h9]) d_Mod_lower_21
set_option maxRecDepth 20000 in
theorem M_Mod_halves (l : Launch) (D : va_G) (K : Nat → ClassId) (M : List (ClassId × FieldType)) (w : Int32) (sz : Nat) : zM l y_Mod_halves (zT y_Mod_halves b_Mod_halves 3 (some .int)) (zR 0 0) 0 0 D K M [.int w] [] sz (zQi D K M (g_halves w) []) := by
  refine zx_head (by decide) (Nat.le_of_ble_eq_true rfl) ?_
  intro _ _ _ _ _ _ _ _ _ hF hr hlk hnm
  refine zx_iload_n (pc := 0) hF d_Mod_halves_0 rfl 0 rfl ?_
  refine zx_ldc (pc := 1) hF wk_Mod_138 d_Mod_halves_1 ?_
  refine zx_iand (pc := 3) hF d_Mod_halves_3 ?_
  refine zx_istore_n (pc := 4) hF (lv' := [(1, .int (w &&& 65535)), (0, .int w)]) d_Mod_halves_4 rfl (by decide) rfl ?_
  refine zx_iload_n (pc := 5) hF d_Mod_halves_5 rfl 1 rfl ?_
  refine zx_bipush (pc := 6) hF d_Mod_halves_6 k_b16 ?_
  refine zx_ishr (pc := 8) hF d_Mod_halves_8 ?_
  refine zx_ldc (pc := 9) hF wk_Mod_138 d_Mod_halves_9 ?_
  refine zx_iand (pc := 11) hF d_Mod_halves_11 ?_
  refine zx_istore_n (pc := 12) hF (lv' := [(2, .int ((w >>> (16 &&& 31)) &&& 65535)), (1, .int (w &&& 65535)), (0, .int w)]) d_Mod_halves_12 rfl (by decide) rfl ?_
  refine zx_iload_n (pc := 13) hF d_Mod_halves_13 rfl 1 rfl ?_
  refine zx_iload_n (pc := 14) hF d_Mod_halves_14 rfl 0 rfl ?_
  refine zx_iadd (pc := 15) hF d_Mod_halves_15 ?_
  exact zx_iret (pc := 16) hF hr hlk (by first | rfl | (simp only []; done) | (simp only [↓reduceIte]; done) | simp []) (by first | rfl | (simp only []; done) | (simp only [↓reduceIte]; done) | simp []) d_Mod_halves_16
set_option maxRecDepth 20000 in
theorem M_Mod_fold (l : Launch) (D : va_G) (K : Nat → ClassId) (M : List (ClassId × FieldType)) (t0 : Int32) (sz : Nat) : zM l y_Mod_fold (zT y_Mod_fold b_Mod_fold 3 (some .int)) (zR 0 0) 0 0 D K M [.int t0] [] sz (zQi D K M (g_fold 20 t0) []) := by
  refine zx_head (by decide) (Nat.le_of_ble_eq_true rfl) ?_
  intro _ _ _ _ _ _ _ _ _ hF hr hlk hnm
  refine zx_iload_n (pc := 0) hF d_Mod_fold_0 rfl 0 rfl ?_
  refine zx_istore_n (pc := 1) hF (lv' := [(1, .int t0), (0, .int t0)]) d_Mod_fold_1 rfl (by decide) rfl ?_
  refine zx_iconst (pc := 2) hF d_Mod_fold_2 k_i0 ?_
  refine zx_istore_n (pc := 3) hF (lv' := [(2, .int 0), (1, .int t0), (0, .int t0)]) d_Mod_fold_3 rfl (by decide) rfl ?_
  refine zx_lv [2, 1, 0] (lv' := [(0, .int t0), (1, .int t0), (2, .int 0)]) rfl ?_
  refine zx_loop (pc := 4) (σ := Nat × Int32) (fun k zv => (zv.1 + k = 20) ∧ (g_fold k zv.2 = g_fold 20 t0)) (fun zv => []) (fun zv => [(0, .int t0), (1, .int zv.2), (2, .int (nI zv.1))]) 20 (0, t0) ⟨rfl, rfl⟩ rfl rfl ?_
  intro k zv hI ih
  obtain ⟨j, t⟩ := zv
  obtain ⟨hk, hX⟩ := hI
  replace hk : j + k = 20 := hk
  replace hX : g_fold k t = g_fold 20 t0 := hX
  refine zx_eq (ws' := []) (lv' := [(0, .int t0), (1, .int t), (2, .int (nI j))]) rfl rfl rfl ?_
  refine zx_iload_n (pc := 4) hF d_Mod_fold_4 rfl 2 rfl ?_
  refine zx_bipush (pc := 5) hF d_Mod_fold_5 k_b20 ?_
  refine zx_icmp_ge (pc := 7) hF d_Mod_fold_7 (tgt := 32) rfl (fun h7 => ?_) (fun h7 => ?_)
  · replace h7 : 20 ≤ j := (nI_leI (a := 20) (b := j) (by omega) (by omega)).mp h7
    refine zx_iload_n (pc := 32) hF d_Mod_fold_32 rfl 1 rfl ?_
    exact zx_iret (pc := 33) hF hr hlk (by obtain rfl : k = 0 := (by omega); exact hX) rfl d_Mod_fold_33
  · replace h7 : ¬ 20 ≤ j := fun z => h7 ((nI_leI (a := 20) (b := j) (by omega) (by omega)).mpr z)
    refine zx_iload_n (pc := 10) hF d_Mod_fold_10 rfl 1 rfl ?_
    refine zx_ldc (pc := 11) hF wk_Mod_138 d_Mod_fold_11 ?_
    refine zx_icmp_le (pc := 13) hF d_Mod_fold_13 (tgt := 32) rfl (fun h13 => ?_) (fun h13 => ?_)
    · refine zx_iload_n (pc := 32) hF d_Mod_fold_32 rfl 1 rfl ?_
      exact zx_iret (pc := 33) hF hr hlk (by obtain ⟨k', rfl⟩ : ∃ k', k = k' + 1 := ⟨k - 1, by omega⟩; simp only [g_fold, h13, ↓reduceIte] at hX; exact hX) rfl d_Mod_fold_33
    · refine zx_iload_n (pc := 16) hF d_Mod_fold_16 rfl 1 rfl ?_
      refine zx_ldc (pc := 17) hF wk_Mod_139 d_Mod_fold_17 ?_
      refine zx_irem (pc := 19) hF d_Mod_fold_19 (by decide) ?_
      refine zx_iload_n (pc := 20) hF d_Mod_fold_20 rfl 1 rfl ?_
      refine zx_ldc (pc := 21) hF wk_Mod_139 d_Mod_fold_21 ?_
      refine zx_idiv (pc := 23) hF d_Mod_fold_23 (by decide) ?_
      refine zx_iadd (pc := 24) hF d_Mod_fold_24 ?_
      refine zx_istore_n (pc := 25) hF (lv' := [(1, .int ((t - t / 65536 * 65536) + (t / 65536))), (0, .int t0), (2, .int (nI j))]) d_Mod_fold_25 rfl (by decide) rfl ?_
      refine zx_iinc (pc := 26) hF (v := nI (j + 1)) (lv' := [(2, .int (nI (j + 1))), (1, .int ((t - t / 65536 * 65536) + (t / 65536))), (0, .int t0)]) d_Mod_fold_26 2 rfl (zinc j) (by decide) rfl ?_
      refine zx_goto (pc := 29) hF d_Mod_fold_29 (tgt := 4) rfl ?_
      refine zx_lv [2, 1, 0] (lv' := [(0, .int t0), (1, .int ((t - t / 65536 * 65536) + (t / 65536))), (2, .int (nI (j + 1)))]) rfl ?_
      exact ih (k - 1) (j + 1, ((t - t / 65536 * 65536) + (t / 65536))) (by omega) ⟨by (try dsimp only); omega, by obtain ⟨k', rfl⟩ : ∃ k', k = k' + 1 := ⟨k - 1, by omega⟩; simp only [g_fold, h13, ↓reduceIte] at hX; exact hX⟩
set_option maxRecDepth 20000 in
theorem M_Mod_checksum (l : Launch) (D : va_G) (K : Nat → ClassId) (M : List (ClassId × FieldType)) (m0 : Nat) (bN : Nat) (sN0 : Nat) (pN : Nat) (k0 : Int64) (k1 : Int64) (now : Int32) (x_wd : Nat) (x_beg : Nat) (x_std : Nat) (x_dea : Nat) (x_frm : Nat) (x_alv : Nat) (x_stm : Nat) (x_mov : Nat) (x_dwn : Nat) (x_ctd : Nat) (x_cutm : Nat) (x_pha : Nat) (x_usd : Nat) (x_gol : Nat) (x_esr : Nat) (x_epo : Nat) (x_offm : Nat) (x_ast : Nat) (x_opn : Nat) (x_ssr : Nat) (x_spo : Nat) (x_awa : Nat) (x_dat : Nat) (kpt : Int32) (x_hd : Nat) (by0 : Int32) (to0 : Int32) (rep : Int32) (had : Int32) (ost : Int32) (bst : Int32) (x_inr : Nat) (w0 : Int32) (w1 : Int32) (w2 : Int32) (w3 : Int32) (w4 : Int32) (sz : Nat) : zM l y_Mod_checksum (zT y_Mod_checksum b_Mod_checksum 7 (some .int)) (zR 1 22) 0 0 D K M [.ref m0, .int w0, .int w1, .int w2, .int w3, .int w4] [cO m0 11 [.int (nI bN), .int (nI sN0), .int (nI pN), .long k0, .long k1, .int now, .ref x_wd, .ref x_beg, .ref x_std, .ref x_dea, .ref x_frm, .ref x_alv, .ref x_stm, .ref x_mov, .ref x_dwn, .ref x_ctd, .ref x_cutm, .ref x_pha, .ref x_usd, .ref x_gol, .ref x_esr, .ref x_epo, .ref x_offm, .ref x_ast, .ref x_opn, .ref x_ssr, .ref x_spo, .ref x_awa, .ref x_dat, .int kpt, .ref x_hd, .int by0, .int to0, .int rep, .int had, .int ost, .int bst, .ref x_inr]] sz (zQi D K M (g_cks w0 w1 w2 w3 w4) [cO m0 11 [.int (nI bN), .int (nI sN0), .int (nI pN), .long k0, .long k1, .int now, .ref x_wd, .ref x_beg, .ref x_std, .ref x_dea, .ref x_frm, .ref x_alv, .ref x_stm, .ref x_mov, .ref x_dwn, .ref x_ctd, .ref x_cutm, .ref x_pha, .ref x_usd, .ref x_gol, .ref x_esr, .ref x_epo, .ref x_offm, .ref x_ast, .ref x_opn, .ref x_ssr, .ref x_spo, .ref x_awa, .ref x_dat, .int kpt, .ref x_hd, .int by0, .int to0, .int rep, .int had, .int ost, .int bst, .ref x_inr]]) := by
  refine zx_head (by decide) (Nat.le_of_ble_eq_true rfl) ?_
  intro _ _ _ _ _ _ _ _ _ hF hr hlk hnm
  refine zx_iload_n (pc := 0) hF d_Mod_checksum_0 rfl 1 rfl ?_
  refine zx_Si (pc := 1) hF (As := [.int w0]) (rest := []) (fun sz => M_Mod_halves l D K M w0  sz) [] rfl List.nodup_nil (as := []) rfl rfl (ws' := [cO m0 11 [.int (nI bN), .int (nI sN0), .int (nI pN), .long k0, .long k1, .int now, .ref x_wd, .ref x_beg, .ref x_std, .ref x_dea, .ref x_frm, .ref x_alv, .ref x_stm, .ref x_mov, .ref x_dwn, .ref x_ctd, .ref x_cutm, .ref x_pha, .ref x_usd, .ref x_gol, .ref x_esr, .ref x_epo, .ref x_offm, .ref x_ast, .ref x_opn, .ref x_ssr, .ref x_spo, .ref x_awa, .ref x_dat, .int kpt, .ref x_hd, .int by0, .int to0, .int rep, .int had, .int ost, .int bst, .ref x_inr]]) rfl (cw_Mod_140 hF.2.2.2.2.1 rfl rfl ⟨by decide, by decide⟩) rfl rfl (Nat.le_of_ble_eq_true rfl) d_Mod_checksum_1 ⟨Nat.zero_le _, Nat.zero_le _⟩ ?_
  refine zx_iload_n (pc := 4) hF d_Mod_checksum_4 rfl 2 rfl ?_
  refine zx_Si (pc := 5) hF (As := [.int w1]) (rest := [.int (g_halves w0)]) (fun sz => M_Mod_halves l D K M w1  sz) [] rfl List.nodup_nil (as := []) rfl rfl (ws' := [cO m0 11 [.int (nI bN), .int (nI sN0), .int (nI pN), .long k0, .long k1, .int now, .ref x_wd, .ref x_beg, .ref x_std, .ref x_dea, .ref x_frm, .ref x_alv, .ref x_stm, .ref x_mov, .ref x_dwn, .ref x_ctd, .ref x_cutm, .ref x_pha, .ref x_usd, .ref x_gol, .ref x_esr, .ref x_epo, .ref x_offm, .ref x_ast, .ref x_opn, .ref x_ssr, .ref x_spo, .ref x_awa, .ref x_dat, .int kpt, .ref x_hd, .int by0, .int to0, .int rep, .int had, .int ost, .int bst, .ref x_inr]]) rfl (cw_Mod_140 hF.2.2.2.2.1 rfl rfl ⟨by decide, by decide⟩) rfl rfl (Nat.le_of_ble_eq_true rfl) d_Mod_checksum_5 ⟨Nat.zero_le _, Nat.zero_le _⟩ ?_
  refine zx_iadd (pc := 8) hF d_Mod_checksum_8 ?_
  refine zx_iload_n (pc := 9) hF d_Mod_checksum_9 rfl 3 rfl ?_
  refine zx_bipush (pc := 10) hF d_Mod_checksum_10 k_b16 ?_
  refine zx_ishr (pc := 12) hF d_Mod_checksum_12 ?_
  refine zx_ldc (pc := 13) hF wk_Mod_138 d_Mod_checksum_13 ?_
  refine zx_iand (pc := 15) hF d_Mod_checksum_15 ?_
  refine zx_iadd (pc := 16) hF d_Mod_checksum_16 ?_
  refine zx_iload (pc := 17) hF d_Mod_checksum_17 4 rfl ?_
  refine zx_Si (pc := 19) hF (As := [.int w3]) (rest := [.int (((g_halves w0) + (g_halves w1)) + ((w2 >>> (16 &&& 31)) &&& 65535))]) (fun sz => M_Mod_halves l D K M w3  sz) [] rfl List.nodup_nil (as := []) rfl rfl (ws' := [cO m0 11 [.int (nI bN), .int (nI sN0), .int (nI pN), .long k0, .long k1, .int now, .ref x_wd, .ref x_beg, .ref x_std, .ref x_dea, .ref x_frm, .ref x_alv, .ref x_stm, .ref x_mov, .ref x_dwn, .ref x_ctd, .ref x_cutm, .ref x_pha, .ref x_usd, .ref x_gol, .ref x_esr, .ref x_epo, .ref x_offm, .ref x_ast, .ref x_opn, .ref x_ssr, .ref x_spo, .ref x_awa, .ref x_dat, .int kpt, .ref x_hd, .int by0, .int to0, .int rep, .int had, .int ost, .int bst, .ref x_inr]]) rfl (cw_Mod_140 hF.2.2.2.2.1 rfl rfl ⟨by decide, by decide⟩) rfl rfl (Nat.le_of_ble_eq_true rfl) d_Mod_checksum_19 ⟨Nat.zero_le _, Nat.zero_le _⟩ ?_
  refine zx_iadd (pc := 22) hF d_Mod_checksum_22 ?_
  refine zx_iload (pc := 23) hF d_Mod_checksum_23 5 rfl ?_
  refine zx_Si (pc := 25) hF (As := [.int w4]) (rest := [.int ((((g_halves w0) + (g_halves w1)) + ((w2 >>> (16 &&& 31)) &&& 65535)) + (g_halves w3))]) (fun sz => M_Mod_halves l D K M w4  sz) [] rfl List.nodup_nil (as := []) rfl rfl (ws' := [cO m0 11 [.int (nI bN), .int (nI sN0), .int (nI pN), .long k0, .long k1, .int now, .ref x_wd, .ref x_beg, .ref x_std, .ref x_dea, .ref x_frm, .ref x_alv, .ref x_stm, .ref x_mov, .ref x_dwn, .ref x_ctd, .ref x_cutm, .ref x_pha, .ref x_usd, .ref x_gol, .ref x_esr, .ref x_epo, .ref x_offm, .ref x_ast, .ref x_opn, .ref x_ssr, .ref x_spo, .ref x_awa, .ref x_dat, .int kpt, .ref x_hd, .int by0, .int to0, .int rep, .int had, .int ost, .int bst, .ref x_inr]]) rfl (cw_Mod_140 hF.2.2.2.2.1 rfl rfl ⟨by decide, by decide⟩) rfl rfl (Nat.le_of_ble_eq_true rfl) d_Mod_checksum_25 ⟨Nat.zero_le _, Nat.zero_le _⟩ ?_
  refine zx_iadd (pc := 28) hF d_Mod_checksum_28 ?_
  refine zx_istore (pc := 29) hF (lv' := [(6, .int (((((g_halves w0) + (g_halves w1)) + ((w2 >>> (16 &&& 31)) &&& 65535)) + (g_halves w3)) + (g_halves w4))), (0, .ref m0), (1, .int w0), (2, .int w1), (3, .int w2), (4, .int w3), (5, .int w4)]) d_Mod_checksum_29 (by decide) rfl ?_
  refine zx_ldc (pc := 31) hF wk_Mod_138 d_Mod_checksum_31 ?_
  refine zx_iload (pc := 33) hF d_Mod_checksum_33 0 rfl ?_
  refine zx_Si (pc := 35) hF (As := [.int (((((g_halves w0) + (g_halves w1)) + ((w2 >>> (16 &&& 31)) &&& 65535)) + (g_halves w3)) + (g_halves w4))]) (rest := [.int 65535]) (fun sz => M_Mod_fold l D K M (((((g_halves w0) + (g_halves w1)) + ((w2 >>> (16 &&& 31)) &&& 65535)) + (g_halves w3)) + (g_halves w4))  sz) [] rfl List.nodup_nil (as := []) rfl rfl (ws' := [cO m0 11 [.int (nI bN), .int (nI sN0), .int (nI pN), .long k0, .long k1, .int now, .ref x_wd, .ref x_beg, .ref x_std, .ref x_dea, .ref x_frm, .ref x_alv, .ref x_stm, .ref x_mov, .ref x_dwn, .ref x_ctd, .ref x_cutm, .ref x_pha, .ref x_usd, .ref x_gol, .ref x_esr, .ref x_epo, .ref x_offm, .ref x_ast, .ref x_opn, .ref x_ssr, .ref x_spo, .ref x_awa, .ref x_dat, .int kpt, .ref x_hd, .int by0, .int to0, .int rep, .int had, .int ost, .int bst, .ref x_inr]]) rfl (cw_Mod_144 hF.2.2.2.2.1 rfl rfl ⟨by decide, by decide⟩) rfl rfl (Nat.le_of_ble_eq_true rfl) d_Mod_checksum_35 ⟨Nat.zero_le _, Nat.zero_le _⟩ ?_
  refine zx_isub (pc := 38) hF d_Mod_checksum_38 ?_
  exact zx_iret (pc := 39) hF hr hlk (by first | rfl | (simp only []; done) | (simp only [↓reduceIte]; done) | simp []) (by first | rfl | (simp only []; done) | (simp only [↓reduceIte]; done) | simp []) d_Mod_checksum_39
end
section
set_option maxRecDepth 20000 in
theorem M_Mod_header (l : Launch) (D : va_G) (K : Nat → ClassId) (M : List (ClassId × FieldType)) (m0 : Nat) (bN : Nat) (sN0 : Nat) (pN : Nat) (k0 : Int64) (k1 : Int64) (now : Int32) (x_wd : Nat) (x_beg : Nat) (x_std : Nat) (x_dea : Nat) (x_frm : Nat) (x_alv : Nat) (x_stm : Nat) (x_mov : Nat) (x_dwn : Nat) (x_ctd : Nat) (x_cutm : Nat) (x_pha : Nat) (x_usd : Nat) (x_gol : Nat) (x_esr : Nat) (x_epo : Nat) (x_offm : Nat) (x_ast : Nat) (x_opn : Nat) (x_ssr : Nat) (x_spo : Nat) (x_awa : Nat) (x_dat : Nat) (kpt : Int32) (x_hd : Nat) (by0 : Int32) (to0 : Int32) (rep : Int32) (had : Int32) (ost : Int32) (bst : Int32) (x_inr : Nat) (hd : Nat → Int32) (w0 : Int32) (w1 : Int32) (w2 : Int32) (w3 : Int32) (w4 : Int32) (sz : Nat) : zM l y_Mod_header (zT y_Mod_header b_Mod_header 8 (some .int)) (zR 1 22) 0 0 D K M [.ref m0, .int w0, .int w1, .int w2, .int w3, .int w4] [cO m0 11 [.int (nI bN), .int (nI sN0), .int (nI pN), .long k0, .long k1, .int now, .ref x_wd, .ref x_beg, .ref x_std, .ref x_dea, .ref x_frm, .ref x_alv, .ref x_stm, .ref x_mov, .ref x_dwn, .ref x_ctd, .ref x_cutm, .ref x_pha, .ref x_usd, .ref x_gol, .ref x_esr, .ref x_epo, .ref x_offm, .ref x_ast, .ref x_opn, .ref x_ssr, .ref x_spo, .ref x_awa, .ref x_dat, .int kpt, .ref x_hd, .int by0, .int to0, .int rep, .int had, .int ost, .int bst, .ref x_inr], cI K x_hd 5 hd] sz (zQi D K M (g_hd w0 w1 w2 w3 w4) [cO m0 11 [.int (nI bN), .int (nI sN0), .int (nI pN), .long k0, .long k1, .int now, .ref x_wd, .ref x_beg, .ref x_std, .ref x_dea, .ref x_frm, .ref x_alv, .ref x_stm, .ref x_mov, .ref x_dwn, .ref x_ctd, .ref x_cutm, .ref x_pha, .ref x_usd, .ref x_gol, .ref x_esr, .ref x_epo, .ref x_offm, .ref x_ast, .ref x_opn, .ref x_ssr, .ref x_spo, .ref x_awa, .ref x_dat, .int (g_kept w0 w1 w2 w3 w4 kpt), .ref x_hd, .int by0, .int to0, .int rep, .int had, .int ost, .int bst, .ref x_inr], cI K x_hd 5 (g_head w0 w1 w2 w3 w4 hd)]) := by
  refine zx_head (by decide) (Nat.le_of_ble_eq_true rfl) ?_
  intro _ _ _ _ _ _ _ _ _ hF hr hlk hnm
  refine zx_iload_n (pc := 0) hF d_Mod_header_0 rfl 1 rfl ?_
  refine zx_Si (pc := 1) hF (As := [.int w0]) (rest := []) (fun sz => M_Mod_halves l D K M w0  sz) [] rfl List.nodup_nil (as := []) rfl rfl (ws' := [cO m0 11 [.int (nI bN), .int (nI sN0), .int (nI pN), .long k0, .long k1, .int now, .ref x_wd, .ref x_beg, .ref x_std, .ref x_dea, .ref x_frm, .ref x_alv, .ref x_stm, .ref x_mov, .ref x_dwn, .ref x_ctd, .ref x_cutm, .ref x_pha, .ref x_usd, .ref x_gol, .ref x_esr, .ref x_epo, .ref x_offm, .ref x_ast, .ref x_opn, .ref x_ssr, .ref x_spo, .ref x_awa, .ref x_dat, .int kpt, .ref x_hd, .int by0, .int to0, .int rep, .int had, .int ost, .int bst, .ref x_inr], cI K x_hd 5 hd]) rfl (cw_Mod_140 hF.2.2.2.2.1 rfl rfl ⟨by decide, by decide⟩) rfl rfl (Nat.le_of_ble_eq_true rfl) d_Mod_header_1 ⟨Nat.zero_le _, Nat.zero_le _⟩ ?_
  refine zx_iload_n (pc := 4) hF d_Mod_header_4 rfl 2 rfl ?_
  refine zx_Si (pc := 5) hF (As := [.int w1]) (rest := [.int (g_halves w0)]) (fun sz => M_Mod_halves l D K M w1  sz) [] rfl List.nodup_nil (as := []) rfl rfl (ws' := [cO m0 11 [.int (nI bN), .int (nI sN0), .int (nI pN), .long k0, .long k1, .int now, .ref x_wd, .ref x_beg, .ref x_std, .ref x_dea, .ref x_frm, .ref x_alv, .ref x_stm, .ref x_mov, .ref x_dwn, .ref x_ctd, .ref x_cutm, .ref x_pha, .ref x_usd, .ref x_gol, .ref x_esr, .ref x_epo, .ref x_offm, .ref x_ast, .ref x_opn, .ref x_ssr, .ref x_spo, .ref x_awa, .ref x_dat, .int kpt, .ref x_hd, .int by0, .int to0, .int rep, .int had, .int ost, .int bst, .ref x_inr], cI K x_hd 5 hd]) rfl (cw_Mod_140 hF.2.2.2.2.1 rfl rfl ⟨by decide, by decide⟩) rfl rfl (Nat.le_of_ble_eq_true rfl) d_Mod_header_5 ⟨Nat.zero_le _, Nat.zero_le _⟩ ?_
  refine zx_iadd (pc := 8) hF d_Mod_header_8 ?_
  refine zx_iload_n (pc := 9) hF d_Mod_header_9 rfl 3 rfl ?_
  refine zx_Si (pc := 10) hF (As := [.int w2]) (rest := [.int ((g_halves w0) + (g_halves w1))]) (fun sz => M_Mod_halves l D K M w2  sz) [] rfl List.nodup_nil (as := []) rfl rfl (ws' := [cO m0 11 [.int (nI bN), .int (nI sN0), .int (nI pN), .long k0, .long k1, .int now, .ref x_wd, .ref x_beg, .ref x_std, .ref x_dea, .ref x_frm, .ref x_alv, .ref x_stm, .ref x_mov, .ref x_dwn, .ref x_ctd, .ref x_cutm, .ref x_pha, .ref x_usd, .ref x_gol, .ref x_esr, .ref x_epo, .ref x_offm, .ref x_ast, .ref x_opn, .ref x_ssr, .ref x_spo, .ref x_awa, .ref x_dat, .int kpt, .ref x_hd, .int by0, .int to0, .int rep, .int had, .int ost, .int bst, .ref x_inr], cI K x_hd 5 hd]) rfl (cw_Mod_140 hF.2.2.2.2.1 rfl rfl ⟨by decide, by decide⟩) rfl rfl (Nat.le_of_ble_eq_true rfl) d_Mod_header_10 ⟨Nat.zero_le _, Nat.zero_le _⟩ ?_
  refine zx_iadd (pc := 13) hF d_Mod_header_13 ?_
  refine zx_iload (pc := 14) hF d_Mod_header_14 4 rfl ?_
  refine zx_Si (pc := 16) hF (As := [.int w3]) (rest := [.int (((g_halves w0) + (g_halves w1)) + (g_halves w2))]) (fun sz => M_Mod_halves l D K M w3  sz) [] rfl List.nodup_nil (as := []) rfl rfl (ws' := [cO m0 11 [.int (nI bN), .int (nI sN0), .int (nI pN), .long k0, .long k1, .int now, .ref x_wd, .ref x_beg, .ref x_std, .ref x_dea, .ref x_frm, .ref x_alv, .ref x_stm, .ref x_mov, .ref x_dwn, .ref x_ctd, .ref x_cutm, .ref x_pha, .ref x_usd, .ref x_gol, .ref x_esr, .ref x_epo, .ref x_offm, .ref x_ast, .ref x_opn, .ref x_ssr, .ref x_spo, .ref x_awa, .ref x_dat, .int kpt, .ref x_hd, .int by0, .int to0, .int rep, .int had, .int ost, .int bst, .ref x_inr], cI K x_hd 5 hd]) rfl (cw_Mod_140 hF.2.2.2.2.1 rfl rfl ⟨by decide, by decide⟩) rfl rfl (Nat.le_of_ble_eq_true rfl) d_Mod_header_16 ⟨Nat.zero_le _, Nat.zero_le _⟩ ?_
  refine zx_iadd (pc := 19) hF d_Mod_header_19 ?_
  refine zx_iload (pc := 20) hF d_Mod_header_20 5 rfl ?_
  refine zx_Si (pc := 22) hF (As := [.int w4]) (rest := [.int ((((g_halves w0) + (g_halves w1)) + (g_halves w2)) + (g_halves w3))]) (fun sz => M_Mod_halves l D K M w4  sz) [] rfl List.nodup_nil (as := []) rfl rfl (ws' := [cO m0 11 [.int (nI bN), .int (nI sN0), .int (nI pN), .long k0, .long k1, .int now, .ref x_wd, .ref x_beg, .ref x_std, .ref x_dea, .ref x_frm, .ref x_alv, .ref x_stm, .ref x_mov, .ref x_dwn, .ref x_ctd, .ref x_cutm, .ref x_pha, .ref x_usd, .ref x_gol, .ref x_esr, .ref x_epo, .ref x_offm, .ref x_ast, .ref x_opn, .ref x_ssr, .ref x_spo, .ref x_awa, .ref x_dat, .int kpt, .ref x_hd, .int by0, .int to0, .int rep, .int had, .int ost, .int bst, .ref x_inr], cI K x_hd 5 hd]) rfl (cw_Mod_140 hF.2.2.2.2.1 rfl rfl ⟨by decide, by decide⟩) rfl rfl (Nat.le_of_ble_eq_true rfl) d_Mod_header_22 ⟨Nat.zero_le _, Nat.zero_le _⟩ ?_
  refine zx_iadd (pc := 25) hF d_Mod_header_25 ?_
  refine zx_Si (pc := 26) hF (As := [.int (((((g_halves w0) + (g_halves w1)) + (g_halves w2)) + (g_halves w3)) + (g_halves w4))]) (rest := []) (fun sz => M_Mod_fold l D K M (((((g_halves w0) + (g_halves w1)) + (g_halves w2)) + (g_halves w3)) + (g_halves w4))  sz) [] rfl List.nodup_nil (as := []) rfl rfl (ws' := [cO m0 11 [.int (nI bN), .int (nI sN0), .int (nI pN), .long k0, .long k1, .int now, .ref x_wd, .ref x_beg, .ref x_std, .ref x_dea, .ref x_frm, .ref x_alv, .ref x_stm, .ref x_mov, .ref x_dwn, .ref x_ctd, .ref x_cutm, .ref x_pha, .ref x_usd, .ref x_gol, .ref x_esr, .ref x_epo, .ref x_offm, .ref x_ast, .ref x_opn, .ref x_ssr, .ref x_spo, .ref x_awa, .ref x_dat, .int kpt, .ref x_hd, .int by0, .int to0, .int rep, .int had, .int ost, .int bst, .ref x_inr], cI K x_hd 5 hd]) rfl (cw_Mod_144 hF.2.2.2.2.1 rfl rfl ⟨by decide, by decide⟩) rfl rfl (Nat.le_of_ble_eq_true rfl) d_Mod_header_26 ⟨Nat.zero_le _, Nat.zero_le _⟩ ?_
  refine zx_istore (pc := 29) hF (lv' := [(6, .int (g_fold 20 (((((g_halves w0) + (g_halves w1)) + (g_halves w2)) + (g_halves w3)) + (g_halves w4)))), (0, .ref m0), (1, .int w0), (2, .int w1), (3, .int w2), (4, .int w3), (5, .int w4)]) d_Mod_header_29 (by decide) rfl ?_
  refine zx_iload_n (pc := 31) hF d_Mod_header_31 rfl 2 rfl ?_
  refine zx_ldc (pc := 32) hF wk_Mod_138 d_Mod_header_32 ?_
  refine zx_iand (pc := 34) hF d_Mod_header_34 ?_
  refine zx_istore (pc := 35) hF (lv' := [(7, .int (w0 &&& 65535)), (6, .int (g_fold 20 (((((g_halves w0) + (g_halves w1)) + (g_halves w2)) + (g_halves w3)) + (g_halves w4)))), (0, .ref m0), (1, .int w0), (2, .int w1), (3, .int w2), (4, .int w3), (5, .int w4)]) d_Mod_header_35 (by decide) rfl ?_
  refine zx_iload_n (pc := 37) hF d_Mod_header_37 rfl 3 rfl ?_
  refine zx_bipush (pc := 38) hF d_Mod_header_38 k_b24 ?_
  refine zx_ishr (pc := 40) hF d_Mod_header_40 ?_
  refine zx_sipush (pc := 41) hF d_Mod_header_41 k_s255 ?_
  refine zx_iand (pc := 44) hF d_Mod_header_44 ?_
  refine zx_bipush (pc := 45) hF d_Mod_header_45 k_b69 ?_
  refine zx_icmp_eq (pc := 47) hF d_Mod_header_47 (tgt := 52) rfl (fun h47 => ?_) (fun h47 => ?_)
  · refine zx_iload (pc := 52) hF d_Mod_header_52 1 rfl ?_
    refine zx_ldc (pc := 54) hF wk_Mod_138 d_Mod_header_54 ?_
    refine zx_icmp_eq (pc := 56) hF d_Mod_header_56 (tgt := 61) rfl (fun h56 => ?_) (fun h56 => ?_)
    · refine zx_iload (pc := 61) hF d_Mod_header_61 0 rfl ?_
      refine zx_bipush (pc := 63) hF d_Mod_header_63 k_b40 ?_
      refine zx_icmp_lt (pc := 65) hF d_Mod_header_65 (tgt := 76) rfl (fun h65 => ?_) (fun h65 => ?_)
      · refine zx_iconst (pc := 76) hF d_Mod_header_76 k_i3 ?_
        exact zx_iret (pc := 77) hF hr hlk (by have hh : g_hd w0 w1 w2 w3 w4 = 3 := (by unfold g_hd g_all f_rem; rw [if_pos h47, if_pos h56, if_pos h65]); exact hh.symm) (by have hh : g_hd w0 w1 w2 w3 w4 = 3 := (by unfold g_hd g_all f_rem; rw [if_pos h47, if_pos h56, if_pos h65]); simp [g_kept, g_head, hh]) d_Mod_header_77
      · refine zx_iload (pc := 68) hF d_Mod_header_68 0 rfl ?_
        refine zx_sipush (pc := 70) hF d_Mod_header_70 k_s1480 ?_
        refine zx_icmp_le (pc := 73) hF d_Mod_header_73 (tgt := 78) rfl (fun h73 => ?_) (fun h73 => ?_)
        · refine zx_iload_n (pc := 78) hF d_Mod_header_78 rfl 4 rfl ?_
          refine zx_sipush (pc := 79) hF d_Mod_header_79 k_s16384 ?_
          refine zx_irem (pc := 82) hF d_Mod_header_82 (by decide) ?_
          refine zx_if_eq (pc := 83) hF d_Mod_header_83 (tgt := 88) rfl (fun h83 => ?_) (fun h83 => ?_)
          · refine zx_iload_n (pc := 88) hF d_Mod_header_88 rfl 5 rfl ?_
            refine zx_bipush (pc := 89) hF d_Mod_header_89 k_b24 ?_
            refine zx_ishr (pc := 91) hF d_Mod_header_91 ?_
            refine zx_sipush (pc := 92) hF d_Mod_header_92 k_s255 ?_
            refine zx_iand (pc := 95) hF d_Mod_header_95 ?_
            refine zx_if_ne (pc := 96) hF d_Mod_header_96 (tgt := 101) rfl (fun h96 => ?_) (fun h96 => ?_)
            · refine zx_iload_n (pc := 101) hF d_Mod_header_101 rfl 5 rfl ?_
              refine zx_bipush (pc := 102) hF d_Mod_header_102 k_b16 ?_
              refine zx_ishr (pc := 104) hF d_Mod_header_104 ?_
              refine zx_sipush (pc := 105) hF d_Mod_header_105 k_s255 ?_
              refine zx_iand (pc := 108) hF d_Mod_header_108 ?_
              refine zx_bipush (pc := 109) hF d_Mod_header_109 k_b6 ?_
              refine zx_icmp_eq (pc := 111) hF d_Mod_header_111 (tgt := 117) rfl (fun h111 => ?_) (fun h111 => ?_)
              · refine zx_iload (pc := 117) hF d_Mod_header_117 7 rfl ?_
                refine zx_ldc (pc := 119) hF wk_Mod_147 d_Mod_header_119 ?_
                refine zx_icmp_eq (pc := 121) hF d_Mod_header_121 (tgt := 127) rfl (fun h121 => ?_) (fun h121 => ?_)
                · refine zx_aload_n (pc := 127) hF d_Mod_header_127 rfl 2 rfl ?_
                  refine zx_iconst (pc := 128) hF d_Mod_header_128 k_i1 ?_
                  refine zp_Mod_148 (pc := 129) hF 0 rfl (Or.inr rfl) (Nat.le_of_ble_eq_true rfl) d_Mod_header_129 (ws' := [cO m0 11 [.int (nI bN), .int (nI sN0), .int (nI pN), .long k0, .long k1, .int now, .ref x_wd, .ref x_beg, .ref x_std, .ref x_dea, .ref x_frm, .ref x_alv, .ref x_stm, .ref x_mov, .ref x_dwn, .ref x_ctd, .ref x_cutm, .ref x_pha, .ref x_usd, .ref x_gol, .ref x_esr, .ref x_epo, .ref x_offm, .ref x_ast, .ref x_opn, .ref x_ssr, .ref x_spo, .ref x_awa, .ref x_dat, .int 1, .ref x_hd, .int by0, .int to0, .int rep, .int had, .int ost, .int bst, .ref x_inr], cI K x_hd 5 hd]) rfl ?_
                  refine zx_aload_n (pc := 132) hF d_Mod_header_132 rfl 2 rfl ?_
                  refine zg_Mod_81 (pc := 133) hF 0 rfl rfl d_Mod_header_133 ?_
                  refine zx_iconst (pc := 136) hF d_Mod_header_136 k_i0 ?_
                  refine zx_iload_n (pc := 137) hF d_Mod_header_137 rfl 3 rfl ?_
                  refine zx_iastn (pc := 138) hF (i := 0) 1 rfl (by omega) (by omega) d_Mod_header_138 (ws' := [cO m0 11 [.int (nI bN), .int (nI sN0), .int (nI pN), .long k0, .long k1, .int now, .ref x_wd, .ref x_beg, .ref x_std, .ref x_dea, .ref x_frm, .ref x_alv, .ref x_stm, .ref x_mov, .ref x_dwn, .ref x_ctd, .ref x_cutm, .ref x_pha, .ref x_usd, .ref x_gol, .ref x_esr, .ref x_epo, .ref x_offm, .ref x_ast, .ref x_opn, .ref x_ssr, .ref x_spo, .ref x_awa, .ref x_dat, .int 1, .ref x_hd, .int by0, .int to0, .int rep, .int had, .int ost, .int bst, .ref x_inr], cI K x_hd 5 (upd hd 0 w0)]) rfl ?_
                  refine zx_aload_n (pc := 139) hF d_Mod_header_139 rfl 2 rfl ?_
                  refine zg_Mod_81 (pc := 140) hF 0 rfl rfl d_Mod_header_140 ?_
                  refine zx_iconst (pc := 143) hF d_Mod_header_143 k_i1 ?_
                  refine zx_iload_n (pc := 144) hF d_Mod_header_144 rfl 4 rfl ?_
                  refine zx_iastn (pc := 145) hF (i := 1) 1 rfl (by omega) (by omega) d_Mod_header_145 (ws' := [cO m0 11 [.int (nI bN), .int (nI sN0), .int (nI pN), .long k0, .long k1, .int now, .ref x_wd, .ref x_beg, .ref x_std, .ref x_dea, .ref x_frm, .ref x_alv, .ref x_stm, .ref x_mov, .ref x_dwn, .ref x_ctd, .ref x_cutm, .ref x_pha, .ref x_usd, .ref x_gol, .ref x_esr, .ref x_epo, .ref x_offm, .ref x_ast, .ref x_opn, .ref x_ssr, .ref x_spo, .ref x_awa, .ref x_dat, .int 1, .ref x_hd, .int by0, .int to0, .int rep, .int had, .int ost, .int bst, .ref x_inr], cI K x_hd 5 (upd (upd hd 0 w0) 1 w1)]) rfl ?_
                  refine zx_aload_n (pc := 146) hF d_Mod_header_146 rfl 2 rfl ?_
                  refine zg_Mod_81 (pc := 147) hF 0 rfl rfl d_Mod_header_147 ?_
                  refine zx_iconst (pc := 150) hF d_Mod_header_150 k_i2 ?_
                  refine zx_iload_n (pc := 151) hF d_Mod_header_151 rfl 5 rfl ?_
                  refine zx_iastn (pc := 152) hF (i := 2) 1 rfl (by omega) (by omega) d_Mod_header_152 (ws' := [cO m0 11 [.int (nI bN), .int (nI sN0), .int (nI pN), .long k0, .long k1, .int now, .ref x_wd, .ref x_beg, .ref x_std, .ref x_dea, .ref x_frm, .ref x_alv, .ref x_stm, .ref x_mov, .ref x_dwn, .ref x_ctd, .ref x_cutm, .ref x_pha, .ref x_usd, .ref x_gol, .ref x_esr, .ref x_epo, .ref x_offm, .ref x_ast, .ref x_opn, .ref x_ssr, .ref x_spo, .ref x_awa, .ref x_dat, .int 1, .ref x_hd, .int by0, .int to0, .int rep, .int had, .int ost, .int bst, .ref x_inr], cI K x_hd 5 (upd (upd (upd hd 0 w0) 1 w1) 2 w2)]) rfl ?_
                  refine zx_aload_n (pc := 153) hF d_Mod_header_153 rfl 2 rfl ?_
                  refine zg_Mod_81 (pc := 154) hF 0 rfl rfl d_Mod_header_154 ?_
                  refine zx_iconst (pc := 157) hF d_Mod_header_157 k_i3 ?_
                  refine zx_iload (pc := 158) hF d_Mod_header_158 6 rfl ?_
                  refine zx_iastn (pc := 160) hF (i := 3) 1 rfl (by omega) (by omega) d_Mod_header_160 (ws' := [cO m0 11 [.int (nI bN), .int (nI sN0), .int (nI pN), .long k0, .long k1, .int now, .ref x_wd, .ref x_beg, .ref x_std, .ref x_dea, .ref x_frm, .ref x_alv, .ref x_stm, .ref x_mov, .ref x_dwn, .ref x_ctd, .ref x_cutm, .ref x_pha, .ref x_usd, .ref x_gol, .ref x_esr, .ref x_epo, .ref x_offm, .ref x_ast, .ref x_opn, .ref x_ssr, .ref x_spo, .ref x_awa, .ref x_dat, .int 1, .ref x_hd, .int by0, .int to0, .int rep, .int had, .int ost, .int bst, .ref x_inr], cI K x_hd 5 (upd (upd (upd (upd hd 0 w0) 1 w1) 2 w2) 3 w3)]) rfl ?_
                  refine zx_aload_n (pc := 161) hF d_Mod_header_161 rfl 2 rfl ?_
                  refine zg_Mod_81 (pc := 162) hF 0 rfl rfl d_Mod_header_162 ?_
                  refine zx_iconst (pc := 165) hF d_Mod_header_165 k_i4 ?_
                  refine zx_iload (pc := 166) hF d_Mod_header_166 7 rfl ?_
                  refine zx_iastn (pc := 168) hF (i := 4) 1 rfl (by omega) (by omega) d_Mod_header_168 (ws' := [cO m0 11 [.int (nI bN), .int (nI sN0), .int (nI pN), .long k0, .long k1, .int now, .ref x_wd, .ref x_beg, .ref x_std, .ref x_dea, .ref x_frm, .ref x_alv, .ref x_stm, .ref x_mov, .ref x_dwn, .ref x_ctd, .ref x_cutm, .ref x_pha, .ref x_usd, .ref x_gol, .ref x_esr, .ref x_epo, .ref x_offm, .ref x_ast, .ref x_opn, .ref x_ssr, .ref x_spo, .ref x_awa, .ref x_dat, .int 1, .ref x_hd, .int by0, .int to0, .int rep, .int had, .int ost, .int bst, .ref x_inr], cI K x_hd 5 (upd (upd (upd (upd (upd hd 0 w0) 1 w1) 2 w2) 3 w3) 4 w4)]) rfl ?_
                  refine zx_iconst (pc := 169) hF d_Mod_header_169 k_i0 ?_
                  exact zx_iret (pc := 170) hF hr hlk (by have hh : g_hd w0 w1 w2 w3 w4 = 0 := (by unfold g_hd g_all f_rem; rw [if_pos h47, if_pos h56, if_neg h65, if_pos h73, if_pos h83, if_neg h96, if_pos h111, if_pos h121]); exact hh.symm) (by have hh : g_hd w0 w1 w2 w3 w4 = 0 := (by unfold g_hd g_all f_rem; rw [if_pos h47, if_pos h56, if_neg h65, if_pos h73, if_pos h83, if_neg h96, if_pos h111, if_pos h121]); simp [g_kept, g_head, hh]) d_Mod_header_170
                · refine zx_bipush (pc := 124) hF d_Mod_header_124 k_b7 ?_
                  exact zx_iret (pc := 126) hF hr hlk (by have hh : g_hd w0 w1 w2 w3 w4 = 7 := (by unfold g_hd g_all f_rem; rw [if_pos h47, if_pos h56, if_neg h65, if_pos h73, if_pos h83, if_neg h96, if_pos h111, if_neg h121]); exact hh.symm) (by have hh : g_hd w0 w1 w2 w3 w4 = 7 := (by unfold g_hd g_all f_rem; rw [if_pos h47, if_pos h56, if_neg h65, if_pos h73, if_pos h83, if_neg h96, if_pos h111, if_neg h121]); simp [g_kept, g_head, hh]) d_Mod_header_126
              · refine zx_bipush (pc := 114) hF d_Mod_header_114 k_b6 ?_
                exact zx_iret (pc := 116) hF hr hlk (by have hh : g_hd w0 w1 w2 w3 w4 = 6 := (by unfold g_hd g_all f_rem; rw [if_pos h47, if_pos h56, if_neg h65, if_pos h73, if_pos h83, if_neg h96, if_neg h111]); exact hh.symm) (by have hh : g_hd w0 w1 w2 w3 w4 = 6 := (by unfold g_hd g_all f_rem; rw [if_pos h47, if_pos h56, if_neg h65, if_pos h73, if_pos h83, if_neg h96, if_neg h111]); simp [g_kept, g_head, hh]) d_Mod_header_116
            · refine zx_iconst (pc := 99) hF d_Mod_header_99 k_i5 ?_
              exact zx_iret (pc := 100) hF hr hlk (by have hh : g_hd w0 w1 w2 w3 w4 = 5 := (by unfold g_hd g_all f_rem; rw [if_pos h47, if_pos h56, if_neg h65, if_pos h73, if_pos h83, if_pos h96]); exact hh.symm) (by have hh : g_hd w0 w1 w2 w3 w4 = 5 := (by unfold g_hd g_all f_rem; rw [if_pos h47, if_pos h56, if_neg h65, if_pos h73, if_pos h83, if_pos h96]); simp [g_kept, g_head, hh]) d_Mod_header_100
          · refine zx_iconst (pc := 86) hF d_Mod_header_86 k_i4 ?_
            exact zx_iret (pc := 87) hF hr hlk (by have hh : g_hd w0 w1 w2 w3 w4 = 4 := (by unfold g_hd g_all f_rem; rw [if_pos h47, if_pos h56, if_neg h65, if_pos h73, if_neg h83]); exact hh.symm) (by have hh : g_hd w0 w1 w2 w3 w4 = 4 := (by unfold g_hd g_all f_rem; rw [if_pos h47, if_pos h56, if_neg h65, if_pos h73, if_neg h83]); simp [g_kept, g_head, hh]) d_Mod_header_87
        · refine zx_iconst (pc := 76) hF d_Mod_header_76 k_i3 ?_
          exact zx_iret (pc := 77) hF hr hlk (by have hh : g_hd w0 w1 w2 w3 w4 = 3 := (by unfold g_hd g_all f_rem; rw [if_pos h47, if_pos h56, if_neg h65, if_neg h73]); exact hh.symm) (by have hh : g_hd w0 w1 w2 w3 w4 = 3 := (by unfold g_hd g_all f_rem; rw [if_pos h47, if_pos h56, if_neg h65, if_neg h73]); simp [g_kept, g_head, hh]) d_Mod_header_77
    · refine zx_iconst (pc := 59) hF d_Mod_header_59 k_i2 ?_
      exact zx_iret (pc := 60) hF hr hlk (by have hh : g_hd w0 w1 w2 w3 w4 = 2 := (by unfold g_hd g_all f_rem; rw [if_pos h47, if_neg h56]); exact hh.symm) (by have hh : g_hd w0 w1 w2 w3 w4 = 2 := (by unfold g_hd g_all f_rem; rw [if_pos h47, if_neg h56]); simp [g_kept, g_head, hh]) d_Mod_header_60
  · refine zx_iconst (pc := 50) hF d_Mod_header_50 k_i1 ?_
    exact zx_iret (pc := 51) hF hr hlk (by have hh : g_hd w0 w1 w2 w3 w4 = 1 := (by unfold g_hd g_all f_rem; rw [if_neg h47]); exact hh.symm) (by have hh : g_hd w0 w1 w2 w3 w4 = 1 := (by unfold g_hd g_all f_rem; rw [if_neg h47]); simp [g_kept, g_head, hh]) d_Mod_header_51
set_option maxRecDepth 20000 in
theorem M_Mod_turned (l : Launch) (D : va_G) (K : Nat → ClassId) (M : List (ClassId × FieldType)) (x : Int64) (t : Nat) (ht : t < 2 ^ 31) (sz : Nat) : zM l y_Mod_turned (zT y_Mod_turned b_Mod_turned 6 (some .long)) (zR 0 0) 0 0 D K M [.long x, .int (nI t)] [] sz (zQl D K M (g_turn t x) []) := by
  refine zx_head (by decide) (Nat.le_of_ble_eq_true rfl) ?_
  intro _ _ _ _ _ _ _ _ _ hF hr hlk hnm
  refine zx_lload_n (pc := 0) hF d_Mod_turned_0 rfl 0 rfl ?_
  refine zx_lstore_n (pc := 1) hF (lv' := [(3, .long x), (0, .long x), (2, .int (nI t))]) d_Mod_turned_1 rfl (by decide) rfl ?_
  refine zx_iconst (pc := 2) hF d_Mod_turned_2 k_i0 ?_
  refine zx_istore (pc := 3) hF (lv' := [(5, .int 0), (3, .long x), (0, .long x), (2, .int (nI t))]) d_Mod_turned_3 (by decide) rfl ?_
  refine zx_lv [3, 1, 0] (lv' := [(2, .int (nI t)), (3, .long x), (5, .int 0)]) rfl ?_
  refine zx_loop (pc := 5) (σ := Nat × Int64) (fun k zv => (zv.1 + k = t) ∧ (g_turn k zv.2 = g_turn t x)) (fun zv => []) (fun zv => [(2, .int (nI t)), (3, .long zv.2), (5, .int (nI zv.1))]) t (0, x) ⟨by (try dsimp only); omega, rfl⟩ rfl rfl ?_
  intro k zv hI ih
  obtain ⟨j, y⟩ := zv
  obtain ⟨hk, hX⟩ := hI
  replace hk : j + k = t := hk
  replace hX : g_turn k y = g_turn t x := hX
  refine zx_eq (ws' := []) (lv' := [(2, .int (nI t)), (3, .long y), (5, .int (nI j))]) rfl rfl rfl ?_
  refine zx_iload (pc := 5) hF d_Mod_turned_5 2 rfl ?_
  refine zx_iload_n (pc := 7) hF d_Mod_turned_7 rfl 0 rfl ?_
  refine zx_icmp_ge (pc := 8) hF d_Mod_turned_8 (tgt := 35) rfl (fun h8 => ?_) (fun h8 => ?_)
  · replace h8 : t ≤ j := (nI_leI (a := t) (b := j) (by omega) (by omega)).mp h8
    refine zx_lload_n (pc := 35) hF d_Mod_turned_35 rfl 1 rfl ?_
    exact zx_lret (pc := 36) hF hr hlk (by obtain rfl : k = 0 := (by omega); exact hX) rfl d_Mod_turned_36
  · replace h8 : ¬ t ≤ j := fun z => h8 ((nI_leI (a := t) (b := j) (by omega) (by omega)).mpr z)
    refine zx_lload_n (pc := 11) hF d_Mod_turned_11 rfl 1 rfl ?_
    refine zx_lconst (pc := 12) hF d_Mod_turned_12 k_l0 ?_
    refine zx_lcmp (pc := 13) hF d_Mod_turned_13 ?_
    refine zx_if_ge (pc := 14) hF d_Mod_turned_14 (tgt := 25) rfl (fun h14 => ?_) (fun h14 => ?_)
    · refine zx_lload_n (pc := 25) hF d_Mod_turned_25 rfl 1 rfl ?_
      refine zx_lload_n (pc := 26) hF d_Mod_turned_26 rfl 1 rfl ?_
      refine zx_ladd (pc := 27) hF d_Mod_turned_27 ?_
      refine zx_lstore_n (pc := 28) hF (lv' := [(3, .long (y + y)), (2, .int (nI t)), (5, .int (nI j))]) d_Mod_turned_28 rfl (by decide) rfl ?_
      refine zx_iinc (pc := 29) hF (v := nI (j + 1)) (lv' := [(5, .int (nI (j + 1))), (3, .long (y + y)), (2, .int (nI t))]) d_Mod_turned_29 2 rfl (zinc j) (by decide) rfl ?_
      refine zx_goto (pc := 32) hF d_Mod_turned_32 (tgt := 5) rfl ?_
      refine zx_lv [2, 1, 0] (lv' := [(2, .int (nI t)), (3, .long (y + y)), (5, .int (nI (j + 1)))]) rfl ?_
      exact ih (k - 1) (j + 1, (y + y)) (by omega) ⟨by (try dsimp only); omega, by obtain ⟨k', rfl⟩ : ∃ k', k = k' + 1 := ⟨k - 1, by omega⟩; simp only [g_turn, g_dbl, h14, ↓reduceIte] at hX; exact hX⟩
    · refine zx_lload_n (pc := 17) hF d_Mod_turned_17 rfl 1 rfl ?_
      refine zx_lload_n (pc := 18) hF d_Mod_turned_18 rfl 1 rfl ?_
      refine zx_ladd (pc := 19) hF d_Mod_turned_19 ?_
      refine zx_lconst (pc := 20) hF d_Mod_turned_20 k_l1 ?_
      refine zx_ladd (pc := 21) hF d_Mod_turned_21 ?_
      refine zx_goto (pc := 22) hF d_Mod_turned_22 (tgt := 28) rfl ?_
      refine zx_lstore_n (pc := 28) hF (lv' := [(3, .long ((y + y) + 1)), (2, .int (nI t)), (5, .int (nI j))]) d_Mod_turned_28 rfl (by decide) rfl ?_
      refine zx_iinc (pc := 29) hF (v := nI (j + 1)) (lv' := [(5, .int (nI (j + 1))), (3, .long ((y + y) + 1)), (2, .int (nI t))]) d_Mod_turned_29 2 rfl (zinc j) (by decide) rfl ?_
      refine zx_goto (pc := 32) hF d_Mod_turned_32 (tgt := 5) rfl ?_
      refine zx_lv [2, 1, 0] (lv' := [(2, .int (nI t)), (3, .long ((y + y) + 1)), (5, .int (nI (j + 1)))]) rfl ?_
      exact ih (k - 1) (j + 1, ((y + y) + 1)) (by omega) ⟨by (try dsimp only); omega, by obtain ⟨k', rfl⟩ : ∃ k', k = k' + 1 := ⟨k - 1, by omega⟩; simp only [g_turn, g_dbl, h14, ↓reduceIte] at hX; exact hX⟩
set_option maxRecDepth 20000 in
theorem M_Mod_mix (l : Launch) (D : va_G) (K : Nat → ClassId) (M : List (ClassId × FieldType)) (m0 : Nat) (bN : Nat) (sN0 : Nat) (pN : Nat) (k0 : Int64) (k1 : Int64) (now : Int32) (x_wd : Nat) (x_beg : Nat) (x_std : Nat) (x_dea : Nat) (x_frm : Nat) (x_alv : Nat) (x_stm : Nat) (x_mov : Nat) (x_dwn : Nat) (x_ctd : Nat) (x_cutm : Nat) (x_pha : Nat) (x_usd : Nat) (x_gol : Nat) (x_esr : Nat) (x_epo : Nat) (x_offm : Nat) (x_ast : Nat) (x_opn : Nat) (x_ssr : Nat) (x_spo : Nat) (x_awa : Nat) (x_dat : Nat) (kpt : Int32) (x_hd : Nat) (by0 : Int32) (to0 : Int32) (rep : Int32) (had : Int32) (ost : Int32) (bst : Int32) (x_inr : Nat) (wd : Nat → Int64) (a : Nat) (b : Nat) (q : Nat) (t : Nat) (ha : a < 4) (hb : b < 4) (hq : q < 100) (ht : t < 100) (sz : Nat) : zM l y_Mod_mix (zT y_Mod_mix b_Mod_mix 5 none) (zR 1 25) 0 0 D K M [.ref m0, .int (nI a), .int (nI b), .int (nI q), .int (nI t)] [cO m0 11 [.int (nI bN), .int (nI sN0), .int (nI pN), .long k0, .long k1, .int now, .ref x_wd, .ref x_beg, .ref x_std, .ref x_dea, .ref x_frm, .ref x_alv, .ref x_stm, .ref x_mov, .ref x_dwn, .ref x_ctd, .ref x_cutm, .ref x_pha, .ref x_usd, .ref x_gol, .ref x_esr, .ref x_epo, .ref x_offm, .ref x_ast, .ref x_opn, .ref x_ssr, .ref x_spo, .ref x_awa, .ref x_dat, .int kpt, .ref x_hd, .int by0, .int to0, .int rep, .int had, .int ost, .int bst, .ref x_inr], cJ K x_wd 4 wd] sz (zQv D K M [cO m0 11 [.int (nI bN), .int (nI sN0), .int (nI pN), .long k0, .long k1, .int now, .ref x_wd, .ref x_beg, .ref x_std, .ref x_dea, .ref x_frm, .ref x_alv, .ref x_stm, .ref x_mov, .ref x_dwn, .ref x_ctd, .ref x_cutm, .ref x_pha, .ref x_usd, .ref x_gol, .ref x_esr, .ref x_epo, .ref x_offm, .ref x_ast, .ref x_opn, .ref x_ssr, .ref x_spo, .ref x_awa, .ref x_dat, .int kpt, .ref x_hd, .int by0, .int to0, .int rep, .int had, .int ost, .int bst, .ref x_inr], cJ K x_wd 4 (g_mix a b q t wd)]) := by
  refine zx_head (by decide) (Nat.le_of_ble_eq_true rfl) ?_
  intro _ _ _ _ _ _ _ _ _ hF hr hlk hnm
  refine zx_aload_n (pc := 0) hF d_Mod_mix_0 rfl 0 rfl ?_
  refine zg_Mod_7 (pc := 1) hF 0 rfl rfl d_Mod_mix_1 ?_
  refine zx_iload_n (pc := 4) hF d_Mod_mix_4 rfl 1 rfl ?_
  refine zx_aload_n (pc := 5) hF d_Mod_mix_5 rfl 0 rfl ?_
  refine zg_Mod_7 (pc := 6) hF 0 rfl rfl d_Mod_mix_6 ?_
  refine zx_iload_n (pc := 9) hF d_Mod_mix_9 rfl 1 rfl ?_
  refine zx_laldn (pc := 10) hF (i := a) 1 rfl (by omega) (by omega) d_Mod_mix_10 ?_
  refine zx_aload_n (pc := 11) hF d_Mod_mix_11 rfl 0 rfl ?_
  refine zg_Mod_7 (pc := 12) hF 0 rfl rfl d_Mod_mix_12 ?_
  refine zx_iload_n (pc := 15) hF d_Mod_mix_15 rfl 2 rfl ?_
  refine zx_laldn (pc := 16) hF (i := b) 1 rfl (by omega) (by omega) d_Mod_mix_16 ?_
  refine zx_ladd (pc := 17) hF d_Mod_mix_17 ?_
  refine zx_lastn (pc := 18) hF (i := a) 1 rfl (by omega) (by omega) d_Mod_mix_18 (ws' := [cO m0 11 [.int (nI bN), .int (nI sN0), .int (nI pN), .long k0, .long k1, .int now, .ref x_wd, .ref x_beg, .ref x_std, .ref x_dea, .ref x_frm, .ref x_alv, .ref x_stm, .ref x_mov, .ref x_dwn, .ref x_ctd, .ref x_cutm, .ref x_pha, .ref x_usd, .ref x_gol, .ref x_esr, .ref x_epo, .ref x_offm, .ref x_ast, .ref x_opn, .ref x_ssr, .ref x_spo, .ref x_awa, .ref x_dat, .int kpt, .ref x_hd, .int by0, .int to0, .int rep, .int had, .int ost, .int bst, .ref x_inr], cJ K x_wd 4 (vp_updL wd a ((wd a) + (wd b)))]) rfl ?_
  refine zx_aload_n (pc := 19) hF d_Mod_mix_19 rfl 0 rfl ?_
  refine zg_Mod_7 (pc := 20) hF 0 rfl rfl d_Mod_mix_20 ?_
  refine zx_iload_n (pc := 23) hF d_Mod_mix_23 rfl 2 rfl ?_
  refine zx_aload_n (pc := 24) hF d_Mod_mix_24 rfl 0 rfl ?_
  refine zg_Mod_7 (pc := 25) hF 0 rfl rfl d_Mod_mix_25 ?_
  refine zx_iload_n (pc := 28) hF d_Mod_mix_28 rfl 2 rfl ?_
  refine zx_laldn (pc := 29) hF (i := b) 1 rfl (by omega) (by omega) d_Mod_mix_29 ?_
  refine zx_iload_n (pc := 30) hF d_Mod_mix_30 rfl 3 rfl ?_
  refine zx_Sl (pc := 31) hF (As := [.long ((vp_updL wd a ((wd a) + (wd b))) b), .int (nI q)]) (rest := [.int (nI b), .ref x_wd]) (fun sz => M_Mod_turned l D K M ((vp_updL wd a ((wd a) + (wd b))) b) q (by first | assumption | omega) sz) [] rfl List.nodup_nil (as := []) rfl rfl (ws' := [cO m0 11 [.int (nI bN), .int (nI sN0), .int (nI pN), .long k0, .long k1, .int now, .ref x_wd, .ref x_beg, .ref x_std, .ref x_dea, .ref x_frm, .ref x_alv, .ref x_stm, .ref x_mov, .ref x_dwn, .ref x_ctd, .ref x_cutm, .ref x_pha, .ref x_usd, .ref x_gol, .ref x_esr, .ref x_epo, .ref x_offm, .ref x_ast, .ref x_opn, .ref x_ssr, .ref x_spo, .ref x_awa, .ref x_dat, .int kpt, .ref x_hd, .int by0, .int to0, .int rep, .int had, .int ost, .int bst, .ref x_inr], cJ K x_wd 4 (vp_updL wd a ((wd a) + (wd b)))]) rfl (cw_Mod_152 hF.2.2.2.2.1 rfl rfl ⟨by decide, by decide⟩) rfl rfl (Nat.le_of_ble_eq_true rfl) d_Mod_mix_31 ⟨Nat.zero_le _, Nat.zero_le _⟩ ?_
  refine zx_lastn (pc := 34) hF (i := b) 1 rfl (by omega) (by omega) d_Mod_mix_34 (ws' := [cO m0 11 [.int (nI bN), .int (nI sN0), .int (nI pN), .long k0, .long k1, .int now, .ref x_wd, .ref x_beg, .ref x_std, .ref x_dea, .ref x_frm, .ref x_alv, .ref x_stm, .ref x_mov, .ref x_dwn, .ref x_ctd, .ref x_cutm, .ref x_pha, .ref x_usd, .ref x_gol, .ref x_esr, .ref x_epo, .ref x_offm, .ref x_ast, .ref x_opn, .ref x_ssr, .ref x_spo, .ref x_awa, .ref x_dat, .int kpt, .ref x_hd, .int by0, .int to0, .int rep, .int had, .int ost, .int bst, .ref x_inr], cJ K x_wd 4 (vp_updL (vp_updL wd a ((wd a) + (wd b))) b (g_turn q ((vp_updL wd a ((wd a) + (wd b))) b)))]) rfl ?_
  refine zx_aload_n (pc := 35) hF d_Mod_mix_35 rfl 0 rfl ?_
  refine zg_Mod_7 (pc := 36) hF 0 rfl rfl d_Mod_mix_36 ?_
  refine zx_iload_n (pc := 39) hF d_Mod_mix_39 rfl 2 rfl ?_
  refine zx_aload_n (pc := 40) hF d_Mod_mix_40 rfl 0 rfl ?_
  refine zg_Mod_7 (pc := 41) hF 0 rfl rfl d_Mod_mix_41 ?_
  refine zx_iload_n (pc := 44) hF d_Mod_mix_44 rfl 2 rfl ?_
  refine zx_laldn (pc := 45) hF (i := b) 1 rfl (by omega) (by omega) d_Mod_mix_45 ?_
  refine zx_topl (g_turn q ((vp_updL wd a ((wd a) + (wd b))) b)) (pk_uLs) ?_
  refine zx_aload_n (pc := 46) hF d_Mod_mix_46 rfl 0 rfl ?_
  refine zg_Mod_7 (pc := 47) hF 0 rfl rfl d_Mod_mix_47 ?_
  refine zx_iload_n (pc := 50) hF d_Mod_mix_50 rfl 1 rfl ?_
  refine zx_laldn (pc := 51) hF (i := a) 1 rfl (by omega) (by omega) d_Mod_mix_51 ?_
  refine zx_lxor (pc := 52) hF d_Mod_mix_52 ?_
  refine zx_lastn (pc := 53) hF (i := b) 1 rfl (by omega) (by omega) d_Mod_mix_53 (ws' := [cO m0 11 [.int (nI bN), .int (nI sN0), .int (nI pN), .long k0, .long k1, .int now, .ref x_wd, .ref x_beg, .ref x_std, .ref x_dea, .ref x_frm, .ref x_alv, .ref x_stm, .ref x_mov, .ref x_dwn, .ref x_ctd, .ref x_cutm, .ref x_pha, .ref x_usd, .ref x_gol, .ref x_esr, .ref x_epo, .ref x_offm, .ref x_ast, .ref x_opn, .ref x_ssr, .ref x_spo, .ref x_awa, .ref x_dat, .int kpt, .ref x_hd, .int by0, .int to0, .int rep, .int had, .int ost, .int bst, .ref x_inr], cJ K x_wd 4 (vp_updL (vp_updL (vp_updL wd a ((wd a) + (wd b))) b (g_turn q ((vp_updL wd a ((wd a) + (wd b))) b))) b ((g_turn q ((vp_updL wd a ((wd a) + (wd b))) b)) ^^^ ((vp_updL (vp_updL wd a ((wd a) + (wd b))) b (g_turn q ((vp_updL wd a ((wd a) + (wd b))) b))) a)))]) rfl ?_
  refine zx_aload_n (pc := 54) hF d_Mod_mix_54 rfl 0 rfl ?_
  refine zg_Mod_7 (pc := 55) hF 0 rfl rfl d_Mod_mix_55 ?_
  refine zx_iload_n (pc := 58) hF d_Mod_mix_58 rfl 1 rfl ?_
  refine zx_aload_n (pc := 59) hF d_Mod_mix_59 rfl 0 rfl ?_
  refine zg_Mod_7 (pc := 60) hF 0 rfl rfl d_Mod_mix_60 ?_
  refine zx_iload_n (pc := 63) hF d_Mod_mix_63 rfl 1 rfl ?_
  refine zx_laldn (pc := 64) hF (i := a) 1 rfl (by omega) (by omega) d_Mod_mix_64 ?_
  refine zx_iload (pc := 65) hF d_Mod_mix_65 4 rfl ?_
  refine zx_Sl (pc := 67) hF (As := [.long ((vp_updL (vp_updL (vp_updL wd a ((wd a) + (wd b))) b (g_turn q ((vp_updL wd a ((wd a) + (wd b))) b))) b ((g_turn q ((vp_updL wd a ((wd a) + (wd b))) b)) ^^^ ((vp_updL (vp_updL wd a ((wd a) + (wd b))) b (g_turn q ((vp_updL wd a ((wd a) + (wd b))) b))) a))) a), .int (nI t)]) (rest := [.int (nI a), .ref x_wd]) (fun sz => M_Mod_turned l D K M ((vp_updL (vp_updL (vp_updL wd a ((wd a) + (wd b))) b (g_turn q ((vp_updL wd a ((wd a) + (wd b))) b))) b ((g_turn q ((vp_updL wd a ((wd a) + (wd b))) b)) ^^^ ((vp_updL (vp_updL wd a ((wd a) + (wd b))) b (g_turn q ((vp_updL wd a ((wd a) + (wd b))) b))) a))) a) t (by first | assumption | omega) sz) [] rfl List.nodup_nil (as := []) rfl rfl (ws' := [cO m0 11 [.int (nI bN), .int (nI sN0), .int (nI pN), .long k0, .long k1, .int now, .ref x_wd, .ref x_beg, .ref x_std, .ref x_dea, .ref x_frm, .ref x_alv, .ref x_stm, .ref x_mov, .ref x_dwn, .ref x_ctd, .ref x_cutm, .ref x_pha, .ref x_usd, .ref x_gol, .ref x_esr, .ref x_epo, .ref x_offm, .ref x_ast, .ref x_opn, .ref x_ssr, .ref x_spo, .ref x_awa, .ref x_dat, .int kpt, .ref x_hd, .int by0, .int to0, .int rep, .int had, .int ost, .int bst, .ref x_inr], cJ K x_wd 4 (vp_updL (vp_updL (vp_updL wd a ((wd a) + (wd b))) b (g_turn q ((vp_updL wd a ((wd a) + (wd b))) b))) b ((g_turn q ((vp_updL wd a ((wd a) + (wd b))) b)) ^^^ ((vp_updL (vp_updL wd a ((wd a) + (wd b))) b (g_turn q ((vp_updL wd a ((wd a) + (wd b))) b))) a)))]) rfl (cw_Mod_152 hF.2.2.2.2.1 rfl rfl ⟨by decide, by decide⟩) rfl rfl (Nat.le_of_ble_eq_true rfl) d_Mod_mix_67 ⟨Nat.zero_le _, Nat.zero_le _⟩ ?_
  refine zx_lastn (pc := 70) hF (i := a) 1 rfl (by omega) (by omega) d_Mod_mix_70 (ws' := [cO m0 11 [.int (nI bN), .int (nI sN0), .int (nI pN), .long k0, .long k1, .int now, .ref x_wd, .ref x_beg, .ref x_std, .ref x_dea, .ref x_frm, .ref x_alv, .ref x_stm, .ref x_mov, .ref x_dwn, .ref x_ctd, .ref x_cutm, .ref x_pha, .ref x_usd, .ref x_gol, .ref x_esr, .ref x_epo, .ref x_offm, .ref x_ast, .ref x_opn, .ref x_ssr, .ref x_spo, .ref x_awa, .ref x_dat, .int kpt, .ref x_hd, .int by0, .int to0, .int rep, .int had, .int ost, .int bst, .ref x_inr], cJ K x_wd 4 (vp_updL (vp_updL (vp_updL (vp_updL wd a ((wd a) + (wd b))) b (g_turn q ((vp_updL wd a ((wd a) + (wd b))) b))) b ((g_turn q ((vp_updL wd a ((wd a) + (wd b))) b)) ^^^ ((vp_updL (vp_updL wd a ((wd a) + (wd b))) b (g_turn q ((vp_updL wd a ((wd a) + (wd b))) b))) a))) a (g_turn t ((vp_updL (vp_updL (vp_updL wd a ((wd a) + (wd b))) b (g_turn q ((vp_updL wd a ((wd a) + (wd b))) b))) b ((g_turn q ((vp_updL wd a ((wd a) + (wd b))) b)) ^^^ ((vp_updL (vp_updL wd a ((wd a) + (wd b))) b (g_turn q ((vp_updL wd a ((wd a) + (wd b))) b))) a))) a)))]) rfl ?_
  exact zx_vret (pc := 71) hF hr hlk (by first | rfl | (simp only []; done) | (simp only [↓reduceIte]; done) | simp []) d_Mod_mix_71
set_option maxRecDepth 20000 in
theorem M_Mod_rounds (l : Launch) (D : va_G) (K : Nat → ClassId) (M : List (ClassId × FieldType)) (m0 : Nat) (bN : Nat) (sN0 : Nat) (pN : Nat) (k0 : Int64) (k1 : Int64) (now : Int32) (x_wd : Nat) (x_beg : Nat) (x_std : Nat) (x_dea : Nat) (x_frm : Nat) (x_alv : Nat) (x_stm : Nat) (x_mov : Nat) (x_dwn : Nat) (x_ctd : Nat) (x_cutm : Nat) (x_pha : Nat) (x_usd : Nat) (x_gol : Nat) (x_esr : Nat) (x_epo : Nat) (x_offm : Nat) (x_ast : Nat) (x_opn : Nat) (x_ssr : Nat) (x_spo : Nat) (x_awa : Nat) (x_dat : Nat) (kpt : Int32) (x_hd : Nat) (by0 : Int32) (to0 : Int32) (rep : Int32) (had : Int32) (ost : Int32) (bst : Int32) (x_inr : Nat) (wd : Nat → Int64) (t : Nat) (ht : t < 100) (sz : Nat) : zM l y_Mod_rounds (zT y_Mod_rounds b_Mod_rounds 3 none) (zR 2 49) 0 0 D K M [.ref m0, .int (nI t)] [cO m0 11 [.int (nI bN), .int (nI sN0), .int (nI pN), .long k0, .long k1, .int now, .ref x_wd, .ref x_beg, .ref x_std, .ref x_dea, .ref x_frm, .ref x_alv, .ref x_stm, .ref x_mov, .ref x_dwn, .ref x_ctd, .ref x_cutm, .ref x_pha, .ref x_usd, .ref x_gol, .ref x_esr, .ref x_epo, .ref x_offm, .ref x_ast, .ref x_opn, .ref x_ssr, .ref x_spo, .ref x_awa, .ref x_dat, .int kpt, .ref x_hd, .int by0, .int to0, .int rep, .int had, .int ost, .int bst, .ref x_inr], cJ K x_wd 4 wd] sz (zQv D K M [cO m0 11 [.int (nI bN), .int (nI sN0), .int (nI pN), .long k0, .long k1, .int now, .ref x_wd, .ref x_beg, .ref x_std, .ref x_dea, .ref x_frm, .ref x_alv, .ref x_stm, .ref x_mov, .ref x_dwn, .ref x_ctd, .ref x_cutm, .ref x_pha, .ref x_usd, .ref x_gol, .ref x_esr, .ref x_epo, .ref x_offm, .ref x_ast, .ref x_opn, .ref x_ssr, .ref x_spo, .ref x_awa, .ref x_dat, .int kpt, .ref x_hd, .int by0, .int to0, .int rep, .int had, .int ost, .int bst, .ref x_inr], cJ K x_wd 4 (g_iter t wd)]) := by
  refine zx_head (by decide) (Nat.le_of_ble_eq_true rfl) ?_
  intro _ _ _ _ _ _ _ _ _ hF hr hlk hnm
  refine zx_iconst (pc := 0) hF d_Mod_rounds_0 k_i0 ?_
  refine zx_istore_n (pc := 1) hF (lv' := [(2, .int 0), (0, .ref m0), (1, .int (nI t))]) d_Mod_rounds_1 rfl (by decide) rfl ?_
  refine zx_lv [1, 2, 0] (lv' := [(0, .ref m0), (1, .int (nI t)), (2, .int 0)]) rfl ?_
  refine zx_loop (pc := 2) (σ := Nat × (Nat → Int64)) (fun k zv => (zv.1 + k = t) ∧ (g_iter k zv.2 = g_iter t wd)) (fun zv => [cO m0 11 [.int (nI bN), .int (nI sN0), .int (nI pN), .long k0, .long k1, .int now, .ref x_wd, .ref x_beg, .ref x_std, .ref x_dea, .ref x_frm, .ref x_alv, .ref x_stm, .ref x_mov, .ref x_dwn, .ref x_ctd, .ref x_cutm, .ref x_pha, .ref x_usd, .ref x_gol, .ref x_esr, .ref x_epo, .ref x_offm, .ref x_ast, .ref x_opn, .ref x_ssr, .ref x_spo, .ref x_awa, .ref x_dat, .int kpt, .ref x_hd, .int by0, .int to0, .int rep, .int had, .int ost, .int bst, .ref x_inr], cJ K x_wd 4 zv.2]) (fun zv => [(0, .ref m0), (1, .int (nI t)), (2, .int (nI zv.1))]) t (0, wd) ⟨by (try dsimp only); omega, rfl⟩ rfl rfl ?_
  intro k zv hI ih
  obtain ⟨j, w'⟩ := zv
  obtain ⟨hk, hX⟩ := hI
  replace hk : j + k = t := hk
  replace hX : g_iter k w' = g_iter t wd := hX
  refine zx_eq (ws' := [cO m0 11 [.int (nI bN), .int (nI sN0), .int (nI pN), .long k0, .long k1, .int now, .ref x_wd, .ref x_beg, .ref x_std, .ref x_dea, .ref x_frm, .ref x_alv, .ref x_stm, .ref x_mov, .ref x_dwn, .ref x_ctd, .ref x_cutm, .ref x_pha, .ref x_usd, .ref x_gol, .ref x_esr, .ref x_epo, .ref x_offm, .ref x_ast, .ref x_opn, .ref x_ssr, .ref x_spo, .ref x_awa, .ref x_dat, .int kpt, .ref x_hd, .int by0, .int to0, .int rep, .int had, .int ost, .int bst, .ref x_inr], cJ K x_wd 4 w']) (lv' := [(0, .ref m0), (1, .int (nI t)), (2, .int (nI j))]) rfl rfl rfl ?_
  refine zx_iload_n (pc := 2) hF d_Mod_rounds_2 rfl 2 rfl ?_
  refine zx_iload_n (pc := 3) hF d_Mod_rounds_3 rfl 1 rfl ?_
  refine zx_icmp_ge (pc := 4) hF d_Mod_rounds_4 (tgt := 51) rfl (fun h4 => ?_) (fun h4 => ?_)
  · replace h4 : t ≤ j := (nI_leI (a := t) (b := j) (by omega) (by omega)).mp h4
    exact zx_vret (pc := 51) hF hr hlk (by obtain rfl : k = 0 := (by omega); rw [← hX]; rfl) d_Mod_rounds_51
  · replace h4 : ¬ t ≤ j := fun z => h4 ((nI_leI (a := t) (b := j) (by omega) (by omega)).mpr z)
    refine zx_aload_n (pc := 7) hF d_Mod_rounds_7 rfl 0 rfl ?_
    refine zx_iconst (pc := 8) hF d_Mod_rounds_8 k_i0 ?_
    refine zx_iconst (pc := 9) hF d_Mod_rounds_9 k_i1 ?_
    refine zx_bipush (pc := 10) hF d_Mod_rounds_10 k_b13 ?_
    refine zx_bipush (pc := 12) hF d_Mod_rounds_12 k_b32 ?_
    refine zx_Vv (pc := 14) hF (As := [.int 0, .int 1, .int 13, .int 32]) (rest := []) (fun sz => M_Mod_mix l D K M m0 bN sN0 pN k0 k1 now x_wd x_beg x_std x_dea x_frm x_alv x_stm x_mov x_dwn x_ctd x_cutm x_pha x_usd x_gol x_esr x_epo x_offm x_ast x_opn x_ssr x_spo x_awa x_dat kpt x_hd by0 to0 rep had ost bst x_inr w' 0 1 13 32 (by first | assumption | omega) (by first | assumption | omega) (by first | assumption | omega) (by first | assumption | omega) sz) [0, 1] rfl (by decide) (as := [m0, x_wd]) rfl rfl (ws' := [cO m0 11 [.int (nI bN), .int (nI sN0), .int (nI pN), .long k0, .long k1, .int now, .ref x_wd, .ref x_beg, .ref x_std, .ref x_dea, .ref x_frm, .ref x_alv, .ref x_stm, .ref x_mov, .ref x_dwn, .ref x_ctd, .ref x_cutm, .ref x_pha, .ref x_usd, .ref x_gol, .ref x_esr, .ref x_epo, .ref x_offm, .ref x_ast, .ref x_opn, .ref x_ssr, .ref x_spo, .ref x_awa, .ref x_dat, .int kpt, .ref x_hd, .int by0, .int to0, .int rep, .int had, .int ost, .int bst, .ref x_inr], cJ K x_wd 4 (g_mix 0 1 13 32 w')]) rfl 0 11 rfl rfl rfl (cw_Mod_156 hF.2.2.2.2.1 rfl rfl ⟨by decide, by decide⟩) rfl rfl (Nat.le_of_ble_eq_true rfl) d_Mod_rounds_14 ⟨Nat.zero_le _, Nat.zero_le _⟩ ?_
    refine zx_aload_n (pc := 17) hF d_Mod_rounds_17 rfl 0 rfl ?_
    refine zx_iconst (pc := 18) hF d_Mod_rounds_18 k_i2 ?_
    refine zx_iconst (pc := 19) hF d_Mod_rounds_19 k_i3 ?_
    refine zx_bipush (pc := 20) hF d_Mod_rounds_20 k_b16 ?_
    refine zx_iconst (pc := 22) hF d_Mod_rounds_22 k_i0 ?_
    refine zx_Vv (pc := 23) hF (As := [.int 2, .int 3, .int 16, .int 0]) (rest := []) (fun sz => M_Mod_mix l D K M m0 bN sN0 pN k0 k1 now x_wd x_beg x_std x_dea x_frm x_alv x_stm x_mov x_dwn x_ctd x_cutm x_pha x_usd x_gol x_esr x_epo x_offm x_ast x_opn x_ssr x_spo x_awa x_dat kpt x_hd by0 to0 rep had ost bst x_inr (g_mix 0 1 13 32 w') 2 3 16 0 (by first | assumption | omega) (by first | assumption | omega) (by first | assumption | omega) (by first | assumption | omega) sz) [0, 1] rfl (by decide) (as := [m0, x_wd]) rfl rfl (ws' := [cO m0 11 [.int (nI bN), .int (nI sN0), .int (nI pN), .long k0, .long k1, .int now, .ref x_wd, .ref x_beg, .ref x_std, .ref x_dea, .ref x_frm, .ref x_alv, .ref x_stm, .ref x_mov, .ref x_dwn, .ref x_ctd, .ref x_cutm, .ref x_pha, .ref x_usd, .ref x_gol, .ref x_esr, .ref x_epo, .ref x_offm, .ref x_ast, .ref x_opn, .ref x_ssr, .ref x_spo, .ref x_awa, .ref x_dat, .int kpt, .ref x_hd, .int by0, .int to0, .int rep, .int had, .int ost, .int bst, .ref x_inr], cJ K x_wd 4 (g_mix 2 3 16 0 (g_mix 0 1 13 32 w'))]) rfl 0 11 rfl rfl rfl (cw_Mod_156 hF.2.2.2.2.1 rfl rfl ⟨by decide, by decide⟩) rfl rfl (Nat.le_of_ble_eq_true rfl) d_Mod_rounds_23 ⟨Nat.zero_le _, Nat.zero_le _⟩ ?_
    refine zx_aload_n (pc := 26) hF d_Mod_rounds_26 rfl 0 rfl ?_
    refine zx_iconst (pc := 27) hF d_Mod_rounds_27 k_i0 ?_
    refine zx_iconst (pc := 28) hF d_Mod_rounds_28 k_i3 ?_
    refine zx_bipush (pc := 29) hF d_Mod_rounds_29 k_b21 ?_
    refine zx_iconst (pc := 31) hF d_Mod_rounds_31 k_i0 ?_
    refine zx_Vv (pc := 32) hF (As := [.int 0, .int 3, .int 21, .int 0]) (rest := []) (fun sz => M_Mod_mix l D K M m0 bN sN0 pN k0 k1 now x_wd x_beg x_std x_dea x_frm x_alv x_stm x_mov x_dwn x_ctd x_cutm x_pha x_usd x_gol x_esr x_epo x_offm x_ast x_opn x_ssr x_spo x_awa x_dat kpt x_hd by0 to0 rep had ost bst x_inr (g_mix 2 3 16 0 (g_mix 0 1 13 32 w')) 0 3 21 0 (by first | assumption | omega) (by first | assumption | omega) (by first | assumption | omega) (by first | assumption | omega) sz) [0, 1] rfl (by decide) (as := [m0, x_wd]) rfl rfl (ws' := [cO m0 11 [.int (nI bN), .int (nI sN0), .int (nI pN), .long k0, .long k1, .int now, .ref x_wd, .ref x_beg, .ref x_std, .ref x_dea, .ref x_frm, .ref x_alv, .ref x_stm, .ref x_mov, .ref x_dwn, .ref x_ctd, .ref x_cutm, .ref x_pha, .ref x_usd, .ref x_gol, .ref x_esr, .ref x_epo, .ref x_offm, .ref x_ast, .ref x_opn, .ref x_ssr, .ref x_spo, .ref x_awa, .ref x_dat, .int kpt, .ref x_hd, .int by0, .int to0, .int rep, .int had, .int ost, .int bst, .ref x_inr], cJ K x_wd 4 (g_mix 0 3 21 0 (g_mix 2 3 16 0 (g_mix 0 1 13 32 w')))]) rfl 0 11 rfl rfl rfl (cw_Mod_156 hF.2.2.2.2.1 rfl rfl ⟨by decide, by decide⟩) rfl rfl (Nat.le_of_ble_eq_true rfl) d_Mod_rounds_32 ⟨Nat.zero_le _, Nat.zero_le _⟩ ?_
    refine zx_aload_n (pc := 35) hF d_Mod_rounds_35 rfl 0 rfl ?_
    refine zx_iconst (pc := 36) hF d_Mod_rounds_36 k_i2 ?_
    refine zx_iconst (pc := 37) hF d_Mod_rounds_37 k_i1 ?_
    refine zx_bipush (pc := 38) hF d_Mod_rounds_38 k_b17 ?_
    refine zx_bipush (pc := 40) hF d_Mod_rounds_40 k_b32 ?_
    refine zx_Vv (pc := 42) hF (As := [.int 2, .int 1, .int 17, .int 32]) (rest := []) (fun sz => M_Mod_mix l D K M m0 bN sN0 pN k0 k1 now x_wd x_beg x_std x_dea x_frm x_alv x_stm x_mov x_dwn x_ctd x_cutm x_pha x_usd x_gol x_esr x_epo x_offm x_ast x_opn x_ssr x_spo x_awa x_dat kpt x_hd by0 to0 rep had ost bst x_inr (g_mix 0 3 21 0 (g_mix 2 3 16 0 (g_mix 0 1 13 32 w'))) 2 1 17 32 (by first | assumption | omega) (by first | assumption | omega) (by first | assumption | omega) (by first | assumption | omega) sz) [0, 1] rfl (by decide) (as := [m0, x_wd]) rfl rfl (ws' := [cO m0 11 [.int (nI bN), .int (nI sN0), .int (nI pN), .long k0, .long k1, .int now, .ref x_wd, .ref x_beg, .ref x_std, .ref x_dea, .ref x_frm, .ref x_alv, .ref x_stm, .ref x_mov, .ref x_dwn, .ref x_ctd, .ref x_cutm, .ref x_pha, .ref x_usd, .ref x_gol, .ref x_esr, .ref x_epo, .ref x_offm, .ref x_ast, .ref x_opn, .ref x_ssr, .ref x_spo, .ref x_awa, .ref x_dat, .int kpt, .ref x_hd, .int by0, .int to0, .int rep, .int had, .int ost, .int bst, .ref x_inr], cJ K x_wd 4 (g_mix 2 1 17 32 (g_mix 0 3 21 0 (g_mix 2 3 16 0 (g_mix 0 1 13 32 w'))))]) rfl 0 11 rfl rfl rfl (cw_Mod_156 hF.2.2.2.2.1 rfl rfl ⟨by decide, by decide⟩) rfl rfl (Nat.le_of_ble_eq_true rfl) d_Mod_rounds_42 ⟨Nat.zero_le _, Nat.zero_le _⟩ ?_
    refine zx_iinc (pc := 45) hF (v := nI (j + 1)) (lv' := [(2, .int (nI (j + 1))), (0, .ref m0), (1, .int (nI t))]) d_Mod_rounds_45 2 rfl (zinc j) (by decide) rfl ?_
    refine zx_goto (pc := 48) hF d_Mod_rounds_48 (tgt := 2) rfl ?_
    refine zx_lv [1, 2, 0] (lv' := [(0, .ref m0), (1, .int (nI t)), (2, .int (nI (j + 1)))]) rfl ?_
    exact ih (k - 1) (j + 1, g_mix 2 1 17 32 (g_mix 0 3 21 0 (g_mix 2 3 16 0 (g_mix 0 1 13 32 w')))) (by omega) ⟨by (try dsimp only); omega, by obtain ⟨k', rfl⟩ : ∃ k', k = k' + 1 := ⟨k - 1, by omega⟩; exact hX⟩
end
section
set_option maxRecDepth 20000 in
theorem M_Mod_takeIn (l : Launch) (D : va_G) (K : Nat → ClassId) (M : List (ClassId × FieldType)) (m0 : Nat) (bN : Nat) (sN0 : Nat) (pN : Nat) (k0 : Int64) (k1 : Int64) (now : Int32) (x_wd : Nat) (x_beg : Nat) (x_std : Nat) (x_dea : Nat) (x_frm : Nat) (x_alv : Nat) (x_stm : Nat) (x_mov : Nat) (x_dwn : Nat) (x_ctd : Nat) (x_cutm : Nat) (x_pha : Nat) (x_usd : Nat) (x_gol : Nat) (x_esr : Nat) (x_epo : Nat) (x_offm : Nat) (x_ast : Nat) (x_opn : Nat) (x_ssr : Nat) (x_spo : Nat) (x_awa : Nat) (x_dat : Nat) (kpt : Int32) (x_hd : Nat) (by0 : Int32) (to0 : Int32) (rep : Int32) (had : Int32) (ost : Int32) (bst : Int32) (x_inr : Nat) (wd : Nat → Int64) (y : Int64) (sz : Nat) : zM l y_Mod_takeIn (zT y_Mod_takeIn b_Mod_takeIn 3 none) (zR 3 71) 0 0 D K M [.ref m0, .long y] [cO m0 11 [.int (nI bN), .int (nI sN0), .int (nI pN), .long k0, .long k1, .int now, .ref x_wd, .ref x_beg, .ref x_std, .ref x_dea, .ref x_frm, .ref x_alv, .ref x_stm, .ref x_mov, .ref x_dwn, .ref x_ctd, .ref x_cutm, .ref x_pha, .ref x_usd, .ref x_gol, .ref x_esr, .ref x_epo, .ref x_offm, .ref x_ast, .ref x_opn, .ref x_ssr, .ref x_spo, .ref x_awa, .ref x_dat, .int kpt, .ref x_hd, .int by0, .int to0, .int rep, .int had, .int ost, .int bst, .ref x_inr], cJ K x_wd 4 wd] sz (zQv D K M [cO m0 11 [.int (nI bN), .int (nI sN0), .int (nI pN), .long k0, .long k1, .int now, .ref x_wd, .ref x_beg, .ref x_std, .ref x_dea, .ref x_frm, .ref x_alv, .ref x_stm, .ref x_mov, .ref x_dwn, .ref x_ctd, .ref x_cutm, .ref x_pha, .ref x_usd, .ref x_gol, .ref x_esr, .ref x_epo, .ref x_offm, .ref x_ast, .ref x_opn, .ref x_ssr, .ref x_spo, .ref x_awa, .ref x_dat, .int kpt, .ref x_hd, .int by0, .int to0, .int rep, .int had, .int ost, .int bst, .ref x_inr], cJ K x_wd 4 (g_in y wd)]) := by
  refine zx_head (by decide) (Nat.le_of_ble_eq_true rfl) ?_
  intro _ _ _ _ _ _ _ _ _ hF hr hlk hnm
  refine zx_aload_n (pc := 0) hF d_Mod_takeIn_0 rfl 0 rfl ?_
  refine zg_Mod_7 (pc := 1) hF 0 rfl rfl d_Mod_takeIn_1 ?_
  refine zx_iconst (pc := 4) hF d_Mod_takeIn_4 k_i3 ?_
  refine zx_aload_n (pc := 5) hF d_Mod_takeIn_5 rfl 0 rfl ?_
  refine zg_Mod_7 (pc := 6) hF 0 rfl rfl d_Mod_takeIn_6 ?_
  refine zx_iconst (pc := 9) hF d_Mod_takeIn_9 k_i3 ?_
  refine zx_laldn (pc := 10) hF (i := 3) 1 rfl (by omega) (by omega) d_Mod_takeIn_10 ?_
  refine zx_lload_n (pc := 11) hF d_Mod_takeIn_11 rfl 1 rfl ?_
  refine zx_lxor (pc := 12) hF d_Mod_takeIn_12 ?_
  refine zx_lastn (pc := 13) hF (i := 3) 1 rfl (by omega) (by omega) d_Mod_takeIn_13 (ws' := [cO m0 11 [.int (nI bN), .int (nI sN0), .int (nI pN), .long k0, .long k1, .int now, .ref x_wd, .ref x_beg, .ref x_std, .ref x_dea, .ref x_frm, .ref x_alv, .ref x_stm, .ref x_mov, .ref x_dwn, .ref x_ctd, .ref x_cutm, .ref x_pha, .ref x_usd, .ref x_gol, .ref x_esr, .ref x_epo, .ref x_offm, .ref x_ast, .ref x_opn, .ref x_ssr, .ref x_spo, .ref x_awa, .ref x_dat, .int kpt, .ref x_hd, .int by0, .int to0, .int rep, .int had, .int ost, .int bst, .ref x_inr], cJ K x_wd 4 (vp_updL wd 3 ((wd 3) ^^^ y))]) rfl ?_
  refine zx_aload_n (pc := 14) hF d_Mod_takeIn_14 rfl 0 rfl ?_
  refine zx_iconst (pc := 15) hF d_Mod_takeIn_15 k_i2 ?_
  refine zx_Vv (pc := 16) hF (As := [.int 2]) (rest := []) (fun sz => M_Mod_rounds l D K M m0 bN sN0 pN k0 k1 now x_wd x_beg x_std x_dea x_frm x_alv x_stm x_mov x_dwn x_ctd x_cutm x_pha x_usd x_gol x_esr x_epo x_offm x_ast x_opn x_ssr x_spo x_awa x_dat kpt x_hd by0 to0 rep had ost bst x_inr (vp_updL wd 3 ((wd 3) ^^^ y)) 2 (by first | assumption | omega) sz) [0, 1] rfl (by decide) (as := [m0, x_wd]) rfl rfl (ws' := [cO m0 11 [.int (nI bN), .int (nI sN0), .int (nI pN), .long k0, .long k1, .int now, .ref x_wd, .ref x_beg, .ref x_std, .ref x_dea, .ref x_frm, .ref x_alv, .ref x_stm, .ref x_mov, .ref x_dwn, .ref x_ctd, .ref x_cutm, .ref x_pha, .ref x_usd, .ref x_gol, .ref x_esr, .ref x_epo, .ref x_offm, .ref x_ast, .ref x_opn, .ref x_ssr, .ref x_spo, .ref x_awa, .ref x_dat, .int kpt, .ref x_hd, .int by0, .int to0, .int rep, .int had, .int ost, .int bst, .ref x_inr], cJ K x_wd 4 (g_iter 2 (vp_updL wd 3 ((wd 3) ^^^ y)))]) rfl 0 11 rfl rfl rfl (cw_Mod_160 hF.2.2.2.2.1 rfl rfl ⟨by decide, by decide⟩) rfl rfl (Nat.le_of_ble_eq_true rfl) d_Mod_takeIn_16 ⟨Nat.zero_le _, Nat.zero_le _⟩ ?_
  refine zx_aload_n (pc := 19) hF d_Mod_takeIn_19 rfl 0 rfl ?_
  refine zg_Mod_7 (pc := 20) hF 0 rfl rfl d_Mod_takeIn_20 ?_
  refine zx_iconst (pc := 23) hF d_Mod_takeIn_23 k_i0 ?_
  refine zx_aload_n (pc := 24) hF d_Mod_takeIn_24 rfl 0 rfl ?_
  refine zg_Mod_7 (pc := 25) hF 0 rfl rfl d_Mod_takeIn_25 ?_
  refine zx_iconst (pc := 28) hF d_Mod_takeIn_28 k_i0 ?_
  refine zx_laldn (pc := 29) hF (i := 0) 1 rfl (by omega) (by omega) d_Mod_takeIn_29 ?_
  refine zx_lload_n (pc := 30) hF d_Mod_takeIn_30 rfl 1 rfl ?_
  refine zx_lxor (pc := 31) hF d_Mod_takeIn_31 ?_
  refine zx_lastn (pc := 32) hF (i := 0) 1 rfl (by omega) (by omega) d_Mod_takeIn_32 (ws' := [cO m0 11 [.int (nI bN), .int (nI sN0), .int (nI pN), .long k0, .long k1, .int now, .ref x_wd, .ref x_beg, .ref x_std, .ref x_dea, .ref x_frm, .ref x_alv, .ref x_stm, .ref x_mov, .ref x_dwn, .ref x_ctd, .ref x_cutm, .ref x_pha, .ref x_usd, .ref x_gol, .ref x_esr, .ref x_epo, .ref x_offm, .ref x_ast, .ref x_opn, .ref x_ssr, .ref x_spo, .ref x_awa, .ref x_dat, .int kpt, .ref x_hd, .int by0, .int to0, .int rep, .int had, .int ost, .int bst, .ref x_inr], cJ K x_wd 4 (vp_updL (g_iter 2 (vp_updL wd 3 ((wd 3) ^^^ y))) 0 (((g_iter 2 (vp_updL wd 3 ((wd 3) ^^^ y))) 0) ^^^ y))]) rfl ?_
  exact zx_vret (pc := 33) hF hr hlk (by first | rfl | (simp only []; done) | (simp only [↓reduceIte]; done) | simp []) d_Mod_takeIn_33
set_option maxRecDepth 20000 in
theorem M_Mod_digestOf (l : Launch) (D : va_G) (K : Nat → ClassId) (M : List (ClassId × FieldType)) (m0 : Nat) (bN : Nat) (sN0 : Nat) (pN : Nat) (k0 : Int64) (k1 : Int64) (now : Int32) (x_wd : Nat) (x_beg : Nat) (x_std : Nat) (x_dea : Nat) (x_frm : Nat) (x_alv : Nat) (x_stm : Nat) (x_mov : Nat) (x_dwn : Nat) (x_ctd : Nat) (x_cutm : Nat) (x_pha : Nat) (x_usd : Nat) (x_gol : Nat) (x_esr : Nat) (x_epo : Nat) (x_offm : Nat) (x_ast : Nat) (x_opn : Nat) (x_ssr : Nat) (x_spo : Nat) (x_awa : Nat) (x_dat : Nat) (kpt : Int32) (x_hd : Nat) (by0 : Int32) (to0 : Int32) (rep : Int32) (had : Int32) (ost : Int32) (bst : Int32) (x_inr : Nat) (wd : Nat → Int64) (x : Int64) (sz : Nat) : zM l y_Mod_digestOf (zT y_Mod_digestOf b_Mod_digestOf 3 (some .long)) (zR 4 93) 0 0 D K M [.ref m0, .long x] [cO m0 11 [.int (nI bN), .int (nI sN0), .int (nI pN), .long k0, .long k1, .int now, .ref x_wd, .ref x_beg, .ref x_std, .ref x_dea, .ref x_frm, .ref x_alv, .ref x_stm, .ref x_mov, .ref x_dwn, .ref x_ctd, .ref x_cutm, .ref x_pha, .ref x_usd, .ref x_gol, .ref x_esr, .ref x_epo, .ref x_offm, .ref x_ast, .ref x_opn, .ref x_ssr, .ref x_spo, .ref x_awa, .ref x_dat, .int kpt, .ref x_hd, .int by0, .int to0, .int rep, .int had, .int ost, .int bst, .ref x_inr], cJ K x_wd 4 wd] sz (zQl D K M (g_dig k0 k1 x wd) [cO m0 11 [.int (nI bN), .int (nI sN0), .int (nI pN), .long k0, .long k1, .int now, .ref x_wd, .ref x_beg, .ref x_std, .ref x_dea, .ref x_frm, .ref x_alv, .ref x_stm, .ref x_mov, .ref x_dwn, .ref x_ctd, .ref x_cutm, .ref x_pha, .ref x_usd, .ref x_gol, .ref x_esr, .ref x_epo, .ref x_offm, .ref x_ast, .ref x_opn, .ref x_ssr, .ref x_spo, .ref x_awa, .ref x_dat, .int kpt, .ref x_hd, .int by0, .int to0, .int rep, .int had, .int ost, .int bst, .ref x_inr], cJ K x_wd 4 (g_end k0 k1 x wd)]) := by
  refine zx_head (by decide) (Nat.le_of_ble_eq_true rfl) ?_
  intro _ _ _ _ _ _ _ _ _ hF hr hlk hnm
  refine zx_aload_n (pc := 0) hF d_Mod_digestOf_0 rfl 0 rfl ?_
  refine zg_Mod_7 (pc := 1) hF 0 rfl rfl d_Mod_digestOf_1 ?_
  refine zx_iconst (pc := 4) hF d_Mod_digestOf_4 k_i0 ?_
  refine zx_aload_n (pc := 5) hF d_Mod_digestOf_5 rfl 0 rfl ?_
  refine zg_Mod_114 (pc := 6) hF 0 rfl rfl d_Mod_digestOf_6 ?_
  refine zx_ldc2 (pc := 9) hF wk_Mod_164 d_Mod_digestOf_9 ?_
  refine zx_lxor (pc := 12) hF d_Mod_digestOf_12 ?_
  refine zx_lastn (pc := 13) hF (i := 0) 1 rfl (by omega) (by omega) d_Mod_digestOf_13 (ws' := [cO m0 11 [.int (nI bN), .int (nI sN0), .int (nI pN), .long k0, .long k1, .int now, .ref x_wd, .ref x_beg, .ref x_std, .ref x_dea, .ref x_frm, .ref x_alv, .ref x_stm, .ref x_mov, .ref x_dwn, .ref x_ctd, .ref x_cutm, .ref x_pha, .ref x_usd, .ref x_gol, .ref x_esr, .ref x_epo, .ref x_offm, .ref x_ast, .ref x_opn, .ref x_ssr, .ref x_spo, .ref x_awa, .ref x_dat, .int kpt, .ref x_hd, .int by0, .int to0, .int rep, .int had, .int ost, .int bst, .ref x_inr], cJ K x_wd 4 (vp_updL wd 0 (k0 ^^^ 8317987319222330741))]) rfl ?_
  refine zx_aload_n (pc := 14) hF d_Mod_digestOf_14 rfl 0 rfl ?_
  refine zg_Mod_7 (pc := 15) hF 0 rfl rfl d_Mod_digestOf_15 ?_
  refine zx_iconst (pc := 18) hF d_Mod_digestOf_18 k_i1 ?_
  refine zx_aload_n (pc := 19) hF d_Mod_digestOf_19 rfl 0 rfl ?_
  refine zg_Mod_120 (pc := 20) hF 0 rfl rfl d_Mod_digestOf_20 ?_
  refine zx_ldc2 (pc := 23) hF wk_Mod_166 d_Mod_digestOf_23 ?_
  refine zx_lxor (pc := 26) hF d_Mod_digestOf_26 ?_
  refine zx_lastn (pc := 27) hF (i := 1) 1 rfl (by omega) (by omega) d_Mod_digestOf_27 (ws' := [cO m0 11 [.int (nI bN), .int (nI sN0), .int (nI pN), .long k0, .long k1, .int now, .ref x_wd, .ref x_beg, .ref x_std, .ref x_dea, .ref x_frm, .ref x_alv, .ref x_stm, .ref x_mov, .ref x_dwn, .ref x_ctd, .ref x_cutm, .ref x_pha, .ref x_usd, .ref x_gol, .ref x_esr, .ref x_epo, .ref x_offm, .ref x_ast, .ref x_opn, .ref x_ssr, .ref x_spo, .ref x_awa, .ref x_dat, .int kpt, .ref x_hd, .int by0, .int to0, .int rep, .int had, .int ost, .int bst, .ref x_inr], cJ K x_wd 4 (vp_updL (vp_updL wd 0 (k0 ^^^ 8317987319222330741)) 1 (k1 ^^^ 7237128888997146477))]) rfl ?_
  refine zx_aload_n (pc := 28) hF d_Mod_digestOf_28 rfl 0 rfl ?_
  refine zg_Mod_7 (pc := 29) hF 0 rfl rfl d_Mod_digestOf_29 ?_
  refine zx_iconst (pc := 32) hF d_Mod_digestOf_32 k_i2 ?_
  refine zx_aload_n (pc := 33) hF d_Mod_digestOf_33 rfl 0 rfl ?_
  refine zg_Mod_114 (pc := 34) hF 0 rfl rfl d_Mod_digestOf_34 ?_
  refine zx_ldc2 (pc := 37) hF wk_Mod_168 d_Mod_digestOf_37 ?_
  refine zx_lxor (pc := 40) hF d_Mod_digestOf_40 ?_
  refine zx_lastn (pc := 41) hF (i := 2) 1 rfl (by omega) (by omega) d_Mod_digestOf_41 (ws' := [cO m0 11 [.int (nI bN), .int (nI sN0), .int (nI pN), .long k0, .long k1, .int now, .ref x_wd, .ref x_beg, .ref x_std, .ref x_dea, .ref x_frm, .ref x_alv, .ref x_stm, .ref x_mov, .ref x_dwn, .ref x_ctd, .ref x_cutm, .ref x_pha, .ref x_usd, .ref x_gol, .ref x_esr, .ref x_epo, .ref x_offm, .ref x_ast, .ref x_opn, .ref x_ssr, .ref x_spo, .ref x_awa, .ref x_dat, .int kpt, .ref x_hd, .int by0, .int to0, .int rep, .int had, .int ost, .int bst, .ref x_inr], cJ K x_wd 4 (vp_updL (vp_updL (vp_updL wd 0 (k0 ^^^ 8317987319222330741)) 1 (k1 ^^^ 7237128888997146477)) 2 (k0 ^^^ 7816392313619706465))]) rfl ?_
  refine zx_aload_n (pc := 42) hF d_Mod_digestOf_42 rfl 0 rfl ?_
  refine zg_Mod_7 (pc := 43) hF 0 rfl rfl d_Mod_digestOf_43 ?_
  refine zx_iconst (pc := 46) hF d_Mod_digestOf_46 k_i3 ?_
  refine zx_aload_n (pc := 47) hF d_Mod_digestOf_47 rfl 0 rfl ?_
  refine zg_Mod_120 (pc := 48) hF 0 rfl rfl d_Mod_digestOf_48 ?_
  refine zx_ldc2 (pc := 51) hF wk_Mod_170 d_Mod_digestOf_51 ?_
  refine zx_lxor (pc := 54) hF d_Mod_digestOf_54 ?_
  refine zx_lastn (pc := 55) hF (i := 3) 1 rfl (by omega) (by omega) d_Mod_digestOf_55 (ws' := [cO m0 11 [.int (nI bN), .int (nI sN0), .int (nI pN), .long k0, .long k1, .int now, .ref x_wd, .ref x_beg, .ref x_std, .ref x_dea, .ref x_frm, .ref x_alv, .ref x_stm, .ref x_mov, .ref x_dwn, .ref x_ctd, .ref x_cutm, .ref x_pha, .ref x_usd, .ref x_gol, .ref x_esr, .ref x_epo, .ref x_offm, .ref x_ast, .ref x_opn, .ref x_ssr, .ref x_spo, .ref x_awa, .ref x_dat, .int kpt, .ref x_hd, .int by0, .int to0, .int rep, .int had, .int ost, .int bst, .ref x_inr], cJ K x_wd 4 (vp_updL (vp_updL (vp_updL (vp_updL wd 0 (k0 ^^^ 8317987319222330741)) 1 (k1 ^^^ 7237128888997146477)) 2 (k0 ^^^ 7816392313619706465)) 3 (k1 ^^^ 8387220255154660723))]) rfl ?_
  refine zx_aload_n (pc := 56) hF d_Mod_digestOf_56 rfl 0 rfl ?_
  refine zx_lload_n (pc := 57) hF d_Mod_digestOf_57 rfl 1 rfl ?_
  refine zx_Vv (pc := 58) hF (As := [.long x]) (rest := []) (fun sz => M_Mod_takeIn l D K M m0 bN sN0 pN k0 k1 now x_wd x_beg x_std x_dea x_frm x_alv x_stm x_mov x_dwn x_ctd x_cutm x_pha x_usd x_gol x_esr x_epo x_offm x_ast x_opn x_ssr x_spo x_awa x_dat kpt x_hd by0 to0 rep had ost bst x_inr (vp_updL (vp_updL (vp_updL (vp_updL wd 0 (k0 ^^^ 8317987319222330741)) 1 (k1 ^^^ 7237128888997146477)) 2 (k0 ^^^ 7816392313619706465)) 3 (k1 ^^^ 8387220255154660723)) x  sz) [0, 1] rfl (by decide) (as := [m0, x_wd]) rfl rfl (ws' := [cO m0 11 [.int (nI bN), .int (nI sN0), .int (nI pN), .long k0, .long k1, .int now, .ref x_wd, .ref x_beg, .ref x_std, .ref x_dea, .ref x_frm, .ref x_alv, .ref x_stm, .ref x_mov, .ref x_dwn, .ref x_ctd, .ref x_cutm, .ref x_pha, .ref x_usd, .ref x_gol, .ref x_esr, .ref x_epo, .ref x_offm, .ref x_ast, .ref x_opn, .ref x_ssr, .ref x_spo, .ref x_awa, .ref x_dat, .int kpt, .ref x_hd, .int by0, .int to0, .int rep, .int had, .int ost, .int bst, .ref x_inr], cJ K x_wd 4 (g_in x (vp_updL (vp_updL (vp_updL (vp_updL wd 0 (k0 ^^^ 8317987319222330741)) 1 (k1 ^^^ 7237128888997146477)) 2 (k0 ^^^ 7816392313619706465)) 3 (k1 ^^^ 8387220255154660723)))]) rfl 0 11 rfl rfl rfl (cw_Mod_172 hF.2.2.2.2.1 rfl rfl ⟨by decide, by decide⟩) rfl rfl (Nat.le_of_ble_eq_true rfl) d_Mod_digestOf_58 ⟨Nat.zero_le _, Nat.zero_le _⟩ ?_
  refine zx_aload_n (pc := 61) hF d_Mod_digestOf_61 rfl 0 rfl ?_
  refine zx_ldc2 (pc := 62) hF wk_Mod_176 d_Mod_digestOf_62 ?_
  refine zx_Vv (pc := 65) hF (As := [.long 576460752303423488]) (rest := []) (fun sz => M_Mod_takeIn l D K M m0 bN sN0 pN k0 k1 now x_wd x_beg x_std x_dea x_frm x_alv x_stm x_mov x_dwn x_ctd x_cutm x_pha x_usd x_gol x_esr x_epo x_offm x_ast x_opn x_ssr x_spo x_awa x_dat kpt x_hd by0 to0 rep had ost bst x_inr (g_in x (vp_updL (vp_updL (vp_updL (vp_updL wd 0 (k0 ^^^ 8317987319222330741)) 1 (k1 ^^^ 7237128888997146477)) 2 (k0 ^^^ 7816392313619706465)) 3 (k1 ^^^ 8387220255154660723))) 576460752303423488  sz) [0, 1] rfl (by decide) (as := [m0, x_wd]) rfl rfl (ws' := [cO m0 11 [.int (nI bN), .int (nI sN0), .int (nI pN), .long k0, .long k1, .int now, .ref x_wd, .ref x_beg, .ref x_std, .ref x_dea, .ref x_frm, .ref x_alv, .ref x_stm, .ref x_mov, .ref x_dwn, .ref x_ctd, .ref x_cutm, .ref x_pha, .ref x_usd, .ref x_gol, .ref x_esr, .ref x_epo, .ref x_offm, .ref x_ast, .ref x_opn, .ref x_ssr, .ref x_spo, .ref x_awa, .ref x_dat, .int kpt, .ref x_hd, .int by0, .int to0, .int rep, .int had, .int ost, .int bst, .ref x_inr], cJ K x_wd 4 (g_in 576460752303423488 (g_in x (vp_updL (vp_updL (vp_updL (vp_updL wd 0 (k0 ^^^ 8317987319222330741)) 1 (k1 ^^^ 7237128888997146477)) 2 (k0 ^^^ 7816392313619706465)) 3 (k1 ^^^ 8387220255154660723))))]) rfl 0 11 rfl rfl rfl (cw_Mod_172 hF.2.2.2.2.1 rfl rfl ⟨by decide, by decide⟩) rfl rfl (Nat.le_of_ble_eq_true rfl) d_Mod_digestOf_65 ⟨Nat.zero_le _, Nat.zero_le _⟩ ?_
  refine zx_aload_n (pc := 68) hF d_Mod_digestOf_68 rfl 0 rfl ?_
  refine zg_Mod_7 (pc := 69) hF 0 rfl rfl d_Mod_digestOf_69 ?_
  refine zx_iconst (pc := 72) hF d_Mod_digestOf_72 k_i2 ?_
  refine zx_aload_n (pc := 73) hF d_Mod_digestOf_73 rfl 0 rfl ?_
  refine zg_Mod_7 (pc := 74) hF 0 rfl rfl d_Mod_digestOf_74 ?_
  refine zx_iconst (pc := 77) hF d_Mod_digestOf_77 k_i2 ?_
  refine zx_laldn (pc := 78) hF (i := 2) 1 rfl (by omega) (by omega) d_Mod_digestOf_78 ?_
  refine zx_ldc2 (pc := 79) hF wk_Mod_178 d_Mod_digestOf_79 ?_
  refine zx_lxor (pc := 82) hF d_Mod_digestOf_82 ?_
  refine zx_lastn (pc := 83) hF (i := 2) 1 rfl (by omega) (by omega) d_Mod_digestOf_83 (ws' := [cO m0 11 [.int (nI bN), .int (nI sN0), .int (nI pN), .long k0, .long k1, .int now, .ref x_wd, .ref x_beg, .ref x_std, .ref x_dea, .ref x_frm, .ref x_alv, .ref x_stm, .ref x_mov, .ref x_dwn, .ref x_ctd, .ref x_cutm, .ref x_pha, .ref x_usd, .ref x_gol, .ref x_esr, .ref x_epo, .ref x_offm, .ref x_ast, .ref x_opn, .ref x_ssr, .ref x_spo, .ref x_awa, .ref x_dat, .int kpt, .ref x_hd, .int by0, .int to0, .int rep, .int had, .int ost, .int bst, .ref x_inr], cJ K x_wd 4 (vp_updL (g_in 576460752303423488 (g_in x (vp_updL (vp_updL (vp_updL (vp_updL wd 0 (k0 ^^^ 8317987319222330741)) 1 (k1 ^^^ 7237128888997146477)) 2 (k0 ^^^ 7816392313619706465)) 3 (k1 ^^^ 8387220255154660723)))) 2 (((g_in 576460752303423488 (g_in x (vp_updL (vp_updL (vp_updL (vp_updL wd 0 (k0 ^^^ 8317987319222330741)) 1 (k1 ^^^ 7237128888997146477)) 2 (k0 ^^^ 7816392313619706465)) 3 (k1 ^^^ 8387220255154660723)))) 2) ^^^ 255))]) rfl ?_
  refine zx_aload_n (pc := 84) hF d_Mod_digestOf_84 rfl 0 rfl ?_
  refine zx_iconst (pc := 85) hF d_Mod_digestOf_85 k_i4 ?_
  refine zx_Vv (pc := 86) hF (As := [.int 4]) (rest := []) (fun sz => M_Mod_rounds l D K M m0 bN sN0 pN k0 k1 now x_wd x_beg x_std x_dea x_frm x_alv x_stm x_mov x_dwn x_ctd x_cutm x_pha x_usd x_gol x_esr x_epo x_offm x_ast x_opn x_ssr x_spo x_awa x_dat kpt x_hd by0 to0 rep had ost bst x_inr (vp_updL (g_in 576460752303423488 (g_in x (vp_updL (vp_updL (vp_updL (vp_updL wd 0 (k0 ^^^ 8317987319222330741)) 1 (k1 ^^^ 7237128888997146477)) 2 (k0 ^^^ 7816392313619706465)) 3 (k1 ^^^ 8387220255154660723)))) 2 (((g_in 576460752303423488 (g_in x (vp_updL (vp_updL (vp_updL (vp_updL wd 0 (k0 ^^^ 8317987319222330741)) 1 (k1 ^^^ 7237128888997146477)) 2 (k0 ^^^ 7816392313619706465)) 3 (k1 ^^^ 8387220255154660723)))) 2) ^^^ 255)) 4 (by first | assumption | omega) sz) [0, 1] rfl (by decide) (as := [m0, x_wd]) rfl rfl (ws' := [cO m0 11 [.int (nI bN), .int (nI sN0), .int (nI pN), .long k0, .long k1, .int now, .ref x_wd, .ref x_beg, .ref x_std, .ref x_dea, .ref x_frm, .ref x_alv, .ref x_stm, .ref x_mov, .ref x_dwn, .ref x_ctd, .ref x_cutm, .ref x_pha, .ref x_usd, .ref x_gol, .ref x_esr, .ref x_epo, .ref x_offm, .ref x_ast, .ref x_opn, .ref x_ssr, .ref x_spo, .ref x_awa, .ref x_dat, .int kpt, .ref x_hd, .int by0, .int to0, .int rep, .int had, .int ost, .int bst, .ref x_inr], cJ K x_wd 4 (g_iter 4 (vp_updL (g_in 576460752303423488 (g_in x (vp_updL (vp_updL (vp_updL (vp_updL wd 0 (k0 ^^^ 8317987319222330741)) 1 (k1 ^^^ 7237128888997146477)) 2 (k0 ^^^ 7816392313619706465)) 3 (k1 ^^^ 8387220255154660723)))) 2 (((g_in 576460752303423488 (g_in x (vp_updL (vp_updL (vp_updL (vp_updL wd 0 (k0 ^^^ 8317987319222330741)) 1 (k1 ^^^ 7237128888997146477)) 2 (k0 ^^^ 7816392313619706465)) 3 (k1 ^^^ 8387220255154660723)))) 2) ^^^ 255)))]) rfl 0 11 rfl rfl rfl (cw_Mod_160 hF.2.2.2.2.1 rfl rfl ⟨by decide, by decide⟩) rfl rfl (Nat.le_of_ble_eq_true rfl) d_Mod_digestOf_86 ⟨Nat.zero_le _, Nat.zero_le _⟩ ?_
  refine zx_aload_n (pc := 89) hF d_Mod_digestOf_89 rfl 0 rfl ?_
  refine zg_Mod_7 (pc := 90) hF 0 rfl rfl d_Mod_digestOf_90 ?_
  refine zx_iconst (pc := 93) hF d_Mod_digestOf_93 k_i0 ?_
  refine zx_laldn (pc := 94) hF (i := 0) 1 rfl (by omega) (by omega) d_Mod_digestOf_94 ?_
  refine zx_aload_n (pc := 95) hF d_Mod_digestOf_95 rfl 0 rfl ?_
  refine zg_Mod_7 (pc := 96) hF 0 rfl rfl d_Mod_digestOf_96 ?_
  refine zx_iconst (pc := 99) hF d_Mod_digestOf_99 k_i1 ?_
  refine zx_laldn (pc := 100) hF (i := 1) 1 rfl (by omega) (by omega) d_Mod_digestOf_100 ?_
  refine zx_lxor (pc := 101) hF d_Mod_digestOf_101 ?_
  refine zx_aload_n (pc := 102) hF d_Mod_digestOf_102 rfl 0 rfl ?_
  refine zg_Mod_7 (pc := 103) hF 0 rfl rfl d_Mod_digestOf_103 ?_
  refine zx_iconst (pc := 106) hF d_Mod_digestOf_106 k_i2 ?_
  refine zx_laldn (pc := 107) hF (i := 2) 1 rfl (by omega) (by omega) d_Mod_digestOf_107 ?_
  refine zx_lxor (pc := 108) hF d_Mod_digestOf_108 ?_
  refine zx_aload_n (pc := 109) hF d_Mod_digestOf_109 rfl 0 rfl ?_
  refine zg_Mod_7 (pc := 110) hF 0 rfl rfl d_Mod_digestOf_110 ?_
  refine zx_iconst (pc := 113) hF d_Mod_digestOf_113 k_i3 ?_
  refine zx_laldn (pc := 114) hF (i := 3) 1 rfl (by omega) (by omega) d_Mod_digestOf_114 ?_
  refine zx_lxor (pc := 115) hF d_Mod_digestOf_115 ?_
  exact zx_lret (pc := 116) hF hr hlk (by first | rfl | (simp only []; done) | (simp only [↓reduceIte]; done) | simp []) (by first | rfl | (simp only []; done) | (simp only [↓reduceIte]; done) | simp []) d_Mod_digestOf_116
set_option maxRecDepth 20000 in
theorem M_Mod_digest (l : Launch) (D : va_G) (K : Nat → ClassId) (M : List (ClassId × FieldType)) (m0 : Nat) (bN : Nat) (sN0 : Nat) (pN : Nat) (k0 : Int64) (k1 : Int64) (now : Int32) (x_wd : Nat) (x_beg : Nat) (x_std : Nat) (x_dea : Nat) (x_frm : Nat) (x_alv : Nat) (x_stm : Nat) (x_mov : Nat) (x_dwn : Nat) (x_ctd : Nat) (x_cutm : Nat) (x_pha : Nat) (x_usd : Nat) (x_gol : Nat) (x_esr : Nat) (x_epo : Nat) (x_offm : Nat) (x_ast : Nat) (x_opn : Nat) (x_ssr : Nat) (x_spo : Nat) (x_awa : Nat) (x_dat : Nat) (kpt : Int32) (x_hd : Nat) (by0 : Int32) (to0 : Int32) (rep : Int32) (had : Int32) (ost : Int32) (bst : Int32) (x_inr : Nat) (wd : Nat → Int64) (s0 : Int32) (p0 : Int32) (sz : Nat) : zM l y_Mod_digest (zT y_Mod_digest b_Mod_digest 5 (some .long)) (zR 5 115) 0 0 D K M [.ref m0, .int s0, .int p0] [cO m0 11 [.int (nI bN), .int (nI sN0), .int (nI pN), .long k0, .long k1, .int now, .ref x_wd, .ref x_beg, .ref x_std, .ref x_dea, .ref x_frm, .ref x_alv, .ref x_stm, .ref x_mov, .ref x_dwn, .ref x_ctd, .ref x_cutm, .ref x_pha, .ref x_usd, .ref x_gol, .ref x_esr, .ref x_epo, .ref x_offm, .ref x_ast, .ref x_opn, .ref x_ssr, .ref x_spo, .ref x_awa, .ref x_dat, .int kpt, .ref x_hd, .int by0, .int to0, .int rep, .int had, .int ost, .int bst, .ref x_inr], cJ K x_wd 4 wd] sz (zQl D K M (g_dig k0 k1 (g_join s0 p0) wd) [cO m0 11 [.int (nI bN), .int (nI sN0), .int (nI pN), .long k0, .long k1, .int now, .ref x_wd, .ref x_beg, .ref x_std, .ref x_dea, .ref x_frm, .ref x_alv, .ref x_stm, .ref x_mov, .ref x_dwn, .ref x_ctd, .ref x_cutm, .ref x_pha, .ref x_usd, .ref x_gol, .ref x_esr, .ref x_epo, .ref x_offm, .ref x_ast, .ref x_opn, .ref x_ssr, .ref x_spo, .ref x_awa, .ref x_dat, .int kpt, .ref x_hd, .int by0, .int to0, .int rep, .int had, .int ost, .int bst, .ref x_inr], cJ K x_wd 4 (g_end k0 k1 (g_join s0 p0) wd)]) := by
  refine zx_head (by decide) (Nat.le_of_ble_eq_true rfl) ?_
  intro _ _ _ _ _ _ _ _ _ hF hr hlk hnm
  refine zx_iload_n (pc := 0) hF d_Mod_digest_0 rfl 2 rfl ?_
  refine zx_if_ge (pc := 1) hF d_Mod_digest_1 (tgt := 13) rfl (fun h1 => ?_) (fun h1 => ?_)
  · refine zx_iload_n (pc := 13) hF d_Mod_digest_13 rfl 2 rfl ?_
    refine zx_i2l (pc := 14) hF (v := (Int32.toInt64 p0)) d_Mod_digest_14 rfl ?_
    refine zx_lstore_n (pc := 15) hF (lv' := [(3, .long (Int32.toInt64 p0)), (0, .ref m0), (1, .int s0), (2, .int p0)]) d_Mod_digest_15 rfl (by decide) rfl ?_
    refine zx_aload_n (pc := 16) hF d_Mod_digest_16 rfl 1 rfl ?_
    refine zx_iload_n (pc := 17) hF d_Mod_digest_17 rfl 2 rfl ?_
    refine zx_i2l (pc := 18) hF (v := (Int32.toInt64 s0)) d_Mod_digest_18 rfl ?_
    refine zx_ldc2 (pc := 19) hF wk_Mod_136 d_Mod_digest_19 ?_
    refine zx_lmul (pc := 22) hF d_Mod_digest_22 ?_
    refine zx_lload_n (pc := 23) hF d_Mod_digest_23 rfl 0 rfl ?_
    refine zx_ladd (pc := 24) hF d_Mod_digest_24 ?_
    refine zx_Vl (pc := 25) hF (As := [.long (((Int32.toInt64 s0) * 4294967296) + (Int32.toInt64 p0))]) (rest := []) (fun sz => M_Mod_digestOf l D K M m0 bN sN0 pN k0 k1 now x_wd x_beg x_std x_dea x_frm x_alv x_stm x_mov x_dwn x_ctd x_cutm x_pha x_usd x_gol x_esr x_epo x_offm x_ast x_opn x_ssr x_spo x_awa x_dat kpt x_hd by0 to0 rep had ost bst x_inr wd (((Int32.toInt64 s0) * 4294967296) + (Int32.toInt64 p0))  sz) [0, 1] rfl (by decide) (as := [m0, x_wd]) rfl rfl (ws' := [cO m0 11 [.int (nI bN), .int (nI sN0), .int (nI pN), .long k0, .long k1, .int now, .ref x_wd, .ref x_beg, .ref x_std, .ref x_dea, .ref x_frm, .ref x_alv, .ref x_stm, .ref x_mov, .ref x_dwn, .ref x_ctd, .ref x_cutm, .ref x_pha, .ref x_usd, .ref x_gol, .ref x_esr, .ref x_epo, .ref x_offm, .ref x_ast, .ref x_opn, .ref x_ssr, .ref x_spo, .ref x_awa, .ref x_dat, .int kpt, .ref x_hd, .int by0, .int to0, .int rep, .int had, .int ost, .int bst, .ref x_inr], cJ K x_wd 4 (g_end k0 k1 (((Int32.toInt64 s0) * 4294967296) + (Int32.toInt64 p0)) wd)]) rfl 0 11 rfl rfl rfl (cw_Mod_124 hF.2.2.2.2.1 rfl rfl ⟨by decide, by decide⟩) rfl rfl (Nat.le_of_ble_eq_true rfl) d_Mod_digest_25 ⟨Nat.zero_le _, Nat.zero_le _⟩ ?_
    exact zx_lret (pc := 28) hF hr hlk (by first | with_reducible rfl | (simp only [g_join, if_pos h1]; done) | (simp only [g_join, h1, ↓reduceIte]; done) | simp [g_join, h1]) (by first | with_reducible rfl | (simp only [g_join, if_pos h1]; done) | (simp only [g_join, h1, ↓reduceIte]; done) | simp [g_join, h1]) d_Mod_digest_28
  · refine zx_iload_n (pc := 4) hF d_Mod_digest_4 rfl 2 rfl ?_
    refine zx_i2l (pc := 5) hF (v := (Int32.toInt64 p0)) d_Mod_digest_5 rfl ?_
    refine zx_ldc2 (pc := 6) hF wk_Mod_136 d_Mod_digest_6 ?_
    refine zx_ladd (pc := 9) hF d_Mod_digest_9 ?_
    refine zx_goto (pc := 10) hF d_Mod_digest_10 (tgt := 15) rfl ?_
    refine zx_lstore_n (pc := 15) hF (lv' := [(3, .long ((Int32.toInt64 p0) + 4294967296)), (0, .ref m0), (1, .int s0), (2, .int p0)]) d_Mod_digest_15 rfl (by decide) rfl ?_
    refine zx_aload_n (pc := 16) hF d_Mod_digest_16 rfl 1 rfl ?_
    refine zx_iload_n (pc := 17) hF d_Mod_digest_17 rfl 2 rfl ?_
    refine zx_i2l (pc := 18) hF (v := (Int32.toInt64 s0)) d_Mod_digest_18 rfl ?_
    refine zx_ldc2 (pc := 19) hF wk_Mod_136 d_Mod_digest_19 ?_
    refine zx_lmul (pc := 22) hF d_Mod_digest_22 ?_
    refine zx_lload_n (pc := 23) hF d_Mod_digest_23 rfl 0 rfl ?_
    refine zx_ladd (pc := 24) hF d_Mod_digest_24 ?_
    refine zx_Vl (pc := 25) hF (As := [.long (((Int32.toInt64 s0) * 4294967296) + ((Int32.toInt64 p0) + 4294967296))]) (rest := []) (fun sz => M_Mod_digestOf l D K M m0 bN sN0 pN k0 k1 now x_wd x_beg x_std x_dea x_frm x_alv x_stm x_mov x_dwn x_ctd x_cutm x_pha x_usd x_gol x_esr x_epo x_offm x_ast x_opn x_ssr x_spo x_awa x_dat kpt x_hd by0 to0 rep had ost bst x_inr wd (((Int32.toInt64 s0) * 4294967296) + ((Int32.toInt64 p0) + 4294967296))  sz) [0, 1] rfl (by decide) (as := [m0, x_wd]) rfl rfl (ws' := [cO m0 11 [.int (nI bN), .int (nI sN0), .int (nI pN), .long k0, .long k1, .int now, .ref x_wd, .ref x_beg, .ref x_std, .ref x_dea, .ref x_frm, .ref x_alv, .ref x_stm, .ref x_mov, .ref x_dwn, .ref x_ctd, .ref x_cutm, .ref x_pha, .ref x_usd, .ref x_gol, .ref x_esr, .ref x_epo, .ref x_offm, .ref x_ast, .ref x_opn, .ref x_ssr, .ref x_spo, .ref x_awa, .ref x_dat, .int kpt, .ref x_hd, .int by0, .int to0, .int rep, .int had, .int ost, .int bst, .ref x_inr], cJ K x_wd 4 (g_end k0 k1 (((Int32.toInt64 s0) * 4294967296) + ((Int32.toInt64 p0) + 4294967296)) wd)]) rfl 0 11 rfl rfl rfl (cw_Mod_124 hF.2.2.2.2.1 rfl rfl ⟨by decide, by decide⟩) rfl rfl (Nat.le_of_ble_eq_true rfl) d_Mod_digest_25 ⟨Nat.zero_le _, Nat.zero_le _⟩ ?_
    exact zx_lret (pc := 28) hF hr hlk (by first | with_reducible rfl | (simp only [g_join, if_neg h1]; done) | (simp only [g_join, h1, ↓reduceIte]; done) | simp [g_join, h1]) (by first | with_reducible rfl | (simp only [g_join, if_neg h1]; done) | (simp only [g_join, h1, ↓reduceIte]; done) | simp [g_join, h1]) d_Mod_digest_28
set_option maxRecDepth 20000 in
theorem M_Mod_carrier (l : Launch) (D : va_G) (K : Nat → ClassId) (M : List (ClassId × FieldType)) (m0 : Nat) (bN : Nat) (sN0 : Nat) (pN : Nat) (k0 : Int64) (k1 : Int64) (now : Int32) (x_wd : Nat) (x_beg : Nat) (x_std : Nat) (x_dea : Nat) (x_frm : Nat) (x_alv : Nat) (x_stm : Nat) (x_mov : Nat) (x_dwn : Nat) (x_ctd : Nat) (x_cutm : Nat) (x_pha : Nat) (x_usd : Nat) (x_gol : Nat) (x_esr : Nat) (x_epo : Nat) (x_offm : Nat) (x_ast : Nat) (x_opn : Nat) (x_ssr : Nat) (x_spo : Nat) (x_awa : Nat) (x_dat : Nat) (kpt : Int32) (x_hd : Nat) (by0 : Int32) (to0 : Int32) (rep : Int32) (had : Int32) (ost : Int32) (bst : Int32) (x_inr : Nat) (sz : Nat) : zM l y_Mod_carrier (zT y_Mod_carrier b_Mod_carrier 1 (some .int)) (zR 0 0) 0 0 D K M [.ref m0] [cO m0 11 [.int (nI bN), .int (nI sN0), .int (nI pN), .long k0, .long k1, .int now, .ref x_wd, .ref x_beg, .ref x_std, .ref x_dea, .ref x_frm, .ref x_alv, .ref x_stm, .ref x_mov, .ref x_dwn, .ref x_ctd, .ref x_cutm, .ref x_pha, .ref x_usd, .ref x_gol, .ref x_esr, .ref x_epo, .ref x_offm, .ref x_ast, .ref x_opn, .ref x_ssr, .ref x_spo, .ref x_awa, .ref x_dat, .int kpt, .ref x_hd, .int by0, .int to0, .int rep, .int had, .int ost, .int bst, .ref x_inr]] sz (zQi D K M by0 [cO m0 11 [.int (nI bN), .int (nI sN0), .int (nI pN), .long k0, .long k1, .int now, .ref x_wd, .ref x_beg, .ref x_std, .ref x_dea, .ref x_frm, .ref x_alv, .ref x_stm, .ref x_mov, .ref x_dwn, .ref x_ctd, .ref x_cutm, .ref x_pha, .ref x_usd, .ref x_gol, .ref x_esr, .ref x_epo, .ref x_offm, .ref x_ast, .ref x_opn, .ref x_ssr, .ref x_spo, .ref x_awa, .ref x_dat, .int kpt, .ref x_hd, .int by0, .int to0, .int rep, .int had, .int ost, .int bst, .ref x_inr]]) := by
  refine zx_head (by decide) (Nat.le_of_ble_eq_true rfl) ?_
  intro _ _ _ _ _ _ _ _ _ hF hr hlk hnm
  refine zx_aload_n (pc := 0) hF d_Mod_carrier_0 rfl 0 rfl ?_
  refine zg_Mod_84 (pc := 1) hF 0 rfl rfl d_Mod_carrier_1 ?_
  exact zx_iret (pc := 4) hF hr hlk (by first | rfl | (simp only []; done) | (simp only [↓reduceIte]; done) | simp []) (by first | rfl | (simp only []; done) | (simp only [↓reduceIte]; done) | simp []) d_Mod_carrier_4
set_option maxRecDepth 20000 in
theorem M_Mod_reply (l : Launch) (D : va_G) (K : Nat → ClassId) (M : List (ClassId × FieldType)) (m0 : Nat) (bN : Nat) (sN0 : Nat) (pN : Nat) (k0 : Int64) (k1 : Int64) (now : Int32) (x_wd : Nat) (x_beg : Nat) (x_std : Nat) (x_dea : Nat) (x_frm : Nat) (x_alv : Nat) (x_stm : Nat) (x_mov : Nat) (x_dwn : Nat) (x_ctd : Nat) (x_cutm : Nat) (x_pha : Nat) (x_usd : Nat) (x_gol : Nat) (x_esr : Nat) (x_epo : Nat) (x_offm : Nat) (x_ast : Nat) (x_opn : Nat) (x_ssr : Nat) (x_spo : Nat) (x_awa : Nat) (x_dat : Nat) (kpt : Int32) (x_hd : Nat) (by0 : Int32) (to0 : Int32) (rep : Int32) (had : Int32) (ost : Int32) (bst : Int32) (x_inr : Nat) (sz : Nat) : zM l y_Mod_reply (zT y_Mod_reply b_Mod_reply 1 (some .int)) (zR 0 0) 0 0 D K M [.ref m0] [cO m0 11 [.int (nI bN), .int (nI sN0), .int (nI pN), .long k0, .long k1, .int now, .ref x_wd, .ref x_beg, .ref x_std, .ref x_dea, .ref x_frm, .ref x_alv, .ref x_stm, .ref x_mov, .ref x_dwn, .ref x_ctd, .ref x_cutm, .ref x_pha, .ref x_usd, .ref x_gol, .ref x_esr, .ref x_epo, .ref x_offm, .ref x_ast, .ref x_opn, .ref x_ssr, .ref x_spo, .ref x_awa, .ref x_dat, .int kpt, .ref x_hd, .int by0, .int to0, .int rep, .int had, .int ost, .int bst, .ref x_inr]] sz (zQi D K M rep [cO m0 11 [.int (nI bN), .int (nI sN0), .int (nI pN), .long k0, .long k1, .int now, .ref x_wd, .ref x_beg, .ref x_std, .ref x_dea, .ref x_frm, .ref x_alv, .ref x_stm, .ref x_mov, .ref x_dwn, .ref x_ctd, .ref x_cutm, .ref x_pha, .ref x_usd, .ref x_gol, .ref x_esr, .ref x_epo, .ref x_offm, .ref x_ast, .ref x_opn, .ref x_ssr, .ref x_spo, .ref x_awa, .ref x_dat, .int kpt, .ref x_hd, .int by0, .int to0, .int rep, .int had, .int ost, .int bst, .ref x_inr]]) := by
  refine zx_head (by decide) (Nat.le_of_ble_eq_true rfl) ?_
  intro _ _ _ _ _ _ _ _ _ hF hr hlk hnm
  refine zx_aload_n (pc := 0) hF d_Mod_reply_0 rfl 0 rfl ?_
  refine zg_Mod_88 (pc := 1) hF 0 rfl rfl d_Mod_reply_1 ?_
  exact zx_iret (pc := 4) hF hr hlk (by first | rfl | (simp only []; done) | (simp only [↓reduceIte]; done) | simp []) (by first | rfl | (simp only []; done) | (simp only [↓reduceIte]; done) | simp []) d_Mod_reply_4
set_option maxRecDepth 20000 in
theorem M_Mod_taken (l : Launch) (D : va_G) (K : Nat → ClassId) (M : List (ClassId × FieldType)) (m0 : Nat) (bN : Nat) (sN0 : Nat) (pN : Nat) (k0 : Int64) (k1 : Int64) (now : Int32) (x_wd : Nat) (x_beg : Nat) (x_std : Nat) (x_dea : Nat) (x_frm : Nat) (x_alv : Nat) (x_stm : Nat) (x_mov : Nat) (x_dwn : Nat) (x_ctd : Nat) (x_cutm : Nat) (x_pha : Nat) (x_usd : Nat) (x_gol : Nat) (x_esr : Nat) (x_epo : Nat) (x_offm : Nat) (x_ast : Nat) (x_opn : Nat) (x_ssr : Nat) (x_spo : Nat) (x_awa : Nat) (x_dat : Nat) (kpt : Int32) (x_hd : Nat) (by0 : Int32) (to0 : Int32) (rep : Int32) (had : Int32) (ost : Int32) (bst : Int32) (x_inr : Nat) (sz : Nat) : zM l y_Mod_taken (zT y_Mod_taken b_Mod_taken 1 (some .int)) (zR 0 0) 0 0 D K M [.ref m0] [cO m0 11 [.int (nI bN), .int (nI sN0), .int (nI pN), .long k0, .long k1, .int now, .ref x_wd, .ref x_beg, .ref x_std, .ref x_dea, .ref x_frm, .ref x_alv, .ref x_stm, .ref x_mov, .ref x_dwn, .ref x_ctd, .ref x_cutm, .ref x_pha, .ref x_usd, .ref x_gol, .ref x_esr, .ref x_epo, .ref x_offm, .ref x_ast, .ref x_opn, .ref x_ssr, .ref x_spo, .ref x_awa, .ref x_dat, .int kpt, .ref x_hd, .int by0, .int to0, .int rep, .int had, .int ost, .int bst, .ref x_inr]] sz (zQi D K M had [cO m0 11 [.int (nI bN), .int (nI sN0), .int (nI pN), .long k0, .long k1, .int now, .ref x_wd, .ref x_beg, .ref x_std, .ref x_dea, .ref x_frm, .ref x_alv, .ref x_stm, .ref x_mov, .ref x_dwn, .ref x_ctd, .ref x_cutm, .ref x_pha, .ref x_usd, .ref x_gol, .ref x_esr, .ref x_epo, .ref x_offm, .ref x_ast, .ref x_opn, .ref x_ssr, .ref x_spo, .ref x_awa, .ref x_dat, .int kpt, .ref x_hd, .int by0, .int to0, .int rep, .int had, .int ost, .int bst, .ref x_inr]]) := by
  refine zx_head (by decide) (Nat.le_of_ble_eq_true rfl) ?_
  intro _ _ _ _ _ _ _ _ _ hF hr hlk hnm
  refine zx_aload_n (pc := 0) hF d_Mod_taken_0 rfl 0 rfl ?_
  refine zg_Mod_91 (pc := 1) hF 0 rfl rfl d_Mod_taken_1 ?_
  exact zx_iret (pc := 4) hF hr hlk (by first | rfl | (simp only []; done) | (simp only [↓reduceIte]; done) | simp []) (by first | rfl | (simp only []; done) | (simp only [↓reduceIte]; done) | simp []) d_Mod_taken_4
set_option maxRecDepth 20000 in
theorem M_Mod_isBalancer (l : Launch) (D : va_G) (K : Nat → ClassId) (M : List (ClassId × FieldType)) (m0 : Nat) (bN : Nat) (sN0 : Nat) (pN : Nat) (k0 : Int64) (k1 : Int64) (now : Int32) (x_wd : Nat) (x_beg : Nat) (x_std : Nat) (x_dea : Nat) (x_frm : Nat) (x_alv : Nat) (x_stm : Nat) (x_mov : Nat) (x_dwn : Nat) (x_ctd : Nat) (x_cutm : Nat) (x_pha : Nat) (x_usd : Nat) (x_gol : Nat) (x_esr : Nat) (x_epo : Nat) (x_offm : Nat) (x_ast : Nat) (x_opn : Nat) (x_ssr : Nat) (x_spo : Nat) (x_awa : Nat) (x_dat : Nat) (kpt : Int32) (x_hd : Nat) (by0 : Int32) (to0 : Int32) (rep : Int32) (had : Int32) (ost : Int32) (bst : Int32) (x_inr : Nat) (b : Int32) (sz : Nat) : zM l y_Mod_isBalancer (zT y_Mod_isBalancer b_Mod_isBalancer 2 (some .boolean)) (zR 0 0) 0 0 D K M [.ref m0, .int b] [cO m0 11 [.int (nI bN), .int (nI sN0), .int (nI pN), .long k0, .long k1, .int now, .ref x_wd, .ref x_beg, .ref x_std, .ref x_dea, .ref x_frm, .ref x_alv, .ref x_stm, .ref x_mov, .ref x_dwn, .ref x_ctd, .ref x_cutm, .ref x_pha, .ref x_usd, .ref x_gol, .ref x_esr, .ref x_epo, .ref x_offm, .ref x_ast, .ref x_opn, .ref x_ssr, .ref x_spo, .ref x_awa, .ref x_dat, .int kpt, .ref x_hd, .int by0, .int to0, .int rep, .int had, .int ost, .int bst, .ref x_inr]] sz (zQi D K M (g_is b bN) [cO m0 11 [.int (nI bN), .int (nI sN0), .int (nI pN), .long k0, .long k1, .int now, .ref x_wd, .ref x_beg, .ref x_std, .ref x_dea, .ref x_frm, .ref x_alv, .ref x_stm, .ref x_mov, .ref x_dwn, .ref x_ctd, .ref x_cutm, .ref x_pha, .ref x_usd, .ref x_gol, .ref x_esr, .ref x_epo, .ref x_offm, .ref x_ast, .ref x_opn, .ref x_ssr, .ref x_spo, .ref x_awa, .ref x_dat, .int kpt, .ref x_hd, .int by0, .int to0, .int rep, .int had, .int ost, .int bst, .ref x_inr]]) := by
  refine zx_head (by decide) (Nat.le_of_ble_eq_true rfl) ?_
  intro _ _ _ _ _ _ _ _ _ hF hr hlk hnm
  refine zx_iload_n (pc := 0) hF d_Mod_isBalancer_0 rfl 1 rfl ?_
  refine zx_if_lt (pc := 1) hF d_Mod_isBalancer_1 (tgt := 16) rfl (fun h1 => ?_) (fun h1 => ?_)
  · refine zx_iconst (pc := 16) hF d_Mod_isBalancer_16 k_i0 ?_
    exact zx_zret (pc := 17) hF hr hlk rfl (by first | with_reducible rfl | (simp only [g_is, if_pos h1]; done) | (simp only [g_is, h1, ↓reduceIte]; done) | simp [g_is, h1]) (by first | with_reducible rfl | (simp only [g_is, if_pos h1]; done) | (simp only [g_is, h1, ↓reduceIte]; done) | simp [g_is, h1]) d_Mod_isBalancer_17
  · refine zx_iload_n (pc := 4) hF d_Mod_isBalancer_4 rfl 1 rfl ?_
    refine zx_aload_n (pc := 5) hF d_Mod_isBalancer_5 rfl 0 rfl ?_
    refine zg_Mod_101 (pc := 6) hF 0 rfl rfl d_Mod_isBalancer_6 ?_
    refine zx_icmp_ge (pc := 9) hF d_Mod_isBalancer_9 (tgt := 16) rfl (fun h9 => ?_) (fun h9 => ?_)
    · refine zx_iconst (pc := 16) hF d_Mod_isBalancer_16 k_i0 ?_
      exact zx_zret (pc := 17) hF hr hlk rfl (by first | with_reducible rfl | (simp only [g_is, if_neg h1, if_pos h9]; done) | (simp only [g_is, h1, h9, ↓reduceIte]; done) | simp [g_is, h1, h9]) (by first | with_reducible rfl | (simp only [g_is, if_neg h1, if_pos h9]; done) | (simp only [g_is, h1, h9, ↓reduceIte]; done) | simp [g_is, h1, h9]) d_Mod_isBalancer_17
    · refine zx_iconst (pc := 12) hF d_Mod_isBalancer_12 k_i1 ?_
      refine zx_goto (pc := 13) hF d_Mod_isBalancer_13 (tgt := 17) rfl ?_
      exact zx_zret (pc := 17) hF hr hlk rfl (by first | with_reducible rfl | (simp only [g_is, if_neg h1, if_neg h9]; done) | (simp only [g_is, h1, h9, ↓reduceIte]; done) | simp [g_is, h1, h9]) (by first | with_reducible rfl | (simp only [g_is, if_neg h1, if_neg h9]; done) | (simp only [g_is, h1, h9, ↓reduceIte]; done) | simp [g_is, h1, h9]) d_Mod_isBalancer_17
set_option maxRecDepth 20000 in
theorem M_Mod_isServer (l : Launch) (D : va_G) (K : Nat → ClassId) (M : List (ClassId × FieldType)) (m0 : Nat) (bN : Nat) (sN0 : Nat) (pN : Nat) (k0 : Int64) (k1 : Int64) (now : Int32) (x_wd : Nat) (x_beg : Nat) (x_std : Nat) (x_dea : Nat) (x_frm : Nat) (x_alv : Nat) (x_stm : Nat) (x_mov : Nat) (x_dwn : Nat) (x_ctd : Nat) (x_cutm : Nat) (x_pha : Nat) (x_usd : Nat) (x_gol : Nat) (x_esr : Nat) (x_epo : Nat) (x_offm : Nat) (x_ast : Nat) (x_opn : Nat) (x_ssr : Nat) (x_spo : Nat) (x_awa : Nat) (x_dat : Nat) (kpt : Int32) (x_hd : Nat) (by0 : Int32) (to0 : Int32) (rep : Int32) (had : Int32) (ost : Int32) (bst : Int32) (x_inr : Nat) (b : Int32) (sz : Nat) : zM l y_Mod_isServer (zT y_Mod_isServer b_Mod_isServer 2 (some .boolean)) (zR 0 0) 0 0 D K M [.ref m0, .int b] [cO m0 11 [.int (nI bN), .int (nI sN0), .int (nI pN), .long k0, .long k1, .int now, .ref x_wd, .ref x_beg, .ref x_std, .ref x_dea, .ref x_frm, .ref x_alv, .ref x_stm, .ref x_mov, .ref x_dwn, .ref x_ctd, .ref x_cutm, .ref x_pha, .ref x_usd, .ref x_gol, .ref x_esr, .ref x_epo, .ref x_offm, .ref x_ast, .ref x_opn, .ref x_ssr, .ref x_spo, .ref x_awa, .ref x_dat, .int kpt, .ref x_hd, .int by0, .int to0, .int rep, .int had, .int ost, .int bst, .ref x_inr]] sz (zQi D K M (g_is b sN0) [cO m0 11 [.int (nI bN), .int (nI sN0), .int (nI pN), .long k0, .long k1, .int now, .ref x_wd, .ref x_beg, .ref x_std, .ref x_dea, .ref x_frm, .ref x_alv, .ref x_stm, .ref x_mov, .ref x_dwn, .ref x_ctd, .ref x_cutm, .ref x_pha, .ref x_usd, .ref x_gol, .ref x_esr, .ref x_epo, .ref x_offm, .ref x_ast, .ref x_opn, .ref x_ssr, .ref x_spo, .ref x_awa, .ref x_dat, .int kpt, .ref x_hd, .int by0, .int to0, .int rep, .int had, .int ost, .int bst, .ref x_inr]]) := by
  refine zx_head (by decide) (Nat.le_of_ble_eq_true rfl) ?_
  intro _ _ _ _ _ _ _ _ _ hF hr hlk hnm
  refine zx_iload_n (pc := 0) hF d_Mod_isServer_0 rfl 1 rfl ?_
  refine zx_if_lt (pc := 1) hF d_Mod_isServer_1 (tgt := 16) rfl (fun h1 => ?_) (fun h1 => ?_)
  · refine zx_iconst (pc := 16) hF d_Mod_isServer_16 k_i0 ?_
    exact zx_zret (pc := 17) hF hr hlk rfl (by first | with_reducible rfl | (simp only [g_is, if_pos h1]; done) | (simp only [g_is, h1, ↓reduceIte]; done) | simp [g_is, h1]) (by first | with_reducible rfl | (simp only [g_is, if_pos h1]; done) | (simp only [g_is, h1, ↓reduceIte]; done) | simp [g_is, h1]) d_Mod_isServer_17
  · refine zx_iload_n (pc := 4) hF d_Mod_isServer_4 rfl 1 rfl ?_
    refine zx_aload_n (pc := 5) hF d_Mod_isServer_5 rfl 0 rfl ?_
    refine zg_Mod_104 (pc := 6) hF 0 rfl rfl d_Mod_isServer_6 ?_
    refine zx_icmp_ge (pc := 9) hF d_Mod_isServer_9 (tgt := 16) rfl (fun h9 => ?_) (fun h9 => ?_)
    · refine zx_iconst (pc := 16) hF d_Mod_isServer_16 k_i0 ?_
      exact zx_zret (pc := 17) hF hr hlk rfl (by first | with_reducible rfl | (simp only [g_is, if_neg h1, if_pos h9]; done) | (simp only [g_is, h1, h9, ↓reduceIte]; done) | simp [g_is, h1, h9]) (by first | with_reducible rfl | (simp only [g_is, if_neg h1, if_pos h9]; done) | (simp only [g_is, h1, h9, ↓reduceIte]; done) | simp [g_is, h1, h9]) d_Mod_isServer_17
    · refine zx_iconst (pc := 12) hF d_Mod_isServer_12 k_i1 ?_
      refine zx_goto (pc := 13) hF d_Mod_isServer_13 (tgt := 17) rfl ?_
      exact zx_zret (pc := 17) hF hr hlk rfl (by first | with_reducible rfl | (simp only [g_is, if_neg h1, if_neg h9]; done) | (simp only [g_is, h1, h9, ↓reduceIte]; done) | simp [g_is, h1, h9]) (by first | with_reducible rfl | (simp only [g_is, if_neg h1, if_neg h9]; done) | (simp only [g_is, h1, h9, ↓reduceIte]; done) | simp [g_is, h1, h9]) d_Mod_isServer_17
end
section
theorem d_Mod_ups_0 : decode b_Mod_ups 0 = .ok (.iconst 0, 1) := by decide +kernel
theorem d_Mod_ups_1 : decode b_Mod_ups 1 = .ok (.istore_n 2, 1) := by decide +kernel
theorem d_Mod_ups_2 : decode b_Mod_ups 2 = .ok (.iconst 0, 1) := by decide +kernel
theorem d_Mod_ups_3 : decode b_Mod_ups 3 = .ok (.istore_n 3, 1) := by decide +kernel
theorem d_Mod_ups_4 : decode b_Mod_ups 4 = .ok (.iload_n 3, 1) := by decide +kernel
theorem d_Mod_ups_5 : decode b_Mod_ups 5 = .ok (.aload_n 0, 1) := by decide +kernel
theorem d_Mod_ups_6 : decode b_Mod_ups 6 = .ok (.getfield 104, 3) := by decide +kernel
theorem d_Mod_ups_9 : decode b_Mod_ups 9 = .ok (.if_icmp .ge 31, 3) := by decide +kernel
theorem d_Mod_ups_12 : decode b_Mod_ups 12 = .ok (.aload_n 0, 1) := by decide +kernel
theorem d_Mod_ups_13 : decode b_Mod_ups 13 = .ok (.getfield 36, 3) := by decide +kernel
theorem d_Mod_ups_16 : decode b_Mod_ups 16 = .ok (.bipush 8, 2) := by decide +kernel
theorem d_Mod_ups_18 : decode b_Mod_ups 18 = .ok (.iload_n 1, 1) := by decide +kernel
theorem d_Mod_ups_19 : decode b_Mod_ups 19 = .ok (.imul, 1) := by decide +kernel
theorem d_Mod_ups_20 : decode b_Mod_ups 20 = .ok (.iload_n 3, 1) := by decide +kernel
theorem d_Mod_ups_21 : decode b_Mod_ups 21 = .ok (.iadd, 1) := by decide +kernel
theorem d_Mod_ups_22 : decode b_Mod_ups 22 = .ok (.baload, 1) := by decide +kernel
theorem d_Mod_ups_23 : decode b_Mod_ups 23 = .ok (.ifCond .eq 7, 3) := by decide +kernel
theorem d_Mod_ups_26 : decode b_Mod_ups 26 = .ok (.iload_n 2, 1) := by decide +kernel
theorem d_Mod_ups_27 : decode b_Mod_ups 27 = .ok (.goto 6, 3) := by decide +kernel
theorem d_Mod_ups_30 : decode b_Mod_ups 30 = .ok (.iload_n 2, 1) := by decide +kernel
theorem d_Mod_ups_31 : decode b_Mod_ups 31 = .ok (.iconst 1, 1) := by decide +kernel
theorem d_Mod_ups_32 : decode b_Mod_ups 32 = .ok (.iadd, 1) := by decide +kernel
theorem d_Mod_ups_33 : decode b_Mod_ups 33 = .ok (.istore_n 2, 1) := by decide +kernel
theorem d_Mod_ups_34 : decode b_Mod_ups 34 = .ok (.iinc 3 1, 3) := by decide +kernel
theorem d_Mod_ups_37 : decode b_Mod_ups 37 = .ok (.goto (-33), 3) := by decide +kernel
theorem d_Mod_ups_40 : decode b_Mod_ups 40 = .ok (.iload_n 2, 1) := by decide +kernel
theorem d_Mod_ups_41 : decode b_Mod_ups 41 = .ok (.ireturn, 1) := by decide +kernel
theorem d_Mod_wish_0 : decode b_Mod_wish 0 = .ok (.iconst 0, 1) := by decide +kernel
theorem d_Mod_wish_1 : decode b_Mod_wish 1 = .ok (.istore_n 2, 1) := by decide +kernel
theorem d_Mod_wish_2 : decode b_Mod_wish 2 = .ok (.iload_n 2, 1) := by decide +kernel
theorem d_Mod_wish_3 : decode b_Mod_wish 3 = .ok (.aload_n 0, 1) := by decide +kernel
theorem d_Mod_wish_4 : decode b_Mod_wish 4 = .ok (.getfield 107, 3) := by decide +kernel
theorem d_Mod_wish_7 : decode b_Mod_wish 7 = .ok (.if_icmp .ge 41, 3) := by decide +kernel
theorem d_Mod_wish_10 : decode b_Mod_wish 10 = .ok (.aload_n 0, 1) := by decide +kernel
theorem d_Mod_wish_11 : decode b_Mod_wish 11 = .ok (.getfield 13, 3) := by decide +kernel
theorem d_Mod_wish_14 : decode b_Mod_wish 14 = .ok (.iload_n 1, 1) := by decide +kernel
theorem d_Mod_wish_15 : decode b_Mod_wish 15 = .ok (.iaload, 1) := by decide +kernel
theorem d_Mod_wish_16 : decode b_Mod_wish 16 = .ok (.iload_n 2, 1) := by decide +kernel
theorem d_Mod_wish_17 : decode b_Mod_wish 17 = .ok (.aload_n 0, 1) := by decide +kernel
theorem d_Mod_wish_18 : decode b_Mod_wish 18 = .ok (.getfield 17, 3) := by decide +kernel
theorem d_Mod_wish_21 : decode b_Mod_wish 21 = .ok (.iload_n 1, 1) := by decide +kernel
theorem d_Mod_wish_22 : decode b_Mod_wish 22 = .ok (.iaload, 1) := by decide +kernel
theorem d_Mod_wish_23 : decode b_Mod_wish 23 = .ok (.imul, 1) := by decide +kernel
theorem d_Mod_wish_24 : decode b_Mod_wish 24 = .ok (.iadd, 1) := by decide +kernel
theorem d_Mod_wish_25 : decode b_Mod_wish 25 = .ok (.aload_n 0, 1) := by decide +kernel
theorem d_Mod_wish_26 : decode b_Mod_wish 26 = .ok (.getfield 107, 3) := by decide +kernel
theorem d_Mod_wish_29 : decode b_Mod_wish 29 = .ok (.irem, 1) := by decide +kernel
theorem d_Mod_wish_30 : decode b_Mod_wish 30 = .ok (.istore_n 3, 1) := by decide +kernel
theorem d_Mod_wish_31 : decode b_Mod_wish 31 = .ok (.aload_n 0, 1) := by decide +kernel
theorem d_Mod_wish_32 : decode b_Mod_wish 32 = .ok (.getfield 20, 3) := by decide +kernel
theorem d_Mod_wish_35 : decode b_Mod_wish 35 = .ok (.iload_n 3, 1) := by decide +kernel
theorem d_Mod_wish_36 : decode b_Mod_wish 36 = .ok (.iaload, 1) := by decide +kernel
theorem d_Mod_wish_37 : decode b_Mod_wish 37 = .ok (.ifCond .ge 5, 3) := by decide +kernel
theorem d_Mod_wish_40 : decode b_Mod_wish 40 = .ok (.iload_n 3, 1) := by decide +kernel
theorem d_Mod_wish_41 : decode b_Mod_wish 41 = .ok (.ireturn, 1) := by decide +kernel
theorem d_Mod_wish_42 : decode b_Mod_wish 42 = .ok (.iinc 2 1, 3) := by decide +kernel
theorem d_Mod_wish_45 : decode b_Mod_wish 45 = .ok (.goto (-43), 3) := by decide +kernel
theorem d_Mod_wish_48 : decode b_Mod_wish 48 = .ok (.iconst (-1), 1) := by decide +kernel
theorem d_Mod_wish_49 : decode b_Mod_wish 49 = .ok (.ireturn, 1) := by decide +kernel
theorem d_Mod_deal_0 : decode b_Mod_deal 0 = .ok (.iconst 0, 1) := by decide +kernel
theorem d_Mod_deal_1 : decode b_Mod_deal 1 = .ok (.istore_n 2, 1) := by decide +kernel
theorem d_Mod_deal_2 : decode b_Mod_deal 2 = .ok (.iload_n 2, 1) := by decide +kernel
theorem d_Mod_deal_3 : decode b_Mod_deal 3 = .ok (.bipush 101, 2) := by decide +kernel
theorem d_Mod_deal_5 : decode b_Mod_deal 5 = .ok (.if_icmp .ge 16, 3) := by decide +kernel
theorem d_Mod_deal_8 : decode b_Mod_deal 8 = .ok (.aload_n 0, 1) := by decide +kernel
theorem d_Mod_deal_9 : decode b_Mod_deal 9 = .ok (.getfield 20, 3) := by decide +kernel
theorem d_Mod_deal_12 : decode b_Mod_deal 12 = .ok (.iload_n 2, 1) := by decide +kernel
theorem d_Mod_deal_13 : decode b_Mod_deal 13 = .ok (.iconst (-1), 1) := by decide +kernel
theorem d_Mod_deal_14 : decode b_Mod_deal 14 = .ok (.iastore, 1) := by decide +kernel
theorem d_Mod_deal_15 : decode b_Mod_deal 15 = .ok (.iinc 2 1, 3) := by decide +kernel
theorem d_Mod_deal_18 : decode b_Mod_deal 18 = .ok (.goto (-16), 3) := by decide +kernel
theorem d_Mod_deal_21 : decode b_Mod_deal 21 = .ok (.aload_n 0, 1) := by decide +kernel
theorem d_Mod_deal_22 : decode b_Mod_deal 22 = .ok (.iload_n 1, 1) := by decide +kernel
theorem d_Mod_deal_23 : decode b_Mod_deal 23 = .ok (.invokevirtual 180, 3) := by decide +kernel
theorem d_Mod_deal_26 : decode b_Mod_deal 26 = .ok (.ifCond .ne 7, 3) := by decide +kernel
theorem d_Mod_deal_29 : decode b_Mod_deal 29 = .ok (.iconst 0, 1) := by decide +kernel
theorem d_Mod_deal_30 : decode b_Mod_deal 30 = .ok (.goto 7, 3) := by decide +kernel
theorem d_Mod_deal_33 : decode b_Mod_deal 33 = .ok (.aload_n 0, 1) := by decide +kernel
theorem d_Mod_deal_34 : decode b_Mod_deal 34 = .ok (.getfield 107, 3) := by decide +kernel
theorem d_Mod_deal_37 : decode b_Mod_deal 37 = .ok (.istore_n 2, 1) := by decide +kernel
theorem d_Mod_deal_38 : decode b_Mod_deal 38 = .ok (.iconst 0, 1) := by decide +kernel
theorem d_Mod_deal_39 : decode b_Mod_deal 39 = .ok (.istore_n 3, 1) := by decide +kernel
theorem d_Mod_deal_40 : decode b_Mod_deal 40 = .ok (.iload_n 3, 1) := by decide +kernel
theorem d_Mod_deal_41 : decode b_Mod_deal 41 = .ok (.sipush 1000, 3) := by decide +kernel
theorem d_Mod_deal_44 : decode b_Mod_deal 44 = .ok (.if_icmp .ge 66, 3) := by decide +kernel
theorem d_Mod_deal_47 : decode b_Mod_deal 47 = .ok (.iload_n 2, 1) := by decide +kernel
theorem d_Mod_deal_48 : decode b_Mod_deal 48 = .ok (.ifCond .le 62, 3) := by decide +kernel
theorem d_Mod_deal_51 : decode b_Mod_deal 51 = .ok (.iload_n 3, 1) := by decide +kernel
theorem d_Mod_deal_52 : decode b_Mod_deal 52 = .ok (.aload_n 0, 1) := by decide +kernel
theorem d_Mod_deal_53 : decode b_Mod_deal 53 = .ok (.getfield 104, 3) := by decide +kernel
theorem d_Mod_deal_56 : decode b_Mod_deal 56 = .ok (.irem, 1) := by decide +kernel
theorem d_Mod_deal_57 : decode b_Mod_deal 57 = .ok (.istore 4, 2) := by decide +kernel
theorem d_Mod_deal_59 : decode b_Mod_deal 59 = .ok (.aload_n 0, 1) := by decide +kernel
theorem d_Mod_deal_60 : decode b_Mod_deal 60 = .ok (.getfield 36, 3) := by decide +kernel
theorem d_Mod_deal_63 : decode b_Mod_deal 63 = .ok (.bipush 8, 2) := by decide +kernel
theorem d_Mod_deal_65 : decode b_Mod_deal 65 = .ok (.iload_n 1, 1) := by decide +kernel
theorem d_Mod_deal_66 : decode b_Mod_deal 66 = .ok (.imul, 1) := by decide +kernel
theorem d_Mod_deal_67 : decode b_Mod_deal 67 = .ok (.iload 4, 2) := by decide +kernel
theorem d_Mod_deal_69 : decode b_Mod_deal 69 = .ok (.iadd, 1) := by decide +kernel
theorem d_Mod_deal_70 : decode b_Mod_deal 70 = .ok (.baload, 1) := by decide +kernel
theorem d_Mod_deal_71 : decode b_Mod_deal 71 = .ok (.ifCond .ne 33, 3) := by decide +kernel
theorem d_Mod_deal_74 : decode b_Mod_deal 74 = .ok (.iload_n 2, 1) := by decide +kernel
theorem d_Mod_deal_75 : decode b_Mod_deal 75 = .ok (.ifCond .le 29, 3) := by decide +kernel
theorem d_Mod_deal_78 : decode b_Mod_deal 78 = .ok (.aload_n 0, 1) := by decide +kernel
theorem d_Mod_deal_79 : decode b_Mod_deal 79 = .ok (.iload 4, 2) := by decide +kernel
theorem d_Mod_deal_81 : decode b_Mod_deal 81 = .ok (.invokevirtual 183, 3) := by decide +kernel
theorem d_Mod_deal_84 : decode b_Mod_deal 84 = .ok (.istore 5, 2) := by decide +kernel
theorem d_Mod_deal_86 : decode b_Mod_deal 86 = .ok (.iload 5, 2) := by decide +kernel
theorem d_Mod_deal_88 : decode b_Mod_deal 88 = .ok (.ifCond .lt 12, 3) := by decide +kernel
theorem d_Mod_deal_91 : decode b_Mod_deal 91 = .ok (.aload_n 0, 1) := by decide +kernel
theorem d_Mod_deal_92 : decode b_Mod_deal 92 = .ok (.getfield 20, 3) := by decide +kernel
theorem d_Mod_deal_95 : decode b_Mod_deal 95 = .ok (.iload 5, 2) := by decide +kernel
theorem d_Mod_deal_97 : decode b_Mod_deal 97 = .ok (.iload 4, 2) := by decide +kernel
theorem d_Mod_deal_99 : decode b_Mod_deal 99 = .ok (.iastore, 1) := by decide +kernel
theorem d_Mod_deal_100 : decode b_Mod_deal 100 = .ok (.iload_n 2, 1) := by decide +kernel
theorem d_Mod_deal_101 : decode b_Mod_deal 101 = .ok (.iconst 1, 1) := by decide +kernel
theorem d_Mod_deal_102 : decode b_Mod_deal 102 = .ok (.isub, 1) := by decide +kernel
theorem d_Mod_deal_103 : decode b_Mod_deal 103 = .ok (.istore_n 2, 1) := by decide +kernel
theorem d_Mod_deal_104 : decode b_Mod_deal 104 = .ok (.iinc 3 1, 3) := by decide +kernel
theorem d_Mod_deal_107 : decode b_Mod_deal 107 = .ok (.goto (-67), 3) := by decide +kernel
theorem d_Mod_deal_110 : decode b_Mod_deal 110 = .ok (.return_, 1) := by decide +kernel
theorem d_Mod_place_0 : decode b_Mod_place 0 = .ok (.aload_n 0, 1) := by decide +kernel
theorem d_Mod_place_1 : decode b_Mod_place 1 = .ok (.iload_n 1, 1) := by decide +kernel
theorem d_Mod_place_2 : decode b_Mod_place 2 = .ok (.invokevirtual 186, 3) := by decide +kernel
theorem d_Mod_place_5 : decode b_Mod_place 5 = .ok (.ifCond .eq 15, 3) := by decide +kernel
theorem d_Mod_place_8 : decode b_Mod_place 8 = .ok (.iload_n 2, 1) := by decide +kernel
theorem d_Mod_place_9 : decode b_Mod_place 9 = .ok (.ifCond .lt 11, 3) := by decide +kernel
theorem d_Mod_place_12 : decode b_Mod_place 12 = .ok (.iload_n 2, 1) := by decide +kernel
theorem d_Mod_place_13 : decode b_Mod_place 13 = .ok (.aload_n 0, 1) := by decide +kernel
theorem d_Mod_place_14 : decode b_Mod_place 14 = .ok (.getfield 107, 3) := by decide +kernel
theorem d_Mod_place_17 : decode b_Mod_place 17 = .ok (.if_icmp .lt 5, 3) := by decide +kernel
theorem d_Mod_place_20 : decode b_Mod_place 20 = .ok (.iconst (-1), 1) := by decide +kernel
theorem d_Mod_place_21 : decode b_Mod_place 21 = .ok (.ireturn, 1) := by decide +kernel
theorem d_Mod_place_22 : decode b_Mod_place 22 = .ok (.aload_n 0, 1) := by decide +kernel
theorem d_Mod_place_23 : decode b_Mod_place 23 = .ok (.iload_n 1, 1) := by decide +kernel
theorem d_Mod_place_24 : decode b_Mod_place 24 = .ok (.invokevirtual 189, 3) := by decide +kernel
theorem d_Mod_place_27 : decode b_Mod_place 27 = .ok (.aload_n 0, 1) := by decide +kernel
theorem d_Mod_place_28 : decode b_Mod_place 28 = .ok (.getfield 20, 3) := by decide +kernel
theorem d_Mod_place_31 : decode b_Mod_place 31 = .ok (.iload_n 2, 1) := by decide +kernel
theorem d_Mod_place_32 : decode b_Mod_place 32 = .ok (.iaload, 1) := by decide +kernel
theorem d_Mod_place_33 : decode b_Mod_place 33 = .ok (.ireturn, 1) := by decide +kernel
theorem d_Mod_share_0 : decode b_Mod_share 0 = .ok (.aload_n 0, 1) := by decide +kernel
theorem d_Mod_share_1 : decode b_Mod_share 1 = .ok (.iload_n 1, 1) := by decide +kernel
theorem d_Mod_share_2 : decode b_Mod_share 2 = .ok (.invokevirtual 186, 3) := by decide +kernel
theorem d_Mod_share_5 : decode b_Mod_share 5 = .ok (.ifCond .eq 11, 3) := by decide +kernel
theorem d_Mod_share_8 : decode b_Mod_share 8 = .ok (.aload_n 0, 1) := by decide +kernel
theorem d_Mod_share_9 : decode b_Mod_share 9 = .ok (.iload_n 2, 1) := by decide +kernel
theorem d_Mod_share_10 : decode b_Mod_share 10 = .ok (.invokevirtual 192, 3) := by decide +kernel
theorem d_Mod_share_13 : decode b_Mod_share 13 = .ok (.ifCond .ne 5, 3) := by decide +kernel
theorem d_Mod_share_16 : decode b_Mod_share 16 = .ok (.iconst (-1), 1) := by decide +kernel
theorem d_Mod_share_17 : decode b_Mod_share 17 = .ok (.ireturn, 1) := by decide +kernel
theorem d_Mod_share_18 : decode b_Mod_share 18 = .ok (.aload_n 0, 1) := by decide +kernel
theorem d_Mod_share_19 : decode b_Mod_share 19 = .ok (.iload_n 1, 1) := by decide +kernel
theorem d_Mod_share_20 : decode b_Mod_share 20 = .ok (.invokevirtual 189, 3) := by decide +kernel
theorem d_Mod_share_23 : decode b_Mod_share 23 = .ok (.iconst 0, 1) := by decide +kernel
theorem d_Mod_share_24 : decode b_Mod_share 24 = .ok (.istore_n 3, 1) := by decide +kernel
theorem d_Mod_share_25 : decode b_Mod_share 25 = .ok (.iconst 0, 1) := by decide +kernel
theorem d_Mod_share_26 : decode b_Mod_share 26 = .ok (.istore 4, 2) := by decide +kernel
theorem d_Mod_share_28 : decode b_Mod_share 28 = .ok (.iload 4, 2) := by decide +kernel
theorem d_Mod_share_30 : decode b_Mod_share 30 = .ok (.aload_n 0, 1) := by decide +kernel
theorem d_Mod_share_31 : decode b_Mod_share 31 = .ok (.getfield 107, 3) := by decide +kernel
theorem d_Mod_share_34 : decode b_Mod_share 34 = .ok (.if_icmp .ge 28, 3) := by decide +kernel
theorem d_Mod_share_37 : decode b_Mod_share 37 = .ok (.aload_n 0, 1) := by decide +kernel
theorem d_Mod_share_38 : decode b_Mod_share 38 = .ok (.getfield 20, 3) := by decide +kernel
theorem d_Mod_share_41 : decode b_Mod_share 41 = .ok (.iload 4, 2) := by decide +kernel
theorem d_Mod_share_43 : decode b_Mod_share 43 = .ok (.iaload, 1) := by decide +kernel
theorem d_Mod_share_44 : decode b_Mod_share 44 = .ok (.iload_n 2, 1) := by decide +kernel
theorem d_Mod_share_45 : decode b_Mod_share 45 = .ok (.if_icmp .ne 9, 3) := by decide +kernel
theorem d_Mod_share_48 : decode b_Mod_share 48 = .ok (.iload_n 3, 1) := by decide +kernel
theorem d_Mod_share_49 : decode b_Mod_share 49 = .ok (.iconst 1, 1) := by decide +kernel
theorem d_Mod_share_50 : decode b_Mod_share 50 = .ok (.iadd, 1) := by decide +kernel
theorem d_Mod_share_51 : decode b_Mod_share 51 = .ok (.goto 4, 3) := by decide +kernel
theorem d_Mod_share_54 : decode b_Mod_share 54 = .ok (.iload_n 3, 1) := by decide +kernel
theorem d_Mod_share_55 : decode b_Mod_share 55 = .ok (.istore_n 3, 1) := by decide +kernel
theorem d_Mod_share_56 : decode b_Mod_share 56 = .ok (.iinc 4 1, 3) := by decide +kernel
theorem d_Mod_share_59 : decode b_Mod_share 59 = .ok (.goto (-31), 3) := by decide +kernel
theorem d_Mod_share_62 : decode b_Mod_share 62 = .ok (.iload_n 3, 1) := by decide +kernel
theorem d_Mod_share_63 : decode b_Mod_share 63 = .ok (.ireturn, 1) := by decide +kernel
theorem d_Mod_moved_0 : decode b_Mod_moved 0 = .ok (.aload_n 0, 1) := by decide +kernel
theorem d_Mod_moved_1 : decode b_Mod_moved 1 = .ok (.iload_n 1, 1) := by decide +kernel
theorem d_Mod_moved_2 : decode b_Mod_moved 2 = .ok (.invokevirtual 186, 3) := by decide +kernel
theorem d_Mod_moved_5 : decode b_Mod_moved 5 = .ok (.ifCond .eq 12, 3) := by decide +kernel
theorem d_Mod_moved_8 : decode b_Mod_moved 8 = .ok (.aload_n 0, 1) := by decide +kernel
theorem d_Mod_moved_9 : decode b_Mod_moved 9 = .ok (.getfield 33, 3) := by decide +kernel
theorem d_Mod_moved_12 : decode b_Mod_moved 12 = .ok (.iload_n 1, 1) := by decide +kernel
theorem d_Mod_moved_13 : decode b_Mod_moved 13 = .ok (.iaload, 1) := by decide +kernel
theorem d_Mod_moved_14 : decode b_Mod_moved 14 = .ok (.goto 4, 3) := by decide +kernel
theorem d_Mod_moved_17 : decode b_Mod_moved 17 = .ok (.iconst (-1), 1) := by decide +kernel
theorem d_Mod_moved_18 : decode b_Mod_moved 18 = .ok (.ireturn, 1) := by decide +kernel
theorem d_Mod_live_0 : decode b_Mod_live 0 = .ok (.aload_n 0, 1) := by decide +kernel
theorem d_Mod_live_1 : decode b_Mod_live 1 = .ok (.iload_n 1, 1) := by decide +kernel
theorem d_Mod_live_2 : decode b_Mod_live 2 = .ok (.invokevirtual 186, 3) := by decide +kernel
theorem d_Mod_live_5 : decode b_Mod_live 5 = .ok (.ifCond .eq 13, 3) := by decide +kernel
theorem d_Mod_live_8 : decode b_Mod_live 8 = .ok (.aload_n 0, 1) := by decide +kernel
theorem d_Mod_live_9 : decode b_Mod_live 9 = .ok (.getfield 26, 3) := by decide +kernel
theorem d_Mod_live_12 : decode b_Mod_live 12 = .ok (.iload_n 1, 1) := by decide +kernel
theorem d_Mod_live_13 : decode b_Mod_live 13 = .ok (.baload, 1) := by decide +kernel
theorem d_Mod_live_14 : decode b_Mod_live 14 = .ok (.iload_n 2, 1) := by decide +kernel
theorem d_Mod_live_15 : decode b_Mod_live 15 = .ok (.if_icmp .ne 5, 3) := by decide +kernel
theorem d_Mod_live_18 : decode b_Mod_live 18 = .ok (.iconst 0, 1) := by decide +kernel
theorem d_Mod_live_19 : decode b_Mod_live 19 = .ok (.ireturn, 1) := by decide +kernel
theorem d_Mod_live_20 : decode b_Mod_live 20 = .ok (.aload_n 0, 1) := by decide +kernel
theorem d_Mod_live_21 : decode b_Mod_live 21 = .ok (.getfield 26, 3) := by decide +kernel
theorem d_Mod_live_24 : decode b_Mod_live 24 = .ok (.iload_n 1, 1) := by decide +kernel
theorem d_Mod_live_25 : decode b_Mod_live 25 = .ok (.iload_n 2, 1) := by decide +kernel
theorem d_Mod_live_26 : decode b_Mod_live 26 = .ok (.bastore, 1) := by decide +kernel
theorem d_Mod_live_27 : decode b_Mod_live 27 = .ok (.iload_n 2, 1) := by decide +kernel
theorem d_Mod_live_28 : decode b_Mod_live 28 = .ok (.ifCond .ne 29, 3) := by decide +kernel
theorem d_Mod_live_31 : decode b_Mod_live 31 = .ok (.iconst 0, 1) := by decide +kernel
theorem d_Mod_live_32 : decode b_Mod_live 32 = .ok (.istore_n 3, 1) := by decide +kernel
theorem d_Mod_live_33 : decode b_Mod_live 33 = .ok (.iload_n 3, 1) := by decide +kernel
theorem d_Mod_live_34 : decode b_Mod_live 34 = .ok (.bipush 8, 2) := by decide +kernel
theorem d_Mod_live_36 : decode b_Mod_live 36 = .ok (.if_icmp .ge 21, 3) := by decide +kernel
theorem d_Mod_live_39 : decode b_Mod_live 39 = .ok (.aload_n 0, 1) := by decide +kernel
theorem d_Mod_live_40 : decode b_Mod_live 40 = .ok (.getfield 45, 3) := by decide +kernel
theorem d_Mod_live_43 : decode b_Mod_live 43 = .ok (.bipush 8, 2) := by decide +kernel
theorem d_Mod_live_45 : decode b_Mod_live 45 = .ok (.iload_n 1, 1) := by decide +kernel
theorem d_Mod_live_46 : decode b_Mod_live 46 = .ok (.imul, 1) := by decide +kernel
theorem d_Mod_live_47 : decode b_Mod_live 47 = .ok (.iload_n 3, 1) := by decide +kernel
theorem d_Mod_live_48 : decode b_Mod_live 48 = .ok (.iadd, 1) := by decide +kernel
theorem d_Mod_live_49 : decode b_Mod_live 49 = .ok (.iconst 0, 1) := by decide +kernel
theorem d_Mod_live_50 : decode b_Mod_live 50 = .ok (.iastore, 1) := by decide +kernel
theorem d_Mod_live_51 : decode b_Mod_live 51 = .ok (.iinc 3 1, 3) := by decide +kernel
theorem d_Mod_live_54 : decode b_Mod_live 54 = .ok (.goto (-21), 3) := by decide +kernel
theorem d_Mod_live_57 : decode b_Mod_live 57 = .ok (.iconst 1, 1) := by decide +kernel
theorem d_Mod_live_58 : decode b_Mod_live 58 = .ok (.ireturn, 1) := by decide +kernel
theorem d_Mod_power_0 : decode b_Mod_power 0 = .ok (.aload_n 0, 1) := by decide +kernel
theorem d_Mod_power_1 : decode b_Mod_power 1 = .ok (.iload_n 1, 1) := by decide +kernel
theorem d_Mod_power_2 : decode b_Mod_power 2 = .ok (.invokevirtual 192, 3) := by decide +kernel
theorem d_Mod_power_5 : decode b_Mod_power 5 = .ok (.ifCond .eq 13, 3) := by decide +kernel
theorem d_Mod_power_8 : decode b_Mod_power 8 = .ok (.aload_n 0, 1) := by decide +kernel
theorem d_Mod_power_9 : decode b_Mod_power 9 = .ok (.getfield 60, 3) := by decide +kernel
theorem d_Mod_power_12 : decode b_Mod_power 12 = .ok (.iload_n 1, 1) := by decide +kernel
theorem d_Mod_power_13 : decode b_Mod_power 13 = .ok (.baload, 1) := by decide +kernel
theorem d_Mod_power_14 : decode b_Mod_power 14 = .ok (.iload_n 2, 1) := by decide +kernel
theorem d_Mod_power_15 : decode b_Mod_power 15 = .ok (.if_icmp .eq 5, 3) := by decide +kernel
theorem d_Mod_power_18 : decode b_Mod_power 18 = .ok (.iconst 0, 1) := by decide +kernel
theorem d_Mod_power_19 : decode b_Mod_power 19 = .ok (.ireturn, 1) := by decide +kernel
theorem d_Mod_power_20 : decode b_Mod_power 20 = .ok (.aload_n 0, 1) := by decide +kernel
theorem d_Mod_power_21 : decode b_Mod_power 21 = .ok (.getfield 60, 3) := by decide +kernel
theorem d_Mod_power_24 : decode b_Mod_power 24 = .ok (.iload_n 1, 1) := by decide +kernel
theorem d_Mod_power_25 : decode b_Mod_power 25 = .ok (.iload_n 2, 1) := by decide +kernel
theorem d_Mod_power_26 : decode b_Mod_power 26 = .ok (.ifCond .ne 7, 3) := by decide +kernel
theorem d_Mod_power_29 : decode b_Mod_power 29 = .ok (.iconst 1, 1) := by decide +kernel
theorem d_Mod_power_30 : decode b_Mod_power 30 = .ok (.goto 4, 3) := by decide +kernel
theorem d_Mod_power_33 : decode b_Mod_power 33 = .ok (.iconst 0, 1) := by decide +kernel
theorem d_Mod_power_34 : decode b_Mod_power 34 = .ok (.bastore, 1) := by decide +kernel
theorem d_Mod_power_35 : decode b_Mod_power 35 = .ok (.iconst 0, 1) := by decide +kernel
theorem d_Mod_power_36 : decode b_Mod_power 36 = .ok (.istore_n 3, 1) := by decide +kernel
theorem d_Mod_power_37 : decode b_Mod_power 37 = .ok (.iload_n 3, 1) := by decide +kernel
theorem d_Mod_power_38 : decode b_Mod_power 38 = .ok (.bipush 10, 2) := by decide +kernel
theorem d_Mod_power_40 : decode b_Mod_power 40 = .ok (.if_icmp .ge 21, 3) := by decide +kernel
theorem d_Mod_power_43 : decode b_Mod_power 43 = .ok (.aload_n 0, 1) := by decide +kernel
theorem d_Mod_power_44 : decode b_Mod_power 44 = .ok (.getfield 66, 3) := by decide +kernel
theorem d_Mod_power_47 : decode b_Mod_power 47 = .ok (.bipush 10, 2) := by decide +kernel
theorem d_Mod_power_49 : decode b_Mod_power 49 = .ok (.iload_n 1, 1) := by decide +kernel
theorem d_Mod_power_50 : decode b_Mod_power 50 = .ok (.imul, 1) := by decide +kernel
theorem d_Mod_power_51 : decode b_Mod_power 51 = .ok (.iload_n 3, 1) := by decide +kernel
theorem d_Mod_power_52 : decode b_Mod_power 52 = .ok (.iadd, 1) := by decide +kernel
theorem d_Mod_power_53 : decode b_Mod_power 53 = .ok (.iconst 0, 1) := by decide +kernel
theorem d_Mod_power_54 : decode b_Mod_power 54 = .ok (.bastore, 1) := by decide +kernel
theorem d_Mod_power_55 : decode b_Mod_power 55 = .ok (.iinc 3 1, 3) := by decide +kernel
theorem d_Mod_power_58 : decode b_Mod_power 58 = .ok (.goto (-21), 3) := by decide +kernel
theorem d_Mod_power_61 : decode b_Mod_power 61 = .ok (.iconst 1, 1) := by decide +kernel
theorem d_Mod_power_62 : decode b_Mod_power 62 = .ok (.ireturn, 1) := by decide +kernel
theorem d_Mod_path_0 : decode b_Mod_path 0 = .ok (.aload_n 0, 1) := by decide +kernel
theorem d_Mod_path_1 : decode b_Mod_path 1 = .ok (.iload_n 1, 1) := by decide +kernel
theorem d_Mod_path_2 : decode b_Mod_path 2 = .ok (.invokevirtual 186, 3) := by decide +kernel
theorem d_Mod_path_5 : decode b_Mod_path 5 = .ok (.ifCond .eq 26, 3) := by decide +kernel
theorem d_Mod_path_8 : decode b_Mod_path 8 = .ok (.aload_n 0, 1) := by decide +kernel
theorem d_Mod_path_9 : decode b_Mod_path 9 = .ok (.iload_n 2, 1) := by decide +kernel
theorem d_Mod_path_10 : decode b_Mod_path 10 = .ok (.invokevirtual 192, 3) := by decide +kernel
theorem d_Mod_path_13 : decode b_Mod_path 13 = .ok (.ifCond .eq 18, 3) := by decide +kernel
theorem d_Mod_path_16 : decode b_Mod_path 16 = .ok (.aload_n 0, 1) := by decide +kernel
theorem d_Mod_path_17 : decode b_Mod_path 17 = .ok (.getfield 42, 3) := by decide +kernel
theorem d_Mod_path_20 : decode b_Mod_path 20 = .ok (.bipush 8, 2) := by decide +kernel
theorem d_Mod_path_22 : decode b_Mod_path 22 = .ok (.iload_n 1, 1) := by decide +kernel
theorem d_Mod_path_23 : decode b_Mod_path 23 = .ok (.imul, 1) := by decide +kernel
theorem d_Mod_path_24 : decode b_Mod_path 24 = .ok (.iload_n 2, 1) := by decide +kernel
theorem d_Mod_path_25 : decode b_Mod_path 25 = .ok (.iadd, 1) := by decide +kernel
theorem d_Mod_path_26 : decode b_Mod_path 26 = .ok (.baload, 1) := by decide +kernel
theorem d_Mod_path_27 : decode b_Mod_path 27 = .ok (.iload_n 3, 1) := by decide +kernel
theorem d_Mod_path_28 : decode b_Mod_path 28 = .ok (.if_icmp .eq 5, 3) := by decide +kernel
theorem d_Mod_path_31 : decode b_Mod_path 31 = .ok (.iconst 0, 1) := by decide +kernel
theorem d_Mod_path_32 : decode b_Mod_path 32 = .ok (.ireturn, 1) := by decide +kernel
theorem d_Mod_path_33 : decode b_Mod_path 33 = .ok (.aload_n 0, 1) := by decide +kernel
theorem d_Mod_path_34 : decode b_Mod_path 34 = .ok (.getfield 42, 3) := by decide +kernel
theorem d_Mod_path_37 : decode b_Mod_path 37 = .ok (.bipush 8, 2) := by decide +kernel
theorem d_Mod_path_39 : decode b_Mod_path 39 = .ok (.iload_n 1, 1) := by decide +kernel
theorem d_Mod_path_40 : decode b_Mod_path 40 = .ok (.imul, 1) := by decide +kernel
theorem d_Mod_path_41 : decode b_Mod_path 41 = .ok (.iload_n 2, 1) := by decide +kernel
theorem d_Mod_path_42 : decode b_Mod_path 42 = .ok (.iadd, 1) := by decide +kernel
theorem d_Mod_path_43 : decode b_Mod_path 43 = .ok (.iload_n 3, 1) := by decide +kernel
theorem d_Mod_path_44 : decode b_Mod_path 44 = .ok (.ifCond .ne 7, 3) := by decide +kernel
theorem d_Mod_path_47 : decode b_Mod_path 47 = .ok (.iconst 1, 1) := by decide +kernel
theorem d_Mod_path_48 : decode b_Mod_path 48 = .ok (.goto 4, 3) := by decide +kernel
theorem d_Mod_path_51 : decode b_Mod_path 51 = .ok (.iconst 0, 1) := by decide +kernel
theorem d_Mod_path_52 : decode b_Mod_path 52 = .ok (.bastore, 1) := by decide +kernel
theorem d_Mod_path_53 : decode b_Mod_path 53 = .ok (.iconst 1, 1) := by decide +kernel
theorem d_Mod_path_54 : decode b_Mod_path 54 = .ok (.ireturn, 1) := by decide +kernel
theorem d_Mod_meets_0 : decode b_Mod_meets 0 = .ok (.aload_n 0, 1) := by decide +kernel
theorem d_Mod_meets_1 : decode b_Mod_meets 1 = .ok (.getfield 60, 3) := by decide +kernel
theorem d_Mod_meets_4 : decode b_Mod_meets 4 = .ok (.iload_n 2, 1) := by decide +kernel
theorem d_Mod_meets_5 : decode b_Mod_meets 5 = .ok (.baload, 1) := by decide +kernel
theorem d_Mod_meets_6 : decode b_Mod_meets 6 = .ok (.ifCond .ne 21, 3) := by decide +kernel
theorem d_Mod_meets_9 : decode b_Mod_meets 9 = .ok (.aload_n 0, 1) := by decide +kernel
theorem d_Mod_meets_10 : decode b_Mod_meets 10 = .ok (.getfield 42, 3) := by decide +kernel
theorem d_Mod_meets_13 : decode b_Mod_meets 13 = .ok (.bipush 8, 2) := by decide +kernel
theorem d_Mod_meets_15 : decode b_Mod_meets 15 = .ok (.iload_n 1, 1) := by decide +kernel
theorem d_Mod_meets_16 : decode b_Mod_meets 16 = .ok (.imul, 1) := by decide +kernel
theorem d_Mod_meets_17 : decode b_Mod_meets 17 = .ok (.iload_n 2, 1) := by decide +kernel
theorem d_Mod_meets_18 : decode b_Mod_meets 18 = .ok (.iadd, 1) := by decide +kernel
theorem d_Mod_meets_19 : decode b_Mod_meets 19 = .ok (.baload, 1) := by decide +kernel
theorem d_Mod_meets_20 : decode b_Mod_meets 20 = .ok (.ifCond .ne 7, 3) := by decide +kernel
theorem d_Mod_meets_23 : decode b_Mod_meets 23 = .ok (.iconst 1, 1) := by decide +kernel
theorem d_Mod_meets_24 : decode b_Mod_meets 24 = .ok (.goto 4, 3) := by decide +kernel
theorem d_Mod_meets_27 : decode b_Mod_meets 27 = .ok (.iconst 0, 1) := by decide +kernel
theorem d_Mod_meets_28 : decode b_Mod_meets 28 = .ok (.ireturn, 1) := by decide +kernel
theorem d_Mod_ask_0 : decode b_Mod_ask 0 = .ok (.bipush 8, 2) := by decide +kernel
theorem d_Mod_ask_2 : decode b_Mod_ask 2 = .ok (.iload_n 1, 1) := by decide +kernel
theorem d_Mod_ask_3 : decode b_Mod_ask 3 = .ok (.imul, 1) := by decide +kernel
theorem d_Mod_ask_4 : decode b_Mod_ask 4 = .ok (.iload_n 2, 1) := by decide +kernel
theorem d_Mod_ask_5 : decode b_Mod_ask 5 = .ok (.iadd, 1) := by decide +kernel
theorem d_Mod_ask_6 : decode b_Mod_ask 6 = .ok (.istore_n 3, 1) := by decide +kernel
theorem d_Mod_ask_7 : decode b_Mod_ask 7 = .ok (.aload_n 0, 1) := by decide +kernel
theorem d_Mod_ask_8 : decode b_Mod_ask 8 = .ok (.iload_n 1, 1) := by decide +kernel
theorem d_Mod_ask_9 : decode b_Mod_ask 9 = .ok (.iload_n 2, 1) := by decide +kernel
theorem d_Mod_ask_10 : decode b_Mod_ask 10 = .ok (.invokevirtual 195, 3) := by decide +kernel
theorem d_Mod_ask_13 : decode b_Mod_ask 13 = .ok (.istore 4, 2) := by decide +kernel
theorem d_Mod_ask_15 : decode b_Mod_ask 15 = .ok (.aload_n 0, 1) := by decide +kernel
theorem d_Mod_ask_16 : decode b_Mod_ask 16 = .ok (.getfield 39, 3) := by decide +kernel
theorem d_Mod_ask_19 : decode b_Mod_ask 19 = .ok (.iload_n 3, 1) := by decide +kernel
theorem d_Mod_ask_20 : decode b_Mod_ask 20 = .ok (.iload 4, 2) := by decide +kernel
theorem d_Mod_ask_22 : decode b_Mod_ask 22 = .ok (.aload_n 0, 1) := by decide +kernel
theorem d_Mod_ask_23 : decode b_Mod_ask 23 = .ok (.getfield 36, 3) := by decide +kernel
theorem d_Mod_ask_26 : decode b_Mod_ask 26 = .ok (.iload_n 3, 1) := by decide +kernel
theorem d_Mod_ask_27 : decode b_Mod_ask 27 = .ok (.baload, 1) := by decide +kernel
theorem d_Mod_ask_28 : decode b_Mod_ask 28 = .ok (.if_icmp .ne 14, 3) := by decide +kernel
theorem d_Mod_ask_31 : decode b_Mod_ask 31 = .ok (.aload_n 0, 1) := by decide +kernel
theorem d_Mod_ask_32 : decode b_Mod_ask 32 = .ok (.getfield 39, 3) := by decide +kernel
theorem d_Mod_ask_35 : decode b_Mod_ask 35 = .ok (.iload_n 3, 1) := by decide +kernel
theorem d_Mod_ask_36 : decode b_Mod_ask 36 = .ok (.iaload, 1) := by decide +kernel
theorem d_Mod_ask_37 : decode b_Mod_ask 37 = .ok (.iconst 1, 1) := by decide +kernel
theorem d_Mod_ask_38 : decode b_Mod_ask 38 = .ok (.iadd, 1) := by decide +kernel
theorem d_Mod_ask_39 : decode b_Mod_ask 39 = .ok (.goto 4, 3) := by decide +kernel
theorem d_Mod_ask_42 : decode b_Mod_ask 42 = .ok (.iconst 0, 1) := by decide +kernel
theorem d_Mod_ask_43 : decode b_Mod_ask 43 = .ok (.iastore, 1) := by decide +kernel
theorem d_Mod_ask_44 : decode b_Mod_ask 44 = .ok (.aload_n 0, 1) := by decide +kernel
theorem d_Mod_ask_45 : decode b_Mod_ask 45 = .ok (.getfield 39, 3) := by decide +kernel
theorem d_Mod_ask_48 : decode b_Mod_ask 48 = .ok (.iload_n 3, 1) := by decide +kernel
theorem d_Mod_ask_49 : decode b_Mod_ask 49 = .ok (.iaload, 1) := by decide +kernel
theorem d_Mod_ask_50 : decode b_Mod_ask 50 = .ok (.iconst 3, 1) := by decide +kernel
theorem d_Mod_ask_51 : decode b_Mod_ask 51 = .ok (.if_icmp .ge 5, 3) := by decide +kernel
theorem d_Mod_ask_54 : decode b_Mod_ask 54 = .ok (.iconst 0, 1) := by decide +kernel
theorem d_Mod_ask_55 : decode b_Mod_ask 55 = .ok (.ireturn, 1) := by decide +kernel
theorem d_Mod_ask_56 : decode b_Mod_ask 56 = .ok (.aload_n 0, 1) := by decide +kernel
theorem d_Mod_ask_57 : decode b_Mod_ask 57 = .ok (.getfield 39, 3) := by decide +kernel
theorem d_Mod_ask_60 : decode b_Mod_ask 60 = .ok (.iload_n 3, 1) := by decide +kernel
theorem d_Mod_ask_61 : decode b_Mod_ask 61 = .ok (.iconst 0, 1) := by decide +kernel
theorem d_Mod_ask_62 : decode b_Mod_ask 62 = .ok (.iastore, 1) := by decide +kernel
theorem d_Mod_ask_63 : decode b_Mod_ask 63 = .ok (.aload_n 0, 1) := by decide +kernel
theorem d_Mod_ask_64 : decode b_Mod_ask 64 = .ok (.getfield 36, 3) := by decide +kernel
theorem d_Mod_ask_67 : decode b_Mod_ask 67 = .ok (.iload_n 3, 1) := by decide +kernel
theorem d_Mod_ask_68 : decode b_Mod_ask 68 = .ok (.aload_n 0, 1) := by decide +kernel
theorem d_Mod_ask_69 : decode b_Mod_ask 69 = .ok (.getfield 36, 3) := by decide +kernel
theorem d_Mod_ask_72 : decode b_Mod_ask 72 = .ok (.iload_n 3, 1) := by decide +kernel
theorem d_Mod_ask_73 : decode b_Mod_ask 73 = .ok (.baload, 1) := by decide +kernel
theorem d_Mod_ask_74 : decode b_Mod_ask 74 = .ok (.ifCond .ne 7, 3) := by decide +kernel
theorem d_Mod_ask_77 : decode b_Mod_ask 77 = .ok (.iconst 1, 1) := by decide +kernel
theorem d_Mod_ask_78 : decode b_Mod_ask 78 = .ok (.goto 4, 3) := by decide +kernel
theorem d_Mod_ask_81 : decode b_Mod_ask 81 = .ok (.iconst 0, 1) := by decide +kernel
theorem d_Mod_ask_82 : decode b_Mod_ask 82 = .ok (.bastore, 1) := by decide +kernel
theorem d_Mod_ask_83 : decode b_Mod_ask 83 = .ok (.iconst 1, 1) := by decide +kernel
theorem d_Mod_ask_84 : decode b_Mod_ask 84 = .ok (.ireturn, 1) := by decide +kernel
end
section
theorem k_b101 : (Int8.ofInt (101)).toInt32 = (101 : Int32) := by decide
theorem k_s1000 : (Int16.ofInt (1000)).toInt32 = (1000 : Int32) := by decide
section ZG
variable {p : Program} {l : Launch} {e : Env} {R : Room} {s : State} {m : MethodId} {args : Array Value} {below : List Frame} {meth : Method} {c : Code} {cells slots : Nat} {Q : State → Prop} {cc : ByteArray} {nL pc : Nat} {rest : List Value} {D : va_G} {K : Nat → ClassId} {M : List (ClassId × FieldType)} {A : Nat → Prop} {ws : va_W} {lv : List (Nat × Value)}
theorem zg_Mod_107 (hF : zF p s m args c cc nL R_Mod D K M A) (q0 : Nat) {a : Nat} {fs : List Value} {v : Value} (he : ws[q0]? = some (a, .inr (11, fs))) (hv : fs[2]? = some v) (hdg : decode cc pc = .ok (.getfield 107, 3)) (k : zW p l e R s m args below meth c D A cells slots Q nL ws lv (pc + 3) (v :: rest)) : zW p l e R s m args below meth c D A cells slots Q nL ws lv pc (.ref a :: rest) := zx_get hF (C := R_Mod) (T := F_Mod) (N := 38) wu_Mod q0 he rfl 2 (by decide) wf_Mod_107 hv hdg k
theorem zg_Mod_13 (hF : zF p s m args c cc nL R_Mod D K M A) (q0 : Nat) {a : Nat} {fs : List Value} {v : Value} (he : ws[q0]? = some (a, .inr (11, fs))) (hv : fs[7]? = some v) (hdg : decode cc pc = .ok (.getfield 13, 3)) (k : zW p l e R s m args below meth c D A cells slots Q nL ws lv (pc + 3) (v :: rest)) : zW p l e R s m args below meth c D A cells slots Q nL ws lv pc (.ref a :: rest) := zx_get hF (C := R_Mod) (T := F_Mod) (N := 38) wu_Mod q0 he rfl 7 (by decide) wf_Mod_13 hv hdg k
theorem zg_Mod_17 (hF : zF p s m args c cc nL R_Mod D K M A) (q0 : Nat) {a : Nat} {fs : List Value} {v : Value} (he : ws[q0]? = some (a, .inr (11, fs))) (hv : fs[8]? = some v) (hdg : decode cc pc = .ok (.getfield 17, 3)) (k : zW p l e R s m args below meth c D A cells slots Q nL ws lv (pc + 3) (v :: rest)) : zW p l e R s m args below meth c D A cells slots Q nL ws lv pc (.ref a :: rest) := zx_get hF (C := R_Mod) (T := F_Mod) (N := 38) wu_Mod q0 he rfl 8 (by decide) wf_Mod_17 hv hdg k
theorem zg_Mod_20 (hF : zF p s m args c cc nL R_Mod D K M A) (q0 : Nat) {a : Nat} {fs : List Value} {v : Value} (he : ws[q0]? = some (a, .inr (11, fs))) (hv : fs[9]? = some v) (hdg : decode cc pc = .ok (.getfield 20, 3)) (k : zW p l e R s m args below meth c D A cells slots Q nL ws lv (pc + 3) (v :: rest)) : zW p l e R s m args below meth c D A cells slots Q nL ws lv pc (.ref a :: rest) := zx_get hF (C := R_Mod) (T := F_Mod) (N := 38) wu_Mod q0 he rfl 9 (by decide) wf_Mod_20 hv hdg k
theorem zg_Mod_26 (hF : zF p s m args c cc nL R_Mod D K M A) (q0 : Nat) {a : Nat} {fs : List Value} {v : Value} (he : ws[q0]? = some (a, .inr (11, fs))) (hv : fs[11]? = some v) (hdg : decode cc pc = .ok (.getfield 26, 3)) (k : zW p l e R s m args below meth c D A cells slots Q nL ws lv (pc + 3) (v :: rest)) : zW p l e R s m args below meth c D A cells slots Q nL ws lv pc (.ref a :: rest) := zx_get hF (C := R_Mod) (T := F_Mod) (N := 38) wu_Mod q0 he rfl 11 (by decide) wf_Mod_26 hv hdg k
theorem zg_Mod_33 (hF : zF p s m args c cc nL R_Mod D K M A) (q0 : Nat) {a : Nat} {fs : List Value} {v : Value} (he : ws[q0]? = some (a, .inr (11, fs))) (hv : fs[13]? = some v) (hdg : decode cc pc = .ok (.getfield 33, 3)) (k : zW p l e R s m args below meth c D A cells slots Q nL ws lv (pc + 3) (v :: rest)) : zW p l e R s m args below meth c D A cells slots Q nL ws lv pc (.ref a :: rest) := zx_get hF (C := R_Mod) (T := F_Mod) (N := 38) wu_Mod q0 he rfl 13 (by decide) wf_Mod_33 hv hdg k
theorem zg_Mod_36 (hF : zF p s m args c cc nL R_Mod D K M A) (q0 : Nat) {a : Nat} {fs : List Value} {v : Value} (he : ws[q0]? = some (a, .inr (11, fs))) (hv : fs[14]? = some v) (hdg : decode cc pc = .ok (.getfield 36, 3)) (k : zW p l e R s m args below meth c D A cells slots Q nL ws lv (pc + 3) (v :: rest)) : zW p l e R s m args below meth c D A cells slots Q nL ws lv pc (.ref a :: rest) := zx_get hF (C := R_Mod) (T := F_Mod) (N := 38) wu_Mod q0 he rfl 14 (by decide) wf_Mod_36 hv hdg k
theorem zg_Mod_39 (hF : zF p s m args c cc nL R_Mod D K M A) (q0 : Nat) {a : Nat} {fs : List Value} {v : Value} (he : ws[q0]? = some (a, .inr (11, fs))) (hv : fs[15]? = some v) (hdg : decode cc pc = .ok (.getfield 39, 3)) (k : zW p l e R s m args below meth c D A cells slots Q nL ws lv (pc + 3) (v :: rest)) : zW p l e R s m args below meth c D A cells slots Q nL ws lv pc (.ref a :: rest) := zx_get hF (C := R_Mod) (T := F_Mod) (N := 38) wu_Mod q0 he rfl 15 (by decide) wf_Mod_39 hv hdg k
theorem zg_Mod_42 (hF : zF p s m args c cc nL R_Mod D K M A) (q0 : Nat) {a : Nat} {fs : List Value} {v : Value} (he : ws[q0]? = some (a, .inr (11, fs))) (hv : fs[16]? = some v) (hdg : decode cc pc = .ok (.getfield 42, 3)) (k : zW p l e R s m args below meth c D A cells slots Q nL ws lv (pc + 3) (v :: rest)) : zW p l e R s m args below meth c D A cells slots Q nL ws lv pc (.ref a :: rest) := zx_get hF (C := R_Mod) (T := F_Mod) (N := 38) wu_Mod q0 he rfl 16 (by decide) wf_Mod_42 hv hdg k
theorem zg_Mod_45 (hF : zF p s m args c cc nL R_Mod D K M A) (q0 : Nat) {a : Nat} {fs : List Value} {v : Value} (he : ws[q0]? = some (a, .inr (11, fs))) (hv : fs[17]? = some v) (hdg : decode cc pc = .ok (.getfield 45, 3)) (k : zW p l e R s m args below meth c D A cells slots Q nL ws lv (pc + 3) (v :: rest)) : zW p l e R s m args below meth c D A cells slots Q nL ws lv pc (.ref a :: rest) := zx_get hF (C := R_Mod) (T := F_Mod) (N := 38) wu_Mod q0 he rfl 17 (by decide) wf_Mod_45 hv hdg k
theorem zg_Mod_60 (hF : zF p s m args c cc nL R_Mod D K M A) (q0 : Nat) {a : Nat} {fs : List Value} {v : Value} (he : ws[q0]? = some (a, .inr (11, fs))) (hv : fs[22]? = some v) (hdg : decode cc pc = .ok (.getfield 60, 3)) (k : zW p l e R s m args below meth c D A cells slots Q nL ws lv (pc + 3) (v :: rest)) : zW p l e R s m args below meth c D A cells slots Q nL ws lv pc (.ref a :: rest) := zx_get hF (C := R_Mod) (T := F_Mod) (N := 38) wu_Mod q0 he rfl 22 (by decide) wf_Mod_60 hv hdg k
theorem zg_Mod_66 (hF : zF p s m args c cc nL R_Mod D K M A) (q0 : Nat) {a : Nat} {fs : List Value} {v : Value} (he : ws[q0]? = some (a, .inr (11, fs))) (hv : fs[24]? = some v) (hdg : decode cc pc = .ok (.getfield 66, 3)) (k : zW p l e R s m args below meth c D A cells slots Q nL ws lv (pc + 3) (v :: rest)) : zW p l e R s m args below meth c D A cells slots Q nL ws lv pc (.ref a :: rest) := zx_get hF (C := R_Mod) (T := F_Mod) (N := 38) wu_Mod q0 he rfl 24 (by decide) wf_Mod_66 hv hdg k
end ZG
theorem hd_Mod_ups : y_Mod_ups.cls = R_Mod ∧ y_Mod_ups.cls ≠ "java/lang/invoke/MethodHandle" ∧ y_Mod_ups.cls ≠ "java/lang/invoke/VarHandle" ∧ (parseMethodDescriptor y_Mod_ups.desc).map (fun d => d.parameters.length) = some 1 := by decide +kernel
theorem hd_Mod_wish : y_Mod_wish.cls = R_Mod ∧ y_Mod_wish.cls ≠ "java/lang/invoke/MethodHandle" ∧ y_Mod_wish.cls ≠ "java/lang/invoke/VarHandle" ∧ (parseMethodDescriptor y_Mod_wish.desc).map (fun d => d.parameters.length) = some 1 := by decide +kernel
theorem hd_Mod_isBalancer : y_Mod_isBalancer.cls = R_Mod ∧ y_Mod_isBalancer.cls ≠ "java/lang/invoke/MethodHandle" ∧ y_Mod_isBalancer.cls ≠ "java/lang/invoke/VarHandle" ∧ (parseMethodDescriptor y_Mod_isBalancer.desc).map (fun d => d.parameters.length) = some 1 := by decide +kernel
theorem hd_Mod_deal : y_Mod_deal.cls = R_Mod ∧ y_Mod_deal.cls ≠ "java/lang/invoke/MethodHandle" ∧ y_Mod_deal.cls ≠ "java/lang/invoke/VarHandle" ∧ (parseMethodDescriptor y_Mod_deal.desc).map (fun d => d.parameters.length) = some 1 := by decide +kernel
theorem hd_Mod_isServer : y_Mod_isServer.cls = R_Mod ∧ y_Mod_isServer.cls ≠ "java/lang/invoke/MethodHandle" ∧ y_Mod_isServer.cls ≠ "java/lang/invoke/VarHandle" ∧ (parseMethodDescriptor y_Mod_isServer.desc).map (fun d => d.parameters.length) = some 1 := by decide +kernel
theorem hd_Mod_meets : y_Mod_meets.cls = R_Mod ∧ y_Mod_meets.cls ≠ "java/lang/invoke/MethodHandle" ∧ y_Mod_meets.cls ≠ "java/lang/invoke/VarHandle" ∧ (parseMethodDescriptor y_Mod_meets.desc).map (fun d => d.parameters.length) = some 2 := by decide +kernel
theorem cw_Mod_180 {R : Room} {s : State} {args : Array Value} {rm : Room} (ht : ∀ w ∈ zAll, w.before args s = true) (h1 : rm.cells = 0) (h2 : rm.slots = 0) (hR : rm.frames + 1 ≤ R.frames ∧ 8 + (4 + 11) + rm.locals ≤ R.locals) : CallW R s args R_Mod R_Mod 180 y_Mod_ups b_Mod_ups 4 (some .int) (zT y_Mod_ups b_Mod_ups 4 (some .int)) rm 0 0 1 := zcV ht wb_Mod_ups wm_Mod_180 wi_Mod_ups we_Mod_ups wz_Mod h1 h2 hd_Mod_ups hR
theorem cw_Mod_183 {R : Room} {s : State} {args : Array Value} {rm : Room} (ht : ∀ w ∈ zAll, w.before args s = true) (h1 : rm.cells = 0) (h2 : rm.slots = 0) (hR : rm.frames + 1 ≤ R.frames ∧ 8 + (4 + 11) + rm.locals ≤ R.locals) : CallW R s args R_Mod R_Mod 183 y_Mod_wish b_Mod_wish 4 (some .int) (zT y_Mod_wish b_Mod_wish 4 (some .int)) rm 0 0 1 := zcV ht wb_Mod_wish wm_Mod_183 wi_Mod_wish we_Mod_wish wz_Mod h1 h2 hd_Mod_wish hR
theorem cw_Mod_186 {R : Room} {s : State} {args : Array Value} {rm : Room} (ht : ∀ w ∈ zAll, w.before args s = true) (h1 : rm.cells = 0) (h2 : rm.slots = 0) (hR : rm.frames + 1 ≤ R.frames ∧ 8 + (2 + 11) + rm.locals ≤ R.locals) : CallW R s args R_Mod R_Mod 186 y_Mod_isBalancer b_Mod_isBalancer 2 (some .boolean) (zT y_Mod_isBalancer b_Mod_isBalancer 2 (some .boolean)) rm 0 0 1 := zcV ht wb_Mod_isBalancer wm_Mod_186 wi_Mod_isBalancer we_Mod_isBalancer wz_Mod h1 h2 hd_Mod_isBalancer hR
theorem cw_Mod_189 {R : Room} {s : State} {args : Array Value} {rm : Room} (ht : ∀ w ∈ zAll, w.before args s = true) (h1 : rm.cells = 0) (h2 : rm.slots = 0) (hR : rm.frames + 1 ≤ R.frames ∧ 8 + (6 + 11) + rm.locals ≤ R.locals) : CallW R s args R_Mod R_Mod 189 y_Mod_deal b_Mod_deal 6 none (zT y_Mod_deal b_Mod_deal 6 none) rm 0 0 1 := zcV ht wb_Mod_deal wm_Mod_189 wi_Mod_deal we_Mod_deal wz_Mod h1 h2 hd_Mod_deal hR
theorem cw_Mod_192 {R : Room} {s : State} {args : Array Value} {rm : Room} (ht : ∀ w ∈ zAll, w.before args s = true) (h1 : rm.cells = 0) (h2 : rm.slots = 0) (hR : rm.frames + 1 ≤ R.frames ∧ 8 + (2 + 11) + rm.locals ≤ R.locals) : CallW R s args R_Mod R_Mod 192 y_Mod_isServer b_Mod_isServer 2 (some .boolean) (zT y_Mod_isServer b_Mod_isServer 2 (some .boolean)) rm 0 0 1 := zcV ht wb_Mod_isServer wm_Mod_192 wi_Mod_isServer we_Mod_isServer wz_Mod h1 h2 hd_Mod_isServer hR
theorem cw_Mod_195 {R : Room} {s : State} {args : Array Value} {rm : Room} (ht : ∀ w ∈ zAll, w.before args s = true) (h1 : rm.cells = 0) (h2 : rm.slots = 0) (hR : rm.frames + 1 ≤ R.frames ∧ 8 + (3 + 11) + rm.locals ≤ R.locals) : CallW R s args R_Mod R_Mod 195 y_Mod_meets b_Mod_meets 3 (some .boolean) (zT y_Mod_meets b_Mod_meets 3 (some .boolean)) rm 0 0 2 := zcV ht wb_Mod_meets wm_Mod_195 wi_Mod_meets we_Mod_meets wz_Mod h1 h2 hd_Mod_meets hR
end
section
theorem g_is_in {j n : Nat} (hj : j < n) (hn : n < 2 ^ 31) : g_is (nI j) n = 1 := by
  unfold g_is
  rw [if_neg (nI_pos (by omega)), if_neg (nI_ge hj hn)]
def g_wish (dea : Nat → Int32) (pl : Nat → Nat) : Nat → Nat → Int32
  | 0, _ => -1
  | k + 1, j => if dea (pl j) < 0 then nI (pl j) else g_wish dea pl k (j + 1)
theorem g_wish_in {dea : Nat → Int32} {pl : Nat → Nat} {m : Nat} (hm : m < 2 ^ 31) (hp : ∀ j, pl j < m) : ∀ k j, ¬ g_wish dea pl k j < 0 → vp_in (g_wish dea pl k j) m
  | 0, j, h => absurd (by decide : (-1 : Int32) < 0) h
  | k + 1, j, h => by
    by_cases g : dea (pl j) < 0
    · simp only [g_wish, if_pos g]; exact vp_in_nI (hp j) hm
    · simp only [g_wish, if_neg g] at h ⊢; exact g_wish_in hm hp k (j + 1) h
def g_one (dea : Nat → Int32) (pl : Nat → Nat) (m k : Nat) : Nat → Int32 := if g_wish dea pl m 0 < 0 then dea else upd dea (g_wish dea pl m 0).toNatClampNeg (nI k)
/-- the dealing: turns t, t + 1 ..; lf places are left -/
def g_loop (fN sN : Nat → Nat) (m n : Nat) (dn : Nat → Int32) : Nat → Nat → Nat → (Nat → Int32) → Nat → Int32
  | 0, _, _, dea => dea
  | k + 1, t, lf, dea => if lf = 0 then dea else if dn (t % n) = 0 then g_loop fN sN m n dn k (t + 1) (lf - 1) (g_one dea (f_pl fN sN m (t % n)) m (t % n)) else g_loop fN sN m n dn k (t + 1) lf dea
def g_ups (dn : Nat → Int32) (n : Nat) : Nat := f_count (fun k => dn k == 0) n 0 0
theorem f_count_le (P : Nat → Bool) : ∀ k j c, f_count P k j c ≤ c + k
  | 0, _, _ => Nat.le_refl _
  | k + 1, j, c => by
    have h := f_count_le P k (j + 1) (if P j then c + 1 else c)
    simp only [f_count]
    split at h <;> rename_i e <;> simp only [e] at h ⊢ <;> simp at h ⊢ <;> omega
theorem g_ups_le (dn : Nat → Int32) (n : Nat) : g_ups dn n ≤ n := by
  have := f_count_le (fun k => dn k == 0) n 0 0
  unfold g_ups
  omega
def g_lf (dn : Nat → Int32) (m n : Nat) : Nat := if g_ups dn n = 0 then 0 else m
def g_deal (fN sN : Nat → Nat) (m n : Nat) (dn dea : Nat → Int32) : Nat → Int32 := g_loop fN sN m n dn 1000 0 (g_lf dn m n) (f_fill 101 0 (-1) dea)
def g_sh (f : Nat → Int32) (b : Nat) : Nat → Int32 := fun k => f (8 * b + k)
def g_copy : Nat → Nat → (Nat → Int32) → (Nat → Int32) → Nat → Int32
  | 0, _, _, g => g
  | k + 1, j, f, g => g_copy k (j + 1) f (upd g j (f j))
def g_meets (offm cutm : Nat → Int32) (b k : Nat) : Int32 := if offm k = 0 then (if cutm (8 * b + k) = 0 then 1 else 0) else 0
def g_ac (ctd dwn : Nat → Int32) (e : Nat) (ans : Int32) : Int32 := if ans = dwn e then ctd e + 1 else 0
def g_ar (ctd dwn : Nat → Int32) (e : Nat) (ans : Int32) : Int32 := if 3 ≤ g_ac ctd dwn e ans then 1 else 0
def g_at (ctd dwn : Nat → Int32) (e : Nat) (ans : Int32) : Nat → Int32 := if 3 ≤ g_ac ctd dwn e ans then upd (upd ctd e (g_ac ctd dwn e ans)) e 0 else upd ctd e (g_ac ctd dwn e ans)
def g_ad (ctd dwn : Nat → Int32) (e : Nat) (ans : Int32) : Nat → Int32 := if 3 ≤ g_ac ctd dwn e ans then upd dwn e (if dwn e = 0 then 1 else 0) else dwn
abbrev g_A : Type := (Nat → Int32) × (Nat → Int32) × Nat
def g_asks (offm cutm : Nat → Int32) (b : Nat) : Nat → Nat → g_A → g_A
  | 0, _, x => x
  | k + 1, j, x => g_asks offm cutm b k (j + 1) (g_at x.1 x.2.1 (8 * b + j) (g_meets offm cutm b j), g_ad x.1 x.2.1 (8 * b + j) (g_meets offm cutm b j), if g_ar x.1 x.2.1 (8 * b + j) (g_meets offm cutm b j) = 0 then x.2.2 else x.2.2 + 1)
def g_purge (dwn gol : Nat → Int32) (b : Nat) : Nat → Nat → (Nat → Int32) → Nat → Int32
  | 0, _, pha => pha
  | k + 1, e, pha => if pha e ≤ 0 then g_purge dwn gol b k (e + 1) pha else if dwn (8 * b + (gol e).toNatClampNeg) = 0 then g_purge dwn gol b k (e + 1) pha else g_purge dwn gol b k (e + 1) (upd pha e 0)
def g_liv (alv : Nat → Int32) (b : Nat) (o : Int32) : Int32 := if alv b = o then 0 else 1
def g_lpha (alv pha : Nat → Int32) (b : Nat) (o : Int32) : Nat → Int32 := if alv b = o then pha else if o = 0 then f_fill 8 (8 * b) 0 pha else pha
def g_pow (offm : Nat → Int32) (q : Nat) (o : Int32) : Int32 := if offm q = o then 1 else 0
def g_poff (offm : Nat → Int32) (q : Nat) (o : Int32) : Nat → Int32 := if offm q = o then upd offm q (if o = 0 then 1 else 0) else offm
def g_popn (offm opn : Nat → Int32) (q : Nat) (o : Int32) : Nat → Int32 := if offm q = o then f_fill 10 (10 * q) 0 opn else opn
def g_pth (cutm : Nat → Int32) (e : Nat) (o : Int32) : Int32 := if cutm e = o then 1 else 0
def g_pcut (cutm : Nat → Int32) (e : Nat) (o : Int32) : Nat → Int32 := if cutm e = o then upd cutm e (if o = 0 then 1 else 0) else cutm
end
section
set_option maxRecDepth 20000 in
theorem M_Mod_ups (l : Launch) (D : va_G) (K : Nat → ClassId) (M : List (ClassId × FieldType)) (m0 : Nat) (bN : Nat) (sN0 : Nat) (pN : Nat) (k0 : Int64) (k1 : Int64) (now : Int32) (x_wd : Nat) (x_beg : Nat) (x_std : Nat) (x_dea : Nat) (x_frm : Nat) (x_alv : Nat) (x_stm : Nat) (x_mov : Nat) (x_dwn : Nat) (x_ctd : Nat) (x_cutm : Nat) (x_pha : Nat) (x_usd : Nat) (x_gol : Nat) (x_esr : Nat) (x_epo : Nat) (x_offm : Nat) (x_ast : Nat) (x_opn : Nat) (x_ssr : Nat) (x_spo : Nat) (x_awa : Nat) (x_dat : Nat) (kpt : Int32) (x_hd : Nat) (by0 : Int32) (to0 : Int32) (rep : Int32) (had : Int32) (ost : Int32) (bst : Int32) (x_inr : Nat) (dwn : Nat → Int32) (b : Nat) (hB : bN ≤ 4) (hS : 0 < sN0 ∧ sN0 ≤ 8) (hb : b < bN) (sz : Nat) : zM l y_Mod_ups (zT y_Mod_ups b_Mod_ups 4 (some .int)) (zR 0 0) 0 0 D K M [.ref m0, .int (nI b)] [cO m0 11 [.int (nI bN), .int (nI sN0), .int (nI pN), .long k0, .long k1, .int now, .ref x_wd, .ref x_beg, .ref x_std, .ref x_dea, .ref x_frm, .ref x_alv, .ref x_stm, .ref x_mov, .ref x_dwn, .ref x_ctd, .ref x_cutm, .ref x_pha, .ref x_usd, .ref x_gol, .ref x_esr, .ref x_epo, .ref x_offm, .ref x_ast, .ref x_opn, .ref x_ssr, .ref x_spo, .ref x_awa, .ref x_dat, .int kpt, .ref x_hd, .int by0, .int to0, .int rep, .int had, .int ost, .int bst, .ref x_inr], cZ K x_dwn 32 dwn] sz (zQi D K M (nI (g_ups (g_sh dwn b) sN0)) [cO m0 11 [.int (nI bN), .int (nI sN0), .int (nI pN), .long k0, .long k1, .int now, .ref x_wd, .ref x_beg, .ref x_std, .ref x_dea, .ref x_frm, .ref x_alv, .ref x_stm, .ref x_mov, .ref x_dwn, .ref x_ctd, .ref x_cutm, .ref x_pha, .ref x_usd, .ref x_gol, .ref x_esr, .ref x_epo, .ref x_offm, .ref x_ast, .ref x_opn, .ref x_ssr, .ref x_spo, .ref x_awa, .ref x_dat, .int kpt, .ref x_hd, .int by0, .int to0, .int rep, .int had, .int ost, .int bst, .ref x_inr], cZ K x_dwn 32 dwn]) := by
  refine zx_head (by decide) (Nat.le_of_ble_eq_true rfl) ?_
  intro _ _ _ _ _ _ _ _ _ hF hr hlk hnm
  refine zx_iconst (pc := 0) hF d_Mod_ups_0 k_i0 ?_
  refine zx_istore_n (pc := 1) hF (lv' := [(2, .int 0), (0, .ref m0), (1, .int (nI b))]) d_Mod_ups_1 rfl (by decide) rfl ?_
  refine zx_iconst (pc := 2) hF d_Mod_ups_2 k_i0 ?_
  refine zx_istore_n (pc := 3) hF (lv' := [(3, .int 0), (2, .int 0), (0, .ref m0), (1, .int (nI b))]) d_Mod_ups_3 rfl (by decide) rfl ?_
  refine zx_lv [2, 3, 1, 0] (lv' := [(0, .ref m0), (1, .int (nI b)), (2, .int 0), (3, .int 0)]) rfl ?_
  refine zx_loop (pc := 4) (σ := Nat × Nat) (fun k zv => (zv.1 + k = sN0) ∧ (f_count (fun k => g_sh dwn b k == 0) k zv.1 zv.2 = g_ups (g_sh dwn b) sN0)) (fun zv => [cO m0 11 [.int (nI bN), .int (nI sN0), .int (nI pN), .long k0, .long k1, .int now, .ref x_wd, .ref x_beg, .ref x_std, .ref x_dea, .ref x_frm, .ref x_alv, .ref x_stm, .ref x_mov, .ref x_dwn, .ref x_ctd, .ref x_cutm, .ref x_pha, .ref x_usd, .ref x_gol, .ref x_esr, .ref x_epo, .ref x_offm, .ref x_ast, .ref x_opn, .ref x_ssr, .ref x_spo, .ref x_awa, .ref x_dat, .int kpt, .ref x_hd, .int by0, .int to0, .int rep, .int had, .int ost, .int bst, .ref x_inr], cZ K x_dwn 32 dwn]) (fun zv => [(0, .ref m0), (1, .int (nI b)), (2, .int (nI zv.2)), (3, .int (nI zv.1))]) sN0 (0, 0) ⟨by (try dsimp only); omega, rfl⟩ rfl rfl ?_
  intro k zv hI ih
  obtain ⟨j, c⟩ := zv
  obtain ⟨hk, hX⟩ := hI
  replace hk : j + k = sN0 := hk
  replace hX : f_count (fun k => g_sh dwn b k == 0) k j c = g_ups (g_sh dwn b) sN0 := hX
  refine zx_eq (ws' := [cO m0 11 [.int (nI bN), .int (nI sN0), .int (nI pN), .long k0, .long k1, .int now, .ref x_wd, .ref x_beg, .ref x_std, .ref x_dea, .ref x_frm, .ref x_alv, .ref x_stm, .ref x_mov, .ref x_dwn, .ref x_ctd, .ref x_cutm, .ref x_pha, .ref x_usd, .ref x_gol, .ref x_esr, .ref x_epo, .ref x_offm, .ref x_ast, .ref x_opn, .ref x_ssr, .ref x_spo, .ref x_awa, .ref x_dat, .int kpt, .ref x_hd, .int by0, .int to0, .int rep, .int had, .int ost, .int bst, .ref x_inr], cZ K x_dwn 32 dwn]) (lv' := [(0, .ref m0), (1, .int (nI b)), (2, .int (nI c)), (3, .int (nI j))]) rfl rfl rfl ?_
  refine zx_iload_n (pc := 4) hF d_Mod_ups_4 rfl 3 rfl ?_
  refine zx_aload_n (pc := 5) hF d_Mod_ups_5 rfl 0 rfl ?_
  refine zg_Mod_104 (pc := 6) hF 0 rfl rfl d_Mod_ups_6 ?_
  refine zx_icmp_ge (pc := 9) hF d_Mod_ups_9 (tgt := 40) rfl (fun h9 => ?_) (fun h9 => ?_)
  · replace h9 : sN0 ≤ j := (nI_leI (a := sN0) (b := j) (by omega) (by omega)).mp h9
    refine zx_iload_n (pc := 40) hF d_Mod_ups_40 rfl 2 rfl ?_
    exact zx_iret (pc := 41) hF hr hlk (by obtain rfl : k = 0 := (by omega); rw [← hX]; rfl) rfl d_Mod_ups_41
  · replace h9 : ¬ sN0 ≤ j := fun z => h9 ((nI_leI (a := sN0) (b := j) (by omega) (by omega)).mpr z)
    refine zx_aload_n (pc := 12) hF d_Mod_ups_12 rfl 0 rfl ?_
    refine zg_Mod_36 (pc := 13) hF 0 rfl rfl d_Mod_ups_13 ?_
    refine zx_bipush (pc := 16) hF d_Mod_ups_16 k_b8 ?_
    refine zx_iload_n (pc := 18) hF d_Mod_ups_18 rfl 1 rfl ?_
    refine zx_imul (pc := 19) hF d_Mod_ups_19 ?_
    refine zx_topi (nI (8 * b)) (pk_mul 8 b) ?_
    refine zx_iload_n (pc := 20) hF d_Mod_ups_20 rfl 3 rfl ?_
    refine zx_iadd (pc := 21) hF d_Mod_ups_21 ?_
    refine zx_topi (nI ((8 * b) + j)) (nI_add (8 * b) j) ?_
    refine zx_zaldn (pc := 22) hF (i := (8 * b) + j) 1 rfl (by omega) (by omega) d_Mod_ups_22 ?_
    refine zx_if_eq (pc := 23) hF d_Mod_ups_23 (tgt := 30) rfl (fun h23 => ?_) (fun h23 => ?_)
    · refine zx_iload_n (pc := 30) hF d_Mod_ups_30 rfl 2 rfl ?_
      refine zx_iconst (pc := 31) hF d_Mod_ups_31 k_i1 ?_
      refine zx_iadd (pc := 32) hF d_Mod_ups_32 ?_
      refine zx_topi (nI (c + 1)) (nI_add c 1) ?_
      refine zx_istore_n (pc := 33) hF (lv' := [(2, .int (nI (c + 1))), (0, .ref m0), (1, .int (nI b)), (3, .int (nI j))]) d_Mod_ups_33 rfl (by decide) rfl ?_
      refine zx_iinc (pc := 34) hF (v := nI (j + 1)) (lv' := [(3, .int (nI (j + 1))), (2, .int (nI (c + 1))), (0, .ref m0), (1, .int (nI b))]) d_Mod_ups_34 3 rfl (zinc j) (by decide) rfl ?_
      refine zx_goto (pc := 37) hF d_Mod_ups_37 (tgt := 4) rfl ?_
      refine zx_lv [2, 3, 1, 0] (lv' := [(0, .ref m0), (1, .int (nI b)), (2, .int (nI (c + 1))), (3, .int (nI (j + 1)))]) rfl ?_
      exact ih (k - 1) (j + 1, c + 1) (by omega) ⟨by (try dsimp only); omega, by obtain ⟨k', rfl⟩ : ∃ k', k = k' + 1 := ⟨k - 1, by omega⟩; simpa [f_count, g_sh, h23] using hX⟩
    · refine zx_iload_n (pc := 26) hF d_Mod_ups_26 rfl 2 rfl ?_
      refine zx_goto (pc := 27) hF d_Mod_ups_27 (tgt := 33) rfl ?_
      refine zx_istore_n (pc := 33) hF (lv' := [(2, .int (nI c)), (0, .ref m0), (1, .int (nI b)), (3, .int (nI j))]) d_Mod_ups_33 rfl (by decide) rfl ?_
      refine zx_iinc (pc := 34) hF (v := nI (j + 1)) (lv' := [(3, .int (nI (j + 1))), (2, .int (nI c)), (0, .ref m0), (1, .int (nI b))]) d_Mod_ups_34 3 rfl (zinc j) (by decide) rfl ?_
      refine zx_goto (pc := 37) hF d_Mod_ups_37 (tgt := 4) rfl ?_
      refine zx_lv [2, 3, 1, 0] (lv' := [(0, .ref m0), (1, .int (nI b)), (2, .int (nI c)), (3, .int (nI (j + 1)))]) rfl ?_
      exact ih (k - 1) (j + 1, c) (by omega) ⟨by (try dsimp only); omega, by obtain ⟨k', rfl⟩ : ∃ k', k = k' + 1 := ⟨k - 1, by omega⟩; simpa [f_count, g_sh, h23] using hX⟩
set_option maxRecDepth 20000 in
theorem M_Mod_wish (l : Launch) (D : va_G) (K : Nat → ClassId) (M : List (ClassId × FieldType)) (m0 : Nat) (bN : Nat) (sN0 : Nat) (pN : Nat) (k0 : Int64) (k1 : Int64) (now : Int32) (x_wd : Nat) (x_beg : Nat) (x_std : Nat) (x_dea : Nat) (x_frm : Nat) (x_alv : Nat) (x_stm : Nat) (x_mov : Nat) (x_dwn : Nat) (x_ctd : Nat) (x_cutm : Nat) (x_pha : Nat) (x_usd : Nat) (x_gol : Nat) (x_esr : Nat) (x_epo : Nat) (x_offm : Nat) (x_ast : Nat) (x_opn : Nat) (x_ssr : Nat) (x_spo : Nat) (x_awa : Nat) (x_dat : Nat) (kpt : Int32) (x_hd : Nat) (by0 : Int32) (to0 : Int32) (rep : Int32) (had : Int32) (ost : Int32) (bst : Int32) (x_inr : Nat) (beg : Nat → Int32) (std : Nat → Int32) (dea : Nat → Int32) (fN : Nat → Nat) (sN : Nat → Nat) (q : Nat) (hB : bN ≤ 4) (hS : 0 < sN0 ∧ sN0 ≤ 8) (hP : 0 < pN ∧ pN ≤ 101) (hL : f_LN beg std fN sN pN sN0) (hq : q < sN0) (sz : Nat) : zM l y_Mod_wish (zT y_Mod_wish b_Mod_wish 4 (some .int)) (zR 0 0) 0 0 D K M [.ref m0, .int (nI q)] [cO m0 11 [.int (nI bN), .int (nI sN0), .int (nI pN), .long k0, .long k1, .int now, .ref x_wd, .ref x_beg, .ref x_std, .ref x_dea, .ref x_frm, .ref x_alv, .ref x_stm, .ref x_mov, .ref x_dwn, .ref x_ctd, .ref x_cutm, .ref x_pha, .ref x_usd, .ref x_gol, .ref x_esr, .ref x_epo, .ref x_offm, .ref x_ast, .ref x_opn, .ref x_ssr, .ref x_spo, .ref x_awa, .ref x_dat, .int kpt, .ref x_hd, .int by0, .int to0, .int rep, .int had, .int ost, .int bst, .ref x_inr], cI K x_beg 8 beg, cI K x_std 8 std, cI K x_dea 101 dea] sz (zQi D K M (g_wish dea (f_pl fN sN pN q) pN 0) [cO m0 11 [.int (nI bN), .int (nI sN0), .int (nI pN), .long k0, .long k1, .int now, .ref x_wd, .ref x_beg, .ref x_std, .ref x_dea, .ref x_frm, .ref x_alv, .ref x_stm, .ref x_mov, .ref x_dwn, .ref x_ctd, .ref x_cutm, .ref x_pha, .ref x_usd, .ref x_gol, .ref x_esr, .ref x_epo, .ref x_offm, .ref x_ast, .ref x_opn, .ref x_ssr, .ref x_spo, .ref x_awa, .ref x_dat, .int kpt, .ref x_hd, .int by0, .int to0, .int rep, .int had, .int ost, .int bst, .ref x_inr], cI K x_beg 8 beg, cI K x_std 8 std, cI K x_dea 101 dea]) := by
  refine zx_head (by decide) (Nat.le_of_ble_eq_true rfl) ?_
  intro _ _ _ _ _ _ _ _ _ hF hr hlk hnm
  refine zx_iconst (pc := 0) hF d_Mod_wish_0 k_i0 ?_
  refine zx_istore_n (pc := 1) hF (lv' := [(2, .int 0), (0, .ref m0), (1, .int (nI q))]) d_Mod_wish_1 rfl (by decide) rfl ?_
  refine zx_lv [1, 2, 0] (lv' := [(0, .ref m0), (1, .int (nI q)), (2, .int 0)]) rfl ?_
  refine zx_loop (pc := 2) (σ := Nat) (fun k zv => (zv + k = pN) ∧ (g_wish dea (f_pl fN sN pN q) k zv = g_wish dea (f_pl fN sN pN q) pN 0)) (fun zv => [cO m0 11 [.int (nI bN), .int (nI sN0), .int (nI pN), .long k0, .long k1, .int now, .ref x_wd, .ref x_beg, .ref x_std, .ref x_dea, .ref x_frm, .ref x_alv, .ref x_stm, .ref x_mov, .ref x_dwn, .ref x_ctd, .ref x_cutm, .ref x_pha, .ref x_usd, .ref x_gol, .ref x_esr, .ref x_epo, .ref x_offm, .ref x_ast, .ref x_opn, .ref x_ssr, .ref x_spo, .ref x_awa, .ref x_dat, .int kpt, .ref x_hd, .int by0, .int to0, .int rep, .int had, .int ost, .int bst, .ref x_inr], cI K x_beg 8 beg, cI K x_std 8 std, cI K x_dea 101 dea]) (fun zv => [(0, .ref m0), (1, .int (nI q)), (2, .int (nI zv))]) pN 0 ⟨by (try dsimp only); omega, rfl⟩ rfl rfl ?_
  intro k j hI ih
  obtain ⟨hk, hX⟩ := hI
  replace hk : j + k = pN := hk
  replace hX : g_wish dea (f_pl fN sN pN q) k j = g_wish dea (f_pl fN sN pN q) pN 0 := hX
  refine zx_eq (ws' := [cO m0 11 [.int (nI bN), .int (nI sN0), .int (nI pN), .long k0, .long k1, .int now, .ref x_wd, .ref x_beg, .ref x_std, .ref x_dea, .ref x_frm, .ref x_alv, .ref x_stm, .ref x_mov, .ref x_dwn, .ref x_ctd, .ref x_cutm, .ref x_pha, .ref x_usd, .ref x_gol, .ref x_esr, .ref x_epo, .ref x_offm, .ref x_ast, .ref x_opn, .ref x_ssr, .ref x_spo, .ref x_awa, .ref x_dat, .int kpt, .ref x_hd, .int by0, .int to0, .int rep, .int had, .int ost, .int bst, .ref x_inr], cI K x_beg 8 beg, cI K x_std 8 std, cI K x_dea 101 dea]) (lv' := [(0, .ref m0), (1, .int (nI q)), (2, .int (nI j))]) rfl rfl rfl ?_
  refine zx_iload_n (pc := 2) hF d_Mod_wish_2 rfl 2 rfl ?_
  refine zx_aload_n (pc := 3) hF d_Mod_wish_3 rfl 0 rfl ?_
  refine zg_Mod_107 (pc := 4) hF 0 rfl rfl d_Mod_wish_4 ?_
  refine zx_icmp_ge (pc := 7) hF d_Mod_wish_7 (tgt := 48) rfl (fun h7 => ?_) (fun h7 => ?_)
  · replace h7 : pN ≤ j := (nI_leI (a := pN) (b := j) (by omega) (by omega)).mp h7
    refine zx_iconst (pc := 48) hF d_Mod_wish_48 k_im1 ?_
    exact zx_iret (pc := 49) hF hr hlk (by obtain rfl : k = 0 := (by omega); exact hX) rfl d_Mod_wish_49
  · replace h7 : ¬ pN ≤ j := fun z => h7 ((nI_leI (a := pN) (b := j) (by omega) (by omega)).mpr z)
    refine zx_aload_n (pc := 10) hF d_Mod_wish_10 rfl 0 rfl ?_
    refine zg_Mod_13 (pc := 11) hF 0 rfl rfl d_Mod_wish_11 ?_
    refine zx_iload_n (pc := 14) hF d_Mod_wish_14 rfl 1 rfl ?_
    refine zx_ialdn (pc := 15) hF (i := q) 1 rfl (by omega) (by omega) d_Mod_wish_15 ?_
    refine zx_iload_n (pc := 16) hF d_Mod_wish_16 rfl 2 rfl ?_
    refine zx_aload_n (pc := 17) hF d_Mod_wish_17 rfl 0 rfl ?_
    refine zg_Mod_17 (pc := 18) hF 0 rfl rfl d_Mod_wish_18 ?_
    refine zx_iload_n (pc := 21) hF d_Mod_wish_21 rfl 1 rfl ?_
    refine zx_ialdn (pc := 22) hF (i := q) 2 rfl (by omega) (by omega) d_Mod_wish_22 ?_
    refine zx_imul (pc := 23) hF d_Mod_wish_23 ?_
    refine zx_iadd (pc := 24) hF d_Mod_wish_24 ?_
    refine zx_aload_n (pc := 25) hF d_Mod_wish_25 rfl 0 rfl ?_
    refine zg_Mod_107 (pc := 26) hF 0 rfl rfl d_Mod_wish_26 ?_
    refine zx_irem (pc := 29) hF d_Mod_wish_29 (nI_ne0 hP.1 (by omega)) ?_
    refine zx_topi (nI (f_pl fN sN pN q j)) (f_pl_eq hL hP hq (by omega)) ?_
    refine zx_istore_n (pc := 30) hF (lv' := [(3, .int (nI (f_pl fN sN pN q j))), (0, .ref m0), (1, .int (nI q)), (2, .int (nI j))]) d_Mod_wish_30 rfl (by decide) rfl ?_
    refine zx_aload_n (pc := 31) hF d_Mod_wish_31 rfl 1 rfl ?_
    refine zg_Mod_20 (pc := 32) hF 0 rfl rfl d_Mod_wish_32 ?_
    refine zx_iload_n (pc := 35) hF d_Mod_wish_35 rfl 0 rfl ?_
    refine zx_ialdn (pc := 36) hF (i := f_pl fN sN pN q j) 3 rfl (Nat.lt_of_lt_of_le (f_pl_lt hP.1) (by omega)) (by omega) d_Mod_wish_36 ?_
    refine zx_if_ge (pc := 37) hF d_Mod_wish_37 (tgt := 42) rfl (fun h37 => ?_) (fun h37 => ?_)
    · refine zx_iinc (pc := 42) hF (v := nI (j + 1)) (lv' := [(2, .int (nI (j + 1))), (3, .int (nI (f_pl fN sN pN q j))), (0, .ref m0), (1, .int (nI q))]) d_Mod_wish_42 3 rfl (zinc j) (by decide) rfl ?_
      refine zx_goto (pc := 45) hF d_Mod_wish_45 (tgt := 2) rfl ?_
      refine zx_lv [2, 3, 0] (lv' := [(0, .ref m0), (1, .int (nI q)), (2, .int (nI (j + 1)))]) rfl ?_
      exact ih (k - 1) (j + 1) (by omega) ⟨by (try dsimp only); omega, by obtain ⟨k', rfl⟩ : ∃ k', k = k' + 1 := ⟨k - 1, by omega⟩; simpa [g_wish, Int32.not_lt.mpr h37] using hX⟩
    · refine zx_iload_n (pc := 40) hF d_Mod_wish_40 rfl 0 rfl ?_
      exact zx_iret (pc := 41) hF hr hlk (by obtain ⟨k', rfl⟩ : ∃ k', k = k' + 1 := ⟨k - 1, by omega⟩; simpa [g_wish, Int32.not_le.mp h37] using hX) rfl d_Mod_wish_41
end
section
set_option maxRecDepth 20000 in
theorem M_Mod_deal (l : Launch) (D : va_G) (K : Nat → ClassId) (M : List (ClassId × FieldType)) (m0 : Nat) (bN : Nat) (sN0 : Nat) (pN : Nat) (k0 : Int64) (k1 : Int64) (now : Int32) (x_wd : Nat) (x_beg : Nat) (x_std : Nat) (x_dea : Nat) (x_frm : Nat) (x_alv : Nat) (x_stm : Nat) (x_mov : Nat) (x_dwn : Nat) (x_ctd : Nat) (x_cutm : Nat) (x_pha : Nat) (x_usd : Nat) (x_gol : Nat) (x_esr : Nat) (x_epo : Nat) (x_offm : Nat) (x_ast : Nat) (x_opn : Nat) (x_ssr : Nat) (x_spo : Nat) (x_awa : Nat) (x_dat : Nat) (kpt : Int32) (x_hd : Nat) (by0 : Int32) (to0 : Int32) (rep : Int32) (had : Int32) (ost : Int32) (bst : Int32) (x_inr : Nat) (dwn : Nat → Int32) (beg : Nat → Int32) (std : Nat → Int32) (dea : Nat → Int32) (fN : Nat → Nat) (sN : Nat → Nat) (b : Nat) (hB : bN ≤ 4) (hS : 0 < sN0 ∧ sN0 ≤ 8) (hb : b < bN) (hP : 0 < pN ∧ pN ≤ 101) (hL : f_LN beg std fN sN pN sN0) (sz : Nat) : zM l y_Mod_deal (zT y_Mod_deal b_Mod_deal 6 none) (zR 1 23) 0 0 D K M [.ref m0, .int (nI b)] [cO m0 11 [.int (nI bN), .int (nI sN0), .int (nI pN), .long k0, .long k1, .int now, .ref x_wd, .ref x_beg, .ref x_std, .ref x_dea, .ref x_frm, .ref x_alv, .ref x_stm, .ref x_mov, .ref x_dwn, .ref x_ctd, .ref x_cutm, .ref x_pha, .ref x_usd, .ref x_gol, .ref x_esr, .ref x_epo, .ref x_offm, .ref x_ast, .ref x_opn, .ref x_ssr, .ref x_spo, .ref x_awa, .ref x_dat, .int kpt, .ref x_hd, .int by0, .int to0, .int rep, .int had, .int ost, .int bst, .ref x_inr], cZ K x_dwn 32 dwn, cI K x_beg 8 beg, cI K x_std 8 std, cI K x_dea 101 dea] sz (zQv D K M [cO m0 11 [.int (nI bN), .int (nI sN0), .int (nI pN), .long k0, .long k1, .int now, .ref x_wd, .ref x_beg, .ref x_std, .ref x_dea, .ref x_frm, .ref x_alv, .ref x_stm, .ref x_mov, .ref x_dwn, .ref x_ctd, .ref x_cutm, .ref x_pha, .ref x_usd, .ref x_gol, .ref x_esr, .ref x_epo, .ref x_offm, .ref x_ast, .ref x_opn, .ref x_ssr, .ref x_spo, .ref x_awa, .ref x_dat, .int kpt, .ref x_hd, .int by0, .int to0, .int rep, .int had, .int ost, .int bst, .ref x_inr], cZ K x_dwn 32 dwn, cI K x_beg 8 beg, cI K x_std 8 std, cI K x_dea 101 (g_deal fN sN pN sN0 (g_sh dwn b) dea)]) := by
  refine zx_head (by decide) (Nat.le_of_ble_eq_true rfl) ?_
  intro _ _ _ _ _ _ _ _ _ hF hr hlk hnm
  refine zx_iconst (pc := 0) hF d_Mod_deal_0 k_i0 ?_
  refine zx_istore_n (pc := 1) hF (lv' := [(2, .int 0), (0, .ref m0), (1, .int (nI b))]) d_Mod_deal_1 rfl (by decide) rfl ?_
  refine zx_lv [1, 2, 0] (lv' := [(0, .ref m0), (1, .int (nI b)), (2, .int 0)]) rfl ?_
  refine zx_loop (pc := 2) (σ := Nat × (Nat → Int32)) (fun kz zv => (zv.1 + kz = 101) ∧ (f_fill kz zv.1 (-1) zv.2 = f_fill 101 0 (-1) dea)) (fun zv => [cO m0 11 [.int (nI bN), .int (nI sN0), .int (nI pN), .long k0, .long k1, .int now, .ref x_wd, .ref x_beg, .ref x_std, .ref x_dea, .ref x_frm, .ref x_alv, .ref x_stm, .ref x_mov, .ref x_dwn, .ref x_ctd, .ref x_cutm, .ref x_pha, .ref x_usd, .ref x_gol, .ref x_esr, .ref x_epo, .ref x_offm, .ref x_ast, .ref x_opn, .ref x_ssr, .ref x_spo, .ref x_awa, .ref x_dat, .int kpt, .ref x_hd, .int by0, .int to0, .int rep, .int had, .int ost, .int bst, .ref x_inr], cZ K x_dwn 32 dwn, cI K x_beg 8 beg, cI K x_std 8 std, cI K x_dea 101 zv.2]) (fun zv => [(0, .ref m0), (1, .int (nI b)), (2, .int (nI zv.1))]) 101 (0, dea) ⟨rfl, rfl⟩ rfl rfl ?_
  intro kz zv hI ih0
  obtain ⟨j, d'⟩ := zv
  obtain ⟨hk0, hX0⟩ := hI
  replace hk0 : j + kz = 101 := hk0
  replace hX0 : f_fill kz j (-1) d' = f_fill 101 0 (-1) dea := hX0
  refine zx_eq (ws' := [cO m0 11 [.int (nI bN), .int (nI sN0), .int (nI pN), .long k0, .long k1, .int now, .ref x_wd, .ref x_beg, .ref x_std, .ref x_dea, .ref x_frm, .ref x_alv, .ref x_stm, .ref x_mov, .ref x_dwn, .ref x_ctd, .ref x_cutm, .ref x_pha, .ref x_usd, .ref x_gol, .ref x_esr, .ref x_epo, .ref x_offm, .ref x_ast, .ref x_opn, .ref x_ssr, .ref x_spo, .ref x_awa, .ref x_dat, .int kpt, .ref x_hd, .int by0, .int to0, .int rep, .int had, .int ost, .int bst, .ref x_inr], cZ K x_dwn 32 dwn, cI K x_beg 8 beg, cI K x_std 8 std, cI K x_dea 101 d']) (lv' := [(0, .ref m0), (1, .int (nI b)), (2, .int (nI j))]) rfl rfl rfl ?_
  refine zx_iload_n (pc := 2) hF d_Mod_deal_2 rfl 2 rfl ?_
  refine zx_bipush (pc := 3) hF d_Mod_deal_3 k_b101 ?_
  refine zx_icmp_ge (pc := 5) hF d_Mod_deal_5 (tgt := 21) rfl (fun h5 => ?_) (fun h5 => ?_)
  · replace h5 : 101 ≤ j := (nI_leI (a := 101) (b := j) (by omega) (by omega)).mp h5
    refine zx_aload_n (pc := 21) hF d_Mod_deal_21 rfl 0 rfl ?_
    refine zx_iload_n (pc := 22) hF d_Mod_deal_22 rfl 1 rfl ?_
    refine zx_Vi (pc := 23) hF (As := [.int (nI b)]) (rest := []) (fun sz => M_Mod_ups l D K M m0 bN sN0 pN k0 k1 now x_wd x_beg x_std x_dea x_frm x_alv x_stm x_mov x_dwn x_ctd x_cutm x_pha x_usd x_gol x_esr x_epo x_offm x_ast x_opn x_ssr x_spo x_awa x_dat kpt x_hd by0 to0 rep had ost bst x_inr dwn b (by first | assumption | omega) (by first | assumption | omega) (by first | assumption | omega) sz) [0, 1] rfl (by decide) (as := [m0, x_dwn]) rfl rfl (ws' := [cO m0 11 [.int (nI bN), .int (nI sN0), .int (nI pN), .long k0, .long k1, .int now, .ref x_wd, .ref x_beg, .ref x_std, .ref x_dea, .ref x_frm, .ref x_alv, .ref x_stm, .ref x_mov, .ref x_dwn, .ref x_ctd, .ref x_cutm, .ref x_pha, .ref x_usd, .ref x_gol, .ref x_esr, .ref x_epo, .ref x_offm, .ref x_ast, .ref x_opn, .ref x_ssr, .ref x_spo, .ref x_awa, .ref x_dat, .int kpt, .ref x_hd, .int by0, .int to0, .int rep, .int had, .int ost, .int bst, .ref x_inr], cZ K x_dwn 32 dwn, cI K x_beg 8 beg, cI K x_std 8 std, cI K x_dea 101 d']) rfl 0 11 rfl rfl rfl (cw_Mod_180 hF.2.2.2.2.1 rfl rfl ⟨by decide, by decide⟩) rfl rfl (Nat.le_of_ble_eq_true rfl) d_Mod_deal_23 ⟨Nat.zero_le _, Nat.zero_le _⟩ ?_
    refine zx_if_ne (pc := 26) hF d_Mod_deal_26 (tgt := 33) rfl (fun h26 => ?_) (fun h26 => ?_)
    · replace h26 : ¬ (g_ups (g_sh dwn b) sN0) = 0 := fun z => h26 ((nI_eq (a := g_ups (g_sh dwn b) sN0) (b := 0) (Nat.lt_of_le_of_lt (g_ups_le _ _) (by omega)) (by omega)).mpr z)
      refine zx_aload_n (pc := 33) hF d_Mod_deal_33 rfl 0 rfl ?_
      refine zg_Mod_107 (pc := 34) hF 0 rfl rfl d_Mod_deal_34 ?_
      refine zx_istore_n (pc := 37) hF (lv' := [(2, .int (nI pN)), (0, .ref m0), (1, .int (nI b))]) d_Mod_deal_37 rfl (by decide) rfl ?_
      refine zx_iconst (pc := 38) hF d_Mod_deal_38 k_i0 ?_
      refine zx_istore_n (pc := 39) hF (lv' := [(3, .int 0), (2, .int (nI pN)), (0, .ref m0), (1, .int (nI b))]) d_Mod_deal_39 rfl (by decide) rfl ?_
      refine zx_lv [2, 3, 1, 0] (lv' := [(0, .ref m0), (1, .int (nI b)), (2, .int (nI pN)), (3, .int 0)]) rfl ?_
      refine zx_loop (pc := 40) (σ := Nat × Nat × (Nat → Int32)) (fun k zv => (zv.1 + k = 1000) ∧ (zv.2.1 ≤ 101) ∧ (g_loop fN sN pN sN0 (g_sh dwn b) k zv.1 zv.2.1 zv.2.2 = g_deal fN sN pN sN0 (g_sh dwn b) dea)) (fun zv => [cO m0 11 [.int (nI bN), .int (nI sN0), .int (nI pN), .long k0, .long k1, .int now, .ref x_wd, .ref x_beg, .ref x_std, .ref x_dea, .ref x_frm, .ref x_alv, .ref x_stm, .ref x_mov, .ref x_dwn, .ref x_ctd, .ref x_cutm, .ref x_pha, .ref x_usd, .ref x_gol, .ref x_esr, .ref x_epo, .ref x_offm, .ref x_ast, .ref x_opn, .ref x_ssr, .ref x_spo, .ref x_awa, .ref x_dat, .int kpt, .ref x_hd, .int by0, .int to0, .int rep, .int had, .int ost, .int bst, .ref x_inr], cZ K x_dwn 32 dwn, cI K x_beg 8 beg, cI K x_std 8 std, cI K x_dea 101 zv.2.2]) (fun zv => [(0, .ref m0), (1, .int (nI b)), (2, .int (nI zv.2.1)), (3, .int (nI zv.1))]) 1000 (0, pN, d') ⟨rfl, by (try dsimp only); omega, by obtain rfl : kz = 0 := (by omega); unfold g_deal g_lf; simp only [h26, ↓reduceIte]; rw [← hX0]; rfl⟩ rfl rfl ?_
      intro k zv hI ih
      obtain ⟨t, lf, d'⟩ := zv
      obtain ⟨hk, hl, hX⟩ := hI
      replace hk : t + k = 1000 := hk
      replace hl : lf ≤ 101 := hl
      replace hX : g_loop fN sN pN sN0 (g_sh dwn b) k t lf d' = g_deal fN sN pN sN0 (g_sh dwn b) dea := hX
      refine zx_eq (ws' := [cO m0 11 [.int (nI bN), .int (nI sN0), .int (nI pN), .long k0, .long k1, .int now, .ref x_wd, .ref x_beg, .ref x_std, .ref x_dea, .ref x_frm, .ref x_alv, .ref x_stm, .ref x_mov, .ref x_dwn, .ref x_ctd, .ref x_cutm, .ref x_pha, .ref x_usd, .ref x_gol, .ref x_esr, .ref x_epo, .ref x_offm, .ref x_ast, .ref x_opn, .ref x_ssr, .ref x_spo, .ref x_awa, .ref x_dat, .int kpt, .ref x_hd, .int by0, .int to0, .int rep, .int had, .int ost, .int bst, .ref x_inr], cZ K x_dwn 32 dwn, cI K x_beg 8 beg, cI K x_std 8 std, cI K x_dea 101 d']) (lv' := [(0, .ref m0), (1, .int (nI b)), (2, .int (nI lf)), (3, .int (nI t))]) rfl rfl rfl ?_
      refine zx_iload_n (pc := 40) hF d_Mod_deal_40 rfl 3 rfl ?_
      refine zx_sipush (pc := 41) hF d_Mod_deal_41 k_s1000 ?_
      refine zx_icmp_ge (pc := 44) hF d_Mod_deal_44 (tgt := 110) rfl (fun h44 => ?_) (fun h44 => ?_)
      · replace h44 : 1000 ≤ t := (nI_leI (a := 1000) (b := t) (by omega) (by omega)).mp h44
        exact zx_vret (pc := 110) hF hr hlk (by obtain rfl : k = 0 := (by omega); rw [← hX]; rfl) d_Mod_deal_110
      · replace h44 : ¬ 1000 ≤ t := fun z => h44 ((nI_leI (a := 1000) (b := t) (by omega) (by omega)).mpr z)
        refine zx_iload_n (pc := 47) hF d_Mod_deal_47 rfl 2 rfl ?_
        refine zx_if_le (pc := 48) hF d_Mod_deal_48 (tgt := 110) rfl (fun h48 => ?_) (fun h48 => ?_)
        · replace h48 : lf ≤ 0 := (nI_leI (a := lf) (b := 0) (by omega) (by omega)).mp h48
          exact zx_vret (pc := 110) hF hr hlk (by obtain ⟨k', rfl⟩ : ∃ k', k = k' + 1 := ⟨k - 1, by omega⟩; simp only [g_loop] at hX; rw [if_pos (by omega)] at hX; rw [← hX]) d_Mod_deal_110
        · replace h48 : ¬ lf ≤ 0 := fun z => h48 ((nI_leI (a := lf) (b := 0) (by omega) (by omega)).mpr z)
          refine zx_iload_n (pc := 51) hF d_Mod_deal_51 rfl 3 rfl ?_
          refine zx_aload_n (pc := 52) hF d_Mod_deal_52 rfl 0 rfl ?_
          refine zg_Mod_104 (pc := 53) hF 0 rfl rfl d_Mod_deal_53 ?_
          refine zx_irem (pc := 56) hF d_Mod_deal_56 (nI_ne0 hS.1 (by omega)) ?_
          refine zx_topi (nI (t % sN0)) (pk_rem (a := t) (d := sN0) (by omega) (by omega) (by omega)) ?_
          refine zx_istore (pc := 57) hF (lv' := [(4, .int (nI (t % sN0))), (0, .ref m0), (1, .int (nI b)), (2, .int (nI lf)), (3, .int (nI t))]) d_Mod_deal_57 (by decide) rfl ?_
          refine zx_aload_n (pc := 59) hF d_Mod_deal_59 rfl 1 rfl ?_
          refine zg_Mod_36 (pc := 60) hF 0 rfl rfl d_Mod_deal_60 ?_
          refine zx_bipush (pc := 63) hF d_Mod_deal_63 k_b8 ?_
          refine zx_iload_n (pc := 65) hF d_Mod_deal_65 rfl 2 rfl ?_
          refine zx_imul (pc := 66) hF d_Mod_deal_66 ?_
          refine zx_topi (nI (8 * b)) (pk_mul 8 b) ?_
          refine zx_iload (pc := 67) hF d_Mod_deal_67 0 rfl ?_
          refine zx_iadd (pc := 69) hF d_Mod_deal_69 ?_
          refine zx_topi (nI ((8 * b) + (t % sN0))) (nI_add (8 * b) (t % sN0)) ?_
          refine zx_zaldn (pc := 70) hF (i := (8 * b) + (t % sN0)) 1 rfl (by have := Nat.mod_lt t hS.1; omega) (by omega) d_Mod_deal_70 ?_
          refine zx_if_ne (pc := 71) hF d_Mod_deal_71 (tgt := 104) rfl (fun h71 => ?_) (fun h71 => ?_)
          · refine zx_iinc (pc := 104) hF (v := nI (t + 1)) (lv' := [(3, .int (nI (t + 1))), (4, .int (nI (t % sN0))), (0, .ref m0), (1, .int (nI b)), (2, .int (nI lf))]) d_Mod_deal_104 4 rfl (zinc t) (by decide) rfl ?_
            refine zx_goto (pc := 107) hF d_Mod_deal_107 (tgt := 40) rfl ?_
            refine zx_lv [2, 3, 4, 0] (lv' := [(0, .ref m0), (1, .int (nI b)), (2, .int (nI lf)), (3, .int (nI (t + 1)))]) rfl ?_
            exact ih (k - 1) (t + 1, lf, d') (by omega) ⟨by (try dsimp only); omega, by (try dsimp only); omega, by obtain ⟨k', rfl⟩ : ∃ k', k = k' + 1 := ⟨k - 1, by omega⟩; simpa [g_loop, g_one, g_sh, (show ¬ lf = 0 by omega), h71] using hX⟩
          · refine zx_iload_n (pc := 74) hF d_Mod_deal_74 rfl 3 rfl ?_
            refine zx_if_le (pc := 75) hF d_Mod_deal_75 (tgt := 104) rfl (fun h75 => ?_) (fun h75 => ?_)
            · replace h75 : lf ≤ 0 := (nI_leI (a := lf) (b := 0) (by omega) (by omega)).mp h75
              exact absurd h75 h48
            · replace h75 : ¬ lf ≤ 0 := fun z => h75 ((nI_leI (a := lf) (b := 0) (by omega) (by omega)).mpr z)
              refine zx_aload_n (pc := 78) hF d_Mod_deal_78 rfl 1 rfl ?_
              refine zx_iload (pc := 79) hF d_Mod_deal_79 0 rfl ?_
              refine zx_Vi (pc := 81) hF (As := [.int (nI (t % sN0))]) (rest := []) (fun sz => M_Mod_wish l D K M m0 bN sN0 pN k0 k1 now x_wd x_beg x_std x_dea x_frm x_alv x_stm x_mov x_dwn x_ctd x_cutm x_pha x_usd x_gol x_esr x_epo x_offm x_ast x_opn x_ssr x_spo x_awa x_dat kpt x_hd by0 to0 rep had ost bst x_inr beg std d' fN sN (t % sN0) (by first | assumption | omega) (by first | assumption | omega) (by first | assumption | omega) (by first | assumption | omega) (Nat.mod_lt _ hS.1) sz) [0, 2, 3, 4] rfl (by decide) (as := [m0, x_beg, x_std, x_dea]) rfl rfl (ws' := [cO m0 11 [.int (nI bN), .int (nI sN0), .int (nI pN), .long k0, .long k1, .int now, .ref x_wd, .ref x_beg, .ref x_std, .ref x_dea, .ref x_frm, .ref x_alv, .ref x_stm, .ref x_mov, .ref x_dwn, .ref x_ctd, .ref x_cutm, .ref x_pha, .ref x_usd, .ref x_gol, .ref x_esr, .ref x_epo, .ref x_offm, .ref x_ast, .ref x_opn, .ref x_ssr, .ref x_spo, .ref x_awa, .ref x_dat, .int kpt, .ref x_hd, .int by0, .int to0, .int rep, .int had, .int ost, .int bst, .ref x_inr], cZ K x_dwn 32 dwn, cI K x_beg 8 beg, cI K x_std 8 std, cI K x_dea 101 d']) rfl 0 11 rfl rfl rfl (cw_Mod_183 hF.2.2.2.2.1 rfl rfl ⟨by decide, by decide⟩) rfl rfl (Nat.le_of_ble_eq_true rfl) d_Mod_deal_81 ⟨Nat.zero_le _, Nat.zero_le _⟩ ?_
              refine zx_istore (pc := 84) hF (lv' := [(5, .int (g_wish d' (f_pl fN sN pN (t % sN0)) pN 0)), (4, .int (nI (t % sN0))), (0, .ref m0), (1, .int (nI b)), (2, .int (nI lf)), (3, .int (nI t))]) d_Mod_deal_84 (by decide) rfl ?_
              refine zx_iload (pc := 86) hF d_Mod_deal_86 0 rfl ?_
              refine zx_if_lt (pc := 88) hF d_Mod_deal_88 (tgt := 100) rfl (fun h88 => ?_) (fun h88 => ?_)
              · refine zx_iload_n (pc := 100) hF d_Mod_deal_100 rfl 4 rfl ?_
                refine zx_iconst (pc := 101) hF d_Mod_deal_101 k_i1 ?_
                refine zx_isub (pc := 102) hF d_Mod_deal_102 ?_
                refine zx_topi (nI (lf - 1)) (pk_sub (a := lf) (b := 1) (by omega)) ?_
                refine zx_istore_n (pc := 103) hF (lv' := [(2, .int (nI (lf - 1))), (5, .int (g_wish d' (f_pl fN sN pN (t % sN0)) pN 0)), (4, .int (nI (t % sN0))), (0, .ref m0), (1, .int (nI b)), (3, .int (nI t))]) d_Mod_deal_103 rfl (by decide) rfl ?_
                refine zx_iinc (pc := 104) hF (v := nI (t + 1)) (lv' := [(3, .int (nI (t + 1))), (2, .int (nI (lf - 1))), (5, .int (g_wish d' (f_pl fN sN pN (t % sN0)) pN 0)), (4, .int (nI (t % sN0))), (0, .ref m0), (1, .int (nI b))]) d_Mod_deal_104 5 rfl (zinc t) (by decide) rfl ?_
                refine zx_goto (pc := 107) hF d_Mod_deal_107 (tgt := 40) rfl ?_
                refine zx_lv [4, 5, 1, 0] (lv' := [(0, .ref m0), (1, .int (nI b)), (2, .int (nI (lf - 1))), (3, .int (nI (t + 1)))]) rfl ?_
                exact ih (k - 1) (t + 1, lf - 1, d') (by omega) ⟨by (try dsimp only); omega, by (try dsimp only); omega, by obtain ⟨k', rfl⟩ : ∃ k', k = k' + 1 := ⟨k - 1, by omega⟩; simpa [g_loop, g_one, g_sh, (show ¬ lf = 0 by omega), h71, h88] using hX⟩
              · refine zx_aload_n (pc := 91) hF d_Mod_deal_91 rfl 2 rfl ?_
                refine zg_Mod_20 (pc := 92) hF 0 rfl rfl d_Mod_deal_92 ?_
                refine zx_iload (pc := 95) hF d_Mod_deal_95 0 rfl ?_
                refine zx_iload (pc := 97) hF d_Mod_deal_97 1 rfl ?_
                refine zx_iast (pc := 99) hF 4 rfl (g_wish_in (by omega) (fun i => Nat.lt_of_lt_of_le (f_pl_lt hP.1) hP.2) _ _ h88) d_Mod_deal_99 (ws' := [cO m0 11 [.int (nI bN), .int (nI sN0), .int (nI pN), .long k0, .long k1, .int now, .ref x_wd, .ref x_beg, .ref x_std, .ref x_dea, .ref x_frm, .ref x_alv, .ref x_stm, .ref x_mov, .ref x_dwn, .ref x_ctd, .ref x_cutm, .ref x_pha, .ref x_usd, .ref x_gol, .ref x_esr, .ref x_epo, .ref x_offm, .ref x_ast, .ref x_opn, .ref x_ssr, .ref x_spo, .ref x_awa, .ref x_dat, .int kpt, .ref x_hd, .int by0, .int to0, .int rep, .int had, .int ost, .int bst, .ref x_inr], cZ K x_dwn 32 dwn, cI K x_beg 8 beg, cI K x_std 8 std, cI K x_dea 101 (upd d' (Int32.toNatClampNeg (g_wish d' (f_pl fN sN pN (t % sN0)) pN 0)) (nI (t % sN0)))]) rfl ?_
                refine zx_iload_n (pc := 100) hF d_Mod_deal_100 rfl 4 rfl ?_
                refine zx_iconst (pc := 101) hF d_Mod_deal_101 k_i1 ?_
                refine zx_isub (pc := 102) hF d_Mod_deal_102 ?_
                refine zx_topi (nI (lf - 1)) (pk_sub (a := lf) (b := 1) (by omega)) ?_
                refine zx_istore_n (pc := 103) hF (lv' := [(2, .int (nI (lf - 1))), (5, .int (g_wish d' (f_pl fN sN pN (t % sN0)) pN 0)), (4, .int (nI (t % sN0))), (0, .ref m0), (1, .int (nI b)), (3, .int (nI t))]) d_Mod_deal_103 rfl (by decide) rfl ?_
                refine zx_iinc (pc := 104) hF (v := nI (t + 1)) (lv' := [(3, .int (nI (t + 1))), (2, .int (nI (lf - 1))), (5, .int (g_wish d' (f_pl fN sN pN (t % sN0)) pN 0)), (4, .int (nI (t % sN0))), (0, .ref m0), (1, .int (nI b))]) d_Mod_deal_104 5 rfl (zinc t) (by decide) rfl ?_
                refine zx_goto (pc := 107) hF d_Mod_deal_107 (tgt := 40) rfl ?_
                refine zx_lv [4, 5, 1, 0] (lv' := [(0, .ref m0), (1, .int (nI b)), (2, .int (nI (lf - 1))), (3, .int (nI (t + 1)))]) rfl ?_
                exact ih (k - 1) (t + 1, lf - 1, upd d' (Int32.toNatClampNeg (g_wish d' (f_pl fN sN pN (t % sN0)) pN 0)) (nI (t % sN0))) (by omega) ⟨by (try dsimp only); omega, by (try dsimp only); omega, by obtain ⟨k', rfl⟩ : ∃ k', k = k' + 1 := ⟨k - 1, by omega⟩; simpa [g_loop, g_one, g_sh, (show ¬ lf = 0 by omega), h71, h88] using hX⟩
    · replace h26 : (g_ups (g_sh dwn b) sN0) = 0 := (nI_eq (a := g_ups (g_sh dwn b) sN0) (b := 0) (Nat.lt_of_le_of_lt (g_ups_le _ _) (by omega)) (by omega)).mp h26
      refine zx_iconst (pc := 29) hF d_Mod_deal_29 k_i0 ?_
      refine zx_goto (pc := 30) hF d_Mod_deal_30 (tgt := 37) rfl ?_
      refine zx_istore_n (pc := 37) hF (lv' := [(2, .int 0), (0, .ref m0), (1, .int (nI b))]) d_Mod_deal_37 rfl (by decide) rfl ?_
      refine zx_iconst (pc := 38) hF d_Mod_deal_38 k_i0 ?_
      refine zx_istore_n (pc := 39) hF (lv' := [(3, .int 0), (2, .int 0), (0, .ref m0), (1, .int (nI b))]) d_Mod_deal_39 rfl (by decide) rfl ?_
      refine zx_lv [2, 3, 1, 0] (lv' := [(0, .ref m0), (1, .int (nI b)), (2, .int 0), (3, .int 0)]) rfl ?_
      refine zx_loop (pc := 40) (σ := Nat × Nat × (Nat → Int32)) (fun k zv => (zv.1 + k = 1000) ∧ (zv.2.1 ≤ 101) ∧ (g_loop fN sN pN sN0 (g_sh dwn b) k zv.1 zv.2.1 zv.2.2 = g_deal fN sN pN sN0 (g_sh dwn b) dea)) (fun zv => [cO m0 11 [.int (nI bN), .int (nI sN0), .int (nI pN), .long k0, .long k1, .int now, .ref x_wd, .ref x_beg, .ref x_std, .ref x_dea, .ref x_frm, .ref x_alv, .ref x_stm, .ref x_mov, .ref x_dwn, .ref x_ctd, .ref x_cutm, .ref x_pha, .ref x_usd, .ref x_gol, .ref x_esr, .ref x_epo, .ref x_offm, .ref x_ast, .ref x_opn, .ref x_ssr, .ref x_spo, .ref x_awa, .ref x_dat, .int kpt, .ref x_hd, .int by0, .int to0, .int rep, .int had, .int ost, .int bst, .ref x_inr], cZ K x_dwn 32 dwn, cI K x_beg 8 beg, cI K x_std 8 std, cI K x_dea 101 zv.2.2]) (fun zv => [(0, .ref m0), (1, .int (nI b)), (2, .int (nI zv.2.1)), (3, .int (nI zv.1))]) 1000 (0, 0, d') ⟨rfl, by (try dsimp only); omega, by obtain rfl : kz = 0 := (by omega); unfold g_deal g_lf; simp only [h26, ↓reduceIte]; rw [← hX0]; rfl⟩ rfl rfl ?_
      intro k zv hI ih
      obtain ⟨t, lf, d'⟩ := zv
      obtain ⟨hk, hl, hX⟩ := hI
      replace hk : t + k = 1000 := hk
      replace hl : lf ≤ 101 := hl
      replace hX : g_loop fN sN pN sN0 (g_sh dwn b) k t lf d' = g_deal fN sN pN sN0 (g_sh dwn b) dea := hX
      refine zx_eq (ws' := [cO m0 11 [.int (nI bN), .int (nI sN0), .int (nI pN), .long k0, .long k1, .int now, .ref x_wd, .ref x_beg, .ref x_std, .ref x_dea, .ref x_frm, .ref x_alv, .ref x_stm, .ref x_mov, .ref x_dwn, .ref x_ctd, .ref x_cutm, .ref x_pha, .ref x_usd, .ref x_gol, .ref x_esr, .ref x_epo, .ref x_offm, .ref x_ast, .ref x_opn, .ref x_ssr, .ref x_spo, .ref x_awa, .ref x_dat, .int kpt, .ref x_hd, .int by0, .int to0, .int rep, .int had, .int ost, .int bst, .ref x_inr], cZ K x_dwn 32 dwn, cI K x_beg 8 beg, cI K x_std 8 std, cI K x_dea 101 d']) (lv' := [(0, .ref m0), (1, .int (nI b)), (2, .int (nI lf)), (3, .int (nI t))]) rfl rfl rfl ?_
      refine zx_iload_n (pc := 40) hF d_Mod_deal_40 rfl 3 rfl ?_
      refine zx_sipush (pc := 41) hF d_Mod_deal_41 k_s1000 ?_
      refine zx_icmp_ge (pc := 44) hF d_Mod_deal_44 (tgt := 110) rfl (fun h44 => ?_) (fun h44 => ?_)
      · replace h44 : 1000 ≤ t := (nI_leI (a := 1000) (b := t) (by omega) (by omega)).mp h44
        exact zx_vret (pc := 110) hF hr hlk (by obtain rfl : k = 0 := (by omega); rw [← hX]; rfl) d_Mod_deal_110
      · replace h44 : ¬ 1000 ≤ t := fun z => h44 ((nI_leI (a := 1000) (b := t) (by omega) (by omega)).mpr z)
        refine zx_iload_n (pc := 47) hF d_Mod_deal_47 rfl 2 rfl ?_
        refine zx_if_le (pc := 48) hF d_Mod_deal_48 (tgt := 110) rfl (fun h48 => ?_) (fun h48 => ?_)
        · replace h48 : lf ≤ 0 := (nI_leI (a := lf) (b := 0) (by omega) (by omega)).mp h48
          exact zx_vret (pc := 110) hF hr hlk (by obtain ⟨k', rfl⟩ : ∃ k', k = k' + 1 := ⟨k - 1, by omega⟩; simp only [g_loop] at hX; rw [if_pos (by omega)] at hX; rw [← hX]) d_Mod_deal_110
        · replace h48 : ¬ lf ≤ 0 := fun z => h48 ((nI_leI (a := lf) (b := 0) (by omega) (by omega)).mpr z)
          refine zx_iload_n (pc := 51) hF d_Mod_deal_51 rfl 3 rfl ?_
          refine zx_aload_n (pc := 52) hF d_Mod_deal_52 rfl 0 rfl ?_
          refine zg_Mod_104 (pc := 53) hF 0 rfl rfl d_Mod_deal_53 ?_
          refine zx_irem (pc := 56) hF d_Mod_deal_56 (nI_ne0 hS.1 (by omega)) ?_
          refine zx_topi (nI (t % sN0)) (pk_rem (a := t) (d := sN0) (by omega) (by omega) (by omega)) ?_
          refine zx_istore (pc := 57) hF (lv' := [(4, .int (nI (t % sN0))), (0, .ref m0), (1, .int (nI b)), (2, .int (nI lf)), (3, .int (nI t))]) d_Mod_deal_57 (by decide) rfl ?_
          refine zx_aload_n (pc := 59) hF d_Mod_deal_59 rfl 1 rfl ?_
          refine zg_Mod_36 (pc := 60) hF 0 rfl rfl d_Mod_deal_60 ?_
          refine zx_bipush (pc := 63) hF d_Mod_deal_63 k_b8 ?_
          refine zx_iload_n (pc := 65) hF d_Mod_deal_65 rfl 2 rfl ?_
          refine zx_imul (pc := 66) hF d_Mod_deal_66 ?_
          refine zx_topi (nI (8 * b)) (pk_mul 8 b) ?_
          refine zx_iload (pc := 67) hF d_Mod_deal_67 0 rfl ?_
          refine zx_iadd (pc := 69) hF d_Mod_deal_69 ?_
          refine zx_topi (nI ((8 * b) + (t % sN0))) (nI_add (8 * b) (t % sN0)) ?_
          refine zx_zaldn (pc := 70) hF (i := (8 * b) + (t % sN0)) 1 rfl (by have := Nat.mod_lt t hS.1; omega) (by omega) d_Mod_deal_70 ?_
          refine zx_if_ne (pc := 71) hF d_Mod_deal_71 (tgt := 104) rfl (fun h71 => ?_) (fun h71 => ?_)
          · refine zx_iinc (pc := 104) hF (v := nI (t + 1)) (lv' := [(3, .int (nI (t + 1))), (4, .int (nI (t % sN0))), (0, .ref m0), (1, .int (nI b)), (2, .int (nI lf))]) d_Mod_deal_104 4 rfl (zinc t) (by decide) rfl ?_
            refine zx_goto (pc := 107) hF d_Mod_deal_107 (tgt := 40) rfl ?_
            refine zx_lv [2, 3, 4, 0] (lv' := [(0, .ref m0), (1, .int (nI b)), (2, .int (nI lf)), (3, .int (nI (t + 1)))]) rfl ?_
            exact ih (k - 1) (t + 1, lf, d') (by omega) ⟨by (try dsimp only); omega, by (try dsimp only); omega, by obtain ⟨k', rfl⟩ : ∃ k', k = k' + 1 := ⟨k - 1, by omega⟩; simpa [g_loop, g_one, g_sh, (show ¬ lf = 0 by omega), h71] using hX⟩
          · refine zx_iload_n (pc := 74) hF d_Mod_deal_74 rfl 3 rfl ?_
            refine zx_if_le (pc := 75) hF d_Mod_deal_75 (tgt := 104) rfl (fun h75 => ?_) (fun h75 => ?_)
            · replace h75 : lf ≤ 0 := (nI_leI (a := lf) (b := 0) (by omega) (by omega)).mp h75
              exact absurd h75 h48
            · replace h75 : ¬ lf ≤ 0 := fun z => h75 ((nI_leI (a := lf) (b := 0) (by omega) (by omega)).mpr z)
              refine zx_aload_n (pc := 78) hF d_Mod_deal_78 rfl 1 rfl ?_
              refine zx_iload (pc := 79) hF d_Mod_deal_79 0 rfl ?_
              refine zx_Vi (pc := 81) hF (As := [.int (nI (t % sN0))]) (rest := []) (fun sz => M_Mod_wish l D K M m0 bN sN0 pN k0 k1 now x_wd x_beg x_std x_dea x_frm x_alv x_stm x_mov x_dwn x_ctd x_cutm x_pha x_usd x_gol x_esr x_epo x_offm x_ast x_opn x_ssr x_spo x_awa x_dat kpt x_hd by0 to0 rep had ost bst x_inr beg std d' fN sN (t % sN0) (by first | assumption | omega) (by first | assumption | omega) (by first | assumption | omega) (by first | assumption | omega) (Nat.mod_lt _ hS.1) sz) [0, 2, 3, 4] rfl (by decide) (as := [m0, x_beg, x_std, x_dea]) rfl rfl (ws' := [cO m0 11 [.int (nI bN), .int (nI sN0), .int (nI pN), .long k0, .long k1, .int now, .ref x_wd, .ref x_beg, .ref x_std, .ref x_dea, .ref x_frm, .ref x_alv, .ref x_stm, .ref x_mov, .ref x_dwn, .ref x_ctd, .ref x_cutm, .ref x_pha, .ref x_usd, .ref x_gol, .ref x_esr, .ref x_epo, .ref x_offm, .ref x_ast, .ref x_opn, .ref x_ssr, .ref x_spo, .ref x_awa, .ref x_dat, .int kpt, .ref x_hd, .int by0, .int to0, .int rep, .int had, .int ost, .int bst, .ref x_inr], cZ K x_dwn 32 dwn, cI K x_beg 8 beg, cI K x_std 8 std, cI K x_dea 101 d']) rfl 0 11 rfl rfl rfl (cw_Mod_183 hF.2.2.2.2.1 rfl rfl ⟨by decide, by decide⟩) rfl rfl (Nat.le_of_ble_eq_true rfl) d_Mod_deal_81 ⟨Nat.zero_le _, Nat.zero_le _⟩ ?_
              refine zx_istore (pc := 84) hF (lv' := [(5, .int (g_wish d' (f_pl fN sN pN (t % sN0)) pN 0)), (4, .int (nI (t % sN0))), (0, .ref m0), (1, .int (nI b)), (2, .int (nI lf)), (3, .int (nI t))]) d_Mod_deal_84 (by decide) rfl ?_
              refine zx_iload (pc := 86) hF d_Mod_deal_86 0 rfl ?_
              refine zx_if_lt (pc := 88) hF d_Mod_deal_88 (tgt := 100) rfl (fun h88 => ?_) (fun h88 => ?_)
              · refine zx_iload_n (pc := 100) hF d_Mod_deal_100 rfl 4 rfl ?_
                refine zx_iconst (pc := 101) hF d_Mod_deal_101 k_i1 ?_
                refine zx_isub (pc := 102) hF d_Mod_deal_102 ?_
                refine zx_topi (nI (lf - 1)) (pk_sub (a := lf) (b := 1) (by omega)) ?_
                refine zx_istore_n (pc := 103) hF (lv' := [(2, .int (nI (lf - 1))), (5, .int (g_wish d' (f_pl fN sN pN (t % sN0)) pN 0)), (4, .int (nI (t % sN0))), (0, .ref m0), (1, .int (nI b)), (3, .int (nI t))]) d_Mod_deal_103 rfl (by decide) rfl ?_
                refine zx_iinc (pc := 104) hF (v := nI (t + 1)) (lv' := [(3, .int (nI (t + 1))), (2, .int (nI (lf - 1))), (5, .int (g_wish d' (f_pl fN sN pN (t % sN0)) pN 0)), (4, .int (nI (t % sN0))), (0, .ref m0), (1, .int (nI b))]) d_Mod_deal_104 5 rfl (zinc t) (by decide) rfl ?_
                refine zx_goto (pc := 107) hF d_Mod_deal_107 (tgt := 40) rfl ?_
                refine zx_lv [4, 5, 1, 0] (lv' := [(0, .ref m0), (1, .int (nI b)), (2, .int (nI (lf - 1))), (3, .int (nI (t + 1)))]) rfl ?_
                exact ih (k - 1) (t + 1, lf - 1, d') (by omega) ⟨by (try dsimp only); omega, by (try dsimp only); omega, by obtain ⟨k', rfl⟩ : ∃ k', k = k' + 1 := ⟨k - 1, by omega⟩; simpa [g_loop, g_one, g_sh, (show ¬ lf = 0 by omega), h71, h88] using hX⟩
              · refine zx_aload_n (pc := 91) hF d_Mod_deal_91 rfl 2 rfl ?_
                refine zg_Mod_20 (pc := 92) hF 0 rfl rfl d_Mod_deal_92 ?_
                refine zx_iload (pc := 95) hF d_Mod_deal_95 0 rfl ?_
                refine zx_iload (pc := 97) hF d_Mod_deal_97 1 rfl ?_
                refine zx_iast (pc := 99) hF 4 rfl (g_wish_in (by omega) (fun i => Nat.lt_of_lt_of_le (f_pl_lt hP.1) hP.2) _ _ h88) d_Mod_deal_99 (ws' := [cO m0 11 [.int (nI bN), .int (nI sN0), .int (nI pN), .long k0, .long k1, .int now, .ref x_wd, .ref x_beg, .ref x_std, .ref x_dea, .ref x_frm, .ref x_alv, .ref x_stm, .ref x_mov, .ref x_dwn, .ref x_ctd, .ref x_cutm, .ref x_pha, .ref x_usd, .ref x_gol, .ref x_esr, .ref x_epo, .ref x_offm, .ref x_ast, .ref x_opn, .ref x_ssr, .ref x_spo, .ref x_awa, .ref x_dat, .int kpt, .ref x_hd, .int by0, .int to0, .int rep, .int had, .int ost, .int bst, .ref x_inr], cZ K x_dwn 32 dwn, cI K x_beg 8 beg, cI K x_std 8 std, cI K x_dea 101 (upd d' (Int32.toNatClampNeg (g_wish d' (f_pl fN sN pN (t % sN0)) pN 0)) (nI (t % sN0)))]) rfl ?_
                refine zx_iload_n (pc := 100) hF d_Mod_deal_100 rfl 4 rfl ?_
                refine zx_iconst (pc := 101) hF d_Mod_deal_101 k_i1 ?_
                refine zx_isub (pc := 102) hF d_Mod_deal_102 ?_
                refine zx_topi (nI (lf - 1)) (pk_sub (a := lf) (b := 1) (by omega)) ?_
                refine zx_istore_n (pc := 103) hF (lv' := [(2, .int (nI (lf - 1))), (5, .int (g_wish d' (f_pl fN sN pN (t % sN0)) pN 0)), (4, .int (nI (t % sN0))), (0, .ref m0), (1, .int (nI b)), (3, .int (nI t))]) d_Mod_deal_103 rfl (by decide) rfl ?_
                refine zx_iinc (pc := 104) hF (v := nI (t + 1)) (lv' := [(3, .int (nI (t + 1))), (2, .int (nI (lf - 1))), (5, .int (g_wish d' (f_pl fN sN pN (t % sN0)) pN 0)), (4, .int (nI (t % sN0))), (0, .ref m0), (1, .int (nI b))]) d_Mod_deal_104 5 rfl (zinc t) (by decide) rfl ?_
                refine zx_goto (pc := 107) hF d_Mod_deal_107 (tgt := 40) rfl ?_
                refine zx_lv [4, 5, 1, 0] (lv' := [(0, .ref m0), (1, .int (nI b)), (2, .int (nI (lf - 1))), (3, .int (nI (t + 1)))]) rfl ?_
                exact ih (k - 1) (t + 1, lf - 1, upd d' (Int32.toNatClampNeg (g_wish d' (f_pl fN sN pN (t % sN0)) pN 0)) (nI (t % sN0))) (by omega) ⟨by (try dsimp only); omega, by (try dsimp only); omega, by obtain ⟨k', rfl⟩ : ∃ k', k = k' + 1 := ⟨k - 1, by omega⟩; simpa [g_loop, g_one, g_sh, (show ¬ lf = 0 by omega), h71, h88] using hX⟩
  · replace h5 : ¬ 101 ≤ j := fun z => h5 ((nI_leI (a := 101) (b := j) (by omega) (by omega)).mpr z)
    refine zx_aload_n (pc := 8) hF d_Mod_deal_8 rfl 0 rfl ?_
    refine zg_Mod_20 (pc := 9) hF 0 rfl rfl d_Mod_deal_9 ?_
    refine zx_iload_n (pc := 12) hF d_Mod_deal_12 rfl 2 rfl ?_
    refine zx_iconst (pc := 13) hF d_Mod_deal_13 k_im1 ?_
    refine zx_iastn (pc := 14) hF (i := j) 4 rfl (by omega) (by omega) d_Mod_deal_14 (ws' := [cO m0 11 [.int (nI bN), .int (nI sN0), .int (nI pN), .long k0, .long k1, .int now, .ref x_wd, .ref x_beg, .ref x_std, .ref x_dea, .ref x_frm, .ref x_alv, .ref x_stm, .ref x_mov, .ref x_dwn, .ref x_ctd, .ref x_cutm, .ref x_pha, .ref x_usd, .ref x_gol, .ref x_esr, .ref x_epo, .ref x_offm, .ref x_ast, .ref x_opn, .ref x_ssr, .ref x_spo, .ref x_awa, .ref x_dat, .int kpt, .ref x_hd, .int by0, .int to0, .int rep, .int had, .int ost, .int bst, .ref x_inr], cZ K x_dwn 32 dwn, cI K x_beg 8 beg, cI K x_std 8 std, cI K x_dea 101 (upd d' j (-1))]) rfl ?_
    refine zx_iinc (pc := 15) hF (v := nI (j + 1)) (lv' := [(2, .int (nI (j + 1))), (0, .ref m0), (1, .int (nI b))]) d_Mod_deal_15 2 rfl (zinc j) (by decide) rfl ?_
    refine zx_goto (pc := 18) hF d_Mod_deal_18 (tgt := 2) rfl ?_
    refine zx_lv [1, 2, 0] (lv' := [(0, .ref m0), (1, .int (nI b)), (2, .int (nI (j + 1)))]) rfl ?_
    exact ih0 (kz - 1) (j + 1, upd d' j (-1)) (by omega) ⟨by (try dsimp only); omega, by obtain ⟨k', rfl⟩ : ∃ k', kz = k' + 1 := ⟨kz - 1, by omega⟩; exact hX0⟩
set_option maxRecDepth 20000 in
theorem M_Mod_place (l : Launch) (D : va_G) (K : Nat → ClassId) (M : List (ClassId × FieldType)) (m0 : Nat) (bN : Nat) (sN0 : Nat) (pN : Nat) (k0 : Int64) (k1 : Int64) (now : Int32) (x_wd : Nat) (x_beg : Nat) (x_std : Nat) (x_dea : Nat) (x_frm : Nat) (x_alv : Nat) (x_stm : Nat) (x_mov : Nat) (x_dwn : Nat) (x_ctd : Nat) (x_cutm : Nat) (x_pha : Nat) (x_usd : Nat) (x_gol : Nat) (x_esr : Nat) (x_epo : Nat) (x_offm : Nat) (x_ast : Nat) (x_opn : Nat) (x_ssr : Nat) (x_spo : Nat) (x_awa : Nat) (x_dat : Nat) (kpt : Int32) (x_hd : Nat) (by0 : Int32) (to0 : Int32) (rep : Int32) (had : Int32) (ost : Int32) (bst : Int32) (x_inr : Nat) (dwn : Nat → Int32) (beg : Nat → Int32) (std : Nat → Int32) (dea : Nat → Int32) (fN : Nat → Nat) (sN : Nat → Nat) (b : Nat) (t : Nat) (hB : bN ≤ 4) (hS : 0 < sN0 ∧ sN0 ≤ 8) (hb : b < bN) (hP : 0 < pN ∧ pN ≤ 101) (hL : f_LN beg std fN sN pN sN0) (ht : t < pN) (sz : Nat) : zM l y_Mod_place (zT y_Mod_place b_Mod_place 3 (some .int)) (zR 2 48) 0 0 D K M [.ref m0, .int (nI b), .int (nI t)] [cO m0 11 [.int (nI bN), .int (nI sN0), .int (nI pN), .long k0, .long k1, .int now, .ref x_wd, .ref x_beg, .ref x_std, .ref x_dea, .ref x_frm, .ref x_alv, .ref x_stm, .ref x_mov, .ref x_dwn, .ref x_ctd, .ref x_cutm, .ref x_pha, .ref x_usd, .ref x_gol, .ref x_esr, .ref x_epo, .ref x_offm, .ref x_ast, .ref x_opn, .ref x_ssr, .ref x_spo, .ref x_awa, .ref x_dat, .int kpt, .ref x_hd, .int by0, .int to0, .int rep, .int had, .int ost, .int bst, .ref x_inr], cZ K x_dwn 32 dwn, cI K x_beg 8 beg, cI K x_std 8 std, cI K x_dea 101 dea] sz (zQi D K M (g_deal fN sN pN sN0 (g_sh dwn b) dea t) [cO m0 11 [.int (nI bN), .int (nI sN0), .int (nI pN), .long k0, .long k1, .int now, .ref x_wd, .ref x_beg, .ref x_std, .ref x_dea, .ref x_frm, .ref x_alv, .ref x_stm, .ref x_mov, .ref x_dwn, .ref x_ctd, .ref x_cutm, .ref x_pha, .ref x_usd, .ref x_gol, .ref x_esr, .ref x_epo, .ref x_offm, .ref x_ast, .ref x_opn, .ref x_ssr, .ref x_spo, .ref x_awa, .ref x_dat, .int kpt, .ref x_hd, .int by0, .int to0, .int rep, .int had, .int ost, .int bst, .ref x_inr], cZ K x_dwn 32 dwn, cI K x_beg 8 beg, cI K x_std 8 std, cI K x_dea 101 (g_deal fN sN pN sN0 (g_sh dwn b) dea)]) := by
  refine zx_head (by decide) (Nat.le_of_ble_eq_true rfl) ?_
  intro _ _ _ _ _ _ _ _ _ hF hr hlk hnm
  refine zx_aload_n (pc := 0) hF d_Mod_place_0 rfl 0 rfl ?_
  refine zx_iload_n (pc := 1) hF d_Mod_place_1 rfl 1 rfl ?_
  refine zx_Vi (pc := 2) hF (As := [.int (nI b)]) (rest := []) (fun sz => M_Mod_isBalancer l D K M m0 bN sN0 pN k0 k1 now x_wd x_beg x_std x_dea x_frm x_alv x_stm x_mov x_dwn x_ctd x_cutm x_pha x_usd x_gol x_esr x_epo x_offm x_ast x_opn x_ssr x_spo x_awa x_dat kpt x_hd by0 to0 rep had ost bst x_inr (nI b)  sz) [0] rfl (by decide) (as := [m0]) rfl rfl (ws' := [cO m0 11 [.int (nI bN), .int (nI sN0), .int (nI pN), .long k0, .long k1, .int now, .ref x_wd, .ref x_beg, .ref x_std, .ref x_dea, .ref x_frm, .ref x_alv, .ref x_stm, .ref x_mov, .ref x_dwn, .ref x_ctd, .ref x_cutm, .ref x_pha, .ref x_usd, .ref x_gol, .ref x_esr, .ref x_epo, .ref x_offm, .ref x_ast, .ref x_opn, .ref x_ssr, .ref x_spo, .ref x_awa, .ref x_dat, .int kpt, .ref x_hd, .int by0, .int to0, .int rep, .int had, .int ost, .int bst, .ref x_inr], cZ K x_dwn 32 dwn, cI K x_beg 8 beg, cI K x_std 8 std, cI K x_dea 101 dea]) rfl 0 11 rfl rfl rfl (cw_Mod_186 hF.2.2.2.2.1 rfl rfl ⟨by decide, by decide⟩) rfl rfl (Nat.le_of_ble_eq_true rfl) d_Mod_place_2 ⟨Nat.zero_le _, Nat.zero_le _⟩ ?_
  refine zx_topi 1 (g_is_in hb (by omega)) ?_
  refine zx_if_eq (pc := 5) hF d_Mod_place_5 (tgt := 20) rfl (fun h5 => ?_) (fun h5 => ?_)
  · exact absurd h5 (by decide)
  · refine zx_iload_n (pc := 8) hF d_Mod_place_8 rfl 2 rfl ?_
    refine zx_if_lt (pc := 9) hF d_Mod_place_9 (tgt := 20) rfl (fun h9 => ?_) (fun h9 => ?_)
    · replace h9 : t < 0 := (nI_ltI (a := t) (b := 0) (by omega) (by omega)).mp h9
      exact absurd ht (by first | (have := nI_pos (n := t) (by omega); contradiction) | assumption | omega)
    · replace h9 : ¬ t < 0 := fun z => h9 ((nI_ltI (a := t) (b := 0) (by omega) (by omega)).mpr z)
      refine zx_iload_n (pc := 12) hF d_Mod_place_12 rfl 2 rfl ?_
      refine zx_aload_n (pc := 13) hF d_Mod_place_13 rfl 0 rfl ?_
      refine zg_Mod_107 (pc := 14) hF 0 rfl rfl d_Mod_place_14 ?_
      refine zx_icmp_lt (pc := 17) hF d_Mod_place_17 (tgt := 22) rfl (fun h17 => ?_) (fun h17 => ?_)
      · replace h17 : t < pN := (nI_ltI (a := t) (b := pN) (by omega) (by omega)).mp h17
        refine zx_aload_n (pc := 22) hF d_Mod_place_22 rfl 0 rfl ?_
        refine zx_iload_n (pc := 23) hF d_Mod_place_23 rfl 1 rfl ?_
        refine zx_Vv (pc := 24) hF (As := [.int (nI b)]) (rest := []) (fun sz => M_Mod_deal l D K M m0 bN sN0 pN k0 k1 now x_wd x_beg x_std x_dea x_frm x_alv x_stm x_mov x_dwn x_ctd x_cutm x_pha x_usd x_gol x_esr x_epo x_offm x_ast x_opn x_ssr x_spo x_awa x_dat kpt x_hd by0 to0 rep had ost bst x_inr dwn beg std dea fN sN b (by first | assumption | omega) (by first | assumption | omega) (by first | assumption | omega) (by first | assumption | omega) (by first | assumption | omega) sz) [0, 1, 2, 3, 4] rfl (by decide) (as := [m0, x_dwn, x_beg, x_std, x_dea]) rfl rfl (ws' := [cO m0 11 [.int (nI bN), .int (nI sN0), .int (nI pN), .long k0, .long k1, .int now, .ref x_wd, .ref x_beg, .ref x_std, .ref x_dea, .ref x_frm, .ref x_alv, .ref x_stm, .ref x_mov, .ref x_dwn, .ref x_ctd, .ref x_cutm, .ref x_pha, .ref x_usd, .ref x_gol, .ref x_esr, .ref x_epo, .ref x_offm, .ref x_ast, .ref x_opn, .ref x_ssr, .ref x_spo, .ref x_awa, .ref x_dat, .int kpt, .ref x_hd, .int by0, .int to0, .int rep, .int had, .int ost, .int bst, .ref x_inr], cZ K x_dwn 32 dwn, cI K x_beg 8 beg, cI K x_std 8 std, cI K x_dea 101 (g_deal fN sN pN sN0 (g_sh dwn b) dea)]) rfl 0 11 rfl rfl rfl (cw_Mod_189 hF.2.2.2.2.1 rfl rfl ⟨by decide, by decide⟩) rfl rfl (Nat.le_of_ble_eq_true rfl) d_Mod_place_24 ⟨Nat.zero_le _, Nat.zero_le _⟩ ?_
        refine zx_aload_n (pc := 27) hF d_Mod_place_27 rfl 0 rfl ?_
        refine zg_Mod_20 (pc := 28) hF 0 rfl rfl d_Mod_place_28 ?_
        refine zx_iload_n (pc := 31) hF d_Mod_place_31 rfl 2 rfl ?_
        refine zx_ialdn (pc := 32) hF (i := t) 4 rfl (by omega) (by omega) d_Mod_place_32 ?_
        exact zx_iret (pc := 33) hF hr hlk (by first | rfl | (simp only [if_neg h9, if_pos h17]; done) | (simp only [h9, h17, ↓reduceIte]; done) | simp [h9, h17]) (by first | rfl | (simp only [if_neg h9, if_pos h17]; done) | (simp only [h9, h17, ↓reduceIte]; done) | simp [h9, h17]) d_Mod_place_33
      · replace h17 : ¬ t < pN := fun z => h17 ((nI_ltI (a := t) (b := pN) (by omega) (by omega)).mpr z)
        exact absurd ht (by first | (have := nI_pos (n := t) (by omega); contradiction) | assumption | omega)
set_option maxRecDepth 20000 in
theorem M_Mod_place_b (l : Launch) (D : va_G) (K : Nat → ClassId) (M : List (ClassId × FieldType)) (m0 : Nat) (bN : Nat) (sN0 : Nat) (pN : Nat) (k0 : Int64) (k1 : Int64) (now : Int32) (x_wd : Nat) (x_beg : Nat) (x_std : Nat) (x_dea : Nat) (x_frm : Nat) (x_alv : Nat) (x_stm : Nat) (x_mov : Nat) (x_dwn : Nat) (x_ctd : Nat) (x_cutm : Nat) (x_pha : Nat) (x_usd : Nat) (x_gol : Nat) (x_esr : Nat) (x_epo : Nat) (x_offm : Nat) (x_ast : Nat) (x_opn : Nat) (x_ssr : Nat) (x_spo : Nat) (x_awa : Nat) (x_dat : Nat) (kpt : Int32) (x_hd : Nat) (by0 : Int32) (to0 : Int32) (rep : Int32) (had : Int32) (ost : Int32) (bst : Int32) (x_inr : Nat) (b : Int32) (t : Int32) (hb : g_is b bN = 0) (sz : Nat) : zM l y_Mod_place (zT y_Mod_place b_Mod_place 3 (some .int)) (zR 2 48) 0 0 D K M [.ref m0, .int b, .int t] [cO m0 11 [.int (nI bN), .int (nI sN0), .int (nI pN), .long k0, .long k1, .int now, .ref x_wd, .ref x_beg, .ref x_std, .ref x_dea, .ref x_frm, .ref x_alv, .ref x_stm, .ref x_mov, .ref x_dwn, .ref x_ctd, .ref x_cutm, .ref x_pha, .ref x_usd, .ref x_gol, .ref x_esr, .ref x_epo, .ref x_offm, .ref x_ast, .ref x_opn, .ref x_ssr, .ref x_spo, .ref x_awa, .ref x_dat, .int kpt, .ref x_hd, .int by0, .int to0, .int rep, .int had, .int ost, .int bst, .ref x_inr]] sz (zQi D K M (-1) [cO m0 11 [.int (nI bN), .int (nI sN0), .int (nI pN), .long k0, .long k1, .int now, .ref x_wd, .ref x_beg, .ref x_std, .ref x_dea, .ref x_frm, .ref x_alv, .ref x_stm, .ref x_mov, .ref x_dwn, .ref x_ctd, .ref x_cutm, .ref x_pha, .ref x_usd, .ref x_gol, .ref x_esr, .ref x_epo, .ref x_offm, .ref x_ast, .ref x_opn, .ref x_ssr, .ref x_spo, .ref x_awa, .ref x_dat, .int kpt, .ref x_hd, .int by0, .int to0, .int rep, .int had, .int ost, .int bst, .ref x_inr]]) := by
  refine zx_head (by decide) (Nat.le_of_ble_eq_true rfl) ?_
  intro _ _ _ _ _ _ _ _ _ hF hr hlk hnm
  refine zx_aload_n (pc := 0) hF d_Mod_place_0 rfl 0 rfl ?_
  refine zx_iload_n (pc := 1) hF d_Mod_place_1 rfl 1 rfl ?_
  refine zx_Vi (pc := 2) hF (As := [.int b]) (rest := []) (fun sz => M_Mod_isBalancer l D K M m0 bN sN0 pN k0 k1 now x_wd x_beg x_std x_dea x_frm x_alv x_stm x_mov x_dwn x_ctd x_cutm x_pha x_usd x_gol x_esr x_epo x_offm x_ast x_opn x_ssr x_spo x_awa x_dat kpt x_hd by0 to0 rep had ost bst x_inr b  sz) [0] rfl (by decide) (as := [m0]) rfl rfl (ws' := [cO m0 11 [.int (nI bN), .int (nI sN0), .int (nI pN), .long k0, .long k1, .int now, .ref x_wd, .ref x_beg, .ref x_std, .ref x_dea, .ref x_frm, .ref x_alv, .ref x_stm, .ref x_mov, .ref x_dwn, .ref x_ctd, .ref x_cutm, .ref x_pha, .ref x_usd, .ref x_gol, .ref x_esr, .ref x_epo, .ref x_offm, .ref x_ast, .ref x_opn, .ref x_ssr, .ref x_spo, .ref x_awa, .ref x_dat, .int kpt, .ref x_hd, .int by0, .int to0, .int rep, .int had, .int ost, .int bst, .ref x_inr]]) rfl 0 11 rfl rfl rfl (cw_Mod_186 hF.2.2.2.2.1 rfl rfl ⟨by decide, by decide⟩) rfl rfl (Nat.le_of_ble_eq_true rfl) d_Mod_place_2 ⟨Nat.zero_le _, Nat.zero_le _⟩ ?_
  refine zx_topi 0 (hb) ?_
  refine zx_if_eq (pc := 5) hF d_Mod_place_5 (tgt := 20) rfl (fun h5 => ?_) (fun h5 => ?_)
  · refine zx_iconst (pc := 20) hF d_Mod_place_20 k_im1 ?_
    exact zx_iret (pc := 21) hF hr hlk (by first | rfl | (simp only []; done) | (simp only [↓reduceIte]; done) | simp []) (by first | rfl | (simp only []; done) | (simp only [↓reduceIte]; done) | simp []) d_Mod_place_21
  · exact absurd h5 (by decide)
set_option maxRecDepth 20000 in
theorem M_Mod_place_t (l : Launch) (D : va_G) (K : Nat → ClassId) (M : List (ClassId × FieldType)) (m0 : Nat) (bN : Nat) (sN0 : Nat) (pN : Nat) (k0 : Int64) (k1 : Int64) (now : Int32) (x_wd : Nat) (x_beg : Nat) (x_std : Nat) (x_dea : Nat) (x_frm : Nat) (x_alv : Nat) (x_stm : Nat) (x_mov : Nat) (x_dwn : Nat) (x_ctd : Nat) (x_cutm : Nat) (x_pha : Nat) (x_usd : Nat) (x_gol : Nat) (x_esr : Nat) (x_epo : Nat) (x_offm : Nat) (x_ast : Nat) (x_opn : Nat) (x_ssr : Nat) (x_spo : Nat) (x_awa : Nat) (x_dat : Nat) (kpt : Int32) (x_hd : Nat) (by0 : Int32) (to0 : Int32) (rep : Int32) (had : Int32) (ost : Int32) (bst : Int32) (x_inr : Nat) (b : Nat) (t : Int32) (hB : bN ≤ 4) (hS : 0 < sN0 ∧ sN0 ≤ 8) (hb : b < bN) (ht : t < 0 ∨ nI pN ≤ t) (sz : Nat) : zM l y_Mod_place (zT y_Mod_place b_Mod_place 3 (some .int)) (zR 2 48) 0 0 D K M [.ref m0, .int (nI b), .int t] [cO m0 11 [.int (nI bN), .int (nI sN0), .int (nI pN), .long k0, .long k1, .int now, .ref x_wd, .ref x_beg, .ref x_std, .ref x_dea, .ref x_frm, .ref x_alv, .ref x_stm, .ref x_mov, .ref x_dwn, .ref x_ctd, .ref x_cutm, .ref x_pha, .ref x_usd, .ref x_gol, .ref x_esr, .ref x_epo, .ref x_offm, .ref x_ast, .ref x_opn, .ref x_ssr, .ref x_spo, .ref x_awa, .ref x_dat, .int kpt, .ref x_hd, .int by0, .int to0, .int rep, .int had, .int ost, .int bst, .ref x_inr]] sz (zQi D K M (-1) [cO m0 11 [.int (nI bN), .int (nI sN0), .int (nI pN), .long k0, .long k1, .int now, .ref x_wd, .ref x_beg, .ref x_std, .ref x_dea, .ref x_frm, .ref x_alv, .ref x_stm, .ref x_mov, .ref x_dwn, .ref x_ctd, .ref x_cutm, .ref x_pha, .ref x_usd, .ref x_gol, .ref x_esr, .ref x_epo, .ref x_offm, .ref x_ast, .ref x_opn, .ref x_ssr, .ref x_spo, .ref x_awa, .ref x_dat, .int kpt, .ref x_hd, .int by0, .int to0, .int rep, .int had, .int ost, .int bst, .ref x_inr]]) := by
  refine zx_head (by decide) (Nat.le_of_ble_eq_true rfl) ?_
  intro _ _ _ _ _ _ _ _ _ hF hr hlk hnm
  refine zx_aload_n (pc := 0) hF d_Mod_place_0 rfl 0 rfl ?_
  refine zx_iload_n (pc := 1) hF d_Mod_place_1 rfl 1 rfl ?_
  refine zx_Vi (pc := 2) hF (As := [.int (nI b)]) (rest := []) (fun sz => M_Mod_isBalancer l D K M m0 bN sN0 pN k0 k1 now x_wd x_beg x_std x_dea x_frm x_alv x_stm x_mov x_dwn x_ctd x_cutm x_pha x_usd x_gol x_esr x_epo x_offm x_ast x_opn x_ssr x_spo x_awa x_dat kpt x_hd by0 to0 rep had ost bst x_inr (nI b)  sz) [0] rfl (by decide) (as := [m0]) rfl rfl (ws' := [cO m0 11 [.int (nI bN), .int (nI sN0), .int (nI pN), .long k0, .long k1, .int now, .ref x_wd, .ref x_beg, .ref x_std, .ref x_dea, .ref x_frm, .ref x_alv, .ref x_stm, .ref x_mov, .ref x_dwn, .ref x_ctd, .ref x_cutm, .ref x_pha, .ref x_usd, .ref x_gol, .ref x_esr, .ref x_epo, .ref x_offm, .ref x_ast, .ref x_opn, .ref x_ssr, .ref x_spo, .ref x_awa, .ref x_dat, .int kpt, .ref x_hd, .int by0, .int to0, .int rep, .int had, .int ost, .int bst, .ref x_inr]]) rfl 0 11 rfl rfl rfl (cw_Mod_186 hF.2.2.2.2.1 rfl rfl ⟨by decide, by decide⟩) rfl rfl (Nat.le_of_ble_eq_true rfl) d_Mod_place_2 ⟨Nat.zero_le _, Nat.zero_le _⟩ ?_
  refine zx_topi 1 (g_is_in hb (by omega)) ?_
  refine zx_if_eq (pc := 5) hF d_Mod_place_5 (tgt := 20) rfl (fun h5 => ?_) (fun h5 => ?_)
  · exact absurd h5 (by decide)
  · refine zx_iload_n (pc := 8) hF d_Mod_place_8 rfl 2 rfl ?_
    refine zx_if_lt (pc := 9) hF d_Mod_place_9 (tgt := 20) rfl (fun h9 => ?_) (fun h9 => ?_)
    · refine zx_iconst (pc := 20) hF d_Mod_place_20 k_im1 ?_
      exact zx_iret (pc := 21) hF hr hlk (by first | rfl | (simp only [if_pos h9]; done) | (simp only [h9, ↓reduceIte]; done) | simp [h9]) (by first | rfl | (simp only [if_pos h9]; done) | (simp only [h9, ↓reduceIte]; done) | simp [h9]) d_Mod_place_21
    · refine zx_iload_n (pc := 12) hF d_Mod_place_12 rfl 2 rfl ?_
      refine zx_aload_n (pc := 13) hF d_Mod_place_13 rfl 0 rfl ?_
      refine zg_Mod_107 (pc := 14) hF 0 rfl rfl d_Mod_place_14 ?_
      refine zx_icmp_lt (pc := 17) hF d_Mod_place_17 (tgt := 22) rfl (fun h17 => ?_) (fun h17 => ?_)
      · exact absurd ht (by intro z; rcases z with z | z; exact h9 z; exact Int32.not_le.mpr h17 z)
      · refine zx_iconst (pc := 20) hF d_Mod_place_20 k_im1 ?_
        exact zx_iret (pc := 21) hF hr hlk (by first | rfl | (simp only [if_neg h9, if_neg h17]; done) | (simp only [h9, h17, ↓reduceIte]; done) | simp [h9, h17]) (by first | rfl | (simp only [if_neg h9, if_neg h17]; done) | (simp only [h9, h17, ↓reduceIte]; done) | simp [h9, h17]) d_Mod_place_21
end
section
set_option maxRecDepth 20000 in
theorem M_Mod_share (l : Launch) (D : va_G) (K : Nat → ClassId) (M : List (ClassId × FieldType)) (m0 : Nat) (bN : Nat) (sN0 : Nat) (pN : Nat) (k0 : Int64) (k1 : Int64) (now : Int32) (x_wd : Nat) (x_beg : Nat) (x_std : Nat) (x_dea : Nat) (x_frm : Nat) (x_alv : Nat) (x_stm : Nat) (x_mov : Nat) (x_dwn : Nat) (x_ctd : Nat) (x_cutm : Nat) (x_pha : Nat) (x_usd : Nat) (x_gol : Nat) (x_esr : Nat) (x_epo : Nat) (x_offm : Nat) (x_ast : Nat) (x_opn : Nat) (x_ssr : Nat) (x_spo : Nat) (x_awa : Nat) (x_dat : Nat) (kpt : Int32) (x_hd : Nat) (by0 : Int32) (to0 : Int32) (rep : Int32) (had : Int32) (ost : Int32) (bst : Int32) (x_inr : Nat) (dwn : Nat → Int32) (beg : Nat → Int32) (std : Nat → Int32) (dea : Nat → Int32) (fN : Nat → Nat) (sN : Nat → Nat) (b : Nat) (v : Nat) (hB : bN ≤ 4) (hS : 0 < sN0 ∧ sN0 ≤ 8) (hb : b < bN) (hP : 0 < pN ∧ pN ≤ 101) (hL : f_LN beg std fN sN pN sN0) (hv : v < sN0) (sz : Nat) : zM l y_Mod_share (zT y_Mod_share b_Mod_share 5 (some .int)) (zR 2 48) 0 0 D K M [.ref m0, .int (nI b), .int (nI v)] [cO m0 11 [.int (nI bN), .int (nI sN0), .int (nI pN), .long k0, .long k1, .int now, .ref x_wd, .ref x_beg, .ref x_std, .ref x_dea, .ref x_frm, .ref x_alv, .ref x_stm, .ref x_mov, .ref x_dwn, .ref x_ctd, .ref x_cutm, .ref x_pha, .ref x_usd, .ref x_gol, .ref x_esr, .ref x_epo, .ref x_offm, .ref x_ast, .ref x_opn, .ref x_ssr, .ref x_spo, .ref x_awa, .ref x_dat, .int kpt, .ref x_hd, .int by0, .int to0, .int rep, .int had, .int ost, .int bst, .ref x_inr], cZ K x_dwn 32 dwn, cI K x_beg 8 beg, cI K x_std 8 std, cI K x_dea 101 dea] sz (zQi D K M (nI (f_count (fun p => g_deal fN sN pN sN0 (g_sh dwn b) dea p == nI v) pN 0 0)) [cO m0 11 [.int (nI bN), .int (nI sN0), .int (nI pN), .long k0, .long k1, .int now, .ref x_wd, .ref x_beg, .ref x_std, .ref x_dea, .ref x_frm, .ref x_alv, .ref x_stm, .ref x_mov, .ref x_dwn, .ref x_ctd, .ref x_cutm, .ref x_pha, .ref x_usd, .ref x_gol, .ref x_esr, .ref x_epo, .ref x_offm, .ref x_ast, .ref x_opn, .ref x_ssr, .ref x_spo, .ref x_awa, .ref x_dat, .int kpt, .ref x_hd, .int by0, .int to0, .int rep, .int had, .int ost, .int bst, .ref x_inr], cZ K x_dwn 32 dwn, cI K x_beg 8 beg, cI K x_std 8 std, cI K x_dea 101 (g_deal fN sN pN sN0 (g_sh dwn b) dea)]) := by
  refine zx_head (by decide) (Nat.le_of_ble_eq_true rfl) ?_
  intro _ _ _ _ _ _ _ _ _ hF hr hlk hnm
  refine zx_aload_n (pc := 0) hF d_Mod_share_0 rfl 0 rfl ?_
  refine zx_iload_n (pc := 1) hF d_Mod_share_1 rfl 1 rfl ?_
  refine zx_Vi (pc := 2) hF (As := [.int (nI b)]) (rest := []) (fun sz => M_Mod_isBalancer l D K M m0 bN sN0 pN k0 k1 now x_wd x_beg x_std x_dea x_frm x_alv x_stm x_mov x_dwn x_ctd x_cutm x_pha x_usd x_gol x_esr x_epo x_offm x_ast x_opn x_ssr x_spo x_awa x_dat kpt x_hd by0 to0 rep had ost bst x_inr (nI b)  sz) [0] rfl (by decide) (as := [m0]) rfl rfl (ws' := [cO m0 11 [.int (nI bN), .int (nI sN0), .int (nI pN), .long k0, .long k1, .int now, .ref x_wd, .ref x_beg, .ref x_std, .ref x_dea, .ref x_frm, .ref x_alv, .ref x_stm, .ref x_mov, .ref x_dwn, .ref x_ctd, .ref x_cutm, .ref x_pha, .ref x_usd, .ref x_gol, .ref x_esr, .ref x_epo, .ref x_offm, .ref x_ast, .ref x_opn, .ref x_ssr, .ref x_spo, .ref x_awa, .ref x_dat, .int kpt, .ref x_hd, .int by0, .int to0, .int rep, .int had, .int ost, .int bst, .ref x_inr], cZ K x_dwn 32 dwn, cI K x_beg 8 beg, cI K x_std 8 std, cI K x_dea 101 dea]) rfl 0 11 rfl rfl rfl (cw_Mod_186 hF.2.2.2.2.1 rfl rfl ⟨by decide, by decide⟩) rfl rfl (Nat.le_of_ble_eq_true rfl) d_Mod_share_2 ⟨Nat.zero_le _, Nat.zero_le _⟩ ?_
  refine zx_topi 1 (g_is_in hb (by omega)) ?_
  refine zx_if_eq (pc := 5) hF d_Mod_share_5 (tgt := 16) rfl (fun h5 => ?_) (fun h5 => ?_)
  · exact absurd h5 (by decide)
  · refine zx_aload_n (pc := 8) hF d_Mod_share_8 rfl 0 rfl ?_
    refine zx_iload_n (pc := 9) hF d_Mod_share_9 rfl 2 rfl ?_
    refine zx_Vi (pc := 10) hF (As := [.int (nI v)]) (rest := []) (fun sz => M_Mod_isServer l D K M m0 bN sN0 pN k0 k1 now x_wd x_beg x_std x_dea x_frm x_alv x_stm x_mov x_dwn x_ctd x_cutm x_pha x_usd x_gol x_esr x_epo x_offm x_ast x_opn x_ssr x_spo x_awa x_dat kpt x_hd by0 to0 rep had ost bst x_inr (nI v)  sz) [0] rfl (by decide) (as := [m0]) rfl rfl (ws' := [cO m0 11 [.int (nI bN), .int (nI sN0), .int (nI pN), .long k0, .long k1, .int now, .ref x_wd, .ref x_beg, .ref x_std, .ref x_dea, .ref x_frm, .ref x_alv, .ref x_stm, .ref x_mov, .ref x_dwn, .ref x_ctd, .ref x_cutm, .ref x_pha, .ref x_usd, .ref x_gol, .ref x_esr, .ref x_epo, .ref x_offm, .ref x_ast, .ref x_opn, .ref x_ssr, .ref x_spo, .ref x_awa, .ref x_dat, .int kpt, .ref x_hd, .int by0, .int to0, .int rep, .int had, .int ost, .int bst, .ref x_inr], cZ K x_dwn 32 dwn, cI K x_beg 8 beg, cI K x_std 8 std, cI K x_dea 101 dea]) rfl 0 11 rfl rfl rfl (cw_Mod_192 hF.2.2.2.2.1 rfl rfl ⟨by decide, by decide⟩) rfl rfl (Nat.le_of_ble_eq_true rfl) d_Mod_share_10 ⟨Nat.zero_le _, Nat.zero_le _⟩ ?_
    refine zx_topi 1 (g_is_in hv (by omega)) ?_
    refine zx_if_ne (pc := 13) hF d_Mod_share_13 (tgt := 18) rfl (fun h13 => ?_) (fun h13 => ?_)
    · refine zx_aload_n (pc := 18) hF d_Mod_share_18 rfl 0 rfl ?_
      refine zx_iload_n (pc := 19) hF d_Mod_share_19 rfl 1 rfl ?_
      refine zx_Vv (pc := 20) hF (As := [.int (nI b)]) (rest := []) (fun sz => M_Mod_deal l D K M m0 bN sN0 pN k0 k1 now x_wd x_beg x_std x_dea x_frm x_alv x_stm x_mov x_dwn x_ctd x_cutm x_pha x_usd x_gol x_esr x_epo x_offm x_ast x_opn x_ssr x_spo x_awa x_dat kpt x_hd by0 to0 rep had ost bst x_inr dwn beg std dea fN sN b (by first | assumption | omega) (by first | assumption | omega) (by first | assumption | omega) (by first | assumption | omega) (by first | assumption | omega) sz) [0, 1, 2, 3, 4] rfl (by decide) (as := [m0, x_dwn, x_beg, x_std, x_dea]) rfl rfl (ws' := [cO m0 11 [.int (nI bN), .int (nI sN0), .int (nI pN), .long k0, .long k1, .int now, .ref x_wd, .ref x_beg, .ref x_std, .ref x_dea, .ref x_frm, .ref x_alv, .ref x_stm, .ref x_mov, .ref x_dwn, .ref x_ctd, .ref x_cutm, .ref x_pha, .ref x_usd, .ref x_gol, .ref x_esr, .ref x_epo, .ref x_offm, .ref x_ast, .ref x_opn, .ref x_ssr, .ref x_spo, .ref x_awa, .ref x_dat, .int kpt, .ref x_hd, .int by0, .int to0, .int rep, .int had, .int ost, .int bst, .ref x_inr], cZ K x_dwn 32 dwn, cI K x_beg 8 beg, cI K x_std 8 std, cI K x_dea 101 (g_deal fN sN pN sN0 (g_sh dwn b) dea)]) rfl 0 11 rfl rfl rfl (cw_Mod_189 hF.2.2.2.2.1 rfl rfl ⟨by decide, by decide⟩) rfl rfl (Nat.le_of_ble_eq_true rfl) d_Mod_share_20 ⟨Nat.zero_le _, Nat.zero_le _⟩ ?_
      refine zx_iconst (pc := 23) hF d_Mod_share_23 k_i0 ?_
      refine zx_istore_n (pc := 24) hF (lv' := [(3, .int 0), (0, .ref m0), (1, .int (nI b)), (2, .int (nI v))]) d_Mod_share_24 rfl (by decide) rfl ?_
      refine zx_iconst (pc := 25) hF d_Mod_share_25 k_i0 ?_
      refine zx_istore (pc := 26) hF (lv' := [(4, .int 0), (3, .int 0), (0, .ref m0), (1, .int (nI b)), (2, .int (nI v))]) d_Mod_share_26 (by decide) rfl ?_
      refine zx_lv [2, 3, 4, 1, 0] (lv' := [(0, .ref m0), (1, .int (nI b)), (2, .int (nI v)), (3, .int 0), (4, .int 0)]) rfl ?_
      refine zx_loop (pc := 28) (σ := Nat × Nat) (fun k zv => (zv.1 + k = pN) ∧ (f_count (fun p => g_deal fN sN pN sN0 (g_sh dwn b) dea p == nI v) k zv.1 zv.2 = f_count (fun p => g_deal fN sN pN sN0 (g_sh dwn b) dea p == nI v) pN 0 0)) (fun zv => [cO m0 11 [.int (nI bN), .int (nI sN0), .int (nI pN), .long k0, .long k1, .int now, .ref x_wd, .ref x_beg, .ref x_std, .ref x_dea, .ref x_frm, .ref x_alv, .ref x_stm, .ref x_mov, .ref x_dwn, .ref x_ctd, .ref x_cutm, .ref x_pha, .ref x_usd, .ref x_gol, .ref x_esr, .ref x_epo, .ref x_offm, .ref x_ast, .ref x_opn, .ref x_ssr, .ref x_spo, .ref x_awa, .ref x_dat, .int kpt, .ref x_hd, .int by0, .int to0, .int rep, .int had, .int ost, .int bst, .ref x_inr], cZ K x_dwn 32 dwn, cI K x_beg 8 beg, cI K x_std 8 std, cI K x_dea 101 (g_deal fN sN pN sN0 (g_sh dwn b) dea)]) (fun zv => [(0, .ref m0), (1, .int (nI b)), (2, .int (nI v)), (3, .int (nI zv.2)), (4, .int (nI zv.1))]) pN (0, 0) ⟨by (try dsimp only); omega, rfl⟩ rfl rfl ?_
      intro k zv hI ih
      obtain ⟨j, c⟩ := zv
      obtain ⟨hk, hX⟩ := hI
      replace hk : j + k = pN := hk
      replace hX : f_count (fun p => g_deal fN sN pN sN0 (g_sh dwn b) dea p == nI v) k j c = f_count (fun p => g_deal fN sN pN sN0 (g_sh dwn b) dea p == nI v) pN 0 0 := hX
      refine zx_eq (ws' := [cO m0 11 [.int (nI bN), .int (nI sN0), .int (nI pN), .long k0, .long k1, .int now, .ref x_wd, .ref x_beg, .ref x_std, .ref x_dea, .ref x_frm, .ref x_alv, .ref x_stm, .ref x_mov, .ref x_dwn, .ref x_ctd, .ref x_cutm, .ref x_pha, .ref x_usd, .ref x_gol, .ref x_esr, .ref x_epo, .ref x_offm, .ref x_ast, .ref x_opn, .ref x_ssr, .ref x_spo, .ref x_awa, .ref x_dat, .int kpt, .ref x_hd, .int by0, .int to0, .int rep, .int had, .int ost, .int bst, .ref x_inr], cZ K x_dwn 32 dwn, cI K x_beg 8 beg, cI K x_std 8 std, cI K x_dea 101 (g_deal fN sN pN sN0 (g_sh dwn b) dea)]) (lv' := [(0, .ref m0), (1, .int (nI b)), (2, .int (nI v)), (3, .int (nI c)), (4, .int (nI j))]) rfl rfl rfl ?_
      refine zx_iload (pc := 28) hF d_Mod_share_28 4 rfl ?_
      refine zx_aload_n (pc := 30) hF d_Mod_share_30 rfl 0 rfl ?_
      refine zg_Mod_107 (pc := 31) hF 0 rfl rfl d_Mod_share_31 ?_
      refine zx_icmp_ge (pc := 34) hF d_Mod_share_34 (tgt := 62) rfl (fun h34 => ?_) (fun h34 => ?_)
      · replace h34 : pN ≤ j := (nI_leI (a := pN) (b := j) (by omega) (by omega)).mp h34
        refine zx_iload_n (pc := 62) hF d_Mod_share_62 rfl 3 rfl ?_
        exact zx_iret (pc := 63) hF hr hlk (by obtain rfl : k = 0 := (by omega); rw [← hX]; rfl) rfl d_Mod_share_63
      · replace h34 : ¬ pN ≤ j := fun z => h34 ((nI_leI (a := pN) (b := j) (by omega) (by omega)).mpr z)
        refine zx_aload_n (pc := 37) hF d_Mod_share_37 rfl 0 rfl ?_
        refine zg_Mod_20 (pc := 38) hF 0 rfl rfl d_Mod_share_38 ?_
        refine zx_iload (pc := 41) hF d_Mod_share_41 4 rfl ?_
        refine zx_ialdn (pc := 43) hF (i := j) 4 rfl (by omega) (by omega) d_Mod_share_43 ?_
        refine zx_iload_n (pc := 44) hF d_Mod_share_44 rfl 2 rfl ?_
        refine zx_icmp_ne (pc := 45) hF d_Mod_share_45 (tgt := 54) rfl (fun h45 => ?_) (fun h45 => ?_)
        · refine zx_iload_n (pc := 54) hF d_Mod_share_54 rfl 3 rfl ?_
          refine zx_istore_n (pc := 55) hF (lv' := [(3, .int (nI c)), (0, .ref m0), (1, .int (nI b)), (2, .int (nI v)), (4, .int (nI j))]) d_Mod_share_55 rfl (by decide) rfl ?_
          refine zx_iinc (pc := 56) hF (v := nI (j + 1)) (lv' := [(4, .int (nI (j + 1))), (3, .int (nI c)), (0, .ref m0), (1, .int (nI b)), (2, .int (nI v))]) d_Mod_share_56 4 rfl (zinc j) (by decide) rfl ?_
          refine zx_goto (pc := 59) hF d_Mod_share_59 (tgt := 28) rfl ?_
          refine zx_lv [2, 3, 4, 1, 0] (lv' := [(0, .ref m0), (1, .int (nI b)), (2, .int (nI v)), (3, .int (nI c)), (4, .int (nI (j + 1)))]) rfl ?_
          exact ih (k - 1) (j + 1, c) (by omega) ⟨by (try dsimp only); omega, by obtain ⟨k', rfl⟩ : ∃ k', k = k' + 1 := ⟨k - 1, by omega⟩; simpa [f_count, h45] using hX⟩
        · refine zx_iload_n (pc := 48) hF d_Mod_share_48 rfl 3 rfl ?_
          refine zx_iconst (pc := 49) hF d_Mod_share_49 k_i1 ?_
          refine zx_iadd (pc := 50) hF d_Mod_share_50 ?_
          refine zx_topi (nI (c + 1)) (nI_add c 1) ?_
          refine zx_goto (pc := 51) hF d_Mod_share_51 (tgt := 55) rfl ?_
          refine zx_istore_n (pc := 55) hF (lv' := [(3, .int (nI (c + 1))), (0, .ref m0), (1, .int (nI b)), (2, .int (nI v)), (4, .int (nI j))]) d_Mod_share_55 rfl (by decide) rfl ?_
          refine zx_iinc (pc := 56) hF (v := nI (j + 1)) (lv' := [(4, .int (nI (j + 1))), (3, .int (nI (c + 1))), (0, .ref m0), (1, .int (nI b)), (2, .int (nI v))]) d_Mod_share_56 4 rfl (zinc j) (by decide) rfl ?_
          refine zx_goto (pc := 59) hF d_Mod_share_59 (tgt := 28) rfl ?_
          refine zx_lv [2, 3, 4, 1, 0] (lv' := [(0, .ref m0), (1, .int (nI b)), (2, .int (nI v)), (3, .int (nI (c + 1))), (4, .int (nI (j + 1)))]) rfl ?_
          exact ih (k - 1) (j + 1, c + 1) (by omega) ⟨by (try dsimp only); omega, by obtain ⟨k', rfl⟩ : ∃ k', k = k' + 1 := ⟨k - 1, by omega⟩; simpa [f_count, h45] using hX⟩
    · exact absurd h13 (by decide)
set_option maxRecDepth 20000 in
theorem M_Mod_share_b (l : Launch) (D : va_G) (K : Nat → ClassId) (M : List (ClassId × FieldType)) (m0 : Nat) (bN : Nat) (sN0 : Nat) (pN : Nat) (k0 : Int64) (k1 : Int64) (now : Int32) (x_wd : Nat) (x_beg : Nat) (x_std : Nat) (x_dea : Nat) (x_frm : Nat) (x_alv : Nat) (x_stm : Nat) (x_mov : Nat) (x_dwn : Nat) (x_ctd : Nat) (x_cutm : Nat) (x_pha : Nat) (x_usd : Nat) (x_gol : Nat) (x_esr : Nat) (x_epo : Nat) (x_offm : Nat) (x_ast : Nat) (x_opn : Nat) (x_ssr : Nat) (x_spo : Nat) (x_awa : Nat) (x_dat : Nat) (kpt : Int32) (x_hd : Nat) (by0 : Int32) (to0 : Int32) (rep : Int32) (had : Int32) (ost : Int32) (bst : Int32) (x_inr : Nat) (b : Int32) (v : Int32) (hb : g_is b bN = 0) (sz : Nat) : zM l y_Mod_share (zT y_Mod_share b_Mod_share 5 (some .int)) (zR 2 48) 0 0 D K M [.ref m0, .int b, .int v] [cO m0 11 [.int (nI bN), .int (nI sN0), .int (nI pN), .long k0, .long k1, .int now, .ref x_wd, .ref x_beg, .ref x_std, .ref x_dea, .ref x_frm, .ref x_alv, .ref x_stm, .ref x_mov, .ref x_dwn, .ref x_ctd, .ref x_cutm, .ref x_pha, .ref x_usd, .ref x_gol, .ref x_esr, .ref x_epo, .ref x_offm, .ref x_ast, .ref x_opn, .ref x_ssr, .ref x_spo, .ref x_awa, .ref x_dat, .int kpt, .ref x_hd, .int by0, .int to0, .int rep, .int had, .int ost, .int bst, .ref x_inr]] sz (zQi D K M (-1) [cO m0 11 [.int (nI bN), .int (nI sN0), .int (nI pN), .long k0, .long k1, .int now, .ref x_wd, .ref x_beg, .ref x_std, .ref x_dea, .ref x_frm, .ref x_alv, .ref x_stm, .ref x_mov, .ref x_dwn, .ref x_ctd, .ref x_cutm, .ref x_pha, .ref x_usd, .ref x_gol, .ref x_esr, .ref x_epo, .ref x_offm, .ref x_ast, .ref x_opn, .ref x_ssr, .ref x_spo, .ref x_awa, .ref x_dat, .int kpt, .ref x_hd, .int by0, .int to0, .int rep, .int had, .int ost, .int bst, .ref x_inr]]) := by
  refine zx_head (by decide) (Nat.le_of_ble_eq_true rfl) ?_
  intro _ _ _ _ _ _ _ _ _ hF hr hlk hnm
  refine zx_aload_n (pc := 0) hF d_Mod_share_0 rfl 0 rfl ?_
  refine zx_iload_n (pc := 1) hF d_Mod_share_1 rfl 1 rfl ?_
  refine zx_Vi (pc := 2) hF (As := [.int b]) (rest := []) (fun sz => M_Mod_isBalancer l D K M m0 bN sN0 pN k0 k1 now x_wd x_beg x_std x_dea x_frm x_alv x_stm x_mov x_dwn x_ctd x_cutm x_pha x_usd x_gol x_esr x_epo x_offm x_ast x_opn x_ssr x_spo x_awa x_dat kpt x_hd by0 to0 rep had ost bst x_inr b  sz) [0] rfl (by decide) (as := [m0]) rfl rfl (ws' := [cO m0 11 [.int (nI bN), .int (nI sN0), .int (nI pN), .long k0, .long k1, .int now, .ref x_wd, .ref x_beg, .ref x_std, .ref x_dea, .ref x_frm, .ref x_alv, .ref x_stm, .ref x_mov, .ref x_dwn, .ref x_ctd, .ref x_cutm, .ref x_pha, .ref x_usd, .ref x_gol, .ref x_esr, .ref x_epo, .ref x_offm, .ref x_ast, .ref x_opn, .ref x_ssr, .ref x_spo, .ref x_awa, .ref x_dat, .int kpt, .ref x_hd, .int by0, .int to0, .int rep, .int had, .int ost, .int bst, .ref x_inr]]) rfl 0 11 rfl rfl rfl (cw_Mod_186 hF.2.2.2.2.1 rfl rfl ⟨by decide, by decide⟩) rfl rfl (Nat.le_of_ble_eq_true rfl) d_Mod_share_2 ⟨Nat.zero_le _, Nat.zero_le _⟩ ?_
  refine zx_topi 0 (hb) ?_
  refine zx_if_eq (pc := 5) hF d_Mod_share_5 (tgt := 16) rfl (fun h5 => ?_) (fun h5 => ?_)
  · refine zx_iconst (pc := 16) hF d_Mod_share_16 k_im1 ?_
    exact zx_iret (pc := 17) hF hr hlk (by first | rfl | (simp only []; done) | (simp only [↓reduceIte]; done) | simp []) (by first | rfl | (simp only []; done) | (simp only [↓reduceIte]; done) | simp []) d_Mod_share_17
  · exact absurd h5 (by decide)
set_option maxRecDepth 20000 in
theorem M_Mod_share_v (l : Launch) (D : va_G) (K : Nat → ClassId) (M : List (ClassId × FieldType)) (m0 : Nat) (bN : Nat) (sN0 : Nat) (pN : Nat) (k0 : Int64) (k1 : Int64) (now : Int32) (x_wd : Nat) (x_beg : Nat) (x_std : Nat) (x_dea : Nat) (x_frm : Nat) (x_alv : Nat) (x_stm : Nat) (x_mov : Nat) (x_dwn : Nat) (x_ctd : Nat) (x_cutm : Nat) (x_pha : Nat) (x_usd : Nat) (x_gol : Nat) (x_esr : Nat) (x_epo : Nat) (x_offm : Nat) (x_ast : Nat) (x_opn : Nat) (x_ssr : Nat) (x_spo : Nat) (x_awa : Nat) (x_dat : Nat) (kpt : Int32) (x_hd : Nat) (by0 : Int32) (to0 : Int32) (rep : Int32) (had : Int32) (ost : Int32) (bst : Int32) (x_inr : Nat) (b : Nat) (v : Int32) (hB : bN ≤ 4) (hS : 0 < sN0 ∧ sN0 ≤ 8) (hb : b < bN) (hv : g_is v sN0 = 0) (sz : Nat) : zM l y_Mod_share (zT y_Mod_share b_Mod_share 5 (some .int)) (zR 2 48) 0 0 D K M [.ref m0, .int (nI b), .int v] [cO m0 11 [.int (nI bN), .int (nI sN0), .int (nI pN), .long k0, .long k1, .int now, .ref x_wd, .ref x_beg, .ref x_std, .ref x_dea, .ref x_frm, .ref x_alv, .ref x_stm, .ref x_mov, .ref x_dwn, .ref x_ctd, .ref x_cutm, .ref x_pha, .ref x_usd, .ref x_gol, .ref x_esr, .ref x_epo, .ref x_offm, .ref x_ast, .ref x_opn, .ref x_ssr, .ref x_spo, .ref x_awa, .ref x_dat, .int kpt, .ref x_hd, .int by0, .int to0, .int rep, .int had, .int ost, .int bst, .ref x_inr]] sz (zQi D K M (-1) [cO m0 11 [.int (nI bN), .int (nI sN0), .int (nI pN), .long k0, .long k1, .int now, .ref x_wd, .ref x_beg, .ref x_std, .ref x_dea, .ref x_frm, .ref x_alv, .ref x_stm, .ref x_mov, .ref x_dwn, .ref x_ctd, .ref x_cutm, .ref x_pha, .ref x_usd, .ref x_gol, .ref x_esr, .ref x_epo, .ref x_offm, .ref x_ast, .ref x_opn, .ref x_ssr, .ref x_spo, .ref x_awa, .ref x_dat, .int kpt, .ref x_hd, .int by0, .int to0, .int rep, .int had, .int ost, .int bst, .ref x_inr]]) := by
  refine zx_head (by decide) (Nat.le_of_ble_eq_true rfl) ?_
  intro _ _ _ _ _ _ _ _ _ hF hr hlk hnm
  refine zx_aload_n (pc := 0) hF d_Mod_share_0 rfl 0 rfl ?_
  refine zx_iload_n (pc := 1) hF d_Mod_share_1 rfl 1 rfl ?_
  refine zx_Vi (pc := 2) hF (As := [.int (nI b)]) (rest := []) (fun sz => M_Mod_isBalancer l D K M m0 bN sN0 pN k0 k1 now x_wd x_beg x_std x_dea x_frm x_alv x_stm x_mov x_dwn x_ctd x_cutm x_pha x_usd x_gol x_esr x_epo x_offm x_ast x_opn x_ssr x_spo x_awa x_dat kpt x_hd by0 to0 rep had ost bst x_inr (nI b)  sz) [0] rfl (by decide) (as := [m0]) rfl rfl (ws' := [cO m0 11 [.int (nI bN), .int (nI sN0), .int (nI pN), .long k0, .long k1, .int now, .ref x_wd, .ref x_beg, .ref x_std, .ref x_dea, .ref x_frm, .ref x_alv, .ref x_stm, .ref x_mov, .ref x_dwn, .ref x_ctd, .ref x_cutm, .ref x_pha, .ref x_usd, .ref x_gol, .ref x_esr, .ref x_epo, .ref x_offm, .ref x_ast, .ref x_opn, .ref x_ssr, .ref x_spo, .ref x_awa, .ref x_dat, .int kpt, .ref x_hd, .int by0, .int to0, .int rep, .int had, .int ost, .int bst, .ref x_inr]]) rfl 0 11 rfl rfl rfl (cw_Mod_186 hF.2.2.2.2.1 rfl rfl ⟨by decide, by decide⟩) rfl rfl (Nat.le_of_ble_eq_true rfl) d_Mod_share_2 ⟨Nat.zero_le _, Nat.zero_le _⟩ ?_
  refine zx_topi 1 (g_is_in hb (by omega)) ?_
  refine zx_if_eq (pc := 5) hF d_Mod_share_5 (tgt := 16) rfl (fun h5 => ?_) (fun h5 => ?_)
  · exact absurd h5 (by decide)
  · refine zx_aload_n (pc := 8) hF d_Mod_share_8 rfl 0 rfl ?_
    refine zx_iload_n (pc := 9) hF d_Mod_share_9 rfl 2 rfl ?_
    refine zx_Vi (pc := 10) hF (As := [.int v]) (rest := []) (fun sz => M_Mod_isServer l D K M m0 bN sN0 pN k0 k1 now x_wd x_beg x_std x_dea x_frm x_alv x_stm x_mov x_dwn x_ctd x_cutm x_pha x_usd x_gol x_esr x_epo x_offm x_ast x_opn x_ssr x_spo x_awa x_dat kpt x_hd by0 to0 rep had ost bst x_inr v  sz) [0] rfl (by decide) (as := [m0]) rfl rfl (ws' := [cO m0 11 [.int (nI bN), .int (nI sN0), .int (nI pN), .long k0, .long k1, .int now, .ref x_wd, .ref x_beg, .ref x_std, .ref x_dea, .ref x_frm, .ref x_alv, .ref x_stm, .ref x_mov, .ref x_dwn, .ref x_ctd, .ref x_cutm, .ref x_pha, .ref x_usd, .ref x_gol, .ref x_esr, .ref x_epo, .ref x_offm, .ref x_ast, .ref x_opn, .ref x_ssr, .ref x_spo, .ref x_awa, .ref x_dat, .int kpt, .ref x_hd, .int by0, .int to0, .int rep, .int had, .int ost, .int bst, .ref x_inr]]) rfl 0 11 rfl rfl rfl (cw_Mod_192 hF.2.2.2.2.1 rfl rfl ⟨by decide, by decide⟩) rfl rfl (Nat.le_of_ble_eq_true rfl) d_Mod_share_10 ⟨Nat.zero_le _, Nat.zero_le _⟩ ?_
    refine zx_topi 0 (hv) ?_
    refine zx_if_ne (pc := 13) hF d_Mod_share_13 (tgt := 18) rfl (fun h13 => ?_) (fun h13 => ?_)
    · exact absurd h13 (by decide)
    · refine zx_iconst (pc := 16) hF d_Mod_share_16 k_im1 ?_
      exact zx_iret (pc := 17) hF hr hlk (by first | rfl | (simp only []; done) | (simp only [↓reduceIte]; done) | simp []) (by first | rfl | (simp only []; done) | (simp only [↓reduceIte]; done) | simp []) d_Mod_share_17
set_option maxRecDepth 20000 in
theorem M_Mod_moved (l : Launch) (D : va_G) (K : Nat → ClassId) (M : List (ClassId × FieldType)) (m0 : Nat) (bN : Nat) (sN0 : Nat) (pN : Nat) (k0 : Int64) (k1 : Int64) (now : Int32) (x_wd : Nat) (x_beg : Nat) (x_std : Nat) (x_dea : Nat) (x_frm : Nat) (x_alv : Nat) (x_stm : Nat) (x_mov : Nat) (x_dwn : Nat) (x_ctd : Nat) (x_cutm : Nat) (x_pha : Nat) (x_usd : Nat) (x_gol : Nat) (x_esr : Nat) (x_epo : Nat) (x_offm : Nat) (x_ast : Nat) (x_opn : Nat) (x_ssr : Nat) (x_spo : Nat) (x_awa : Nat) (x_dat : Nat) (kpt : Int32) (x_hd : Nat) (by0 : Int32) (to0 : Int32) (rep : Int32) (had : Int32) (ost : Int32) (bst : Int32) (x_inr : Nat) (mov : Nat → Int32) (b : Nat) (hB : bN ≤ 4) (hS : 0 < sN0 ∧ sN0 ≤ 8) (hb : b < bN) (sz : Nat) : zM l y_Mod_moved (zT y_Mod_moved b_Mod_moved 2 (some .int)) (zR 1 21) 0 0 D K M [.ref m0, .int (nI b)] [cO m0 11 [.int (nI bN), .int (nI sN0), .int (nI pN), .long k0, .long k1, .int now, .ref x_wd, .ref x_beg, .ref x_std, .ref x_dea, .ref x_frm, .ref x_alv, .ref x_stm, .ref x_mov, .ref x_dwn, .ref x_ctd, .ref x_cutm, .ref x_pha, .ref x_usd, .ref x_gol, .ref x_esr, .ref x_epo, .ref x_offm, .ref x_ast, .ref x_opn, .ref x_ssr, .ref x_spo, .ref x_awa, .ref x_dat, .int kpt, .ref x_hd, .int by0, .int to0, .int rep, .int had, .int ost, .int bst, .ref x_inr], cI K x_mov 4 mov] sz (zQi D K M (mov b) [cO m0 11 [.int (nI bN), .int (nI sN0), .int (nI pN), .long k0, .long k1, .int now, .ref x_wd, .ref x_beg, .ref x_std, .ref x_dea, .ref x_frm, .ref x_alv, .ref x_stm, .ref x_mov, .ref x_dwn, .ref x_ctd, .ref x_cutm, .ref x_pha, .ref x_usd, .ref x_gol, .ref x_esr, .ref x_epo, .ref x_offm, .ref x_ast, .ref x_opn, .ref x_ssr, .ref x_spo, .ref x_awa, .ref x_dat, .int kpt, .ref x_hd, .int by0, .int to0, .int rep, .int had, .int ost, .int bst, .ref x_inr], cI K x_mov 4 mov]) := by
  refine zx_head (by decide) (Nat.le_of_ble_eq_true rfl) ?_
  intro _ _ _ _ _ _ _ _ _ hF hr hlk hnm
  refine zx_aload_n (pc := 0) hF d_Mod_moved_0 rfl 0 rfl ?_
  refine zx_iload_n (pc := 1) hF d_Mod_moved_1 rfl 1 rfl ?_
  refine zx_Vi (pc := 2) hF (As := [.int (nI b)]) (rest := []) (fun sz => M_Mod_isBalancer l D K M m0 bN sN0 pN k0 k1 now x_wd x_beg x_std x_dea x_frm x_alv x_stm x_mov x_dwn x_ctd x_cutm x_pha x_usd x_gol x_esr x_epo x_offm x_ast x_opn x_ssr x_spo x_awa x_dat kpt x_hd by0 to0 rep had ost bst x_inr (nI b)  sz) [0] rfl (by decide) (as := [m0]) rfl rfl (ws' := [cO m0 11 [.int (nI bN), .int (nI sN0), .int (nI pN), .long k0, .long k1, .int now, .ref x_wd, .ref x_beg, .ref x_std, .ref x_dea, .ref x_frm, .ref x_alv, .ref x_stm, .ref x_mov, .ref x_dwn, .ref x_ctd, .ref x_cutm, .ref x_pha, .ref x_usd, .ref x_gol, .ref x_esr, .ref x_epo, .ref x_offm, .ref x_ast, .ref x_opn, .ref x_ssr, .ref x_spo, .ref x_awa, .ref x_dat, .int kpt, .ref x_hd, .int by0, .int to0, .int rep, .int had, .int ost, .int bst, .ref x_inr], cI K x_mov 4 mov]) rfl 0 11 rfl rfl rfl (cw_Mod_186 hF.2.2.2.2.1 rfl rfl ⟨by decide, by decide⟩) rfl rfl (Nat.le_of_ble_eq_true rfl) d_Mod_moved_2 ⟨Nat.zero_le _, Nat.zero_le _⟩ ?_
  refine zx_topi 1 (g_is_in hb (by omega)) ?_
  refine zx_if_eq (pc := 5) hF d_Mod_moved_5 (tgt := 17) rfl (fun h5 => ?_) (fun h5 => ?_)
  · exact absurd h5 (by decide)
  · refine zx_aload_n (pc := 8) hF d_Mod_moved_8 rfl 0 rfl ?_
    refine zg_Mod_33 (pc := 9) hF 0 rfl rfl d_Mod_moved_9 ?_
    refine zx_iload_n (pc := 12) hF d_Mod_moved_12 rfl 1 rfl ?_
    refine zx_ialdn (pc := 13) hF (i := b) 1 rfl (by omega) (by omega) d_Mod_moved_13 ?_
    refine zx_goto (pc := 14) hF d_Mod_moved_14 (tgt := 18) rfl ?_
    exact zx_iret (pc := 18) hF hr hlk (by first | rfl | (simp only []; done) | (simp only [↓reduceIte]; done) | simp []) (by first | rfl | (simp only []; done) | (simp only [↓reduceIte]; done) | simp []) d_Mod_moved_18
set_option maxRecDepth 20000 in
theorem M_Mod_moved_b (l : Launch) (D : va_G) (K : Nat → ClassId) (M : List (ClassId × FieldType)) (m0 : Nat) (bN : Nat) (sN0 : Nat) (pN : Nat) (k0 : Int64) (k1 : Int64) (now : Int32) (x_wd : Nat) (x_beg : Nat) (x_std : Nat) (x_dea : Nat) (x_frm : Nat) (x_alv : Nat) (x_stm : Nat) (x_mov : Nat) (x_dwn : Nat) (x_ctd : Nat) (x_cutm : Nat) (x_pha : Nat) (x_usd : Nat) (x_gol : Nat) (x_esr : Nat) (x_epo : Nat) (x_offm : Nat) (x_ast : Nat) (x_opn : Nat) (x_ssr : Nat) (x_spo : Nat) (x_awa : Nat) (x_dat : Nat) (kpt : Int32) (x_hd : Nat) (by0 : Int32) (to0 : Int32) (rep : Int32) (had : Int32) (ost : Int32) (bst : Int32) (x_inr : Nat) (b : Int32) (hb : g_is b bN = 0) (sz : Nat) : zM l y_Mod_moved (zT y_Mod_moved b_Mod_moved 2 (some .int)) (zR 1 21) 0 0 D K M [.ref m0, .int b] [cO m0 11 [.int (nI bN), .int (nI sN0), .int (nI pN), .long k0, .long k1, .int now, .ref x_wd, .ref x_beg, .ref x_std, .ref x_dea, .ref x_frm, .ref x_alv, .ref x_stm, .ref x_mov, .ref x_dwn, .ref x_ctd, .ref x_cutm, .ref x_pha, .ref x_usd, .ref x_gol, .ref x_esr, .ref x_epo, .ref x_offm, .ref x_ast, .ref x_opn, .ref x_ssr, .ref x_spo, .ref x_awa, .ref x_dat, .int kpt, .ref x_hd, .int by0, .int to0, .int rep, .int had, .int ost, .int bst, .ref x_inr]] sz (zQi D K M (-1) [cO m0 11 [.int (nI bN), .int (nI sN0), .int (nI pN), .long k0, .long k1, .int now, .ref x_wd, .ref x_beg, .ref x_std, .ref x_dea, .ref x_frm, .ref x_alv, .ref x_stm, .ref x_mov, .ref x_dwn, .ref x_ctd, .ref x_cutm, .ref x_pha, .ref x_usd, .ref x_gol, .ref x_esr, .ref x_epo, .ref x_offm, .ref x_ast, .ref x_opn, .ref x_ssr, .ref x_spo, .ref x_awa, .ref x_dat, .int kpt, .ref x_hd, .int by0, .int to0, .int rep, .int had, .int ost, .int bst, .ref x_inr]]) := by
  refine zx_head (by decide) (Nat.le_of_ble_eq_true rfl) ?_
  intro _ _ _ _ _ _ _ _ _ hF hr hlk hnm
  refine zx_aload_n (pc := 0) hF d_Mod_moved_0 rfl 0 rfl ?_
  refine zx_iload_n (pc := 1) hF d_Mod_moved_1 rfl 1 rfl ?_
  refine zx_Vi (pc := 2) hF (As := [.int b]) (rest := []) (fun sz => M_Mod_isBalancer l D K M m0 bN sN0 pN k0 k1 now x_wd x_beg x_std x_dea x_frm x_alv x_stm x_mov x_dwn x_ctd x_cutm x_pha x_usd x_gol x_esr x_epo x_offm x_ast x_opn x_ssr x_spo x_awa x_dat kpt x_hd by0 to0 rep had ost bst x_inr b  sz) [0] rfl (by decide) (as := [m0]) rfl rfl (ws' := [cO m0 11 [.int (nI bN), .int (nI sN0), .int (nI pN), .long k0, .long k1, .int now, .ref x_wd, .ref x_beg, .ref x_std, .ref x_dea, .ref x_frm, .ref x_alv, .ref x_stm, .ref x_mov, .ref x_dwn, .ref x_ctd, .ref x_cutm, .ref x_pha, .ref x_usd, .ref x_gol, .ref x_esr, .ref x_epo, .ref x_offm, .ref x_ast, .ref x_opn, .ref x_ssr, .ref x_spo, .ref x_awa, .ref x_dat, .int kpt, .ref x_hd, .int by0, .int to0, .int rep, .int had, .int ost, .int bst, .ref x_inr]]) rfl 0 11 rfl rfl rfl (cw_Mod_186 hF.2.2.2.2.1 rfl rfl ⟨by decide, by decide⟩) rfl rfl (Nat.le_of_ble_eq_true rfl) d_Mod_moved_2 ⟨Nat.zero_le _, Nat.zero_le _⟩ ?_
  refine zx_topi 0 (hb) ?_
  refine zx_if_eq (pc := 5) hF d_Mod_moved_5 (tgt := 17) rfl (fun h5 => ?_) (fun h5 => ?_)
  · refine zx_iconst (pc := 17) hF d_Mod_moved_17 k_im1 ?_
    exact zx_iret (pc := 18) hF hr hlk (by first | rfl | (simp only []; done) | (simp only [↓reduceIte]; done) | simp []) (by first | rfl | (simp only []; done) | (simp only [↓reduceIte]; done) | simp []) d_Mod_moved_18
  · exact absurd h5 (by decide)
set_option maxRecDepth 20000 in
theorem M_Mod_live (l : Launch) (D : va_G) (K : Nat → ClassId) (M : List (ClassId × FieldType)) (m0 : Nat) (bN : Nat) (sN0 : Nat) (pN : Nat) (k0 : Int64) (k1 : Int64) (now : Int32) (x_wd : Nat) (x_beg : Nat) (x_std : Nat) (x_dea : Nat) (x_frm : Nat) (x_alv : Nat) (x_stm : Nat) (x_mov : Nat) (x_dwn : Nat) (x_ctd : Nat) (x_cutm : Nat) (x_pha : Nat) (x_usd : Nat) (x_gol : Nat) (x_esr : Nat) (x_epo : Nat) (x_offm : Nat) (x_ast : Nat) (x_opn : Nat) (x_ssr : Nat) (x_spo : Nat) (x_awa : Nat) (x_dat : Nat) (kpt : Int32) (x_hd : Nat) (by0 : Int32) (to0 : Int32) (rep : Int32) (had : Int32) (ost : Int32) (bst : Int32) (x_inr : Nat) (alv : Nat → Int32) (pha : Nat → Int32) (b : Nat) (o : Int32) (hB : bN ≤ 4) (hS : 0 < sN0 ∧ sN0 ≤ 8) (hb : b < bN) (ho : o = 0 ∨ o = 1) (sz : Nat) : zM l y_Mod_live (zT y_Mod_live b_Mod_live 4 (some .boolean)) (zR 1 21) 0 0 D K M [.ref m0, .int (nI b), .int o] [cO m0 11 [.int (nI bN), .int (nI sN0), .int (nI pN), .long k0, .long k1, .int now, .ref x_wd, .ref x_beg, .ref x_std, .ref x_dea, .ref x_frm, .ref x_alv, .ref x_stm, .ref x_mov, .ref x_dwn, .ref x_ctd, .ref x_cutm, .ref x_pha, .ref x_usd, .ref x_gol, .ref x_esr, .ref x_epo, .ref x_offm, .ref x_ast, .ref x_opn, .ref x_ssr, .ref x_spo, .ref x_awa, .ref x_dat, .int kpt, .ref x_hd, .int by0, .int to0, .int rep, .int had, .int ost, .int bst, .ref x_inr], cZ K x_alv 4 alv, cI K x_pha 32 pha] sz (zQi D K M (g_liv alv b o) [cO m0 11 [.int (nI bN), .int (nI sN0), .int (nI pN), .long k0, .long k1, .int now, .ref x_wd, .ref x_beg, .ref x_std, .ref x_dea, .ref x_frm, .ref x_alv, .ref x_stm, .ref x_mov, .ref x_dwn, .ref x_ctd, .ref x_cutm, .ref x_pha, .ref x_usd, .ref x_gol, .ref x_esr, .ref x_epo, .ref x_offm, .ref x_ast, .ref x_opn, .ref x_ssr, .ref x_spo, .ref x_awa, .ref x_dat, .int kpt, .ref x_hd, .int by0, .int to0, .int rep, .int had, .int ost, .int bst, .ref x_inr], cZ K x_alv 4 (upd alv b o), cI K x_pha 32 (g_lpha alv pha b o)]) := by
  refine zx_head (by decide) (Nat.le_of_ble_eq_true rfl) ?_
  intro _ _ _ _ _ _ _ _ _ hF hr hlk hnm
  refine zx_aload_n (pc := 0) hF d_Mod_live_0 rfl 0 rfl ?_
  refine zx_iload_n (pc := 1) hF d_Mod_live_1 rfl 1 rfl ?_
  refine zx_Vi (pc := 2) hF (As := [.int (nI b)]) (rest := []) (fun sz => M_Mod_isBalancer l D K M m0 bN sN0 pN k0 k1 now x_wd x_beg x_std x_dea x_frm x_alv x_stm x_mov x_dwn x_ctd x_cutm x_pha x_usd x_gol x_esr x_epo x_offm x_ast x_opn x_ssr x_spo x_awa x_dat kpt x_hd by0 to0 rep had ost bst x_inr (nI b)  sz) [0] rfl (by decide) (as := [m0]) rfl rfl (ws' := [cO m0 11 [.int (nI bN), .int (nI sN0), .int (nI pN), .long k0, .long k1, .int now, .ref x_wd, .ref x_beg, .ref x_std, .ref x_dea, .ref x_frm, .ref x_alv, .ref x_stm, .ref x_mov, .ref x_dwn, .ref x_ctd, .ref x_cutm, .ref x_pha, .ref x_usd, .ref x_gol, .ref x_esr, .ref x_epo, .ref x_offm, .ref x_ast, .ref x_opn, .ref x_ssr, .ref x_spo, .ref x_awa, .ref x_dat, .int kpt, .ref x_hd, .int by0, .int to0, .int rep, .int had, .int ost, .int bst, .ref x_inr], cZ K x_alv 4 alv, cI K x_pha 32 pha]) rfl 0 11 rfl rfl rfl (cw_Mod_186 hF.2.2.2.2.1 rfl rfl ⟨by decide, by decide⟩) rfl rfl (Nat.le_of_ble_eq_true rfl) d_Mod_live_2 ⟨Nat.zero_le _, Nat.zero_le _⟩ ?_
  refine zx_topi 1 (g_is_in hb (by omega)) ?_
  refine zx_if_eq (pc := 5) hF d_Mod_live_5 (tgt := 18) rfl (fun h5 => ?_) (fun h5 => ?_)
  · exact absurd h5 (by decide)
  · refine zx_aload_n (pc := 8) hF d_Mod_live_8 rfl 0 rfl ?_
    refine zg_Mod_26 (pc := 9) hF 0 rfl rfl d_Mod_live_9 ?_
    refine zx_iload_n (pc := 12) hF d_Mod_live_12 rfl 1 rfl ?_
    refine zx_zaldn (pc := 13) hF (i := b) 1 rfl (by omega) (by omega) d_Mod_live_13 ?_
    refine zx_iload_n (pc := 14) hF d_Mod_live_14 rfl 2 rfl ?_
    refine zx_icmp_ne (pc := 15) hF d_Mod_live_15 (tgt := 20) rfl (fun h15 => ?_) (fun h15 => ?_)
    · refine zx_aload_n (pc := 20) hF d_Mod_live_20 rfl 0 rfl ?_
      refine zg_Mod_26 (pc := 21) hF 0 rfl rfl d_Mod_live_21 ?_
      refine zx_iload_n (pc := 24) hF d_Mod_live_24 rfl 1 rfl ?_
      refine zx_iload_n (pc := 25) hF d_Mod_live_25 rfl 2 rfl ?_
      refine zx_zastn (pc := 26) hF (i := b) 1 rfl (by omega) (by omega) (znar ho) d_Mod_live_26 (ws' := [cO m0 11 [.int (nI bN), .int (nI sN0), .int (nI pN), .long k0, .long k1, .int now, .ref x_wd, .ref x_beg, .ref x_std, .ref x_dea, .ref x_frm, .ref x_alv, .ref x_stm, .ref x_mov, .ref x_dwn, .ref x_ctd, .ref x_cutm, .ref x_pha, .ref x_usd, .ref x_gol, .ref x_esr, .ref x_epo, .ref x_offm, .ref x_ast, .ref x_opn, .ref x_ssr, .ref x_spo, .ref x_awa, .ref x_dat, .int kpt, .ref x_hd, .int by0, .int to0, .int rep, .int had, .int ost, .int bst, .ref x_inr], cZ K x_alv 4 (upd alv b o), cI K x_pha 32 pha]) rfl ?_
      refine zx_iload_n (pc := 27) hF d_Mod_live_27 rfl 2 rfl ?_
      refine zx_if_ne (pc := 28) hF d_Mod_live_28 (tgt := 57) rfl (fun h28 => ?_) (fun h28 => ?_)
      · refine zx_iconst (pc := 57) hF d_Mod_live_57 k_i1 ?_
        exact zx_zret (pc := 58) hF hr hlk rfl (by simp only [g_liv, h15, ↓reduceIte]) (by simp only [g_lpha, h15, h28, ↓reduceIte]) d_Mod_live_58
      · refine zx_iconst (pc := 31) hF d_Mod_live_31 k_i0 ?_
        refine zx_istore_n (pc := 32) hF (lv' := [(3, .int 0), (0, .ref m0), (1, .int (nI b)), (2, .int o)]) d_Mod_live_32 rfl (by decide) rfl ?_
        refine zx_lv [1, 2, 0] (lv' := [(0, .ref m0), (1, .int (nI b)), (3, .int 0)]) rfl ?_
        refine zx_loop (pc := 33) (σ := Nat × (Nat → Int32)) (fun k zv => (zv.1 + k = 8) ∧ (f_fill k (8 * b + zv.1) 0 zv.2 = f_fill 8 (8 * b) 0 pha)) (fun zv => [cO m0 11 [.int (nI bN), .int (nI sN0), .int (nI pN), .long k0, .long k1, .int now, .ref x_wd, .ref x_beg, .ref x_std, .ref x_dea, .ref x_frm, .ref x_alv, .ref x_stm, .ref x_mov, .ref x_dwn, .ref x_ctd, .ref x_cutm, .ref x_pha, .ref x_usd, .ref x_gol, .ref x_esr, .ref x_epo, .ref x_offm, .ref x_ast, .ref x_opn, .ref x_ssr, .ref x_spo, .ref x_awa, .ref x_dat, .int kpt, .ref x_hd, .int by0, .int to0, .int rep, .int had, .int ost, .int bst, .ref x_inr], cZ K x_alv 4 (upd alv b o), cI K x_pha 32 zv.2]) (fun zv => [(0, .ref m0), (1, .int (nI b)), (3, .int (nI zv.1))]) 8 (0, pha) ⟨rfl, rfl⟩ rfl rfl ?_
        intro k zv hI ih
        obtain ⟨j, f'⟩ := zv
        obtain ⟨hk, hX⟩ := hI
        replace hk : j + k = 8 := hk
        replace hX : f_fill k (8 * b + j) 0 f' = f_fill 8 (8 * b) 0 pha := hX
        refine zx_eq (ws' := [cO m0 11 [.int (nI bN), .int (nI sN0), .int (nI pN), .long k0, .long k1, .int now, .ref x_wd, .ref x_beg, .ref x_std, .ref x_dea, .ref x_frm, .ref x_alv, .ref x_stm, .ref x_mov, .ref x_dwn, .ref x_ctd, .ref x_cutm, .ref x_pha, .ref x_usd, .ref x_gol, .ref x_esr, .ref x_epo, .ref x_offm, .ref x_ast, .ref x_opn, .ref x_ssr, .ref x_spo, .ref x_awa, .ref x_dat, .int kpt, .ref x_hd, .int by0, .int to0, .int rep, .int had, .int ost, .int bst, .ref x_inr], cZ K x_alv 4 (upd alv b o), cI K x_pha 32 f']) (lv' := [(0, .ref m0), (1, .int (nI b)), (3, .int (nI j))]) rfl rfl rfl ?_
        refine zx_iload_n (pc := 33) hF d_Mod_live_33 rfl 2 rfl ?_
        refine zx_bipush (pc := 34) hF d_Mod_live_34 k_b8 ?_
        refine zx_icmp_ge (pc := 36) hF d_Mod_live_36 (tgt := 57) rfl (fun h36 => ?_) (fun h36 => ?_)
        · replace h36 : 8 ≤ j := (nI_leI (a := 8) (b := j) (by omega) (by omega)).mp h36
          refine zx_iconst (pc := 57) hF d_Mod_live_57 k_i1 ?_
          exact zx_zret (pc := 58) hF hr hlk rfl (by simp only [g_liv, h15, ↓reduceIte]) (by obtain rfl : k = 0 := (by omega); simp only [g_lpha, if_neg h15, if_pos h28]; rw [← hX]; rfl) d_Mod_live_58
        · replace h36 : ¬ 8 ≤ j := fun z => h36 ((nI_leI (a := 8) (b := j) (by omega) (by omega)).mpr z)
          refine zx_aload_n (pc := 39) hF d_Mod_live_39 rfl 0 rfl ?_
          refine zg_Mod_45 (pc := 40) hF 0 rfl rfl d_Mod_live_40 ?_
          refine zx_bipush (pc := 43) hF d_Mod_live_43 k_b8 ?_
          refine zx_iload_n (pc := 45) hF d_Mod_live_45 rfl 1 rfl ?_
          refine zx_imul (pc := 46) hF d_Mod_live_46 ?_
          refine zx_topi (nI (8 * b)) (pk_mul 8 b) ?_
          refine zx_iload_n (pc := 47) hF d_Mod_live_47 rfl 2 rfl ?_
          refine zx_iadd (pc := 48) hF d_Mod_live_48 ?_
          refine zx_topi (nI ((8 * b) + j)) (nI_add (8 * b) j) ?_
          refine zx_iconst (pc := 49) hF d_Mod_live_49 k_i0 ?_
          refine zx_iastn (pc := 50) hF (i := (8 * b) + j) 2 rfl (by omega) (by omega) d_Mod_live_50 (ws' := [cO m0 11 [.int (nI bN), .int (nI sN0), .int (nI pN), .long k0, .long k1, .int now, .ref x_wd, .ref x_beg, .ref x_std, .ref x_dea, .ref x_frm, .ref x_alv, .ref x_stm, .ref x_mov, .ref x_dwn, .ref x_ctd, .ref x_cutm, .ref x_pha, .ref x_usd, .ref x_gol, .ref x_esr, .ref x_epo, .ref x_offm, .ref x_ast, .ref x_opn, .ref x_ssr, .ref x_spo, .ref x_awa, .ref x_dat, .int kpt, .ref x_hd, .int by0, .int to0, .int rep, .int had, .int ost, .int bst, .ref x_inr], cZ K x_alv 4 (upd alv b o), cI K x_pha 32 (upd f' ((8 * b) + j) 0)]) rfl ?_
          refine zx_iinc (pc := 51) hF (v := nI (j + 1)) (lv' := [(3, .int (nI (j + 1))), (0, .ref m0), (1, .int (nI b))]) d_Mod_live_51 2 rfl (zinc j) (by decide) rfl ?_
          refine zx_goto (pc := 54) hF d_Mod_live_54 (tgt := 33) rfl ?_
          refine zx_lv [1, 2, 0] (lv' := [(0, .ref m0), (1, .int (nI b)), (3, .int (nI (j + 1)))]) rfl ?_
          exact ih (k - 1) (j + 1, upd f' ((8 * b) + j) 0) (by omega) ⟨by (try dsimp only); omega, by obtain ⟨k', rfl⟩ : ∃ k', k = k' + 1 := ⟨k - 1, by omega⟩; exact hX⟩
    · refine zx_iconst (pc := 18) hF d_Mod_live_18 k_i0 ?_
      exact zx_zret (pc := 19) hF hr hlk rfl (by simp only [g_liv, h15, ↓reduceIte]) (by simp only [g_lpha, h15, ↓reduceIte]; rw [show upd alv b o = alv from by funext q; by_cases e : q = b; subst e; rw [pk_us, h15]; rw [pk_un e]]) d_Mod_live_19
set_option maxRecDepth 20000 in
theorem M_Mod_live_b (l : Launch) (D : va_G) (K : Nat → ClassId) (M : List (ClassId × FieldType)) (m0 : Nat) (bN : Nat) (sN0 : Nat) (pN : Nat) (k0 : Int64) (k1 : Int64) (now : Int32) (x_wd : Nat) (x_beg : Nat) (x_std : Nat) (x_dea : Nat) (x_frm : Nat) (x_alv : Nat) (x_stm : Nat) (x_mov : Nat) (x_dwn : Nat) (x_ctd : Nat) (x_cutm : Nat) (x_pha : Nat) (x_usd : Nat) (x_gol : Nat) (x_esr : Nat) (x_epo : Nat) (x_offm : Nat) (x_ast : Nat) (x_opn : Nat) (x_ssr : Nat) (x_spo : Nat) (x_awa : Nat) (x_dat : Nat) (kpt : Int32) (x_hd : Nat) (by0 : Int32) (to0 : Int32) (rep : Int32) (had : Int32) (ost : Int32) (bst : Int32) (x_inr : Nat) (b : Int32) (o : Int32) (hb : g_is b bN = 0) (sz : Nat) : zM l y_Mod_live (zT y_Mod_live b_Mod_live 4 (some .boolean)) (zR 1 21) 0 0 D K M [.ref m0, .int b, .int o] [cO m0 11 [.int (nI bN), .int (nI sN0), .int (nI pN), .long k0, .long k1, .int now, .ref x_wd, .ref x_beg, .ref x_std, .ref x_dea, .ref x_frm, .ref x_alv, .ref x_stm, .ref x_mov, .ref x_dwn, .ref x_ctd, .ref x_cutm, .ref x_pha, .ref x_usd, .ref x_gol, .ref x_esr, .ref x_epo, .ref x_offm, .ref x_ast, .ref x_opn, .ref x_ssr, .ref x_spo, .ref x_awa, .ref x_dat, .int kpt, .ref x_hd, .int by0, .int to0, .int rep, .int had, .int ost, .int bst, .ref x_inr]] sz (zQi D K M 0 [cO m0 11 [.int (nI bN), .int (nI sN0), .int (nI pN), .long k0, .long k1, .int now, .ref x_wd, .ref x_beg, .ref x_std, .ref x_dea, .ref x_frm, .ref x_alv, .ref x_stm, .ref x_mov, .ref x_dwn, .ref x_ctd, .ref x_cutm, .ref x_pha, .ref x_usd, .ref x_gol, .ref x_esr, .ref x_epo, .ref x_offm, .ref x_ast, .ref x_opn, .ref x_ssr, .ref x_spo, .ref x_awa, .ref x_dat, .int kpt, .ref x_hd, .int by0, .int to0, .int rep, .int had, .int ost, .int bst, .ref x_inr]]) := by
  refine zx_head (by decide) (Nat.le_of_ble_eq_true rfl) ?_
  intro _ _ _ _ _ _ _ _ _ hF hr hlk hnm
  refine zx_aload_n (pc := 0) hF d_Mod_live_0 rfl 0 rfl ?_
  refine zx_iload_n (pc := 1) hF d_Mod_live_1 rfl 1 rfl ?_
  refine zx_Vi (pc := 2) hF (As := [.int b]) (rest := []) (fun sz => M_Mod_isBalancer l D K M m0 bN sN0 pN k0 k1 now x_wd x_beg x_std x_dea x_frm x_alv x_stm x_mov x_dwn x_ctd x_cutm x_pha x_usd x_gol x_esr x_epo x_offm x_ast x_opn x_ssr x_spo x_awa x_dat kpt x_hd by0 to0 rep had ost bst x_inr b  sz) [0] rfl (by decide) (as := [m0]) rfl rfl (ws' := [cO m0 11 [.int (nI bN), .int (nI sN0), .int (nI pN), .long k0, .long k1, .int now, .ref x_wd, .ref x_beg, .ref x_std, .ref x_dea, .ref x_frm, .ref x_alv, .ref x_stm, .ref x_mov, .ref x_dwn, .ref x_ctd, .ref x_cutm, .ref x_pha, .ref x_usd, .ref x_gol, .ref x_esr, .ref x_epo, .ref x_offm, .ref x_ast, .ref x_opn, .ref x_ssr, .ref x_spo, .ref x_awa, .ref x_dat, .int kpt, .ref x_hd, .int by0, .int to0, .int rep, .int had, .int ost, .int bst, .ref x_inr]]) rfl 0 11 rfl rfl rfl (cw_Mod_186 hF.2.2.2.2.1 rfl rfl ⟨by decide, by decide⟩) rfl rfl (Nat.le_of_ble_eq_true rfl) d_Mod_live_2 ⟨Nat.zero_le _, Nat.zero_le _⟩ ?_
  refine zx_topi 0 (hb) ?_
  refine zx_if_eq (pc := 5) hF d_Mod_live_5 (tgt := 18) rfl (fun h5 => ?_) (fun h5 => ?_)
  · refine zx_iconst (pc := 18) hF d_Mod_live_18 k_i0 ?_
    exact zx_zret (pc := 19) hF hr hlk rfl (by first | rfl | (simp only []; done) | (simp only [↓reduceIte]; done) | simp []) (by first | rfl | (simp only []; done) | (simp only [↓reduceIte]; done) | simp []) d_Mod_live_19
  · exact absurd h5 (by decide)
end
section
set_option maxRecDepth 20000 in
theorem M_Mod_power (l : Launch) (D : va_G) (K : Nat → ClassId) (M : List (ClassId × FieldType)) (m0 : Nat) (bN : Nat) (sN0 : Nat) (pN : Nat) (k0 : Int64) (k1 : Int64) (now : Int32) (x_wd : Nat) (x_beg : Nat) (x_std : Nat) (x_dea : Nat) (x_frm : Nat) (x_alv : Nat) (x_stm : Nat) (x_mov : Nat) (x_dwn : Nat) (x_ctd : Nat) (x_cutm : Nat) (x_pha : Nat) (x_usd : Nat) (x_gol : Nat) (x_esr : Nat) (x_epo : Nat) (x_offm : Nat) (x_ast : Nat) (x_opn : Nat) (x_ssr : Nat) (x_spo : Nat) (x_awa : Nat) (x_dat : Nat) (kpt : Int32) (x_hd : Nat) (by0 : Int32) (to0 : Int32) (rep : Int32) (had : Int32) (ost : Int32) (bst : Int32) (x_inr : Nat) (offm : Nat → Int32) (opn : Nat → Int32) (q : Nat) (o : Int32) (hB : bN ≤ 4) (hS : 0 < sN0 ∧ sN0 ≤ 8) (hq : q < sN0) (ho : o = 0 ∨ o = 1) (sz : Nat) : zM l y_Mod_power (zT y_Mod_power b_Mod_power 4 (some .boolean)) (zR 1 21) 0 0 D K M [.ref m0, .int (nI q), .int o] [cO m0 11 [.int (nI bN), .int (nI sN0), .int (nI pN), .long k0, .long k1, .int now, .ref x_wd, .ref x_beg, .ref x_std, .ref x_dea, .ref x_frm, .ref x_alv, .ref x_stm, .ref x_mov, .ref x_dwn, .ref x_ctd, .ref x_cutm, .ref x_pha, .ref x_usd, .ref x_gol, .ref x_esr, .ref x_epo, .ref x_offm, .ref x_ast, .ref x_opn, .ref x_ssr, .ref x_spo, .ref x_awa, .ref x_dat, .int kpt, .ref x_hd, .int by0, .int to0, .int rep, .int had, .int ost, .int bst, .ref x_inr], cZ K x_offm 8 offm, cZ K x_opn 80 opn] sz (zQi D K M (g_pow offm q o) [cO m0 11 [.int (nI bN), .int (nI sN0), .int (nI pN), .long k0, .long k1, .int now, .ref x_wd, .ref x_beg, .ref x_std, .ref x_dea, .ref x_frm, .ref x_alv, .ref x_stm, .ref x_mov, .ref x_dwn, .ref x_ctd, .ref x_cutm, .ref x_pha, .ref x_usd, .ref x_gol, .ref x_esr, .ref x_epo, .ref x_offm, .ref x_ast, .ref x_opn, .ref x_ssr, .ref x_spo, .ref x_awa, .ref x_dat, .int kpt, .ref x_hd, .int by0, .int to0, .int rep, .int had, .int ost, .int bst, .ref x_inr], cZ K x_offm 8 (g_poff offm q o), cZ K x_opn 80 (g_popn offm opn q o)]) := by
  refine zx_head (by decide) (Nat.le_of_ble_eq_true rfl) ?_
  intro _ _ _ _ _ _ _ _ _ hF hr hlk hnm
  refine zx_aload_n (pc := 0) hF d_Mod_power_0 rfl 0 rfl ?_
  refine zx_iload_n (pc := 1) hF d_Mod_power_1 rfl 1 rfl ?_
  refine zx_Vi (pc := 2) hF (As := [.int (nI q)]) (rest := []) (fun sz => M_Mod_isServer l D K M m0 bN sN0 pN k0 k1 now x_wd x_beg x_std x_dea x_frm x_alv x_stm x_mov x_dwn x_ctd x_cutm x_pha x_usd x_gol x_esr x_epo x_offm x_ast x_opn x_ssr x_spo x_awa x_dat kpt x_hd by0 to0 rep had ost bst x_inr (nI q)  sz) [0] rfl (by decide) (as := [m0]) rfl rfl (ws' := [cO m0 11 [.int (nI bN), .int (nI sN0), .int (nI pN), .long k0, .long k1, .int now, .ref x_wd, .ref x_beg, .ref x_std, .ref x_dea, .ref x_frm, .ref x_alv, .ref x_stm, .ref x_mov, .ref x_dwn, .ref x_ctd, .ref x_cutm, .ref x_pha, .ref x_usd, .ref x_gol, .ref x_esr, .ref x_epo, .ref x_offm, .ref x_ast, .ref x_opn, .ref x_ssr, .ref x_spo, .ref x_awa, .ref x_dat, .int kpt, .ref x_hd, .int by0, .int to0, .int rep, .int had, .int ost, .int bst, .ref x_inr], cZ K x_offm 8 offm, cZ K x_opn 80 opn]) rfl 0 11 rfl rfl rfl (cw_Mod_192 hF.2.2.2.2.1 rfl rfl ⟨by decide, by decide⟩) rfl rfl (Nat.le_of_ble_eq_true rfl) d_Mod_power_2 ⟨Nat.zero_le _, Nat.zero_le _⟩ ?_
  refine zx_topi 1 (g_is_in hq (by omega)) ?_
  refine zx_if_eq (pc := 5) hF d_Mod_power_5 (tgt := 18) rfl (fun h5 => ?_) (fun h5 => ?_)
  · exact absurd h5 (by decide)
  · refine zx_aload_n (pc := 8) hF d_Mod_power_8 rfl 0 rfl ?_
    refine zg_Mod_60 (pc := 9) hF 0 rfl rfl d_Mod_power_9 ?_
    refine zx_iload_n (pc := 12) hF d_Mod_power_12 rfl 1 rfl ?_
    refine zx_zaldn (pc := 13) hF (i := q) 1 rfl (by omega) (by omega) d_Mod_power_13 ?_
    refine zx_iload_n (pc := 14) hF d_Mod_power_14 rfl 2 rfl ?_
    refine zx_icmp_eq (pc := 15) hF d_Mod_power_15 (tgt := 20) rfl (fun h15 => ?_) (fun h15 => ?_)
    · refine zx_aload_n (pc := 20) hF d_Mod_power_20 rfl 0 rfl ?_
      refine zg_Mod_60 (pc := 21) hF 0 rfl rfl d_Mod_power_21 ?_
      refine zx_iload_n (pc := 24) hF d_Mod_power_24 rfl 1 rfl ?_
      refine zx_iload_n (pc := 25) hF d_Mod_power_25 rfl 2 rfl ?_
      refine zx_if_ne (pc := 26) hF d_Mod_power_26 (tgt := 33) rfl (fun h26 => ?_) (fun h26 => ?_)
      · refine zx_iconst (pc := 33) hF d_Mod_power_33 k_i0 ?_
        refine zx_zastn (pc := 34) hF (i := q) 1 rfl (by omega) (by omega) rfl d_Mod_power_34 (ws' := [cO m0 11 [.int (nI bN), .int (nI sN0), .int (nI pN), .long k0, .long k1, .int now, .ref x_wd, .ref x_beg, .ref x_std, .ref x_dea, .ref x_frm, .ref x_alv, .ref x_stm, .ref x_mov, .ref x_dwn, .ref x_ctd, .ref x_cutm, .ref x_pha, .ref x_usd, .ref x_gol, .ref x_esr, .ref x_epo, .ref x_offm, .ref x_ast, .ref x_opn, .ref x_ssr, .ref x_spo, .ref x_awa, .ref x_dat, .int kpt, .ref x_hd, .int by0, .int to0, .int rep, .int had, .int ost, .int bst, .ref x_inr], cZ K x_offm 8 (upd offm q 0), cZ K x_opn 80 opn]) rfl ?_
        refine zx_iconst (pc := 35) hF d_Mod_power_35 k_i0 ?_
        refine zx_istore_n (pc := 36) hF (lv' := [(3, .int 0), (0, .ref m0), (1, .int (nI q)), (2, .int o)]) d_Mod_power_36 rfl (by decide) rfl ?_
        refine zx_lv [1, 2, 0] (lv' := [(0, .ref m0), (1, .int (nI q)), (3, .int 0)]) rfl ?_
        refine zx_loop (pc := 37) (σ := Nat × (Nat → Int32)) (fun k zv => (zv.1 + k = 10) ∧ (f_fill k (10 * q + zv.1) 0 zv.2 = f_fill 10 (10 * q) 0 opn)) (fun zv => [cO m0 11 [.int (nI bN), .int (nI sN0), .int (nI pN), .long k0, .long k1, .int now, .ref x_wd, .ref x_beg, .ref x_std, .ref x_dea, .ref x_frm, .ref x_alv, .ref x_stm, .ref x_mov, .ref x_dwn, .ref x_ctd, .ref x_cutm, .ref x_pha, .ref x_usd, .ref x_gol, .ref x_esr, .ref x_epo, .ref x_offm, .ref x_ast, .ref x_opn, .ref x_ssr, .ref x_spo, .ref x_awa, .ref x_dat, .int kpt, .ref x_hd, .int by0, .int to0, .int rep, .int had, .int ost, .int bst, .ref x_inr], cZ K x_offm 8 (upd offm q 0), cZ K x_opn 80 zv.2]) (fun zv => [(0, .ref m0), (1, .int (nI q)), (3, .int (nI zv.1))]) 10 (0, opn) ⟨rfl, rfl⟩ rfl rfl ?_
        intro k zv hI ih
        obtain ⟨j, f'⟩ := zv
        obtain ⟨hk, hX⟩ := hI
        replace hk : j + k = 10 := hk
        replace hX : f_fill k (10 * q + j) 0 f' = f_fill 10 (10 * q) 0 opn := hX
        refine zx_eq (ws' := [cO m0 11 [.int (nI bN), .int (nI sN0), .int (nI pN), .long k0, .long k1, .int now, .ref x_wd, .ref x_beg, .ref x_std, .ref x_dea, .ref x_frm, .ref x_alv, .ref x_stm, .ref x_mov, .ref x_dwn, .ref x_ctd, .ref x_cutm, .ref x_pha, .ref x_usd, .ref x_gol, .ref x_esr, .ref x_epo, .ref x_offm, .ref x_ast, .ref x_opn, .ref x_ssr, .ref x_spo, .ref x_awa, .ref x_dat, .int kpt, .ref x_hd, .int by0, .int to0, .int rep, .int had, .int ost, .int bst, .ref x_inr], cZ K x_offm 8 (upd offm q 0), cZ K x_opn 80 f']) (lv' := [(0, .ref m0), (1, .int (nI q)), (3, .int (nI j))]) rfl rfl rfl ?_
        refine zx_iload_n (pc := 37) hF d_Mod_power_37 rfl 2 rfl ?_
        refine zx_bipush (pc := 38) hF d_Mod_power_38 k_b10 ?_
        refine zx_icmp_ge (pc := 40) hF d_Mod_power_40 (tgt := 61) rfl (fun h40 => ?_) (fun h40 => ?_)
        · replace h40 : 10 ≤ j := (nI_leI (a := 10) (b := j) (by omega) (by omega)).mp h40
          refine zx_iconst (pc := 61) hF d_Mod_power_61 k_i1 ?_
          exact zx_zret (pc := 62) hF hr hlk rfl (by simp only [g_pow, h15, ↓reduceIte]) (by obtain rfl : k = 0 := (by omega); simp only [g_poff, g_popn, if_pos h15, if_neg h26]; rw [← hX]; rfl) d_Mod_power_62
        · replace h40 : ¬ 10 ≤ j := fun z => h40 ((nI_leI (a := 10) (b := j) (by omega) (by omega)).mpr z)
          refine zx_aload_n (pc := 43) hF d_Mod_power_43 rfl 0 rfl ?_
          refine zg_Mod_66 (pc := 44) hF 0 rfl rfl d_Mod_power_44 ?_
          refine zx_bipush (pc := 47) hF d_Mod_power_47 k_b10 ?_
          refine zx_iload_n (pc := 49) hF d_Mod_power_49 rfl 1 rfl ?_
          refine zx_imul (pc := 50) hF d_Mod_power_50 ?_
          refine zx_topi (nI (10 * q)) (pk_mul 10 q) ?_
          refine zx_iload_n (pc := 51) hF d_Mod_power_51 rfl 2 rfl ?_
          refine zx_iadd (pc := 52) hF d_Mod_power_52 ?_
          refine zx_topi (nI ((10 * q) + j)) (nI_add (10 * q) j) ?_
          refine zx_iconst (pc := 53) hF d_Mod_power_53 k_i0 ?_
          refine zx_zastn (pc := 54) hF (i := (10 * q) + j) 2 rfl (by omega) (by omega) rfl d_Mod_power_54 (ws' := [cO m0 11 [.int (nI bN), .int (nI sN0), .int (nI pN), .long k0, .long k1, .int now, .ref x_wd, .ref x_beg, .ref x_std, .ref x_dea, .ref x_frm, .ref x_alv, .ref x_stm, .ref x_mov, .ref x_dwn, .ref x_ctd, .ref x_cutm, .ref x_pha, .ref x_usd, .ref x_gol, .ref x_esr, .ref x_epo, .ref x_offm, .ref x_ast, .ref x_opn, .ref x_ssr, .ref x_spo, .ref x_awa, .ref x_dat, .int kpt, .ref x_hd, .int by0, .int to0, .int rep, .int had, .int ost, .int bst, .ref x_inr], cZ K x_offm 8 (upd offm q 0), cZ K x_opn 80 (upd f' ((10 * q) + j) 0)]) rfl ?_
          refine zx_iinc (pc := 55) hF (v := nI (j + 1)) (lv' := [(3, .int (nI (j + 1))), (0, .ref m0), (1, .int (nI q))]) d_Mod_power_55 2 rfl (zinc j) (by decide) rfl ?_
          refine zx_goto (pc := 58) hF d_Mod_power_58 (tgt := 37) rfl ?_
          refine zx_lv [1, 2, 0] (lv' := [(0, .ref m0), (1, .int (nI q)), (3, .int (nI (j + 1)))]) rfl ?_
          exact ih (k - 1) (j + 1, upd f' ((10 * q) + j) 0) (by omega) ⟨by (try dsimp only); omega, by obtain ⟨k', rfl⟩ : ∃ k', k = k' + 1 := ⟨k - 1, by omega⟩; exact hX⟩
      · refine zx_iconst (pc := 29) hF d_Mod_power_29 k_i1 ?_
        refine zx_goto (pc := 30) hF d_Mod_power_30 (tgt := 34) rfl ?_
        refine zx_zastn (pc := 34) hF (i := q) 1 rfl (by omega) (by omega) rfl d_Mod_power_34 (ws' := [cO m0 11 [.int (nI bN), .int (nI sN0), .int (nI pN), .long k0, .long k1, .int now, .ref x_wd, .ref x_beg, .ref x_std, .ref x_dea, .ref x_frm, .ref x_alv, .ref x_stm, .ref x_mov, .ref x_dwn, .ref x_ctd, .ref x_cutm, .ref x_pha, .ref x_usd, .ref x_gol, .ref x_esr, .ref x_epo, .ref x_offm, .ref x_ast, .ref x_opn, .ref x_ssr, .ref x_spo, .ref x_awa, .ref x_dat, .int kpt, .ref x_hd, .int by0, .int to0, .int rep, .int had, .int ost, .int bst, .ref x_inr], cZ K x_offm 8 (upd offm q 1), cZ K x_opn 80 opn]) rfl ?_
        refine zx_iconst (pc := 35) hF d_Mod_power_35 k_i0 ?_
        refine zx_istore_n (pc := 36) hF (lv' := [(3, .int 0), (0, .ref m0), (1, .int (nI q)), (2, .int o)]) d_Mod_power_36 rfl (by decide) rfl ?_
        refine zx_lv [1, 2, 0] (lv' := [(0, .ref m0), (1, .int (nI q)), (3, .int 0)]) rfl ?_
        refine zx_loop (pc := 37) (σ := Nat × (Nat → Int32)) (fun k zv => (zv.1 + k = 10) ∧ (f_fill k (10 * q + zv.1) 0 zv.2 = f_fill 10 (10 * q) 0 opn)) (fun zv => [cO m0 11 [.int (nI bN), .int (nI sN0), .int (nI pN), .long k0, .long k1, .int now, .ref x_wd, .ref x_beg, .ref x_std, .ref x_dea, .ref x_frm, .ref x_alv, .ref x_stm, .ref x_mov, .ref x_dwn, .ref x_ctd, .ref x_cutm, .ref x_pha, .ref x_usd, .ref x_gol, .ref x_esr, .ref x_epo, .ref x_offm, .ref x_ast, .ref x_opn, .ref x_ssr, .ref x_spo, .ref x_awa, .ref x_dat, .int kpt, .ref x_hd, .int by0, .int to0, .int rep, .int had, .int ost, .int bst, .ref x_inr], cZ K x_offm 8 (upd offm q 1), cZ K x_opn 80 zv.2]) (fun zv => [(0, .ref m0), (1, .int (nI q)), (3, .int (nI zv.1))]) 10 (0, opn) ⟨rfl, rfl⟩ rfl rfl ?_
        intro k zv hI ih
        obtain ⟨j, f'⟩ := zv
        obtain ⟨hk, hX⟩ := hI
        replace hk : j + k = 10 := hk
        replace hX : f_fill k (10 * q + j) 0 f' = f_fill 10 (10 * q) 0 opn := hX
        refine zx_eq (ws' := [cO m0 11 [.int (nI bN), .int (nI sN0), .int (nI pN), .long k0, .long k1, .int now, .ref x_wd, .ref x_beg, .ref x_std, .ref x_dea, .ref x_frm, .ref x_alv, .ref x_stm, .ref x_mov, .ref x_dwn, .ref x_ctd, .ref x_cutm, .ref x_pha, .ref x_usd, .ref x_gol, .ref x_esr, .ref x_epo, .ref x_offm, .ref x_ast, .ref x_opn, .ref x_ssr, .ref x_spo, .ref x_awa, .ref x_dat, .int kpt, .ref x_hd, .int by0, .int to0, .int rep, .int had, .int ost, .int bst, .ref x_inr], cZ K x_offm 8 (upd offm q 1), cZ K x_opn 80 f']) (lv' := [(0, .ref m0), (1, .int (nI q)), (3, .int (nI j))]) rfl rfl rfl ?_
        refine zx_iload_n (pc := 37) hF d_Mod_power_37 rfl 2 rfl ?_
        refine zx_bipush (pc := 38) hF d_Mod_power_38 k_b10 ?_
        refine zx_icmp_ge (pc := 40) hF d_Mod_power_40 (tgt := 61) rfl (fun h40 => ?_) (fun h40 => ?_)
        · replace h40 : 10 ≤ j := (nI_leI (a := 10) (b := j) (by omega) (by omega)).mp h40
          refine zx_iconst (pc := 61) hF d_Mod_power_61 k_i1 ?_
          exact zx_zret (pc := 62) hF hr hlk rfl (by simp only [g_pow, h15, ↓reduceIte]) (by obtain rfl : k = 0 := (by omega); simp only [g_poff, g_popn, if_pos h15, if_pos h26]; rw [← hX]; rfl) d_Mod_power_62
        · replace h40 : ¬ 10 ≤ j := fun z => h40 ((nI_leI (a := 10) (b := j) (by omega) (by omega)).mpr z)
          refine zx_aload_n (pc := 43) hF d_Mod_power_43 rfl 0 rfl ?_
          refine zg_Mod_66 (pc := 44) hF 0 rfl rfl d_Mod_power_44 ?_
          refine zx_bipush (pc := 47) hF d_Mod_power_47 k_b10 ?_
          refine zx_iload_n (pc := 49) hF d_Mod_power_49 rfl 1 rfl ?_
          refine zx_imul (pc := 50) hF d_Mod_power_50 ?_
          refine zx_topi (nI (10 * q)) (pk_mul 10 q) ?_
          refine zx_iload_n (pc := 51) hF d_Mod_power_51 rfl 2 rfl ?_
          refine zx_iadd (pc := 52) hF d_Mod_power_52 ?_
          refine zx_topi (nI ((10 * q) + j)) (nI_add (10 * q) j) ?_
          refine zx_iconst (pc := 53) hF d_Mod_power_53 k_i0 ?_
          refine zx_zastn (pc := 54) hF (i := (10 * q) + j) 2 rfl (by omega) (by omega) rfl d_Mod_power_54 (ws' := [cO m0 11 [.int (nI bN), .int (nI sN0), .int (nI pN), .long k0, .long k1, .int now, .ref x_wd, .ref x_beg, .ref x_std, .ref x_dea, .ref x_frm, .ref x_alv, .ref x_stm, .ref x_mov, .ref x_dwn, .ref x_ctd, .ref x_cutm, .ref x_pha, .ref x_usd, .ref x_gol, .ref x_esr, .ref x_epo, .ref x_offm, .ref x_ast, .ref x_opn, .ref x_ssr, .ref x_spo, .ref x_awa, .ref x_dat, .int kpt, .ref x_hd, .int by0, .int to0, .int rep, .int had, .int ost, .int bst, .ref x_inr], cZ K x_offm 8 (upd offm q 1), cZ K x_opn 80 (upd f' ((10 * q) + j) 0)]) rfl ?_
          refine zx_iinc (pc := 55) hF (v := nI (j + 1)) (lv' := [(3, .int (nI (j + 1))), (0, .ref m0), (1, .int (nI q))]) d_Mod_power_55 2 rfl (zinc j) (by decide) rfl ?_
          refine zx_goto (pc := 58) hF d_Mod_power_58 (tgt := 37) rfl ?_
          refine zx_lv [1, 2, 0] (lv' := [(0, .ref m0), (1, .int (nI q)), (3, .int (nI (j + 1)))]) rfl ?_
          exact ih (k - 1) (j + 1, upd f' ((10 * q) + j) 0) (by omega) ⟨by (try dsimp only); omega, by obtain ⟨k', rfl⟩ : ∃ k', k = k' + 1 := ⟨k - 1, by omega⟩; exact hX⟩
    · refine zx_iconst (pc := 18) hF d_Mod_power_18 k_i0 ?_
      exact zx_zret (pc := 19) hF hr hlk rfl (by first | with_reducible rfl | (simp only [g_pow, g_poff, g_popn, if_neg h15]; done) | (simp only [g_pow, g_poff, g_popn, h15, ↓reduceIte]; done) | simp [g_pow, g_poff, g_popn, h15]) (by first | with_reducible rfl | (simp only [g_pow, g_poff, g_popn, if_neg h15]; done) | (simp only [g_pow, g_poff, g_popn, h15, ↓reduceIte]; done) | simp [g_pow, g_poff, g_popn, h15]) d_Mod_power_19
set_option maxRecDepth 20000 in
theorem M_Mod_power_q (l : Launch) (D : va_G) (K : Nat → ClassId) (M : List (ClassId × FieldType)) (m0 : Nat) (bN : Nat) (sN0 : Nat) (pN : Nat) (k0 : Int64) (k1 : Int64) (now : Int32) (x_wd : Nat) (x_beg : Nat) (x_std : Nat) (x_dea : Nat) (x_frm : Nat) (x_alv : Nat) (x_stm : Nat) (x_mov : Nat) (x_dwn : Nat) (x_ctd : Nat) (x_cutm : Nat) (x_pha : Nat) (x_usd : Nat) (x_gol : Nat) (x_esr : Nat) (x_epo : Nat) (x_offm : Nat) (x_ast : Nat) (x_opn : Nat) (x_ssr : Nat) (x_spo : Nat) (x_awa : Nat) (x_dat : Nat) (kpt : Int32) (x_hd : Nat) (by0 : Int32) (to0 : Int32) (rep : Int32) (had : Int32) (ost : Int32) (bst : Int32) (x_inr : Nat) (q : Int32) (o : Int32) (hq : g_is q sN0 = 0) (sz : Nat) : zM l y_Mod_power (zT y_Mod_power b_Mod_power 4 (some .boolean)) (zR 1 21) 0 0 D K M [.ref m0, .int q, .int o] [cO m0 11 [.int (nI bN), .int (nI sN0), .int (nI pN), .long k0, .long k1, .int now, .ref x_wd, .ref x_beg, .ref x_std, .ref x_dea, .ref x_frm, .ref x_alv, .ref x_stm, .ref x_mov, .ref x_dwn, .ref x_ctd, .ref x_cutm, .ref x_pha, .ref x_usd, .ref x_gol, .ref x_esr, .ref x_epo, .ref x_offm, .ref x_ast, .ref x_opn, .ref x_ssr, .ref x_spo, .ref x_awa, .ref x_dat, .int kpt, .ref x_hd, .int by0, .int to0, .int rep, .int had, .int ost, .int bst, .ref x_inr]] sz (zQi D K M 0 [cO m0 11 [.int (nI bN), .int (nI sN0), .int (nI pN), .long k0, .long k1, .int now, .ref x_wd, .ref x_beg, .ref x_std, .ref x_dea, .ref x_frm, .ref x_alv, .ref x_stm, .ref x_mov, .ref x_dwn, .ref x_ctd, .ref x_cutm, .ref x_pha, .ref x_usd, .ref x_gol, .ref x_esr, .ref x_epo, .ref x_offm, .ref x_ast, .ref x_opn, .ref x_ssr, .ref x_spo, .ref x_awa, .ref x_dat, .int kpt, .ref x_hd, .int by0, .int to0, .int rep, .int had, .int ost, .int bst, .ref x_inr]]) := by
  refine zx_head (by decide) (Nat.le_of_ble_eq_true rfl) ?_
  intro _ _ _ _ _ _ _ _ _ hF hr hlk hnm
  refine zx_aload_n (pc := 0) hF d_Mod_power_0 rfl 0 rfl ?_
  refine zx_iload_n (pc := 1) hF d_Mod_power_1 rfl 1 rfl ?_
  refine zx_Vi (pc := 2) hF (As := [.int q]) (rest := []) (fun sz => M_Mod_isServer l D K M m0 bN sN0 pN k0 k1 now x_wd x_beg x_std x_dea x_frm x_alv x_stm x_mov x_dwn x_ctd x_cutm x_pha x_usd x_gol x_esr x_epo x_offm x_ast x_opn x_ssr x_spo x_awa x_dat kpt x_hd by0 to0 rep had ost bst x_inr q  sz) [0] rfl (by decide) (as := [m0]) rfl rfl (ws' := [cO m0 11 [.int (nI bN), .int (nI sN0), .int (nI pN), .long k0, .long k1, .int now, .ref x_wd, .ref x_beg, .ref x_std, .ref x_dea, .ref x_frm, .ref x_alv, .ref x_stm, .ref x_mov, .ref x_dwn, .ref x_ctd, .ref x_cutm, .ref x_pha, .ref x_usd, .ref x_gol, .ref x_esr, .ref x_epo, .ref x_offm, .ref x_ast, .ref x_opn, .ref x_ssr, .ref x_spo, .ref x_awa, .ref x_dat, .int kpt, .ref x_hd, .int by0, .int to0, .int rep, .int had, .int ost, .int bst, .ref x_inr]]) rfl 0 11 rfl rfl rfl (cw_Mod_192 hF.2.2.2.2.1 rfl rfl ⟨by decide, by decide⟩) rfl rfl (Nat.le_of_ble_eq_true rfl) d_Mod_power_2 ⟨Nat.zero_le _, Nat.zero_le _⟩ ?_
  refine zx_topi 0 (hq) ?_
  refine zx_if_eq (pc := 5) hF d_Mod_power_5 (tgt := 18) rfl (fun h5 => ?_) (fun h5 => ?_)
  · refine zx_iconst (pc := 18) hF d_Mod_power_18 k_i0 ?_
    exact zx_zret (pc := 19) hF hr hlk rfl (by first | rfl | (simp only []; done) | (simp only [↓reduceIte]; done) | simp []) (by first | rfl | (simp only []; done) | (simp only [↓reduceIte]; done) | simp []) d_Mod_power_19
  · exact absurd h5 (by decide)
set_option maxRecDepth 20000 in
theorem M_Mod_path (l : Launch) (D : va_G) (K : Nat → ClassId) (M : List (ClassId × FieldType)) (m0 : Nat) (bN : Nat) (sN0 : Nat) (pN : Nat) (k0 : Int64) (k1 : Int64) (now : Int32) (x_wd : Nat) (x_beg : Nat) (x_std : Nat) (x_dea : Nat) (x_frm : Nat) (x_alv : Nat) (x_stm : Nat) (x_mov : Nat) (x_dwn : Nat) (x_ctd : Nat) (x_cutm : Nat) (x_pha : Nat) (x_usd : Nat) (x_gol : Nat) (x_esr : Nat) (x_epo : Nat) (x_offm : Nat) (x_ast : Nat) (x_opn : Nat) (x_ssr : Nat) (x_spo : Nat) (x_awa : Nat) (x_dat : Nat) (kpt : Int32) (x_hd : Nat) (by0 : Int32) (to0 : Int32) (rep : Int32) (had : Int32) (ost : Int32) (bst : Int32) (x_inr : Nat) (cutm : Nat → Int32) (b : Nat) (q : Nat) (o : Int32) (hB : bN ≤ 4) (hS : 0 < sN0 ∧ sN0 ≤ 8) (hb : b < bN) (hq : q < sN0) (ho : o = 0 ∨ o = 1) (sz : Nat) : zM l y_Mod_path (zT y_Mod_path b_Mod_path 4 (some .boolean)) (zR 1 21) 0 0 D K M [.ref m0, .int (nI b), .int (nI q), .int o] [cO m0 11 [.int (nI bN), .int (nI sN0), .int (nI pN), .long k0, .long k1, .int now, .ref x_wd, .ref x_beg, .ref x_std, .ref x_dea, .ref x_frm, .ref x_alv, .ref x_stm, .ref x_mov, .ref x_dwn, .ref x_ctd, .ref x_cutm, .ref x_pha, .ref x_usd, .ref x_gol, .ref x_esr, .ref x_epo, .ref x_offm, .ref x_ast, .ref x_opn, .ref x_ssr, .ref x_spo, .ref x_awa, .ref x_dat, .int kpt, .ref x_hd, .int by0, .int to0, .int rep, .int had, .int ost, .int bst, .ref x_inr], cZ K x_cutm 32 cutm] sz (zQi D K M (g_pth cutm (8 * b + q) o) [cO m0 11 [.int (nI bN), .int (nI sN0), .int (nI pN), .long k0, .long k1, .int now, .ref x_wd, .ref x_beg, .ref x_std, .ref x_dea, .ref x_frm, .ref x_alv, .ref x_stm, .ref x_mov, .ref x_dwn, .ref x_ctd, .ref x_cutm, .ref x_pha, .ref x_usd, .ref x_gol, .ref x_esr, .ref x_epo, .ref x_offm, .ref x_ast, .ref x_opn, .ref x_ssr, .ref x_spo, .ref x_awa, .ref x_dat, .int kpt, .ref x_hd, .int by0, .int to0, .int rep, .int had, .int ost, .int bst, .ref x_inr], cZ K x_cutm 32 (g_pcut cutm (8 * b + q) o)]) := by
  refine zx_head (by decide) (Nat.le_of_ble_eq_true rfl) ?_
  intro _ _ _ _ _ _ _ _ _ hF hr hlk hnm
  refine zx_aload_n (pc := 0) hF d_Mod_path_0 rfl 0 rfl ?_
  refine zx_iload_n (pc := 1) hF d_Mod_path_1 rfl 1 rfl ?_
  refine zx_Vi (pc := 2) hF (As := [.int (nI b)]) (rest := []) (fun sz => M_Mod_isBalancer l D K M m0 bN sN0 pN k0 k1 now x_wd x_beg x_std x_dea x_frm x_alv x_stm x_mov x_dwn x_ctd x_cutm x_pha x_usd x_gol x_esr x_epo x_offm x_ast x_opn x_ssr x_spo x_awa x_dat kpt x_hd by0 to0 rep had ost bst x_inr (nI b)  sz) [0] rfl (by decide) (as := [m0]) rfl rfl (ws' := [cO m0 11 [.int (nI bN), .int (nI sN0), .int (nI pN), .long k0, .long k1, .int now, .ref x_wd, .ref x_beg, .ref x_std, .ref x_dea, .ref x_frm, .ref x_alv, .ref x_stm, .ref x_mov, .ref x_dwn, .ref x_ctd, .ref x_cutm, .ref x_pha, .ref x_usd, .ref x_gol, .ref x_esr, .ref x_epo, .ref x_offm, .ref x_ast, .ref x_opn, .ref x_ssr, .ref x_spo, .ref x_awa, .ref x_dat, .int kpt, .ref x_hd, .int by0, .int to0, .int rep, .int had, .int ost, .int bst, .ref x_inr], cZ K x_cutm 32 cutm]) rfl 0 11 rfl rfl rfl (cw_Mod_186 hF.2.2.2.2.1 rfl rfl ⟨by decide, by decide⟩) rfl rfl (Nat.le_of_ble_eq_true rfl) d_Mod_path_2 ⟨Nat.zero_le _, Nat.zero_le _⟩ ?_
  refine zx_topi 1 (g_is_in hb (by omega)) ?_
  refine zx_if_eq (pc := 5) hF d_Mod_path_5 (tgt := 31) rfl (fun h5 => ?_) (fun h5 => ?_)
  · exact absurd h5 (by decide)
  · refine zx_aload_n (pc := 8) hF d_Mod_path_8 rfl 0 rfl ?_
    refine zx_iload_n (pc := 9) hF d_Mod_path_9 rfl 2 rfl ?_
    refine zx_Vi (pc := 10) hF (As := [.int (nI q)]) (rest := []) (fun sz => M_Mod_isServer l D K M m0 bN sN0 pN k0 k1 now x_wd x_beg x_std x_dea x_frm x_alv x_stm x_mov x_dwn x_ctd x_cutm x_pha x_usd x_gol x_esr x_epo x_offm x_ast x_opn x_ssr x_spo x_awa x_dat kpt x_hd by0 to0 rep had ost bst x_inr (nI q)  sz) [0] rfl (by decide) (as := [m0]) rfl rfl (ws' := [cO m0 11 [.int (nI bN), .int (nI sN0), .int (nI pN), .long k0, .long k1, .int now, .ref x_wd, .ref x_beg, .ref x_std, .ref x_dea, .ref x_frm, .ref x_alv, .ref x_stm, .ref x_mov, .ref x_dwn, .ref x_ctd, .ref x_cutm, .ref x_pha, .ref x_usd, .ref x_gol, .ref x_esr, .ref x_epo, .ref x_offm, .ref x_ast, .ref x_opn, .ref x_ssr, .ref x_spo, .ref x_awa, .ref x_dat, .int kpt, .ref x_hd, .int by0, .int to0, .int rep, .int had, .int ost, .int bst, .ref x_inr], cZ K x_cutm 32 cutm]) rfl 0 11 rfl rfl rfl (cw_Mod_192 hF.2.2.2.2.1 rfl rfl ⟨by decide, by decide⟩) rfl rfl (Nat.le_of_ble_eq_true rfl) d_Mod_path_10 ⟨Nat.zero_le _, Nat.zero_le _⟩ ?_
    refine zx_topi 1 (g_is_in hq (by omega)) ?_
    refine zx_if_eq (pc := 13) hF d_Mod_path_13 (tgt := 31) rfl (fun h13 => ?_) (fun h13 => ?_)
    · exact absurd h13 (by decide)
    · refine zx_aload_n (pc := 16) hF d_Mod_path_16 rfl 0 rfl ?_
      refine zg_Mod_42 (pc := 17) hF 0 rfl rfl d_Mod_path_17 ?_
      refine zx_bipush (pc := 20) hF d_Mod_path_20 k_b8 ?_
      refine zx_iload_n (pc := 22) hF d_Mod_path_22 rfl 1 rfl ?_
      refine zx_imul (pc := 23) hF d_Mod_path_23 ?_
      refine zx_topi (nI (8 * b)) (pk_mul 8 b) ?_
      refine zx_iload_n (pc := 24) hF d_Mod_path_24 rfl 2 rfl ?_
      refine zx_iadd (pc := 25) hF d_Mod_path_25 ?_
      refine zx_topi (nI ((8 * b) + q)) (nI_add (8 * b) q) ?_
      refine zx_zaldn (pc := 26) hF (i := (8 * b) + q) 1 rfl (by omega) (by omega) d_Mod_path_26 ?_
      refine zx_iload_n (pc := 27) hF d_Mod_path_27 rfl 3 rfl ?_
      refine zx_icmp_eq (pc := 28) hF d_Mod_path_28 (tgt := 33) rfl (fun h28 => ?_) (fun h28 => ?_)
      · refine zx_aload_n (pc := 33) hF d_Mod_path_33 rfl 0 rfl ?_
        refine zg_Mod_42 (pc := 34) hF 0 rfl rfl d_Mod_path_34 ?_
        refine zx_bipush (pc := 37) hF d_Mod_path_37 k_b8 ?_
        refine zx_iload_n (pc := 39) hF d_Mod_path_39 rfl 1 rfl ?_
        refine zx_imul (pc := 40) hF d_Mod_path_40 ?_
        refine zx_topi (nI (8 * b)) (pk_mul 8 b) ?_
        refine zx_iload_n (pc := 41) hF d_Mod_path_41 rfl 2 rfl ?_
        refine zx_iadd (pc := 42) hF d_Mod_path_42 ?_
        refine zx_topi (nI ((8 * b) + q)) (nI_add (8 * b) q) ?_
        refine zx_iload_n (pc := 43) hF d_Mod_path_43 rfl 3 rfl ?_
        refine zx_if_ne (pc := 44) hF d_Mod_path_44 (tgt := 51) rfl (fun h44 => ?_) (fun h44 => ?_)
        · refine zx_iconst (pc := 51) hF d_Mod_path_51 k_i0 ?_
          refine zx_zastn (pc := 52) hF (i := (8 * b) + q) 1 rfl (by omega) (by omega) rfl d_Mod_path_52 (ws' := [cO m0 11 [.int (nI bN), .int (nI sN0), .int (nI pN), .long k0, .long k1, .int now, .ref x_wd, .ref x_beg, .ref x_std, .ref x_dea, .ref x_frm, .ref x_alv, .ref x_stm, .ref x_mov, .ref x_dwn, .ref x_ctd, .ref x_cutm, .ref x_pha, .ref x_usd, .ref x_gol, .ref x_esr, .ref x_epo, .ref x_offm, .ref x_ast, .ref x_opn, .ref x_ssr, .ref x_spo, .ref x_awa, .ref x_dat, .int kpt, .ref x_hd, .int by0, .int to0, .int rep, .int had, .int ost, .int bst, .ref x_inr], cZ K x_cutm 32 (upd cutm ((8 * b) + q) 0)]) rfl ?_
          refine zx_iconst (pc := 53) hF d_Mod_path_53 k_i1 ?_
          exact zx_zret (pc := 54) hF hr hlk rfl (by first | with_reducible rfl | (simp only [g_pth, g_pcut, if_pos h28, if_neg h44]; done) | (simp only [g_pth, g_pcut, h28, h44, ↓reduceIte]; done) | simp [g_pth, g_pcut, h28, h44]) (by first | with_reducible rfl | (simp only [g_pth, g_pcut, if_pos h28, if_neg h44]; done) | (simp only [g_pth, g_pcut, h28, h44, ↓reduceIte]; done) | simp [g_pth, g_pcut, h28, h44]) d_Mod_path_54
        · refine zx_iconst (pc := 47) hF d_Mod_path_47 k_i1 ?_
          refine zx_goto (pc := 48) hF d_Mod_path_48 (tgt := 52) rfl ?_
          refine zx_zastn (pc := 52) hF (i := (8 * b) + q) 1 rfl (by omega) (by omega) rfl d_Mod_path_52 (ws' := [cO m0 11 [.int (nI bN), .int (nI sN0), .int (nI pN), .long k0, .long k1, .int now, .ref x_wd, .ref x_beg, .ref x_std, .ref x_dea, .ref x_frm, .ref x_alv, .ref x_stm, .ref x_mov, .ref x_dwn, .ref x_ctd, .ref x_cutm, .ref x_pha, .ref x_usd, .ref x_gol, .ref x_esr, .ref x_epo, .ref x_offm, .ref x_ast, .ref x_opn, .ref x_ssr, .ref x_spo, .ref x_awa, .ref x_dat, .int kpt, .ref x_hd, .int by0, .int to0, .int rep, .int had, .int ost, .int bst, .ref x_inr], cZ K x_cutm 32 (upd cutm ((8 * b) + q) 1)]) rfl ?_
          refine zx_iconst (pc := 53) hF d_Mod_path_53 k_i1 ?_
          exact zx_zret (pc := 54) hF hr hlk rfl (by first | with_reducible rfl | (simp only [g_pth, g_pcut, if_pos h28, if_pos h44]; done) | (simp only [g_pth, g_pcut, h28, h44, ↓reduceIte]; done) | simp [g_pth, g_pcut, h28, h44]) (by first | with_reducible rfl | (simp only [g_pth, g_pcut, if_pos h28, if_pos h44]; done) | (simp only [g_pth, g_pcut, h28, h44, ↓reduceIte]; done) | simp [g_pth, g_pcut, h28, h44]) d_Mod_path_54
      · refine zx_iconst (pc := 31) hF d_Mod_path_31 k_i0 ?_
        exact zx_zret (pc := 32) hF hr hlk rfl (by first | with_reducible rfl | (simp only [g_pth, g_pcut, if_neg h28]; done) | (simp only [g_pth, g_pcut, h28, ↓reduceIte]; done) | simp [g_pth, g_pcut, h28]) (by first | with_reducible rfl | (simp only [g_pth, g_pcut, if_neg h28]; done) | (simp only [g_pth, g_pcut, h28, ↓reduceIte]; done) | simp [g_pth, g_pcut, h28]) d_Mod_path_32
set_option maxRecDepth 20000 in
theorem M_Mod_path_b (l : Launch) (D : va_G) (K : Nat → ClassId) (M : List (ClassId × FieldType)) (m0 : Nat) (bN : Nat) (sN0 : Nat) (pN : Nat) (k0 : Int64) (k1 : Int64) (now : Int32) (x_wd : Nat) (x_beg : Nat) (x_std : Nat) (x_dea : Nat) (x_frm : Nat) (x_alv : Nat) (x_stm : Nat) (x_mov : Nat) (x_dwn : Nat) (x_ctd : Nat) (x_cutm : Nat) (x_pha : Nat) (x_usd : Nat) (x_gol : Nat) (x_esr : Nat) (x_epo : Nat) (x_offm : Nat) (x_ast : Nat) (x_opn : Nat) (x_ssr : Nat) (x_spo : Nat) (x_awa : Nat) (x_dat : Nat) (kpt : Int32) (x_hd : Nat) (by0 : Int32) (to0 : Int32) (rep : Int32) (had : Int32) (ost : Int32) (bst : Int32) (x_inr : Nat) (b : Int32) (q : Int32) (o : Int32) (hb : g_is b bN = 0) (sz : Nat) : zM l y_Mod_path (zT y_Mod_path b_Mod_path 4 (some .boolean)) (zR 1 21) 0 0 D K M [.ref m0, .int b, .int q, .int o] [cO m0 11 [.int (nI bN), .int (nI sN0), .int (nI pN), .long k0, .long k1, .int now, .ref x_wd, .ref x_beg, .ref x_std, .ref x_dea, .ref x_frm, .ref x_alv, .ref x_stm, .ref x_mov, .ref x_dwn, .ref x_ctd, .ref x_cutm, .ref x_pha, .ref x_usd, .ref x_gol, .ref x_esr, .ref x_epo, .ref x_offm, .ref x_ast, .ref x_opn, .ref x_ssr, .ref x_spo, .ref x_awa, .ref x_dat, .int kpt, .ref x_hd, .int by0, .int to0, .int rep, .int had, .int ost, .int bst, .ref x_inr]] sz (zQi D K M 0 [cO m0 11 [.int (nI bN), .int (nI sN0), .int (nI pN), .long k0, .long k1, .int now, .ref x_wd, .ref x_beg, .ref x_std, .ref x_dea, .ref x_frm, .ref x_alv, .ref x_stm, .ref x_mov, .ref x_dwn, .ref x_ctd, .ref x_cutm, .ref x_pha, .ref x_usd, .ref x_gol, .ref x_esr, .ref x_epo, .ref x_offm, .ref x_ast, .ref x_opn, .ref x_ssr, .ref x_spo, .ref x_awa, .ref x_dat, .int kpt, .ref x_hd, .int by0, .int to0, .int rep, .int had, .int ost, .int bst, .ref x_inr]]) := by
  refine zx_head (by decide) (Nat.le_of_ble_eq_true rfl) ?_
  intro _ _ _ _ _ _ _ _ _ hF hr hlk hnm
  refine zx_aload_n (pc := 0) hF d_Mod_path_0 rfl 0 rfl ?_
  refine zx_iload_n (pc := 1) hF d_Mod_path_1 rfl 1 rfl ?_
  refine zx_Vi (pc := 2) hF (As := [.int b]) (rest := []) (fun sz => M_Mod_isBalancer l D K M m0 bN sN0 pN k0 k1 now x_wd x_beg x_std x_dea x_frm x_alv x_stm x_mov x_dwn x_ctd x_cutm x_pha x_usd x_gol x_esr x_epo x_offm x_ast x_opn x_ssr x_spo x_awa x_dat kpt x_hd by0 to0 rep had ost bst x_inr b  sz) [0] rfl (by decide) (as := [m0]) rfl rfl (ws' := [cO m0 11 [.int (nI bN), .int (nI sN0), .int (nI pN), .long k0, .long k1, .int now, .ref x_wd, .ref x_beg, .ref x_std, .ref x_dea, .ref x_frm, .ref x_alv, .ref x_stm, .ref x_mov, .ref x_dwn, .ref x_ctd, .ref x_cutm, .ref x_pha, .ref x_usd, .ref x_gol, .ref x_esr, .ref x_epo, .ref x_offm, .ref x_ast, .ref x_opn, .ref x_ssr, .ref x_spo, .ref x_awa, .ref x_dat, .int kpt, .ref x_hd, .int by0, .int to0, .int rep, .int had, .int ost, .int bst, .ref x_inr]]) rfl 0 11 rfl rfl rfl (cw_Mod_186 hF.2.2.2.2.1 rfl rfl ⟨by decide, by decide⟩) rfl rfl (Nat.le_of_ble_eq_true rfl) d_Mod_path_2 ⟨Nat.zero_le _, Nat.zero_le _⟩ ?_
  refine zx_topi 0 (hb) ?_
  refine zx_if_eq (pc := 5) hF d_Mod_path_5 (tgt := 31) rfl (fun h5 => ?_) (fun h5 => ?_)
  · refine zx_iconst (pc := 31) hF d_Mod_path_31 k_i0 ?_
    exact zx_zret (pc := 32) hF hr hlk rfl (by first | rfl | (simp only []; done) | (simp only [↓reduceIte]; done) | simp []) (by first | rfl | (simp only []; done) | (simp only [↓reduceIte]; done) | simp []) d_Mod_path_32
  · exact absurd h5 (by decide)
set_option maxRecDepth 20000 in
theorem M_Mod_path_q (l : Launch) (D : va_G) (K : Nat → ClassId) (M : List (ClassId × FieldType)) (m0 : Nat) (bN : Nat) (sN0 : Nat) (pN : Nat) (k0 : Int64) (k1 : Int64) (now : Int32) (x_wd : Nat) (x_beg : Nat) (x_std : Nat) (x_dea : Nat) (x_frm : Nat) (x_alv : Nat) (x_stm : Nat) (x_mov : Nat) (x_dwn : Nat) (x_ctd : Nat) (x_cutm : Nat) (x_pha : Nat) (x_usd : Nat) (x_gol : Nat) (x_esr : Nat) (x_epo : Nat) (x_offm : Nat) (x_ast : Nat) (x_opn : Nat) (x_ssr : Nat) (x_spo : Nat) (x_awa : Nat) (x_dat : Nat) (kpt : Int32) (x_hd : Nat) (by0 : Int32) (to0 : Int32) (rep : Int32) (had : Int32) (ost : Int32) (bst : Int32) (x_inr : Nat) (b : Nat) (q : Int32) (o : Int32) (hB : bN ≤ 4) (hS : 0 < sN0 ∧ sN0 ≤ 8) (hb : b < bN) (hq : g_is q sN0 = 0) (sz : Nat) : zM l y_Mod_path (zT y_Mod_path b_Mod_path 4 (some .boolean)) (zR 1 21) 0 0 D K M [.ref m0, .int (nI b), .int q, .int o] [cO m0 11 [.int (nI bN), .int (nI sN0), .int (nI pN), .long k0, .long k1, .int now, .ref x_wd, .ref x_beg, .ref x_std, .ref x_dea, .ref x_frm, .ref x_alv, .ref x_stm, .ref x_mov, .ref x_dwn, .ref x_ctd, .ref x_cutm, .ref x_pha, .ref x_usd, .ref x_gol, .ref x_esr, .ref x_epo, .ref x_offm, .ref x_ast, .ref x_opn, .ref x_ssr, .ref x_spo, .ref x_awa, .ref x_dat, .int kpt, .ref x_hd, .int by0, .int to0, .int rep, .int had, .int ost, .int bst, .ref x_inr]] sz (zQi D K M 0 [cO m0 11 [.int (nI bN), .int (nI sN0), .int (nI pN), .long k0, .long k1, .int now, .ref x_wd, .ref x_beg, .ref x_std, .ref x_dea, .ref x_frm, .ref x_alv, .ref x_stm, .ref x_mov, .ref x_dwn, .ref x_ctd, .ref x_cutm, .ref x_pha, .ref x_usd, .ref x_gol, .ref x_esr, .ref x_epo, .ref x_offm, .ref x_ast, .ref x_opn, .ref x_ssr, .ref x_spo, .ref x_awa, .ref x_dat, .int kpt, .ref x_hd, .int by0, .int to0, .int rep, .int had, .int ost, .int bst, .ref x_inr]]) := by
  refine zx_head (by decide) (Nat.le_of_ble_eq_true rfl) ?_
  intro _ _ _ _ _ _ _ _ _ hF hr hlk hnm
  refine zx_aload_n (pc := 0) hF d_Mod_path_0 rfl 0 rfl ?_
  refine zx_iload_n (pc := 1) hF d_Mod_path_1 rfl 1 rfl ?_
  refine zx_Vi (pc := 2) hF (As := [.int (nI b)]) (rest := []) (fun sz => M_Mod_isBalancer l D K M m0 bN sN0 pN k0 k1 now x_wd x_beg x_std x_dea x_frm x_alv x_stm x_mov x_dwn x_ctd x_cutm x_pha x_usd x_gol x_esr x_epo x_offm x_ast x_opn x_ssr x_spo x_awa x_dat kpt x_hd by0 to0 rep had ost bst x_inr (nI b)  sz) [0] rfl (by decide) (as := [m0]) rfl rfl (ws' := [cO m0 11 [.int (nI bN), .int (nI sN0), .int (nI pN), .long k0, .long k1, .int now, .ref x_wd, .ref x_beg, .ref x_std, .ref x_dea, .ref x_frm, .ref x_alv, .ref x_stm, .ref x_mov, .ref x_dwn, .ref x_ctd, .ref x_cutm, .ref x_pha, .ref x_usd, .ref x_gol, .ref x_esr, .ref x_epo, .ref x_offm, .ref x_ast, .ref x_opn, .ref x_ssr, .ref x_spo, .ref x_awa, .ref x_dat, .int kpt, .ref x_hd, .int by0, .int to0, .int rep, .int had, .int ost, .int bst, .ref x_inr]]) rfl 0 11 rfl rfl rfl (cw_Mod_186 hF.2.2.2.2.1 rfl rfl ⟨by decide, by decide⟩) rfl rfl (Nat.le_of_ble_eq_true rfl) d_Mod_path_2 ⟨Nat.zero_le _, Nat.zero_le _⟩ ?_
  refine zx_topi 1 (g_is_in hb (by omega)) ?_
  refine zx_if_eq (pc := 5) hF d_Mod_path_5 (tgt := 31) rfl (fun h5 => ?_) (fun h5 => ?_)
  · exact absurd h5 (by decide)
  · refine zx_aload_n (pc := 8) hF d_Mod_path_8 rfl 0 rfl ?_
    refine zx_iload_n (pc := 9) hF d_Mod_path_9 rfl 2 rfl ?_
    refine zx_Vi (pc := 10) hF (As := [.int q]) (rest := []) (fun sz => M_Mod_isServer l D K M m0 bN sN0 pN k0 k1 now x_wd x_beg x_std x_dea x_frm x_alv x_stm x_mov x_dwn x_ctd x_cutm x_pha x_usd x_gol x_esr x_epo x_offm x_ast x_opn x_ssr x_spo x_awa x_dat kpt x_hd by0 to0 rep had ost bst x_inr q  sz) [0] rfl (by decide) (as := [m0]) rfl rfl (ws' := [cO m0 11 [.int (nI bN), .int (nI sN0), .int (nI pN), .long k0, .long k1, .int now, .ref x_wd, .ref x_beg, .ref x_std, .ref x_dea, .ref x_frm, .ref x_alv, .ref x_stm, .ref x_mov, .ref x_dwn, .ref x_ctd, .ref x_cutm, .ref x_pha, .ref x_usd, .ref x_gol, .ref x_esr, .ref x_epo, .ref x_offm, .ref x_ast, .ref x_opn, .ref x_ssr, .ref x_spo, .ref x_awa, .ref x_dat, .int kpt, .ref x_hd, .int by0, .int to0, .int rep, .int had, .int ost, .int bst, .ref x_inr]]) rfl 0 11 rfl rfl rfl (cw_Mod_192 hF.2.2.2.2.1 rfl rfl ⟨by decide, by decide⟩) rfl rfl (Nat.le_of_ble_eq_true rfl) d_Mod_path_10 ⟨Nat.zero_le _, Nat.zero_le _⟩ ?_
    refine zx_topi 0 (hq) ?_
    refine zx_if_eq (pc := 13) hF d_Mod_path_13 (tgt := 31) rfl (fun h13 => ?_) (fun h13 => ?_)
    · refine zx_iconst (pc := 31) hF d_Mod_path_31 k_i0 ?_
      exact zx_zret (pc := 32) hF hr hlk rfl (by first | rfl | (simp only []; done) | (simp only [↓reduceIte]; done) | simp []) (by first | rfl | (simp only []; done) | (simp only [↓reduceIte]; done) | simp []) d_Mod_path_32
    · exact absurd h13 (by decide)
set_option maxRecDepth 20000 in
theorem M_Mod_meets (l : Launch) (D : va_G) (K : Nat → ClassId) (M : List (ClassId × FieldType)) (m0 : Nat) (bN : Nat) (sN0 : Nat) (pN : Nat) (k0 : Int64) (k1 : Int64) (now : Int32) (x_wd : Nat) (x_beg : Nat) (x_std : Nat) (x_dea : Nat) (x_frm : Nat) (x_alv : Nat) (x_stm : Nat) (x_mov : Nat) (x_dwn : Nat) (x_ctd : Nat) (x_cutm : Nat) (x_pha : Nat) (x_usd : Nat) (x_gol : Nat) (x_esr : Nat) (x_epo : Nat) (x_offm : Nat) (x_ast : Nat) (x_opn : Nat) (x_ssr : Nat) (x_spo : Nat) (x_awa : Nat) (x_dat : Nat) (kpt : Int32) (x_hd : Nat) (by0 : Int32) (to0 : Int32) (rep : Int32) (had : Int32) (ost : Int32) (bst : Int32) (x_inr : Nat) (offm : Nat → Int32) (cutm : Nat → Int32) (b : Nat) (q : Nat) (hB : bN ≤ 4) (hS : 0 < sN0 ∧ sN0 ≤ 8) (hb : b < bN) (hq : q < sN0) (sz : Nat) : zM l y_Mod_meets (zT y_Mod_meets b_Mod_meets 3 (some .boolean)) (zR 0 0) 0 0 D K M [.ref m0, .int (nI b), .int (nI q)] [cO m0 11 [.int (nI bN), .int (nI sN0), .int (nI pN), .long k0, .long k1, .int now, .ref x_wd, .ref x_beg, .ref x_std, .ref x_dea, .ref x_frm, .ref x_alv, .ref x_stm, .ref x_mov, .ref x_dwn, .ref x_ctd, .ref x_cutm, .ref x_pha, .ref x_usd, .ref x_gol, .ref x_esr, .ref x_epo, .ref x_offm, .ref x_ast, .ref x_opn, .ref x_ssr, .ref x_spo, .ref x_awa, .ref x_dat, .int kpt, .ref x_hd, .int by0, .int to0, .int rep, .int had, .int ost, .int bst, .ref x_inr], cZ K x_offm 8 offm, cZ K x_cutm 32 cutm] sz (zQi D K M (g_meets offm cutm b q) [cO m0 11 [.int (nI bN), .int (nI sN0), .int (nI pN), .long k0, .long k1, .int now, .ref x_wd, .ref x_beg, .ref x_std, .ref x_dea, .ref x_frm, .ref x_alv, .ref x_stm, .ref x_mov, .ref x_dwn, .ref x_ctd, .ref x_cutm, .ref x_pha, .ref x_usd, .ref x_gol, .ref x_esr, .ref x_epo, .ref x_offm, .ref x_ast, .ref x_opn, .ref x_ssr, .ref x_spo, .ref x_awa, .ref x_dat, .int kpt, .ref x_hd, .int by0, .int to0, .int rep, .int had, .int ost, .int bst, .ref x_inr], cZ K x_offm 8 offm, cZ K x_cutm 32 cutm]) := by
  refine zx_head (by decide) (Nat.le_of_ble_eq_true rfl) ?_
  intro _ _ _ _ _ _ _ _ _ hF hr hlk hnm
  refine zx_aload_n (pc := 0) hF d_Mod_meets_0 rfl 0 rfl ?_
  refine zg_Mod_60 (pc := 1) hF 0 rfl rfl d_Mod_meets_1 ?_
  refine zx_iload_n (pc := 4) hF d_Mod_meets_4 rfl 2 rfl ?_
  refine zx_zaldn (pc := 5) hF (i := q) 1 rfl (by omega) (by omega) d_Mod_meets_5 ?_
  refine zx_if_ne (pc := 6) hF d_Mod_meets_6 (tgt := 27) rfl (fun h6 => ?_) (fun h6 => ?_)
  · refine zx_iconst (pc := 27) hF d_Mod_meets_27 k_i0 ?_
    exact zx_zret (pc := 28) hF hr hlk rfl (by first | with_reducible rfl | (simp only [g_meets, if_neg h6]; done) | (simp only [g_meets, h6, ↓reduceIte]; done) | simp [g_meets, h6]) (by first | with_reducible rfl | (simp only [g_meets, if_neg h6]; done) | (simp only [g_meets, h6, ↓reduceIte]; done) | simp [g_meets, h6]) d_Mod_meets_28
  · refine zx_aload_n (pc := 9) hF d_Mod_meets_9 rfl 0 rfl ?_
    refine zg_Mod_42 (pc := 10) hF 0 rfl rfl d_Mod_meets_10 ?_
    refine zx_bipush (pc := 13) hF d_Mod_meets_13 k_b8 ?_
    refine zx_iload_n (pc := 15) hF d_Mod_meets_15 rfl 1 rfl ?_
    refine zx_imul (pc := 16) hF d_Mod_meets_16 ?_
    refine zx_topi (nI (8 * b)) (pk_mul 8 b) ?_
    refine zx_iload_n (pc := 17) hF d_Mod_meets_17 rfl 2 rfl ?_
    refine zx_iadd (pc := 18) hF d_Mod_meets_18 ?_
    refine zx_topi (nI ((8 * b) + q)) (nI_add (8 * b) q) ?_
    refine zx_zaldn (pc := 19) hF (i := (8 * b) + q) 2 rfl (by omega) (by omega) d_Mod_meets_19 ?_
    refine zx_if_ne (pc := 20) hF d_Mod_meets_20 (tgt := 27) rfl (fun h20 => ?_) (fun h20 => ?_)
    · refine zx_iconst (pc := 27) hF d_Mod_meets_27 k_i0 ?_
      exact zx_zret (pc := 28) hF hr hlk rfl (by first | with_reducible rfl | (simp only [g_meets, if_pos h6, if_neg h20]; done) | (simp only [g_meets, h6, h20, ↓reduceIte]; done) | simp [g_meets, h6, h20]) (by first | with_reducible rfl | (simp only [g_meets, if_pos h6, if_neg h20]; done) | (simp only [g_meets, h6, h20, ↓reduceIte]; done) | simp [g_meets, h6, h20]) d_Mod_meets_28
    · refine zx_iconst (pc := 23) hF d_Mod_meets_23 k_i1 ?_
      refine zx_goto (pc := 24) hF d_Mod_meets_24 (tgt := 28) rfl ?_
      exact zx_zret (pc := 28) hF hr hlk rfl (by first | with_reducible rfl | (simp only [g_meets, if_pos h6, if_pos h20]; done) | (simp only [g_meets, h6, h20, ↓reduceIte]; done) | simp [g_meets, h6, h20]) (by first | with_reducible rfl | (simp only [g_meets, if_pos h6, if_pos h20]; done) | (simp only [g_meets, h6, h20, ↓reduceIte]; done) | simp [g_meets, h6, h20]) d_Mod_meets_28
end
section
set_option maxRecDepth 20000 in
theorem M_Mod_ask (l : Launch) (D : va_G) (K : Nat → ClassId) (M : List (ClassId × FieldType)) (m0 : Nat) (bN : Nat) (sN0 : Nat) (pN : Nat) (k0 : Int64) (k1 : Int64) (now : Int32) (x_wd : Nat) (x_beg : Nat) (x_std : Nat) (x_dea : Nat) (x_frm : Nat) (x_alv : Nat) (x_stm : Nat) (x_mov : Nat) (x_dwn : Nat) (x_ctd : Nat) (x_cutm : Nat) (x_pha : Nat) (x_usd : Nat) (x_gol : Nat) (x_esr : Nat) (x_epo : Nat) (x_offm : Nat) (x_ast : Nat) (x_opn : Nat) (x_ssr : Nat) (x_spo : Nat) (x_awa : Nat) (x_dat : Nat) (kpt : Int32) (x_hd : Nat) (by0 : Int32) (to0 : Int32) (rep : Int32) (had : Int32) (ost : Int32) (bst : Int32) (x_inr : Nat) (offm : Nat → Int32) (cutm : Nat → Int32) (dwn : Nat → Int32) (ctd : Nat → Int32) (b : Nat) (q : Nat) (hB : bN ≤ 4) (hS : 0 < sN0 ∧ sN0 ≤ 8) (hb : b < bN) (hq : q < sN0) (sz : Nat) : zM l y_Mod_ask (zT y_Mod_ask b_Mod_ask 5 (some .boolean)) (zR 1 22) 0 0 D K M [.ref m0, .int (nI b), .int (nI q)] [cO m0 11 [.int (nI bN), .int (nI sN0), .int (nI pN), .long k0, .long k1, .int now, .ref x_wd, .ref x_beg, .ref x_std, .ref x_dea, .ref x_frm, .ref x_alv, .ref x_stm, .ref x_mov, .ref x_dwn, .ref x_ctd, .ref x_cutm, .ref x_pha, .ref x_usd, .ref x_gol, .ref x_esr, .ref x_epo, .ref x_offm, .ref x_ast, .ref x_opn, .ref x_ssr, .ref x_spo, .ref x_awa, .ref x_dat, .int kpt, .ref x_hd, .int by0, .int to0, .int rep, .int had, .int ost, .int bst, .ref x_inr], cZ K x_offm 8 offm, cZ K x_cutm 32 cutm, cZ K x_dwn 32 dwn, cI K x_ctd 32 ctd] sz (zQi D K M (g_ar ctd dwn (8 * b + q) (g_meets offm cutm b q)) [cO m0 11 [.int (nI bN), .int (nI sN0), .int (nI pN), .long k0, .long k1, .int now, .ref x_wd, .ref x_beg, .ref x_std, .ref x_dea, .ref x_frm, .ref x_alv, .ref x_stm, .ref x_mov, .ref x_dwn, .ref x_ctd, .ref x_cutm, .ref x_pha, .ref x_usd, .ref x_gol, .ref x_esr, .ref x_epo, .ref x_offm, .ref x_ast, .ref x_opn, .ref x_ssr, .ref x_spo, .ref x_awa, .ref x_dat, .int kpt, .ref x_hd, .int by0, .int to0, .int rep, .int had, .int ost, .int bst, .ref x_inr], cZ K x_offm 8 offm, cZ K x_cutm 32 cutm, cZ K x_dwn 32 (g_ad ctd dwn (8 * b + q) (g_meets offm cutm b q)), cI K x_ctd 32 (g_at ctd dwn (8 * b + q) (g_meets offm cutm b q))]) := by
  refine zx_head (by decide) (Nat.le_of_ble_eq_true rfl) ?_
  intro _ _ _ _ _ _ _ _ _ hF hr hlk hnm
  refine zx_bipush (pc := 0) hF d_Mod_ask_0 k_b8 ?_
  refine zx_iload_n (pc := 2) hF d_Mod_ask_2 rfl 1 rfl ?_
  refine zx_imul (pc := 3) hF d_Mod_ask_3 ?_
  refine zx_topi (nI (8 * b)) (pk_mul 8 b) ?_
  refine zx_iload_n (pc := 4) hF d_Mod_ask_4 rfl 2 rfl ?_
  refine zx_iadd (pc := 5) hF d_Mod_ask_5 ?_
  refine zx_topi (nI ((8 * b) + q)) (nI_add (8 * b) q) ?_
  refine zx_istore_n (pc := 6) hF (lv' := [(3, .int (nI ((8 * b) + q))), (0, .ref m0), (1, .int (nI b)), (2, .int (nI q))]) d_Mod_ask_6 rfl (by decide) rfl ?_
  refine zx_aload_n (pc := 7) hF d_Mod_ask_7 rfl 1 rfl ?_
  refine zx_iload_n (pc := 8) hF d_Mod_ask_8 rfl 2 rfl ?_
  refine zx_iload_n (pc := 9) hF d_Mod_ask_9 rfl 3 rfl ?_
  refine zx_Vi (pc := 10) hF (As := [.int (nI b), .int (nI q)]) (rest := []) (fun sz => M_Mod_meets l D K M m0 bN sN0 pN k0 k1 now x_wd x_beg x_std x_dea x_frm x_alv x_stm x_mov x_dwn x_ctd x_cutm x_pha x_usd x_gol x_esr x_epo x_offm x_ast x_opn x_ssr x_spo x_awa x_dat kpt x_hd by0 to0 rep had ost bst x_inr offm cutm b q (by first | assumption | omega) (by first | assumption | omega) (by first | assumption | omega) (by first | assumption | omega) sz) [0, 1, 2] rfl (by decide) (as := [m0, x_offm, x_cutm]) rfl rfl (ws' := [cO m0 11 [.int (nI bN), .int (nI sN0), .int (nI pN), .long k0, .long k1, .int now, .ref x_wd, .ref x_beg, .ref x_std, .ref x_dea, .ref x_frm, .ref x_alv, .ref x_stm, .ref x_mov, .ref x_dwn, .ref x_ctd, .ref x_cutm, .ref x_pha, .ref x_usd, .ref x_gol, .ref x_esr, .ref x_epo, .ref x_offm, .ref x_ast, .ref x_opn, .ref x_ssr, .ref x_spo, .ref x_awa, .ref x_dat, .int kpt, .ref x_hd, .int by0, .int to0, .int rep, .int had, .int ost, .int bst, .ref x_inr], cZ K x_offm 8 offm, cZ K x_cutm 32 cutm, cZ K x_dwn 32 dwn, cI K x_ctd 32 ctd]) rfl 0 11 rfl rfl rfl (cw_Mod_195 hF.2.2.2.2.1 rfl rfl ⟨by decide, by decide⟩) rfl rfl (Nat.le_of_ble_eq_true rfl) d_Mod_ask_10 ⟨Nat.zero_le _, Nat.zero_le _⟩ ?_
  refine zx_istore (pc := 13) hF (lv' := [(4, .int (g_meets offm cutm b q)), (3, .int (nI ((8 * b) + q))), (0, .ref m0), (1, .int (nI b)), (2, .int (nI q))]) d_Mod_ask_13 (by decide) rfl ?_
  refine zx_aload_n (pc := 15) hF d_Mod_ask_15 rfl 2 rfl ?_
  refine zg_Mod_39 (pc := 16) hF 0 rfl rfl d_Mod_ask_16 ?_
  refine zx_iload_n (pc := 19) hF d_Mod_ask_19 rfl 1 rfl ?_
  refine zx_iload (pc := 20) hF d_Mod_ask_20 0 rfl ?_
  refine zx_aload_n (pc := 22) hF d_Mod_ask_22 rfl 2 rfl ?_
  refine zg_Mod_36 (pc := 23) hF 0 rfl rfl d_Mod_ask_23 ?_
  refine zx_iload_n (pc := 26) hF d_Mod_ask_26 rfl 1 rfl ?_
  refine zx_zaldn (pc := 27) hF (i := (8 * b) + q) 3 rfl (by omega) (by omega) d_Mod_ask_27 ?_
  refine zx_icmp_ne (pc := 28) hF d_Mod_ask_28 (tgt := 42) rfl (fun h28 => ?_) (fun h28 => ?_)
  · refine zx_iconst (pc := 42) hF d_Mod_ask_42 k_i0 ?_
    refine zx_iastn (pc := 43) hF (i := (8 * b) + q) 4 rfl (by omega) (by omega) d_Mod_ask_43 (ws' := [cO m0 11 [.int (nI bN), .int (nI sN0), .int (nI pN), .long k0, .long k1, .int now, .ref x_wd, .ref x_beg, .ref x_std, .ref x_dea, .ref x_frm, .ref x_alv, .ref x_stm, .ref x_mov, .ref x_dwn, .ref x_ctd, .ref x_cutm, .ref x_pha, .ref x_usd, .ref x_gol, .ref x_esr, .ref x_epo, .ref x_offm, .ref x_ast, .ref x_opn, .ref x_ssr, .ref x_spo, .ref x_awa, .ref x_dat, .int kpt, .ref x_hd, .int by0, .int to0, .int rep, .int had, .int ost, .int bst, .ref x_inr], cZ K x_offm 8 offm, cZ K x_cutm 32 cutm, cZ K x_dwn 32 dwn, cI K x_ctd 32 (upd ctd ((8 * b) + q) 0)]) rfl ?_
    refine zx_aload_n (pc := 44) hF d_Mod_ask_44 rfl 2 rfl ?_
    refine zg_Mod_39 (pc := 45) hF 0 rfl rfl d_Mod_ask_45 ?_
    refine zx_iload_n (pc := 48) hF d_Mod_ask_48 rfl 1 rfl ?_
    refine zx_ialdn (pc := 49) hF (i := (8 * b) + q) 4 rfl (by omega) (by omega) d_Mod_ask_49 ?_
    refine zx_topi 0 (pk_us) ?_
    refine zx_iconst (pc := 50) hF d_Mod_ask_50 k_i3 ?_
    refine zx_icmp_ge (pc := 51) hF d_Mod_ask_51 (tgt := 56) rfl (fun h51 => ?_) (fun h51 => ?_)
    · exact absurd h51 (by decide)
    · refine zx_iconst (pc := 54) hF d_Mod_ask_54 k_i0 ?_
      exact zx_zret (pc := 55) hF hr hlk rfl (by first | with_reducible rfl | (simp only [g_ar, g_at, g_ad, g_ac, pk_us, if_neg h28]; done) | (simp only [g_ar, g_at, g_ad, g_ac, pk_us, h28, ↓reduceIte]; done) | simp [g_ar, g_at, g_ad, g_ac, pk_us, h28]) (by first | with_reducible rfl | (simp only [g_ar, g_at, g_ad, g_ac, pk_us, if_neg h28]; done) | (simp only [g_ar, g_at, g_ad, g_ac, pk_us, h28, ↓reduceIte]; done) | simp [g_ar, g_at, g_ad, g_ac, pk_us, h28]) d_Mod_ask_55
  · refine zx_aload_n (pc := 31) hF d_Mod_ask_31 rfl 2 rfl ?_
    refine zg_Mod_39 (pc := 32) hF 0 rfl rfl d_Mod_ask_32 ?_
    refine zx_iload_n (pc := 35) hF d_Mod_ask_35 rfl 1 rfl ?_
    refine zx_ialdn (pc := 36) hF (i := (8 * b) + q) 4 rfl (by omega) (by omega) d_Mod_ask_36 ?_
    refine zx_iconst (pc := 37) hF d_Mod_ask_37 k_i1 ?_
    refine zx_iadd (pc := 38) hF d_Mod_ask_38 ?_
    refine zx_goto (pc := 39) hF d_Mod_ask_39 (tgt := 43) rfl ?_
    refine zx_iastn (pc := 43) hF (i := (8 * b) + q) 4 rfl (by omega) (by omega) d_Mod_ask_43 (ws' := [cO m0 11 [.int (nI bN), .int (nI sN0), .int (nI pN), .long k0, .long k1, .int now, .ref x_wd, .ref x_beg, .ref x_std, .ref x_dea, .ref x_frm, .ref x_alv, .ref x_stm, .ref x_mov, .ref x_dwn, .ref x_ctd, .ref x_cutm, .ref x_pha, .ref x_usd, .ref x_gol, .ref x_esr, .ref x_epo, .ref x_offm, .ref x_ast, .ref x_opn, .ref x_ssr, .ref x_spo, .ref x_awa, .ref x_dat, .int kpt, .ref x_hd, .int by0, .int to0, .int rep, .int had, .int ost, .int bst, .ref x_inr], cZ K x_offm 8 offm, cZ K x_cutm 32 cutm, cZ K x_dwn 32 dwn, cI K x_ctd 32 (upd ctd ((8 * b) + q) ((ctd ((8 * b) + q)) + 1))]) rfl ?_
    refine zx_aload_n (pc := 44) hF d_Mod_ask_44 rfl 2 rfl ?_
    refine zg_Mod_39 (pc := 45) hF 0 rfl rfl d_Mod_ask_45 ?_
    refine zx_iload_n (pc := 48) hF d_Mod_ask_48 rfl 1 rfl ?_
    refine zx_ialdn (pc := 49) hF (i := (8 * b) + q) 4 rfl (by omega) (by omega) d_Mod_ask_49 ?_
    refine zx_topi ((ctd ((8 * b) + q)) + 1) (pk_us) ?_
    refine zx_iconst (pc := 50) hF d_Mod_ask_50 k_i3 ?_
    refine zx_icmp_ge (pc := 51) hF d_Mod_ask_51 (tgt := 56) rfl (fun h51 => ?_) (fun h51 => ?_)
    · refine zx_aload_n (pc := 56) hF d_Mod_ask_56 rfl 2 rfl ?_
      refine zg_Mod_39 (pc := 57) hF 0 rfl rfl d_Mod_ask_57 ?_
      refine zx_iload_n (pc := 60) hF d_Mod_ask_60 rfl 1 rfl ?_
      refine zx_iconst (pc := 61) hF d_Mod_ask_61 k_i0 ?_
      refine zx_iastn (pc := 62) hF (i := (8 * b) + q) 4 rfl (by omega) (by omega) d_Mod_ask_62 (ws' := [cO m0 11 [.int (nI bN), .int (nI sN0), .int (nI pN), .long k0, .long k1, .int now, .ref x_wd, .ref x_beg, .ref x_std, .ref x_dea, .ref x_frm, .ref x_alv, .ref x_stm, .ref x_mov, .ref x_dwn, .ref x_ctd, .ref x_cutm, .ref x_pha, .ref x_usd, .ref x_gol, .ref x_esr, .ref x_epo, .ref x_offm, .ref x_ast, .ref x_opn, .ref x_ssr, .ref x_spo, .ref x_awa, .ref x_dat, .int kpt, .ref x_hd, .int by0, .int to0, .int rep, .int had, .int ost, .int bst, .ref x_inr], cZ K x_offm 8 offm, cZ K x_cutm 32 cutm, cZ K x_dwn 32 dwn, cI K x_ctd 32 (upd (upd ctd ((8 * b) + q) ((ctd ((8 * b) + q)) + 1)) ((8 * b) + q) 0)]) rfl ?_
      refine zx_aload_n (pc := 63) hF d_Mod_ask_63 rfl 2 rfl ?_
      refine zg_Mod_36 (pc := 64) hF 0 rfl rfl d_Mod_ask_64 ?_
      refine zx_iload_n (pc := 67) hF d_Mod_ask_67 rfl 1 rfl ?_
      refine zx_aload_n (pc := 68) hF d_Mod_ask_68 rfl 2 rfl ?_
      refine zg_Mod_36 (pc := 69) hF 0 rfl rfl d_Mod_ask_69 ?_
      refine zx_iload_n (pc := 72) hF d_Mod_ask_72 rfl 1 rfl ?_
      refine zx_zaldn (pc := 73) hF (i := (8 * b) + q) 3 rfl (by omega) (by omega) d_Mod_ask_73 ?_
      refine zx_if_ne (pc := 74) hF d_Mod_ask_74 (tgt := 81) rfl (fun h74 => ?_) (fun h74 => ?_)
      · refine zx_iconst (pc := 81) hF d_Mod_ask_81 k_i0 ?_
        refine zx_zastn (pc := 82) hF (i := (8 * b) + q) 3 rfl (by omega) (by omega) rfl d_Mod_ask_82 (ws' := [cO m0 11 [.int (nI bN), .int (nI sN0), .int (nI pN), .long k0, .long k1, .int now, .ref x_wd, .ref x_beg, .ref x_std, .ref x_dea, .ref x_frm, .ref x_alv, .ref x_stm, .ref x_mov, .ref x_dwn, .ref x_ctd, .ref x_cutm, .ref x_pha, .ref x_usd, .ref x_gol, .ref x_esr, .ref x_epo, .ref x_offm, .ref x_ast, .ref x_opn, .ref x_ssr, .ref x_spo, .ref x_awa, .ref x_dat, .int kpt, .ref x_hd, .int by0, .int to0, .int rep, .int had, .int ost, .int bst, .ref x_inr], cZ K x_offm 8 offm, cZ K x_cutm 32 cutm, cZ K x_dwn 32 (upd dwn ((8 * b) + q) 0), cI K x_ctd 32 (upd (upd ctd ((8 * b) + q) ((ctd ((8 * b) + q)) + 1)) ((8 * b) + q) 0)]) rfl ?_
        refine zx_iconst (pc := 83) hF d_Mod_ask_83 k_i1 ?_
        exact zx_zret (pc := 84) hF hr hlk rfl (by first | with_reducible rfl | (simp only [g_ar, g_at, g_ad, g_ac, pk_us, if_pos h28, if_pos h51, if_neg h74]; done) | (simp only [g_ar, g_at, g_ad, g_ac, pk_us, h28, h51, h74, ↓reduceIte]; done) | simp [g_ar, g_at, g_ad, g_ac, pk_us, h28, h51, h74]) (by first | with_reducible rfl | (simp only [g_ar, g_at, g_ad, g_ac, pk_us, if_pos h28, if_pos h51, if_neg h74]; done) | (simp only [g_ar, g_at, g_ad, g_ac, pk_us, h28, h51, h74, ↓reduceIte]; done) | simp [g_ar, g_at, g_ad, g_ac, pk_us, h28, h51, h74]) d_Mod_ask_84
      · refine zx_iconst (pc := 77) hF d_Mod_ask_77 k_i1 ?_
        refine zx_goto (pc := 78) hF d_Mod_ask_78 (tgt := 82) rfl ?_
        refine zx_zastn (pc := 82) hF (i := (8 * b) + q) 3 rfl (by omega) (by omega) rfl d_Mod_ask_82 (ws' := [cO m0 11 [.int (nI bN), .int (nI sN0), .int (nI pN), .long k0, .long k1, .int now, .ref x_wd, .ref x_beg, .ref x_std, .ref x_dea, .ref x_frm, .ref x_alv, .ref x_stm, .ref x_mov, .ref x_dwn, .ref x_ctd, .ref x_cutm, .ref x_pha, .ref x_usd, .ref x_gol, .ref x_esr, .ref x_epo, .ref x_offm, .ref x_ast, .ref x_opn, .ref x_ssr, .ref x_spo, .ref x_awa, .ref x_dat, .int kpt, .ref x_hd, .int by0, .int to0, .int rep, .int had, .int ost, .int bst, .ref x_inr], cZ K x_offm 8 offm, cZ K x_cutm 32 cutm, cZ K x_dwn 32 (upd dwn ((8 * b) + q) 1), cI K x_ctd 32 (upd (upd ctd ((8 * b) + q) ((ctd ((8 * b) + q)) + 1)) ((8 * b) + q) 0)]) rfl ?_
        refine zx_iconst (pc := 83) hF d_Mod_ask_83 k_i1 ?_
        exact zx_zret (pc := 84) hF hr hlk rfl (by first | with_reducible rfl | (simp only [g_ar, g_at, g_ad, g_ac, pk_us, if_pos h28, if_pos h51, if_pos h74]; done) | (simp only [g_ar, g_at, g_ad, g_ac, pk_us, h28, h51, h74, ↓reduceIte]; done) | simp [g_ar, g_at, g_ad, g_ac, pk_us, h28, h51, h74]) (by first | with_reducible rfl | (simp only [g_ar, g_at, g_ad, g_ac, pk_us, if_pos h28, if_pos h51, if_pos h74]; done) | (simp only [g_ar, g_at, g_ad, g_ac, pk_us, h28, h51, h74, ↓reduceIte]; done) | simp [g_ar, g_at, g_ad, g_ac, pk_us, h28, h51, h74]) d_Mod_ask_84
    · refine zx_iconst (pc := 54) hF d_Mod_ask_54 k_i0 ?_
      exact zx_zret (pc := 55) hF hr hlk rfl (by first | with_reducible rfl | (simp only [g_ar, g_at, g_ad, g_ac, pk_us, if_pos h28, if_neg h51]; done) | (simp only [g_ar, g_at, g_ad, g_ac, pk_us, h28, h51, ↓reduceIte]; done) | simp [g_ar, g_at, g_ad, g_ac, pk_us, h28, h51]) (by first | with_reducible rfl | (simp only [g_ar, g_at, g_ad, g_ac, pk_us, if_pos h28, if_neg h51]; done) | (simp only [g_ar, g_at, g_ad, g_ac, pk_us, h28, h51, ↓reduceIte]; done) | simp [g_ar, g_at, g_ad, g_ac, pk_us, h28, h51]) d_Mod_ask_55
end
