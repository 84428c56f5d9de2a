section
/-- a private method of a class that the tables say can be made, by its rows of tables_1 -/
def lw_okq (q : MethodName × Nat) : Prop := (q.1.cls ≠ "java/lang/invoke/MethodHandle" ∧ q.1.cls ≠ "java/lang/invoke/VarHandle") ∧ Cond.instantiable q.1.cls q.2 ∈ tables_1 ∧ Cond.privateMethod q.1 ∈ tables_1 ∧ Cond.instanceMethod q.1 ∈ tables_1
theorem lw_p0 : lw_okq (⟨"VisibleHeap", "valueIn", "(I)LVisibleHeap$Value;"⟩, 10) := ⟨⟨by decide +kernel, by decide +kernel⟩, List.mem_of_getElem? (i := 15) (by decide +kernel), List.mem_of_getElem? (i := 117) (by decide +kernel), List.mem_of_getElem? (i := 118) (by decide +kernel)⟩
theorem lw_p1 : lw_okq (⟨"VisibleHeap", "findRoom", "(I)Z"⟩, 10) := ⟨⟨by decide +kernel, by decide +kernel⟩, List.mem_of_getElem? (i := 15) (by decide +kernel), List.mem_of_getElem? (i := 268) (by decide +kernel), List.mem_of_getElem? (i := 269) (by decide +kernel)⟩
theorem lw_p2 : lw_okq (⟨"VisibleHeap", "collectDead", "()V"⟩, 10) := ⟨⟨by decide +kernel, by decide +kernel⟩, List.mem_of_getElem? (i := 15) (by decide +kernel), List.mem_of_getElem? (i := 272) (by decide +kernel), List.mem_of_getElem? (i := 273) (by decide +kernel)⟩
theorem lw_p3 : lw_okq (⟨"VisibleHeap", "reckonLive", "()V"⟩, 10) := ⟨⟨by decide +kernel, by decide +kernel⟩, List.mem_of_getElem? (i := 15) (by decide +kernel), List.mem_of_getElem? (i := 276) (by decide +kernel), List.mem_of_getElem? (i := 277) (by decide +kernel)⟩
theorem lw_p4 : lw_okq (⟨"VisibleHeap", "reachRoots", "()V"⟩, 10) := ⟨⟨by decide +kernel, by decide +kernel⟩, List.mem_of_getElem? (i := 15) (by decide +kernel), List.mem_of_getElem? (i := 280) (by decide +kernel), List.mem_of_getElem? (i := 281) (by decide +kernel)⟩
theorem lw_p5 : lw_okq (⟨"VisibleHeap", "keepLiveOnly", "()V"⟩, 10) := ⟨⟨by decide +kernel, by decide +kernel⟩, List.mem_of_getElem? (i := 15) (by decide +kernel), List.mem_of_getElem? (i := 353) (by decide +kernel), List.mem_of_getElem? (i := 354) (by decide +kernel)⟩
theorem lw_p6 : lw_okq (⟨"VisibleHeap", "keep", "(LVisibleHeap$Thing;)V"⟩, 10) := ⟨⟨by decide +kernel, by decide +kernel⟩, List.mem_of_getElem? (i := 15) (by decide +kernel), List.mem_of_getElem? (i := 357) (by decide +kernel), List.mem_of_getElem? (i := 358) (by decide +kernel)⟩
theorem lw_p7 : lw_okq (⟨"VisibleHeap", "addEntry", "(LVisibleHeap$Table;LVisibleHeap$Tie;)V"⟩, 10) := ⟨⟨by decide +kernel, by decide +kernel⟩, List.mem_of_getElem? (i := 15) (by decide +kernel), List.mem_of_getElem? (i := 430) (by decide +kernel), List.mem_of_getElem? (i := 431) (by decide +kernel)⟩
theorem lw_p8 : lw_okq (⟨"VisibleHeap", "numberOf", "(LVisibleHeap$Value;)I"⟩, 10) := ⟨⟨by decide +kernel, by decide +kernel⟩, List.mem_of_getElem? (i := 15) (by decide +kernel), List.mem_of_getElem? (i := 459) (by decide +kernel), List.mem_of_getElem? (i := 460) (by decide +kernel)⟩
theorem lw_p9 : lw_okq (⟨"VisibleHeap", "identityOf", "(LVisibleHeap$Thing;)I"⟩, 10) := ⟨⟨by decide +kernel, by decide +kernel⟩, List.mem_of_getElem? (i := 15) (by decide +kernel), List.mem_of_getElem? (i := 463) (by decide +kernel), List.mem_of_getElem? (i := 464) (by decide +kernel)⟩
theorem lw_p10 : lw_okq (⟨"VisibleHeapModel", "room", "(I)Z"⟩, 23) := ⟨⟨by decide +kernel, by decide +kernel⟩, List.mem_of_getElem? (i := 490) (by decide +kernel), List.mem_of_getElem? (i := 589) (by decide +kernel), List.mem_of_getElem? (i := 590) (by decide +kernel)⟩
theorem lw_p11 : lw_okq (⟨"VisibleHeapModel", "gather", "()V"⟩, 23) := ⟨⟨by decide +kernel, by decide +kernel⟩, List.mem_of_getElem? (i := 490) (by decide +kernel), List.mem_of_getElem? (i := 593) (by decide +kernel), List.mem_of_getElem? (i := 594) (by decide +kernel)⟩
theorem lw_p12 : lw_okq (⟨"VisibleHeapModel", "reckon", "()V"⟩, 23) := ⟨⟨by decide +kernel, by decide +kernel⟩, List.mem_of_getElem? (i := 490) (by decide +kernel), List.mem_of_getElem? (i := 597) (by decide +kernel), List.mem_of_getElem? (i := 598) (by decide +kernel)⟩
theorem lw_p13 : lw_okq (⟨"VisibleHeapModel", "mark", "(J)V"⟩, 23) := ⟨⟨by decide +kernel, by decide +kernel⟩, List.mem_of_getElem? (i := 490) (by decide +kernel), List.mem_of_getElem? (i := 601) (by decide +kernel), List.mem_of_getElem? (i := 602) (by decide +kernel)⟩
theorem lw_p14 : lw_okq (⟨"VisibleHeapModel", "isLive", "(J)Z"⟩, 23) := ⟨⟨by decide +kernel, by decide +kernel⟩, List.mem_of_getElem? (i := 490) (by decide +kernel), List.mem_of_getElem? (i := 605) (by decide +kernel), List.mem_of_getElem? (i := 606) (by decide +kernel)⟩
theorem lw_p15 : lw_okq (⟨"VisibleHeapModel", "follow", "()V"⟩, 23) := ⟨⟨by decide +kernel, by decide +kernel⟩, List.mem_of_getElem? (i := 490) (by decide +kernel), List.mem_of_getElem? (i := 613) (by decide +kernel), List.mem_of_getElem? (i := 614) (by decide +kernel)⟩
def lw_privs_1 : List (MethodName × Nat) := [(⟨"VisibleHeap", "valueIn", "(I)LVisibleHeap$Value;"⟩, 10), (⟨"VisibleHeap", "findRoom", "(I)Z"⟩, 10), (⟨"VisibleHeap", "collectDead", "()V"⟩, 10), (⟨"VisibleHeap", "reckonLive", "()V"⟩, 10), (⟨"VisibleHeap", "reachRoots", "()V"⟩, 10), (⟨"VisibleHeap", "keepLiveOnly", "()V"⟩, 10), (⟨"VisibleHeap", "keep", "(LVisibleHeap$Thing;)V"⟩, 10), (⟨"VisibleHeap", "addEntry", "(LVisibleHeap$Table;LVisibleHeap$Tie;)V"⟩, 10), (⟨"VisibleHeap", "numberOf", "(LVisibleHeap$Value;)I"⟩, 10), (⟨"VisibleHeap", "identityOf", "(LVisibleHeap$Thing;)I"⟩, 10), (⟨"VisibleHeapModel", "room", "(I)Z"⟩, 23), (⟨"VisibleHeapModel", "gather", "()V"⟩, 23), (⟨"VisibleHeapModel", "reckon", "()V"⟩, 23), (⟨"VisibleHeapModel", "mark", "(J)V"⟩, 23), (⟨"VisibleHeapModel", "isLive", "(J)Z"⟩, 23), (⟨"VisibleHeapModel", "follow", "()V"⟩, 23)]
theorem lw_r1 : ∀ q ∈ lw_privs_1, lw_okq q := List.forall_mem_cons.mpr ⟨lw_p0, List.forall_mem_cons.mpr ⟨lw_p1, List.forall_mem_cons.mpr ⟨lw_p2, List.forall_mem_cons.mpr ⟨lw_p3, List.forall_mem_cons.mpr ⟨lw_p4, List.forall_mem_cons.mpr ⟨lw_p5, List.forall_mem_cons.mpr ⟨lw_p6, List.forall_mem_cons.mpr ⟨lw_p7, List.forall_mem_cons.mpr ⟨lw_p8, List.forall_mem_cons.mpr ⟨lw_p9, List.forall_mem_cons.mpr ⟨lw_p10, List.forall_mem_cons.mpr ⟨lw_p11, List.forall_mem_cons.mpr ⟨lw_p12, List.forall_mem_cons.mpr ⟨lw_p13, List.forall_mem_cons.mpr ⟨lw_p14, List.forall_mem_cons.mpr ⟨lw_p15, fun _ h => absurd h List.not_mem_nil⟩⟩⟩⟩⟩⟩⟩⟩⟩⟩⟩⟩⟩⟩⟩⟩
theorem lw_p16 : lw_okq (⟨"VisibleHeapModel", "round", "()Z"⟩, 23) := ⟨⟨by decide +kernel, by decide +kernel⟩, List.mem_of_getElem? (i := 490) (by decide +kernel), List.mem_of_getElem? (i := 617) (by decide +kernel), List.mem_of_getElem? (i := 618) (by decide +kernel)⟩
theorem lw_p17 : lw_okq (⟨"VisibleHeapModel", "field", "(JI)J"⟩, 23) := ⟨⟨by decide +kernel, by decide +kernel⟩, List.mem_of_getElem? (i := 490) (by decide +kernel), List.mem_of_getElem? (i := 622) (by decide +kernel), List.mem_of_getElem? (i := 623) (by decide +kernel)⟩
theorem lw_p18 : lw_okq (⟨"VisibleHeapModel", "cellAt", "(JI)I"⟩, 23) := ⟨⟨by decide +kernel, by decide +kernel⟩, List.mem_of_getElem? (i := 490) (by decide +kernel), List.mem_of_getElem? (i := 626) (by decide +kernel), List.mem_of_getElem? (i := 627) (by decide +kernel)⟩
theorem lw_p19 : lw_okq (⟨"VisibleHeapModel", "entries", "(J)Z"⟩, 23) := ⟨⟨by decide +kernel, by decide +kernel⟩, List.mem_of_getElem? (i := 490) (by decide +kernel), List.mem_of_getElem? (i := 630) (by decide +kernel), List.mem_of_getElem? (i := 631) (by decide +kernel)⟩
theorem lw_p20 : lw_okq (⟨"VisibleHeapModel", "setField", "(JIJ)V"⟩, 23) := ⟨⟨by decide +kernel, by decide +kernel⟩, List.mem_of_getElem? (i := 490) (by decide +kernel), List.mem_of_getElem? (i := 635) (by decide +kernel), List.mem_of_getElem? (i := 636) (by decide +kernel)⟩
theorem lw_p21 : lw_okq (⟨"VisibleHeapModel", "thin", "(J)V"⟩, 23) := ⟨⟨by decide +kernel, by decide +kernel⟩, List.mem_of_getElem? (i := 490) (by decide +kernel), List.mem_of_getElem? (i := 639) (by decide +kernel), List.mem_of_getElem? (i := 640) (by decide +kernel)⟩
theorem lw_p22 : lw_okq (⟨"VisibleHeapModel", "drop", "(I)V"⟩, 23) := ⟨⟨by decide +kernel, by decide +kernel⟩, List.mem_of_getElem? (i := 490) (by decide +kernel), List.mem_of_getElem? (i := 643) (by decide +kernel), List.mem_of_getElem? (i := 644) (by decide +kernel)⟩
theorem lw_p23 : lw_okq (⟨"VisibleHeapModel", "add", "(IIJ)J"⟩, 23) := ⟨⟨by decide +kernel, by decide +kernel⟩, List.mem_of_getElem? (i := 490) (by decide +kernel), List.mem_of_getElem? (i := 647) (by decide +kernel), List.mem_of_getElem? (i := 648) (by decide +kernel)⟩
theorem lw_p24 : lw_okq (⟨"VisibleHeapModel", "shown", "(J)I"⟩, 23) := ⟨⟨by decide +kernel, by decide +kernel⟩, List.mem_of_getElem? (i := 490) (by decide +kernel), List.mem_of_getElem? (i := 655) (by decide +kernel), List.mem_of_getElem? (i := 656) (by decide +kernel)⟩
theorem lw_p25 : lw_okq (⟨"VisibleHeapModel", "is", "(JI)Z"⟩, 23) := ⟨⟨by decide +kernel, by decide +kernel⟩, List.mem_of_getElem? (i := 490) (by decide +kernel), List.mem_of_getElem? (i := 663) (by decide +kernel), List.mem_of_getElem? (i := 664) (by decide +kernel)⟩
theorem lw_p26 : lw_okq (⟨"VisibleHeapModel", "entryOf", "(JJ)J"⟩, 23) := ⟨⟨by decide +kernel, by decide +kernel⟩, List.mem_of_getElem? (i := 490) (by decide +kernel), List.mem_of_getElem? (i := 671) (by decide +kernel), List.mem_of_getElem? (i := 672) (by decide +kernel)⟩
theorem lw_p27 : lw_okq (⟨"VisibleHeapModel", "entryCount", "(J)I"⟩, 23) := ⟨⟨by decide +kernel, by decide +kernel⟩, List.mem_of_getElem? (i := 490) (by decide +kernel), List.mem_of_getElem? (i := 695) (by decide +kernel), List.mem_of_getElem? (i := 696) (by decide +kernel)⟩
def lw_privs_2 : List (MethodName × Nat) := [(⟨"VisibleHeapModel", "round", "()Z"⟩, 23), (⟨"VisibleHeapModel", "field", "(JI)J"⟩, 23), (⟨"VisibleHeapModel", "cellAt", "(JI)I"⟩, 23), (⟨"VisibleHeapModel", "entries", "(J)Z"⟩, 23), (⟨"VisibleHeapModel", "setField", "(JIJ)V"⟩, 23), (⟨"VisibleHeapModel", "thin", "(J)V"⟩, 23), (⟨"VisibleHeapModel", "drop", "(I)V"⟩, 23), (⟨"VisibleHeapModel", "add", "(IIJ)J"⟩, 23), (⟨"VisibleHeapModel", "shown", "(J)I"⟩, 23), (⟨"VisibleHeapModel", "is", "(JI)Z"⟩, 23), (⟨"VisibleHeapModel", "entryOf", "(JJ)J"⟩, 23), (⟨"VisibleHeapModel", "entryCount", "(J)I"⟩, 23)]
theorem lw_r2 : ∀ q ∈ lw_privs_2, lw_okq q := List.forall_mem_cons.mpr ⟨lw_p16, List.forall_mem_cons.mpr ⟨lw_p17, List.forall_mem_cons.mpr ⟨lw_p18, List.forall_mem_cons.mpr ⟨lw_p19, List.forall_mem_cons.mpr ⟨lw_p20, List.forall_mem_cons.mpr ⟨lw_p21, List.forall_mem_cons.mpr ⟨lw_p22, List.forall_mem_cons.mpr ⟨lw_p23, List.forall_mem_cons.mpr ⟨lw_p24, List.forall_mem_cons.mpr ⟨lw_p25, List.forall_mem_cons.mpr ⟨lw_p26, List.forall_mem_cons.mpr ⟨lw_p27, fun _ h => absurd h List.not_mem_nil⟩⟩⟩⟩⟩⟩⟩⟩⟩⟩⟩⟩
def lw_privs : List (MethodName × Nat) := lw_privs_1 ++ (lw_privs_2)
def lw_tbl : List Cond := k2_sels lw_privs ++ tables_1
theorem lw_privs_ok : ∀ q ∈ lw_privs, lw_okq q := by
  show ∀ q ∈ lw_privs_1 ++ (lw_privs_2), lw_okq q
  exact List.forall_mem_append.mpr ⟨lw_r1, lw_r2⟩

def T_M : u_T := fun k => match k with
  | 0 => ("VisibleHeapModel", "cells", "I", true)
  | 1 => ("VisibleHeapModel", "registers", "[J", true)
  | 2 => ("VisibleHeapModel", "used", "I", false)
  | 3 => ("VisibleHeapModel", "objects", "I", false)
  | 4 => ("VisibleHeapModel", "kinds", "[I", true)
  | 5 => ("VisibleHeapModel", "many", "[I", true)
  | 6 => ("VisibleHeapModel", "first", "[I", true)
  | 7 => ("VisibleHeapModel", "number", "[I", true)
  | 8 => ("VisibleHeapModel", "there", "[Z", true)
  | 9 => ("VisibleHeapModel", "live", "[Z", true)
  | 10 => ("VisibleHeapModel", "marks", "[I", true)
  | 11 => ("VisibleHeapModel", "marked", "I", false)
  | 12 => ("VisibleHeapModel", "fields", "[J", true)
  | 13 => ("VisibleHeapModel", "behind", "[I", true)
  | 14 => ("VisibleHeapModel", "free", "I", false)
  | 15 => ("VisibleHeapModel", "registered", "I", false)
  | 16 => ("VisibleHeapModel", "regObject", "[J", true)
  | 17 => ("VisibleHeapModel", "regValue", "[J", true)
  | 18 => ("VisibleHeapModel", "queued", "I", false)
  | 19 => ("VisibleHeapModel", "queueObject", "[J", true)
  | 20 => ("VisibleHeapModel", "queueValue", "[J", true)
  | 21 => ("VisibleHeapModel", "collections", "I", false)
  | _ => ("VisibleHeapModel", "numbers", "I", false)
def ty_M : Nat → FieldType := fun k => match k with
  | 0 => .int
  | 1 => .array .long
  | 2 => .int
  | 3 => .int
  | 4 => .array .int
  | 5 => .array .int
  | 6 => .array .int
  | 7 => .array .int
  | 8 => .array .boolean
  | 9 => .array .boolean
  | 10 => .array .int
  | 11 => .int
  | 12 => .array .long
  | 13 => .array .int
  | 14 => .int
  | 15 => .int
  | 16 => .array .long
  | 17 => .array .long
  | 18 => .int
  | 19 => .array .long
  | 20 => .array .long
  | 21 => .int
  | _ => .int
def T_H : u_T := fun k => match k with
  | 0 => ("VisibleHeap", "cells", "I", true)
  | 1 => ("VisibleHeap", "registers", "[LVisibleHeap$Value;", true)
  | 2 => ("VisibleHeap", "registrations", "LVisibleHeap$TieList;", true)
  | 3 => ("VisibleHeap", "queue", "LVisibleHeap$TieList;", true)
  | 4 => ("VisibleHeap", "reckoning", "LVisibleHeap$Reckoning;", true)
  | 5 => ("VisibleHeap", "newest", "LVisibleHeap$Thing;", false)
  | 6 => ("VisibleHeap", "cellsInUse", "I", false)
  | 7 => ("VisibleHeap", "objects", "I", false)
  | 8 => ("VisibleHeap", "collections", "I", false)
  | _ => ("VisibleHeap", "identities", "I", false)
def ty_H : Nat → FieldType := fun k => match k with
  | 0 => .int
  | 1 => .array (.object "VisibleHeap$Value")
  | 2 => .object "VisibleHeap$TieList"
  | 3 => .object "VisibleHeap$TieList"
  | 4 => .object "VisibleHeap$Reckoning"
  | 5 => .object "VisibleHeap$Thing"
  | 6 => .int
  | 7 => .int
  | 8 => .int
  | _ => .int
def T_Num : u_T := fun k => match k with
  | 0 => ("VisibleHeap$Num", "amount", "I", true)
  | _ => ("VisibleHeap$Value", "kind", "I", true)
def ty_Num : Nat → FieldType := fun k => match k with
  | 0 => .int
  | _ => .int
def T_Row : u_T := fun k => match k with
  | 0 => ("VisibleHeap$Row", "values", "[LVisibleHeap$Value;", true)
  | 1 => ("VisibleHeap$Thing", "identity", "I", false)
  | 2 => ("VisibleHeap$Thing", "live", "Z", false)
  | 3 => ("VisibleHeap$Thing", "older", "LVisibleHeap$Thing;", false)
  | 4 => ("VisibleHeap$Thing", "reachedBefore", "LVisibleHeap$Thing;", false)
  | 5 => ("VisibleHeap$Thing", "waiting", "LVisibleHeap$Tie;", false)
  | _ => ("VisibleHeap$Value", "kind", "I", true)
def ty_Row : Nat → FieldType := fun k => match k with
  | 0 => .array (.object "VisibleHeap$Value")
  | 1 => .int
  | 2 => .boolean
  | 3 => .object "VisibleHeap$Thing"
  | 4 => .object "VisibleHeap$Thing"
  | 5 => .object "VisibleHeap$Tie"
  | _ => .int
def T_Weak : u_T := fun k => match k with
  | 0 => ("VisibleHeap$Weak", "value", "LVisibleHeap$Value;", false)
  | 1 => ("VisibleHeap$Thing", "identity", "I", false)
  | 2 => ("VisibleHeap$Thing", "live", "Z", false)
  | 3 => ("VisibleHeap$Thing", "older", "LVisibleHeap$Thing;", false)
  | 4 => ("VisibleHeap$Thing", "reachedBefore", "LVisibleHeap$Thing;", false)
  | 5 => ("VisibleHeap$Thing", "waiting", "LVisibleHeap$Tie;", false)
  | _ => ("VisibleHeap$Value", "kind", "I", true)
def ty_Weak : Nat → FieldType := fun k => match k with
  | 0 => .object "VisibleHeap$Value"
  | 1 => .int
  | 2 => .boolean
  | 3 => .object "VisibleHeap$Thing"
  | 4 => .object "VisibleHeap$Thing"
  | 5 => .object "VisibleHeap$Tie"
  | _ => .int
def T_Eph : u_T := fun k => match k with
  | 0 => ("VisibleHeap$Ephemeron", "tie", "LVisibleHeap$Tie;", true)
  | 1 => ("VisibleHeap$Thing", "identity", "I", false)
  | 2 => ("VisibleHeap$Thing", "live", "Z", false)
  | 3 => ("VisibleHeap$Thing", "older", "LVisibleHeap$Thing;", false)
  | 4 => ("VisibleHeap$Thing", "reachedBefore", "LVisibleHeap$Thing;", false)
  | 5 => ("VisibleHeap$Thing", "waiting", "LVisibleHeap$Tie;", false)
  | _ => ("VisibleHeap$Value", "kind", "I", true)
def ty_Eph : Nat → FieldType := fun k => match k with
  | 0 => .object "VisibleHeap$Tie"
  | 1 => .int
  | 2 => .boolean
  | 3 => .object "VisibleHeap$Thing"
  | 4 => .object "VisibleHeap$Thing"
  | 5 => .object "VisibleHeap$Tie"
  | _ => .int
def T_Tab : u_T := fun k => match k with
  | 0 => ("VisibleHeap$Table", "entries", "LVisibleHeap$TieList;", true)
  | 1 => ("VisibleHeap$Thing", "identity", "I", false)
  | 2 => ("VisibleHeap$Thing", "live", "Z", false)
  | 3 => ("VisibleHeap$Thing", "older", "LVisibleHeap$Thing;", false)
  | 4 => ("VisibleHeap$Thing", "reachedBefore", "LVisibleHeap$Thing;", false)
  | 5 => ("VisibleHeap$Thing", "waiting", "LVisibleHeap$Tie;", false)
  | _ => ("VisibleHeap$Value", "kind", "I", true)
def ty_Tab : Nat → FieldType := fun k => match k with
  | 0 => .object "VisibleHeap$TieList"
  | 1 => .int
  | 2 => .boolean
  | 3 => .object "VisibleHeap$Thing"
  | 4 => .object "VisibleHeap$Thing"
  | 5 => .object "VisibleHeap$Tie"
  | _ => .int
def T_Tie : u_T := fun k => match k with
  | 0 => ("VisibleHeap$Tie", "key", "LVisibleHeap$Value;", false)
  | 1 => ("VisibleHeap$Tie", "value", "LVisibleHeap$Value;", false)
  | 2 => ("VisibleHeap$Tie", "after", "LVisibleHeap$Tie;", false)
  | _ => ("VisibleHeap$Tie", "waitingAfter", "LVisibleHeap$Tie;", false)
def ty_Tie : Nat → FieldType := fun k => match k with
  | 0 => .object "VisibleHeap$Value"
  | 1 => .object "VisibleHeap$Value"
  | 2 => .object "VisibleHeap$Tie"
  | _ => .object "VisibleHeap$Tie"
def T_TL : u_T := fun k => match k with
  | 0 => ("VisibleHeap$TieList", "first", "LVisibleHeap$Tie;", false)
  | 1 => ("VisibleHeap$TieList", "last", "LVisibleHeap$Tie;", false)
  | _ => ("VisibleHeap$TieList", "size", "I", false)
def ty_TL : Nat → FieldType := fun k => match k with
  | 0 => .object "VisibleHeap$Tie"
  | 1 => .object "VisibleHeap$Tie"
  | _ => .int
def T_Rk : u_T := fun k => match k with
  | _ => ("VisibleHeap$Reckoning", "lastReached", "LVisibleHeap$Thing;", false)
def ty_Rk : Nat → FieldType := fun k => match k with
  | _ => .object "VisibleHeap$Thing"
abbrev vwCl : List vw_C := [("VisibleHeapModel", T_M, 23), ("VisibleHeap", T_H, 10), ("VisibleHeap$Num", T_Num, 2), ("VisibleHeap$Row", T_Row, 7), ("VisibleHeap$Weak", T_Weak, 7), ("VisibleHeap$Ephemeron", T_Eph, 7), ("VisibleHeap$Table", T_Tab, 7), ("VisibleHeap$Tie", T_Tie, 4), ("VisibleHeap$TieList", T_TL, 3), ("VisibleHeap$Reckoning", T_Rk, 1)]
def fg (c k : Nat) : Nat := match c, k with
  | 0, 0 => 100
  | 0, 1 => 101
  | 0, 2 => 102
  | 0, 3 => 103
  | 0, 4 => 104
  | 0, 5 => 105
  | 0, 6 => 106
  | 0, 7 => 107
  | 0, 8 => 108
  | 0, 9 => 109
  | 0, 10 => 110
  | 0, 11 => 111
  | 0, 12 => 112
  | 0, 13 => 113
  | 0, 14 => 114
  | 0, 15 => 115
  | 0, 16 => 116
  | 0, 17 => 117
  | 0, 18 => 118
  | 0, 19 => 119
  | 0, 20 => 120
  | 0, 21 => 121
  | 0, 22 => 122
  | 1, 0 => 0
  | 1, 1 => 1
  | 1, 2 => 2
  | 1, 3 => 3
  | 1, 4 => 4
  | 1, 5 => 5
  | 1, 6 => 6
  | 1, 7 => 7
  | 1, 8 => 8
  | 1, 9 => 9
  | 2, 0 => 11
  | 2, 1 => 10
  | 3, 0 => 17
  | 3, 1 => 12
  | 3, 2 => 13
  | 3, 3 => 14
  | 3, 4 => 15
  | 3, 5 => 16
  | 3, 6 => 10
  | 4, 0 => 18
  | 4, 1 => 12
  | 4, 2 => 13
  | 4, 3 => 14
  | 4, 4 => 15
  | 4, 5 => 16
  | 4, 6 => 10
  | 5, 0 => 19
  | 5, 1 => 12
  | 5, 2 => 13
  | 5, 3 => 14
  | 5, 4 => 15
  | 5, 5 => 16
  | 5, 6 => 10
  | 6, 0 => 20
  | 6, 1 => 12
  | 6, 2 => 13
  | 6, 3 => 14
  | 6, 4 => 15
  | 6, 5 => 16
  | 6, 6 => 10
  | 7, 0 => 21
  | 7, 1 => 22
  | 7, 2 => 23
  | 7, 3 => 24
  | 8, 0 => 25
  | 8, 1 => 26
  | 8, 2 => 27
  | 9, 0 => 28
  | _, _ => 0
def fr (c k : Nat) : Bool := match c, k with
  | 0, 1 => true
  | 0, 4 => true
  | 0, 5 => true
  | 0, 6 => true
  | 0, 7 => true
  | 0, 8 => true
  | 0, 9 => true
  | 0, 10 => true
  | 0, 12 => true
  | 0, 13 => true
  | 0, 16 => true
  | 0, 17 => true
  | 0, 19 => true
  | 0, 20 => true
  | 1, 1 => true
  | 1, 2 => true
  | 1, 3 => true
  | 1, 4 => true
  | 1, 5 => true
  | 3, 0 => true
  | 3, 3 => true
  | 3, 4 => true
  | 3, 5 => true
  | 4, 0 => true
  | 4, 3 => true
  | 4, 4 => true
  | 4, 5 => true
  | 5, 0 => true
  | 5, 3 => true
  | 5, 4 => true
  | 5, 5 => true
  | 6, 0 => true
  | 6, 3 => true
  | 6, 4 => true
  | 6, 5 => true
  | 7, 0 => true
  | 7, 1 => true
  | 7, 2 => true
  | 7, 3 => true
  | 8, 0 => true
  | 8, 1 => true
  | 9, 0 => true
  | _, _ => false
/-- array types: 0 Value[], 1 int[], 2 boolean[], 3 long[] -/
def tyA (t : Nat) : Option FieldType := match t with
  | 0 => some (.object "VisibleHeap$Value")
  | 1 => some .int
  | 2 => some .boolean
  | 3 => some .long
  | _ => none
/-- 0 ints, 1 references, 2 longs -/
def ar (t : Nat) : Nat := match t with
  | 0 => 1
  | 3 => 2
  | _ => 0
def mAll : List Cond := lw_tbl.filter goodWord
theorem mA {w : Cond} (h : w ∈ tables_1) (g : goodWord w = true) : w ∈ mAll := List.mem_filter.mpr ⟨List.mem_append_right _ h, g⟩
theorem mAs {w : Cond} (h : w ∈ lw_tbl) (g : goodWord w = true) : w ∈ mAll := List.mem_filter.mpr ⟨h, g⟩
def mCast : List (String × String) := [("VisibleHeap$Ephemeron", "VisibleHeap$Thing"), ("VisibleHeap$Row", "VisibleHeap$Thing"), ("VisibleHeap$Table", "VisibleHeap$Thing"), ("VisibleHeap$Weak", "VisibleHeap$Thing"), ("VisibleHeap$Row", "VisibleHeap$Row"), ("VisibleHeap$Table", "VisibleHeap$Table"), ("VisibleHeap$Num", "VisibleHeap$Num"), ("VisibleHeap$Ephemeron", "VisibleHeap$Value"), ("VisibleHeap$Num", "VisibleHeap$Value"), ("VisibleHeap$Row", "VisibleHeap$Value"), ("VisibleHeap$Table", "VisibleHeap$Value"), ("VisibleHeap$Weak", "VisibleHeap$Value")]
def mNoCast : List (String × String) := [("VisibleHeap", "VisibleHeap$Thing"), ("VisibleHeap$TieList", "VisibleHeap$Thing"), ("VisibleHeap$Reckoning", "VisibleHeap$Thing"), ("VisibleHeapModel", "VisibleHeap$Thing"), ("VisibleHeap$Num", "VisibleHeap$Thing"), ("VisibleHeap$Tie", "VisibleHeap$Thing"), ("VisibleHeap", "VisibleHeap$Row"), ("VisibleHeap$TieList", "VisibleHeap$Row"), ("VisibleHeap$Reckoning", "VisibleHeap$Row"), ("VisibleHeapModel", "VisibleHeap$Row"), ("VisibleHeap$Num", "VisibleHeap$Row"), ("VisibleHeap$Weak", "VisibleHeap$Row"), ("VisibleHeap$Ephemeron", "VisibleHeap$Row"), ("VisibleHeap$Tie", "VisibleHeap$Row"), ("VisibleHeap$Table", "VisibleHeap$Row"), ("VisibleHeap", "VisibleHeap$Table"), ("VisibleHeap$TieList", "VisibleHeap$Table"), ("VisibleHeap$Reckoning", "VisibleHeap$Table"), ("VisibleHeapModel", "VisibleHeap$Table"), ("VisibleHeap$Num", "VisibleHeap$Table"), ("VisibleHeap$Row", "VisibleHeap$Table"), ("VisibleHeap$Weak", "VisibleHeap$Table"), ("VisibleHeap$Ephemeron", "VisibleHeap$Table"), ("VisibleHeap$Tie", "VisibleHeap$Table"), ("VisibleHeap", "VisibleHeap$Num"), ("VisibleHeap$TieList", "VisibleHeap$Num"), ("VisibleHeap$Reckoning", "VisibleHeap$Num"), ("VisibleHeapModel", "VisibleHeap$Num"), ("VisibleHeap$Row", "VisibleHeap$Num"), ("VisibleHeap$Weak", "VisibleHeap$Num"), ("VisibleHeap$Ephemeron", "VisibleHeap$Num"), ("VisibleHeap$Tie", "VisibleHeap$Num"), ("VisibleHeap$Table", "VisibleHeap$Num")]
def mDecl : List MethodName := [⟨"VisibleHeap$Thing", "cells", "()I"⟩, ⟨"VisibleHeap$Thing", "reachHeld", "(LVisibleHeap$Reckoning;)V"⟩, ⟨"VisibleHeap$Thing", "letGoOfDead", "()V"⟩, ⟨"VisibleHeap$Thing", "isLive", "(LVisibleHeap$Value;)Z"⟩, ⟨"VisibleHeap$Value", "size", "()I"⟩, ⟨"VisibleHeap$Thing", "valueAt", "(I)LVisibleHeap$Value;"⟩, ⟨"VisibleHeap$Thing", "hasValue", "(I)Z"⟩]
def mNestM : List (String × Nat × MethodName × String) := [("VisibleHeap", 17, ⟨"VisibleHeap$TieList", "<init>", "()V"⟩, "VisibleHeap"), ("VisibleHeap", 27, ⟨"VisibleHeap$Reckoning", "<init>", "()V"⟩, "VisibleHeap"), ("VisibleHeap$Table", 11, ⟨"VisibleHeap$TieList", "<init>", "()V"⟩, "VisibleHeap"), ("VisibleHeap$TieList", 29, ⟨"VisibleHeap", "areSame", "(LVisibleHeap$Value;LVisibleHeap$Value;)Z"⟩, "VisibleHeap")]
def mOver : List String := ["VisibleHeap$Value"]
abbrev c_Eph_init : ByteArray := prog_2_method_1_code
abbrev y_Eph_init : MethodName := ⟨"VisibleHeap$Ephemeron", "<init>", "(LVisibleHeap$Value;LVisibleHeap$Value;)V"⟩
abbrev c_Eph_size : ByteArray := prog_2_method_2_code
abbrev y_Eph_size : MethodName := ⟨"VisibleHeap$Ephemeron", "size", "()I"⟩
abbrev c_Eph_cells : ByteArray := prog_2_method_3_code
abbrev y_Eph_cells : MethodName := ⟨"VisibleHeap$Ephemeron", "cells", "()I"⟩
abbrev c_Eph_valueAt : ByteArray := prog_2_method_4_code
abbrev y_Eph_valueAt : MethodName := ⟨"VisibleHeap$Ephemeron", "valueAt", "(I)LVisibleHeap$Value;"⟩
abbrev c_Eph_reachHeld : ByteArray := prog_2_method_5_code
abbrev y_Eph_reachHeld : MethodName := ⟨"VisibleHeap$Ephemeron", "reachHeld", "(LVisibleHeap$Reckoning;)V"⟩
abbrev c_Eph_letGoOfDead : ByteArray := prog_2_method_6_code
abbrev y_Eph_letGoOfDead : MethodName := ⟨"VisibleHeap$Ephemeron", "letGoOfDead", "()V"⟩
abbrev c_Num_init : ByteArray := prog_3_method_1_code
abbrev y_Num_init : MethodName := ⟨"VisibleHeap$Num", "<init>", "(I)V"⟩
abbrev c_Num_size : ByteArray := prog_3_method_2_code
abbrev y_Num_size : MethodName := ⟨"VisibleHeap$Num", "size", "()I"⟩
abbrev c_Rk_init : ByteArray := prog_4_method_1_code
abbrev y_Rk_init : MethodName := ⟨"VisibleHeap$Reckoning", "<init>", "()V"⟩
abbrev c_Rk_reach : ByteArray := prog_4_method_2_code
abbrev y_Rk_reach : MethodName := ⟨"VisibleHeap$Reckoning", "reach", "(LVisibleHeap$Value;)V"⟩
abbrev c_Rk_reachByKey : ByteArray := prog_4_method_3_code
abbrev y_Rk_reachByKey : MethodName := ⟨"VisibleHeap$Reckoning", "reachByKey", "(LVisibleHeap$Tie;)V"⟩
abbrev c_Rk_reachWaiting : ByteArray := prog_4_method_4_code
abbrev y_Rk_reachWaiting : MethodName := ⟨"VisibleHeap$Reckoning", "reachWaiting", "(LVisibleHeap$Thing;)V"⟩
abbrev c_Rk_takeReached : ByteArray := prog_4_method_5_code
abbrev y_Rk_takeReached : MethodName := ⟨"VisibleHeap$Reckoning", "takeReached", "()LVisibleHeap$Thing;"⟩
abbrev c_Row_init : ByteArray := prog_5_method_1_code
abbrev y_Row_init : MethodName := ⟨"VisibleHeap$Row", "<init>", "(II)V"⟩
abbrev c_Row_size : ByteArray := prog_5_method_2_code
abbrev y_Row_size : MethodName := ⟨"VisibleHeap$Row", "size", "()I"⟩
abbrev c_Row_cells : ByteArray := prog_5_method_3_code
abbrev y_Row_cells : MethodName := ⟨"VisibleHeap$Row", "cells", "()I"⟩
abbrev c_Row_valueAt : ByteArray := prog_5_method_4_code
abbrev y_Row_valueAt : MethodName := ⟨"VisibleHeap$Row", "valueAt", "(I)LVisibleHeap$Value;"⟩
abbrev c_Row_reachHeld : ByteArray := prog_5_method_5_code
abbrev y_Row_reachHeld : MethodName := ⟨"VisibleHeap$Row", "reachHeld", "(LVisibleHeap$Reckoning;)V"⟩
abbrev c_Row_letGoOfDead : ByteArray := prog_5_method_6_code
abbrev y_Row_letGoOfDead : MethodName := ⟨"VisibleHeap$Row", "letGoOfDead", "()V"⟩
abbrev c_Tab_init : ByteArray := prog_6_method_1_code
abbrev y_Tab_init : MethodName := ⟨"VisibleHeap$Table", "<init>", "()V"⟩
abbrev c_Tab_size : ByteArray := prog_6_method_2_code
abbrev y_Tab_size : MethodName := ⟨"VisibleHeap$Table", "size", "()I"⟩
abbrev c_Tab_cells : ByteArray := prog_6_method_3_code
abbrev y_Tab_cells : MethodName := ⟨"VisibleHeap$Table", "cells", "()I"⟩
abbrev c_Tab_objects : ByteArray := prog_6_method_4_code
abbrev y_Tab_objects : MethodName := ⟨"VisibleHeap$Table", "objects", "()I"⟩
abbrev c_Tab_hasValue : ByteArray := prog_6_method_5_code
abbrev y_Tab_hasValue : MethodName := ⟨"VisibleHeap$Table", "hasValue", "(I)Z"⟩
abbrev c_Tab_valueAt : ByteArray := prog_6_method_6_code
abbrev y_Tab_valueAt : MethodName := ⟨"VisibleHeap$Table", "valueAt", "(I)LVisibleHeap$Value;"⟩
abbrev c_Tab_reachHeld : ByteArray := prog_6_method_7_code
abbrev y_Tab_reachHeld : MethodName := ⟨"VisibleHeap$Table", "reachHeld", "(LVisibleHeap$Reckoning;)V"⟩
abbrev c_Tab_letGoOfDead : ByteArray := prog_6_method_8_code
abbrev y_Tab_letGoOfDead : MethodName := ⟨"VisibleHeap$Table", "letGoOfDead", "()V"⟩
abbrev c_Th_init : ByteArray := prog_7_method_1_code
abbrev y_Th_init : MethodName := ⟨"VisibleHeap$Thing", "<init>", "(I)V"⟩
abbrev c_Th_objects : ByteArray := prog_7_method_6_code
abbrev y_Th_objects : MethodName := ⟨"VisibleHeap$Thing", "objects", "()I"⟩
abbrev c_Th_hasValue : ByteArray := prog_7_method_7_code
abbrev y_Th_hasValue : MethodName := ⟨"VisibleHeap$Thing", "hasValue", "(I)Z"⟩
abbrev c_Th_isLive : ByteArray := prog_7_method_8_code
abbrev y_Th_isLive : MethodName := ⟨"VisibleHeap$Thing", "isLive", "(LVisibleHeap$Value;)Z"⟩
abbrev c_Tie_init : ByteArray := prog_8_method_1_code
abbrev y_Tie_init : MethodName := ⟨"VisibleHeap$Tie", "<init>", "(LVisibleHeap$Value;LVisibleHeap$Value;)V"⟩
abbrev c_TL_init : ByteArray := prog_9_method_1_code
abbrev y_TL_init : MethodName := ⟨"VisibleHeap$TieList", "<init>", "()V"⟩
abbrev c_TL_append : ByteArray := prog_9_method_2_code
abbrev y_TL_append : MethodName := ⟨"VisibleHeap$TieList", "append", "(LVisibleHeap$Tie;)V"⟩
abbrev c_TL_takeFirst : ByteArray := prog_9_method_3_code
abbrev y_TL_takeFirst : MethodName := ⟨"VisibleHeap$TieList", "takeFirst", "()LVisibleHeap$Tie;"⟩
abbrev c_TL_withKey : ByteArray := prog_9_method_4_code
abbrev y_TL_withKey : MethodName := ⟨"VisibleHeap$TieList", "withKey", "(LVisibleHeap$Value;)LVisibleHeap$Tie;"⟩
abbrev c_TL_moveDeadTo : ByteArray := prog_9_method_5_code
abbrev y_TL_moveDeadTo : MethodName := ⟨"VisibleHeap$TieList", "moveDeadTo", "(LVisibleHeap$TieList;)V"⟩
abbrev c_Va_init : ByteArray := prog_10_method_1_code
abbrev y_Va_init : MethodName := ⟨"VisibleHeap$Value", "<init>", "(I)V"⟩
abbrev c_Weak_init : ByteArray := prog_11_method_1_code
abbrev y_Weak_init : MethodName := ⟨"VisibleHeap$Weak", "<init>", "(LVisibleHeap$Value;)V"⟩
abbrev c_Weak_size : ByteArray := prog_11_method_2_code
abbrev y_Weak_size : MethodName := ⟨"VisibleHeap$Weak", "size", "()I"⟩
abbrev c_Weak_cells : ByteArray := prog_11_method_3_code
abbrev y_Weak_cells : MethodName := ⟨"VisibleHeap$Weak", "cells", "()I"⟩
abbrev c_Weak_valueAt : ByteArray := prog_11_method_4_code
abbrev y_Weak_valueAt : MethodName := ⟨"VisibleHeap$Weak", "valueAt", "(I)LVisibleHeap$Value;"⟩
abbrev c_Weak_reachHeld : ByteArray := prog_11_method_5_code
abbrev y_Weak_reachHeld : MethodName := ⟨"VisibleHeap$Weak", "reachHeld", "(LVisibleHeap$Reckoning;)V"⟩
abbrev c_Weak_letGoOfDead : ByteArray := prog_11_method_6_code
abbrev y_Weak_letGoOfDead : MethodName := ⟨"VisibleHeap$Weak", "letGoOfDead", "()V"⟩
abbrev c_H_init : ByteArray := prog_1_method_1_code
abbrev y_H_init : MethodName := ⟨"VisibleHeap", "<init>", "(I)V"⟩
abbrev c_H_number : ByteArray := prog_1_method_2_code
abbrev y_H_number : MethodName := ⟨"VisibleHeap", "number", "(II)Z"⟩
abbrev c_H_copy : ByteArray := prog_1_method_3_code
abbrev y_H_copy : MethodName := ⟨"VisibleHeap", "copy", "(II)Z"⟩
abbrev c_H_make : ByteArray := prog_1_method_4_code
abbrev y_H_make : MethodName := ⟨"VisibleHeap", "make", "(IIIII)I"⟩
abbrev c_H_get : ByteArray := prog_1_method_5_code
abbrev y_H_get : MethodName := ⟨"VisibleHeap", "get", "(III)Z"⟩
abbrev c_H_set : ByteArray := prog_1_method_6_code
abbrev y_H_set : MethodName := ⟨"VisibleHeap", "set", "(III)Z"⟩
abbrev c_H_put : ByteArray := prog_1_method_7_code
abbrev y_H_put : MethodName := ⟨"VisibleHeap", "put", "(III)I"⟩
abbrev c_H_find : ByteArray := prog_1_method_8_code
abbrev y_H_find : MethodName := ⟨"VisibleHeap", "find", "(III)I"⟩
abbrev c_H_register : ByteArray := prog_1_method_9_code
abbrev y_H_register : MethodName := ⟨"VisibleHeap", "register", "(II)Z"⟩
abbrev c_H_next : ByteArray := prog_1_method_10_code
abbrev y_H_next : MethodName := ⟨"VisibleHeap", "next", "(II)Z"⟩
abbrev c_H_collect : ByteArray := prog_1_method_11_code
abbrev y_H_collect : MethodName := ⟨"VisibleHeap", "collect", "()I"⟩
abbrev c_H_look : ByteArray := prog_1_method_12_code
abbrev y_H_look : MethodName := ⟨"VisibleHeap", "look", "(II)I"⟩
abbrev c_H_same : ByteArray := prog_1_method_13_code
abbrev y_H_same : MethodName := ⟨"VisibleHeap", "same", "(II)I"⟩
abbrev c_H_count : ByteArray := prog_1_method_14_code
abbrev y_H_count : MethodName := ⟨"VisibleHeap", "count", "(I)I"⟩
abbrev c_H_isRegister : ByteArray := prog_1_method_15_code
abbrev y_H_isRegister : MethodName := ⟨"VisibleHeap", "isRegister", "(I)Z"⟩
abbrev c_H_valueIn : ByteArray := prog_1_method_16_code
abbrev y_H_valueIn : MethodName := ⟨"VisibleHeap", "valueIn", "(I)LVisibleHeap$Value;"⟩
abbrev c_H_canBuild : ByteArray := prog_1_method_17_code
abbrev y_H_canBuild : MethodName := ⟨"VisibleHeap", "canBuild", "(IIII)Z"⟩
abbrev c_H_build : ByteArray := prog_1_method_18_code
abbrev y_H_build : MethodName := ⟨"VisibleHeap", "build", "(ILVisibleHeap$Value;LVisibleHeap$Value;I)LVisibleHeap$Thing;"⟩
abbrev c_H_pairOf : ByteArray := prog_1_method_19_code
abbrev y_H_pairOf : MethodName := ⟨"VisibleHeap", "pairOf", "(LVisibleHeap$Value;LVisibleHeap$Value;)LVisibleHeap$Row;"⟩
abbrev c_H_vectorOf : ByteArray := prog_1_method_20_code
abbrev y_H_vectorOf : MethodName := ⟨"VisibleHeap", "vectorOf", "(ILVisibleHeap$Value;)LVisibleHeap$Row;"⟩
abbrev c_H_addEntry : ByteArray := prog_1_method_21_code
abbrev y_H_addEntry : MethodName := ⟨"VisibleHeap", "addEntry", "(LVisibleHeap$Table;LVisibleHeap$Tie;)V"⟩
abbrev c_H_numberOf : ByteArray := prog_1_method_22_code
abbrev y_H_numberOf : MethodName := ⟨"VisibleHeap", "numberOf", "(LVisibleHeap$Value;)I"⟩
abbrev c_H_identityOf : ByteArray := prog_1_method_23_code
abbrev y_H_identityOf : MethodName := ⟨"VisibleHeap", "identityOf", "(LVisibleHeap$Thing;)I"⟩
abbrev c_H_areSame : ByteArray := prog_1_method_24_code
abbrev y_H_areSame : MethodName := ⟨"VisibleHeap", "areSame", "(LVisibleHeap$Value;LVisibleHeap$Value;)Z"⟩
abbrev c_H_findRoom : ByteArray := prog_1_method_25_code
abbrev y_H_findRoom : MethodName := ⟨"VisibleHeap", "findRoom", "(I)Z"⟩
abbrev c_H_keep : ByteArray := prog_1_method_26_code
abbrev y_H_keep : MethodName := ⟨"VisibleHeap", "keep", "(LVisibleHeap$Thing;)V"⟩
abbrev c_H_collectDead : ByteArray := prog_1_method_27_code
abbrev y_H_collectDead : MethodName := ⟨"VisibleHeap", "collectDead", "()V"⟩
abbrev c_H_reckonLive : ByteArray := prog_1_method_28_code
abbrev y_H_reckonLive : MethodName := ⟨"VisibleHeap", "reckonLive", "()V"⟩
abbrev c_H_reachRoots : ByteArray := prog_1_method_29_code
abbrev y_H_reachRoots : MethodName := ⟨"VisibleHeap", "reachRoots", "()V"⟩
abbrev c_H_keepLiveOnly : ByteArray := prog_1_method_30_code
abbrev y_H_keepLiveOnly : MethodName := ⟨"VisibleHeap", "keepLiveOnly", "()V"⟩
abbrev c_L_cell : ByteArray := method_2_code
abbrev y_L_cell : MethodName := ⟨"VisibleHeapLaw", "cell", "([II)I"⟩
abbrev c_M_init : ByteArray := prog_13_method_1_code
abbrev y_M_init : MethodName := ⟨"VisibleHeapModel", "<init>", "(I)V"⟩
abbrev c_M_isRegister : ByteArray := prog_13_method_2_code
abbrev y_M_isRegister : MethodName := ⟨"VisibleHeapModel", "isRegister", "(I)Z"⟩
abbrev c_M_isObject : ByteArray := prog_13_method_3_code
abbrev y_M_isObject : MethodName := ⟨"VisibleHeapModel", "isObject", "(J)Z"⟩
abbrev c_M_is : ByteArray := prog_13_method_4_code
abbrev y_M_is : MethodName := ⟨"VisibleHeapModel", "is", "(JI)Z"⟩
abbrev c_M_cellsOf : ByteArray := prog_13_method_5_code
abbrev y_M_cellsOf : MethodName := ⟨"VisibleHeapModel", "cellsOf", "(II)I"⟩
abbrev c_M_cellAt : ByteArray := prog_13_method_6_code
abbrev y_M_cellAt : MethodName := ⟨"VisibleHeapModel", "cellAt", "(JI)I"⟩
abbrev c_M_field : ByteArray := prog_13_method_7_code
abbrev y_M_field : MethodName := ⟨"VisibleHeapModel", "field", "(JI)J"⟩
abbrev c_M_setField : ByteArray := prog_13_method_8_code
abbrev y_M_setField : MethodName := ⟨"VisibleHeapModel", "setField", "(JIJ)V"⟩
abbrev c_M_room : ByteArray := prog_13_method_9_code
abbrev y_M_room : MethodName := ⟨"VisibleHeapModel", "room", "(I)Z"⟩
abbrev c_M_add : ByteArray := prog_13_method_10_code
abbrev y_M_add : MethodName := ⟨"VisibleHeapModel", "add", "(IIJ)J"⟩
abbrev c_M_drop : ByteArray := prog_13_method_11_code
abbrev y_M_drop : MethodName := ⟨"VisibleHeapModel", "drop", "(I)V"⟩
abbrev c_M_isLive : ByteArray := prog_13_method_12_code
abbrev y_M_isLive : MethodName := ⟨"VisibleHeapModel", "isLive", "(J)Z"⟩
abbrev c_M_mark : ByteArray := prog_13_method_13_code
abbrev y_M_mark : MethodName := ⟨"VisibleHeapModel", "mark", "(J)V"⟩
abbrev c_M_follow : ByteArray := prog_13_method_14_code
abbrev y_M_follow : MethodName := ⟨"VisibleHeapModel", "follow", "()V"⟩
abbrev c_M_entries : ByteArray := prog_13_method_15_code
abbrev y_M_entries : MethodName := ⟨"VisibleHeapModel", "entries", "(J)Z"⟩
abbrev c_M_round : ByteArray := prog_13_method_16_code
abbrev y_M_round : MethodName := ⟨"VisibleHeapModel", "round", "()Z"⟩
abbrev c_M_reckon : ByteArray := prog_13_method_17_code
abbrev y_M_reckon : MethodName := ⟨"VisibleHeapModel", "reckon", "()V"⟩
abbrev c_M_thin : ByteArray := prog_13_method_18_code
abbrev y_M_thin : MethodName := ⟨"VisibleHeapModel", "thin", "(J)V"⟩
abbrev c_M_gather : ByteArray := prog_13_method_19_code
abbrev y_M_gather : MethodName := ⟨"VisibleHeapModel", "gather", "()V"⟩
abbrev c_M_number : ByteArray := prog_13_method_20_code
abbrev y_M_number : MethodName := ⟨"VisibleHeapModel", "number", "(II)Z"⟩
abbrev c_M_copy : ByteArray := prog_13_method_21_code
abbrev y_M_copy : MethodName := ⟨"VisibleHeapModel", "copy", "(II)Z"⟩
abbrev c_M_make : ByteArray := prog_13_method_22_code
abbrev y_M_make : MethodName := ⟨"VisibleHeapModel", "make", "(IIIII)I"⟩
abbrev c_M_shown : ByteArray := prog_13_method_23_code
abbrev y_M_shown : MethodName := ⟨"VisibleHeapModel", "shown", "(J)I"⟩
abbrev c_M_get : ByteArray := prog_13_method_24_code
abbrev y_M_get : MethodName := ⟨"VisibleHeapModel", "get", "(III)Z"⟩
abbrev c_M_set : ByteArray := prog_13_method_25_code
abbrev y_M_set : MethodName := ⟨"VisibleHeapModel", "set", "(III)Z"⟩
abbrev c_M_entryOf : ByteArray := prog_13_method_26_code
abbrev y_M_entryOf : MethodName := ⟨"VisibleHeapModel", "entryOf", "(JJ)J"⟩
abbrev c_M_put : ByteArray := prog_13_method_27_code
abbrev y_M_put : MethodName := ⟨"VisibleHeapModel", "put", "(III)I"⟩
abbrev c_M_find : ByteArray := prog_13_method_28_code
abbrev y_M_find : MethodName := ⟨"VisibleHeapModel", "find", "(III)I"⟩
abbrev c_M_register : ByteArray := prog_13_method_29_code
abbrev y_M_register : MethodName := ⟨"VisibleHeapModel", "register", "(II)Z"⟩
abbrev c_M_next : ByteArray := prog_13_method_30_code
abbrev y_M_next : MethodName := ⟨"VisibleHeapModel", "next", "(II)Z"⟩
abbrev c_M_collect : ByteArray := prog_13_method_31_code
abbrev y_M_collect : MethodName := ⟨"VisibleHeapModel", "collect", "()I"⟩
abbrev c_M_entryCount : ByteArray := prog_13_method_32_code
abbrev y_M_entryCount : MethodName := ⟨"VisibleHeapModel", "entryCount", "(J)I"⟩
abbrev c_M_look : ByteArray := prog_13_method_33_code
abbrev y_M_look : MethodName := ⟨"VisibleHeapModel", "look", "(II)I"⟩
abbrev c_M_same : ByteArray := prog_13_method_34_code
abbrev y_M_same : MethodName := ⟨"VisibleHeapModel", "same", "(II)I"⟩
abbrev c_M_count : ByteArray := prog_13_method_35_code
abbrev y_M_count : MethodName := ⟨"VisibleHeapModel", "count", "(I)I"⟩
end
section
/-! Worlds by maps (my own layer over the kit's rows): kinds, int fields, reference fields, arrays of ints, of references, of longs. A field has one number in all classes that have it (fg), so two fields never lie over each other. -/
abbrev tV : Type := Int32 ⊕ (Option Nat ⊕ Int64)
abbrev vI (x : Int32) : tV := .inl x
abbrev vR (x : Option Nat) : tV := .inr (.inl x)
abbrev vJ (x : Int64) : tV := .inr (.inr x)
def tv (x : tV) : Value := match x with
  | .inl i => .int i
  | .inr (.inl r) => va_rf r
  | .inr (.inr j) => .long j
def tc (x : tV) : Nat := match x with
  | .inl _ => 1
  | .inr (.inl _) => 1
  | .inr (.inr _) => 2
theorem tv_cat (x : tV) : (tv x).category = tc x := by
  rcases x with i | r | j
  · rfl
  · cases r <;> rfl
  · rfl
abbrev tL : Type := List (Nat × tV)
def lvm (lv : tL) : List (Nat × Value) := lv.map (fun q => (q.1, tv q.2))
theorem lvm_get {lv : tL} {k i : Nat} {x : tV} (h : lv[k]? = some (i, x)) : (lvm lv)[k]? = some (i, tv x) := by
  unfold lvm
  rw [List.getElem?_map, h]
  rfl
def tsm (st : List tV) : Nat := (st.map tc).sum
theorem tv_sum (st : List tV) : ((st.map tv).map fun v => v.category).sum = tsm st := by
  unfold tsm
  rw [List.map_map]
  congr 1
  apply List.map_congr_left
  intro x _
  exact tv_cat x
def tset (lv : tL) (i : Nat) (x : tV) : tL := (i, x) :: lv.filter (fun q => !(q.1 == i) && !(q.1 + 1 == i && tc q.2 == 2))
def tset2 (lv : tL) (i : Nat) (x : tV) : tL := (i, x) :: lv.filter (fun q => !(q.1 == i) && (!(q.1 == i + 1) && !(q.1 + 1 == i && tc q.2 == 2)))
theorem lvm_set (lv : tL) (i : Nat) (x : tV) : (i, tv x) :: (lvm lv).filter (fun q => !(q.1 == i) && !(q.1 + 1 == i && q.2.category == 2)) = lvm (tset lv i x) := by
  unfold tset lvm
  rw [List.map_cons, List.filter_map]
  congr 2
  apply List.filter_congr
  intro q _
  show (!(q.1 == i) && !(q.1 + 1 == i && (tv q.2).category == 2)) = _
  rw [tv_cat]
theorem lvm_set2 (lv : tL) (i : Nat) (x : tV) : (i, tv x) :: (lvm lv).filter (fun q => !(q.1 == i) && (!(q.1 == i + 1) && !(q.1 + 1 == i && q.2.category == 2))) = lvm (tset2 lv i x) := by
  unfold tset2 lvm
  rw [List.map_cons, List.filter_map]
  congr 2
  apply List.filter_congr
  intro q _
  show (!(q.1 == i) && (!(q.1 == i + 1) && !(q.1 + 1 == i && (tv q.2).category == 2))) = _
  rw [tv_cat]
def targs : Nat → List tV → tL
  | _, [] => []
  | i, v :: vs => (i, v) :: targs (i + tc v) vs
theorem targs_lv (vs : List tV) (i : Nat) : lv_args i (vs.map tv) = lvm (targs i vs) := by
  induction vs generalizing i with
  | nil => rfl
  | cons v vs ih =>
    show (i, tv v) :: lv_args (if (tv v).category = 2 then i + 2 else i + 1) (vs.map tv) = (i, tv v) :: lvm (targs (i + tc v) vs)
    have e : (if (tv v).category = 2 then i + 2 else i + 1) = i + tc v := by
      rw [tv_cat]
      rcases v with x | r | j <;> rfl
    rw [e, ih]
theorem tv_sl (vs : List tV) : (lg_sl (vs.map tv)).length = tsm vs := by
  induction vs with
  | nil => rfl
  | cons v vs ih =>
    unfold lg_sl at ih ⊢
    rw [List.map_cons, List.flatMap_cons, List.length_append, ih]
    unfold tsm
    rw [List.map_cons, List.sum_cons]
    congr 1
    rw [tv_cat]
    rcases v with x | r | j <;> rfl
/-! the world -/
abbrev mKi : Type := Nat ⊕ (Nat × Nat)
abbrev mW : Type := (Nat → Option mKi) × (Nat → Nat → Int32) × (Nat → Nat → Option Nat) × (Nat → Nat → Int32) × (Nat → Nat → Option Nat) × (Nat → Nat → Int64)
def gK (w : mW) : Nat → Option mKi := w.1
def gI (w : mW) : Nat → Nat → Int32 := w.2.1
def gR (w : mW) : Nat → Nat → Option Nat := w.2.2.1
def aI (w : mW) : Nat → Nat → Int32 := w.2.2.2.1
def aR (w : mW) : Nat → Nat → Option Nat := w.2.2.2.2.1
def aJ (w : mW) : Nat → Nat → Int64 := w.2.2.2.2.2
def up2 {α : Type} (f : Nat → Nat → α) (k a : Nat) (x : α) : Nat → Nat → α := fun k' a' => if k' = k ∧ a' = a then x else f k' a'
def sI (w : mW) (k a : Nat) (x : Int32) : mW := (w.1, up2 w.2.1 k a x, w.2.2)
def sR (w : mW) (k a : Nat) (r : Option Nat) : mW := (w.1, w.2.1, up2 w.2.2.1 k a r, w.2.2.2)
def xI (w : mW) (a i : Nat) (x : Int32) : mW := (w.1, w.2.1, w.2.2.1, up2 w.2.2.2.1 a i x, w.2.2.2.2)
def xR (w : mW) (a i : Nat) (r : Option Nat) : mW := (w.1, w.2.1, w.2.2.1, w.2.2.2.1, up2 w.2.2.2.2.1 a i r, w.2.2.2.2.2)
def xJ (w : mW) (a i : Nat) (x : Int64) : mW := (w.1, w.2.1, w.2.2.1, w.2.2.2.1, w.2.2.2.2.1, up2 w.2.2.2.2.2 a i x)
def nO (w : mW) (q c : Nat) : mW := (fun a => if a = q then some (.inl c) else w.1 a, fun k a => if a = q then 0 else w.2.1 k a, fun k a => if a = q then none else w.2.2.1 k a, w.2.2.2)
def nA (w : mW) (q t n : Nat) : mW := (fun a => if a = q then some (.inr (t, n)) else w.1 a, w.2.1, w.2.2.1, fun a i => if a = q then 0 else w.2.2.2.1 a i, fun a i => if a = q then none else w.2.2.2.2.1 a i, fun a i => if a = q then 0 else w.2.2.2.2.2 a i)
theorem gK_sI (w : mW) (k₀ a₀ : Nat) (x : Int32) : gK (sI w k₀ a₀ x) = gK w := rfl
theorem gI_sI (w : mW) (k₀ a₀ : Nat) (x : Int32) (k a : Nat) : gI (sI w k₀ a₀ x) k a = if k = k₀ ∧ a = a₀ then x else gI w k a := rfl
theorem gI_sI_eq (w : mW) (k₀ a₀ : Nat) (x : Int32) : gI (sI w k₀ a₀ x) k₀ a₀ = x := if_pos ⟨rfl, rfl⟩
theorem gI_sI_ne (w : mW) (k₀ a₀ : Nat) (x : Int32) {k a : Nat} (h : k ≠ k₀) : gI (sI w k₀ a₀ x) k a = gI w k a := if_neg (fun q => h q.1)
theorem gI_sI_na (w : mW) (k₀ a₀ : Nat) (x : Int32) {k a : Nat} (h : a ≠ a₀) : gI (sI w k₀ a₀ x) k a = gI w k a := if_neg (fun q => h q.2)
theorem gI_sI_nk (w : mW) (k₀ a₀ : Nat) (x : Int32) {k : Nat} (h : k ≠ k₀) : gI (sI w k₀ a₀ x) k = gI w k := funext fun z => if_neg (fun q => h q.1)
theorem gR_sI (w : mW) (k₀ a₀ : Nat) (x : Int32) : gR (sI w k₀ a₀ x) = gR w := rfl
theorem aI_sI (w : mW) (k₀ a₀ : Nat) (x : Int32) : aI (sI w k₀ a₀ x) = aI w := rfl
theorem aR_sI (w : mW) (k₀ a₀ : Nat) (x : Int32) : aR (sI w k₀ a₀ x) = aR w := rfl
theorem aJ_sI (w : mW) (k₀ a₀ : Nat) (x : Int32) : aJ (sI w k₀ a₀ x) = aJ w := rfl
theorem gK_sR (w : mW) (k₀ a₀ : Nat) (x : Option Nat) : gK (sR w k₀ a₀ x) = gK w := rfl
theorem gI_sR (w : mW) (k₀ a₀ : Nat) (x : Option Nat) : gI (sR w k₀ a₀ x) = gI w := rfl
theorem gR_sR (w : mW) (k₀ a₀ : Nat) (x : Option Nat) (k a : Nat) : gR (sR w k₀ a₀ x) k a = if k = k₀ ∧ a = a₀ then x else gR w k a := rfl
theorem gR_sR_eq (w : mW) (k₀ a₀ : Nat) (x : Option Nat) : gR (sR w k₀ a₀ x) k₀ a₀ = x := if_pos ⟨rfl, rfl⟩
theorem gR_sR_ne (w : mW) (k₀ a₀ : Nat) (x : Option Nat) {k a : Nat} (h : k ≠ k₀) : gR (sR w k₀ a₀ x) k a = gR w k a := if_neg (fun q => h q.1)
theorem gR_sR_na (w : mW) (k₀ a₀ : Nat) (x : Option Nat) {k a : Nat} (h : a ≠ a₀) : gR (sR w k₀ a₀ x) k a = gR w k a := if_neg (fun q => h q.2)
theorem gR_sR_nk (w : mW) (k₀ a₀ : Nat) (x : Option Nat) {k : Nat} (h : k ≠ k₀) : gR (sR w k₀ a₀ x) k = gR w k := funext fun z => if_neg (fun q => h q.1)
theorem aI_sR (w : mW) (k₀ a₀ : Nat) (x : Option Nat) : aI (sR w k₀ a₀ x) = aI w := rfl
theorem aR_sR (w : mW) (k₀ a₀ : Nat) (x : Option Nat) : aR (sR w k₀ a₀ x) = aR w := rfl
theorem aJ_sR (w : mW) (k₀ a₀ : Nat) (x : Option Nat) : aJ (sR w k₀ a₀ x) = aJ w := rfl
theorem gK_xI (w : mW) (k₀ a₀ : Nat) (x : Int32) : gK (xI w k₀ a₀ x) = gK w := rfl
theorem gI_xI (w : mW) (k₀ a₀ : Nat) (x : Int32) : gI (xI w k₀ a₀ x) = gI w := rfl
theorem gR_xI (w : mW) (k₀ a₀ : Nat) (x : Int32) : gR (xI w k₀ a₀ x) = gR w := rfl
theorem aI_xI (w : mW) (k₀ a₀ : Nat) (x : Int32) (k a : Nat) : aI (xI w k₀ a₀ x) k a = if k = k₀ ∧ a = a₀ then x else aI w k a := rfl
theorem aI_xI_eq (w : mW) (k₀ a₀ : Nat) (x : Int32) : aI (xI w k₀ a₀ x) k₀ a₀ = x := if_pos ⟨rfl, rfl⟩
theorem aI_xI_ne (w : mW) (k₀ a₀ : Nat) (x : Int32) {k a : Nat} (h : k ≠ k₀) : aI (xI w k₀ a₀ x) k a = aI w k a := if_neg (fun q => h q.1)
theorem aI_xI_na (w : mW) (k₀ a₀ : Nat) (x : Int32) {k a : Nat} (h : a ≠ a₀) : aI (xI w k₀ a₀ x) k a = aI w k a := if_neg (fun q => h q.2)
theorem aI_xI_nk (w : mW) (k₀ a₀ : Nat) (x : Int32) {k : Nat} (h : k ≠ k₀) : aI (xI w k₀ a₀ x) k = aI w k := funext fun z => if_neg (fun q => h q.1)
theorem aR_xI (w : mW) (k₀ a₀ : Nat) (x : Int32) : aR (xI w k₀ a₀ x) = aR w := rfl
theorem aJ_xI (w : mW) (k₀ a₀ : Nat) (x : Int32) : aJ (xI w k₀ a₀ x) = aJ w := rfl
theorem gK_xR (w : mW) (k₀ a₀ : Nat) (x : Option Nat) : gK (xR w k₀ a₀ x) = gK w := rfl
theorem gI_xR (w : mW) (k₀ a₀ : Nat) (x : Option Nat) : gI (xR w k₀ a₀ x) = gI w := rfl
theorem gR_xR (w : mW) (k₀ a₀ : Nat) (x : Option Nat) : gR (xR w k₀ a₀ x) = gR w := rfl
theorem aI_xR (w : mW) (k₀ a₀ : Nat) (x : Option Nat) : aI (xR w k₀ a₀ x) = aI w := rfl
theorem aR_xR (w : mW) (k₀ a₀ : Nat) (x : Option Nat) (k a : Nat) : aR (xR w k₀ a₀ x) k a = if k = k₀ ∧ a = a₀ then x else aR w k a := rfl
theorem aR_xR_eq (w : mW) (k₀ a₀ : Nat) (x : Option Nat) : aR (xR w k₀ a₀ x) k₀ a₀ = x := if_pos ⟨rfl, rfl⟩
theorem aR_xR_ne (w : mW) (k₀ a₀ : Nat) (x : Option Nat) {k a : Nat} (h : k ≠ k₀) : aR (xR w k₀ a₀ x) k a = aR w k a := if_neg (fun q => h q.1)
theorem aR_xR_na (w : mW) (k₀ a₀ : Nat) (x : Option Nat) {k a : Nat} (h : a ≠ a₀) : aR (xR w k₀ a₀ x) k a = aR w k a := if_neg (fun q => h q.2)
theorem aR_xR_nk (w : mW) (k₀ a₀ : Nat) (x : Option Nat) {k : Nat} (h : k ≠ k₀) : aR (xR w k₀ a₀ x) k = aR w k := funext fun z => if_neg (fun q => h q.1)
theorem aJ_xR (w : mW) (k₀ a₀ : Nat) (x : Option Nat) : aJ (xR w k₀ a₀ x) = aJ w := rfl
theorem gK_xJ (w : mW) (k₀ a₀ : Nat) (x : Int64) : gK (xJ w k₀ a₀ x) = gK w := rfl
theorem gI_xJ (w : mW) (k₀ a₀ : Nat) (x : Int64) : gI (xJ w k₀ a₀ x) = gI w := rfl
theorem gR_xJ (w : mW) (k₀ a₀ : Nat) (x : Int64) : gR (xJ w k₀ a₀ x) = gR w := rfl
theorem aI_xJ (w : mW) (k₀ a₀ : Nat) (x : Int64) : aI (xJ w k₀ a₀ x) = aI w := rfl
theorem aR_xJ (w : mW) (k₀ a₀ : Nat) (x : Int64) : aR (xJ w k₀ a₀ x) = aR w := rfl
theorem aJ_xJ (w : mW) (k₀ a₀ : Nat) (x : Int64) (k a : Nat) : aJ (xJ w k₀ a₀ x) k a = if k = k₀ ∧ a = a₀ then x else aJ w k a := rfl
theorem aJ_xJ_eq (w : mW) (k₀ a₀ : Nat) (x : Int64) : aJ (xJ w k₀ a₀ x) k₀ a₀ = x := if_pos ⟨rfl, rfl⟩
theorem aJ_xJ_ne (w : mW) (k₀ a₀ : Nat) (x : Int64) {k a : Nat} (h : k ≠ k₀) : aJ (xJ w k₀ a₀ x) k a = aJ w k a := if_neg (fun q => h q.1)
theorem aJ_xJ_na (w : mW) (k₀ a₀ : Nat) (x : Int64) {k a : Nat} (h : a ≠ a₀) : aJ (xJ w k₀ a₀ x) k a = aJ w k a := if_neg (fun q => h q.2)
theorem aJ_xJ_nk (w : mW) (k₀ a₀ : Nat) (x : Int64) {k : Nat} (h : k ≠ k₀) : aJ (xJ w k₀ a₀ x) k = aJ w k := funext fun z => if_neg (fun q => h q.1)
theorem gK_nO (w : mW) (q c a : Nat) : gK (nO w q c) a = if a = q then some (.inl c) else gK w a := rfl
theorem gI_nO (w : mW) (q c k a : Nat) : gI (nO w q c) k a = if a = q then 0 else gI w k a := rfl
theorem gR_nO (w : mW) (q c k a : Nat) : gR (nO w q c) k a = if a = q then none else gR w k a := rfl
theorem aI_nO (w : mW) (q c : Nat) : aI (nO w q c) = aI w := rfl
theorem aR_nO (w : mW) (q c : Nat) : aR (nO w q c) = aR w := rfl
theorem aJ_nO (w : mW) (q c : Nat) : aJ (nO w q c) = aJ w := rfl
theorem gK_nA (w : mW) (q t n a : Nat) : gK (nA w q t n) a = if a = q then some (.inr (t, n)) else gK w a := rfl
theorem gI_nA (w : mW) (q t n : Nat) : gI (nA w q t n) = gI w := rfl
theorem gR_nA (w : mW) (q t n : Nat) : gR (nA w q t n) = gR w := rfl
theorem aI_nA (w : mW) (q t n a i : Nat) : aI (nA w q t n) a i = if a = q then 0 else aI w a i := rfl
theorem aR_nA (w : mW) (q t n a i : Nat) : aR (nA w q t n) a i = if a = q then none else aR w a i := rfl
theorem aJ_nA (w : mW) (q t n a i : Nat) : aJ (nA w q t n) a i = if a = q then 0 else aJ w a i := rfl
/-! cells by maps -/
def mfv (w : mW) (c j a : Nat) : Value := if fr c j = true then va_rf (gR w (fg c j) a) else .int (gI w (fg c j) a)
def mav (w : mW) (t a j : Nat) : Value := if ar t = 1 then va_rf (aR w a j) else if ar t = 2 then .long (aJ w a j) else .int (aI w a j)
def m_at (D : va_G) (dA : Nat → ClassId) (w : mW) (H : Heap) (a : Nat) (k : mKi) : Prop := match k with
  | .inl c => ∃ r : vw_C, vwCl[c]? = some r ∧ t_OB a (D.1 c) r.2.2 (D.2 c) H (fun j => mfv w c j a)
  | .inr tn => H[a]? = some (arrV (dA tn.1) tn.2 (mav w tn.1 a))
def mRep (D : va_G) (dA : Nat → ClassId) (A : Nat → Prop) (w : mW) (H : Heap) : Prop := ∀ (a : Nat) (k : mKi), gK w a = some k → m_at D dA w H a k ∧ A a
theorem m_at.lt {D : va_G} {dA : Nat → ClassId} {w : mW} {H : Heap} {a : Nat} {k : mKi} (h : m_at D dA w H a k) : a < H.size := by
  cases k with
  | inl c =>
    obtain ⟨r, h1, cell, h2, -⟩ := h
    exact (Array.getElem?_eq_some_iff.mp h2).1
  | inr tn => exact (Array.getElem?_eq_some_iff.mp h).1
theorem m_at.kept {D : va_G} {dA : Nat → ClassId} {w w1 : mW} {H H1 : Heap} {a : Nat} {k : mKi} (h : m_at D dA w H a k) (hq : H1[a]? = H[a]?) (hf : ∀ c j, mfv w1 c j a = mfv w c j a) (ha : ∀ t, mav w1 t a = mav w t a) : m_at D dA w1 H1 a k := by
  cases k with
  | inl c =>
    obtain ⟨r, h1, h2⟩ := h
    exact ⟨r, h1, (h2.kept hq).to (fun j _ => (hf c j).symm)⟩
  | inr tn =>
    show H1[a]? = some (arrV (dA tn.1) tn.2 (mav w1 tn.1 a))
    rw [hq, ha tn.1]
    exact h
theorem mRep.fresh {D : va_G} {dA : Nat → ClassId} {A : Nat → Prop} {w : mW} {H : Heap} (h : mRep D dA A w H) {q : Nat} (hq : H.size ≤ q) : gK w q = none := by
  cases hk : gK w q with
  | none => rfl
  | some k => exact absurd (h q k hk).1.lt (Nat.not_lt.mpr hq)
/-- what the tables say, apart from the words that every contract carries -/
def mNw (U : State) : Prop := (∀ q ∈ mCast, va_Nw (.castable q.1 q.2) U) ∧ (∀ q ∈ mNoCast, va_Nc q.1 q.2 U) ∧ (∀ x ∈ mDecl, va_Nw (.declares x) U) ∧ (∀ q ∈ mNestM, va_Nw (.methodLinkNest q.1 q.2.1 q.2.2.1 q.2.2.2) U) ∧ ∀ C ∈ mOver, va_AO C U
def mKn (D : va_G) (dA : Nat → ClassId) (U : State) : Prop := va_K D vwCl [] U ∧ (∀ t ty, tyA t = some ty → ArrOfT U (dA t) ty ∧ va_RA U (dA t) ty) ∧ mNw U
theorem mNw.warm {s U : State} (hW : s.WarmedH U.vm) (h : mNw s) : mNw U :=
  ⟨fun q hq => va_Nw.warmC hW (h.1 q hq), fun q hq => (h.2.1 q hq).moved hW.alike, fun x hx => va_Nw.warmD hW (h.2.2.1 x hx), fun q hq => va_Nw.warmM hW (h.2.2.2.1 q hq), fun C hC => (h.2.2.2.2 C hC).moved hW.alike⟩
theorem mKn.warm {D : va_G} {dA : Nat → ClassId} {s U : State} (hW : s.WarmedH U.vm) (h : mKn D dA s) : mKn D dA U :=
  ⟨va_K.moved hW.alike h.1, fun t ty ht => ⟨arrOfT_moved hW.alike (h.2.1 t ty ht).1, (h.2.1 t ty ht).2.moved hW.alike⟩, h.2.2.warm hW⟩
theorem mNw.same {u U : State} (hv : u.vm = U.vm) (h : mNw u) : mNw U :=
  ⟨fun q hq => va_Nw.same rfl hv (h.1 q hq), fun q hq => (h.2.1 q hq).moved (hv ▸ Vm.Alike.refl _), fun x hx => va_Nw.same rfl hv (h.2.2.1 x hx), fun q hq => va_Nw.same rfl hv (h.2.2.2.1 q hq), fun C hC => (h.2.2.2.2 C hC).moved (hv ▸ Vm.Alike.refl _)⟩
theorem mKn.same {D : va_G} {dA : Nat → ClassId} {u U : State} (hv : u.vm = U.vm) (h : mKn D dA u) : mKn D dA U :=
  ⟨va_K.moved (hv ▸ Vm.Alike.refl _) h.1, fun t ty ht => ⟨arrOfT_moved (hv ▸ Vm.Alike.refl _) (h.2.1 t ty ht).1, (h.2.1 t ty ht).2.moved (hv ▸ Vm.Alike.refl _)⟩, h.2.2.same hv⟩
theorem mAll_good : ∀ w ∈ mAll, w ∈ mAll ∧ ((w.onTables && w.keeps) = true ∨ ∃ ty, w = .arrayClass ty) := fun w h => ⟨h, good_of_word (by unfold mAll at h; exact (List.mem_filter.mp h).2)⟩
/-- where a method stands -/
def mX (p : Program) (s : State) (m : MethodId) (args : Array Value) (meth : Method) (c : Code) (own nm : String) (cc : ByteArray) (nL : Nat) (ret : Option FieldType) (D : va_G) (dA : Nat → ClassId) (A : Nat → Prop) : Prop :=
  p.tables.exec = Jvm.exec ∧ c.code = cc ∧ c.maxLocals = nL ∧ s.vm.findClass own = some m.cls ∧ (∀ w ∈ mAll, w.before args s = true) ∧ mKn D dA s ∧ (∀ q, s.heap.size ≤ q → A q) ∧ meth.sig.returnType = ret ∧ meth.locks = false ∧ meth.name = nm
section MX
variable {p : Program} {s : State} {m : MethodId} {args : Array Value} {meth : Method} {c : Code} {own nm : String} {cc : ByteArray} {nL : Nat} {ret : Option FieldType} {D : va_G} {dA : Nat → ClassId} {A : Nat → Prop}
theorem mX.x (X : mX p s m args meth c own nm cc nL ret D dA A) : p.tables.exec = Jvm.exec := X.1
theorem mX.b (X : mX p s m args meth c own nm cc nL ret D dA A) : c.code = cc := X.2.1
theorem mX.ml (X : mX p s m args meth c own nm cc nL ret D dA A) : c.maxLocals = nL := X.2.2.1
theorem mX.oc (X : mX p s m args meth c own nm cc nL ret D dA A) : s.vm.findClass own = some m.cls := X.2.2.2.1
theorem mX.ts (X : mX p s m args meth c own nm cc nL ret D dA A) : ∀ w ∈ mAll, w.before args s = true := X.2.2.2.2.1
theorem mX.kn (X : mX p s m args meth c own nm cc nL ret D dA A) : mKn D dA s := X.2.2.2.2.2.1
theorem mX.fresh (X : mX p s m args meth c own nm cc nL ret D dA A) : ∀ q, s.heap.size ≤ q → A q := X.2.2.2.2.2.2.1
theorem mX.rt (X : mX p s m args meth c own nm cc nL ret D dA A) : meth.sig.returnType = ret := X.2.2.2.2.2.2.2.1
theorem mX.lk (X : mX p s m args meth c own nm cc nL ret D dA A) : meth.locks = false := X.2.2.2.2.2.2.2.2.1
theorem mX.nn (X : mX p s m args meth c own nm cc nL ret D dA A) : meth.name = nm := X.2.2.2.2.2.2.2.2.2
end MX
/-- the machine, seen by maps -/
def mV (p : Program) (l : Launch) (e : Env) (R : Room) (s : State) (m : MethodId) (args : Array Value) (below : List Frame) (meth : Method) (c : Code) (D : va_G) (dA : Nat → ClassId) (A : Nat → Prop) (nL : Nat) (w : mW) (cells slots : Nat) (Q : State → Prop) (pc : Nat) (lv : tL) (st : List tV) : Prop :=
  ∀ (H : Heap) (locs : List Loc) (ls : Array Slot), mRep D dA A w H → va_S A s.heap H locs → lv_has ls nL (lvm lv) → W p l e R s m args below meth c H locs cells slots Q (F0 m pc ls (st.map tv))
/-- a class's tables -/
def mTab (c : Nat) (C : String) (T : u_T) (N : Nat) (ty0 : Nat → FieldType) : Prop :=
  vwCl[c]? = some (C, T, N) ∧ (∀ w ∈ u_ws C T N, w ∈ mAll) ∧ (∀ k, k < N → parseFieldDescriptor (T k).2.2.1 = some (ty0 k)) ∧ (∀ a, a < N → ∀ b, b < N → a ≠ b → (T a).2.1 ≠ (T b).2.1) ∧ (∀ i, i < N → ∀ j, j < N → i ≠ j → fg c i ≠ fg c j) ∧ ∀ j, j < N → defaultValue (ty0 j) = if fr c j = true then .null else .int 0
/-- a place in the code that reads or writes field k of objects of the classes cs -/
def sOk (own : String) (idx : Nat) (cs : List Nat) (k : Nat) (b fin wr : Bool) (ty : FieldType) : Prop :=
  ∀ c ∈ cs, ∃ (C : String) (T : u_T) (N : Nat) (ty0 : Nat → FieldType) (j : Nat) (ref : String), mTab c C T N ty0 ∧ j < N ∧ Cond.fieldLink own idx ref (T j).2.1 (T j).2.2.1 ∈ mAll ∧ (ref = (T j).1 ∨ Cond.sameField ref (T j).1 (T j).2.1 (T j).2.2.1 ∈ mAll) ∧ fg c j = k ∧ fr c j = b ∧ (T j).2.2.2 = fin ∧ (wr = true → (T j).1 = own) ∧ ty0 j = ty
def mIs (w : mW) (cs : List Nat) (a : Nat) : Prop := ∃ c ∈ cs, gK w a = some (.inl c)
theorem mIs.mono {w : mW} {cs cs' : List Nat} {a : Nat} (h : mIs w cs a) (hs : ∀ c ∈ cs, c ∈ cs') : mIs w cs' a := by
  obtain ⟨c, hc, hk⟩ := h
  exact ⟨c, hs c hc, hk⟩
theorem mIs.one {w : mW} {c a : Nat} (h : gK w a = some (.inl c)) : mIs w [c] a := ⟨c, List.mem_singleton.mpr rfl, h⟩
theorem m_same {args : Array Value} {s : State} {ref o n d : String} (hts : ∀ w ∈ mAll, w.before args s = true) (h : ref = o ∨ Cond.sameField ref o n d ∈ mAll) (x : ClassId × Class × Nat × Field) (hx : s.fieldFound? o n d = some x) : s.fieldFound? ref n d = some x := by
  rcases h with rfl | h
  · exact hx
  · exact u_same (hts _ h) x hx
/-- one slot of one object changes -/
theorem mRep.setf {D : va_G} {dA : Nat → ClassId} {A : Nat → Prop} {w w1 : mW} {H H1 : Heap} {a c j N : Nat} {cell : Cell} {v : Value} {C : String} {T : u_T} (hP : mRep D dA A w H) (hk : gK w a = some (.inl c)) (hcl : vwCl[c]? = some (C, T, N)) (hj : j < N)
    (q2 : cell.cls = D.1 c) (q3 : cell.vm = .none) (q4 : ∀ k, k < N → cell.slots[D.2 c k]? = some (mfv w c k a)) (hap : ∀ x y, x < N → y < N → x ≠ y → D.2 c x ≠ D.2 c y)
    (e1 : H1[a]? = some (cell.setSlot (D.2 c j) v)) (e3 : ∀ q : Nat, q ≠ a → H1[q]? = H[q]?)
    (gk : gK w1 = gK w) (hne : ∀ a' c' j', a' ≠ a → mfv w1 c' j' a' = mfv w c' j' a') (hav : mav w1 = mav w) (heq : mfv w1 c j a = v) (hot : ∀ j', j' < N → j' ≠ j → mfv w1 c j' a = mfv w c j' a) : mRep D dA A w1 H1 := by
  intro a' k' hk'
  rw [gk] at hk'
  by_cases h : a' = a
  · subst h
    cases hk.symm.trans hk'
    refine ⟨⟨(C, T, N), hcl, t_OB.to (V := updV (fun k => mfv w c k a') j v) ⟨_, e1, q2, q3, t_set q4 hap hj v⟩ (fun i hi => ?_)⟩, (hP a' _ hk).2⟩
    by_cases hij : i = j
    · subst hij
      show updV _ i v i = _
      rw [heq]
      simp [updV]
    · show updV _ j v i = _
      rw [hot i hi hij]
      simp [updV, hij]
  · obtain ⟨h1, h2⟩ := hP a' k' hk'
    exact ⟨h1.kept (e3 a' h) (fun c' j' => hne a' c' j' h) (fun t => by rw [hav]), h2⟩
theorem mfv_sI_na {w : mW} {k a : Nat} {x : Int32} {a' c j : Nat} (h : a' ≠ a) : mfv (sI w k a x) c j a' = mfv w c j a' := by
  unfold mfv
  rw [gR_sI, gI_sI_na _ _ _ _ h]
theorem mfv_sR_na {w : mW} {k a : Nat} {x : Option Nat} {a' c j : Nat} (h : a' ≠ a) : mfv (sR w k a x) c j a' = mfv w c j a' := by
  unfold mfv
  rw [gI_sR, gR_sR_na _ _ _ _ h]
theorem mfv_sI_nk {w : mW} {k a : Nat} {x : Int32} {a' c j : Nat} (h : fg c j ≠ k) : mfv (sI w k a x) c j a' = mfv w c j a' := by
  unfold mfv
  rw [gR_sI, gI_sI_ne _ _ _ _ h]
theorem mfv_sR_nk {w : mW} {k a : Nat} {x : Option Nat} {a' c j : Nat} (h : fg c j ≠ k) : mfv (sR w k a x) c j a' = mfv w c j a' := by
  unfold mfv
  rw [gI_sR, gR_sR_ne _ _ _ _ h]
/-! the rows: an instruction each -/
section MV
variable {p : Program} {l : Launch} {e : Env} {R : Room} {s : State} {m : MethodId} {args : Array Value} {below : List Frame} {meth : Method} {c : Code} {own nm : String} {cc : ByteArray} {nL : Nat} {ret : Option FieldType} {D : va_G} {dA : Nat → ClassId} {A : Nat → Prop} {w : mW} {cells slots : Nat} {Q : State → Prop} {pc : Nat} {lv : tL} {st : List tV}
theorem mv_iconst (X : mX p s m args meth c own nm cc nL ret D dA A) {n : Int} {v : Int32} (hd : decode cc pc = .ok (.iconst n, 1)) (hv : Int32.ofInt n = v) (kk : mV p l e R s m args below meth c D dA A nL w cells slots Q (pc + 1) lv (vI v :: st)) : mV p l e R s m args below meth c D dA A nL w cells slots Q pc lv st :=
  fun H locs ls hP hS hl => lv_iconst X.x X.b hd hv (kk H locs ls hP hS hl)
theorem mv_bipush (X : mX p s m args meth c own nm cc nL ret D dA A) {n : Int} {v : Int32} (hd : decode cc pc = .ok (.bipush n, 2)) (hv : (Int8.ofInt n).toInt32 = v) (kk : mV p l e R s m args below meth c D dA A nL w cells slots Q (pc + 2) lv (vI v :: st)) : mV p l e R s m args below meth c D dA A nL w cells slots Q pc lv st :=
  fun H locs ls hP hS hl => lv_bipush X.x X.b hd hv (kk H locs ls hP hS hl)
theorem mv_sipush (X : mX p s m args meth c own nm cc nL ret D dA A) {n : Int} {v : Int32} (hd : decode cc pc = .ok (.sipush n, 3)) (hv : (Int16.ofInt n).toInt32 = v) (kk : mV p l e R s m args below meth c D dA A nL w cells slots Q (pc + 3) lv (vI v :: st)) : mV p l e R s m args below meth c D dA A nL w cells slots Q pc lv st :=
  fun H locs ls hP hS hl => lv_sipush X.x X.b hd hv (kk H locs ls hP hS hl)
theorem mv_null (X : mX p s m args meth c own nm cc nL ret D dA A)  (hd : decode cc pc = .ok (.aconst_null, 1)) (kk : mV p l e R s m args below meth c D dA A nL w cells slots Q (pc + 1) lv (vR none :: st)) : mV p l e R s m args below meth c D dA A nL w cells slots Q pc lv st :=
  fun H locs ls hP hS hl => lv_null X.x X.b hd (kk H locs ls hP hS hl)
theorem mv_iload (X : mX p s m args meth c own nm cc nL ret D dA A) {i : Nat} {x : Int32} (k : Nat) (hd : decode cc pc = .ok (.iload i, 2)) (h : lv[k]? = some (i, vI x)) (kk : mV p l e R s m args below meth c D dA A nL w cells slots Q (pc + 2) lv (vI x :: st)) : mV p l e R s m args below meth c D dA A nL w cells slots Q pc lv st :=
  fun H locs ls hP hS hl => lv_iload X.x X.b hd (lv_at hl k (lvm_get h)) (kk H locs ls hP hS hl)
theorem mv_iload_n (X : mX p s m args meth c own nm cc nL ret D dA A) {i : Fin 4} {x : Int32} (k : Nat) (hd : decode cc pc = .ok (.iload_n i, 1)) (h : lv[k]? = some ((i : Nat), vI x)) (kk : mV p l e R s m args below meth c D dA A nL w cells slots Q (pc + 1) lv (vI x :: st)) : mV p l e R s m args below meth c D dA A nL w cells slots Q pc lv st :=
  fun H locs ls hP hS hl => lv_iload_n X.x X.b hd rfl (lv_at hl k (lvm_get h)) (kk H locs ls hP hS hl)
theorem mv_aload (X : mX p s m args meth c own nm cc nL ret D dA A) {i : Nat} {x : Option Nat} (k : Nat) (hd : decode cc pc = .ok (.aload i, 2)) (h : lv[k]? = some (i, vR x)) (kk : mV p l e R s m args below meth c D dA A nL w cells slots Q (pc + 2) lv (vR x :: st)) : mV p l e R s m args below meth c D dA A nL w cells slots Q pc lv st := by
  intro H locs ls hP hS hl
  cases x with
  | none => exact lv_aloadN X.x X.b hd (lv_at hl k (lvm_get h)) (kk H locs ls hP hS hl)
  | some a => exact lv_aload X.x X.b hd (lv_at hl k (lvm_get h)) (kk H locs ls hP hS hl)
theorem mv_aload_n (X : mX p s m args meth c own nm cc nL ret D dA A) {i : Fin 4} {x : Option Nat} (k : Nat) (hd : decode cc pc = .ok (.aload_n i, 1)) (h : lv[k]? = some ((i : Nat), vR x)) (kk : mV p l e R s m args below meth c D dA A nL w cells slots Q (pc + 1) lv (vR x :: st)) : mV p l e R s m args below meth c D dA A nL w cells slots Q pc lv st := by
  intro H locs ls hP hS hl
  cases x with
  | none => exact lv_aload_nN X.x X.b hd rfl (lv_at hl k (lvm_get h)) (kk H locs ls hP hS hl)
  | some a => exact lv_aload_n X.x X.b hd rfl (lv_at hl k (lvm_get h)) (kk H locs ls hP hS hl)
theorem mv_istore (X : mX p s m args meth c own nm cc nL ret D dA A) {i : Nat} {x : Int32} {lv' : tL} (hd : decode cc pc = .ok (.istore i, 2)) (hn : i < nL) (hv : tset lv i (vI x) = lv') (kk : mV p l e R s m args below meth c D dA A nL w cells slots Q (pc + 2) lv' st) : mV p l e R s m args below meth c D dA A nL w cells slots Q pc lv (vI x :: st) :=
  fun H locs ls hP hS hl => lv_istore X.x X.b hd hl hn (lvm_set lv i (vI x)) (fun ls' hl' => kk H locs ls' hP hS (hv ▸ hl'))
theorem mv_astore (X : mX p s m args meth c own nm cc nL ret D dA A) {i : Nat} {x : Option Nat} {lv' : tL} (hd : decode cc pc = .ok (.astore i, 2)) (hn : i < nL) (hv : tset lv i (vR x) = lv') (kk : mV p l e R s m args below meth c D dA A nL w cells slots Q (pc + 2) lv' st) : mV p l e R s m args below meth c D dA A nL w cells slots Q pc lv (vR x :: st) := by
  intro H locs ls hP hS hl
  cases x with
  | none => exact lv_astoreN X.x X.b hd hl hn (lvm_set lv i (vR none)) (fun ls' hl' => kk H locs ls' hP hS (hv ▸ hl'))
  | some a => exact lv_astore X.x X.b hd hl hn (lvm_set lv i (vR (some a))) (fun ls' hl' => kk H locs ls' hP hS (hv ▸ hl'))
theorem mv_istore_n (X : mX p s m args meth c own nm cc nL ret D dA A) {i : Fin 4} {x : Int32} {lv' : tL} (hd : decode cc pc = .ok (.istore_n i, 1)) (hn : (i : Nat) < nL) (hv : tset lv (i : Nat) (vI x) = lv') (kk : mV p l e R s m args below meth c D dA A nL w cells slots Q (pc + 1) lv' st) : mV p l e R s m args below meth c D dA A nL w cells slots Q pc lv (vI x :: st) :=
  fun H locs ls hP hS hl => lv_istore_n X.x X.b hd rfl hl hn (lvm_set lv (i : Nat) (vI x)) (fun ls' hl' => kk H locs ls' hP hS (hv ▸ hl'))
theorem mv_astore_n (X : mX p s m args meth c own nm cc nL ret D dA A) {i : Fin 4} {x : Option Nat} {lv' : tL} (hd : decode cc pc = .ok (.astore_n i, 1)) (hn : (i : Nat) < nL) (hv : tset lv (i : Nat) (vR x) = lv') (kk : mV p l e R s m args below meth c D dA A nL w cells slots Q (pc + 1) lv' st) : mV p l e R s m args below meth c D dA A nL w cells slots Q pc lv (vR x :: st) := by
  intro H locs ls hP hS hl
  cases x with
  | none => exact lv_astore_nN X.x X.b hd rfl hl hn (lvm_set lv (i : Nat) (vR none)) (fun ls' hl' => kk H locs ls' hP hS (hv ▸ hl'))
  | some a => exact lv_astore_n X.x X.b hd rfl hl hn (lvm_set lv (i : Nat) (vR (some a))) (fun ls' hl' => kk H locs ls' hP hS (hv ▸ hl'))
theorem mv_iinc (X : mX p s m args meth c own nm cc nL ret D dA A) {i : Nat} {n : Int} {x v : Int32} {lv' : tL} (k : Nat) (hd : decode cc pc = .ok (.iinc i n, 3)) (h : lv[k]? = some (i, vI x)) (hx : x + Int32.ofInt n = v) (hn : i < nL) (hv : tset lv i (vI v) = lv') (kk : mV p l e R s m args below meth c D dA A nL w cells slots Q (pc + 3) lv' st) : mV p l e R s m args below meth c D dA A nL w cells slots Q pc lv st :=
  fun H locs ls hP hS hl => lv_iinc X.x X.b hd hl (lvm_get h) hx hn (lvm_set lv i (vI v)) (fun ls' hl' => kk H locs ls' hP hS (hv ▸ hl'))
theorem mv_iadd (X : mX p s m args meth c own nm cc nL ret D dA A) {x y : Int32} (hd : decode cc pc = .ok (.iadd, 1)) (kk : mV p l e R s m args below meth c D dA A nL w cells slots Q (pc + 1) lv (vI (x + y) :: st)) : mV p l e R s m args below meth c D dA A nL w cells slots Q pc lv (vI y :: vI x :: st) :=
  fun H locs ls hP hS hl => lv_iadd X.x X.b hd (kk H locs ls hP hS hl)
theorem mv_isub (X : mX p s m args meth c own nm cc nL ret D dA A) {x y : Int32} (hd : decode cc pc = .ok (.isub, 1)) (kk : mV p l e R s m args below meth c D dA A nL w cells slots Q (pc + 1) lv (vI (x - y) :: st)) : mV p l e R s m args below meth c D dA A nL w cells slots Q pc lv (vI y :: vI x :: st) :=
  fun H locs ls hP hS hl => lv_isub X.x X.b hd (kk H locs ls hP hS hl)
theorem mv_imul (X : mX p s m args meth c own nm cc nL ret D dA A) {x y : Int32} (hd : decode cc pc = .ok (.imul, 1)) (kk : mV p l e R s m args below meth c D dA A nL w cells slots Q (pc + 1) lv (vI (x * y) :: st)) : mV p l e R s m args below meth c D dA A nL w cells slots Q pc lv (vI y :: vI x :: st) :=
  fun H locs ls hP hS hl => lv_imul X.x X.b hd (kk H locs ls hP hS hl)
theorem mv_iand (X : mX p s m args meth c own nm cc nL ret D dA A) {x y : Int32} (hd : decode cc pc = .ok (.iand, 1)) (kk : mV p l e R s m args below meth c D dA A nL w cells slots Q (pc + 1) lv (vI (x &&& y) :: st)) : mV p l e R s m args below meth c D dA A nL w cells slots Q pc lv (vI y :: vI x :: st) :=
  fun H locs ls hP hS hl => lv_iand X.x X.b hd (kk H locs ls hP hS hl)
theorem mv_ior (X : mX p s m args meth c own nm cc nL ret D dA A) {x y : Int32} (hd : decode cc pc = .ok (.ior, 1)) (kk : mV p l e R s m args below meth c D dA A nL w cells slots Q (pc + 1) lv (vI (x ||| y) :: st)) : mV p l e R s m args below meth c D dA A nL w cells slots Q pc lv (vI y :: vI x :: st) :=
  fun H locs ls hP hS hl => lv_ior X.x X.b hd (kk H locs ls hP hS hl)
theorem mv_ixor (X : mX p s m args meth c own nm cc nL ret D dA A) {x y : Int32} (hd : decode cc pc = .ok (.ixor, 1)) (kk : mV p l e R s m args below meth c D dA A nL w cells slots Q (pc + 1) lv (vI (x ^^^ y) :: st)) : mV p l e R s m args below meth c D dA A nL w cells slots Q pc lv (vI y :: vI x :: st) :=
  fun H locs ls hP hS hl => lv_ixor X.x X.b hd (kk H locs ls hP hS hl)
theorem mv_ineg (X : mX p s m args meth c own nm cc nL ret D dA A) {x : Int32} (hd : decode cc pc = .ok (.ineg, 1)) (kk : mV p l e R s m args below meth c D dA A nL w cells slots Q (pc + 1) lv (vI (-x) :: st)) : mV p l e R s m args below meth c D dA A nL w cells slots Q pc lv (vI x :: st) :=
  fun H locs ls hP hS hl => lv_ineg X.x X.b hd (kk H locs ls hP hS hl)
theorem mv_dup (X : mX p s m args meth c own nm cc nL ret D dA A) {x : tV} (hx : tc x = 1) (hd : decode cc pc = .ok (.dup, 1)) (kk : mV p l e R s m args below meth c D dA A nL w cells slots Q (pc + 1) lv (x :: x :: st)) : mV p l e R s m args below meth c D dA A nL w cells slots Q pc lv (x :: st) :=
  fun H locs ls hP hS hl => lv_dup X.x X.b hd ((tv_cat x).trans hx) (kk H locs ls hP hS hl)
theorem mv_pop (X : mX p s m args meth c own nm cc nL ret D dA A) {x : tV} (hx : tc x = 1) (hd : decode cc pc = .ok (.pop, 1)) (kk : mV p l e R s m args below meth c D dA A nL w cells slots Q (pc + 1) lv st) : mV p l e R s m args below meth c D dA A nL w cells slots Q pc lv (x :: st) :=
  fun H locs ls hP hS hl => lv_pop X.x X.b hd ((tv_cat x).trans hx) (kk H locs ls hP hS hl)
theorem mv_dup_x1 (X : mX p s m args meth c own nm cc nL ret D dA A) {x y : tV} (hx : tc x = 1) (hy : tc y = 1) (hd : decode cc pc = .ok (.dup_x1, 1)) (kk : mV p l e R s m args below meth c D dA A nL w cells slots Q (pc + 1) lv (x :: y :: x :: st)) : mV p l e R s m args below meth c D dA A nL w cells slots Q pc lv (x :: y :: st) :=
  fun H locs ls hP hS hl => lv_dup_x1 X.x X.b hd ((tv_cat x).trans hx) ((tv_cat y).trans hy) (kk H locs ls hP hS hl)
theorem mv_dup_x2 (X : mX p s m args meth c own nm cc nL ret D dA A) {x y z : tV} (hx : tc x = 1) (hy : tc y = 1) (hz : tc z = 1) (hd : decode cc pc = .ok (.dup_x2, 1)) (kk : mV p l e R s m args below meth c D dA A nL w cells slots Q (pc + 1) lv (x :: y :: z :: x :: st)) : mV p l e R s m args below meth c D dA A nL w cells slots Q pc lv (x :: y :: z :: st) :=
  fun H locs ls hP hS hl => lv_dup_x2 X.x X.b hd ((tv_cat x).trans hx) ((tv_cat y).trans hy) ((tv_cat z).trans hz) (kk H locs ls hP hS hl)
theorem mv_dup2 (X : mX p s m args meth c own nm cc nL ret D dA A) {x y : tV} (hx : tc x = 1) (hy : tc y = 1) (hd : decode cc pc = .ok (.dup2, 1)) (kk : mV p l e R s m args below meth c D dA A nL w cells slots Q (pc + 1) lv (x :: y :: x :: y :: st)) : mV p l e R s m args below meth c D dA A nL w cells slots Q pc lv (x :: y :: st) :=
  fun H locs ls hP hS hl => lv_dup2_11 X.x X.b hd ((tv_cat x).trans hx) ((tv_cat y).trans hy) (kk H locs ls hP hS hl)
theorem mv_if_eq (X : mX p s m args meth c own nm cc nL ret D dA A) {x : Int32} {off : Int} {tgt : Nat} (hd : decode cc pc = .ok (.ifCond .eq off, 3)) (ht : (pc : Int) + off = (tgt : Int)) (kt : x = 0 → mV p l e R s m args below meth c D dA A nL w cells slots Q tgt lv st) (kf : ¬ x = 0 → mV p l e R s m args below meth c D dA A nL w cells slots Q (pc + 3) lv st) : mV p l e R s m args below meth c D dA A nL w cells slots Q pc lv (vI x :: st) :=
  fun H locs ls hP hS hl => lv_if_eq X.x X.b hd ht (fun h => kt h H locs ls hP hS hl) (fun h => kf h H locs ls hP hS hl)
theorem mv_if_ne (X : mX p s m args meth c own nm cc nL ret D dA A) {x : Int32} {off : Int} {tgt : Nat} (hd : decode cc pc = .ok (.ifCond .ne off, 3)) (ht : (pc : Int) + off = (tgt : Int)) (kt : ¬ x = 0 → mV p l e R s m args below meth c D dA A nL w cells slots Q tgt lv st) (kf : x = 0 → mV p l e R s m args below meth c D dA A nL w cells slots Q (pc + 3) lv st) : mV p l e R s m args below meth c D dA A nL w cells slots Q pc lv (vI x :: st) :=
  fun H locs ls hP hS hl => lv_if_ne X.x X.b hd ht (fun h => kt h H locs ls hP hS hl) (fun h => kf h H locs ls hP hS hl)
theorem mv_if_lt (X : mX p s m args meth c own nm cc nL ret D dA A) {x : Int32} {off : Int} {tgt : Nat} (hd : decode cc pc = .ok (.ifCond .lt off, 3)) (ht : (pc : Int) + off = (tgt : Int)) (kt : x < 0 → mV p l e R s m args below meth c D dA A nL w cells slots Q tgt lv st) (kf : ¬ x < 0 → mV p l e R s m args below meth c D dA A nL w cells slots Q (pc + 3) lv st) : mV p l e R s m args below meth c D dA A nL w cells slots Q pc lv (vI x :: st) :=
  fun H locs ls hP hS hl => lv_if_lt X.x X.b hd ht (fun h => kt h H locs ls hP hS hl) (fun h => kf h H locs ls hP hS hl)
theorem mv_if_ge (X : mX p s m args meth c own nm cc nL ret D dA A) {x : Int32} {off : Int} {tgt : Nat} (hd : decode cc pc = .ok (.ifCond .ge off, 3)) (ht : (pc : Int) + off = (tgt : Int)) (kt : 0 ≤ x → mV p l e R s m args below meth c D dA A nL w cells slots Q tgt lv st) (kf : ¬ 0 ≤ x → mV p l e R s m args below meth c D dA A nL w cells slots Q (pc + 3) lv st) : mV p l e R s m args below meth c D dA A nL w cells slots Q pc lv (vI x :: st) :=
  fun H locs ls hP hS hl => lv_if_ge X.x X.b hd ht (fun h => kt h H locs ls hP hS hl) (fun h => kf h H locs ls hP hS hl)
theorem mv_if_gt (X : mX p s m args meth c own nm cc nL ret D dA A) {x : Int32} {off : Int} {tgt : Nat} (hd : decode cc pc = .ok (.ifCond .gt off, 3)) (ht : (pc : Int) + off = (tgt : Int)) (kt : 0 < x → mV p l e R s m args below meth c D dA A nL w cells slots Q tgt lv st) (kf : ¬ 0 < x → mV p l e R s m args below meth c D dA A nL w cells slots Q (pc + 3) lv st) : mV p l e R s m args below meth c D dA A nL w cells slots Q pc lv (vI x :: st) :=
  fun H locs ls hP hS hl => lv_if_gt X.x X.b hd ht (fun h => kt h H locs ls hP hS hl) (fun h => kf h H locs ls hP hS hl)
theorem mv_if_le (X : mX p s m args meth c own nm cc nL ret D dA A) {x : Int32} {off : Int} {tgt : Nat} (hd : decode cc pc = .ok (.ifCond .le off, 3)) (ht : (pc : Int) + off = (tgt : Int)) (kt : x ≤ 0 → mV p l e R s m args below meth c D dA A nL w cells slots Q tgt lv st) (kf : ¬ x ≤ 0 → mV p l e R s m args below meth c D dA A nL w cells slots Q (pc + 3) lv st) : mV p l e R s m args below meth c D dA A nL w cells slots Q pc lv (vI x :: st) :=
  fun H locs ls hP hS hl => lv_if_le X.x X.b hd ht (fun h => kt h H locs ls hP hS hl) (fun h => kf h H locs ls hP hS hl)
theorem mv_icmp_eq (X : mX p s m args meth c own nm cc nL ret D dA A) {x y : Int32} {off : Int} {tgt : Nat} (hd : decode cc pc = .ok (.if_icmp .eq off, 3)) (ht : (pc : Int) + off = (tgt : Int)) (kt : x = y → mV p l e R s m args below meth c D dA A nL w cells slots Q tgt lv st) (kf : ¬ x = y → mV p l e R s m args below meth c D dA A nL w cells slots Q (pc + 3) lv st) : mV p l e R s m args below meth c D dA A nL w cells slots Q pc lv (vI y :: vI x :: st) :=
  fun H locs ls hP hS hl => lv_icmp_eq X.x X.b hd ht (fun h => kt h H locs ls hP hS hl) (fun h => kf h H locs ls hP hS hl)
theorem mv_icmp_ne (X : mX p s m args meth c own nm cc nL ret D dA A) {x y : Int32} {off : Int} {tgt : Nat} (hd : decode cc pc = .ok (.if_icmp .ne off, 3)) (ht : (pc : Int) + off = (tgt : Int)) (kt : ¬ x = y → mV p l e R s m args below meth c D dA A nL w cells slots Q tgt lv st) (kf : x = y → mV p l e R s m args below meth c D dA A nL w cells slots Q (pc + 3) lv st) : mV p l e R s m args below meth c D dA A nL w cells slots Q pc lv (vI y :: vI x :: st) :=
  fun H locs ls hP hS hl => lv_icmp_ne X.x X.b hd ht (fun h => kt h H locs ls hP hS hl) (fun h => kf h H locs ls hP hS hl)
theorem mv_icmp_lt (X : mX p s m args meth c own nm cc nL ret D dA A) {x y : Int32} {off : Int} {tgt : Nat} (hd : decode cc pc = .ok (.if_icmp .lt off, 3)) (ht : (pc : Int) + off = (tgt : Int)) (kt : x < y → mV p l e R s m args below meth c D dA A nL w cells slots Q tgt lv st) (kf : ¬ x < y → mV p l e R s m args below meth c D dA A nL w cells slots Q (pc + 3) lv st) : mV p l e R s m args below meth c D dA A nL w cells slots Q pc lv (vI y :: vI x :: st) :=
  fun H locs ls hP hS hl => lv_icmp_lt X.x X.b hd ht (fun h => kt h H locs ls hP hS hl) (fun h => kf h H locs ls hP hS hl)
theorem mv_icmp_ge (X : mX p s m args meth c own nm cc nL ret D dA A) {x y : Int32} {off : Int} {tgt : Nat} (hd : decode cc pc = .ok (.if_icmp .ge off, 3)) (ht : (pc : Int) + off = (tgt : Int)) (kt : y ≤ x → mV p l e R s m args below meth c D dA A nL w cells slots Q tgt lv st) (kf : ¬ y ≤ x → mV p l e R s m args below meth c D dA A nL w cells slots Q (pc + 3) lv st) : mV p l e R s m args below meth c D dA A nL w cells slots Q pc lv (vI y :: vI x :: st) :=
  fun H locs ls hP hS hl => lv_icmp_ge X.x X.b hd ht (fun h => kt h H locs ls hP hS hl) (fun h => kf h H locs ls hP hS hl)
theorem mv_icmp_gt (X : mX p s m args meth c own nm cc nL ret D dA A) {x y : Int32} {off : Int} {tgt : Nat} (hd : decode cc pc = .ok (.if_icmp .gt off, 3)) (ht : (pc : Int) + off = (tgt : Int)) (kt : y < x → mV p l e R s m args below meth c D dA A nL w cells slots Q tgt lv st) (kf : ¬ y < x → mV p l e R s m args below meth c D dA A nL w cells slots Q (pc + 3) lv st) : mV p l e R s m args below meth c D dA A nL w cells slots Q pc lv (vI y :: vI x :: st) :=
  fun H locs ls hP hS hl => lv_icmp_gt X.x X.b hd ht (fun h => kt h H locs ls hP hS hl) (fun h => kf h H locs ls hP hS hl)
theorem mv_icmp_le (X : mX p s m args meth c own nm cc nL ret D dA A) {x y : Int32} {off : Int} {tgt : Nat} (hd : decode cc pc = .ok (.if_icmp .le off, 3)) (ht : (pc : Int) + off = (tgt : Int)) (kt : x ≤ y → mV p l e R s m args below meth c D dA A nL w cells slots Q tgt lv st) (kf : ¬ x ≤ y → mV p l e R s m args below meth c D dA A nL w cells slots Q (pc + 3) lv st) : mV p l e R s m args below meth c D dA A nL w cells slots Q pc lv (vI y :: vI x :: st) :=
  fun H locs ls hP hS hl => lv_icmp_le X.x X.b hd ht (fun h => kt h H locs ls hP hS hl) (fun h => kf h H locs ls hP hS hl)
theorem mv_acmp_eq (X : mX p s m args meth c own nm cc nL ret D dA A) {x y : Option Nat} {off : Int} {tgt : Nat} (hd : decode cc pc = .ok (.if_acmp .eq off, 3)) (ht : (pc : Int) + off = (tgt : Int)) (kt : x = y → mV p l e R s m args below meth c D dA A nL w cells slots Q tgt lv st) (kf : ¬ x = y → mV p l e R s m args below meth c D dA A nL w cells slots Q (pc + 3) lv st) : mV p l e R s m args below meth c D dA A nL w cells slots Q pc lv (vR y :: vR x :: st) :=
  fun H locs ls hP hS hl => lv_acmp_eq X.x X.b hd ht (fun h => kt h H locs ls hP hS hl) (fun h => kf h H locs ls hP hS hl)
theorem mv_acmp_ne (X : mX p s m args meth c own nm cc nL ret D dA A) {x y : Option Nat} {off : Int} {tgt : Nat} (hd : decode cc pc = .ok (.if_acmp .ne off, 3)) (ht : (pc : Int) + off = (tgt : Int)) (kt : ¬ x = y → mV p l e R s m args below meth c D dA A nL w cells slots Q tgt lv st) (kf : x = y → mV p l e R s m args below meth c D dA A nL w cells slots Q (pc + 3) lv st) : mV p l e R s m args below meth c D dA A nL w cells slots Q pc lv (vR y :: vR x :: st) :=
  fun H locs ls hP hS hl => lv_acmp_ne X.x X.b hd ht (fun h => kt h H locs ls hP hS hl) (fun h => kf h H locs ls hP hS hl)
theorem mv_ifnull (X : mX p s m args meth c own nm cc nL ret D dA A) {x : Option Nat} {off : Int} {tgt : Nat} (hd : decode cc pc = .ok (.ifnull off, 3)) (ht : (pc : Int) + off = (tgt : Int)) (kt : x = none → mV p l e R s m args below meth c D dA A nL w cells slots Q tgt lv st) (kf : ∀ a, x = some a → mV p l e R s m args below meth c D dA A nL w cells slots Q (pc + 3) lv st) : mV p l e R s m args below meth c D dA A nL w cells slots Q pc lv (vR x :: st) := by
  intro H locs ls hP hS hl
  cases x with
  | none => exact lv_ifnullN X.x X.b hd ht (kt rfl H locs ls hP hS hl)
  | some a => exact lv_ifnull X.x X.b hd (kf a rfl H locs ls hP hS hl)
theorem mv_ifnonnull (X : mX p s m args meth c own nm cc nL ret D dA A) {x : Option Nat} {off : Int} {tgt : Nat} (hd : decode cc pc = .ok (.ifnonnull off, 3)) (ht : (pc : Int) + off = (tgt : Int)) (kt : ∀ a, x = some a → mV p l e R s m args below meth c D dA A nL w cells slots Q tgt lv st) (kf : x = none → mV p l e R s m args below meth c D dA A nL w cells slots Q (pc + 3) lv st) : mV p l e R s m args below meth c D dA A nL w cells slots Q pc lv (vR x :: st) := by
  intro H locs ls hP hS hl
  cases x with
  | none => exact lv_ifnonnullN X.x X.b hd (kf rfl H locs ls hP hS hl)
  | some a => exact lv_ifnonnull X.x X.b hd ht (kt a rfl H locs ls hP hS hl)
theorem mv_goto (X : mX p s m args meth c own nm cc nL ret D dA A) {off : Int} {tgt : Nat} (hd : decode cc pc = .ok (.goto off, 3)) (ht : (pc : Int) + off = (tgt : Int)) (kk : mV p l e R s m args below meth c D dA A nL w cells slots Q tgt lv st) : mV p l e R s m args below meth c D dA A nL w cells slots Q pc lv st :=
  fun H locs ls hP hS hl => lv_goto X.x X.b hd ht (kk H locs ls hP hS hl)
theorem mv_tabOut (X : mX p s m args meth c own nm cc nL ret D dA A) {dflt lo hi : Int} {offs : Array Int} {len : Nat} {x : Int32} {tgt : Nat} (hd : decode cc pc = .ok (.tableswitch dflt lo hi offs, len)) (h : x.toInt < lo ∨ hi < x.toInt) (ht : (pc : Int) + dflt = (tgt : Int)) (kk : mV p l e R s m args below meth c D dA A nL w cells slots Q tgt lv st) : mV p l e R s m args below meth c D dA A nL w cells slots Q pc lv (vI x :: st) :=
  fun H locs ls hP hS hl => lv_tableOut X.x X.b hd h ht (kk H locs ls hP hS hl)
theorem mv_tabIn (X : mX p s m args meth c own nm cc nL ret D dA A) {dflt lo hi : Int} {offs : Array Int} {len : Nat} {x : Int32} {off : Int} {tgt : Nat} (hd : decode cc pc = .ok (.tableswitch dflt lo hi offs, len)) (h1 : ¬ x.toInt < lo) (h2 : ¬ hi < x.toInt) (ho : offs[(x.toInt - lo).toNat]? = some off) (ht : (pc : Int) + off = (tgt : Int)) (kk : mV p l e R s m args below meth c D dA A nL w cells slots Q tgt lv st) : mV p l e R s m args below meth c D dA A nL w cells slots Q pc lv (vI x :: st) :=
  fun H locs ls hP hS hl => lv_tableIn X.x X.b hd h1 h2 ho ht (kk H locs ls hP hS hl)
theorem mv_sub {lv' : tL} (ks : List Nat) (h : ks.filterMap (fun k => lv[k]?) = lv') (kk : mV p l e R s m args below meth c D dA A nL w cells slots Q pc lv' st) : mV p l e R s m args below meth c D dA A nL w cells slots Q pc lv st := by
  intro H locs ls hP hS hl
  refine kk H locs ls hP hS (lv_sub hl ks ?_)
  subst h
  unfold lv_pick lvm
  rw [List.map_filterMap]
  congr 1
  funext k
  rw [List.getElem?_map]
theorem mv_topi {x : Int32} (k : ∀ y : Int32, y = x → mV p l e R s m args below meth c D dA A nL w cells slots Q pc lv (vI y :: st)) : mV p l e R s m args below meth c D dA A nL w cells slots Q pc lv (vI x :: st) := k x rfl
theorem mv_topr {x : Option Nat} (k : ∀ y : Option Nat, y = x → mV p l e R s m args below meth c D dA A nL w cells slots Q pc lv (vR y :: st)) : mV p l e R s m args below meth c D dA A nL w cells slots Q pc lv (vR x :: st) := k x rfl
theorem mv_widen {k n : Nat} (h1 : cells ≤ k) (h2 : slots ≤ n) (kk : mV p l e R s m args below meth c D dA A nL w k n Q pc lv st) : mV p l e R s m args below meth c D dA A nL w cells slots Q pc lv st :=
  fun H locs ls hP hS hl => W.widen h1 h2 (kk H locs ls hP hS hl)
theorem mv_geti (X : mX p s m args meth c own nm cc nL ret D dA A) {idx k a : Nat} {x : Int32} {cs : List Nat} {fin wr : Bool} {ty : FieldType} (hd : decode cc pc = .ok (.getfield idx, 3)) (hs : sOk own idx cs k false fin wr ty) (ha : mIs w cs a) (hv : gI w k a = x) (kk : mV p l e R s m args below meth c D dA A nL w cells slots Q (pc + 3) lv (vI x :: st)) : mV p l e R s m args below meth c D dA A nL w cells slots Q pc lv (vR (some a) :: st) := by
  intro H locs ls hP hS hl
  subst hv
  obtain ⟨c0, hc0, hk⟩ := ha
  obtain ⟨C, T, N, ty0, j, ref, ⟨hcl, hin, -⟩, hj, hlink, hsame, hg, hb, -⟩ := hs c0 hc0
  obtain ⟨⟨r, h1, cell, q1, q2, q3, q4⟩, -⟩ := hP a _ hk
  have hr : r = (C, T, N) := Option.some.inj (h1.symm.trans hcl)
  subst hr
  obtain ⟨hS1, hfc, kC, hkC, hkind⟩ := X.kn.1.1 c0 _ hcl
  obtain ⟨cf, kf, fi, f, hi, hsl⟩ := hS1 j hj
  refine W.getf X.x X.b X.oc (X.ts _ hlink) (m_same X.ts hsame _ hi) (u_facts hfc hkC (u_lays X.ts hin hj) hi).1 q1 (by rw [q3]; exact fun h => by cases h) (v := .int (gI w k a)) ?_ rfl rfl hd (kk H locs ls hP hS hl)
  rw [hsl, q4 j hj]
  show some (mfv w c0 j a) = _
  unfold mfv
  rw [hb, hg]
  rfl
theorem mv_getr (X : mX p s m args meth c own nm cc nL ret D dA A) {idx k a : Nat} {x : Option Nat} {cs : List Nat} {fin wr : Bool} {ty : FieldType} (hd : decode cc pc = .ok (.getfield idx, 3)) (hs : sOk own idx cs k true fin wr ty) (ha : mIs w cs a) (hv : gR w k a = x) (kk : mV p l e R s m args below meth c D dA A nL w cells slots Q (pc + 3) lv (vR x :: st)) : mV p l e R s m args below meth c D dA A nL w cells slots Q pc lv (vR (some a) :: st) := by
  intro H locs ls hP hS hl
  subst hv
  obtain ⟨c0, hc0, hk⟩ := ha
  obtain ⟨C, T, N, ty0, j, ref, ⟨hcl, hin, -⟩, hj, hlink, hsame, hg, hb, -⟩ := hs c0 hc0
  obtain ⟨⟨r, h1, cell, q1, q2, q3, q4⟩, -⟩ := hP a _ hk
  have hr : r = (C, T, N) := Option.some.inj (h1.symm.trans hcl)
  subst hr
  obtain ⟨hS1, hfc, kC, hkC, hkind⟩ := X.kn.1.1 c0 _ hcl
  obtain ⟨cf, kf, fi, f, hi, hsl⟩ := hS1 j hj
  refine W.getf X.x X.b X.oc (X.ts _ hlink) (m_same X.ts hsame _ hi) (u_facts hfc hkC (u_lays X.ts hin hj) hi).1 q1 (by rw [q3]; exact fun h => by cases h) (v := va_rf (gR w k a)) ?_ rfl rfl hd (kk H locs ls hP hS hl)
  rw [hsl, q4 j hj]
  show some (mfv w c0 j a) = _
  unfold mfv
  rw [hb, hg]
  rfl
theorem mv_puti (X : mX p s m args meth c own nm cc nL ret D dA A) {idx k a : Nat} {cs : List Nat} {wr : Bool} {ty : FieldType} {x : Int32} (hd : decode cc pc = .ok (.putfield idx, 3)) (hs : sOk own idx cs k false false wr ty) (ha : mIs w cs a) (hn : narrow ty (.int x) = .int x) (hf : fits ty (.int x) = true) (kk : mV p l e R s m args below meth c D dA A nL (sI w k a x) cells slots Q (pc + 3) lv st) : mV p l e R s m args below meth c D dA A nL w cells slots Q pc lv (vI x :: vR (some a) :: st) := by
  intro H locs ls hP hS hl
  obtain ⟨c0, hc0, hk⟩ := ha
  obtain ⟨C, T, N, ty0, j, ref, ⟨hcl, hin, hpd, hnms, hfi, hdv⟩, hj, hlink, hsame, hg, hb, hfin, hfo, hty⟩ := hs c0 hc0
  obtain ⟨⟨r, h1, cell, q1, q2, q3, q4⟩, hAa⟩ := hP a _ hk
  have hr : r = (C, T, N) := Option.some.inj (h1.symm.trans hcl)
  subst hr
  have hap := va_apart (own := own) X.ts hin ty0 hpd hnms X.kn.1 hcl
  obtain ⟨hS1, hfc, kC, hkC, hkind⟩ := X.kn.1.1 c0 _ hcl
  obtain ⟨cf, kf, fi, f, hi, hsl⟩ := hS1 j hj
  have hpd1 : parseFieldDescriptor (T j).2.2.1 = some ty := by rw [hpd j hj, hty]
  have hst := (u_facts hfc hkC (u_lays X.ts hin hj) hi).1
  have hlay := X.ts _ (hin _ (u_in_lay hj))
  unfold u_lay at hlay
  rw [if_neg (by rw [hfin]; decide)] at hlay
  have h6 := u_store (v := .int x) hfc hkC hkind hlay hi hpd1 hn hf
  refine W.putK X.x X.b (f := f) ⟨X.oc, X.ts _ hlink, ⟨_, _, _, m_same X.ts hsame _ hi⟩, hst⟩ (by rw [q2]; exact h6) q1 q3 (by rw [hsl]; exact k2_hasslot (q4 j hj)) rfl rfl hd fun H' e1 e2 e3 => ?_
  rw [hsl] at e1 ⊢
  refine kk H' _ ls (hP.setf hk hcl hj q2 q3 q4 hap e1 e3 rfl (fun a' c' j' h => mfv_sI_na h) rfl ?_ (fun j' hj' hne => mfv_sI_nk (by rw [← hg]; exact hfi j' hj' j hj hne))) (hS.put e2 e3 hAa) hl
  unfold mfv
  rw [hb, hg]
  show Value.int (gI (sI w k a x) k a) = _
  rw [gI_sI_eq]
  rfl
theorem mv_putr (X : mX p s m args meth c own nm cc nL ret D dA A) {idx k a : Nat} {cs : List Nat} {wr : Bool} {ty : FieldType} {x : Option Nat} (hd : decode cc pc = .ok (.putfield idx, 3)) (hs : sOk own idx cs k true false wr ty) (ha : mIs w cs a) (hn : narrow ty (va_rf x) = va_rf x) (hf : fits ty (va_rf x) = true) (kk : mV p l e R s m args below meth c D dA A nL (sR w k a x) cells slots Q (pc + 3) lv st) : mV p l e R s m args below meth c D dA A nL w cells slots Q pc lv (vR x :: vR (some a) :: st) := by
  intro H locs ls hP hS hl
  obtain ⟨c0, hc0, hk⟩ := ha
  obtain ⟨C, T, N, ty0, j, ref, ⟨hcl, hin, hpd, hnms, hfi, hdv⟩, hj, hlink, hsame, hg, hb, hfin, hfo, hty⟩ := hs c0 hc0
  obtain ⟨⟨r, h1, cell, q1, q2, q3, q4⟩, hAa⟩ := hP a _ hk
  have hr : r = (C, T, N) := Option.some.inj (h1.symm.trans hcl)
  subst hr
  have hap := va_apart (own := own) X.ts hin ty0 hpd hnms X.kn.1 hcl
  obtain ⟨hS1, hfc, kC, hkC, hkind⟩ := X.kn.1.1 c0 _ hcl
  obtain ⟨cf, kf, fi, f, hi, hsl⟩ := hS1 j hj
  have hpd1 : parseFieldDescriptor (T j).2.2.1 = some ty := by rw [hpd j hj, hty]
  have hst := (u_facts hfc hkC (u_lays X.ts hin hj) hi).1
  have hlay := X.ts _ (hin _ (u_in_lay hj))
  unfold u_lay at hlay
  rw [if_neg (by rw [hfin]; decide)] at hlay
  have h6 := u_store (v := va_rf x) hfc hkC hkind hlay hi hpd1 hn hf
  refine W.putK X.x X.b (f := f) ⟨X.oc, X.ts _ hlink, ⟨_, _, _, m_same X.ts hsame _ hi⟩, hst⟩ (by rw [q2]; exact h6) q1 q3 (by rw [hsl]; exact k2_hasslot (q4 j hj)) rfl rfl hd fun H' e1 e2 e3 => ?_
  rw [hsl] at e1 ⊢
  refine kk H' _ ls (hP.setf hk hcl hj q2 q3 q4 hap e1 e3 rfl (fun a' c' j' h => mfv_sR_na h) rfl ?_ (fun j' hj' hne => mfv_sR_nk (by rw [← hg]; exact hfi j' hj' j hj hne))) (hS.put e2 e3 hAa) hl
  unfold mfv
  rw [hb, hg]
  show va_rf (gR (sR w k a x) k a) = _
  rw [gR_sR_eq]
  rfl
theorem mv_putiF (X : mX p s m args meth c own nm cc nL ret D dA A) {idx k a : Nat} {cs : List Nat} {ty : FieldType} {x : Int32} (hd : decode cc pc = .ok (.putfield idx, 3)) (hs : sOk own idx cs k false true true ty) (ha : mIs w cs a) (hnm : nm = "<init>") (hn : narrow ty (.int x) = .int x) (hf : fits ty (.int x) = true) (kk : mV p l e R s m args below meth c D dA A nL (sI w k a x) cells slots Q (pc + 3) lv st) : mV p l e R s m args below meth c D dA A nL w cells slots Q pc lv (vI x :: vR (some a) :: st) := by
  intro H locs ls hP hS hl
  obtain ⟨c0, hc0, hk⟩ := ha
  obtain ⟨C, T, N, ty0, j, ref, ⟨hcl, hin, hpd, hnms, hfi, hdv⟩, hj, hlink, hsame, hg, hb, hfin, hfo, hty⟩ := hs c0 hc0
  obtain ⟨⟨r, h1, cell, q1, q2, q3, q4⟩, hAa⟩ := hP a _ hk
  have hr : r = (C, T, N) := Option.some.inj (h1.symm.trans hcl)
  subst hr
  have hap := va_apart (own := own) X.ts hin ty0 hpd hnms X.kn.1 hcl
  obtain ⟨hS1, hfc, kC, hkC, hkind⟩ := X.kn.1.1 c0 _ hcl
  obtain ⟨cf, kf, fi, f, hi, hsl⟩ := hS1 j hj
  have hpd1 : parseFieldDescriptor (T j).2.2.1 = some ty := by rw [hpd j hj, hty]
  have hst := (u_facts hfc hkC (u_lays X.ts hin hj) hi).1
  have h6 := u_fits (v := .int x) hfc hkC hkind (u_lays X.ts hin hj) hi hpd1 hn hf
  have hlay := X.ts _ (hin _ (u_in_lay hj))
  unfold u_lay at hlay
  rw [if_pos hfin] at hlay
  have hcf : m.cls = cf := by
    obtain ⟨_, _, c', _, _, _, -, -, hf', -, -, -, hown2, -⟩ := Cond.laysFinal_spec hlay
    have e1 : c' = cf := by have := hi.symm.trans hf'; simp at this; exact this.1.symm
    rw [hfo rfl] at hown2
    rw [← e1]; exact Option.some.inj (X.oc.symm.trans hown2)
  refine W.putFinK X.x X.b X.oc (X.ts _ hlink) (m_same X.ts hsame _ hi) hst hcf (X.nn.trans hnm) (by rw [q2]; exact h6) q1 q3 (by rw [hsl]; exact k2_hasslot (q4 j hj)) rfl rfl hd fun H' e1 e2 e3 => ?_
  rw [hsl] at e1 ⊢
  refine kk H' _ ls (hP.setf hk hcl hj q2 q3 q4 hap e1 e3 rfl (fun a' c' j' h => mfv_sI_na h) rfl ?_ (fun j' hj' hne => mfv_sI_nk (by rw [← hg]; exact hfi j' hj' j hj hne))) (hS.put e2 e3 hAa) hl
  unfold mfv
  rw [hb, hg]
  show Value.int (gI (sI w k a x) k a) = _
  rw [gI_sI_eq]
  rfl
theorem mv_putrF (X : mX p s m args meth c own nm cc nL ret D dA A) {idx k a : Nat} {cs : List Nat} {ty : FieldType} {x : Option Nat} (hd : decode cc pc = .ok (.putfield idx, 3)) (hs : sOk own idx cs k true true true ty) (ha : mIs w cs a) (hnm : nm = "<init>") (hn : narrow ty (va_rf x) = va_rf x) (hf : fits ty (va_rf x) = true) (kk : mV p l e R s m args below meth c D dA A nL (sR w k a x) cells slots Q (pc + 3) lv st) : mV p l e R s m args below meth c D dA A nL w cells slots Q pc lv (vR x :: vR (some a) :: st) := by
  intro H locs ls hP hS hl
  obtain ⟨c0, hc0, hk⟩ := ha
  obtain ⟨C, T, N, ty0, j, ref, ⟨hcl, hin, hpd, hnms, hfi, hdv⟩, hj, hlink, hsame, hg, hb, hfin, hfo, hty⟩ := hs c0 hc0
  obtain ⟨⟨r, h1, cell, q1, q2, q3, q4⟩, hAa⟩ := hP a _ hk
  have hr : r = (C, T, N) := Option.some.inj (h1.symm.trans hcl)
  subst hr
  have hap := va_apart (own := own) X.ts hin ty0 hpd hnms X.kn.1 hcl
  obtain ⟨hS1, hfc, kC, hkC, hkind⟩ := X.kn.1.1 c0 _ hcl
  obtain ⟨cf, kf, fi, f, hi, hsl⟩ := hS1 j hj
  have hpd1 : parseFieldDescriptor (T j).2.2.1 = some ty := by rw [hpd j hj, hty]
  have hst := (u_facts hfc hkC (u_lays X.ts hin hj) hi).1
  have h6 := u_fits (v := va_rf x) hfc hkC hkind (u_lays X.ts hin hj) hi hpd1 hn hf
  have hlay := X.ts _ (hin _ (u_in_lay hj))
  unfold u_lay at hlay
  rw [if_pos hfin] at hlay
  have hcf : m.cls = cf := by
    obtain ⟨_, _, c', _, _, _, -, -, hf', -, -, -, hown2, -⟩ := Cond.laysFinal_spec hlay
    have e1 : c' = cf := by have := hi.symm.trans hf'; simp at this; exact this.1.symm
    rw [hfo rfl] at hown2
    rw [← e1]; exact Option.some.inj (X.oc.symm.trans hown2)
  refine W.putFinK X.x X.b X.oc (X.ts _ hlink) (m_same X.ts hsame _ hi) hst hcf (X.nn.trans hnm) (by rw [q2]; exact h6) q1 q3 (by rw [hsl]; exact k2_hasslot (q4 j hj)) rfl rfl hd fun H' e1 e2 e3 => ?_
  rw [hsl] at e1 ⊢
  refine kk H' _ ls (hP.setf hk hcl hj q2 q3 q4 hap e1 e3 rfl (fun a' c' j' h => mfv_sR_na h) rfl ?_ (fun j' hj' hne => mfv_sR_nk (by rw [← hg]; exact hfi j' hj' j hj hne))) (hS.put e2 e3 hAa) hl
  unfold mfv
  rw [hb, hg]
  show va_rf (gR (sR w k a x) k a) = _
  rw [gR_sR_eq]
  rfl
theorem mv_lload (X : mX p s m args meth c own nm cc nL ret D dA A) {i : Nat} {x : Int64} (k : Nat) (hd : decode cc pc = .ok (.lload i, 2)) (h : lv[k]? = some (i, vJ x)) (kk : mV p l e R s m args below meth c D dA A nL w cells slots Q (pc + 2) lv (vJ x :: st)) : mV p l e R s m args below meth c D dA A nL w cells slots Q pc lv st :=
  fun H locs ls hP hS hl => lv_lload X.x X.b hd (lv_at hl k (lvm_get h)) (kk H locs ls hP hS hl)
theorem mv_lstore (X : mX p s m args meth c own nm cc nL ret D dA A) {i : Nat} {x : Int64} {lv' : tL} (hd : decode cc pc = .ok (.lstore i, 2)) (hn : i + 1 < nL) (hv : tset2 lv i (vJ x) = lv') (kk : mV p l e R s m args below meth c D dA A nL w cells slots Q (pc + 2) lv' st) : mV p l e R s m args below meth c D dA A nL w cells slots Q pc lv (vJ x :: st) :=
  fun H locs ls hP hS hl => lv_lstore X.x X.b hd hl hn (lvm_set2 lv i (vJ x)) (fun ls' hl' => kk H locs ls' hP hS (hv ▸ hl'))
theorem mv_lload_n (X : mX p s m args meth c own nm cc nL ret D dA A) {i : Fin 4} {x : Int64} (k : Nat) (hd : decode cc pc = .ok (.lload_n i, 1)) (h : lv[k]? = some ((i : Nat), vJ x)) (kk : mV p l e R s m args below meth c D dA A nL w cells slots Q (pc + 1) lv (vJ x :: st)) : mV p l e R s m args below meth c D dA A nL w cells slots Q pc lv st :=
  fun H locs ls hP hS hl => lv_lload_n X.x X.b hd rfl (lv_at hl k (lvm_get h)) (kk H locs ls hP hS hl)
theorem mv_lstore_n (X : mX p s m args meth c own nm cc nL ret D dA A) {i : Fin 4} {x : Int64} {lv' : tL} (hd : decode cc pc = .ok (.lstore_n i, 1)) (hn : (i : Nat) + 1 < nL) (hv : tset2 lv (i : Nat) (vJ x) = lv') (kk : mV p l e R s m args below meth c D dA A nL w cells slots Q (pc + 1) lv' st) : mV p l e R s m args below meth c D dA A nL w cells slots Q pc lv (vJ x :: st) :=
  fun H locs ls hP hS hl => lv_lstore_n X.x X.b hd rfl hl hn (lvm_set2 lv (i : Nat) (vJ x)) (fun ls' hl' => kk H locs ls' hP hS (hv ▸ hl'))
theorem mv_land (X : mX p s m args meth c own nm cc nL ret D dA A) {x y : Int64} (hd : decode cc pc = .ok (.land, 1)) (kk : mV p l e R s m args below meth c D dA A nL w cells slots Q (pc + 1) lv (vJ (x &&& y) :: st)) : mV p l e R s m args below meth c D dA A nL w cells slots Q pc lv (vJ y :: vJ x :: st) :=
  fun H locs ls hP hS hl => lv_land X.x X.b hd (kk H locs ls hP hS hl)
theorem mv_lor (X : mX p s m args meth c own nm cc nL ret D dA A) {x y : Int64} (hd : decode cc pc = .ok (.lor, 1)) (kk : mV p l e R s m args below meth c D dA A nL w cells slots Q (pc + 1) lv (vJ (x ||| y) :: st)) : mV p l e R s m args below meth c D dA A nL w cells slots Q pc lv (vJ y :: vJ x :: st) :=
  fun H locs ls hP hS hl => lv_lor X.x X.b hd (kk H locs ls hP hS hl)
theorem mv_lshr (X : mX p s m args meth c own nm cc nL ret D dA A) {x v : Int64} {y : Int32} (hd : decode cc pc = .ok (.lshr, 1)) (hv : x >>> (y.toInt64 &&& 63) = v) (kk : mV p l e R s m args below meth c D dA A nL w cells slots Q (pc + 1) lv (vJ v :: st)) : mV p l e R s m args below meth c D dA A nL w cells slots Q pc lv (vI y :: vJ x :: st) :=
  fun H locs ls hP hS hl => lv_lshr X.x X.b hd hv (kk H locs ls hP hS hl)
theorem mv_i2l (X : mX p s m args meth c own nm cc nL ret D dA A) {x : Int32} {v : Int64} (hd : decode cc pc = .ok (.i2l, 1)) (hv : x.toInt64 = v) (kk : mV p l e R s m args below meth c D dA A nL w cells slots Q (pc + 1) lv (vJ v :: st)) : mV p l e R s m args below meth c D dA A nL w cells slots Q pc lv (vI x :: st) :=
  fun H locs ls hP hS hl => lv_i2l X.x X.b hd hv (kk H locs ls hP hS hl)
theorem mv_l2i (X : mX p s m args meth c own nm cc nL ret D dA A) {x : Int64} {v : Int32} (hd : decode cc pc = .ok (.l2i, 1)) (hv : x.toInt32 = v) (kk : mV p l e R s m args below meth c D dA A nL w cells slots Q (pc + 1) lv (vI v :: st)) : mV p l e R s m args below meth c D dA A nL w cells slots Q pc lv (vJ x :: st) :=
  fun H locs ls hP hS hl => lv_l2i X.x X.b hd hv (kk H locs ls hP hS hl)
theorem mv_lcmp (X : mX p s m args meth c own nm cc nL ret D dA A) {x y : Int64} (hd : decode cc pc = .ok (.lcmp, 1)) (kk : mV p l e R s m args below meth c D dA A nL w cells slots Q (pc + 1) lv (vI (lg_cmp x y) :: st)) : mV p l e R s m args below meth c D dA A nL w cells slots Q pc lv (vJ y :: vJ x :: st) :=
  fun H locs ls hP hS hl => W.lcmp X.x X.b hd (kk H locs ls hP hS hl)
theorem mv_ldc2 (X : mX p s m args meth c own nm cc nL ret D dA A) {idx : Nat} {v : Int64} (hd : decode cc pc = .ok (.ldc2_w idx, 3)) (hc : Cond.constantLong own idx v ∈ mAll) (kk : mV p l e R s m args below meth c D dA A nL w cells slots Q (pc + 3) lv (vJ v :: st)) : mV p l e R s m args below meth c D dA A nL w cells slots Q pc lv st :=
  fun H locs ls hP hS hl => lv_ldc2 X.x X.b X.oc (X.ts _ hc) hd (kk H locs ls hP hS hl)
end MV
/-! new cells, arrays, calls, ends -/
section MV4
variable {p : Program} {l : Launch} {e : Env} {R : Room} {s : State} {m : MethodId} {args : Array Value} {below : List Frame} {meth : Method} {c : Code} {own nm : String} {cc : ByteArray} {nL : Nat} {ret : Option FieldType} {D : va_G} {dA : Nat → ClassId} {A : Nat → Prop} {w : mW} {cells slots : Nat} {Q : State → Prop} {pc : Nat} {lv : tL} {st : List tV}
def nOk (own : String) (idx c N : Nat) : Prop := ∃ (C : String) (T : u_T) (ty0 : Nat → FieldType), mTab c C T N ty0 ∧ Cond.classLink own idx C ∈ mAll ∧ Cond.instantiable C N ∈ mAll ∧ Cond.initialized C ∈ mAll
theorem mfv_nO_ne {w : mW} {q c0 c j a : Nat} (h : a ≠ q) : mfv (nO w q c0) c j a = mfv w c j a := by
  unfold mfv
  rw [gR_nO, gI_nO, if_neg h, if_neg h]
theorem mfv_nO_eq {w : mW} {q c0 c j : Nat} : mfv (nO w q c0) c j q = if fr c j = true then .null else .int 0 := by
  unfold mfv
  rw [gR_nO, gI_nO, if_pos rfl, if_pos rfl]
  rfl
theorem mav_nA_ne {w : mW} {q t n t' a : Nat} (h : a ≠ q) : mav (nA w q t n) t' a = mav w t' a := by
  funext j
  unfold mav
  rw [aR_nA, aI_nA, aJ_nA, if_neg h, if_neg h, if_neg h]
theorem mav_nA_eq {w : mW} {q t n t' : Nat} : mav (nA w q t n) t' q = fun _ => if ar t' = 1 then .null else if ar t' = 2 then .long 0 else .int 0 := by
  funext j
  unfold mav
  rw [aR_nA, aI_nA, aJ_nA, if_pos rfl, if_pos rfl, if_pos rfl]
  rfl
theorem mv_new (X : mX p s m args meth c own nm cc nL ret D dA A) {idx c0 N : Nat} (hd : decode cc pc = .ok (.new idx, 3)) (hn : nOk own idx c0 N) (hc : cells + 1 ≤ R.cells) (hs : slots + N ≤ R.slots) (kk : ∀ q, gK w q = none → mV p l e R s m args below meth c D dA A nL (nO w q c0) (cells + 1) (slots + N) Q (pc + 3) lv (vR (some q) :: st)) : mV p l e R s m args below meth c D dA A nL w cells slots Q pc lv st := by
  intro H locs ls hP hS hl
  obtain ⟨C, T, ty0, ⟨hcl, hin, hpd, hnms, hfi, hdv⟩, h1, h2, h3⟩ := hn
  have hKn := X.kn.1.1 c0 _ hcl
  refine W.newcK X.x X.b X.oc (X.ts _ h1) (X.ts _ h2) (X.ts _ h3) rfl hd hc hs hKn.2.1 rfl fun H1 kC hkC e1 z1 o1 => ?_
  refine kk H.size (hP.fresh (Nat.le_refl _)) H1 locs ls ?_ ⟨Nat.le_trans hS.1 (by omega), fun x h1 h2 => (o1 x (Nat.lt_of_lt_of_le h1 hS.1)).trans (hS.2.1 x h1 h2), hS.2.2⟩ hl
  intro a k hk
  rw [gK_nO] at hk
  by_cases h : a = H.size
  · rw [if_pos h] at hk
    cases hk
    subst h
    refine ⟨⟨_, hcl, (u_born ty0 X.ts hin hKn hkC e1 hpd).to (fun j hj => ?_)⟩, X.fresh _ hS.1⟩
    rw [mfv_nO_eq]
    exact hdv j hj
  · rw [if_neg h] at hk
    obtain ⟨g1, g2⟩ := hP a k hk
    exact ⟨g1.kept (o1 a g1.lt) (fun c j => mfv_nO_ne h) (fun t => rfl), g2⟩
theorem mRep.newA {w : mW} {H H1 : Heap} {t n : Nat} (hP : mRep D dA A w H) (hA : A H.size) (e1 : H1[H.size]? = some (arrV (dA t) n (fun _ => if ar t = 1 then .null else if ar t = 2 then .long 0 else .int 0))) (o1 : ∀ q, q < H.size → H1[q]? = H[q]?) : mRep D dA A (nA w H.size t n) H1 := by
  intro a k hk
  rw [gK_nA] at hk
  by_cases h : a = H.size
  · rw [if_pos h] at hk
    cases hk
    subst h
    refine ⟨?_, hA⟩
    show H1[H.size]? = some (arrV (dA t) n (mav (nA w H.size t n) t H.size))
    rw [mav_nA_eq]
    exact e1
  · rw [if_neg h] at hk
    obtain ⟨g1, g2⟩ := hP a k hk
    exact ⟨g1.kept (o1 a g1.lt) (fun c j => rfl) (fun t => mav_nA_ne h), g2⟩
theorem mv_anew (X : mX p s m args meth c own nm cc nL ret D dA A) {idx t : Nat} {C : String} {n : Int32} {N : Nat} (hd : decode cc pc = .ok (.anewarray idx, 3)) (hlk : Cond.classLink own idx C ∈ mAll) (hov : C ∈ mOver) (ht : tyA t = some (.object C)) (har : ar t = 1) (hn : ¬ n < 0) (hN : n.toNatClampNeg = N) (hb4 : N * 4 ≤ 536870912) (hc : cells + 1 ≤ R.cells) (hs : slots + N ≤ R.slots) (kk : ∀ q, gK w q = none → mV p l e R s m args below meth c D dA A nL (nA w q t N) (cells + 1) (slots + N) Q (pc + 3) lv (vR (some q) :: st)) : mV p l e R s m args below meth c D dA A nL w cells slots Q pc lv (vI n :: st) := by
  intro H locs ls hP hS hl
  subst hN
  refine W.anew X.x X.b X.oc (X.ts _ hlk) (X.kn.2.2.2.2.2.2 C hov).use rfl hd rfl hn hb4 hc hs fun cA kA comp h1 h2 h3 h4 => ?_
  have hRA := (X.kn.2.1 t _ ht).2
  obtain ⟨_, _, _, _, _, h5⟩ := hRA
  have hcA : cA = dA t := Option.some.inj (h1.symm.trans h5)
  subst hcA
  refine kk H.size (hP.fresh (Nat.le_refl _)) _ locs ls (hP.newA (X.fresh _ hS.1) ?_ ?_) ⟨Nat.le_trans hS.1 (by simp), fun x h1 h2 => ?_, hS.2.2⟩ hl
  · rw [har]
    show _ = some (arrV (dA t) _ (fun _ => Value.null))
    rw [← arrV_new]
    simp
  · intro q hq
    rw [Array.getElem?_push, if_neg (Nat.ne_of_lt hq)]
  · rw [Array.getElem?_push, if_neg (Nat.ne_of_lt (Nat.lt_of_lt_of_le h1 hS.1))]
    exact hS.2.1 x h1 h2
theorem mv_alen (X : mX p s m args meth c own nm cc nL ret D dA A) {t n a : Nat} {ty : FieldType} (hd : decode cc pc = .ok (.arraylength, 1)) (ht : tyA t = some ty) (ha : gK w a = some (.inr (t, n))) (kk : mV p l e R s m args below meth c D dA A nL w cells slots Q (pc + 1) lv (vI (nI n) :: st)) : mV p l e R s m args below meth c D dA A nL w cells slots Q pc lv (vR (some a) :: st) := by
  intro H locs ls hP hS hl
  obtain ⟨h1, -⟩ := hP a _ ha
  exact W.alen (n := nI n) X.x X.b h1 ((X.kn.2.1 t _ ht).1 n _) (by show (arrV _ _ _).slots.size.toInt32 = _; rw [arrV_size]; rfl) rfl rfl hd (kk H locs ls hP hS hl)
theorem mv_aald (X : mX p s m args meth c own nm cc nL ret D dA A) {t n a j : Nat} {C : String} {i : Int32} (hd : decode cc pc = .ok (.aaload, 1)) (ht : tyA t = some (.object C)) (har : ar t = 1) (ha : gK w a = some (.inr (t, n))) {x : Option Nat} (hi : i = nI j) (hj : j < n) (hn : n < 2 ^ 31) (hv : aR w a j = x) (kk : mV p l e R s m args below meth c D dA A nL w cells slots Q (pc + 1) lv (vR x :: st)) : mV p l e R s m args below meth c D dA A nL w cells slots Q pc lv (vI i :: vR (some a) :: st) := by
  intro H locs ls hP hS hl
  subst hi
  subst hv
  obtain ⟨h1, -⟩ := hP a _ ha
  refine W.aald (v := va_rf (aR w a j)) (ty := .object C) X.x X.b h1 ((X.kn.2.1 t _ ht).1 n _) rfl (fun q => by cases q) (by show ¬ (nI j < 0 ∨ (arrV _ _ _).slots.size ≤ _); rw [arrV_size]; exact nI_in hj hn) ?_ rfl rfl hd (kk H locs ls hP hS hl)
  show (arrV _ _ _).slots[_]? = _
  rw [nI_clamp (by omega), arrV_read _ _ hj]
  unfold mav
  rw [har]
  rfl
theorem mRep.setx {w w1 : mW} {H H1 : Heap} {a t n j : Nat} {v : Value} (hP : mRep D dA A w H) (hk : gK w a = some (.inr (t, n))) (e1 : H1[a]? = some ((arrV (dA t) n (mav w t a)).setSlot j v)) (e3 : ∀ q : Nat, q ≠ a → H1[q]? = H[q]?)
    (gk : gK w1 = gK w) (hf : mfv w1 = mfv w) (hne : ∀ a' t', a' ≠ a → mav w1 t' a' = mav w t' a') (heq : mav w1 t a = updV (mav w t a) j v) : mRep D dA A w1 H1 := by
  intro a' k' hk'
  rw [gk] at hk'
  by_cases h : a' = a
  · subst h
    cases hk.symm.trans hk'
    refine ⟨?_, (hP a' _ hk).2⟩
    show H1[a']? = some (arrV (dA t) n (mav w1 t a'))
    rw [heq, ← arrV_store]
    exact e1
  · obtain ⟨h1, h2⟩ := hP a' k' hk'
    exact ⟨h1.kept (e3 a' h) (fun c' j' => by rw [hf]) (fun t => hne a' t h), h2⟩
theorem mav_xR_ne {w : mW} {a i : Nat} {x : Option Nat} {a' t : Nat} (h : a' ≠ a) : mav (xR w a i x) t a' = mav w t a' := by
  funext j
  unfold mav
  rw [aI_xR, aJ_xR, aR_xR, if_neg (c := a' = a ∧ j = i) (fun q => h q.1)]
theorem mav_xI_ne {w : mW} {a i : Nat} {x : Int32} {a' t : Nat} (h : a' ≠ a) : mav (xI w a i x) t a' = mav w t a' := by
  funext j
  unfold mav
  rw [aR_xI, aJ_xI, aI_xI, if_neg (c := a' = a ∧ j = i) (fun q => h q.1)]
theorem mav_xJ_ne {w : mW} {a i : Nat} {x : Int64} {a' t : Nat} (h : a' ≠ a) : mav (xJ w a i x) t a' = mav w t a' := by
  funext j
  unfold mav
  rw [aR_xJ, aI_xJ, aJ_xJ, if_neg (c := a' = a ∧ j = i) (fun q => h q.1)]
theorem mav_xR_eq {w : mW} {a i t : Nat} {x : Option Nat} (har : ar t = 1) : mav (xR w a i x) t a = updV (mav w t a) i (va_rf x) := by
  funext j
  unfold mav updV
  rw [aR_xR, if_pos har]
  by_cases h : j = i
  · rw [if_pos h, if_pos ⟨rfl, h⟩]
  · rw [if_neg h, if_neg (fun q => h q.2)]
    dsimp only
    rw [if_pos har]
theorem mav_xI_eq {w : mW} {a i t : Nat} {x : Int32} (har : ar t = 0) : mav (xI w a i x) t a = updV (mav w t a) i (.int x) := by
  have h1 : ¬ ar t = 1 := by rw [har]; decide
  have h2 : ¬ ar t = 2 := by rw [har]; decide
  funext j
  unfold mav updV
  rw [aI_xI, if_neg h1, if_neg h2]
  by_cases h : j = i
  · rw [if_pos h, if_pos ⟨rfl, h⟩]
  · rw [if_neg h, if_neg (fun q => h q.2)]
    dsimp only
    rw [if_neg h1, if_neg h2]
theorem mav_xJ_eq {w : mW} {a i t : Nat} {x : Int64} (har : ar t = 2) : mav (xJ w a i x) t a = updV (mav w t a) i (.long x) := by
  have h1 : ¬ ar t = 1 := by rw [har]; decide
  funext j
  unfold mav updV
  rw [aJ_xJ, if_neg h1, if_pos har]
  by_cases h : j = i
  · rw [if_pos h, if_pos ⟨rfl, h⟩]
  · rw [if_neg h, if_neg (fun q => h q.2)]
    dsimp only
    rw [if_neg h1, if_pos har]
theorem mv_iald (X : mX p s m args meth c own nm cc nL ret D dA A) {t n a j : Nat} {i : Int32} {x : Int32} (hd : decode cc pc = .ok (.iaload, 1)) (ht : tyA t = some .int) (har : ar t = 0) (ha : gK w a = some (.inr (t, n))) (hi : i = nI j) (hj : j < n) (hn : n < 2 ^ 31) (hv : aI w a j = x) (kk : mV p l e R s m args below meth c D dA A nL w cells slots Q (pc + 1) lv (vI x :: st)) : mV p l e R s m args below meth c D dA A nL w cells slots Q pc lv (vI i :: vR (some a) :: st) := by
  intro H locs ls hP hS hl
  subst hi
  subst hv
  obtain ⟨h1, -⟩ := hP a _ ha
  refine W.iald (v := .int (aI w a j)) X.x X.b h1 ((X.kn.2.1 t _ ht).1 n _) (fun q => by cases q) (by show ¬ (nI j < 0 ∨ (arrV _ _ _).slots.size ≤ _); rw [arrV_size]; exact nI_in hj hn) ?_ rfl rfl hd (kk H locs ls hP hS hl)
  show (arrV _ _ _).slots[_]? = _
  rw [nI_clamp (by omega), arrV_read _ _ hj]
  unfold mav
  rw [if_neg (by rw [har]; decide), if_neg (by rw [har]; decide)]
theorem mv_iast (X : mX p s m args meth c own nm cc nL ret D dA A) {t n a j : Nat} {i : Int32} {x : Int32} (hd : decode cc pc = .ok (.iastore, 1)) (ht : tyA t = some .int) (har : ar t = 0) (ha : gK w a = some (.inr (t, n))) (hi : i = nI j) (hj : j < n) (hn : n < 2 ^ 31) (kk : mV p l e R s m args below meth c D dA A nL (xI w a j x) cells slots Q (pc + 1) lv st) : mV p l e R s m args below meth c D dA A nL w cells slots Q pc lv (vI x :: vI i :: vR (some a) :: st) := by
  intro H locs ls hP hS hl
  subst hi
  obtain ⟨h1, hAa⟩ := hP a _ ha
  have hcl : (nI j).toNatClampNeg = j := nI_clamp (by omega)
  have hin : ¬ (nI j < 0 ∨ n ≤ (nI j).toNatClampNeg) := nI_in hj hn
  refine W.iast X.x X.b h1 ((X.kn.2.1 t _ ht).1 n _) (fun h => by cases h) (by show ¬ (nI j < 0 ∨ (arrV _ _ _).slots.size ≤ _); rw [arrV_size]; exact hin) rfl rfl hd fun H1 e z oq => ?_
  rw [hcl] at e
  exact kk H1 _ ls (hP.setx ha e oq rfl rfl (fun a' t' h => mav_xI_ne h) (mav_xI_eq har)) (hS.put z oq hAa) hl
theorem mv_zald (X : mX p s m args meth c own nm cc nL ret D dA A) {t n a j : Nat} {i : Int32} {x : Int32} (hd : decode cc pc = .ok (.baload, 1)) (ht : tyA t = some .boolean) (har : ar t = 0) (ha : gK w a = some (.inr (t, n))) (hi : i = nI j) (hj : j < n) (hn : n < 2 ^ 31) (hv : aI w a j = x) (kk : mV p l e R s m args below meth c D dA A nL w cells slots Q (pc + 1) lv (vI x :: st)) : mV p l e R s m args below meth c D dA A nL w cells slots Q pc lv (vI i :: vR (some a) :: st) := by
  intro H locs ls hP hS hl
  subst hi
  subst hv
  obtain ⟨h1, -⟩ := hP a _ ha
  refine W.zald (v := .int (aI w a j)) X.x X.b h1 ((X.kn.2.1 t _ ht).1 n _) (fun q => by cases q) (by show ¬ (nI j < 0 ∨ (arrV _ _ _).slots.size ≤ _); rw [arrV_size]; exact nI_in hj hn) ?_ rfl rfl hd (kk H locs ls hP hS hl)
  show (arrV _ _ _).slots[_]? = _
  rw [nI_clamp (by omega), arrV_read _ _ hj]
  unfold mav
  rw [if_neg (by rw [har]; decide), if_neg (by rw [har]; decide)]
theorem mv_zast (X : mX p s m args meth c own nm cc nL ret D dA A) {t n a j : Nat} {i : Int32} {x : Int32} (hd : decode cc pc = .ok (.bastore, 1)) (ht : tyA t = some .boolean) (har : ar t = 0) (ha : gK w a = some (.inr (t, n))) (hi : i = nI j) (hj : j < n) (hn : n < 2 ^ 31) (hx : narrow .boolean (.int x) = .int x) (kk : mV p l e R s m args below meth c D dA A nL (xI w a j x) cells slots Q (pc + 1) lv st) : mV p l e R s m args below meth c D dA A nL w cells slots Q pc lv (vI x :: vI i :: vR (some a) :: st) := by
  intro H locs ls hP hS hl
  subst hi
  obtain ⟨h1, hAa⟩ := hP a _ ha
  have hcl : (nI j).toNatClampNeg = j := nI_clamp (by omega)
  have hin : ¬ (nI j < 0 ∨ n ≤ (nI j).toNatClampNeg) := nI_in hj hn
  refine W.zast X.x X.b h1 ((X.kn.2.1 t _ ht).1 n _) (fun h => by cases h) (by show ¬ (nI j < 0 ∨ (arrV _ _ _).slots.size ≤ _); rw [arrV_size]; exact hin) rfl rfl hd fun H1 e z oq => ?_
  rw [hcl, hx] at e
  exact kk H1 _ ls (hP.setx ha e oq rfl rfl (fun a' t' h => mav_xI_ne h) (mav_xI_eq har)) (hS.put z oq hAa) hl
theorem mv_lald (X : mX p s m args meth c own nm cc nL ret D dA A) {t n a j : Nat} {i : Int32} {x : Int64} (hd : decode cc pc = .ok (.laload, 1)) (ht : tyA t = some .long) (har : ar t = 2) (ha : gK w a = some (.inr (t, n))) (hi : i = nI j) (hj : j < n) (hn : n < 2 ^ 31) (hv : aJ w a j = x) (kk : mV p l e R s m args below meth c D dA A nL w cells slots Q (pc + 1) lv (vJ x :: st)) : mV p l e R s m args below meth c D dA A nL w cells slots Q pc lv (vI i :: vR (some a) :: st) := by
  intro H locs ls hP hS hl
  subst hi
  subst hv
  obtain ⟨h1, -⟩ := hP a _ ha
  refine W.lald (v := .long (aJ w a j)) X.x X.b h1 ((X.kn.2.1 t _ ht).1 n _) (fun q => by cases q) (by show ¬ (nI j < 0 ∨ (arrV _ _ _).slots.size ≤ _); rw [arrV_size]; exact nI_in hj hn) ?_ rfl rfl hd (kk H locs ls hP hS hl)
  show (arrV _ _ _).slots[_]? = _
  rw [nI_clamp (by omega), arrV_read _ _ hj]
  unfold mav
  rw [if_neg (by rw [har]; decide), if_pos har]
theorem mv_last (X : mX p s m args meth c own nm cc nL ret D dA A) {t n a j : Nat} {i : Int32} {x : Int64} (hd : decode cc pc = .ok (.lastore, 1)) (ht : tyA t = some .long) (har : ar t = 2) (ha : gK w a = some (.inr (t, n))) (hi : i = nI j) (hj : j < n) (hn : n < 2 ^ 31) (kk : mV p l e R s m args below meth c D dA A nL (xJ w a j x) cells slots Q (pc + 1) lv st) : mV p l e R s m args below meth c D dA A nL w cells slots Q pc lv (vJ x :: vI i :: vR (some a) :: st) := by
  intro H locs ls hP hS hl
  subst hi
  obtain ⟨h1, hAa⟩ := hP a _ ha
  have hcl : (nI j).toNatClampNeg = j := nI_clamp (by omega)
  have hin : ¬ (nI j < 0 ∨ n ≤ (nI j).toNatClampNeg) := nI_in hj hn
  refine W.last X.x X.b h1 ((X.kn.2.1 t _ ht).1 n _) (fun h => by cases h) (by show ¬ (nI j < 0 ∨ (arrV _ _ _).slots.size ≤ _); rw [arrV_size]; exact hin) rfl rfl hd fun H1 e z oq => ?_
  rw [hcl] at e
  exact kk H1 _ ls (hP.setx ha e oq rfl rfl (fun a' t' h => mav_xJ_ne h) (mav_xJ_eq har)) (hS.put z oq hAa) hl
theorem mv_newa (X : mX p s m args meth c own nm cc nL ret D dA A) {t N : Nat} {atype : ArrayType} {n : Int32} (hd : decode cc pc = .ok (.newarray atype, 2)) (hw : Cond.arrayClass (newarray.typeOf atype) ∈ mAll) (ht : tyA t = some (newarray.typeOf atype)) (hRA : ∀ U c, va_RA U c (newarray.typeOf atype) → U.vm.findClass ("[" ++ (newarray.typeOf atype).toString) = some c) (hdf : defaultValue (newarray.typeOf atype) = if ar t = 1 then .null else if ar t = 2 then .long 0 else .int 0) (hn : ¬ n < 0) (hN : n.toNatClampNeg = N) (hb8 : N * componentBytes (newarray.typeOf atype) ≤ 536870912) (hc : cells + 1 ≤ R.cells) (hs : slots + N ≤ R.slots) (kk : ∀ q, gK w q = none → mV p l e R s m args below meth c D dA A nL (nA w q t N) (cells + 1) (slots + N) Q (pc + 2) lv (vR (some q) :: st)) : mV p l e R s m args below meth c D dA A nL w cells slots Q pc lv (vI n :: st) := by
  intro H locs ls hP hS hl
  subst hN
  refine W.newa X.x X.b (X.ts _ hw) rfl hd rfl hn hb8 hc hs fun cA kA comp h1 h2 h3 => ?_
  have h5 := hRA s _ (X.kn.2.1 t _ ht).2
  have hcA : cA = dA t := Option.some.inj (h1.symm.trans h5)
  subst hcA
  refine kk H.size (hP.fresh (Nat.le_refl _)) _ locs ls (hP.newA (X.fresh _ hS.1) ?_ ?_) ⟨Nat.le_trans hS.1 (by simp), fun x h1 h2 => ?_, hS.2.2⟩ hl
  · rw [← hdf, ← arrV_new]
    simp
  · intro q hq
    rw [Array.getElem?_push, if_neg (Nat.ne_of_lt hq)]
  · rw [Array.getElem?_push, if_neg (Nat.ne_of_lt (Nat.lt_of_lt_of_le h1 hS.1))]
    exact hS.2.1 x h1 h2
/-- a class number, with its name and the word that its objects may lie in an array of E -/
def mCa (cs : List Nat) (E : String) : Prop := ∀ c ∈ cs, ∃ r : vw_C, vwCl[c]? = some r ∧ (r.1, E) ∈ mCast
theorem mv_aast (X : mX p s m args meth c own nm cc nL ret D dA A) {t n a j : Nat} {E : String} {cs : List Nat} {i : Int32} {x : Option Nat} (hd : decode cc pc = .ok (.aastore, 1)) (ht : tyA t = some (.object E)) (har : ar t = 1) (ha : gK w a = some (.inr (t, n))) (hi : i = nI j) (hj : j < n) (hn : n < 2 ^ 31) (hca : mCa cs E) (hx : ∀ b, x = some b → mIs w cs b) (kk : mV p l e R s m args below meth c D dA A nL (xR w a j x) cells slots Q (pc + 1) lv st) : mV p l e R s m args below meth c D dA A nL w cells slots Q pc lv (vR x :: vI i :: vR (some a) :: st) := by
  intro H locs ls hP hS hl
  subst hi
  obtain ⟨h1, hAa⟩ := hP a _ ha
  have hcl : (nI j).toNatClampNeg = j := nI_clamp (by omega)
  have hin : ¬ (nI j < 0 ∨ n ≤ (nI j).toNatClampNeg) := nI_in hj hn
  cases x with
  | none =>
    refine va_WaastN (C := E) X.x X.b h1 ((X.kn.2.1 t _ ht).1 n _) (fun h => by cases h) (by show ¬ (nI j < 0 ∨ (arrV _ _ _).slots.size ≤ _); rw [arrV_size]; exact hin) rfl rfl hd fun H1 e z oq => ?_
    rw [hcl] at e
    exact kk H1 _ ls (hP.setx ha e oq rfl rfl (fun a' t' h => mav_xR_ne h) (mav_xR_eq har)) (hS.put z oq hAa) hl
  | some b =>
    obtain ⟨c0, hc0, hk⟩ := hx b rfl
    obtain ⟨r, hr, hcs⟩ := hca c0 hc0
    obtain ⟨⟨r', hr', cellV, g1, g2, g3, -⟩, -⟩ := hP b _ hk
    cases hr.symm.trans hr'
    have hcls := (X.kn.1.1 c0 r hr).2
    obtain ⟨kA, comp, k1, k2, k3, -⟩ := (X.kn.2.1 t _ ht).2
    obtain ⟨cv, tv', f1, f2, f3⟩ := Cond.castable_spec (va_Nw.use (A := args) rfl (X.kn.2.2.1 _ hcs))
    cases k3.symm.trans f2
    cases hcls.1.symm.trans f1
    obtain ⟨kC, hkC, -⟩ := hcls.2
    obtain ⟨kcomp, hkcomp, -⟩ := Vm.findClass_spec k3
    refine W.aast X.x X.b h1 (fun q h => by cases h) (fun h => by cases h) k1 k2 rfl hkcomp ⟨nI_pos (by omega), by show _ < (arrV _ _ _).slots.size; rw [arrV_size, hcl]; exact hj⟩ g1 (fun q h => by rw [g3] at h; cases h) (by rw [g2]; exact hkC) (by rw [g2]; exact f3) rfl rfl hd fun H1 e z oq => ?_
    rw [hcl] at e
    exact kk H1 _ ls (hP.setx ha e oq rfl rfl (fun a' t' h => mav_xR_ne h) (mav_xR_eq har)) (hS.put z oq hAa) hl
theorem mRep.recv {w : mW} {H : Heap} {a c0 : Nat} {r : vw_C} {U : State} (hK : mKn D dA U) (hP : mRep D dA A w H) (hk : gK w a = some (.inl c0)) (hr : vwCl[c0]? = some r) : ∃ cell : Cell, H[a]? = some cell ∧ cell.vm.isStatics = false ∧ U.vm.findClass r.1 = some cell.cls := by
  obtain ⟨⟨r', h1, cell, g1, g2, g3, -⟩, -⟩ := hP a _ hk
  cases hr.symm.trans h1
  exact ⟨cell, g1, by rw [g3]; rfl, by rw [g2]; exact (hK.1.1 c0 r hr).2.1⟩
/-- instanceof, checkcast: cy the classes that pass, cn those that do not -/
def mNc (cs : List Nat) (E : String) : Prop := ∀ c ∈ cs, ∃ r : vw_C, vwCl[c]? = some r ∧ (r.1, E) ∈ mNoCast
theorem mv_inst (X : mX p s m args meth c own nm cc nL ret D dA A) {idx : Nat} {E : String} {cy cn : List Nat} {x : Option Nat} (hd : decode cc pc = .ok (.instanceof idx, 3)) (hlk : Cond.classLink own idx E ∈ mAll) (hy : mCa cy E) (hn : mNc cn E) (hx : ∀ b, x = some b → mIs w cy b ∨ mIs w cn b) (kt : ∀ b, x = some b → mIs w cy b → mV p l e R s m args below meth c D dA A nL w cells slots Q (pc + 3) lv (vI 1 :: st)) (kf : (∀ b, x = some b → mIs w cn b) → mV p l e R s m args below meth c D dA A nL w cells slots Q (pc + 3) lv (vI 0 :: st)) : mV p l e R s m args below meth c D dA A nL w cells slots Q pc lv (vR x :: st) := by
  intro H locs ls hP hS hl
  cases x with
  | none => exact lv_instN X.x X.b hd (kf (fun b h => by cases h) H locs ls hP hS hl)
  | some b =>
    rcases hx b rfl with h | h
    · obtain ⟨c0, hc0, hk⟩ := id h
      obtain ⟨r, hr, hcs⟩ := hy c0 hc0
      exact va_instY X.x X.b X.oc (X.ts _ hlk) (X.kn.2.2.1 _ hcs) (hP.recv X.kn hk hr) hd (kt b rfl h H locs ls hP hS hl)
    · obtain ⟨c0, hc0, hk⟩ := id h
      obtain ⟨r, hr, hcs⟩ := hn c0 hc0
      exact va_instNo X.x X.b X.oc (X.ts _ hlk) (X.kn.2.2.2.1 _ hcs) (hP.recv X.kn hk hr) hd (kf (fun b' e => by cases e; exact h) H locs ls hP hS hl)
theorem mv_cast (X : mX p s m args meth c own nm cc nL ret D dA A) {idx : Nat} {E : String} {cy : List Nat} {x : Option Nat} (hd : decode cc pc = .ok (.checkcast idx, 3)) (hlk : Cond.classLink own idx E ∈ mAll) (hy : mCa cy E) (hx : ∀ b, x = some b → mIs w cy b) (kk : mV p l e R s m args below meth c D dA A nL w cells slots Q (pc + 3) lv (vR x :: st)) : mV p l e R s m args below meth c D dA A nL w cells slots Q pc lv (vR x :: st) := by
  intro H locs ls hP hS hl
  cases x with
  | none => exact lv_castN X.x X.b hd (kk H locs ls hP hS hl)
  | some b =>
    obtain ⟨c0, hc0, hk⟩ := hx b rfl
    obtain ⟨r, hr, hcs⟩ := hy c0 hc0
    exact va_castY X.x X.b X.oc (X.ts _ hlk) (X.kn.2.2.1 _ hcs) (hP.recv X.kn hk hr) hd (kk H locs ls hP hS hl)
/-! contracts -/
def mRm (d mc ms : Nat) : Room := { frames := d, cells := mc, slots := ms, locals := 40 * d }
def mPc (D : va_G) (dA : Nat → ClassId) (A : Nat → Prop) (w : mW) (U : State) : Prop := mRep D dA A w U.heap ∧ mKn D dA U ∧ ∀ q, U.heap.size ≤ q → A q
def mQ (D : va_G) (dA : Nat → ClassId) (A : Nat → Prop) (Post : Option tV → mW → Prop) : Array Value → State → Outcome → State → Prop := fun _ s0 o t => (∃ (v : Option tV) (w' : mW), o = .returned (v.map tv) ∧ Post v w' ∧ mRep D dA A w' t.heap) ∧ va_F A s0 t
def mMet (l : Launch) (y : MethodName) (cc : ByteArray) (nL : Nat) (ret : Option FieldType) (d mc ms : Nat) (av : List tV) (w : mW) (Post : Option tV → mW → Prop) : Prop :=
  ∀ (D : va_G) (dA : Nat → ClassId) (A : Nat → Prop), Met l y (Cond.code y cc nL ret :: mAll) (mRm d mc ms) (va_Pc (av.map tv) (mPc D dA A w)) (mQ D dA A Post) mc ms A
theorem mMet.of {y : MethodName} {d mc ms : Nat} {av : List tV} {w : mW} {Post : Option tV → mW → Prop} (hy : plainName y.cls = true) (hlen : tsm av ≤ nL)
    (body : ∀ (p : Program) (e : Env) (s : State) (m : MethodId) (args : Array Value) (below : List Frame) (meth : Method) (c : Code) (D : va_G) (dA : Nat → ClassId) (A : Nat → Prop), mX p s m args meth c y.cls y.name cc nL ret D dA A → mV p l e (mRm d mc ms) s m args below meth c D dA A nL w 0 0 (MQ below (mQ D dA A Post) args s mc ms A) 0 (targs 0 av) []) : mMet l y cc nL ret d mc ms av w Post := by
  intro D dA A
  refine Met.ofW (cc := cc) (maxL := nL) (ret := ret) hy rfl ?_
  intro p e s m args below meth c s₁ B hml hv
  obtain ⟨rfl, hP, hK, hA⟩ := hv
  have hts := atoms_spec (ws := Cond.code y cc nL ret :: mAll) B.pre
  have X : mX p s m (av.map tv).toArray meth c y.cls y.name cc nL ret D dA A := ⟨B.exec, B.bytes, hml, findClass_of_methodNamed B.named, fun w h => hts w (List.mem_cons_of_mem _ h), hK, hA, B.returns, B.notSynchronized, (name_of_methodNamed B.named B.method).1⟩
  rw [lg_entry_eq]
  have hl := lv_entry (av.map tv) (n := nL) (by rw [tv_sl]; exact hlen)
  rw [targs_lv] at hl
  exact body p e s m _ below meth c D dA A X s.heap [] _ hP va_S.rf hl
theorem mPc.blind {av : List Value} {w : mW} : FrameBlind (va_Pc av (mPc D dA A w)) := fun a U g mk h => ⟨h.1, h.2.1, h.2.2.1.same rfl, h.2.2.2⟩
theorem mPc.pre (X : mX p s m args meth c own nm cc nL ret D dA A) {H : Heap} {locs : List Loc} {av : List Value} (hP : mRep D dA A w H) (hS : va_S A s.heap H locs) : ∀ U : State, U.heap = H → s.WarmedH U.vm → va_Pc av (mPc D dA A w) av.toArray U := fun U hU hW => ⟨rfl, by rw [hU]; exact hP, X.kn.warm hW, fun q h => X.fresh q (Nat.le_trans hS.1 (by rw [← hU]; exact h))⟩
theorem mv_ret_i (X : mX p s m args meth c own nm cc nL ret D dA A) {Post : Option tV → mW → Prop} {mc ms : Nat} {x : Int32} {ty : FieldType} (hd : decode cc pc = .ok (.ireturn, 1)) (hr : ret = some ty) (hn : narrow ty (.int x) = .int x) (h1 : cells ≤ mc) (h2 : slots ≤ ms) (hp : Post (some (vI x)) w) : mV p l e R s m args below meth c D dA A nL w cells slots (MQ below (mQ D dA A Post) args s mc ms A) pc lv [vI x] := by
  intro H locs ls hP hS hl
  refine W.widen h1 h2 ?_
  exact W.zret X.x X.b (X.rt.trans hr) hn (fun t ht hW => ⟨⟨some (vI x), w, rfl, hp, by rw [ht]; exact hP⟩, hS.F ht⟩) hS.2.2 hd X.lk
theorem mv_ret_r (X : mX p s m args meth c own nm cc nL ret D dA A) {Post : Option tV → mW → Prop} {mc ms : Nat} {x : Option Nat} {C : String} (hd : decode cc pc = .ok (.areturn, 1)) (hr : ret = some (.object C)) (h1 : cells ≤ mc) (h2 : slots ≤ ms) (hp : Post (some (vR x)) w) : mV p l e R s m args below meth c D dA A nL w cells slots (MQ below (mQ D dA A Post) args s mc ms A) pc lv [vR x] := by
  intro H locs ls hP hS hl
  refine W.widen h1 h2 ?_
  exact W.aret (v := va_rf x) X.x X.b (X.rt.trans hr) (Or.inl ⟨C, rfl⟩) (by cases x with | none => exact Or.inl rfl | some a => exact Or.inr ⟨a, rfl⟩) (fun t ht hW => ⟨⟨some (vR x), w, rfl, hp, by rw [ht]; exact hP⟩, hS.F ht⟩) hS.2.2 hd X.lk
theorem mv_ret_j (X : mX p s m args meth c own nm cc nL ret D dA A) {Post : Option tV → mW → Prop} {mc ms : Nat} {x : Int64} (hd : decode cc pc = .ok (.lreturn, 1)) (hr : ret = some .long) (h1 : cells ≤ mc) (h2 : slots ≤ ms) (hp : Post (some (vJ x)) w) : mV p l e R s m args below meth c D dA A nL w cells slots (MQ below (mQ D dA A Post) args s mc ms A) pc lv [vJ x] := by
  intro H locs ls hP hS hl
  refine W.widen h1 h2 ?_
  exact W.lret X.x X.b (X.rt.trans hr) (fun t ht hW => ⟨⟨some (vJ x), w, rfl, hp, by rw [ht]; exact hP⟩, hS.F ht⟩) hS.2.2 hd X.lk
theorem mv_ret_v (X : mX p s m args meth c own nm cc nL ret D dA A) {Post : Option tV → mW → Prop} {mc ms : Nat} (hd : decode cc pc = .ok (.return_, 1)) (hr : ret = none) (h1 : cells ≤ mc) (h2 : slots ≤ ms) (hp : Post none w) : mV p l e R s m args below meth c D dA A nL w cells slots (MQ below (mQ D dA A Post) args s mc ms A) pc lv [] := by
  intro H locs ls hP hS hl
  refine W.widen h1 h2 ?_
  exact W.vret X.x X.b (X.rt.trans hr) (fun t ht hW => ⟨⟨none, w, rfl, hp, by rw [ht]; exact hP⟩, hS.F ht⟩) hS.2.2 hd X.lk
/-- behind a call -/
theorem m_after {Post : Option tV → mW → Prop} {mc ms : Nat} {rest : List tV} {av : Array Value} {H : Heap} {locs : List Loc} {ls : Array Slot} {st0 : List Value} (hr : va_Run p l e R s m args below meth c H locs cells slots mc ms (F0 m pc ls st0) (rest.map tv) (mQ D dA A Post av) A) (hS : va_S A s.heap H locs) (hl : lv_has ls nL (lvm lv))
    (kk : ∀ v w', Post v w' → mV p l e R s m args below meth c D dA A nL w' (cells + mc) (slots + ms) Q (pc + 3) lv (v.toList ++ rest)) : W p l e R s m args below meth c H locs cells slots Q (F0 m pc ls st0) := by
  intro T hT XT
  obtain ⟨v, st₀, t, T', L, h0, X', hL, e1, e2, ⟨⟨v', w', hv, hp, hP'⟩, hz, hk⟩, stp⟩ := hr T hT XT
  cases hv
  rw [h0] at hz hk
  obtain ⟨t2, a1, b1⟩ := kk v' w' hp T'.heap (locs ++ L) ls (by rw [e1]; exact hP')
    ⟨Nat.le_trans hS.1 (by rw [e1]; exact hz), fun q h1 h2 => by rw [e1, hk q (Nat.lt_of_lt_of_le h1 hS.1) h2]; exact hS.2.1 q h1 h2, fun q hq => by
      rcases List.mem_append.mp hq with h | h
      · exact hS.2.2 q h
      · exact hL q h⟩ hl T' rfl X'
  have e9 : (v'.toList ++ rest).map tv = (v'.map tv).toList ++ rest.map tv := by cases v' <;> simp
  rw [e9] at a1
  exact ⟨t2, stp t2 a1, b1⟩
theorem m_good {y : MethodName} {cc' : ByteArray} {nL' : Nat} {ret' : Option FieldType} (h : Cond.code y cc' nL' ret' ∈ mAll) : GoodIn mAll (Cond.code y cc' nL' ret' :: mAll) := fun w hw => by
  rcases List.mem_cons.mp hw with rfl | hw
  · exact mAll_good _ h
  · exact mAll_good _ hw
def cNm (y : MethodName) (n : Nat) : Prop := y.cls ≠ "java/lang/invoke/MethodHandle" ∧ y.cls ≠ "java/lang/invoke/VarHandle" ∧ (parseMethodDescriptor y.desc).map (fun d => d.parameters.length) = some n
/-- places of calls -/
def cS (own : String) (idx : Nat) (y : MethodName) (cc' : ByteArray) (nL' : Nat) (ret' : Option FieldType) (n : Nat) : Prop := Cond.methodLink own idx y ∈ mAll ∧ Cond.static y ∈ mAll ∧ Cond.initialized y.cls ∈ mAll ∧ Cond.code y cc' nL' ret' ∈ mAll ∧ cNm y n
def cI (own : String) (idx : Nat) (y : MethodName) (cc' : ByteArray) (nL' n : Nat) : Prop := Cond.methodLink own idx y ∈ mAll ∧ Cond.instanceMethod y ∈ mAll ∧ Cond.initialized y.cls ∈ mAll ∧ Cond.code y cc' nL' none ∈ mAll ∧ cNm y n ∧ y.name = "<init>"
def cV (own : String) (idx c0 : Nat) (y : MethodName) (cc' : ByteArray) (nL' : Nat) (ret' : Option FieldType) (n : Nat) : Prop := Cond.methodLink own idx y ∈ mAll ∧ Cond.instanceMethod y ∈ mAll ∧ Cond.initialized y.cls ∈ mAll ∧ Cond.code y cc' nL' ret' ∈ mAll ∧ cNm y n ∧ ∃ r : vw_C, vwCl[c0]? = some r ∧ Cond.selects r.1 y y ∈ mAll
def cSN (own : String) (idx : Nat) (y : MethodName) (host : String) (cc' : ByteArray) (nL' : Nat) (ret' : Option FieldType) (n : Nat) : Prop := (own, idx, y, host) ∈ mNestM ∧ Cond.static y ∈ mAll ∧ Cond.initialized y.cls ∈ mAll ∧ Cond.code y cc' nL' ret' ∈ mAll ∧ cNm y n
def cIN (own : String) (idx : Nat) (y : MethodName) (host : String) (cc' : ByteArray) (nL' n : Nat) : Prop := (own, idx, y, host) ∈ mNestM ∧ Cond.instanceMethod y ∈ mAll ∧ Cond.initialized y.cls ∈ mAll ∧ Cond.code y cc' nL' none ∈ mAll ∧ cNm y n ∧ y.name = "<init>"
/-- x is named, y is selected -/
def cU (own : String) (idx c0 : Nat) (owner : String) (x y : MethodName) (cc' : ByteArray) (nL' : Nat) (ret' : Option FieldType) (n : Nat) : Prop := Cond.methodLink own idx x ∈ mAll ∧ Cond.sameMethod x.cls owner x.name x.desc ∈ mAll ∧ Cond.instanceMethod y ∈ mAll ∧ Cond.initialized y.cls ∈ mAll ∧ Cond.code y cc' nL' ret' ∈ mAll ∧ (owner ≠ "java/lang/invoke/MethodHandle" ∧ owner ≠ "java/lang/invoke/VarHandle" ∧ (parseMethodDescriptor x.desc).map (fun d => d.parameters.length) = some n) ∧ (∃ r : vw_C, vwCl[c0]? = some r ∧ Cond.selects r.1 x y ∈ mAll) ∧ ((⟨owner, x.name, x.desc⟩ : MethodName) ∈ mDecl ∨ (Cond.instanceMethod ⟨owner, x.name, x.desc⟩ ∈ mAll ∧ ∃ b n r, Cond.code ⟨owner, x.name, x.desc⟩ b n r ∈ mAll))
theorem m_sum {m : MethodId} {pc : Nat} {ls : Array Slot} {st0 : List Value} {rest : List tV} (h : tsm rest ≤ 8) : 2 * (F0 m pc ls st0).monitorRoom + ((rest.map tv).map fun v => v.category).sum ≤ 8 := lv_room (by rw [tv_sum]; exact h)
theorem mv_calls (X : mX p s m args meth c own nm cc nL ret D dA A) {y : MethodName} {cc' : ByteArray} {nL' : Nat} {ret' : Option FieldType} {d' mc' ms' : Nat} {Post : Option tV → mW → Prop} {idx : Nat} (As rest : List tV) (hM : mMet l y cc' nL' ret' d' mc' ms' As w Post) (hd : decode cc pc = .ok (.invokestatic idx, 3)) (hc : cS own idx y cc' nL' ret' As.length) (hR : d' + 1 ≤ R.frames ∧ 8 + (nL' + 11) + 40 * d' ≤ R.locals) (hcs : cells + mc' ≤ R.cells ∧ slots + ms' ≤ R.slots) (hst : st = As.reverse ++ rest) (hr : tsm rest ≤ 8) (kk : ∀ v w', Post v w' → mV p l e R s m args below meth c D dA A nL w' (cells + mc') (slots + ms') Q (pc + 3) lv (v.toList ++ rest)) : mV p l e R s m args below meth c D dA A nL w cells slots Q pc lv st := by
  intro H locs ls hP hS hl
  obtain ⟨k1, k2, k3, k4, k5⟩ := hc
  refine m_after (va_runS (rest := rest.map tv) (As := As.map tv) (g := F0 m pc ls (st.map tv)) ⟨X.x, X.b, X.ml, X.oc, X.ts⟩ (hM D dA A) ⟨callB_of As.length X.ts (m_good k4) rfl rfl rfl (X.ts _ k3) (X.ts _ k1) k5 hR, X.ts _ k2⟩ ⟨mPc.blind, mPc.pre X hP hS⟩ rfl (by simp) hl.1 ?_ (m_sum hr) hd hcs) hS hl kk
  show st.map tv = _
  rw [hst]
  simp
theorem mv_callsn (X : mX p s m args meth c own nm cc nL ret D dA A) {y : MethodName} {cc' : ByteArray} {nL' : Nat} {ret' : Option FieldType} {d' mc' ms' : Nat} {Post : Option tV → mW → Prop} {idx : Nat} {host : String} (As rest : List tV) (hM : mMet l y cc' nL' ret' d' mc' ms' As w Post) (hd : decode cc pc = .ok (.invokestatic idx, 3)) (hc : cSN own idx y host cc' nL' ret' As.length) (hR : d' + 1 ≤ R.frames ∧ 8 + (nL' + 11) + 40 * d' ≤ R.locals) (hcs : cells + mc' ≤ R.cells ∧ slots + ms' ≤ R.slots) (hst : st = As.reverse ++ rest) (hr : tsm rest ≤ 8) (kk : ∀ v w', Post v w' → mV p l e R s m args below meth c D dA A nL w' (cells + mc') (slots + ms') Q (pc + 3) lv (v.toList ++ rest)) : mV p l e R s m args below meth c D dA A nL w cells slots Q pc lv st := by
  intro H locs ls hP hS hl
  obtain ⟨k1, k2, k3, k4, k5⟩ := hc
  refine m_after (va_runSN (rest := rest.map tv) (As := As.map tv) (g := F0 m pc ls (st.map tv)) ⟨X.x, X.b, X.ml, X.oc, X.ts⟩ (hM D dA A) ⟨va_cnB As.length X.ts (m_good k4) rfl rfl rfl (X.kn.2.2.2.2.2.1 _ k1) (X.ts _ k3) k5 hR, X.ts _ k2, trivial⟩ ⟨mPc.blind, mPc.pre X hP hS⟩ rfl (by simp) hl.1 ?_ (m_sum hr) hd hcs) hS hl kk
  show st.map tv = _
  rw [hst]
  simp
theorem mv_calli (X : mX p s m args meth c own nm cc nL ret D dA A) {y : MethodName} {cc' : ByteArray} {nL' : Nat} {d' mc' ms' : Nat} {Post : Option tV → mW → Prop} {idx b : Nat} (As rest : List tV) (hM : mMet l y cc' nL' none d' mc' ms' (vR (some b) :: As) w Post) (hd : decode cc pc = .ok (.invokespecial idx, 3)) (hc : cI own idx y cc' nL' As.length) (hR : d' + 1 ≤ R.frames ∧ 8 + (nL' + 11) + 40 * d' ≤ R.locals) (hcs : cells + mc' ≤ R.cells ∧ slots + ms' ≤ R.slots) (hst : st = As.reverse ++ vR (some b) :: rest) (hr : tsm rest ≤ 8) (kk : ∀ v w', Post v w' → mV p l e R s m args below meth c D dA A nL w' (cells + mc') (slots + ms') Q (pc + 3) lv (v.toList ++ rest)) : mV p l e R s m args below meth c D dA A nL w cells slots Q pc lv st := by
  intro H locs ls hP hS hl
  obtain ⟨k1, k2, k3, k4, k5, k6⟩ := hc
  refine m_after (va_runI (b := b) (rest := rest.map tv) (As := As.map tv) (g := F0 m pc ls (st.map tv)) ⟨X.x, X.b, X.ml, X.oc, X.ts⟩ (hM D dA A) (cwI As.length X.ts (m_good k4) rfl rfl rfl (X.ts _ k3) (X.ts _ k1) (X.ts _ k2) k6 k5 hR) ⟨mPc.blind, mPc.pre X hP hS⟩ rfl (by simp) hl.1 ?_ (m_sum hr) hd hcs) hS hl kk
  show st.map tv = _
  rw [hst]
  simp [tv, va_rf]
theorem mv_callin (X : mX p s m args meth c own nm cc nL ret D dA A) {y : MethodName} {cc' : ByteArray} {nL' : Nat} {d' mc' ms' : Nat} {Post : Option tV → mW → Prop} {idx b : Nat} {host : String} (As rest : List tV) (hM : mMet l y cc' nL' none d' mc' ms' (vR (some b) :: As) w Post) (hd : decode cc pc = .ok (.invokespecial idx, 3)) (hc : cIN own idx y host cc' nL' As.length) (hR : d' + 1 ≤ R.frames ∧ 8 + (nL' + 11) + 40 * d' ≤ R.locals) (hcs : cells + mc' ≤ R.cells ∧ slots + ms' ≤ R.slots) (hst : st = As.reverse ++ vR (some b) :: rest) (hr : tsm rest ≤ 8) (kk : ∀ v w', Post v w' → mV p l e R s m args below meth c D dA A nL w' (cells + mc') (slots + ms') Q (pc + 3) lv (v.toList ++ rest)) : mV p l e R s m args below meth c D dA A nL w cells slots Q pc lv st := by
  intro H locs ls hP hS hl
  obtain ⟨k1, k2, k3, k4, k5, k6⟩ := hc
  refine m_after (va_runIN (b := b) (rest := rest.map tv) (As := As.map tv) (g := F0 m pc ls (st.map tv)) ⟨X.x, X.b, X.ml, X.oc, X.ts⟩ (hM D dA A) ⟨va_cnB As.length X.ts (m_good k4) rfl rfl rfl (X.kn.2.2.2.2.2.1 _ k1) (X.ts _ k3) k5 hR, k6, X.ts _ k2⟩ ⟨mPc.blind, mPc.pre X hP hS⟩ rfl (by simp) hl.1 ?_ (m_sum hr) hd hcs) hS hl kk
  show st.map tv = _
  rw [hst]
  simp [tv, va_rf]
theorem mv_callv (X : mX p s m args meth c own nm cc nL ret D dA A) {y : MethodName} {cc' : ByteArray} {nL' : Nat} {ret' : Option FieldType} {d' mc' ms' : Nat} {Post : Option tV → mW → Prop} {idx c0 b : Nat} (As rest : List tV) (hM : mMet l y cc' nL' ret' d' mc' ms' (vR (some b) :: As) w Post) (hd : decode cc pc = .ok (.invokevirtual idx, 3)) (hc : cV own idx c0 y cc' nL' ret' As.length) (hb : gK w b = some (.inl c0)) (hR : d' + 1 ≤ R.frames ∧ 8 + (nL' + 11) + 40 * d' ≤ R.locals) (hcs : cells + mc' ≤ R.cells ∧ slots + ms' ≤ R.slots) (hst : st = As.reverse ++ vR (some b) :: rest) (hr : tsm rest ≤ 8) (kk : ∀ v w', Post v w' → mV p l e R s m args below meth c D dA A nL w' (cells + mc') (slots + ms') Q (pc + 3) lv (v.toList ++ rest)) : mV p l e R s m args below meth c D dA A nL w cells slots Q pc lv st := by
  intro H locs ls hP hS hl
  obtain ⟨k1, k2, k3, k4, k5, r, k6, k7⟩ := hc
  refine m_after (va_runV (C := r.1) (b := b) (rest := rest.map tv) (As := As.map tv) (g := F0 m pc ls (st.map tv)) ⟨X.x, X.b, X.ml, X.oc, X.ts⟩ (hM D dA A) ⟨callB_of As.length X.ts (m_good k4) rfl rfl rfl (X.ts _ k3) (X.ts _ k1) k5 hR, X.ts _ k2, X.ts _ k7⟩ ⟨mPc.blind, hP.recv X.kn hb k6, mPc.pre X hP hS⟩ rfl (by simp) hl.1 ?_ (m_sum hr) hd hcs) hS hl kk
  show st.map tv = _
  rw [hst]
  simp [tv, va_rf]
theorem mv_callu (X : mX p s m args meth c own nm cc nL ret D dA A) {y : MethodName} {cc' : ByteArray} {nL' : Nat} {ret' : Option FieldType} {d' mc' ms' : Nat} {Post : Option tV → mW → Prop} {idx c0 b : Nat} {owner : String} {x : MethodName} (As rest : List tV) (hM : mMet l y cc' nL' ret' d' mc' ms' (vR (some b) :: As) w Post) (hd : decode cc pc = .ok (.invokevirtual idx, 3)) (hc : cU own idx c0 owner x y cc' nL' ret' As.length) (hb : gK w b = some (.inl c0)) (hR : d' + 1 ≤ R.frames ∧ 8 + (nL' + 11) + 40 * d' ≤ R.locals) (hcs : cells + mc' ≤ R.cells ∧ slots + ms' ≤ R.slots) (hst : st = As.reverse ++ vR (some b) :: rest) (hr : tsm rest ≤ 8) (kk : ∀ v w', Post v w' → mV p l e R s m args below meth c D dA A nL w' (cells + mc') (slots + ms') Q (pc + 3) lv (v.toList ++ rest)) : mV p l e R s m args below meth c D dA A nL w cells slots Q pc lv st := by
  intro H locs ls hP hS hl
  obtain ⟨k1, k2, k3, k4, k5, k6, ⟨r, k7, k8⟩, k9⟩ := hc
  have hdl : va_Decl s ⟨owner, x.name, x.desc⟩ := by
    rcases k9 with h | ⟨h1, b0, n0, r0, h2⟩
    · exact va_Decl.abs (X.kn.2.2.2.2.1 _ h)
    · exact va_Decl.of (X.ts _ h1) (X.ts _ h2)
  have hG := m_good k5
  have hcu : va_CU R s args own r.1 owner idx x y cc' nL' ret' (Cond.code y cc' nL' ret' :: mAll) (mRm d' mc' ms') mc' ms' As.length := by
    refine ⟨⟨rfl, rfl, hR.1, hR.2, pay_in X.ts hG, List.mem_cons_self⟩, X.ts _ k5, X.ts _ k4, ⟨k6.1, k6.2.1⟩, fun sig h => ?_, X.ts _ k1, X.ts _ k2, hdl, X.ts _ k8, X.ts _ k3⟩
    have h2 := k6.2.2
    rw [h] at h2
    exact (Option.some.inj h2).symm
  refine m_after (va_runU (C := r.1) (b := b) (rest := rest.map tv) (As := As.map tv) (g := F0 m pc ls (st.map tv)) ⟨X.x, X.b, X.ml, X.oc, X.ts⟩ (hM D dA A) hcu ⟨mPc.blind, hP.recv X.kn hb k7, mPc.pre X hP hS⟩ rfl (by simp) hl.1 ?_ (m_sum hr) hd hcs) hS hl kk
  show st.map tv = _
  rw [hst]
  simp [tv, va_rf]
theorem mv_obj (X : mX p s m args meth c own nm cc nL ret D dA A) {idx : Nat} {b : Nat} (hd : decode cc pc = .ok (.invokespecial idx, 3)) (h1 : Cond.methodLink own idx objectInit ∈ mAll) (h2 : Cond.instanceMethod objectInit ∈ mAll) (h3 : Cond.code objectInit ⟨#[0xb1]⟩ 1 none ∈ mAll) (hf : 1 ≤ R.frames) (hlo : tsm st + 12 ≤ R.locals) (kk : mV p l e R s m args below meth c D dA A nL w cells slots Q (pc + 3) lv st) : mV p l e R s m args below meth c D dA A nL w cells slots Q pc lv (vR (some b) :: st) := by
  intro H locs ls hP hS hl
  refine W.objInit X.x X.b X.oc (X.ts _ h1) (X.ts _ h2) (X.ts _ h3) rfl (by rw [X.ml]; exact hl.1) rfl hd hf ?_ (kk H locs ls hP hS hl)
  show 2 * 0 + ((st.map tv).map fun v => v.category).sum + 12 ≤ R.locals
  rw [tv_sum]
  omega
theorem mv_mmax (X : mX p s m args meth c own nm cc nL ret D dA A) {idx : Nat} {x y : Int32} (hd : decode cc pc = .ok (.invokestatic idx, 3)) (h1 : Cond.methodLink own idx Lib.Math.max.name ∈ mAll) (h2 : Cond.static Lib.Math.max.name ∈ mAll) (h3 : Cond.initialized "java/lang/Math" ∈ mAll) (h4 : Cond.code Lib.Math.max.name Lib.Math.max.code 2 (some .int) ∈ mAll) (hf : 1 ≤ R.frames) (hlo : tsm st + 13 ≤ R.locals) (hc : cells ≤ R.cells) (hs : slots ≤ R.slots) (kk : mV p l e R s m args below meth c D dA A nL w cells slots Q (pc + 3) lv (vI (if x < y then y else x) :: st)) : mV p l e R s m args below meth c D dA A nL w cells slots Q pc lv (vI y :: vI x :: st) := by
  intro H locs ls hP hS hl
  exact va_mmax X.x X.b (by rw [X.ml]; exact hl.1.symm) X.oc (X.ts _ h1) (X.ts _ h2) (X.ts _ h3) (X.ts _ h4) hf (by rw [tv_sum]; exact hlo) hc hs hd (kk H locs ls hP hS hl)
end MV4
end
section
theorem d_M_isRegister_0 : decode c_M_isRegister 0 = .ok (.iload_n 0, 1) := by decide +kernel
theorem d_M_isRegister_1 : decode c_M_isRegister 1 = .ok (.ifCond .lt 13, 3) := by decide +kernel
theorem d_M_isRegister_4 : decode c_M_isRegister 4 = .ok (.iload_n 0, 1) := by decide +kernel
theorem d_M_isRegister_5 : decode c_M_isRegister 5 = .ok (.bipush 8, 2) := by decide +kernel
theorem d_M_isRegister_7 : decode c_M_isRegister 7 = .ok (.if_icmp .ge 7, 3) := by decide +kernel
theorem d_M_isRegister_10 : decode c_M_isRegister 10 = .ok (.iconst 1, 1) := by decide +kernel
theorem d_M_isRegister_11 : decode c_M_isRegister 11 = .ok (.goto 4, 3) := by decide +kernel
theorem d_M_isRegister_14 : decode c_M_isRegister 14 = .ok (.iconst 0, 1) := by decide +kernel
theorem d_M_isRegister_15 : decode c_M_isRegister 15 = .ok (.ireturn, 1) := by decide +kernel
theorem d_M_isObject_0 : decode c_M_isObject 0 = .ok (.lload_n 0, 1) := by decide +kernel
theorem d_M_isObject_1 : decode c_M_isObject 1 = .ok (.bipush 32, 2) := by decide +kernel
theorem d_M_isObject_3 : decode c_M_isObject 3 = .ok (.lshr, 1) := by decide +kernel
theorem d_M_isObject_4 : decode c_M_isObject 4 = .ok (.ldc2_w 60, 3) := by decide +kernel
theorem d_M_isObject_7 : decode c_M_isObject 7 = .ok (.lcmp, 1) := by decide +kernel
theorem d_M_isObject_8 : decode c_M_isObject 8 = .ok (.ifCond .ne 7, 3) := by decide +kernel
theorem d_M_isObject_11 : decode c_M_isObject 11 = .ok (.iconst 1, 1) := by decide +kernel
theorem d_M_isObject_12 : decode c_M_isObject 12 = .ok (.goto 4, 3) := by decide +kernel
theorem d_M_isObject_15 : decode c_M_isObject 15 = .ok (.iconst 0, 1) := by decide +kernel
theorem d_M_isObject_16 : decode c_M_isObject 16 = .ok (.ireturn, 1) := by decide +kernel
theorem d_M_is_0 : decode c_M_is 0 = .ok (.lload_n 1, 1) := by decide +kernel
theorem d_M_is_1 : decode c_M_is 1 = .ok (.invokestatic 62, 3) := by decide +kernel
theorem d_M_is_4 : decode c_M_is 4 = .ok (.ifCond .eq 18, 3) := by decide +kernel
theorem d_M_is_7 : decode c_M_is 7 = .ok (.aload_n 0, 1) := by decide +kernel
theorem d_M_is_8 : decode c_M_is 8 = .ok (.getfield 13, 3) := by decide +kernel
theorem d_M_is_11 : decode c_M_is 11 = .ok (.lload_n 1, 1) := by decide +kernel
theorem d_M_is_12 : decode c_M_is 12 = .ok (.l2i, 1) := by decide +kernel
theorem d_M_is_13 : decode c_M_is 13 = .ok (.iaload, 1) := by decide +kernel
theorem d_M_is_14 : decode c_M_is 14 = .ok (.iload_n 3, 1) := by decide +kernel
theorem d_M_is_15 : decode c_M_is 15 = .ok (.if_icmp .ne 7, 3) := by decide +kernel
theorem d_M_is_18 : decode c_M_is 18 = .ok (.iconst 1, 1) := by decide +kernel
theorem d_M_is_19 : decode c_M_is 19 = .ok (.goto 4, 3) := by decide +kernel
theorem d_M_is_22 : decode c_M_is 22 = .ok (.iconst 0, 1) := by decide +kernel
theorem d_M_is_23 : decode c_M_is 23 = .ok (.ireturn, 1) := by decide +kernel
theorem d_M_cellsOf_0 : decode c_M_cellsOf 0 = .ok (.iload_n 0, 1) := by decide +kernel
theorem d_M_cellsOf_1 : decode c_M_cellsOf 1 = .ok (.iconst 1, 1) := by decide +kernel
theorem d_M_cellsOf_2 : decode c_M_cellsOf 2 = .ok (.if_icmp .ne 9, 3) := by decide +kernel
theorem d_M_cellsOf_5 : decode c_M_cellsOf 5 = .ok (.iconst 3, 1) := by decide +kernel
theorem d_M_cellsOf_6 : decode c_M_cellsOf 6 = .ok (.iload_n 1, 1) := by decide +kernel
theorem d_M_cellsOf_7 : decode c_M_cellsOf 7 = .ok (.iadd, 1) := by decide +kernel
theorem d_M_cellsOf_8 : decode c_M_cellsOf 8 = .ok (.goto 27, 3) := by decide +kernel
theorem d_M_cellsOf_11 : decode c_M_cellsOf 11 = .ok (.iload_n 0, 1) := by decide +kernel
theorem d_M_cellsOf_12 : decode c_M_cellsOf 12 = .ok (.iconst 2, 1) := by decide +kernel
theorem d_M_cellsOf_13 : decode c_M_cellsOf 13 = .ok (.if_icmp .eq 8, 3) := by decide +kernel
theorem d_M_cellsOf_16 : decode c_M_cellsOf 16 = .ok (.iload_n 0, 1) := by decide +kernel
theorem d_M_cellsOf_17 : decode c_M_cellsOf 17 = .ok (.iconst 4, 1) := by decide +kernel
theorem d_M_cellsOf_18 : decode c_M_cellsOf 18 = .ok (.if_icmp .ne 7, 3) := by decide +kernel
theorem d_M_cellsOf_21 : decode c_M_cellsOf 21 = .ok (.iconst 3, 1) := by decide +kernel
theorem d_M_cellsOf_22 : decode c_M_cellsOf 22 = .ok (.goto 13, 3) := by decide +kernel
theorem d_M_cellsOf_25 : decode c_M_cellsOf 25 = .ok (.iload_n 0, 1) := by decide +kernel
theorem d_M_cellsOf_26 : decode c_M_cellsOf 26 = .ok (.iconst 5, 1) := by decide +kernel
theorem d_M_cellsOf_27 : decode c_M_cellsOf 27 = .ok (.if_icmp .ne 7, 3) := by decide +kernel
theorem d_M_cellsOf_30 : decode c_M_cellsOf 30 = .ok (.iconst 5, 1) := by decide +kernel
theorem d_M_cellsOf_31 : decode c_M_cellsOf 31 = .ok (.goto 4, 3) := by decide +kernel
theorem d_M_cellsOf_34 : decode c_M_cellsOf 34 = .ok (.iconst 4, 1) := by decide +kernel
theorem d_M_cellsOf_35 : decode c_M_cellsOf 35 = .ok (.ireturn, 1) := by decide +kernel
theorem d_M_cellAt_0 : decode c_M_cellAt 0 = .ok (.aload_n 0, 1) := by decide +kernel
theorem d_M_cellAt_1 : decode c_M_cellAt 1 = .ok (.getfield 20, 3) := by decide +kernel
theorem d_M_cellAt_4 : decode c_M_cellAt 4 = .ok (.lload_n 1, 1) := by decide +kernel
theorem d_M_cellAt_5 : decode c_M_cellAt 5 = .ok (.l2i, 1) := by decide +kernel
theorem d_M_cellAt_6 : decode c_M_cellAt 6 = .ok (.iaload, 1) := by decide +kernel
theorem d_M_cellAt_7 : decode c_M_cellAt 7 = .ok (.istore 4, 2) := by decide +kernel
theorem d_M_cellAt_9 : decode c_M_cellAt 9 = .ok (.iconst 0, 1) := by decide +kernel
theorem d_M_cellAt_10 : decode c_M_cellAt 10 = .ok (.istore 5, 2) := by decide +kernel
theorem d_M_cellAt_12 : decode c_M_cellAt 12 = .ok (.iload 5, 2) := by decide +kernel
theorem d_M_cellAt_14 : decode c_M_cellAt 14 = .ok (.iload_n 3, 1) := by decide +kernel
theorem d_M_cellAt_15 : decode c_M_cellAt 15 = .ok (.if_icmp .ge 18, 3) := by decide +kernel
theorem d_M_cellAt_18 : decode c_M_cellAt 18 = .ok (.aload_n 0, 1) := by decide +kernel
theorem d_M_cellAt_19 : decode c_M_cellAt 19 = .ok (.getfield 39, 3) := by decide +kernel
theorem d_M_cellAt_22 : decode c_M_cellAt 22 = .ok (.iload 4, 2) := by decide +kernel
theorem d_M_cellAt_24 : decode c_M_cellAt 24 = .ok (.iaload, 1) := by decide +kernel
theorem d_M_cellAt_25 : decode c_M_cellAt 25 = .ok (.istore 4, 2) := by decide +kernel
theorem d_M_cellAt_27 : decode c_M_cellAt 27 = .ok (.iinc 5 1, 3) := by decide +kernel
theorem d_M_cellAt_30 : decode c_M_cellAt 30 = .ok (.goto (-18), 3) := by decide +kernel
theorem d_M_cellAt_33 : decode c_M_cellAt 33 = .ok (.iload 4, 2) := by decide +kernel
theorem d_M_cellAt_35 : decode c_M_cellAt 35 = .ok (.ireturn, 1) := by decide +kernel
theorem d_M_field_0 : decode c_M_field 0 = .ok (.aload_n 0, 1) := by decide +kernel
theorem d_M_field_1 : decode c_M_field 1 = .ok (.getfield 36, 3) := by decide +kernel
theorem d_M_field_4 : decode c_M_field 4 = .ok (.aload_n 0, 1) := by decide +kernel
theorem d_M_field_5 : decode c_M_field 5 = .ok (.lload_n 1, 1) := by decide +kernel
theorem d_M_field_6 : decode c_M_field 6 = .ok (.iload_n 3, 1) := by decide +kernel
theorem d_M_field_7 : decode c_M_field 7 = .ok (.invokevirtual 66, 3) := by decide +kernel
theorem d_M_field_10 : decode c_M_field 10 = .ok (.laload, 1) := by decide +kernel
theorem d_M_field_11 : decode c_M_field 11 = .ok (.lreturn, 1) := by decide +kernel
theorem d_M_setField_0 : decode c_M_setField 0 = .ok (.aload_n 0, 1) := by decide +kernel
theorem d_M_setField_1 : decode c_M_setField 1 = .ok (.getfield 36, 3) := by decide +kernel
theorem d_M_setField_4 : decode c_M_setField 4 = .ok (.aload_n 0, 1) := by decide +kernel
theorem d_M_setField_5 : decode c_M_setField 5 = .ok (.lload_n 1, 1) := by decide +kernel
theorem d_M_setField_6 : decode c_M_setField 6 = .ok (.iload_n 3, 1) := by decide +kernel
theorem d_M_setField_7 : decode c_M_setField 7 = .ok (.invokevirtual 66, 3) := by decide +kernel
theorem d_M_setField_10 : decode c_M_setField 10 = .ok (.lload 4, 2) := by decide +kernel
theorem d_M_setField_12 : decode c_M_setField 12 = .ok (.lastore, 1) := by decide +kernel
theorem d_M_setField_13 : decode c_M_setField 13 = .ok (.return_, 1) := by decide +kernel
theorem d_M_add_0 : decode c_M_add 0 = .ok (.iconst 0, 1) := by decide +kernel
theorem d_M_add_1 : decode c_M_add 1 = .ok (.istore 5, 2) := by decide +kernel
theorem d_M_add_3 : decode c_M_add 3 = .ok (.aload_n 0, 1) := by decide +kernel
theorem d_M_add_4 : decode c_M_add 4 = .ok (.getfield 26, 3) := by decide +kernel
theorem d_M_add_7 : decode c_M_add 7 = .ok (.iload 5, 2) := by decide +kernel
theorem d_M_add_9 : decode c_M_add 9 = .ok (.baload, 1) := by decide +kernel
theorem d_M_add_10 : decode c_M_add 10 = .ok (.ifCond .eq 12, 3) := by decide +kernel
theorem d_M_add_13 : decode c_M_add 13 = .ok (.iload 5, 2) := by decide +kernel
theorem d_M_add_15 : decode c_M_add 15 = .ok (.iconst 1, 1) := by decide +kernel
theorem d_M_add_16 : decode c_M_add 16 = .ok (.iadd, 1) := by decide +kernel
theorem d_M_add_17 : decode c_M_add 17 = .ok (.istore 5, 2) := by decide +kernel
theorem d_M_add_19 : decode c_M_add 19 = .ok (.goto (-16), 3) := by decide +kernel
theorem d_M_add_22 : decode c_M_add 22 = .ok (.aload_n 0, 1) := by decide +kernel
theorem d_M_add_23 : decode c_M_add 23 = .ok (.getfield 13, 3) := by decide +kernel
theorem d_M_add_26 : decode c_M_add 26 = .ok (.iload 5, 2) := by decide +kernel
theorem d_M_add_28 : decode c_M_add 28 = .ok (.iload_n 1, 1) := by decide +kernel
theorem d_M_add_29 : decode c_M_add 29 = .ok (.iastore, 1) := by decide +kernel
theorem d_M_add_30 : decode c_M_add 30 = .ok (.aload_n 0, 1) := by decide +kernel
theorem d_M_add_31 : decode c_M_add 31 = .ok (.getfield 17, 3) := by decide +kernel
theorem d_M_add_34 : decode c_M_add 34 = .ok (.iload 5, 2) := by decide +kernel
theorem d_M_add_36 : decode c_M_add 36 = .ok (.iload_n 2, 1) := by decide +kernel
theorem d_M_add_37 : decode c_M_add 37 = .ok (.iastore, 1) := by decide +kernel
theorem d_M_add_38 : decode c_M_add 38 = .ok (.aload_n 0, 1) := by decide +kernel
theorem d_M_add_39 : decode c_M_add 39 = .ok (.getfield 23, 3) := by decide +kernel
theorem d_M_add_42 : decode c_M_add 42 = .ok (.iload 5, 2) := by decide +kernel
theorem d_M_add_44 : decode c_M_add 44 = .ok (.iconst 0, 1) := by decide +kernel
theorem d_M_add_45 : decode c_M_add 45 = .ok (.iastore, 1) := by decide +kernel
theorem d_M_add_46 : decode c_M_add 46 = .ok (.aload_n 0, 1) := by decide +kernel
theorem d_M_add_47 : decode c_M_add 47 = .ok (.getfield 26, 3) := by decide +kernel
theorem d_M_add_50 : decode c_M_add 50 = .ok (.iload 5, 2) := by decide +kernel
theorem d_M_add_52 : decode c_M_add 52 = .ok (.iconst 1, 1) := by decide +kernel
theorem d_M_add_53 : decode c_M_add 53 = .ok (.bastore, 1) := by decide +kernel
theorem d_M_add_54 : decode c_M_add 54 = .ok (.aload_n 0, 1) := by decide +kernel
theorem d_M_add_55 : decode c_M_add 55 = .ok (.getfield 20, 3) := by decide +kernel
theorem d_M_add_58 : decode c_M_add 58 = .ok (.iload 5, 2) := by decide +kernel
theorem d_M_add_60 : decode c_M_add 60 = .ok (.iconst (-1), 1) := by decide +kernel
theorem d_M_add_61 : decode c_M_add 61 = .ok (.iastore, 1) := by decide +kernel
theorem d_M_add_62 : decode c_M_add 62 = .ok (.iconst 0, 1) := by decide +kernel
theorem d_M_add_63 : decode c_M_add 63 = .ok (.istore 6, 2) := by decide +kernel
theorem d_M_add_65 : decode c_M_add 65 = .ok (.iload 6, 2) := by decide +kernel
theorem d_M_add_67 : decode c_M_add 67 = .ok (.iload_n 2, 1) := by decide +kernel
theorem d_M_add_68 : decode c_M_add 68 = .ok (.if_icmp .ge 57, 3) := by decide +kernel
theorem d_M_add_71 : decode c_M_add 71 = .ok (.aload_n 0, 1) := by decide +kernel
theorem d_M_add_72 : decode c_M_add 72 = .ok (.getfield 76, 3) := by decide +kernel
theorem d_M_add_75 : decode c_M_add 75 = .ok (.istore 7, 2) := by decide +kernel
theorem d_M_add_77 : decode c_M_add 77 = .ok (.aload_n 0, 1) := by decide +kernel
theorem d_M_add_78 : decode c_M_add 78 = .ok (.aload_n 0, 1) := by decide +kernel
theorem d_M_add_79 : decode c_M_add 79 = .ok (.getfield 39, 3) := by decide +kernel
theorem d_M_add_82 : decode c_M_add 82 = .ok (.iload 7, 2) := by decide +kernel
theorem d_M_add_84 : decode c_M_add 84 = .ok (.iaload, 1) := by decide +kernel
theorem d_M_add_85 : decode c_M_add 85 = .ok (.putfield 76, 3) := by decide +kernel
theorem d_M_add_88 : decode c_M_add 88 = .ok (.aload_n 0, 1) := by decide +kernel
theorem d_M_add_89 : decode c_M_add 89 = .ok (.getfield 36, 3) := by decide +kernel
theorem d_M_add_92 : decode c_M_add 92 = .ok (.iload 7, 2) := by decide +kernel
theorem d_M_add_94 : decode c_M_add 94 = .ok (.lload_n 3, 1) := by decide +kernel
theorem d_M_add_95 : decode c_M_add 95 = .ok (.lastore, 1) := by decide +kernel
theorem d_M_add_96 : decode c_M_add 96 = .ok (.aload_n 0, 1) := by decide +kernel
theorem d_M_add_97 : decode c_M_add 97 = .ok (.getfield 39, 3) := by decide +kernel
theorem d_M_add_100 : decode c_M_add 100 = .ok (.iload 7, 2) := by decide +kernel
theorem d_M_add_102 : decode c_M_add 102 = .ok (.aload_n 0, 1) := by decide +kernel
theorem d_M_add_103 : decode c_M_add 103 = .ok (.getfield 20, 3) := by decide +kernel
theorem d_M_add_106 : decode c_M_add 106 = .ok (.iload 5, 2) := by decide +kernel
theorem d_M_add_108 : decode c_M_add 108 = .ok (.iaload, 1) := by decide +kernel
theorem d_M_add_109 : decode c_M_add 109 = .ok (.iastore, 1) := by decide +kernel
theorem d_M_add_110 : decode c_M_add 110 = .ok (.aload_n 0, 1) := by decide +kernel
theorem d_M_add_111 : decode c_M_add 111 = .ok (.getfield 20, 3) := by decide +kernel
theorem d_M_add_114 : decode c_M_add 114 = .ok (.iload 5, 2) := by decide +kernel
theorem d_M_add_116 : decode c_M_add 116 = .ok (.iload 7, 2) := by decide +kernel
theorem d_M_add_118 : decode c_M_add 118 = .ok (.iastore, 1) := by decide +kernel
theorem d_M_add_119 : decode c_M_add 119 = .ok (.iinc 6 1, 3) := by decide +kernel
theorem d_M_add_122 : decode c_M_add 122 = .ok (.goto (-57), 3) := by decide +kernel
theorem d_M_add_125 : decode c_M_add 125 = .ok (.aload_n 0, 1) := by decide +kernel
theorem d_M_add_126 : decode c_M_add 126 = .ok (.aload_n 0, 1) := by decide +kernel
theorem d_M_add_127 : decode c_M_add 127 = .ok (.getfield 70, 3) := by decide +kernel
theorem d_M_add_130 : decode c_M_add 130 = .ok (.iload_n 1, 1) := by decide +kernel
theorem d_M_add_131 : decode c_M_add 131 = .ok (.iload_n 2, 1) := by decide +kernel
theorem d_M_add_132 : decode c_M_add 132 = .ok (.invokestatic 79, 3) := by decide +kernel
theorem d_M_add_135 : decode c_M_add 135 = .ok (.iadd, 1) := by decide +kernel
theorem d_M_add_136 : decode c_M_add 136 = .ok (.putfield 70, 3) := by decide +kernel
theorem d_M_add_139 : decode c_M_add 139 = .ok (.aload_n 0, 1) := by decide +kernel
theorem d_M_add_140 : decode c_M_add 140 = .ok (.aload_n 0, 1) := by decide +kernel
theorem d_M_add_141 : decode c_M_add 141 = .ok (.getfield 83, 3) := by decide +kernel
theorem d_M_add_144 : decode c_M_add 144 = .ok (.iconst 1, 1) := by decide +kernel
theorem d_M_add_145 : decode c_M_add 145 = .ok (.iadd, 1) := by decide +kernel
theorem d_M_add_146 : decode c_M_add 146 = .ok (.putfield 83, 3) := by decide +kernel
theorem d_M_add_149 : decode c_M_add 149 = .ok (.ldc2_w 86, 3) := by decide +kernel
theorem d_M_add_152 : decode c_M_add 152 = .ok (.iload 5, 2) := by decide +kernel
theorem d_M_add_154 : decode c_M_add 154 = .ok (.i2l, 1) := by decide +kernel
theorem d_M_add_155 : decode c_M_add 155 = .ok (.lor, 1) := by decide +kernel
theorem d_M_add_156 : decode c_M_add 156 = .ok (.lreturn, 1) := by decide +kernel
theorem d_M_drop_0 : decode c_M_drop 0 = .ok (.aload_n 0, 1) := by decide +kernel
theorem d_M_drop_1 : decode c_M_drop 1 = .ok (.getfield 20, 3) := by decide +kernel
theorem d_M_drop_4 : decode c_M_drop 4 = .ok (.iload_n 1, 1) := by decide +kernel
theorem d_M_drop_5 : decode c_M_drop 5 = .ok (.iaload, 1) := by decide +kernel
theorem d_M_drop_6 : decode c_M_drop 6 = .ok (.ifCond .lt 40, 3) := by decide +kernel
theorem d_M_drop_9 : decode c_M_drop 9 = .ok (.aload_n 0, 1) := by decide +kernel
theorem d_M_drop_10 : decode c_M_drop 10 = .ok (.getfield 20, 3) := by decide +kernel
theorem d_M_drop_13 : decode c_M_drop 13 = .ok (.iload_n 1, 1) := by decide +kernel
theorem d_M_drop_14 : decode c_M_drop 14 = .ok (.iaload, 1) := by decide +kernel
theorem d_M_drop_15 : decode c_M_drop 15 = .ok (.istore_n 2, 1) := by decide +kernel
theorem d_M_drop_16 : decode c_M_drop 16 = .ok (.aload_n 0, 1) := by decide +kernel
theorem d_M_drop_17 : decode c_M_drop 17 = .ok (.getfield 20, 3) := by decide +kernel
theorem d_M_drop_20 : decode c_M_drop 20 = .ok (.iload_n 1, 1) := by decide +kernel
theorem d_M_drop_21 : decode c_M_drop 21 = .ok (.aload_n 0, 1) := by decide +kernel
theorem d_M_drop_22 : decode c_M_drop 22 = .ok (.getfield 39, 3) := by decide +kernel
theorem d_M_drop_25 : decode c_M_drop 25 = .ok (.iload_n 2, 1) := by decide +kernel
theorem d_M_drop_26 : decode c_M_drop 26 = .ok (.iaload, 1) := by decide +kernel
theorem d_M_drop_27 : decode c_M_drop 27 = .ok (.iastore, 1) := by decide +kernel
theorem d_M_drop_28 : decode c_M_drop 28 = .ok (.aload_n 0, 1) := by decide +kernel
theorem d_M_drop_29 : decode c_M_drop 29 = .ok (.getfield 39, 3) := by decide +kernel
theorem d_M_drop_32 : decode c_M_drop 32 = .ok (.iload_n 2, 1) := by decide +kernel
theorem d_M_drop_33 : decode c_M_drop 33 = .ok (.aload_n 0, 1) := by decide +kernel
theorem d_M_drop_34 : decode c_M_drop 34 = .ok (.getfield 76, 3) := by decide +kernel
theorem d_M_drop_37 : decode c_M_drop 37 = .ok (.iastore, 1) := by decide +kernel
theorem d_M_drop_38 : decode c_M_drop 38 = .ok (.aload_n 0, 1) := by decide +kernel
theorem d_M_drop_39 : decode c_M_drop 39 = .ok (.iload_n 2, 1) := by decide +kernel
theorem d_M_drop_40 : decode c_M_drop 40 = .ok (.putfield 76, 3) := by decide +kernel
theorem d_M_drop_43 : decode c_M_drop 43 = .ok (.goto (-43), 3) := by decide +kernel
theorem d_M_drop_46 : decode c_M_drop 46 = .ok (.aload_n 0, 1) := by decide +kernel
theorem d_M_drop_47 : decode c_M_drop 47 = .ok (.getfield 26, 3) := by decide +kernel
theorem d_M_drop_50 : decode c_M_drop 50 = .ok (.iload_n 1, 1) := by decide +kernel
theorem d_M_drop_51 : decode c_M_drop 51 = .ok (.iconst 0, 1) := by decide +kernel
theorem d_M_drop_52 : decode c_M_drop 52 = .ok (.bastore, 1) := by decide +kernel
theorem d_M_drop_53 : decode c_M_drop 53 = .ok (.aload_n 0, 1) := by decide +kernel
theorem d_M_drop_54 : decode c_M_drop 54 = .ok (.aload_n 0, 1) := by decide +kernel
theorem d_M_drop_55 : decode c_M_drop 55 = .ok (.getfield 70, 3) := by decide +kernel
theorem d_M_drop_58 : decode c_M_drop 58 = .ok (.aload_n 0, 1) := by decide +kernel
theorem d_M_drop_59 : decode c_M_drop 59 = .ok (.getfield 13, 3) := by decide +kernel
theorem d_M_drop_62 : decode c_M_drop 62 = .ok (.iload_n 1, 1) := by decide +kernel
theorem d_M_drop_63 : decode c_M_drop 63 = .ok (.iaload, 1) := by decide +kernel
theorem d_M_drop_64 : decode c_M_drop 64 = .ok (.aload_n 0, 1) := by decide +kernel
theorem d_M_drop_65 : decode c_M_drop 65 = .ok (.getfield 17, 3) := by decide +kernel
theorem d_M_drop_68 : decode c_M_drop 68 = .ok (.iload_n 1, 1) := by decide +kernel
theorem d_M_drop_69 : decode c_M_drop 69 = .ok (.iaload, 1) := by decide +kernel
theorem d_M_drop_70 : decode c_M_drop 70 = .ok (.invokestatic 79, 3) := by decide +kernel
theorem d_M_drop_73 : decode c_M_drop 73 = .ok (.isub, 1) := by decide +kernel
theorem d_M_drop_74 : decode c_M_drop 74 = .ok (.putfield 70, 3) := by decide +kernel
theorem d_M_drop_77 : decode c_M_drop 77 = .ok (.aload_n 0, 1) := by decide +kernel
theorem d_M_drop_78 : decode c_M_drop 78 = .ok (.aload_n 0, 1) := by decide +kernel
theorem d_M_drop_79 : decode c_M_drop 79 = .ok (.getfield 83, 3) := by decide +kernel
theorem d_M_drop_82 : decode c_M_drop 82 = .ok (.iconst 1, 1) := by decide +kernel
theorem d_M_drop_83 : decode c_M_drop 83 = .ok (.isub, 1) := by decide +kernel
theorem d_M_drop_84 : decode c_M_drop 84 = .ok (.putfield 83, 3) := by decide +kernel
theorem d_M_drop_87 : decode c_M_drop 87 = .ok (.return_, 1) := by decide +kernel
theorem d_M_isLive_0 : decode c_M_isLive 0 = .ok (.lload_n 1, 1) := by decide +kernel
theorem d_M_isLive_1 : decode c_M_isLive 1 = .ok (.invokestatic 62, 3) := by decide +kernel
theorem d_M_isLive_4 : decode c_M_isLive 4 = .ok (.ifCond .eq 13, 3) := by decide +kernel
theorem d_M_isLive_7 : decode c_M_isLive 7 = .ok (.aload_n 0, 1) := by decide +kernel
theorem d_M_isLive_8 : decode c_M_isLive 8 = .ok (.getfield 30, 3) := by decide +kernel
theorem d_M_isLive_11 : decode c_M_isLive 11 = .ok (.lload_n 1, 1) := by decide +kernel
theorem d_M_isLive_12 : decode c_M_isLive 12 = .ok (.l2i, 1) := by decide +kernel
theorem d_M_isLive_13 : decode c_M_isLive 13 = .ok (.baload, 1) := by decide +kernel
theorem d_M_isLive_14 : decode c_M_isLive 14 = .ok (.ifCond .eq 7, 3) := by decide +kernel
theorem d_M_isLive_17 : decode c_M_isLive 17 = .ok (.iconst 1, 1) := by decide +kernel
theorem d_M_isLive_18 : decode c_M_isLive 18 = .ok (.goto 4, 3) := by decide +kernel
theorem d_M_isLive_21 : decode c_M_isLive 21 = .ok (.iconst 0, 1) := by decide +kernel
theorem d_M_isLive_22 : decode c_M_isLive 22 = .ok (.ireturn, 1) := by decide +kernel
theorem d_M_mark_0 : decode c_M_mark 0 = .ok (.aload_n 0, 1) := by decide +kernel
theorem d_M_mark_1 : decode c_M_mark 1 = .ok (.lload_n 1, 1) := by decide +kernel
theorem d_M_mark_2 : decode c_M_mark 2 = .ok (.invokevirtual 88, 3) := by decide +kernel
theorem d_M_mark_5 : decode c_M_mark 5 = .ok (.ifCond .eq 4, 3) := by decide +kernel
theorem d_M_mark_8 : decode c_M_mark 8 = .ok (.return_, 1) := by decide +kernel
theorem d_M_mark_9 : decode c_M_mark 9 = .ok (.aload_n 0, 1) := by decide +kernel
theorem d_M_mark_10 : decode c_M_mark 10 = .ok (.getfield 30, 3) := by decide +kernel
theorem d_M_mark_13 : decode c_M_mark 13 = .ok (.lload_n 1, 1) := by decide +kernel
theorem d_M_mark_14 : decode c_M_mark 14 = .ok (.l2i, 1) := by decide +kernel
theorem d_M_mark_15 : decode c_M_mark 15 = .ok (.iconst 1, 1) := by decide +kernel
theorem d_M_mark_16 : decode c_M_mark 16 = .ok (.bastore, 1) := by decide +kernel
theorem d_M_mark_17 : decode c_M_mark 17 = .ok (.aload_n 0, 1) := by decide +kernel
theorem d_M_mark_18 : decode c_M_mark 18 = .ok (.getfield 33, 3) := by decide +kernel
theorem d_M_mark_21 : decode c_M_mark 21 = .ok (.aload_n 0, 1) := by decide +kernel
theorem d_M_mark_22 : decode c_M_mark 22 = .ok (.getfield 91, 3) := by decide +kernel
theorem d_M_mark_25 : decode c_M_mark 25 = .ok (.lload_n 1, 1) := by decide +kernel
theorem d_M_mark_26 : decode c_M_mark 26 = .ok (.l2i, 1) := by decide +kernel
theorem d_M_mark_27 : decode c_M_mark 27 = .ok (.iastore, 1) := by decide +kernel
theorem d_M_mark_28 : decode c_M_mark 28 = .ok (.aload_n 0, 1) := by decide +kernel
theorem d_M_mark_29 : decode c_M_mark 29 = .ok (.aload_n 0, 1) := by decide +kernel
theorem d_M_mark_30 : decode c_M_mark 30 = .ok (.getfield 91, 3) := by decide +kernel
theorem d_M_mark_33 : decode c_M_mark 33 = .ok (.iconst 1, 1) := by decide +kernel
theorem d_M_mark_34 : decode c_M_mark 34 = .ok (.iadd, 1) := by decide +kernel
theorem d_M_mark_35 : decode c_M_mark 35 = .ok (.putfield 91, 3) := by decide +kernel
theorem d_M_mark_38 : decode c_M_mark 38 = .ok (.return_, 1) := by decide +kernel
theorem d_M_number_0 : decode c_M_number 0 = .ok (.iload_n 1, 1) := by decide +kernel
theorem d_M_number_1 : decode c_M_number 1 = .ok (.invokestatic 137, 3) := by decide +kernel
theorem d_M_number_4 : decode c_M_number 4 = .ok (.ifCond .ne 5, 3) := by decide +kernel
theorem d_M_number_7 : decode c_M_number 7 = .ok (.iconst 0, 1) := by decide +kernel
theorem d_M_number_8 : decode c_M_number 8 = .ok (.ireturn, 1) := by decide +kernel
theorem d_M_number_9 : decode c_M_number 9 = .ok (.aload_n 0, 1) := by decide +kernel
theorem d_M_number_10 : decode c_M_number 10 = .ok (.getfield 7, 3) := by decide +kernel
theorem d_M_number_13 : decode c_M_number 13 = .ok (.iload_n 1, 1) := by decide +kernel
theorem d_M_number_14 : decode c_M_number 14 = .ok (.iload_n 2, 1) := by decide +kernel
theorem d_M_number_15 : decode c_M_number 15 = .ok (.i2l, 1) := by decide +kernel
theorem d_M_number_16 : decode c_M_number 16 = .ok (.ldc2_w 141, 3) := by decide +kernel
theorem d_M_number_19 : decode c_M_number 19 = .ok (.land, 1) := by decide +kernel
theorem d_M_number_20 : decode c_M_number 20 = .ok (.lastore, 1) := by decide +kernel
theorem d_M_number_21 : decode c_M_number 21 = .ok (.iconst 1, 1) := by decide +kernel
theorem d_M_number_22 : decode c_M_number 22 = .ok (.ireturn, 1) := by decide +kernel
theorem d_M_copy_0 : decode c_M_copy 0 = .ok (.iload_n 1, 1) := by decide +kernel
theorem d_M_copy_1 : decode c_M_copy 1 = .ok (.invokestatic 137, 3) := by decide +kernel
theorem d_M_copy_4 : decode c_M_copy 4 = .ok (.ifCond .eq 15, 3) := by decide +kernel
theorem d_M_copy_7 : decode c_M_copy 7 = .ok (.iload_n 2, 1) := by decide +kernel
theorem d_M_copy_8 : decode c_M_copy 8 = .ok (.iconst (-1), 1) := by decide +kernel
theorem d_M_copy_9 : decode c_M_copy 9 = .ok (.if_icmp .eq 12, 3) := by decide +kernel
theorem d_M_copy_12 : decode c_M_copy 12 = .ok (.iload_n 2, 1) := by decide +kernel
theorem d_M_copy_13 : decode c_M_copy 13 = .ok (.invokestatic 137, 3) := by decide +kernel
theorem d_M_copy_16 : decode c_M_copy 16 = .ok (.ifCond .ne 5, 3) := by decide +kernel
theorem d_M_copy_19 : decode c_M_copy 19 = .ok (.iconst 0, 1) := by decide +kernel
theorem d_M_copy_20 : decode c_M_copy 20 = .ok (.ireturn, 1) := by decide +kernel
theorem d_M_copy_21 : decode c_M_copy 21 = .ok (.aload_n 0, 1) := by decide +kernel
theorem d_M_copy_22 : decode c_M_copy 22 = .ok (.getfield 7, 3) := by decide +kernel
theorem d_M_copy_25 : decode c_M_copy 25 = .ok (.iload_n 1, 1) := by decide +kernel
theorem d_M_copy_26 : decode c_M_copy 26 = .ok (.iload_n 2, 1) := by decide +kernel
theorem d_M_copy_27 : decode c_M_copy 27 = .ok (.iconst (-1), 1) := by decide +kernel
theorem d_M_copy_28 : decode c_M_copy 28 = .ok (.if_icmp .ne 9, 3) := by decide +kernel
theorem d_M_copy_31 : decode c_M_copy 31 = .ok (.ldc2_w 58, 3) := by decide +kernel
theorem d_M_copy_34 : decode c_M_copy 34 = .ok (.goto 9, 3) := by decide +kernel
theorem d_M_copy_37 : decode c_M_copy 37 = .ok (.aload_n 0, 1) := by decide +kernel
theorem d_M_copy_38 : decode c_M_copy 38 = .ok (.getfield 7, 3) := by decide +kernel
theorem d_M_copy_41 : decode c_M_copy 41 = .ok (.iload_n 2, 1) := by decide +kernel
theorem d_M_copy_42 : decode c_M_copy 42 = .ok (.laload, 1) := by decide +kernel
theorem d_M_copy_43 : decode c_M_copy 43 = .ok (.lastore, 1) := by decide +kernel
theorem d_M_copy_44 : decode c_M_copy 44 = .ok (.iconst 1, 1) := by decide +kernel
theorem d_M_copy_45 : decode c_M_copy 45 = .ok (.ireturn, 1) := by decide +kernel
theorem d_M_shown_0 : decode c_M_shown 0 = .ok (.aload_n 0, 1) := by decide +kernel
theorem d_M_shown_1 : decode c_M_shown 1 = .ok (.getfield 13, 3) := by decide +kernel
theorem d_M_shown_4 : decode c_M_shown 4 = .ok (.lload_n 1, 1) := by decide +kernel
theorem d_M_shown_5 : decode c_M_shown 5 = .ok (.l2i, 1) := by decide +kernel
theorem d_M_shown_6 : decode c_M_shown 6 = .ok (.iaload, 1) := by decide +kernel
theorem d_M_shown_7 : decode c_M_shown 7 = .ok (.iconst 4, 1) := by decide +kernel
theorem d_M_shown_8 : decode c_M_shown 8 = .ok (.if_icmp .ne 7, 3) := by decide +kernel
theorem d_M_shown_11 : decode c_M_shown 11 = .ok (.iconst 0, 1) := by decide +kernel
theorem d_M_shown_12 : decode c_M_shown 12 = .ok (.goto 10, 3) := by decide +kernel
theorem d_M_shown_15 : decode c_M_shown 15 = .ok (.aload_n 0, 1) := by decide +kernel
theorem d_M_shown_16 : decode c_M_shown 16 = .ok (.getfield 17, 3) := by decide +kernel
theorem d_M_shown_19 : decode c_M_shown 19 = .ok (.lload_n 1, 1) := by decide +kernel
theorem d_M_shown_20 : decode c_M_shown 20 = .ok (.l2i, 1) := by decide +kernel
theorem d_M_shown_21 : decode c_M_shown 21 = .ok (.iaload, 1) := by decide +kernel
theorem d_M_shown_22 : decode c_M_shown 22 = .ok (.ireturn, 1) := by decide +kernel
theorem d_M_get_0 : decode c_M_get 0 = .ok (.iload_n 1, 1) := by decide +kernel
theorem d_M_get_1 : decode c_M_get 1 = .ok (.invokestatic 137, 3) := by decide +kernel
theorem d_M_get_4 : decode c_M_get 4 = .ok (.ifCond .eq 40, 3) := by decide +kernel
theorem d_M_get_7 : decode c_M_get 7 = .ok (.iload_n 2, 1) := by decide +kernel
theorem d_M_get_8 : decode c_M_get 8 = .ok (.invokestatic 137, 3) := by decide +kernel
theorem d_M_get_11 : decode c_M_get 11 = .ok (.ifCond .eq 33, 3) := by decide +kernel
theorem d_M_get_14 : decode c_M_get 14 = .ok (.aload_n 0, 1) := by decide +kernel
theorem d_M_get_15 : decode c_M_get 15 = .ok (.getfield 7, 3) := by decide +kernel
theorem d_M_get_18 : decode c_M_get 18 = .ok (.iload_n 2, 1) := by decide +kernel
theorem d_M_get_19 : decode c_M_get 19 = .ok (.laload, 1) := by decide +kernel
theorem d_M_get_20 : decode c_M_get 20 = .ok (.invokestatic 62, 3) := by decide +kernel
theorem d_M_get_23 : decode c_M_get 23 = .ok (.ifCond .eq 21, 3) := by decide +kernel
theorem d_M_get_26 : decode c_M_get 26 = .ok (.iload_n 3, 1) := by decide +kernel
theorem d_M_get_27 : decode c_M_get 27 = .ok (.ifCond .lt 17, 3) := by decide +kernel
theorem d_M_get_30 : decode c_M_get 30 = .ok (.iload_n 3, 1) := by decide +kernel
theorem d_M_get_31 : decode c_M_get 31 = .ok (.aload_n 0, 1) := by decide +kernel
theorem d_M_get_32 : decode c_M_get 32 = .ok (.aload_n 0, 1) := by decide +kernel
theorem d_M_get_33 : decode c_M_get 33 = .ok (.getfield 7, 3) := by decide +kernel
theorem d_M_get_36 : decode c_M_get 36 = .ok (.iload_n 2, 1) := by decide +kernel
theorem d_M_get_37 : decode c_M_get 37 = .ok (.laload, 1) := by decide +kernel
theorem d_M_get_38 : decode c_M_get 38 = .ok (.invokevirtual 150, 3) := by decide +kernel
theorem d_M_get_41 : decode c_M_get 41 = .ok (.if_icmp .lt 5, 3) := by decide +kernel
theorem d_M_get_44 : decode c_M_get 44 = .ok (.iconst 0, 1) := by decide +kernel
theorem d_M_get_45 : decode c_M_get 45 = .ok (.ireturn, 1) := by decide +kernel
theorem d_M_get_46 : decode c_M_get 46 = .ok (.aload_n 0, 1) := by decide +kernel
theorem d_M_get_47 : decode c_M_get 47 = .ok (.getfield 7, 3) := by decide +kernel
theorem d_M_get_50 : decode c_M_get 50 = .ok (.iload_n 1, 1) := by decide +kernel
theorem d_M_get_51 : decode c_M_get 51 = .ok (.aload_n 0, 1) := by decide +kernel
theorem d_M_get_52 : decode c_M_get 52 = .ok (.aload_n 0, 1) := by decide +kernel
theorem d_M_get_53 : decode c_M_get 53 = .ok (.getfield 7, 3) := by decide +kernel
theorem d_M_get_56 : decode c_M_get 56 = .ok (.iload_n 2, 1) := by decide +kernel
theorem d_M_get_57 : decode c_M_get 57 = .ok (.laload, 1) := by decide +kernel
theorem d_M_get_58 : decode c_M_get 58 = .ok (.iload_n 3, 1) := by decide +kernel
theorem d_M_get_59 : decode c_M_get 59 = .ok (.invokevirtual 98, 3) := by decide +kernel
theorem d_M_get_62 : decode c_M_get 62 = .ok (.lastore, 1) := by decide +kernel
theorem d_M_get_63 : decode c_M_get 63 = .ok (.iconst 1, 1) := by decide +kernel
theorem d_M_get_64 : decode c_M_get 64 = .ok (.ireturn, 1) := by decide +kernel
theorem d_M_set_0 : decode c_M_set 0 = .ok (.iload_n 1, 1) := by decide +kernel
theorem d_M_set_1 : decode c_M_set 1 = .ok (.invokestatic 137, 3) := by decide +kernel
theorem d_M_set_4 : decode c_M_set 4 = .ok (.ifCond .eq 58, 3) := by decide +kernel
theorem d_M_set_7 : decode c_M_set 7 = .ok (.iload_n 3, 1) := by decide +kernel
theorem d_M_set_8 : decode c_M_set 8 = .ok (.invokestatic 137, 3) := by decide +kernel
theorem d_M_set_11 : decode c_M_set 11 = .ok (.ifCond .eq 51, 3) := by decide +kernel
theorem d_M_set_14 : decode c_M_set 14 = .ok (.aload_n 0, 1) := by decide +kernel
theorem d_M_set_15 : decode c_M_set 15 = .ok (.aload_n 0, 1) := by decide +kernel
theorem d_M_set_16 : decode c_M_set 16 = .ok (.getfield 7, 3) := by decide +kernel
theorem d_M_set_19 : decode c_M_set 19 = .ok (.iload_n 1, 1) := by decide +kernel
theorem d_M_set_20 : decode c_M_set 20 = .ok (.laload, 1) := by decide +kernel
theorem d_M_set_21 : decode c_M_set 21 = .ok (.iconst 0, 1) := by decide +kernel
theorem d_M_set_22 : decode c_M_set 22 = .ok (.invokevirtual 154, 3) := by decide +kernel
theorem d_M_set_25 : decode c_M_set 25 = .ok (.ifCond .ne 17, 3) := by decide +kernel
theorem d_M_set_28 : decode c_M_set 28 = .ok (.aload_n 0, 1) := by decide +kernel
theorem d_M_set_29 : decode c_M_set 29 = .ok (.aload_n 0, 1) := by decide +kernel
theorem d_M_set_30 : decode c_M_set 30 = .ok (.getfield 7, 3) := by decide +kernel
theorem d_M_set_33 : decode c_M_set 33 = .ok (.iload_n 1, 1) := by decide +kernel
theorem d_M_set_34 : decode c_M_set 34 = .ok (.laload, 1) := by decide +kernel
theorem d_M_set_35 : decode c_M_set 35 = .ok (.iconst 1, 1) := by decide +kernel
theorem d_M_set_36 : decode c_M_set 36 = .ok (.invokevirtual 154, 3) := by decide +kernel
theorem d_M_set_39 : decode c_M_set 39 = .ok (.ifCond .eq 23, 3) := by decide +kernel
theorem d_M_set_42 : decode c_M_set 42 = .ok (.iload_n 2, 1) := by decide +kernel
theorem d_M_set_43 : decode c_M_set 43 = .ok (.ifCond .lt 19, 3) := by decide +kernel
theorem d_M_set_46 : decode c_M_set 46 = .ok (.iload_n 2, 1) := by decide +kernel
theorem d_M_set_47 : decode c_M_set 47 = .ok (.aload_n 0, 1) := by decide +kernel
theorem d_M_set_48 : decode c_M_set 48 = .ok (.getfield 17, 3) := by decide +kernel
theorem d_M_set_51 : decode c_M_set 51 = .ok (.aload_n 0, 1) := by decide +kernel
theorem d_M_set_52 : decode c_M_set 52 = .ok (.getfield 7, 3) := by decide +kernel
theorem d_M_set_55 : decode c_M_set 55 = .ok (.iload_n 1, 1) := by decide +kernel
theorem d_M_set_56 : decode c_M_set 56 = .ok (.laload, 1) := by decide +kernel
theorem d_M_set_57 : decode c_M_set 57 = .ok (.l2i, 1) := by decide +kernel
theorem d_M_set_58 : decode c_M_set 58 = .ok (.iaload, 1) := by decide +kernel
theorem d_M_set_59 : decode c_M_set 59 = .ok (.if_icmp .lt 5, 3) := by decide +kernel
theorem d_M_set_62 : decode c_M_set 62 = .ok (.iconst 0, 1) := by decide +kernel
theorem d_M_set_63 : decode c_M_set 63 = .ok (.ireturn, 1) := by decide +kernel
theorem d_M_set_64 : decode c_M_set 64 = .ok (.aload_n 0, 1) := by decide +kernel
theorem d_M_set_65 : decode c_M_set 65 = .ok (.aload_n 0, 1) := by decide +kernel
theorem d_M_set_66 : decode c_M_set 66 = .ok (.getfield 7, 3) := by decide +kernel
theorem d_M_set_69 : decode c_M_set 69 = .ok (.iload_n 1, 1) := by decide +kernel
theorem d_M_set_70 : decode c_M_set 70 = .ok (.laload, 1) := by decide +kernel
theorem d_M_set_71 : decode c_M_set 71 = .ok (.iload_n 2, 1) := by decide +kernel
theorem d_M_set_72 : decode c_M_set 72 = .ok (.aload_n 0, 1) := by decide +kernel
theorem d_M_set_73 : decode c_M_set 73 = .ok (.getfield 7, 3) := by decide +kernel
theorem d_M_set_76 : decode c_M_set 76 = .ok (.iload_n 3, 1) := by decide +kernel
theorem d_M_set_77 : decode c_M_set 77 = .ok (.laload, 1) := by decide +kernel
theorem d_M_set_78 : decode c_M_set 78 = .ok (.invokevirtual 120, 3) := by decide +kernel
theorem d_M_set_81 : decode c_M_set 81 = .ok (.iconst 1, 1) := by decide +kernel
theorem d_M_set_82 : decode c_M_set 82 = .ok (.ireturn, 1) := by decide +kernel
theorem d_M_entryOf_0 : decode c_M_entryOf 0 = .ok (.aload_n 0, 1) := by decide +kernel
theorem d_M_entryOf_1 : decode c_M_entryOf 1 = .ok (.lload_n 1, 1) := by decide +kernel
theorem d_M_entryOf_2 : decode c_M_entryOf 2 = .ok (.iconst 0, 1) := by decide +kernel
theorem d_M_entryOf_3 : decode c_M_entryOf 3 = .ok (.invokevirtual 98, 3) := by decide +kernel
theorem d_M_entryOf_6 : decode c_M_entryOf 6 = .ok (.lstore 5, 2) := by decide +kernel
theorem d_M_entryOf_8 : decode c_M_entryOf 8 = .ok (.lload 5, 2) := by decide +kernel
theorem d_M_entryOf_10 : decode c_M_entryOf 10 = .ok (.ldc2_w 102, 3) := by decide +kernel
theorem d_M_entryOf_13 : decode c_M_entryOf 13 = .ok (.lcmp, 1) := by decide +kernel
theorem d_M_entryOf_14 : decode c_M_entryOf 14 = .ok (.ifCond .eq 27, 3) := by decide +kernel
theorem d_M_entryOf_17 : decode c_M_entryOf 17 = .ok (.aload_n 0, 1) := by decide +kernel
theorem d_M_entryOf_18 : decode c_M_entryOf 18 = .ok (.lload 5, 2) := by decide +kernel
theorem d_M_entryOf_20 : decode c_M_entryOf 20 = .ok (.iconst 0, 1) := by decide +kernel
theorem d_M_entryOf_21 : decode c_M_entryOf 21 = .ok (.invokevirtual 98, 3) := by decide +kernel
theorem d_M_entryOf_24 : decode c_M_entryOf 24 = .ok (.lload_n 3, 1) := by decide +kernel
theorem d_M_entryOf_25 : decode c_M_entryOf 25 = .ok (.lcmp, 1) := by decide +kernel
theorem d_M_entryOf_26 : decode c_M_entryOf 26 = .ok (.ifCond .eq 15, 3) := by decide +kernel
theorem d_M_entryOf_29 : decode c_M_entryOf 29 = .ok (.aload_n 0, 1) := by decide +kernel
theorem d_M_entryOf_30 : decode c_M_entryOf 30 = .ok (.lload 5, 2) := by decide +kernel
theorem d_M_entryOf_32 : decode c_M_entryOf 32 = .ok (.iconst 2, 1) := by decide +kernel
theorem d_M_entryOf_33 : decode c_M_entryOf 33 = .ok (.invokevirtual 98, 3) := by decide +kernel
theorem d_M_entryOf_36 : decode c_M_entryOf 36 = .ok (.lstore 5, 2) := by decide +kernel
theorem d_M_entryOf_38 : decode c_M_entryOf 38 = .ok (.goto (-30), 3) := by decide +kernel
theorem d_M_entryOf_41 : decode c_M_entryOf 41 = .ok (.lload 5, 2) := by decide +kernel
theorem d_M_entryOf_43 : decode c_M_entryOf 43 = .ok (.lreturn, 1) := by decide +kernel
theorem d_M_find_0 : decode c_M_find 0 = .ok (.iload_n 1, 1) := by decide +kernel
theorem d_M_find_1 : decode c_M_find 1 = .ok (.invokestatic 137, 3) := by decide +kernel
theorem d_M_find_4 : decode c_M_find 4 = .ok (.ifCond .eq 31, 3) := by decide +kernel
theorem d_M_find_7 : decode c_M_find 7 = .ok (.iload_n 2, 1) := by decide +kernel
theorem d_M_find_8 : decode c_M_find 8 = .ok (.invokestatic 137, 3) := by decide +kernel
theorem d_M_find_11 : decode c_M_find 11 = .ok (.ifCond .eq 24, 3) := by decide +kernel
theorem d_M_find_14 : decode c_M_find 14 = .ok (.iload_n 3, 1) := by decide +kernel
theorem d_M_find_15 : decode c_M_find 15 = .ok (.invokestatic 137, 3) := by decide +kernel
theorem d_M_find_18 : decode c_M_find 18 = .ok (.ifCond .eq 17, 3) := by decide +kernel
theorem d_M_find_21 : decode c_M_find 21 = .ok (.aload_n 0, 1) := by decide +kernel
theorem d_M_find_22 : decode c_M_find 22 = .ok (.aload_n 0, 1) := by decide +kernel
theorem d_M_find_23 : decode c_M_find 23 = .ok (.getfield 7, 3) := by decide +kernel
theorem d_M_find_26 : decode c_M_find 26 = .ok (.iload_n 2, 1) := by decide +kernel
theorem d_M_find_27 : decode c_M_find 27 = .ok (.laload, 1) := by decide +kernel
theorem d_M_find_28 : decode c_M_find 28 = .ok (.iconst 4, 1) := by decide +kernel
theorem d_M_find_29 : decode c_M_find 29 = .ok (.invokevirtual 154, 3) := by decide +kernel
theorem d_M_find_32 : decode c_M_find 32 = .ok (.ifCond .ne 5, 3) := by decide +kernel
theorem d_M_find_35 : decode c_M_find 35 = .ok (.iconst (-1), 1) := by decide +kernel
theorem d_M_find_36 : decode c_M_find 36 = .ok (.ireturn, 1) := by decide +kernel
theorem d_M_find_37 : decode c_M_find 37 = .ok (.aload_n 0, 1) := by decide +kernel
theorem d_M_find_38 : decode c_M_find 38 = .ok (.aload_n 0, 1) := by decide +kernel
theorem d_M_find_39 : decode c_M_find 39 = .ok (.getfield 7, 3) := by decide +kernel
theorem d_M_find_42 : decode c_M_find 42 = .ok (.iload_n 2, 1) := by decide +kernel
theorem d_M_find_43 : decode c_M_find 43 = .ok (.laload, 1) := by decide +kernel
theorem d_M_find_44 : decode c_M_find 44 = .ok (.aload_n 0, 1) := by decide +kernel
theorem d_M_find_45 : decode c_M_find 45 = .ok (.getfield 7, 3) := by decide +kernel
theorem d_M_find_48 : decode c_M_find 48 = .ok (.iload_n 3, 1) := by decide +kernel
theorem d_M_find_49 : decode c_M_find 49 = .ok (.laload, 1) := by decide +kernel
theorem d_M_find_50 : decode c_M_find 50 = .ok (.invokevirtual 158, 3) := by decide +kernel
theorem d_M_find_53 : decode c_M_find 53 = .ok (.lstore 4, 2) := by decide +kernel
theorem d_M_find_55 : decode c_M_find 55 = .ok (.lload 4, 2) := by decide +kernel
theorem d_M_find_57 : decode c_M_find 57 = .ok (.ldc2_w 102, 3) := by decide +kernel
theorem d_M_find_60 : decode c_M_find 60 = .ok (.lcmp, 1) := by decide +kernel
theorem d_M_find_61 : decode c_M_find 61 = .ok (.ifCond .ne 5, 3) := by decide +kernel
theorem d_M_find_64 : decode c_M_find 64 = .ok (.iconst 0, 1) := by decide +kernel
theorem d_M_find_65 : decode c_M_find 65 = .ok (.ireturn, 1) := by decide +kernel
theorem d_M_find_66 : decode c_M_find 66 = .ok (.aload_n 0, 1) := by decide +kernel
theorem d_M_find_67 : decode c_M_find 67 = .ok (.getfield 7, 3) := by decide +kernel
theorem d_M_find_70 : decode c_M_find 70 = .ok (.iload_n 1, 1) := by decide +kernel
theorem d_M_find_71 : decode c_M_find 71 = .ok (.aload_n 0, 1) := by decide +kernel
theorem d_M_find_72 : decode c_M_find 72 = .ok (.lload 4, 2) := by decide +kernel
theorem d_M_find_74 : decode c_M_find 74 = .ok (.iconst 1, 1) := by decide +kernel
theorem d_M_find_75 : decode c_M_find 75 = .ok (.invokevirtual 98, 3) := by decide +kernel
theorem d_M_find_78 : decode c_M_find 78 = .ok (.lastore, 1) := by decide +kernel
theorem d_M_find_79 : decode c_M_find 79 = .ok (.iconst 1, 1) := by decide +kernel
theorem d_M_find_80 : decode c_M_find 80 = .ok (.ireturn, 1) := by decide +kernel
theorem d_M_register_0 : decode c_M_register 0 = .ok (.iload_n 1, 1) := by decide +kernel
theorem d_M_register_1 : decode c_M_register 1 = .ok (.invokestatic 137, 3) := by decide +kernel
theorem d_M_register_4 : decode c_M_register 4 = .ok (.ifCond .eq 36, 3) := by decide +kernel
theorem d_M_register_7 : decode c_M_register 7 = .ok (.iload_n 2, 1) := by decide +kernel
theorem d_M_register_8 : decode c_M_register 8 = .ok (.invokestatic 137, 3) := by decide +kernel
theorem d_M_register_11 : decode c_M_register 11 = .ok (.ifCond .eq 29, 3) := by decide +kernel
theorem d_M_register_14 : decode c_M_register 14 = .ok (.aload_n 0, 1) := by decide +kernel
theorem d_M_register_15 : decode c_M_register 15 = .ok (.getfield 7, 3) := by decide +kernel
theorem d_M_register_18 : decode c_M_register 18 = .ok (.iload_n 1, 1) := by decide +kernel
theorem d_M_register_19 : decode c_M_register 19 = .ok (.laload, 1) := by decide +kernel
theorem d_M_register_20 : decode c_M_register 20 = .ok (.invokestatic 62, 3) := by decide +kernel
theorem d_M_register_23 : decode c_M_register 23 = .ok (.ifCond .eq 17, 3) := by decide +kernel
theorem d_M_register_26 : decode c_M_register 26 = .ok (.aload_n 0, 1) := by decide +kernel
theorem d_M_register_27 : decode c_M_register 27 = .ok (.getfield 107, 3) := by decide +kernel
theorem d_M_register_30 : decode c_M_register 30 = .ok (.aload_n 0, 1) := by decide +kernel
theorem d_M_register_31 : decode c_M_register 31 = .ok (.getfield 113, 3) := by decide +kernel
theorem d_M_register_34 : decode c_M_register 34 = .ok (.iadd, 1) := by decide +kernel
theorem d_M_register_35 : decode c_M_register 35 = .ok (.bipush 60, 2) := by decide +kernel
theorem d_M_register_37 : decode c_M_register 37 = .ok (.if_icmp .ne 5, 3) := by decide +kernel
theorem d_M_register_40 : decode c_M_register 40 = .ok (.iconst 0, 1) := by decide +kernel
theorem d_M_register_41 : decode c_M_register 41 = .ok (.ireturn, 1) := by decide +kernel
theorem d_M_register_42 : decode c_M_register 42 = .ok (.aload_n 0, 1) := by decide +kernel
theorem d_M_register_43 : decode c_M_register 43 = .ok (.getfield 42, 3) := by decide +kernel
theorem d_M_register_46 : decode c_M_register 46 = .ok (.aload_n 0, 1) := by decide +kernel
theorem d_M_register_47 : decode c_M_register 47 = .ok (.getfield 107, 3) := by decide +kernel
theorem d_M_register_50 : decode c_M_register 50 = .ok (.aload_n 0, 1) := by decide +kernel
theorem d_M_register_51 : decode c_M_register 51 = .ok (.getfield 7, 3) := by decide +kernel
theorem d_M_register_54 : decode c_M_register 54 = .ok (.iload_n 1, 1) := by decide +kernel
theorem d_M_register_55 : decode c_M_register 55 = .ok (.laload, 1) := by decide +kernel
theorem d_M_register_56 : decode c_M_register 56 = .ok (.lastore, 1) := by decide +kernel
theorem d_M_register_57 : decode c_M_register 57 = .ok (.aload_n 0, 1) := by decide +kernel
theorem d_M_register_58 : decode c_M_register 58 = .ok (.getfield 45, 3) := by decide +kernel
theorem d_M_register_61 : decode c_M_register 61 = .ok (.aload_n 0, 1) := by decide +kernel
theorem d_M_register_62 : decode c_M_register 62 = .ok (.getfield 107, 3) := by decide +kernel
theorem d_M_register_65 : decode c_M_register 65 = .ok (.aload_n 0, 1) := by decide +kernel
theorem d_M_register_66 : decode c_M_register 66 = .ok (.getfield 7, 3) := by decide +kernel
theorem d_M_register_69 : decode c_M_register 69 = .ok (.iload_n 2, 1) := by decide +kernel
theorem d_M_register_70 : decode c_M_register 70 = .ok (.laload, 1) := by decide +kernel
theorem d_M_register_71 : decode c_M_register 71 = .ok (.lastore, 1) := by decide +kernel
theorem d_M_register_72 : decode c_M_register 72 = .ok (.aload_n 0, 1) := by decide +kernel
theorem d_M_register_73 : decode c_M_register 73 = .ok (.aload_n 0, 1) := by decide +kernel
theorem d_M_register_74 : decode c_M_register 74 = .ok (.getfield 107, 3) := by decide +kernel
theorem d_M_register_77 : decode c_M_register 77 = .ok (.iconst 1, 1) := by decide +kernel
theorem d_M_register_78 : decode c_M_register 78 = .ok (.iadd, 1) := by decide +kernel
theorem d_M_register_79 : decode c_M_register 79 = .ok (.putfield 107, 3) := by decide +kernel
theorem d_M_register_82 : decode c_M_register 82 = .ok (.iconst 1, 1) := by decide +kernel
theorem d_M_register_83 : decode c_M_register 83 = .ok (.ireturn, 1) := by decide +kernel
theorem d_M_next_0 : decode c_M_next 0 = .ok (.aload_n 0, 1) := by decide +kernel
theorem d_M_next_1 : decode c_M_next 1 = .ok (.getfield 113, 3) := by decide +kernel
theorem d_M_next_4 : decode c_M_next 4 = .ok (.ifCond .eq 22, 3) := by decide +kernel
theorem d_M_next_7 : decode c_M_next 7 = .ok (.iload_n 1, 1) := by decide +kernel
theorem d_M_next_8 : decode c_M_next 8 = .ok (.invokestatic 137, 3) := by decide +kernel
theorem d_M_next_11 : decode c_M_next 11 = .ok (.ifCond .eq 15, 3) := by decide +kernel
theorem d_M_next_14 : decode c_M_next 14 = .ok (.iload_n 2, 1) := by decide +kernel
theorem d_M_next_15 : decode c_M_next 15 = .ok (.invokestatic 137, 3) := by decide +kernel
theorem d_M_next_18 : decode c_M_next 18 = .ok (.ifCond .eq 8, 3) := by decide +kernel
theorem d_M_next_21 : decode c_M_next 21 = .ok (.iload_n 1, 1) := by decide +kernel
theorem d_M_next_22 : decode c_M_next 22 = .ok (.iload_n 2, 1) := by decide +kernel
theorem d_M_next_23 : decode c_M_next 23 = .ok (.if_icmp .ne 5, 3) := by decide +kernel
theorem d_M_next_26 : decode c_M_next 26 = .ok (.iconst 0, 1) := by decide +kernel
theorem d_M_next_27 : decode c_M_next 27 = .ok (.ireturn, 1) := by decide +kernel
theorem d_M_next_28 : decode c_M_next 28 = .ok (.aload_n 0, 1) := by decide +kernel
theorem d_M_next_29 : decode c_M_next 29 = .ok (.getfield 7, 3) := by decide +kernel
theorem d_M_next_32 : decode c_M_next 32 = .ok (.iload_n 1, 1) := by decide +kernel
theorem d_M_next_33 : decode c_M_next 33 = .ok (.aload_n 0, 1) := by decide +kernel
theorem d_M_next_34 : decode c_M_next 34 = .ok (.getfield 48, 3) := by decide +kernel
theorem d_M_next_37 : decode c_M_next 37 = .ok (.iconst 0, 1) := by decide +kernel
theorem d_M_next_38 : decode c_M_next 38 = .ok (.laload, 1) := by decide +kernel
theorem d_M_next_39 : decode c_M_next 39 = .ok (.lastore, 1) := by decide +kernel
theorem d_M_next_40 : decode c_M_next 40 = .ok (.aload_n 0, 1) := by decide +kernel
theorem d_M_next_41 : decode c_M_next 41 = .ok (.getfield 7, 3) := by decide +kernel
theorem d_M_next_44 : decode c_M_next 44 = .ok (.iload_n 2, 1) := by decide +kernel
theorem d_M_next_45 : decode c_M_next 45 = .ok (.aload_n 0, 1) := by decide +kernel
theorem d_M_next_46 : decode c_M_next 46 = .ok (.getfield 51, 3) := by decide +kernel
theorem d_M_next_49 : decode c_M_next 49 = .ok (.iconst 0, 1) := by decide +kernel
theorem d_M_next_50 : decode c_M_next 50 = .ok (.laload, 1) := by decide +kernel
theorem d_M_next_51 : decode c_M_next 51 = .ok (.lastore, 1) := by decide +kernel
theorem d_M_next_52 : decode c_M_next 52 = .ok (.aload_n 0, 1) := by decide +kernel
theorem d_M_next_53 : decode c_M_next 53 = .ok (.aload_n 0, 1) := by decide +kernel
theorem d_M_next_54 : decode c_M_next 54 = .ok (.getfield 113, 3) := by decide +kernel
theorem d_M_next_57 : decode c_M_next 57 = .ok (.iconst 1, 1) := by decide +kernel
theorem d_M_next_58 : decode c_M_next 58 = .ok (.isub, 1) := by decide +kernel
theorem d_M_next_59 : decode c_M_next 59 = .ok (.putfield 113, 3) := by decide +kernel
theorem d_M_next_62 : decode c_M_next 62 = .ok (.iconst 0, 1) := by decide +kernel
theorem d_M_next_63 : decode c_M_next 63 = .ok (.istore_n 3, 1) := by decide +kernel
theorem d_M_next_64 : decode c_M_next 64 = .ok (.iload_n 3, 1) := by decide +kernel
theorem d_M_next_65 : decode c_M_next 65 = .ok (.aload_n 0, 1) := by decide +kernel
theorem d_M_next_66 : decode c_M_next 66 = .ok (.getfield 113, 3) := by decide +kernel
theorem d_M_next_69 : decode c_M_next 69 = .ok (.if_icmp .ge 37, 3) := by decide +kernel
theorem d_M_next_72 : decode c_M_next 72 = .ok (.aload_n 0, 1) := by decide +kernel
theorem d_M_next_73 : decode c_M_next 73 = .ok (.getfield 48, 3) := by decide +kernel
theorem d_M_next_76 : decode c_M_next 76 = .ok (.iload_n 3, 1) := by decide +kernel
theorem d_M_next_77 : decode c_M_next 77 = .ok (.aload_n 0, 1) := by decide +kernel
theorem d_M_next_78 : decode c_M_next 78 = .ok (.getfield 48, 3) := by decide +kernel
theorem d_M_next_81 : decode c_M_next 81 = .ok (.iload_n 3, 1) := by decide +kernel
theorem d_M_next_82 : decode c_M_next 82 = .ok (.iconst 1, 1) := by decide +kernel
theorem d_M_next_83 : decode c_M_next 83 = .ok (.iadd, 1) := by decide +kernel
theorem d_M_next_84 : decode c_M_next 84 = .ok (.laload, 1) := by decide +kernel
theorem d_M_next_85 : decode c_M_next 85 = .ok (.lastore, 1) := by decide +kernel
theorem d_M_next_86 : decode c_M_next 86 = .ok (.aload_n 0, 1) := by decide +kernel
theorem d_M_next_87 : decode c_M_next 87 = .ok (.getfield 51, 3) := by decide +kernel
theorem d_M_next_90 : decode c_M_next 90 = .ok (.iload_n 3, 1) := by decide +kernel
theorem d_M_next_91 : decode c_M_next 91 = .ok (.aload_n 0, 1) := by decide +kernel
theorem d_M_next_92 : decode c_M_next 92 = .ok (.getfield 51, 3) := by decide +kernel
theorem d_M_next_95 : decode c_M_next 95 = .ok (.iload_n 3, 1) := by decide +kernel
theorem d_M_next_96 : decode c_M_next 96 = .ok (.iconst 1, 1) := by decide +kernel
theorem d_M_next_97 : decode c_M_next 97 = .ok (.iadd, 1) := by decide +kernel
theorem d_M_next_98 : decode c_M_next 98 = .ok (.laload, 1) := by decide +kernel
theorem d_M_next_99 : decode c_M_next 99 = .ok (.lastore, 1) := by decide +kernel
theorem d_M_next_100 : decode c_M_next 100 = .ok (.iinc 3 1, 3) := by decide +kernel
theorem d_M_next_103 : decode c_M_next 103 = .ok (.goto (-39), 3) := by decide +kernel
theorem d_M_next_106 : decode c_M_next 106 = .ok (.iconst 1, 1) := by decide +kernel
theorem d_M_next_107 : decode c_M_next 107 = .ok (.ireturn, 1) := by decide +kernel
theorem d_M_entryCount_0 : decode c_M_entryCount 0 = .ok (.iconst 0, 1) := by decide +kernel
theorem d_M_entryCount_1 : decode c_M_entryCount 1 = .ok (.istore_n 3, 1) := by decide +kernel
theorem d_M_entryCount_2 : decode c_M_entryCount 2 = .ok (.aload_n 0, 1) := by decide +kernel
theorem d_M_entryCount_3 : decode c_M_entryCount 3 = .ok (.lload_n 1, 1) := by decide +kernel
theorem d_M_entryCount_4 : decode c_M_entryCount 4 = .ok (.iconst 0, 1) := by decide +kernel
theorem d_M_entryCount_5 : decode c_M_entryCount 5 = .ok (.invokevirtual 98, 3) := by decide +kernel
theorem d_M_entryCount_8 : decode c_M_entryCount 8 = .ok (.lstore 4, 2) := by decide +kernel
theorem d_M_entryCount_10 : decode c_M_entryCount 10 = .ok (.lload 4, 2) := by decide +kernel
theorem d_M_entryCount_12 : decode c_M_entryCount 12 = .ok (.ldc2_w 102, 3) := by decide +kernel
theorem d_M_entryCount_15 : decode c_M_entryCount 15 = .ok (.lcmp, 1) := by decide +kernel
theorem d_M_entryCount_16 : decode c_M_entryCount 16 = .ok (.ifCond .eq 19, 3) := by decide +kernel
theorem d_M_entryCount_19 : decode c_M_entryCount 19 = .ok (.iload_n 3, 1) := by decide +kernel
theorem d_M_entryCount_20 : decode c_M_entryCount 20 = .ok (.iconst 1, 1) := by decide +kernel
theorem d_M_entryCount_21 : decode c_M_entryCount 21 = .ok (.iadd, 1) := by decide +kernel
theorem d_M_entryCount_22 : decode c_M_entryCount 22 = .ok (.istore_n 3, 1) := by decide +kernel
theorem d_M_entryCount_23 : decode c_M_entryCount 23 = .ok (.aload_n 0, 1) := by decide +kernel
theorem d_M_entryCount_24 : decode c_M_entryCount 24 = .ok (.lload 4, 2) := by decide +kernel
theorem d_M_entryCount_26 : decode c_M_entryCount 26 = .ok (.iconst 2, 1) := by decide +kernel
theorem d_M_entryCount_27 : decode c_M_entryCount 27 = .ok (.invokevirtual 98, 3) := by decide +kernel
theorem d_M_entryCount_30 : decode c_M_entryCount 30 = .ok (.lstore 4, 2) := by decide +kernel
theorem d_M_entryCount_32 : decode c_M_entryCount 32 = .ok (.goto (-22), 3) := by decide +kernel
theorem d_M_entryCount_35 : decode c_M_entryCount 35 = .ok (.iload_n 3, 1) := by decide +kernel
theorem d_M_entryCount_36 : decode c_M_entryCount 36 = .ok (.ireturn, 1) := by decide +kernel
theorem d_M_look_0 : decode c_M_look 0 = .ok (.iload_n 1, 1) := by decide +kernel
theorem d_M_look_1 : decode c_M_look 1 = .ok (.invokestatic 137, 3) := by decide +kernel
theorem d_M_look_4 : decode c_M_look 4 = .ok (.ifCond .eq 12, 3) := by decide +kernel
theorem d_M_look_7 : decode c_M_look 7 = .ok (.iload_n 2, 1) := by decide +kernel
theorem d_M_look_8 : decode c_M_look 8 = .ok (.ifCond .lt 8, 3) := by decide +kernel
theorem d_M_look_11 : decode c_M_look 11 = .ok (.iload_n 2, 1) := by decide +kernel
theorem d_M_look_12 : decode c_M_look 12 = .ok (.iconst 2, 1) := by decide +kernel
theorem d_M_look_13 : decode c_M_look 13 = .ok (.if_icmp .le 5, 3) := by decide +kernel
theorem d_M_look_16 : decode c_M_look 16 = .ok (.iconst (-1), 1) := by decide +kernel
theorem d_M_look_17 : decode c_M_look 17 = .ok (.ireturn, 1) := by decide +kernel
theorem d_M_look_18 : decode c_M_look 18 = .ok (.aload_n 0, 1) := by decide +kernel
theorem d_M_look_19 : decode c_M_look 19 = .ok (.getfield 7, 3) := by decide +kernel
theorem d_M_look_22 : decode c_M_look 22 = .ok (.iload_n 1, 1) := by decide +kernel
theorem d_M_look_23 : decode c_M_look 23 = .ok (.laload, 1) := by decide +kernel
theorem d_M_look_24 : decode c_M_look 24 = .ok (.lstore_n 3, 1) := by decide +kernel
theorem d_M_look_25 : decode c_M_look 25 = .ok (.lload_n 3, 1) := by decide +kernel
theorem d_M_look_26 : decode c_M_look 26 = .ok (.invokestatic 62, 3) := by decide +kernel
theorem d_M_look_29 : decode c_M_look 29 = .ok (.ifCond .ne 44, 3) := by decide +kernel
theorem d_M_look_32 : decode c_M_look 32 = .ok (.iload_n 2, 1) := by decide +kernel
theorem d_M_look_33 : decode c_M_look 33 = .ok (.ifCond .ne 20, 3) := by decide +kernel
theorem d_M_look_36 : decode c_M_look 36 = .ok (.lload_n 3, 1) := by decide +kernel
theorem d_M_look_37 : decode c_M_look 37 = .ok (.ldc2_w 58, 3) := by decide +kernel
theorem d_M_look_40 : decode c_M_look 40 = .ok (.lcmp, 1) := by decide +kernel
theorem d_M_look_41 : decode c_M_look 41 = .ok (.ifCond .ne 8, 3) := by decide +kernel
theorem d_M_look_44 : decode c_M_look 44 = .ok (.bipush 6, 2) := by decide +kernel
theorem d_M_look_46 : decode c_M_look 46 = .ok (.goto 26, 3) := by decide +kernel
theorem d_M_look_49 : decode c_M_look 49 = .ok (.iconst 5, 1) := by decide +kernel
theorem d_M_look_50 : decode c_M_look 50 = .ok (.goto 22, 3) := by decide +kernel
theorem d_M_look_53 : decode c_M_look 53 = .ok (.iload_n 2, 1) := by decide +kernel
theorem d_M_look_54 : decode c_M_look 54 = .ok (.iconst 1, 1) := by decide +kernel
theorem d_M_look_55 : decode c_M_look 55 = .ok (.if_icmp .ne 16, 3) := by decide +kernel
theorem d_M_look_58 : decode c_M_look 58 = .ok (.lload_n 3, 1) := by decide +kernel
theorem d_M_look_59 : decode c_M_look 59 = .ok (.ldc2_w 58, 3) := by decide +kernel
theorem d_M_look_62 : decode c_M_look 62 = .ok (.lcmp, 1) := by decide +kernel
theorem d_M_look_63 : decode c_M_look 63 = .ok (.ifCond .eq 8, 3) := by decide +kernel
theorem d_M_look_66 : decode c_M_look 66 = .ok (.lload_n 3, 1) := by decide +kernel
theorem d_M_look_67 : decode c_M_look 67 = .ok (.l2i, 1) := by decide +kernel
theorem d_M_look_68 : decode c_M_look 68 = .ok (.goto 4, 3) := by decide +kernel
theorem d_M_look_71 : decode c_M_look 71 = .ok (.iconst 0, 1) := by decide +kernel
theorem d_M_look_72 : decode c_M_look 72 = .ok (.ireturn, 1) := by decide +kernel
theorem d_M_look_73 : decode c_M_look 73 = .ok (.lload_n 3, 1) := by decide +kernel
theorem d_M_look_74 : decode c_M_look 74 = .ok (.l2i, 1) := by decide +kernel
theorem d_M_look_75 : decode c_M_look 75 = .ok (.istore 5, 2) := by decide +kernel
theorem d_M_look_77 : decode c_M_look 77 = .ok (.iload_n 2, 1) := by decide +kernel
theorem d_M_look_78 : decode c_M_look 78 = .ok (.ifCond .ne 11, 3) := by decide +kernel
theorem d_M_look_81 : decode c_M_look 81 = .ok (.aload_n 0, 1) := by decide +kernel
theorem d_M_look_82 : decode c_M_look 82 = .ok (.getfield 13, 3) := by decide +kernel
theorem d_M_look_85 : decode c_M_look 85 = .ok (.iload 5, 2) := by decide +kernel
theorem d_M_look_87 : decode c_M_look 87 = .ok (.iaload, 1) := by decide +kernel
theorem d_M_look_88 : decode c_M_look 88 = .ok (.ireturn, 1) := by decide +kernel
theorem d_M_look_89 : decode c_M_look 89 = .ok (.iload_n 2, 1) := by decide +kernel
theorem d_M_look_90 : decode c_M_look 90 = .ok (.iconst 2, 1) := by decide +kernel
theorem d_M_look_91 : decode c_M_look 91 = .ok (.if_icmp .ne 30, 3) := by decide +kernel
theorem d_M_look_94 : decode c_M_look 94 = .ok (.aload_n 0, 1) := by decide +kernel
theorem d_M_look_95 : decode c_M_look 95 = .ok (.getfield 13, 3) := by decide +kernel
theorem d_M_look_98 : decode c_M_look 98 = .ok (.iload 5, 2) := by decide +kernel
theorem d_M_look_100 : decode c_M_look 100 = .ok (.iaload, 1) := by decide +kernel
theorem d_M_look_101 : decode c_M_look 101 = .ok (.iconst 4, 1) := by decide +kernel
theorem d_M_look_102 : decode c_M_look 102 = .ok (.if_icmp .ne 11, 3) := by decide +kernel
theorem d_M_look_105 : decode c_M_look 105 = .ok (.aload_n 0, 1) := by decide +kernel
theorem d_M_look_106 : decode c_M_look 106 = .ok (.lload_n 3, 1) := by decide +kernel
theorem d_M_look_107 : decode c_M_look 107 = .ok (.invokevirtual 162, 3) := by decide +kernel
theorem d_M_look_110 : decode c_M_look 110 = .ok (.goto 10, 3) := by decide +kernel
theorem d_M_look_113 : decode c_M_look 113 = .ok (.aload_n 0, 1) := by decide +kernel
theorem d_M_look_114 : decode c_M_look 114 = .ok (.getfield 17, 3) := by decide +kernel
theorem d_M_look_117 : decode c_M_look 117 = .ok (.iload 5, 2) := by decide +kernel
theorem d_M_look_119 : decode c_M_look 119 = .ok (.iaload, 1) := by decide +kernel
theorem d_M_look_120 : decode c_M_look 120 = .ok (.ireturn, 1) := by decide +kernel
theorem d_M_look_121 : decode c_M_look 121 = .ok (.aload_n 0, 1) := by decide +kernel
theorem d_M_look_122 : decode c_M_look 122 = .ok (.getfield 23, 3) := by decide +kernel
theorem d_M_look_125 : decode c_M_look 125 = .ok (.iload 5, 2) := by decide +kernel
theorem d_M_look_127 : decode c_M_look 127 = .ok (.iaload, 1) := by decide +kernel
theorem d_M_look_128 : decode c_M_look 128 = .ok (.ifCond .ne 24, 3) := by decide +kernel
theorem d_M_look_131 : decode c_M_look 131 = .ok (.aload_n 0, 1) := by decide +kernel
theorem d_M_look_132 : decode c_M_look 132 = .ok (.aload_n 0, 1) := by decide +kernel
theorem d_M_look_133 : decode c_M_look 133 = .ok (.getfield 165, 3) := by decide +kernel
theorem d_M_look_136 : decode c_M_look 136 = .ok (.iconst 1, 1) := by decide +kernel
theorem d_M_look_137 : decode c_M_look 137 = .ok (.iadd, 1) := by decide +kernel
theorem d_M_look_138 : decode c_M_look 138 = .ok (.putfield 165, 3) := by decide +kernel
theorem d_M_look_141 : decode c_M_look 141 = .ok (.aload_n 0, 1) := by decide +kernel
theorem d_M_look_142 : decode c_M_look 142 = .ok (.getfield 23, 3) := by decide +kernel
theorem d_M_look_145 : decode c_M_look 145 = .ok (.iload 5, 2) := by decide +kernel
theorem d_M_look_147 : decode c_M_look 147 = .ok (.aload_n 0, 1) := by decide +kernel
theorem d_M_look_148 : decode c_M_look 148 = .ok (.getfield 165, 3) := by decide +kernel
theorem d_M_look_151 : decode c_M_look 151 = .ok (.iastore, 1) := by decide +kernel
theorem d_M_look_152 : decode c_M_look 152 = .ok (.aload_n 0, 1) := by decide +kernel
theorem d_M_look_153 : decode c_M_look 153 = .ok (.getfield 23, 3) := by decide +kernel
theorem d_M_look_156 : decode c_M_look 156 = .ok (.iload 5, 2) := by decide +kernel
theorem d_M_look_158 : decode c_M_look 158 = .ok (.iaload, 1) := by decide +kernel
theorem d_M_look_159 : decode c_M_look 159 = .ok (.ireturn, 1) := by decide +kernel
theorem d_M_same_0 : decode c_M_same 0 = .ok (.iload_n 1, 1) := by decide +kernel
theorem d_M_same_1 : decode c_M_same 1 = .ok (.invokestatic 137, 3) := by decide +kernel
theorem d_M_same_4 : decode c_M_same 4 = .ok (.ifCond .eq 10, 3) := by decide +kernel
theorem d_M_same_7 : decode c_M_same 7 = .ok (.iload_n 2, 1) := by decide +kernel
theorem d_M_same_8 : decode c_M_same 8 = .ok (.invokestatic 137, 3) := by decide +kernel
theorem d_M_same_11 : decode c_M_same 11 = .ok (.ifCond .ne 7, 3) := by decide +kernel
theorem d_M_same_14 : decode c_M_same 14 = .ok (.iconst (-1), 1) := by decide +kernel
theorem d_M_same_15 : decode c_M_same 15 = .ok (.goto 24, 3) := by decide +kernel
theorem d_M_same_18 : decode c_M_same 18 = .ok (.aload_n 0, 1) := by decide +kernel
theorem d_M_same_19 : decode c_M_same 19 = .ok (.getfield 7, 3) := by decide +kernel
theorem d_M_same_22 : decode c_M_same 22 = .ok (.iload_n 1, 1) := by decide +kernel
theorem d_M_same_23 : decode c_M_same 23 = .ok (.laload, 1) := by decide +kernel
theorem d_M_same_24 : decode c_M_same 24 = .ok (.aload_n 0, 1) := by decide +kernel
theorem d_M_same_25 : decode c_M_same 25 = .ok (.getfield 7, 3) := by decide +kernel
theorem d_M_same_28 : decode c_M_same 28 = .ok (.iload_n 2, 1) := by decide +kernel
theorem d_M_same_29 : decode c_M_same 29 = .ok (.laload, 1) := by decide +kernel
theorem d_M_same_30 : decode c_M_same 30 = .ok (.lcmp, 1) := by decide +kernel
theorem d_M_same_31 : decode c_M_same 31 = .ok (.ifCond .ne 7, 3) := by decide +kernel
theorem d_M_same_34 : decode c_M_same 34 = .ok (.iconst 1, 1) := by decide +kernel
theorem d_M_same_35 : decode c_M_same 35 = .ok (.goto 4, 3) := by decide +kernel
theorem d_M_same_38 : decode c_M_same 38 = .ok (.iconst 0, 1) := by decide +kernel
theorem d_M_same_39 : decode c_M_same 39 = .ok (.ireturn, 1) := by decide +kernel
theorem d_M_count_0 : decode c_M_count 0 = .ok (.iload_n 1, 1) := by decide +kernel
theorem d_M_count_1 : decode c_M_count 1 = .ok (.tableswitch 69 0 5 #[39, 44, 49, 54, 59, 64], 39) := by decide +kernel
theorem d_M_count_40 : decode c_M_count 40 = .ok (.aload_n 0, 1) := by decide +kernel
theorem d_M_count_41 : decode c_M_count 41 = .ok (.getfield 70, 3) := by decide +kernel
theorem d_M_count_44 : decode c_M_count 44 = .ok (.ireturn, 1) := by decide +kernel
theorem d_M_count_45 : decode c_M_count 45 = .ok (.aload_n 0, 1) := by decide +kernel
theorem d_M_count_46 : decode c_M_count 46 = .ok (.getfield 83, 3) := by decide +kernel
theorem d_M_count_49 : decode c_M_count 49 = .ok (.ireturn, 1) := by decide +kernel
theorem d_M_count_50 : decode c_M_count 50 = .ok (.aload_n 0, 1) := by decide +kernel
theorem d_M_count_51 : decode c_M_count 51 = .ok (.getfield 124, 3) := by decide +kernel
theorem d_M_count_54 : decode c_M_count 54 = .ok (.ireturn, 1) := by decide +kernel
theorem d_M_count_55 : decode c_M_count 55 = .ok (.aload_n 0, 1) := by decide +kernel
theorem d_M_count_56 : decode c_M_count 56 = .ok (.getfield 113, 3) := by decide +kernel
theorem d_M_count_59 : decode c_M_count 59 = .ok (.ireturn, 1) := by decide +kernel
theorem d_M_count_60 : decode c_M_count 60 = .ok (.aload_n 0, 1) := by decide +kernel
theorem d_M_count_61 : decode c_M_count 61 = .ok (.getfield 107, 3) := by decide +kernel
theorem d_M_count_64 : decode c_M_count 64 = .ok (.ireturn, 1) := by decide +kernel
theorem d_M_count_65 : decode c_M_count 65 = .ok (.aload_n 0, 1) := by decide +kernel
theorem d_M_count_66 : decode c_M_count 66 = .ok (.getfield 165, 3) := by decide +kernel
theorem d_M_count_69 : decode c_M_count 69 = .ok (.ireturn, 1) := by decide +kernel
theorem d_M_count_70 : decode c_M_count 70 = .ok (.iconst (-1), 1) := by decide +kernel
theorem d_M_count_71 : decode c_M_count 71 = .ok (.ireturn, 1) := by decide +kernel
end
section
theorem ws_M : ∀ w ∈ u_ws "VisibleHeapModel" T_M 23, w ∈ tables_1 ∧ goodWord w = true := by decide +kernel
theorem tab_M : mTab 0 "VisibleHeapModel" T_M 23 ty_M := ⟨rfl, fun w h => mA (ws_M w h).1 (ws_M w h).2, by decide +kernel, by decide +kernel, by decide +kernel, by decide +kernel⟩
theorem ws_H : ∀ w ∈ u_ws "VisibleHeap" T_H 10, w ∈ tables_1 ∧ goodWord w = true := by decide +kernel
theorem tab_H : mTab 1 "VisibleHeap" T_H 10 ty_H := ⟨rfl, fun w h => mA (ws_H w h).1 (ws_H w h).2, by decide +kernel, by decide +kernel, by decide +kernel, by decide +kernel⟩
theorem ws_Num : ∀ w ∈ u_ws "VisibleHeap$Num" T_Num 2, w ∈ tables_1 ∧ goodWord w = true := by decide +kernel
theorem tab_Num : mTab 2 "VisibleHeap$Num" T_Num 2 ty_Num := ⟨rfl, fun w h => mA (ws_Num w h).1 (ws_Num w h).2, by decide +kernel, by decide +kernel, by decide +kernel, by decide +kernel⟩
theorem ws_Row : ∀ w ∈ u_ws "VisibleHeap$Row" T_Row 7, w ∈ tables_1 ∧ goodWord w = true := by decide +kernel
theorem tab_Row : mTab 3 "VisibleHeap$Row" T_Row 7 ty_Row := ⟨rfl, fun w h => mA (ws_Row w h).1 (ws_Row w h).2, by decide +kernel, by decide +kernel, by decide +kernel, by decide +kernel⟩
theorem ws_Weak : ∀ w ∈ u_ws "VisibleHeap$Weak" T_Weak 7, w ∈ tables_1 ∧ goodWord w = true := by decide +kernel
theorem tab_Weak : mTab 4 "VisibleHeap$Weak" T_Weak 7 ty_Weak := ⟨rfl, fun w h => mA (ws_Weak w h).1 (ws_Weak w h).2, by decide +kernel, by decide +kernel, by decide +kernel, by decide +kernel⟩
theorem ws_Eph : ∀ w ∈ u_ws "VisibleHeap$Ephemeron" T_Eph 7, w ∈ tables_1 ∧ goodWord w = true := by decide +kernel
theorem tab_Eph : mTab 5 "VisibleHeap$Ephemeron" T_Eph 7 ty_Eph := ⟨rfl, fun w h => mA (ws_Eph w h).1 (ws_Eph w h).2, by decide +kernel, by decide +kernel, by decide +kernel, by decide +kernel⟩
theorem ws_Tab : ∀ w ∈ u_ws "VisibleHeap$Table" T_Tab 7, w ∈ tables_1 ∧ goodWord w = true := by decide +kernel
theorem tab_Tab : mTab 6 "VisibleHeap$Table" T_Tab 7 ty_Tab := ⟨rfl, fun w h => mA (ws_Tab w h).1 (ws_Tab w h).2, by decide +kernel, by decide +kernel, by decide +kernel, by decide +kernel⟩
theorem ws_Tie : ∀ w ∈ u_ws "VisibleHeap$Tie" T_Tie 4, w ∈ tables_1 ∧ goodWord w = true := by decide +kernel
theorem tab_Tie : mTab 7 "VisibleHeap$Tie" T_Tie 4 ty_Tie := ⟨rfl, fun w h => mA (ws_Tie w h).1 (ws_Tie w h).2, by decide +kernel, by decide +kernel, by decide +kernel, by decide +kernel⟩
theorem ws_TL : ∀ w ∈ u_ws "VisibleHeap$TieList" T_TL 3, w ∈ tables_1 ∧ goodWord w = true := by decide +kernel
theorem tab_TL : mTab 8 "VisibleHeap$TieList" T_TL 3 ty_TL := ⟨rfl, fun w h => mA (ws_TL w h).1 (ws_TL w h).2, by decide +kernel, by decide +kernel, by decide +kernel, by decide +kernel⟩
theorem ws_Rk : ∀ w ∈ u_ws "VisibleHeap$Reckoning" T_Rk 1, w ∈ tables_1 ∧ goodWord w = true := by decide +kernel
theorem tab_Rk : mTab 9 "VisibleHeap$Reckoning" T_Rk 1 ty_Rk := ⟨rfl, fun w h => mA (ws_Rk w h).1 (ws_Rk w h).2, by decide +kernel, by decide +kernel, by decide +kernel, by decide +kernel⟩
set_option maxRecDepth 100000 in
theorem cs_M_62 : cS "VisibleHeapModel" 62 y_M_isObject c_M_isObject 2 (some .boolean) 1 := ⟨mA (by decide +kernel) (by decide +kernel), mA (by decide +kernel) (by decide +kernel), mA (by decide +kernel) (by decide +kernel), mA (List.mem_of_getElem? (i := 610) rfl) (by decide +kernel), ⟨by decide, by decide, by decide +kernel⟩⟩
theorem f_M_13 : sOk "VisibleHeapModel" 13 [0] 104 true true false (.array .int) := by
  intro c hc
  · rw [List.mem_singleton] at hc
    subst hc
    exact ⟨_, _, _, _, 4, "VisibleHeapModel", tab_M, by decide, mA (by decide +kernel) (by decide +kernel), Or.inl rfl, rfl, rfl, rfl, fun h => absurd h (by decide), rfl⟩
theorem f_M_30 : sOk "VisibleHeapModel" 30 [0] 109 true true false (.array .boolean) := by
  intro c hc
  · rw [List.mem_singleton] at hc
    subst hc
    exact ⟨_, _, _, _, 9, "VisibleHeapModel", tab_M, by decide, mA (by decide +kernel) (by decide +kernel), Or.inl rfl, rfl, rfl, rfl, fun h => absurd h (by decide), rfl⟩
theorem f_M_17 : sOk "VisibleHeapModel" 17 [0] 105 true true false (.array .int) := by
  intro c hc
  · rw [List.mem_singleton] at hc
    subst hc
    exact ⟨_, _, _, _, 5, "VisibleHeapModel", tab_M, by decide, mA (by decide +kernel) (by decide +kernel), Or.inl rfl, rfl, rfl, rfl, fun h => absurd h (by decide), rfl⟩
theorem f_M_20 : sOk "VisibleHeapModel" 20 [0] 106 true true false (.array .int) := by
  intro c hc
  · rw [List.mem_singleton] at hc
    subst hc
    exact ⟨_, _, _, _, 6, "VisibleHeapModel", tab_M, by decide, mA (by decide +kernel) (by decide +kernel), Or.inl rfl, rfl, rfl, rfl, fun h => absurd h (by decide), rfl⟩
theorem f_M_39 : sOk "VisibleHeapModel" 39 [0] 113 true true false (.array .int) := by
  intro c hc
  · rw [List.mem_singleton] at hc
    subst hc
    exact ⟨_, _, _, _, 13, "VisibleHeapModel", tab_M, by decide, mA (by decide +kernel) (by decide +kernel), Or.inl rfl, rfl, rfl, rfl, fun h => absurd h (by decide), rfl⟩
theorem f_M_36 : sOk "VisibleHeapModel" 36 [0] 112 true true false (.array .long) := by
  intro c hc
  · rw [List.mem_singleton] at hc
    subst hc
    exact ⟨_, _, _, _, 12, "VisibleHeapModel", tab_M, by decide, mA (by decide +kernel) (by decide +kernel), Or.inl rfl, rfl, rfl, rfl, fun h => absurd h (by decide), rfl⟩
set_option maxRecDepth 100000 in
theorem cv_M_66 : cV "VisibleHeapModel" 66 0 y_M_cellAt c_M_cellAt 6 (some .int) 2 := ⟨mA (by decide +kernel) (by decide +kernel), mA (by decide +kernel) (by decide +kernel), mA (by decide +kernel) (by decide +kernel), mA (List.mem_of_getElem? (i := 628) rfl) (by decide +kernel), ⟨by decide, by decide, by decide +kernel⟩, _, rfl, mAs (by decide +kernel) (by decide +kernel)⟩
set_option maxRecDepth 100000 in
theorem cv_M_88 : cV "VisibleHeapModel" 88 0 y_M_isLive c_M_isLive 3 (some .boolean) 1 := ⟨mA (by decide +kernel) (by decide +kernel), mA (by decide +kernel) (by decide +kernel), mA (by decide +kernel) (by decide +kernel), mA (List.mem_of_getElem? (i := 607) rfl) (by decide +kernel), ⟨by decide, by decide, by decide +kernel⟩, _, rfl, mAs (by decide +kernel) (by decide +kernel)⟩
theorem f_M_33 : sOk "VisibleHeapModel" 33 [0] 110 true true false (.array .int) := by
  intro c hc
  · rw [List.mem_singleton] at hc
    subst hc
    exact ⟨_, _, _, _, 10, "VisibleHeapModel", tab_M, by decide, mA (by decide +kernel) (by decide +kernel), Or.inl rfl, rfl, rfl, rfl, fun h => absurd h (by decide), rfl⟩
theorem f_M_91 : sOk "VisibleHeapModel" 91 [0] 111 false false false .int := by
  intro c hc
  · rw [List.mem_singleton] at hc
    subst hc
    exact ⟨_, _, _, _, 11, "VisibleHeapModel", tab_M, by decide, mA (by decide +kernel) (by decide +kernel), Or.inl rfl, rfl, rfl, rfl, fun h => absurd h (by decide), rfl⟩
set_option maxRecDepth 100000 in
theorem cs_M_137 : cS "VisibleHeapModel" 137 y_M_isRegister c_M_isRegister 1 (some .boolean) 1 := ⟨mA (by decide +kernel) (by decide +kernel), mA (by decide +kernel) (by decide +kernel), mA (by decide +kernel) (by decide +kernel), mA (List.mem_of_getElem? (i := 575) rfl) (by decide +kernel), ⟨by decide, by decide, by decide +kernel⟩⟩
theorem f_M_7 : sOk "VisibleHeapModel" 7 [0] 101 true true false (.array .long) := by
  intro c hc
  · rw [List.mem_singleton] at hc
    subst hc
    exact ⟨_, _, _, _, 1, "VisibleHeapModel", tab_M, by decide, mA (by decide +kernel) (by decide +kernel), Or.inl rfl, rfl, rfl, rfl, fun h => absurd h (by decide), rfl⟩
theorem f_M_70 : sOk "VisibleHeapModel" 70 [0] 102 false false false .int := by
  intro c hc
  · rw [List.mem_singleton] at hc
    subst hc
    exact ⟨_, _, _, _, 2, "VisibleHeapModel", tab_M, by decide, mA (by decide +kernel) (by decide +kernel), Or.inl rfl, rfl, rfl, rfl, fun h => absurd h (by decide), rfl⟩
theorem f_M_83 : sOk "VisibleHeapModel" 83 [0] 103 false false false .int := by
  intro c hc
  · rw [List.mem_singleton] at hc
    subst hc
    exact ⟨_, _, _, _, 3, "VisibleHeapModel", tab_M, by decide, mA (by decide +kernel) (by decide +kernel), Or.inl rfl, rfl, rfl, rfl, fun h => absurd h (by decide), rfl⟩
theorem f_M_124 : sOk "VisibleHeapModel" 124 [0] 121 false false false .int := by
  intro c hc
  · rw [List.mem_singleton] at hc
    subst hc
    exact ⟨_, _, _, _, 21, "VisibleHeapModel", tab_M, by decide, mA (by decide +kernel) (by decide +kernel), Or.inl rfl, rfl, rfl, rfl, fun h => absurd h (by decide), rfl⟩
theorem f_M_113 : sOk "VisibleHeapModel" 113 [0] 118 false false false .int := by
  intro c hc
  · rw [List.mem_singleton] at hc
    subst hc
    exact ⟨_, _, _, _, 18, "VisibleHeapModel", tab_M, by decide, mA (by decide +kernel) (by decide +kernel), Or.inl rfl, rfl, rfl, rfl, fun h => absurd h (by decide), rfl⟩
theorem f_M_107 : sOk "VisibleHeapModel" 107 [0] 115 false false false .int := by
  intro c hc
  · rw [List.mem_singleton] at hc
    subst hc
    exact ⟨_, _, _, _, 15, "VisibleHeapModel", tab_M, by decide, mA (by decide +kernel) (by decide +kernel), Or.inl rfl, rfl, rfl, rfl, fun h => absurd h (by decide), rfl⟩
theorem f_M_165 : sOk "VisibleHeapModel" 165 [0] 122 false false false .int := by
  intro c hc
  · rw [List.mem_singleton] at hc
    subst hc
    exact ⟨_, _, _, _, 22, "VisibleHeapModel", tab_M, by decide, mA (by decide +kernel) (by decide +kernel), Or.inl rfl, rfl, rfl, rfl, fun h => absurd h (by decide), rfl⟩
theorem f_M_42 : sOk "VisibleHeapModel" 42 [0] 116 true true false (.array .long) := by
  intro c hc
  · rw [List.mem_singleton] at hc
    subst hc
    exact ⟨_, _, _, _, 16, "VisibleHeapModel", tab_M, by decide, mA (by decide +kernel) (by decide +kernel), Or.inl rfl, rfl, rfl, rfl, fun h => absurd h (by decide), rfl⟩
theorem f_M_45 : sOk "VisibleHeapModel" 45 [0] 117 true true false (.array .long) := by
  intro c hc
  · rw [List.mem_singleton] at hc
    subst hc
    exact ⟨_, _, _, _, 17, "VisibleHeapModel", tab_M, by decide, mA (by decide +kernel) (by decide +kernel), Or.inl rfl, rfl, rfl, rfl, fun h => absurd h (by decide), rfl⟩
set_option maxRecDepth 100000 in
theorem cv_M_150 : cV "VisibleHeapModel" 150 0 y_M_shown c_M_shown 3 (some .int) 1 := ⟨mA (by decide +kernel) (by decide +kernel), mA (by decide +kernel) (by decide +kernel), mA (by decide +kernel) (by decide +kernel), mA (List.mem_of_getElem? (i := 657) rfl) (by decide +kernel), ⟨by decide, by decide, by decide +kernel⟩, _, rfl, mAs (by decide +kernel) (by decide +kernel)⟩
set_option maxRecDepth 100000 in
theorem cv_M_98 : cV "VisibleHeapModel" 98 0 y_M_field c_M_field 4 (some .long) 2 := ⟨mA (by decide +kernel) (by decide +kernel), mA (by decide +kernel) (by decide +kernel), mA (by decide +kernel) (by decide +kernel), mA (List.mem_of_getElem? (i := 624) rfl) (by decide +kernel), ⟨by decide, by decide, by decide +kernel⟩, _, rfl, mAs (by decide +kernel) (by decide +kernel)⟩
theorem f_M_48 : sOk "VisibleHeapModel" 48 [0] 119 true true false (.array .long) := by
  intro c hc
  · rw [List.mem_singleton] at hc
    subst hc
    exact ⟨_, _, _, _, 19, "VisibleHeapModel", tab_M, by decide, mA (by decide +kernel) (by decide +kernel), Or.inl rfl, rfl, rfl, rfl, fun h => absurd h (by decide), rfl⟩
theorem f_M_51 : sOk "VisibleHeapModel" 51 [0] 120 true true false (.array .long) := by
  intro c hc
  · rw [List.mem_singleton] at hc
    subst hc
    exact ⟨_, _, _, _, 20, "VisibleHeapModel", tab_M, by decide, mA (by decide +kernel) (by decide +kernel), Or.inl rfl, rfl, rfl, rfl, fun h => absurd h (by decide), rfl⟩
set_option maxRecDepth 100000 in
theorem cv_M_154 : cV "VisibleHeapModel" 154 0 y_M_is c_M_is 4 (some .boolean) 2 := ⟨mA (by decide +kernel) (by decide +kernel), mA (by decide +kernel) (by decide +kernel), mA (by decide +kernel) (by decide +kernel), mA (List.mem_of_getElem? (i := 665) rfl) (by decide +kernel), ⟨by decide, by decide, by decide +kernel⟩, _, rfl, mAs (by decide +kernel) (by decide +kernel)⟩
set_option maxRecDepth 100000 in
theorem cv_M_158 : cV "VisibleHeapModel" 158 0 y_M_entryOf c_M_entryOf 7 (some .long) 2 := ⟨mA (by decide +kernel) (by decide +kernel), mA (by decide +kernel) (by decide +kernel), mA (by decide +kernel) (by decide +kernel), mA (List.mem_of_getElem? (i := 673) rfl) (by decide +kernel), ⟨by decide, by decide, by decide +kernel⟩, _, rfl, mAs (by decide +kernel) (by decide +kernel)⟩
set_option maxRecDepth 100000 in
theorem cv_M_120 : cV "VisibleHeapModel" 120 0 y_M_setField c_M_setField 6 none 3 := ⟨mA (by decide +kernel) (by decide +kernel), mA (by decide +kernel) (by decide +kernel), mA (by decide +kernel) (by decide +kernel), mA (List.mem_of_getElem? (i := 637) rfl) (by decide +kernel), ⟨by decide, by decide, by decide +kernel⟩, _, rfl, mAs (by decide +kernel) (by decide +kernel)⟩
theorem f_M_23 : sOk "VisibleHeapModel" 23 [0] 107 true true false (.array .int) := by
  intro c hc
  · rw [List.mem_singleton] at hc
    subst hc
    exact ⟨_, _, _, _, 7, "VisibleHeapModel", tab_M, by decide, mA (by decide +kernel) (by decide +kernel), Or.inl rfl, rfl, rfl, rfl, fun h => absurd h (by decide), rfl⟩
set_option maxRecDepth 100000 in
theorem cv_M_162 : cV "VisibleHeapModel" 162 0 y_M_entryCount c_M_entryCount 6 (some .int) 1 := ⟨mA (by decide +kernel) (by decide +kernel), mA (by decide +kernel) (by decide +kernel), mA (by decide +kernel) (by decide +kernel), mA (List.mem_of_getElem? (i := 697) rfl) (by decide +kernel), ⟨by decide, by decide, by decide +kernel⟩, _, rfl, mAs (by decide +kernel) (by decide +kernel)⟩
theorem f_M_26 : sOk "VisibleHeapModel" 26 [0] 108 true true false (.array .boolean) := by
  intro c hc
  · rw [List.mem_singleton] at hc
    subst hc
    exact ⟨_, _, _, _, 8, "VisibleHeapModel", tab_M, by decide, mA (by decide +kernel) (by decide +kernel), Or.inl rfl, rfl, rfl, rfl, fun h => absurd h (by decide), rfl⟩
set_option maxRecDepth 100000 in
theorem cs_M_79 : cS "VisibleHeapModel" 79 y_M_cellsOf c_M_cellsOf 2 (some .int) 2 := ⟨mA (by decide +kernel) (by decide +kernel), mA (by decide +kernel) (by decide +kernel), mA (by decide +kernel) (by decide +kernel), mA (List.mem_of_getElem? (i := 587) rfl) (by decide +kernel), ⟨by decide, by decide, by decide +kernel⟩⟩
theorem f_M_76 : sOk "VisibleHeapModel" 76 [0] 114 false false false .int := by
  intro c hc
  · rw [List.mem_singleton] at hc
    subst hc
    exact ⟨_, _, _, _, 14, "VisibleHeapModel", tab_M, by decide, mA (by decide +kernel) (by decide +kernel), Or.inl rfl, rfl, rfl, rfl, fun h => absurd h (by decide), rfl⟩
end
section

def bI (b : Bool) : Int32 := cond b 1 0
theorem bI_0 {b : Bool} : bI b = 0 ↔ b = false := by cases b <;> decide
theorem bI_ne {b : Bool} : ¬ bI b = 0 ↔ b = true := by cases b <;> decide
theorem bI_nz (b : Bool) : narrow .boolean (.int (bI b)) = .int (bI b) := by cases b <;> rfl
def isRg (r : Int32) : Bool := decide (0 ≤ r) && decide (r < 8)
theorem isRg_of {r : Int32} (h : isRg r = true) : ∃ j : Nat, j < 8 ∧ r = nI j := by
  unfold isRg at h
  simp only [Bool.and_eq_true, decide_eq_true_eq] at h
  obtain ⟨j, h1, h2⟩ := nI_of (x := r) (by rw [Int32.not_lt]; exact h.1)
  subst h2
  refine ⟨j, ?_, rfl⟩
  have h3 := h.2
  rw [Int32.lt_iff_toInt_lt, nI_toInt h1] at h3
  have : (8 : Int32).toInt = 8 := by decide
  omega
theorem isRg_f1 {r : Int32} (h : r < 0) : isRg r = false := by
  unfold isRg
  rw [decide_eq_false (by rw [Int32.not_le]; exact h)]
  rfl
theorem isRg_f2 {r : Int32} (h : 8 ≤ r) : isRg r = false := by
  unfold isRg
  rw [decide_eq_false (p := r < 8) (by rw [Int32.not_lt]; exact h), Bool.and_false]
theorem isRg_t {r : Int32} (h1 : ¬ r < 0) (h2 : ¬ 8 ≤ r) : isRg r = true := by
  unfold isRg
  rw [decide_eq_true (Int32.not_lt.mp h1), decide_eq_true (Int32.not_le.mp h2)]
  rfl
def isOb (v : Int64) : Bool := decide (v >>> (Int32.toInt64 32 &&& 63) = 6)
def cOf (k n : Int32) : Int32 := if k = 1 then 3 + n else if k = 2 ∨ k = 4 then 3 else if k = 5 then 5 else 4
def MS (w : mW) (o : Nat) (ad : Nat → Nat) : Prop := gK w o = some (.inl 0) ∧ (∀ q ∈ ([(101, 3, 8), (104, 1, 1700), (105, 1, 1700), (106, 1, 1700), (107, 1, 1700), (108, 2, 1700), (109, 2, 1700), (110, 1, 1700), (112, 3, 5100), (113, 1, 5100), (116, 3, 60), (117, 3, 60), (119, 3, 60), (120, 3, 60)] : List (Nat × Nat × Nat)), gR w q.1 o = some (ad q.1) ∧ gK w (ad q.1) = some (.inr q.2)) ∧ ∀ k k', k ∈ ([101, 104, 105, 106, 107, 108, 109, 110, 112, 113, 116, 117, 119, 120] : List Nat) → k' ∈ ([101, 104, 105, 106, 107, 108, 109, 110, 112, 113, 116, 117, 119, 120] : List Nat) → ad k = ad k' → k = k'
theorem MS.r101 {w : mW} {o : Nat} {ad : Nat → Nat} (h : MS w o ad) : gR w 101 o = some (ad 101) := (h.2.1 (101, 3, 8) (by decide)).1
theorem MS.k101 {w : mW} {o : Nat} {ad : Nat → Nat} (h : MS w o ad) : gK w (ad 101) = some (.inr (3, 8)) := (h.2.1 (101, 3, 8) (by decide)).2
theorem MS.r104 {w : mW} {o : Nat} {ad : Nat → Nat} (h : MS w o ad) : gR w 104 o = some (ad 104) := (h.2.1 (104, 1, 1700) (by decide)).1
theorem MS.k104 {w : mW} {o : Nat} {ad : Nat → Nat} (h : MS w o ad) : gK w (ad 104) = some (.inr (1, 1700)) := (h.2.1 (104, 1, 1700) (by decide)).2
theorem MS.r105 {w : mW} {o : Nat} {ad : Nat → Nat} (h : MS w o ad) : gR w 105 o = some (ad 105) := (h.2.1 (105, 1, 1700) (by decide)).1
theorem MS.k105 {w : mW} {o : Nat} {ad : Nat → Nat} (h : MS w o ad) : gK w (ad 105) = some (.inr (1, 1700)) := (h.2.1 (105, 1, 1700) (by decide)).2
theorem MS.r106 {w : mW} {o : Nat} {ad : Nat → Nat} (h : MS w o ad) : gR w 106 o = some (ad 106) := (h.2.1 (106, 1, 1700) (by decide)).1
theorem MS.k106 {w : mW} {o : Nat} {ad : Nat → Nat} (h : MS w o ad) : gK w (ad 106) = some (.inr (1, 1700)) := (h.2.1 (106, 1, 1700) (by decide)).2
theorem MS.r107 {w : mW} {o : Nat} {ad : Nat → Nat} (h : MS w o ad) : gR w 107 o = some (ad 107) := (h.2.1 (107, 1, 1700) (by decide)).1
theorem MS.k107 {w : mW} {o : Nat} {ad : Nat → Nat} (h : MS w o ad) : gK w (ad 107) = some (.inr (1, 1700)) := (h.2.1 (107, 1, 1700) (by decide)).2
theorem MS.r108 {w : mW} {o : Nat} {ad : Nat → Nat} (h : MS w o ad) : gR w 108 o = some (ad 108) := (h.2.1 (108, 2, 1700) (by decide)).1
theorem MS.k108 {w : mW} {o : Nat} {ad : Nat → Nat} (h : MS w o ad) : gK w (ad 108) = some (.inr (2, 1700)) := (h.2.1 (108, 2, 1700) (by decide)).2
theorem MS.r109 {w : mW} {o : Nat} {ad : Nat → Nat} (h : MS w o ad) : gR w 109 o = some (ad 109) := (h.2.1 (109, 2, 1700) (by decide)).1
theorem MS.k109 {w : mW} {o : Nat} {ad : Nat → Nat} (h : MS w o ad) : gK w (ad 109) = some (.inr (2, 1700)) := (h.2.1 (109, 2, 1700) (by decide)).2
theorem MS.r110 {w : mW} {o : Nat} {ad : Nat → Nat} (h : MS w o ad) : gR w 110 o = some (ad 110) := (h.2.1 (110, 1, 1700) (by decide)).1
theorem MS.k110 {w : mW} {o : Nat} {ad : Nat → Nat} (h : MS w o ad) : gK w (ad 110) = some (.inr (1, 1700)) := (h.2.1 (110, 1, 1700) (by decide)).2
theorem MS.r112 {w : mW} {o : Nat} {ad : Nat → Nat} (h : MS w o ad) : gR w 112 o = some (ad 112) := (h.2.1 (112, 3, 5100) (by decide)).1
theorem MS.k112 {w : mW} {o : Nat} {ad : Nat → Nat} (h : MS w o ad) : gK w (ad 112) = some (.inr (3, 5100)) := (h.2.1 (112, 3, 5100) (by decide)).2
theorem MS.r113 {w : mW} {o : Nat} {ad : Nat → Nat} (h : MS w o ad) : gR w 113 o = some (ad 113) := (h.2.1 (113, 1, 5100) (by decide)).1
theorem MS.k113 {w : mW} {o : Nat} {ad : Nat → Nat} (h : MS w o ad) : gK w (ad 113) = some (.inr (1, 5100)) := (h.2.1 (113, 1, 5100) (by decide)).2
theorem MS.r116 {w : mW} {o : Nat} {ad : Nat → Nat} (h : MS w o ad) : gR w 116 o = some (ad 116) := (h.2.1 (116, 3, 60) (by decide)).1
theorem MS.k116 {w : mW} {o : Nat} {ad : Nat → Nat} (h : MS w o ad) : gK w (ad 116) = some (.inr (3, 60)) := (h.2.1 (116, 3, 60) (by decide)).2
theorem MS.r117 {w : mW} {o : Nat} {ad : Nat → Nat} (h : MS w o ad) : gR w 117 o = some (ad 117) := (h.2.1 (117, 3, 60) (by decide)).1
theorem MS.k117 {w : mW} {o : Nat} {ad : Nat → Nat} (h : MS w o ad) : gK w (ad 117) = some (.inr (3, 60)) := (h.2.1 (117, 3, 60) (by decide)).2
theorem MS.r119 {w : mW} {o : Nat} {ad : Nat → Nat} (h : MS w o ad) : gR w 119 o = some (ad 119) := (h.2.1 (119, 3, 60) (by decide)).1
theorem MS.k119 {w : mW} {o : Nat} {ad : Nat → Nat} (h : MS w o ad) : gK w (ad 119) = some (.inr (3, 60)) := (h.2.1 (119, 3, 60) (by decide)).2
theorem MS.r120 {w : mW} {o : Nat} {ad : Nat → Nat} (h : MS w o ad) : gR w 120 o = some (ad 120) := (h.2.1 (120, 3, 60) (by decide)).1
theorem MS.k120 {w : mW} {o : Nat} {ad : Nat → Nat} (h : MS w o ad) : gK w (ad 120) = some (.inr (3, 60)) := (h.2.1 (120, 3, 60) (by decide)).2
/-- a chain of cells by int links, -1 its end -/
def lkI (f : Nat → Int32) (N : Nat) : Int32 → List Nat → Prop
  | x, [] => x = -1
  | x, c :: L => x = nI c ∧ c < N ∧ lkI f N (f c) L
theorem lkI_lt {f : Nat → Int32} {N : Nat} : ∀ {L : List Nat} {x : Int32} {k : Nat}, lkI f N x L → k < L.length → (L[k]?).getD 0 < N
  | [], _, _, _, h => absurd h (by simp)
  | c :: L, _, 0, h, _ => h.2.1
  | c :: L, _, k + 1, h, hk => by
    have := lkI_lt (k := k) h.2.2 (by simpa using hk)
    simpa using this
set_option maxRecDepth 100000 in
set_option maxHeartbeats 4000000 in
theorem k_M_isRegister (l : Launch) (w : mW) (r : Int32) : mMet l y_M_isRegister c_M_isRegister 1 (some .boolean) 0 0 0 [vI r] w (fun v w' => v = some (vI (bI (isRg r))) ∧ w = w') := by
  refine mMet.of (by decide) (Nat.le_of_ble_eq_true rfl) ?_
  intro p e s m args below meth c D dA A X
  show mV p l e (mRm 0 0 0) s m args below meth c D dA A 1 w 0 0 _ 0 [(0, vI r)] []
  refine mv_iload_n X 0 d_M_isRegister_0 rfl ?_
  refine mv_if_lt (tgt := 14) X d_M_isRegister_1 (by decide) (fun h1 => ?_) (fun h1 => ?_)
  · refine mv_iconst (v := 0) X d_M_isRegister_14 (by decide) ?_
    exact mv_ret_i (Post := _) X d_M_isRegister_15 rfl (by rfl) (Nat.le_of_ble_eq_true rfl) (Nat.le_of_ble_eq_true rfl) (⟨by rw [isRg_f1 h1]; rfl, rfl⟩)
  · refine mv_iload_n X 0 d_M_isRegister_4 rfl ?_
    refine mv_bipush (v := 8) X d_M_isRegister_5 (by decide) ?_
    refine mv_icmp_ge (tgt := 14) X d_M_isRegister_7 (by decide) (fun h7 => ?_) (fun h7 => ?_)
    · refine mv_iconst (v := 0) X d_M_isRegister_14 (by decide) ?_
      exact mv_ret_i (Post := _) X d_M_isRegister_15 rfl (by rfl) (Nat.le_of_ble_eq_true rfl) (Nat.le_of_ble_eq_true rfl) (⟨by rw [isRg_f2 h7]; rfl, rfl⟩)
    · refine mv_iconst (v := 1) X d_M_isRegister_10 (by decide) ?_
      refine mv_goto (tgt := 15) X d_M_isRegister_11 (by decide) ?_
      exact mv_ret_i (Post := _) X d_M_isRegister_15 rfl (by rfl) (Nat.le_of_ble_eq_true rfl) (Nat.le_of_ble_eq_true rfl) (⟨by rw [isRg_t h1 h7]; rfl, rfl⟩)
set_option maxRecDepth 100000 in
set_option maxHeartbeats 4000000 in
theorem k_M_isObject (l : Launch) (w : mW) (x : Int64) : mMet l y_M_isObject c_M_isObject 2 (some .boolean) 0 0 0 [vJ x] w (fun v w' => v = some (vI (bI (isOb x))) ∧ w = w') := by
  refine mMet.of (by decide) (Nat.le_of_ble_eq_true rfl) ?_
  intro p e s m args below meth c D dA A X
  show mV p l e (mRm 0 0 0) s m args below meth c D dA A 2 w 0 0 _ 0 [(0, vJ x)] []
  refine mv_lload_n X 0 d_M_isObject_0 rfl ?_
  refine mv_bipush (v := 32) X d_M_isObject_1 (by decide) ?_
  refine mv_lshr (v := x >>> (Int32.toInt64 32 &&& 63)) X d_M_isObject_3 rfl ?_
  refine mv_ldc2 (v := 6) X d_M_isObject_4 (mA (by decide +kernel) (by decide +kernel)) ?_
  refine mv_lcmp X d_M_isObject_7 ?_
  refine mv_if_ne (tgt := 15) X d_M_isObject_8 (by decide) (fun h8 => ?_) (fun h8 => ?_)
  · refine mv_iconst (v := 0) X d_M_isObject_15 (by decide) ?_
    exact mv_ret_i (Post := _) X d_M_isObject_16 rfl (by rfl) (Nat.le_of_ble_eq_true rfl) (Nat.le_of_ble_eq_true rfl) (⟨by rw [lg_cmp_eq] at h8; unfold isOb; rw [decide_eq_false h8]; rfl, rfl⟩)
  · refine mv_iconst (v := 1) X d_M_isObject_11 (by decide) ?_
    refine mv_goto (tgt := 16) X d_M_isObject_12 (by decide) ?_
    exact mv_ret_i (Post := _) X d_M_isObject_16 rfl (by rfl) (Nat.le_of_ble_eq_true rfl) (Nat.le_of_ble_eq_true rfl) (⟨by rw [lg_cmp_eq] at h8; unfold isOb; rw [decide_eq_true h8]; rfl, rfl⟩)
set_option maxRecDepth 100000 in
set_option maxHeartbeats 4000000 in
theorem k_M_cellsOf (l : Launch) (w : mW) (k n : Int32) : mMet l y_M_cellsOf c_M_cellsOf 2 (some .int) 0 0 0 [vI k, vI n] w (fun v w' => v = some (vI (cOf k n)) ∧ w = w') := by
  refine mMet.of (by decide) (Nat.le_of_ble_eq_true rfl) ?_
  intro p e s m args below meth c D dA A X
  show mV p l e (mRm 0 0 0) s m args below meth c D dA A 2 w 0 0 _ 0 [(0, vI k), (1, vI n)] []
  refine mv_iload_n X 0 d_M_cellsOf_0 rfl ?_
  refine mv_iconst (v := 1) X d_M_cellsOf_1 (by decide) ?_
  refine mv_icmp_ne (tgt := 11) X d_M_cellsOf_2 (by decide) (fun h2 => ?_) (fun h2 => ?_)
  · refine mv_iload_n X 0 d_M_cellsOf_11 rfl ?_
    refine mv_iconst (v := 2) X d_M_cellsOf_12 (by decide) ?_
    refine mv_icmp_eq (tgt := 21) X d_M_cellsOf_13 (by decide) (fun h13 => ?_) (fun h13 => ?_)
    · refine mv_iconst (v := 3) X d_M_cellsOf_21 (by decide) ?_
      refine mv_goto (tgt := 35) X d_M_cellsOf_22 (by decide) ?_
      exact mv_ret_i (Post := _) X d_M_cellsOf_35 rfl rfl (Nat.le_of_ble_eq_true rfl) (Nat.le_of_ble_eq_true rfl) (by refine ⟨?_, rfl⟩; simp_all [cOf])
    · refine mv_iload_n X 0 d_M_cellsOf_16 rfl ?_
      refine mv_iconst (v := 4) X d_M_cellsOf_17 (by decide) ?_
      refine mv_icmp_ne (tgt := 25) X d_M_cellsOf_18 (by decide) (fun h18 => ?_) (fun h18 => ?_)
      · refine mv_iload_n X 0 d_M_cellsOf_25 rfl ?_
        refine mv_iconst (v := 5) X d_M_cellsOf_26 (by decide) ?_
        refine mv_icmp_ne (tgt := 34) X d_M_cellsOf_27 (by decide) (fun h27 => ?_) (fun h27 => ?_)
        · refine mv_iconst (v := 4) X d_M_cellsOf_34 (by decide) ?_
          exact mv_ret_i (Post := _) X d_M_cellsOf_35 rfl rfl (Nat.le_of_ble_eq_true rfl) (Nat.le_of_ble_eq_true rfl) (by refine ⟨?_, rfl⟩; simp_all [cOf])
        · refine mv_iconst (v := 5) X d_M_cellsOf_30 (by decide) ?_
          refine mv_goto (tgt := 35) X d_M_cellsOf_31 (by decide) ?_
          exact mv_ret_i (Post := _) X d_M_cellsOf_35 rfl rfl (Nat.le_of_ble_eq_true rfl) (Nat.le_of_ble_eq_true rfl) (by refine ⟨?_, rfl⟩; simp_all [cOf])
      · refine mv_iconst (v := 3) X d_M_cellsOf_21 (by decide) ?_
        refine mv_goto (tgt := 35) X d_M_cellsOf_22 (by decide) ?_
        exact mv_ret_i (Post := _) X d_M_cellsOf_35 rfl rfl (Nat.le_of_ble_eq_true rfl) (Nat.le_of_ble_eq_true rfl) (by refine ⟨?_, rfl⟩; simp_all [cOf])
  · refine mv_iconst (v := 3) X d_M_cellsOf_5 (by decide) ?_
    refine mv_iload_n X 1 d_M_cellsOf_6 rfl ?_
    refine mv_iadd X d_M_cellsOf_7 ?_
    refine mv_goto (tgt := 35) X d_M_cellsOf_8 (by decide) ?_
    exact mv_ret_i (Post := _) X d_M_cellsOf_35 rfl rfl (Nat.le_of_ble_eq_true rfl) (Nat.le_of_ble_eq_true rfl) (by refine ⟨?_, rfl⟩; simp_all [cOf])
set_option maxRecDepth 100000 in
set_option maxHeartbeats 4000000 in
theorem k_M_is (l : Launch) (w : mW) (o : Nat) (ad : Nat → Nat) (hM : MS w o ad) (x : Int64) (k : Int32) (j : Nat) (hj : isOb x = true → x.toInt32 = nI j ∧ j < 1700) : mMet l y_M_is c_M_is 4 (some .boolean) 1 0 0 [vR (some o), vJ x, vI k] w (fun v w' => v = some (vI (bI (isOb x && decide (aI w (ad 104) j = k)))) ∧ w = w') := by
  refine mMet.of (by decide) (Nat.le_of_ble_eq_true rfl) ?_
  intro p e s m args below meth c D dA A X
  show mV p l e (mRm 1 0 0) s m args below meth c D dA A 4 w 0 0 _ 0 [(0, vR (some o)), (1, vJ x), (3, vI k)] []
  refine mv_lload_n X 1 d_M_is_0 rfl ?_
  refine mv_calls X [vJ x] [] (k_M_isObject l w x) d_M_is_1 cs_M_62 ⟨Nat.le_of_ble_eq_true rfl, Nat.le_of_ble_eq_true rfl⟩ ⟨Nat.le_of_ble_eq_true rfl, Nat.le_of_ble_eq_true rfl⟩ rfl (Nat.le_of_ble_eq_true rfl) (fun v1 w1 hp1 => ?_)
  obtain ⟨rfl, rfl⟩ := hp1
  refine mv_if_eq (tgt := 22) X d_M_is_4 (by decide) (fun h4 => ?_) (fun h4 => ?_)
  · refine mv_iconst (v := 0) X d_M_is_22 (by decide) ?_
    exact mv_ret_i (Post := _) X d_M_is_23 rfl (by rfl) (Nat.le_of_ble_eq_true rfl) (Nat.le_of_ble_eq_true rfl) (by refine ⟨?_, rfl⟩; rw [bI_0] at h4; simp [bI, h4])
  · refine mv_aload_n X 0 d_M_is_7 rfl ?_
    refine mv_getr (w := w) X d_M_is_8 f_M_13 (mIs.one hM.1) hM.r104 ?_
    refine mv_lload_n X 1 d_M_is_11 rfl ?_
    refine mv_l2i (v := Int64.toInt32 x) X d_M_is_12 rfl ?_
    refine mv_iald (x := aI w (ad 104) j) X d_M_is_13 rfl rfl hM.k104 ((hj (bI_ne.mp h4)).1) ((hj (bI_ne.mp h4)).2) (by decide) rfl ?_
    refine mv_iload_n X 2 d_M_is_14 rfl ?_
    refine mv_icmp_ne (tgt := 22) X d_M_is_15 (by decide) (fun h15 => ?_) (fun h15 => ?_)
    · refine mv_iconst (v := 0) X d_M_is_22 (by decide) ?_
      exact mv_ret_i (Post := _) X d_M_is_23 rfl (by rfl) (Nat.le_of_ble_eq_true rfl) (Nat.le_of_ble_eq_true rfl) (by refine ⟨?_, rfl⟩; rw [bI_ne] at h4; simp [bI, h4, h15])
    · refine mv_iconst (v := 1) X d_M_is_18 (by decide) ?_
      refine mv_goto (tgt := 23) X d_M_is_19 (by decide) ?_
      exact mv_ret_i (Post := _) X d_M_is_23 rfl (by rfl) (Nat.le_of_ble_eq_true rfl) (Nat.le_of_ble_eq_true rfl) (by refine ⟨?_, rfl⟩; rw [bI_ne] at h4; simp [bI, h4, h15])
set_option maxRecDepth 100000 in
set_option maxHeartbeats 4000000 in
theorem k_M_isLive (l : Launch) (w : mW) (o : Nat) (ad : Nat → Nat) (hM : MS w o ad) (x : Int64) (j : Nat) (hj : isOb x = true → x.toInt32 = nI j ∧ j < 1700) : mMet l y_M_isLive c_M_isLive 3 (some .boolean) 1 0 0 [vR (some o), vJ x] w (fun v w' => v = some (vI (bI (!isOb x || !decide (aI w (ad 109) j = 0)))) ∧ w = w') := by
  refine mMet.of (by decide) (Nat.le_of_ble_eq_true rfl) ?_
  intro p e s m args below meth c D dA A X
  show mV p l e (mRm 1 0 0) s m args below meth c D dA A 3 w 0 0 _ 0 [(0, vR (some o)), (1, vJ x)] []
  refine mv_lload_n X 1 d_M_isLive_0 rfl ?_
  refine mv_calls X [vJ x] [] (k_M_isObject l w x) d_M_isLive_1 cs_M_62 ⟨Nat.le_of_ble_eq_true rfl, Nat.le_of_ble_eq_true rfl⟩ ⟨Nat.le_of_ble_eq_true rfl, Nat.le_of_ble_eq_true rfl⟩ rfl (Nat.le_of_ble_eq_true rfl) (fun v1 w1 hp1 => ?_)
  obtain ⟨rfl, rfl⟩ := hp1
  refine mv_if_eq (tgt := 17) X d_M_isLive_4 (by decide) (fun h4 => ?_) (fun h4 => ?_)
  · refine mv_iconst (v := 1) X d_M_isLive_17 (by decide) ?_
    refine mv_goto (tgt := 22) X d_M_isLive_18 (by decide) ?_
    exact mv_ret_i (Post := _) X d_M_isLive_22 rfl (by rfl) (Nat.le_of_ble_eq_true rfl) (Nat.le_of_ble_eq_true rfl) (by refine ⟨?_, rfl⟩; rw [bI_0] at h4; simp [bI, h4])
  · refine mv_aload_n X 0 d_M_isLive_7 rfl ?_
    refine mv_getr (w := w) X d_M_isLive_8 f_M_30 (mIs.one hM.1) hM.r109 ?_
    refine mv_lload_n X 1 d_M_isLive_11 rfl ?_
    refine mv_l2i (v := Int64.toInt32 x) X d_M_isLive_12 rfl ?_
    refine mv_zald (x := aI w (ad 109) j) X d_M_isLive_13 rfl rfl hM.k109 ((hj (bI_ne.mp h4)).1) ((hj (bI_ne.mp h4)).2) (by decide) rfl ?_
    refine mv_if_eq (tgt := 21) X d_M_isLive_14 (by decide) (fun h14 => ?_) (fun h14 => ?_)
    · refine mv_iconst (v := 0) X d_M_isLive_21 (by decide) ?_
      exact mv_ret_i (Post := _) X d_M_isLive_22 rfl (by rfl) (Nat.le_of_ble_eq_true rfl) (Nat.le_of_ble_eq_true rfl) (by refine ⟨?_, rfl⟩; rw [bI_ne] at h4; simp [bI, h4, h14])
    · refine mv_iconst (v := 1) X d_M_isLive_17 (by decide) ?_
      refine mv_goto (tgt := 22) X d_M_isLive_18 (by decide) ?_
      exact mv_ret_i (Post := _) X d_M_isLive_22 rfl (by rfl) (Nat.le_of_ble_eq_true rfl) (Nat.le_of_ble_eq_true rfl) (by refine ⟨?_, rfl⟩; rw [bI_ne] at h4; simp [bI, h4, h14])
set_option maxRecDepth 100000 in
set_option maxHeartbeats 4000000 in
theorem k_M_shown (l : Launch) (w : mW) (o : Nat) (ad : Nat → Nat) (hM : MS w o ad) (x : Int64) (j : Nat) (hj : x.toInt32 = nI j ∧ j < 1700) : mMet l y_M_shown c_M_shown 3 (some .int) 0 0 0 [vR (some o), vJ x] w (fun v w' => v = some (vI (if aI w (ad 104) j = 4 then 0 else aI w (ad 105) j)) ∧ w = w') := by
  refine mMet.of (by decide) (Nat.le_of_ble_eq_true rfl) ?_
  intro p e s m args below meth c D dA A X
  show mV p l e (mRm 0 0 0) s m args below meth c D dA A 3 w 0 0 _ 0 [(0, vR (some o)), (1, vJ x)] []
  refine mv_aload_n X 0 d_M_shown_0 rfl ?_
  refine mv_getr (w := w) X d_M_shown_1 f_M_13 (mIs.one hM.1) hM.r104 ?_
  refine mv_lload_n X 1 d_M_shown_4 rfl ?_
  refine mv_l2i (v := Int64.toInt32 x) X d_M_shown_5 rfl ?_
  refine mv_iald (x := aI w (ad 104) j) X d_M_shown_6 rfl rfl hM.k104 hj.1 hj.2 (by decide) rfl ?_
  refine mv_iconst (v := 4) X d_M_shown_7 (by decide) ?_
  refine mv_icmp_ne (tgt := 15) X d_M_shown_8 (by decide) (fun h8 => ?_) (fun h8 => ?_)
  · refine mv_aload_n X 0 d_M_shown_15 rfl ?_
    refine mv_getr (w := w) X d_M_shown_16 f_M_17 (mIs.one hM.1) hM.r105 ?_
    refine mv_lload_n X 1 d_M_shown_19 rfl ?_
    refine mv_l2i (v := Int64.toInt32 x) X d_M_shown_20 rfl ?_
    refine mv_iald (x := aI w (ad 105) j) X d_M_shown_21 rfl rfl hM.k105 hj.1 hj.2 (by decide) rfl ?_
    exact mv_ret_i (Post := _) X d_M_shown_22 rfl rfl (Nat.le_of_ble_eq_true rfl) (Nat.le_of_ble_eq_true rfl) (by refine ⟨?_, rfl⟩; simp_all)
  · refine mv_iconst (v := 0) X d_M_shown_11 (by decide) ?_
    refine mv_goto (tgt := 22) X d_M_shown_12 (by decide) ?_
    exact mv_ret_i (Post := _) X d_M_shown_22 rfl rfl (Nat.le_of_ble_eq_true rfl) (Nat.le_of_ble_eq_true rfl) (by refine ⟨?_, rfl⟩; simp_all)
set_option maxRecDepth 100000 in
set_option maxHeartbeats 4000000 in
theorem k_M_cellAt (l : Launch) (w : mW) (o : Nat) (ad : Nat → Nat) (hM : MS w o ad) (x : Int64) (j k : Nat) (hj : x.toInt32 = nI j ∧ j < 1700) (Lc : List Nat) (hch : lkI (aI w (ad 113)) 5100 (aI w (ad 106) j) Lc) (hlt : k < Lc.length) (hk : k < 2 ^ 31) : mMet l y_M_cellAt c_M_cellAt 6 (some .int) 0 0 0 [vR (some o), vJ x, vI (nI k)] w (fun v w' => v = some (vI (nI ((Lc[k]?).getD 0))) ∧ w = w') := by
  refine mMet.of (by decide) (Nat.le_of_ble_eq_true rfl) ?_
  intro p e s m args below meth c D dA A X
  show mV p l e (mRm 0 0 0) s m args below meth c D dA A 6 w 0 0 _ 0 [(0, vR (some o)), (1, vJ x), (3, vI (nI k))] []
  refine mv_aload_n X 0 d_M_cellAt_0 rfl ?_
  refine mv_getr (w := w) X d_M_cellAt_1 f_M_20 (mIs.one hM.1) hM.r106 ?_
  refine mv_lload_n X 1 d_M_cellAt_4 rfl ?_
  refine mv_l2i (v := Int64.toInt32 x) X d_M_cellAt_5 rfl ?_
  refine mv_iald (x := aI w (ad 106) j) X d_M_cellAt_6 rfl rfl hM.k106 hj.1 hj.2 (by decide) rfl ?_
  refine mv_istore (lv' := [(4, vI (aI w (ad 106) j)), (0, vR (some o)), (1, vJ x), (3, vI (nI k))]) X d_M_cellAt_7 (by decide) rfl ?_
  refine mv_iconst (v := 0) X d_M_cellAt_9 (by decide) ?_
  refine mv_istore (lv' := [(5, vI 0), (4, vI (aI w (ad 106) j)), (0, vR (some o)), (1, vJ x), (3, vI (nI k))]) X d_M_cellAt_10 (by decide) rfl ?_
  have key : ∀ (n i : Nat) (Lr : List Nat) (c0 : Int32), n + i = k → n < Lr.length → lkI (aI w (ad 113)) 5100 c0 Lr → mV p l e (mRm 0 0 0) s m args below meth c D dA A 6 w 0 0 (MQ below (mQ D dA A (fun v w' => v = some (vI (nI ((Lr[n]?).getD 0))) ∧ w = w')) args s 0 0 A) 12 [(5, vI (nI i)), (4, vI c0), (0, vR (some o)), (1, vJ x), (3, vI (nI k))] [] := by
    intro n
    induction n with
    | zero =>
      intro i Lr c0 hn hlt hch
      have hik : i = k := by omega
      subst hik
      obtain ⟨c1, Lr, rfl⟩ : ∃ c1 L2, Lr = c1 :: L2 := by cases Lr with | nil => exact absurd hlt (by simp) | cons a L2 => exact ⟨a, L2, rfl⟩
      obtain ⟨rfl, hc1, hch⟩ := hch
      refine mv_iload X 0 d_M_cellAt_12 rfl ?_
      refine mv_iload_n X 4 d_M_cellAt_14 rfl ?_
      refine mv_icmp_ge (tgt := 33) X d_M_cellAt_15 (by decide) (fun h15 => ?_) (fun h15 => ?_)
      · refine mv_iload X 1 d_M_cellAt_33 rfl ?_
        exact mv_ret_i (Post := _) X d_M_cellAt_35 rfl rfl (Nat.le_of_ble_eq_true rfl) (Nat.le_of_ble_eq_true rfl) (⟨rfl, rfl⟩)
      · exact absurd (nI_le (Nat.le_refl i) hk) h15
    | succ n ih =>
      intro i Lr c0 hn hlt hch
      obtain ⟨c1, Lr, rfl⟩ : ∃ c1 L2, Lr = c1 :: L2 := by cases Lr with | nil => exact absurd hlt (by simp) | cons a L2 => exact ⟨a, L2, rfl⟩
      obtain ⟨rfl, hc1, hch⟩ := hch
      refine mv_iload X 0 d_M_cellAt_12 rfl ?_
      refine mv_iload_n X 4 d_M_cellAt_14 rfl ?_
      refine mv_icmp_ge (tgt := 33) X d_M_cellAt_15 (by decide) (fun h15 => ?_) (fun h15 => ?_)
      · exact absurd h15 (nI_ge (show i < k by omega) hk)
      · refine mv_aload_n X 2 d_M_cellAt_18 rfl ?_
        refine mv_getr (w := w) X d_M_cellAt_19 f_M_39 (mIs.one hM.1) hM.r113 ?_
        refine mv_iload X 1 d_M_cellAt_22 rfl ?_
        refine mv_iald (x := aI w (ad 113) c1) X d_M_cellAt_24 rfl rfl hM.k113 rfl hc1 (by decide) rfl ?_
        refine mv_istore (lv' := [(4, vI (aI w (ad 113) c1)), (5, vI (nI i)), (0, vR (some o)), (1, vJ x), (3, vI (nI k))]) X d_M_cellAt_25 (by decide) rfl ?_
        refine mv_iinc (v := nI (i + 1)) (lv' := [(5, vI (nI (i + 1))), (4, vI (aI w (ad 113) c1)), (0, vR (some o)), (1, vJ x), (3, vI (nI k))]) X 1 d_M_cellAt_27 rfl (nI_1 i) (by decide) rfl ?_
        refine mv_goto (tgt := 12) X d_M_cellAt_30 (by decide) ?_
        refine mv_sub (lv' := [(5, vI (nI (i + 1))), (4, vI (aI w (ad 113) c1)), (0, vR (some o)), (1, vJ x), (3, vI (nI k))]) [0, 1, 2, 3, 4] rfl ?_
        exact ih (i + 1) Lr _ (by omega) (by simpa using hlt) hch
  have h0 := key k 0 Lc _ (by omega) hlt hch
  exact h0
set_option maxRecDepth 100000 in
set_option maxHeartbeats 4000000 in
theorem k_M_field (l : Launch) (w : mW) (o : Nat) (ad : Nat → Nat) (hM : MS w o ad) (x : Int64) (j k : Nat) (hj : x.toInt32 = nI j ∧ j < 1700) (Lc : List Nat) (hch : lkI (aI w (ad 113)) 5100 (aI w (ad 106) j) Lc) (hlt : k < Lc.length) (hk : k < 2 ^ 31) : mMet l y_M_field c_M_field 4 (some .long) 1 0 0 [vR (some o), vJ x, vI (nI k)] w (fun v w' => v = some (vJ (aJ w (ad 112) ((Lc[k]?).getD 0))) ∧ w = w') := by
  refine mMet.of (by decide) (Nat.le_of_ble_eq_true rfl) ?_
  intro p e s m args below meth c D dA A X
  show mV p l e (mRm 1 0 0) s m args below meth c D dA A 4 w 0 0 _ 0 [(0, vR (some o)), (1, vJ x), (3, vI (nI k))] []
  refine mv_aload_n X 0 d_M_field_0 rfl ?_
  refine mv_getr (w := w) X d_M_field_1 f_M_36 (mIs.one hM.1) hM.r112 ?_
  refine mv_aload_n X 0 d_M_field_4 rfl ?_
  refine mv_lload_n X 1 d_M_field_5 rfl ?_
  refine mv_iload_n X 2 d_M_field_6 rfl ?_
  refine mv_callv X [vJ x, vI (nI k)] [vR (some (ad 112))] (k_M_cellAt l w o ad hM x j k hj Lc hch hlt hk) d_M_field_7 cv_M_66 hM.1 ⟨Nat.le_of_ble_eq_true rfl, Nat.le_of_ble_eq_true rfl⟩ ⟨Nat.le_of_ble_eq_true rfl, Nat.le_of_ble_eq_true rfl⟩ rfl (Nat.le_of_ble_eq_true rfl) (fun v7 w7 hp7 => ?_)
  obtain ⟨rfl, rfl⟩ := hp7
  refine mv_lald (x := aJ w (ad 112) ((Lc[k]?).getD 0)) X d_M_field_10 rfl rfl hM.k112 rfl (lkI_lt hch hlt) (by decide) rfl ?_
  exact mv_ret_j X d_M_field_11 rfl (Nat.le_of_ble_eq_true rfl) (Nat.le_of_ble_eq_true rfl) (⟨rfl, rfl⟩)
set_option maxRecDepth 100000 in
set_option maxHeartbeats 4000000 in
theorem k_M_setField (l : Launch) (w : mW) (o : Nat) (ad : Nat → Nat) (hM : MS w o ad) (x : Int64) (j k : Nat) (hj : x.toInt32 = nI j ∧ j < 1700) (Lc : List Nat) (hch : lkI (aI w (ad 113)) 5100 (aI w (ad 106) j) Lc) (hlt : k < Lc.length) (hk : k < 2 ^ 31) (y : Int64) : mMet l y_M_setField c_M_setField 6 none 1 0 0 [vR (some o), vJ x, vI (nI k), vJ y] w (fun v w' => v = none ∧ w' = xJ w (ad 112) ((Lc[k]?).getD 0) y) := by
  refine mMet.of (by decide) (Nat.le_of_ble_eq_true rfl) ?_
  intro p e s m args below meth c D dA A X
  show mV p l e (mRm 1 0 0) s m args below meth c D dA A 6 w 0 0 _ 0 [(0, vR (some o)), (1, vJ x), (3, vI (nI k)), (4, vJ y)] []
  refine mv_aload_n X 0 d_M_setField_0 rfl ?_
  refine mv_getr (w := w) X d_M_setField_1 f_M_36 (mIs.one hM.1) hM.r112 ?_
  refine mv_aload_n X 0 d_M_setField_4 rfl ?_
  refine mv_lload_n X 1 d_M_setField_5 rfl ?_
  refine mv_iload_n X 2 d_M_setField_6 rfl ?_
  refine mv_callv X [vJ x, vI (nI k)] [vR (some (ad 112))] (k_M_cellAt l w o ad hM x j k hj Lc hch hlt hk) d_M_setField_7 cv_M_66 hM.1 ⟨Nat.le_of_ble_eq_true rfl, Nat.le_of_ble_eq_true rfl⟩ ⟨Nat.le_of_ble_eq_true rfl, Nat.le_of_ble_eq_true rfl⟩ rfl (Nat.le_of_ble_eq_true rfl) (fun v7 w7 hp7 => ?_)
  obtain ⟨rfl, rfl⟩ := hp7
  refine mv_lload X 3 d_M_setField_10 rfl ?_
  refine mv_last X d_M_setField_12 rfl rfl hM.k112 rfl (lkI_lt hch hlt) (by decide) ?_
  exact mv_ret_v X d_M_setField_13 rfl (Nat.le_of_ble_eq_true rfl) (Nat.le_of_ble_eq_true rfl) (⟨rfl, rfl⟩)
set_option maxRecDepth 100000 in
set_option maxHeartbeats 4000000 in
theorem k_M_mark (l : Launch) (w : mW) (o : Nat) (ad : Nat → Nat) (hM : MS w o ad) (x : Int64) (j mk : Nat) (hj : isOb x = true → x.toInt32 = nI j ∧ j < 1700) (hmk : (!isOb x || !decide (aI w (ad 109) j = 0)) = false → gI w 111 o = nI mk ∧ mk < 1700) : mMet l y_M_mark c_M_mark 3 none 2 0 0 [vR (some o), vJ x] w (fun v w' => if (!isOb x || !decide (aI w (ad 109) j = 0)) = true then v = none ∧ w = w' else v = none ∧ w' = sI (xI (xI w (ad 109) j 1) (ad 110) mk (Int64.toInt32 x)) 111 o (nI mk + 1)) := by
  refine mMet.of (by decide) (Nat.le_of_ble_eq_true rfl) ?_
  intro p e s m args below meth c D dA A X
  show mV p l e (mRm 2 0 0) s m args below meth c D dA A 3 w 0 0 _ 0 [(0, vR (some o)), (1, vJ x)] []
  refine mv_aload_n X 0 d_M_mark_0 rfl ?_
  refine mv_lload_n X 1 d_M_mark_1 rfl ?_
  refine mv_callv X [vJ x] [] (k_M_isLive l w o ad hM x j hj) d_M_mark_2 cv_M_88 hM.1 ⟨Nat.le_of_ble_eq_true rfl, Nat.le_of_ble_eq_true rfl⟩ ⟨Nat.le_of_ble_eq_true rfl, Nat.le_of_ble_eq_true rfl⟩ rfl (Nat.le_of_ble_eq_true rfl) (fun v2 w2 hp2 => ?_)
  obtain ⟨rfl, rfl⟩ := hp2
  refine mv_if_eq (tgt := 9) X d_M_mark_5 (by decide) (fun h5 => ?_) (fun h5 => ?_)
  · have hc := bI_0.mp h5
    have hob : isOb x = true := by cases hq : isOb x with | true => rfl | false => rw [hq] at hc; simp at hc
    obtain ⟨hj1, hj2⟩ := hj hob
    obtain ⟨hmk, hmk2⟩ := hmk hc
    refine mv_aload_n X 0 d_M_mark_9 rfl ?_
    refine mv_getr (w := w) X d_M_mark_10 f_M_30 (mIs.one hM.1) hM.r109 ?_
    refine mv_lload_n X 1 d_M_mark_13 rfl ?_
    refine mv_l2i (v := Int64.toInt32 x) X d_M_mark_14 rfl ?_
    refine mv_iconst (v := 1) X d_M_mark_15 (by decide) ?_
    refine mv_zast X d_M_mark_16 rfl rfl hM.k109 hj1 hj2 (by decide) rfl ?_
    refine mv_aload_n X 0 d_M_mark_17 rfl ?_
    refine mv_getr (w := (xI w (ad 109) j 1)) X d_M_mark_18 f_M_33 (mIs.one hM.1) hM.r110 ?_
    refine mv_aload_n X 0 d_M_mark_21 rfl ?_
    refine mv_geti (w := (xI w (ad 109) j 1)) X d_M_mark_22 f_M_91 (mIs.one hM.1) hmk ?_
    refine mv_lload_n X 1 d_M_mark_25 rfl ?_
    refine mv_l2i (v := Int64.toInt32 x) X d_M_mark_26 rfl ?_
    refine mv_iast X d_M_mark_27 rfl rfl hM.k110 rfl hmk2 (by decide) ?_
    refine mv_aload_n X 0 d_M_mark_28 rfl ?_
    refine mv_aload_n X 0 d_M_mark_29 rfl ?_
    refine mv_geti (w := (xI (xI w (ad 109) j 1) (ad 110) mk (Int64.toInt32 x))) X d_M_mark_30 f_M_91 (mIs.one hM.1) hmk ?_
    refine mv_iconst (v := 1) X d_M_mark_33 (by decide) ?_
    refine mv_iadd X d_M_mark_34 ?_
    refine mv_puti X d_M_mark_35 f_M_91 (mIs.one hM.1) rfl rfl ?_
    exact mv_ret_v X d_M_mark_38 rfl (Nat.le_of_ble_eq_true rfl) (Nat.le_of_ble_eq_true rfl) (by rw [if_neg (by rw [hc]; decide)]; exact ⟨rfl, rfl⟩)
  · have hc := bI_ne.mp h5
    exact mv_ret_v X d_M_mark_8 rfl (Nat.le_of_ble_eq_true rfl) (Nat.le_of_ble_eq_true rfl) (by rw [if_pos hc]; exact ⟨rfl, rfl⟩)
end
section

theorem bI_nt {b : Bool} (h : bI b = 0) : ¬ b = true := by rw [bI_0.mp h]; decide
def rN (r : Int32) : Nat := r.toNatClampNeg
theorem isRg_nI {r : Int32} (h : isRg r = true) : r = nI (rN r) ∧ rN r < 8 := by
  obtain ⟨j, h1, h2⟩ := isRg_of h
  subst h2
  have e : rN (nI j) = j := nI_clamp (by omega)
  rw [e]
  exact ⟨rfl, h1⟩
theorem MS.ne {w : mW} {o : Nat} {ad : Nat → Nat} (h : MS w o ad) {k k' : Nat} (hk : k ∈ ([101, 104, 105, 106, 107, 108, 109, 110, 112, 113, 116, 117, 119, 120] : List Nat)) (hk' : k' ∈ ([101, 104, 105, 106, 107, 108, 109, 110, 112, 113, 116, 117, 119, 120] : List Nat)) (hne : k ≠ k') : ad k ≠ ad k' := fun q => hne (h.2.2 k k' hk hk' q)
theorem sw_out {x : Int32} {hi : Nat} (hh : hi < 2 ^ 31) (h : ∀ k, k ≤ hi → ¬ x = nI k) : x.toInt < 0 ∨ (hi : Int) < x.toInt := by
  by_cases h1 : x.toInt < 0
  · exact Or.inl h1
  · refine Or.inr ?_
    obtain ⟨j, hj, rfl⟩ := nI_of (x := x) (by rw [Int32.lt_iff_toInt_lt, Int32.toInt_zero]; exact h1)
    rw [nI_toInt hj]
    by_cases h2 : j ≤ hi
    · exact absurd rfl (h j h2)
    · omega
def cntM (w : mW) (o : Nat) (x : Int32) : Int32 := if x = 0 then gI w 102 o else if x = 1 then gI w 103 o else if x = 2 then gI w 121 o else if x = 3 then gI w 118 o else if x = 4 then gI w 115 o else if x = 5 then gI w 122 o else -1
set_option maxRecDepth 100000 in
set_option maxHeartbeats 4000000 in
theorem k_M_number (l : Launch) (w : mW) (o : Nat) (ad : Nat → Nat) (hM : MS w o ad) (r x : Int32) : mMet l y_M_number c_M_number 3 (some .boolean) 1 0 0 [vR (some o), vI r, vI x] w (fun v w' => if isRg r = true then v = some (vI 1) ∧ w' = xJ w (ad 101) (rN r) (Int32.toInt64 x &&& 4294967295) else v = some (vI 0) ∧ w = w') := by
  refine mMet.of (by decide) (Nat.le_of_ble_eq_true rfl) ?_
  intro p e s m args below meth c D dA A X
  show mV p l e (mRm 1 0 0) s m args below meth c D dA A 3 w 0 0 _ 0 [(0, vR (some o)), (1, vI r), (2, vI x)] []
  refine mv_iload_n X 1 d_M_number_0 rfl ?_
  refine mv_calls X [vI r] [] (k_M_isRegister l w r) d_M_number_1 cs_M_137 ⟨Nat.le_of_ble_eq_true rfl, Nat.le_of_ble_eq_true rfl⟩ ⟨Nat.le_of_ble_eq_true rfl, Nat.le_of_ble_eq_true rfl⟩ rfl (Nat.le_of_ble_eq_true rfl) (fun v1 w1 hp1 => ?_)
  obtain ⟨rfl, rfl⟩ := hp1
  refine mv_if_ne (tgt := 9) X d_M_number_4 (by decide) (fun h4 => ?_) (fun h4 => ?_)
  · refine mv_aload_n X 0 d_M_number_9 rfl ?_
    refine mv_getr (w := w) X d_M_number_10 f_M_7 (mIs.one hM.1) hM.r101 ?_
    refine mv_iload_n X 1 d_M_number_13 rfl ?_
    refine mv_iload_n X 2 d_M_number_14 rfl ?_
    refine mv_i2l (v := Int32.toInt64 x) X d_M_number_15 rfl ?_
    refine mv_ldc2 (v := 4294967295) X d_M_number_16 (mA (by decide +kernel) (by decide +kernel)) ?_
    refine mv_land X d_M_number_19 ?_
    refine mv_last X d_M_number_20 rfl rfl hM.k101 ((isRg_nI (bI_ne.mp h4)).1) ((isRg_nI (bI_ne.mp h4)).2) (by decide) ?_
    refine mv_iconst (v := 1) X d_M_number_21 (by decide) ?_
    exact mv_ret_i (Post := _) X d_M_number_22 rfl (by rfl) (Nat.le_of_ble_eq_true rfl) (Nat.le_of_ble_eq_true rfl) (by rw [if_pos (bI_ne.mp h4)]; exact ⟨rfl, rfl⟩)
  · refine mv_iconst (v := 0) X d_M_number_7 (by decide) ?_
    exact mv_ret_i (Post := _) X d_M_number_8 rfl (by rfl) (Nat.le_of_ble_eq_true rfl) (Nat.le_of_ble_eq_true rfl) (by rw [if_neg (bI_nt h4)]; exact ⟨rfl, rfl⟩)
set_option maxRecDepth 100000 in
set_option maxHeartbeats 4000000 in
theorem k_M_copy (l : Launch) (w : mW) (o : Nat) (ad : Nat → Nat) (hM : MS w o ad) (r q : Int32) : mMet l y_M_copy c_M_copy 3 (some .boolean) 1 0 0 [vR (some o), vI r, vI q] w (fun v w' => if isRg r = true ∧ (q = -1 ∨ isRg q = true) then v = some (vI 1) ∧ w' = xJ w (ad 101) (rN r) (if q = -1 then 12884901888 else aJ w (ad 101) (rN q)) else v = some (vI 0) ∧ w = w') := by
  refine mMet.of (by decide) (Nat.le_of_ble_eq_true rfl) ?_
  intro p e s m args below meth c D dA A X
  show mV p l e (mRm 1 0 0) s m args below meth c D dA A 3 w 0 0 _ 0 [(0, vR (some o)), (1, vI r), (2, vI q)] []
  refine mv_iload_n X 1 d_M_copy_0 rfl ?_
  refine mv_calls X [vI r] [] (k_M_isRegister l w r) d_M_copy_1 cs_M_137 ⟨Nat.le_of_ble_eq_true rfl, Nat.le_of_ble_eq_true rfl⟩ ⟨Nat.le_of_ble_eq_true rfl, Nat.le_of_ble_eq_true rfl⟩ rfl (Nat.le_of_ble_eq_true rfl) (fun v1 w1 hp1 => ?_)
  obtain ⟨rfl, rfl⟩ := hp1
  refine mv_if_eq (tgt := 19) X d_M_copy_4 (by decide) (fun h4 => ?_) (fun h4 => ?_)
  · refine mv_iconst (v := 0) X d_M_copy_19 (by decide) ?_
    exact mv_ret_i (Post := _) X d_M_copy_20 rfl (by rfl) (Nat.le_of_ble_eq_true rfl) (Nat.le_of_ble_eq_true rfl) (by rw [if_neg (fun z => bI_nt h4 z.1)]; exact ⟨rfl, rfl⟩)
  · refine mv_iload_n X 2 d_M_copy_7 rfl ?_
    refine mv_iconst (v := (-1)) X d_M_copy_8 (by decide) ?_
    refine mv_icmp_eq (tgt := 21) X d_M_copy_9 (by decide) (fun h9 => ?_) (fun h9 => ?_)
    · refine mv_aload_n X 0 d_M_copy_21 rfl ?_
      refine mv_getr (w := w) X d_M_copy_22 f_M_7 (mIs.one hM.1) hM.r101 ?_
      refine mv_iload_n X 1 d_M_copy_25 rfl ?_
      refine mv_iload_n X 2 d_M_copy_26 rfl ?_
      refine mv_iconst (v := (-1)) X d_M_copy_27 (by decide) ?_
      refine mv_icmp_ne (tgt := 37) X d_M_copy_28 (by decide) (fun h28 => ?_) (fun h28 => ?_)
      · exact absurd h9 h28
      · refine mv_ldc2 (v := 12884901888) X d_M_copy_31 (mA (by decide +kernel) (by decide +kernel)) ?_
        refine mv_goto (tgt := 43) X d_M_copy_34 (by decide) ?_
        refine mv_last X d_M_copy_43 rfl rfl hM.k101 ((isRg_nI (bI_ne.mp h4)).1) ((isRg_nI (bI_ne.mp h4)).2) (by decide) ?_
        refine mv_iconst (v := 1) X d_M_copy_44 (by decide) ?_
        exact mv_ret_i (Post := _) X d_M_copy_45 rfl (by rfl) (Nat.le_of_ble_eq_true rfl) (Nat.le_of_ble_eq_true rfl) (by rw [if_pos ⟨bI_ne.mp h4, Or.inl h9⟩, if_pos h9]; exact ⟨rfl, rfl⟩)
    · refine mv_iload_n X 2 d_M_copy_12 rfl ?_
      refine mv_calls X [vI q] [] (k_M_isRegister l w q) d_M_copy_13 cs_M_137 ⟨Nat.le_of_ble_eq_true rfl, Nat.le_of_ble_eq_true rfl⟩ ⟨Nat.le_of_ble_eq_true rfl, Nat.le_of_ble_eq_true rfl⟩ rfl (Nat.le_of_ble_eq_true rfl) (fun v13 w13 hp13 => ?_)
      obtain ⟨rfl, rfl⟩ := hp13
      refine mv_if_ne (tgt := 21) X d_M_copy_16 (by decide) (fun h16 => ?_) (fun h16 => ?_)
      · refine mv_aload_n X 0 d_M_copy_21 rfl ?_
        refine mv_getr (w := w) X d_M_copy_22 f_M_7 (mIs.one hM.1) hM.r101 ?_
        refine mv_iload_n X 1 d_M_copy_25 rfl ?_
        refine mv_iload_n X 2 d_M_copy_26 rfl ?_
        refine mv_iconst (v := (-1)) X d_M_copy_27 (by decide) ?_
        refine mv_icmp_ne (tgt := 37) X d_M_copy_28 (by decide) (fun h28 => ?_) (fun h28 => ?_)
        · refine mv_aload_n X 0 d_M_copy_37 rfl ?_
          refine mv_getr (w := w) X d_M_copy_38 f_M_7 (mIs.one hM.1) hM.r101 ?_
          refine mv_iload_n X 2 d_M_copy_41 rfl ?_
          refine mv_lald (x := aJ w (ad 101) (rN q)) X d_M_copy_42 rfl rfl hM.k101 ((isRg_nI (bI_ne.mp h16)).1) ((isRg_nI (bI_ne.mp h16)).2) (by decide) rfl ?_
          refine mv_last X d_M_copy_43 rfl rfl hM.k101 ((isRg_nI (bI_ne.mp h4)).1) ((isRg_nI (bI_ne.mp h4)).2) (by decide) ?_
          refine mv_iconst (v := 1) X d_M_copy_44 (by decide) ?_
          exact mv_ret_i (Post := _) X d_M_copy_45 rfl (by rfl) (Nat.le_of_ble_eq_true rfl) (Nat.le_of_ble_eq_true rfl) (by rw [if_pos ⟨bI_ne.mp h4, Or.inr (bI_ne.mp h16)⟩, if_neg h9]; exact ⟨rfl, rfl⟩)
        · exact absurd h28 h9
      · refine mv_iconst (v := 0) X d_M_copy_19 (by decide) ?_
        exact mv_ret_i (Post := _) X d_M_copy_20 rfl (by rfl) (Nat.le_of_ble_eq_true rfl) (Nat.le_of_ble_eq_true rfl) (by rw [if_neg (fun z => z.2.elim h9 (bI_nt h16))]; exact ⟨rfl, rfl⟩)
set_option maxRecDepth 100000 in
set_option maxHeartbeats 4000000 in
theorem k_M_same (l : Launch) (w : mW) (o : Nat) (ad : Nat → Nat) (hM : MS w o ad) (r q : Int32) : mMet l y_M_same c_M_same 3 (some .int) 1 0 0 [vR (some o), vI r, vI q] w (fun v w' => v = some (vI (if isRg r = true ∧ isRg q = true then (if aJ w (ad 101) (rN r) = aJ w (ad 101) (rN q) then 1 else 0) else -1)) ∧ w = w') := by
  refine mMet.of (by decide) (Nat.le_of_ble_eq_true rfl) ?_
  intro p e s m args below meth c D dA A X
  show mV p l e (mRm 1 0 0) s m args below meth c D dA A 3 w 0 0 _ 0 [(0, vR (some o)), (1, vI r), (2, vI q)] []
  refine mv_iload_n X 1 d_M_same_0 rfl ?_
  refine mv_calls X [vI r] [] (k_M_isRegister l w r) d_M_same_1 cs_M_137 ⟨Nat.le_of_ble_eq_true rfl, Nat.le_of_ble_eq_true rfl⟩ ⟨Nat.le_of_ble_eq_true rfl, Nat.le_of_ble_eq_true rfl⟩ rfl (Nat.le_of_ble_eq_true rfl) (fun v1 w1 hp1 => ?_)
  obtain ⟨rfl, rfl⟩ := hp1
  refine mv_if_eq (tgt := 14) X d_M_same_4 (by decide) (fun h4 => ?_) (fun h4 => ?_)
  · refine mv_iconst (v := (-1)) X d_M_same_14 (by decide) ?_
    refine mv_goto (tgt := 39) X d_M_same_15 (by decide) ?_
    exact mv_ret_i (Post := _) X d_M_same_39 rfl rfl (Nat.le_of_ble_eq_true rfl) (Nat.le_of_ble_eq_true rfl) (by refine ⟨?_, rfl⟩; rw [if_neg (fun z => bI_nt h4 z.1)])
  · refine mv_iload_n X 2 d_M_same_7 rfl ?_
    refine mv_calls X [vI q] [] (k_M_isRegister l w q) d_M_same_8 cs_M_137 ⟨Nat.le_of_ble_eq_true rfl, Nat.le_of_ble_eq_true rfl⟩ ⟨Nat.le_of_ble_eq_true rfl, Nat.le_of_ble_eq_true rfl⟩ rfl (Nat.le_of_ble_eq_true rfl) (fun v8 w8 hp8 => ?_)
    obtain ⟨rfl, rfl⟩ := hp8
    refine mv_if_ne (tgt := 18) X d_M_same_11 (by decide) (fun h11 => ?_) (fun h11 => ?_)
    · refine mv_aload_n X 0 d_M_same_18 rfl ?_
      refine mv_getr (w := w) X d_M_same_19 f_M_7 (mIs.one hM.1) hM.r101 ?_
      refine mv_iload_n X 1 d_M_same_22 rfl ?_
      refine mv_lald (x := aJ w (ad 101) (rN r)) X d_M_same_23 rfl rfl hM.k101 ((isRg_nI (bI_ne.mp h4)).1) ((isRg_nI (bI_ne.mp h4)).2) (by decide) rfl ?_
      refine mv_aload_n X 0 d_M_same_24 rfl ?_
      refine mv_getr (w := w) X d_M_same_25 f_M_7 (mIs.one hM.1) hM.r101 ?_
      refine mv_iload_n X 2 d_M_same_28 rfl ?_
      refine mv_lald (x := aJ w (ad 101) (rN q)) X d_M_same_29 rfl rfl hM.k101 ((isRg_nI (bI_ne.mp h11)).1) ((isRg_nI (bI_ne.mp h11)).2) (by decide) rfl ?_
      refine mv_lcmp X d_M_same_30 ?_
      refine mv_if_ne (tgt := 38) X d_M_same_31 (by decide) (fun h31 => ?_) (fun h31 => ?_)
      · refine mv_iconst (v := 0) X d_M_same_38 (by decide) ?_
        exact mv_ret_i (Post := _) X d_M_same_39 rfl rfl (Nat.le_of_ble_eq_true rfl) (Nat.le_of_ble_eq_true rfl) (by rw [lg_cmp_eq] at h31; refine ⟨?_, rfl⟩; rw [if_pos ⟨bI_ne.mp h4, bI_ne.mp h11⟩, if_neg h31])
      · refine mv_iconst (v := 1) X d_M_same_34 (by decide) ?_
        refine mv_goto (tgt := 39) X d_M_same_35 (by decide) ?_
        exact mv_ret_i (Post := _) X d_M_same_39 rfl rfl (Nat.le_of_ble_eq_true rfl) (Nat.le_of_ble_eq_true rfl) (by rw [lg_cmp_eq] at h31; refine ⟨?_, rfl⟩; rw [if_pos ⟨bI_ne.mp h4, bI_ne.mp h11⟩, if_pos h31])
    · refine mv_iconst (v := (-1)) X d_M_same_14 (by decide) ?_
      refine mv_goto (tgt := 39) X d_M_same_15 (by decide) ?_
      exact mv_ret_i (Post := _) X d_M_same_39 rfl rfl (Nat.le_of_ble_eq_true rfl) (Nat.le_of_ble_eq_true rfl) (by refine ⟨?_, rfl⟩; rw [if_neg (fun z => bI_nt h11 z.2)])
set_option maxRecDepth 100000 in
set_option maxHeartbeats 4000000 in
theorem k_M_count (l : Launch) (w : mW) (o : Nat) (ad : Nat → Nat) (hM : MS w o ad) (x : Int32) : mMet l y_M_count c_M_count 2 (some .int) 0 0 0 [vR (some o), vI x] w (fun v w' => v = some (vI (cntM w o x)) ∧ w = w') := by
  refine mMet.of (by decide) (Nat.le_of_ble_eq_true rfl) ?_
  intro p e s m args below meth c D dA A X
  show mV p l e (mRm 0 0 0) s m args below meth c D dA A 2 w 0 0 _ 0 [(0, vR (some o)), (1, vI x)] []
  refine mv_iload_n X 1 d_M_count_0 rfl ?_
  by_cases hs0 : x = 0
  · subst hs0
    refine mv_tabIn (tgt := 40) (off := 39) X d_M_count_1 (by decide) (by decide) (by decide) (by decide) ?_
    refine mv_aload_n X 0 d_M_count_40 rfl ?_
    refine mv_geti (w := w) X d_M_count_41 f_M_70 (mIs.one hM.1) rfl ?_
    exact mv_ret_i (Post := _) X d_M_count_44 rfl rfl (Nat.le_of_ble_eq_true rfl) (Nat.le_of_ble_eq_true rfl) (⟨rfl, rfl⟩)
  by_cases hs1 : x = 1
  · subst hs1
    refine mv_tabIn (tgt := 45) (off := 44) X d_M_count_1 (by decide) (by decide) (by decide) (by decide) ?_
    refine mv_aload_n X 0 d_M_count_45 rfl ?_
    refine mv_geti (w := w) X d_M_count_46 f_M_83 (mIs.one hM.1) rfl ?_
    exact mv_ret_i (Post := _) X d_M_count_49 rfl rfl (Nat.le_of_ble_eq_true rfl) (Nat.le_of_ble_eq_true rfl) (⟨rfl, rfl⟩)
  by_cases hs2 : x = 2
  · subst hs2
    refine mv_tabIn (tgt := 50) (off := 49) X d_M_count_1 (by decide) (by decide) (by decide) (by decide) ?_
    refine mv_aload_n X 0 d_M_count_50 rfl ?_
    refine mv_geti (w := w) X d_M_count_51 f_M_124 (mIs.one hM.1) rfl ?_
    exact mv_ret_i (Post := _) X d_M_count_54 rfl rfl (Nat.le_of_ble_eq_true rfl) (Nat.le_of_ble_eq_true rfl) (⟨rfl, rfl⟩)
  by_cases hs3 : x = 3
  · subst hs3
    refine mv_tabIn (tgt := 55) (off := 54) X d_M_count_1 (by decide) (by decide) (by decide) (by decide) ?_
    refine mv_aload_n X 0 d_M_count_55 rfl ?_
    refine mv_geti (w := w) X d_M_count_56 f_M_113 (mIs.one hM.1) rfl ?_
    exact mv_ret_i (Post := _) X d_M_count_59 rfl rfl (Nat.le_of_ble_eq_true rfl) (Nat.le_of_ble_eq_true rfl) (⟨rfl, rfl⟩)
  by_cases hs4 : x = 4
  · subst hs4
    refine mv_tabIn (tgt := 60) (off := 59) X d_M_count_1 (by decide) (by decide) (by decide) (by decide) ?_
    refine mv_aload_n X 0 d_M_count_60 rfl ?_
    refine mv_geti (w := w) X d_M_count_61 f_M_107 (mIs.one hM.1) rfl ?_
    exact mv_ret_i (Post := _) X d_M_count_64 rfl rfl (Nat.le_of_ble_eq_true rfl) (Nat.le_of_ble_eq_true rfl) (⟨rfl, rfl⟩)
  by_cases hs5 : x = 5
  · subst hs5
    refine mv_tabIn (tgt := 65) (off := 64) X d_M_count_1 (by decide) (by decide) (by decide) (by decide) ?_
    refine mv_aload_n X 0 d_M_count_65 rfl ?_
    refine mv_geti (w := w) X d_M_count_66 f_M_165 (mIs.one hM.1) rfl ?_
    exact mv_ret_i (Post := _) X d_M_count_69 rfl rfl (Nat.le_of_ble_eq_true rfl) (Nat.le_of_ble_eq_true rfl) (⟨rfl, rfl⟩)
  refine mv_tabOut (tgt := 70) X d_M_count_1 (sw_out (hi := 5) (by decide) (fun k hk => by rcases (show k = 0 ∨ k = 1 ∨ k = 2 ∨ k = 3 ∨ k = 4 ∨ k = 5 by omega) with rfl | rfl | rfl | rfl | rfl | rfl <;> assumption)) (by decide) ?_
  refine mv_iconst (v := (-1)) X d_M_count_70 (by decide) ?_
  exact mv_ret_i (Post := _) X d_M_count_71 rfl rfl (Nat.le_of_ble_eq_true rfl) (Nat.le_of_ble_eq_true rfl) (by refine ⟨?_, rfl⟩; unfold cntM; rw [if_neg hs0, if_neg hs1, if_neg hs2, if_neg hs3, if_neg hs4, if_neg hs5])
set_option maxRecDepth 100000 in
set_option maxHeartbeats 4000000 in
theorem k_M_register (l : Launch) (w : mW) (o : Nat) (ad : Nat → Nat) (hM : MS w o ad) (r q : Int32) (rg qn : Nat) (hrg : gI w 115 o = nI rg) (hqn : gI w 118 o = nI qn) (hsum : rg + qn ≤ 60) : mMet l y_M_register c_M_register 3 (some .boolean) 1 0 0 [vR (some o), vI r, vI q] w (fun v w' => if isRg r = true ∧ isRg q = true ∧ isOb (aJ w (ad 101) (rN r)) = true ∧ ¬ gI w 115 o + gI w 118 o = 60 then v = some (vI 1) ∧ w' = sI (xJ (xJ w (ad 116) rg (aJ w (ad 101) (rN r))) (ad 117) rg (aJ w (ad 101) (rN q))) 115 o (nI rg + 1) else v = some (vI 0) ∧ w = w') := by
  refine mMet.of (by decide) (Nat.le_of_ble_eq_true rfl) ?_
  intro p e s m args below meth c D dA A X
  show mV p l e (mRm 1 0 0) s m args below meth c D dA A 3 w 0 0 _ 0 [(0, vR (some o)), (1, vI r), (2, vI q)] []
  refine mv_iload_n X 1 d_M_register_0 rfl ?_
  refine mv_calls X [vI r] [] (k_M_isRegister l w r) d_M_register_1 cs_M_137 ⟨Nat.le_of_ble_eq_true rfl, Nat.le_of_ble_eq_true rfl⟩ ⟨Nat.le_of_ble_eq_true rfl, Nat.le_of_ble_eq_true rfl⟩ rfl (Nat.le_of_ble_eq_true rfl) (fun v1 w1 hp1 => ?_)
  obtain ⟨rfl, rfl⟩ := hp1
  refine mv_if_eq (tgt := 40) X d_M_register_4 (by decide) (fun h4 => ?_) (fun h4 => ?_)
  · refine mv_iconst (v := 0) X d_M_register_40 (by decide) ?_
    exact mv_ret_i (Post := _) X d_M_register_41 rfl (by rfl) (Nat.le_of_ble_eq_true rfl) (Nat.le_of_ble_eq_true rfl) (by rw [if_neg (fun z => bI_nt h4 z.1)]; exact ⟨rfl, rfl⟩)
  · refine mv_iload_n X 2 d_M_register_7 rfl ?_
    refine mv_calls X [vI q] [] (k_M_isRegister l w q) d_M_register_8 cs_M_137 ⟨Nat.le_of_ble_eq_true rfl, Nat.le_of_ble_eq_true rfl⟩ ⟨Nat.le_of_ble_eq_true rfl, Nat.le_of_ble_eq_true rfl⟩ rfl (Nat.le_of_ble_eq_true rfl) (fun v8 w8 hp8 => ?_)
    obtain ⟨rfl, rfl⟩ := hp8
    refine mv_if_eq (tgt := 40) X d_M_register_11 (by decide) (fun h11 => ?_) (fun h11 => ?_)
    · refine mv_iconst (v := 0) X d_M_register_40 (by decide) ?_
      exact mv_ret_i (Post := _) X d_M_register_41 rfl (by rfl) (Nat.le_of_ble_eq_true rfl) (Nat.le_of_ble_eq_true rfl) (by rw [if_neg (fun z => bI_nt h11 z.2.1)]; exact ⟨rfl, rfl⟩)
    · refine mv_aload_n X 0 d_M_register_14 rfl ?_
      refine mv_getr (w := w) X d_M_register_15 f_M_7 (mIs.one hM.1) hM.r101 ?_
      refine mv_iload_n X 1 d_M_register_18 rfl ?_
      refine mv_lald (x := aJ w (ad 101) (rN r)) X d_M_register_19 rfl rfl hM.k101 ((isRg_nI (bI_ne.mp h4)).1) ((isRg_nI (bI_ne.mp h4)).2) (by decide) rfl ?_
      refine mv_calls X [vJ (aJ w (ad 101) (rN r))] [] (k_M_isObject l w (aJ w (ad 101) (rN r))) d_M_register_20 cs_M_62 ⟨Nat.le_of_ble_eq_true rfl, Nat.le_of_ble_eq_true rfl⟩ ⟨Nat.le_of_ble_eq_true rfl, Nat.le_of_ble_eq_true rfl⟩ rfl (Nat.le_of_ble_eq_true rfl) (fun v20 w20 hp20 => ?_)
      obtain ⟨rfl, rfl⟩ := hp20
      refine mv_if_eq (tgt := 40) X d_M_register_23 (by decide) (fun h23 => ?_) (fun h23 => ?_)
      · refine mv_iconst (v := 0) X d_M_register_40 (by decide) ?_
        exact mv_ret_i (Post := _) X d_M_register_41 rfl (by rfl) (Nat.le_of_ble_eq_true rfl) (Nat.le_of_ble_eq_true rfl) (by rw [if_neg (fun z => bI_nt h23 z.2.2.1)]; exact ⟨rfl, rfl⟩)
      · refine mv_aload_n X 0 d_M_register_26 rfl ?_
        refine mv_geti (w := w) X d_M_register_27 f_M_107 (mIs.one hM.1) hrg ?_
        refine mv_aload_n X 0 d_M_register_30 rfl ?_
        refine mv_geti (w := w) X d_M_register_31 f_M_113 (mIs.one hM.1) hqn ?_
        refine mv_iadd X d_M_register_34 ?_
        refine mv_bipush (v := 60) X d_M_register_35 (by decide) ?_
        refine mv_icmp_ne (tgt := 42) X d_M_register_37 (by decide) (fun h37 => ?_) (fun h37 => ?_)
        · have hlt : rg < 60 := by
            have h9 : ¬ rg + qn = 60 := fun z => h37 (by rw [nI_add, z]; rfl)
            omega
          refine mv_aload_n X 0 d_M_register_42 rfl ?_
          refine mv_getr (w := w) X d_M_register_43 f_M_42 (mIs.one hM.1) hM.r116 ?_
          refine mv_aload_n X 0 d_M_register_46 rfl ?_
          refine mv_geti (w := w) X d_M_register_47 f_M_107 (mIs.one hM.1) hrg ?_
          refine mv_aload_n X 0 d_M_register_50 rfl ?_
          refine mv_getr (w := w) X d_M_register_51 f_M_7 (mIs.one hM.1) hM.r101 ?_
          refine mv_iload_n X 1 d_M_register_54 rfl ?_
          refine mv_lald (x := aJ w (ad 101) (rN r)) X d_M_register_55 rfl rfl hM.k101 ((isRg_nI (bI_ne.mp h4)).1) ((isRg_nI (bI_ne.mp h4)).2) (by decide) rfl ?_
          refine mv_last X d_M_register_56 rfl rfl hM.k116 rfl hlt (by decide) ?_
          refine mv_aload_n X 0 d_M_register_57 rfl ?_
          refine mv_getr (w := (xJ w (ad 116) rg (aJ w (ad 101) (rN r)))) X d_M_register_58 f_M_45 (mIs.one hM.1) hM.r117 ?_
          refine mv_aload_n X 0 d_M_register_61 rfl ?_
          refine mv_geti (w := (xJ w (ad 116) rg (aJ w (ad 101) (rN r)))) X d_M_register_62 f_M_107 (mIs.one hM.1) hrg ?_
          refine mv_aload_n X 0 d_M_register_65 rfl ?_
          refine mv_getr (w := (xJ w (ad 116) rg (aJ w (ad 101) (rN r)))) X d_M_register_66 f_M_7 (mIs.one hM.1) hM.r101 ?_
          refine mv_iload_n X 2 d_M_register_69 rfl ?_
          refine mv_lald (x := aJ w (ad 101) (rN q)) X d_M_register_70 rfl rfl hM.k101 ((isRg_nI (bI_ne.mp h11)).1) ((isRg_nI (bI_ne.mp h11)).2) (by decide) (aJ_xJ_ne _ _ _ _ (hM.ne (by decide) (by decide) (by decide))) ?_
          refine mv_last X d_M_register_71 rfl rfl hM.k117 rfl hlt (by decide) ?_
          refine mv_aload_n X 0 d_M_register_72 rfl ?_
          refine mv_aload_n X 0 d_M_register_73 rfl ?_
          refine mv_geti (w := (xJ (xJ w (ad 116) rg (aJ w (ad 101) (rN r))) (ad 117) rg (aJ w (ad 101) (rN q)))) X d_M_register_74 f_M_107 (mIs.one hM.1) hrg ?_
          refine mv_iconst (v := 1) X d_M_register_77 (by decide) ?_
          refine mv_iadd X d_M_register_78 ?_
          refine mv_puti X d_M_register_79 f_M_107 (mIs.one hM.1) rfl rfl ?_
          refine mv_iconst (v := 1) X d_M_register_82 (by decide) ?_
          exact mv_ret_i (Post := _) X d_M_register_83 rfl (by rfl) (Nat.le_of_ble_eq_true rfl) (Nat.le_of_ble_eq_true rfl) (by rw [if_pos ⟨bI_ne.mp h4, bI_ne.mp h11, bI_ne.mp h23, by rw [hrg, hqn]; exact h37⟩]; exact ⟨rfl, rfl⟩)
        · refine mv_iconst (v := 0) X d_M_register_40 (by decide) ?_
          exact mv_ret_i (Post := _) X d_M_register_41 rfl (by rfl) (Nat.le_of_ble_eq_true rfl) (Nat.le_of_ble_eq_true rfl) (by rw [if_neg (fun z => z.2.2.2 (by rw [hrg, hqn]; exact h37))]; exact ⟨rfl, rfl⟩)
end
section

def ob (i : Nat) : Int64 := 25769803776 ||| Int32.toInt64 (nI i)
theorem ob_all : ∀ i, i < 1700 → (ob i).toInt32 = nI i ∧ isOb (ob i) = true ∧ ¬ ob i = -1 := by decide +kernel
theorem lt_many {kk n : Nat} {p : Prop} (d : Decidable p) (hk : kk < 2 ^ 31) (hn : n < 2 ^ 31) (h : nI kk < (if p then 0 else nI n)) : ¬ p ∧ kk < n := by
  by_cases hp : p
  · rw [if_pos hp] at h
    exact absurd h (nI_pos hk)
  · rw [if_neg hp] at h
    exact ⟨hp, (nI_ltI hk hn).mp h⟩
/-- the queue moves up by one, n places of it -/
def qs (w : mW) (ad : Nat → Nat) : Nat → mW
  | 0 => w
  | n + 1 => xJ (xJ (qs w ad n) (ad 119) n (aJ (qs w ad n) (ad 119) (n + 1))) (ad 120) n (aJ (qs w ad n) (ad 120) (n + 1))
theorem qs_K (w : mW) (ad : Nat → Nat) (n : Nat) : gK (qs w ad n) = gK w := by
  induction n with
  | zero => rfl
  | succ n ih => exact ih
theorem qs_R (w : mW) (ad : Nat → Nat) (n : Nat) : gR (qs w ad n) = gR w := by
  induction n with
  | zero => rfl
  | succ n ih => exact ih
theorem qs_I (w : mW) (ad : Nat → Nat) (n : Nat) : gI (qs w ad n) = gI w := by
  induction n with
  | zero => rfl
  | succ n ih => exact ih
theorem MS.to {w w' : mW} {o : Nat} {ad : Nat → Nat} (h : MS w o ad) (hK : gK w' = gK w) (hR : gR w' = gR w) : MS w' o ad := by
  unfold MS at h ⊢
  rw [hK, hR]
  exact h
set_option maxRecDepth 100000 in
set_option maxHeartbeats 4000000 in
theorem k_M_get (l : Launch) (w : mW) (o : Nat) (ad : Nat → Nat) (hM : MS w o ad) (r q k : Int32) (j : Nat) (Lc : List Nat) (hLc : Lc.length < 2 ^ 31) (hj : isRg q = true → isOb (aJ w (ad 101) (rN q)) = true → ((aJ w (ad 101) (rN q)).toInt32 = nI j ∧ j < 1700) ∧ lkI (aI w (ad 113)) 5100 (aI w (ad 106) j) Lc ∧ aI w (ad 105) j = nI Lc.length) : mMet l y_M_get c_M_get 4 (some .boolean) 2 0 0 [vR (some o), vI r, vI q, vI k] w (fun v w' => if isRg r = true ∧ isRg q = true ∧ isOb (aJ w (ad 101) (rN q)) = true ∧ ¬ k < 0 ∧ k < (if aI w (ad 104) j = 4 then 0 else aI w (ad 105) j) then v = some (vI 1) ∧ w' = xJ w (ad 101) (rN r) (aJ w (ad 112) ((Lc[rN k]?).getD 0)) else v = some (vI 0) ∧ w = w') := by
  refine mMet.of (by decide) (Nat.le_of_ble_eq_true rfl) ?_
  intro p e s m args below meth c D dA A X
  show mV p l e (mRm 2 0 0) s m args below meth c D dA A 4 w 0 0 _ 0 [(0, vR (some o)), (1, vI r), (2, vI q), (3, vI k)] []
  refine mv_iload_n X 1 d_M_get_0 rfl ?_
  refine mv_calls X [vI r] [] (k_M_isRegister l w r) d_M_get_1 cs_M_137 ⟨Nat.le_of_ble_eq_true rfl, Nat.le_of_ble_eq_true rfl⟩ ⟨Nat.le_of_ble_eq_true rfl, Nat.le_of_ble_eq_true rfl⟩ rfl (Nat.le_of_ble_eq_true rfl) (fun v1 w1 hp1 => ?_)
  obtain ⟨rfl, rfl⟩ := hp1
  refine mv_if_eq (tgt := 44) X d_M_get_4 (by decide) (fun h4 => ?_) (fun h4 => ?_)
  · refine mv_iconst (v := 0) X d_M_get_44 (by decide) ?_
    exact mv_ret_i (Post := _) X d_M_get_45 rfl (by rfl) (Nat.le_of_ble_eq_true rfl) (Nat.le_of_ble_eq_true rfl) (by rw [if_neg (fun z => bI_nt h4 z.1)]; exact ⟨rfl, rfl⟩)
  · refine mv_iload_n X 2 d_M_get_7 rfl ?_
    refine mv_calls X [vI q] [] (k_M_isRegister l w q) d_M_get_8 cs_M_137 ⟨Nat.le_of_ble_eq_true rfl, Nat.le_of_ble_eq_true rfl⟩ ⟨Nat.le_of_ble_eq_true rfl, Nat.le_of_ble_eq_true rfl⟩ rfl (Nat.le_of_ble_eq_true rfl) (fun v8 w8 hp8 => ?_)
    obtain ⟨rfl, rfl⟩ := hp8
    refine mv_if_eq (tgt := 44) X d_M_get_11 (by decide) (fun h11 => ?_) (fun h11 => ?_)
    · refine mv_iconst (v := 0) X d_M_get_44 (by decide) ?_
      exact mv_ret_i (Post := _) X d_M_get_45 rfl (by rfl) (Nat.le_of_ble_eq_true rfl) (Nat.le_of_ble_eq_true rfl) (by rw [if_neg (fun z => bI_nt h11 z.2.1)]; exact ⟨rfl, rfl⟩)
    · refine mv_aload_n X 0 d_M_get_14 rfl ?_
      refine mv_getr (w := w) X d_M_get_15 f_M_7 (mIs.one hM.1) hM.r101 ?_
      refine mv_iload_n X 2 d_M_get_18 rfl ?_
      refine mv_lald (x := aJ w (ad 101) (rN q)) X d_M_get_19 rfl rfl hM.k101 ((isRg_nI (bI_ne.mp h11)).1) ((isRg_nI (bI_ne.mp h11)).2) (by decide) rfl ?_
      refine mv_calls X [vJ (aJ w (ad 101) (rN q))] [] (k_M_isObject l w (aJ w (ad 101) (rN q))) d_M_get_20 cs_M_62 ⟨Nat.le_of_ble_eq_true rfl, Nat.le_of_ble_eq_true rfl⟩ ⟨Nat.le_of_ble_eq_true rfl, Nat.le_of_ble_eq_true rfl⟩ rfl (Nat.le_of_ble_eq_true rfl) (fun v20 w20 hp20 => ?_)
      obtain ⟨rfl, rfl⟩ := hp20
      refine mv_if_eq (tgt := 44) X d_M_get_23 (by decide) (fun h23 => ?_) (fun h23 => ?_)
      · refine mv_iconst (v := 0) X d_M_get_44 (by decide) ?_
        exact mv_ret_i (Post := _) X d_M_get_45 rfl (by rfl) (Nat.le_of_ble_eq_true rfl) (Nat.le_of_ble_eq_true rfl) (by rw [if_neg (fun z => bI_nt h23 z.2.2.1)]; exact ⟨rfl, rfl⟩)
      · obtain ⟨hj1, hch, hmy⟩ := hj (bI_ne.mp h11) (bI_ne.mp h23)
        refine mv_iload_n X 3 d_M_get_26 rfl ?_
        refine mv_if_lt (tgt := 44) X d_M_get_27 (by decide) (fun h27 => ?_) (fun h27 => ?_)
        · refine mv_iconst (v := 0) X d_M_get_44 (by decide) ?_
          exact mv_ret_i (Post := _) X d_M_get_45 rfl (by rfl) (Nat.le_of_ble_eq_true rfl) (Nat.le_of_ble_eq_true rfl) (by rw [if_neg (fun z => z.2.2.2.1 h27)]; exact ⟨rfl, rfl⟩)
        · obtain ⟨kk, hkk, rfl⟩ := nI_of h27
          refine mv_iload_n X 3 d_M_get_30 rfl ?_
          refine mv_aload_n X 0 d_M_get_31 rfl ?_
          refine mv_aload_n X 0 d_M_get_32 rfl ?_
          refine mv_getr (w := w) X d_M_get_33 f_M_7 (mIs.one hM.1) hM.r101 ?_
          refine mv_iload_n X 2 d_M_get_36 rfl ?_
          refine mv_lald (x := aJ w (ad 101) (rN q)) X d_M_get_37 rfl rfl hM.k101 ((isRg_nI (bI_ne.mp h11)).1) ((isRg_nI (bI_ne.mp h11)).2) (by decide) rfl ?_
          refine mv_callv X [vJ (aJ w (ad 101) (rN q))] [vI (nI kk)] (k_M_shown l w o ad hM (aJ w (ad 101) (rN q)) j hj1) d_M_get_38 cv_M_150 hM.1 ⟨Nat.le_of_ble_eq_true rfl, Nat.le_of_ble_eq_true rfl⟩ ⟨Nat.le_of_ble_eq_true rfl, Nat.le_of_ble_eq_true rfl⟩ rfl (Nat.le_of_ble_eq_true rfl) (fun v38 w38 hp38 => ?_)
          obtain ⟨rfl, rfl⟩ := hp38
          refine mv_icmp_lt (tgt := 46) X d_M_get_41 (by decide) (fun h41 => ?_) (fun h41 => ?_)
          · have h41b := h41
            rw [hmy] at h41b
            obtain ⟨hk4, hlt⟩ := lt_many _ hkk hLc h41b
            refine mv_aload_n X 0 d_M_get_46 rfl ?_
            refine mv_getr (w := w) X d_M_get_47 f_M_7 (mIs.one hM.1) hM.r101 ?_
            refine mv_iload_n X 1 d_M_get_50 rfl ?_
            refine mv_aload_n X 0 d_M_get_51 rfl ?_
            refine mv_aload_n X 0 d_M_get_52 rfl ?_
            refine mv_getr (w := w) X d_M_get_53 f_M_7 (mIs.one hM.1) hM.r101 ?_
            refine mv_iload_n X 2 d_M_get_56 rfl ?_
            refine mv_lald (x := aJ w (ad 101) (rN q)) X d_M_get_57 rfl rfl hM.k101 ((isRg_nI (bI_ne.mp h11)).1) ((isRg_nI (bI_ne.mp h11)).2) (by decide) rfl ?_
            refine mv_iload_n X 3 d_M_get_58 rfl ?_
            refine mv_callv X [vJ (aJ w (ad 101) (rN q)), vI (nI kk)] [vI r, vR (some (ad 101))] (k_M_field l w o ad hM (aJ w (ad 101) (rN q)) j kk hj1 Lc hch hlt hkk) d_M_get_59 cv_M_98 hM.1 ⟨Nat.le_of_ble_eq_true rfl, Nat.le_of_ble_eq_true rfl⟩ ⟨Nat.le_of_ble_eq_true rfl, Nat.le_of_ble_eq_true rfl⟩ rfl (Nat.le_of_ble_eq_true rfl) (fun v59 w59 hp59 => ?_)
            obtain ⟨rfl, rfl⟩ := hp59
            refine mv_last X d_M_get_62 rfl rfl hM.k101 ((isRg_nI (bI_ne.mp h4)).1) ((isRg_nI (bI_ne.mp h4)).2) (by decide) ?_
            refine mv_iconst (v := 1) X d_M_get_63 (by decide) ?_
            exact mv_ret_i (Post := _) X d_M_get_64 rfl (by rfl) (Nat.le_of_ble_eq_true rfl) (Nat.le_of_ble_eq_true rfl) (by rw [if_pos ⟨bI_ne.mp h4, bI_ne.mp h11, bI_ne.mp h23, h27, h41⟩]; rw [show rN (nI kk) = kk from nI_clamp hkk]; exact ⟨rfl, rfl⟩)
          · refine mv_iconst (v := 0) X d_M_get_44 (by decide) ?_
            exact mv_ret_i (Post := _) X d_M_get_45 rfl (by rfl) (Nat.le_of_ble_eq_true rfl) (Nat.le_of_ble_eq_true rfl) (by rw [if_neg (fun z => h41 z.2.2.2.2)]; exact ⟨rfl, rfl⟩)
set_option maxRecDepth 100000 in
set_option maxHeartbeats 4000000 in
theorem k_M_next (l : Launch) (w : mW) (o : Nat) (ad : Nat → Nat) (hM : MS w o ad) (r q : Int32) (qn : Nat) (hqn : gI w 118 o = nI qn) (hq60 : qn ≤ 60) : mMet l y_M_next c_M_next 4 (some .boolean) 1 0 0 [vR (some o), vI r, vI q] w (fun v w' => if ¬ gI w 118 o = 0 ∧ isRg r = true ∧ isRg q = true ∧ ¬ r = q then v = some (vI 1) ∧ w' = qs (sI (xJ (xJ w (ad 101) (rN r) (aJ w (ad 119) 0)) (ad 101) (rN q) (aJ w (ad 120) 0)) 118 o (nI qn - 1)) ad (qn - 1) else v = some (vI 0) ∧ w = w') := by
  refine mMet.of (by decide) (Nat.le_of_ble_eq_true rfl) ?_
  intro p e s m args below meth c D dA A X
  show mV p l e (mRm 1 0 0) s m args below meth c D dA A 4 w 0 0 _ 0 [(0, vR (some o)), (1, vI r), (2, vI q)] []
  refine mv_aload_n X 0 d_M_next_0 rfl ?_
  refine mv_geti (w := w) X d_M_next_1 f_M_113 (mIs.one hM.1) hqn ?_
  refine mv_if_eq (tgt := 26) X d_M_next_4 (by decide) (fun h4 => ?_) (fun h4 => ?_)
  · refine mv_iconst (v := 0) X d_M_next_26 (by decide) ?_
    exact mv_ret_i (Post := _) X d_M_next_27 rfl (by rfl) (Nat.le_of_ble_eq_true rfl) (Nat.le_of_ble_eq_true rfl) (by rw [if_neg (fun z => z.1 (by rw [hqn]; exact h4))]; exact ⟨rfl, rfl⟩)
  · have hq0 : 0 < qn := by
      rcases Nat.eq_zero_or_pos qn with z | z
      · subst z; exact absurd rfl h4
      · exact z
    refine mv_iload_n X 1 d_M_next_7 rfl ?_
    refine mv_calls X [vI r] [] (k_M_isRegister l w r) d_M_next_8 cs_M_137 ⟨Nat.le_of_ble_eq_true rfl, Nat.le_of_ble_eq_true rfl⟩ ⟨Nat.le_of_ble_eq_true rfl, Nat.le_of_ble_eq_true rfl⟩ rfl (Nat.le_of_ble_eq_true rfl) (fun v8 w8 hp8 => ?_)
    obtain ⟨rfl, rfl⟩ := hp8
    refine mv_if_eq (tgt := 26) X d_M_next_11 (by decide) (fun h11 => ?_) (fun h11 => ?_)
    · refine mv_iconst (v := 0) X d_M_next_26 (by decide) ?_
      exact mv_ret_i (Post := _) X d_M_next_27 rfl (by rfl) (Nat.le_of_ble_eq_true rfl) (Nat.le_of_ble_eq_true rfl) (by rw [if_neg (fun z => bI_nt h11 z.2.1)]; exact ⟨rfl, rfl⟩)
    · refine mv_iload_n X 2 d_M_next_14 rfl ?_
      refine mv_calls X [vI q] [] (k_M_isRegister l w q) d_M_next_15 cs_M_137 ⟨Nat.le_of_ble_eq_true rfl, Nat.le_of_ble_eq_true rfl⟩ ⟨Nat.le_of_ble_eq_true rfl, Nat.le_of_ble_eq_true rfl⟩ rfl (Nat.le_of_ble_eq_true rfl) (fun v15 w15 hp15 => ?_)
      obtain ⟨rfl, rfl⟩ := hp15
      refine mv_if_eq (tgt := 26) X d_M_next_18 (by decide) (fun h18 => ?_) (fun h18 => ?_)
      · refine mv_iconst (v := 0) X d_M_next_26 (by decide) ?_
        exact mv_ret_i (Post := _) X d_M_next_27 rfl (by rfl) (Nat.le_of_ble_eq_true rfl) (Nat.le_of_ble_eq_true rfl) (by rw [if_neg (fun z => bI_nt h18 z.2.2.1)]; exact ⟨rfl, rfl⟩)
      · refine mv_iload_n X 1 d_M_next_21 rfl ?_
        refine mv_iload_n X 2 d_M_next_22 rfl ?_
        refine mv_icmp_ne (tgt := 28) X d_M_next_23 (by decide) (fun h23 => ?_) (fun h23 => ?_)
        · refine mv_aload_n X 0 d_M_next_28 rfl ?_
          refine mv_getr (w := w) X d_M_next_29 f_M_7 (mIs.one hM.1) hM.r101 ?_
          refine mv_iload_n X 1 d_M_next_32 rfl ?_
          refine mv_aload_n X 0 d_M_next_33 rfl ?_
          refine mv_getr (w := w) X d_M_next_34 f_M_48 (mIs.one hM.1) hM.r119 ?_
          refine mv_iconst (v := 0) X d_M_next_37 (by decide) ?_
          refine mv_lald (x := aJ w (ad 119) 0) X d_M_next_38 rfl rfl hM.k119 rfl (by decide) (by decide) rfl ?_
          refine mv_last X d_M_next_39 rfl rfl hM.k101 ((isRg_nI (bI_ne.mp h11)).1) ((isRg_nI (bI_ne.mp h11)).2) (by decide) ?_
          refine mv_aload_n X 0 d_M_next_40 rfl ?_
          refine mv_getr (w := (xJ w (ad 101) (rN r) (aJ w (ad 119) 0))) X d_M_next_41 f_M_7 (mIs.one hM.1) hM.r101 ?_
          refine mv_iload_n X 2 d_M_next_44 rfl ?_
          refine mv_aload_n X 0 d_M_next_45 rfl ?_
          refine mv_getr (w := (xJ w (ad 101) (rN r) (aJ w (ad 119) 0))) X d_M_next_46 f_M_51 (mIs.one hM.1) hM.r120 ?_
          refine mv_iconst (v := 0) X d_M_next_49 (by decide) ?_
          refine mv_lald (x := aJ w (ad 120) 0) X d_M_next_50 rfl rfl hM.k120 rfl (by decide) (by decide) (aJ_xJ_ne _ _ _ _ (hM.ne (by decide) (by decide) (by decide))) ?_
          refine mv_last X d_M_next_51 rfl rfl hM.k101 ((isRg_nI (bI_ne.mp h18)).1) ((isRg_nI (bI_ne.mp h18)).2) (by decide) ?_
          refine mv_aload_n X 0 d_M_next_52 rfl ?_
          refine mv_aload_n X 0 d_M_next_53 rfl ?_
          refine mv_geti (w := (xJ (xJ w (ad 101) (rN r) (aJ w (ad 119) 0)) (ad 101) (rN q) (aJ w (ad 120) 0))) X d_M_next_54 f_M_113 (mIs.one hM.1) hqn ?_
          refine mv_iconst (v := 1) X d_M_next_57 (by decide) ?_
          refine mv_isub X d_M_next_58 ?_
          refine mv_puti X d_M_next_59 f_M_113 (mIs.one hM.1) rfl rfl ?_
          refine mv_iconst (v := 0) X d_M_next_62 (by decide) ?_
          refine mv_istore_n (lv' := [(3, vI 0), (0, vR (some o)), (1, vI r), (2, vI q)]) X d_M_next_63 (by decide) rfl ?_
          have hW1 : gI (sI (xJ (xJ w (ad 101) (rN r) (aJ w (ad 119) 0)) (ad 101) (rN q) (aJ w (ad 120) 0)) 118 o (nI qn - 1)) 118 o = nI (qn - 1) := by rw [gI_sI_eq]; obtain ⟨u, rfl⟩ : ∃ u, qn = u + 1 := ⟨qn - 1, by omega⟩; exact nI_pred u
          have hM1 : MS (sI (xJ (xJ w (ad 101) (rN r) (aJ w (ad 119) 0)) (ad 101) (rN q) (aJ w (ad 120) 0)) 118 o (nI qn - 1)) o ad := hM.to rfl rfl
          generalize hWe : sI (xJ (xJ w (ad 101) (rN r) (aJ w (ad 119) 0)) (ad 101) (rN q) (aJ w (ad 120) 0)) 118 o (nI qn - 1) = W1 at hW1 hM1 ⊢
          have key : ∀ (n i : Nat), n + i = qn - 1 → mV p l e (mRm 1 0 0) s m args below meth c D dA A 4 (qs W1 ad i) 0 0 (MQ below (mQ D dA A (fun v w' => v = some (vI 1) ∧ w' = qs W1 ad (qn - 1))) args s 0 0 A) 64 [(3, vI (nI i)), (0, vR (some o)), (1, vI r), (2, vI q)] [] := by
            intro n
            induction n with
            | zero =>
              intro i hn
              have hM2 : MS (qs W1 ad i) o ad := hM1.to (qs_K _ _ _) (qs_R _ _ _)
              have hq2 : gI (qs W1 ad i) 118 o = nI (qn - 1) := by rw [qs_I]; exact hW1
              refine mv_iload_n X 0 d_M_next_64 rfl ?_
              refine mv_aload_n X 1 d_M_next_65 rfl ?_
              refine mv_geti (w := (qs W1 ad i)) X d_M_next_66 f_M_113 (mIs.one hM2.1) hq2 ?_
              refine mv_icmp_ge (tgt := 106) X d_M_next_69 (by decide) (fun h69 => ?_) (fun h69 => ?_)
              · refine mv_iconst (v := 1) X d_M_next_106 (by decide) ?_
                exact mv_ret_i (Post := _) X d_M_next_107 rfl (by rfl) (Nat.le_of_ble_eq_true rfl) (Nat.le_of_ble_eq_true rfl) (⟨rfl, by rw [show i = qn - 1 by omega]⟩)
              · exact absurd (nI_le (show qn - 1 ≤ i by omega) (by omega)) h69
            | succ n ih =>
              intro i hn
              have hM2 : MS (qs W1 ad i) o ad := hM1.to (qs_K _ _ _) (qs_R _ _ _)
              have hq2 : gI (qs W1 ad i) 118 o = nI (qn - 1) := by rw [qs_I]; exact hW1
              refine mv_iload_n X 0 d_M_next_64 rfl ?_
              refine mv_aload_n X 1 d_M_next_65 rfl ?_
              refine mv_geti (w := (qs W1 ad i)) X d_M_next_66 f_M_113 (mIs.one hM2.1) hq2 ?_
              refine mv_icmp_ge (tgt := 106) X d_M_next_69 (by decide) (fun h69 => ?_) (fun h69 => ?_)
              · exact absurd h69 (nI_ge (show i < qn - 1 by omega) (by omega))
              · refine mv_aload_n X 1 d_M_next_72 rfl ?_
                refine mv_getr (w := (qs W1 ad i)) X d_M_next_73 f_M_48 (mIs.one hM2.1) hM2.r119 ?_
                refine mv_iload_n X 0 d_M_next_76 rfl ?_
                refine mv_aload_n X 1 d_M_next_77 rfl ?_
                refine mv_getr (w := (qs W1 ad i)) X d_M_next_78 f_M_48 (mIs.one hM2.1) hM2.r119 ?_
                refine mv_iload_n X 0 d_M_next_81 rfl ?_
                refine mv_iconst (v := 1) X d_M_next_82 (by decide) ?_
                refine mv_iadd X d_M_next_83 ?_
                refine mv_lald (x := aJ (qs W1 ad i) (ad 119) (i + 1)) X d_M_next_84 rfl rfl hM2.k119 (nI_1 i) (by omega) (by decide) rfl ?_
                refine mv_last X d_M_next_85 rfl rfl hM2.k119 rfl (by omega) (by decide) ?_
                refine mv_aload_n X 1 d_M_next_86 rfl ?_
                refine mv_getr (w := (xJ (qs W1 ad i) (ad 119) i (aJ (qs W1 ad i) (ad 119) (i + 1)))) X d_M_next_87 f_M_51 (mIs.one hM2.1) hM2.r120 ?_
                refine mv_iload_n X 0 d_M_next_90 rfl ?_
                refine mv_aload_n X 1 d_M_next_91 rfl ?_
                refine mv_getr (w := (xJ (qs W1 ad i) (ad 119) i (aJ (qs W1 ad i) (ad 119) (i + 1)))) X d_M_next_92 f_M_51 (mIs.one hM2.1) hM2.r120 ?_
                refine mv_iload_n X 0 d_M_next_95 rfl ?_
                refine mv_iconst (v := 1) X d_M_next_96 (by decide) ?_
                refine mv_iadd X d_M_next_97 ?_
                refine mv_lald (x := aJ (qs W1 ad i) (ad 120) (i + 1)) X d_M_next_98 rfl rfl hM2.k120 (nI_1 i) (by omega) (by decide) (aJ_xJ_ne _ _ _ _ (hM.ne (by decide) (by decide) (by decide))) ?_
                refine mv_last X d_M_next_99 rfl rfl hM2.k120 rfl (by omega) (by decide) ?_
                refine mv_iinc (v := nI (i + 1)) (lv' := [(3, vI (nI (i + 1))), (0, vR (some o)), (1, vI r), (2, vI q)]) X 0 d_M_next_100 rfl (nI_1 i) (by decide) rfl ?_
                refine mv_goto (tgt := 64) X d_M_next_103 (by decide) ?_
                exact ih (i + 1) (by omega)
          have h0 := key (qn - 1) 0 (by omega)
          have hPe : (fun (v : Option tV) w' => v = some (vI 1) ∧ w' = qs W1 ad (qn - 1)) = (fun v w' => if ¬ gI w 118 o = 0 ∧ isRg r = true ∧ isRg q = true ∧ ¬ r = q then v = some (vI 1) ∧ w' = qs (W1) ad (qn - 1) else v = some (vI 0) ∧ w = w') := by
            funext v w'
            rw [if_pos ⟨by rw [hqn]; exact h4, bI_ne.mp h11, bI_ne.mp h18, h23⟩]
          rw [hPe] at h0
          exact h0
        · refine mv_iconst (v := 0) X d_M_next_26 (by decide) ?_
          exact mv_ret_i (Post := _) X d_M_next_27 rfl (by rfl) (Nat.le_of_ble_eq_true rfl) (Nat.le_of_ble_eq_true rfl) (by rw [if_neg (fun z => z.2.2.2 h23)]; exact ⟨rfl, rfl⟩)
end
section

/-- value k of the object i -/
def fv (w : mW) (ad : Nat → Nat) (Ch : Nat → List Nat) (i k : Nat) : Int64 := aJ w (ad 112) (((Ch i)[k]?).getD 0)
/-- the cells of the object i -/
def hC (w : mW) (ad : Nat → Nat) (Ch : Nat → List Nat) (i : Nat) : Prop := i < 1700 ∧ lkI (aI w (ad 113)) 5100 (aI w (ad 106) i) (Ch i)
theorem k_M_fieldO (l : Launch) (w : mW) (o : Nat) (ad : Nat → Nat) (hM : MS w o ad) (Ch : Nat → List Nat) (i k : Nat) (hi : hC w ad Ch i) (hlt : k < (Ch i).length) (hk : k < 2 ^ 31) : mMet l y_M_field c_M_field 4 (some .long) 1 0 0 [vR (some o), vJ (ob i), vI (nI k)] w (fun v w' => v = some (vJ (fv w ad Ch i k)) ∧ w = w') :=
  k_M_field l w o ad hM (ob i) i k ⟨(ob_all i hi.1).1, hi.1⟩ (Ch i) hi.2 hlt hk
theorem k_M_setFieldO (l : Launch) (w : mW) (o : Nat) (ad : Nat → Nat) (hM : MS w o ad) (Ch : Nat → List Nat) (i k : Nat) (hi : hC w ad Ch i) (hlt : k < (Ch i).length) (hk : k < 2 ^ 31) (y : Int64) : mMet l y_M_setField c_M_setField 6 none 1 0 0 [vR (some o), vJ (ob i), vI (nI k), vJ y] w (fun v w' => v = none ∧ w' = xJ w (ad 112) (((Ch i)[k]?).getD 0) y) :=
  k_M_setField l w o ad hM (ob i) i k ⟨(ob_all i hi.1).1, hi.1⟩ (Ch i) hi.2 hlt hk y
/-- a table's entries -/
def lkE (w : mW) (ad : Nat → Nat) (Ch : Nat → List Nat) : Int64 → List Nat → Prop
  | v, [] => v = -1
  | v, e :: L => v = ob e ∧ hC w ad Ch e ∧ (Ch e).length = 3 ∧ lkE w ad Ch (fv w ad Ch e 2) L
def enF (w : mW) (ad : Nat → Nat) (Ch : Nat → List Nat) (key : Int64) : List Nat → Int64
  | [] => -1
  | e :: L => if fv w ad Ch e 0 = key then ob e else enF w ad Ch key L
theorem lgn {x y : Int64} (h : ¬ x = y) : ¬ lg_cmp x y = 0 := fun q => h ((lg_cmp_eq x y).mp q)
theorem lgy {x y : Int64} (h : x = y) : lg_cmp x y = 0 := (lg_cmp_eq x y).mpr h
set_option maxRecDepth 100000 in
set_option maxHeartbeats 4000000 in
theorem k_M_entryOf (l : Launch) (w : mW) (o : Nat) (ad : Nat → Nat) (hM : MS w o ad) (Ch : Nat → List Nat) (t : Nat) (ht : hC w ad Ch t) (ht1 : 0 < (Ch t).length) (L : List Nat) (hL : lkE w ad Ch (fv w ad Ch t 0) L) (y : Int64) : mMet l y_M_entryOf c_M_entryOf 7 (some .long) 2 0 0 [vR (some o), vJ (ob t), vJ y] w (fun v w' => v = some (vJ (enF w ad Ch y L)) ∧ w = w') := by
  refine mMet.of (by decide) (Nat.le_of_ble_eq_true rfl) ?_
  intro p e s m args below meth c D dA A X
  show mV p l e (mRm 2 0 0) s m args below meth c D dA A 7 w 0 0 _ 0 [(0, vR (some o)), (1, vJ (ob t)), (3, vJ y)] []
  refine mv_aload_n X 0 d_M_entryOf_0 rfl ?_
  refine mv_lload_n X 1 d_M_entryOf_1 rfl ?_
  refine mv_iconst (v := 0) X d_M_entryOf_2 (by decide) ?_
  refine mv_callv X [vJ (ob t), vI 0] [] (k_M_fieldO l w o ad hM Ch t 0 ht (by omega) (by decide)) d_M_entryOf_3 cv_M_98 hM.1 ⟨Nat.le_of_ble_eq_true rfl, Nat.le_of_ble_eq_true rfl⟩ ⟨Nat.le_of_ble_eq_true rfl, Nat.le_of_ble_eq_true rfl⟩ rfl (Nat.le_of_ble_eq_true rfl) (fun v3 w3 hp3 => ?_)
  obtain ⟨rfl, rfl⟩ := hp3
  refine mv_lstore (lv' := [(5, vJ (fv w ad Ch t 0)), (0, vR (some o)), (1, vJ (ob t)), (3, vJ y)]) X d_M_entryOf_6 (by decide) rfl ?_
  have key : ∀ (L : List Nat) (x : Int64), lkE w ad Ch x L → mV p l e (mRm 2 0 0) s m args below meth c D dA A 7 w 0 0 (MQ below (mQ D dA A (fun v w' => v = some (vJ (enF w ad Ch y L)) ∧ w = w')) args s 0 0 A) 8 [(5, vJ x), (0, vR (some o)), (1, vJ (ob t)), (3, vJ y)] [] := by
    intro L
    induction L with
    | nil =>
      intro x hx
      have hx : x = -1 := hx
      subst hx
      refine mv_lload X 0 d_M_entryOf_8 rfl ?_
      refine mv_ldc2 (v := (-1)) X d_M_entryOf_10 (mA (by decide +kernel) (by decide +kernel)) ?_
      refine mv_lcmp X d_M_entryOf_13 ?_
      refine mv_if_eq (tgt := 41) X d_M_entryOf_14 (by decide) (fun h14 => ?_) (fun h14 => ?_)
      · refine mv_lload X 0 d_M_entryOf_41 rfl ?_
        exact mv_ret_j X d_M_entryOf_43 rfl (Nat.le_of_ble_eq_true rfl) (Nat.le_of_ble_eq_true rfl) (⟨rfl, rfl⟩)
      · exact absurd (lgy rfl) h14
    | cons e1 L ih =>
      intro x hx
      obtain ⟨rfl, hE, h3, hx⟩ := hx
      refine mv_lload X 0 d_M_entryOf_8 rfl ?_
      refine mv_ldc2 (v := (-1)) X d_M_entryOf_10 (mA (by decide +kernel) (by decide +kernel)) ?_
      refine mv_lcmp X d_M_entryOf_13 ?_
      refine mv_if_eq (tgt := 41) X d_M_entryOf_14 (by decide) (fun h14 => ?_) (fun h14 => ?_)
      · exact absurd h14 (lgn (ob_all e1 hE.1).2.2)
      · refine mv_aload_n X 1 d_M_entryOf_17 rfl ?_
        refine mv_lload X 0 d_M_entryOf_18 rfl ?_
        refine mv_iconst (v := 0) X d_M_entryOf_20 (by decide) ?_
        refine mv_callv X [vJ (ob e1), vI 0] [] (k_M_fieldO l w o ad hM Ch e1 0 hE (by omega) (by decide)) d_M_entryOf_21 cv_M_98 hM.1 ⟨Nat.le_of_ble_eq_true rfl, Nat.le_of_ble_eq_true rfl⟩ ⟨Nat.le_of_ble_eq_true rfl, Nat.le_of_ble_eq_true rfl⟩ rfl (Nat.le_of_ble_eq_true rfl) (fun v21 w21 hp21 => ?_)
        obtain ⟨rfl, rfl⟩ := hp21
        refine mv_lload_n X 3 d_M_entryOf_24 rfl ?_
        refine mv_lcmp X d_M_entryOf_25 ?_
        refine mv_if_eq (tgt := 41) X d_M_entryOf_26 (by decide) (fun h26 => ?_) (fun h26 => ?_)
        · refine mv_lload X 0 d_M_entryOf_41 rfl ?_
          exact mv_ret_j X d_M_entryOf_43 rfl (Nat.le_of_ble_eq_true rfl) (Nat.le_of_ble_eq_true rfl) (⟨by rw [enF, if_pos ((lg_cmp_eq _ _).mp h26)], rfl⟩)
        · refine mv_aload_n X 1 d_M_entryOf_29 rfl ?_
          refine mv_lload X 0 d_M_entryOf_30 rfl ?_
          refine mv_iconst (v := 2) X d_M_entryOf_32 (by decide) ?_
          refine mv_callv X [vJ (ob e1), vI 2] [] (k_M_fieldO l w o ad hM Ch e1 2 hE (by omega) (by decide)) d_M_entryOf_33 cv_M_98 hM.1 ⟨Nat.le_of_ble_eq_true rfl, Nat.le_of_ble_eq_true rfl⟩ ⟨Nat.le_of_ble_eq_true rfl, Nat.le_of_ble_eq_true rfl⟩ rfl (Nat.le_of_ble_eq_true rfl) (fun v33 w33 hp33 => ?_)
          obtain ⟨rfl, rfl⟩ := hp33
          refine mv_lstore (lv' := [(5, vJ (fv w ad Ch e1 2)), (0, vR (some o)), (1, vJ (ob t)), (3, vJ y)]) X d_M_entryOf_36 (by decide) rfl ?_
          refine mv_goto (tgt := 8) X d_M_entryOf_38 (by decide) ?_
          have h0 := ih _ hx
          rw [show enF w ad Ch y L = enF w ad Ch y (e1 :: L) from by rw [enF, if_neg (fun q => h26 (lgy q))]] at h0
          exact h0
  exact key L _ hL
set_option maxRecDepth 100000 in
set_option maxHeartbeats 4000000 in
theorem k_M_entryCount (l : Launch) (w : mW) (o : Nat) (ad : Nat → Nat) (hM : MS w o ad) (Ch : Nat → List Nat) (t : Nat) (ht : hC w ad Ch t) (ht1 : 0 < (Ch t).length) (L : List Nat) (hL : lkE w ad Ch (fv w ad Ch t 0) L) : mMet l y_M_entryCount c_M_entryCount 6 (some .int) 2 0 0 [vR (some o), vJ (ob t)] w (fun v w' => v = some (vI (nI L.length)) ∧ w = w') := by
  refine mMet.of (by decide) (Nat.le_of_ble_eq_true rfl) ?_
  intro p e s m args below meth c D dA A X
  show mV p l e (mRm 2 0 0) s m args below meth c D dA A 6 w 0 0 _ 0 [(0, vR (some o)), (1, vJ (ob t))] []
  refine mv_iconst (v := 0) X d_M_entryCount_0 (by decide) ?_
  refine mv_istore_n (lv' := [(3, vI 0), (0, vR (some o)), (1, vJ (ob t))]) X d_M_entryCount_1 (by decide) rfl ?_
  refine mv_aload_n X 1 d_M_entryCount_2 rfl ?_
  refine mv_lload_n X 2 d_M_entryCount_3 rfl ?_
  refine mv_iconst (v := 0) X d_M_entryCount_4 (by decide) ?_
  refine mv_callv X [vJ (ob t), vI 0] [] (k_M_fieldO l w o ad hM Ch t 0 ht (by omega) (by decide)) d_M_entryCount_5 cv_M_98 hM.1 ⟨Nat.le_of_ble_eq_true rfl, Nat.le_of_ble_eq_true rfl⟩ ⟨Nat.le_of_ble_eq_true rfl, Nat.le_of_ble_eq_true rfl⟩ rfl (Nat.le_of_ble_eq_true rfl) (fun v5 w5 hp5 => ?_)
  obtain ⟨rfl, rfl⟩ := hp5
  refine mv_lstore (lv' := [(4, vJ (fv w ad Ch t 0)), (3, vI 0), (0, vR (some o)), (1, vJ (ob t))]) X d_M_entryCount_8 (by decide) rfl ?_
  have key : ∀ (L : List Nat) (n : Nat) (x : Int64), lkE w ad Ch x L → mV p l e (mRm 2 0 0) s m args below meth c D dA A 6 w 0 0 (MQ below (mQ D dA A (fun v w' => v = some (vI (nI (n + L.length))) ∧ w = w')) args s 0 0 A) 10 [(4, vJ x), (3, vI (nI n)), (0, vR (some o)), (1, vJ (ob t))] [] := by
    intro L
    induction L with
    | nil =>
      intro n x hx
      have hx : x = -1 := hx
      subst hx
      refine mv_lload X 0 d_M_entryCount_10 rfl ?_
      refine mv_ldc2 (v := (-1)) X d_M_entryCount_12 (mA (by decide +kernel) (by decide +kernel)) ?_
      refine mv_lcmp X d_M_entryCount_15 ?_
      refine mv_if_eq (tgt := 35) X d_M_entryCount_16 (by decide) (fun h16 => ?_) (fun h16 => ?_)
      · refine mv_iload_n X 1 d_M_entryCount_35 rfl ?_
        exact mv_ret_i (Post := _) X d_M_entryCount_36 rfl rfl (Nat.le_of_ble_eq_true rfl) (Nat.le_of_ble_eq_true rfl) (⟨rfl, rfl⟩)
      · exact absurd (lgy rfl) h16
    | cons e1 L ih =>
      intro n x hx
      obtain ⟨rfl, hE, h3, hx⟩ := hx
      refine mv_lload X 0 d_M_entryCount_10 rfl ?_
      refine mv_ldc2 (v := (-1)) X d_M_entryCount_12 (mA (by decide +kernel) (by decide +kernel)) ?_
      refine mv_lcmp X d_M_entryCount_15 ?_
      refine mv_if_eq (tgt := 35) X d_M_entryCount_16 (by decide) (fun h16 => ?_) (fun h16 => ?_)
      · exact absurd h16 (lgn (ob_all e1 hE.1).2.2)
      · refine mv_iload_n X 1 d_M_entryCount_19 rfl ?_
        refine mv_iconst (v := 1) X d_M_entryCount_20 (by decide) ?_
        refine mv_iadd X d_M_entryCount_21 ?_
        refine mv_istore_n (lv' := [(3, vI ((nI n) + 1)), (4, vJ (ob e1)), (0, vR (some o)), (1, vJ (ob t))]) X d_M_entryCount_22 (by decide) rfl ?_
        refine mv_aload_n X 2 d_M_entryCount_23 rfl ?_
        refine mv_lload X 1 d_M_entryCount_24 rfl ?_
        refine mv_iconst (v := 2) X d_M_entryCount_26 (by decide) ?_
        refine mv_callv X [vJ (ob e1), vI 2] [] (k_M_fieldO l w o ad hM Ch e1 2 hE (by omega) (by decide)) d_M_entryCount_27 cv_M_98 hM.1 ⟨Nat.le_of_ble_eq_true rfl, Nat.le_of_ble_eq_true rfl⟩ ⟨Nat.le_of_ble_eq_true rfl, Nat.le_of_ble_eq_true rfl⟩ rfl (Nat.le_of_ble_eq_true rfl) (fun v27 w27 hp27 => ?_)
        obtain ⟨rfl, rfl⟩ := hp27
        refine mv_lstore (lv' := [(4, vJ (fv w ad Ch e1 2)), (3, vI ((nI n) + 1)), (0, vR (some o)), (1, vJ (ob t))]) X d_M_entryCount_30 (by decide) rfl ?_
        refine mv_goto (tgt := 10) X d_M_entryCount_32 (by decide) ?_
        have h0 := ih (n + 1) _ hx
        rw [show n + 1 + L.length = n + (e1 :: L).length from by simp; omega, ← nI_1] at h0
        exact mv_sub [0, 1, 2, 3] rfl h0
  have h0 := key L 0 _ hL
  rw [Nat.zero_add] at h0
  exact h0
end
section

theorem enF_cases {w : mW} {ad : Nat → Nat} {Ch : Nat → List Nat} {key : Int64} : ∀ {L : List Nat} {x : Int64}, lkE w ad Ch x L → (enF w ad Ch key L = -1 ∧ ∀ e ∈ L, ¬ fv w ad Ch e 0 = key) ∨ ∃ e, e ∈ L ∧ enF w ad Ch key L = ob e ∧ hC w ad Ch e ∧ (Ch e).length = 3 ∧ fv w ad Ch e 0 = key
  | [], _, _ => Or.inl ⟨rfl, fun e he => by cases he⟩
  | e :: L, _, h => by
    obtain ⟨-, hE, h3, hx⟩ := h
    by_cases hk : fv w ad Ch e 0 = key
    · exact Or.inr ⟨e, List.mem_cons_self, by rw [enF, if_pos hk], hE, h3, hk⟩
    · rcases enF_cases (key := key) hx with ⟨h1, h2⟩ | ⟨e1, m, h1, h2⟩
      · refine Or.inl ⟨by rw [enF, if_neg hk]; exact h1, fun e' he => ?_⟩
        rcases List.mem_cons.mp he with rfl | he
        · exact hk
        · exact h2 e' he
      · exact Or.inr ⟨e1, List.mem_cons_of_mem _ m, by rw [enF, if_neg hk]; exact h1, h2⟩
theorem ob_ix {x : Int64} {t : Nat} (h : x = ob t ∧ t < 1700) : x.toInt32 = nI t ∧ t < 1700 := by
  rw [h.1]
  exact ⟨(ob_all t h.2).1, h.2⟩
set_option maxRecDepth 100000 in
set_option maxHeartbeats 4000000 in
theorem k_M_find (l : Launch) (w : mW) (o : Nat) (ad : Nat → Nat) (hM : MS w o ad) (r q k : Int32) (Ch : Nat → List Nat) (L : List Nat) (t : Nat) (ht0 : isRg q = true → isOb (aJ w (ad 101) (rN q)) = true → aJ w (ad 101) (rN q) = ob t ∧ t < 1700) (hT : isRg q = true → isOb (aJ w (ad 101) (rN q)) = true → aI w (ad 104) t = 4 → hC w ad Ch t ∧ 0 < (Ch t).length ∧ lkE w ad Ch (fv w ad Ch t 0) L) : mMet l y_M_find c_M_find 6 (some .int) 3 0 0 [vR (some o), vI r, vI q, vI k] w (fun v w' => if isRg r = true ∧ isRg q = true ∧ isRg k = true ∧ (isOb (aJ w (ad 101) (rN q)) && decide (aI w (ad 104) t = 4)) = true then ((enF w ad Ch (aJ w (ad 101) (rN k)) L = -1 ∧ (∀ e ∈ L, ¬ fv w ad Ch e 0 = aJ w (ad 101) (rN k)) ∧ v = some (vI 0) ∧ w = w') ∨ (∃ e, e ∈ L ∧ enF w ad Ch (aJ w (ad 101) (rN k)) L = ob e ∧ fv w ad Ch e 0 = aJ w (ad 101) (rN k) ∧ v = some (vI 1) ∧ w' = xJ w (ad 101) (rN r) (fv w ad Ch e 1))) else v = some (vI (-1)) ∧ w = w') := by
  refine mMet.of (by decide) (Nat.le_of_ble_eq_true rfl) ?_
  intro p e s m args below meth c D dA A X
  show mV p l e (mRm 3 0 0) s m args below meth c D dA A 6 w 0 0 _ 0 [(0, vR (some o)), (1, vI r), (2, vI q), (3, vI k)] []
  refine mv_iload_n X 1 d_M_find_0 rfl ?_
  refine mv_calls X [vI r] [] (k_M_isRegister l w r) d_M_find_1 cs_M_137 ⟨Nat.le_of_ble_eq_true rfl, Nat.le_of_ble_eq_true rfl⟩ ⟨Nat.le_of_ble_eq_true rfl, Nat.le_of_ble_eq_true rfl⟩ rfl (Nat.le_of_ble_eq_true rfl) (fun v1 w1 hp1 => ?_)
  obtain ⟨rfl, rfl⟩ := hp1
  refine mv_if_eq (tgt := 35) X d_M_find_4 (by decide) (fun h4 => ?_) (fun h4 => ?_)
  · refine mv_iconst (v := (-1)) X d_M_find_35 (by decide) ?_
    exact mv_ret_i (Post := _) X d_M_find_36 rfl rfl (Nat.le_of_ble_eq_true rfl) (Nat.le_of_ble_eq_true rfl) (by rw [if_neg (fun z => bI_nt h4 z.1)]; exact ⟨rfl, rfl⟩)
  · refine mv_iload_n X 2 d_M_find_7 rfl ?_
    refine mv_calls X [vI q] [] (k_M_isRegister l w q) d_M_find_8 cs_M_137 ⟨Nat.le_of_ble_eq_true rfl, Nat.le_of_ble_eq_true rfl⟩ ⟨Nat.le_of_ble_eq_true rfl, Nat.le_of_ble_eq_true rfl⟩ rfl (Nat.le_of_ble_eq_true rfl) (fun v8 w8 hp8 => ?_)
    obtain ⟨rfl, rfl⟩ := hp8
    refine mv_if_eq (tgt := 35) X d_M_find_11 (by decide) (fun h11 => ?_) (fun h11 => ?_)
    · refine mv_iconst (v := (-1)) X d_M_find_35 (by decide) ?_
      exact mv_ret_i (Post := _) X d_M_find_36 rfl rfl (Nat.le_of_ble_eq_true rfl) (Nat.le_of_ble_eq_true rfl) (by rw [if_neg (fun z => bI_nt h11 z.2.1)]; exact ⟨rfl, rfl⟩)
    · refine mv_iload_n X 3 d_M_find_14 rfl ?_
      refine mv_calls X [vI k] [] (k_M_isRegister l w k) d_M_find_15 cs_M_137 ⟨Nat.le_of_ble_eq_true rfl, Nat.le_of_ble_eq_true rfl⟩ ⟨Nat.le_of_ble_eq_true rfl, Nat.le_of_ble_eq_true rfl⟩ rfl (Nat.le_of_ble_eq_true rfl) (fun v15 w15 hp15 => ?_)
      obtain ⟨rfl, rfl⟩ := hp15
      refine mv_if_eq (tgt := 35) X d_M_find_18 (by decide) (fun h18 => ?_) (fun h18 => ?_)
      · refine mv_iconst (v := (-1)) X d_M_find_35 (by decide) ?_
        exact mv_ret_i (Post := _) X d_M_find_36 rfl rfl (Nat.le_of_ble_eq_true rfl) (Nat.le_of_ble_eq_true rfl) (by rw [if_neg (fun z => bI_nt h18 z.2.2.1)]; exact ⟨rfl, rfl⟩)
      · refine mv_aload_n X 0 d_M_find_21 rfl ?_
        refine mv_aload_n X 0 d_M_find_22 rfl ?_
        refine mv_getr (w := w) X d_M_find_23 f_M_7 (mIs.one hM.1) hM.r101 ?_
        refine mv_iload_n X 2 d_M_find_26 rfl ?_
        refine mv_lald (x := aJ w (ad 101) (rN q)) X d_M_find_27 rfl rfl hM.k101 ((isRg_nI (bI_ne.mp h11)).1) ((isRg_nI (bI_ne.mp h11)).2) (by decide) rfl ?_
        refine mv_iconst (v := 4) X d_M_find_28 (by decide) ?_
        refine mv_callv X [vJ (aJ w (ad 101) (rN q)), vI 4] [] (k_M_is l w o ad hM (aJ w (ad 101) (rN q)) 4 t (fun z => ob_ix (ht0 (bI_ne.mp h11) z))) d_M_find_29 cv_M_154 hM.1 ⟨Nat.le_of_ble_eq_true rfl, Nat.le_of_ble_eq_true rfl⟩ ⟨Nat.le_of_ble_eq_true rfl, Nat.le_of_ble_eq_true rfl⟩ rfl (Nat.le_of_ble_eq_true rfl) (fun v29 w29 hp29 => ?_)
        obtain ⟨rfl, rfl⟩ := hp29
        refine mv_if_ne (tgt := 37) X d_M_find_32 (by decide) (fun h32 => ?_) (fun h32 => ?_)
        · have hb := bI_ne.mp h32
          rw [Bool.and_eq_true, decide_eq_true_eq] at hb
          obtain ⟨hvq, ht17⟩ := ht0 (bI_ne.mp h11) hb.1
          obtain ⟨htC, ht1, hL⟩ := hT (bI_ne.mp h11) hb.1 hb.2
          refine mv_aload_n X 0 d_M_find_37 rfl ?_
          refine mv_aload_n X 0 d_M_find_38 rfl ?_
          refine mv_getr (w := w) X d_M_find_39 f_M_7 (mIs.one hM.1) hM.r101 ?_
          refine mv_iload_n X 2 d_M_find_42 rfl ?_
          refine mv_lald (x := ob t) X d_M_find_43 rfl rfl hM.k101 ((isRg_nI (bI_ne.mp h11)).1) ((isRg_nI (bI_ne.mp h11)).2) (by decide) hvq ?_
          refine mv_aload_n X 0 d_M_find_44 rfl ?_
          refine mv_getr (w := w) X d_M_find_45 f_M_7 (mIs.one hM.1) hM.r101 ?_
          refine mv_iload_n X 3 d_M_find_48 rfl ?_
          refine mv_lald (x := aJ w (ad 101) (rN k)) X d_M_find_49 rfl rfl hM.k101 ((isRg_nI (bI_ne.mp h18)).1) ((isRg_nI (bI_ne.mp h18)).2) (by decide) rfl ?_
          refine mv_callv X [vJ (ob t), vJ (aJ w (ad 101) (rN k))] [] (k_M_entryOf l w o ad hM Ch t htC ht1 L hL (aJ w (ad 101) (rN k))) d_M_find_50 cv_M_158 hM.1 ⟨Nat.le_of_ble_eq_true rfl, Nat.le_of_ble_eq_true rfl⟩ ⟨Nat.le_of_ble_eq_true rfl, Nat.le_of_ble_eq_true rfl⟩ rfl (Nat.le_of_ble_eq_true rfl) (fun v50 w50 hp50 => ?_)
          obtain ⟨rfl, rfl⟩ := hp50
          rcases enF_cases (key := aJ w (ad 101) (rN k)) hL with ⟨hno, hno2⟩ | ⟨e1, hmem, hen, hE, h3, hkey⟩
          · rw [hno]
            refine mv_lstore (lv' := [(4, vJ (-1)), (0, vR (some o)), (1, vI r), (2, vI q), (3, vI k)]) X d_M_find_53 (by decide) rfl ?_
            refine mv_lload X 0 d_M_find_55 rfl ?_
            refine mv_ldc2 (v := (-1)) X d_M_find_57 (mA (by decide +kernel) (by decide +kernel)) ?_
            refine mv_lcmp X d_M_find_60 ?_
            refine mv_if_ne (tgt := 66) X d_M_find_61 (by decide) (fun h61 => ?_) (fun h61 => ?_)
            · exact absurd (lgy rfl) h61
            · refine mv_iconst (v := 0) X d_M_find_64 (by decide) ?_
              exact mv_ret_i (Post := _) X d_M_find_65 rfl rfl (Nat.le_of_ble_eq_true rfl) (Nat.le_of_ble_eq_true rfl) (by rw [if_pos ⟨bI_ne.mp h4, bI_ne.mp h11, bI_ne.mp h18, bI_ne.mp h32⟩]; exact Or.inl ⟨rfl, hno2, rfl, rfl⟩)
          · rw [hen]
            refine mv_lstore (lv' := [(4, vJ (ob e1)), (0, vR (some o)), (1, vI r), (2, vI q), (3, vI k)]) X d_M_find_53 (by decide) rfl ?_
            refine mv_lload X 0 d_M_find_55 rfl ?_
            refine mv_ldc2 (v := (-1)) X d_M_find_57 (mA (by decide +kernel) (by decide +kernel)) ?_
            refine mv_lcmp X d_M_find_60 ?_
            refine mv_if_ne (tgt := 66) X d_M_find_61 (by decide) (fun h61 => ?_) (fun h61 => ?_)
            · refine mv_aload_n X 1 d_M_find_66 rfl ?_
              refine mv_getr (w := w) X d_M_find_67 f_M_7 (mIs.one hM.1) hM.r101 ?_
              refine mv_iload_n X 2 d_M_find_70 rfl ?_
              refine mv_aload_n X 1 d_M_find_71 rfl ?_
              refine mv_lload X 0 d_M_find_72 rfl ?_
              refine mv_iconst (v := 1) X d_M_find_74 (by decide) ?_
              refine mv_callv X [vJ (ob e1), vI 1] [vI r, vR (some (ad 101))] (k_M_fieldO l w o ad hM Ch e1 1 hE (by omega) (by decide)) d_M_find_75 cv_M_98 hM.1 ⟨Nat.le_of_ble_eq_true rfl, Nat.le_of_ble_eq_true rfl⟩ ⟨Nat.le_of_ble_eq_true rfl, Nat.le_of_ble_eq_true rfl⟩ rfl (Nat.le_of_ble_eq_true rfl) (fun v75 w75 hp75 => ?_)
              obtain ⟨rfl, rfl⟩ := hp75
              refine mv_last X d_M_find_78 rfl rfl hM.k101 ((isRg_nI (bI_ne.mp h4)).1) ((isRg_nI (bI_ne.mp h4)).2) (by decide) ?_
              refine mv_iconst (v := 1) X d_M_find_79 (by decide) ?_
              exact mv_ret_i (Post := _) X d_M_find_80 rfl rfl (Nat.le_of_ble_eq_true rfl) (Nat.le_of_ble_eq_true rfl) (by rw [if_pos ⟨bI_ne.mp h4, bI_ne.mp h11, bI_ne.mp h18, bI_ne.mp h32⟩]; exact Or.inr ⟨e1, hmem, rfl, hkey, rfl, rfl⟩)
            · exact absurd h61 (lgn (ob_all e1 hE.1).2.2)
        · refine mv_iconst (v := (-1)) X d_M_find_35 (by decide) ?_
          exact mv_ret_i (Post := _) X d_M_find_36 rfl rfl (Nat.le_of_ble_eq_true rfl) (Nat.le_of_ble_eq_true rfl) (by rw [if_neg (fun z => bI_nt h32 z.2.2.2)]; exact ⟨rfl, rfl⟩)
set_option maxRecDepth 100000 in
set_option maxHeartbeats 4000000 in
theorem k_M_set (l : Launch) (w : mW) (o : Nat) (ad : Nat → Nat) (hM : MS w o ad) (q k u : Int32) (Ch : Nat → List Nat) (t : Nat) (ht0 : isRg q = true → isOb (aJ w (ad 101) (rN q)) = true → aJ w (ad 101) (rN q) = ob t ∧ t < 1700) (hT : isRg q = true → isOb (aJ w (ad 101) (rN q)) = true → hC w ad Ch t ∧ aI w (ad 105) t = nI (Ch t).length ∧ (Ch t).length < 2 ^ 31) : mMet l y_M_set c_M_set 4 (some .boolean) 2 0 0 [vR (some o), vI q, vI k, vI u] w (fun v w' => if isRg q = true ∧ isRg u = true ∧ isOb (aJ w (ad 101) (rN q)) = true ∧ (aI w (ad 104) t = 0 ∨ aI w (ad 104) t = 1) ∧ ¬ k < 0 ∧ k < aI w (ad 105) t then v = some (vI 1) ∧ w' = xJ w (ad 112) (((Ch t)[rN k]?).getD 0) (aJ w (ad 101) (rN u)) else v = some (vI 0) ∧ w = w') := by
  refine mMet.of (by decide) (Nat.le_of_ble_eq_true rfl) ?_
  intro p e s m args below meth c D dA A X
  show mV p l e (mRm 2 0 0) s m args below meth c D dA A 4 w 0 0 _ 0 [(0, vR (some o)), (1, vI q), (2, vI k), (3, vI u)] []
  refine mv_iload_n X 1 d_M_set_0 rfl ?_
  refine mv_calls X [vI q] [] (k_M_isRegister l w q) d_M_set_1 cs_M_137 ⟨Nat.le_of_ble_eq_true rfl, Nat.le_of_ble_eq_true rfl⟩ ⟨Nat.le_of_ble_eq_true rfl, Nat.le_of_ble_eq_true rfl⟩ rfl (Nat.le_of_ble_eq_true rfl) (fun v1 w1 hp1 => ?_)
  obtain ⟨rfl, rfl⟩ := hp1
  refine mv_if_eq (tgt := 62) X d_M_set_4 (by decide) (fun h4 => ?_) (fun h4 => ?_)
  · refine mv_iconst (v := 0) X d_M_set_62 (by decide) ?_
    exact mv_ret_i (Post := _) X d_M_set_63 rfl (by rfl) (Nat.le_of_ble_eq_true rfl) (Nat.le_of_ble_eq_true rfl) (by rw [if_neg (fun z => bI_nt h4 z.1)]; exact ⟨rfl, rfl⟩)
  · refine mv_iload_n X 3 d_M_set_7 rfl ?_
    refine mv_calls X [vI u] [] (k_M_isRegister l w u) d_M_set_8 cs_M_137 ⟨Nat.le_of_ble_eq_true rfl, Nat.le_of_ble_eq_true rfl⟩ ⟨Nat.le_of_ble_eq_true rfl, Nat.le_of_ble_eq_true rfl⟩ rfl (Nat.le_of_ble_eq_true rfl) (fun v8 w8 hp8 => ?_)
    obtain ⟨rfl, rfl⟩ := hp8
    refine mv_if_eq (tgt := 62) X d_M_set_11 (by decide) (fun h11 => ?_) (fun h11 => ?_)
    · refine mv_iconst (v := 0) X d_M_set_62 (by decide) ?_
      exact mv_ret_i (Post := _) X d_M_set_63 rfl (by rfl) (Nat.le_of_ble_eq_true rfl) (Nat.le_of_ble_eq_true rfl) (by rw [if_neg (fun z => bI_nt h11 z.2.1)]; exact ⟨rfl, rfl⟩)
    · refine mv_aload_n X 0 d_M_set_14 rfl ?_
      refine mv_aload_n X 0 d_M_set_15 rfl ?_
      refine mv_getr (w := w) X d_M_set_16 f_M_7 (mIs.one hM.1) hM.r101 ?_
      refine mv_iload_n X 1 d_M_set_19 rfl ?_
      refine mv_lald (x := aJ w (ad 101) (rN q)) X d_M_set_20 rfl rfl hM.k101 ((isRg_nI (bI_ne.mp h4)).1) ((isRg_nI (bI_ne.mp h4)).2) (by decide) rfl ?_
      refine mv_iconst (v := 0) X d_M_set_21 (by decide) ?_
      refine mv_callv X [vJ (aJ w (ad 101) (rN q)), vI 0] [] (k_M_is l w o ad hM (aJ w (ad 101) (rN q)) 0 t (fun z => ob_ix (ht0 (bI_ne.mp h4) z))) d_M_set_22 cv_M_154 hM.1 ⟨Nat.le_of_ble_eq_true rfl, Nat.le_of_ble_eq_true rfl⟩ ⟨Nat.le_of_ble_eq_true rfl, Nat.le_of_ble_eq_true rfl⟩ rfl (Nat.le_of_ble_eq_true rfl) (fun v22 w22 hp22 => ?_)
      obtain ⟨rfl, rfl⟩ := hp22
      refine mv_if_ne (tgt := 42) X d_M_set_25 (by decide) (fun h25 => ?_) (fun h25 => ?_)
      · have hb := bI_ne.mp h25
        rw [Bool.and_eq_true, decide_eq_true_eq] at hb
        obtain ⟨hvq, ht17⟩ := ht0 (bI_ne.mp h4) hb.1
        obtain ⟨htC, hmy, hLc⟩ := hT (bI_ne.mp h4) hb.1
        have hk01 : aI w (ad 104) t = 0 ∨ aI w (ad 104) t = 1 := Or.inl hb.2
        refine mv_iload_n X 2 d_M_set_42 rfl ?_
        refine mv_if_lt (tgt := 62) X d_M_set_43 (by decide) (fun h43 => ?_) (fun h43 => ?_)
        · refine mv_iconst (v := 0) X d_M_set_62 (by decide) ?_
          exact mv_ret_i (Post := _) X d_M_set_63 rfl (by rfl) (Nat.le_of_ble_eq_true rfl) (Nat.le_of_ble_eq_true rfl) (by rw [if_neg (fun z => z.2.2.2.2.1 h43)]; exact ⟨rfl, rfl⟩)
        · obtain ⟨kk, hkk, rfl⟩ := nI_of h43
          refine mv_iload_n X 2 d_M_set_46 rfl ?_
          refine mv_aload_n X 0 d_M_set_47 rfl ?_
          refine mv_getr (w := w) X d_M_set_48 f_M_17 (mIs.one hM.1) hM.r105 ?_
          refine mv_aload_n X 0 d_M_set_51 rfl ?_
          refine mv_getr (w := w) X d_M_set_52 f_M_7 (mIs.one hM.1) hM.r101 ?_
          refine mv_iload_n X 1 d_M_set_55 rfl ?_
          refine mv_lald (x := ob t) X d_M_set_56 rfl rfl hM.k101 ((isRg_nI (bI_ne.mp h4)).1) ((isRg_nI (bI_ne.mp h4)).2) (by decide) hvq ?_
          refine mv_l2i (v := Int64.toInt32 (ob t)) X d_M_set_57 rfl ?_
          refine mv_iald (x := nI (Ch t).length) X d_M_set_58 rfl rfl hM.k105 ((ob_all t ht17).1) ht17 (by decide) hmy ?_
          refine mv_icmp_lt (tgt := 64) X d_M_set_59 (by decide) (fun h59 => ?_) (fun h59 => ?_)
          · have hlt : kk < (Ch t).length := (nI_ltI hkk hLc).mp h59
            refine mv_aload_n X 0 d_M_set_64 rfl ?_
            refine mv_aload_n X 0 d_M_set_65 rfl ?_
            refine mv_getr (w := w) X d_M_set_66 f_M_7 (mIs.one hM.1) hM.r101 ?_
            refine mv_iload_n X 1 d_M_set_69 rfl ?_
            refine mv_lald (x := ob t) X d_M_set_70 rfl rfl hM.k101 ((isRg_nI (bI_ne.mp h4)).1) ((isRg_nI (bI_ne.mp h4)).2) (by decide) hvq ?_
            refine mv_iload_n X 2 d_M_set_71 rfl ?_
            refine mv_aload_n X 0 d_M_set_72 rfl ?_
            refine mv_getr (w := w) X d_M_set_73 f_M_7 (mIs.one hM.1) hM.r101 ?_
            refine mv_iload_n X 3 d_M_set_76 rfl ?_
            refine mv_lald (x := aJ w (ad 101) (rN u)) X d_M_set_77 rfl rfl hM.k101 ((isRg_nI (bI_ne.mp h11)).1) ((isRg_nI (bI_ne.mp h11)).2) (by decide) rfl ?_
            refine mv_callv X [vJ (ob t), vI (nI kk), vJ (aJ w (ad 101) (rN u))] [] (k_M_setFieldO l w o ad hM Ch t kk htC hlt hkk (aJ w (ad 101) (rN u))) d_M_set_78 cv_M_120 hM.1 ⟨Nat.le_of_ble_eq_true rfl, Nat.le_of_ble_eq_true rfl⟩ ⟨Nat.le_of_ble_eq_true rfl, Nat.le_of_ble_eq_true rfl⟩ rfl (Nat.le_of_ble_eq_true rfl) (fun v78 w78 hp78 => ?_)
            obtain ⟨rfl, rfl⟩ := hp78
            refine mv_iconst (v := 1) X d_M_set_81 (by decide) ?_
            exact mv_ret_i (Post := _) X d_M_set_82 rfl (by rfl) (Nat.le_of_ble_eq_true rfl) (Nat.le_of_ble_eq_true rfl) (by rw [if_pos ⟨bI_ne.mp h4, bI_ne.mp h11, hb.1, hk01, h43, by rw [hmy]; exact h59⟩, show rN (nI kk) = kk from nI_clamp hkk]; exact ⟨rfl, rfl⟩)
          · refine mv_iconst (v := 0) X d_M_set_62 (by decide) ?_
            exact mv_ret_i (Post := _) X d_M_set_63 rfl (by rfl) (Nat.le_of_ble_eq_true rfl) (Nat.le_of_ble_eq_true rfl) (by rw [if_neg (fun z => h59 (by rw [← hmy]; exact z.2.2.2.2.2))]; exact ⟨rfl, rfl⟩)
      · have h25b := h25
        refine mv_aload_n X 0 d_M_set_28 rfl ?_
        refine mv_aload_n X 0 d_M_set_29 rfl ?_
        refine mv_getr (w := w) X d_M_set_30 f_M_7 (mIs.one hM.1) hM.r101 ?_
        refine mv_iload_n X 1 d_M_set_33 rfl ?_
        refine mv_lald (x := aJ w (ad 101) (rN q)) X d_M_set_34 rfl rfl hM.k101 ((isRg_nI (bI_ne.mp h4)).1) ((isRg_nI (bI_ne.mp h4)).2) (by decide) rfl ?_
        refine mv_iconst (v := 1) X d_M_set_35 (by decide) ?_
        refine mv_callv X [vJ (aJ w (ad 101) (rN q)), vI 1] [] (k_M_is l w o ad hM (aJ w (ad 101) (rN q)) 1 t (fun z => ob_ix (ht0 (bI_ne.mp h4) z))) d_M_set_36 cv_M_154 hM.1 ⟨Nat.le_of_ble_eq_true rfl, Nat.le_of_ble_eq_true rfl⟩ ⟨Nat.le_of_ble_eq_true rfl, Nat.le_of_ble_eq_true rfl⟩ rfl (Nat.le_of_ble_eq_true rfl) (fun v36 w36 hp36 => ?_)
        obtain ⟨rfl, rfl⟩ := hp36
        refine mv_if_eq (tgt := 62) X d_M_set_39 (by decide) (fun h39 => ?_) (fun h39 => ?_)
        · refine mv_iconst (v := 0) X d_M_set_62 (by decide) ?_
          exact mv_ret_i (Post := _) X d_M_set_63 rfl (by rfl) (Nat.le_of_ble_eq_true rfl) (Nat.le_of_ble_eq_true rfl) (by rw [if_neg (fun z => z.2.2.2.1.elim (fun y => bI_nt h25b (by rw [z.2.2.1, y]; rfl)) (fun y => bI_nt h39 (by rw [z.2.2.1, y]; rfl)))]; exact ⟨rfl, rfl⟩)
        · have hb := bI_ne.mp h39
          rw [Bool.and_eq_true, decide_eq_true_eq] at hb
          obtain ⟨hvq, ht17⟩ := ht0 (bI_ne.mp h4) hb.1
          obtain ⟨htC, hmy, hLc⟩ := hT (bI_ne.mp h4) hb.1
          have hk01 : aI w (ad 104) t = 0 ∨ aI w (ad 104) t = 1 := Or.inr hb.2
          refine mv_iload_n X 2 d_M_set_42 rfl ?_
          refine mv_if_lt (tgt := 62) X d_M_set_43 (by decide) (fun h43 => ?_) (fun h43 => ?_)
          · refine mv_iconst (v := 0) X d_M_set_62 (by decide) ?_
            exact mv_ret_i (Post := _) X d_M_set_63 rfl (by rfl) (Nat.le_of_ble_eq_true rfl) (Nat.le_of_ble_eq_true rfl) (by rw [if_neg (fun z => z.2.2.2.2.1 h43)]; exact ⟨rfl, rfl⟩)
          · obtain ⟨kk, hkk, rfl⟩ := nI_of h43
            refine mv_iload_n X 2 d_M_set_46 rfl ?_
            refine mv_aload_n X 0 d_M_set_47 rfl ?_
            refine mv_getr (w := w) X d_M_set_48 f_M_17 (mIs.one hM.1) hM.r105 ?_
            refine mv_aload_n X 0 d_M_set_51 rfl ?_
            refine mv_getr (w := w) X d_M_set_52 f_M_7 (mIs.one hM.1) hM.r101 ?_
            refine mv_iload_n X 1 d_M_set_55 rfl ?_
            refine mv_lald (x := ob t) X d_M_set_56 rfl rfl hM.k101 ((isRg_nI (bI_ne.mp h4)).1) ((isRg_nI (bI_ne.mp h4)).2) (by decide) hvq ?_
            refine mv_l2i (v := Int64.toInt32 (ob t)) X d_M_set_57 rfl ?_
            refine mv_iald (x := nI (Ch t).length) X d_M_set_58 rfl rfl hM.k105 ((ob_all t ht17).1) ht17 (by decide) hmy ?_
            refine mv_icmp_lt (tgt := 64) X d_M_set_59 (by decide) (fun h59 => ?_) (fun h59 => ?_)
            · have hlt : kk < (Ch t).length := (nI_ltI hkk hLc).mp h59
              refine mv_aload_n X 0 d_M_set_64 rfl ?_
              refine mv_aload_n X 0 d_M_set_65 rfl ?_
              refine mv_getr (w := w) X d_M_set_66 f_M_7 (mIs.one hM.1) hM.r101 ?_
              refine mv_iload_n X 1 d_M_set_69 rfl ?_
              refine mv_lald (x := ob t) X d_M_set_70 rfl rfl hM.k101 ((isRg_nI (bI_ne.mp h4)).1) ((isRg_nI (bI_ne.mp h4)).2) (by decide) hvq ?_
              refine mv_iload_n X 2 d_M_set_71 rfl ?_
              refine mv_aload_n X 0 d_M_set_72 rfl ?_
              refine mv_getr (w := w) X d_M_set_73 f_M_7 (mIs.one hM.1) hM.r101 ?_
              refine mv_iload_n X 3 d_M_set_76 rfl ?_
              refine mv_lald (x := aJ w (ad 101) (rN u)) X d_M_set_77 rfl rfl hM.k101 ((isRg_nI (bI_ne.mp h11)).1) ((isRg_nI (bI_ne.mp h11)).2) (by decide) rfl ?_
              refine mv_callv X [vJ (ob t), vI (nI kk), vJ (aJ w (ad 101) (rN u))] [] (k_M_setFieldO l w o ad hM Ch t kk htC hlt hkk (aJ w (ad 101) (rN u))) d_M_set_78 cv_M_120 hM.1 ⟨Nat.le_of_ble_eq_true rfl, Nat.le_of_ble_eq_true rfl⟩ ⟨Nat.le_of_ble_eq_true rfl, Nat.le_of_ble_eq_true rfl⟩ rfl (Nat.le_of_ble_eq_true rfl) (fun v78 w78 hp78 => ?_)
              obtain ⟨rfl, rfl⟩ := hp78
              refine mv_iconst (v := 1) X d_M_set_81 (by decide) ?_
              exact mv_ret_i (Post := _) X d_M_set_82 rfl (by rfl) (Nat.le_of_ble_eq_true rfl) (Nat.le_of_ble_eq_true rfl) (by rw [if_pos ⟨bI_ne.mp h4, bI_ne.mp h11, hb.1, hk01, h43, by rw [hmy]; exact h59⟩, show rN (nI kk) = kk from nI_clamp hkk]; exact ⟨rfl, rfl⟩)
            · refine mv_iconst (v := 0) X d_M_set_62 (by decide) ?_
              exact mv_ret_i (Post := _) X d_M_set_63 rfl (by rfl) (Nat.le_of_ble_eq_true rfl) (Nat.le_of_ble_eq_true rfl) (by rw [if_neg (fun z => h59 (by rw [← hmy]; exact z.2.2.2.2.2))]; exact ⟨rfl, rfl⟩)
end
section

section MV7
variable {p : Program} {l : Launch} {e : Env} {R : Room} {s : State} {m : MethodId} {args : Array Value} {below : List Frame} {meth : Method} {c : Code} {nL : Nat} {D : va_G} {dA : Nat → ClassId} {A : Nat → Prop} {w : mW} {cells slots : Nat} {Q : State → Prop} {pc : Nat} {lv lv' : tL} {st : List tV}
theorem mv_eqlv (h : lv = lv') (kk : mV p l e R s m args below meth c D dA A nL w cells slots Q pc lv' st) : mV p l e R s m args below meth c D dA A nL w cells slots Q pc lv st := h ▸ kk
end MV7
theorem lkI_congr {f f' : Nat → Int32} {N : Nat} : ∀ {L : List Nat} {x : Int32}, lkI f N x L → (∀ d ∈ L, f' d = f d) → lkI f' N x L
  | [], _, h, _ => h
  | c :: L, _, h, hc => ⟨h.1, h.2.1, by rw [hc c List.mem_cons_self]; exact lkI_congr h.2.2 (fun d hd => hc d (List.mem_cons_of_mem _ hd))⟩
/-- one cell comes to the object i -/
def adS (w : mW) (ad : Nat → Nat) (o i : Nat) (x : Int64) (c : Nat) : mW := xI (xI (xJ (sI w 114 o (aI w (ad 113) c)) (ad 112) c x) (ad 113) c (aI w (ad 106) i)) (ad 106) i (nI c)
def adL (ad : Nat → Nat) (o i : Nat) (x : Int64) : mW → List Nat → mW
  | w, [] => w
  | w, c :: P => adL ad o i x (adS w ad o i x c) P
theorem adS_113 {w : mW} {ad : Nat → Nat} {o i : Nat} {x : Int64} {c d : Nat} (hne : ad 113 ≠ ad 106) (h : d ≠ c) : aI (adS w ad o i x c) (ad 113) d = aI w (ad 113) d := by
  unfold adS
  rw [aI_xI_ne _ _ _ _ hne, aI_xI_na _ _ _ _ h]
  rfl
theorem adS_free {w : mW} {ad : Nat → Nat} {o i : Nat} {x : Int64} {c : Nat} : gI (adS w ad o i x c) 114 o = aI w (ad 113) c := gI_sI_eq _ _ _ _
theorem adS_lk {w : mW} {ad : Nat → Nat} {o i : Nat} {x : Int64} {c : Nat} {L : List Nat} (hne : ad 113 ≠ ad 106) (h : lkI (aI w (ad 113)) 5100 (gI w 114 o) (c :: L)) (hn : c ∉ L) : lkI (aI (adS w ad o i x c) (ad 113)) 5100 (gI (adS w ad o i x c) 114 o) L := by
  rw [adS_free]
  exact lkI_congr h.2.2 (fun d hd => adS_113 hne (fun q => hn (q ▸ hd)))
/-- one cell of the object i goes back -/
def drS (w : mW) (ad : Nat → Nat) (o i c : Nat) : mW := sI (xI (xI w (ad 106) i (aI w (ad 113) c)) (ad 113) c (gI w 114 o)) 114 o (nI c)
def drL (ad : Nat → Nat) (o i : Nat) : mW → List Nat → mW
  | w, [] => w
  | w, c :: P => drL ad o i (drS w ad o i c) P
theorem drS_106 {w : mW} {ad : Nat → Nat} {o i c : Nat} (hne : ad 106 ≠ ad 113) : aI (drS w ad o i c) (ad 106) i = aI w (ad 113) c := by
  unfold drS
  rw [aI_sI, aI_xI_ne _ _ _ _ hne, aI_xI_eq]
theorem drS_113 {w : mW} {ad : Nat → Nat} {o i c d : Nat} (hne : ad 106 ≠ ad 113) (h : d ≠ c) : aI (drS w ad o i c) (ad 113) d = aI w (ad 113) d := by
  unfold drS
  rw [aI_sI, aI_xI_na _ _ _ _ h, aI_xI_ne _ _ _ _ (Ne.symm hne)]
theorem drS_lk {w : mW} {ad : Nat → Nat} {o i c : Nat} {L : List Nat} (hne : ad 106 ≠ ad 113) (h : lkI (aI w (ad 113)) 5100 (aI w (ad 106) i) (c :: L)) (hn : c ∉ L) : lkI (aI (drS w ad o i c) (ad 113)) 5100 (aI (drS w ad o i c) (ad 106) i) L := by
  rw [drS_106 hne]
  exact lkI_congr h.2.2 (fun d hd => drS_113 hne (fun q => hn (q ▸ hd)))
theorem drL_I (ad : Nat → Nat) (o i : Nat) {k : Nat} (hk : k ≠ 114) : ∀ (P : List Nat) (w : mW), gI (drL ad o i w P) k = gI w k
  | [], _ => rfl
  | c :: P, w => (drL_I ad o i hk P (drS w ad o i c)).trans (by unfold drS; rw [gI_sI_nk _ _ _ _ hk]; rfl)
theorem drL_K (ad : Nat → Nat) (o i : Nat) : ∀ (P : List Nat) (w : mW), gK (drL ad o i w P) = gK w ∧ gR (drL ad o i w P) = gR w
  | [], _ => ⟨rfl, rfl⟩
  | c :: P, w => drL_K ad o i P (drS w ad o i c)
theorem drL_a (ad : Nat → Nat) (o i : Nat) {a : Nat} (h1 : a ≠ ad 106) (h2 : a ≠ ad 113) : ∀ (P : List Nat) (w : mW), aI (drL ad o i w P) a = aI w a
  | [], _ => rfl
  | c :: P, w => (drL_a ad o i h1 h2 P (drS w ad o i c)).trans (by unfold drS; rw [aI_sI, aI_xI_nk _ _ _ _ h2, aI_xI_nk _ _ _ _ h1])
theorem adL_I (ad : Nat → Nat) (o i : Nat) (x : Int64) {k : Nat} (hk : k ≠ 114) : ∀ (P : List Nat) (w : mW), gI (adL ad o i x w P) k = gI w k
  | [], _ => rfl
  | c :: P, w => (adL_I ad o i x hk P (adS w ad o i x c)).trans (by unfold adS; rw [gI_xI, gI_xI, gI_xJ, gI_sI_nk _ _ _ _ hk])
theorem adL_K (ad : Nat → Nat) (o i : Nat) (x : Int64) : ∀ (P : List Nat) (w : mW), gK (adL ad o i x w P) = gK w ∧ gR (adL ad o i x w P) = gR w
  | [], _ => ⟨rfl, rfl⟩
  | c :: P, w => adL_K ad o i x P (adS w ad o i x c)
set_option maxRecDepth 100000 in
set_option maxHeartbeats 4000000 in
theorem k_M_look (l : Launch) (w : mW) (o : Nat) (ad : Nat → Nat) (hM : MS w o ad) (q x : Int32) (Ch : Nat → List Nat) (L : List Nat) (t : Nat) (ht0 : isRg q = true → isOb (aJ w (ad 101) (rN q)) = true → aJ w (ad 101) (rN q) = ob t ∧ t < 1700) (hT : isRg q = true → isOb (aJ w (ad 101) (rN q)) = true → aI w (ad 104) t = 4 → hC w ad Ch t ∧ 0 < (Ch t).length ∧ lkE w ad Ch (fv w ad Ch t 0) L) : mMet l y_M_look c_M_look 6 (some .int) 3 0 0 [vR (some o), vI q, vI x] w (fun v w' => if isRg q = true ∧ ¬ x < 0 ∧ x ≤ 2 then (if isOb (aJ w (ad 101) (rN q)) = true then (if x = 0 then v = some (vI (aI w (ad 104) t)) ∧ w = w' else if x = 2 then v = some (vI (if aI w (ad 104) t = 4 then nI L.length else aI w (ad 105) t)) ∧ w = w' else if aI w (ad 107) t = 0 then v = some (vI (gI w 122 o + 1)) ∧ w' = xI (sI w 122 o (gI w 122 o + 1)) (ad 107) t (gI w 122 o + 1) else v = some (vI (aI w (ad 107) t)) ∧ w = w') else v = some (vI (if x = 0 then (if aJ w (ad 101) (rN q) = 12884901888 then 6 else 5) else if x = 1 then (if aJ w (ad 101) (rN q) = 12884901888 then 0 else (aJ w (ad 101) (rN q)).toInt32) else 0)) ∧ w = w') else v = some (vI (-1)) ∧ w = w') := by
  refine mMet.of (by decide) (Nat.le_of_ble_eq_true rfl) ?_
  intro p e s m args below meth c D dA A X
  show mV p l e (mRm 3 0 0) s m args below meth c D dA A 6 w 0 0 _ 0 [(0, vR (some o)), (1, vI q), (2, vI x)] []
  refine mv_iload_n X 1 d_M_look_0 rfl ?_
  refine mv_calls X [vI q] [] (k_M_isRegister l w q) d_M_look_1 cs_M_137 ⟨Nat.le_of_ble_eq_true rfl, Nat.le_of_ble_eq_true rfl⟩ ⟨Nat.le_of_ble_eq_true rfl, Nat.le_of_ble_eq_true rfl⟩ rfl (Nat.le_of_ble_eq_true rfl) (fun v1 w1 hp1 => ?_)
  obtain ⟨rfl, rfl⟩ := hp1
  refine mv_if_eq (tgt := 16) X d_M_look_4 (by decide) (fun h4 => ?_) (fun h4 => ?_)
  · refine mv_iconst (v := (-1)) X d_M_look_16 (by decide) ?_
    exact mv_ret_i (Post := _) X d_M_look_17 rfl rfl (Nat.le_of_ble_eq_true rfl) (Nat.le_of_ble_eq_true rfl) (by rw [if_neg (fun z => bI_nt h4 z.1)]; exact ⟨rfl, rfl⟩)
  · refine mv_iload_n X 2 d_M_look_7 rfl ?_
    refine mv_if_lt (tgt := 16) X d_M_look_8 (by decide) (fun h8 => ?_) (fun h8 => ?_)
    · refine mv_iconst (v := (-1)) X d_M_look_16 (by decide) ?_
      exact mv_ret_i (Post := _) X d_M_look_17 rfl rfl (Nat.le_of_ble_eq_true rfl) (Nat.le_of_ble_eq_true rfl) (by rw [if_neg (fun z => z.2.1 h8)]; exact ⟨rfl, rfl⟩)
    · refine mv_iload_n X 2 d_M_look_11 rfl ?_
      refine mv_iconst (v := 2) X d_M_look_12 (by decide) ?_
      refine mv_icmp_le (tgt := 18) X d_M_look_13 (by decide) (fun h13 => ?_) (fun h13 => ?_)
      · refine mv_aload_n X 0 d_M_look_18 rfl ?_
        refine mv_getr (w := w) X d_M_look_19 f_M_7 (mIs.one hM.1) hM.r101 ?_
        refine mv_iload_n X 1 d_M_look_22 rfl ?_
        refine mv_lald (x := aJ w (ad 101) (rN q)) X d_M_look_23 rfl rfl hM.k101 ((isRg_nI (bI_ne.mp h4)).1) ((isRg_nI (bI_ne.mp h4)).2) (by decide) rfl ?_
        refine mv_lstore_n (lv' := [(3, vJ (aJ w (ad 101) (rN q))), (0, vR (some o)), (1, vI q), (2, vI x)]) X d_M_look_24 (by decide) rfl ?_
        refine mv_lload_n X 0 d_M_look_25 rfl ?_
        refine mv_calls X [vJ (aJ w (ad 101) (rN q))] [] (k_M_isObject l w (aJ w (ad 101) (rN q))) d_M_look_26 cs_M_62 ⟨Nat.le_of_ble_eq_true rfl, Nat.le_of_ble_eq_true rfl⟩ ⟨Nat.le_of_ble_eq_true rfl, Nat.le_of_ble_eq_true rfl⟩ rfl (Nat.le_of_ble_eq_true rfl) (fun v26 w26 hp26 => ?_)
        obtain ⟨rfl, rfl⟩ := hp26
        refine mv_if_ne (tgt := 73) X d_M_look_29 (by decide) (fun h29 => ?_) (fun h29 => ?_)
        · have hb := bI_ne.mp h29
          obtain ⟨hvq, ht17⟩ := ht0 (bI_ne.mp h4) hb
          refine mv_eqlv (lv' := [(3, vJ (ob t)), (0, vR (some o)), (1, vI q), (2, vI x)]) (by rw [hvq]) ?_
          refine mv_lload_n X 0 d_M_look_73 rfl ?_
          refine mv_l2i (v := Int64.toInt32 (ob t)) X d_M_look_74 rfl ?_
          refine mv_istore (lv' := [(5, vI (Int64.toInt32 (ob t))), (3, vJ (ob t)), (0, vR (some o)), (1, vI q), (2, vI x)]) X d_M_look_75 (by decide) rfl ?_
          refine mv_iload_n X 4 d_M_look_77 rfl ?_
          refine mv_if_ne (tgt := 89) X d_M_look_78 (by decide) (fun h78 => ?_) (fun h78 => ?_)
          · refine mv_iload_n X 4 d_M_look_89 rfl ?_
            refine mv_iconst (v := 2) X d_M_look_90 (by decide) ?_
            refine mv_icmp_ne (tgt := 121) X d_M_look_91 (by decide) (fun h91 => ?_) (fun h91 => ?_)
            · refine mv_aload_n X 2 d_M_look_121 rfl ?_
              refine mv_getr (w := w) X d_M_look_122 f_M_23 (mIs.one hM.1) hM.r107 ?_
              refine mv_iload X 0 d_M_look_125 rfl ?_
              refine mv_iald (x := aI w (ad 107) t) X d_M_look_127 rfl rfl hM.k107 ((ob_all t ht17).1) ht17 (by decide) rfl ?_
              refine mv_if_ne (tgt := 152) X d_M_look_128 (by decide) (fun h128 => ?_) (fun h128 => ?_)
              · refine mv_aload_n X 2 d_M_look_152 rfl ?_
                refine mv_getr (w := w) X d_M_look_153 f_M_23 (mIs.one hM.1) hM.r107 ?_
                refine mv_iload X 0 d_M_look_156 rfl ?_
                refine mv_iald (x := aI w (ad 107) t) X d_M_look_158 rfl rfl hM.k107 ((ob_all t ht17).1) ht17 (by decide) rfl ?_
                exact mv_ret_i (Post := _) X d_M_look_159 rfl rfl (Nat.le_of_ble_eq_true rfl) (Nat.le_of_ble_eq_true rfl) (by rw [if_pos ⟨bI_ne.mp h4, h8, h13⟩, if_pos hb, if_neg h78, if_neg h91, if_neg h128]; exact ⟨rfl, rfl⟩)
              · refine mv_aload_n X 2 d_M_look_131 rfl ?_
                refine mv_aload_n X 2 d_M_look_132 rfl ?_
                refine mv_geti (w := w) X d_M_look_133 f_M_165 (mIs.one hM.1) rfl ?_
                refine mv_iconst (v := 1) X d_M_look_136 (by decide) ?_
                refine mv_iadd X d_M_look_137 ?_
                refine mv_puti X d_M_look_138 f_M_165 (mIs.one hM.1) rfl rfl ?_
                refine mv_aload_n X 2 d_M_look_141 rfl ?_
                refine mv_getr (w := (sI w 122 o ((gI w 122 o) + 1))) X d_M_look_142 f_M_23 (mIs.one hM.1) hM.r107 ?_
                refine mv_iload X 0 d_M_look_145 rfl ?_
                refine mv_aload_n X 2 d_M_look_147 rfl ?_
                refine mv_geti (w := (sI w 122 o ((gI w 122 o) + 1))) X d_M_look_148 f_M_165 (mIs.one hM.1) (gI_sI_eq _ _ _ _) ?_
                refine mv_iast X d_M_look_151 rfl rfl hM.k107 ((ob_all t ht17).1) ht17 (by decide) ?_
                refine mv_aload_n X 2 d_M_look_152 rfl ?_
                refine mv_getr (w := (xI (sI w 122 o ((gI w 122 o) + 1)) (ad 107) t ((gI w 122 o) + 1))) X d_M_look_153 f_M_23 (mIs.one hM.1) hM.r107 ?_
                refine mv_iload X 0 d_M_look_156 rfl ?_
                refine mv_iald (x := gI w 122 o + 1) X d_M_look_158 rfl rfl hM.k107 ((ob_all t ht17).1) ht17 (by decide) (aI_xI_eq _ _ _ _) ?_
                exact mv_ret_i (Post := _) X d_M_look_159 rfl rfl (Nat.le_of_ble_eq_true rfl) (Nat.le_of_ble_eq_true rfl) (by rw [if_pos ⟨bI_ne.mp h4, h8, h13⟩, if_pos hb, if_neg h78, if_neg h91, if_pos h128]; exact ⟨rfl, rfl⟩)
            · refine mv_aload_n X 2 d_M_look_94 rfl ?_
              refine mv_getr (w := w) X d_M_look_95 f_M_13 (mIs.one hM.1) hM.r104 ?_
              refine mv_iload X 0 d_M_look_98 rfl ?_
              refine mv_iald (x := aI w (ad 104) t) X d_M_look_100 rfl rfl hM.k104 ((ob_all t ht17).1) ht17 (by decide) rfl ?_
              refine mv_iconst (v := 4) X d_M_look_101 (by decide) ?_
              refine mv_icmp_ne (tgt := 113) X d_M_look_102 (by decide) (fun h102 => ?_) (fun h102 => ?_)
              · refine mv_aload_n X 2 d_M_look_113 rfl ?_
                refine mv_getr (w := w) X d_M_look_114 f_M_17 (mIs.one hM.1) hM.r105 ?_
                refine mv_iload X 0 d_M_look_117 rfl ?_
                refine mv_iald (x := aI w (ad 105) t) X d_M_look_119 rfl rfl hM.k105 ((ob_all t ht17).1) ht17 (by decide) rfl ?_
                exact mv_ret_i (Post := _) X d_M_look_120 rfl rfl (Nat.le_of_ble_eq_true rfl) (Nat.le_of_ble_eq_true rfl) (by rw [if_pos ⟨bI_ne.mp h4, h8, h13⟩, if_pos hb, if_neg h78, if_pos h91]; refine ⟨?_, rfl⟩; rw [if_neg h102])
              · obtain ⟨htC, ht1, hL⟩ := hT (bI_ne.mp h4) hb h102
                refine mv_aload_n X 2 d_M_look_105 rfl ?_
                refine mv_lload_n X 1 d_M_look_106 rfl ?_
                refine mv_callv X [vJ (ob t)] [] (k_M_entryCount l w o ad hM Ch t htC ht1 L hL) d_M_look_107 cv_M_162 hM.1 ⟨Nat.le_of_ble_eq_true rfl, Nat.le_of_ble_eq_true rfl⟩ ⟨Nat.le_of_ble_eq_true rfl, Nat.le_of_ble_eq_true rfl⟩ rfl (Nat.le_of_ble_eq_true rfl) (fun v107 w107 hp107 => ?_)
                obtain ⟨rfl, rfl⟩ := hp107
                refine mv_goto (tgt := 120) X d_M_look_110 (by decide) ?_
                exact mv_ret_i (Post := _) X d_M_look_120 rfl rfl (Nat.le_of_ble_eq_true rfl) (Nat.le_of_ble_eq_true rfl) (by rw [if_pos ⟨bI_ne.mp h4, h8, h13⟩, if_pos hb, if_neg h78, if_pos h91]; refine ⟨?_, rfl⟩; rw [if_pos h102])
          · refine mv_aload_n X 2 d_M_look_81 rfl ?_
            refine mv_getr (w := w) X d_M_look_82 f_M_13 (mIs.one hM.1) hM.r104 ?_
            refine mv_iload X 0 d_M_look_85 rfl ?_
            refine mv_iald (x := aI w (ad 104) t) X d_M_look_87 rfl rfl hM.k104 ((ob_all t ht17).1) ht17 (by decide) rfl ?_
            exact mv_ret_i (Post := _) X d_M_look_88 rfl rfl (Nat.le_of_ble_eq_true rfl) (Nat.le_of_ble_eq_true rfl) (by rw [if_pos ⟨bI_ne.mp h4, h8, h13⟩, if_pos hb, if_pos h78]; exact ⟨rfl, rfl⟩)
        · refine mv_iload_n X 3 d_M_look_32 rfl ?_
          refine mv_if_ne (tgt := 53) X d_M_look_33 (by decide) (fun h33 => ?_) (fun h33 => ?_)
          · refine mv_iload_n X 3 d_M_look_53 rfl ?_
            refine mv_iconst (v := 1) X d_M_look_54 (by decide) ?_
            refine mv_icmp_ne (tgt := 71) X d_M_look_55 (by decide) (fun h55 => ?_) (fun h55 => ?_)
            · refine mv_iconst (v := 0) X d_M_look_71 (by decide) ?_
              exact mv_ret_i (Post := _) X d_M_look_72 rfl rfl (Nat.le_of_ble_eq_true rfl) (Nat.le_of_ble_eq_true rfl) (by rw [if_pos ⟨bI_ne.mp h4, h8, h13⟩, if_neg (bI_nt h29)]; refine ⟨?_, rfl⟩; rw [if_neg h33, if_neg h55])
            · refine mv_lload_n X 0 d_M_look_58 rfl ?_
              refine mv_ldc2 (v := 12884901888) X d_M_look_59 (mA (by decide +kernel) (by decide +kernel)) ?_
              refine mv_lcmp X d_M_look_62 ?_
              refine mv_if_eq (tgt := 71) X d_M_look_63 (by decide) (fun h63 => ?_) (fun h63 => ?_)
              · refine mv_iconst (v := 0) X d_M_look_71 (by decide) ?_
                exact mv_ret_i (Post := _) X d_M_look_72 rfl rfl (Nat.le_of_ble_eq_true rfl) (Nat.le_of_ble_eq_true rfl) (by rw [if_pos ⟨bI_ne.mp h4, h8, h13⟩, if_neg (bI_nt h29)]; refine ⟨?_, rfl⟩; rw [if_neg h33, if_pos h55, if_pos ((lg_cmp_eq _ _).mp h63)])
              · refine mv_lload_n X 0 d_M_look_66 rfl ?_
                refine mv_l2i (v := Int64.toInt32 (aJ w (ad 101) (rN q))) X d_M_look_67 rfl ?_
                refine mv_goto (tgt := 72) X d_M_look_68 (by decide) ?_
                exact mv_ret_i (Post := _) X d_M_look_72 rfl rfl (Nat.le_of_ble_eq_true rfl) (Nat.le_of_ble_eq_true rfl) (by rw [if_pos ⟨bI_ne.mp h4, h8, h13⟩, if_neg (bI_nt h29)]; refine ⟨?_, rfl⟩; rw [if_neg h33, if_pos h55, if_neg (fun z => h63 (lgy z))])
          · refine mv_lload_n X 0 d_M_look_36 rfl ?_
            refine mv_ldc2 (v := 12884901888) X d_M_look_37 (mA (by decide +kernel) (by decide +kernel)) ?_
            refine mv_lcmp X d_M_look_40 ?_
            refine mv_if_ne (tgt := 49) X d_M_look_41 (by decide) (fun h41 => ?_) (fun h41 => ?_)
            · refine mv_iconst (v := 5) X d_M_look_49 (by decide) ?_
              refine mv_goto (tgt := 72) X d_M_look_50 (by decide) ?_
              exact mv_ret_i (Post := _) X d_M_look_72 rfl rfl (Nat.le_of_ble_eq_true rfl) (Nat.le_of_ble_eq_true rfl) (by rw [if_pos ⟨bI_ne.mp h4, h8, h13⟩, if_neg (bI_nt h29)]; refine ⟨?_, rfl⟩; rw [if_pos h33, if_neg (fun z => h41 (lgy z))])
            · refine mv_bipush (v := 6) X d_M_look_44 (by decide) ?_
              refine mv_goto (tgt := 72) X d_M_look_46 (by decide) ?_
              exact mv_ret_i (Post := _) X d_M_look_72 rfl rfl (Nat.le_of_ble_eq_true rfl) (Nat.le_of_ble_eq_true rfl) (by rw [if_pos ⟨bI_ne.mp h4, h8, h13⟩, if_neg (bI_nt h29)]; refine ⟨?_, rfl⟩; rw [if_pos h33, if_pos ((lg_cmp_eq _ _).mp h41)])
      · refine mv_iconst (v := (-1)) X d_M_look_16 (by decide) ?_
        exact mv_ret_i (Post := _) X d_M_look_17 rfl rfl (Nat.le_of_ble_eq_true rfl) (Nat.le_of_ble_eq_true rfl) (by rw [if_neg (fun z => h13 z.2.2)]; exact ⟨rfl, rfl⟩)
set_option maxRecDepth 100000 in
set_option maxHeartbeats 4000000 in
theorem k_M_drop (l : Launch) (w : mW) (o : Nat) (ad : Nat → Nat) (hM : MS w o ad) (i : Nat) (hi : i < 1700) (P : List Nat) (hch : lkI (aI w (ad 113)) 5100 (aI w (ad 106) i) P) (hnd : P.Nodup) : mMet l y_M_drop c_M_drop 3 none 1 0 0 [vR (some o), vI (nI i)] w (fun v w' => v = none ∧ w' = sI (sI (xI (drL ad o i w P) (ad 108) i 0) 102 o (gI w 102 o - cOf (aI w (ad 104) i) (aI w (ad 105) i))) 103 o (gI w 103 o - 1)) := by
  refine mMet.of (by decide) (Nat.le_of_ble_eq_true rfl) ?_
  intro p e s m args below meth c D dA A X
  show mV p l e (mRm 1 0 0) s m args below meth c D dA A 3 w 0 0 _ 0 [(0, vR (some o)), (1, vI (nI i))] []
  have key : ∀ (P : List Nat) (W0 : mW), MS W0 o ad → lkI (aI W0 (ad 113)) 5100 (aI W0 (ad 106) i) P → P.Nodup → mV p l e (mRm 1 0 0) s m args below meth c D dA A 3 W0 0 0 (MQ below (mQ D dA A (fun v w' => v = none ∧ w' = sI (sI (xI (drL ad o i W0 P) (ad 108) i 0) 102 o (gI W0 102 o - cOf (aI W0 (ad 104) i) (aI W0 (ad 105) i))) 103 o (gI W0 103 o - 1))) args s 0 0 A) 0 [(0, vR (some o)), (1, vI (nI i))] [] := by
    intro P
    induction P with
    | nil =>
      intro W0 hM hch hnd
      have hch : aI W0 (ad 106) i = -1 := hch
      refine mv_aload_n X 0 d_M_drop_0 rfl ?_
      refine mv_getr (w := W0) X d_M_drop_1 f_M_20 (mIs.one hM.1) hM.r106 ?_
      refine mv_iload_n X 1 d_M_drop_4 rfl ?_
      refine mv_iald (x := -1) X d_M_drop_5 rfl rfl hM.k106 rfl hi (by decide) hch ?_
      refine mv_if_lt (tgt := 46) X d_M_drop_6 (by decide) (fun h6 => ?_) (fun h6 => ?_)
      · refine mv_aload_n X 0 d_M_drop_46 rfl ?_
        refine mv_getr (w := W0) X d_M_drop_47 f_M_26 (mIs.one hM.1) hM.r108 ?_
        refine mv_iload_n X 1 d_M_drop_50 rfl ?_
        refine mv_iconst (v := 0) X d_M_drop_51 (by decide) ?_
        refine mv_zast X d_M_drop_52 rfl rfl hM.k108 rfl hi (by decide) rfl ?_
        refine mv_aload_n X 0 d_M_drop_53 rfl ?_
        refine mv_aload_n X 0 d_M_drop_54 rfl ?_
        refine mv_geti (w := (xI W0 (ad 108) i 0)) X d_M_drop_55 f_M_70 (mIs.one hM.1) rfl ?_
        refine mv_aload_n X 0 d_M_drop_58 rfl ?_
        refine mv_getr (w := (xI W0 (ad 108) i 0)) X d_M_drop_59 f_M_13 (mIs.one hM.1) hM.r104 ?_
        refine mv_iload_n X 1 d_M_drop_62 rfl ?_
        refine mv_iald (x := aI W0 (ad 104) i) X d_M_drop_63 rfl rfl hM.k104 rfl hi (by decide) (aI_xI_ne _ _ _ _ (hM.ne (by decide) (by decide) (by decide))) ?_
        refine mv_aload_n X 0 d_M_drop_64 rfl ?_
        refine mv_getr (w := (xI W0 (ad 108) i 0)) X d_M_drop_65 f_M_17 (mIs.one hM.1) hM.r105 ?_
        refine mv_iload_n X 1 d_M_drop_68 rfl ?_
        refine mv_iald (x := aI W0 (ad 105) i) X d_M_drop_69 rfl rfl hM.k105 rfl hi (by decide) (aI_xI_ne _ _ _ _ (hM.ne (by decide) (by decide) (by decide))) ?_
        refine mv_calls X [vI (aI W0 (ad 104) i), vI (aI W0 (ad 105) i)] [vI (gI (xI W0 (ad 108) i 0) 102 o), vR (some o)] (k_M_cellsOf l (xI W0 (ad 108) i 0) (aI W0 (ad 104) i) (aI W0 (ad 105) i)) d_M_drop_70 cs_M_79 ⟨Nat.le_of_ble_eq_true rfl, Nat.le_of_ble_eq_true rfl⟩ ⟨Nat.le_of_ble_eq_true rfl, Nat.le_of_ble_eq_true rfl⟩ rfl (Nat.le_of_ble_eq_true rfl) (fun v70 w70 hp70 => ?_)
        obtain ⟨rfl, rfl⟩ := hp70
        refine mv_isub X d_M_drop_73 ?_
        refine mv_puti X d_M_drop_74 f_M_70 (mIs.one hM.1) rfl rfl ?_
        refine mv_aload_n X 0 d_M_drop_77 rfl ?_
        refine mv_aload_n X 0 d_M_drop_78 rfl ?_
        refine mv_geti (w := (sI (xI W0 (ad 108) i 0) 102 o ((gI (xI W0 (ad 108) i 0) 102 o) - (cOf (aI W0 (ad 104) i) (aI W0 (ad 105) i))))) X d_M_drop_79 f_M_83 (mIs.one hM.1) rfl ?_
        refine mv_iconst (v := 1) X d_M_drop_82 (by decide) ?_
        refine mv_isub X d_M_drop_83 ?_
        refine mv_puti X d_M_drop_84 f_M_83 (mIs.one hM.1) rfl rfl ?_
        exact mv_ret_v X d_M_drop_87 rfl (Nat.le_of_ble_eq_true rfl) (Nat.le_of_ble_eq_true rfl) (⟨rfl, rfl⟩)
      · exact absurd (by decide) h6
    | cons c1 P ih =>
      intro W0 hM hch hnd
      obtain ⟨hc1, hc2, hc3⟩ := id hch
      have hn1 : c1 ∉ P := (List.nodup_cons.mp hnd).1
      refine mv_aload_n X 0 d_M_drop_0 rfl ?_
      refine mv_getr (w := W0) X d_M_drop_1 f_M_20 (mIs.one hM.1) hM.r106 ?_
      refine mv_iload_n X 1 d_M_drop_4 rfl ?_
      refine mv_iald (x := nI c1) X d_M_drop_5 rfl rfl hM.k106 rfl hi (by decide) hc1 ?_
      refine mv_if_lt (tgt := 46) X d_M_drop_6 (by decide) (fun h6 => ?_) (fun h6 => ?_)
      · exact absurd h6 (nI_pos (by omega))
      · refine mv_aload_n X 0 d_M_drop_9 rfl ?_
        refine mv_getr (w := W0) X d_M_drop_10 f_M_20 (mIs.one hM.1) hM.r106 ?_
        refine mv_iload_n X 1 d_M_drop_13 rfl ?_
        refine mv_iald (x := nI c1) X d_M_drop_14 rfl rfl hM.k106 rfl hi (by decide) hc1 ?_
        refine mv_istore_n (lv' := [(2, vI (nI c1)), (0, vR (some o)), (1, vI (nI i))]) X d_M_drop_15 (by decide) rfl ?_
        refine mv_aload_n X 1 d_M_drop_16 rfl ?_
        refine mv_getr (w := W0) X d_M_drop_17 f_M_20 (mIs.one hM.1) hM.r106 ?_
        refine mv_iload_n X 2 d_M_drop_20 rfl ?_
        refine mv_aload_n X 1 d_M_drop_21 rfl ?_
        refine mv_getr (w := W0) X d_M_drop_22 f_M_39 (mIs.one hM.1) hM.r113 ?_
        refine mv_iload_n X 0 d_M_drop_25 rfl ?_
        refine mv_iald (x := aI W0 (ad 113) c1) X d_M_drop_26 rfl rfl hM.k113 rfl hc2 (by decide) rfl ?_
        refine mv_iast X d_M_drop_27 rfl rfl hM.k106 rfl hi (by decide) ?_
        refine mv_aload_n X 1 d_M_drop_28 rfl ?_
        refine mv_getr (w := (xI W0 (ad 106) i (aI W0 (ad 113) c1))) X d_M_drop_29 f_M_39 (mIs.one hM.1) hM.r113 ?_
        refine mv_iload_n X 0 d_M_drop_32 rfl ?_
        refine mv_aload_n X 1 d_M_drop_33 rfl ?_
        refine mv_geti (w := (xI W0 (ad 106) i (aI W0 (ad 113) c1))) X d_M_drop_34 f_M_76 (mIs.one hM.1) rfl ?_
        refine mv_iast X d_M_drop_37 rfl rfl hM.k113 rfl hc2 (by decide) ?_
        refine mv_aload_n X 1 d_M_drop_38 rfl ?_
        refine mv_iload_n X 0 d_M_drop_39 rfl ?_
        refine mv_puti X d_M_drop_40 f_M_76 (mIs.one hM.1) rfl rfl ?_
        refine mv_goto (tgt := 0) X d_M_drop_43 (by decide) ?_
        have h0 := ih (drS W0 ad o i c1) (hM.to rfl rfl) (drS_lk (hM.ne (by decide) (by decide) (by decide)) hch hn1) (List.nodup_cons.mp hnd).2
        have e1 : gI (drS W0 ad o i c1) 102 o = gI W0 102 o := rfl
        have e2 : gI (drS W0 ad o i c1) 103 o = gI W0 103 o := rfl
        have e3 : aI (drS W0 ad o i c1) (ad 104) = aI W0 (ad 104) := by unfold drS; rw [aI_sI, aI_xI_nk _ _ _ _ (hM.ne (by decide) (by decide) (by decide)), aI_xI_nk _ _ _ _ (hM.ne (by decide) (by decide) (by decide))]
        have e4 : aI (drS W0 ad o i c1) (ad 105) = aI W0 (ad 105) := by unfold drS; rw [aI_sI, aI_xI_nk _ _ _ _ (hM.ne (by decide) (by decide) (by decide)), aI_xI_nk _ _ _ _ (hM.ne (by decide) (by decide) (by decide))]
        rw [e1, e2, e3, e4] at h0
        exact mv_sub [1, 2] rfl h0
  exact key P w hM hch hnd
end
section
set_option maxRecDepth 100000 in
set_option maxHeartbeats 4000000 in
theorem k_M_add (l : Launch) (w : mW) (o : Nat) (ad : Nat → Nat) (hM : MS w o ad) (k : Int32) (N : Nat) (x : Int64) (i0 : Nat) (hi0 : i0 < 1700) (hfree : aI w (ad 108) i0 = 0) (hbef : ∀ i, i < i0 → aI w (ad 108) i = 1) (P Fr : List Nat) (hch : lkI (aI w (ad 113)) 5100 (gI w 114 o) (P ++ Fr)) (hnd : (P ++ Fr).Nodup) (hlen : P.length = N) (hN : N ≤ 100) : mMet l y_M_add c_M_add 8 (some .long) 1 0 0 [vR (some o), vI k, vI (nI N), vJ x] w (fun v w' => v = some (vJ (ob i0)) ∧ w' = sI (sI (adL ad o i0 x (xI (xI (xI (xI (xI w (ad 104) i0 k) (ad 105) i0 (nI N)) (ad 107) i0 0) (ad 108) i0 1) (ad 106) i0 (-1)) P) 102 o (gI (xI (xI (xI (xI (xI w (ad 104) i0 k) (ad 105) i0 (nI N)) (ad 107) i0 0) (ad 108) i0 1) (ad 106) i0 (-1)) 102 o + cOf k (nI N))) 103 o (gI (xI (xI (xI (xI (xI w (ad 104) i0 k) (ad 105) i0 (nI N)) (ad 107) i0 0) (ad 108) i0 1) (ad 106) i0 (-1)) 103 o + 1)) := by
  refine mMet.of (by decide) (Nat.le_of_ble_eq_true rfl) ?_
  intro p e s m args below meth c D dA A X
  show mV p l e (mRm 1 0 0) s m args below meth c D dA A 8 w 0 0 _ 0 [(0, vR (some o)), (1, vI k), (2, vI (nI N)), (3, vJ x)] []
  refine mv_iconst (v := 0) X d_M_add_0 (by decide) ?_
  refine mv_istore (lv' := [(5, vI 0), (0, vR (some o)), (1, vI k), (2, vI (nI N)), (3, vJ x)]) X d_M_add_1 (by decide) rfl ?_
  have key : ∀ (n i : Nat), n + i = i0 → mV p l e (mRm 1 0 0) s m args below meth c D dA A 8 w 0 0 (MQ below (mQ D dA A (fun v w' => v = some (vJ (ob i0)) ∧ w' = sI (sI (adL ad o i0 x (xI (xI (xI (xI (xI w (ad 104) i0 k) (ad 105) i0 (nI N)) (ad 107) i0 0) (ad 108) i0 1) (ad 106) i0 (-1)) P) 102 o (gI (xI (xI (xI (xI (xI w (ad 104) i0 k) (ad 105) i0 (nI N)) (ad 107) i0 0) (ad 108) i0 1) (ad 106) i0 (-1)) 102 o + cOf k (nI N))) 103 o (gI (xI (xI (xI (xI (xI w (ad 104) i0 k) (ad 105) i0 (nI N)) (ad 107) i0 0) (ad 108) i0 1) (ad 106) i0 (-1)) 103 o + 1))) args s 0 0 A) 3 [(5, vI (nI i)), (0, vR (some o)), (1, vI k), (2, vI (nI N)), (3, vJ x)] [] := by
    intro n
    induction n with
    | zero =>
      intro i hn
      obtain rfl : i = i0 := by omega
      refine mv_aload_n X 1 d_M_add_3 rfl ?_
      refine mv_getr (w := w) X d_M_add_4 f_M_26 (mIs.one hM.1) hM.r108 ?_
      refine mv_iload X 0 d_M_add_7 rfl ?_
      refine mv_zald (x := 0) X d_M_add_9 rfl rfl hM.k108 rfl hi0 (by decide) hfree ?_
      refine mv_if_eq (tgt := 22) X d_M_add_10 (by decide) (fun h10 => ?_) (fun h10 => ?_)
      · refine mv_aload_n X 1 d_M_add_22 rfl ?_
        refine mv_getr (w := w) X d_M_add_23 f_M_13 (mIs.one hM.1) hM.r104 ?_
        refine mv_iload X 0 d_M_add_26 rfl ?_
        refine mv_iload_n X 2 d_M_add_28 rfl ?_
        refine mv_iast X d_M_add_29 rfl rfl hM.k104 rfl hi0 (by decide) ?_
        refine mv_aload_n X 1 d_M_add_30 rfl ?_
        refine mv_getr (w := (xI w (ad 104) i k)) X d_M_add_31 f_M_17 (mIs.one hM.1) hM.r105 ?_
        refine mv_iload X 0 d_M_add_34 rfl ?_
        refine mv_iload_n X 3 d_M_add_36 rfl ?_
        refine mv_iast X d_M_add_37 rfl rfl hM.k105 rfl hi0 (by decide) ?_
        refine mv_aload_n X 1 d_M_add_38 rfl ?_
        refine mv_getr (w := (xI (xI w (ad 104) i k) (ad 105) i (nI N))) X d_M_add_39 f_M_23 (mIs.one hM.1) hM.r107 ?_
        refine mv_iload X 0 d_M_add_42 rfl ?_
        refine mv_iconst (v := 0) X d_M_add_44 (by decide) ?_
        refine mv_iast X d_M_add_45 rfl rfl hM.k107 rfl hi0 (by decide) ?_
        refine mv_aload_n X 1 d_M_add_46 rfl ?_
        refine mv_getr (w := (xI (xI (xI w (ad 104) i k) (ad 105) i (nI N)) (ad 107) i 0)) X d_M_add_47 f_M_26 (mIs.one hM.1) hM.r108 ?_
        refine mv_iload X 0 d_M_add_50 rfl ?_
        refine mv_iconst (v := 1) X d_M_add_52 (by decide) ?_
        refine mv_zast X d_M_add_53 rfl rfl hM.k108 rfl hi0 (by decide) rfl ?_
        refine mv_aload_n X 1 d_M_add_54 rfl ?_
        refine mv_getr (w := (xI (xI (xI (xI w (ad 104) i k) (ad 105) i (nI N)) (ad 107) i 0) (ad 108) i 1)) X d_M_add_55 f_M_20 (mIs.one hM.1) hM.r106 ?_
        refine mv_iload X 0 d_M_add_58 rfl ?_
        refine mv_iconst (v := (-1)) X d_M_add_60 (by decide) ?_
        refine mv_iast X d_M_add_61 rfl rfl hM.k106 rfl hi0 (by decide) ?_
        refine mv_iconst (v := 0) X d_M_add_62 (by decide) ?_
        refine mv_istore (lv' := [(6, vI 0), (5, vI (nI i)), (0, vR (some o)), (1, vI k), (2, vI (nI N)), (3, vJ x)]) X d_M_add_63 (by decide) rfl ?_
        have key2 : ∀ (P : List Nat) (W1 : mW) (t : Nat), MS W1 o ad → lkI (aI W1 (ad 113)) 5100 (gI W1 114 o) (P ++ Fr) → (P ++ Fr).Nodup → t + P.length = N → mV p l e (mRm 1 0 0) s m args below meth c D dA A 8 W1 0 0 (MQ below (mQ D dA A (fun v w' => v = some (vJ (ob i)) ∧ w' = sI (sI (adL ad o i x W1 P) 102 o (gI W1 102 o + cOf k (nI N))) 103 o (gI W1 103 o + 1))) args s 0 0 A) 65 [(6, vI (nI t)), (5, vI (nI i)), (0, vR (some o)), (1, vI k), (2, vI (nI N)), (3, vJ x)] [] := by
          intro P
          induction P with
          | nil =>
            intro W1 t hM hch hnd hlen
            have htN : t = N := by simpa using hlen
            refine mv_iload X 0 d_M_add_65 rfl ?_
            refine mv_iload_n X 4 d_M_add_67 rfl ?_
            refine mv_icmp_ge (tgt := 125) X d_M_add_68 (by decide) (fun h68 => ?_) (fun h68 => ?_)
            · refine mv_aload_n X 2 d_M_add_125 rfl ?_
              refine mv_aload_n X 2 d_M_add_126 rfl ?_
              refine mv_geti (w := W1) X d_M_add_127 f_M_70 (mIs.one hM.1) rfl ?_
              refine mv_iload_n X 3 d_M_add_130 rfl ?_
              refine mv_iload_n X 4 d_M_add_131 rfl ?_
              refine mv_calls X [vI k, vI (nI N)] [vI (gI W1 102 o), vR (some o)] (k_M_cellsOf l W1 k (nI N)) d_M_add_132 cs_M_79 ⟨Nat.le_of_ble_eq_true rfl, Nat.le_of_ble_eq_true rfl⟩ ⟨Nat.le_of_ble_eq_true rfl, Nat.le_of_ble_eq_true rfl⟩ rfl (Nat.le_of_ble_eq_true rfl) (fun v132 w132 hp132 => ?_)
              obtain ⟨rfl, rfl⟩ := hp132
              refine mv_iadd X d_M_add_135 ?_
              refine mv_puti X d_M_add_136 f_M_70 (mIs.one hM.1) rfl rfl ?_
              refine mv_aload_n X 2 d_M_add_139 rfl ?_
              refine mv_aload_n X 2 d_M_add_140 rfl ?_
              refine mv_geti (w := (sI W1 102 o ((gI W1 102 o) + (cOf k (nI N))))) X d_M_add_141 f_M_83 (mIs.one hM.1) rfl ?_
              refine mv_iconst (v := 1) X d_M_add_144 (by decide) ?_
              refine mv_iadd X d_M_add_145 ?_
              refine mv_puti X d_M_add_146 f_M_83 (mIs.one hM.1) rfl rfl ?_
              refine mv_ldc2 (v := 25769803776) X d_M_add_149 (mA (by decide +kernel) (by decide +kernel)) ?_
              refine mv_iload X 1 d_M_add_152 rfl ?_
              refine mv_i2l (v := Int32.toInt64 (nI i)) X d_M_add_154 rfl ?_
              refine mv_lor X d_M_add_155 ?_
              exact mv_ret_j X d_M_add_156 rfl (Nat.le_of_ble_eq_true rfl) (Nat.le_of_ble_eq_true rfl) (⟨rfl, rfl⟩)
            · exact absurd (nI_le (show N ≤ t by omega) (by omega)) h68
          | cons c1 P ih =>
            intro W1 t hM hch hnd hlen
            have hlt : t < N := by simp at hlen; omega
            obtain ⟨hc1, hc2, hc3⟩ := id hch
            have hn1 : c1 ∉ P ++ Fr := (List.nodup_cons.mp hnd).1
            refine mv_iload X 0 d_M_add_65 rfl ?_
            refine mv_iload_n X 4 d_M_add_67 rfl ?_
            refine mv_icmp_ge (tgt := 125) X d_M_add_68 (by decide) (fun h68 => ?_) (fun h68 => ?_)
            · exact absurd h68 (nI_ge hlt (by omega))
            · refine mv_aload_n X 2 d_M_add_71 rfl ?_
              refine mv_geti (w := W1) X d_M_add_72 f_M_76 (mIs.one hM.1) hc1 ?_
              refine mv_istore (lv' := [(7, vI (nI c1)), (6, vI (nI t)), (5, vI (nI i)), (0, vR (some o)), (1, vI k), (2, vI (nI N)), (3, vJ x)]) X d_M_add_75 (by decide) rfl ?_
              refine mv_aload_n X 3 d_M_add_77 rfl ?_
              refine mv_aload_n X 3 d_M_add_78 rfl ?_
              refine mv_getr (w := W1) X d_M_add_79 f_M_39 (mIs.one hM.1) hM.r113 ?_
              refine mv_iload X 0 d_M_add_82 rfl ?_
              refine mv_iald (x := aI W1 (ad 113) c1) X d_M_add_84 rfl rfl hM.k113 rfl hc2 (by decide) rfl ?_
              refine mv_puti X d_M_add_85 f_M_76 (mIs.one hM.1) rfl rfl ?_
              refine mv_aload_n X 3 d_M_add_88 rfl ?_
              refine mv_getr (w := (sI W1 114 o (aI W1 (ad 113) c1))) X d_M_add_89 f_M_36 (mIs.one hM.1) hM.r112 ?_
              refine mv_iload X 0 d_M_add_92 rfl ?_
              refine mv_lload_n X 6 d_M_add_94 rfl ?_
              refine mv_last X d_M_add_95 rfl rfl hM.k112 rfl hc2 (by decide) ?_
              refine mv_aload_n X 3 d_M_add_96 rfl ?_
              refine mv_getr (w := (xJ (sI W1 114 o (aI W1 (ad 113) c1)) (ad 112) c1 x)) X d_M_add_97 f_M_39 (mIs.one hM.1) hM.r113 ?_
              refine mv_iload X 0 d_M_add_100 rfl ?_
              refine mv_aload_n X 3 d_M_add_102 rfl ?_
              refine mv_getr (w := (xJ (sI W1 114 o (aI W1 (ad 113) c1)) (ad 112) c1 x)) X d_M_add_103 f_M_20 (mIs.one hM.1) hM.r106 ?_
              refine mv_iload X 2 d_M_add_106 rfl ?_
              refine mv_iald (x := aI W1 (ad 106) i) X d_M_add_108 rfl rfl hM.k106 rfl hi0 (by decide) rfl ?_
              refine mv_iast X d_M_add_109 rfl rfl hM.k113 rfl hc2 (by decide) ?_
              refine mv_aload_n X 3 d_M_add_110 rfl ?_
              refine mv_getr (w := (xI (xJ (sI W1 114 o (aI W1 (ad 113) c1)) (ad 112) c1 x) (ad 113) c1 (aI W1 (ad 106) i))) X d_M_add_111 f_M_20 (mIs.one hM.1) hM.r106 ?_
              refine mv_iload X 2 d_M_add_114 rfl ?_
              refine mv_iload X 0 d_M_add_116 rfl ?_
              refine mv_iast X d_M_add_118 rfl rfl hM.k106 rfl hi0 (by decide) ?_
              refine mv_iinc (v := nI (t + 1)) (lv' := [(6, vI (nI (t + 1))), (7, vI (nI c1)), (5, vI (nI i)), (0, vR (some o)), (1, vI k), (2, vI (nI N)), (3, vJ x)]) X 1 d_M_add_119 rfl (nI_1 t) (by decide) rfl ?_
              refine mv_goto (tgt := 65) X d_M_add_122 (by decide) ?_
              have h0 := ih (adS W1 ad o i x c1) (t + 1) (hM.to rfl rfl) (adS_lk (hM.ne (by decide) (by decide) (by decide)) hch hn1) (List.nodup_cons.mp hnd).2 (by simp at hlen; omega)
              have e1 : gI (adS W1 ad o i x c1) 102 o = gI W1 102 o := rfl
              have e2 : gI (adS W1 ad o i x c1) 103 o = gI W1 103 o := rfl
              rw [e1, e2] at h0
              exact mv_sub [0, 2, 3, 4, 5, 6] rfl h0
        have hch0 : lkI (aI (xI (xI (xI (xI (xI w (ad 104) i k) (ad 105) i (nI N)) (ad 107) i 0) (ad 108) i 1) (ad 106) i (-1)) (ad 113)) 5100 (gI (xI (xI (xI (xI (xI w (ad 104) i k) (ad 105) i (nI N)) (ad 107) i 0) (ad 108) i 1) (ad 106) i (-1)) 114 o) (P ++ Fr) := by
          refine lkI_congr hch (fun d _ => ?_)
          rw [aI_xI_ne _ _ _ _ (hM.ne (by decide) (by decide) (by decide)), aI_xI_ne _ _ _ _ (hM.ne (by decide) (by decide) (by decide)), aI_xI_ne _ _ _ _ (hM.ne (by decide) (by decide) (by decide)), aI_xI_ne _ _ _ _ (hM.ne (by decide) (by decide) (by decide)), aI_xI_ne _ _ _ _ (hM.ne (by decide) (by decide) (by decide))]
        exact mv_sub [0, 1, 2, 3, 4, 5] rfl (key2 P (xI (xI (xI (xI (xI w (ad 104) i k) (ad 105) i (nI N)) (ad 107) i 0) (ad 108) i 1) (ad 106) i (-1)) 0 (hM.to rfl rfl) hch0 hnd (by omega))
      · exact absurd rfl h10
    | succ n ih =>
      intro i hn
      refine mv_aload_n X 1 d_M_add_3 rfl ?_
      refine mv_getr (w := w) X d_M_add_4 f_M_26 (mIs.one hM.1) hM.r108 ?_
      refine mv_iload X 0 d_M_add_7 rfl ?_
      refine mv_zald (x := 1) X d_M_add_9 rfl rfl hM.k108 rfl (by omega) (by decide) (hbef i (by omega)) ?_
      refine mv_if_eq (tgt := 22) X d_M_add_10 (by decide) (fun h10 => ?_) (fun h10 => ?_)
      · exact absurd h10 (by decide)
      · refine mv_iload X 0 d_M_add_13 rfl ?_
        refine mv_iconst (v := 1) X d_M_add_15 (by decide) ?_
        refine mv_iadd X d_M_add_16 ?_
        refine mv_istore (lv' := [(5, vI ((nI i) + 1)), (0, vR (some o)), (1, vI k), (2, vI (nI N)), (3, vJ x)]) X d_M_add_17 (by decide) rfl ?_
        refine mv_goto (tgt := 3) X d_M_add_19 (by decide) ?_
        have h0 := ih (i + 1) (by omega)
        rw [← nI_1] at h0
        exact mv_sub [0, 1, 2, 3, 4] rfl h0
  exact key i0 0 (by omega)
end
