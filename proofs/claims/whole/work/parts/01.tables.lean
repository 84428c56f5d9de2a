/-- a private method of a class that the tables say can be made, by its rows of tables_1 -/
def lw_okq (q : MethodName × Nat) : Prop := (q.1.cls ≠ "java/lang/invoke/MethodHandle" ∧ q.1.cls ≠ "java/lang/invoke/VarHandle") ∧ Cond.instantiable q.1.cls q.2 ∈ tables_1 ∧ Cond.privateMethod q.1 ∈ tables_1 ∧ Cond.instanceMethod q.1 ∈ tables_1
theorem lw_p0 : lw_okq (⟨"VisibleHeap", "valueIn", "(I)LVisibleHeap$Value;"⟩, 10) := ⟨⟨by decide +kernel, by decide +kernel⟩, List.mem_of_getElem? (i := 15) (by decide +kernel), List.mem_of_getElem? (i := 117) (by decide +kernel), List.mem_of_getElem? (i := 118) (by decide +kernel)⟩
theorem lw_p1 : lw_okq (⟨"VisibleHeap", "findRoom", "(I)Z"⟩, 10) := ⟨⟨by decide +kernel, by decide +kernel⟩, List.mem_of_getElem? (i := 15) (by decide +kernel), List.mem_of_getElem? (i := 268) (by decide +kernel), List.mem_of_getElem? (i := 269) (by decide +kernel)⟩
theorem lw_p2 : lw_okq (⟨"VisibleHeap", "collectDead", "()V"⟩, 10) := ⟨⟨by decide +kernel, by decide +kernel⟩, List.mem_of_getElem? (i := 15) (by decide +kernel), List.mem_of_getElem? (i := 272) (by decide +kernel), List.mem_of_getElem? (i := 273) (by decide +kernel)⟩
theorem lw_p3 : lw_okq (⟨"VisibleHeap", "reckonLive", "()V"⟩, 10) := ⟨⟨by decide +kernel, by decide +kernel⟩, List.mem_of_getElem? (i := 15) (by decide +kernel), List.mem_of_getElem? (i := 276) (by decide +kernel), List.mem_of_getElem? (i := 277) (by decide +kernel)⟩
theorem lw_p4 : lw_okq (⟨"VisibleHeap", "reachRoots", "()V"⟩, 10) := ⟨⟨by decide +kernel, by decide +kernel⟩, List.mem_of_getElem? (i := 15) (by decide +kernel), List.mem_of_getElem? (i := 280) (by decide +kernel), List.mem_of_getElem? (i := 281) (by decide +kernel)⟩
theorem lw_p5 : lw_okq (⟨"VisibleHeap", "keepLiveOnly", "()V"⟩, 10) := ⟨⟨by decide +kernel, by decide +kernel⟩, List.mem_of_getElem? (i := 15) (by decide +kernel), List.mem_of_getElem? (i := 353) (by decide +kernel), List.mem_of_getElem? (i := 354) (by decide +kernel)⟩
theorem lw_p6 : lw_okq (⟨"VisibleHeap", "keep", "(LVisibleHeap$Thing;)V"⟩, 10) := ⟨⟨by decide +kernel, by decide +kernel⟩, List.mem_of_getElem? (i := 15) (by decide +kernel), List.mem_of_getElem? (i := 357) (by decide +kernel), List.mem_of_getElem? (i := 358) (by decide +kernel)⟩
theorem lw_p7 : lw_okq (⟨"VisibleHeap", "addEntry", "(LVisibleHeap$Table;LVisibleHeap$Tie;)V"⟩, 10) := ⟨⟨by decide +kernel, by decide +kernel⟩, List.mem_of_getElem? (i := 15) (by decide +kernel), List.mem_of_getElem? (i := 430) (by decide +kernel), List.mem_of_getElem? (i := 431) (by decide +kernel)⟩
theorem lw_p8 : lw_okq (⟨"VisibleHeap", "numberOf", "(LVisibleHeap$Value;)I"⟩, 10) := ⟨⟨by decide +kernel, by decide +kernel⟩, List.mem_of_getElem? (i := 15) (by decide +kernel), List.mem_of_getElem? (i := 459) (by decide +kernel), List.mem_of_getElem? (i := 460) (by decide +kernel)⟩
theorem lw_p9 : lw_okq (⟨"VisibleHeap", "identityOf", "(LVisibleHeap$Thing;)I"⟩, 10) := ⟨⟨by decide +kernel, by decide +kernel⟩, List.mem_of_getElem? (i := 15) (by decide +kernel), List.mem_of_getElem? (i := 463) (by decide +kernel), List.mem_of_getElem? (i := 464) (by decide +kernel)⟩
theorem lw_p10 : lw_okq (⟨"VisibleHeapModel", "room", "(I)Z"⟩, 23) := ⟨⟨by decide +kernel, by decide +kernel⟩, List.mem_of_getElem? (i := 490) (by decide +kernel), List.mem_of_getElem? (i := 589) (by decide +kernel), List.mem_of_getElem? (i := 590) (by decide +kernel)⟩
theorem lw_p11 : lw_okq (⟨"VisibleHeapModel", "gather", "()V"⟩, 23) := ⟨⟨by decide +kernel, by decide +kernel⟩, List.mem_of_getElem? (i := 490) (by decide +kernel), List.mem_of_getElem? (i := 593) (by decide +kernel), List.mem_of_getElem? (i := 594) (by decide +kernel)⟩
theorem lw_p12 : lw_okq (⟨"VisibleHeapModel", "reckon", "()V"⟩, 23) := ⟨⟨by decide +kernel, by decide +kernel⟩, List.mem_of_getElem? (i := 490) (by decide +kernel), List.mem_of_getElem? (i := 597) (by decide +kernel), List.mem_of_getElem? (i := 598) (by decide +kernel)⟩
theorem lw_p13 : lw_okq (⟨"VisibleHeapModel", "mark", "(J)V"⟩, 23) := ⟨⟨by decide +kernel, by decide +kernel⟩, List.mem_of_getElem? (i := 490) (by decide +kernel), List.mem_of_getElem? (i := 601) (by decide +kernel), List.mem_of_getElem? (i := 602) (by decide +kernel)⟩
theorem lw_p14 : lw_okq (⟨"VisibleHeapModel", "isLive", "(J)Z"⟩, 23) := ⟨⟨by decide +kernel, by decide +kernel⟩, List.mem_of_getElem? (i := 490) (by decide +kernel), List.mem_of_getElem? (i := 605) (by decide +kernel), List.mem_of_getElem? (i := 606) (by decide +kernel)⟩
theorem lw_p15 : lw_okq (⟨"VisibleHeapModel", "follow", "()V"⟩, 23) := ⟨⟨by decide +kernel, by decide +kernel⟩, List.mem_of_getElem? (i := 490) (by decide +kernel), List.mem_of_getElem? (i := 613) (by decide +kernel), List.mem_of_getElem? (i := 614) (by decide +kernel)⟩
def lw_privs_1 : List (MethodName × Nat) := [(⟨"VisibleHeap", "valueIn", "(I)LVisibleHeap$Value;"⟩, 10), (⟨"VisibleHeap", "findRoom", "(I)Z"⟩, 10), (⟨"VisibleHeap", "collectDead", "()V"⟩, 10), (⟨"VisibleHeap", "reckonLive", "()V"⟩, 10), (⟨"VisibleHeap", "reachRoots", "()V"⟩, 10), (⟨"VisibleHeap", "keepLiveOnly", "()V"⟩, 10), (⟨"VisibleHeap", "keep", "(LVisibleHeap$Thing;)V"⟩, 10), (⟨"VisibleHeap", "addEntry", "(LVisibleHeap$Table;LVisibleHeap$Tie;)V"⟩, 10), (⟨"VisibleHeap", "numberOf", "(LVisibleHeap$Value;)I"⟩, 10), (⟨"VisibleHeap", "identityOf", "(LVisibleHeap$Thing;)I"⟩, 10), (⟨"VisibleHeapModel", "room", "(I)Z"⟩, 23), (⟨"VisibleHeapModel", "gather", "()V"⟩, 23), (⟨"VisibleHeapModel", "reckon", "()V"⟩, 23), (⟨"VisibleHeapModel", "mark", "(J)V"⟩, 23), (⟨"VisibleHeapModel", "isLive", "(J)Z"⟩, 23), (⟨"VisibleHeapModel", "follow", "()V"⟩, 23)]
theorem lw_r1 : ∀ q ∈ lw_privs_1, lw_okq q := List.forall_mem_cons.mpr ⟨lw_p0, List.forall_mem_cons.mpr ⟨lw_p1, List.forall_mem_cons.mpr ⟨lw_p2, List.forall_mem_cons.mpr ⟨lw_p3, List.forall_mem_cons.mpr ⟨lw_p4, List.forall_mem_cons.mpr ⟨lw_p5, List.forall_mem_cons.mpr ⟨lw_p6, List.forall_mem_cons.mpr ⟨lw_p7, List.forall_mem_cons.mpr ⟨lw_p8, List.forall_mem_cons.mpr ⟨lw_p9, List.forall_mem_cons.mpr ⟨lw_p10, List.forall_mem_cons.mpr ⟨lw_p11, List.forall_mem_cons.mpr ⟨lw_p12, List.forall_mem_cons.mpr ⟨lw_p13, List.forall_mem_cons.mpr ⟨lw_p14, List.forall_mem_cons.mpr ⟨lw_p15, fun _ h => absurd h List.not_mem_nil⟩⟩⟩⟩⟩⟩⟩⟩⟩⟩⟩⟩⟩⟩⟩⟩
theorem lw_p16 : lw_okq (⟨"VisibleHeapModel", "round", "()Z"⟩, 23) := ⟨⟨by decide +kernel, by decide +kernel⟩, List.mem_of_getElem? (i := 490) (by decide +kernel), List.mem_of_getElem? (i := 617) (by decide +kernel), List.mem_of_getElem? (i := 618) (by decide +kernel)⟩
theorem lw_p17 : lw_okq (⟨"VisibleHeapModel", "field", "(JI)J"⟩, 23) := ⟨⟨by decide +kernel, by decide +kernel⟩, List.mem_of_getElem? (i := 490) (by decide +kernel), List.mem_of_getElem? (i := 622) (by decide +kernel), List.mem_of_getElem? (i := 623) (by decide +kernel)⟩
theorem lw_p18 : lw_okq (⟨"VisibleHeapModel", "cellAt", "(JI)I"⟩, 23) := ⟨⟨by decide +kernel, by decide +kernel⟩, List.mem_of_getElem? (i := 490) (by decide +kernel), List.mem_of_getElem? (i := 626) (by decide +kernel), List.mem_of_getElem? (i := 627) (by decide +kernel)⟩
theorem lw_p19 : lw_okq (⟨"VisibleHeapModel", "entries", "(J)Z"⟩, 23) := ⟨⟨by decide +kernel, by decide +kernel⟩, List.mem_of_getElem? (i := 490) (by decide +kernel), List.mem_of_getElem? (i := 630) (by decide +kernel), List.mem_of_getElem? (i := 631) (by decide +kernel)⟩
theorem lw_p20 : lw_okq (⟨"VisibleHeapModel", "setField", "(JIJ)V"⟩, 23) := ⟨⟨by decide +kernel, by decide +kernel⟩, List.mem_of_getElem? (i := 490) (by decide +kernel), List.mem_of_getElem? (i := 635) (by decide +kernel), List.mem_of_getElem? (i := 636) (by decide +kernel)⟩
theorem lw_p21 : lw_okq (⟨"VisibleHeapModel", "thin", "(J)V"⟩, 23) := ⟨⟨by decide +kernel, by decide +kernel⟩, List.mem_of_getElem? (i := 490) (by decide +kernel), List.mem_of_getElem? (i := 639) (by decide +kernel), List.mem_of_getElem? (i := 640) (by decide +kernel)⟩
theorem lw_p22 : lw_okq (⟨"VisibleHeapModel", "drop", "(I)V"⟩, 23) := ⟨⟨by decide +kernel, by decide +kernel⟩, List.mem_of_getElem? (i := 490) (by decide +kernel), List.mem_of_getElem? (i := 643) (by decide +kernel), List.mem_of_getElem? (i := 644) (by decide +kernel)⟩
theorem lw_p23 : lw_okq (⟨"VisibleHeapModel", "add", "(IIJ)J"⟩, 23) := ⟨⟨by decide +kernel, by decide +kernel⟩, List.mem_of_getElem? (i := 490) (by decide +kernel), List.mem_of_getElem? (i := 647) (by decide +kernel), List.mem_of_getElem? (i := 648) (by decide +kernel)⟩
theorem lw_p24 : lw_okq (⟨"VisibleHeapModel", "shown", "(J)I"⟩, 23) := ⟨⟨by decide +kernel, by decide +kernel⟩, List.mem_of_getElem? (i := 490) (by decide +kernel), List.mem_of_getElem? (i := 655) (by decide +kernel), List.mem_of_getElem? (i := 656) (by decide +kernel)⟩
theorem lw_p25 : lw_okq (⟨"VisibleHeapModel", "is", "(JI)Z"⟩, 23) := ⟨⟨by decide +kernel, by decide +kernel⟩, List.mem_of_getElem? (i := 490) (by decide +kernel), List.mem_of_getElem? (i := 663) (by decide +kernel), List.mem_of_getElem? (i := 664) (by decide +kernel)⟩
theorem lw_p26 : lw_okq (⟨"VisibleHeapModel", "entryOf", "(JJ)J"⟩, 23) := ⟨⟨by decide +kernel, by decide +kernel⟩, List.mem_of_getElem? (i := 490) (by decide +kernel), List.mem_of_getElem? (i := 671) (by decide +kernel), List.mem_of_getElem? (i := 672) (by decide +kernel)⟩
theorem lw_p27 : lw_okq (⟨"VisibleHeapModel", "entryCount", "(J)I"⟩, 23) := ⟨⟨by decide +kernel, by decide +kernel⟩, List.mem_of_getElem? (i := 490) (by decide +kernel), List.mem_of_getElem? (i := 695) (by decide +kernel), List.mem_of_getElem? (i := 696) (by decide +kernel)⟩
def lw_privs_2 : List (MethodName × Nat) := [(⟨"VisibleHeapModel", "round", "()Z"⟩, 23), (⟨"VisibleHeapModel", "field", "(JI)J"⟩, 23), (⟨"VisibleHeapModel", "cellAt", "(JI)I"⟩, 23), (⟨"VisibleHeapModel", "entries", "(J)Z"⟩, 23), (⟨"VisibleHeapModel", "setField", "(JIJ)V"⟩, 23), (⟨"VisibleHeapModel", "thin", "(J)V"⟩, 23), (⟨"VisibleHeapModel", "drop", "(I)V"⟩, 23), (⟨"VisibleHeapModel", "add", "(IIJ)J"⟩, 23), (⟨"VisibleHeapModel", "shown", "(J)I"⟩, 23), (⟨"VisibleHeapModel", "is", "(JI)Z"⟩, 23), (⟨"VisibleHeapModel", "entryOf", "(JJ)J"⟩, 23), (⟨"VisibleHeapModel", "entryCount", "(J)I"⟩, 23)]
theorem lw_r2 : ∀ q ∈ lw_privs_2, lw_okq q := List.forall_mem_cons.mpr ⟨lw_p16, List.forall_mem_cons.mpr ⟨lw_p17, List.forall_mem_cons.mpr ⟨lw_p18, List.forall_mem_cons.mpr ⟨lw_p19, List.forall_mem_cons.mpr ⟨lw_p20, List.forall_mem_cons.mpr ⟨lw_p21, List.forall_mem_cons.mpr ⟨lw_p22, List.forall_mem_cons.mpr ⟨lw_p23, List.forall_mem_cons.mpr ⟨lw_p24, List.forall_mem_cons.mpr ⟨lw_p25, List.forall_mem_cons.mpr ⟨lw_p26, List.forall_mem_cons.mpr ⟨lw_p27, fun _ h => absurd h List.not_mem_nil⟩⟩⟩⟩⟩⟩⟩⟩⟩⟩⟩⟩
def lw_privs : List (MethodName × Nat) := lw_privs_1 ++ (lw_privs_2)
def lw_tbl : List Cond := k2_sels lw_privs ++ tables_1
theorem lw_privs_ok : ∀ q ∈ lw_privs, lw_okq q := by
  show ∀ q ∈ lw_privs_1 ++ (lw_privs_2), lw_okq q
  exact List.forall_mem_append.mpr ⟨lw_r1, lw_r2⟩

def T_M : u_T := fun k => match k with
  | 0 => ("VisibleHeapModel", "cells", "I", true)
  | 1 => ("VisibleHeapModel", "registers", "[J", true)
  | 2 => ("VisibleHeapModel", "used", "I", false)
  | 3 => ("VisibleHeapModel", "objects", "I", false)
  | 4 => ("VisibleHeapModel", "kinds", "[I", true)
  | 5 => ("VisibleHeapModel", "many", "[I", true)
  | 6 => ("VisibleHeapModel", "first", "[I", true)
  | 7 => ("VisibleHeapModel", "number", "[I", true)
  | 8 => ("VisibleHeapModel", "there", "[Z", true)
  | 9 => ("VisibleHeapModel", "live", "[Z", true)
  | 10 => ("VisibleHeapModel", "marks", "[I", true)
  | 11 => ("VisibleHeapModel", "marked", "I", false)
  | 12 => ("VisibleHeapModel", "fields", "[J", true)
  | 13 => ("VisibleHeapModel", "behind", "[I", true)
  | 14 => ("VisibleHeapModel", "free", "I", false)
  | 15 => ("VisibleHeapModel", "registered", "I", false)
  | 16 => ("VisibleHeapModel", "regObject", "[J", true)
  | 17 => ("VisibleHeapModel", "regValue", "[J", true)
  | 18 => ("VisibleHeapModel", "queued", "I", false)
  | 19 => ("VisibleHeapModel", "queueObject", "[J", true)
  | 20 => ("VisibleHeapModel", "queueValue", "[J", true)
  | 21 => ("VisibleHeapModel", "collections", "I", false)
  | _ => ("VisibleHeapModel", "numbers", "I", false)
def ty_M : Nat → FieldType := fun k => match k with
  | 0 => .int
  | 1 => .array .long
  | 2 => .int
  | 3 => .int
  | 4 => .array .int
  | 5 => .array .int
  | 6 => .array .int
  | 7 => .array .int
  | 8 => .array .boolean
  | 9 => .array .boolean
  | 10 => .array .int
  | 11 => .int
  | 12 => .array .long
  | 13 => .array .int
  | 14 => .int
  | 15 => .int
  | 16 => .array .long
  | 17 => .array .long
  | 18 => .int
  | 19 => .array .long
  | 20 => .array .long
  | 21 => .int
  | _ => .int
def T_H : u_T := fun k => match k with
  | 0 => ("VisibleHeap", "cells", "I", true)
  | 1 => ("VisibleHeap", "registers", "[LVisibleHeap$Value;", true)
  | 2 => ("VisibleHeap", "registrations", "LVisibleHeap$TieList;", true)
  | 3 => ("VisibleHeap", "queue", "LVisibleHeap$TieList;", true)
  | 4 => ("VisibleHeap", "reckoning", "LVisibleHeap$Reckoning;", true)
  | 5 => ("VisibleHeap", "newest", "LVisibleHeap$Thing;", false)
  | 6 => ("VisibleHeap", "cellsInUse", "I", false)
  | 7 => ("VisibleHeap", "objects", "I", false)
  | 8 => ("VisibleHeap", "collections", "I", false)
  | _ => ("VisibleHeap", "identities", "I", false)
def ty_H : Nat → FieldType := fun k => match k with
  | 0 => .int
  | 1 => .array (.object "VisibleHeap$Value")
  | 2 => .object "VisibleHeap$TieList"
  | 3 => .object "VisibleHeap$TieList"
  | 4 => .object "VisibleHeap$Reckoning"
  | 5 => .object "VisibleHeap$Thing"
  | 6 => .int
  | 7 => .int
  | 8 => .int
  | _ => .int
def T_Num : u_T := fun k => match k with
  | 0 => ("VisibleHeap$Num", "amount", "I", true)
  | _ => ("VisibleHeap$Value", "kind", "I", true)
def ty_Num : Nat → FieldType := fun k => match k with
  | 0 => .int
  | _ => .int
def T_Row : u_T := fun k => match k with
  | 0 => ("VisibleHeap$Row", "values", "[LVisibleHeap$Value;", true)
  | 1 => ("VisibleHeap$Thing", "identity", "I", false)
  | 2 => ("VisibleHeap$Thing", "live", "Z", false)
  | 3 => ("VisibleHeap$Thing", "older", "LVisibleHeap$Thing;", false)
  | 4 => ("VisibleHeap$Thing", "reachedBefore", "LVisibleHeap$Thing;", false)
  | 5 => ("VisibleHeap$Thing", "waiting", "LVisibleHeap$Tie;", false)
  | _ => ("VisibleHeap$Value", "kind", "I", true)
def ty_Row : Nat → FieldType := fun k => match k with
  | 0 => .array (.object "VisibleHeap$Value")
  | 1 => .int
  | 2 => .boolean
  | 3 => .object "VisibleHeap$Thing"
  | 4 => .object "VisibleHeap$Thing"
  | 5 => .object "VisibleHeap$Tie"
  | _ => .int
def T_Weak : u_T := fun k => match k with
  | 0 => ("VisibleHeap$Weak", "value", "LVisibleHeap$Value;", false)
  | 1 => ("VisibleHeap$Thing", "identity", "I", false)
  | 2 => ("VisibleHeap$Thing", "live", "Z", false)
  | 3 => ("VisibleHeap$Thing", "older", "LVisibleHeap$Thing;", false)
  | 4 => ("VisibleHeap$Thing", "reachedBefore", "LVisibleHeap$Thing;", false)
  | 5 => ("VisibleHeap$Thing", "waiting", "LVisibleHeap$Tie;", false)
  | _ => ("VisibleHeap$Value", "kind", "I", true)
def ty_Weak : Nat → FieldType := fun k => match k with
  | 0 => .object "VisibleHeap$Value"
  | 1 => .int
  | 2 => .boolean
  | 3 => .object "VisibleHeap$Thing"
  | 4 => .object "VisibleHeap$Thing"
  | 5 => .object "VisibleHeap$Tie"
  | _ => .int
def T_Eph : u_T := fun k => match k with
  | 0 => ("VisibleHeap$Ephemeron", "tie", "LVisibleHeap$Tie;", true)
  | 1 => ("VisibleHeap$Thing", "identity", "I", false)
  | 2 => ("VisibleHeap$Thing", "live", "Z", false)
  | 3 => ("VisibleHeap$Thing", "older", "LVisibleHeap$Thing;", false)
  | 4 => ("VisibleHeap$Thing", "reachedBefore", "LVisibleHeap$Thing;", false)
  | 5 => ("VisibleHeap$Thing", "waiting", "LVisibleHeap$Tie;", false)
  | _ => ("VisibleHeap$Value", "kind", "I", true)
def ty_Eph : Nat → FieldType := fun k => match k with
  | 0 => .object "VisibleHeap$Tie"
  | 1 => .int
  | 2 => .boolean
  | 3 => .object "VisibleHeap$Thing"
  | 4 => .object "VisibleHeap$Thing"
  | 5 => .object "VisibleHeap$Tie"
  | _ => .int
def T_Tab : u_T := fun k => match k with
  | 0 => ("VisibleHeap$Table", "entries", "LVisibleHeap$TieList;", true)
  | 1 => ("VisibleHeap$Thing", "identity", "I", false)
  | 2 => ("VisibleHeap$Thing", "live", "Z", false)
  | 3 => ("VisibleHeap$Thing", "older", "LVisibleHeap$Thing;", false)
  | 4 => ("VisibleHeap$Thing", "reachedBefore", "LVisibleHeap$Thing;", false)
  | 5 => ("VisibleHeap$Thing", "waiting", "LVisibleHeap$Tie;", false)
  | _ => ("VisibleHeap$Value", "kind", "I", true)
def ty_Tab : Nat → FieldType := fun k => match k with
  | 0 => .object "VisibleHeap$TieList"
  | 1 => .int
  | 2 => .boolean
  | 3 => .object "VisibleHeap$Thing"
  | 4 => .object "VisibleHeap$Thing"
  | 5 => .object "VisibleHeap$Tie"
  | _ => .int
def T_Tie : u_T := fun k => match k with
  | 0 => ("VisibleHeap$Tie", "key", "LVisibleHeap$Value;", false)
  | 1 => ("VisibleHeap$Tie", "value", "LVisibleHeap$Value;", false)
  | 2 => ("VisibleHeap$Tie", "after", "LVisibleHeap$Tie;", false)
  | _ => ("VisibleHeap$Tie", "waitingAfter", "LVisibleHeap$Tie;", false)
def ty_Tie : Nat → FieldType := fun k => match k with
  | 0 => .object "VisibleHeap$Value"
  | 1 => .object "VisibleHeap$Value"
  | 2 => .object "VisibleHeap$Tie"
  | _ => .object "VisibleHeap$Tie"
def T_TL : u_T := fun k => match k with
  | 0 => ("VisibleHeap$TieList", "first", "LVisibleHeap$Tie;", false)
  | 1 => ("VisibleHeap$TieList", "last", "LVisibleHeap$Tie;", false)
  | _ => ("VisibleHeap$TieList", "size", "I", false)
def ty_TL : Nat → FieldType := fun k => match k with
  | 0 => .object "VisibleHeap$Tie"
  | 1 => .object "VisibleHeap$Tie"
  | _ => .int
def T_Rk : u_T := fun k => match k with
  | _ => ("VisibleHeap$Reckoning", "lastReached", "LVisibleHeap$Thing;", false)
def ty_Rk : Nat → FieldType := fun k => match k with
  | _ => .object "VisibleHeap$Thing"
abbrev vwCl : List vw_C := [("VisibleHeapModel", T_M, 23), ("VisibleHeap", T_H, 10), ("VisibleHeap$Num", T_Num, 2), ("VisibleHeap$Row", T_Row, 7), ("VisibleHeap$Weak", T_Weak, 7), ("VisibleHeap$Ephemeron", T_Eph, 7), ("VisibleHeap$Table", T_Tab, 7), ("VisibleHeap$Tie", T_Tie, 4), ("VisibleHeap$TieList", T_TL, 3), ("VisibleHeap$Reckoning", T_Rk, 1)]
def fg (c k : Nat) : Nat := match c, k with
  | 0, 0 => 100
  | 0, 1 => 101
  | 0, 2 => 102
  | 0, 3 => 103
  | 0, 4 => 104
  | 0, 5 => 105
  | 0, 6 => 106
  | 0, 7 => 107
  | 0, 8 => 108
  | 0, 9 => 109
  | 0, 10 => 110
  | 0, 11 => 111
  | 0, 12 => 112
  | 0, 13 => 113
  | 0, 14 => 114
  | 0, 15 => 115
  | 0, 16 => 116
  | 0, 17 => 117
  | 0, 18 => 118
  | 0, 19 => 119
  | 0, 20 => 120
  | 0, 21 => 121
  | 0, 22 => 122
  | 1, 0 => 0
  | 1, 1 => 1
  | 1, 2 => 2
  | 1, 3 => 3
  | 1, 4 => 4
  | 1, 5 => 5
  | 1, 6 => 6
  | 1, 7 => 7
  | 1, 8 => 8
  | 1, 9 => 9
  | 2, 0 => 11
  | 2, 1 => 10
  | 3, 0 => 17
  | 3, 1 => 12
  | 3, 2 => 13
  | 3, 3 => 14
  | 3, 4 => 15
  | 3, 5 => 16
  | 3, 6 => 10
  | 4, 0 => 18
  | 4, 1 => 12
  | 4, 2 => 13
  | 4, 3 => 14
  | 4, 4 => 15
  | 4, 5 => 16
  | 4, 6 => 10
  | 5, 0 => 19
  | 5, 1 => 12
  | 5, 2 => 13
  | 5, 3 => 14
  | 5, 4 => 15
  | 5, 5 => 16
  | 5, 6 => 10
  | 6, 0 => 20
  | 6, 1 => 12
  | 6, 2 => 13
  | 6, 3 => 14
  | 6, 4 => 15
  | 6, 5 => 16
  | 6, 6 => 10
  | 7, 0 => 21
  | 7, 1 => 22
  | 7, 2 => 23
  | 7, 3 => 24
  | 8, 0 => 25
  | 8, 1 => 26
  | 8, 2 => 27
  | 9, 0 => 28
  | _, _ => 0
def fr (c k : Nat) : Bool := match c, k with
  | 0, 1 => true
  | 0, 4 => true
  | 0, 5 => true
  | 0, 6 => true
  | 0, 7 => true
  | 0, 8 => true
  | 0, 9 => true
  | 0, 10 => true
  | 0, 12 => true
  | 0, 13 => true
  | 0, 16 => true
  | 0, 17 => true
  | 0, 19 => true
  | 0, 20 => true
  | 1, 1 => true
  | 1, 2 => true
  | 1, 3 => true
  | 1, 4 => true
  | 1, 5 => true
  | 3, 0 => true
  | 3, 3 => true
  | 3, 4 => true
  | 3, 5 => true
  | 4, 0 => true
  | 4, 3 => true
  | 4, 4 => true
  | 4, 5 => true
  | 5, 0 => true
  | 5, 3 => true
  | 5, 4 => true
  | 5, 5 => true
  | 6, 0 => true
  | 6, 3 => true
  | 6, 4 => true
  | 6, 5 => true
  | 7, 0 => true
  | 7, 1 => true
  | 7, 2 => true
  | 7, 3 => true
  | 8, 0 => true
  | 8, 1 => true
  | 9, 0 => true
  | _, _ => false
/-- array types: 0 Value[], 1 int[], 2 boolean[], 3 long[] -/
def tyA (t : Nat) : Option FieldType := match t with
  | 0 => some (.object "VisibleHeap$Value")
  | 1 => some .int
  | 2 => some .boolean
  | 3 => some .long
  | _ => none
/-- 0 ints, 1 references, 2 longs -/
def ar (t : Nat) : Nat := match t with
  | 0 => 1
  | 3 => 2
  | _ => 0
def mAll : List Cond := lw_tbl.filter goodWord
theorem mA {w : Cond} (h : w ∈ tables_1) (g : goodWord w = true) : w ∈ mAll := List.mem_filter.mpr ⟨List.mem_append_right _ h, g⟩
theorem mAs {w : Cond} (h : w ∈ lw_tbl) (g : goodWord w = true) : w ∈ mAll := List.mem_filter.mpr ⟨h, g⟩
def mCast : List (String × String) := [("VisibleHeap$Ephemeron", "VisibleHeap$Thing"), ("VisibleHeap$Row", "VisibleHeap$Thing"), ("VisibleHeap$Table", "VisibleHeap$Thing"), ("VisibleHeap$Weak", "VisibleHeap$Thing"), ("VisibleHeap$Row", "VisibleHeap$Row"), ("VisibleHeap$Table", "VisibleHeap$Table"), ("VisibleHeap$Num", "VisibleHeap$Num"), ("VisibleHeap$Ephemeron", "VisibleHeap$Value"), ("VisibleHeap$Num", "VisibleHeap$Value"), ("VisibleHeap$Row", "VisibleHeap$Value"), ("VisibleHeap$Table", "VisibleHeap$Value"), ("VisibleHeap$Weak", "VisibleHeap$Value")]
def mNoCast : List (String × String) := [("VisibleHeap", "VisibleHeap$Thing"), ("VisibleHeap$TieList", "VisibleHeap$Thing"), ("VisibleHeap$Reckoning", "VisibleHeap$Thing"), ("VisibleHeapModel", "VisibleHeap$Thing"), ("VisibleHeap$Num", "VisibleHeap$Thing"), ("VisibleHeap$Tie", "VisibleHeap$Thing"), ("VisibleHeap", "VisibleHeap$Row"), ("VisibleHeap$TieList", "VisibleHeap$Row"), ("VisibleHeap$Reckoning", "VisibleHeap$Row"), ("VisibleHeapModel", "VisibleHeap$Row"), ("VisibleHeap$Num", "VisibleHeap$Row"), ("VisibleHeap$Weak", "VisibleHeap$Row"), ("VisibleHeap$Ephemeron", "VisibleHeap$Row"), ("VisibleHeap$Tie", "VisibleHeap$Row"), ("VisibleHeap$Table", "VisibleHeap$Row"), ("VisibleHeap", "VisibleHeap$Table"), ("VisibleHeap$TieList", "VisibleHeap$Table"), ("VisibleHeap$Reckoning", "VisibleHeap$Table"), ("VisibleHeapModel", "VisibleHeap$Table"), ("VisibleHeap$Num", "VisibleHeap$Table"), ("VisibleHeap$Row", "VisibleHeap$Table"), ("VisibleHeap$Weak", "VisibleHeap$Table"), ("VisibleHeap$Ephemeron", "VisibleHeap$Table"), ("VisibleHeap$Tie", "VisibleHeap$Table"), ("VisibleHeap", "VisibleHeap$Num"), ("VisibleHeap$TieList", "VisibleHeap$Num"), ("VisibleHeap$Reckoning", "VisibleHeap$Num"), ("VisibleHeapModel", "VisibleHeap$Num"), ("VisibleHeap$Row", "VisibleHeap$Num"), ("VisibleHeap$Weak", "VisibleHeap$Num"), ("VisibleHeap$Ephemeron", "VisibleHeap$Num"), ("VisibleHeap$Tie", "VisibleHeap$Num"), ("VisibleHeap$Table", "VisibleHeap$Num")]
def mDecl : List MethodName := [⟨"VisibleHeap$Thing", "cells", "()I"⟩, ⟨"VisibleHeap$Thing", "reachHeld", "(LVisibleHeap$Reckoning;)V"⟩, ⟨"VisibleHeap$Thing", "letGoOfDead", "()V"⟩, ⟨"VisibleHeap$Thing", "isLive", "(LVisibleHeap$Value;)Z"⟩, ⟨"VisibleHeap$Value", "size", "()I"⟩, ⟨"VisibleHeap$Thing", "valueAt", "(I)LVisibleHeap$Value;"⟩, ⟨"VisibleHeap$Thing", "hasValue", "(I)Z"⟩]
def mNestM : List (String × Nat × MethodName × String) := [("VisibleHeap", 17, ⟨"VisibleHeap$TieList", "<init>", "()V"⟩, "VisibleHeap"), ("VisibleHeap", 27, ⟨"VisibleHeap$Reckoning", "<init>", "()V"⟩, "VisibleHeap"), ("VisibleHeap$Table", 11, ⟨"VisibleHeap$TieList", "<init>", "()V"⟩, "VisibleHeap"), ("VisibleHeap$TieList", 29, ⟨"VisibleHeap", "areSame", "(LVisibleHeap$Value;LVisibleHeap$Value;)Z"⟩, "VisibleHeap")]
def mOver : List String := ["VisibleHeap$Value"]
abbrev c_Eph_init : ByteArray := prog_2_method_1_code
abbrev y_Eph_init : MethodName := ⟨"VisibleHeap$Ephemeron", "<init>", "(LVisibleHeap$Value;LVisibleHeap$Value;)V"⟩
abbrev c_Eph_size : ByteArray := prog_2_method_2_code
abbrev y_Eph_size : MethodName := ⟨"VisibleHeap$Ephemeron", "size", "()I"⟩
abbrev c_Eph_cells : ByteArray := prog_2_method_3_code
abbrev y_Eph_cells : MethodName := ⟨"VisibleHeap$Ephemeron", "cells", "()I"⟩
abbrev c_Eph_valueAt : ByteArray := prog_2_method_4_code
abbrev y_Eph_valueAt : MethodName := ⟨"VisibleHeap$Ephemeron", "valueAt", "(I)LVisibleHeap$Value;"⟩
abbrev c_Eph_reachHeld : ByteArray := prog_2_method_5_code
abbrev y_Eph_reachHeld : MethodName := ⟨"VisibleHeap$Ephemeron", "reachHeld", "(LVisibleHeap$Reckoning;)V"⟩
abbrev c_Eph_letGoOfDead : ByteArray := prog_2_method_6_code
abbrev y_Eph_letGoOfDead : MethodName := ⟨"VisibleHeap$Ephemeron", "letGoOfDead", "()V"⟩
abbrev c_Num_init : ByteArray := prog_3_method_1_code
abbrev y_Num_init : MethodName := ⟨"VisibleHeap$Num", "<init>", "(I)V"⟩
abbrev c_Num_size : ByteArray := prog_3_method_2_code
abbrev y_Num_size : MethodName := ⟨"VisibleHeap$Num", "size", "()I"⟩
abbrev c_Rk_init : ByteArray := prog_4_method_1_code
abbrev y_Rk_init : MethodName := ⟨"VisibleHeap$Reckoning", "<init>", "()V"⟩
abbrev c_Rk_reach : ByteArray := prog_4_method_2_code
abbrev y_Rk_reach : MethodName := ⟨"VisibleHeap$Reckoning", "reach", "(LVisibleHeap$Value;)V"⟩
abbrev c_Rk_reachByKey : ByteArray := prog_4_method_3_code
abbrev y_Rk_reachByKey : MethodName := ⟨"VisibleHeap$Reckoning", "reachByKey", "(LVisibleHeap$Tie;)V"⟩
abbrev c_Rk_reachWaiting : ByteArray := prog_4_method_4_code
abbrev y_Rk_reachWaiting : MethodName := ⟨"VisibleHeap$Reckoning", "reachWaiting", "(LVisibleHeap$Thing;)V"⟩
abbrev c_Rk_takeReached : ByteArray := prog_4_method_5_code
abbrev y_Rk_takeReached : MethodName := ⟨"VisibleHeap$Reckoning", "takeReached", "()LVisibleHeap$Thing;"⟩
abbrev c_Row_init : ByteArray := prog_5_method_1_code
abbrev y_Row_init : MethodName := ⟨"VisibleHeap$Row", "<init>", "(II)V"⟩
abbrev c_Row_size : ByteArray := prog_5_method_2_code
abbrev y_Row_size : MethodName := ⟨"VisibleHeap$Row", "size", "()I"⟩
abbrev c_Row_cells : ByteArray := prog_5_method_3_code
abbrev y_Row_cells : MethodName := ⟨"VisibleHeap$Row", "cells", "()I"⟩
abbrev c_Row_valueAt : ByteArray := prog_5_method_4_code
abbrev y_Row_valueAt : MethodName := ⟨"VisibleHeap$Row", "valueAt", "(I)LVisibleHeap$Value;"⟩
abbrev c_Row_reachHeld : ByteArray := prog_5_method_5_code
abbrev y_Row_reachHeld : MethodName := ⟨"VisibleHeap$Row", "reachHeld", "(LVisibleHeap$Reckoning;)V"⟩
abbrev c_Row_letGoOfDead : ByteArray := prog_5_method_6_code
abbrev y_Row_letGoOfDead : MethodName := ⟨"VisibleHeap$Row", "letGoOfDead", "()V"⟩
abbrev c_Tab_init : ByteArray := prog_6_method_1_code
abbrev y_Tab_init : MethodName := ⟨"VisibleHeap$Table", "<init>", "()V"⟩
abbrev c_Tab_size : ByteArray := prog_6_method_2_code
abbrev y_Tab_size : MethodName := ⟨"VisibleHeap$Table", "size", "()I"⟩
abbrev c_Tab_cells : ByteArray := prog_6_method_3_code
abbrev y_Tab_cells : MethodName := ⟨"VisibleHeap$Table", "cells", "()I"⟩
abbrev c_Tab_objects : ByteArray := prog_6_method_4_code
abbrev y_Tab_objects : MethodName := ⟨"VisibleHeap$Table", "objects", "()I"⟩
abbrev c_Tab_hasValue : ByteArray := prog_6_method_5_code
abbrev y_Tab_hasValue : MethodName := ⟨"VisibleHeap$Table", "hasValue", "(I)Z"⟩
abbrev c_Tab_valueAt : ByteArray := prog_6_method_6_code
abbrev y_Tab_valueAt : MethodName := ⟨"VisibleHeap$Table", "valueAt", "(I)LVisibleHeap$Value;"⟩
abbrev c_Tab_reachHeld : ByteArray := prog_6_method_7_code
abbrev y_Tab_reachHeld : MethodName := ⟨"VisibleHeap$Table", "reachHeld", "(LVisibleHeap$Reckoning;)V"⟩
abbrev c_Tab_letGoOfDead : ByteArray := prog_6_method_8_code
abbrev y_Tab_letGoOfDead : MethodName := ⟨"VisibleHeap$Table", "letGoOfDead", "()V"⟩
abbrev c_Th_init : ByteArray := prog_7_method_1_code
abbrev y_Th_init : MethodName := ⟨"VisibleHeap$Thing", "<init>", "(I)V"⟩
abbrev c_Th_objects : ByteArray := prog_7_method_6_code
abbrev y_Th_objects : MethodName := ⟨"VisibleHeap$Thing", "objects", "()I"⟩
abbrev c_Th_hasValue : ByteArray := prog_7_method_7_code
abbrev y_Th_hasValue : MethodName := ⟨"VisibleHeap$Thing", "hasValue", "(I)Z"⟩
abbrev c_Th_isLive : ByteArray := prog_7_method_8_code
abbrev y_Th_isLive : MethodName := ⟨"VisibleHeap$Thing", "isLive", "(LVisibleHeap$Value;)Z"⟩
abbrev c_Tie_init : ByteArray := prog_8_method_1_code
abbrev y_Tie_init : MethodName := ⟨"VisibleHeap$Tie", "<init>", "(LVisibleHeap$Value;LVisibleHeap$Value;)V"⟩
abbrev c_TL_init : ByteArray := prog_9_method_1_code
abbrev y_TL_init : MethodName := ⟨"VisibleHeap$TieList", "<init>", "()V"⟩
abbrev c_TL_append : ByteArray := prog_9_method_2_code
abbrev y_TL_append : MethodName := ⟨"VisibleHeap$TieList", "append", "(LVisibleHeap$Tie;)V"⟩
abbrev c_TL_takeFirst : ByteArray := prog_9_method_3_code
abbrev y_TL_takeFirst : MethodName := ⟨"VisibleHeap$TieList", "takeFirst", "()LVisibleHeap$Tie;"⟩
abbrev c_TL_withKey : ByteArray := prog_9_method_4_code
abbrev y_TL_withKey : MethodName := ⟨"VisibleHeap$TieList", "withKey", "(LVisibleHeap$Value;)LVisibleHeap$Tie;"⟩
abbrev c_TL_moveDeadTo : ByteArray := prog_9_method_5_code
abbrev y_TL_moveDeadTo : MethodName := ⟨"VisibleHeap$TieList", "moveDeadTo", "(LVisibleHeap$TieList;)V"⟩
abbrev c_Va_init : ByteArray := prog_10_method_1_code
abbrev y_Va_init : MethodName := ⟨"VisibleHeap$Value", "<init>", "(I)V"⟩
abbrev c_Weak_init : ByteArray := prog_11_method_1_code
abbrev y_Weak_init : MethodName := ⟨"VisibleHeap$Weak", "<init>", "(LVisibleHeap$Value;)V"⟩
abbrev c_Weak_size : ByteArray := prog_11_method_2_code
abbrev y_Weak_size : MethodName := ⟨"VisibleHeap$Weak", "size", "()I"⟩
abbrev c_Weak_cells : ByteArray := prog_11_method_3_code
abbrev y_Weak_cells : MethodName := ⟨"VisibleHeap$Weak", "cells", "()I"⟩
abbrev c_Weak_valueAt : ByteArray := prog_11_method_4_code
abbrev y_Weak_valueAt : MethodName := ⟨"VisibleHeap$Weak", "valueAt", "(I)LVisibleHeap$Value;"⟩
abbrev c_Weak_reachHeld : ByteArray := prog_11_method_5_code
abbrev y_Weak_reachHeld : MethodName := ⟨"VisibleHeap$Weak", "reachHeld", "(LVisibleHeap$Reckoning;)V"⟩
abbrev c_Weak_letGoOfDead : ByteArray := prog_11_method_6_code
abbrev y_Weak_letGoOfDead : MethodName := ⟨"VisibleHeap$Weak", "letGoOfDead", "()V"⟩
abbrev c_H_init : ByteArray := prog_1_method_1_code
abbrev y_H_init : MethodName := ⟨"VisibleHeap", "<init>", "(I)V"⟩
abbrev c_H_number : ByteArray := prog_1_method_2_code
abbrev y_H_number : MethodName := ⟨"VisibleHeap", "number", "(II)Z"⟩
abbrev c_H_copy : ByteArray := prog_1_method_3_code
abbrev y_H_copy : MethodName := ⟨"VisibleHeap", "copy", "(II)Z"⟩
abbrev c_H_make : ByteArray := prog_1_method_4_code
abbrev y_H_make : MethodName := ⟨"VisibleHeap", "make", "(IIIII)I"⟩
abbrev c_H_get : ByteArray := prog_1_method_5_code
abbrev y_H_get : MethodName := ⟨"VisibleHeap", "get", "(III)Z"⟩
abbrev c_H_set : ByteArray := prog_1_method_6_code
abbrev y_H_set : MethodName := ⟨"VisibleHeap", "set", "(III)Z"⟩
abbrev c_H_put : ByteArray := prog_1_method_7_code
abbrev y_H_put : MethodName := ⟨"VisibleHeap", "put", "(III)I"⟩
abbrev c_H_find : ByteArray := prog_1_method_8_code
abbrev y_H_find : MethodName := ⟨"VisibleHeap", "find", "(III)I"⟩
abbrev c_H_register : ByteArray := prog_1_method_9_code
abbrev y_H_register : MethodName := ⟨"VisibleHeap", "register", "(II)Z"⟩
abbrev c_H_next : ByteArray := prog_1_method_10_code
abbrev y_H_next : MethodName := ⟨"VisibleHeap", "next", "(II)Z"⟩
abbrev c_H_collect : ByteArray := prog_1_method_11_code
abbrev y_H_collect : MethodName := ⟨"VisibleHeap", "collect", "()I"⟩
abbrev c_H_look : ByteArray := prog_1_method_12_code
abbrev y_H_look : MethodName := ⟨"VisibleHeap", "look", "(II)I"⟩
abbrev c_H_same : ByteArray := prog_1_method_13_code
abbrev y_H_same : MethodName := ⟨"VisibleHeap", "same", "(II)I"⟩
abbrev c_H_count : ByteArray := prog_1_method_14_code
abbrev y_H_count : MethodName := ⟨"VisibleHeap", "count", "(I)I"⟩
abbrev c_H_isRegister : ByteArray := prog_1_method_15_code
abbrev y_H_isRegister : MethodName := ⟨"VisibleHeap", "isRegister", "(I)Z"⟩
abbrev c_H_valueIn : ByteArray := prog_1_method_16_code
abbrev y_H_valueIn : MethodName := ⟨"VisibleHeap", "valueIn", "(I)LVisibleHeap$Value;"⟩
abbrev c_H_canBuild : ByteArray := prog_1_method_17_code
abbrev y_H_canBuild : MethodName := ⟨"VisibleHeap", "canBuild", "(IIII)Z"⟩
abbrev c_H_build : ByteArray := prog_1_method_18_code
abbrev y_H_build : MethodName := ⟨"VisibleHeap", "build", "(ILVisibleHeap$Value;LVisibleHeap$Value;I)LVisibleHeap$Thing;"⟩
abbrev c_H_pairOf : ByteArray := prog_1_method_19_code
abbrev y_H_pairOf : MethodName := ⟨"VisibleHeap", "pairOf", "(LVisibleHeap$Value;LVisibleHeap$Value;)LVisibleHeap$Row;"⟩
abbrev c_H_vectorOf : ByteArray := prog_1_method_20_code
abbrev y_H_vectorOf : MethodName := ⟨"VisibleHeap", "vectorOf", "(ILVisibleHeap$Value;)LVisibleHeap$Row;"⟩
abbrev c_H_addEntry : ByteArray := prog_1_method_21_code
abbrev y_H_addEntry : MethodName := ⟨"VisibleHeap", "addEntry", "(LVisibleHeap$Table;LVisibleHeap$Tie;)V"⟩
abbrev c_H_numberOf : ByteArray := prog_1_method_22_code
abbrev y_H_numberOf : MethodName := ⟨"VisibleHeap", "numberOf", "(LVisibleHeap$Value;)I"⟩
abbrev c_H_identityOf : ByteArray := prog_1_method_23_code
abbrev y_H_identityOf : MethodName := ⟨"VisibleHeap", "identityOf", "(LVisibleHeap$Thing;)I"⟩
abbrev c_H_areSame : ByteArray := prog_1_method_24_code
abbrev y_H_areSame : MethodName := ⟨"VisibleHeap", "areSame", "(LVisibleHeap$Value;LVisibleHeap$Value;)Z"⟩
abbrev c_H_findRoom : ByteArray := prog_1_method_25_code
abbrev y_H_findRoom : MethodName := ⟨"VisibleHeap", "findRoom", "(I)Z"⟩
abbrev c_H_keep : ByteArray := prog_1_method_26_code
abbrev y_H_keep : MethodName := ⟨"VisibleHeap", "keep", "(LVisibleHeap$Thing;)V"⟩
abbrev c_H_collectDead : ByteArray := prog_1_method_27_code
abbrev y_H_collectDead : MethodName := ⟨"VisibleHeap", "collectDead", "()V"⟩
abbrev c_H_reckonLive : ByteArray := prog_1_method_28_code
abbrev y_H_reckonLive : MethodName := ⟨"VisibleHeap", "reckonLive", "()V"⟩
abbrev c_H_reachRoots : ByteArray := prog_1_method_29_code
abbrev y_H_reachRoots : MethodName := ⟨"VisibleHeap", "reachRoots", "()V"⟩
abbrev c_H_keepLiveOnly : ByteArray := prog_1_method_30_code
abbrev y_H_keepLiveOnly : MethodName := ⟨"VisibleHeap", "keepLiveOnly", "()V"⟩
abbrev c_L_cell : ByteArray := method_2_code
abbrev y_L_cell : MethodName := ⟨"VisibleHeapLaw", "cell", "([II)I"⟩
abbrev c_M_init : ByteArray := prog_13_method_1_code
abbrev y_M_init : MethodName := ⟨"VisibleHeapModel", "<init>", "(I)V"⟩
abbrev c_M_isRegister : ByteArray := prog_13_method_2_code
abbrev y_M_isRegister : MethodName := ⟨"VisibleHeapModel", "isRegister", "(I)Z"⟩
abbrev c_M_isObject : ByteArray := prog_13_method_3_code
abbrev y_M_isObject : MethodName := ⟨"VisibleHeapModel", "isObject", "(J)Z"⟩
abbrev c_M_is : ByteArray := prog_13_method_4_code
abbrev y_M_is : MethodName := ⟨"VisibleHeapModel", "is", "(JI)Z"⟩
abbrev c_M_cellsOf : ByteArray := prog_13_method_5_code
abbrev y_M_cellsOf : MethodName := ⟨"VisibleHeapModel", "cellsOf", "(II)I"⟩
abbrev c_M_cellAt : ByteArray := prog_13_method_6_code
abbrev y_M_cellAt : MethodName := ⟨"VisibleHeapModel", "cellAt", "(JI)I"⟩
abbrev c_M_field : ByteArray := prog_13_method_7_code
abbrev y_M_field : MethodName := ⟨"VisibleHeapModel", "field", "(JI)J"⟩
abbrev c_M_setField : ByteArray := prog_13_method_8_code
abbrev y_M_setField : MethodName := ⟨"VisibleHeapModel", "setField", "(JIJ)V"⟩
abbrev c_M_room : ByteArray := prog_13_method_9_code
abbrev y_M_room : MethodName := ⟨"VisibleHeapModel", "room", "(I)Z"⟩
abbrev c_M_add : ByteArray := prog_13_method_10_code
abbrev y_M_add : MethodName := ⟨"VisibleHeapModel", "add", "(IIJ)J"⟩
abbrev c_M_drop : ByteArray := prog_13_method_11_code
abbrev y_M_drop : MethodName := ⟨"VisibleHeapModel", "drop", "(I)V"⟩
abbrev c_M_isLive : ByteArray := prog_13_method_12_code
abbrev y_M_isLive : MethodName := ⟨"VisibleHeapModel", "isLive", "(J)Z"⟩
abbrev c_M_mark : ByteArray := prog_13_method_13_code
abbrev y_M_mark : MethodName := ⟨"VisibleHeapModel", "mark", "(J)V"⟩
abbrev c_M_follow : ByteArray := prog_13_method_14_code
abbrev y_M_follow : MethodName := ⟨"VisibleHeapModel", "follow", "()V"⟩
abbrev c_M_entries : ByteArray := prog_13_method_15_code
abbrev y_M_entries : MethodName := ⟨"VisibleHeapModel", "entries", "(J)Z"⟩
abbrev c_M_round : ByteArray := prog_13_method_16_code
abbrev y_M_round : MethodName := ⟨"VisibleHeapModel", "round", "()Z"⟩
abbrev c_M_reckon : ByteArray := prog_13_method_17_code
abbrev y_M_reckon : MethodName := ⟨"VisibleHeapModel", "reckon", "()V"⟩
abbrev c_M_thin : ByteArray := prog_13_method_18_code
abbrev y_M_thin : MethodName := ⟨"VisibleHeapModel", "thin", "(J)V"⟩
abbrev c_M_gather : ByteArray := prog_13_method_19_code
abbrev y_M_gather : MethodName := ⟨"VisibleHeapModel", "gather", "()V"⟩
abbrev c_M_number : ByteArray := prog_13_method_20_code
abbrev y_M_number : MethodName := ⟨"VisibleHeapModel", "number", "(II)Z"⟩
abbrev c_M_copy : ByteArray := prog_13_method_21_code
abbrev y_M_copy : MethodName := ⟨"VisibleHeapModel", "copy", "(II)Z"⟩
abbrev c_M_make : ByteArray := prog_13_method_22_code
abbrev y_M_make : MethodName := ⟨"VisibleHeapModel", "make", "(IIIII)I"⟩
abbrev c_M_shown : ByteArray := prog_13_method_23_code
abbrev y_M_shown : MethodName := ⟨"VisibleHeapModel", "shown", "(J)I"⟩
abbrev c_M_get : ByteArray := prog_13_method_24_code
abbrev y_M_get : MethodName := ⟨"VisibleHeapModel", "get", "(III)Z"⟩
abbrev c_M_set : ByteArray := prog_13_method_25_code
abbrev y_M_set : MethodName := ⟨"VisibleHeapModel", "set", "(III)Z"⟩
abbrev c_M_entryOf : ByteArray := prog_13_method_26_code
abbrev y_M_entryOf : MethodName := ⟨"VisibleHeapModel", "entryOf", "(JJ)J"⟩
abbrev c_M_put : ByteArray := prog_13_method_27_code
abbrev y_M_put : MethodName := ⟨"VisibleHeapModel", "put", "(III)I"⟩
abbrev c_M_find : ByteArray := prog_13_method_28_code
abbrev y_M_find : MethodName := ⟨"VisibleHeapModel", "find", "(III)I"⟩
abbrev c_M_register : ByteArray := prog_13_method_29_code
abbrev y_M_register : MethodName := ⟨"VisibleHeapModel", "register", "(II)Z"⟩
abbrev c_M_next : ByteArray := prog_13_method_30_code
abbrev y_M_next : MethodName := ⟨"VisibleHeapModel", "next", "(II)Z"⟩
abbrev c_M_collect : ByteArray := prog_13_method_31_code
abbrev y_M_collect : MethodName := ⟨"VisibleHeapModel", "collect", "()I"⟩
abbrev c_M_entryCount : ByteArray := prog_13_method_32_code
abbrev y_M_entryCount : MethodName := ⟨"VisibleHeapModel", "entryCount", "(J)I"⟩
abbrev c_M_look : ByteArray := prog_13_method_33_code
abbrev y_M_look : MethodName := ⟨"VisibleHeapModel", "look", "(II)I"⟩
abbrev c_M_same : ByteArray := prog_13_method_34_code
abbrev y_M_same : MethodName := ⟨"VisibleHeapModel", "same", "(II)I"⟩
abbrev c_M_count : ByteArray := prog_13_method_35_code
abbrev y_M_count : MethodName := ⟨"VisibleHeapModel", "count", "(I)I"⟩
