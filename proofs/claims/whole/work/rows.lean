section
-- ===== PART A: goes FIRST, ahead of the names: the tables' words, and 'selects' of the private methods out of them =====
/-- a private method of a class that the tables say can be made, by its rows of tables_1 -/
def lw_okq (q : MethodName × Nat) : Prop := (q.1.cls ≠ "java/lang/invoke/MethodHandle" ∧ q.1.cls ≠ "java/lang/invoke/VarHandle") ∧ Cond.instantiable q.1.cls q.2 ∈ tables_1 ∧ Cond.privateMethod q.1 ∈ tables_1 ∧ Cond.instanceMethod q.1 ∈ tables_1
theorem lw_p0 : lw_okq (⟨"CarrierPaths$Roads", "forgetTimes", "()V"⟩, 7) := ⟨⟨by decide +kernel, by decide +kernel⟩, List.mem_of_getElem? (i := 49) (by decide +kernel), List.mem_of_getElem? (i := 55) (by decide +kernel), List.mem_of_getElem? (i := 56) (by decide +kernel)⟩
theorem lw_p1 : lw_okq (⟨"CarrierPaths", "offerJobs", "()V"⟩, 7) := ⟨⟨by decide +kernel, by decide +kernel⟩, List.mem_of_getElem? (i := 17) (by decide +kernel), List.mem_of_getElem? (i := 227) (by decide +kernel), List.mem_of_getElem? (i := 228) (by decide +kernel)⟩
theorem lw_p2 : lw_okq (⟨"CarrierPaths", "emptyTravel", "(II)I"⟩, 7) := ⟨⟨by decide +kernel, by decide +kernel⟩, List.mem_of_getElem? (i := 17) (by decide +kernel), List.mem_of_getElem? (i := 243) (by decide +kernel), List.mem_of_getElem? (i := 244) (by decide +kernel)⟩
theorem lw_p3 : lw_okq (⟨"CarrierPaths$Choice", "findBest", "(I)V"⟩, 6) := ⟨⟨by decide +kernel, by decide +kernel⟩, List.mem_of_getElem? (i := 148) (by decide +kernel), List.mem_of_getElem? (i := 280) (by decide +kernel), List.mem_of_getElem? (i := 281) (by decide +kernel)⟩
theorem lw_p4 : lw_okq (⟨"CarrierPaths$Choice", "mostWorth", "(II)I"⟩, 6) := ⟨⟨by decide +kernel, by decide +kernel⟩, List.mem_of_getElem? (i := 148) (by decide +kernel), List.mem_of_getElem? (i := 284) (by decide +kernel), List.mem_of_getElem? (i := 285) (by decide +kernel)⟩
theorem lw_p5 : lw_okq (⟨"CarrierPaths$Choice", "bestFrom", "(II)I"⟩, 6) := ⟨⟨by decide +kernel, by decide +kernel⟩, List.mem_of_getElem? (i := 148) (by decide +kernel), List.mem_of_getElem? (i := 288) (by decide +kernel), List.mem_of_getElem? (i := 289) (by decide +kernel)⟩
theorem lw_p6 : lw_okq (⟨"CarrierPaths$Choice", "canTake", "(III)Z"⟩, 6) := ⟨⟨by decide +kernel, by decide +kernel⟩, List.mem_of_getElem? (i := 148) (by decide +kernel), List.mem_of_getElem? (i := 292) (by decide +kernel), List.mem_of_getElem? (i := 293) (by decide +kernel)⟩
theorem lw_p7 : lw_okq (⟨"CarrierPaths$Choice", "worthOf", "(II)I"⟩, 6) := ⟨⟨by decide +kernel, by decide +kernel⟩, List.mem_of_getElem? (i := 148) (by decide +kernel), List.mem_of_getElem? (i := 296) (by decide +kernel), List.mem_of_getElem? (i := 297) (by decide +kernel)⟩
theorem lw_p8 : lw_okq (⟨"CarrierPaths$Choice", "worthWith", "(III)I"⟩, 6) := ⟨⟨by decide +kernel, by decide +kernel⟩, List.mem_of_getElem? (i := 148) (by decide +kernel), List.mem_of_getElem? (i := 300) (by decide +kernel), List.mem_of_getElem? (i := 301) (by decide +kernel)⟩
theorem lw_p9 : lw_okq (⟨"CarrierPaths$Choice", "leastCarrier", "(II)I"⟩, 6) := ⟨⟨by decide +kernel, by decide +kernel⟩, List.mem_of_getElem? (i := 148) (by decide +kernel), List.mem_of_getElem? (i := 305) (by decide +kernel), List.mem_of_getElem? (i := 306) (by decide +kernel)⟩
theorem lw_p10 : lw_okq (⟨"CarrierPaths", "giveOut", "()I"⟩, 7) := ⟨⟨by decide +kernel, by decide +kernel⟩, List.mem_of_getElem? (i := 17) (by decide +kernel), List.mem_of_getElem? (i := 309) (by decide +kernel), List.mem_of_getElem? (i := 310) (by decide +kernel)⟩
theorem lw_p11 : lw_okq (⟨"CarrierPaths$Roads", "measureAnew", "()V"⟩, 7) := ⟨⟨by decide +kernel, by decide +kernel⟩, List.mem_of_getElem? (i := 49) (by decide +kernel), List.mem_of_getElem? (i := 341) (by decide +kernel), List.mem_of_getElem? (i := 342) (by decide +kernel)⟩
theorem lw_p12 : lw_okq (⟨"CarrierPaths$Roads", "shortenBy", "(I)V"⟩, 7) := ⟨⟨by decide +kernel, by decide +kernel⟩, List.mem_of_getElem? (i := 49) (by decide +kernel), List.mem_of_getElem? (i := 345) (by decide +kernel), List.mem_of_getElem? (i := 346) (by decide +kernel)⟩
theorem lw_p13 : lw_okq (⟨"CarrierPaths", "countInAll", "(I)I"⟩, 7) := ⟨⟨by decide +kernel, by decide +kernel⟩, List.mem_of_getElem? (i := 17) (by decide +kernel), List.mem_of_getElem? (i := 361) (by decide +kernel), List.mem_of_getElem? (i := 362) (by decide +kernel)⟩
theorem lw_p14 : lw_okq (⟨"CarrierPaths", "freePlaces", "(I)I"⟩, 7) := ⟨⟨by decide +kernel, by decide +kernel⟩, List.mem_of_getElem? (i := 17) (by decide +kernel), List.mem_of_getElem? (i := 393) (by decide +kernel), List.mem_of_getElem? (i := 394) (by decide +kernel)⟩
theorem lw_p15 : lw_okq (⟨"java/lang/Throwable", "fillInStackTrace", "(I)Ljava/lang/Throwable;"⟩, 6) := ⟨⟨by decide +kernel, by decide +kernel⟩, List.mem_of_getElem? (i := 462) (by decide +kernel), List.mem_of_getElem? (i := 460) (by decide +kernel), List.mem_of_getElem? (i := 461) (by decide +kernel)⟩
def lw_privs_1 : List (MethodName × Nat) := [(⟨"CarrierPaths$Roads", "forgetTimes", "()V"⟩, 7), (⟨"CarrierPaths", "offerJobs", "()V"⟩, 7), (⟨"CarrierPaths", "emptyTravel", "(II)I"⟩, 7), (⟨"CarrierPaths$Choice", "findBest", "(I)V"⟩, 6), (⟨"CarrierPaths$Choice", "mostWorth", "(II)I"⟩, 6), (⟨"CarrierPaths$Choice", "bestFrom", "(II)I"⟩, 6), (⟨"CarrierPaths$Choice", "canTake", "(III)Z"⟩, 6), (⟨"CarrierPaths$Choice", "worthOf", "(II)I"⟩, 6), (⟨"CarrierPaths$Choice", "worthWith", "(III)I"⟩, 6), (⟨"CarrierPaths$Choice", "leastCarrier", "(II)I"⟩, 6), (⟨"CarrierPaths", "giveOut", "()I"⟩, 7), (⟨"CarrierPaths$Roads", "measureAnew", "()V"⟩, 7), (⟨"CarrierPaths$Roads", "shortenBy", "(I)V"⟩, 7), (⟨"CarrierPaths", "countInAll", "(I)I"⟩, 7), (⟨"CarrierPaths", "freePlaces", "(I)I"⟩, 7), (⟨"java/lang/Throwable", "fillInStackTrace", "(I)Ljava/lang/Throwable;"⟩, 6)]
theorem lw_r1 : ∀ q ∈ lw_privs_1, lw_okq q := List.forall_mem_cons.mpr ⟨lw_p0, List.forall_mem_cons.mpr ⟨lw_p1, List.forall_mem_cons.mpr ⟨lw_p2, List.forall_mem_cons.mpr ⟨lw_p3, List.forall_mem_cons.mpr ⟨lw_p4, List.forall_mem_cons.mpr ⟨lw_p5, List.forall_mem_cons.mpr ⟨lw_p6, List.forall_mem_cons.mpr ⟨lw_p7, List.forall_mem_cons.mpr ⟨lw_p8, List.forall_mem_cons.mpr ⟨lw_p9, List.forall_mem_cons.mpr ⟨lw_p10, List.forall_mem_cons.mpr ⟨lw_p11, List.forall_mem_cons.mpr ⟨lw_p12, List.forall_mem_cons.mpr ⟨lw_p13, List.forall_mem_cons.mpr ⟨lw_p14, List.forall_mem_cons.mpr ⟨lw_p15, fun _ h => absurd h List.not_mem_nil⟩⟩⟩⟩⟩⟩⟩⟩⟩⟩⟩⟩⟩⟩⟩⟩
theorem lw_p16 : lw_okq (⟨"CarrierPaths", "isFull", "(I)Z"⟩, 7) := ⟨⟨by decide +kernel, by decide +kernel⟩, List.mem_of_getElem? (i := 17) (by decide +kernel), List.mem_of_getElem? (i := 540) (by decide +kernel), List.mem_of_getElem? (i := 541) (by decide +kernel)⟩
theorem lw_p17 : lw_okq (⟨"CarrierPaths", "goOn", "(II)I"⟩, 7) := ⟨⟨by decide +kernel, by decide +kernel⟩, List.mem_of_getElem? (i := 17) (by decide +kernel), List.mem_of_getElem? (i := 601) (by decide +kernel), List.mem_of_getElem? (i := 602) (by decide +kernel)⟩
theorem lw_p18 : lw_okq (⟨"CarrierPaths", "fillsRing", "(II)Z"⟩, 7) := ⟨⟨by decide +kernel, by decide +kernel⟩, List.mem_of_getElem? (i := 17) (by decide +kernel), List.mem_of_getElem? (i := 621) (by decide +kernel), List.mem_of_getElem? (i := 622) (by decide +kernel)⟩
theorem lw_p19 : lw_okq (⟨"CarrierPaths", "timeToCharger", "(I)I"⟩, 7) := ⟨⟨by decide +kernel, by decide +kernel⟩, List.mem_of_getElem? (i := 17) (by decide +kernel), List.mem_of_getElem? (i := 633) (by decide +kernel), List.mem_of_getElem? (i := 634) (by decide +kernel)⟩
theorem lw_p20 : lw_okq (⟨"CarrierPaths", "end", "(II)I"⟩, 7) := ⟨⟨by decide +kernel, by decide +kernel⟩, List.mem_of_getElem? (i := 17) (by decide +kernel), List.mem_of_getElem? (i := 646) (by decide +kernel), List.mem_of_getElem? (i := 647) (by decide +kernel)⟩
theorem lw_p21 : lw_okq (⟨"CarrierPaths", "load", "(I)I"⟩, 7) := ⟨⟨by decide +kernel, by decide +kernel⟩, List.mem_of_getElem? (i := 17) (by decide +kernel), List.mem_of_getElem? (i := 658) (by decide +kernel), List.mem_of_getElem? (i := 659) (by decide +kernel)⟩
theorem lw_p22 : lw_okq (⟨"CarrierPathsModel", "isPoint", "(I)Z"⟩, 27) := ⟨⟨by decide +kernel, by decide +kernel⟩, List.mem_of_getElem? (i := 750) (by decide +kernel), List.mem_of_getElem? (i := 846) (by decide +kernel), List.mem_of_getElem? (i := 847) (by decide +kernel)⟩
theorem lw_p23 : lw_okq (⟨"CarrierPathsModel", "fails", "(I)I"⟩, 27) := ⟨⟨by decide +kernel, by decide +kernel⟩, List.mem_of_getElem? (i := 750) (by decide +kernel), List.mem_of_getElem? (i := 853) (by decide +kernel), List.mem_of_getElem? (i := 854) (by decide +kernel)⟩
theorem lw_p24 : lw_okq (⟨"CarrierPathsModel", "timesTo", "(I)V"⟩, 27) := ⟨⟨by decide +kernel, by decide +kernel⟩, List.mem_of_getElem? (i := 750) (by decide +kernel), List.mem_of_getElem? (i := 857) (by decide +kernel), List.mem_of_getElem? (i := 858) (by decide +kernel)⟩
theorem lw_p25 : lw_okq (⟨"CarrierPathsModel", "pieceFrom", "(I)I"⟩, 27) := ⟨⟨by decide +kernel, by decide +kernel⟩, List.mem_of_getElem? (i := 750) (by decide +kernel), List.mem_of_getElem? (i := 862) (by decide +kernel), List.mem_of_getElem? (i := 863) (by decide +kernel)⟩
theorem lw_p26 : lw_okq (⟨"CarrierPathsModel", "standing", "(I)I"⟩, 27) := ⟨⟨by decide +kernel, by decide +kernel⟩, List.mem_of_getElem? (i := 750) (by decide +kernel), List.mem_of_getElem? (i := 874) (by decide +kernel), List.mem_of_getElem? (i := 875) (by decide +kernel)⟩
theorem lw_p27 : lw_okq (⟨"CarrierPathsModel", "reckon", "()V"⟩, 27) := ⟨⟨by decide +kernel, by decide +kernel⟩, List.mem_of_getElem? (i := 750) (by decide +kernel), List.mem_of_getElem? (i := 898) (by decide +kernel), List.mem_of_getElem? (i := 899) (by decide +kernel)⟩
theorem lw_p28 : lw_okq (⟨"CarrierPathsModel", "worth", "(II)I"⟩, 27) := ⟨⟨by decide +kernel, by decide +kernel⟩, List.mem_of_getElem? (i := 750) (by decide +kernel), List.mem_of_getElem? (i := 902) (by decide +kernel), List.mem_of_getElem? (i := 903) (by decide +kernel)⟩
theorem lw_p29 : lw_okq (⟨"CarrierPathsModel", "timeTo", "(II)I"⟩, 27) := ⟨⟨by decide +kernel, by decide +kernel⟩, List.mem_of_getElem? (i := 750) (by decide +kernel), List.mem_of_getElem? (i := 906) (by decide +kernel), List.mem_of_getElem? (i := 907) (by decide +kernel)⟩
theorem lw_p30 : lw_okq (⟨"CarrierPathsModel", "isCarrier", "(I)Z"⟩, 27) := ⟨⟨by decide +kernel, by decide +kernel⟩, List.mem_of_getElem? (i := 750) (by decide +kernel), List.mem_of_getElem? (i := 915) (by decide +kernel), List.mem_of_getElem? (i := 916) (by decide +kernel)⟩
theorem lw_p31 : lw_okq (⟨"CarrierPathsModel", "goesOn", "(II)I"⟩, 27) := ⟨⟨by decide +kernel, by decide +kernel⟩, List.mem_of_getElem? (i := 750) (by decide +kernel), List.mem_of_getElem? (i := 919) (by decide +kernel), List.mem_of_getElem? (i := 920) (by decide +kernel)⟩
def lw_privs_2 : List (MethodName × Nat) := [(⟨"CarrierPaths", "isFull", "(I)Z"⟩, 7), (⟨"CarrierPaths", "goOn", "(II)I"⟩, 7), (⟨"CarrierPaths", "fillsRing", "(II)Z"⟩, 7), (⟨"CarrierPaths", "timeToCharger", "(I)I"⟩, 7), (⟨"CarrierPaths", "end", "(II)I"⟩, 7), (⟨"CarrierPaths", "load", "(I)I"⟩, 7), (⟨"CarrierPathsModel", "isPoint", "(I)Z"⟩, 27), (⟨"CarrierPathsModel", "fails", "(I)I"⟩, 27), (⟨"CarrierPathsModel", "timesTo", "(I)V"⟩, 27), (⟨"CarrierPathsModel", "pieceFrom", "(I)I"⟩, 27), (⟨"CarrierPathsModel", "standing", "(I)I"⟩, 27), (⟨"CarrierPathsModel", "reckon", "()V"⟩, 27), (⟨"CarrierPathsModel", "worth", "(II)I"⟩, 27), (⟨"CarrierPathsModel", "timeTo", "(II)I"⟩, 27), (⟨"CarrierPathsModel", "isCarrier", "(I)Z"⟩, 27), (⟨"CarrierPathsModel", "goesOn", "(II)I"⟩, 27)]
theorem lw_r2 : ∀ q ∈ lw_privs_2, lw_okq q := List.forall_mem_cons.mpr ⟨lw_p16, List.forall_mem_cons.mpr ⟨lw_p17, List.forall_mem_cons.mpr ⟨lw_p18, List.forall_mem_cons.mpr ⟨lw_p19, List.forall_mem_cons.mpr ⟨lw_p20, List.forall_mem_cons.mpr ⟨lw_p21, List.forall_mem_cons.mpr ⟨lw_p22, List.forall_mem_cons.mpr ⟨lw_p23, List.forall_mem_cons.mpr ⟨lw_p24, List.forall_mem_cons.mpr ⟨lw_p25, List.forall_mem_cons.mpr ⟨lw_p26, List.forall_mem_cons.mpr ⟨lw_p27, List.forall_mem_cons.mpr ⟨lw_p28, List.forall_mem_cons.mpr ⟨lw_p29, List.forall_mem_cons.mpr ⟨lw_p30, List.forall_mem_cons.mpr ⟨lw_p31, fun _ h => absurd h List.not_mem_nil⟩⟩⟩⟩⟩⟩⟩⟩⟩⟩⟩⟩⟩⟩⟩⟩
theorem lw_p32 : lw_okq (⟨"CarrierPathsModel", "isTaken", "(I)Z"⟩, 27) := ⟨⟨by decide +kernel, by decide +kernel⟩, List.mem_of_getElem? (i := 750) (by decide +kernel), List.mem_of_getElem? (i := 923) (by decide +kernel), List.mem_of_getElem? (i := 924) (by decide +kernel)⟩
theorem lw_p33 : lw_okq (⟨"CarrierPathsModel", "isBarred", "(I)Z"⟩, 27) := ⟨⟨by decide +kernel, by decide +kernel⟩, List.mem_of_getElem? (i := 750) (by decide +kernel), List.mem_of_getElem? (i := 927) (by decide +kernel), List.mem_of_getElem? (i := 928) (by decide +kernel)⟩
theorem lw_p34 : lw_okq (⟨"CarrierPathsModel", "freeIn", "(I)I"⟩, 27) := ⟨⟨by decide +kernel, by decide +kernel⟩, List.mem_of_getElem? (i := 750) (by decide +kernel), List.mem_of_getElem? (i := 931) (by decide +kernel), List.mem_of_getElem? (i := 932) (by decide +kernel)⟩
theorem lw_p35 : lw_okq (⟨"CarrierPathsModel", "toCharger", "(I)I"⟩, 27) := ⟨⟨by decide +kernel, by decide +kernel⟩, List.mem_of_getElem? (i := 750) (by decide +kernel), List.mem_of_getElem? (i := 935) (by decide +kernel), List.mem_of_getElem? (i := 936) (by decide +kernel)⟩
theorem lw_p36 : lw_okq (⟨"CarrierPathsModel", "ofPoint", "(I)I"⟩, 27) := ⟨⟨by decide +kernel, by decide +kernel⟩, List.mem_of_getElem? (i := 750) (by decide +kernel), List.mem_of_getElem? (i := 964) (by decide +kernel), List.mem_of_getElem? (i := 965) (by decide +kernel)⟩
def lw_privs_3 : List (MethodName × Nat) := [(⟨"CarrierPathsModel", "isTaken", "(I)Z"⟩, 27), (⟨"CarrierPathsModel", "isBarred", "(I)Z"⟩, 27), (⟨"CarrierPathsModel", "freeIn", "(I)I"⟩, 27), (⟨"CarrierPathsModel", "toCharger", "(I)I"⟩, 27), (⟨"CarrierPathsModel", "ofPoint", "(I)I"⟩, 27)]
theorem lw_r3 : ∀ q ∈ lw_privs_3, lw_okq q := List.forall_mem_cons.mpr ⟨lw_p32, List.forall_mem_cons.mpr ⟨lw_p33, List.forall_mem_cons.mpr ⟨lw_p34, List.forall_mem_cons.mpr ⟨lw_p35, List.forall_mem_cons.mpr ⟨lw_p36, fun _ h => absurd h List.not_mem_nil⟩⟩⟩⟩⟩
def lw_privs : List (MethodName × Nat) := lw_privs_1 ++ (lw_privs_2 ++ (lw_privs_3))
def lw_tbl : List Cond := k2_sels lw_privs ++ tables_1
theorem lw_privs_ok : ∀ q ∈ lw_privs, lw_okq q := by
  show ∀ q ∈ lw_privs_1 ++ (lw_privs_2 ++ (lw_privs_3)), lw_okq q
  exact List.forall_mem_append.mpr ⟨lw_r1, List.forall_mem_append.mpr ⟨lw_r2, lw_r3⟩⟩
end
section
def F_Points : u_T := fun k => match k with
  | 0 => ("CarrierPaths$Points", "size", "I", true)
  | 1 => ("CarrierPaths$Points", "rooms", "[I", true)
  | _ => ("CarrierPaths$Points", "chargers", "[Z", true)
def ty_Points : Nat → FieldType := fun k => match k with
  | 0 => .int
  | 1 => .array .int
  | _ => .array .boolean
theorem nm_Points : ∀ a, a < 3 → ∀ b, b < 3 → a ≠ b → (F_Points a).2.1 ≠ (F_Points b).2.1 := by decide +kernel
theorem ty_Points_ok : ∀ k, k < 3 → parseFieldDescriptor (F_Points k).2.2.1 = some (ty_Points k) := by decide +kernel

def F_Roads : u_T := fun k => match k with
  | 0 => ("CarrierPaths$Roads", "points", "I", true)
  | 1 => ("CarrierPaths$Roads", "beginnings", "[I", true)
  | 2 => ("CarrierPaths$Roads", "ends", "[I", true)
  | 3 => ("CarrierPaths$Roads", "times", "[I", true)
  | 4 => ("CarrierPaths$Roads", "closed", "[Z", true)
  | 5 => ("CarrierPaths$Roads", "leastTimes", "[I", true)
  | _ => ("CarrierPaths$Roads", "size", "I", false)
def ty_Roads : Nat → FieldType := fun k => match k with
  | 0 => .int
  | 1 => .array .int
  | 2 => .array .int
  | 3 => .array .int
  | 4 => .array .boolean
  | 5 => .array .int
  | _ => .int
theorem nm_Roads : ∀ a, a < 7 → ∀ b, b < 7 → a ≠ b → (F_Roads a).2.1 ≠ (F_Roads b).2.1 := by decide +kernel
theorem ty_Roads_ok : ∀ k, k < 7 → parseFieldDescriptor (F_Roads k).2.2.1 = some (ty_Roads k) := by decide +kernel

def F_Rings : u_T := fun k => match k with
  | 0 => ("CarrierPaths$Rings", "sets", "[I", true)
  | _ => ("CarrierPaths$Rings", "size", "I", false)
def ty_Rings : Nat → FieldType := fun k => match k with
  | 0 => .array .int
  | _ => .int
theorem nm_Rings : ∀ a, a < 2 → ∀ b, b < 2 → a ≠ b → (F_Rings a).2.1 ≠ (F_Rings b).2.1 := by decide +kernel
theorem ty_Rings_ok : ∀ k, k < 2 → parseFieldDescriptor (F_Rings k).2.2.1 = some (ty_Rings k) := by decide +kernel

def F_Fleet : u_T := fun k => match k with
  | 0 => ("CarrierPaths$Fleet", "at", "[I", true)
  | 1 => ("CarrierPaths$Fleet", "on", "[I", true)
  | 2 => ("CarrierPaths$Fleet", "arrivals", "[I", true)
  | 3 => ("CarrierPaths$Fleet", "holds", "[I", true)
  | 4 => ("CarrierPaths$Fleet", "charges", "[I", true)
  | 5 => ("CarrierPaths$Fleet", "endedJobs", "[I", true)
  | 6 => ("CarrierPaths$Fleet", "emptyTimes", "[I", true)
  | _ => ("CarrierPaths$Fleet", "size", "I", false)
def ty_Fleet : Nat → FieldType := fun k => match k with
  | 0 => .array .int
  | 1 => .array .int
  | 2 => .array .int
  | 3 => .array .int
  | 4 => .array .int
  | 5 => .array .int
  | 6 => .array .int
  | _ => .int
theorem nm_Fleet : ∀ a, a < 8 → ∀ b, b < 8 → a ≠ b → (F_Fleet a).2.1 ≠ (F_Fleet b).2.1 := by decide +kernel
theorem ty_Fleet_ok : ∀ k, k < 8 → parseFieldDescriptor (F_Fleet k).2.2.1 = some (ty_Fleet k) := by decide +kernel

def F_Jobs : u_T := fun k => match k with
  | 0 => ("CarrierPaths$Jobs", "froms", "[I", true)
  | 1 => ("CarrierPaths$Jobs", "tos", "[I", true)
  | 2 => ("CarrierPaths$Jobs", "states", "[I", true)
  | 3 => ("CarrierPaths$Jobs", "holders", "[I", true)
  | _ => ("CarrierPaths$Jobs", "size", "I", false)
def ty_Jobs : Nat → FieldType := fun k => match k with
  | 0 => .array .int
  | 1 => .array .int
  | 2 => .array .int
  | 3 => .array .int
  | _ => .int
theorem nm_Jobs : ∀ a, a < 5 → ∀ b, b < 5 → a ≠ b → (F_Jobs a).2.1 ≠ (F_Jobs b).2.1 := by decide +kernel
theorem ty_Jobs_ok : ∀ k, k < 5 → parseFieldDescriptor (F_Jobs k).2.2.1 = some (ty_Jobs k) := by decide +kernel

def F_Choice : u_T := fun k => match k with
  | 0 => ("CarrierPaths$Choice", "worths", "[I", true)
  | 1 => ("CarrierPaths$Choice", "best", "[I", true)
  | 2 => ("CarrierPaths$Choice", "chosen", "[I", true)
  | 3 => ("CarrierPaths$Choice", "jobCount", "I", false)
  | 4 => ("CarrierPaths$Choice", "carrierCount", "I", false)
  | _ => ("CarrierPaths$Choice", "able", "I", false)
def ty_Choice : Nat → FieldType := fun k => match k with
  | 0 => .array .int
  | 1 => .array .int
  | 2 => .array .int
  | 3 => .int
  | 4 => .int
  | _ => .int
theorem nm_Choice : ∀ a, a < 6 → ∀ b, b < 6 → a ≠ b → (F_Choice a).2.1 ≠ (F_Choice b).2.1 := by decide +kernel
theorem ty_Choice_ok : ∀ k, k < 6 → parseFieldDescriptor (F_Choice k).2.2.1 = some (ty_Choice k) := by decide +kernel

def F_Model : u_T := fun k => match k with
  | 0 => ("CarrierPathsModel", "thrown", "I", false)
  | 1 => ("CarrierPathsModel", "points", "I", true)
  | 2 => ("CarrierPathsModel", "places", "[I", true)
  | 3 => ("CarrierPathsModel", "charger", "[Z", true)
  | 4 => ("CarrierPathsModel", "pieces", "I", false)
  | 5 => ("CarrierPathsModel", "first", "[I", true)
  | 6 => ("CarrierPathsModel", "second", "[I", true)
  | 7 => ("CarrierPathsModel", "time", "[I", true)
  | 8 => ("CarrierPathsModel", "closed", "[Z", true)
  | 9 => ("CarrierPathsModel", "rings", "I", false)
  | 10 => ("CarrierPathsModel", "ring", "[I", true)
  | 11 => ("CarrierPathsModel", "carriers", "I", false)
  | 12 => ("CarrierPathsModel", "at", "[I", true)
  | 13 => ("CarrierPathsModel", "on", "[I", true)
  | 14 => ("CarrierPathsModel", "until", "[I", true)
  | 15 => ("CarrierPathsModel", "jobOf", "[I", true)
  | 16 => ("CarrierPathsModel", "charge", "[I", true)
  | 17 => ("CarrierPathsModel", "done", "[I", true)
  | 18 => ("CarrierPathsModel", "empty", "[I", true)
  | 19 => ("CarrierPathsModel", "jobs", "I", false)
  | 20 => ("CarrierPathsModel", "from", "[I", true)
  | 21 => ("CarrierPathsModel", "to", "[I", true)
  | 22 => ("CarrierPathsModel", "state", "[I", true)
  | 23 => ("CarrierPathsModel", "carrierOf", "[I", true)
  | 24 => ("CarrierPathsModel", "now", "I", false)
  | 25 => ("CarrierPathsModel", "far", "[I", true)
  | _ => ("CarrierPathsModel", "best", "[I", true)
def ty_Model : Nat → FieldType := fun k => match k with
  | 0 => .int
  | 1 => .int
  | 2 => .array .int
  | 3 => .array .boolean
  | 4 => .int
  | 5 => .array .int
  | 6 => .array .int
  | 7 => .array .int
  | 8 => .array .boolean
  | 9 => .int
  | 10 => .array .int
  | 11 => .int
  | 12 => .array .int
  | 13 => .array .int
  | 14 => .array .int
  | 15 => .array .int
  | 16 => .array .int
  | 17 => .array .int
  | 18 => .array .int
  | 19 => .int
  | 20 => .array .int
  | 21 => .array .int
  | 22 => .array .int
  | 23 => .array .int
  | 24 => .int
  | 25 => .array .int
  | _ => .array .int
theorem nm_Model : ∀ a, a < 27 → ∀ b, b < 27 → a ≠ b → (F_Model a).2.1 ≠ (F_Model b).2.1 := by decide +kernel
theorem ty_Model_ok : ∀ k, k < 27 → parseFieldDescriptor (F_Model k).2.2.1 = some (ty_Model k) := by decide +kernel

def F_Face : u_T := fun k => match k with
  | 0 => ("CarrierPaths", "points", "LCarrierPaths$Points;", true)
  | 1 => ("CarrierPaths", "roads", "LCarrierPaths$Roads;", true)
  | 2 => ("CarrierPaths", "rings", "LCarrierPaths$Rings;", true)
  | 3 => ("CarrierPaths", "fleet", "LCarrierPaths$Fleet;", true)
  | 4 => ("CarrierPaths", "jobs", "LCarrierPaths$Jobs;", true)
  | 5 => ("CarrierPaths", "choice", "LCarrierPaths$Choice;", true)
  | _ => ("CarrierPaths", "now", "I", false)
def ty_Face : Nat → FieldType := fun k => match k with
  | 0 => .object "CarrierPaths$Points"
  | 1 => .object "CarrierPaths$Roads"
  | 2 => .object "CarrierPaths$Rings"
  | 3 => .object "CarrierPaths$Fleet"
  | 4 => .object "CarrierPaths$Jobs"
  | 5 => .object "CarrierPaths$Choice"
  | _ => .int
theorem nm_Face : ∀ a, a < 7 → ∀ b, b < 7 → a ≠ b → (F_Face a).2.1 ≠ (F_Face b).2.1 := by decide +kernel
theorem ty_Face_ok : ∀ k, k < 7 → parseFieldDescriptor (F_Face k).2.2.1 = some (ty_Face k) := by decide +kernel

abbrev classes : List vw_C := [("CarrierPaths$Choice", F_Choice, 6), ("CarrierPaths$Fleet", F_Fleet, 8), ("CarrierPaths$Jobs", F_Jobs, 5), ("CarrierPaths$Points", F_Points, 3), ("CarrierPaths$Rings", F_Rings, 2), ("CarrierPaths$Roads", F_Roads, 7), ("CarrierPaths", F_Face, 7), ("CarrierPathsModel", F_Model, 27)]
abbrev y_Points_init : MethodName := ⟨"CarrierPaths$Points", "<init>", "(I)V"⟩
abbrev y_Points_size : MethodName := ⟨"CarrierPaths$Points", "size", "()I"⟩
abbrev y_Points_has : MethodName := ⟨"CarrierPaths$Points", "has", "(I)Z"⟩
abbrev y_Points_areTwo : MethodName := ⟨"CarrierPaths$Points", "areTwo", "(II)Z"⟩
abbrev y_Points_asBits : MethodName := ⟨"CarrierPaths$Points", "asBits", "()I"⟩
abbrev y_Points_placesOf : MethodName := ⟨"CarrierPaths$Points", "placesOf", "(I)I"⟩
abbrev y_Points_setPlaces : MethodName := ⟨"CarrierPaths$Points", "setPlaces", "(II)V"⟩
abbrev y_Points_hasCharger : MethodName := ⟨"CarrierPaths$Points", "hasCharger", "(I)Z"⟩
abbrev y_Points_setCharger : MethodName := ⟨"CarrierPaths$Points", "setCharger", "(IZ)V"⟩
abbrev y_Roads_init : MethodName := ⟨"CarrierPaths$Roads", "<init>", "(I)V"⟩
abbrev y_Roads_size : MethodName := ⟨"CarrierPaths$Roads", "size", "()I"⟩
abbrev y_Roads_has : MethodName := ⟨"CarrierPaths$Roads", "has", "(I)Z"⟩
abbrev y_Roads_add : MethodName := ⟨"CarrierPaths$Roads", "add", "(III)I"⟩
abbrev y_Roads_beginningOf : MethodName := ⟨"CarrierPaths$Roads", "beginningOf", "(I)I"⟩
abbrev y_Roads_endOf : MethodName := ⟨"CarrierPaths$Roads", "endOf", "(I)I"⟩
abbrev y_Roads_timeOf : MethodName := ⟨"CarrierPaths$Roads", "timeOf", "(I)I"⟩
abbrev y_Roads_isClosed : MethodName := ⟨"CarrierPaths$Roads", "isClosed", "(I)Z"⟩
abbrev y_Roads_setClosed : MethodName := ⟨"CarrierPaths$Roads", "setClosed", "(IZ)V"⟩
abbrev y_Roads_hasWay : MethodName := ⟨"CarrierPaths$Roads", "hasWay", "(II)Z"⟩
abbrev y_Roads_leastTime : MethodName := ⟨"CarrierPaths$Roads", "leastTime", "(II)I"⟩
abbrev y_Roads_firstPiece : MethodName := ⟨"CarrierPaths$Roads", "firstPiece", "(II)I"⟩
abbrev y_Roads_piecesOnWay : MethodName := ⟨"CarrierPaths$Roads", "piecesOnWay", "(II)I"⟩
abbrev y_Roads_measureAnew : MethodName := ⟨"CarrierPaths$Roads", "measureAnew", "()V"⟩
abbrev y_Roads_forgetTimes : MethodName := ⟨"CarrierPaths$Roads", "forgetTimes", "()V"⟩
abbrev y_Roads_shortenBy : MethodName := ⟨"CarrierPaths$Roads", "shortenBy", "(I)V"⟩
abbrev y_Rings_init : MethodName := ⟨"CarrierPaths$Rings", "<init>", "()V"⟩
abbrev y_Rings_size : MethodName := ⟨"CarrierPaths$Rings", "size", "()I"⟩
abbrev y_Rings_has : MethodName := ⟨"CarrierPaths$Rings", "has", "(I)Z"⟩
abbrev y_Rings_add : MethodName := ⟨"CarrierPaths$Rings", "add", "(I)I"⟩
abbrev y_Rings_bitsOf : MethodName := ⟨"CarrierPaths$Rings", "bitsOf", "(I)I"⟩
abbrev y_Fleet_init : MethodName := ⟨"CarrierPaths$Fleet", "<init>", "()V"⟩
abbrev y_Fleet_size : MethodName := ⟨"CarrierPaths$Fleet", "size", "()I"⟩
abbrev y_Fleet_has : MethodName := ⟨"CarrierPaths$Fleet", "has", "(I)Z"⟩
abbrev y_Fleet_add : MethodName := ⟨"CarrierPaths$Fleet", "add", "(II)I"⟩
abbrev y_Fleet_pointOf : MethodName := ⟨"CarrierPaths$Fleet", "pointOf", "(I)I"⟩
abbrev y_Fleet_pieceOf : MethodName := ⟨"CarrierPaths$Fleet", "pieceOf", "(I)I"⟩
abbrev y_Fleet_arrivalOf : MethodName := ⟨"CarrierPaths$Fleet", "arrivalOf", "(I)I"⟩
abbrev y_Fleet_jobOf : MethodName := ⟨"CarrierPaths$Fleet", "jobOf", "(I)I"⟩
abbrev y_Fleet_chargeOf : MethodName := ⟨"CarrierPaths$Fleet", "chargeOf", "(I)I"⟩
abbrev y_Fleet_endedBy : MethodName := ⟨"CarrierPaths$Fleet", "endedBy", "(I)I"⟩
abbrev y_Fleet_emptyTimeOf : MethodName := ⟨"CarrierPaths$Fleet", "emptyTimeOf", "(I)I"⟩
abbrev y_Fleet_isOnPiece : MethodName := ⟨"CarrierPaths$Fleet", "isOnPiece", "(I)Z"⟩
abbrev y_Fleet_isIdle : MethodName := ⟨"CarrierPaths$Fleet", "isIdle", "(I)Z"⟩
abbrev y_Fleet_isTaken : MethodName := ⟨"CarrierPaths$Fleet", "isTaken", "(I)Z"⟩
abbrev y_Fleet_boundFor : MethodName := ⟨"CarrierPaths$Fleet", "boundFor", "(I)I"⟩
abbrev y_Fleet_onPieces : MethodName := ⟨"CarrierPaths$Fleet", "onPieces", "()I"⟩
abbrev y_Fleet_takeJob : MethodName := ⟨"CarrierPaths$Fleet", "takeJob", "(II)V"⟩
abbrev y_Fleet_endJob : MethodName := ⟨"CarrierPaths$Fleet", "endJob", "(I)V"⟩
abbrev y_Fleet_chargeUp : MethodName := ⟨"CarrierPaths$Fleet", "chargeUp", "(I)V"⟩
abbrev y_Fleet_enter : MethodName := ⟨"CarrierPaths$Fleet", "enter", "(IIIII)V"⟩
abbrev y_Fleet_addEmptyTime : MethodName := ⟨"CarrierPaths$Fleet", "addEmptyTime", "(II)V"⟩
abbrev y_Fleet_arrive : MethodName := ⟨"CarrierPaths$Fleet", "arrive", "(I)I"⟩
abbrev y_Jobs_init : MethodName := ⟨"CarrierPaths$Jobs", "<init>", "()V"⟩
abbrev y_Jobs_size : MethodName := ⟨"CarrierPaths$Jobs", "size", "()I"⟩
abbrev y_Jobs_has : MethodName := ⟨"CarrierPaths$Jobs", "has", "(I)Z"⟩
abbrev y_Jobs_add : MethodName := ⟨"CarrierPaths$Jobs", "add", "(II)I"⟩
abbrev y_Jobs_fromOf : MethodName := ⟨"CarrierPaths$Jobs", "fromOf", "(I)I"⟩
abbrev y_Jobs_toOf : MethodName := ⟨"CarrierPaths$Jobs", "toOf", "(I)I"⟩
abbrev y_Jobs_stateOf : MethodName := ⟨"CarrierPaths$Jobs", "stateOf", "(I)I"⟩
abbrev y_Jobs_carrierOf : MethodName := ⟨"CarrierPaths$Jobs", "carrierOf", "(I)I"⟩
abbrev y_Jobs_isWaiting : MethodName := ⟨"CarrierPaths$Jobs", "isWaiting", "(I)Z"⟩
abbrev y_Jobs_isLoaded : MethodName := ⟨"CarrierPaths$Jobs", "isLoaded", "(I)Z"⟩
abbrev y_Jobs_goalOf : MethodName := ⟨"CarrierPaths$Jobs", "goalOf", "(I)I"⟩
abbrev y_Jobs_ended : MethodName := ⟨"CarrierPaths$Jobs", "ended", "()I"⟩
abbrev y_Jobs_setState : MethodName := ⟨"CarrierPaths$Jobs", "setState", "(II)V"⟩
abbrev y_Jobs_give : MethodName := ⟨"CarrierPaths$Jobs", "give", "(II)V"⟩
abbrev y_Choice_init : MethodName := ⟨"CarrierPaths$Choice", "<init>", "()V"⟩
abbrev y_Choice_begin : MethodName := ⟨"CarrierPaths$Choice", "begin", "(II)V"⟩
abbrev y_Choice_offer : MethodName := ⟨"CarrierPaths$Choice", "offer", "(III)V"⟩
abbrev y_Choice_settle : MethodName := ⟨"CarrierPaths$Choice", "settle", "()V"⟩
abbrev y_Choice_carrierFor : MethodName := ⟨"CarrierPaths$Choice", "carrierFor", "(I)I"⟩
abbrev y_Choice_findBest : MethodName := ⟨"CarrierPaths$Choice", "findBest", "(I)V"⟩
abbrev y_Choice_mostWorth : MethodName := ⟨"CarrierPaths$Choice", "mostWorth", "(II)I"⟩
abbrev y_Choice_leastCarrier : MethodName := ⟨"CarrierPaths$Choice", "leastCarrier", "(II)I"⟩
abbrev y_Choice_canTake : MethodName := ⟨"CarrierPaths$Choice", "canTake", "(III)Z"⟩
abbrev y_Choice_worthWith : MethodName := ⟨"CarrierPaths$Choice", "worthWith", "(III)I"⟩
abbrev y_Choice_worthOf : MethodName := ⟨"CarrierPaths$Choice", "worthOf", "(II)I"⟩
abbrev y_Choice_bestFrom : MethodName := ⟨"CarrierPaths$Choice", "bestFrom", "(II)I"⟩
abbrev y_Model_init : MethodName := ⟨"CarrierPathsModel", "<init>", "(I)V"⟩
abbrev y_Model_thrown : MethodName := ⟨"CarrierPathsModel", "thrown", "()I"⟩
abbrev y_Model_fails : MethodName := ⟨"CarrierPathsModel", "fails", "(I)I"⟩
abbrev y_Model_in : MethodName := ⟨"CarrierPathsModel", "in", "(III)Z"⟩
abbrev y_Model_isPoint : MethodName := ⟨"CarrierPathsModel", "isPoint", "(I)Z"⟩
abbrev y_Model_isCarrier : MethodName := ⟨"CarrierPathsModel", "isCarrier", "(I)Z"⟩
abbrev y_Model_timesTo : MethodName := ⟨"CarrierPathsModel", "timesTo", "(I)V"⟩
abbrev y_Model_pieceFrom : MethodName := ⟨"CarrierPathsModel", "pieceFrom", "(I)I"⟩
abbrev y_Model_timeTo : MethodName := ⟨"CarrierPathsModel", "timeTo", "(II)I"⟩
abbrev y_Model_way : MethodName := ⟨"CarrierPathsModel", "way", "(III)I"⟩
abbrev y_Model_toCharger : MethodName := ⟨"CarrierPathsModel", "toCharger", "(I)I"⟩
abbrev y_Model_standing : MethodName := ⟨"CarrierPathsModel", "standing", "(I)I"⟩
abbrev y_Model_freeIn : MethodName := ⟨"CarrierPathsModel", "freeIn", "(I)I"⟩
abbrev y_Model_piece : MethodName := ⟨"CarrierPathsModel", "piece", "(III)I"⟩
abbrev y_Model_places : MethodName := ⟨"CarrierPathsModel", "places", "(II)Z"⟩
abbrev y_Model_charger : MethodName := ⟨"CarrierPathsModel", "charger", "(IZ)Z"⟩
abbrev y_Model_ring : MethodName := ⟨"CarrierPathsModel", "ring", "(I)I"⟩
abbrev y_Model_carrier : MethodName := ⟨"CarrierPathsModel", "carrier", "(II)I"⟩
abbrev y_Model_job : MethodName := ⟨"CarrierPathsModel", "job", "(II)I"⟩
abbrev y_Model_worth : MethodName := ⟨"CarrierPathsModel", "worth", "(II)I"⟩
abbrev y_Model_reckon : MethodName := ⟨"CarrierPathsModel", "reckon", "()V"⟩
abbrev y_Model_assign : MethodName := ⟨"CarrierPathsModel", "assign", "()I"⟩
abbrev y_Model_isBarred : MethodName := ⟨"CarrierPathsModel", "isBarred", "(I)Z"⟩
abbrev y_Model_isTaken : MethodName := ⟨"CarrierPathsModel", "isTaken", "(I)Z"⟩
abbrev y_Model_goesOn : MethodName := ⟨"CarrierPathsModel", "goesOn", "(II)I"⟩
abbrev y_Model_step : MethodName := ⟨"CarrierPathsModel", "step", "(I)I"⟩
abbrev y_Model_tick : MethodName := ⟨"CarrierPathsModel", "tick", "(I)I"⟩
abbrev y_Model_close : MethodName := ⟨"CarrierPathsModel", "close", "(IZ)Z"⟩
abbrev y_Model_charge : MethodName := ⟨"CarrierPathsModel", "charge", "(I)Z"⟩
abbrev y_Model_look : MethodName := ⟨"CarrierPathsModel", "look", "(II)I"⟩
abbrev y_Model_of : MethodName := ⟨"CarrierPathsModel", "of", "(II)I"⟩
abbrev y_Model_ofPoint : MethodName := ⟨"CarrierPathsModel", "ofPoint", "(I)I"⟩
abbrev y_Model_count : MethodName := ⟨"CarrierPathsModel", "count", "(I)I"⟩
abbrev y_Face_init : MethodName := ⟨"CarrierPaths", "<init>", "(I)V"⟩
abbrev y_Face_piece : MethodName := ⟨"CarrierPaths", "piece", "(III)I"⟩
abbrev y_Face_places : MethodName := ⟨"CarrierPaths", "places", "(II)Z"⟩
abbrev y_Face_charger : MethodName := ⟨"CarrierPaths", "charger", "(IZ)Z"⟩
abbrev y_Face_ring : MethodName := ⟨"CarrierPaths", "ring", "(I)I"⟩
abbrev y_Face_carrier : MethodName := ⟨"CarrierPaths", "carrier", "(II)I"⟩
abbrev y_Face_job : MethodName := ⟨"CarrierPaths", "job", "(II)I"⟩
abbrev y_Face_assign : MethodName := ⟨"CarrierPaths", "assign", "()I"⟩
abbrev y_Face_step : MethodName := ⟨"CarrierPaths", "step", "(I)I"⟩
abbrev y_Face_tick : MethodName := ⟨"CarrierPaths", "tick", "(I)I"⟩
abbrev y_Face_close : MethodName := ⟨"CarrierPaths", "close", "(IZ)Z"⟩
abbrev y_Face_charge : MethodName := ⟨"CarrierPaths", "charge", "(I)Z"⟩
abbrev y_Face_way : MethodName := ⟨"CarrierPaths", "way", "(III)I"⟩
abbrev y_Face_look : MethodName := ⟨"CarrierPaths", "look", "(II)I"⟩
abbrev y_Face_of : MethodName := ⟨"CarrierPaths", "of", "(II)I"⟩
abbrev y_Face_count : MethodName := ⟨"CarrierPaths", "count", "(I)I"⟩
abbrev y_Face_countInAll : MethodName := ⟨"CarrierPaths", "countInAll", "(I)I"⟩
abbrev y_Face_asNumber : MethodName := ⟨"CarrierPaths", "asNumber", "(Z)I"⟩
abbrev y_Face_offerJobs : MethodName := ⟨"CarrierPaths", "offerJobs", "()V"⟩
abbrev y_Face_giveOut : MethodName := ⟨"CarrierPaths", "giveOut", "()I"⟩
abbrev y_Face_emptyTravel : MethodName := ⟨"CarrierPaths", "emptyTravel", "(II)I"⟩
abbrev y_Face_load : MethodName := ⟨"CarrierPaths", "load", "(I)I"⟩
abbrev y_Face_end : MethodName := ⟨"CarrierPaths", "end", "(II)I"⟩
abbrev y_Face_goOn : MethodName := ⟨"CarrierPaths", "goOn", "(II)I"⟩
abbrev y_Face_isFull : MethodName := ⟨"CarrierPaths", "isFull", "(I)Z"⟩
abbrev y_Face_freePlaces : MethodName := ⟨"CarrierPaths", "freePlaces", "(I)I"⟩
abbrev y_Face_isIn : MethodName := ⟨"CarrierPaths", "isIn", "(II)Z"⟩
abbrev y_Face_fillsRing : MethodName := ⟨"CarrierPaths", "fillsRing", "(II)Z"⟩
abbrev y_Face_timeToCharger : MethodName := ⟨"CarrierPaths", "timeToCharger", "(I)I"⟩
end
section
/-! WORDS: one list for all contracts: the tables' good words -/
def TG : List Cond := lw_tbl.filter goodWord
theorem tg_1 {i : Nat} {w : Cond} (h : tables_1_1[i]? = some w) (g : goodWord w = true) : w ∈ TG := List.mem_filter.mpr ⟨List.mem_append_right _ (List.mem_append_left _ (List.mem_of_getElem? h)), g⟩
theorem tg_2 {i : Nat} {w : Cond} (h : tables_1_2[i]? = some w) (g : goodWord w = true) : w ∈ TG := List.mem_filter.mpr ⟨List.mem_append_right _ (List.mem_append_right _ (List.mem_append_left _ (List.mem_of_getElem? h))), g⟩
theorem tg_3 {i : Nat} {w : Cond} (h : tables_1_3[i]? = some w) (g : goodWord w = true) : w ∈ TG := List.mem_filter.mpr ⟨List.mem_append_right _ (List.mem_append_right _ (List.mem_append_right _ (List.mem_append_left _ (List.mem_of_getElem? h)))), g⟩
theorem tg_4 {i : Nat} {w : Cond} (h : tables_1_4[i]? = some w) (g : goodWord w = true) : w ∈ TG := List.mem_filter.mpr ⟨List.mem_append_right _ (List.mem_append_right _ (List.mem_append_right _ (List.mem_append_right _ (List.mem_append_left _ (List.mem_of_getElem? h))))), g⟩
theorem tg_5 {i : Nat} {w : Cond} (h : tables_1_5[i]? = some w) (g : goodWord w = true) : w ∈ TG := List.mem_filter.mpr ⟨List.mem_append_right _ (List.mem_append_right _ (List.mem_append_right _ (List.mem_append_right _ (List.mem_append_right _ (List.mem_of_getElem? h))))), g⟩
theorem tg_p {i : Nat} {w : Cond} (h : (k2_sels lw_privs)[i]? = some w) (g : goodWord w = true) : w ∈ TG := List.mem_filter.mpr ⟨List.mem_append_left _ (List.mem_of_getElem? h), g⟩
theorem tg_good {w : Cond} (h : w ∈ TG) : w ∈ TG ∧ ((w.onTables && w.keeps) = true ∨ ∃ ty, w = .arrayClass ty) := ⟨h, good_of_word (List.mem_filter.mp h).2⟩
theorem g_of {own C : String} {idx : Nat} {y : MethodName} {b : ByteArray} {n : Nat} {r : Option FieldType} (h1 : Cond.methodLink own idx y ∈ TG) (h2 : Cond.instanceMethod y ∈ TG) (h3 : Cond.selects C y y ∈ TG) (h4 : Cond.initialized C ∈ TG) (h5 : Cond.code y b n r ∈ TG) : GoodIn TG (wsV own idx C y (Cond.code y b n r :: TG)) := by
  intro w hw
  unfold wsV at hw
  rcases List.mem_append.mp hw with hw | hw
  · simp only [List.mem_cons, List.not_mem_nil, or_false] at hw
    rcases hw with rfl | rfl | rfl | rfl
    · exact tg_good h1
    · exact tg_good h2
    · exact tg_good h3
    · exact tg_good h4
  · rcases List.mem_cons.mp hw with rfl | hw
    · exact tg_good h5
    · exact tg_good hw
theorem gS_of {own : String} {idx : Nat} {y : MethodName} {b : ByteArray} {n : Nat} {r : Option FieldType} (h1 : Cond.methodLink own idx y ∈ TG) (h2 : Cond.static y ∈ TG) (h4 : Cond.initialized y.cls ∈ TG) (h5 : Cond.code y b n r ∈ TG) : GoodIn TG (va_wsS own idx y (Cond.code y b n r :: TG)) := by
  intro w hw
  unfold va_wsS at hw
  rcases List.mem_append.mp hw with hw | hw
  · simp only [List.mem_cons, List.not_mem_nil, or_false] at hw
    rcases hw with rfl | rfl | rfl
    · exact tg_good h1
    · exact tg_good h2
    · exact tg_good h4
  · rcases List.mem_cons.mp hw with rfl | hw
    · exact tg_good h5
    · exact tg_good hw
/-! STATES AND WORLDS -/
abbrev Sg : Type := Nat → Nat → Int32
def sto (σ : Sg) (k i : Nat) (v : Int32) : Sg := fun j => if j = k then upd (σ j) i v else σ j
def Inj (ad : Nat → Nat) (n : Nat) : Prop := ∀ i j, i < n → j < n → ad i = ad j → i = j
def inA (ad : Nat → Nat) (n : Nat) : Nat → Prop := fun q => ∃ k, k < n ∧ q = ad k
def tysA (cI cZ : ClassId) : List (ClassId × FieldType) := [(cI, .int), (cZ, .boolean)]
theorem D_of {ad : Nat → Nat} {n : Nat} {ws : va_W} (inj : Inj ad n) (hm : ws.map Prod.fst = (List.range n).map ad) : va_D (inA ad n) ws := by
  have key : ∀ (i : Nat) (p : Nat × va_E), ws[i]? = some p → i < n ∧ p.1 = ad i := by
    intro i p hi
    have h1 : (ws.map Prod.fst)[i]? = some p.1 := by rw [List.getElem?_map, hi]; rfl
    rw [hm, List.getElem?_map] at h1
    by_cases hn : i < n
    · rw [List.getElem?_range hn] at h1
      exact ⟨hn, (Option.some.inj h1).symm⟩
    · rw [List.getElem?_eq_none (by rw [List.length_range]; omega)] at h1
      cases h1
  refine ⟨fun i j p q hi hj hpq => ?_, fun k q hk => ⟨k, (key k q hk).1, (key k q hk).2⟩⟩
  obtain ⟨h1, e1⟩ := key i p hi
  obtain ⟨h2, e2⟩ := key j q hj
  exact inj i j h1 h2 (by rw [← e1, ← e2, hpq])
/-! CONTRACTS: a start over a world -/
def roB (D : va_G) (tys : List (ClassId × FieldType)) (Wd : va_W) : State → Prop := fun U => va_P D classes Wd U.heap ∧ va_K D classes tys U
theorem ro_blind {D : va_G} {tys : List (ClassId × FieldType)} {Wd : va_W} {av : List Value} : FrameBlind (va_Pc av (roB D tys Wd)) := fun a U g mk q => by
  obtain ⟨q0, qP, qK⟩ := q
  exact ⟨q0, qP, va_K.moved (u := U) (U := U.calling g mk a) (Vm.Alike.refl U.vm) qK⟩
theorem ro_pre {s : State} {H : Heap} {C : String} {b : Nat} {As : List Value} {D : va_G} {tys : List (ClassId × FieldType)} {Wd : va_W} (hK : va_K D classes tys s) (hP : va_P D classes Wd H) (hr : ∃ cell : Cell, H[b]? = some cell ∧ cell.vm.isStatics = false ∧ s.vm.findClass C = some cell.cls) : PreV s H C b (va_Pc (.ref b :: As) (roB D tys Wd)) As :=
  ⟨ro_blind, hr, fun U hU hW => ⟨rfl, by rw [hU]; exact hP, va_K.moved hW.alike hK⟩⟩
theorem st_pre {s : State} {H : Heap} {As : List Value} : PreS s H (va_Pc As (fun _ => True)) As := ⟨fun _ _ _ _ q => q, fun _ _ _ => ⟨rfl, trivial⟩⟩
theorem hp_back {D : va_G} {cl : List vw_C} {ws : va_W} {t : State} {H : Heap} (ht : t.heap = H) (h : va_P D cl ws H) : va_P D cl ws t.heap := by rw [ht]; exact h
theorem hp_fwd {D : va_G} {cl : List vw_C} {ws : va_W} {t : State} {H : Heap} (ht : t.heap = H) (h : va_P D cl ws t.heap) : va_P D cl ws H := by rw [← ht]; exact h
end
section
theorem kp0 : (Cond.selects "CarrierPaths$Roads" ⟨"CarrierPaths$Roads", "forgetTimes", "()V"⟩ ⟨"CarrierPaths$Roads", "forgetTimes", "()V"⟩ : Cond) ∈ TG := tg_p (i := 0) (by decide +kernel) rfl
theorem kp3 : (Cond.selects "CarrierPaths$Choice" ⟨"CarrierPaths$Choice", "findBest", "(I)V"⟩ ⟨"CarrierPaths$Choice", "findBest", "(I)V"⟩ : Cond) ∈ TG := tg_p (i := 3) (by decide +kernel) rfl
theorem kp4 : (Cond.selects "CarrierPaths$Choice" ⟨"CarrierPaths$Choice", "mostWorth", "(II)I"⟩ ⟨"CarrierPaths$Choice", "mostWorth", "(II)I"⟩ : Cond) ∈ TG := tg_p (i := 4) (by decide +kernel) rfl
theorem kp5 : (Cond.selects "CarrierPaths$Choice" ⟨"CarrierPaths$Choice", "bestFrom", "(II)I"⟩ ⟨"CarrierPaths$Choice", "bestFrom", "(II)I"⟩ : Cond) ∈ TG := tg_p (i := 5) (by decide +kernel) rfl
theorem kp6 : (Cond.selects "CarrierPaths$Choice" ⟨"CarrierPaths$Choice", "canTake", "(III)Z"⟩ ⟨"CarrierPaths$Choice", "canTake", "(III)Z"⟩ : Cond) ∈ TG := tg_p (i := 6) (by decide +kernel) rfl
theorem kp7 : (Cond.selects "CarrierPaths$Choice" ⟨"CarrierPaths$Choice", "worthOf", "(II)I"⟩ ⟨"CarrierPaths$Choice", "worthOf", "(II)I"⟩ : Cond) ∈ TG := tg_p (i := 7) (by decide +kernel) rfl
theorem kp8 : (Cond.selects "CarrierPaths$Choice" ⟨"CarrierPaths$Choice", "worthWith", "(III)I"⟩ ⟨"CarrierPaths$Choice", "worthWith", "(III)I"⟩ : Cond) ∈ TG := tg_p (i := 8) (by decide +kernel) rfl
theorem kp9 : (Cond.selects "CarrierPaths$Choice" ⟨"CarrierPaths$Choice", "leastCarrier", "(II)I"⟩ ⟨"CarrierPaths$Choice", "leastCarrier", "(II)I"⟩ : Cond) ∈ TG := tg_p (i := 9) (by decide +kernel) rfl
theorem kp11 : (Cond.selects "CarrierPaths$Roads" ⟨"CarrierPaths$Roads", "measureAnew", "()V"⟩ ⟨"CarrierPaths$Roads", "measureAnew", "()V"⟩ : Cond) ∈ TG := tg_p (i := 11) (by decide +kernel) rfl
theorem kp12 : (Cond.selects "CarrierPaths$Roads" ⟨"CarrierPaths$Roads", "shortenBy", "(I)V"⟩ ⟨"CarrierPaths$Roads", "shortenBy", "(I)V"⟩ : Cond) ∈ TG := tg_p (i := 12) (by decide +kernel) rfl
theorem kp22 : (Cond.selects "CarrierPathsModel" ⟨"CarrierPathsModel", "isPoint", "(I)Z"⟩ ⟨"CarrierPathsModel", "isPoint", "(I)Z"⟩ : Cond) ∈ TG := tg_p (i := 22) (by decide +kernel) rfl
theorem kp23 : (Cond.selects "CarrierPathsModel" ⟨"CarrierPathsModel", "fails", "(I)I"⟩ ⟨"CarrierPathsModel", "fails", "(I)I"⟩ : Cond) ∈ TG := tg_p (i := 23) (by decide +kernel) rfl
theorem kp24 : (Cond.selects "CarrierPathsModel" ⟨"CarrierPathsModel", "timesTo", "(I)V"⟩ ⟨"CarrierPathsModel", "timesTo", "(I)V"⟩ : Cond) ∈ TG := tg_p (i := 24) (by decide +kernel) rfl
theorem kp25 : (Cond.selects "CarrierPathsModel" ⟨"CarrierPathsModel", "pieceFrom", "(I)I"⟩ ⟨"CarrierPathsModel", "pieceFrom", "(I)I"⟩ : Cond) ∈ TG := tg_p (i := 25) (by decide +kernel) rfl
theorem kp26 : (Cond.selects "CarrierPathsModel" ⟨"CarrierPathsModel", "standing", "(I)I"⟩ ⟨"CarrierPathsModel", "standing", "(I)I"⟩ : Cond) ∈ TG := tg_p (i := 26) (by decide +kernel) rfl
theorem kp27 : (Cond.selects "CarrierPathsModel" ⟨"CarrierPathsModel", "reckon", "()V"⟩ ⟨"CarrierPathsModel", "reckon", "()V"⟩ : Cond) ∈ TG := tg_p (i := 27) (by decide +kernel) rfl
theorem kp28 : (Cond.selects "CarrierPathsModel" ⟨"CarrierPathsModel", "worth", "(II)I"⟩ ⟨"CarrierPathsModel", "worth", "(II)I"⟩ : Cond) ∈ TG := tg_p (i := 28) (by decide +kernel) rfl
theorem kp29 : (Cond.selects "CarrierPathsModel" ⟨"CarrierPathsModel", "timeTo", "(II)I"⟩ ⟨"CarrierPathsModel", "timeTo", "(II)I"⟩ : Cond) ∈ TG := tg_p (i := 29) (by decide +kernel) rfl
theorem kp30 : (Cond.selects "CarrierPathsModel" ⟨"CarrierPathsModel", "isCarrier", "(I)Z"⟩ ⟨"CarrierPathsModel", "isCarrier", "(I)Z"⟩ : Cond) ∈ TG := tg_p (i := 30) (by decide +kernel) rfl
theorem kp31 : (Cond.selects "CarrierPathsModel" ⟨"CarrierPathsModel", "goesOn", "(II)I"⟩ ⟨"CarrierPathsModel", "goesOn", "(II)I"⟩ : Cond) ∈ TG := tg_p (i := 31) (by decide +kernel) rfl
theorem kp32 : (Cond.selects "CarrierPathsModel" ⟨"CarrierPathsModel", "isTaken", "(I)Z"⟩ ⟨"CarrierPathsModel", "isTaken", "(I)Z"⟩ : Cond) ∈ TG := tg_p (i := 32) (by decide +kernel) rfl
theorem kp33 : (Cond.selects "CarrierPathsModel" ⟨"CarrierPathsModel", "isBarred", "(I)Z"⟩ ⟨"CarrierPathsModel", "isBarred", "(I)Z"⟩ : Cond) ∈ TG := tg_p (i := 33) (by decide +kernel) rfl
theorem kp34 : (Cond.selects "CarrierPathsModel" ⟨"CarrierPathsModel", "freeIn", "(I)I"⟩ ⟨"CarrierPathsModel", "freeIn", "(I)I"⟩ : Cond) ∈ TG := tg_p (i := 34) (by decide +kernel) rfl
theorem kp35 : (Cond.selects "CarrierPathsModel" ⟨"CarrierPathsModel", "toCharger", "(I)I"⟩ ⟨"CarrierPathsModel", "toCharger", "(I)I"⟩ : Cond) ∈ TG := tg_p (i := 35) (by decide +kernel) rfl
theorem kp36 : (Cond.selects "CarrierPathsModel" ⟨"CarrierPathsModel", "ofPoint", "(I)I"⟩ ⟨"CarrierPathsModel", "ofPoint", "(I)I"⟩ : Cond) ∈ TG := tg_p (i := 36) (by decide +kernel) rfl
theorem kw2 : (Cond.initialized "java/lang/Math" : Cond) ∈ TG := tg_1 (i := 2) (by decide +kernel) rfl
theorem kw3 : (Cond.initialized "CarrierPaths$Points" : Cond) ∈ TG := tg_1 (i := 3) (by decide +kernel) rfl
theorem kw4 : (Cond.initialized "CarrierPaths$Roads" : Cond) ∈ TG := tg_1 (i := 4) (by decide +kernel) rfl
theorem kw6 : (Cond.initialized "CarrierPaths$Fleet" : Cond) ∈ TG := tg_1 (i := 6) (by decide +kernel) rfl
theorem kw7 : (Cond.initialized "CarrierPaths$Jobs" : Cond) ∈ TG := tg_1 (i := 7) (by decide +kernel) rfl
theorem kw8 : (Cond.initialized "CarrierPaths$Choice" : Cond) ∈ TG := tg_1 (i := 8) (by decide +kernel) rfl
theorem kw9 : (Cond.initialized "CarrierPathsModel" : Cond) ∈ TG := tg_1 (i := 9) (by decide +kernel) rfl
theorem kw25 : (Cond.static ⟨"java/lang/Math", "min", "(II)I"⟩ : Cond) ∈ TG := tg_1 (i := 25) (by decide +kernel) rfl
theorem kw26 : (Cond.code ⟨"java/lang/Math", "min", "(II)I"⟩ prog_14_method_69_code 2 (some .int) : Cond) ∈ TG := tg_1 (i := 26) (by decide +kernel) rfl
theorem kw28 : (Cond.static ⟨"java/lang/Math", "max", "(II)I"⟩ : Cond) ∈ TG := tg_1 (i := 28) (by decide +kernel) rfl
theorem kw29 : (Cond.code ⟨"java/lang/Math", "max", "(II)I"⟩ prog_14_method_65_code 2 (some .int) : Cond) ∈ TG := tg_1 (i := 29) (by decide +kernel) rfl
theorem kw36 : (Cond.fieldLink "CarrierPaths$Points" 19 "CarrierPaths$Points" "size" "I" : Cond) ∈ TG := tg_1 (i := 36) (by decide +kernel) rfl
theorem kw37 : (Cond.fieldLink "CarrierPaths$Points" 9 "CarrierPaths$Points" "rooms" "[I" : Cond) ∈ TG := tg_1 (i := 37) (by decide +kernel) rfl
theorem kw38 : (Cond.fieldLink "CarrierPaths$Points" 15 "CarrierPaths$Points" "chargers" "[Z" : Cond) ∈ TG := tg_1 (i := 38) (by decide +kernel) rfl
theorem kw39 : (Cond.laysFinal "CarrierPaths$Points" "CarrierPaths$Points" "size" "I" : Cond) ∈ TG := tg_1 (i := 39) (by decide +kernel) rfl
theorem kw41 : (Cond.laysFinal "CarrierPaths$Points" "CarrierPaths$Points" "rooms" "[I" : Cond) ∈ TG := tg_1 (i := 41) (by decide +kernel) rfl
theorem kw43 : (Cond.laysFinal "CarrierPaths$Points" "CarrierPaths$Points" "chargers" "[Z" : Cond) ∈ TG := tg_1 (i := 43) (by decide +kernel) rfl
theorem kw54 : (Cond.methodLink "CarrierPaths$Roads" 35 ⟨"CarrierPaths$Roads", "forgetTimes", "()V"⟩ : Cond) ∈ TG := tg_1 (i := 54) (by decide +kernel) rfl
theorem kw56 : (Cond.instanceMethod ⟨"CarrierPaths$Roads", "forgetTimes", "()V"⟩ : Cond) ∈ TG := tg_1 (i := 56) (by decide +kernel) rfl
theorem kw57 : (Cond.code ⟨"CarrierPaths$Roads", "forgetTimes", "()V"⟩ prog_7_method_15_code 3 none : Cond) ∈ TG := tg_1 (i := 57) (by decide +kernel) rfl
theorem kw58 : (Cond.constant "CarrierPaths$Roads" 49 (1000000) : Cond) ∈ TG := tg_1 (i := 58) (by decide +kernel) rfl
theorem kw59 : (Cond.fieldLink "CarrierPaths$Roads" 28 "CarrierPaths$Roads" "points" "I" : Cond) ∈ TG := tg_1 (i := 59) (by decide +kernel) rfl
theorem kw60 : (Cond.fieldLink "CarrierPaths$Roads" 9 "CarrierPaths$Roads" "beginnings" "[I" : Cond) ∈ TG := tg_1 (i := 60) (by decide +kernel) rfl
theorem kw61 : (Cond.fieldLink "CarrierPaths$Roads" 15 "CarrierPaths$Roads" "ends" "[I" : Cond) ∈ TG := tg_1 (i := 61) (by decide +kernel) rfl
theorem kw62 : (Cond.fieldLink "CarrierPaths$Roads" 18 "CarrierPaths$Roads" "times" "[I" : Cond) ∈ TG := tg_1 (i := 62) (by decide +kernel) rfl
theorem kw63 : (Cond.fieldLink "CarrierPaths$Roads" 21 "CarrierPaths$Roads" "closed" "[Z" : Cond) ∈ TG := tg_1 (i := 63) (by decide +kernel) rfl
theorem kw64 : (Cond.fieldLink "CarrierPaths$Roads" 25 "CarrierPaths$Roads" "leastTimes" "[I" : Cond) ∈ TG := tg_1 (i := 64) (by decide +kernel) rfl
theorem kw65 : (Cond.fieldLink "CarrierPaths$Roads" 32 "CarrierPaths$Roads" "size" "I" : Cond) ∈ TG := tg_1 (i := 65) (by decide +kernel) rfl
theorem kw66 : (Cond.laysFinal "CarrierPaths$Roads" "CarrierPaths$Roads" "points" "I" : Cond) ∈ TG := tg_1 (i := 66) (by decide +kernel) rfl
theorem kw68 : (Cond.laysFinal "CarrierPaths$Roads" "CarrierPaths$Roads" "beginnings" "[I" : Cond) ∈ TG := tg_1 (i := 68) (by decide +kernel) rfl
theorem kw70 : (Cond.laysFinal "CarrierPaths$Roads" "CarrierPaths$Roads" "ends" "[I" : Cond) ∈ TG := tg_1 (i := 70) (by decide +kernel) rfl
theorem kw72 : (Cond.laysFinal "CarrierPaths$Roads" "CarrierPaths$Roads" "times" "[I" : Cond) ∈ TG := tg_1 (i := 72) (by decide +kernel) rfl
theorem kw74 : (Cond.laysFinal "CarrierPaths$Roads" "CarrierPaths$Roads" "closed" "[Z" : Cond) ∈ TG := tg_1 (i := 74) (by decide +kernel) rfl
theorem kw76 : (Cond.laysFinal "CarrierPaths$Roads" "CarrierPaths$Roads" "leastTimes" "[I" : Cond) ∈ TG := tg_1 (i := 76) (by decide +kernel) rfl
theorem kw78 : (Cond.lays "CarrierPaths$Roads" "CarrierPaths$Roads" "size" "I" : Cond) ∈ TG := tg_1 (i := 78) (by decide +kernel) rfl
theorem kw87 : (Cond.fieldLink "CarrierPaths$Rings" 9 "CarrierPaths$Rings" "sets" "[I" : Cond) ∈ TG := tg_1 (i := 87) (by decide +kernel) rfl
theorem kw88 : (Cond.fieldLink "CarrierPaths$Rings" 15 "CarrierPaths$Rings" "size" "I" : Cond) ∈ TG := tg_1 (i := 88) (by decide +kernel) rfl
theorem kw89 : (Cond.laysFinal "CarrierPaths$Rings" "CarrierPaths$Rings" "sets" "[I" : Cond) ∈ TG := tg_1 (i := 89) (by decide +kernel) rfl
theorem kw91 : (Cond.lays "CarrierPaths$Rings" "CarrierPaths$Rings" "size" "I" : Cond) ∈ TG := tg_1 (i := 91) (by decide +kernel) rfl
theorem kw100 : (Cond.fieldLink "CarrierPaths$Fleet" 9 "CarrierPaths$Fleet" "at" "[I" : Cond) ∈ TG := tg_1 (i := 100) (by decide +kernel) rfl
theorem kw101 : (Cond.fieldLink "CarrierPaths$Fleet" 15 "CarrierPaths$Fleet" "on" "[I" : Cond) ∈ TG := tg_1 (i := 101) (by decide +kernel) rfl
theorem kw102 : (Cond.fieldLink "CarrierPaths$Fleet" 18 "CarrierPaths$Fleet" "arrivals" "[I" : Cond) ∈ TG := tg_1 (i := 102) (by decide +kernel) rfl
theorem kw103 : (Cond.fieldLink "CarrierPaths$Fleet" 21 "CarrierPaths$Fleet" "holds" "[I" : Cond) ∈ TG := tg_1 (i := 103) (by decide +kernel) rfl
theorem kw104 : (Cond.fieldLink "CarrierPaths$Fleet" 24 "CarrierPaths$Fleet" "charges" "[I" : Cond) ∈ TG := tg_1 (i := 104) (by decide +kernel) rfl
theorem kw105 : (Cond.fieldLink "CarrierPaths$Fleet" 27 "CarrierPaths$Fleet" "endedJobs" "[I" : Cond) ∈ TG := tg_1 (i := 105) (by decide +kernel) rfl
theorem kw106 : (Cond.fieldLink "CarrierPaths$Fleet" 30 "CarrierPaths$Fleet" "emptyTimes" "[I" : Cond) ∈ TG := tg_1 (i := 106) (by decide +kernel) rfl
theorem kw107 : (Cond.fieldLink "CarrierPaths$Fleet" 33 "CarrierPaths$Fleet" "size" "I" : Cond) ∈ TG := tg_1 (i := 107) (by decide +kernel) rfl
theorem kw108 : (Cond.laysFinal "CarrierPaths$Fleet" "CarrierPaths$Fleet" "at" "[I" : Cond) ∈ TG := tg_1 (i := 108) (by decide +kernel) rfl
theorem kw110 : (Cond.laysFinal "CarrierPaths$Fleet" "CarrierPaths$Fleet" "on" "[I" : Cond) ∈ TG := tg_1 (i := 110) (by decide +kernel) rfl
theorem kw112 : (Cond.laysFinal "CarrierPaths$Fleet" "CarrierPaths$Fleet" "arrivals" "[I" : Cond) ∈ TG := tg_1 (i := 112) (by decide +kernel) rfl
theorem kw114 : (Cond.laysFinal "CarrierPaths$Fleet" "CarrierPaths$Fleet" "holds" "[I" : Cond) ∈ TG := tg_1 (i := 114) (by decide +kernel) rfl
theorem kw116 : (Cond.laysFinal "CarrierPaths$Fleet" "CarrierPaths$Fleet" "charges" "[I" : Cond) ∈ TG := tg_1 (i := 116) (by decide +kernel) rfl
theorem kw118 : (Cond.laysFinal "CarrierPaths$Fleet" "CarrierPaths$Fleet" "endedJobs" "[I" : Cond) ∈ TG := tg_1 (i := 118) (by decide +kernel) rfl
theorem kw120 : (Cond.laysFinal "CarrierPaths$Fleet" "CarrierPaths$Fleet" "emptyTimes" "[I" : Cond) ∈ TG := tg_1 (i := 120) (by decide +kernel) rfl
theorem kw122 : (Cond.lays "CarrierPaths$Fleet" "CarrierPaths$Fleet" "size" "I" : Cond) ∈ TG := tg_1 (i := 122) (by decide +kernel) rfl
theorem kw131 : (Cond.fieldLink "CarrierPaths$Jobs" 9 "CarrierPaths$Jobs" "froms" "[I" : Cond) ∈ TG := tg_1 (i := 131) (by decide +kernel) rfl
theorem kw132 : (Cond.fieldLink "CarrierPaths$Jobs" 15 "CarrierPaths$Jobs" "tos" "[I" : Cond) ∈ TG := tg_1 (i := 132) (by decide +kernel) rfl
theorem kw133 : (Cond.fieldLink "CarrierPaths$Jobs" 18 "CarrierPaths$Jobs" "states" "[I" : Cond) ∈ TG := tg_1 (i := 133) (by decide +kernel) rfl
theorem kw134 : (Cond.fieldLink "CarrierPaths$Jobs" 21 "CarrierPaths$Jobs" "holders" "[I" : Cond) ∈ TG := tg_1 (i := 134) (by decide +kernel) rfl
theorem kw135 : (Cond.fieldLink "CarrierPaths$Jobs" 24 "CarrierPaths$Jobs" "size" "I" : Cond) ∈ TG := tg_1 (i := 135) (by decide +kernel) rfl
theorem kw136 : (Cond.laysFinal "CarrierPaths$Jobs" "CarrierPaths$Jobs" "froms" "[I" : Cond) ∈ TG := tg_1 (i := 136) (by decide +kernel) rfl
theorem kw138 : (Cond.laysFinal "CarrierPaths$Jobs" "CarrierPaths$Jobs" "tos" "[I" : Cond) ∈ TG := tg_1 (i := 138) (by decide +kernel) rfl
theorem kw140 : (Cond.laysFinal "CarrierPaths$Jobs" "CarrierPaths$Jobs" "states" "[I" : Cond) ∈ TG := tg_1 (i := 140) (by decide +kernel) rfl
theorem kw142 : (Cond.laysFinal "CarrierPaths$Jobs" "CarrierPaths$Jobs" "holders" "[I" : Cond) ∈ TG := tg_1 (i := 142) (by decide +kernel) rfl
theorem kw144 : (Cond.lays "CarrierPaths$Jobs" "CarrierPaths$Jobs" "size" "I" : Cond) ∈ TG := tg_1 (i := 144) (by decide +kernel) rfl
theorem kw153 : (Cond.fieldLink "CarrierPaths$Choice" 9 "CarrierPaths$Choice" "worths" "[I" : Cond) ∈ TG := tg_1 (i := 153) (by decide +kernel) rfl
theorem kw154 : (Cond.fieldLink "CarrierPaths$Choice" 15 "CarrierPaths$Choice" "best" "[I" : Cond) ∈ TG := tg_1 (i := 154) (by decide +kernel) rfl
theorem kw155 : (Cond.fieldLink "CarrierPaths$Choice" 18 "CarrierPaths$Choice" "chosen" "[I" : Cond) ∈ TG := tg_1 (i := 155) (by decide +kernel) rfl
theorem kw156 : (Cond.fieldLink "CarrierPaths$Choice" 21 "CarrierPaths$Choice" "jobCount" "I" : Cond) ∈ TG := tg_1 (i := 156) (by decide +kernel) rfl
theorem kw157 : (Cond.fieldLink "CarrierPaths$Choice" 25 "CarrierPaths$Choice" "carrierCount" "I" : Cond) ∈ TG := tg_1 (i := 157) (by decide +kernel) rfl
theorem kw158 : (Cond.fieldLink "CarrierPaths$Choice" 28 "CarrierPaths$Choice" "able" "I" : Cond) ∈ TG := tg_1 (i := 158) (by decide +kernel) rfl
theorem kw159 : (Cond.laysFinal "CarrierPaths$Choice" "CarrierPaths$Choice" "worths" "[I" : Cond) ∈ TG := tg_1 (i := 159) (by decide +kernel) rfl
theorem kw161 : (Cond.laysFinal "CarrierPaths$Choice" "CarrierPaths$Choice" "best" "[I" : Cond) ∈ TG := tg_1 (i := 161) (by decide +kernel) rfl
theorem kw163 : (Cond.laysFinal "CarrierPaths$Choice" "CarrierPaths$Choice" "chosen" "[I" : Cond) ∈ TG := tg_1 (i := 163) (by decide +kernel) rfl
theorem kw165 : (Cond.lays "CarrierPaths$Choice" "CarrierPaths$Choice" "jobCount" "I" : Cond) ∈ TG := tg_1 (i := 165) (by decide +kernel) rfl
theorem kw167 : (Cond.lays "CarrierPaths$Choice" "CarrierPaths$Choice" "carrierCount" "I" : Cond) ∈ TG := tg_1 (i := 167) (by decide +kernel) rfl
theorem kw169 : (Cond.lays "CarrierPaths$Choice" "CarrierPaths$Choice" "able" "I" : Cond) ∈ TG := tg_1 (i := 169) (by decide +kernel) rfl
theorem kw179 : (Cond.laysFinal "CarrierPaths" "CarrierPaths" "points" "LCarrierPaths$Points;" : Cond) ∈ TG := tg_1 (i := 179) (by decide +kernel) rfl
theorem kw181 : (Cond.laysFinal "CarrierPaths" "CarrierPaths" "roads" "LCarrierPaths$Roads;" : Cond) ∈ TG := tg_1 (i := 181) (by decide +kernel) rfl
theorem kw183 : (Cond.laysFinal "CarrierPaths" "CarrierPaths" "rings" "LCarrierPaths$Rings;" : Cond) ∈ TG := tg_1 (i := 183) (by decide +kernel) rfl
theorem kw185 : (Cond.laysFinal "CarrierPaths" "CarrierPaths" "fleet" "LCarrierPaths$Fleet;" : Cond) ∈ TG := tg_1 (i := 185) (by decide +kernel) rfl
theorem kw187 : (Cond.laysFinal "CarrierPaths" "CarrierPaths" "jobs" "LCarrierPaths$Jobs;" : Cond) ∈ TG := tg_1 (i := 187) (by decide +kernel) rfl
theorem kw189 : (Cond.laysFinal "CarrierPaths" "CarrierPaths" "choice" "LCarrierPaths$Choice;" : Cond) ∈ TG := tg_1 (i := 189) (by decide +kernel) rfl
theorem kw191 : (Cond.lays "CarrierPaths" "CarrierPaths" "now" "I" : Cond) ∈ TG := tg_1 (i := 191) (by decide +kernel) rfl
theorem kw199 : (Cond.instanceMethod ⟨"CarrierPaths$Points", "has", "(I)Z"⟩ : Cond) ∈ TG := tg_1 (i := 199) (by decide +kernel) rfl
theorem kw200 : (Cond.selects "CarrierPaths$Points" ⟨"CarrierPaths$Points", "has", "(I)Z"⟩ ⟨"CarrierPaths$Points", "has", "(I)Z"⟩ : Cond) ∈ TG := tg_1 (i := 200) (by decide +kernel) rfl
theorem kw201 : (Cond.code ⟨"CarrierPaths$Points", "has", "(I)Z"⟩ prog_5_method_3_code 2 (some .boolean) : Cond) ∈ TG := tg_1 (i := 201) (by decide +kernel) rfl
theorem kw255 : (Cond.instanceMethod ⟨"CarrierPaths$Roads", "leastTime", "(II)I"⟩ : Cond) ∈ TG := tg_2 (i := 15) (by decide +kernel) rfl
theorem kw256 : (Cond.selects "CarrierPaths$Roads" ⟨"CarrierPaths$Roads", "leastTime", "(II)I"⟩ ⟨"CarrierPaths$Roads", "leastTime", "(II)I"⟩ : Cond) ∈ TG := tg_2 (i := 16) (by decide +kernel) rfl
theorem kw257 : (Cond.code ⟨"CarrierPaths$Roads", "leastTime", "(II)I"⟩ prog_7_method_11_code 3 (some .int) : Cond) ∈ TG := tg_2 (i := 17) (by decide +kernel) rfl
theorem kw266 : (Cond.methodLink "CarrierPaths$Fleet" 37 ⟨"CarrierPaths$Fleet", "isOnPiece", "(I)Z"⟩ : Cond) ∈ TG := tg_2 (i := 26) (by decide +kernel) rfl
theorem kw267 : (Cond.instanceMethod ⟨"CarrierPaths$Fleet", "isOnPiece", "(I)Z"⟩ : Cond) ∈ TG := tg_2 (i := 27) (by decide +kernel) rfl
theorem kw268 : (Cond.selects "CarrierPaths$Fleet" ⟨"CarrierPaths$Fleet", "isOnPiece", "(I)Z"⟩ ⟨"CarrierPaths$Fleet", "isOnPiece", "(I)Z"⟩ : Cond) ∈ TG := tg_2 (i := 28) (by decide +kernel) rfl
theorem kw269 : (Cond.code ⟨"CarrierPaths$Fleet", "isOnPiece", "(I)Z"⟩ prog_3_method_12_code 2 (some .boolean) : Cond) ∈ TG := tg_2 (i := 29) (by decide +kernel) rfl
theorem kw279 : (Cond.methodLink "CarrierPaths$Choice" 31 ⟨"CarrierPaths$Choice", "findBest", "(I)V"⟩ : Cond) ∈ TG := tg_2 (i := 39) (by decide +kernel) rfl
theorem kw281 : (Cond.instanceMethod ⟨"CarrierPaths$Choice", "findBest", "(I)V"⟩ : Cond) ∈ TG := tg_2 (i := 41) (by decide +kernel) rfl
theorem kw282 : (Cond.code ⟨"CarrierPaths$Choice", "findBest", "(I)V"⟩ prog_2_method_6_code 3 none : Cond) ∈ TG := tg_2 (i := 42) (by decide +kernel) rfl
theorem kw283 : (Cond.methodLink "CarrierPaths$Choice" 39 ⟨"CarrierPaths$Choice", "mostWorth", "(II)I"⟩ : Cond) ∈ TG := tg_2 (i := 43) (by decide +kernel) rfl
theorem kw285 : (Cond.instanceMethod ⟨"CarrierPaths$Choice", "mostWorth", "(II)I"⟩ : Cond) ∈ TG := tg_2 (i := 45) (by decide +kernel) rfl
theorem kw286 : (Cond.code ⟨"CarrierPaths$Choice", "mostWorth", "(II)I"⟩ prog_2_method_7_code 5 (some .int) : Cond) ∈ TG := tg_2 (i := 46) (by decide +kernel) rfl
theorem kw287 : (Cond.methodLink "CarrierPaths$Choice" 42 ⟨"CarrierPaths$Choice", "bestFrom", "(II)I"⟩ : Cond) ∈ TG := tg_2 (i := 47) (by decide +kernel) rfl
theorem kw289 : (Cond.instanceMethod ⟨"CarrierPaths$Choice", "bestFrom", "(II)I"⟩ : Cond) ∈ TG := tg_2 (i := 49) (by decide +kernel) rfl
theorem kw290 : (Cond.code ⟨"CarrierPaths$Choice", "bestFrom", "(II)I"⟩ prog_2_method_12_code 3 (some .int) : Cond) ∈ TG := tg_2 (i := 50) (by decide +kernel) rfl
theorem kw291 : (Cond.methodLink "CarrierPaths$Choice" 45 ⟨"CarrierPaths$Choice", "canTake", "(III)Z"⟩ : Cond) ∈ TG := tg_2 (i := 51) (by decide +kernel) rfl
theorem kw293 : (Cond.instanceMethod ⟨"CarrierPaths$Choice", "canTake", "(III)Z"⟩ : Cond) ∈ TG := tg_2 (i := 53) (by decide +kernel) rfl
theorem kw294 : (Cond.code ⟨"CarrierPaths$Choice", "canTake", "(III)Z"⟩ prog_2_method_9_code 4 (some .boolean) : Cond) ∈ TG := tg_2 (i := 54) (by decide +kernel) rfl
theorem kw295 : (Cond.methodLink "CarrierPaths$Choice" 58 ⟨"CarrierPaths$Choice", "worthOf", "(II)I"⟩ : Cond) ∈ TG := tg_2 (i := 55) (by decide +kernel) rfl
theorem kw297 : (Cond.instanceMethod ⟨"CarrierPaths$Choice", "worthOf", "(II)I"⟩ : Cond) ∈ TG := tg_2 (i := 57) (by decide +kernel) rfl
theorem kw298 : (Cond.code ⟨"CarrierPaths$Choice", "worthOf", "(II)I"⟩ prog_2_method_11_code 3 (some .int) : Cond) ∈ TG := tg_2 (i := 58) (by decide +kernel) rfl
theorem kw299 : (Cond.methodLink "CarrierPaths$Choice" 49 ⟨"CarrierPaths$Choice", "worthWith", "(III)I"⟩ : Cond) ∈ TG := tg_2 (i := 59) (by decide +kernel) rfl
theorem kw301 : (Cond.instanceMethod ⟨"CarrierPaths$Choice", "worthWith", "(III)I"⟩ : Cond) ∈ TG := tg_2 (i := 61) (by decide +kernel) rfl
theorem kw302 : (Cond.code ⟨"CarrierPaths$Choice", "worthWith", "(III)I"⟩ prog_2_method_10_code 4 (some .int) : Cond) ∈ TG := tg_2 (i := 62) (by decide +kernel) rfl
theorem kw303 : (Cond.methodLink "CarrierPaths$Choice" 53 ⟨"java/lang/Math", "max", "(II)I"⟩ : Cond) ∈ TG := tg_2 (i := 63) (by decide +kernel) rfl
theorem kw304 : (Cond.methodLink "CarrierPaths$Choice" 35 ⟨"CarrierPaths$Choice", "leastCarrier", "(II)I"⟩ : Cond) ∈ TG := tg_2 (i := 64) (by decide +kernel) rfl
theorem kw306 : (Cond.instanceMethod ⟨"CarrierPaths$Choice", "leastCarrier", "(II)I"⟩ : Cond) ∈ TG := tg_2 (i := 66) (by decide +kernel) rfl
theorem kw307 : (Cond.code ⟨"CarrierPaths$Choice", "leastCarrier", "(II)I"⟩ prog_2_method_8_code 4 (some .int) : Cond) ∈ TG := tg_2 (i := 67) (by decide +kernel) rfl
theorem kw340 : (Cond.methodLink "CarrierPaths$Roads" 42 ⟨"CarrierPaths$Roads", "measureAnew", "()V"⟩ : Cond) ∈ TG := tg_2 (i := 100) (by decide +kernel) rfl
theorem kw342 : (Cond.instanceMethod ⟨"CarrierPaths$Roads", "measureAnew", "()V"⟩ : Cond) ∈ TG := tg_2 (i := 102) (by decide +kernel) rfl
theorem kw343 : (Cond.code ⟨"CarrierPaths$Roads", "measureAnew", "()V"⟩ prog_7_method_14_code 2 none : Cond) ∈ TG := tg_2 (i := 103) (by decide +kernel) rfl
theorem kw344 : (Cond.methodLink "CarrierPaths$Roads" 38 ⟨"CarrierPaths$Roads", "shortenBy", "(I)V"⟩ : Cond) ∈ TG := tg_2 (i := 104) (by decide +kernel) rfl
theorem kw346 : (Cond.instanceMethod ⟨"CarrierPaths$Roads", "shortenBy", "(I)V"⟩ : Cond) ∈ TG := tg_2 (i := 106) (by decide +kernel) rfl
theorem kw347 : (Cond.code ⟨"CarrierPaths$Roads", "shortenBy", "(I)V"⟩ prog_7_method_16_code 5 none : Cond) ∈ TG := tg_2 (i := 107) (by decide +kernel) rfl
theorem kw348 : (Cond.methodLink "CarrierPaths$Roads" 45 ⟨"CarrierPaths$Roads", "leastTime", "(II)I"⟩ : Cond) ∈ TG := tg_2 (i := 108) (by decide +kernel) rfl
theorem kw349 : (Cond.methodLink "CarrierPaths$Roads" 53 ⟨"java/lang/Math", "min", "(II)I"⟩ : Cond) ∈ TG := tg_2 (i := 109) (by decide +kernel) rfl
theorem kw422 : (Cond.methodLink "CarrierPaths$Points" 23 ⟨"CarrierPaths$Points", "has", "(I)Z"⟩ : Cond) ∈ TG := tg_2 (i := 182) (by decide +kernel) rfl
theorem kw596 : (Cond.methodLink "CarrierPaths$Jobs" 28 ⟨"CarrierPaths$Jobs", "isLoaded", "(I)Z"⟩ : Cond) ∈ TG := tg_3 (i := 116) (by decide +kernel) rfl
theorem kw597 : (Cond.instanceMethod ⟨"CarrierPaths$Jobs", "isLoaded", "(I)Z"⟩ : Cond) ∈ TG := tg_3 (i := 117) (by decide +kernel) rfl
theorem kw598 : (Cond.selects "CarrierPaths$Jobs" ⟨"CarrierPaths$Jobs", "isLoaded", "(I)Z"⟩ ⟨"CarrierPaths$Jobs", "isLoaded", "(I)Z"⟩ : Cond) ∈ TG := tg_3 (i := 118) (by decide +kernel) rfl
theorem kw599 : (Cond.code ⟨"CarrierPaths$Jobs", "isLoaded", "(I)Z"⟩ prog_4_method_10_code 2 (some .boolean) : Cond) ∈ TG := tg_3 (i := 119) (by decide +kernel) rfl
theorem kw605 : (Cond.instanceMethod ⟨"CarrierPaths$Roads", "firstPiece", "(II)I"⟩ : Cond) ∈ TG := tg_3 (i := 125) (by decide +kernel) rfl
theorem kw606 : (Cond.selects "CarrierPaths$Roads" ⟨"CarrierPaths$Roads", "firstPiece", "(II)I"⟩ ⟨"CarrierPaths$Roads", "firstPiece", "(II)I"⟩ : Cond) ∈ TG := tg_3 (i := 126) (by decide +kernel) rfl
theorem kw607 : (Cond.code ⟨"CarrierPaths$Roads", "firstPiece", "(II)I"⟩ prog_7_method_12_code 5 (some .int) : Cond) ∈ TG := tg_3 (i := 127) (by decide +kernel) rfl
theorem kw700 : (Cond.methodLink "CarrierPaths$Roads" 50 ⟨"CarrierPaths$Roads", "firstPiece", "(II)I"⟩ : Cond) ∈ TG := tg_3 (i := 220) (by decide +kernel) rfl
theorem kw755 : (Cond.fieldLink "CarrierPathsModel" 75 "CarrierPathsModel" "thrown" "I" : Cond) ∈ TG := tg_4 (i := 35) (by decide +kernel) rfl
theorem kw756 : (Cond.fieldLink "CarrierPathsModel" 71 "CarrierPathsModel" "points" "I" : Cond) ∈ TG := tg_4 (i := 36) (by decide +kernel) rfl
theorem kw757 : (Cond.fieldLink "CarrierPathsModel" 7 "CarrierPathsModel" "places" "[I" : Cond) ∈ TG := tg_4 (i := 37) (by decide +kernel) rfl
theorem kw758 : (Cond.fieldLink "CarrierPathsModel" 13 "CarrierPathsModel" "charger" "[Z" : Cond) ∈ TG := tg_4 (i := 38) (by decide +kernel) rfl
theorem kw759 : (Cond.fieldLink "CarrierPathsModel" 82 "CarrierPathsModel" "pieces" "I" : Cond) ∈ TG := tg_4 (i := 39) (by decide +kernel) rfl
theorem kw760 : (Cond.fieldLink "CarrierPathsModel" 17 "CarrierPathsModel" "first" "[I" : Cond) ∈ TG := tg_4 (i := 40) (by decide +kernel) rfl
theorem kw761 : (Cond.fieldLink "CarrierPathsModel" 20 "CarrierPathsModel" "second" "[I" : Cond) ∈ TG := tg_4 (i := 41) (by decide +kernel) rfl
theorem kw762 : (Cond.fieldLink "CarrierPathsModel" 23 "CarrierPathsModel" "time" "[I" : Cond) ∈ TG := tg_4 (i := 42) (by decide +kernel) rfl
theorem kw763 : (Cond.fieldLink "CarrierPathsModel" 26 "CarrierPathsModel" "closed" "[Z" : Cond) ∈ TG := tg_4 (i := 43) (by decide +kernel) rfl
theorem kw764 : (Cond.fieldLink "CarrierPathsModel" 111 "CarrierPathsModel" "rings" "I" : Cond) ∈ TG := tg_4 (i := 44) (by decide +kernel) rfl
theorem kw765 : (Cond.fieldLink "CarrierPathsModel" 29 "CarrierPathsModel" "ring" "[I" : Cond) ∈ TG := tg_4 (i := 45) (by decide +kernel) rfl
theorem kw766 : (Cond.fieldLink "CarrierPathsModel" 78 "CarrierPathsModel" "carriers" "I" : Cond) ∈ TG := tg_4 (i := 46) (by decide +kernel) rfl
theorem kw767 : (Cond.fieldLink "CarrierPathsModel" 32 "CarrierPathsModel" "at" "[I" : Cond) ∈ TG := tg_4 (i := 47) (by decide +kernel) rfl
theorem kw768 : (Cond.fieldLink "CarrierPathsModel" 35 "CarrierPathsModel" "on" "[I" : Cond) ∈ TG := tg_4 (i := 48) (by decide +kernel) rfl
theorem kw769 : (Cond.fieldLink "CarrierPathsModel" 38 "CarrierPathsModel" "until" "[I" : Cond) ∈ TG := tg_4 (i := 49) (by decide +kernel) rfl
theorem kw770 : (Cond.fieldLink "CarrierPathsModel" 41 "CarrierPathsModel" "jobOf" "[I" : Cond) ∈ TG := tg_4 (i := 50) (by decide +kernel) rfl
theorem kw771 : (Cond.fieldLink "CarrierPathsModel" 44 "CarrierPathsModel" "charge" "[I" : Cond) ∈ TG := tg_4 (i := 51) (by decide +kernel) rfl
theorem kw772 : (Cond.fieldLink "CarrierPathsModel" 47 "CarrierPathsModel" "done" "[I" : Cond) ∈ TG := tg_4 (i := 52) (by decide +kernel) rfl
theorem kw773 : (Cond.fieldLink "CarrierPathsModel" 50 "CarrierPathsModel" "empty" "[I" : Cond) ∈ TG := tg_4 (i := 53) (by decide +kernel) rfl
theorem kw774 : (Cond.fieldLink "CarrierPathsModel" 114 "CarrierPathsModel" "jobs" "I" : Cond) ∈ TG := tg_4 (i := 54) (by decide +kernel) rfl
theorem kw775 : (Cond.fieldLink "CarrierPathsModel" 53 "CarrierPathsModel" "from" "[I" : Cond) ∈ TG := tg_4 (i := 55) (by decide +kernel) rfl
theorem kw776 : (Cond.fieldLink "CarrierPathsModel" 56 "CarrierPathsModel" "to" "[I" : Cond) ∈ TG := tg_4 (i := 56) (by decide +kernel) rfl
theorem kw777 : (Cond.fieldLink "CarrierPathsModel" 59 "CarrierPathsModel" "state" "[I" : Cond) ∈ TG := tg_4 (i := 57) (by decide +kernel) rfl
theorem kw778 : (Cond.fieldLink "CarrierPathsModel" 62 "CarrierPathsModel" "carrierOf" "[I" : Cond) ∈ TG := tg_4 (i := 58) (by decide +kernel) rfl
theorem kw779 : (Cond.fieldLink "CarrierPathsModel" 136 "CarrierPathsModel" "now" "I" : Cond) ∈ TG := tg_4 (i := 59) (by decide +kernel) rfl
theorem kw780 : (Cond.fieldLink "CarrierPathsModel" 65 "CarrierPathsModel" "far" "[I" : Cond) ∈ TG := tg_4 (i := 60) (by decide +kernel) rfl
theorem kw781 : (Cond.fieldLink "CarrierPathsModel" 68 "CarrierPathsModel" "best" "[I" : Cond) ∈ TG := tg_4 (i := 61) (by decide +kernel) rfl
theorem kw782 : (Cond.lays "CarrierPathsModel" "CarrierPathsModel" "thrown" "I" : Cond) ∈ TG := tg_4 (i := 62) (by decide +kernel) rfl
theorem kw784 : (Cond.laysFinal "CarrierPathsModel" "CarrierPathsModel" "points" "I" : Cond) ∈ TG := tg_4 (i := 64) (by decide +kernel) rfl
theorem kw786 : (Cond.laysFinal "CarrierPathsModel" "CarrierPathsModel" "places" "[I" : Cond) ∈ TG := tg_4 (i := 66) (by decide +kernel) rfl
theorem kw788 : (Cond.laysFinal "CarrierPathsModel" "CarrierPathsModel" "charger" "[Z" : Cond) ∈ TG := tg_4 (i := 68) (by decide +kernel) rfl
theorem kw790 : (Cond.lays "CarrierPathsModel" "CarrierPathsModel" "pieces" "I" : Cond) ∈ TG := tg_4 (i := 70) (by decide +kernel) rfl
theorem kw792 : (Cond.laysFinal "CarrierPathsModel" "CarrierPathsModel" "first" "[I" : Cond) ∈ TG := tg_4 (i := 72) (by decide +kernel) rfl
theorem kw794 : (Cond.laysFinal "CarrierPathsModel" "CarrierPathsModel" "second" "[I" : Cond) ∈ TG := tg_4 (i := 74) (by decide +kernel) rfl
theorem kw796 : (Cond.laysFinal "CarrierPathsModel" "CarrierPathsModel" "time" "[I" : Cond) ∈ TG := tg_4 (i := 76) (by decide +kernel) rfl
theorem kw798 : (Cond.laysFinal "CarrierPathsModel" "CarrierPathsModel" "closed" "[Z" : Cond) ∈ TG := tg_4 (i := 78) (by decide +kernel) rfl
theorem kw800 : (Cond.lays "CarrierPathsModel" "CarrierPathsModel" "rings" "I" : Cond) ∈ TG := tg_4 (i := 80) (by decide +kernel) rfl
theorem kw802 : (Cond.laysFinal "CarrierPathsModel" "CarrierPathsModel" "ring" "[I" : Cond) ∈ TG := tg_4 (i := 82) (by decide +kernel) rfl
theorem kw804 : (Cond.lays "CarrierPathsModel" "CarrierPathsModel" "carriers" "I" : Cond) ∈ TG := tg_4 (i := 84) (by decide +kernel) rfl
theorem kw806 : (Cond.laysFinal "CarrierPathsModel" "CarrierPathsModel" "at" "[I" : Cond) ∈ TG := tg_4 (i := 86) (by decide +kernel) rfl
theorem kw808 : (Cond.laysFinal "CarrierPathsModel" "CarrierPathsModel" "on" "[I" : Cond) ∈ TG := tg_4 (i := 88) (by decide +kernel) rfl
theorem kw810 : (Cond.laysFinal "CarrierPathsModel" "CarrierPathsModel" "until" "[I" : Cond) ∈ TG := tg_4 (i := 90) (by decide +kernel) rfl
theorem kw812 : (Cond.laysFinal "CarrierPathsModel" "CarrierPathsModel" "jobOf" "[I" : Cond) ∈ TG := tg_4 (i := 92) (by decide +kernel) rfl
theorem kw814 : (Cond.laysFinal "CarrierPathsModel" "CarrierPathsModel" "charge" "[I" : Cond) ∈ TG := tg_4 (i := 94) (by decide +kernel) rfl
theorem kw816 : (Cond.laysFinal "CarrierPathsModel" "CarrierPathsModel" "done" "[I" : Cond) ∈ TG := tg_4 (i := 96) (by decide +kernel) rfl
theorem kw818 : (Cond.laysFinal "CarrierPathsModel" "CarrierPathsModel" "empty" "[I" : Cond) ∈ TG := tg_4 (i := 98) (by decide +kernel) rfl
theorem kw820 : (Cond.lays "CarrierPathsModel" "CarrierPathsModel" "jobs" "I" : Cond) ∈ TG := tg_4 (i := 100) (by decide +kernel) rfl
theorem kw822 : (Cond.laysFinal "CarrierPathsModel" "CarrierPathsModel" "from" "[I" : Cond) ∈ TG := tg_4 (i := 102) (by decide +kernel) rfl
theorem kw824 : (Cond.laysFinal "CarrierPathsModel" "CarrierPathsModel" "to" "[I" : Cond) ∈ TG := tg_4 (i := 104) (by decide +kernel) rfl
theorem kw826 : (Cond.laysFinal "CarrierPathsModel" "CarrierPathsModel" "state" "[I" : Cond) ∈ TG := tg_4 (i := 106) (by decide +kernel) rfl
theorem kw828 : (Cond.laysFinal "CarrierPathsModel" "CarrierPathsModel" "carrierOf" "[I" : Cond) ∈ TG := tg_4 (i := 108) (by decide +kernel) rfl
theorem kw830 : (Cond.lays "CarrierPathsModel" "CarrierPathsModel" "now" "I" : Cond) ∈ TG := tg_4 (i := 110) (by decide +kernel) rfl
theorem kw832 : (Cond.laysFinal "CarrierPathsModel" "CarrierPathsModel" "far" "[I" : Cond) ∈ TG := tg_4 (i := 112) (by decide +kernel) rfl
theorem kw834 : (Cond.laysFinal "CarrierPathsModel" "CarrierPathsModel" "best" "[I" : Cond) ∈ TG := tg_4 (i := 114) (by decide +kernel) rfl
theorem kw845 : (Cond.methodLink "CarrierPathsModel" 89 ⟨"CarrierPathsModel", "isPoint", "(I)Z"⟩ : Cond) ∈ TG := tg_4 (i := 125) (by decide +kernel) rfl
theorem kw847 : (Cond.instanceMethod ⟨"CarrierPathsModel", "isPoint", "(I)Z"⟩ : Cond) ∈ TG := tg_4 (i := 127) (by decide +kernel) rfl
theorem kw848 : (Cond.code ⟨"CarrierPathsModel", "isPoint", "(I)Z"⟩ prog_9_method_5_code 2 (some .boolean) : Cond) ∈ TG := tg_4 (i := 128) (by decide +kernel) rfl
theorem kw849 : (Cond.methodLink "CarrierPathsModel" 93 ⟨"CarrierPathsModel", "in", "(III)Z"⟩ : Cond) ∈ TG := tg_4 (i := 129) (by decide +kernel) rfl
theorem kw850 : (Cond.static ⟨"CarrierPathsModel", "in", "(III)Z"⟩ : Cond) ∈ TG := tg_4 (i := 130) (by decide +kernel) rfl
theorem kw851 : (Cond.code ⟨"CarrierPathsModel", "in", "(III)Z"⟩ prog_9_method_4_code 3 (some .boolean) : Cond) ∈ TG := tg_4 (i := 131) (by decide +kernel) rfl
theorem kw852 : (Cond.methodLink "CarrierPathsModel" 97 ⟨"CarrierPathsModel", "fails", "(I)I"⟩ : Cond) ∈ TG := tg_4 (i := 132) (by decide +kernel) rfl
theorem kw854 : (Cond.instanceMethod ⟨"CarrierPathsModel", "fails", "(I)I"⟩ : Cond) ∈ TG := tg_4 (i := 134) (by decide +kernel) rfl
theorem kw855 : (Cond.code ⟨"CarrierPathsModel", "fails", "(I)I"⟩ prog_9_method_3_code 2 (some .int) : Cond) ∈ TG := tg_4 (i := 135) (by decide +kernel) rfl
theorem kw856 : (Cond.methodLink "CarrierPathsModel" 85 ⟨"CarrierPathsModel", "timesTo", "(I)V"⟩ : Cond) ∈ TG := tg_4 (i := 136) (by decide +kernel) rfl
theorem kw858 : (Cond.instanceMethod ⟨"CarrierPathsModel", "timesTo", "(I)V"⟩ : Cond) ∈ TG := tg_4 (i := 138) (by decide +kernel) rfl
theorem kw859 : (Cond.code ⟨"CarrierPathsModel", "timesTo", "(I)V"⟩ prog_9_method_7_code 4 none : Cond) ∈ TG := tg_4 (i := 139) (by decide +kernel) rfl
theorem kw860 : (Cond.constant "CarrierPathsModel" 81 (1000000000) : Cond) ∈ TG := tg_4 (i := 140) (by decide +kernel) rfl
theorem kw861 : (Cond.methodLink "CarrierPathsModel" 101 ⟨"CarrierPathsModel", "pieceFrom", "(I)I"⟩ : Cond) ∈ TG := tg_4 (i := 141) (by decide +kernel) rfl
theorem kw863 : (Cond.instanceMethod ⟨"CarrierPathsModel", "pieceFrom", "(I)I"⟩ : Cond) ∈ TG := tg_4 (i := 143) (by decide +kernel) rfl
theorem kw864 : (Cond.code ⟨"CarrierPathsModel", "pieceFrom", "(I)I"⟩ prog_9_method_8_code 5 (some .int) : Cond) ∈ TG := tg_4 (i := 144) (by decide +kernel) rfl
theorem kw873 : (Cond.methodLink "CarrierPathsModel" 108 ⟨"CarrierPathsModel", "standing", "(I)I"⟩ : Cond) ∈ TG := tg_4 (i := 153) (by decide +kernel) rfl
theorem kw875 : (Cond.instanceMethod ⟨"CarrierPathsModel", "standing", "(I)I"⟩ : Cond) ∈ TG := tg_4 (i := 155) (by decide +kernel) rfl
theorem kw876 : (Cond.code ⟨"CarrierPathsModel", "standing", "(I)I"⟩ prog_9_method_12_code 4 (some .int) : Cond) ∈ TG := tg_4 (i := 156) (by decide +kernel) rfl
theorem kw897 : (Cond.methodLink "CarrierPathsModel" 121 ⟨"CarrierPathsModel", "reckon", "()V"⟩ : Cond) ∈ TG := tg_4 (i := 177) (by decide +kernel) rfl
theorem kw899 : (Cond.instanceMethod ⟨"CarrierPathsModel", "reckon", "()V"⟩ : Cond) ∈ TG := tg_4 (i := 179) (by decide +kernel) rfl
theorem kw900 : (Cond.code ⟨"CarrierPathsModel", "reckon", "()V"⟩ prog_9_method_21_code 6 none : Cond) ∈ TG := tg_4 (i := 180) (by decide +kernel) rfl
theorem kw901 : (Cond.methodLink "CarrierPathsModel" 118 ⟨"CarrierPathsModel", "worth", "(II)I"⟩ : Cond) ∈ TG := tg_4 (i := 181) (by decide +kernel) rfl
theorem kw903 : (Cond.instanceMethod ⟨"CarrierPathsModel", "worth", "(II)I"⟩ : Cond) ∈ TG := tg_4 (i := 183) (by decide +kernel) rfl
theorem kw904 : (Cond.code ⟨"CarrierPathsModel", "worth", "(II)I"⟩ prog_9_method_20_code 4 (some .int) : Cond) ∈ TG := tg_4 (i := 184) (by decide +kernel) rfl
theorem kw905 : (Cond.methodLink "CarrierPathsModel" 104 ⟨"CarrierPathsModel", "timeTo", "(II)I"⟩ : Cond) ∈ TG := tg_4 (i := 185) (by decide +kernel) rfl
theorem kw907 : (Cond.instanceMethod ⟨"CarrierPathsModel", "timeTo", "(II)I"⟩ : Cond) ∈ TG := tg_4 (i := 187) (by decide +kernel) rfl
theorem kw908 : (Cond.code ⟨"CarrierPathsModel", "timeTo", "(II)I"⟩ prog_9_method_9_code 3 (some .int) : Cond) ∈ TG := tg_4 (i := 188) (by decide +kernel) rfl
theorem kw909 : (Cond.constant "CarrierPathsModel" 117 (100000) : Cond) ∈ TG := tg_4 (i := 189) (by decide +kernel) rfl
theorem kw914 : (Cond.methodLink "CarrierPathsModel" 139 ⟨"CarrierPathsModel", "isCarrier", "(I)Z"⟩ : Cond) ∈ TG := tg_4 (i := 194) (by decide +kernel) rfl
theorem kw916 : (Cond.instanceMethod ⟨"CarrierPathsModel", "isCarrier", "(I)Z"⟩ : Cond) ∈ TG := tg_4 (i := 196) (by decide +kernel) rfl
theorem kw917 : (Cond.code ⟨"CarrierPathsModel", "isCarrier", "(I)Z"⟩ prog_9_method_6_code 2 (some .boolean) : Cond) ∈ TG := tg_4 (i := 197) (by decide +kernel) rfl
theorem kw918 : (Cond.methodLink "CarrierPathsModel" 142 ⟨"CarrierPathsModel", "goesOn", "(II)I"⟩ : Cond) ∈ TG := tg_4 (i := 198) (by decide +kernel) rfl
theorem kw920 : (Cond.instanceMethod ⟨"CarrierPathsModel", "goesOn", "(II)I"⟩ : Cond) ∈ TG := tg_4 (i := 200) (by decide +kernel) rfl
theorem kw921 : (Cond.code ⟨"CarrierPathsModel", "goesOn", "(II)I"⟩ prog_9_method_25_code 5 (some .int) : Cond) ∈ TG := tg_4 (i := 201) (by decide +kernel) rfl
theorem kw922 : (Cond.methodLink "CarrierPathsModel" 127 ⟨"CarrierPathsModel", "isTaken", "(I)Z"⟩ : Cond) ∈ TG := tg_4 (i := 202) (by decide +kernel) rfl
theorem kw924 : (Cond.instanceMethod ⟨"CarrierPathsModel", "isTaken", "(I)Z"⟩ : Cond) ∈ TG := tg_4 (i := 204) (by decide +kernel) rfl
theorem kw925 : (Cond.code ⟨"CarrierPathsModel", "isTaken", "(I)Z"⟩ prog_9_method_24_code 4 (some .boolean) : Cond) ∈ TG := tg_4 (i := 205) (by decide +kernel) rfl
theorem kw926 : (Cond.methodLink "CarrierPathsModel" 130 ⟨"CarrierPathsModel", "isBarred", "(I)Z"⟩ : Cond) ∈ TG := tg_4 (i := 206) (by decide +kernel) rfl
theorem kw928 : (Cond.instanceMethod ⟨"CarrierPathsModel", "isBarred", "(I)Z"⟩ : Cond) ∈ TG := tg_4 (i := 208) (by decide +kernel) rfl
theorem kw929 : (Cond.code ⟨"CarrierPathsModel", "isBarred", "(I)Z"⟩ prog_9_method_23_code 4 (some .boolean) : Cond) ∈ TG := tg_4 (i := 209) (by decide +kernel) rfl
theorem kw930 : (Cond.methodLink "CarrierPathsModel" 124 ⟨"CarrierPathsModel", "freeIn", "(I)I"⟩ : Cond) ∈ TG := tg_4 (i := 210) (by decide +kernel) rfl
theorem kw932 : (Cond.instanceMethod ⟨"CarrierPathsModel", "freeIn", "(I)I"⟩ : Cond) ∈ TG := tg_4 (i := 212) (by decide +kernel) rfl
theorem kw933 : (Cond.code ⟨"CarrierPathsModel", "freeIn", "(I)I"⟩ prog_9_method_13_code 4 (some .int) : Cond) ∈ TG := tg_4 (i := 213) (by decide +kernel) rfl
theorem kw934 : (Cond.methodLink "CarrierPathsModel" 133 ⟨"CarrierPathsModel", "toCharger", "(I)I"⟩ : Cond) ∈ TG := tg_4 (i := 214) (by decide +kernel) rfl
theorem kw936 : (Cond.instanceMethod ⟨"CarrierPathsModel", "toCharger", "(I)I"⟩ : Cond) ∈ TG := tg_4 (i := 216) (by decide +kernel) rfl
theorem kw937 : (Cond.code ⟨"CarrierPathsModel", "toCharger", "(I)I"⟩ prog_9_method_11_code 5 (some .int) : Cond) ∈ TG := tg_4 (i := 217) (by decide +kernel) rfl
theorem kw942 : (Cond.constant "CarrierPathsModel" 145 (1000000) : Cond) ∈ TG := tg_4 (i := 222) (by decide +kernel) rfl
theorem kw963 : (Cond.methodLink "CarrierPathsModel" 146 ⟨"CarrierPathsModel", "ofPoint", "(I)I"⟩ : Cond) ∈ TG := tg_5 (i := 3) (by decide +kernel) rfl
theorem kw965 : (Cond.instanceMethod ⟨"CarrierPathsModel", "ofPoint", "(I)I"⟩ : Cond) ∈ TG := tg_5 (i := 5) (by decide +kernel) rfl
theorem kw966 : (Cond.code ⟨"CarrierPathsModel", "ofPoint", "(I)I"⟩ prog_9_method_32_code 3 (some .int) : Cond) ∈ TG := tg_5 (i := 6) (by decide +kernel) rfl
theorem in_Points : ∀ w ∈ u_ws "CarrierPaths$Points" F_Points 3, w ∈ TG := List.forall_mem_cons.mpr ⟨kw39, List.forall_mem_cons.mpr ⟨kw41, List.forall_mem_cons.mpr ⟨kw43, fun _ h => absurd h List.not_mem_nil⟩⟩⟩
theorem in_Roads : ∀ w ∈ u_ws "CarrierPaths$Roads" F_Roads 7, w ∈ TG := List.forall_mem_cons.mpr ⟨kw66, List.forall_mem_cons.mpr ⟨kw68, List.forall_mem_cons.mpr ⟨kw70, List.forall_mem_cons.mpr ⟨kw72, List.forall_mem_cons.mpr ⟨kw74, List.forall_mem_cons.mpr ⟨kw76, List.forall_mem_cons.mpr ⟨kw78, fun _ h => absurd h List.not_mem_nil⟩⟩⟩⟩⟩⟩⟩
theorem in_Rings : ∀ w ∈ u_ws "CarrierPaths$Rings" F_Rings 2, w ∈ TG := List.forall_mem_cons.mpr ⟨kw89, List.forall_mem_cons.mpr ⟨kw91, fun _ h => absurd h List.not_mem_nil⟩⟩
theorem in_Fleet : ∀ w ∈ u_ws "CarrierPaths$Fleet" F_Fleet 8, w ∈ TG := List.forall_mem_cons.mpr ⟨kw108, List.forall_mem_cons.mpr ⟨kw110, List.forall_mem_cons.mpr ⟨kw112, List.forall_mem_cons.mpr ⟨kw114, List.forall_mem_cons.mpr ⟨kw116, List.forall_mem_cons.mpr ⟨kw118, List.forall_mem_cons.mpr ⟨kw120, List.forall_mem_cons.mpr ⟨kw122, fun _ h => absurd h List.not_mem_nil⟩⟩⟩⟩⟩⟩⟩⟩
theorem in_Jobs : ∀ w ∈ u_ws "CarrierPaths$Jobs" F_Jobs 5, w ∈ TG := List.forall_mem_cons.mpr ⟨kw136, List.forall_mem_cons.mpr ⟨kw138, List.forall_mem_cons.mpr ⟨kw140, List.forall_mem_cons.mpr ⟨kw142, List.forall_mem_cons.mpr ⟨kw144, fun _ h => absurd h List.not_mem_nil⟩⟩⟩⟩⟩
theorem in_Choice : ∀ w ∈ u_ws "CarrierPaths$Choice" F_Choice 6, w ∈ TG := List.forall_mem_cons.mpr ⟨kw159, List.forall_mem_cons.mpr ⟨kw161, List.forall_mem_cons.mpr ⟨kw163, List.forall_mem_cons.mpr ⟨kw165, List.forall_mem_cons.mpr ⟨kw167, List.forall_mem_cons.mpr ⟨kw169, fun _ h => absurd h List.not_mem_nil⟩⟩⟩⟩⟩⟩
theorem in_Model : ∀ w ∈ u_ws "CarrierPathsModel" F_Model 27, w ∈ TG := List.forall_mem_cons.mpr ⟨kw782, List.forall_mem_cons.mpr ⟨kw784, List.forall_mem_cons.mpr ⟨kw786, List.forall_mem_cons.mpr ⟨kw788, List.forall_mem_cons.mpr ⟨kw790, List.forall_mem_cons.mpr ⟨kw792, List.forall_mem_cons.mpr ⟨kw794, List.forall_mem_cons.mpr ⟨kw796, List.forall_mem_cons.mpr ⟨kw798, List.forall_mem_cons.mpr ⟨kw800, List.forall_mem_cons.mpr ⟨kw802, List.forall_mem_cons.mpr ⟨kw804, List.forall_mem_cons.mpr ⟨kw806, List.forall_mem_cons.mpr ⟨kw808, List.forall_mem_cons.mpr ⟨kw810, List.forall_mem_cons.mpr ⟨kw812, List.forall_mem_cons.mpr ⟨kw814, List.forall_mem_cons.mpr ⟨kw816, List.forall_mem_cons.mpr ⟨kw818, List.forall_mem_cons.mpr ⟨kw820, List.forall_mem_cons.mpr ⟨kw822, List.forall_mem_cons.mpr ⟨kw824, List.forall_mem_cons.mpr ⟨kw826, List.forall_mem_cons.mpr ⟨kw828, List.forall_mem_cons.mpr ⟨kw830, List.forall_mem_cons.mpr ⟨kw832, List.forall_mem_cons.mpr ⟨kw834, fun _ h => absurd h List.not_mem_nil⟩⟩⟩⟩⟩⟩⟩⟩⟩⟩⟩⟩⟩⟩⟩⟩⟩⟩⟩⟩⟩⟩⟩⟩⟩⟩⟩
theorem in_Face : ∀ w ∈ u_ws "CarrierPaths" F_Face 7, w ∈ TG := List.forall_mem_cons.mpr ⟨kw179, List.forall_mem_cons.mpr ⟨kw181, List.forall_mem_cons.mpr ⟨kw183, List.forall_mem_cons.mpr ⟨kw185, List.forall_mem_cons.mpr ⟨kw187, List.forall_mem_cons.mpr ⟨kw189, List.forall_mem_cons.mpr ⟨kw191, fun _ h => absurd h List.not_mem_nil⟩⟩⟩⟩⟩⟩⟩
end
section
theorem d_Points_size_0 : decode prog_5_method_2_code 0 = .ok (.aload_n 0, 1) := by decide +kernel
theorem d_Points_size_1 : decode prog_5_method_2_code 1 = .ok (.getfield 19, 3) := by decide +kernel
theorem d_Points_size_4 : decode prog_5_method_2_code 4 = .ok (.ireturn, 1) := by decide +kernel
theorem d_Points_has_0 : decode prog_5_method_3_code 0 = .ok (.iload_n 1, 1) := by decide +kernel
theorem d_Points_has_1 : decode prog_5_method_3_code 1 = .ok (.ifCond .lt 15, 3) := by decide +kernel
theorem d_Points_has_4 : decode prog_5_method_3_code 4 = .ok (.iload_n 1, 1) := by decide +kernel
theorem d_Points_has_5 : decode prog_5_method_3_code 5 = .ok (.aload_n 0, 1) := by decide +kernel
theorem d_Points_has_6 : decode prog_5_method_3_code 6 = .ok (.getfield 19, 3) := by decide +kernel
theorem d_Points_has_9 : decode prog_5_method_3_code 9 = .ok (.if_icmp .ge 7, 3) := by decide +kernel
theorem d_Points_has_12 : decode prog_5_method_3_code 12 = .ok (.iconst 1, 1) := by decide +kernel
theorem d_Points_has_13 : decode prog_5_method_3_code 13 = .ok (.goto 4, 3) := by decide +kernel
theorem d_Points_has_16 : decode prog_5_method_3_code 16 = .ok (.iconst 0, 1) := by decide +kernel
theorem d_Points_has_17 : decode prog_5_method_3_code 17 = .ok (.ireturn, 1) := by decide +kernel
theorem d_Points_areTwo_0 : decode prog_5_method_4_code 0 = .ok (.aload_n 0, 1) := by decide +kernel
theorem d_Points_areTwo_1 : decode prog_5_method_4_code 1 = .ok (.iload_n 1, 1) := by decide +kernel
theorem d_Points_areTwo_2 : decode prog_5_method_4_code 2 = .ok (.invokevirtual 23, 3) := by decide +kernel
theorem d_Points_areTwo_5 : decode prog_5_method_4_code 5 = .ok (.ifCond .eq 20, 3) := by decide +kernel
theorem d_Points_areTwo_8 : decode prog_5_method_4_code 8 = .ok (.aload_n 0, 1) := by decide +kernel
theorem d_Points_areTwo_9 : decode prog_5_method_4_code 9 = .ok (.iload_n 2, 1) := by decide +kernel
theorem d_Points_areTwo_10 : decode prog_5_method_4_code 10 = .ok (.invokevirtual 23, 3) := by decide +kernel
theorem d_Points_areTwo_13 : decode prog_5_method_4_code 13 = .ok (.ifCond .eq 12, 3) := by decide +kernel
theorem d_Points_areTwo_16 : decode prog_5_method_4_code 16 = .ok (.iload_n 1, 1) := by decide +kernel
theorem d_Points_areTwo_17 : decode prog_5_method_4_code 17 = .ok (.iload_n 2, 1) := by decide +kernel
theorem d_Points_areTwo_18 : decode prog_5_method_4_code 18 = .ok (.if_icmp .eq 7, 3) := by decide +kernel
theorem d_Points_areTwo_21 : decode prog_5_method_4_code 21 = .ok (.iconst 1, 1) := by decide +kernel
theorem d_Points_areTwo_22 : decode prog_5_method_4_code 22 = .ok (.goto 4, 3) := by decide +kernel
theorem d_Points_areTwo_25 : decode prog_5_method_4_code 25 = .ok (.iconst 0, 1) := by decide +kernel
theorem d_Points_areTwo_26 : decode prog_5_method_4_code 26 = .ok (.ireturn, 1) := by decide +kernel
theorem d_Points_asBits_0 : decode prog_5_method_5_code 0 = .ok (.iconst 1, 1) := by decide +kernel
theorem d_Points_asBits_1 : decode prog_5_method_5_code 1 = .ok (.aload_n 0, 1) := by decide +kernel
theorem d_Points_asBits_2 : decode prog_5_method_5_code 2 = .ok (.getfield 19, 3) := by decide +kernel
theorem d_Points_asBits_5 : decode prog_5_method_5_code 5 = .ok (.ishl, 1) := by decide +kernel
theorem d_Points_asBits_6 : decode prog_5_method_5_code 6 = .ok (.iconst 1, 1) := by decide +kernel
theorem d_Points_asBits_7 : decode prog_5_method_5_code 7 = .ok (.isub, 1) := by decide +kernel
theorem d_Points_asBits_8 : decode prog_5_method_5_code 8 = .ok (.ireturn, 1) := by decide +kernel
theorem d_Points_placesOf_0 : decode prog_5_method_6_code 0 = .ok (.aload_n 0, 1) := by decide +kernel
theorem d_Points_placesOf_1 : decode prog_5_method_6_code 1 = .ok (.getfield 9, 3) := by decide +kernel
theorem d_Points_placesOf_4 : decode prog_5_method_6_code 4 = .ok (.iload_n 1, 1) := by decide +kernel
theorem d_Points_placesOf_5 : decode prog_5_method_6_code 5 = .ok (.iaload, 1) := by decide +kernel
theorem d_Points_placesOf_6 : decode prog_5_method_6_code 6 = .ok (.ireturn, 1) := by decide +kernel
theorem d_Points_setPlaces_0 : decode prog_5_method_7_code 0 = .ok (.aload_n 0, 1) := by decide +kernel
theorem d_Points_setPlaces_1 : decode prog_5_method_7_code 1 = .ok (.getfield 9, 3) := by decide +kernel
theorem d_Points_setPlaces_4 : decode prog_5_method_7_code 4 = .ok (.iload_n 1, 1) := by decide +kernel
theorem d_Points_setPlaces_5 : decode prog_5_method_7_code 5 = .ok (.iload_n 2, 1) := by decide +kernel
theorem d_Points_setPlaces_6 : decode prog_5_method_7_code 6 = .ok (.iastore, 1) := by decide +kernel
theorem d_Points_setPlaces_7 : decode prog_5_method_7_code 7 = .ok (.return_, 1) := by decide +kernel
theorem d_Points_hasCharger_0 : decode prog_5_method_8_code 0 = .ok (.aload_n 0, 1) := by decide +kernel
theorem d_Points_hasCharger_1 : decode prog_5_method_8_code 1 = .ok (.getfield 15, 3) := by decide +kernel
theorem d_Points_hasCharger_4 : decode prog_5_method_8_code 4 = .ok (.iload_n 1, 1) := by decide +kernel
theorem d_Points_hasCharger_5 : decode prog_5_method_8_code 5 = .ok (.baload, 1) := by decide +kernel
theorem d_Points_hasCharger_6 : decode prog_5_method_8_code 6 = .ok (.ireturn, 1) := by decide +kernel
theorem d_Points_setCharger_0 : decode prog_5_method_9_code 0 = .ok (.aload_n 0, 1) := by decide +kernel
theorem d_Points_setCharger_1 : decode prog_5_method_9_code 1 = .ok (.getfield 15, 3) := by decide +kernel
theorem d_Points_setCharger_4 : decode prog_5_method_9_code 4 = .ok (.iload_n 1, 1) := by decide +kernel
theorem d_Points_setCharger_5 : decode prog_5_method_9_code 5 = .ok (.iload_n 2, 1) := by decide +kernel
theorem d_Points_setCharger_6 : decode prog_5_method_9_code 6 = .ok (.bastore, 1) := by decide +kernel
theorem d_Points_setCharger_7 : decode prog_5_method_9_code 7 = .ok (.return_, 1) := by decide +kernel
end
section
def W_Points (ad : Nat → Nat) (cI cZ : ClassId) (σ : Sg) : va_W :=
  [(ad 0, .inr (3, [.int (σ 0 0), .ref (ad 1), .ref (ad 2)])),
   (ad 1, .inl (cI, 10, .inl (σ 1))),
   (ad 2, .inl (cZ, 10, .inl (σ 2)))]
theorem D_Points {ad : Nat → Nat} {cI cZ : ClassId} {σ : Sg} (inj : Inj ad 3) : va_D (inA ad 3) (W_Points ad cI cZ σ) := D_of inj rfl
def q_Points_size (σ : Sg) (Q : (Int32 → Prop)) : Prop :=
  Q (σ 0 0)
set_option maxHeartbeats 4000000 in
set_option maxRecDepth 100000 in
theorem t_Points_size (l : Launch) (D : va_G) (cI cZ : ClassId) (ad : Nat → Nat) (σ : Sg) (Q : (Int32 → Prop)) (h : q_Points_size σ Q) : Met l y_Points_size (.code y_Points_size prog_5_method_2_code 1 (some .int) :: TG) { frames := 0, cells := 0, slots := 0, locals := 0 } (va_Pc [.ref (ad 0)] (roB D (tysA cI cZ) (W_Points ad cI cZ σ))) (vp_Si Q) 0 0 (fun _ => False) := by
  refine Met.ofW (cc := prog_5_method_2_code) (maxL := 1) (ret := (some .int)) (by decide) rfl ?_
  intro p e s m args below meth c s₁ B hml hv
  obtain ⟨rfl, hP, hK⟩ := hv
  have hx := B.exec
  have hb := B.bytes
  have hr := B.returns
  have hts : ∀ w ∈ TG, w.before [.ref (ad 0)].toArray s = true := fun w hw => atoms_spec (ws := .code y_Points_size prog_5_method_2_code 1 (some .int) :: TG) B.pre w (List.mem_cons_of_mem _ hw)
  have hown : s.vm.findClass "CarrierPaths$Points" = some m.cls := findClass_of_methodNamed B.named
  have hlocks := B.notSynchronized
  have hl := lv_entry ([.ref (ad 0)]) (n := 1) (Nat.le_of_ble_eq_true rfl)
  rw [lg_entry_eq]
  generalize (lg_sl ([.ref (ad 0)]) ++ List.replicate (1 - (lg_sl ([.ref (ad 0)])).length) Slot.unset).toArray = ls at hl ⊢
  have hl : lv_has ls 1 [(0, .ref (ad 0))] := hl
  unfold q_Points_size at h
  refine lv_aload_n hx hb d_Points_size_0 rfl (lv_at hl 0 rfl) ?_
  refine va_get (D := D) (ci := 3) (v := .int (σ 0 0)) (C := "CarrierPaths$Points") (T := F_Points) (N := 3) hx hb hts in_Points hown hK hP 0 rfl rfl 0 (by decide) (hts _ kw36) (fun _ h9 => h9) rfl d_Points_size_1 ?_
  exact W.iret (v := (σ 0 0)) hx hb hr (fun t ht hW => ⟨(σ 0 0), rfl, h, ht⟩) (fun q hq => by cases hq) d_Points_size_4
def q_Points_has (v1 : Int32) (σ : Sg) (Q : (Int32 → Prop)) : Prop :=
  ((v1 < 0 → Q 0) ∧ (¬ v1 < 0 → (((σ 0 0) ≤ v1 → Q 0) ∧ (¬ (σ 0 0) ≤ v1 → Q 1))))
set_option maxHeartbeats 4000000 in
set_option maxRecDepth 100000 in
theorem t_Points_has (l : Launch) (D : va_G) (cI cZ : ClassId) (ad : Nat → Nat) (v1 : Int32) (σ : Sg) (Q : (Int32 → Prop)) (h : q_Points_has v1 σ Q) : Met l y_Points_has (.code y_Points_has prog_5_method_3_code 2 (some .boolean) :: TG) { frames := 0, cells := 0, slots := 0, locals := 0 } (va_Pc [.ref (ad 0), .int v1] (roB D (tysA cI cZ) (W_Points ad cI cZ σ))) (vp_Si Q) 0 0 (fun _ => False) := by
  refine Met.ofW (cc := prog_5_method_3_code) (maxL := 2) (ret := (some .boolean)) (by decide) rfl ?_
  intro p e s m args below meth c s₁ B hml hv
  obtain ⟨rfl, hP, hK⟩ := hv
  have hx := B.exec
  have hb := B.bytes
  have hr := B.returns
  have hts : ∀ w ∈ TG, w.before [.ref (ad 0), .int v1].toArray s = true := fun w hw => atoms_spec (ws := .code y_Points_has prog_5_method_3_code 2 (some .boolean) :: TG) B.pre w (List.mem_cons_of_mem _ hw)
  have hown : s.vm.findClass "CarrierPaths$Points" = some m.cls := findClass_of_methodNamed B.named
  have hlocks := B.notSynchronized
  have hl := lv_entry ([.ref (ad 0), .int v1]) (n := 2) (Nat.le_of_ble_eq_true rfl)
  rw [lg_entry_eq]
  generalize (lg_sl ([.ref (ad 0), .int v1]) ++ List.replicate (2 - (lg_sl ([.ref (ad 0), .int v1])).length) Slot.unset).toArray = ls at hl ⊢
  have hl : lv_has ls 2 [(0, .ref (ad 0)), (1, .int v1)] := hl
  unfold q_Points_has at h
  refine lv_iload_n hx hb d_Points_has_0 rfl (lv_at hl 1 rfl) ?_
  refine lv_if_lt (tgt := 16) hx hb d_Points_has_1 (by decide) (fun hc => ?_) (fun hc => ?_)
  · have h := h.1 hc
    refine lv_iconst (v := 0) hx hb d_Points_has_16 (by decide) ?_
    exact W.zret (v := 0) hx hb hr (by decide) (fun t ht hW => ⟨0, rfl, h, ht⟩) (fun q hq => by cases hq) d_Points_has_17
  · have h := h.2 hc
    refine lv_iload_n hx hb d_Points_has_4 rfl (lv_at hl 1 rfl) ?_
    refine lv_aload_n hx hb d_Points_has_5 rfl (lv_at hl 0 rfl) ?_
    refine va_get (D := D) (ci := 3) (v := .int (σ 0 0)) (C := "CarrierPaths$Points") (T := F_Points) (N := 3) hx hb hts in_Points hown hK hP 0 rfl rfl 0 (by decide) (hts _ kw36) (fun _ h9 => h9) rfl d_Points_has_6 ?_
    refine lv_icmp_ge (tgt := 16) hx hb d_Points_has_9 (by decide) (fun hc => ?_) (fun hc => ?_)
    · have h := h.1 hc
      refine lv_iconst (v := 0) hx hb d_Points_has_16 (by decide) ?_
      exact W.zret (v := 0) hx hb hr (by decide) (fun t ht hW => ⟨0, rfl, h, ht⟩) (fun q hq => by cases hq) d_Points_has_17
    · have h := h.2 hc
      refine lv_iconst (v := 1) hx hb d_Points_has_12 (by decide) ?_
      refine lv_goto (tgt := 17) hx hb d_Points_has_13 (by decide) ?_
      exact W.zret (v := 1) hx hb hr (by decide) (fun t ht hW => ⟨1, rfl, h, ht⟩) (fun q hq => by cases hq) d_Points_has_17
def q_Points_areTwo (v1 v2 : Int32) (σ : Sg) (Q : (Int32 → Prop)) : Prop :=
  (q_Points_has v1 σ (fun r1 => ((r1 = 0 → Q 0) ∧ (¬ r1 = 0 → (q_Points_has v2 σ (fun r2 => ((r2 = 0 → Q 0) ∧ (¬ r2 = 0 → ((v1 = v2 → Q 0) ∧ (¬ v1 = v2 → Q 1))))))))))
set_option maxHeartbeats 4000000 in
set_option maxRecDepth 100000 in
theorem t_Points_areTwo (l : Launch) (D : va_G) (cI cZ : ClassId) (ad : Nat → Nat) (v1 v2 : Int32) (σ : Sg) (Q : (Int32 → Prop)) (h : q_Points_areTwo v1 v2 σ Q) : Met l y_Points_areTwo (.code y_Points_areTwo prog_5_method_4_code 3 (some .boolean) :: TG) { frames := 1, cells := 0, slots := 0, locals := 21 } (va_Pc [.ref (ad 0), .int v1, .int v2] (roB D (tysA cI cZ) (W_Points ad cI cZ σ))) (vp_Si Q) 0 0 (fun _ => False) := by
  refine Met.ofW (cc := prog_5_method_4_code) (maxL := 3) (ret := (some .boolean)) (by decide) rfl ?_
  intro p e s m args below meth c s₁ B hml hv
  obtain ⟨rfl, hP, hK⟩ := hv
  have hx := B.exec
  have hb := B.bytes
  have hr := B.returns
  have hts : ∀ w ∈ TG, w.before [.ref (ad 0), .int v1, .int v2].toArray s = true := fun w hw => atoms_spec (ws := .code y_Points_areTwo prog_5_method_4_code 3 (some .boolean) :: TG) B.pre w (List.mem_cons_of_mem _ hw)
  have hown : s.vm.findClass "CarrierPaths$Points" = some m.cls := findClass_of_methodNamed B.named
  have hlocks := B.notSynchronized
  have hl := lv_entry ([.ref (ad 0), .int v1, .int v2]) (n := 3) (Nat.le_of_ble_eq_true rfl)
  rw [lg_entry_eq]
  generalize (lg_sl ([.ref (ad 0), .int v1, .int v2]) ++ List.replicate (3 - (lg_sl ([.ref (ad 0), .int v1, .int v2])).length) Slot.unset).toArray = ls at hl ⊢
  have hl : lv_has ls 3 [(0, .ref (ad 0)), (1, .int v1), (2, .int v2)] := hl
  unfold q_Points_areTwo at h
  refine lv_aload_n hx hb d_Points_areTwo_0 rfl (lv_at hl 0 rfl) ?_
  refine lv_iload_n hx hb d_Points_areTwo_1 rfl (lv_at hl 1 rfl) ?_
  refine vp_callSi (W.runV (As := [.int v1]) (rest := []) ⟨hx, hb, hml, hown, hts⟩ (t_Points_has l D cI cZ ad v1 σ _ h) (cwV 1 hts (g_of kw422 kw199 kw200 kw3 kw201) rfl rfl rfl (by decide +kernel) ⟨Nat.le_of_ble_eq_true rfl, Nat.le_of_ble_eq_true rfl⟩) (ro_pre hK hP (va_recv hK hP (ci := 3) (q0 := 0) rfl rfl)) rfl rfl hl.1 rfl (lv_room (Nat.le_of_ble_eq_true rfl)) d_Points_areTwo_2 ⟨Nat.le_of_ble_eq_true rfl, Nat.le_of_ble_eq_true rfl⟩) (fun r1 h => ?_)
  refine lv_if_eq (tgt := 25) hx hb d_Points_areTwo_5 (by decide) (fun hc => ?_) (fun hc => ?_)
  · have h := h.1 hc
    refine lv_iconst (v := 0) hx hb d_Points_areTwo_25 (by decide) ?_
    exact W.zret (v := 0) hx hb hr (by decide) (fun t ht hW => ⟨0, rfl, h, ht⟩) (fun q hq => by cases hq) d_Points_areTwo_26
  · have h := h.2 hc
    refine lv_aload_n hx hb d_Points_areTwo_8 rfl (lv_at hl 0 rfl) ?_
    refine lv_iload_n hx hb d_Points_areTwo_9 rfl (lv_at hl 2 rfl) ?_
    refine vp_callSi (W.runV (As := [.int v2]) (rest := []) ⟨hx, hb, hml, hown, hts⟩ (t_Points_has l D cI cZ ad v2 σ _ h) (cwV 1 hts (g_of kw422 kw199 kw200 kw3 kw201) rfl rfl rfl (by decide +kernel) ⟨Nat.le_of_ble_eq_true rfl, Nat.le_of_ble_eq_true rfl⟩) (ro_pre hK hP (va_recv hK hP (ci := 3) (q0 := 0) rfl rfl)) rfl rfl hl.1 rfl (lv_room (Nat.le_of_ble_eq_true rfl)) d_Points_areTwo_10 ⟨Nat.le_of_ble_eq_true rfl, Nat.le_of_ble_eq_true rfl⟩) (fun r2 h => ?_)
    refine lv_if_eq (tgt := 25) hx hb d_Points_areTwo_13 (by decide) (fun hc => ?_) (fun hc => ?_)
    · have h := h.1 hc
      refine lv_iconst (v := 0) hx hb d_Points_areTwo_25 (by decide) ?_
      exact W.zret (v := 0) hx hb hr (by decide) (fun t ht hW => ⟨0, rfl, h, ht⟩) (fun q hq => by cases hq) d_Points_areTwo_26
    · have h := h.2 hc
      refine lv_iload_n hx hb d_Points_areTwo_16 rfl (lv_at hl 1 rfl) ?_
      refine lv_iload_n hx hb d_Points_areTwo_17 rfl (lv_at hl 2 rfl) ?_
      refine lv_icmp_eq (tgt := 25) hx hb d_Points_areTwo_18 (by decide) (fun hc => ?_) (fun hc => ?_)
      · have h := h.1 hc
        refine lv_iconst (v := 0) hx hb d_Points_areTwo_25 (by decide) ?_
        exact W.zret (v := 0) hx hb hr (by decide) (fun t ht hW => ⟨0, rfl, h, ht⟩) (fun q hq => by cases hq) d_Points_areTwo_26
      · have h := h.2 hc
        refine lv_iconst (v := 1) hx hb d_Points_areTwo_21 (by decide) ?_
        refine lv_goto (tgt := 26) hx hb d_Points_areTwo_22 (by decide) ?_
        exact W.zret (v := 1) hx hb hr (by decide) (fun t ht hW => ⟨1, rfl, h, ht⟩) (fun q hq => by cases hq) d_Points_areTwo_26
def q_Points_asBits (σ : Sg) (Q : (Int32 → Prop)) : Prop :=
  Q ((1 <<< ((σ 0 0) &&& 31)) - 1)
set_option maxHeartbeats 4000000 in
set_option maxRecDepth 100000 in
theorem t_Points_asBits (l : Launch) (D : va_G) (cI cZ : ClassId) (ad : Nat → Nat) (σ : Sg) (Q : (Int32 → Prop)) (h : q_Points_asBits σ Q) : Met l y_Points_asBits (.code y_Points_asBits prog_5_method_5_code 1 (some .int) :: TG) { frames := 0, cells := 0, slots := 0, locals := 0 } (va_Pc [.ref (ad 0)] (roB D (tysA cI cZ) (W_Points ad cI cZ σ))) (vp_Si Q) 0 0 (fun _ => False) := by
  refine Met.ofW (cc := prog_5_method_5_code) (maxL := 1) (ret := (some .int)) (by decide) rfl ?_
  intro p e s m args below meth c s₁ B hml hv
  obtain ⟨rfl, hP, hK⟩ := hv
  have hx := B.exec
  have hb := B.bytes
  have hr := B.returns
  have hts : ∀ w ∈ TG, w.before [.ref (ad 0)].toArray s = true := fun w hw => atoms_spec (ws := .code y_Points_asBits prog_5_method_5_code 1 (some .int) :: TG) B.pre w (List.mem_cons_of_mem _ hw)
  have hown : s.vm.findClass "CarrierPaths$Points" = some m.cls := findClass_of_methodNamed B.named
  have hlocks := B.notSynchronized
  have hl := lv_entry ([.ref (ad 0)]) (n := 1) (Nat.le_of_ble_eq_true rfl)
  rw [lg_entry_eq]
  generalize (lg_sl ([.ref (ad 0)]) ++ List.replicate (1 - (lg_sl ([.ref (ad 0)])).length) Slot.unset).toArray = ls at hl ⊢
  have hl : lv_has ls 1 [(0, .ref (ad 0))] := hl
  unfold q_Points_asBits at h
  refine lv_iconst (v := 1) hx hb d_Points_asBits_0 (by decide) ?_
  refine lv_aload_n hx hb d_Points_asBits_1 rfl (lv_at hl 0 rfl) ?_
  refine va_get (D := D) (ci := 3) (v := .int (σ 0 0)) (C := "CarrierPaths$Points") (T := F_Points) (N := 3) hx hb hts in_Points hown hK hP 0 rfl rfl 0 (by decide) (hts _ kw36) (fun _ h9 => h9) rfl d_Points_asBits_2 ?_
  refine lv_ishl hx hb d_Points_asBits_5 ?_
  refine lv_iconst (v := 1) hx hb d_Points_asBits_6 (by decide) ?_
  refine lv_isub hx hb d_Points_asBits_7 ?_
  exact W.iret (v := ((1 <<< ((σ 0 0) &&& 31)) - 1)) hx hb hr (fun t ht hW => ⟨((1 <<< ((σ 0 0) &&& 31)) - 1), rfl, h, ht⟩) (fun q hq => by cases hq) d_Points_asBits_8
def q_Points_placesOf (v1 : Int32) (σ : Sg) (Q : (Int32 → Prop)) : Prop :=
  (vp_in v1 10 ∧ Q (σ 1 v1.toNatClampNeg))
set_option maxHeartbeats 4000000 in
set_option maxRecDepth 100000 in
theorem t_Points_placesOf (l : Launch) (D : va_G) (cI cZ : ClassId) (ad : Nat → Nat) (v1 : Int32) (σ : Sg) (Q : (Int32 → Prop)) (h : q_Points_placesOf v1 σ Q) : Met l y_Points_placesOf (.code y_Points_placesOf prog_5_method_6_code 2 (some .int) :: TG) { frames := 0, cells := 0, slots := 0, locals := 0 } (va_Pc [.ref (ad 0), .int v1] (roB D (tysA cI cZ) (W_Points ad cI cZ σ))) (vp_Si Q) 0 0 (fun _ => False) := by
  refine Met.ofW (cc := prog_5_method_6_code) (maxL := 2) (ret := (some .int)) (by decide) rfl ?_
  intro p e s m args below meth c s₁ B hml hv
  obtain ⟨rfl, hP, hK⟩ := hv
  have hx := B.exec
  have hb := B.bytes
  have hr := B.returns
  have hts : ∀ w ∈ TG, w.before [.ref (ad 0), .int v1].toArray s = true := fun w hw => atoms_spec (ws := .code y_Points_placesOf prog_5_method_6_code 2 (some .int) :: TG) B.pre w (List.mem_cons_of_mem _ hw)
  have hown : s.vm.findClass "CarrierPaths$Points" = some m.cls := findClass_of_methodNamed B.named
  have hlocks := B.notSynchronized
  have hl := lv_entry ([.ref (ad 0), .int v1]) (n := 2) (Nat.le_of_ble_eq_true rfl)
  rw [lg_entry_eq]
  generalize (lg_sl ([.ref (ad 0), .int v1]) ++ List.replicate (2 - (lg_sl ([.ref (ad 0), .int v1])).length) Slot.unset).toArray = ls at hl ⊢
  have hl : lv_has ls 2 [(0, .ref (ad 0)), (1, .int v1)] := hl
  unfold q_Points_placesOf at h
  refine lv_aload_n hx hb d_Points_placesOf_0 rfl (lv_at hl 0 rfl) ?_
  refine va_get (D := D) (ci := 3) (v := .ref (ad 1)) (C := "CarrierPaths$Points") (T := F_Points) (N := 3) hx hb hts in_Points hown hK hP 0 rfl rfl 1 (by decide) (hts _ kw37) (fun _ h9 => h9) rfl d_Points_placesOf_1 ?_
  refine lv_iload_n hx hb d_Points_placesOf_4 rfl (lv_at hl 1 rfl) ?_
  obtain ⟨hi, h⟩ := h
  refine va_iald hx hb hK hP 1 0 rfl rfl hi d_Points_placesOf_5 ?_
  exact W.iret (v := (σ 1 v1.toNatClampNeg)) hx hb hr (fun t ht hW => ⟨(σ 1 v1.toNatClampNeg), rfl, h, ht⟩) (fun q hq => by cases hq) d_Points_placesOf_6
def q_Points_setPlaces (v1 v2 : Int32) (σ : Sg) (Q : (Sg → Prop)) : Prop :=
  (vp_in v1 10 ∧ Q (sto σ 1 v1.toNatClampNeg v2))
set_option maxHeartbeats 4000000 in
set_option maxRecDepth 100000 in
theorem t_Points_setPlaces (l : Launch) (D : va_G) (cI cZ : ClassId) (ad : Nat → Nat) (inj : Inj ad 3) (v1 v2 : Int32) (σ : Sg) (Q : (Sg → Prop)) (h : q_Points_setPlaces v1 v2 σ Q) : Met l y_Points_setPlaces (.code y_Points_setPlaces prog_5_method_7_code 3 none :: TG) { frames := 0, cells := 0, slots := 0, locals := 0 } (va_Pc [.ref (ad 0), .int v1, .int v2] (roB D (tysA cI cZ) (W_Points ad cI cZ σ))) (va_Qv Q (fun u t => va_P D classes (W_Points ad cI cZ u) t.heap) (inA ad 3)) 0 0 (inA ad 3) := by
  refine Met.ofW (cc := prog_5_method_7_code) (maxL := 3) (ret := none) (by decide) rfl ?_
  intro p e s m args below meth c s₁ B hml hv
  obtain ⟨rfl, hP, hK⟩ := hv
  have hx := B.exec
  have hb := B.bytes
  have hr := B.returns
  have hts : ∀ w ∈ TG, w.before [.ref (ad 0), .int v1, .int v2].toArray s = true := fun w hw => atoms_spec (ws := .code y_Points_setPlaces prog_5_method_7_code 3 none :: TG) B.pre w (List.mem_cons_of_mem _ hw)
  have hown : s.vm.findClass "CarrierPaths$Points" = some m.cls := findClass_of_methodNamed B.named
  have hlocks := B.notSynchronized
  have hS : va_S (inA ad 3) s.heap s.heap [] := va_S.rf
  have hl := lv_entry ([.ref (ad 0), .int v1, .int v2]) (n := 3) (Nat.le_of_ble_eq_true rfl)
  rw [lg_entry_eq]
  generalize (lg_sl ([.ref (ad 0), .int v1, .int v2]) ++ List.replicate (3 - (lg_sl ([.ref (ad 0), .int v1, .int v2])).length) Slot.unset).toArray = ls at hl ⊢
  have hl : lv_has ls 3 [(0, .ref (ad 0)), (1, .int v1), (2, .int v2)] := hl
  unfold q_Points_setPlaces at h
  refine lv_aload_n hx hb d_Points_setPlaces_0 rfl (lv_at hl 0 rfl) ?_
  refine va_get (D := D) (ci := 3) (v := .ref (ad 1)) (C := "CarrierPaths$Points") (T := F_Points) (N := 3) hx hb hts in_Points hown hK hP 0 rfl rfl 1 (by decide) (hts _ kw37) (fun _ h9 => h9) rfl d_Points_setPlaces_1 ?_
  refine lv_iload_n hx hb d_Points_setPlaces_4 rfl (lv_at hl 1 rfl) ?_
  refine lv_iload_n hx hb d_Points_setPlaces_5 rfl (lv_at hl 2 rfl) ?_
  obtain ⟨hi, h⟩ := h
  refine va_iast hx hb hK hP (D_Points inj) hS 1 0 rfl rfl hi d_Points_setPlaces_6 (fun H locs hP _ hS => ?_)
  have hP : va_P D classes (W_Points ad cI cZ (sto σ 1 v1.toNatClampNeg v2)) H := hP
  exact W.vret hx hb hr (fun t ht hW => ⟨⟨(sto σ 1 v1.toNatClampNeg v2), rfl, h, hp_back ht hP⟩, hS.F ht⟩) hS.2.2 d_Points_setPlaces_7
def q_Points_hasCharger (v1 : Int32) (σ : Sg) (Q : (Int32 → Prop)) : Prop :=
  (vp_in v1 10 ∧ (narrow .boolean (.int (σ 2 v1.toNatClampNeg)) = .int (σ 2 v1.toNatClampNeg) ∧ Q (σ 2 v1.toNatClampNeg)))
set_option maxHeartbeats 4000000 in
set_option maxRecDepth 100000 in
theorem t_Points_hasCharger (l : Launch) (D : va_G) (cI cZ : ClassId) (ad : Nat → Nat) (v1 : Int32) (σ : Sg) (Q : (Int32 → Prop)) (h : q_Points_hasCharger v1 σ Q) : Met l y_Points_hasCharger (.code y_Points_hasCharger prog_5_method_8_code 2 (some .boolean) :: TG) { frames := 0, cells := 0, slots := 0, locals := 0 } (va_Pc [.ref (ad 0), .int v1] (roB D (tysA cI cZ) (W_Points ad cI cZ σ))) (vp_Si Q) 0 0 (fun _ => False) := by
  refine Met.ofW (cc := prog_5_method_8_code) (maxL := 2) (ret := (some .boolean)) (by decide) rfl ?_
  intro p e s m args below meth c s₁ B hml hv
  obtain ⟨rfl, hP, hK⟩ := hv
  have hx := B.exec
  have hb := B.bytes
  have hr := B.returns
  have hts : ∀ w ∈ TG, w.before [.ref (ad 0), .int v1].toArray s = true := fun w hw => atoms_spec (ws := .code y_Points_hasCharger prog_5_method_8_code 2 (some .boolean) :: TG) B.pre w (List.mem_cons_of_mem _ hw)
  have hown : s.vm.findClass "CarrierPaths$Points" = some m.cls := findClass_of_methodNamed B.named
  have hlocks := B.notSynchronized
  have hl := lv_entry ([.ref (ad 0), .int v1]) (n := 2) (Nat.le_of_ble_eq_true rfl)
  rw [lg_entry_eq]
  generalize (lg_sl ([.ref (ad 0), .int v1]) ++ List.replicate (2 - (lg_sl ([.ref (ad 0), .int v1])).length) Slot.unset).toArray = ls at hl ⊢
  have hl : lv_has ls 2 [(0, .ref (ad 0)), (1, .int v1)] := hl
  unfold q_Points_hasCharger at h
  refine lv_aload_n hx hb d_Points_hasCharger_0 rfl (lv_at hl 0 rfl) ?_
  refine va_get (D := D) (ci := 3) (v := .ref (ad 2)) (C := "CarrierPaths$Points") (T := F_Points) (N := 3) hx hb hts in_Points hown hK hP 0 rfl rfl 2 (by decide) (hts _ kw38) (fun _ h9 => h9) rfl d_Points_hasCharger_1 ?_
  refine lv_iload_n hx hb d_Points_hasCharger_4 rfl (lv_at hl 1 rfl) ?_
  obtain ⟨hi, h⟩ := h
  refine va_zald hx hb hK hP 2 1 rfl rfl hi d_Points_hasCharger_5 ?_
  obtain ⟨hn, h⟩ := h
  exact W.zret (v := (σ 2 v1.toNatClampNeg)) hx hb hr hn (fun t ht hW => ⟨(σ 2 v1.toNatClampNeg), rfl, h, ht⟩) (fun q hq => by cases hq) d_Points_hasCharger_6
def q_Points_setCharger (v1 v2 : Int32) (σ : Sg) (Q : (Sg → Prop)) : Prop :=
  (vp_in v1 10 ∧ Q (sto σ 2 v1.toNatClampNeg (vp_nar .boolean v2)))
set_option maxHeartbeats 4000000 in
set_option maxRecDepth 100000 in
theorem t_Points_setCharger (l : Launch) (D : va_G) (cI cZ : ClassId) (ad : Nat → Nat) (inj : Inj ad 3) (v1 v2 : Int32) (σ : Sg) (Q : (Sg → Prop)) (h : q_Points_setCharger v1 v2 σ Q) : Met l y_Points_setCharger (.code y_Points_setCharger prog_5_method_9_code 3 none :: TG) { frames := 0, cells := 0, slots := 0, locals := 0 } (va_Pc [.ref (ad 0), .int v1, .int v2] (roB D (tysA cI cZ) (W_Points ad cI cZ σ))) (va_Qv Q (fun u t => va_P D classes (W_Points ad cI cZ u) t.heap) (inA ad 3)) 0 0 (inA ad 3) := by
  refine Met.ofW (cc := prog_5_method_9_code) (maxL := 3) (ret := none) (by decide) rfl ?_
  intro p e s m args below meth c s₁ B hml hv
  obtain ⟨rfl, hP, hK⟩ := hv
  have hx := B.exec
  have hb := B.bytes
  have hr := B.returns
  have hts : ∀ w ∈ TG, w.before [.ref (ad 0), .int v1, .int v2].toArray s = true := fun w hw => atoms_spec (ws := .code y_Points_setCharger prog_5_method_9_code 3 none :: TG) B.pre w (List.mem_cons_of_mem _ hw)
  have hown : s.vm.findClass "CarrierPaths$Points" = some m.cls := findClass_of_methodNamed B.named
  have hlocks := B.notSynchronized
  have hS : va_S (inA ad 3) s.heap s.heap [] := va_S.rf
  have hl := lv_entry ([.ref (ad 0), .int v1, .int v2]) (n := 3) (Nat.le_of_ble_eq_true rfl)
  rw [lg_entry_eq]
  generalize (lg_sl ([.ref (ad 0), .int v1, .int v2]) ++ List.replicate (3 - (lg_sl ([.ref (ad 0), .int v1, .int v2])).length) Slot.unset).toArray = ls at hl ⊢
  have hl : lv_has ls 3 [(0, .ref (ad 0)), (1, .int v1), (2, .int v2)] := hl
  unfold q_Points_setCharger at h
  refine lv_aload_n hx hb d_Points_setCharger_0 rfl (lv_at hl 0 rfl) ?_
  refine va_get (D := D) (ci := 3) (v := .ref (ad 2)) (C := "CarrierPaths$Points") (T := F_Points) (N := 3) hx hb hts in_Points hown hK hP 0 rfl rfl 2 (by decide) (hts _ kw38) (fun _ h9 => h9) rfl d_Points_setCharger_1 ?_
  refine lv_iload_n hx hb d_Points_setCharger_4 rfl (lv_at hl 1 rfl) ?_
  refine lv_iload_n hx hb d_Points_setCharger_5 rfl (lv_at hl 2 rfl) ?_
  obtain ⟨hi, h⟩ := h
  refine va_zast hx hb hK hP (D_Points inj) hS 2 1 rfl rfl hi d_Points_setCharger_6 (fun H locs hP _ hS => ?_)
  have hP : va_P D classes (W_Points ad cI cZ (sto σ 2 v1.toNatClampNeg (vp_nar .boolean v2))) H := hP
  exact W.vret hx hb hr (fun t ht hW => ⟨⟨(sto σ 2 v1.toNatClampNeg (vp_nar .boolean v2)), rfl, h, hp_back ht hP⟩, hS.F ht⟩) hS.2.2 d_Points_setCharger_7
end
section
theorem d_Roads_size_0 : decode prog_7_method_2_code 0 = .ok (.aload_n 0, 1) := by decide +kernel
theorem d_Roads_size_1 : decode prog_7_method_2_code 1 = .ok (.getfield 32, 3) := by decide +kernel
theorem d_Roads_size_4 : decode prog_7_method_2_code 4 = .ok (.ireturn, 1) := by decide +kernel
theorem d_Roads_has_0 : decode prog_7_method_3_code 0 = .ok (.iload_n 1, 1) := by decide +kernel
theorem d_Roads_has_1 : decode prog_7_method_3_code 1 = .ok (.ifCond .lt 15, 3) := by decide +kernel
theorem d_Roads_has_4 : decode prog_7_method_3_code 4 = .ok (.iload_n 1, 1) := by decide +kernel
theorem d_Roads_has_5 : decode prog_7_method_3_code 5 = .ok (.aload_n 0, 1) := by decide +kernel
theorem d_Roads_has_6 : decode prog_7_method_3_code 6 = .ok (.getfield 32, 3) := by decide +kernel
theorem d_Roads_has_9 : decode prog_7_method_3_code 9 = .ok (.if_icmp .ge 7, 3) := by decide +kernel
theorem d_Roads_has_12 : decode prog_7_method_3_code 12 = .ok (.iconst 1, 1) := by decide +kernel
theorem d_Roads_has_13 : decode prog_7_method_3_code 13 = .ok (.goto 4, 3) := by decide +kernel
theorem d_Roads_has_16 : decode prog_7_method_3_code 16 = .ok (.iconst 0, 1) := by decide +kernel
theorem d_Roads_has_17 : decode prog_7_method_3_code 17 = .ok (.ireturn, 1) := by decide +kernel
theorem d_Roads_beginningOf_0 : decode prog_7_method_5_code 0 = .ok (.aload_n 0, 1) := by decide +kernel
theorem d_Roads_beginningOf_1 : decode prog_7_method_5_code 1 = .ok (.getfield 9, 3) := by decide +kernel
theorem d_Roads_beginningOf_4 : decode prog_7_method_5_code 4 = .ok (.iload_n 1, 1) := by decide +kernel
theorem d_Roads_beginningOf_5 : decode prog_7_method_5_code 5 = .ok (.iaload, 1) := by decide +kernel
theorem d_Roads_beginningOf_6 : decode prog_7_method_5_code 6 = .ok (.ireturn, 1) := by decide +kernel
theorem d_Roads_endOf_0 : decode prog_7_method_6_code 0 = .ok (.aload_n 0, 1) := by decide +kernel
theorem d_Roads_endOf_1 : decode prog_7_method_6_code 1 = .ok (.getfield 15, 3) := by decide +kernel
theorem d_Roads_endOf_4 : decode prog_7_method_6_code 4 = .ok (.iload_n 1, 1) := by decide +kernel
theorem d_Roads_endOf_5 : decode prog_7_method_6_code 5 = .ok (.iaload, 1) := by decide +kernel
theorem d_Roads_endOf_6 : decode prog_7_method_6_code 6 = .ok (.ireturn, 1) := by decide +kernel
theorem d_Roads_timeOf_0 : decode prog_7_method_7_code 0 = .ok (.aload_n 0, 1) := by decide +kernel
theorem d_Roads_timeOf_1 : decode prog_7_method_7_code 1 = .ok (.getfield 18, 3) := by decide +kernel
theorem d_Roads_timeOf_4 : decode prog_7_method_7_code 4 = .ok (.iload_n 1, 1) := by decide +kernel
theorem d_Roads_timeOf_5 : decode prog_7_method_7_code 5 = .ok (.iaload, 1) := by decide +kernel
theorem d_Roads_timeOf_6 : decode prog_7_method_7_code 6 = .ok (.ireturn, 1) := by decide +kernel
theorem d_Roads_isClosed_0 : decode prog_7_method_8_code 0 = .ok (.aload_n 0, 1) := by decide +kernel
theorem d_Roads_isClosed_1 : decode prog_7_method_8_code 1 = .ok (.getfield 21, 3) := by decide +kernel
theorem d_Roads_isClosed_4 : decode prog_7_method_8_code 4 = .ok (.iload_n 1, 1) := by decide +kernel
theorem d_Roads_isClosed_5 : decode prog_7_method_8_code 5 = .ok (.baload, 1) := by decide +kernel
theorem d_Roads_isClosed_6 : decode prog_7_method_8_code 6 = .ok (.ireturn, 1) := by decide +kernel
theorem d_Roads_leastTime_0 : decode prog_7_method_11_code 0 = .ok (.aload_n 0, 1) := by decide +kernel
theorem d_Roads_leastTime_1 : decode prog_7_method_11_code 1 = .ok (.getfield 25, 3) := by decide +kernel
theorem d_Roads_leastTime_4 : decode prog_7_method_11_code 4 = .ok (.iload_n 1, 1) := by decide +kernel
theorem d_Roads_leastTime_5 : decode prog_7_method_11_code 5 = .ok (.bipush 10, 2) := by decide +kernel
theorem d_Roads_leastTime_7 : decode prog_7_method_11_code 7 = .ok (.imul, 1) := by decide +kernel
theorem d_Roads_leastTime_8 : decode prog_7_method_11_code 8 = .ok (.iload_n 2, 1) := by decide +kernel
theorem d_Roads_leastTime_9 : decode prog_7_method_11_code 9 = .ok (.iadd, 1) := by decide +kernel
theorem d_Roads_leastTime_10 : decode prog_7_method_11_code 10 = .ok (.iaload, 1) := by decide +kernel
theorem d_Roads_leastTime_11 : decode prog_7_method_11_code 11 = .ok (.ireturn, 1) := by decide +kernel
theorem d_Roads_hasWay_0 : decode prog_7_method_10_code 0 = .ok (.aload_n 0, 1) := by decide +kernel
theorem d_Roads_hasWay_1 : decode prog_7_method_10_code 1 = .ok (.iload_n 1, 1) := by decide +kernel
theorem d_Roads_hasWay_2 : decode prog_7_method_10_code 2 = .ok (.iload_n 2, 1) := by decide +kernel
theorem d_Roads_hasWay_3 : decode prog_7_method_10_code 3 = .ok (.invokevirtual 45, 3) := by decide +kernel
theorem d_Roads_hasWay_6 : decode prog_7_method_10_code 6 = .ok (.ldc 49, 2) := by decide +kernel
theorem d_Roads_hasWay_8 : decode prog_7_method_10_code 8 = .ok (.if_icmp .ge 7, 3) := by decide +kernel
theorem d_Roads_hasWay_11 : decode prog_7_method_10_code 11 = .ok (.iconst 1, 1) := by decide +kernel
theorem d_Roads_hasWay_12 : decode prog_7_method_10_code 12 = .ok (.goto 4, 3) := by decide +kernel
theorem d_Roads_hasWay_15 : decode prog_7_method_10_code 15 = .ok (.iconst 0, 1) := by decide +kernel
theorem d_Roads_hasWay_16 : decode prog_7_method_10_code 16 = .ok (.ireturn, 1) := by decide +kernel
theorem d_Roads_firstPiece_0 : decode prog_7_method_12_code 0 = .ok (.aload_n 0, 1) := by decide +kernel
theorem d_Roads_firstPiece_1 : decode prog_7_method_12_code 1 = .ok (.iload_n 1, 1) := by decide +kernel
theorem d_Roads_firstPiece_2 : decode prog_7_method_12_code 2 = .ok (.iload_n 2, 1) := by decide +kernel
theorem d_Roads_firstPiece_3 : decode prog_7_method_12_code 3 = .ok (.invokevirtual 45, 3) := by decide +kernel
theorem d_Roads_firstPiece_6 : decode prog_7_method_12_code 6 = .ok (.istore_n 3, 1) := by decide +kernel
theorem d_Roads_firstPiece_7 : decode prog_7_method_12_code 7 = .ok (.iconst 0, 1) := by decide +kernel
theorem d_Roads_firstPiece_8 : decode prog_7_method_12_code 8 = .ok (.istore 4, 2) := by decide +kernel
theorem d_Roads_firstPiece_10 : decode prog_7_method_12_code 10 = .ok (.iload 4, 2) := by decide +kernel
theorem d_Roads_firstPiece_12 : decode prog_7_method_12_code 12 = .ok (.aload_n 0, 1) := by decide +kernel
theorem d_Roads_firstPiece_13 : decode prog_7_method_12_code 13 = .ok (.getfield 32, 3) := by decide +kernel
theorem d_Roads_firstPiece_16 : decode prog_7_method_12_code 16 = .ok (.if_icmp .ge 57, 3) := by decide +kernel
theorem d_Roads_firstPiece_19 : decode prog_7_method_12_code 19 = .ok (.aload_n 0, 1) := by decide +kernel
theorem d_Roads_firstPiece_20 : decode prog_7_method_12_code 20 = .ok (.getfield 21, 3) := by decide +kernel
theorem d_Roads_firstPiece_23 : decode prog_7_method_12_code 23 = .ok (.iload 4, 2) := by decide +kernel
theorem d_Roads_firstPiece_25 : decode prog_7_method_12_code 25 = .ok (.baload, 1) := by decide +kernel
theorem d_Roads_firstPiece_26 : decode prog_7_method_12_code 26 = .ok (.ifCond .ne 41, 3) := by decide +kernel
theorem d_Roads_firstPiece_29 : decode prog_7_method_12_code 29 = .ok (.aload_n 0, 1) := by decide +kernel
theorem d_Roads_firstPiece_30 : decode prog_7_method_12_code 30 = .ok (.getfield 9, 3) := by decide +kernel
theorem d_Roads_firstPiece_33 : decode prog_7_method_12_code 33 = .ok (.iload 4, 2) := by decide +kernel
theorem d_Roads_firstPiece_35 : decode prog_7_method_12_code 35 = .ok (.iaload, 1) := by decide +kernel
theorem d_Roads_firstPiece_36 : decode prog_7_method_12_code 36 = .ok (.iload_n 1, 1) := by decide +kernel
theorem d_Roads_firstPiece_37 : decode prog_7_method_12_code 37 = .ok (.if_icmp .ne 30, 3) := by decide +kernel
theorem d_Roads_firstPiece_40 : decode prog_7_method_12_code 40 = .ok (.aload_n 0, 1) := by decide +kernel
theorem d_Roads_firstPiece_41 : decode prog_7_method_12_code 41 = .ok (.getfield 18, 3) := by decide +kernel
theorem d_Roads_firstPiece_44 : decode prog_7_method_12_code 44 = .ok (.iload 4, 2) := by decide +kernel
theorem d_Roads_firstPiece_46 : decode prog_7_method_12_code 46 = .ok (.iaload, 1) := by decide +kernel
theorem d_Roads_firstPiece_47 : decode prog_7_method_12_code 47 = .ok (.aload_n 0, 1) := by decide +kernel
theorem d_Roads_firstPiece_48 : decode prog_7_method_12_code 48 = .ok (.aload_n 0, 1) := by decide +kernel
theorem d_Roads_firstPiece_49 : decode prog_7_method_12_code 49 = .ok (.getfield 15, 3) := by decide +kernel
theorem d_Roads_firstPiece_52 : decode prog_7_method_12_code 52 = .ok (.iload 4, 2) := by decide +kernel
theorem d_Roads_firstPiece_54 : decode prog_7_method_12_code 54 = .ok (.iaload, 1) := by decide +kernel
theorem d_Roads_firstPiece_55 : decode prog_7_method_12_code 55 = .ok (.iload_n 2, 1) := by decide +kernel
theorem d_Roads_firstPiece_56 : decode prog_7_method_12_code 56 = .ok (.invokevirtual 45, 3) := by decide +kernel
theorem d_Roads_firstPiece_59 : decode prog_7_method_12_code 59 = .ok (.iadd, 1) := by decide +kernel
theorem d_Roads_firstPiece_60 : decode prog_7_method_12_code 60 = .ok (.iload_n 3, 1) := by decide +kernel
theorem d_Roads_firstPiece_61 : decode prog_7_method_12_code 61 = .ok (.if_icmp .ne 6, 3) := by decide +kernel
theorem d_Roads_firstPiece_64 : decode prog_7_method_12_code 64 = .ok (.iload 4, 2) := by decide +kernel
theorem d_Roads_firstPiece_66 : decode prog_7_method_12_code 66 = .ok (.ireturn, 1) := by decide +kernel
theorem d_Roads_firstPiece_67 : decode prog_7_method_12_code 67 = .ok (.iinc 4 1, 3) := by decide +kernel
theorem d_Roads_firstPiece_70 : decode prog_7_method_12_code 70 = .ok (.goto (-60), 3) := by decide +kernel
theorem d_Roads_firstPiece_73 : decode prog_7_method_12_code 73 = .ok (.iconst (-1), 1) := by decide +kernel
theorem d_Roads_firstPiece_74 : decode prog_7_method_12_code 74 = .ok (.ireturn, 1) := by decide +kernel
theorem d_Roads_piecesOnWay_0 : decode prog_7_method_13_code 0 = .ok (.iconst 0, 1) := by decide +kernel
theorem d_Roads_piecesOnWay_1 : decode prog_7_method_13_code 1 = .ok (.istore_n 3, 1) := by decide +kernel
theorem d_Roads_piecesOnWay_2 : decode prog_7_method_13_code 2 = .ok (.aload_n 0, 1) := by decide +kernel
theorem d_Roads_piecesOnWay_3 : decode prog_7_method_13_code 3 = .ok (.iload_n 1, 1) := by decide +kernel
theorem d_Roads_piecesOnWay_4 : decode prog_7_method_13_code 4 = .ok (.iload_n 2, 1) := by decide +kernel
theorem d_Roads_piecesOnWay_5 : decode prog_7_method_13_code 5 = .ok (.invokevirtual 50, 3) := by decide +kernel
theorem d_Roads_piecesOnWay_8 : decode prog_7_method_13_code 8 = .ok (.istore 4, 2) := by decide +kernel
theorem d_Roads_piecesOnWay_10 : decode prog_7_method_13_code 10 = .ok (.iload 4, 2) := by decide +kernel
theorem d_Roads_piecesOnWay_12 : decode prog_7_method_13_code 12 = .ok (.iconst (-1), 1) := by decide +kernel
theorem d_Roads_piecesOnWay_13 : decode prog_7_method_13_code 13 = .ok (.if_icmp .eq 31, 3) := by decide +kernel
theorem d_Roads_piecesOnWay_16 : decode prog_7_method_13_code 16 = .ok (.iload_n 3, 1) := by decide +kernel
theorem d_Roads_piecesOnWay_17 : decode prog_7_method_13_code 17 = .ok (.aload_n 0, 1) := by decide +kernel
theorem d_Roads_piecesOnWay_18 : decode prog_7_method_13_code 18 = .ok (.getfield 28, 3) := by decide +kernel
theorem d_Roads_piecesOnWay_21 : decode prog_7_method_13_code 21 = .ok (.if_icmp .ge 23, 3) := by decide +kernel
theorem d_Roads_piecesOnWay_24 : decode prog_7_method_13_code 24 = .ok (.iinc 3 1, 3) := by decide +kernel
theorem d_Roads_piecesOnWay_27 : decode prog_7_method_13_code 27 = .ok (.aload_n 0, 1) := by decide +kernel
theorem d_Roads_piecesOnWay_28 : decode prog_7_method_13_code 28 = .ok (.aload_n 0, 1) := by decide +kernel
theorem d_Roads_piecesOnWay_29 : decode prog_7_method_13_code 29 = .ok (.getfield 15, 3) := by decide +kernel
theorem d_Roads_piecesOnWay_32 : decode prog_7_method_13_code 32 = .ok (.iload 4, 2) := by decide +kernel
theorem d_Roads_piecesOnWay_34 : decode prog_7_method_13_code 34 = .ok (.iaload, 1) := by decide +kernel
theorem d_Roads_piecesOnWay_35 : decode prog_7_method_13_code 35 = .ok (.iload_n 2, 1) := by decide +kernel
theorem d_Roads_piecesOnWay_36 : decode prog_7_method_13_code 36 = .ok (.invokevirtual 50, 3) := by decide +kernel
theorem d_Roads_piecesOnWay_39 : decode prog_7_method_13_code 39 = .ok (.istore 4, 2) := by decide +kernel
theorem d_Roads_piecesOnWay_41 : decode prog_7_method_13_code 41 = .ok (.goto (-31), 3) := by decide +kernel
theorem d_Roads_piecesOnWay_44 : decode prog_7_method_13_code 44 = .ok (.iload_n 3, 1) := by decide +kernel
theorem d_Roads_piecesOnWay_45 : decode prog_7_method_13_code 45 = .ok (.ireturn, 1) := by decide +kernel
theorem d_Roads_forgetTimes_0 : decode prog_7_method_15_code 0 = .ok (.iconst 0, 1) := by decide +kernel
theorem d_Roads_forgetTimes_1 : decode prog_7_method_15_code 1 = .ok (.istore_n 1, 1) := by decide +kernel
theorem d_Roads_forgetTimes_2 : decode prog_7_method_15_code 2 = .ok (.iload_n 1, 1) := by decide +kernel
theorem d_Roads_forgetTimes_3 : decode prog_7_method_15_code 3 = .ok (.bipush 10, 2) := by decide +kernel
theorem d_Roads_forgetTimes_5 : decode prog_7_method_15_code 5 = .ok (.if_icmp .ge 45, 3) := by decide +kernel
theorem d_Roads_forgetTimes_8 : decode prog_7_method_15_code 8 = .ok (.iconst 0, 1) := by decide +kernel
theorem d_Roads_forgetTimes_9 : decode prog_7_method_15_code 9 = .ok (.istore_n 2, 1) := by decide +kernel
theorem d_Roads_forgetTimes_10 : decode prog_7_method_15_code 10 = .ok (.iload_n 2, 1) := by decide +kernel
theorem d_Roads_forgetTimes_11 : decode prog_7_method_15_code 11 = .ok (.bipush 10, 2) := by decide +kernel
theorem d_Roads_forgetTimes_13 : decode prog_7_method_15_code 13 = .ok (.if_icmp .ge 31, 3) := by decide +kernel
theorem d_Roads_forgetTimes_16 : decode prog_7_method_15_code 16 = .ok (.aload_n 0, 1) := by decide +kernel
theorem d_Roads_forgetTimes_17 : decode prog_7_method_15_code 17 = .ok (.getfield 25, 3) := by decide +kernel
theorem d_Roads_forgetTimes_20 : decode prog_7_method_15_code 20 = .ok (.iload_n 1, 1) := by decide +kernel
theorem d_Roads_forgetTimes_21 : decode prog_7_method_15_code 21 = .ok (.bipush 10, 2) := by decide +kernel
theorem d_Roads_forgetTimes_23 : decode prog_7_method_15_code 23 = .ok (.imul, 1) := by decide +kernel
theorem d_Roads_forgetTimes_24 : decode prog_7_method_15_code 24 = .ok (.iload_n 2, 1) := by decide +kernel
theorem d_Roads_forgetTimes_25 : decode prog_7_method_15_code 25 = .ok (.iadd, 1) := by decide +kernel
theorem d_Roads_forgetTimes_26 : decode prog_7_method_15_code 26 = .ok (.iload_n 1, 1) := by decide +kernel
theorem d_Roads_forgetTimes_27 : decode prog_7_method_15_code 27 = .ok (.iload_n 2, 1) := by decide +kernel
theorem d_Roads_forgetTimes_28 : decode prog_7_method_15_code 28 = .ok (.if_icmp .ne 7, 3) := by decide +kernel
theorem d_Roads_forgetTimes_31 : decode prog_7_method_15_code 31 = .ok (.iconst 0, 1) := by decide +kernel
theorem d_Roads_forgetTimes_32 : decode prog_7_method_15_code 32 = .ok (.goto 5, 3) := by decide +kernel
theorem d_Roads_forgetTimes_35 : decode prog_7_method_15_code 35 = .ok (.ldc 49, 2) := by decide +kernel
theorem d_Roads_forgetTimes_37 : decode prog_7_method_15_code 37 = .ok (.iastore, 1) := by decide +kernel
theorem d_Roads_forgetTimes_38 : decode prog_7_method_15_code 38 = .ok (.iinc 2 1, 3) := by decide +kernel
theorem d_Roads_forgetTimes_41 : decode prog_7_method_15_code 41 = .ok (.goto (-31), 3) := by decide +kernel
theorem d_Roads_forgetTimes_44 : decode prog_7_method_15_code 44 = .ok (.iinc 1 1, 3) := by decide +kernel
theorem d_Roads_forgetTimes_47 : decode prog_7_method_15_code 47 = .ok (.goto (-45), 3) := by decide +kernel
theorem d_Roads_forgetTimes_50 : decode prog_7_method_15_code 50 = .ok (.return_, 1) := by decide +kernel
theorem d_Roads_shortenBy_0 : decode prog_7_method_16_code 0 = .ok (.iconst 0, 1) := by decide +kernel
theorem d_Roads_shortenBy_1 : decode prog_7_method_16_code 1 = .ok (.istore_n 2, 1) := by decide +kernel
theorem d_Roads_shortenBy_2 : decode prog_7_method_16_code 2 = .ok (.iload_n 2, 1) := by decide +kernel
theorem d_Roads_shortenBy_3 : decode prog_7_method_16_code 3 = .ok (.aload_n 0, 1) := by decide +kernel
theorem d_Roads_shortenBy_4 : decode prog_7_method_16_code 4 = .ok (.getfield 28, 3) := by decide +kernel
theorem d_Roads_shortenBy_7 : decode prog_7_method_16_code 7 = .ok (.if_icmp .ge 82, 3) := by decide +kernel
theorem d_Roads_shortenBy_10 : decode prog_7_method_16_code 10 = .ok (.aload_n 0, 1) := by decide +kernel
theorem d_Roads_shortenBy_11 : decode prog_7_method_16_code 11 = .ok (.iload_n 2, 1) := by decide +kernel
theorem d_Roads_shortenBy_12 : decode prog_7_method_16_code 12 = .ok (.aload_n 0, 1) := by decide +kernel
theorem d_Roads_shortenBy_13 : decode prog_7_method_16_code 13 = .ok (.getfield 9, 3) := by decide +kernel
theorem d_Roads_shortenBy_16 : decode prog_7_method_16_code 16 = .ok (.iload_n 1, 1) := by decide +kernel
theorem d_Roads_shortenBy_17 : decode prog_7_method_16_code 17 = .ok (.iaload, 1) := by decide +kernel
theorem d_Roads_shortenBy_18 : decode prog_7_method_16_code 18 = .ok (.invokevirtual 45, 3) := by decide +kernel
theorem d_Roads_shortenBy_21 : decode prog_7_method_16_code 21 = .ok (.aload_n 0, 1) := by decide +kernel
theorem d_Roads_shortenBy_22 : decode prog_7_method_16_code 22 = .ok (.getfield 18, 3) := by decide +kernel
theorem d_Roads_shortenBy_25 : decode prog_7_method_16_code 25 = .ok (.iload_n 1, 1) := by decide +kernel
theorem d_Roads_shortenBy_26 : decode prog_7_method_16_code 26 = .ok (.iaload, 1) := by decide +kernel
theorem d_Roads_shortenBy_27 : decode prog_7_method_16_code 27 = .ok (.iadd, 1) := by decide +kernel
theorem d_Roads_shortenBy_28 : decode prog_7_method_16_code 28 = .ok (.istore_n 3, 1) := by decide +kernel
theorem d_Roads_shortenBy_29 : decode prog_7_method_16_code 29 = .ok (.iconst 0, 1) := by decide +kernel
theorem d_Roads_shortenBy_30 : decode prog_7_method_16_code 30 = .ok (.istore 4, 2) := by decide +kernel
theorem d_Roads_shortenBy_32 : decode prog_7_method_16_code 32 = .ok (.iload 4, 2) := by decide +kernel
theorem d_Roads_shortenBy_34 : decode prog_7_method_16_code 34 = .ok (.aload_n 0, 1) := by decide +kernel
theorem d_Roads_shortenBy_35 : decode prog_7_method_16_code 35 = .ok (.getfield 28, 3) := by decide +kernel
theorem d_Roads_shortenBy_38 : decode prog_7_method_16_code 38 = .ok (.if_icmp .ge 45, 3) := by decide +kernel
theorem d_Roads_shortenBy_41 : decode prog_7_method_16_code 41 = .ok (.aload_n 0, 1) := by decide +kernel
theorem d_Roads_shortenBy_42 : decode prog_7_method_16_code 42 = .ok (.getfield 25, 3) := by decide +kernel
theorem d_Roads_shortenBy_45 : decode prog_7_method_16_code 45 = .ok (.iload_n 2, 1) := by decide +kernel
theorem d_Roads_shortenBy_46 : decode prog_7_method_16_code 46 = .ok (.bipush 10, 2) := by decide +kernel
theorem d_Roads_shortenBy_48 : decode prog_7_method_16_code 48 = .ok (.imul, 1) := by decide +kernel
theorem d_Roads_shortenBy_49 : decode prog_7_method_16_code 49 = .ok (.iload 4, 2) := by decide +kernel
theorem d_Roads_shortenBy_51 : decode prog_7_method_16_code 51 = .ok (.iadd, 1) := by decide +kernel
theorem d_Roads_shortenBy_52 : decode prog_7_method_16_code 52 = .ok (.aload_n 0, 1) := by decide +kernel
theorem d_Roads_shortenBy_53 : decode prog_7_method_16_code 53 = .ok (.iload_n 2, 1) := by decide +kernel
theorem d_Roads_shortenBy_54 : decode prog_7_method_16_code 54 = .ok (.iload 4, 2) := by decide +kernel
theorem d_Roads_shortenBy_56 : decode prog_7_method_16_code 56 = .ok (.invokevirtual 45, 3) := by decide +kernel
theorem d_Roads_shortenBy_59 : decode prog_7_method_16_code 59 = .ok (.iload_n 3, 1) := by decide +kernel
theorem d_Roads_shortenBy_60 : decode prog_7_method_16_code 60 = .ok (.aload_n 0, 1) := by decide +kernel
theorem d_Roads_shortenBy_61 : decode prog_7_method_16_code 61 = .ok (.aload_n 0, 1) := by decide +kernel
theorem d_Roads_shortenBy_62 : decode prog_7_method_16_code 62 = .ok (.getfield 15, 3) := by decide +kernel
theorem d_Roads_shortenBy_65 : decode prog_7_method_16_code 65 = .ok (.iload_n 1, 1) := by decide +kernel
theorem d_Roads_shortenBy_66 : decode prog_7_method_16_code 66 = .ok (.iaload, 1) := by decide +kernel
theorem d_Roads_shortenBy_67 : decode prog_7_method_16_code 67 = .ok (.iload 4, 2) := by decide +kernel
theorem d_Roads_shortenBy_69 : decode prog_7_method_16_code 69 = .ok (.invokevirtual 45, 3) := by decide +kernel
theorem d_Roads_shortenBy_72 : decode prog_7_method_16_code 72 = .ok (.iadd, 1) := by decide +kernel
theorem d_Roads_shortenBy_73 : decode prog_7_method_16_code 73 = .ok (.invokestatic 53, 3) := by decide +kernel
theorem d_Roads_shortenBy_76 : decode prog_7_method_16_code 76 = .ok (.iastore, 1) := by decide +kernel
theorem d_Roads_shortenBy_77 : decode prog_7_method_16_code 77 = .ok (.iinc 4 1, 3) := by decide +kernel
theorem d_Roads_shortenBy_80 : decode prog_7_method_16_code 80 = .ok (.goto (-48), 3) := by decide +kernel
theorem d_Roads_shortenBy_83 : decode prog_7_method_16_code 83 = .ok (.iinc 2 1, 3) := by decide +kernel
theorem d_Roads_shortenBy_86 : decode prog_7_method_16_code 86 = .ok (.goto (-84), 3) := by decide +kernel
theorem d_Roads_shortenBy_89 : decode prog_7_method_16_code 89 = .ok (.return_, 1) := by decide +kernel
theorem d_Roads_add_0 : decode prog_7_method_4_code 0 = .ok (.aload_n 0, 1) := by decide +kernel
theorem d_Roads_add_1 : decode prog_7_method_4_code 1 = .ok (.getfield 32, 3) := by decide +kernel
theorem d_Roads_add_4 : decode prog_7_method_4_code 4 = .ok (.istore 4, 2) := by decide +kernel
theorem d_Roads_add_6 : decode prog_7_method_4_code 6 = .ok (.aload_n 0, 1) := by decide +kernel
theorem d_Roads_add_7 : decode prog_7_method_4_code 7 = .ok (.getfield 9, 3) := by decide +kernel
theorem d_Roads_add_10 : decode prog_7_method_4_code 10 = .ok (.iload 4, 2) := by decide +kernel
theorem d_Roads_add_12 : decode prog_7_method_4_code 12 = .ok (.iload_n 1, 1) := by decide +kernel
theorem d_Roads_add_13 : decode prog_7_method_4_code 13 = .ok (.iastore, 1) := by decide +kernel
theorem d_Roads_add_14 : decode prog_7_method_4_code 14 = .ok (.aload_n 0, 1) := by decide +kernel
theorem d_Roads_add_15 : decode prog_7_method_4_code 15 = .ok (.getfield 15, 3) := by decide +kernel
theorem d_Roads_add_18 : decode prog_7_method_4_code 18 = .ok (.iload 4, 2) := by decide +kernel
theorem d_Roads_add_20 : decode prog_7_method_4_code 20 = .ok (.iload_n 2, 1) := by decide +kernel
theorem d_Roads_add_21 : decode prog_7_method_4_code 21 = .ok (.iastore, 1) := by decide +kernel
theorem d_Roads_add_22 : decode prog_7_method_4_code 22 = .ok (.aload_n 0, 1) := by decide +kernel
theorem d_Roads_add_23 : decode prog_7_method_4_code 23 = .ok (.getfield 18, 3) := by decide +kernel
theorem d_Roads_add_26 : decode prog_7_method_4_code 26 = .ok (.iload 4, 2) := by decide +kernel
theorem d_Roads_add_28 : decode prog_7_method_4_code 28 = .ok (.iload_n 3, 1) := by decide +kernel
theorem d_Roads_add_29 : decode prog_7_method_4_code 29 = .ok (.iastore, 1) := by decide +kernel
theorem d_Roads_add_30 : decode prog_7_method_4_code 30 = .ok (.aload_n 0, 1) := by decide +kernel
theorem d_Roads_add_31 : decode prog_7_method_4_code 31 = .ok (.dup, 1) := by decide +kernel
theorem d_Roads_add_32 : decode prog_7_method_4_code 32 = .ok (.getfield 32, 3) := by decide +kernel
theorem d_Roads_add_35 : decode prog_7_method_4_code 35 = .ok (.iconst 1, 1) := by decide +kernel
theorem d_Roads_add_36 : decode prog_7_method_4_code 36 = .ok (.iadd, 1) := by decide +kernel
theorem d_Roads_add_37 : decode prog_7_method_4_code 37 = .ok (.putfield 32, 3) := by decide +kernel
theorem d_Roads_add_40 : decode prog_7_method_4_code 40 = .ok (.aload_n 0, 1) := by decide +kernel
theorem d_Roads_add_41 : decode prog_7_method_4_code 41 = .ok (.iload 4, 2) := by decide +kernel
theorem d_Roads_add_43 : decode prog_7_method_4_code 43 = .ok (.invokevirtual 38, 3) := by decide +kernel
theorem d_Roads_add_46 : decode prog_7_method_4_code 46 = .ok (.iload 4, 2) := by decide +kernel
theorem d_Roads_add_48 : decode prog_7_method_4_code 48 = .ok (.ireturn, 1) := by decide +kernel
theorem d_Roads_measureAnew_0 : decode prog_7_method_14_code 0 = .ok (.aload_n 0, 1) := by decide +kernel
theorem d_Roads_measureAnew_1 : decode prog_7_method_14_code 1 = .ok (.invokevirtual 35, 3) := by decide +kernel
theorem d_Roads_measureAnew_4 : decode prog_7_method_14_code 4 = .ok (.iconst 0, 1) := by decide +kernel
theorem d_Roads_measureAnew_5 : decode prog_7_method_14_code 5 = .ok (.istore_n 1, 1) := by decide +kernel
theorem d_Roads_measureAnew_6 : decode prog_7_method_14_code 6 = .ok (.iload_n 1, 1) := by decide +kernel
theorem d_Roads_measureAnew_7 : decode prog_7_method_14_code 7 = .ok (.aload_n 0, 1) := by decide +kernel
theorem d_Roads_measureAnew_8 : decode prog_7_method_14_code 8 = .ok (.getfield 32, 3) := by decide +kernel
theorem d_Roads_measureAnew_11 : decode prog_7_method_14_code 11 = .ok (.if_icmp .ge 23, 3) := by decide +kernel
theorem d_Roads_measureAnew_14 : decode prog_7_method_14_code 14 = .ok (.aload_n 0, 1) := by decide +kernel
theorem d_Roads_measureAnew_15 : decode prog_7_method_14_code 15 = .ok (.getfield 21, 3) := by decide +kernel
theorem d_Roads_measureAnew_18 : decode prog_7_method_14_code 18 = .ok (.iload_n 1, 1) := by decide +kernel
theorem d_Roads_measureAnew_19 : decode prog_7_method_14_code 19 = .ok (.baload, 1) := by decide +kernel
theorem d_Roads_measureAnew_20 : decode prog_7_method_14_code 20 = .ok (.ifCond .ne 8, 3) := by decide +kernel
theorem d_Roads_measureAnew_23 : decode prog_7_method_14_code 23 = .ok (.aload_n 0, 1) := by decide +kernel
theorem d_Roads_measureAnew_24 : decode prog_7_method_14_code 24 = .ok (.iload_n 1, 1) := by decide +kernel
theorem d_Roads_measureAnew_25 : decode prog_7_method_14_code 25 = .ok (.invokevirtual 38, 3) := by decide +kernel
theorem d_Roads_measureAnew_28 : decode prog_7_method_14_code 28 = .ok (.iinc 1 1, 3) := by decide +kernel
theorem d_Roads_measureAnew_31 : decode prog_7_method_14_code 31 = .ok (.goto (-25), 3) := by decide +kernel
theorem d_Roads_measureAnew_34 : decode prog_7_method_14_code 34 = .ok (.return_, 1) := by decide +kernel
theorem d_Roads_setClosed_0 : decode prog_7_method_9_code 0 = .ok (.aload_n 0, 1) := by decide +kernel
theorem d_Roads_setClosed_1 : decode prog_7_method_9_code 1 = .ok (.getfield 21, 3) := by decide +kernel
theorem d_Roads_setClosed_4 : decode prog_7_method_9_code 4 = .ok (.iload_n 1, 1) := by decide +kernel
theorem d_Roads_setClosed_5 : decode prog_7_method_9_code 5 = .ok (.iload_n 2, 1) := by decide +kernel
theorem d_Roads_setClosed_6 : decode prog_7_method_9_code 6 = .ok (.bastore, 1) := by decide +kernel
theorem d_Roads_setClosed_7 : decode prog_7_method_9_code 7 = .ok (.iload_n 2, 1) := by decide +kernel
theorem d_Roads_setClosed_8 : decode prog_7_method_9_code 8 = .ok (.ifCond .eq 10, 3) := by decide +kernel
theorem d_Roads_setClosed_11 : decode prog_7_method_9_code 11 = .ok (.aload_n 0, 1) := by decide +kernel
theorem d_Roads_setClosed_12 : decode prog_7_method_9_code 12 = .ok (.invokevirtual 42, 3) := by decide +kernel
theorem d_Roads_setClosed_15 : decode prog_7_method_9_code 15 = .ok (.goto 8, 3) := by decide +kernel
theorem d_Roads_setClosed_18 : decode prog_7_method_9_code 18 = .ok (.aload_n 0, 1) := by decide +kernel
theorem d_Roads_setClosed_19 : decode prog_7_method_9_code 19 = .ok (.iload_n 1, 1) := by decide +kernel
theorem d_Roads_setClosed_20 : decode prog_7_method_9_code 20 = .ok (.invokevirtual 38, 3) := by decide +kernel
theorem d_Roads_setClosed_23 : decode prog_7_method_9_code 23 = .ok (.return_, 1) := by decide +kernel
end
section
def W_Roads (ad : Nat → Nat) (cI cZ : ClassId) (σ : Sg) : va_W :=
  [(ad 0, .inr (5, [.int (σ 0 0), .ref (ad 1), .ref (ad 2), .ref (ad 3), .ref (ad 4), .ref (ad 5), .int (σ 0 6)])),
   (ad 1, .inl (cI, 30, .inl (σ 1))),
   (ad 2, .inl (cI, 30, .inl (σ 2))),
   (ad 3, .inl (cI, 30, .inl (σ 3))),
   (ad 4, .inl (cZ, 30, .inl (σ 4))),
   (ad 5, .inl (cI, 100, .inl (σ 5)))]
theorem D_Roads {ad : Nat → Nat} {cI cZ : ClassId} {σ : Sg} (inj : Inj ad 6) : va_D (inA ad 6) (W_Roads ad cI cZ σ) := D_of inj rfl
def q_Roads_size (σ : Sg) (Q : (Int32 → Prop)) : Prop :=
  Q (σ 0 6)
set_option maxHeartbeats 4000000 in
set_option maxRecDepth 100000 in
theorem t_Roads_size (l : Launch) (D : va_G) (cI cZ : ClassId) (ad : Nat → Nat) (σ : Sg) (Q : (Int32 → Prop)) (h : q_Roads_size σ Q) : Met l y_Roads_size (.code y_Roads_size prog_7_method_2_code 1 (some .int) :: TG) { frames := 0, cells := 0, slots := 0, locals := 0 } (va_Pc [.ref (ad 0)] (roB D (tysA cI cZ) (W_Roads ad cI cZ σ))) (vp_Si Q) 0 0 (fun _ => False) := by
  refine Met.ofW (cc := prog_7_method_2_code) (maxL := 1) (ret := (some .int)) (by decide) rfl ?_
  intro p e s m args below meth c s₁ B hml hv
  obtain ⟨rfl, hP, hK⟩ := hv
  have hx := B.exec
  have hb := B.bytes
  have hr := B.returns
  have hts : ∀ w ∈ TG, w.before [.ref (ad 0)].toArray s = true := fun w hw => atoms_spec (ws := .code y_Roads_size prog_7_method_2_code 1 (some .int) :: TG) B.pre w (List.mem_cons_of_mem _ hw)
  have hown : s.vm.findClass "CarrierPaths$Roads" = some m.cls := findClass_of_methodNamed B.named
  have hlocks := B.notSynchronized
  have hl := lv_entry ([.ref (ad 0)]) (n := 1) (Nat.le_of_ble_eq_true rfl)
  rw [lg_entry_eq]
  generalize (lg_sl ([.ref (ad 0)]) ++ List.replicate (1 - (lg_sl ([.ref (ad 0)])).length) Slot.unset).toArray = ls at hl ⊢
  have hl : lv_has ls 1 [(0, .ref (ad 0))] := hl
  unfold q_Roads_size at h
  refine lv_aload_n hx hb d_Roads_size_0 rfl (lv_at hl 0 rfl) ?_
  refine va_get (D := D) (ci := 5) (v := .int (σ 0 6)) (C := "CarrierPaths$Roads") (T := F_Roads) (N := 7) hx hb hts in_Roads hown hK hP 0 rfl rfl 6 (by decide) (hts _ kw65) (fun _ h9 => h9) rfl d_Roads_size_1 ?_
  exact W.iret (v := (σ 0 6)) hx hb hr (fun t ht hW => ⟨(σ 0 6), rfl, h, ht⟩) (fun q hq => by cases hq) d_Roads_size_4
def q_Roads_has (v1 : Int32) (σ : Sg) (Q : (Int32 → Prop)) : Prop :=
  ((v1 < 0 → Q 0) ∧ (¬ v1 < 0 → (((σ 0 6) ≤ v1 → Q 0) ∧ (¬ (σ 0 6) ≤ v1 → Q 1))))
set_option maxHeartbeats 4000000 in
set_option maxRecDepth 100000 in
theorem t_Roads_has (l : Launch) (D : va_G) (cI cZ : ClassId) (ad : Nat → Nat) (v1 : Int32) (σ : Sg) (Q : (Int32 → Prop)) (h : q_Roads_has v1 σ Q) : Met l y_Roads_has (.code y_Roads_has prog_7_method_3_code 2 (some .boolean) :: TG) { frames := 0, cells := 0, slots := 0, locals := 0 } (va_Pc [.ref (ad 0), .int v1] (roB D (tysA cI cZ) (W_Roads ad cI cZ σ))) (vp_Si Q) 0 0 (fun _ => False) := by
  refine Met.ofW (cc := prog_7_method_3_code) (maxL := 2) (ret := (some .boolean)) (by decide) rfl ?_
  intro p e s m args below meth c s₁ B hml hv
  obtain ⟨rfl, hP, hK⟩ := hv
  have hx := B.exec
  have hb := B.bytes
  have hr := B.returns
  have hts : ∀ w ∈ TG, w.before [.ref (ad 0), .int v1].toArray s = true := fun w hw => atoms_spec (ws := .code y_Roads_has prog_7_method_3_code 2 (some .boolean) :: TG) B.pre w (List.mem_cons_of_mem _ hw)
  have hown : s.vm.findClass "CarrierPaths$Roads" = some m.cls := findClass_of_methodNamed B.named
  have hlocks := B.notSynchronized
  have hl := lv_entry ([.ref (ad 0), .int v1]) (n := 2) (Nat.le_of_ble_eq_true rfl)
  rw [lg_entry_eq]
  generalize (lg_sl ([.ref (ad 0), .int v1]) ++ List.replicate (2 - (lg_sl ([.ref (ad 0), .int v1])).length) Slot.unset).toArray = ls at hl ⊢
  have hl : lv_has ls 2 [(0, .ref (ad 0)), (1, .int v1)] := hl
  unfold q_Roads_has at h
  refine lv_iload_n hx hb d_Roads_has_0 rfl (lv_at hl 1 rfl) ?_
  refine lv_if_lt (tgt := 16) hx hb d_Roads_has_1 (by decide) (fun hc => ?_) (fun hc => ?_)
  · have h := h.1 hc
    refine lv_iconst (v := 0) hx hb d_Roads_has_16 (by decide) ?_
    exact W.zret (v := 0) hx hb hr (by decide) (fun t ht hW => ⟨0, rfl, h, ht⟩) (fun q hq => by cases hq) d_Roads_has_17
  · have h := h.2 hc
    refine lv_iload_n hx hb d_Roads_has_4 rfl (lv_at hl 1 rfl) ?_
    refine lv_aload_n hx hb d_Roads_has_5 rfl (lv_at hl 0 rfl) ?_
    refine va_get (D := D) (ci := 5) (v := .int (σ 0 6)) (C := "CarrierPaths$Roads") (T := F_Roads) (N := 7) hx hb hts in_Roads hown hK hP 0 rfl rfl 6 (by decide) (hts _ kw65) (fun _ h9 => h9) rfl d_Roads_has_6 ?_
    refine lv_icmp_ge (tgt := 16) hx hb d_Roads_has_9 (by decide) (fun hc => ?_) (fun hc => ?_)
    · have h := h.1 hc
      refine lv_iconst (v := 0) hx hb d_Roads_has_16 (by decide) ?_
      exact W.zret (v := 0) hx hb hr (by decide) (fun t ht hW => ⟨0, rfl, h, ht⟩) (fun q hq => by cases hq) d_Roads_has_17
    · have h := h.2 hc
      refine lv_iconst (v := 1) hx hb d_Roads_has_12 (by decide) ?_
      refine lv_goto (tgt := 17) hx hb d_Roads_has_13 (by decide) ?_
      exact W.zret (v := 1) hx hb hr (by decide) (fun t ht hW => ⟨1, rfl, h, ht⟩) (fun q hq => by cases hq) d_Roads_has_17
def q_Roads_beginningOf (v1 : Int32) (σ : Sg) (Q : (Int32 → Prop)) : Prop :=
  (vp_in v1 30 ∧ Q (σ 1 v1.toNatClampNeg))
set_option maxHeartbeats 4000000 in
set_option maxRecDepth 100000 in
theorem t_Roads_beginningOf (l : Launch) (D : va_G) (cI cZ : ClassId) (ad : Nat → Nat) (v1 : Int32) (σ : Sg) (Q : (Int32 → Prop)) (h : q_Roads_beginningOf v1 σ Q) : Met l y_Roads_beginningOf (.code y_Roads_beginningOf prog_7_method_5_code 2 (some .int) :: TG) { frames := 0, cells := 0, slots := 0, locals := 0 } (va_Pc [.ref (ad 0), .int v1] (roB D (tysA cI cZ) (W_Roads ad cI cZ σ))) (vp_Si Q) 0 0 (fun _ => False) := by
  refine Met.ofW (cc := prog_7_method_5_code) (maxL := 2) (ret := (some .int)) (by decide) rfl ?_
  intro p e s m args below meth c s₁ B hml hv
  obtain ⟨rfl, hP, hK⟩ := hv
  have hx := B.exec
  have hb := B.bytes
  have hr := B.returns
  have hts : ∀ w ∈ TG, w.before [.ref (ad 0), .int v1].toArray s = true := fun w hw => atoms_spec (ws := .code y_Roads_beginningOf prog_7_method_5_code 2 (some .int) :: TG) B.pre w (List.mem_cons_of_mem _ hw)
  have hown : s.vm.findClass "CarrierPaths$Roads" = some m.cls := findClass_of_methodNamed B.named
  have hlocks := B.notSynchronized
  have hl := lv_entry ([.ref (ad 0), .int v1]) (n := 2) (Nat.le_of_ble_eq_true rfl)
  rw [lg_entry_eq]
  generalize (lg_sl ([.ref (ad 0), .int v1]) ++ List.replicate (2 - (lg_sl ([.ref (ad 0), .int v1])).length) Slot.unset).toArray = ls at hl ⊢
  have hl : lv_has ls 2 [(0, .ref (ad 0)), (1, .int v1)] := hl
  unfold q_Roads_beginningOf at h
  refine lv_aload_n hx hb d_Roads_beginningOf_0 rfl (lv_at hl 0 rfl) ?_
  refine va_get (D := D) (ci := 5) (v := .ref (ad 1)) (C := "CarrierPaths$Roads") (T := F_Roads) (N := 7) hx hb hts in_Roads hown hK hP 0 rfl rfl 1 (by decide) (hts _ kw60) (fun _ h9 => h9) rfl d_Roads_beginningOf_1 ?_
  refine lv_iload_n hx hb d_Roads_beginningOf_4 rfl (lv_at hl 1 rfl) ?_
  obtain ⟨hi, h⟩ := h
  refine va_iald hx hb hK hP 1 0 rfl rfl hi d_Roads_beginningOf_5 ?_
  exact W.iret (v := (σ 1 v1.toNatClampNeg)) hx hb hr (fun t ht hW => ⟨(σ 1 v1.toNatClampNeg), rfl, h, ht⟩) (fun q hq => by cases hq) d_Roads_beginningOf_6
def q_Roads_endOf (v1 : Int32) (σ : Sg) (Q : (Int32 → Prop)) : Prop :=
  (vp_in v1 30 ∧ Q (σ 2 v1.toNatClampNeg))
set_option maxHeartbeats 4000000 in
set_option maxRecDepth 100000 in
theorem t_Roads_endOf (l : Launch) (D : va_G) (cI cZ : ClassId) (ad : Nat → Nat) (v1 : Int32) (σ : Sg) (Q : (Int32 → Prop)) (h : q_Roads_endOf v1 σ Q) : Met l y_Roads_endOf (.code y_Roads_endOf prog_7_method_6_code 2 (some .int) :: TG) { frames := 0, cells := 0, slots := 0, locals := 0 } (va_Pc [.ref (ad 0), .int v1] (roB D (tysA cI cZ) (W_Roads ad cI cZ σ))) (vp_Si Q) 0 0 (fun _ => False) := by
  refine Met.ofW (cc := prog_7_method_6_code) (maxL := 2) (ret := (some .int)) (by decide) rfl ?_
  intro p e s m args below meth c s₁ B hml hv
  obtain ⟨rfl, hP, hK⟩ := hv
  have hx := B.exec
  have hb := B.bytes
  have hr := B.returns
  have hts : ∀ w ∈ TG, w.before [.ref (ad 0), .int v1].toArray s = true := fun w hw => atoms_spec (ws := .code y_Roads_endOf prog_7_method_6_code 2 (some .int) :: TG) B.pre w (List.mem_cons_of_mem _ hw)
  have hown : s.vm.findClass "CarrierPaths$Roads" = some m.cls := findClass_of_methodNamed B.named
  have hlocks := B.notSynchronized
  have hl := lv_entry ([.ref (ad 0), .int v1]) (n := 2) (Nat.le_of_ble_eq_true rfl)
  rw [lg_entry_eq]
  generalize (lg_sl ([.ref (ad 0), .int v1]) ++ List.replicate (2 - (lg_sl ([.ref (ad 0), .int v1])).length) Slot.unset).toArray = ls at hl ⊢
  have hl : lv_has ls 2 [(0, .ref (ad 0)), (1, .int v1)] := hl
  unfold q_Roads_endOf at h
  refine lv_aload_n hx hb d_Roads_endOf_0 rfl (lv_at hl 0 rfl) ?_
  refine va_get (D := D) (ci := 5) (v := .ref (ad 2)) (C := "CarrierPaths$Roads") (T := F_Roads) (N := 7) hx hb hts in_Roads hown hK hP 0 rfl rfl 2 (by decide) (hts _ kw61) (fun _ h9 => h9) rfl d_Roads_endOf_1 ?_
  refine lv_iload_n hx hb d_Roads_endOf_4 rfl (lv_at hl 1 rfl) ?_
  obtain ⟨hi, h⟩ := h
  refine va_iald hx hb hK hP 2 0 rfl rfl hi d_Roads_endOf_5 ?_
  exact W.iret (v := (σ 2 v1.toNatClampNeg)) hx hb hr (fun t ht hW => ⟨(σ 2 v1.toNatClampNeg), rfl, h, ht⟩) (fun q hq => by cases hq) d_Roads_endOf_6
def q_Roads_timeOf (v1 : Int32) (σ : Sg) (Q : (Int32 → Prop)) : Prop :=
  (vp_in v1 30 ∧ Q (σ 3 v1.toNatClampNeg))
set_option maxHeartbeats 4000000 in
set_option maxRecDepth 100000 in
theorem t_Roads_timeOf (l : Launch) (D : va_G) (cI cZ : ClassId) (ad : Nat → Nat) (v1 : Int32) (σ : Sg) (Q : (Int32 → Prop)) (h : q_Roads_timeOf v1 σ Q) : Met l y_Roads_timeOf (.code y_Roads_timeOf prog_7_method_7_code 2 (some .int) :: TG) { frames := 0, cells := 0, slots := 0, locals := 0 } (va_Pc [.ref (ad 0), .int v1] (roB D (tysA cI cZ) (W_Roads ad cI cZ σ))) (vp_Si Q) 0 0 (fun _ => False) := by
  refine Met.ofW (cc := prog_7_method_7_code) (maxL := 2) (ret := (some .int)) (by decide) rfl ?_
  intro p e s m args below meth c s₁ B hml hv
  obtain ⟨rfl, hP, hK⟩ := hv
  have hx := B.exec
  have hb := B.bytes
  have hr := B.returns
  have hts : ∀ w ∈ TG, w.before [.ref (ad 0), .int v1].toArray s = true := fun w hw => atoms_spec (ws := .code y_Roads_timeOf prog_7_method_7_code 2 (some .int) :: TG) B.pre w (List.mem_cons_of_mem _ hw)
  have hown : s.vm.findClass "CarrierPaths$Roads" = some m.cls := findClass_of_methodNamed B.named
  have hlocks := B.notSynchronized
  have hl := lv_entry ([.ref (ad 0), .int v1]) (n := 2) (Nat.le_of_ble_eq_true rfl)
  rw [lg_entry_eq]
  generalize (lg_sl ([.ref (ad 0), .int v1]) ++ List.replicate (2 - (lg_sl ([.ref (ad 0), .int v1])).length) Slot.unset).toArray = ls at hl ⊢
  have hl : lv_has ls 2 [(0, .ref (ad 0)), (1, .int v1)] := hl
  unfold q_Roads_timeOf at h
  refine lv_aload_n hx hb d_Roads_timeOf_0 rfl (lv_at hl 0 rfl) ?_
  refine va_get (D := D) (ci := 5) (v := .ref (ad 3)) (C := "CarrierPaths$Roads") (T := F_Roads) (N := 7) hx hb hts in_Roads hown hK hP 0 rfl rfl 3 (by decide) (hts _ kw62) (fun _ h9 => h9) rfl d_Roads_timeOf_1 ?_
  refine lv_iload_n hx hb d_Roads_timeOf_4 rfl (lv_at hl 1 rfl) ?_
  obtain ⟨hi, h⟩ := h
  refine va_iald hx hb hK hP 3 0 rfl rfl hi d_Roads_timeOf_5 ?_
  exact W.iret (v := (σ 3 v1.toNatClampNeg)) hx hb hr (fun t ht hW => ⟨(σ 3 v1.toNatClampNeg), rfl, h, ht⟩) (fun q hq => by cases hq) d_Roads_timeOf_6
def q_Roads_isClosed (v1 : Int32) (σ : Sg) (Q : (Int32 → Prop)) : Prop :=
  (vp_in v1 30 ∧ (narrow .boolean (.int (σ 4 v1.toNatClampNeg)) = .int (σ 4 v1.toNatClampNeg) ∧ Q (σ 4 v1.toNatClampNeg)))
set_option maxHeartbeats 4000000 in
set_option maxRecDepth 100000 in
theorem t_Roads_isClosed (l : Launch) (D : va_G) (cI cZ : ClassId) (ad : Nat → Nat) (v1 : Int32) (σ : Sg) (Q : (Int32 → Prop)) (h : q_Roads_isClosed v1 σ Q) : Met l y_Roads_isClosed (.code y_Roads_isClosed prog_7_method_8_code 2 (some .boolean) :: TG) { frames := 0, cells := 0, slots := 0, locals := 0 } (va_Pc [.ref (ad 0), .int v1] (roB D (tysA cI cZ) (W_Roads ad cI cZ σ))) (vp_Si Q) 0 0 (fun _ => False) := by
  refine Met.ofW (cc := prog_7_method_8_code) (maxL := 2) (ret := (some .boolean)) (by decide) rfl ?_
  intro p e s m args below meth c s₁ B hml hv
  obtain ⟨rfl, hP, hK⟩ := hv
  have hx := B.exec
  have hb := B.bytes
  have hr := B.returns
  have hts : ∀ w ∈ TG, w.before [.ref (ad 0), .int v1].toArray s = true := fun w hw => atoms_spec (ws := .code y_Roads_isClosed prog_7_method_8_code 2 (some .boolean) :: TG) B.pre w (List.mem_cons_of_mem _ hw)
  have hown : s.vm.findClass "CarrierPaths$Roads" = some m.cls := findClass_of_methodNamed B.named
  have hlocks := B.notSynchronized
  have hl := lv_entry ([.ref (ad 0), .int v1]) (n := 2) (Nat.le_of_ble_eq_true rfl)
  rw [lg_entry_eq]
  generalize (lg_sl ([.ref (ad 0), .int v1]) ++ List.replicate (2 - (lg_sl ([.ref (ad 0), .int v1])).length) Slot.unset).toArray = ls at hl ⊢
  have hl : lv_has ls 2 [(0, .ref (ad 0)), (1, .int v1)] := hl
  unfold q_Roads_isClosed at h
  refine lv_aload_n hx hb d_Roads_isClosed_0 rfl (lv_at hl 0 rfl) ?_
  refine va_get (D := D) (ci := 5) (v := .ref (ad 4)) (C := "CarrierPaths$Roads") (T := F_Roads) (N := 7) hx hb hts in_Roads hown hK hP 0 rfl rfl 4 (by decide) (hts _ kw63) (fun _ h9 => h9) rfl d_Roads_isClosed_1 ?_
  refine lv_iload_n hx hb d_Roads_isClosed_4 rfl (lv_at hl 1 rfl) ?_
  obtain ⟨hi, h⟩ := h
  refine va_zald hx hb hK hP 4 1 rfl rfl hi d_Roads_isClosed_5 ?_
  obtain ⟨hn, h⟩ := h
  exact W.zret (v := (σ 4 v1.toNatClampNeg)) hx hb hr hn (fun t ht hW => ⟨(σ 4 v1.toNatClampNeg), rfl, h, ht⟩) (fun q hq => by cases hq) d_Roads_isClosed_6
def q_Roads_leastTime (v1 v2 : Int32) (σ : Sg) (Q : (Int32 → Prop)) : Prop :=
  (vp_in ((v1 * 10) + v2) 100 ∧ Q (σ 5 ((v1 * 10) + v2).toNatClampNeg))
set_option maxHeartbeats 4000000 in
set_option maxRecDepth 100000 in
theorem t_Roads_leastTime (l : Launch) (D : va_G) (cI cZ : ClassId) (ad : Nat → Nat) (v1 v2 : Int32) (σ : Sg) (Q : (Int32 → Prop)) (h : q_Roads_leastTime v1 v2 σ Q) : Met l y_Roads_leastTime (.code y_Roads_leastTime prog_7_method_11_code 3 (some .int) :: TG) { frames := 0, cells := 0, slots := 0, locals := 0 } (va_Pc [.ref (ad 0), .int v1, .int v2] (roB D (tysA cI cZ) (W_Roads ad cI cZ σ))) (vp_Si Q) 0 0 (fun _ => False) := by
  refine Met.ofW (cc := prog_7_method_11_code) (maxL := 3) (ret := (some .int)) (by decide) rfl ?_
  intro p e s m args below meth c s₁ B hml hv
  obtain ⟨rfl, hP, hK⟩ := hv
  have hx := B.exec
  have hb := B.bytes
  have hr := B.returns
  have hts : ∀ w ∈ TG, w.before [.ref (ad 0), .int v1, .int v2].toArray s = true := fun w hw => atoms_spec (ws := .code y_Roads_leastTime prog_7_method_11_code 3 (some .int) :: TG) B.pre w (List.mem_cons_of_mem _ hw)
  have hown : s.vm.findClass "CarrierPaths$Roads" = some m.cls := findClass_of_methodNamed B.named
  have hlocks := B.notSynchronized
  have hl := lv_entry ([.ref (ad 0), .int v1, .int v2]) (n := 3) (Nat.le_of_ble_eq_true rfl)
  rw [lg_entry_eq]
  generalize (lg_sl ([.ref (ad 0), .int v1, .int v2]) ++ List.replicate (3 - (lg_sl ([.ref (ad 0), .int v1, .int v2])).length) Slot.unset).toArray = ls at hl ⊢
  have hl : lv_has ls 3 [(0, .ref (ad 0)), (1, .int v1), (2, .int v2)] := hl
  unfold q_Roads_leastTime at h
  refine lv_aload_n hx hb d_Roads_leastTime_0 rfl (lv_at hl 0 rfl) ?_
  refine va_get (D := D) (ci := 5) (v := .ref (ad 5)) (C := "CarrierPaths$Roads") (T := F_Roads) (N := 7) hx hb hts in_Roads hown hK hP 0 rfl rfl 5 (by decide) (hts _ kw64) (fun _ h9 => h9) rfl d_Roads_leastTime_1 ?_
  refine lv_iload_n hx hb d_Roads_leastTime_4 rfl (lv_at hl 1 rfl) ?_
  refine lv_bipush (v := 10) hx hb d_Roads_leastTime_5 (by decide) ?_
  refine lv_imul hx hb d_Roads_leastTime_7 ?_
  refine lv_iload_n hx hb d_Roads_leastTime_8 rfl (lv_at hl 2 rfl) ?_
  refine lv_iadd hx hb d_Roads_leastTime_9 ?_
  obtain ⟨hi, h⟩ := h
  refine va_iald hx hb hK hP 5 0 rfl rfl hi d_Roads_leastTime_10 ?_
  exact W.iret (v := (σ 5 ((v1 * 10) + v2).toNatClampNeg)) hx hb hr (fun t ht hW => ⟨(σ 5 ((v1 * 10) + v2).toNatClampNeg), rfl, h, ht⟩) (fun q hq => by cases hq) d_Roads_leastTime_11
def q_Roads_hasWay (v1 v2 : Int32) (σ : Sg) (Q : (Int32 → Prop)) : Prop :=
  (q_Roads_leastTime v1 v2 σ (fun r1 => ((1000000 ≤ r1 → Q 0) ∧ (¬ 1000000 ≤ r1 → Q 1))))
set_option maxHeartbeats 4000000 in
set_option maxRecDepth 100000 in
theorem t_Roads_hasWay (l : Launch) (D : va_G) (cI cZ : ClassId) (ad : Nat → Nat) (v1 v2 : Int32) (σ : Sg) (Q : (Int32 → Prop)) (h : q_Roads_hasWay v1 v2 σ Q) : Met l y_Roads_hasWay (.code y_Roads_hasWay prog_7_method_10_code 3 (some .boolean) :: TG) { frames := 1, cells := 0, slots := 0, locals := 22 } (va_Pc [.ref (ad 0), .int v1, .int v2] (roB D (tysA cI cZ) (W_Roads ad cI cZ σ))) (vp_Si Q) 0 0 (fun _ => False) := by
  refine Met.ofW (cc := prog_7_method_10_code) (maxL := 3) (ret := (some .boolean)) (by decide) rfl ?_
  intro p e s m args below meth c s₁ B hml hv
  obtain ⟨rfl, hP, hK⟩ := hv
  have hx := B.exec
  have hb := B.bytes
  have hr := B.returns
  have hts : ∀ w ∈ TG, w.before [.ref (ad 0), .int v1, .int v2].toArray s = true := fun w hw => atoms_spec (ws := .code y_Roads_hasWay prog_7_method_10_code 3 (some .boolean) :: TG) B.pre w (List.mem_cons_of_mem _ hw)
  have hown : s.vm.findClass "CarrierPaths$Roads" = some m.cls := findClass_of_methodNamed B.named
  have hlocks := B.notSynchronized
  have hl := lv_entry ([.ref (ad 0), .int v1, .int v2]) (n := 3) (Nat.le_of_ble_eq_true rfl)
  rw [lg_entry_eq]
  generalize (lg_sl ([.ref (ad 0), .int v1, .int v2]) ++ List.replicate (3 - (lg_sl ([.ref (ad 0), .int v1, .int v2])).length) Slot.unset).toArray = ls at hl ⊢
  have hl : lv_has ls 3 [(0, .ref (ad 0)), (1, .int v1), (2, .int v2)] := hl
  unfold q_Roads_hasWay at h
  refine lv_aload_n hx hb d_Roads_hasWay_0 rfl (lv_at hl 0 rfl) ?_
  refine lv_iload_n hx hb d_Roads_hasWay_1 rfl (lv_at hl 1 rfl) ?_
  refine lv_iload_n hx hb d_Roads_hasWay_2 rfl (lv_at hl 2 rfl) ?_
  refine vp_callSi (W.runV (As := [.int v1, .int v2]) (rest := []) ⟨hx, hb, hml, hown, hts⟩ (t_Roads_leastTime l D cI cZ ad v1 v2 σ _ h) (cwV 2 hts (g_of kw348 kw255 kw256 kw4 kw257) rfl rfl rfl (by decide +kernel) ⟨Nat.le_of_ble_eq_true rfl, Nat.le_of_ble_eq_true rfl⟩) (ro_pre hK hP (va_recv hK hP (ci := 5) (q0 := 0) rfl rfl)) rfl rfl hl.1 rfl (lv_room (Nat.le_of_ble_eq_true rfl)) d_Roads_hasWay_3 ⟨Nat.le_of_ble_eq_true rfl, Nat.le_of_ble_eq_true rfl⟩) (fun r1 h => ?_)
  refine lv_ldc (v := 1000000) hx hb hown (hts _ kw58) d_Roads_hasWay_6 ?_
  refine lv_icmp_ge (tgt := 15) hx hb d_Roads_hasWay_8 (by decide) (fun hc => ?_) (fun hc => ?_)
  · have h := h.1 hc
    refine lv_iconst (v := 0) hx hb d_Roads_hasWay_15 (by decide) ?_
    exact W.zret (v := 0) hx hb hr (by decide) (fun t ht hW => ⟨0, rfl, h, ht⟩) (fun q hq => by cases hq) d_Roads_hasWay_16
  · have h := h.2 hc
    refine lv_iconst (v := 1) hx hb d_Roads_hasWay_11 (by decide) ?_
    refine lv_goto (tgt := 16) hx hb d_Roads_hasWay_12 (by decide) ?_
    exact W.zret (v := 1) hx hb hr (by decide) (fun t ht hW => ⟨1, rfl, h, ht⟩) (fun q hq => by cases hq) d_Roads_hasWay_16
def q_Roads_firstPiece_b0 (J : Nat → Int32 → Int32 → Int32 → Int32 → Prop) (Q : (Int32 → Prop)) (v1 v2 v3 v4 : Int32) (σ : Sg) : Prop :=
  (q_Roads_leastTime v1 v2 σ (fun r1 => J 1 v1 v2 r1 0))
def q_Roads_firstPiece_b1 (J : Nat → Int32 → Int32 → Int32 → Int32 → Prop) (Q : (Int32 → Prop)) (v1 v2 v3 v4 : Int32) (σ : Sg) : Prop :=
  (((σ 0 6) ≤ v4 → Q (-1)) ∧ (¬ (σ 0 6) ≤ v4 → (vp_in v4 30 ∧ (((σ 4 v4.toNatClampNeg) = 0 → (vp_in v4 30 ∧ (((σ 1 v4.toNatClampNeg) = v1 → (vp_in v4 30 ∧ (vp_in v4 30 ∧ (q_Roads_leastTime (σ 2 v4.toNatClampNeg) v2 σ (fun r2 => ((((σ 3 v4.toNatClampNeg) + r2) = v3 → Q v4) ∧ (¬ ((σ 3 v4.toNatClampNeg) + r2) = v3 → J 1 v1 v2 v3 (v4 + 1)))))))) ∧ (¬ (σ 1 v4.toNatClampNeg) = v1 → J 1 v1 v2 v3 (v4 + 1))))) ∧ (¬ (σ 4 v4.toNatClampNeg) = 0 → J 1 v1 v2 v3 (v4 + 1))))))
def q_Roads_firstPiece_j (Q : (Int32 → Prop)) (σ : Sg) : Nat → Nat → Int32 → Int32 → Int32 → Int32 → Prop
  | 0, _, _, _, _, _ => False
  | n + 1, 0, v1, v2, v3, v4 => q_Roads_firstPiece_b0 (q_Roads_firstPiece_j Q σ n) Q v1 v2 v3 v4 σ
  | n + 1, 1, v1, v2, v3, v4 => q_Roads_firstPiece_b1 (q_Roads_firstPiece_j Q σ n) Q v1 v2 v3 v4 σ
  | _ + 1, _ + 2, _, _, _, _ => False
def q_Roads_firstPiece (v1 v2 : Int32) (σ : Sg) (Q : (Int32 → Prop)) : Prop := q_Roads_firstPiece_j Q σ 4000 0 v1 v2 0 0
def lc_Roads_firstPiece (ad : Nat → Nat) (b : Nat) (v1 v2 v3 v4 : Int32) : List (Nat × Value) := match b with
  | 0 => [(0, .ref (ad 0)), (1, .int v1), (2, .int v2)]
  | 1 => [(0, .ref (ad 0)), (1, .int v1), (2, .int v2), (3, .int v3), (4, .int v4)]
  | _ => []
def pc_Roads_firstPiece (b : Nat) : Nat := match b with
  | 0 => 0
  | 1 => 10
  | _ => 0
set_option maxHeartbeats 4000000 in
set_option maxRecDepth 100000 in
theorem t_Roads_firstPiece (l : Launch) (D : va_G) (cI cZ : ClassId) (ad : Nat → Nat) (v1 v2 : Int32) (σ : Sg) (Q : (Int32 → Prop)) (h : q_Roads_firstPiece v1 v2 σ Q) : Met l y_Roads_firstPiece (.code y_Roads_firstPiece prog_7_method_12_code 5 (some .int) :: TG) { frames := 1, cells := 0, slots := 0, locals := 22 } (va_Pc [.ref (ad 0), .int v1, .int v2] (roB D (tysA cI cZ) (W_Roads ad cI cZ σ))) (vp_Si Q) 0 0 (fun _ => False) := by
  refine Met.ofW (cc := prog_7_method_12_code) (maxL := 5) (ret := (some .int)) (by decide) rfl ?_
  intro p e s m args below meth c s₁ B hml hv
  obtain ⟨rfl, hP, hK⟩ := hv
  have hx := B.exec
  have hb := B.bytes
  have hr := B.returns
  have hts : ∀ w ∈ TG, w.before [.ref (ad 0), .int v1, .int v2].toArray s = true := fun w hw => atoms_spec (ws := .code y_Roads_firstPiece prog_7_method_12_code 5 (some .int) :: TG) B.pre w (List.mem_cons_of_mem _ hw)
  have hown : s.vm.findClass "CarrierPaths$Roads" = some m.cls := findClass_of_methodNamed B.named
  have hlocks := B.notSynchronized
  have hl := lv_entry ([.ref (ad 0), .int v1, .int v2]) (n := 5) (Nat.le_of_ble_eq_true rfl)
  rw [lg_entry_eq]
  generalize (lg_sl ([.ref (ad 0), .int v1, .int v2]) ++ List.replicate (5 - (lg_sl ([.ref (ad 0), .int v1, .int v2])).length) Slot.unset).toArray = ls at hl ⊢
  generalize ([.ref (ad 0), .int v1, .int v2] : List Value).toArray = args at hts ⊢
  have key : ∀ (n b : Nat) (v1 v2 v3 v4 : Int32), q_Roads_firstPiece_j Q σ n b v1 v2 v3 v4 → ∀ ls : Array Slot, lv_has ls 5 (lc_Roads_firstPiece ad b v1 v2 v3 v4) → W p l e (headSpec (.code y_Roads_firstPiece prog_7_method_12_code 5 (some .int) :: TG) { frames := 1, cells := 0, slots := 0, locals := 22 }).room s m args below meth c s.heap [] 0 0 (MQ below (vp_Si Q) args s 0 0 (fun _ => False)) (F0 m (pc_Roads_firstPiece b) ls []) := by
    clear h hl
    intro n
    induction n with
    | zero => intro b _ _ _ _ h; exact False.elim h
    | succ n ih =>
      intro b v1 v2 v3 v4 h ls hl
      match b, h, hl with
      | 0, h, hl =>
        have h : q_Roads_firstPiece_b0 (q_Roads_firstPiece_j Q σ n) Q v1 v2 v3 v4 σ := h
        have hl : lv_has ls 5 [(0, .ref (ad 0)), (1, .int v1), (2, .int v2)] := hl
        refine W.eq (g2 := F0 m 0 ls []) rfl ?_
        unfold q_Roads_firstPiece_b0 at h
        refine lv_aload_n hx hb d_Roads_firstPiece_0 rfl (lv_at hl 0 rfl) ?_
        refine lv_iload_n hx hb d_Roads_firstPiece_1 rfl (lv_at hl 1 rfl) ?_
        refine lv_iload_n hx hb d_Roads_firstPiece_2 rfl (lv_at hl 2 rfl) ?_
        refine vp_callSi (W.runV (As := [.int v1, .int v2]) (rest := []) ⟨hx, hb, hml, hown, hts⟩ (t_Roads_leastTime l D cI cZ ad v1 v2 σ _ h) (cwV 2 hts (g_of kw348 kw255 kw256 kw4 kw257) rfl rfl rfl (by decide +kernel) ⟨Nat.le_of_ble_eq_true rfl, Nat.le_of_ble_eq_true rfl⟩) (ro_pre hK hP (va_recv hK hP (ci := 5) (q0 := 0) rfl rfl)) rfl rfl hl.1 rfl (lv_room (Nat.le_of_ble_eq_true rfl)) d_Roads_firstPiece_3 ⟨Nat.le_of_ble_eq_true rfl, Nat.le_of_ble_eq_true rfl⟩) (fun r1 h => ?_)
        refine lv_istore_n (lv' := [(3, .int r1), (0, .ref (ad 0)), (1, .int v1), (2, .int v2)]) hx hb d_Roads_firstPiece_6 rfl hl (by decide) rfl (fun ls hl => ?_)
        refine lv_iconst (v := 0) hx hb d_Roads_firstPiece_7 (by decide) ?_
        refine lv_istore (lv' := [(4, .int 0), (3, .int r1), (0, .ref (ad 0)), (1, .int v1), (2, .int v2)]) hx hb d_Roads_firstPiece_8 hl (by decide) rfl (fun ls hl => ?_)
        exact ih 1 v1 v2 r1 0 h _ (lv_sub hl [2, 3, 4, 1, 0] rfl)
      | 1, h, hl =>
        have h : q_Roads_firstPiece_b1 (q_Roads_firstPiece_j Q σ n) Q v1 v2 v3 v4 σ := h
        have hl : lv_has ls 5 [(0, .ref (ad 0)), (1, .int v1), (2, .int v2), (3, .int v3), (4, .int v4)] := hl
        refine W.eq (g2 := F0 m 10 ls []) rfl ?_
        unfold q_Roads_firstPiece_b1 at h
        refine lv_iload hx hb d_Roads_firstPiece_10 (lv_at hl 4 rfl) ?_
        refine lv_aload_n hx hb d_Roads_firstPiece_12 rfl (lv_at hl 0 rfl) ?_
        refine va_get (D := D) (ci := 5) (v := .int (σ 0 6)) (C := "CarrierPaths$Roads") (T := F_Roads) (N := 7) hx hb hts in_Roads hown hK hP 0 rfl rfl 6 (by decide) (hts _ kw65) (fun _ h9 => h9) rfl d_Roads_firstPiece_13 ?_
        refine lv_icmp_ge (tgt := 73) hx hb d_Roads_firstPiece_16 (by decide) (fun hc => ?_) (fun hc => ?_)
        · have h := h.1 hc
          refine lv_iconst (v := (-1)) hx hb d_Roads_firstPiece_73 (by decide) ?_
          exact W.iret (v := (-1)) hx hb hr (fun t ht hW => ⟨(-1), rfl, h, ht⟩) (fun q hq => by cases hq) d_Roads_firstPiece_74
        · have h := h.2 hc
          refine lv_aload_n hx hb d_Roads_firstPiece_19 rfl (lv_at hl 0 rfl) ?_
          refine va_get (D := D) (ci := 5) (v := .ref (ad 4)) (C := "CarrierPaths$Roads") (T := F_Roads) (N := 7) hx hb hts in_Roads hown hK hP 0 rfl rfl 4 (by decide) (hts _ kw63) (fun _ h9 => h9) rfl d_Roads_firstPiece_20 ?_
          refine lv_iload hx hb d_Roads_firstPiece_23 (lv_at hl 4 rfl) ?_
          obtain ⟨hi, h⟩ := h
          refine va_zald hx hb hK hP 4 1 rfl rfl hi d_Roads_firstPiece_25 ?_
          refine lv_if_ne (tgt := 67) hx hb d_Roads_firstPiece_26 (by decide) (fun hc => ?_) (fun hc => ?_)
          · have h := h.2 hc
            refine lv_iinc (v := (v4 + 1)) (lv' := [(4, .int (v4 + 1)), (0, .ref (ad 0)), (1, .int v1), (2, .int v2), (3, .int v3)]) hx hb d_Roads_firstPiece_67 hl (k := 4) rfl rfl (by decide) rfl (fun ls hl => ?_)
            refine lv_goto (tgt := 10) hx hb d_Roads_firstPiece_70 (by decide) ?_
            exact ih 1 v1 v2 v3 (v4 + 1) h _ (lv_sub hl [1, 2, 3, 4, 0] rfl)
          · have h := h.1 hc
            refine lv_aload_n hx hb d_Roads_firstPiece_29 rfl (lv_at hl 0 rfl) ?_
            refine va_get (D := D) (ci := 5) (v := .ref (ad 1)) (C := "CarrierPaths$Roads") (T := F_Roads) (N := 7) hx hb hts in_Roads hown hK hP 0 rfl rfl 1 (by decide) (hts _ kw60) (fun _ h9 => h9) rfl d_Roads_firstPiece_30 ?_
            refine lv_iload hx hb d_Roads_firstPiece_33 (lv_at hl 4 rfl) ?_
            obtain ⟨hi, h⟩ := h
            refine va_iald hx hb hK hP 1 0 rfl rfl hi d_Roads_firstPiece_35 ?_
            refine lv_iload_n hx hb d_Roads_firstPiece_36 rfl (lv_at hl 1 rfl) ?_
            refine lv_icmp_ne (tgt := 67) hx hb d_Roads_firstPiece_37 (by decide) (fun hc => ?_) (fun hc => ?_)
            · have h := h.2 hc
              refine lv_iinc (v := (v4 + 1)) (lv' := [(4, .int (v4 + 1)), (0, .ref (ad 0)), (1, .int v1), (2, .int v2), (3, .int v3)]) hx hb d_Roads_firstPiece_67 hl (k := 4) rfl rfl (by decide) rfl (fun ls hl => ?_)
              refine lv_goto (tgt := 10) hx hb d_Roads_firstPiece_70 (by decide) ?_
              exact ih 1 v1 v2 v3 (v4 + 1) h _ (lv_sub hl [1, 2, 3, 4, 0] rfl)
            · have h := h.1 hc
              refine lv_aload_n hx hb d_Roads_firstPiece_40 rfl (lv_at hl 0 rfl) ?_
              refine va_get (D := D) (ci := 5) (v := .ref (ad 3)) (C := "CarrierPaths$Roads") (T := F_Roads) (N := 7) hx hb hts in_Roads hown hK hP 0 rfl rfl 3 (by decide) (hts _ kw62) (fun _ h9 => h9) rfl d_Roads_firstPiece_41 ?_
              refine lv_iload hx hb d_Roads_firstPiece_44 (lv_at hl 4 rfl) ?_
              obtain ⟨hi, h⟩ := h
              refine va_iald hx hb hK hP 3 0 rfl rfl hi d_Roads_firstPiece_46 ?_
              refine lv_aload_n hx hb d_Roads_firstPiece_47 rfl (lv_at hl 0 rfl) ?_
              refine lv_aload_n hx hb d_Roads_firstPiece_48 rfl (lv_at hl 0 rfl) ?_
              refine va_get (D := D) (ci := 5) (v := .ref (ad 2)) (C := "CarrierPaths$Roads") (T := F_Roads) (N := 7) hx hb hts in_Roads hown hK hP 0 rfl rfl 2 (by decide) (hts _ kw61) (fun _ h9 => h9) rfl d_Roads_firstPiece_49 ?_
              refine lv_iload hx hb d_Roads_firstPiece_52 (lv_at hl 4 rfl) ?_
              obtain ⟨hi, h⟩ := h
              refine va_iald hx hb hK hP 2 0 rfl rfl hi d_Roads_firstPiece_54 ?_
              refine lv_iload_n hx hb d_Roads_firstPiece_55 rfl (lv_at hl 2 rfl) ?_
              refine vp_callSi (W.runV (As := [.int (σ 2 v4.toNatClampNeg), .int v2]) (rest := [.int (σ 3 v4.toNatClampNeg)]) ⟨hx, hb, hml, hown, hts⟩ (t_Roads_leastTime l D cI cZ ad (σ 2 v4.toNatClampNeg) v2 σ _ h) (cwV 2 hts (g_of kw348 kw255 kw256 kw4 kw257) rfl rfl rfl (by decide +kernel) ⟨Nat.le_of_ble_eq_true rfl, Nat.le_of_ble_eq_true rfl⟩) (ro_pre hK hP (va_recv hK hP (ci := 5) (q0 := 0) rfl rfl)) rfl rfl hl.1 rfl (lv_room (Nat.le_of_ble_eq_true rfl)) d_Roads_firstPiece_56 ⟨Nat.le_of_ble_eq_true rfl, Nat.le_of_ble_eq_true rfl⟩) (fun r2 h => ?_)
              refine lv_iadd hx hb d_Roads_firstPiece_59 ?_
              refine lv_iload_n hx hb d_Roads_firstPiece_60 rfl (lv_at hl 3 rfl) ?_
              refine lv_icmp_ne (tgt := 67) hx hb d_Roads_firstPiece_61 (by decide) (fun hc => ?_) (fun hc => ?_)
              · have h := h.2 hc
                refine lv_iinc (v := (v4 + 1)) (lv' := [(4, .int (v4 + 1)), (0, .ref (ad 0)), (1, .int v1), (2, .int v2), (3, .int v3)]) hx hb d_Roads_firstPiece_67 hl (k := 4) rfl rfl (by decide) rfl (fun ls hl => ?_)
                refine lv_goto (tgt := 10) hx hb d_Roads_firstPiece_70 (by decide) ?_
                exact ih 1 v1 v2 v3 (v4 + 1) h _ (lv_sub hl [1, 2, 3, 4, 0] rfl)
              · have h := h.1 hc
                refine lv_iload hx hb d_Roads_firstPiece_64 (lv_at hl 4 rfl) ?_
                exact W.iret (v := v4) hx hb hr (fun t ht hW => ⟨v4, rfl, h, ht⟩) (fun q hq => by cases hq) d_Roads_firstPiece_66
      | _ + 2, h, _ => exact False.elim h
  exact key 4000 0 v1 v2 0 0 h ls hl
def q_Roads_piecesOnWay_b0 (J : Nat → Int32 → Int32 → Int32 → Int32 → Prop) (Q : (Int32 → Prop)) (v1 v2 v3 v4 : Int32) (σ : Sg) : Prop :=
  (q_Roads_firstPiece v1 v2 σ (fun r1 => J 1 v1 v2 0 r1))
def q_Roads_piecesOnWay_b1 (J : Nat → Int32 → Int32 → Int32 → Int32 → Prop) (Q : (Int32 → Prop)) (v1 v2 v3 v4 : Int32) (σ : Sg) : Prop :=
  ((v4 = (-1) → Q v3) ∧ (¬ v4 = (-1) → (((σ 0 0) ≤ v3 → Q v3) ∧ (¬ (σ 0 0) ≤ v3 → (vp_in v4 30 ∧ (q_Roads_firstPiece (σ 2 v4.toNatClampNeg) v2 σ (fun r2 => J 1 v1 v2 (v3 + 1) r2)))))))
def q_Roads_piecesOnWay_j (Q : (Int32 → Prop)) (σ : Sg) : Nat → Nat → Int32 → Int32 → Int32 → Int32 → Prop
  | 0, _, _, _, _, _ => False
  | n + 1, 0, v1, v2, v3, v4 => q_Roads_piecesOnWay_b0 (q_Roads_piecesOnWay_j Q σ n) Q v1 v2 v3 v4 σ
  | n + 1, 1, v1, v2, v3, v4 => q_Roads_piecesOnWay_b1 (q_Roads_piecesOnWay_j Q σ n) Q v1 v2 v3 v4 σ
  | _ + 1, _ + 2, _, _, _, _ => False
def q_Roads_piecesOnWay (v1 v2 : Int32) (σ : Sg) (Q : (Int32 → Prop)) : Prop := q_Roads_piecesOnWay_j Q σ 4000 0 v1 v2 0 0
def lc_Roads_piecesOnWay (ad : Nat → Nat) (b : Nat) (v1 v2 v3 v4 : Int32) : List (Nat × Value) := match b with
  | 0 => [(0, .ref (ad 0)), (1, .int v1), (2, .int v2)]
  | 1 => [(0, .ref (ad 0)), (1, .int v1), (2, .int v2), (3, .int v3), (4, .int v4)]
  | _ => []
def pc_Roads_piecesOnWay (b : Nat) : Nat := match b with
  | 0 => 0
  | 1 => 10
  | _ => 0
set_option maxHeartbeats 4000000 in
set_option maxRecDepth 100000 in
theorem t_Roads_piecesOnWay (l : Launch) (D : va_G) (cI cZ : ClassId) (ad : Nat → Nat) (v1 v2 : Int32) (σ : Sg) (Q : (Int32 → Prop)) (h : q_Roads_piecesOnWay v1 v2 σ Q) : Met l y_Roads_piecesOnWay (.code y_Roads_piecesOnWay prog_7_method_13_code 5 (some .int) :: TG) { frames := 2, cells := 0, slots := 0, locals := 46 } (va_Pc [.ref (ad 0), .int v1, .int v2] (roB D (tysA cI cZ) (W_Roads ad cI cZ σ))) (vp_Si Q) 0 0 (fun _ => False) := by
  refine Met.ofW (cc := prog_7_method_13_code) (maxL := 5) (ret := (some .int)) (by decide) rfl ?_
  intro p e s m args below meth c s₁ B hml hv
  obtain ⟨rfl, hP, hK⟩ := hv
  have hx := B.exec
  have hb := B.bytes
  have hr := B.returns
  have hts : ∀ w ∈ TG, w.before [.ref (ad 0), .int v1, .int v2].toArray s = true := fun w hw => atoms_spec (ws := .code y_Roads_piecesOnWay prog_7_method_13_code 5 (some .int) :: TG) B.pre w (List.mem_cons_of_mem _ hw)
  have hown : s.vm.findClass "CarrierPaths$Roads" = some m.cls := findClass_of_methodNamed B.named
  have hlocks := B.notSynchronized
  have hl := lv_entry ([.ref (ad 0), .int v1, .int v2]) (n := 5) (Nat.le_of_ble_eq_true rfl)
  rw [lg_entry_eq]
  generalize (lg_sl ([.ref (ad 0), .int v1, .int v2]) ++ List.replicate (5 - (lg_sl ([.ref (ad 0), .int v1, .int v2])).length) Slot.unset).toArray = ls at hl ⊢
  generalize ([.ref (ad 0), .int v1, .int v2] : List Value).toArray = args at hts ⊢
  have key : ∀ (n b : Nat) (v1 v2 v3 v4 : Int32), q_Roads_piecesOnWay_j Q σ n b v1 v2 v3 v4 → ∀ ls : Array Slot, lv_has ls 5 (lc_Roads_piecesOnWay ad b v1 v2 v3 v4) → W p l e (headSpec (.code y_Roads_piecesOnWay prog_7_method_13_code 5 (some .int) :: TG) { frames := 2, cells := 0, slots := 0, locals := 46 }).room s m args below meth c s.heap [] 0 0 (MQ below (vp_Si Q) args s 0 0 (fun _ => False)) (F0 m (pc_Roads_piecesOnWay b) ls []) := by
    clear h hl
    intro n
    induction n with
    | zero => intro b _ _ _ _ h; exact False.elim h
    | succ n ih =>
      intro b v1 v2 v3 v4 h ls hl
      match b, h, hl with
      | 0, h, hl =>
        have h : q_Roads_piecesOnWay_b0 (q_Roads_piecesOnWay_j Q σ n) Q v1 v2 v3 v4 σ := h
        have hl : lv_has ls 5 [(0, .ref (ad 0)), (1, .int v1), (2, .int v2)] := hl
        refine W.eq (g2 := F0 m 0 ls []) rfl ?_
        unfold q_Roads_piecesOnWay_b0 at h
        refine lv_iconst (v := 0) hx hb d_Roads_piecesOnWay_0 (by decide) ?_
        refine lv_istore_n (lv' := [(3, .int 0), (0, .ref (ad 0)), (1, .int v1), (2, .int v2)]) hx hb d_Roads_piecesOnWay_1 rfl hl (by decide) rfl (fun ls hl => ?_)
        refine lv_aload_n hx hb d_Roads_piecesOnWay_2 rfl (lv_at hl 1 rfl) ?_
        refine lv_iload_n hx hb d_Roads_piecesOnWay_3 rfl (lv_at hl 2 rfl) ?_
        refine lv_iload_n hx hb d_Roads_piecesOnWay_4 rfl (lv_at hl 3 rfl) ?_
        refine vp_callSi (W.runV (As := [.int v1, .int v2]) (rest := []) ⟨hx, hb, hml, hown, hts⟩ (t_Roads_firstPiece l D cI cZ ad v1 v2 σ _ h) (cwV 2 hts (g_of kw700 kw605 kw606 kw4 kw607) rfl rfl rfl (by decide +kernel) ⟨Nat.le_of_ble_eq_true rfl, Nat.le_of_ble_eq_true rfl⟩) (ro_pre hK hP (va_recv hK hP (ci := 5) (q0 := 0) rfl rfl)) rfl rfl hl.1 rfl (lv_room (Nat.le_of_ble_eq_true rfl)) d_Roads_piecesOnWay_5 ⟨Nat.le_of_ble_eq_true rfl, Nat.le_of_ble_eq_true rfl⟩) (fun r1 h => ?_)
        refine lv_istore (lv' := [(4, .int r1), (3, .int 0), (0, .ref (ad 0)), (1, .int v1), (2, .int v2)]) hx hb d_Roads_piecesOnWay_8 hl (by decide) rfl (fun ls hl => ?_)
        exact ih 1 v1 v2 0 r1 h _ (lv_sub hl [2, 3, 4, 1, 0] rfl)
      | 1, h, hl =>
        have h : q_Roads_piecesOnWay_b1 (q_Roads_piecesOnWay_j Q σ n) Q v1 v2 v3 v4 σ := h
        have hl : lv_has ls 5 [(0, .ref (ad 0)), (1, .int v1), (2, .int v2), (3, .int v3), (4, .int v4)] := hl
        refine W.eq (g2 := F0 m 10 ls []) rfl ?_
        unfold q_Roads_piecesOnWay_b1 at h
        refine lv_iload hx hb d_Roads_piecesOnWay_10 (lv_at hl 4 rfl) ?_
        refine lv_iconst (v := (-1)) hx hb d_Roads_piecesOnWay_12 (by decide) ?_
        refine lv_icmp_eq (tgt := 44) hx hb d_Roads_piecesOnWay_13 (by decide) (fun hc => ?_) (fun hc => ?_)
        · have h := h.1 hc
          refine lv_iload_n hx hb d_Roads_piecesOnWay_44 rfl (lv_at hl 3 rfl) ?_
          exact W.iret (v := v3) hx hb hr (fun t ht hW => ⟨v3, rfl, h, ht⟩) (fun q hq => by cases hq) d_Roads_piecesOnWay_45
        · have h := h.2 hc
          refine lv_iload_n hx hb d_Roads_piecesOnWay_16 rfl (lv_at hl 3 rfl) ?_
          refine lv_aload_n hx hb d_Roads_piecesOnWay_17 rfl (lv_at hl 0 rfl) ?_
          refine va_get (D := D) (ci := 5) (v := .int (σ 0 0)) (C := "CarrierPaths$Roads") (T := F_Roads) (N := 7) hx hb hts in_Roads hown hK hP 0 rfl rfl 0 (by decide) (hts _ kw59) (fun _ h9 => h9) rfl d_Roads_piecesOnWay_18 ?_
          refine lv_icmp_ge (tgt := 44) hx hb d_Roads_piecesOnWay_21 (by decide) (fun hc => ?_) (fun hc => ?_)
          · have h := h.1 hc
            refine lv_iload_n hx hb d_Roads_piecesOnWay_44 rfl (lv_at hl 3 rfl) ?_
            exact W.iret (v := v3) hx hb hr (fun t ht hW => ⟨v3, rfl, h, ht⟩) (fun q hq => by cases hq) d_Roads_piecesOnWay_45
          · have h := h.2 hc
            refine lv_iinc (v := (v3 + 1)) (lv' := [(3, .int (v3 + 1)), (0, .ref (ad 0)), (1, .int v1), (2, .int v2), (4, .int v4)]) hx hb d_Roads_piecesOnWay_24 hl (k := 3) rfl rfl (by decide) rfl (fun ls hl => ?_)
            refine lv_aload_n hx hb d_Roads_piecesOnWay_27 rfl (lv_at hl 1 rfl) ?_
            refine lv_aload_n hx hb d_Roads_piecesOnWay_28 rfl (lv_at hl 1 rfl) ?_
            refine va_get (D := D) (ci := 5) (v := .ref (ad 2)) (C := "CarrierPaths$Roads") (T := F_Roads) (N := 7) hx hb hts in_Roads hown hK hP 0 rfl rfl 2 (by decide) (hts _ kw61) (fun _ h9 => h9) rfl d_Roads_piecesOnWay_29 ?_
            refine lv_iload hx hb d_Roads_piecesOnWay_32 (lv_at hl 4 rfl) ?_
            obtain ⟨hi, h⟩ := h
            refine va_iald hx hb hK hP 2 0 rfl rfl hi d_Roads_piecesOnWay_34 ?_
            refine lv_iload_n hx hb d_Roads_piecesOnWay_35 rfl (lv_at hl 3 rfl) ?_
            refine vp_callSi (W.runV (As := [.int (σ 2 v4.toNatClampNeg), .int v2]) (rest := []) ⟨hx, hb, hml, hown, hts⟩ (t_Roads_firstPiece l D cI cZ ad (σ 2 v4.toNatClampNeg) v2 σ _ h) (cwV 2 hts (g_of kw700 kw605 kw606 kw4 kw607) rfl rfl rfl (by decide +kernel) ⟨Nat.le_of_ble_eq_true rfl, Nat.le_of_ble_eq_true rfl⟩) (ro_pre hK hP (va_recv hK hP (ci := 5) (q0 := 0) rfl rfl)) rfl rfl hl.1 rfl (lv_room (Nat.le_of_ble_eq_true rfl)) d_Roads_piecesOnWay_36 ⟨Nat.le_of_ble_eq_true rfl, Nat.le_of_ble_eq_true rfl⟩) (fun r2 h => ?_)
            refine lv_istore (lv' := [(4, .int r2), (3, .int (v3 + 1)), (0, .ref (ad 0)), (1, .int v1), (2, .int v2)]) hx hb d_Roads_piecesOnWay_39 hl (by decide) rfl (fun ls hl => ?_)
            refine lv_goto (tgt := 10) hx hb d_Roads_piecesOnWay_41 (by decide) ?_
            exact ih 1 v1 v2 (v3 + 1) r2 h _ (lv_sub hl [2, 3, 4, 1, 0] rfl)
      | _ + 2, h, _ => exact False.elim h
  exact key 4000 0 v1 v2 0 0 h ls hl
def q_Roads_forgetTimes_b0 (J : Nat → Int32 → Int32 → Sg → Prop) (Q : (Sg → Prop)) (v1 v2 : Int32) (σ : Sg) : Prop :=
  J 1 0 0 σ
def q_Roads_forgetTimes_b1 (J : Nat → Int32 → Int32 → Sg → Prop) (Q : (Sg → Prop)) (v1 v2 : Int32) (σ : Sg) : Prop :=
  ((10 ≤ v1 → Q σ) ∧ (¬ 10 ≤ v1 → J 2 v1 0 σ))
def q_Roads_forgetTimes_b2 (J : Nat → Int32 → Int32 → Sg → Prop) (Q : (Sg → Prop)) (v1 v2 : Int32) (σ : Sg) : Prop :=
  ((10 ≤ v2 → J 1 (v1 + 1) 0 σ) ∧ (¬ 10 ≤ v2 → ((v1 = v2 → (vp_in ((v1 * 10) + v2) 100 ∧ J 2 v1 (v2 + 1) (sto σ 5 ((v1 * 10) + v2).toNatClampNeg 0))) ∧ (¬ v1 = v2 → (vp_in ((v1 * 10) + v2) 100 ∧ J 2 v1 (v2 + 1) (sto σ 5 ((v1 * 10) + v2).toNatClampNeg 1000000))))))
def q_Roads_forgetTimes_j (Q : (Sg → Prop)) : Nat → Nat → Int32 → Int32 → Sg → Prop
  | 0, _, _, _, _ => False
  | n + 1, 0, v1, v2, σ => q_Roads_forgetTimes_b0 (q_Roads_forgetTimes_j Q n) Q v1 v2 σ
  | n + 1, 1, v1, v2, σ => q_Roads_forgetTimes_b1 (q_Roads_forgetTimes_j Q n) Q v1 v2 σ
  | n + 1, 2, v1, v2, σ => q_Roads_forgetTimes_b2 (q_Roads_forgetTimes_j Q n) Q v1 v2 σ
  | _ + 1, _ + 3, _, _, _ => False
def q_Roads_forgetTimes (σ : Sg) (Q : (Sg → Prop)) : Prop := q_Roads_forgetTimes_j Q 4000 0 0 0 σ
def lc_Roads_forgetTimes (ad : Nat → Nat) (b : Nat) (v1 v2 : Int32) : List (Nat × Value) := match b with
  | 0 => [(0, .ref (ad 0))]
  | 1 => [(0, .ref (ad 0)), (1, .int v1)]
  | 2 => [(0, .ref (ad 0)), (1, .int v1), (2, .int v2)]
  | _ => []
def pc_Roads_forgetTimes (b : Nat) : Nat := match b with
  | 0 => 0
  | 1 => 2
  | 2 => 10
  | _ => 0
set_option maxHeartbeats 4000000 in
set_option maxRecDepth 100000 in
theorem t_Roads_forgetTimes (l : Launch) (D : va_G) (cI cZ : ClassId) (ad : Nat → Nat) (inj : Inj ad 6) (σ : Sg) (Q : (Sg → Prop)) (h : q_Roads_forgetTimes σ Q) : Met l y_Roads_forgetTimes (.code y_Roads_forgetTimes prog_7_method_15_code 3 none :: TG) { frames := 0, cells := 0, slots := 0, locals := 0 } (va_Pc [.ref (ad 0)] (roB D (tysA cI cZ) (W_Roads ad cI cZ σ))) (va_Qv Q (fun u t => va_P D classes (W_Roads ad cI cZ u) t.heap) (inA ad 6)) 0 0 (inA ad 6) := by
  refine Met.ofW (cc := prog_7_method_15_code) (maxL := 3) (ret := none) (by decide) rfl ?_
  intro p e s m args below meth c s₁ B hml hv
  obtain ⟨rfl, hP, hK⟩ := hv
  have hx := B.exec
  have hb := B.bytes
  have hr := B.returns
  have hts : ∀ w ∈ TG, w.before [.ref (ad 0)].toArray s = true := fun w hw => atoms_spec (ws := .code y_Roads_forgetTimes prog_7_method_15_code 3 none :: TG) B.pre w (List.mem_cons_of_mem _ hw)
  have hown : s.vm.findClass "CarrierPaths$Roads" = some m.cls := findClass_of_methodNamed B.named
  have hlocks := B.notSynchronized
  have hS : va_S (inA ad 6) s.heap s.heap [] := va_S.rf
  have hl := lv_entry ([.ref (ad 0)]) (n := 3) (Nat.le_of_ble_eq_true rfl)
  rw [lg_entry_eq]
  generalize (lg_sl ([.ref (ad 0)]) ++ List.replicate (3 - (lg_sl ([.ref (ad 0)])).length) Slot.unset).toArray = ls at hl ⊢
  generalize ([.ref (ad 0)] : List Value).toArray = args at hts ⊢
  have key : ∀ (n b : Nat) (v1 v2 : Int32) (σ : Sg), q_Roads_forgetTimes_j Q n b v1 v2 σ → ∀ (H : Heap) (locs : List Loc) (ls : Array Slot), va_P D classes (W_Roads ad cI cZ σ) H → va_S (inA ad 6) s.heap H locs → lv_has ls 3 (lc_Roads_forgetTimes ad b v1 v2) → W p l e (headSpec (.code y_Roads_forgetTimes prog_7_method_15_code 3 none :: TG) { frames := 0, cells := 0, slots := 0, locals := 0 }).room s m args below meth c H locs 0 0 (MQ below (va_Qv Q (fun u t => va_P D classes (W_Roads ad cI cZ u) t.heap) (inA ad 6)) args s 0 0 (inA ad 6)) (F0 m (pc_Roads_forgetTimes b) ls []) := by
    clear h hl hP hS
    intro n
    induction n with
    | zero => intro b _ _ _ h; exact False.elim h
    | succ n ih =>
      intro b v1 v2 σ h H locs ls hP hS hl
      match b, h, hl with
      | 0, h, hl =>
        have h : q_Roads_forgetTimes_b0 (q_Roads_forgetTimes_j Q n) Q v1 v2 σ := h
        have hl : lv_has ls 3 [(0, .ref (ad 0))] := hl
        refine W.eq (g2 := F0 m 0 ls []) rfl ?_
        unfold q_Roads_forgetTimes_b0 at h
        refine lv_iconst (v := 0) hx hb d_Roads_forgetTimes_0 (by decide) ?_
        refine lv_istore_n (lv' := [(1, .int 0), (0, .ref (ad 0))]) hx hb d_Roads_forgetTimes_1 rfl hl (by decide) rfl (fun ls hl => ?_)
        exact ih 1 0 0 σ h _ _ _ hP hS (lv_sub hl [1, 0] rfl)
      | 1, h, hl =>
        have h : q_Roads_forgetTimes_b1 (q_Roads_forgetTimes_j Q n) Q v1 v2 σ := h
        have hl : lv_has ls 3 [(0, .ref (ad 0)), (1, .int v1)] := hl
        refine W.eq (g2 := F0 m 2 ls []) rfl ?_
        unfold q_Roads_forgetTimes_b1 at h
        refine lv_iload_n hx hb d_Roads_forgetTimes_2 rfl (lv_at hl 1 rfl) ?_
        refine lv_bipush (v := 10) hx hb d_Roads_forgetTimes_3 (by decide) ?_
        refine lv_icmp_ge (tgt := 50) hx hb d_Roads_forgetTimes_5 (by decide) (fun hc => ?_) (fun hc => ?_)
        · have h := h.1 hc
          exact W.vret hx hb hr (fun t ht hW => ⟨⟨σ, rfl, h, hp_back ht hP⟩, hS.F ht⟩) hS.2.2 d_Roads_forgetTimes_50
        · have h := h.2 hc
          refine lv_iconst (v := 0) hx hb d_Roads_forgetTimes_8 (by decide) ?_
          refine lv_istore_n (lv' := [(2, .int 0), (0, .ref (ad 0)), (1, .int v1)]) hx hb d_Roads_forgetTimes_9 rfl hl (by decide) rfl (fun ls hl => ?_)
          exact ih 2 v1 0 σ h _ _ _ hP hS (lv_sub hl [1, 2, 0] rfl)
      | 2, h, hl =>
        have h : q_Roads_forgetTimes_b2 (q_Roads_forgetTimes_j Q n) Q v1 v2 σ := h
        have hl : lv_has ls 3 [(0, .ref (ad 0)), (1, .int v1), (2, .int v2)] := hl
        refine W.eq (g2 := F0 m 10 ls []) rfl ?_
        unfold q_Roads_forgetTimes_b2 at h
        refine lv_iload_n hx hb d_Roads_forgetTimes_10 rfl (lv_at hl 2 rfl) ?_
        refine lv_bipush (v := 10) hx hb d_Roads_forgetTimes_11 (by decide) ?_
        refine lv_icmp_ge (tgt := 44) hx hb d_Roads_forgetTimes_13 (by decide) (fun hc => ?_) (fun hc => ?_)
        · have h := h.1 hc
          refine lv_iinc (v := (v1 + 1)) (lv' := [(1, .int (v1 + 1)), (0, .ref (ad 0)), (2, .int v2)]) hx hb d_Roads_forgetTimes_44 hl (k := 1) rfl rfl (by decide) rfl (fun ls hl => ?_)
          refine lv_goto (tgt := 2) hx hb d_Roads_forgetTimes_47 (by decide) ?_
          exact ih 1 (v1 + 1) 0 σ h _ _ _ hP hS (lv_sub hl [1, 0] rfl)
        · have h := h.2 hc
          refine lv_aload_n hx hb d_Roads_forgetTimes_16 rfl (lv_at hl 0 rfl) ?_
          refine va_get (D := D) (ci := 5) (v := .ref (ad 5)) (C := "CarrierPaths$Roads") (T := F_Roads) (N := 7) hx hb hts in_Roads hown hK hP 0 rfl rfl 5 (by decide) (hts _ kw64) (fun _ h9 => h9) rfl d_Roads_forgetTimes_17 ?_
          refine lv_iload_n hx hb d_Roads_forgetTimes_20 rfl (lv_at hl 1 rfl) ?_
          refine lv_bipush (v := 10) hx hb d_Roads_forgetTimes_21 (by decide) ?_
          refine lv_imul hx hb d_Roads_forgetTimes_23 ?_
          refine lv_iload_n hx hb d_Roads_forgetTimes_24 rfl (lv_at hl 2 rfl) ?_
          refine lv_iadd hx hb d_Roads_forgetTimes_25 ?_
          refine lv_iload_n hx hb d_Roads_forgetTimes_26 rfl (lv_at hl 1 rfl) ?_
          refine lv_iload_n hx hb d_Roads_forgetTimes_27 rfl (lv_at hl 2 rfl) ?_
          refine lv_icmp_ne (tgt := 35) hx hb d_Roads_forgetTimes_28 (by decide) (fun hc => ?_) (fun hc => ?_)
          · have h := h.2 hc
            refine lv_ldc (v := 1000000) hx hb hown (hts _ kw58) d_Roads_forgetTimes_35 ?_
            obtain ⟨hi, h⟩ := h
            refine va_iast hx hb hK hP (D_Roads inj) hS 5 0 rfl rfl hi d_Roads_forgetTimes_37 (fun H locs hP _ hS => ?_)
            have hP : va_P D classes (W_Roads ad cI cZ (sto σ 5 ((v1 * 10) + v2).toNatClampNeg 1000000)) H := hP
            refine lv_iinc (v := (v2 + 1)) (lv' := [(2, .int (v2 + 1)), (0, .ref (ad 0)), (1, .int v1)]) hx hb d_Roads_forgetTimes_38 hl (k := 2) rfl rfl (by decide) rfl (fun ls hl => ?_)
            refine lv_goto (tgt := 10) hx hb d_Roads_forgetTimes_41 (by decide) ?_
            exact ih 2 v1 (v2 + 1) (sto σ 5 ((v1 * 10) + v2).toNatClampNeg 1000000) h _ _ _ hP hS (lv_sub hl [1, 2, 0] rfl)
          · have h := h.1 hc
            refine lv_iconst (v := 0) hx hb d_Roads_forgetTimes_31 (by decide) ?_
            refine lv_goto (tgt := 37) hx hb d_Roads_forgetTimes_32 (by decide) ?_
            obtain ⟨hi, h⟩ := h
            refine va_iast hx hb hK hP (D_Roads inj) hS 5 0 rfl rfl hi d_Roads_forgetTimes_37 (fun H locs hP _ hS => ?_)
            have hP : va_P D classes (W_Roads ad cI cZ (sto σ 5 ((v1 * 10) + v2).toNatClampNeg 0)) H := hP
            refine lv_iinc (v := (v2 + 1)) (lv' := [(2, .int (v2 + 1)), (0, .ref (ad 0)), (1, .int v1)]) hx hb d_Roads_forgetTimes_38 hl (k := 2) rfl rfl (by decide) rfl (fun ls hl => ?_)
            refine lv_goto (tgt := 10) hx hb d_Roads_forgetTimes_41 (by decide) ?_
            exact ih 2 v1 (v2 + 1) (sto σ 5 ((v1 * 10) + v2).toNatClampNeg 0) h _ _ _ hP hS (lv_sub hl [1, 2, 0] rfl)
      | _ + 3, h, _ => exact False.elim h
  exact key 4000 0 0 0 σ h s.heap [] ls hP hS hl
def q_Roads_shortenBy_b0 (J : Nat → Int32 → Int32 → Int32 → Int32 → Sg → Prop) (Q : (Sg → Prop)) (v1 v2 v3 v4 : Int32) (σ : Sg) : Prop :=
  J 1 v1 0 0 0 σ
def q_Roads_shortenBy_b1 (J : Nat → Int32 → Int32 → Int32 → Int32 → Sg → Prop) (Q : (Sg → Prop)) (v1 v2 v3 v4 : Int32) (σ : Sg) : Prop :=
  (((σ 0 0) ≤ v2 → Q σ) ∧ (¬ (σ 0 0) ≤ v2 → (vp_in v1 30 ∧ (q_Roads_leastTime v2 (σ 1 v1.toNatClampNeg) σ (fun r1 => (vp_in v1 30 ∧ J 2 v1 v2 (r1 + (σ 3 v1.toNatClampNeg)) 0 σ))))))
def q_Roads_shortenBy_b2 (J : Nat → Int32 → Int32 → Int32 → Int32 → Sg → Prop) (Q : (Sg → Prop)) (v1 v2 v3 v4 : Int32) (σ : Sg) : Prop :=
  (((σ 0 0) ≤ v4 → J 1 v1 (v2 + 1) 0 0 σ) ∧ (¬ (σ 0 0) ≤ v4 → (q_Roads_leastTime v2 v4 σ (fun r2 => (vp_in v1 30 ∧ (q_Roads_leastTime (σ 2 v1.toNatClampNeg) v4 σ (fun r3 => (vp_in ((v2 * 10) + v4) 100 ∧ J 2 v1 v2 v3 (v4 + 1) (sto σ 5 ((v2 * 10) + v4).toNatClampNeg (if (v3 + r3) < r2 then (v3 + r3) else r2))))))))))
def q_Roads_shortenBy_j (Q : (Sg → Prop)) : Nat → Nat → Int32 → Int32 → Int32 → Int32 → Sg → Prop
  | 0, _, _, _, _, _, _ => False
  | n + 1, 0, v1, v2, v3, v4, σ => q_Roads_shortenBy_b0 (q_Roads_shortenBy_j Q n) Q v1 v2 v3 v4 σ
  | n + 1, 1, v1, v2, v3, v4, σ => q_Roads_shortenBy_b1 (q_Roads_shortenBy_j Q n) Q v1 v2 v3 v4 σ
  | n + 1, 2, v1, v2, v3, v4, σ => q_Roads_shortenBy_b2 (q_Roads_shortenBy_j Q n) Q v1 v2 v3 v4 σ
  | _ + 1, _ + 3, _, _, _, _, _ => False
def q_Roads_shortenBy (v1 : Int32) (σ : Sg) (Q : (Sg → Prop)) : Prop := q_Roads_shortenBy_j Q 4000 0 v1 0 0 0 σ
def lc_Roads_shortenBy (ad : Nat → Nat) (b : Nat) (v1 v2 v3 v4 : Int32) : List (Nat × Value) := match b with
  | 0 => [(0, .ref (ad 0)), (1, .int v1)]
  | 1 => [(0, .ref (ad 0)), (1, .int v1), (2, .int v2)]
  | 2 => [(0, .ref (ad 0)), (1, .int v1), (2, .int v2), (3, .int v3), (4, .int v4)]
  | _ => []
def pc_Roads_shortenBy (b : Nat) : Nat := match b with
  | 0 => 0
  | 1 => 2
  | 2 => 32
  | _ => 0
set_option maxHeartbeats 4000000 in
set_option maxRecDepth 100000 in
theorem t_Roads_shortenBy (l : Launch) (D : va_G) (cI cZ : ClassId) (ad : Nat → Nat) (inj : Inj ad 6) (v1 : Int32) (σ : Sg) (Q : (Sg → Prop)) (h : q_Roads_shortenBy v1 σ Q) : Met l y_Roads_shortenBy (.code y_Roads_shortenBy prog_7_method_16_code 5 none :: TG) { frames := 1, cells := 0, slots := 0, locals := 22 } (va_Pc [.ref (ad 0), .int v1] (roB D (tysA cI cZ) (W_Roads ad cI cZ σ))) (va_Qv Q (fun u t => va_P D classes (W_Roads ad cI cZ u) t.heap) (inA ad 6)) 0 0 (inA ad 6) := by
  refine Met.ofW (cc := prog_7_method_16_code) (maxL := 5) (ret := none) (by decide) rfl ?_
  intro p e s m args below meth c s₁ B hml hv
  obtain ⟨rfl, hP, hK⟩ := hv
  have hx := B.exec
  have hb := B.bytes
  have hr := B.returns
  have hts : ∀ w ∈ TG, w.before [.ref (ad 0), .int v1].toArray s = true := fun w hw => atoms_spec (ws := .code y_Roads_shortenBy prog_7_method_16_code 5 none :: TG) B.pre w (List.mem_cons_of_mem _ hw)
  have hown : s.vm.findClass "CarrierPaths$Roads" = some m.cls := findClass_of_methodNamed B.named
  have hlocks := B.notSynchronized
  have hS : va_S (inA ad 6) s.heap s.heap [] := va_S.rf
  have hl := lv_entry ([.ref (ad 0), .int v1]) (n := 5) (Nat.le_of_ble_eq_true rfl)
  rw [lg_entry_eq]
  generalize (lg_sl ([.ref (ad 0), .int v1]) ++ List.replicate (5 - (lg_sl ([.ref (ad 0), .int v1])).length) Slot.unset).toArray = ls at hl ⊢
  generalize ([.ref (ad 0), .int v1] : List Value).toArray = args at hts ⊢
  have key : ∀ (n b : Nat) (v1 v2 v3 v4 : Int32) (σ : Sg), q_Roads_shortenBy_j Q n b v1 v2 v3 v4 σ → ∀ (H : Heap) (locs : List Loc) (ls : Array Slot), va_P D classes (W_Roads ad cI cZ σ) H → va_S (inA ad 6) s.heap H locs → lv_has ls 5 (lc_Roads_shortenBy ad b v1 v2 v3 v4) → W p l e (headSpec (.code y_Roads_shortenBy prog_7_method_16_code 5 none :: TG) { frames := 1, cells := 0, slots := 0, locals := 22 }).room s m args below meth c H locs 0 0 (MQ below (va_Qv Q (fun u t => va_P D classes (W_Roads ad cI cZ u) t.heap) (inA ad 6)) args s 0 0 (inA ad 6)) (F0 m (pc_Roads_shortenBy b) ls []) := by
    clear h hl hP hS
    intro n
    induction n with
    | zero => intro b _ _ _ _ _ h; exact False.elim h
    | succ n ih =>
      intro b v1 v2 v3 v4 σ h H locs ls hP hS hl
      match b, h, hl with
      | 0, h, hl =>
        have h : q_Roads_shortenBy_b0 (q_Roads_shortenBy_j Q n) Q v1 v2 v3 v4 σ := h
        have hl : lv_has ls 5 [(0, .ref (ad 0)), (1, .int v1)] := hl
        refine W.eq (g2 := F0 m 0 ls []) rfl ?_
        unfold q_Roads_shortenBy_b0 at h
        refine lv_iconst (v := 0) hx hb d_Roads_shortenBy_0 (by decide) ?_
        refine lv_istore_n (lv' := [(2, .int 0), (0, .ref (ad 0)), (1, .int v1)]) hx hb d_Roads_shortenBy_1 rfl hl (by decide) rfl (fun ls hl => ?_)
        exact ih 1 v1 0 0 0 σ h _ _ _ hP hS (lv_sub hl [1, 2, 0] rfl)
      | 1, h, hl =>
        have h : q_Roads_shortenBy_b1 (q_Roads_shortenBy_j Q n) Q v1 v2 v3 v4 σ := h
        have hl : lv_has ls 5 [(0, .ref (ad 0)), (1, .int v1), (2, .int v2)] := hl
        refine W.eq (g2 := F0 m 2 ls []) rfl ?_
        unfold q_Roads_shortenBy_b1 at h
        refine lv_iload_n hx hb d_Roads_shortenBy_2 rfl (lv_at hl 2 rfl) ?_
        refine lv_aload_n hx hb d_Roads_shortenBy_3 rfl (lv_at hl 0 rfl) ?_
        refine va_get (D := D) (ci := 5) (v := .int (σ 0 0)) (C := "CarrierPaths$Roads") (T := F_Roads) (N := 7) hx hb hts in_Roads hown hK hP 0 rfl rfl 0 (by decide) (hts _ kw59) (fun _ h9 => h9) rfl d_Roads_shortenBy_4 ?_
        refine lv_icmp_ge (tgt := 89) hx hb d_Roads_shortenBy_7 (by decide) (fun hc => ?_) (fun hc => ?_)
        · have h := h.1 hc
          exact W.vret hx hb hr (fun t ht hW => ⟨⟨σ, rfl, h, hp_back ht hP⟩, hS.F ht⟩) hS.2.2 d_Roads_shortenBy_89
        · have h := h.2 hc
          refine lv_aload_n hx hb d_Roads_shortenBy_10 rfl (lv_at hl 0 rfl) ?_
          refine lv_iload_n hx hb d_Roads_shortenBy_11 rfl (lv_at hl 2 rfl) ?_
          refine lv_aload_n hx hb d_Roads_shortenBy_12 rfl (lv_at hl 0 rfl) ?_
          refine va_get (D := D) (ci := 5) (v := .ref (ad 1)) (C := "CarrierPaths$Roads") (T := F_Roads) (N := 7) hx hb hts in_Roads hown hK hP 0 rfl rfl 1 (by decide) (hts _ kw60) (fun _ h9 => h9) rfl d_Roads_shortenBy_13 ?_
          refine lv_iload_n hx hb d_Roads_shortenBy_16 rfl (lv_at hl 1 rfl) ?_
          obtain ⟨hi, h⟩ := h
          refine va_iald hx hb hK hP 1 0 rfl rfl hi d_Roads_shortenBy_17 ?_
          refine vp_callSi (W.runV (As := [.int v2, .int (σ 1 v1.toNatClampNeg)]) (rest := []) ⟨hx, hb, hml, hown, hts⟩ (t_Roads_leastTime l D cI cZ ad v2 (σ 1 v1.toNatClampNeg) σ _ h) (cwV 2 hts (g_of kw348 kw255 kw256 kw4 kw257) rfl rfl rfl (by decide +kernel) ⟨Nat.le_of_ble_eq_true rfl, Nat.le_of_ble_eq_true rfl⟩) (ro_pre hK hP (va_recv hK hP (ci := 5) (q0 := 0) rfl rfl)) rfl rfl hl.1 rfl (lv_room (Nat.le_of_ble_eq_true rfl)) d_Roads_shortenBy_18 ⟨Nat.le_of_ble_eq_true rfl, Nat.le_of_ble_eq_true rfl⟩) (fun r1 h => ?_)
          refine lv_aload_n hx hb d_Roads_shortenBy_21 rfl (lv_at hl 0 rfl) ?_
          refine va_get (D := D) (ci := 5) (v := .ref (ad 3)) (C := "CarrierPaths$Roads") (T := F_Roads) (N := 7) hx hb hts in_Roads hown hK hP 0 rfl rfl 3 (by decide) (hts _ kw62) (fun _ h9 => h9) rfl d_Roads_shortenBy_22 ?_
          refine lv_iload_n hx hb d_Roads_shortenBy_25 rfl (lv_at hl 1 rfl) ?_
          obtain ⟨hi, h⟩ := h
          refine va_iald hx hb hK hP 3 0 rfl rfl hi d_Roads_shortenBy_26 ?_
          refine lv_iadd hx hb d_Roads_shortenBy_27 ?_
          refine lv_istore_n (lv' := [(3, .int (r1 + (σ 3 v1.toNatClampNeg))), (0, .ref (ad 0)), (1, .int v1), (2, .int v2)]) hx hb d_Roads_shortenBy_28 rfl hl (by decide) rfl (fun ls hl => ?_)
          refine lv_iconst (v := 0) hx hb d_Roads_shortenBy_29 (by decide) ?_
          refine lv_istore (lv' := [(4, .int 0), (3, .int (r1 + (σ 3 v1.toNatClampNeg))), (0, .ref (ad 0)), (1, .int v1), (2, .int v2)]) hx hb d_Roads_shortenBy_30 hl (by decide) rfl (fun ls hl => ?_)
          exact ih 2 v1 v2 (r1 + (σ 3 v1.toNatClampNeg)) 0 σ h _ _ _ hP hS (lv_sub hl [2, 3, 4, 1, 0] rfl)
      | 2, h, hl =>
        have h : q_Roads_shortenBy_b2 (q_Roads_shortenBy_j Q n) Q v1 v2 v3 v4 σ := h
        have hl : lv_has ls 5 [(0, .ref (ad 0)), (1, .int v1), (2, .int v2), (3, .int v3), (4, .int v4)] := hl
        refine W.eq (g2 := F0 m 32 ls []) rfl ?_
        unfold q_Roads_shortenBy_b2 at h
        refine lv_iload hx hb d_Roads_shortenBy_32 (lv_at hl 4 rfl) ?_
        refine lv_aload_n hx hb d_Roads_shortenBy_34 rfl (lv_at hl 0 rfl) ?_
        refine va_get (D := D) (ci := 5) (v := .int (σ 0 0)) (C := "CarrierPaths$Roads") (T := F_Roads) (N := 7) hx hb hts in_Roads hown hK hP 0 rfl rfl 0 (by decide) (hts _ kw59) (fun _ h9 => h9) rfl d_Roads_shortenBy_35 ?_
        refine lv_icmp_ge (tgt := 83) hx hb d_Roads_shortenBy_38 (by decide) (fun hc => ?_) (fun hc => ?_)
        · have h := h.1 hc
          refine lv_iinc (v := (v2 + 1)) (lv' := [(2, .int (v2 + 1)), (0, .ref (ad 0)), (1, .int v1), (3, .int v3), (4, .int v4)]) hx hb d_Roads_shortenBy_83 hl (k := 2) rfl rfl (by decide) rfl (fun ls hl => ?_)
          refine lv_goto (tgt := 2) hx hb d_Roads_shortenBy_86 (by decide) ?_
          exact ih 1 v1 (v2 + 1) 0 0 σ h _ _ _ hP hS (lv_sub hl [1, 2, 0] rfl)
        · have h := h.2 hc
          refine lv_aload_n hx hb d_Roads_shortenBy_41 rfl (lv_at hl 0 rfl) ?_
          refine va_get (D := D) (ci := 5) (v := .ref (ad 5)) (C := "CarrierPaths$Roads") (T := F_Roads) (N := 7) hx hb hts in_Roads hown hK hP 0 rfl rfl 5 (by decide) (hts _ kw64) (fun _ h9 => h9) rfl d_Roads_shortenBy_42 ?_
          refine lv_iload_n hx hb d_Roads_shortenBy_45 rfl (lv_at hl 2 rfl) ?_
          refine lv_bipush (v := 10) hx hb d_Roads_shortenBy_46 (by decide) ?_
          refine lv_imul hx hb d_Roads_shortenBy_48 ?_
          refine lv_iload hx hb d_Roads_shortenBy_49 (lv_at hl 4 rfl) ?_
          refine lv_iadd hx hb d_Roads_shortenBy_51 ?_
          refine lv_aload_n hx hb d_Roads_shortenBy_52 rfl (lv_at hl 0 rfl) ?_
          refine lv_iload_n hx hb d_Roads_shortenBy_53 rfl (lv_at hl 2 rfl) ?_
          refine lv_iload hx hb d_Roads_shortenBy_54 (lv_at hl 4 rfl) ?_
          refine vp_callSi (W.runV (As := [.int v2, .int v4]) (rest := [.int ((v2 * 10) + v4), .ref (ad 5)]) ⟨hx, hb, hml, hown, hts⟩ (t_Roads_leastTime l D cI cZ ad v2 v4 σ _ h) (cwV 2 hts (g_of kw348 kw255 kw256 kw4 kw257) rfl rfl rfl (by decide +kernel) ⟨Nat.le_of_ble_eq_true rfl, Nat.le_of_ble_eq_true rfl⟩) (ro_pre hK hP (va_recv hK hP (ci := 5) (q0 := 0) rfl rfl)) rfl rfl hl.1 rfl (lv_room (Nat.le_of_ble_eq_true rfl)) d_Roads_shortenBy_56 ⟨Nat.le_of_ble_eq_true rfl, Nat.le_of_ble_eq_true rfl⟩) (fun r2 h => ?_)
          refine lv_iload_n hx hb d_Roads_shortenBy_59 rfl (lv_at hl 3 rfl) ?_
          refine lv_aload_n hx hb d_Roads_shortenBy_60 rfl (lv_at hl 0 rfl) ?_
          refine lv_aload_n hx hb d_Roads_shortenBy_61 rfl (lv_at hl 0 rfl) ?_
          refine va_get (D := D) (ci := 5) (v := .ref (ad 2)) (C := "CarrierPaths$Roads") (T := F_Roads) (N := 7) hx hb hts in_Roads hown hK hP 0 rfl rfl 2 (by decide) (hts _ kw61) (fun _ h9 => h9) rfl d_Roads_shortenBy_62 ?_
          refine lv_iload_n hx hb d_Roads_shortenBy_65 rfl (lv_at hl 1 rfl) ?_
          obtain ⟨hi, h⟩ := h
          refine va_iald hx hb hK hP 2 0 rfl rfl hi d_Roads_shortenBy_66 ?_
          refine lv_iload hx hb d_Roads_shortenBy_67 (lv_at hl 4 rfl) ?_
          refine vp_callSi (W.runV (As := [.int (σ 2 v1.toNatClampNeg), .int v4]) (rest := [.int v3, .int r2, .int ((v2 * 10) + v4), .ref (ad 5)]) ⟨hx, hb, hml, hown, hts⟩ (t_Roads_leastTime l D cI cZ ad (σ 2 v1.toNatClampNeg) v4 σ _ h) (cwV 2 hts (g_of kw348 kw255 kw256 kw4 kw257) rfl rfl rfl (by decide +kernel) ⟨Nat.le_of_ble_eq_true rfl, Nat.le_of_ble_eq_true rfl⟩) (ro_pre hK hP (va_recv hK hP (ci := 5) (q0 := 0) rfl rfl)) rfl rfl hl.1 rfl (lv_room (Nat.le_of_ble_eq_true rfl)) d_Roads_shortenBy_69 ⟨Nat.le_of_ble_eq_true rfl, Nat.le_of_ble_eq_true rfl⟩) (fun r3 h => ?_)
          refine lv_iadd hx hb d_Roads_shortenBy_72 ?_
          refine va_mmin hx hb (hml.trans hl.1.symm) hown (hts _ kw349) (hts _ kw25) (hts _ kw2) (hts _ kw26) (Nat.le_of_ble_eq_true rfl) (Nat.le_of_ble_eq_true rfl) (Nat.zero_le _) (Nat.zero_le _) d_Roads_shortenBy_73 ?_
          obtain ⟨hi, h⟩ := h
          refine va_iast hx hb hK hP (D_Roads inj) hS 5 0 rfl rfl hi d_Roads_shortenBy_76 (fun H locs hP _ hS => ?_)
          have hP : va_P D classes (W_Roads ad cI cZ (sto σ 5 ((v2 * 10) + v4).toNatClampNeg (if (v3 + r3) < r2 then (v3 + r3) else r2))) H := hP
          refine lv_iinc (v := (v4 + 1)) (lv' := [(4, .int (v4 + 1)), (0, .ref (ad 0)), (1, .int v1), (2, .int v2), (3, .int v3)]) hx hb d_Roads_shortenBy_77 hl (k := 4) rfl rfl (by decide) rfl (fun ls hl => ?_)
          refine lv_goto (tgt := 32) hx hb d_Roads_shortenBy_80 (by decide) ?_
          exact ih 2 v1 v2 v3 (v4 + 1) (sto σ 5 ((v2 * 10) + v4).toNatClampNeg (if (v3 + r3) < r2 then (v3 + r3) else r2)) h _ _ _ hP hS (lv_sub hl [1, 2, 3, 4, 0] rfl)
      | _ + 3, h, _ => exact False.elim h
  exact key 4000 0 v1 0 0 0 σ h s.heap [] ls hP hS hl
def q_Roads_add (v1 v2 v3 : Int32) (σ : Sg) (Q : (Int32 → Sg → Prop)) : Prop :=
  (vp_in (σ 0 6) 30 ∧ (vp_in (σ 0 6) 30 ∧ (vp_in (σ 0 6) 30 ∧ (q_Roads_shortenBy (σ 0 6) (sto (sto (sto (sto σ 1 (σ 0 6).toNatClampNeg v1) 2 (σ 0 6).toNatClampNeg v2) 3 (σ 0 6).toNatClampNeg v3) 0 6 (((sto (sto (sto σ 1 (σ 0 6).toNatClampNeg v1) 2 (σ 0 6).toNatClampNeg v2) 3 (σ 0 6).toNatClampNeg v3) 0 6) + 1)) (fun u1 => Q (σ 0 6) u1)))))
set_option maxHeartbeats 4000000 in
set_option maxRecDepth 100000 in
theorem t_Roads_add (l : Launch) (D : va_G) (cI cZ : ClassId) (ad : Nat → Nat) (inj : Inj ad 6) (v1 v2 v3 : Int32) (σ : Sg) (Q : (Int32 → Sg → Prop)) (h : q_Roads_add v1 v2 v3 σ Q) : Met l y_Roads_add (.code y_Roads_add prog_7_method_4_code 5 (some .int) :: TG) { frames := 2, cells := 0, slots := 0, locals := 46 } (va_Pc [.ref (ad 0), .int v1, .int v2, .int v3] (roB D (tysA cI cZ) (W_Roads ad cI cZ σ))) (va_Qi Q (fun u t => va_P D classes (W_Roads ad cI cZ u) t.heap) (inA ad 6)) 0 0 (inA ad 6) := by
  refine Met.ofW (cc := prog_7_method_4_code) (maxL := 5) (ret := (some .int)) (by decide) rfl ?_
  intro p e s m args below meth c s₁ B hml hv
  obtain ⟨rfl, hP, hK⟩ := hv
  have hx := B.exec
  have hb := B.bytes
  have hr := B.returns
  have hts : ∀ w ∈ TG, w.before [.ref (ad 0), .int v1, .int v2, .int v3].toArray s = true := fun w hw => atoms_spec (ws := .code y_Roads_add prog_7_method_4_code 5 (some .int) :: TG) B.pre w (List.mem_cons_of_mem _ hw)
  have hown : s.vm.findClass "CarrierPaths$Roads" = some m.cls := findClass_of_methodNamed B.named
  have hlocks := B.notSynchronized
  have hS : va_S (inA ad 6) s.heap s.heap [] := va_S.rf
  have hl := lv_entry ([.ref (ad 0), .int v1, .int v2, .int v3]) (n := 5) (Nat.le_of_ble_eq_true rfl)
  rw [lg_entry_eq]
  generalize (lg_sl ([.ref (ad 0), .int v1, .int v2, .int v3]) ++ List.replicate (5 - (lg_sl ([.ref (ad 0), .int v1, .int v2, .int v3])).length) Slot.unset).toArray = ls at hl ⊢
  have hl : lv_has ls 5 [(0, .ref (ad 0)), (1, .int v1), (2, .int v2), (3, .int v3)] := hl
  unfold q_Roads_add at h
  refine lv_aload_n hx hb d_Roads_add_0 rfl (lv_at hl 0 rfl) ?_
  refine va_get (D := D) (ci := 5) (v := .int (σ 0 6)) (C := "CarrierPaths$Roads") (T := F_Roads) (N := 7) hx hb hts in_Roads hown hK hP 0 rfl rfl 6 (by decide) (hts _ kw65) (fun _ h9 => h9) rfl d_Roads_add_1 ?_
  refine lv_istore (lv' := [(4, .int (σ 0 6)), (0, .ref (ad 0)), (1, .int v1), (2, .int v2), (3, .int v3)]) hx hb d_Roads_add_4 hl (by decide) rfl (fun ls hl => ?_)
  refine lv_aload_n hx hb d_Roads_add_6 rfl (lv_at hl 1 rfl) ?_
  refine va_get (D := D) (ci := 5) (v := .ref (ad 1)) (C := "CarrierPaths$Roads") (T := F_Roads) (N := 7) hx hb hts in_Roads hown hK hP 0 rfl rfl 1 (by decide) (hts _ kw60) (fun _ h9 => h9) rfl d_Roads_add_7 ?_
  refine lv_iload hx hb d_Roads_add_10 (lv_at hl 0 rfl) ?_
  refine lv_iload_n hx hb d_Roads_add_12 rfl (lv_at hl 2 rfl) ?_
  obtain ⟨hi, h⟩ := h
  refine va_iast hx hb hK hP (D_Roads inj) hS 1 0 rfl rfl hi d_Roads_add_13 (fun H locs hP _ hS => ?_)
  have hP : va_P D classes (W_Roads ad cI cZ (sto σ 1 (σ 0 6).toNatClampNeg v1)) H := hP
  refine lv_aload_n hx hb d_Roads_add_14 rfl (lv_at hl 1 rfl) ?_
  refine va_get (D := D) (ci := 5) (v := .ref (ad 2)) (C := "CarrierPaths$Roads") (T := F_Roads) (N := 7) hx hb hts in_Roads hown hK hP 0 rfl rfl 2 (by decide) (hts _ kw61) (fun _ h9 => h9) rfl d_Roads_add_15 ?_
  refine lv_iload hx hb d_Roads_add_18 (lv_at hl 0 rfl) ?_
  refine lv_iload_n hx hb d_Roads_add_20 rfl (lv_at hl 3 rfl) ?_
  obtain ⟨hi, h⟩ := h
  refine va_iast hx hb hK hP (D_Roads inj) hS 2 0 rfl rfl hi d_Roads_add_21 (fun H locs hP _ hS => ?_)
  have hP : va_P D classes (W_Roads ad cI cZ (sto (sto σ 1 (σ 0 6).toNatClampNeg v1) 2 (σ 0 6).toNatClampNeg v2)) H := hP
  refine lv_aload_n hx hb d_Roads_add_22 rfl (lv_at hl 1 rfl) ?_
  refine va_get (D := D) (ci := 5) (v := .ref (ad 3)) (C := "CarrierPaths$Roads") (T := F_Roads) (N := 7) hx hb hts in_Roads hown hK hP 0 rfl rfl 3 (by decide) (hts _ kw62) (fun _ h9 => h9) rfl d_Roads_add_23 ?_
  refine lv_iload hx hb d_Roads_add_26 (lv_at hl 0 rfl) ?_
  refine lv_iload_n hx hb d_Roads_add_28 rfl (lv_at hl 4 rfl) ?_
  obtain ⟨hi, h⟩ := h
  refine va_iast hx hb hK hP (D_Roads inj) hS 3 0 rfl rfl hi d_Roads_add_29 (fun H locs hP _ hS => ?_)
  have hP : va_P D classes (W_Roads ad cI cZ (sto (sto (sto σ 1 (σ 0 6).toNatClampNeg v1) 2 (σ 0 6).toNatClampNeg v2) 3 (σ 0 6).toNatClampNeg v3)) H := hP
  refine lv_aload_n hx hb d_Roads_add_30 rfl (lv_at hl 1 rfl) ?_
  refine lv_dup hx hb d_Roads_add_31 rfl ?_
  refine va_get (D := D) (ci := 5) (v := .int ((sto (sto (sto σ 1 (σ 0 6).toNatClampNeg v1) 2 (σ 0 6).toNatClampNeg v2) 3 (σ 0 6).toNatClampNeg v3) 0 6)) (C := "CarrierPaths$Roads") (T := F_Roads) (N := 7) hx hb hts in_Roads hown hK hP 0 rfl rfl 6 (by decide) (hts _ kw65) (fun _ h9 => h9) rfl d_Roads_add_32 ?_
  refine lv_iconst (v := 1) hx hb d_Roads_add_35 (by decide) ?_
  refine lv_iadd hx hb d_Roads_add_36 ?_
  refine va_put (D := D) (ci := 5) (v := .int (((sto (sto (sto σ 1 (σ 0 6).toNatClampNeg v1) 2 (σ 0 6).toNatClampNeg v2) 3 (σ 0 6).toNatClampNeg v3) 0 6) + 1)) (ty := .int) (C := "CarrierPaths$Roads") (T := F_Roads) (N := 7) hx hb hts in_Roads ty_Roads ty_Roads_ok nm_Roads hown hK hP (D_Roads inj) hS 0 rfl rfl 6 (by decide) (hts _ kw65) (fun _ h9 => h9) rfl (by decide +kernel) rfl rfl (Nat.le_of_ble_eq_true rfl) d_Roads_add_37 (fun H locs hP _ hS => ?_)
  have hP : va_P D classes (W_Roads ad cI cZ (sto (sto (sto (sto σ 1 (σ 0 6).toNatClampNeg v1) 2 (σ 0 6).toNatClampNeg v2) 3 (σ 0 6).toNatClampNeg v3) 0 6 (((sto (sto (sto σ 1 (σ 0 6).toNatClampNeg v1) 2 (σ 0 6).toNatClampNeg v2) 3 (σ 0 6).toNatClampNeg v3) 0 6) + 1))) H := hP
  refine lv_aload_n hx hb d_Roads_add_40 rfl (lv_at hl 1 rfl) ?_
  refine lv_iload hx hb d_Roads_add_41 (lv_at hl 0 rfl) ?_
  refine va_callv (va_runV (As := [.int (σ 0 6)]) (rest := []) ⟨hx, hb, hml, hown, hts⟩ (t_Roads_shortenBy l D cI cZ ad inj (σ 0 6) (sto (sto (sto (sto σ 1 (σ 0 6).toNatClampNeg v1) 2 (σ 0 6).toNatClampNeg v2) 3 (σ 0 6).toNatClampNeg v3) 0 6 (((sto (sto (sto σ 1 (σ 0 6).toNatClampNeg v1) 2 (σ 0 6).toNatClampNeg v2) 3 (σ 0 6).toNatClampNeg v3) 0 6) + 1)) _ h) (cwV 1 hts (g_of kw344 kw346 kp12 kw4 kw347) rfl rfl rfl (by decide +kernel) ⟨Nat.le_of_ble_eq_true rfl, Nat.le_of_ble_eq_true rfl⟩) (ro_pre hK hP (va_recv hK hP (ci := 5) (q0 := 0) rfl rfl)) rfl rfl hl.1 rfl (lv_room (Nat.le_of_ble_eq_true rfl)) d_Roads_add_43 ⟨Nat.le_of_ble_eq_true rfl, Nat.le_of_ble_eq_true rfl⟩) hS (fun _ _ h => h) (fun _ h => h) (fun u1 t H1 locs ht _ h hP1 _ hk1 hS => ?_)
  have hP1 : va_P D classes (W_Roads ad cI cZ u1) H1 := hp_fwd ht hP1
  clear hk1 ht
  generalize H1 = H at hP1 hS ⊢
  have hP := hP1
  refine lv_iload hx hb d_Roads_add_46 (lv_at hl 0 rfl) ?_
  exact W.iret (v := (σ 0 6)) hx hb hr (fun t ht hW => ⟨⟨(σ 0 6), u1, rfl, h, hp_back ht hP⟩, hS.F ht⟩) hS.2.2 d_Roads_add_48
def q_Roads_measureAnew_b0 (J : Nat → Int32 → Sg → Prop) (Q : (Sg → Prop)) (v1 : Int32) (σ : Sg) : Prop :=
  (q_Roads_forgetTimes σ (fun u1 => J 1 0 u1))
def q_Roads_measureAnew_b1 (J : Nat → Int32 → Sg → Prop) (Q : (Sg → Prop)) (v1 : Int32) (σ : Sg) : Prop :=
  (((σ 0 6) ≤ v1 → Q σ) ∧ (¬ (σ 0 6) ≤ v1 → (vp_in v1 30 ∧ (((σ 4 v1.toNatClampNeg) = 0 → (q_Roads_shortenBy v1 σ (fun u2 => J 1 (v1 + 1) u2))) ∧ (¬ (σ 4 v1.toNatClampNeg) = 0 → J 1 (v1 + 1) σ)))))
def q_Roads_measureAnew_j (Q : (Sg → Prop)) : Nat → Nat → Int32 → Sg → Prop
  | 0, _, _, _ => False
  | n + 1, 0, v1, σ => q_Roads_measureAnew_b0 (q_Roads_measureAnew_j Q n) Q v1 σ
  | n + 1, 1, v1, σ => q_Roads_measureAnew_b1 (q_Roads_measureAnew_j Q n) Q v1 σ
  | _ + 1, _ + 2, _, _ => False
def q_Roads_measureAnew (σ : Sg) (Q : (Sg → Prop)) : Prop := q_Roads_measureAnew_j Q 4000 0 0 σ
def lc_Roads_measureAnew (ad : Nat → Nat) (b : Nat) (v1 : Int32) : List (Nat × Value) := match b with
  | 0 => [(0, .ref (ad 0))]
  | 1 => [(0, .ref (ad 0)), (1, .int v1)]
  | _ => []
def pc_Roads_measureAnew (b : Nat) : Nat := match b with
  | 0 => 0
  | 1 => 6
  | _ => 0
set_option maxHeartbeats 4000000 in
set_option maxRecDepth 100000 in
theorem t_Roads_measureAnew (l : Launch) (D : va_G) (cI cZ : ClassId) (ad : Nat → Nat) (inj : Inj ad 6) (σ : Sg) (Q : (Sg → Prop)) (h : q_Roads_measureAnew σ Q) : Met l y_Roads_measureAnew (.code y_Roads_measureAnew prog_7_method_14_code 2 none :: TG) { frames := 2, cells := 0, slots := 0, locals := 46 } (va_Pc [.ref (ad 0)] (roB D (tysA cI cZ) (W_Roads ad cI cZ σ))) (va_Qv Q (fun u t => va_P D classes (W_Roads ad cI cZ u) t.heap) (inA ad 6)) 0 0 (inA ad 6) := by
  refine Met.ofW (cc := prog_7_method_14_code) (maxL := 2) (ret := none) (by decide) rfl ?_
  intro p e s m args below meth c s₁ B hml hv
  obtain ⟨rfl, hP, hK⟩ := hv
  have hx := B.exec
  have hb := B.bytes
  have hr := B.returns
  have hts : ∀ w ∈ TG, w.before [.ref (ad 0)].toArray s = true := fun w hw => atoms_spec (ws := .code y_Roads_measureAnew prog_7_method_14_code 2 none :: TG) B.pre w (List.mem_cons_of_mem _ hw)
  have hown : s.vm.findClass "CarrierPaths$Roads" = some m.cls := findClass_of_methodNamed B.named
  have hlocks := B.notSynchronized
  have hS : va_S (inA ad 6) s.heap s.heap [] := va_S.rf
  have hl := lv_entry ([.ref (ad 0)]) (n := 2) (Nat.le_of_ble_eq_true rfl)
  rw [lg_entry_eq]
  generalize (lg_sl ([.ref (ad 0)]) ++ List.replicate (2 - (lg_sl ([.ref (ad 0)])).length) Slot.unset).toArray = ls at hl ⊢
  generalize ([.ref (ad 0)] : List Value).toArray = args at hts ⊢
  have key : ∀ (n b : Nat) (v1 : Int32) (σ : Sg), q_Roads_measureAnew_j Q n b v1 σ → ∀ (H : Heap) (locs : List Loc) (ls : Array Slot), va_P D classes (W_Roads ad cI cZ σ) H → va_S (inA ad 6) s.heap H locs → lv_has ls 2 (lc_Roads_measureAnew ad b v1) → W p l e (headSpec (.code y_Roads_measureAnew prog_7_method_14_code 2 none :: TG) { frames := 2, cells := 0, slots := 0, locals := 46 }).room s m args below meth c H locs 0 0 (MQ below (va_Qv Q (fun u t => va_P D classes (W_Roads ad cI cZ u) t.heap) (inA ad 6)) args s 0 0 (inA ad 6)) (F0 m (pc_Roads_measureAnew b) ls []) := by
    clear h hl hP hS
    intro n
    induction n with
    | zero => intro b _ _ h; exact False.elim h
    | succ n ih =>
      intro b v1 σ h H locs ls hP hS hl
      match b, h, hl with
      | 0, h, hl =>
        have h : q_Roads_measureAnew_b0 (q_Roads_measureAnew_j Q n) Q v1 σ := h
        have hl : lv_has ls 2 [(0, .ref (ad 0))] := hl
        refine W.eq (g2 := F0 m 0 ls []) rfl ?_
        unfold q_Roads_measureAnew_b0 at h
        refine lv_aload_n hx hb d_Roads_measureAnew_0 rfl (lv_at hl 0 rfl) ?_
        refine va_callv (va_runV (As := []) (rest := []) ⟨hx, hb, hml, hown, hts⟩ (t_Roads_forgetTimes l D cI cZ ad inj σ _ h) (cwV 0 hts (g_of kw54 kw56 kp0 kw4 kw57) rfl rfl rfl (by decide +kernel) ⟨Nat.le_of_ble_eq_true rfl, Nat.le_of_ble_eq_true rfl⟩) (ro_pre hK hP (va_recv hK hP (ci := 5) (q0 := 0) rfl rfl)) rfl rfl hl.1 rfl (lv_room (Nat.le_of_ble_eq_true rfl)) d_Roads_measureAnew_1 ⟨Nat.le_of_ble_eq_true rfl, Nat.le_of_ble_eq_true rfl⟩) hS (fun _ _ h => h) (fun _ h => h) (fun u1 t H1 locs ht _ h hP1 _ hk1 hS => ?_)
        have hP1 : va_P D classes (W_Roads ad cI cZ u1) H1 := hp_fwd ht hP1
        clear hk1 ht
        generalize H1 = H at hP1 hS ⊢
        have hP := hP1
        refine lv_iconst (v := 0) hx hb d_Roads_measureAnew_4 (by decide) ?_
        refine lv_istore_n (lv' := [(1, .int 0), (0, .ref (ad 0))]) hx hb d_Roads_measureAnew_5 rfl hl (by decide) rfl (fun ls hl => ?_)
        exact ih 1 0 u1 h _ _ _ hP hS (lv_sub hl [1, 0] rfl)
      | 1, h, hl =>
        have h : q_Roads_measureAnew_b1 (q_Roads_measureAnew_j Q n) Q v1 σ := h
        have hl : lv_has ls 2 [(0, .ref (ad 0)), (1, .int v1)] := hl
        refine W.eq (g2 := F0 m 6 ls []) rfl ?_
        unfold q_Roads_measureAnew_b1 at h
        refine lv_iload_n hx hb d_Roads_measureAnew_6 rfl (lv_at hl 1 rfl) ?_
        refine lv_aload_n hx hb d_Roads_measureAnew_7 rfl (lv_at hl 0 rfl) ?_
        refine va_get (D := D) (ci := 5) (v := .int (σ 0 6)) (C := "CarrierPaths$Roads") (T := F_Roads) (N := 7) hx hb hts in_Roads hown hK hP 0 rfl rfl 6 (by decide) (hts _ kw65) (fun _ h9 => h9) rfl d_Roads_measureAnew_8 ?_
        refine lv_icmp_ge (tgt := 34) hx hb d_Roads_measureAnew_11 (by decide) (fun hc => ?_) (fun hc => ?_)
        · have h := h.1 hc
          exact W.vret hx hb hr (fun t ht hW => ⟨⟨σ, rfl, h, hp_back ht hP⟩, hS.F ht⟩) hS.2.2 d_Roads_measureAnew_34
        · have h := h.2 hc
          refine lv_aload_n hx hb d_Roads_measureAnew_14 rfl (lv_at hl 0 rfl) ?_
          refine va_get (D := D) (ci := 5) (v := .ref (ad 4)) (C := "CarrierPaths$Roads") (T := F_Roads) (N := 7) hx hb hts in_Roads hown hK hP 0 rfl rfl 4 (by decide) (hts _ kw63) (fun _ h9 => h9) rfl d_Roads_measureAnew_15 ?_
          refine lv_iload_n hx hb d_Roads_measureAnew_18 rfl (lv_at hl 1 rfl) ?_
          obtain ⟨hi, h⟩ := h
          refine va_zald hx hb hK hP 4 1 rfl rfl hi d_Roads_measureAnew_19 ?_
          refine lv_if_ne (tgt := 28) hx hb d_Roads_measureAnew_20 (by decide) (fun hc => ?_) (fun hc => ?_)
          · have h := h.2 hc
            refine lv_iinc (v := (v1 + 1)) (lv' := [(1, .int (v1 + 1)), (0, .ref (ad 0))]) hx hb d_Roads_measureAnew_28 hl (k := 1) rfl rfl (by decide) rfl (fun ls hl => ?_)
            refine lv_goto (tgt := 6) hx hb d_Roads_measureAnew_31 (by decide) ?_
            exact ih 1 (v1 + 1) σ h _ _ _ hP hS (lv_sub hl [1, 0] rfl)
          · have h := h.1 hc
            refine lv_aload_n hx hb d_Roads_measureAnew_23 rfl (lv_at hl 0 rfl) ?_
            refine lv_iload_n hx hb d_Roads_measureAnew_24 rfl (lv_at hl 1 rfl) ?_
            refine va_callv (va_runV (As := [.int v1]) (rest := []) ⟨hx, hb, hml, hown, hts⟩ (t_Roads_shortenBy l D cI cZ ad inj v1 σ _ h) (cwV 1 hts (g_of kw344 kw346 kp12 kw4 kw347) rfl rfl rfl (by decide +kernel) ⟨Nat.le_of_ble_eq_true rfl, Nat.le_of_ble_eq_true rfl⟩) (ro_pre hK hP (va_recv hK hP (ci := 5) (q0 := 0) rfl rfl)) rfl rfl hl.1 rfl (lv_room (Nat.le_of_ble_eq_true rfl)) d_Roads_measureAnew_25 ⟨Nat.le_of_ble_eq_true rfl, Nat.le_of_ble_eq_true rfl⟩) hS (fun _ _ h => h) (fun _ h => h) (fun u2 t H1 locs ht _ h hP1 _ hk1 hS => ?_)
            have hP1 : va_P D classes (W_Roads ad cI cZ u2) H1 := hp_fwd ht hP1
            clear hk1 ht
            generalize H1 = H at hP1 hS ⊢
            have hP := hP1
            refine lv_iinc (v := (v1 + 1)) (lv' := [(1, .int (v1 + 1)), (0, .ref (ad 0))]) hx hb d_Roads_measureAnew_28 hl (k := 1) rfl rfl (by decide) rfl (fun ls hl => ?_)
            refine lv_goto (tgt := 6) hx hb d_Roads_measureAnew_31 (by decide) ?_
            exact ih 1 (v1 + 1) u2 h _ _ _ hP hS (lv_sub hl [1, 0] rfl)
      | _ + 2, h, _ => exact False.elim h
  exact key 4000 0 0 σ h s.heap [] ls hP hS hl
def q_Roads_setClosed (v1 v2 : Int32) (σ : Sg) (Q : (Sg → Prop)) : Prop :=
  (vp_in v1 30 ∧ ((v2 = 0 → (q_Roads_shortenBy v1 (sto σ 4 v1.toNatClampNeg (vp_nar .boolean v2)) (fun u1 => Q u1))) ∧ (¬ v2 = 0 → (q_Roads_measureAnew (sto σ 4 v1.toNatClampNeg (vp_nar .boolean v2)) (fun u2 => Q u2)))))
set_option maxHeartbeats 4000000 in
set_option maxRecDepth 100000 in
theorem t_Roads_setClosed (l : Launch) (D : va_G) (cI cZ : ClassId) (ad : Nat → Nat) (inj : Inj ad 6) (v1 v2 : Int32) (σ : Sg) (Q : (Sg → Prop)) (h : q_Roads_setClosed v1 v2 σ Q) : Met l y_Roads_setClosed (.code y_Roads_setClosed prog_7_method_9_code 3 none :: TG) { frames := 3, cells := 0, slots := 0, locals := 67 } (va_Pc [.ref (ad 0), .int v1, .int v2] (roB D (tysA cI cZ) (W_Roads ad cI cZ σ))) (va_Qv Q (fun u t => va_P D classes (W_Roads ad cI cZ u) t.heap) (inA ad 6)) 0 0 (inA ad 6) := by
  refine Met.ofW (cc := prog_7_method_9_code) (maxL := 3) (ret := none) (by decide) rfl ?_
  intro p e s m args below meth c s₁ B hml hv
  obtain ⟨rfl, hP, hK⟩ := hv
  have hx := B.exec
  have hb := B.bytes
  have hr := B.returns
  have hts : ∀ w ∈ TG, w.before [.ref (ad 0), .int v1, .int v2].toArray s = true := fun w hw => atoms_spec (ws := .code y_Roads_setClosed prog_7_method_9_code 3 none :: TG) B.pre w (List.mem_cons_of_mem _ hw)
  have hown : s.vm.findClass "CarrierPaths$Roads" = some m.cls := findClass_of_methodNamed B.named
  have hlocks := B.notSynchronized
  have hS : va_S (inA ad 6) s.heap s.heap [] := va_S.rf
  have hl := lv_entry ([.ref (ad 0), .int v1, .int v2]) (n := 3) (Nat.le_of_ble_eq_true rfl)
  rw [lg_entry_eq]
  generalize (lg_sl ([.ref (ad 0), .int v1, .int v2]) ++ List.replicate (3 - (lg_sl ([.ref (ad 0), .int v1, .int v2])).length) Slot.unset).toArray = ls at hl ⊢
  have hl : lv_has ls 3 [(0, .ref (ad 0)), (1, .int v1), (2, .int v2)] := hl
  unfold q_Roads_setClosed at h
  refine lv_aload_n hx hb d_Roads_setClosed_0 rfl (lv_at hl 0 rfl) ?_
  refine va_get (D := D) (ci := 5) (v := .ref (ad 4)) (C := "CarrierPaths$Roads") (T := F_Roads) (N := 7) hx hb hts in_Roads hown hK hP 0 rfl rfl 4 (by decide) (hts _ kw63) (fun _ h9 => h9) rfl d_Roads_setClosed_1 ?_
  refine lv_iload_n hx hb d_Roads_setClosed_4 rfl (lv_at hl 1 rfl) ?_
  refine lv_iload_n hx hb d_Roads_setClosed_5 rfl (lv_at hl 2 rfl) ?_
  obtain ⟨hi, h⟩ := h
  refine va_zast hx hb hK hP (D_Roads inj) hS 4 1 rfl rfl hi d_Roads_setClosed_6 (fun H locs hP _ hS => ?_)
  have hP : va_P D classes (W_Roads ad cI cZ (sto σ 4 v1.toNatClampNeg (vp_nar .boolean v2))) H := hP
  refine lv_iload_n hx hb d_Roads_setClosed_7 rfl (lv_at hl 2 rfl) ?_
  refine lv_if_eq (tgt := 18) hx hb d_Roads_setClosed_8 (by decide) (fun hc => ?_) (fun hc => ?_)
  · have h := h.1 hc
    refine lv_aload_n hx hb d_Roads_setClosed_18 rfl (lv_at hl 0 rfl) ?_
    refine lv_iload_n hx hb d_Roads_setClosed_19 rfl (lv_at hl 1 rfl) ?_
    refine va_callv (va_runV (As := [.int v1]) (rest := []) ⟨hx, hb, hml, hown, hts⟩ (t_Roads_shortenBy l D cI cZ ad inj v1 (sto σ 4 v1.toNatClampNeg (vp_nar .boolean v2)) _ h) (cwV 1 hts (g_of kw344 kw346 kp12 kw4 kw347) rfl rfl rfl (by decide +kernel) ⟨Nat.le_of_ble_eq_true rfl, Nat.le_of_ble_eq_true rfl⟩) (ro_pre hK hP (va_recv hK hP (ci := 5) (q0 := 0) rfl rfl)) rfl rfl hl.1 rfl (lv_room (Nat.le_of_ble_eq_true rfl)) d_Roads_setClosed_20 ⟨Nat.le_of_ble_eq_true rfl, Nat.le_of_ble_eq_true rfl⟩) hS (fun _ _ h => h) (fun _ h => h) (fun u1 t H1 locs ht _ h hP1 _ hk1 hS => ?_)
    have hP1 : va_P D classes (W_Roads ad cI cZ u1) H1 := hp_fwd ht hP1
    clear hk1 ht
    generalize H1 = H at hP1 hS ⊢
    have hP := hP1
    exact W.vret hx hb hr (fun t ht hW => ⟨⟨u1, rfl, h, hp_back ht hP⟩, hS.F ht⟩) hS.2.2 d_Roads_setClosed_23
  · have h := h.2 hc
    refine lv_aload_n hx hb d_Roads_setClosed_11 rfl (lv_at hl 0 rfl) ?_
    refine va_callv (va_runV (As := []) (rest := []) ⟨hx, hb, hml, hown, hts⟩ (t_Roads_measureAnew l D cI cZ ad inj (sto σ 4 v1.toNatClampNeg (vp_nar .boolean v2)) _ h) (cwV 0 hts (g_of kw340 kw342 kp11 kw4 kw343) rfl rfl rfl (by decide +kernel) ⟨Nat.le_of_ble_eq_true rfl, Nat.le_of_ble_eq_true rfl⟩) (ro_pre hK hP (va_recv hK hP (ci := 5) (q0 := 0) rfl rfl)) rfl rfl hl.1 rfl (lv_room (Nat.le_of_ble_eq_true rfl)) d_Roads_setClosed_12 ⟨Nat.le_of_ble_eq_true rfl, Nat.le_of_ble_eq_true rfl⟩) hS (fun _ _ h => h) (fun _ h => h) (fun u2 t H1 locs ht _ h hP1 _ hk1 hS => ?_)
    have hP1 : va_P D classes (W_Roads ad cI cZ u2) H1 := hp_fwd ht hP1
    clear hk1 ht
    generalize H1 = H at hP1 hS ⊢
    have hP := hP1
    refine lv_goto (tgt := 23) hx hb d_Roads_setClosed_15 (by decide) ?_
    exact W.vret hx hb hr (fun t ht hW => ⟨⟨u2, rfl, h, hp_back ht hP⟩, hS.F ht⟩) hS.2.2 d_Roads_setClosed_23
end
section
theorem d_Rings_size_0 : decode prog_6_method_2_code 0 = .ok (.aload_n 0, 1) := by decide +kernel
theorem d_Rings_size_1 : decode prog_6_method_2_code 1 = .ok (.getfield 15, 3) := by decide +kernel
theorem d_Rings_size_4 : decode prog_6_method_2_code 4 = .ok (.ireturn, 1) := by decide +kernel
theorem d_Rings_has_0 : decode prog_6_method_3_code 0 = .ok (.iload_n 1, 1) := by decide +kernel
theorem d_Rings_has_1 : decode prog_6_method_3_code 1 = .ok (.ifCond .lt 15, 3) := by decide +kernel
theorem d_Rings_has_4 : decode prog_6_method_3_code 4 = .ok (.iload_n 1, 1) := by decide +kernel
theorem d_Rings_has_5 : decode prog_6_method_3_code 5 = .ok (.aload_n 0, 1) := by decide +kernel
theorem d_Rings_has_6 : decode prog_6_method_3_code 6 = .ok (.getfield 15, 3) := by decide +kernel
theorem d_Rings_has_9 : decode prog_6_method_3_code 9 = .ok (.if_icmp .ge 7, 3) := by decide +kernel
theorem d_Rings_has_12 : decode prog_6_method_3_code 12 = .ok (.iconst 1, 1) := by decide +kernel
theorem d_Rings_has_13 : decode prog_6_method_3_code 13 = .ok (.goto 4, 3) := by decide +kernel
theorem d_Rings_has_16 : decode prog_6_method_3_code 16 = .ok (.iconst 0, 1) := by decide +kernel
theorem d_Rings_has_17 : decode prog_6_method_3_code 17 = .ok (.ireturn, 1) := by decide +kernel
theorem d_Rings_add_0 : decode prog_6_method_4_code 0 = .ok (.aload_n 0, 1) := by decide +kernel
theorem d_Rings_add_1 : decode prog_6_method_4_code 1 = .ok (.getfield 9, 3) := by decide +kernel
theorem d_Rings_add_4 : decode prog_6_method_4_code 4 = .ok (.aload_n 0, 1) := by decide +kernel
theorem d_Rings_add_5 : decode prog_6_method_4_code 5 = .ok (.getfield 15, 3) := by decide +kernel
theorem d_Rings_add_8 : decode prog_6_method_4_code 8 = .ok (.iload_n 1, 1) := by decide +kernel
theorem d_Rings_add_9 : decode prog_6_method_4_code 9 = .ok (.iastore, 1) := by decide +kernel
theorem d_Rings_add_10 : decode prog_6_method_4_code 10 = .ok (.aload_n 0, 1) := by decide +kernel
theorem d_Rings_add_11 : decode prog_6_method_4_code 11 = .ok (.dup, 1) := by decide +kernel
theorem d_Rings_add_12 : decode prog_6_method_4_code 12 = .ok (.getfield 15, 3) := by decide +kernel
theorem d_Rings_add_15 : decode prog_6_method_4_code 15 = .ok (.iconst 1, 1) := by decide +kernel
theorem d_Rings_add_16 : decode prog_6_method_4_code 16 = .ok (.iadd, 1) := by decide +kernel
theorem d_Rings_add_17 : decode prog_6_method_4_code 17 = .ok (.putfield 15, 3) := by decide +kernel
theorem d_Rings_add_20 : decode prog_6_method_4_code 20 = .ok (.aload_n 0, 1) := by decide +kernel
theorem d_Rings_add_21 : decode prog_6_method_4_code 21 = .ok (.getfield 15, 3) := by decide +kernel
theorem d_Rings_add_24 : decode prog_6_method_4_code 24 = .ok (.ireturn, 1) := by decide +kernel
theorem d_Rings_bitsOf_0 : decode prog_6_method_5_code 0 = .ok (.aload_n 0, 1) := by decide +kernel
theorem d_Rings_bitsOf_1 : decode prog_6_method_5_code 1 = .ok (.getfield 9, 3) := by decide +kernel
theorem d_Rings_bitsOf_4 : decode prog_6_method_5_code 4 = .ok (.iload_n 1, 1) := by decide +kernel
theorem d_Rings_bitsOf_5 : decode prog_6_method_5_code 5 = .ok (.iaload, 1) := by decide +kernel
theorem d_Rings_bitsOf_6 : decode prog_6_method_5_code 6 = .ok (.ireturn, 1) := by decide +kernel
end
section
def W_Rings (ad : Nat → Nat) (cI cZ : ClassId) (σ : Sg) : va_W :=
  [(ad 0, .inr (4, [.ref (ad 1), .int (σ 0 1)])),
   (ad 1, .inl (cI, 4, .inl (σ 1)))]
theorem D_Rings {ad : Nat → Nat} {cI cZ : ClassId} {σ : Sg} (inj : Inj ad 2) : va_D (inA ad 2) (W_Rings ad cI cZ σ) := D_of inj rfl
def q_Rings_size (σ : Sg) (Q : (Int32 → Prop)) : Prop :=
  Q (σ 0 1)
set_option maxHeartbeats 4000000 in
set_option maxRecDepth 100000 in
theorem t_Rings_size (l : Launch) (D : va_G) (cI cZ : ClassId) (ad : Nat → Nat) (σ : Sg) (Q : (Int32 → Prop)) (h : q_Rings_size σ Q) : Met l y_Rings_size (.code y_Rings_size prog_6_method_2_code 1 (some .int) :: TG) { frames := 0, cells := 0, slots := 0, locals := 0 } (va_Pc [.ref (ad 0)] (roB D (tysA cI cZ) (W_Rings ad cI cZ σ))) (vp_Si Q) 0 0 (fun _ => False) := by
  refine Met.ofW (cc := prog_6_method_2_code) (maxL := 1) (ret := (some .int)) (by decide) rfl ?_
  intro p e s m args below meth c s₁ B hml hv
  obtain ⟨rfl, hP, hK⟩ := hv
  have hx := B.exec
  have hb := B.bytes
  have hr := B.returns
  have hts : ∀ w ∈ TG, w.before [.ref (ad 0)].toArray s = true := fun w hw => atoms_spec (ws := .code y_Rings_size prog_6_method_2_code 1 (some .int) :: TG) B.pre w (List.mem_cons_of_mem _ hw)
  have hown : s.vm.findClass "CarrierPaths$Rings" = some m.cls := findClass_of_methodNamed B.named
  have hlocks := B.notSynchronized
  have hl := lv_entry ([.ref (ad 0)]) (n := 1) (Nat.le_of_ble_eq_true rfl)
  rw [lg_entry_eq]
  generalize (lg_sl ([.ref (ad 0)]) ++ List.replicate (1 - (lg_sl ([.ref (ad 0)])).length) Slot.unset).toArray = ls at hl ⊢
  have hl : lv_has ls 1 [(0, .ref (ad 0))] := hl
  unfold q_Rings_size at h
  refine lv_aload_n hx hb d_Rings_size_0 rfl (lv_at hl 0 rfl) ?_
  refine va_get (D := D) (ci := 4) (v := .int (σ 0 1)) (C := "CarrierPaths$Rings") (T := F_Rings) (N := 2) hx hb hts in_Rings hown hK hP 0 rfl rfl 1 (by decide) (hts _ kw88) (fun _ h9 => h9) rfl d_Rings_size_1 ?_
  exact W.iret (v := (σ 0 1)) hx hb hr (fun t ht hW => ⟨(σ 0 1), rfl, h, ht⟩) (fun q hq => by cases hq) d_Rings_size_4
def q_Rings_has (v1 : Int32) (σ : Sg) (Q : (Int32 → Prop)) : Prop :=
  ((v1 < 0 → Q 0) ∧ (¬ v1 < 0 → (((σ 0 1) ≤ v1 → Q 0) ∧ (¬ (σ 0 1) ≤ v1 → Q 1))))
set_option maxHeartbeats 4000000 in
set_option maxRecDepth 100000 in
theorem t_Rings_has (l : Launch) (D : va_G) (cI cZ : ClassId) (ad : Nat → Nat) (v1 : Int32) (σ : Sg) (Q : (Int32 → Prop)) (h : q_Rings_has v1 σ Q) : Met l y_Rings_has (.code y_Rings_has prog_6_method_3_code 2 (some .boolean) :: TG) { frames := 0, cells := 0, slots := 0, locals := 0 } (va_Pc [.ref (ad 0), .int v1] (roB D (tysA cI cZ) (W_Rings ad cI cZ σ))) (vp_Si Q) 0 0 (fun _ => False) := by
  refine Met.ofW (cc := prog_6_method_3_code) (maxL := 2) (ret := (some .boolean)) (by decide) rfl ?_
  intro p e s m args below meth c s₁ B hml hv
  obtain ⟨rfl, hP, hK⟩ := hv
  have hx := B.exec
  have hb := B.bytes
  have hr := B.returns
  have hts : ∀ w ∈ TG, w.before [.ref (ad 0), .int v1].toArray s = true := fun w hw => atoms_spec (ws := .code y_Rings_has prog_6_method_3_code 2 (some .boolean) :: TG) B.pre w (List.mem_cons_of_mem _ hw)
  have hown : s.vm.findClass "CarrierPaths$Rings" = some m.cls := findClass_of_methodNamed B.named
  have hlocks := B.notSynchronized
  have hl := lv_entry ([.ref (ad 0), .int v1]) (n := 2) (Nat.le_of_ble_eq_true rfl)
  rw [lg_entry_eq]
  generalize (lg_sl ([.ref (ad 0), .int v1]) ++ List.replicate (2 - (lg_sl ([.ref (ad 0), .int v1])).length) Slot.unset).toArray = ls at hl ⊢
  have hl : lv_has ls 2 [(0, .ref (ad 0)), (1, .int v1)] := hl
  unfold q_Rings_has at h
  refine lv_iload_n hx hb d_Rings_has_0 rfl (lv_at hl 1 rfl) ?_
  refine lv_if_lt (tgt := 16) hx hb d_Rings_has_1 (by decide) (fun hc => ?_) (fun hc => ?_)
  · have h := h.1 hc
    refine lv_iconst (v := 0) hx hb d_Rings_has_16 (by decide) ?_
    exact W.zret (v := 0) hx hb hr (by decide) (fun t ht hW => ⟨0, rfl, h, ht⟩) (fun q hq => by cases hq) d_Rings_has_17
  · have h := h.2 hc
    refine lv_iload_n hx hb d_Rings_has_4 rfl (lv_at hl 1 rfl) ?_
    refine lv_aload_n hx hb d_Rings_has_5 rfl (lv_at hl 0 rfl) ?_
    refine va_get (D := D) (ci := 4) (v := .int (σ 0 1)) (C := "CarrierPaths$Rings") (T := F_Rings) (N := 2) hx hb hts in_Rings hown hK hP 0 rfl rfl 1 (by decide) (hts _ kw88) (fun _ h9 => h9) rfl d_Rings_has_6 ?_
    refine lv_icmp_ge (tgt := 16) hx hb d_Rings_has_9 (by decide) (fun hc => ?_) (fun hc => ?_)
    · have h := h.1 hc
      refine lv_iconst (v := 0) hx hb d_Rings_has_16 (by decide) ?_
      exact W.zret (v := 0) hx hb hr (by decide) (fun t ht hW => ⟨0, rfl, h, ht⟩) (fun q hq => by cases hq) d_Rings_has_17
    · have h := h.2 hc
      refine lv_iconst (v := 1) hx hb d_Rings_has_12 (by decide) ?_
      refine lv_goto (tgt := 17) hx hb d_Rings_has_13 (by decide) ?_
      exact W.zret (v := 1) hx hb hr (by decide) (fun t ht hW => ⟨1, rfl, h, ht⟩) (fun q hq => by cases hq) d_Rings_has_17
def q_Rings_add (v1 : Int32) (σ : Sg) (Q : (Int32 → Sg → Prop)) : Prop :=
  (vp_in (σ 0 1) 4 ∧ Q ((sto (sto σ 1 (σ 0 1).toNatClampNeg v1) 0 1 (((sto σ 1 (σ 0 1).toNatClampNeg v1) 0 1) + 1)) 0 1) (sto (sto σ 1 (σ 0 1).toNatClampNeg v1) 0 1 (((sto σ 1 (σ 0 1).toNatClampNeg v1) 0 1) + 1)))
set_option maxHeartbeats 4000000 in
set_option maxRecDepth 100000 in
theorem t_Rings_add (l : Launch) (D : va_G) (cI cZ : ClassId) (ad : Nat → Nat) (inj : Inj ad 2) (v1 : Int32) (σ : Sg) (Q : (Int32 → Sg → Prop)) (h : q_Rings_add v1 σ Q) : Met l y_Rings_add (.code y_Rings_add prog_6_method_4_code 2 (some .int) :: TG) { frames := 0, cells := 0, slots := 0, locals := 0 } (va_Pc [.ref (ad 0), .int v1] (roB D (tysA cI cZ) (W_Rings ad cI cZ σ))) (va_Qi Q (fun u t => va_P D classes (W_Rings ad cI cZ u) t.heap) (inA ad 2)) 0 0 (inA ad 2) := by
  refine Met.ofW (cc := prog_6_method_4_code) (maxL := 2) (ret := (some .int)) (by decide) rfl ?_
  intro p e s m args below meth c s₁ B hml hv
  obtain ⟨rfl, hP, hK⟩ := hv
  have hx := B.exec
  have hb := B.bytes
  have hr := B.returns
  have hts : ∀ w ∈ TG, w.before [.ref (ad 0), .int v1].toArray s = true := fun w hw => atoms_spec (ws := .code y_Rings_add prog_6_method_4_code 2 (some .int) :: TG) B.pre w (List.mem_cons_of_mem _ hw)
  have hown : s.vm.findClass "CarrierPaths$Rings" = some m.cls := findClass_of_methodNamed B.named
  have hlocks := B.notSynchronized
  have hS : va_S (inA ad 2) s.heap s.heap [] := va_S.rf
  have hl := lv_entry ([.ref (ad 0), .int v1]) (n := 2) (Nat.le_of_ble_eq_true rfl)
  rw [lg_entry_eq]
  generalize (lg_sl ([.ref (ad 0), .int v1]) ++ List.replicate (2 - (lg_sl ([.ref (ad 0), .int v1])).length) Slot.unset).toArray = ls at hl ⊢
  have hl : lv_has ls 2 [(0, .ref (ad 0)), (1, .int v1)] := hl
  unfold q_Rings_add at h
  refine lv_aload_n hx hb d_Rings_add_0 rfl (lv_at hl 0 rfl) ?_
  refine va_get (D := D) (ci := 4) (v := .ref (ad 1)) (C := "CarrierPaths$Rings") (T := F_Rings) (N := 2) hx hb hts in_Rings hown hK hP 0 rfl rfl 0 (by decide) (hts _ kw87) (fun _ h9 => h9) rfl d_Rings_add_1 ?_
  refine lv_aload_n hx hb d_Rings_add_4 rfl (lv_at hl 0 rfl) ?_
  refine va_get (D := D) (ci := 4) (v := .int (σ 0 1)) (C := "CarrierPaths$Rings") (T := F_Rings) (N := 2) hx hb hts in_Rings hown hK hP 0 rfl rfl 1 (by decide) (hts _ kw88) (fun _ h9 => h9) rfl d_Rings_add_5 ?_
  refine lv_iload_n hx hb d_Rings_add_8 rfl (lv_at hl 1 rfl) ?_
  obtain ⟨hi, h⟩ := h
  refine va_iast hx hb hK hP (D_Rings inj) hS 1 0 rfl rfl hi d_Rings_add_9 (fun H locs hP _ hS => ?_)
  have hP : va_P D classes (W_Rings ad cI cZ (sto σ 1 (σ 0 1).toNatClampNeg v1)) H := hP
  refine lv_aload_n hx hb d_Rings_add_10 rfl (lv_at hl 0 rfl) ?_
  refine lv_dup hx hb d_Rings_add_11 rfl ?_
  refine va_get (D := D) (ci := 4) (v := .int ((sto σ 1 (σ 0 1).toNatClampNeg v1) 0 1)) (C := "CarrierPaths$Rings") (T := F_Rings) (N := 2) hx hb hts in_Rings hown hK hP 0 rfl rfl 1 (by decide) (hts _ kw88) (fun _ h9 => h9) rfl d_Rings_add_12 ?_
  refine lv_iconst (v := 1) hx hb d_Rings_add_15 (by decide) ?_
  refine lv_iadd hx hb d_Rings_add_16 ?_
  refine va_put (D := D) (ci := 4) (v := .int (((sto σ 1 (σ 0 1).toNatClampNeg v1) 0 1) + 1)) (ty := .int) (C := "CarrierPaths$Rings") (T := F_Rings) (N := 2) hx hb hts in_Rings ty_Rings ty_Rings_ok nm_Rings hown hK hP (D_Rings inj) hS 0 rfl rfl 1 (by decide) (hts _ kw88) (fun _ h9 => h9) rfl (by decide +kernel) rfl rfl (Nat.le_of_ble_eq_true rfl) d_Rings_add_17 (fun H locs hP _ hS => ?_)
  have hP : va_P D classes (W_Rings ad cI cZ (sto (sto σ 1 (σ 0 1).toNatClampNeg v1) 0 1 (((sto σ 1 (σ 0 1).toNatClampNeg v1) 0 1) + 1))) H := hP
  refine lv_aload_n hx hb d_Rings_add_20 rfl (lv_at hl 0 rfl) ?_
  refine va_get (D := D) (ci := 4) (v := .int ((sto (sto σ 1 (σ 0 1).toNatClampNeg v1) 0 1 (((sto σ 1 (σ 0 1).toNatClampNeg v1) 0 1) + 1)) 0 1)) (C := "CarrierPaths$Rings") (T := F_Rings) (N := 2) hx hb hts in_Rings hown hK hP 0 rfl rfl 1 (by decide) (hts _ kw88) (fun _ h9 => h9) rfl d_Rings_add_21 ?_
  exact W.iret (v := ((sto (sto σ 1 (σ 0 1).toNatClampNeg v1) 0 1 (((sto σ 1 (σ 0 1).toNatClampNeg v1) 0 1) + 1)) 0 1)) hx hb hr (fun t ht hW => ⟨⟨((sto (sto σ 1 (σ 0 1).toNatClampNeg v1) 0 1 (((sto σ 1 (σ 0 1).toNatClampNeg v1) 0 1) + 1)) 0 1), (sto (sto σ 1 (σ 0 1).toNatClampNeg v1) 0 1 (((sto σ 1 (σ 0 1).toNatClampNeg v1) 0 1) + 1)), rfl, h, hp_back ht hP⟩, hS.F ht⟩) hS.2.2 d_Rings_add_24
def q_Rings_bitsOf (v1 : Int32) (σ : Sg) (Q : (Int32 → Prop)) : Prop :=
  (vp_in v1 4 ∧ Q (σ 1 v1.toNatClampNeg))
set_option maxHeartbeats 4000000 in
set_option maxRecDepth 100000 in
theorem t_Rings_bitsOf (l : Launch) (D : va_G) (cI cZ : ClassId) (ad : Nat → Nat) (v1 : Int32) (σ : Sg) (Q : (Int32 → Prop)) (h : q_Rings_bitsOf v1 σ Q) : Met l y_Rings_bitsOf (.code y_Rings_bitsOf prog_6_method_5_code 2 (some .int) :: TG) { frames := 0, cells := 0, slots := 0, locals := 0 } (va_Pc [.ref (ad 0), .int v1] (roB D (tysA cI cZ) (W_Rings ad cI cZ σ))) (vp_Si Q) 0 0 (fun _ => False) := by
  refine Met.ofW (cc := prog_6_method_5_code) (maxL := 2) (ret := (some .int)) (by decide) rfl ?_
  intro p e s m args below meth c s₁ B hml hv
  obtain ⟨rfl, hP, hK⟩ := hv
  have hx := B.exec
  have hb := B.bytes
  have hr := B.returns
  have hts : ∀ w ∈ TG, w.before [.ref (ad 0), .int v1].toArray s = true := fun w hw => atoms_spec (ws := .code y_Rings_bitsOf prog_6_method_5_code 2 (some .int) :: TG) B.pre w (List.mem_cons_of_mem _ hw)
  have hown : s.vm.findClass "CarrierPaths$Rings" = some m.cls := findClass_of_methodNamed B.named
  have hlocks := B.notSynchronized
  have hl := lv_entry ([.ref (ad 0), .int v1]) (n := 2) (Nat.le_of_ble_eq_true rfl)
  rw [lg_entry_eq]
  generalize (lg_sl ([.ref (ad 0), .int v1]) ++ List.replicate (2 - (lg_sl ([.ref (ad 0), .int v1])).length) Slot.unset).toArray = ls at hl ⊢
  have hl : lv_has ls 2 [(0, .ref (ad 0)), (1, .int v1)] := hl
  unfold q_Rings_bitsOf at h
  refine lv_aload_n hx hb d_Rings_bitsOf_0 rfl (lv_at hl 0 rfl) ?_
  refine va_get (D := D) (ci := 4) (v := .ref (ad 1)) (C := "CarrierPaths$Rings") (T := F_Rings) (N := 2) hx hb hts in_Rings hown hK hP 0 rfl rfl 0 (by decide) (hts _ kw87) (fun _ h9 => h9) rfl d_Rings_bitsOf_1 ?_
  refine lv_iload_n hx hb d_Rings_bitsOf_4 rfl (lv_at hl 1 rfl) ?_
  obtain ⟨hi, h⟩ := h
  refine va_iald hx hb hK hP 1 0 rfl rfl hi d_Rings_bitsOf_5 ?_
  exact W.iret (v := (σ 1 v1.toNatClampNeg)) hx hb hr (fun t ht hW => ⟨(σ 1 v1.toNatClampNeg), rfl, h, ht⟩) (fun q hq => by cases hq) d_Rings_bitsOf_6
end
section
theorem d_Fleet_size_0 : decode prog_3_method_2_code 0 = .ok (.aload_n 0, 1) := by decide +kernel
theorem d_Fleet_size_1 : decode prog_3_method_2_code 1 = .ok (.getfield 33, 3) := by decide +kernel
theorem d_Fleet_size_4 : decode prog_3_method_2_code 4 = .ok (.ireturn, 1) := by decide +kernel
theorem d_Fleet_has_0 : decode prog_3_method_3_code 0 = .ok (.iload_n 1, 1) := by decide +kernel
theorem d_Fleet_has_1 : decode prog_3_method_3_code 1 = .ok (.ifCond .lt 15, 3) := by decide +kernel
theorem d_Fleet_has_4 : decode prog_3_method_3_code 4 = .ok (.iload_n 1, 1) := by decide +kernel
theorem d_Fleet_has_5 : decode prog_3_method_3_code 5 = .ok (.aload_n 0, 1) := by decide +kernel
theorem d_Fleet_has_6 : decode prog_3_method_3_code 6 = .ok (.getfield 33, 3) := by decide +kernel
theorem d_Fleet_has_9 : decode prog_3_method_3_code 9 = .ok (.if_icmp .ge 7, 3) := by decide +kernel
theorem d_Fleet_has_12 : decode prog_3_method_3_code 12 = .ok (.iconst 1, 1) := by decide +kernel
theorem d_Fleet_has_13 : decode prog_3_method_3_code 13 = .ok (.goto 4, 3) := by decide +kernel
theorem d_Fleet_has_16 : decode prog_3_method_3_code 16 = .ok (.iconst 0, 1) := by decide +kernel
theorem d_Fleet_has_17 : decode prog_3_method_3_code 17 = .ok (.ireturn, 1) := by decide +kernel
theorem d_Fleet_add_0 : decode prog_3_method_4_code 0 = .ok (.aload_n 0, 1) := by decide +kernel
theorem d_Fleet_add_1 : decode prog_3_method_4_code 1 = .ok (.getfield 33, 3) := by decide +kernel
theorem d_Fleet_add_4 : decode prog_3_method_4_code 4 = .ok (.istore_n 3, 1) := by decide +kernel
theorem d_Fleet_add_5 : decode prog_3_method_4_code 5 = .ok (.aload_n 0, 1) := by decide +kernel
theorem d_Fleet_add_6 : decode prog_3_method_4_code 6 = .ok (.getfield 9, 3) := by decide +kernel
theorem d_Fleet_add_9 : decode prog_3_method_4_code 9 = .ok (.iload_n 3, 1) := by decide +kernel
theorem d_Fleet_add_10 : decode prog_3_method_4_code 10 = .ok (.iload_n 1, 1) := by decide +kernel
theorem d_Fleet_add_11 : decode prog_3_method_4_code 11 = .ok (.iastore, 1) := by decide +kernel
theorem d_Fleet_add_12 : decode prog_3_method_4_code 12 = .ok (.aload_n 0, 1) := by decide +kernel
theorem d_Fleet_add_13 : decode prog_3_method_4_code 13 = .ok (.getfield 15, 3) := by decide +kernel
theorem d_Fleet_add_16 : decode prog_3_method_4_code 16 = .ok (.iload_n 3, 1) := by decide +kernel
theorem d_Fleet_add_17 : decode prog_3_method_4_code 17 = .ok (.iconst (-1), 1) := by decide +kernel
theorem d_Fleet_add_18 : decode prog_3_method_4_code 18 = .ok (.iastore, 1) := by decide +kernel
theorem d_Fleet_add_19 : decode prog_3_method_4_code 19 = .ok (.aload_n 0, 1) := by decide +kernel
theorem d_Fleet_add_20 : decode prog_3_method_4_code 20 = .ok (.getfield 18, 3) := by decide +kernel
theorem d_Fleet_add_23 : decode prog_3_method_4_code 23 = .ok (.iload_n 3, 1) := by decide +kernel
theorem d_Fleet_add_24 : decode prog_3_method_4_code 24 = .ok (.iconst (-1), 1) := by decide +kernel
theorem d_Fleet_add_25 : decode prog_3_method_4_code 25 = .ok (.iastore, 1) := by decide +kernel
theorem d_Fleet_add_26 : decode prog_3_method_4_code 26 = .ok (.aload_n 0, 1) := by decide +kernel
theorem d_Fleet_add_27 : decode prog_3_method_4_code 27 = .ok (.getfield 21, 3) := by decide +kernel
theorem d_Fleet_add_30 : decode prog_3_method_4_code 30 = .ok (.iload_n 3, 1) := by decide +kernel
theorem d_Fleet_add_31 : decode prog_3_method_4_code 31 = .ok (.iconst (-1), 1) := by decide +kernel
theorem d_Fleet_add_32 : decode prog_3_method_4_code 32 = .ok (.iastore, 1) := by decide +kernel
theorem d_Fleet_add_33 : decode prog_3_method_4_code 33 = .ok (.aload_n 0, 1) := by decide +kernel
theorem d_Fleet_add_34 : decode prog_3_method_4_code 34 = .ok (.getfield 24, 3) := by decide +kernel
theorem d_Fleet_add_37 : decode prog_3_method_4_code 37 = .ok (.iload_n 3, 1) := by decide +kernel
theorem d_Fleet_add_38 : decode prog_3_method_4_code 38 = .ok (.iload_n 2, 1) := by decide +kernel
theorem d_Fleet_add_39 : decode prog_3_method_4_code 39 = .ok (.iastore, 1) := by decide +kernel
theorem d_Fleet_add_40 : decode prog_3_method_4_code 40 = .ok (.aload_n 0, 1) := by decide +kernel
theorem d_Fleet_add_41 : decode prog_3_method_4_code 41 = .ok (.dup, 1) := by decide +kernel
theorem d_Fleet_add_42 : decode prog_3_method_4_code 42 = .ok (.getfield 33, 3) := by decide +kernel
theorem d_Fleet_add_45 : decode prog_3_method_4_code 45 = .ok (.iconst 1, 1) := by decide +kernel
theorem d_Fleet_add_46 : decode prog_3_method_4_code 46 = .ok (.iadd, 1) := by decide +kernel
theorem d_Fleet_add_47 : decode prog_3_method_4_code 47 = .ok (.putfield 33, 3) := by decide +kernel
theorem d_Fleet_add_50 : decode prog_3_method_4_code 50 = .ok (.iload_n 3, 1) := by decide +kernel
theorem d_Fleet_add_51 : decode prog_3_method_4_code 51 = .ok (.ireturn, 1) := by decide +kernel
theorem d_Fleet_pointOf_0 : decode prog_3_method_5_code 0 = .ok (.aload_n 0, 1) := by decide +kernel
theorem d_Fleet_pointOf_1 : decode prog_3_method_5_code 1 = .ok (.getfield 9, 3) := by decide +kernel
theorem d_Fleet_pointOf_4 : decode prog_3_method_5_code 4 = .ok (.iload_n 1, 1) := by decide +kernel
theorem d_Fleet_pointOf_5 : decode prog_3_method_5_code 5 = .ok (.iaload, 1) := by decide +kernel
theorem d_Fleet_pointOf_6 : decode prog_3_method_5_code 6 = .ok (.ireturn, 1) := by decide +kernel
theorem d_Fleet_pieceOf_0 : decode prog_3_method_6_code 0 = .ok (.aload_n 0, 1) := by decide +kernel
theorem d_Fleet_pieceOf_1 : decode prog_3_method_6_code 1 = .ok (.getfield 15, 3) := by decide +kernel
theorem d_Fleet_pieceOf_4 : decode prog_3_method_6_code 4 = .ok (.iload_n 1, 1) := by decide +kernel
theorem d_Fleet_pieceOf_5 : decode prog_3_method_6_code 5 = .ok (.iaload, 1) := by decide +kernel
theorem d_Fleet_pieceOf_6 : decode prog_3_method_6_code 6 = .ok (.ireturn, 1) := by decide +kernel
theorem d_Fleet_arrivalOf_0 : decode prog_3_method_7_code 0 = .ok (.aload_n 0, 1) := by decide +kernel
theorem d_Fleet_arrivalOf_1 : decode prog_3_method_7_code 1 = .ok (.getfield 18, 3) := by decide +kernel
theorem d_Fleet_arrivalOf_4 : decode prog_3_method_7_code 4 = .ok (.iload_n 1, 1) := by decide +kernel
theorem d_Fleet_arrivalOf_5 : decode prog_3_method_7_code 5 = .ok (.iaload, 1) := by decide +kernel
theorem d_Fleet_arrivalOf_6 : decode prog_3_method_7_code 6 = .ok (.ireturn, 1) := by decide +kernel
theorem d_Fleet_jobOf_0 : decode prog_3_method_8_code 0 = .ok (.aload_n 0, 1) := by decide +kernel
theorem d_Fleet_jobOf_1 : decode prog_3_method_8_code 1 = .ok (.getfield 21, 3) := by decide +kernel
theorem d_Fleet_jobOf_4 : decode prog_3_method_8_code 4 = .ok (.iload_n 1, 1) := by decide +kernel
theorem d_Fleet_jobOf_5 : decode prog_3_method_8_code 5 = .ok (.iaload, 1) := by decide +kernel
theorem d_Fleet_jobOf_6 : decode prog_3_method_8_code 6 = .ok (.ireturn, 1) := by decide +kernel
theorem d_Fleet_chargeOf_0 : decode prog_3_method_9_code 0 = .ok (.aload_n 0, 1) := by decide +kernel
theorem d_Fleet_chargeOf_1 : decode prog_3_method_9_code 1 = .ok (.getfield 24, 3) := by decide +kernel
theorem d_Fleet_chargeOf_4 : decode prog_3_method_9_code 4 = .ok (.iload_n 1, 1) := by decide +kernel
theorem d_Fleet_chargeOf_5 : decode prog_3_method_9_code 5 = .ok (.iaload, 1) := by decide +kernel
theorem d_Fleet_chargeOf_6 : decode prog_3_method_9_code 6 = .ok (.ireturn, 1) := by decide +kernel
theorem d_Fleet_endedBy_0 : decode prog_3_method_10_code 0 = .ok (.aload_n 0, 1) := by decide +kernel
theorem d_Fleet_endedBy_1 : decode prog_3_method_10_code 1 = .ok (.getfield 27, 3) := by decide +kernel
theorem d_Fleet_endedBy_4 : decode prog_3_method_10_code 4 = .ok (.iload_n 1, 1) := by decide +kernel
theorem d_Fleet_endedBy_5 : decode prog_3_method_10_code 5 = .ok (.iaload, 1) := by decide +kernel
theorem d_Fleet_endedBy_6 : decode prog_3_method_10_code 6 = .ok (.ireturn, 1) := by decide +kernel
theorem d_Fleet_emptyTimeOf_0 : decode prog_3_method_11_code 0 = .ok (.aload_n 0, 1) := by decide +kernel
theorem d_Fleet_emptyTimeOf_1 : decode prog_3_method_11_code 1 = .ok (.getfield 30, 3) := by decide +kernel
theorem d_Fleet_emptyTimeOf_4 : decode prog_3_method_11_code 4 = .ok (.iload_n 1, 1) := by decide +kernel
theorem d_Fleet_emptyTimeOf_5 : decode prog_3_method_11_code 5 = .ok (.iaload, 1) := by decide +kernel
theorem d_Fleet_emptyTimeOf_6 : decode prog_3_method_11_code 6 = .ok (.ireturn, 1) := by decide +kernel
theorem d_Fleet_isOnPiece_0 : decode prog_3_method_12_code 0 = .ok (.aload_n 0, 1) := by decide +kernel
theorem d_Fleet_isOnPiece_1 : decode prog_3_method_12_code 1 = .ok (.getfield 15, 3) := by decide +kernel
theorem d_Fleet_isOnPiece_4 : decode prog_3_method_12_code 4 = .ok (.iload_n 1, 1) := by decide +kernel
theorem d_Fleet_isOnPiece_5 : decode prog_3_method_12_code 5 = .ok (.iaload, 1) := by decide +kernel
theorem d_Fleet_isOnPiece_6 : decode prog_3_method_12_code 6 = .ok (.iconst (-1), 1) := by decide +kernel
theorem d_Fleet_isOnPiece_7 : decode prog_3_method_12_code 7 = .ok (.if_icmp .eq 7, 3) := by decide +kernel
theorem d_Fleet_isOnPiece_10 : decode prog_3_method_12_code 10 = .ok (.iconst 1, 1) := by decide +kernel
theorem d_Fleet_isOnPiece_11 : decode prog_3_method_12_code 11 = .ok (.goto 4, 3) := by decide +kernel
theorem d_Fleet_isOnPiece_14 : decode prog_3_method_12_code 14 = .ok (.iconst 0, 1) := by decide +kernel
theorem d_Fleet_isOnPiece_15 : decode prog_3_method_12_code 15 = .ok (.ireturn, 1) := by decide +kernel
theorem d_Fleet_isIdle_0 : decode prog_3_method_13_code 0 = .ok (.aload_n 0, 1) := by decide +kernel
theorem d_Fleet_isIdle_1 : decode prog_3_method_13_code 1 = .ok (.iload_n 1, 1) := by decide +kernel
theorem d_Fleet_isIdle_2 : decode prog_3_method_13_code 2 = .ok (.invokevirtual 37, 3) := by decide +kernel
theorem d_Fleet_isIdle_5 : decode prog_3_method_13_code 5 = .ok (.ifCond .ne 17, 3) := by decide +kernel
theorem d_Fleet_isIdle_8 : decode prog_3_method_13_code 8 = .ok (.aload_n 0, 1) := by decide +kernel
theorem d_Fleet_isIdle_9 : decode prog_3_method_13_code 9 = .ok (.getfield 21, 3) := by decide +kernel
theorem d_Fleet_isIdle_12 : decode prog_3_method_13_code 12 = .ok (.iload_n 1, 1) := by decide +kernel
theorem d_Fleet_isIdle_13 : decode prog_3_method_13_code 13 = .ok (.iaload, 1) := by decide +kernel
theorem d_Fleet_isIdle_14 : decode prog_3_method_13_code 14 = .ok (.iconst (-1), 1) := by decide +kernel
theorem d_Fleet_isIdle_15 : decode prog_3_method_13_code 15 = .ok (.if_icmp .ne 7, 3) := by decide +kernel
theorem d_Fleet_isIdle_18 : decode prog_3_method_13_code 18 = .ok (.iconst 1, 1) := by decide +kernel
theorem d_Fleet_isIdle_19 : decode prog_3_method_13_code 19 = .ok (.goto 4, 3) := by decide +kernel
theorem d_Fleet_isIdle_22 : decode prog_3_method_13_code 22 = .ok (.iconst 0, 1) := by decide +kernel
theorem d_Fleet_isIdle_23 : decode prog_3_method_13_code 23 = .ok (.ireturn, 1) := by decide +kernel
theorem d_Fleet_isTaken_0 : decode prog_3_method_14_code 0 = .ok (.iconst 0, 1) := by decide +kernel
theorem d_Fleet_isTaken_1 : decode prog_3_method_14_code 1 = .ok (.istore_n 2, 1) := by decide +kernel
theorem d_Fleet_isTaken_2 : decode prog_3_method_14_code 2 = .ok (.iload_n 2, 1) := by decide +kernel
theorem d_Fleet_isTaken_3 : decode prog_3_method_14_code 3 = .ok (.aload_n 0, 1) := by decide +kernel
theorem d_Fleet_isTaken_4 : decode prog_3_method_14_code 4 = .ok (.getfield 33, 3) := by decide +kernel
theorem d_Fleet_isTaken_7 : decode prog_3_method_14_code 7 = .ok (.if_icmp .ge 21, 3) := by decide +kernel
theorem d_Fleet_isTaken_10 : decode prog_3_method_14_code 10 = .ok (.aload_n 0, 1) := by decide +kernel
theorem d_Fleet_isTaken_11 : decode prog_3_method_14_code 11 = .ok (.getfield 15, 3) := by decide +kernel
theorem d_Fleet_isTaken_14 : decode prog_3_method_14_code 14 = .ok (.iload_n 2, 1) := by decide +kernel
theorem d_Fleet_isTaken_15 : decode prog_3_method_14_code 15 = .ok (.iaload, 1) := by decide +kernel
theorem d_Fleet_isTaken_16 : decode prog_3_method_14_code 16 = .ok (.iload_n 1, 1) := by decide +kernel
theorem d_Fleet_isTaken_17 : decode prog_3_method_14_code 17 = .ok (.if_icmp .ne 5, 3) := by decide +kernel
theorem d_Fleet_isTaken_20 : decode prog_3_method_14_code 20 = .ok (.iconst 1, 1) := by decide +kernel
theorem d_Fleet_isTaken_21 : decode prog_3_method_14_code 21 = .ok (.ireturn, 1) := by decide +kernel
theorem d_Fleet_isTaken_22 : decode prog_3_method_14_code 22 = .ok (.iinc 2 1, 3) := by decide +kernel
theorem d_Fleet_isTaken_25 : decode prog_3_method_14_code 25 = .ok (.goto (-23), 3) := by decide +kernel
theorem d_Fleet_isTaken_28 : decode prog_3_method_14_code 28 = .ok (.iconst 0, 1) := by decide +kernel
theorem d_Fleet_isTaken_29 : decode prog_3_method_14_code 29 = .ok (.ireturn, 1) := by decide +kernel
theorem d_Fleet_boundFor_0 : decode prog_3_method_15_code 0 = .ok (.iconst 0, 1) := by decide +kernel
theorem d_Fleet_boundFor_1 : decode prog_3_method_15_code 1 = .ok (.istore_n 2, 1) := by decide +kernel
theorem d_Fleet_boundFor_2 : decode prog_3_method_15_code 2 = .ok (.iconst 0, 1) := by decide +kernel
theorem d_Fleet_boundFor_3 : decode prog_3_method_15_code 3 = .ok (.istore_n 3, 1) := by decide +kernel
theorem d_Fleet_boundFor_4 : decode prog_3_method_15_code 4 = .ok (.iload_n 3, 1) := by decide +kernel
theorem d_Fleet_boundFor_5 : decode prog_3_method_15_code 5 = .ok (.aload_n 0, 1) := by decide +kernel
theorem d_Fleet_boundFor_6 : decode prog_3_method_15_code 6 = .ok (.getfield 33, 3) := by decide +kernel
theorem d_Fleet_boundFor_9 : decode prog_3_method_15_code 9 = .ok (.if_icmp .ge 22, 3) := by decide +kernel
theorem d_Fleet_boundFor_12 : decode prog_3_method_15_code 12 = .ok (.aload_n 0, 1) := by decide +kernel
theorem d_Fleet_boundFor_13 : decode prog_3_method_15_code 13 = .ok (.getfield 9, 3) := by decide +kernel
theorem d_Fleet_boundFor_16 : decode prog_3_method_15_code 16 = .ok (.iload_n 3, 1) := by decide +kernel
theorem d_Fleet_boundFor_17 : decode prog_3_method_15_code 17 = .ok (.iaload, 1) := by decide +kernel
theorem d_Fleet_boundFor_18 : decode prog_3_method_15_code 18 = .ok (.iload_n 1, 1) := by decide +kernel
theorem d_Fleet_boundFor_19 : decode prog_3_method_15_code 19 = .ok (.if_icmp .ne 6, 3) := by decide +kernel
theorem d_Fleet_boundFor_22 : decode prog_3_method_15_code 22 = .ok (.iinc 2 1, 3) := by decide +kernel
theorem d_Fleet_boundFor_25 : decode prog_3_method_15_code 25 = .ok (.iinc 3 1, 3) := by decide +kernel
theorem d_Fleet_boundFor_28 : decode prog_3_method_15_code 28 = .ok (.goto (-24), 3) := by decide +kernel
theorem d_Fleet_boundFor_31 : decode prog_3_method_15_code 31 = .ok (.iload_n 2, 1) := by decide +kernel
theorem d_Fleet_boundFor_32 : decode prog_3_method_15_code 32 = .ok (.ireturn, 1) := by decide +kernel
theorem d_Fleet_onPieces_0 : decode prog_3_method_16_code 0 = .ok (.iconst 0, 1) := by decide +kernel
theorem d_Fleet_onPieces_1 : decode prog_3_method_16_code 1 = .ok (.istore_n 1, 1) := by decide +kernel
theorem d_Fleet_onPieces_2 : decode prog_3_method_16_code 2 = .ok (.iconst 0, 1) := by decide +kernel
theorem d_Fleet_onPieces_3 : decode prog_3_method_16_code 3 = .ok (.istore_n 2, 1) := by decide +kernel
theorem d_Fleet_onPieces_4 : decode prog_3_method_16_code 4 = .ok (.iload_n 2, 1) := by decide +kernel
theorem d_Fleet_onPieces_5 : decode prog_3_method_16_code 5 = .ok (.aload_n 0, 1) := by decide +kernel
theorem d_Fleet_onPieces_6 : decode prog_3_method_16_code 6 = .ok (.getfield 33, 3) := by decide +kernel
theorem d_Fleet_onPieces_9 : decode prog_3_method_16_code 9 = .ok (.if_icmp .ge 20, 3) := by decide +kernel
theorem d_Fleet_onPieces_12 : decode prog_3_method_16_code 12 = .ok (.aload_n 0, 1) := by decide +kernel
theorem d_Fleet_onPieces_13 : decode prog_3_method_16_code 13 = .ok (.iload_n 2, 1) := by decide +kernel
theorem d_Fleet_onPieces_14 : decode prog_3_method_16_code 14 = .ok (.invokevirtual 37, 3) := by decide +kernel
theorem d_Fleet_onPieces_17 : decode prog_3_method_16_code 17 = .ok (.ifCond .eq 6, 3) := by decide +kernel
theorem d_Fleet_onPieces_20 : decode prog_3_method_16_code 20 = .ok (.iinc 1 1, 3) := by decide +kernel
theorem d_Fleet_onPieces_23 : decode prog_3_method_16_code 23 = .ok (.iinc 2 1, 3) := by decide +kernel
theorem d_Fleet_onPieces_26 : decode prog_3_method_16_code 26 = .ok (.goto (-22), 3) := by decide +kernel
theorem d_Fleet_onPieces_29 : decode prog_3_method_16_code 29 = .ok (.iload_n 1, 1) := by decide +kernel
theorem d_Fleet_onPieces_30 : decode prog_3_method_16_code 30 = .ok (.ireturn, 1) := by decide +kernel
theorem d_Fleet_takeJob_0 : decode prog_3_method_17_code 0 = .ok (.aload_n 0, 1) := by decide +kernel
theorem d_Fleet_takeJob_1 : decode prog_3_method_17_code 1 = .ok (.getfield 21, 3) := by decide +kernel
theorem d_Fleet_takeJob_4 : decode prog_3_method_17_code 4 = .ok (.iload_n 1, 1) := by decide +kernel
theorem d_Fleet_takeJob_5 : decode prog_3_method_17_code 5 = .ok (.iload_n 2, 1) := by decide +kernel
theorem d_Fleet_takeJob_6 : decode prog_3_method_17_code 6 = .ok (.iastore, 1) := by decide +kernel
theorem d_Fleet_takeJob_7 : decode prog_3_method_17_code 7 = .ok (.return_, 1) := by decide +kernel
theorem d_Fleet_endJob_0 : decode prog_3_method_18_code 0 = .ok (.aload_n 0, 1) := by decide +kernel
theorem d_Fleet_endJob_1 : decode prog_3_method_18_code 1 = .ok (.getfield 21, 3) := by decide +kernel
theorem d_Fleet_endJob_4 : decode prog_3_method_18_code 4 = .ok (.iload_n 1, 1) := by decide +kernel
theorem d_Fleet_endJob_5 : decode prog_3_method_18_code 5 = .ok (.iconst (-1), 1) := by decide +kernel
theorem d_Fleet_endJob_6 : decode prog_3_method_18_code 6 = .ok (.iastore, 1) := by decide +kernel
theorem d_Fleet_endJob_7 : decode prog_3_method_18_code 7 = .ok (.aload_n 0, 1) := by decide +kernel
theorem d_Fleet_endJob_8 : decode prog_3_method_18_code 8 = .ok (.getfield 27, 3) := by decide +kernel
theorem d_Fleet_endJob_11 : decode prog_3_method_18_code 11 = .ok (.iload_n 1, 1) := by decide +kernel
theorem d_Fleet_endJob_12 : decode prog_3_method_18_code 12 = .ok (.dup2, 1) := by decide +kernel
theorem d_Fleet_endJob_13 : decode prog_3_method_18_code 13 = .ok (.iaload, 1) := by decide +kernel
theorem d_Fleet_endJob_14 : decode prog_3_method_18_code 14 = .ok (.iconst 1, 1) := by decide +kernel
theorem d_Fleet_endJob_15 : decode prog_3_method_18_code 15 = .ok (.iadd, 1) := by decide +kernel
theorem d_Fleet_endJob_16 : decode prog_3_method_18_code 16 = .ok (.iastore, 1) := by decide +kernel
theorem d_Fleet_endJob_17 : decode prog_3_method_18_code 17 = .ok (.return_, 1) := by decide +kernel
theorem d_Fleet_chargeUp_0 : decode prog_3_method_19_code 0 = .ok (.aload_n 0, 1) := by decide +kernel
theorem d_Fleet_chargeUp_1 : decode prog_3_method_19_code 1 = .ok (.getfield 24, 3) := by decide +kernel
theorem d_Fleet_chargeUp_4 : decode prog_3_method_19_code 4 = .ok (.iload_n 1, 1) := by decide +kernel
theorem d_Fleet_chargeUp_5 : decode prog_3_method_19_code 5 = .ok (.sipush 1000, 3) := by decide +kernel
theorem d_Fleet_chargeUp_8 : decode prog_3_method_19_code 8 = .ok (.iastore, 1) := by decide +kernel
theorem d_Fleet_chargeUp_9 : decode prog_3_method_19_code 9 = .ok (.return_, 1) := by decide +kernel
theorem d_Fleet_enter_0 : decode prog_3_method_20_code 0 = .ok (.aload_n 0, 1) := by decide +kernel
theorem d_Fleet_enter_1 : decode prog_3_method_20_code 1 = .ok (.getfield 15, 3) := by decide +kernel
theorem d_Fleet_enter_4 : decode prog_3_method_20_code 4 = .ok (.iload_n 1, 1) := by decide +kernel
theorem d_Fleet_enter_5 : decode prog_3_method_20_code 5 = .ok (.iload_n 2, 1) := by decide +kernel
theorem d_Fleet_enter_6 : decode prog_3_method_20_code 6 = .ok (.iastore, 1) := by decide +kernel
theorem d_Fleet_enter_7 : decode prog_3_method_20_code 7 = .ok (.aload_n 0, 1) := by decide +kernel
theorem d_Fleet_enter_8 : decode prog_3_method_20_code 8 = .ok (.getfield 9, 3) := by decide +kernel
theorem d_Fleet_enter_11 : decode prog_3_method_20_code 11 = .ok (.iload_n 1, 1) := by decide +kernel
theorem d_Fleet_enter_12 : decode prog_3_method_20_code 12 = .ok (.iload_n 3, 1) := by decide +kernel
theorem d_Fleet_enter_13 : decode prog_3_method_20_code 13 = .ok (.iastore, 1) := by decide +kernel
theorem d_Fleet_enter_14 : decode prog_3_method_20_code 14 = .ok (.aload_n 0, 1) := by decide +kernel
theorem d_Fleet_enter_15 : decode prog_3_method_20_code 15 = .ok (.getfield 18, 3) := by decide +kernel
theorem d_Fleet_enter_18 : decode prog_3_method_20_code 18 = .ok (.iload_n 1, 1) := by decide +kernel
theorem d_Fleet_enter_19 : decode prog_3_method_20_code 19 = .ok (.iload 5, 2) := by decide +kernel
theorem d_Fleet_enter_21 : decode prog_3_method_20_code 21 = .ok (.iload 4, 2) := by decide +kernel
theorem d_Fleet_enter_23 : decode prog_3_method_20_code 23 = .ok (.iadd, 1) := by decide +kernel
theorem d_Fleet_enter_24 : decode prog_3_method_20_code 24 = .ok (.iastore, 1) := by decide +kernel
theorem d_Fleet_enter_25 : decode prog_3_method_20_code 25 = .ok (.aload_n 0, 1) := by decide +kernel
theorem d_Fleet_enter_26 : decode prog_3_method_20_code 26 = .ok (.getfield 24, 3) := by decide +kernel
theorem d_Fleet_enter_29 : decode prog_3_method_20_code 29 = .ok (.iload_n 1, 1) := by decide +kernel
theorem d_Fleet_enter_30 : decode prog_3_method_20_code 30 = .ok (.dup2, 1) := by decide +kernel
theorem d_Fleet_enter_31 : decode prog_3_method_20_code 31 = .ok (.iaload, 1) := by decide +kernel
theorem d_Fleet_enter_32 : decode prog_3_method_20_code 32 = .ok (.iload 4, 2) := by decide +kernel
theorem d_Fleet_enter_34 : decode prog_3_method_20_code 34 = .ok (.isub, 1) := by decide +kernel
theorem d_Fleet_enter_35 : decode prog_3_method_20_code 35 = .ok (.iastore, 1) := by decide +kernel
theorem d_Fleet_enter_36 : decode prog_3_method_20_code 36 = .ok (.return_, 1) := by decide +kernel
theorem d_Fleet_addEmptyTime_0 : decode prog_3_method_21_code 0 = .ok (.aload_n 0, 1) := by decide +kernel
theorem d_Fleet_addEmptyTime_1 : decode prog_3_method_21_code 1 = .ok (.getfield 30, 3) := by decide +kernel
theorem d_Fleet_addEmptyTime_4 : decode prog_3_method_21_code 4 = .ok (.iload_n 1, 1) := by decide +kernel
theorem d_Fleet_addEmptyTime_5 : decode prog_3_method_21_code 5 = .ok (.dup2, 1) := by decide +kernel
theorem d_Fleet_addEmptyTime_6 : decode prog_3_method_21_code 6 = .ok (.iaload, 1) := by decide +kernel
theorem d_Fleet_addEmptyTime_7 : decode prog_3_method_21_code 7 = .ok (.iload_n 2, 1) := by decide +kernel
theorem d_Fleet_addEmptyTime_8 : decode prog_3_method_21_code 8 = .ok (.iadd, 1) := by decide +kernel
theorem d_Fleet_addEmptyTime_9 : decode prog_3_method_21_code 9 = .ok (.iastore, 1) := by decide +kernel
theorem d_Fleet_addEmptyTime_10 : decode prog_3_method_21_code 10 = .ok (.return_, 1) := by decide +kernel
theorem d_Fleet_arrive_0 : decode prog_3_method_22_code 0 = .ok (.iconst 0, 1) := by decide +kernel
theorem d_Fleet_arrive_1 : decode prog_3_method_22_code 1 = .ok (.istore_n 2, 1) := by decide +kernel
theorem d_Fleet_arrive_2 : decode prog_3_method_22_code 2 = .ok (.iconst 0, 1) := by decide +kernel
theorem d_Fleet_arrive_3 : decode prog_3_method_22_code 3 = .ok (.istore_n 3, 1) := by decide +kernel
theorem d_Fleet_arrive_4 : decode prog_3_method_22_code 4 = .ok (.iload_n 3, 1) := by decide +kernel
theorem d_Fleet_arrive_5 : decode prog_3_method_22_code 5 = .ok (.aload_n 0, 1) := by decide +kernel
theorem d_Fleet_arrive_6 : decode prog_3_method_22_code 6 = .ok (.getfield 33, 3) := by decide +kernel
theorem d_Fleet_arrive_9 : decode prog_3_method_22_code 9 = .ok (.if_icmp .ge 44, 3) := by decide +kernel
theorem d_Fleet_arrive_12 : decode prog_3_method_22_code 12 = .ok (.aload_n 0, 1) := by decide +kernel
theorem d_Fleet_arrive_13 : decode prog_3_method_22_code 13 = .ok (.iload_n 3, 1) := by decide +kernel
theorem d_Fleet_arrive_14 : decode prog_3_method_22_code 14 = .ok (.invokevirtual 37, 3) := by decide +kernel
theorem d_Fleet_arrive_17 : decode prog_3_method_22_code 17 = .ok (.ifCond .eq 30, 3) := by decide +kernel
theorem d_Fleet_arrive_20 : decode prog_3_method_22_code 20 = .ok (.aload_n 0, 1) := by decide +kernel
theorem d_Fleet_arrive_21 : decode prog_3_method_22_code 21 = .ok (.getfield 18, 3) := by decide +kernel
theorem d_Fleet_arrive_24 : decode prog_3_method_22_code 24 = .ok (.iload_n 3, 1) := by decide +kernel
theorem d_Fleet_arrive_25 : decode prog_3_method_22_code 25 = .ok (.iaload, 1) := by decide +kernel
theorem d_Fleet_arrive_26 : decode prog_3_method_22_code 26 = .ok (.iload_n 1, 1) := by decide +kernel
theorem d_Fleet_arrive_27 : decode prog_3_method_22_code 27 = .ok (.if_icmp .gt 20, 3) := by decide +kernel
theorem d_Fleet_arrive_30 : decode prog_3_method_22_code 30 = .ok (.aload_n 0, 1) := by decide +kernel
theorem d_Fleet_arrive_31 : decode prog_3_method_22_code 31 = .ok (.getfield 15, 3) := by decide +kernel
theorem d_Fleet_arrive_34 : decode prog_3_method_22_code 34 = .ok (.iload_n 3, 1) := by decide +kernel
theorem d_Fleet_arrive_35 : decode prog_3_method_22_code 35 = .ok (.iconst (-1), 1) := by decide +kernel
theorem d_Fleet_arrive_36 : decode prog_3_method_22_code 36 = .ok (.iastore, 1) := by decide +kernel
theorem d_Fleet_arrive_37 : decode prog_3_method_22_code 37 = .ok (.aload_n 0, 1) := by decide +kernel
theorem d_Fleet_arrive_38 : decode prog_3_method_22_code 38 = .ok (.getfield 18, 3) := by decide +kernel
theorem d_Fleet_arrive_41 : decode prog_3_method_22_code 41 = .ok (.iload_n 3, 1) := by decide +kernel
theorem d_Fleet_arrive_42 : decode prog_3_method_22_code 42 = .ok (.iconst (-1), 1) := by decide +kernel
theorem d_Fleet_arrive_43 : decode prog_3_method_22_code 43 = .ok (.iastore, 1) := by decide +kernel
theorem d_Fleet_arrive_44 : decode prog_3_method_22_code 44 = .ok (.iinc 2 1, 3) := by decide +kernel
theorem d_Fleet_arrive_47 : decode prog_3_method_22_code 47 = .ok (.iinc 3 1, 3) := by decide +kernel
theorem d_Fleet_arrive_50 : decode prog_3_method_22_code 50 = .ok (.goto (-46), 3) := by decide +kernel
theorem d_Fleet_arrive_53 : decode prog_3_method_22_code 53 = .ok (.iload_n 2, 1) := by decide +kernel
theorem d_Fleet_arrive_54 : decode prog_3_method_22_code 54 = .ok (.ireturn, 1) := by decide +kernel
end
section
def W_Fleet (ad : Nat → Nat) (cI cZ : ClassId) (σ : Sg) : va_W :=
  [(ad 0, .inr (1, [.ref (ad 1), .ref (ad 2), .ref (ad 3), .ref (ad 4), .ref (ad 5), .ref (ad 6), .ref (ad 7), .int (σ 0 7)])),
   (ad 1, .inl (cI, 6, .inl (σ 1))),
   (ad 2, .inl (cI, 6, .inl (σ 2))),
   (ad 3, .inl (cI, 6, .inl (σ 3))),
   (ad 4, .inl (cI, 6, .inl (σ 4))),
   (ad 5, .inl (cI, 6, .inl (σ 5))),
   (ad 6, .inl (cI, 6, .inl (σ 6))),
   (ad 7, .inl (cI, 6, .inl (σ 7)))]
theorem D_Fleet {ad : Nat → Nat} {cI cZ : ClassId} {σ : Sg} (inj : Inj ad 8) : va_D (inA ad 8) (W_Fleet ad cI cZ σ) := D_of inj rfl
def q_Fleet_size (σ : Sg) (Q : (Int32 → Prop)) : Prop :=
  Q (σ 0 7)
set_option maxHeartbeats 4000000 in
set_option maxRecDepth 100000 in
theorem t_Fleet_size (l : Launch) (D : va_G) (cI cZ : ClassId) (ad : Nat → Nat) (σ : Sg) (Q : (Int32 → Prop)) (h : q_Fleet_size σ Q) : Met l y_Fleet_size (.code y_Fleet_size prog_3_method_2_code 1 (some .int) :: TG) { frames := 0, cells := 0, slots := 0, locals := 0 } (va_Pc [.ref (ad 0)] (roB D (tysA cI cZ) (W_Fleet ad cI cZ σ))) (vp_Si Q) 0 0 (fun _ => False) := by
  refine Met.ofW (cc := prog_3_method_2_code) (maxL := 1) (ret := (some .int)) (by decide) rfl ?_
  intro p e s m args below meth c s₁ B hml hv
  obtain ⟨rfl, hP, hK⟩ := hv
  have hx := B.exec
  have hb := B.bytes
  have hr := B.returns
  have hts : ∀ w ∈ TG, w.before [.ref (ad 0)].toArray s = true := fun w hw => atoms_spec (ws := .code y_Fleet_size prog_3_method_2_code 1 (some .int) :: TG) B.pre w (List.mem_cons_of_mem _ hw)
  have hown : s.vm.findClass "CarrierPaths$Fleet" = some m.cls := findClass_of_methodNamed B.named
  have hlocks := B.notSynchronized
  have hl := lv_entry ([.ref (ad 0)]) (n := 1) (Nat.le_of_ble_eq_true rfl)
  rw [lg_entry_eq]
  generalize (lg_sl ([.ref (ad 0)]) ++ List.replicate (1 - (lg_sl ([.ref (ad 0)])).length) Slot.unset).toArray = ls at hl ⊢
  have hl : lv_has ls 1 [(0, .ref (ad 0))] := hl
  unfold q_Fleet_size at h
  refine lv_aload_n hx hb d_Fleet_size_0 rfl (lv_at hl 0 rfl) ?_
  refine va_get (D := D) (ci := 1) (v := .int (σ 0 7)) (C := "CarrierPaths$Fleet") (T := F_Fleet) (N := 8) hx hb hts in_Fleet hown hK hP 0 rfl rfl 7 (by decide) (hts _ kw107) (fun _ h9 => h9) rfl d_Fleet_size_1 ?_
  exact W.iret (v := (σ 0 7)) hx hb hr (fun t ht hW => ⟨(σ 0 7), rfl, h, ht⟩) (fun q hq => by cases hq) d_Fleet_size_4
def q_Fleet_has (v1 : Int32) (σ : Sg) (Q : (Int32 → Prop)) : Prop :=
  ((v1 < 0 → Q 0) ∧ (¬ v1 < 0 → (((σ 0 7) ≤ v1 → Q 0) ∧ (¬ (σ 0 7) ≤ v1 → Q 1))))
set_option maxHeartbeats 4000000 in
set_option maxRecDepth 100000 in
theorem t_Fleet_has (l : Launch) (D : va_G) (cI cZ : ClassId) (ad : Nat → Nat) (v1 : Int32) (σ : Sg) (Q : (Int32 → Prop)) (h : q_Fleet_has v1 σ Q) : Met l y_Fleet_has (.code y_Fleet_has prog_3_method_3_code 2 (some .boolean) :: TG) { frames := 0, cells := 0, slots := 0, locals := 0 } (va_Pc [.ref (ad 0), .int v1] (roB D (tysA cI cZ) (W_Fleet ad cI cZ σ))) (vp_Si Q) 0 0 (fun _ => False) := by
  refine Met.ofW (cc := prog_3_method_3_code) (maxL := 2) (ret := (some .boolean)) (by decide) rfl ?_
  intro p e s m args below meth c s₁ B hml hv
  obtain ⟨rfl, hP, hK⟩ := hv
  have hx := B.exec
  have hb := B.bytes
  have hr := B.returns
  have hts : ∀ w ∈ TG, w.before [.ref (ad 0), .int v1].toArray s = true := fun w hw => atoms_spec (ws := .code y_Fleet_has prog_3_method_3_code 2 (some .boolean) :: TG) B.pre w (List.mem_cons_of_mem _ hw)
  have hown : s.vm.findClass "CarrierPaths$Fleet" = some m.cls := findClass_of_methodNamed B.named
  have hlocks := B.notSynchronized
  have hl := lv_entry ([.ref (ad 0), .int v1]) (n := 2) (Nat.le_of_ble_eq_true rfl)
  rw [lg_entry_eq]
  generalize (lg_sl ([.ref (ad 0), .int v1]) ++ List.replicate (2 - (lg_sl ([.ref (ad 0), .int v1])).length) Slot.unset).toArray = ls at hl ⊢
  have hl : lv_has ls 2 [(0, .ref (ad 0)), (1, .int v1)] := hl
  unfold q_Fleet_has at h
  refine lv_iload_n hx hb d_Fleet_has_0 rfl (lv_at hl 1 rfl) ?_
  refine lv_if_lt (tgt := 16) hx hb d_Fleet_has_1 (by decide) (fun hc => ?_) (fun hc => ?_)
  · have h := h.1 hc
    refine lv_iconst (v := 0) hx hb d_Fleet_has_16 (by decide) ?_
    exact W.zret (v := 0) hx hb hr (by decide) (fun t ht hW => ⟨0, rfl, h, ht⟩) (fun q hq => by cases hq) d_Fleet_has_17
  · have h := h.2 hc
    refine lv_iload_n hx hb d_Fleet_has_4 rfl (lv_at hl 1 rfl) ?_
    refine lv_aload_n hx hb d_Fleet_has_5 rfl (lv_at hl 0 rfl) ?_
    refine va_get (D := D) (ci := 1) (v := .int (σ 0 7)) (C := "CarrierPaths$Fleet") (T := F_Fleet) (N := 8) hx hb hts in_Fleet hown hK hP 0 rfl rfl 7 (by decide) (hts _ kw107) (fun _ h9 => h9) rfl d_Fleet_has_6 ?_
    refine lv_icmp_ge (tgt := 16) hx hb d_Fleet_has_9 (by decide) (fun hc => ?_) (fun hc => ?_)
    · have h := h.1 hc
      refine lv_iconst (v := 0) hx hb d_Fleet_has_16 (by decide) ?_
      exact W.zret (v := 0) hx hb hr (by decide) (fun t ht hW => ⟨0, rfl, h, ht⟩) (fun q hq => by cases hq) d_Fleet_has_17
    · have h := h.2 hc
      refine lv_iconst (v := 1) hx hb d_Fleet_has_12 (by decide) ?_
      refine lv_goto (tgt := 17) hx hb d_Fleet_has_13 (by decide) ?_
      exact W.zret (v := 1) hx hb hr (by decide) (fun t ht hW => ⟨1, rfl, h, ht⟩) (fun q hq => by cases hq) d_Fleet_has_17
def q_Fleet_add (v1 v2 : Int32) (σ : Sg) (Q : (Int32 → Sg → Prop)) : Prop :=
  (vp_in (σ 0 7) 6 ∧ (vp_in (σ 0 7) 6 ∧ (vp_in (σ 0 7) 6 ∧ (vp_in (σ 0 7) 6 ∧ (vp_in (σ 0 7) 6 ∧ Q (σ 0 7) (sto (sto (sto (sto (sto (sto σ 1 (σ 0 7).toNatClampNeg v1) 2 (σ 0 7).toNatClampNeg (-1)) 3 (σ 0 7).toNatClampNeg (-1)) 4 (σ 0 7).toNatClampNeg (-1)) 5 (σ 0 7).toNatClampNeg v2) 0 7 (((sto (sto (sto (sto (sto σ 1 (σ 0 7).toNatClampNeg v1) 2 (σ 0 7).toNatClampNeg (-1)) 3 (σ 0 7).toNatClampNeg (-1)) 4 (σ 0 7).toNatClampNeg (-1)) 5 (σ 0 7).toNatClampNeg v2) 0 7) + 1)))))))
set_option maxHeartbeats 4000000 in
set_option maxRecDepth 100000 in
theorem t_Fleet_add (l : Launch) (D : va_G) (cI cZ : ClassId) (ad : Nat → Nat) (inj : Inj ad 8) (v1 v2 : Int32) (σ : Sg) (Q : (Int32 → Sg → Prop)) (h : q_Fleet_add v1 v2 σ Q) : Met l y_Fleet_add (.code y_Fleet_add prog_3_method_4_code 4 (some .int) :: TG) { frames := 0, cells := 0, slots := 0, locals := 0 } (va_Pc [.ref (ad 0), .int v1, .int v2] (roB D (tysA cI cZ) (W_Fleet ad cI cZ σ))) (va_Qi Q (fun u t => va_P D classes (W_Fleet ad cI cZ u) t.heap) (inA ad 8)) 0 0 (inA ad 8) := by
  refine Met.ofW (cc := prog_3_method_4_code) (maxL := 4) (ret := (some .int)) (by decide) rfl ?_
  intro p e s m args below meth c s₁ B hml hv
  obtain ⟨rfl, hP, hK⟩ := hv
  have hx := B.exec
  have hb := B.bytes
  have hr := B.returns
  have hts : ∀ w ∈ TG, w.before [.ref (ad 0), .int v1, .int v2].toArray s = true := fun w hw => atoms_spec (ws := .code y_Fleet_add prog_3_method_4_code 4 (some .int) :: TG) B.pre w (List.mem_cons_of_mem _ hw)
  have hown : s.vm.findClass "CarrierPaths$Fleet" = some m.cls := findClass_of_methodNamed B.named
  have hlocks := B.notSynchronized
  have hS : va_S (inA ad 8) s.heap s.heap [] := va_S.rf
  have hl := lv_entry ([.ref (ad 0), .int v1, .int v2]) (n := 4) (Nat.le_of_ble_eq_true rfl)
  rw [lg_entry_eq]
  generalize (lg_sl ([.ref (ad 0), .int v1, .int v2]) ++ List.replicate (4 - (lg_sl ([.ref (ad 0), .int v1, .int v2])).length) Slot.unset).toArray = ls at hl ⊢
  have hl : lv_has ls 4 [(0, .ref (ad 0)), (1, .int v1), (2, .int v2)] := hl
  unfold q_Fleet_add at h
  refine lv_aload_n hx hb d_Fleet_add_0 rfl (lv_at hl 0 rfl) ?_
  refine va_get (D := D) (ci := 1) (v := .int (σ 0 7)) (C := "CarrierPaths$Fleet") (T := F_Fleet) (N := 8) hx hb hts in_Fleet hown hK hP 0 rfl rfl 7 (by decide) (hts _ kw107) (fun _ h9 => h9) rfl d_Fleet_add_1 ?_
  refine lv_istore_n (lv' := [(3, .int (σ 0 7)), (0, .ref (ad 0)), (1, .int v1), (2, .int v2)]) hx hb d_Fleet_add_4 rfl hl (by decide) rfl (fun ls hl => ?_)
  refine lv_aload_n hx hb d_Fleet_add_5 rfl (lv_at hl 1 rfl) ?_
  refine va_get (D := D) (ci := 1) (v := .ref (ad 1)) (C := "CarrierPaths$Fleet") (T := F_Fleet) (N := 8) hx hb hts in_Fleet hown hK hP 0 rfl rfl 0 (by decide) (hts _ kw100) (fun _ h9 => h9) rfl d_Fleet_add_6 ?_
  refine lv_iload_n hx hb d_Fleet_add_9 rfl (lv_at hl 0 rfl) ?_
  refine lv_iload_n hx hb d_Fleet_add_10 rfl (lv_at hl 2 rfl) ?_
  obtain ⟨hi, h⟩ := h
  refine va_iast hx hb hK hP (D_Fleet inj) hS 1 0 rfl rfl hi d_Fleet_add_11 (fun H locs hP _ hS => ?_)
  have hP : va_P D classes (W_Fleet ad cI cZ (sto σ 1 (σ 0 7).toNatClampNeg v1)) H := hP
  refine lv_aload_n hx hb d_Fleet_add_12 rfl (lv_at hl 1 rfl) ?_
  refine va_get (D := D) (ci := 1) (v := .ref (ad 2)) (C := "CarrierPaths$Fleet") (T := F_Fleet) (N := 8) hx hb hts in_Fleet hown hK hP 0 rfl rfl 1 (by decide) (hts _ kw101) (fun _ h9 => h9) rfl d_Fleet_add_13 ?_
  refine lv_iload_n hx hb d_Fleet_add_16 rfl (lv_at hl 0 rfl) ?_
  refine lv_iconst (v := (-1)) hx hb d_Fleet_add_17 (by decide) ?_
  obtain ⟨hi, h⟩ := h
  refine va_iast hx hb hK hP (D_Fleet inj) hS 2 0 rfl rfl hi d_Fleet_add_18 (fun H locs hP _ hS => ?_)
  have hP : va_P D classes (W_Fleet ad cI cZ (sto (sto σ 1 (σ 0 7).toNatClampNeg v1) 2 (σ 0 7).toNatClampNeg (-1))) H := hP
  refine lv_aload_n hx hb d_Fleet_add_19 rfl (lv_at hl 1 rfl) ?_
  refine va_get (D := D) (ci := 1) (v := .ref (ad 3)) (C := "CarrierPaths$Fleet") (T := F_Fleet) (N := 8) hx hb hts in_Fleet hown hK hP 0 rfl rfl 2 (by decide) (hts _ kw102) (fun _ h9 => h9) rfl d_Fleet_add_20 ?_
  refine lv_iload_n hx hb d_Fleet_add_23 rfl (lv_at hl 0 rfl) ?_
  refine lv_iconst (v := (-1)) hx hb d_Fleet_add_24 (by decide) ?_
  obtain ⟨hi, h⟩ := h
  refine va_iast hx hb hK hP (D_Fleet inj) hS 3 0 rfl rfl hi d_Fleet_add_25 (fun H locs hP _ hS => ?_)
  have hP : va_P D classes (W_Fleet ad cI cZ (sto (sto (sto σ 1 (σ 0 7).toNatClampNeg v1) 2 (σ 0 7).toNatClampNeg (-1)) 3 (σ 0 7).toNatClampNeg (-1))) H := hP
  refine lv_aload_n hx hb d_Fleet_add_26 rfl (lv_at hl 1 rfl) ?_
  refine va_get (D := D) (ci := 1) (v := .ref (ad 4)) (C := "CarrierPaths$Fleet") (T := F_Fleet) (N := 8) hx hb hts in_Fleet hown hK hP 0 rfl rfl 3 (by decide) (hts _ kw103) (fun _ h9 => h9) rfl d_Fleet_add_27 ?_
  refine lv_iload_n hx hb d_Fleet_add_30 rfl (lv_at hl 0 rfl) ?_
  refine lv_iconst (v := (-1)) hx hb d_Fleet_add_31 (by decide) ?_
  obtain ⟨hi, h⟩ := h
  refine va_iast hx hb hK hP (D_Fleet inj) hS 4 0 rfl rfl hi d_Fleet_add_32 (fun H locs hP _ hS => ?_)
  have hP : va_P D classes (W_Fleet ad cI cZ (sto (sto (sto (sto σ 1 (σ 0 7).toNatClampNeg v1) 2 (σ 0 7).toNatClampNeg (-1)) 3 (σ 0 7).toNatClampNeg (-1)) 4 (σ 0 7).toNatClampNeg (-1))) H := hP
  refine lv_aload_n hx hb d_Fleet_add_33 rfl (lv_at hl 1 rfl) ?_
  refine va_get (D := D) (ci := 1) (v := .ref (ad 5)) (C := "CarrierPaths$Fleet") (T := F_Fleet) (N := 8) hx hb hts in_Fleet hown hK hP 0 rfl rfl 4 (by decide) (hts _ kw104) (fun _ h9 => h9) rfl d_Fleet_add_34 ?_
  refine lv_iload_n hx hb d_Fleet_add_37 rfl (lv_at hl 0 rfl) ?_
  refine lv_iload_n hx hb d_Fleet_add_38 rfl (lv_at hl 3 rfl) ?_
  obtain ⟨hi, h⟩ := h
  refine va_iast hx hb hK hP (D_Fleet inj) hS 5 0 rfl rfl hi d_Fleet_add_39 (fun H locs hP _ hS => ?_)
  have hP : va_P D classes (W_Fleet ad cI cZ (sto (sto (sto (sto (sto σ 1 (σ 0 7).toNatClampNeg v1) 2 (σ 0 7).toNatClampNeg (-1)) 3 (σ 0 7).toNatClampNeg (-1)) 4 (σ 0 7).toNatClampNeg (-1)) 5 (σ 0 7).toNatClampNeg v2)) H := hP
  refine lv_aload_n hx hb d_Fleet_add_40 rfl (lv_at hl 1 rfl) ?_
  refine lv_dup hx hb d_Fleet_add_41 rfl ?_
  refine va_get (D := D) (ci := 1) (v := .int ((sto (sto (sto (sto (sto σ 1 (σ 0 7).toNatClampNeg v1) 2 (σ 0 7).toNatClampNeg (-1)) 3 (σ 0 7).toNatClampNeg (-1)) 4 (σ 0 7).toNatClampNeg (-1)) 5 (σ 0 7).toNatClampNeg v2) 0 7)) (C := "CarrierPaths$Fleet") (T := F_Fleet) (N := 8) hx hb hts in_Fleet hown hK hP 0 rfl rfl 7 (by decide) (hts _ kw107) (fun _ h9 => h9) rfl d_Fleet_add_42 ?_
  refine lv_iconst (v := 1) hx hb d_Fleet_add_45 (by decide) ?_
  refine lv_iadd hx hb d_Fleet_add_46 ?_
  refine va_put (D := D) (ci := 1) (v := .int (((sto (sto (sto (sto (sto σ 1 (σ 0 7).toNatClampNeg v1) 2 (σ 0 7).toNatClampNeg (-1)) 3 (σ 0 7).toNatClampNeg (-1)) 4 (σ 0 7).toNatClampNeg (-1)) 5 (σ 0 7).toNatClampNeg v2) 0 7) + 1)) (ty := .int) (C := "CarrierPaths$Fleet") (T := F_Fleet) (N := 8) hx hb hts in_Fleet ty_Fleet ty_Fleet_ok nm_Fleet hown hK hP (D_Fleet inj) hS 0 rfl rfl 7 (by decide) (hts _ kw107) (fun _ h9 => h9) rfl (by decide +kernel) rfl rfl (Nat.le_of_ble_eq_true rfl) d_Fleet_add_47 (fun H locs hP _ hS => ?_)
  have hP : va_P D classes (W_Fleet ad cI cZ (sto (sto (sto (sto (sto (sto σ 1 (σ 0 7).toNatClampNeg v1) 2 (σ 0 7).toNatClampNeg (-1)) 3 (σ 0 7).toNatClampNeg (-1)) 4 (σ 0 7).toNatClampNeg (-1)) 5 (σ 0 7).toNatClampNeg v2) 0 7 (((sto (sto (sto (sto (sto σ 1 (σ 0 7).toNatClampNeg v1) 2 (σ 0 7).toNatClampNeg (-1)) 3 (σ 0 7).toNatClampNeg (-1)) 4 (σ 0 7).toNatClampNeg (-1)) 5 (σ 0 7).toNatClampNeg v2) 0 7) + 1))) H := hP
  refine lv_iload_n hx hb d_Fleet_add_50 rfl (lv_at hl 0 rfl) ?_
  exact W.iret (v := (σ 0 7)) hx hb hr (fun t ht hW => ⟨⟨(σ 0 7), (sto (sto (sto (sto (sto (sto σ 1 (σ 0 7).toNatClampNeg v1) 2 (σ 0 7).toNatClampNeg (-1)) 3 (σ 0 7).toNatClampNeg (-1)) 4 (σ 0 7).toNatClampNeg (-1)) 5 (σ 0 7).toNatClampNeg v2) 0 7 (((sto (sto (sto (sto (sto σ 1 (σ 0 7).toNatClampNeg v1) 2 (σ 0 7).toNatClampNeg (-1)) 3 (σ 0 7).toNatClampNeg (-1)) 4 (σ 0 7).toNatClampNeg (-1)) 5 (σ 0 7).toNatClampNeg v2) 0 7) + 1)), rfl, h, hp_back ht hP⟩, hS.F ht⟩) hS.2.2 d_Fleet_add_51
def q_Fleet_pointOf (v1 : Int32) (σ : Sg) (Q : (Int32 → Prop)) : Prop :=
  (vp_in v1 6 ∧ Q (σ 1 v1.toNatClampNeg))
set_option maxHeartbeats 4000000 in
set_option maxRecDepth 100000 in
theorem t_Fleet_pointOf (l : Launch) (D : va_G) (cI cZ : ClassId) (ad : Nat → Nat) (v1 : Int32) (σ : Sg) (Q : (Int32 → Prop)) (h : q_Fleet_pointOf v1 σ Q) : Met l y_Fleet_pointOf (.code y_Fleet_pointOf prog_3_method_5_code 2 (some .int) :: TG) { frames := 0, cells := 0, slots := 0, locals := 0 } (va_Pc [.ref (ad 0), .int v1] (roB D (tysA cI cZ) (W_Fleet ad cI cZ σ))) (vp_Si Q) 0 0 (fun _ => False) := by
  refine Met.ofW (cc := prog_3_method_5_code) (maxL := 2) (ret := (some .int)) (by decide) rfl ?_
  intro p e s m args below meth c s₁ B hml hv
  obtain ⟨rfl, hP, hK⟩ := hv
  have hx := B.exec
  have hb := B.bytes
  have hr := B.returns
  have hts : ∀ w ∈ TG, w.before [.ref (ad 0), .int v1].toArray s = true := fun w hw => atoms_spec (ws := .code y_Fleet_pointOf prog_3_method_5_code 2 (some .int) :: TG) B.pre w (List.mem_cons_of_mem _ hw)
  have hown : s.vm.findClass "CarrierPaths$Fleet" = some m.cls := findClass_of_methodNamed B.named
  have hlocks := B.notSynchronized
  have hl := lv_entry ([.ref (ad 0), .int v1]) (n := 2) (Nat.le_of_ble_eq_true rfl)
  rw [lg_entry_eq]
  generalize (lg_sl ([.ref (ad 0), .int v1]) ++ List.replicate (2 - (lg_sl ([.ref (ad 0), .int v1])).length) Slot.unset).toArray = ls at hl ⊢
  have hl : lv_has ls 2 [(0, .ref (ad 0)), (1, .int v1)] := hl
  unfold q_Fleet_pointOf at h
  refine lv_aload_n hx hb d_Fleet_pointOf_0 rfl (lv_at hl 0 rfl) ?_
  refine va_get (D := D) (ci := 1) (v := .ref (ad 1)) (C := "CarrierPaths$Fleet") (T := F_Fleet) (N := 8) hx hb hts in_Fleet hown hK hP 0 rfl rfl 0 (by decide) (hts _ kw100) (fun _ h9 => h9) rfl d_Fleet_pointOf_1 ?_
  refine lv_iload_n hx hb d_Fleet_pointOf_4 rfl (lv_at hl 1 rfl) ?_
  obtain ⟨hi, h⟩ := h
  refine va_iald hx hb hK hP 1 0 rfl rfl hi d_Fleet_pointOf_5 ?_
  exact W.iret (v := (σ 1 v1.toNatClampNeg)) hx hb hr (fun t ht hW => ⟨(σ 1 v1.toNatClampNeg), rfl, h, ht⟩) (fun q hq => by cases hq) d_Fleet_pointOf_6
def q_Fleet_pieceOf (v1 : Int32) (σ : Sg) (Q : (Int32 → Prop)) : Prop :=
  (vp_in v1 6 ∧ Q (σ 2 v1.toNatClampNeg))
set_option maxHeartbeats 4000000 in
set_option maxRecDepth 100000 in
theorem t_Fleet_pieceOf (l : Launch) (D : va_G) (cI cZ : ClassId) (ad : Nat → Nat) (v1 : Int32) (σ : Sg) (Q : (Int32 → Prop)) (h : q_Fleet_pieceOf v1 σ Q) : Met l y_Fleet_pieceOf (.code y_Fleet_pieceOf prog_3_method_6_code 2 (some .int) :: TG) { frames := 0, cells := 0, slots := 0, locals := 0 } (va_Pc [.ref (ad 0), .int v1] (roB D (tysA cI cZ) (W_Fleet ad cI cZ σ))) (vp_Si Q) 0 0 (fun _ => False) := by
  refine Met.ofW (cc := prog_3_method_6_code) (maxL := 2) (ret := (some .int)) (by decide) rfl ?_
  intro p e s m args below meth c s₁ B hml hv
  obtain ⟨rfl, hP, hK⟩ := hv
  have hx := B.exec
  have hb := B.bytes
  have hr := B.returns
  have hts : ∀ w ∈ TG, w.before [.ref (ad 0), .int v1].toArray s = true := fun w hw => atoms_spec (ws := .code y_Fleet_pieceOf prog_3_method_6_code 2 (some .int) :: TG) B.pre w (List.mem_cons_of_mem _ hw)
  have hown : s.vm.findClass "CarrierPaths$Fleet" = some m.cls := findClass_of_methodNamed B.named
  have hlocks := B.notSynchronized
  have hl := lv_entry ([.ref (ad 0), .int v1]) (n := 2) (Nat.le_of_ble_eq_true rfl)
  rw [lg_entry_eq]
  generalize (lg_sl ([.ref (ad 0), .int v1]) ++ List.replicate (2 - (lg_sl ([.ref (ad 0), .int v1])).length) Slot.unset).toArray = ls at hl ⊢
  have hl : lv_has ls 2 [(0, .ref (ad 0)), (1, .int v1)] := hl
  unfold q_Fleet_pieceOf at h
  refine lv_aload_n hx hb d_Fleet_pieceOf_0 rfl (lv_at hl 0 rfl) ?_
  refine va_get (D := D) (ci := 1) (v := .ref (ad 2)) (C := "CarrierPaths$Fleet") (T := F_Fleet) (N := 8) hx hb hts in_Fleet hown hK hP 0 rfl rfl 1 (by decide) (hts _ kw101) (fun _ h9 => h9) rfl d_Fleet_pieceOf_1 ?_
  refine lv_iload_n hx hb d_Fleet_pieceOf_4 rfl (lv_at hl 1 rfl) ?_
  obtain ⟨hi, h⟩ := h
  refine va_iald hx hb hK hP 2 0 rfl rfl hi d_Fleet_pieceOf_5 ?_
  exact W.iret (v := (σ 2 v1.toNatClampNeg)) hx hb hr (fun t ht hW => ⟨(σ 2 v1.toNatClampNeg), rfl, h, ht⟩) (fun q hq => by cases hq) d_Fleet_pieceOf_6
def q_Fleet_arrivalOf (v1 : Int32) (σ : Sg) (Q : (Int32 → Prop)) : Prop :=
  (vp_in v1 6 ∧ Q (σ 3 v1.toNatClampNeg))
set_option maxHeartbeats 4000000 in
set_option maxRecDepth 100000 in
theorem t_Fleet_arrivalOf (l : Launch) (D : va_G) (cI cZ : ClassId) (ad : Nat → Nat) (v1 : Int32) (σ : Sg) (Q : (Int32 → Prop)) (h : q_Fleet_arrivalOf v1 σ Q) : Met l y_Fleet_arrivalOf (.code y_Fleet_arrivalOf prog_3_method_7_code 2 (some .int) :: TG) { frames := 0, cells := 0, slots := 0, locals := 0 } (va_Pc [.ref (ad 0), .int v1] (roB D (tysA cI cZ) (W_Fleet ad cI cZ σ))) (vp_Si Q) 0 0 (fun _ => False) := by
  refine Met.ofW (cc := prog_3_method_7_code) (maxL := 2) (ret := (some .int)) (by decide) rfl ?_
  intro p e s m args below meth c s₁ B hml hv
  obtain ⟨rfl, hP, hK⟩ := hv
  have hx := B.exec
  have hb := B.bytes
  have hr := B.returns
  have hts : ∀ w ∈ TG, w.before [.ref (ad 0), .int v1].toArray s = true := fun w hw => atoms_spec (ws := .code y_Fleet_arrivalOf prog_3_method_7_code 2 (some .int) :: TG) B.pre w (List.mem_cons_of_mem _ hw)
  have hown : s.vm.findClass "CarrierPaths$Fleet" = some m.cls := findClass_of_methodNamed B.named
  have hlocks := B.notSynchronized
  have hl := lv_entry ([.ref (ad 0), .int v1]) (n := 2) (Nat.le_of_ble_eq_true rfl)
  rw [lg_entry_eq]
  generalize (lg_sl ([.ref (ad 0), .int v1]) ++ List.replicate (2 - (lg_sl ([.ref (ad 0), .int v1])).length) Slot.unset).toArray = ls at hl ⊢
  have hl : lv_has ls 2 [(0, .ref (ad 0)), (1, .int v1)] := hl
  unfold q_Fleet_arrivalOf at h
  refine lv_aload_n hx hb d_Fleet_arrivalOf_0 rfl (lv_at hl 0 rfl) ?_
  refine va_get (D := D) (ci := 1) (v := .ref (ad 3)) (C := "CarrierPaths$Fleet") (T := F_Fleet) (N := 8) hx hb hts in_Fleet hown hK hP 0 rfl rfl 2 (by decide) (hts _ kw102) (fun _ h9 => h9) rfl d_Fleet_arrivalOf_1 ?_
  refine lv_iload_n hx hb d_Fleet_arrivalOf_4 rfl (lv_at hl 1 rfl) ?_
  obtain ⟨hi, h⟩ := h
  refine va_iald hx hb hK hP 3 0 rfl rfl hi d_Fleet_arrivalOf_5 ?_
  exact W.iret (v := (σ 3 v1.toNatClampNeg)) hx hb hr (fun t ht hW => ⟨(σ 3 v1.toNatClampNeg), rfl, h, ht⟩) (fun q hq => by cases hq) d_Fleet_arrivalOf_6
def q_Fleet_jobOf (v1 : Int32) (σ : Sg) (Q : (Int32 → Prop)) : Prop :=
  (vp_in v1 6 ∧ Q (σ 4 v1.toNatClampNeg))
set_option maxHeartbeats 4000000 in
set_option maxRecDepth 100000 in
theorem t_Fleet_jobOf (l : Launch) (D : va_G) (cI cZ : ClassId) (ad : Nat → Nat) (v1 : Int32) (σ : Sg) (Q : (Int32 → Prop)) (h : q_Fleet_jobOf v1 σ Q) : Met l y_Fleet_jobOf (.code y_Fleet_jobOf prog_3_method_8_code 2 (some .int) :: TG) { frames := 0, cells := 0, slots := 0, locals := 0 } (va_Pc [.ref (ad 0), .int v1] (roB D (tysA cI cZ) (W_Fleet ad cI cZ σ))) (vp_Si Q) 0 0 (fun _ => False) := by
  refine Met.ofW (cc := prog_3_method_8_code) (maxL := 2) (ret := (some .int)) (by decide) rfl ?_
  intro p e s m args below meth c s₁ B hml hv
  obtain ⟨rfl, hP, hK⟩ := hv
  have hx := B.exec
  have hb := B.bytes
  have hr := B.returns
  have hts : ∀ w ∈ TG, w.before [.ref (ad 0), .int v1].toArray s = true := fun w hw => atoms_spec (ws := .code y_Fleet_jobOf prog_3_method_8_code 2 (some .int) :: TG) B.pre w (List.mem_cons_of_mem _ hw)
  have hown : s.vm.findClass "CarrierPaths$Fleet" = some m.cls := findClass_of_methodNamed B.named
  have hlocks := B.notSynchronized
  have hl := lv_entry ([.ref (ad 0), .int v1]) (n := 2) (Nat.le_of_ble_eq_true rfl)
  rw [lg_entry_eq]
  generalize (lg_sl ([.ref (ad 0), .int v1]) ++ List.replicate (2 - (lg_sl ([.ref (ad 0), .int v1])).length) Slot.unset).toArray = ls at hl ⊢
  have hl : lv_has ls 2 [(0, .ref (ad 0)), (1, .int v1)] := hl
  unfold q_Fleet_jobOf at h
  refine lv_aload_n hx hb d_Fleet_jobOf_0 rfl (lv_at hl 0 rfl) ?_
  refine va_get (D := D) (ci := 1) (v := .ref (ad 4)) (C := "CarrierPaths$Fleet") (T := F_Fleet) (N := 8) hx hb hts in_Fleet hown hK hP 0 rfl rfl 3 (by decide) (hts _ kw103) (fun _ h9 => h9) rfl d_Fleet_jobOf_1 ?_
  refine lv_iload_n hx hb d_Fleet_jobOf_4 rfl (lv_at hl 1 rfl) ?_
  obtain ⟨hi, h⟩ := h
  refine va_iald hx hb hK hP 4 0 rfl rfl hi d_Fleet_jobOf_5 ?_
  exact W.iret (v := (σ 4 v1.toNatClampNeg)) hx hb hr (fun t ht hW => ⟨(σ 4 v1.toNatClampNeg), rfl, h, ht⟩) (fun q hq => by cases hq) d_Fleet_jobOf_6
def q_Fleet_chargeOf (v1 : Int32) (σ : Sg) (Q : (Int32 → Prop)) : Prop :=
  (vp_in v1 6 ∧ Q (σ 5 v1.toNatClampNeg))
set_option maxHeartbeats 4000000 in
set_option maxRecDepth 100000 in
theorem t_Fleet_chargeOf (l : Launch) (D : va_G) (cI cZ : ClassId) (ad : Nat → Nat) (v1 : Int32) (σ : Sg) (Q : (Int32 → Prop)) (h : q_Fleet_chargeOf v1 σ Q) : Met l y_Fleet_chargeOf (.code y_Fleet_chargeOf prog_3_method_9_code 2 (some .int) :: TG) { frames := 0, cells := 0, slots := 0, locals := 0 } (va_Pc [.ref (ad 0), .int v1] (roB D (tysA cI cZ) (W_Fleet ad cI cZ σ))) (vp_Si Q) 0 0 (fun _ => False) := by
  refine Met.ofW (cc := prog_3_method_9_code) (maxL := 2) (ret := (some .int)) (by decide) rfl ?_
  intro p e s m args below meth c s₁ B hml hv
  obtain ⟨rfl, hP, hK⟩ := hv
  have hx := B.exec
  have hb := B.bytes
  have hr := B.returns
  have hts : ∀ w ∈ TG, w.before [.ref (ad 0), .int v1].toArray s = true := fun w hw => atoms_spec (ws := .code y_Fleet_chargeOf prog_3_method_9_code 2 (some .int) :: TG) B.pre w (List.mem_cons_of_mem _ hw)
  have hown : s.vm.findClass "CarrierPaths$Fleet" = some m.cls := findClass_of_methodNamed B.named
  have hlocks := B.notSynchronized
  have hl := lv_entry ([.ref (ad 0), .int v1]) (n := 2) (Nat.le_of_ble_eq_true rfl)
  rw [lg_entry_eq]
  generalize (lg_sl ([.ref (ad 0), .int v1]) ++ List.replicate (2 - (lg_sl ([.ref (ad 0), .int v1])).length) Slot.unset).toArray = ls at hl ⊢
  have hl : lv_has ls 2 [(0, .ref (ad 0)), (1, .int v1)] := hl
  unfold q_Fleet_chargeOf at h
  refine lv_aload_n hx hb d_Fleet_chargeOf_0 rfl (lv_at hl 0 rfl) ?_
  refine va_get (D := D) (ci := 1) (v := .ref (ad 5)) (C := "CarrierPaths$Fleet") (T := F_Fleet) (N := 8) hx hb hts in_Fleet hown hK hP 0 rfl rfl 4 (by decide) (hts _ kw104) (fun _ h9 => h9) rfl d_Fleet_chargeOf_1 ?_
  refine lv_iload_n hx hb d_Fleet_chargeOf_4 rfl (lv_at hl 1 rfl) ?_
  obtain ⟨hi, h⟩ := h
  refine va_iald hx hb hK hP 5 0 rfl rfl hi d_Fleet_chargeOf_5 ?_
  exact W.iret (v := (σ 5 v1.toNatClampNeg)) hx hb hr (fun t ht hW => ⟨(σ 5 v1.toNatClampNeg), rfl, h, ht⟩) (fun q hq => by cases hq) d_Fleet_chargeOf_6
def q_Fleet_endedBy (v1 : Int32) (σ : Sg) (Q : (Int32 → Prop)) : Prop :=
  (vp_in v1 6 ∧ Q (σ 6 v1.toNatClampNeg))
set_option maxHeartbeats 4000000 in
set_option maxRecDepth 100000 in
theorem t_Fleet_endedBy (l : Launch) (D : va_G) (cI cZ : ClassId) (ad : Nat → Nat) (v1 : Int32) (σ : Sg) (Q : (Int32 → Prop)) (h : q_Fleet_endedBy v1 σ Q) : Met l y_Fleet_endedBy (.code y_Fleet_endedBy prog_3_method_10_code 2 (some .int) :: TG) { frames := 0, cells := 0, slots := 0, locals := 0 } (va_Pc [.ref (ad 0), .int v1] (roB D (tysA cI cZ) (W_Fleet ad cI cZ σ))) (vp_Si Q) 0 0 (fun _ => False) := by
  refine Met.ofW (cc := prog_3_method_10_code) (maxL := 2) (ret := (some .int)) (by decide) rfl ?_
  intro p e s m args below meth c s₁ B hml hv
  obtain ⟨rfl, hP, hK⟩ := hv
  have hx := B.exec
  have hb := B.bytes
  have hr := B.returns
  have hts : ∀ w ∈ TG, w.before [.ref (ad 0), .int v1].toArray s = true := fun w hw => atoms_spec (ws := .code y_Fleet_endedBy prog_3_method_10_code 2 (some .int) :: TG) B.pre w (List.mem_cons_of_mem _ hw)
  have hown : s.vm.findClass "CarrierPaths$Fleet" = some m.cls := findClass_of_methodNamed B.named
  have hlocks := B.notSynchronized
  have hl := lv_entry ([.ref (ad 0), .int v1]) (n := 2) (Nat.le_of_ble_eq_true rfl)
  rw [lg_entry_eq]
  generalize (lg_sl ([.ref (ad 0), .int v1]) ++ List.replicate (2 - (lg_sl ([.ref (ad 0), .int v1])).length) Slot.unset).toArray = ls at hl ⊢
  have hl : lv_has ls 2 [(0, .ref (ad 0)), (1, .int v1)] := hl
  unfold q_Fleet_endedBy at h
  refine lv_aload_n hx hb d_Fleet_endedBy_0 rfl (lv_at hl 0 rfl) ?_
  refine va_get (D := D) (ci := 1) (v := .ref (ad 6)) (C := "CarrierPaths$Fleet") (T := F_Fleet) (N := 8) hx hb hts in_Fleet hown hK hP 0 rfl rfl 5 (by decide) (hts _ kw105) (fun _ h9 => h9) rfl d_Fleet_endedBy_1 ?_
  refine lv_iload_n hx hb d_Fleet_endedBy_4 rfl (lv_at hl 1 rfl) ?_
  obtain ⟨hi, h⟩ := h
  refine va_iald hx hb hK hP 6 0 rfl rfl hi d_Fleet_endedBy_5 ?_
  exact W.iret (v := (σ 6 v1.toNatClampNeg)) hx hb hr (fun t ht hW => ⟨(σ 6 v1.toNatClampNeg), rfl, h, ht⟩) (fun q hq => by cases hq) d_Fleet_endedBy_6
def q_Fleet_emptyTimeOf (v1 : Int32) (σ : Sg) (Q : (Int32 → Prop)) : Prop :=
  (vp_in v1 6 ∧ Q (σ 7 v1.toNatClampNeg))
set_option maxHeartbeats 4000000 in
set_option maxRecDepth 100000 in
theorem t_Fleet_emptyTimeOf (l : Launch) (D : va_G) (cI cZ : ClassId) (ad : Nat → Nat) (v1 : Int32) (σ : Sg) (Q : (Int32 → Prop)) (h : q_Fleet_emptyTimeOf v1 σ Q) : Met l y_Fleet_emptyTimeOf (.code y_Fleet_emptyTimeOf prog_3_method_11_code 2 (some .int) :: TG) { frames := 0, cells := 0, slots := 0, locals := 0 } (va_Pc [.ref (ad 0), .int v1] (roB D (tysA cI cZ) (W_Fleet ad cI cZ σ))) (vp_Si Q) 0 0 (fun _ => False) := by
  refine Met.ofW (cc := prog_3_method_11_code) (maxL := 2) (ret := (some .int)) (by decide) rfl ?_
  intro p e s m args below meth c s₁ B hml hv
  obtain ⟨rfl, hP, hK⟩ := hv
  have hx := B.exec
  have hb := B.bytes
  have hr := B.returns
  have hts : ∀ w ∈ TG, w.before [.ref (ad 0), .int v1].toArray s = true := fun w hw => atoms_spec (ws := .code y_Fleet_emptyTimeOf prog_3_method_11_code 2 (some .int) :: TG) B.pre w (List.mem_cons_of_mem _ hw)
  have hown : s.vm.findClass "CarrierPaths$Fleet" = some m.cls := findClass_of_methodNamed B.named
  have hlocks := B.notSynchronized
  have hl := lv_entry ([.ref (ad 0), .int v1]) (n := 2) (Nat.le_of_ble_eq_true rfl)
  rw [lg_entry_eq]
  generalize (lg_sl ([.ref (ad 0), .int v1]) ++ List.replicate (2 - (lg_sl ([.ref (ad 0), .int v1])).length) Slot.unset).toArray = ls at hl ⊢
  have hl : lv_has ls 2 [(0, .ref (ad 0)), (1, .int v1)] := hl
  unfold q_Fleet_emptyTimeOf at h
  refine lv_aload_n hx hb d_Fleet_emptyTimeOf_0 rfl (lv_at hl 0 rfl) ?_
  refine va_get (D := D) (ci := 1) (v := .ref (ad 7)) (C := "CarrierPaths$Fleet") (T := F_Fleet) (N := 8) hx hb hts in_Fleet hown hK hP 0 rfl rfl 6 (by decide) (hts _ kw106) (fun _ h9 => h9) rfl d_Fleet_emptyTimeOf_1 ?_
  refine lv_iload_n hx hb d_Fleet_emptyTimeOf_4 rfl (lv_at hl 1 rfl) ?_
  obtain ⟨hi, h⟩ := h
  refine va_iald hx hb hK hP 7 0 rfl rfl hi d_Fleet_emptyTimeOf_5 ?_
  exact W.iret (v := (σ 7 v1.toNatClampNeg)) hx hb hr (fun t ht hW => ⟨(σ 7 v1.toNatClampNeg), rfl, h, ht⟩) (fun q hq => by cases hq) d_Fleet_emptyTimeOf_6
def q_Fleet_isOnPiece (v1 : Int32) (σ : Sg) (Q : (Int32 → Prop)) : Prop :=
  (vp_in v1 6 ∧ (((σ 2 v1.toNatClampNeg) = (-1) → Q 0) ∧ (¬ (σ 2 v1.toNatClampNeg) = (-1) → Q 1)))
set_option maxHeartbeats 4000000 in
set_option maxRecDepth 100000 in
theorem t_Fleet_isOnPiece (l : Launch) (D : va_G) (cI cZ : ClassId) (ad : Nat → Nat) (v1 : Int32) (σ : Sg) (Q : (Int32 → Prop)) (h : q_Fleet_isOnPiece v1 σ Q) : Met l y_Fleet_isOnPiece (.code y_Fleet_isOnPiece prog_3_method_12_code 2 (some .boolean) :: TG) { frames := 0, cells := 0, slots := 0, locals := 0 } (va_Pc [.ref (ad 0), .int v1] (roB D (tysA cI cZ) (W_Fleet ad cI cZ σ))) (vp_Si Q) 0 0 (fun _ => False) := by
  refine Met.ofW (cc := prog_3_method_12_code) (maxL := 2) (ret := (some .boolean)) (by decide) rfl ?_
  intro p e s m args below meth c s₁ B hml hv
  obtain ⟨rfl, hP, hK⟩ := hv
  have hx := B.exec
  have hb := B.bytes
  have hr := B.returns
  have hts : ∀ w ∈ TG, w.before [.ref (ad 0), .int v1].toArray s = true := fun w hw => atoms_spec (ws := .code y_Fleet_isOnPiece prog_3_method_12_code 2 (some .boolean) :: TG) B.pre w (List.mem_cons_of_mem _ hw)
  have hown : s.vm.findClass "CarrierPaths$Fleet" = some m.cls := findClass_of_methodNamed B.named
  have hlocks := B.notSynchronized
  have hl := lv_entry ([.ref (ad 0), .int v1]) (n := 2) (Nat.le_of_ble_eq_true rfl)
  rw [lg_entry_eq]
  generalize (lg_sl ([.ref (ad 0), .int v1]) ++ List.replicate (2 - (lg_sl ([.ref (ad 0), .int v1])).length) Slot.unset).toArray = ls at hl ⊢
  have hl : lv_has ls 2 [(0, .ref (ad 0)), (1, .int v1)] := hl
  unfold q_Fleet_isOnPiece at h
  refine lv_aload_n hx hb d_Fleet_isOnPiece_0 rfl (lv_at hl 0 rfl) ?_
  refine va_get (D := D) (ci := 1) (v := .ref (ad 2)) (C := "CarrierPaths$Fleet") (T := F_Fleet) (N := 8) hx hb hts in_Fleet hown hK hP 0 rfl rfl 1 (by decide) (hts _ kw101) (fun _ h9 => h9) rfl d_Fleet_isOnPiece_1 ?_
  refine lv_iload_n hx hb d_Fleet_isOnPiece_4 rfl (lv_at hl 1 rfl) ?_
  obtain ⟨hi, h⟩ := h
  refine va_iald hx hb hK hP 2 0 rfl rfl hi d_Fleet_isOnPiece_5 ?_
  refine lv_iconst (v := (-1)) hx hb d_Fleet_isOnPiece_6 (by decide) ?_
  refine lv_icmp_eq (tgt := 14) hx hb d_Fleet_isOnPiece_7 (by decide) (fun hc => ?_) (fun hc => ?_)
  · have h := h.1 hc
    refine lv_iconst (v := 0) hx hb d_Fleet_isOnPiece_14 (by decide) ?_
    exact W.zret (v := 0) hx hb hr (by decide) (fun t ht hW => ⟨0, rfl, h, ht⟩) (fun q hq => by cases hq) d_Fleet_isOnPiece_15
  · have h := h.2 hc
    refine lv_iconst (v := 1) hx hb d_Fleet_isOnPiece_10 (by decide) ?_
    refine lv_goto (tgt := 15) hx hb d_Fleet_isOnPiece_11 (by decide) ?_
    exact W.zret (v := 1) hx hb hr (by decide) (fun t ht hW => ⟨1, rfl, h, ht⟩) (fun q hq => by cases hq) d_Fleet_isOnPiece_15
def q_Fleet_isIdle (v1 : Int32) (σ : Sg) (Q : (Int32 → Prop)) : Prop :=
  (q_Fleet_isOnPiece v1 σ (fun r1 => ((r1 = 0 → (vp_in v1 6 ∧ (((σ 4 v1.toNatClampNeg) = (-1) → Q 1) ∧ (¬ (σ 4 v1.toNatClampNeg) = (-1) → Q 0)))) ∧ (¬ r1 = 0 → Q 0))))
set_option maxHeartbeats 4000000 in
set_option maxRecDepth 100000 in
theorem t_Fleet_isIdle (l : Launch) (D : va_G) (cI cZ : ClassId) (ad : Nat → Nat) (v1 : Int32) (σ : Sg) (Q : (Int32 → Prop)) (h : q_Fleet_isIdle v1 σ Q) : Met l y_Fleet_isIdle (.code y_Fleet_isIdle prog_3_method_13_code 2 (some .boolean) :: TG) { frames := 1, cells := 0, slots := 0, locals := 21 } (va_Pc [.ref (ad 0), .int v1] (roB D (tysA cI cZ) (W_Fleet ad cI cZ σ))) (vp_Si Q) 0 0 (fun _ => False) := by
  refine Met.ofW (cc := prog_3_method_13_code) (maxL := 2) (ret := (some .boolean)) (by decide) rfl ?_
  intro p e s m args below meth c s₁ B hml hv
  obtain ⟨rfl, hP, hK⟩ := hv
  have hx := B.exec
  have hb := B.bytes
  have hr := B.returns
  have hts : ∀ w ∈ TG, w.before [.ref (ad 0), .int v1].toArray s = true := fun w hw => atoms_spec (ws := .code y_Fleet_isIdle prog_3_method_13_code 2 (some .boolean) :: TG) B.pre w (List.mem_cons_of_mem _ hw)
  have hown : s.vm.findClass "CarrierPaths$Fleet" = some m.cls := findClass_of_methodNamed B.named
  have hlocks := B.notSynchronized
  have hl := lv_entry ([.ref (ad 0), .int v1]) (n := 2) (Nat.le_of_ble_eq_true rfl)
  rw [lg_entry_eq]
  generalize (lg_sl ([.ref (ad 0), .int v1]) ++ List.replicate (2 - (lg_sl ([.ref (ad 0), .int v1])).length) Slot.unset).toArray = ls at hl ⊢
  have hl : lv_has ls 2 [(0, .ref (ad 0)), (1, .int v1)] := hl
  unfold q_Fleet_isIdle at h
  refine lv_aload_n hx hb d_Fleet_isIdle_0 rfl (lv_at hl 0 rfl) ?_
  refine lv_iload_n hx hb d_Fleet_isIdle_1 rfl (lv_at hl 1 rfl) ?_
  refine vp_callSi (W.runV (As := [.int v1]) (rest := []) ⟨hx, hb, hml, hown, hts⟩ (t_Fleet_isOnPiece l D cI cZ ad v1 σ _ h) (cwV 1 hts (g_of kw266 kw267 kw268 kw6 kw269) rfl rfl rfl (by decide +kernel) ⟨Nat.le_of_ble_eq_true rfl, Nat.le_of_ble_eq_true rfl⟩) (ro_pre hK hP (va_recv hK hP (ci := 1) (q0 := 0) rfl rfl)) rfl rfl hl.1 rfl (lv_room (Nat.le_of_ble_eq_true rfl)) d_Fleet_isIdle_2 ⟨Nat.le_of_ble_eq_true rfl, Nat.le_of_ble_eq_true rfl⟩) (fun r1 h => ?_)
  refine lv_if_ne (tgt := 22) hx hb d_Fleet_isIdle_5 (by decide) (fun hc => ?_) (fun hc => ?_)
  · have h := h.2 hc
    refine lv_iconst (v := 0) hx hb d_Fleet_isIdle_22 (by decide) ?_
    exact W.zret (v := 0) hx hb hr (by decide) (fun t ht hW => ⟨0, rfl, h, ht⟩) (fun q hq => by cases hq) d_Fleet_isIdle_23
  · have h := h.1 hc
    refine lv_aload_n hx hb d_Fleet_isIdle_8 rfl (lv_at hl 0 rfl) ?_
    refine va_get (D := D) (ci := 1) (v := .ref (ad 4)) (C := "CarrierPaths$Fleet") (T := F_Fleet) (N := 8) hx hb hts in_Fleet hown hK hP 0 rfl rfl 3 (by decide) (hts _ kw103) (fun _ h9 => h9) rfl d_Fleet_isIdle_9 ?_
    refine lv_iload_n hx hb d_Fleet_isIdle_12 rfl (lv_at hl 1 rfl) ?_
    obtain ⟨hi, h⟩ := h
    refine va_iald hx hb hK hP 4 0 rfl rfl hi d_Fleet_isIdle_13 ?_
    refine lv_iconst (v := (-1)) hx hb d_Fleet_isIdle_14 (by decide) ?_
    refine lv_icmp_ne (tgt := 22) hx hb d_Fleet_isIdle_15 (by decide) (fun hc => ?_) (fun hc => ?_)
    · have h := h.2 hc
      refine lv_iconst (v := 0) hx hb d_Fleet_isIdle_22 (by decide) ?_
      exact W.zret (v := 0) hx hb hr (by decide) (fun t ht hW => ⟨0, rfl, h, ht⟩) (fun q hq => by cases hq) d_Fleet_isIdle_23
    · have h := h.1 hc
      refine lv_iconst (v := 1) hx hb d_Fleet_isIdle_18 (by decide) ?_
      refine lv_goto (tgt := 23) hx hb d_Fleet_isIdle_19 (by decide) ?_
      exact W.zret (v := 1) hx hb hr (by decide) (fun t ht hW => ⟨1, rfl, h, ht⟩) (fun q hq => by cases hq) d_Fleet_isIdle_23
def q_Fleet_isTaken_b0 (J : Nat → Int32 → Int32 → Prop) (Q : (Int32 → Prop)) (v1 v2 : Int32) (σ : Sg) : Prop :=
  J 1 v1 0
def q_Fleet_isTaken_b1 (J : Nat → Int32 → Int32 → Prop) (Q : (Int32 → Prop)) (v1 v2 : Int32) (σ : Sg) : Prop :=
  (((σ 0 7) ≤ v2 → Q 0) ∧ (¬ (σ 0 7) ≤ v2 → (vp_in v2 6 ∧ (((σ 2 v2.toNatClampNeg) = v1 → Q 1) ∧ (¬ (σ 2 v2.toNatClampNeg) = v1 → J 1 v1 (v2 + 1))))))
def q_Fleet_isTaken_j (Q : (Int32 → Prop)) (σ : Sg) : Nat → Nat → Int32 → Int32 → Prop
  | 0, _, _, _ => False
  | n + 1, 0, v1, v2 => q_Fleet_isTaken_b0 (q_Fleet_isTaken_j Q σ n) Q v1 v2 σ
  | n + 1, 1, v1, v2 => q_Fleet_isTaken_b1 (q_Fleet_isTaken_j Q σ n) Q v1 v2 σ
  | _ + 1, _ + 2, _, _ => False
def q_Fleet_isTaken (v1 : Int32) (σ : Sg) (Q : (Int32 → Prop)) : Prop := q_Fleet_isTaken_j Q σ 4000 0 v1 0
def lc_Fleet_isTaken (ad : Nat → Nat) (b : Nat) (v1 v2 : Int32) : List (Nat × Value) := match b with
  | 0 => [(0, .ref (ad 0)), (1, .int v1)]
  | 1 => [(0, .ref (ad 0)), (1, .int v1), (2, .int v2)]
  | _ => []
def pc_Fleet_isTaken (b : Nat) : Nat := match b with
  | 0 => 0
  | 1 => 2
  | _ => 0
set_option maxHeartbeats 4000000 in
set_option maxRecDepth 100000 in
theorem t_Fleet_isTaken (l : Launch) (D : va_G) (cI cZ : ClassId) (ad : Nat → Nat) (v1 : Int32) (σ : Sg) (Q : (Int32 → Prop)) (h : q_Fleet_isTaken v1 σ Q) : Met l y_Fleet_isTaken (.code y_Fleet_isTaken prog_3_method_14_code 3 (some .boolean) :: TG) { frames := 0, cells := 0, slots := 0, locals := 0 } (va_Pc [.ref (ad 0), .int v1] (roB D (tysA cI cZ) (W_Fleet ad cI cZ σ))) (vp_Si Q) 0 0 (fun _ => False) := by
  refine Met.ofW (cc := prog_3_method_14_code) (maxL := 3) (ret := (some .boolean)) (by decide) rfl ?_
  intro p e s m args below meth c s₁ B hml hv
  obtain ⟨rfl, hP, hK⟩ := hv
  have hx := B.exec
  have hb := B.bytes
  have hr := B.returns
  have hts : ∀ w ∈ TG, w.before [.ref (ad 0), .int v1].toArray s = true := fun w hw => atoms_spec (ws := .code y_Fleet_isTaken prog_3_method_14_code 3 (some .boolean) :: TG) B.pre w (List.mem_cons_of_mem _ hw)
  have hown : s.vm.findClass "CarrierPaths$Fleet" = some m.cls := findClass_of_methodNamed B.named
  have hlocks := B.notSynchronized
  have hl := lv_entry ([.ref (ad 0), .int v1]) (n := 3) (Nat.le_of_ble_eq_true rfl)
  rw [lg_entry_eq]
  generalize (lg_sl ([.ref (ad 0), .int v1]) ++ List.replicate (3 - (lg_sl ([.ref (ad 0), .int v1])).length) Slot.unset).toArray = ls at hl ⊢
  generalize ([.ref (ad 0), .int v1] : List Value).toArray = args at hts ⊢
  have key : ∀ (n b : Nat) (v1 v2 : Int32), q_Fleet_isTaken_j Q σ n b v1 v2 → ∀ ls : Array Slot, lv_has ls 3 (lc_Fleet_isTaken ad b v1 v2) → W p l e (headSpec (.code y_Fleet_isTaken prog_3_method_14_code 3 (some .boolean) :: TG) { frames := 0, cells := 0, slots := 0, locals := 0 }).room s m args below meth c s.heap [] 0 0 (MQ below (vp_Si Q) args s 0 0 (fun _ => False)) (F0 m (pc_Fleet_isTaken b) ls []) := by
    clear h hl
    intro n
    induction n with
    | zero => intro b _ _ h; exact False.elim h
    | succ n ih =>
      intro b v1 v2 h ls hl
      match b, h, hl with
      | 0, h, hl =>
        have h : q_Fleet_isTaken_b0 (q_Fleet_isTaken_j Q σ n) Q v1 v2 σ := h
        have hl : lv_has ls 3 [(0, .ref (ad 0)), (1, .int v1)] := hl
        refine W.eq (g2 := F0 m 0 ls []) rfl ?_
        unfold q_Fleet_isTaken_b0 at h
        refine lv_iconst (v := 0) hx hb d_Fleet_isTaken_0 (by decide) ?_
        refine lv_istore_n (lv' := [(2, .int 0), (0, .ref (ad 0)), (1, .int v1)]) hx hb d_Fleet_isTaken_1 rfl hl (by decide) rfl (fun ls hl => ?_)
        exact ih 1 v1 0 h _ (lv_sub hl [1, 2, 0] rfl)
      | 1, h, hl =>
        have h : q_Fleet_isTaken_b1 (q_Fleet_isTaken_j Q σ n) Q v1 v2 σ := h
        have hl : lv_has ls 3 [(0, .ref (ad 0)), (1, .int v1), (2, .int v2)] := hl
        refine W.eq (g2 := F0 m 2 ls []) rfl ?_
        unfold q_Fleet_isTaken_b1 at h
        refine lv_iload_n hx hb d_Fleet_isTaken_2 rfl (lv_at hl 2 rfl) ?_
        refine lv_aload_n hx hb d_Fleet_isTaken_3 rfl (lv_at hl 0 rfl) ?_
        refine va_get (D := D) (ci := 1) (v := .int (σ 0 7)) (C := "CarrierPaths$Fleet") (T := F_Fleet) (N := 8) hx hb hts in_Fleet hown hK hP 0 rfl rfl 7 (by decide) (hts _ kw107) (fun _ h9 => h9) rfl d_Fleet_isTaken_4 ?_
        refine lv_icmp_ge (tgt := 28) hx hb d_Fleet_isTaken_7 (by decide) (fun hc => ?_) (fun hc => ?_)
        · have h := h.1 hc
          refine lv_iconst (v := 0) hx hb d_Fleet_isTaken_28 (by decide) ?_
          exact W.zret (v := 0) hx hb hr (by decide) (fun t ht hW => ⟨0, rfl, h, ht⟩) (fun q hq => by cases hq) d_Fleet_isTaken_29
        · have h := h.2 hc
          refine lv_aload_n hx hb d_Fleet_isTaken_10 rfl (lv_at hl 0 rfl) ?_
          refine va_get (D := D) (ci := 1) (v := .ref (ad 2)) (C := "CarrierPaths$Fleet") (T := F_Fleet) (N := 8) hx hb hts in_Fleet hown hK hP 0 rfl rfl 1 (by decide) (hts _ kw101) (fun _ h9 => h9) rfl d_Fleet_isTaken_11 ?_
          refine lv_iload_n hx hb d_Fleet_isTaken_14 rfl (lv_at hl 2 rfl) ?_
          obtain ⟨hi, h⟩ := h
          refine va_iald hx hb hK hP 2 0 rfl rfl hi d_Fleet_isTaken_15 ?_
          refine lv_iload_n hx hb d_Fleet_isTaken_16 rfl (lv_at hl 1 rfl) ?_
          refine lv_icmp_ne (tgt := 22) hx hb d_Fleet_isTaken_17 (by decide) (fun hc => ?_) (fun hc => ?_)
          · have h := h.2 hc
            refine lv_iinc (v := (v2 + 1)) (lv' := [(2, .int (v2 + 1)), (0, .ref (ad 0)), (1, .int v1)]) hx hb d_Fleet_isTaken_22 hl (k := 2) rfl rfl (by decide) rfl (fun ls hl => ?_)
            refine lv_goto (tgt := 2) hx hb d_Fleet_isTaken_25 (by decide) ?_
            exact ih 1 v1 (v2 + 1) h _ (lv_sub hl [1, 2, 0] rfl)
          · have h := h.1 hc
            refine lv_iconst (v := 1) hx hb d_Fleet_isTaken_20 (by decide) ?_
            exact W.zret (v := 1) hx hb hr (by decide) (fun t ht hW => ⟨1, rfl, h, ht⟩) (fun q hq => by cases hq) d_Fleet_isTaken_21
      | _ + 2, h, _ => exact False.elim h
  exact key 4000 0 v1 0 h ls hl
def q_Fleet_boundFor_b0 (J : Nat → Int32 → Int32 → Int32 → Prop) (Q : (Int32 → Prop)) (v1 v2 v3 : Int32) (σ : Sg) : Prop :=
  J 1 v1 0 0
def q_Fleet_boundFor_b1 (J : Nat → Int32 → Int32 → Int32 → Prop) (Q : (Int32 → Prop)) (v1 v2 v3 : Int32) (σ : Sg) : Prop :=
  (((σ 0 7) ≤ v3 → Q v2) ∧ (¬ (σ 0 7) ≤ v3 → (vp_in v3 6 ∧ (((σ 1 v3.toNatClampNeg) = v1 → J 1 v1 (v2 + 1) (v3 + 1)) ∧ (¬ (σ 1 v3.toNatClampNeg) = v1 → J 1 v1 v2 (v3 + 1))))))
def q_Fleet_boundFor_j (Q : (Int32 → Prop)) (σ : Sg) : Nat → Nat → Int32 → Int32 → Int32 → Prop
  | 0, _, _, _, _ => False
  | n + 1, 0, v1, v2, v3 => q_Fleet_boundFor_b0 (q_Fleet_boundFor_j Q σ n) Q v1 v2 v3 σ
  | n + 1, 1, v1, v2, v3 => q_Fleet_boundFor_b1 (q_Fleet_boundFor_j Q σ n) Q v1 v2 v3 σ
  | _ + 1, _ + 2, _, _, _ => False
def q_Fleet_boundFor (v1 : Int32) (σ : Sg) (Q : (Int32 → Prop)) : Prop := q_Fleet_boundFor_j Q σ 4000 0 v1 0 0
def lc_Fleet_boundFor (ad : Nat → Nat) (b : Nat) (v1 v2 v3 : Int32) : List (Nat × Value) := match b with
  | 0 => [(0, .ref (ad 0)), (1, .int v1)]
  | 1 => [(0, .ref (ad 0)), (1, .int v1), (2, .int v2), (3, .int v3)]
  | _ => []
def pc_Fleet_boundFor (b : Nat) : Nat := match b with
  | 0 => 0
  | 1 => 4
  | _ => 0
set_option maxHeartbeats 4000000 in
set_option maxRecDepth 100000 in
theorem t_Fleet_boundFor (l : Launch) (D : va_G) (cI cZ : ClassId) (ad : Nat → Nat) (v1 : Int32) (σ : Sg) (Q : (Int32 → Prop)) (h : q_Fleet_boundFor v1 σ Q) : Met l y_Fleet_boundFor (.code y_Fleet_boundFor prog_3_method_15_code 4 (some .int) :: TG) { frames := 0, cells := 0, slots := 0, locals := 0 } (va_Pc [.ref (ad 0), .int v1] (roB D (tysA cI cZ) (W_Fleet ad cI cZ σ))) (vp_Si Q) 0 0 (fun _ => False) := by
  refine Met.ofW (cc := prog_3_method_15_code) (maxL := 4) (ret := (some .int)) (by decide) rfl ?_
  intro p e s m args below meth c s₁ B hml hv
  obtain ⟨rfl, hP, hK⟩ := hv
  have hx := B.exec
  have hb := B.bytes
  have hr := B.returns
  have hts : ∀ w ∈ TG, w.before [.ref (ad 0), .int v1].toArray s = true := fun w hw => atoms_spec (ws := .code y_Fleet_boundFor prog_3_method_15_code 4 (some .int) :: TG) B.pre w (List.mem_cons_of_mem _ hw)
  have hown : s.vm.findClass "CarrierPaths$Fleet" = some m.cls := findClass_of_methodNamed B.named
  have hlocks := B.notSynchronized
  have hl := lv_entry ([.ref (ad 0), .int v1]) (n := 4) (Nat.le_of_ble_eq_true rfl)
  rw [lg_entry_eq]
  generalize (lg_sl ([.ref (ad 0), .int v1]) ++ List.replicate (4 - (lg_sl ([.ref (ad 0), .int v1])).length) Slot.unset).toArray = ls at hl ⊢
  generalize ([.ref (ad 0), .int v1] : List Value).toArray = args at hts ⊢
  have key : ∀ (n b : Nat) (v1 v2 v3 : Int32), q_Fleet_boundFor_j Q σ n b v1 v2 v3 → ∀ ls : Array Slot, lv_has ls 4 (lc_Fleet_boundFor ad b v1 v2 v3) → W p l e (headSpec (.code y_Fleet_boundFor prog_3_method_15_code 4 (some .int) :: TG) { frames := 0, cells := 0, slots := 0, locals := 0 }).room s m args below meth c s.heap [] 0 0 (MQ below (vp_Si Q) args s 0 0 (fun _ => False)) (F0 m (pc_Fleet_boundFor b) ls []) := by
    clear h hl
    intro n
    induction n with
    | zero => intro b _ _ _ h; exact False.elim h
    | succ n ih =>
      intro b v1 v2 v3 h ls hl
      match b, h, hl with
      | 0, h, hl =>
        have h : q_Fleet_boundFor_b0 (q_Fleet_boundFor_j Q σ n) Q v1 v2 v3 σ := h
        have hl : lv_has ls 4 [(0, .ref (ad 0)), (1, .int v1)] := hl
        refine W.eq (g2 := F0 m 0 ls []) rfl ?_
        unfold q_Fleet_boundFor_b0 at h
        refine lv_iconst (v := 0) hx hb d_Fleet_boundFor_0 (by decide) ?_
        refine lv_istore_n (lv' := [(2, .int 0), (0, .ref (ad 0)), (1, .int v1)]) hx hb d_Fleet_boundFor_1 rfl hl (by decide) rfl (fun ls hl => ?_)
        refine lv_iconst (v := 0) hx hb d_Fleet_boundFor_2 (by decide) ?_
        refine lv_istore_n (lv' := [(3, .int 0), (2, .int 0), (0, .ref (ad 0)), (1, .int v1)]) hx hb d_Fleet_boundFor_3 rfl hl (by decide) rfl (fun ls hl => ?_)
        exact ih 1 v1 0 0 h _ (lv_sub hl [2, 3, 1, 0] rfl)
      | 1, h, hl =>
        have h : q_Fleet_boundFor_b1 (q_Fleet_boundFor_j Q σ n) Q v1 v2 v3 σ := h
        have hl : lv_has ls 4 [(0, .ref (ad 0)), (1, .int v1), (2, .int v2), (3, .int v3)] := hl
        refine W.eq (g2 := F0 m 4 ls []) rfl ?_
        unfold q_Fleet_boundFor_b1 at h
        refine lv_iload_n hx hb d_Fleet_boundFor_4 rfl (lv_at hl 3 rfl) ?_
        refine lv_aload_n hx hb d_Fleet_boundFor_5 rfl (lv_at hl 0 rfl) ?_
        refine va_get (D := D) (ci := 1) (v := .int (σ 0 7)) (C := "CarrierPaths$Fleet") (T := F_Fleet) (N := 8) hx hb hts in_Fleet hown hK hP 0 rfl rfl 7 (by decide) (hts _ kw107) (fun _ h9 => h9) rfl d_Fleet_boundFor_6 ?_
        refine lv_icmp_ge (tgt := 31) hx hb d_Fleet_boundFor_9 (by decide) (fun hc => ?_) (fun hc => ?_)
        · have h := h.1 hc
          refine lv_iload_n hx hb d_Fleet_boundFor_31 rfl (lv_at hl 2 rfl) ?_
          exact W.iret (v := v2) hx hb hr (fun t ht hW => ⟨v2, rfl, h, ht⟩) (fun q hq => by cases hq) d_Fleet_boundFor_32
        · have h := h.2 hc
          refine lv_aload_n hx hb d_Fleet_boundFor_12 rfl (lv_at hl 0 rfl) ?_
          refine va_get (D := D) (ci := 1) (v := .ref (ad 1)) (C := "CarrierPaths$Fleet") (T := F_Fleet) (N := 8) hx hb hts in_Fleet hown hK hP 0 rfl rfl 0 (by decide) (hts _ kw100) (fun _ h9 => h9) rfl d_Fleet_boundFor_13 ?_
          refine lv_iload_n hx hb d_Fleet_boundFor_16 rfl (lv_at hl 3 rfl) ?_
          obtain ⟨hi, h⟩ := h
          refine va_iald hx hb hK hP 1 0 rfl rfl hi d_Fleet_boundFor_17 ?_
          refine lv_iload_n hx hb d_Fleet_boundFor_18 rfl (lv_at hl 1 rfl) ?_
          refine lv_icmp_ne (tgt := 25) hx hb d_Fleet_boundFor_19 (by decide) (fun hc => ?_) (fun hc => ?_)
          · have h := h.2 hc
            refine lv_iinc (v := (v3 + 1)) (lv' := [(3, .int (v3 + 1)), (0, .ref (ad 0)), (1, .int v1), (2, .int v2)]) hx hb d_Fleet_boundFor_25 hl (k := 3) rfl rfl (by decide) rfl (fun ls hl => ?_)
            refine lv_goto (tgt := 4) hx hb d_Fleet_boundFor_28 (by decide) ?_
            exact ih 1 v1 v2 (v3 + 1) h _ (lv_sub hl [1, 2, 3, 0] rfl)
          · have h := h.1 hc
            refine lv_iinc (v := (v2 + 1)) (lv' := [(2, .int (v2 + 1)), (0, .ref (ad 0)), (1, .int v1), (3, .int v3)]) hx hb d_Fleet_boundFor_22 hl (k := 2) rfl rfl (by decide) rfl (fun ls hl => ?_)
            refine lv_iinc (v := (v3 + 1)) (lv' := [(3, .int (v3 + 1)), (2, .int (v2 + 1)), (0, .ref (ad 0)), (1, .int v1)]) hx hb d_Fleet_boundFor_25 hl (k := 3) rfl rfl (by decide) rfl (fun ls hl => ?_)
            refine lv_goto (tgt := 4) hx hb d_Fleet_boundFor_28 (by decide) ?_
            exact ih 1 v1 (v2 + 1) (v3 + 1) h _ (lv_sub hl [2, 3, 1, 0] rfl)
      | _ + 2, h, _ => exact False.elim h
  exact key 4000 0 v1 0 0 h ls hl
def q_Fleet_onPieces_b0 (J : Nat → Int32 → Int32 → Prop) (Q : (Int32 → Prop)) (v1 v2 : Int32) (σ : Sg) : Prop :=
  J 1 0 0
def q_Fleet_onPieces_b1 (J : Nat → Int32 → Int32 → Prop) (Q : (Int32 → Prop)) (v1 v2 : Int32) (σ : Sg) : Prop :=
  (((σ 0 7) ≤ v2 → Q v1) ∧ (¬ (σ 0 7) ≤ v2 → (q_Fleet_isOnPiece v2 σ (fun r1 => ((r1 = 0 → J 1 v1 (v2 + 1)) ∧ (¬ r1 = 0 → J 1 (v1 + 1) (v2 + 1)))))))
def q_Fleet_onPieces_j (Q : (Int32 → Prop)) (σ : Sg) : Nat → Nat → Int32 → Int32 → Prop
  | 0, _, _, _ => False
  | n + 1, 0, v1, v2 => q_Fleet_onPieces_b0 (q_Fleet_onPieces_j Q σ n) Q v1 v2 σ
  | n + 1, 1, v1, v2 => q_Fleet_onPieces_b1 (q_Fleet_onPieces_j Q σ n) Q v1 v2 σ
  | _ + 1, _ + 2, _, _ => False
def q_Fleet_onPieces (σ : Sg) (Q : (Int32 → Prop)) : Prop := q_Fleet_onPieces_j Q σ 4000 0 0 0
def lc_Fleet_onPieces (ad : Nat → Nat) (b : Nat) (v1 v2 : Int32) : List (Nat × Value) := match b with
  | 0 => [(0, .ref (ad 0))]
  | 1 => [(0, .ref (ad 0)), (1, .int v1), (2, .int v2)]
  | _ => []
def pc_Fleet_onPieces (b : Nat) : Nat := match b with
  | 0 => 0
  | 1 => 4
  | _ => 0
set_option maxHeartbeats 4000000 in
set_option maxRecDepth 100000 in
theorem t_Fleet_onPieces (l : Launch) (D : va_G) (cI cZ : ClassId) (ad : Nat → Nat) (σ : Sg) (Q : (Int32 → Prop)) (h : q_Fleet_onPieces σ Q) : Met l y_Fleet_onPieces (.code y_Fleet_onPieces prog_3_method_16_code 3 (some .int) :: TG) { frames := 1, cells := 0, slots := 0, locals := 21 } (va_Pc [.ref (ad 0)] (roB D (tysA cI cZ) (W_Fleet ad cI cZ σ))) (vp_Si Q) 0 0 (fun _ => False) := by
  refine Met.ofW (cc := prog_3_method_16_code) (maxL := 3) (ret := (some .int)) (by decide) rfl ?_
  intro p e s m args below meth c s₁ B hml hv
  obtain ⟨rfl, hP, hK⟩ := hv
  have hx := B.exec
  have hb := B.bytes
  have hr := B.returns
  have hts : ∀ w ∈ TG, w.before [.ref (ad 0)].toArray s = true := fun w hw => atoms_spec (ws := .code y_Fleet_onPieces prog_3_method_16_code 3 (some .int) :: TG) B.pre w (List.mem_cons_of_mem _ hw)
  have hown : s.vm.findClass "CarrierPaths$Fleet" = some m.cls := findClass_of_methodNamed B.named
  have hlocks := B.notSynchronized
  have hl := lv_entry ([.ref (ad 0)]) (n := 3) (Nat.le_of_ble_eq_true rfl)
  rw [lg_entry_eq]
  generalize (lg_sl ([.ref (ad 0)]) ++ List.replicate (3 - (lg_sl ([.ref (ad 0)])).length) Slot.unset).toArray = ls at hl ⊢
  generalize ([.ref (ad 0)] : List Value).toArray = args at hts ⊢
  have key : ∀ (n b : Nat) (v1 v2 : Int32), q_Fleet_onPieces_j Q σ n b v1 v2 → ∀ ls : Array Slot, lv_has ls 3 (lc_Fleet_onPieces ad b v1 v2) → W p l e (headSpec (.code y_Fleet_onPieces prog_3_method_16_code 3 (some .int) :: TG) { frames := 1, cells := 0, slots := 0, locals := 21 }).room s m args below meth c s.heap [] 0 0 (MQ below (vp_Si Q) args s 0 0 (fun _ => False)) (F0 m (pc_Fleet_onPieces b) ls []) := by
    clear h hl
    intro n
    induction n with
    | zero => intro b _ _ h; exact False.elim h
    | succ n ih =>
      intro b v1 v2 h ls hl
      match b, h, hl with
      | 0, h, hl =>
        have h : q_Fleet_onPieces_b0 (q_Fleet_onPieces_j Q σ n) Q v1 v2 σ := h
        have hl : lv_has ls 3 [(0, .ref (ad 0))] := hl
        refine W.eq (g2 := F0 m 0 ls []) rfl ?_
        unfold q_Fleet_onPieces_b0 at h
        refine lv_iconst (v := 0) hx hb d_Fleet_onPieces_0 (by decide) ?_
        refine lv_istore_n (lv' := [(1, .int 0), (0, .ref (ad 0))]) hx hb d_Fleet_onPieces_1 rfl hl (by decide) rfl (fun ls hl => ?_)
        refine lv_iconst (v := 0) hx hb d_Fleet_onPieces_2 (by decide) ?_
        refine lv_istore_n (lv' := [(2, .int 0), (1, .int 0), (0, .ref (ad 0))]) hx hb d_Fleet_onPieces_3 rfl hl (by decide) rfl (fun ls hl => ?_)
        exact ih 1 0 0 h _ (lv_sub hl [2, 1, 0] rfl)
      | 1, h, hl =>
        have h : q_Fleet_onPieces_b1 (q_Fleet_onPieces_j Q σ n) Q v1 v2 σ := h
        have hl : lv_has ls 3 [(0, .ref (ad 0)), (1, .int v1), (2, .int v2)] := hl
        refine W.eq (g2 := F0 m 4 ls []) rfl ?_
        unfold q_Fleet_onPieces_b1 at h
        refine lv_iload_n hx hb d_Fleet_onPieces_4 rfl (lv_at hl 2 rfl) ?_
        refine lv_aload_n hx hb d_Fleet_onPieces_5 rfl (lv_at hl 0 rfl) ?_
        refine va_get (D := D) (ci := 1) (v := .int (σ 0 7)) (C := "CarrierPaths$Fleet") (T := F_Fleet) (N := 8) hx hb hts in_Fleet hown hK hP 0 rfl rfl 7 (by decide) (hts _ kw107) (fun _ h9 => h9) rfl d_Fleet_onPieces_6 ?_
        refine lv_icmp_ge (tgt := 29) hx hb d_Fleet_onPieces_9 (by decide) (fun hc => ?_) (fun hc => ?_)
        · have h := h.1 hc
          refine lv_iload_n hx hb d_Fleet_onPieces_29 rfl (lv_at hl 1 rfl) ?_
          exact W.iret (v := v1) hx hb hr (fun t ht hW => ⟨v1, rfl, h, ht⟩) (fun q hq => by cases hq) d_Fleet_onPieces_30
        · have h := h.2 hc
          refine lv_aload_n hx hb d_Fleet_onPieces_12 rfl (lv_at hl 0 rfl) ?_
          refine lv_iload_n hx hb d_Fleet_onPieces_13 rfl (lv_at hl 2 rfl) ?_
          refine vp_callSi (W.runV (As := [.int v2]) (rest := []) ⟨hx, hb, hml, hown, hts⟩ (t_Fleet_isOnPiece l D cI cZ ad v2 σ _ h) (cwV 1 hts (g_of kw266 kw267 kw268 kw6 kw269) rfl rfl rfl (by decide +kernel) ⟨Nat.le_of_ble_eq_true rfl, Nat.le_of_ble_eq_true rfl⟩) (ro_pre hK hP (va_recv hK hP (ci := 1) (q0 := 0) rfl rfl)) rfl rfl hl.1 rfl (lv_room (Nat.le_of_ble_eq_true rfl)) d_Fleet_onPieces_14 ⟨Nat.le_of_ble_eq_true rfl, Nat.le_of_ble_eq_true rfl⟩) (fun r1 h => ?_)
          refine lv_if_eq (tgt := 23) hx hb d_Fleet_onPieces_17 (by decide) (fun hc => ?_) (fun hc => ?_)
          · have h := h.1 hc
            refine lv_iinc (v := (v2 + 1)) (lv' := [(2, .int (v2 + 1)), (0, .ref (ad 0)), (1, .int v1)]) hx hb d_Fleet_onPieces_23 hl (k := 2) rfl rfl (by decide) rfl (fun ls hl => ?_)
            refine lv_goto (tgt := 4) hx hb d_Fleet_onPieces_26 (by decide) ?_
            exact ih 1 v1 (v2 + 1) h _ (lv_sub hl [1, 2, 0] rfl)
          · have h := h.2 hc
            refine lv_iinc (v := (v1 + 1)) (lv' := [(1, .int (v1 + 1)), (0, .ref (ad 0)), (2, .int v2)]) hx hb d_Fleet_onPieces_20 hl (k := 1) rfl rfl (by decide) rfl (fun ls hl => ?_)
            refine lv_iinc (v := (v2 + 1)) (lv' := [(2, .int (v2 + 1)), (1, .int (v1 + 1)), (0, .ref (ad 0))]) hx hb d_Fleet_onPieces_23 hl (k := 2) rfl rfl (by decide) rfl (fun ls hl => ?_)
            refine lv_goto (tgt := 4) hx hb d_Fleet_onPieces_26 (by decide) ?_
            exact ih 1 (v1 + 1) (v2 + 1) h _ (lv_sub hl [2, 1, 0] rfl)
      | _ + 2, h, _ => exact False.elim h
  exact key 4000 0 0 0 h ls hl
def q_Fleet_takeJob (v1 v2 : Int32) (σ : Sg) (Q : (Sg → Prop)) : Prop :=
  (vp_in v1 6 ∧ Q (sto σ 4 v1.toNatClampNeg v2))
set_option maxHeartbeats 4000000 in
set_option maxRecDepth 100000 in
theorem t_Fleet_takeJob (l : Launch) (D : va_G) (cI cZ : ClassId) (ad : Nat → Nat) (inj : Inj ad 8) (v1 v2 : Int32) (σ : Sg) (Q : (Sg → Prop)) (h : q_Fleet_takeJob v1 v2 σ Q) : Met l y_Fleet_takeJob (.code y_Fleet_takeJob prog_3_method_17_code 3 none :: TG) { frames := 0, cells := 0, slots := 0, locals := 0 } (va_Pc [.ref (ad 0), .int v1, .int v2] (roB D (tysA cI cZ) (W_Fleet ad cI cZ σ))) (va_Qv Q (fun u t => va_P D classes (W_Fleet ad cI cZ u) t.heap) (inA ad 8)) 0 0 (inA ad 8) := by
  refine Met.ofW (cc := prog_3_method_17_code) (maxL := 3) (ret := none) (by decide) rfl ?_
  intro p e s m args below meth c s₁ B hml hv
  obtain ⟨rfl, hP, hK⟩ := hv
  have hx := B.exec
  have hb := B.bytes
  have hr := B.returns
  have hts : ∀ w ∈ TG, w.before [.ref (ad 0), .int v1, .int v2].toArray s = true := fun w hw => atoms_spec (ws := .code y_Fleet_takeJob prog_3_method_17_code 3 none :: TG) B.pre w (List.mem_cons_of_mem _ hw)
  have hown : s.vm.findClass "CarrierPaths$Fleet" = some m.cls := findClass_of_methodNamed B.named
  have hlocks := B.notSynchronized
  have hS : va_S (inA ad 8) s.heap s.heap [] := va_S.rf
  have hl := lv_entry ([.ref (ad 0), .int v1, .int v2]) (n := 3) (Nat.le_of_ble_eq_true rfl)
  rw [lg_entry_eq]
  generalize (lg_sl ([.ref (ad 0), .int v1, .int v2]) ++ List.replicate (3 - (lg_sl ([.ref (ad 0), .int v1, .int v2])).length) Slot.unset).toArray = ls at hl ⊢
  have hl : lv_has ls 3 [(0, .ref (ad 0)), (1, .int v1), (2, .int v2)] := hl
  unfold q_Fleet_takeJob at h
  refine lv_aload_n hx hb d_Fleet_takeJob_0 rfl (lv_at hl 0 rfl) ?_
  refine va_get (D := D) (ci := 1) (v := .ref (ad 4)) (C := "CarrierPaths$Fleet") (T := F_Fleet) (N := 8) hx hb hts in_Fleet hown hK hP 0 rfl rfl 3 (by decide) (hts _ kw103) (fun _ h9 => h9) rfl d_Fleet_takeJob_1 ?_
  refine lv_iload_n hx hb d_Fleet_takeJob_4 rfl (lv_at hl 1 rfl) ?_
  refine lv_iload_n hx hb d_Fleet_takeJob_5 rfl (lv_at hl 2 rfl) ?_
  obtain ⟨hi, h⟩ := h
  refine va_iast hx hb hK hP (D_Fleet inj) hS 4 0 rfl rfl hi d_Fleet_takeJob_6 (fun H locs hP _ hS => ?_)
  have hP : va_P D classes (W_Fleet ad cI cZ (sto σ 4 v1.toNatClampNeg v2)) H := hP
  exact W.vret hx hb hr (fun t ht hW => ⟨⟨(sto σ 4 v1.toNatClampNeg v2), rfl, h, hp_back ht hP⟩, hS.F ht⟩) hS.2.2 d_Fleet_takeJob_7
def q_Fleet_endJob (v1 : Int32) (σ : Sg) (Q : (Sg → Prop)) : Prop :=
  (vp_in v1 6 ∧ (vp_in v1 6 ∧ (vp_in v1 6 ∧ Q (sto (sto σ 4 v1.toNatClampNeg (-1)) 6 v1.toNatClampNeg (((sto σ 4 v1.toNatClampNeg (-1)) 6 v1.toNatClampNeg) + 1)))))
set_option maxHeartbeats 4000000 in
set_option maxRecDepth 100000 in
theorem t_Fleet_endJob (l : Launch) (D : va_G) (cI cZ : ClassId) (ad : Nat → Nat) (inj : Inj ad 8) (v1 : Int32) (σ : Sg) (Q : (Sg → Prop)) (h : q_Fleet_endJob v1 σ Q) : Met l y_Fleet_endJob (.code y_Fleet_endJob prog_3_method_18_code 2 none :: TG) { frames := 0, cells := 0, slots := 0, locals := 0 } (va_Pc [.ref (ad 0), .int v1] (roB D (tysA cI cZ) (W_Fleet ad cI cZ σ))) (va_Qv Q (fun u t => va_P D classes (W_Fleet ad cI cZ u) t.heap) (inA ad 8)) 0 0 (inA ad 8) := by
  refine Met.ofW (cc := prog_3_method_18_code) (maxL := 2) (ret := none) (by decide) rfl ?_
  intro p e s m args below meth c s₁ B hml hv
  obtain ⟨rfl, hP, hK⟩ := hv
  have hx := B.exec
  have hb := B.bytes
  have hr := B.returns
  have hts : ∀ w ∈ TG, w.before [.ref (ad 0), .int v1].toArray s = true := fun w hw => atoms_spec (ws := .code y_Fleet_endJob prog_3_method_18_code 2 none :: TG) B.pre w (List.mem_cons_of_mem _ hw)
  have hown : s.vm.findClass "CarrierPaths$Fleet" = some m.cls := findClass_of_methodNamed B.named
  have hlocks := B.notSynchronized
  have hS : va_S (inA ad 8) s.heap s.heap [] := va_S.rf
  have hl := lv_entry ([.ref (ad 0), .int v1]) (n := 2) (Nat.le_of_ble_eq_true rfl)
  rw [lg_entry_eq]
  generalize (lg_sl ([.ref (ad 0), .int v1]) ++ List.replicate (2 - (lg_sl ([.ref (ad 0), .int v1])).length) Slot.unset).toArray = ls at hl ⊢
  have hl : lv_has ls 2 [(0, .ref (ad 0)), (1, .int v1)] := hl
  unfold q_Fleet_endJob at h
  refine lv_aload_n hx hb d_Fleet_endJob_0 rfl (lv_at hl 0 rfl) ?_
  refine va_get (D := D) (ci := 1) (v := .ref (ad 4)) (C := "CarrierPaths$Fleet") (T := F_Fleet) (N := 8) hx hb hts in_Fleet hown hK hP 0 rfl rfl 3 (by decide) (hts _ kw103) (fun _ h9 => h9) rfl d_Fleet_endJob_1 ?_
  refine lv_iload_n hx hb d_Fleet_endJob_4 rfl (lv_at hl 1 rfl) ?_
  refine lv_iconst (v := (-1)) hx hb d_Fleet_endJob_5 (by decide) ?_
  obtain ⟨hi, h⟩ := h
  refine va_iast hx hb hK hP (D_Fleet inj) hS 4 0 rfl rfl hi d_Fleet_endJob_6 (fun H locs hP _ hS => ?_)
  have hP : va_P D classes (W_Fleet ad cI cZ (sto σ 4 v1.toNatClampNeg (-1))) H := hP
  refine lv_aload_n hx hb d_Fleet_endJob_7 rfl (lv_at hl 0 rfl) ?_
  refine va_get (D := D) (ci := 1) (v := .ref (ad 6)) (C := "CarrierPaths$Fleet") (T := F_Fleet) (N := 8) hx hb hts in_Fleet hown hK hP 0 rfl rfl 5 (by decide) (hts _ kw105) (fun _ h9 => h9) rfl d_Fleet_endJob_8 ?_
  refine lv_iload_n hx hb d_Fleet_endJob_11 rfl (lv_at hl 1 rfl) ?_
  refine lv_dup2_11 hx hb d_Fleet_endJob_12 rfl rfl ?_
  obtain ⟨hi, h⟩ := h
  refine va_iald hx hb hK hP 6 0 rfl rfl hi d_Fleet_endJob_13 ?_
  refine lv_iconst (v := 1) hx hb d_Fleet_endJob_14 (by decide) ?_
  refine lv_iadd hx hb d_Fleet_endJob_15 ?_
  obtain ⟨hi, h⟩ := h
  refine va_iast hx hb hK hP (D_Fleet inj) hS 6 0 rfl rfl hi d_Fleet_endJob_16 (fun H locs hP _ hS => ?_)
  have hP : va_P D classes (W_Fleet ad cI cZ (sto (sto σ 4 v1.toNatClampNeg (-1)) 6 v1.toNatClampNeg (((sto σ 4 v1.toNatClampNeg (-1)) 6 v1.toNatClampNeg) + 1))) H := hP
  exact W.vret hx hb hr (fun t ht hW => ⟨⟨(sto (sto σ 4 v1.toNatClampNeg (-1)) 6 v1.toNatClampNeg (((sto σ 4 v1.toNatClampNeg (-1)) 6 v1.toNatClampNeg) + 1)), rfl, h, hp_back ht hP⟩, hS.F ht⟩) hS.2.2 d_Fleet_endJob_17
def q_Fleet_chargeUp (v1 : Int32) (σ : Sg) (Q : (Sg → Prop)) : Prop :=
  (vp_in v1 6 ∧ Q (sto σ 5 v1.toNatClampNeg 1000))
set_option maxHeartbeats 4000000 in
set_option maxRecDepth 100000 in
theorem t_Fleet_chargeUp (l : Launch) (D : va_G) (cI cZ : ClassId) (ad : Nat → Nat) (inj : Inj ad 8) (v1 : Int32) (σ : Sg) (Q : (Sg → Prop)) (h : q_Fleet_chargeUp v1 σ Q) : Met l y_Fleet_chargeUp (.code y_Fleet_chargeUp prog_3_method_19_code 2 none :: TG) { frames := 0, cells := 0, slots := 0, locals := 0 } (va_Pc [.ref (ad 0), .int v1] (roB D (tysA cI cZ) (W_Fleet ad cI cZ σ))) (va_Qv Q (fun u t => va_P D classes (W_Fleet ad cI cZ u) t.heap) (inA ad 8)) 0 0 (inA ad 8) := by
  refine Met.ofW (cc := prog_3_method_19_code) (maxL := 2) (ret := none) (by decide) rfl ?_
  intro p e s m args below meth c s₁ B hml hv
  obtain ⟨rfl, hP, hK⟩ := hv
  have hx := B.exec
  have hb := B.bytes
  have hr := B.returns
  have hts : ∀ w ∈ TG, w.before [.ref (ad 0), .int v1].toArray s = true := fun w hw => atoms_spec (ws := .code y_Fleet_chargeUp prog_3_method_19_code 2 none :: TG) B.pre w (List.mem_cons_of_mem _ hw)
  have hown : s.vm.findClass "CarrierPaths$Fleet" = some m.cls := findClass_of_methodNamed B.named
  have hlocks := B.notSynchronized
  have hS : va_S (inA ad 8) s.heap s.heap [] := va_S.rf
  have hl := lv_entry ([.ref (ad 0), .int v1]) (n := 2) (Nat.le_of_ble_eq_true rfl)
  rw [lg_entry_eq]
  generalize (lg_sl ([.ref (ad 0), .int v1]) ++ List.replicate (2 - (lg_sl ([.ref (ad 0), .int v1])).length) Slot.unset).toArray = ls at hl ⊢
  have hl : lv_has ls 2 [(0, .ref (ad 0)), (1, .int v1)] := hl
  unfold q_Fleet_chargeUp at h
  refine lv_aload_n hx hb d_Fleet_chargeUp_0 rfl (lv_at hl 0 rfl) ?_
  refine va_get (D := D) (ci := 1) (v := .ref (ad 5)) (C := "CarrierPaths$Fleet") (T := F_Fleet) (N := 8) hx hb hts in_Fleet hown hK hP 0 rfl rfl 4 (by decide) (hts _ kw104) (fun _ h9 => h9) rfl d_Fleet_chargeUp_1 ?_
  refine lv_iload_n hx hb d_Fleet_chargeUp_4 rfl (lv_at hl 1 rfl) ?_
  refine lv_sipush (v := 1000) hx hb d_Fleet_chargeUp_5 (by decide) ?_
  obtain ⟨hi, h⟩ := h
  refine va_iast hx hb hK hP (D_Fleet inj) hS 5 0 rfl rfl hi d_Fleet_chargeUp_8 (fun H locs hP _ hS => ?_)
  have hP : va_P D classes (W_Fleet ad cI cZ (sto σ 5 v1.toNatClampNeg 1000)) H := hP
  exact W.vret hx hb hr (fun t ht hW => ⟨⟨(sto σ 5 v1.toNatClampNeg 1000), rfl, h, hp_back ht hP⟩, hS.F ht⟩) hS.2.2 d_Fleet_chargeUp_9
def q_Fleet_enter (v1 v2 v3 v4 v5 : Int32) (σ : Sg) (Q : (Sg → Prop)) : Prop :=
  (vp_in v1 6 ∧ (vp_in v1 6 ∧ (vp_in v1 6 ∧ (vp_in v1 6 ∧ (vp_in v1 6 ∧ Q (sto (sto (sto (sto σ 2 v1.toNatClampNeg v2) 1 v1.toNatClampNeg v3) 3 v1.toNatClampNeg (v5 + v4)) 5 v1.toNatClampNeg (((sto (sto (sto σ 2 v1.toNatClampNeg v2) 1 v1.toNatClampNeg v3) 3 v1.toNatClampNeg (v5 + v4)) 5 v1.toNatClampNeg) - v4)))))))
set_option maxHeartbeats 4000000 in
set_option maxRecDepth 100000 in
theorem t_Fleet_enter (l : Launch) (D : va_G) (cI cZ : ClassId) (ad : Nat → Nat) (inj : Inj ad 8) (v1 v2 v3 v4 v5 : Int32) (σ : Sg) (Q : (Sg → Prop)) (h : q_Fleet_enter v1 v2 v3 v4 v5 σ Q) : Met l y_Fleet_enter (.code y_Fleet_enter prog_3_method_20_code 6 none :: TG) { frames := 0, cells := 0, slots := 0, locals := 0 } (va_Pc [.ref (ad 0), .int v1, .int v2, .int v3, .int v4, .int v5] (roB D (tysA cI cZ) (W_Fleet ad cI cZ σ))) (va_Qv Q (fun u t => va_P D classes (W_Fleet ad cI cZ u) t.heap) (inA ad 8)) 0 0 (inA ad 8) := by
  refine Met.ofW (cc := prog_3_method_20_code) (maxL := 6) (ret := none) (by decide) rfl ?_
  intro p e s m args below meth c s₁ B hml hv
  obtain ⟨rfl, hP, hK⟩ := hv
  have hx := B.exec
  have hb := B.bytes
  have hr := B.returns
  have hts : ∀ w ∈ TG, w.before [.ref (ad 0), .int v1, .int v2, .int v3, .int v4, .int v5].toArray s = true := fun w hw => atoms_spec (ws := .code y_Fleet_enter prog_3_method_20_code 6 none :: TG) B.pre w (List.mem_cons_of_mem _ hw)
  have hown : s.vm.findClass "CarrierPaths$Fleet" = some m.cls := findClass_of_methodNamed B.named
  have hlocks := B.notSynchronized
  have hS : va_S (inA ad 8) s.heap s.heap [] := va_S.rf
  have hl := lv_entry ([.ref (ad 0), .int v1, .int v2, .int v3, .int v4, .int v5]) (n := 6) (Nat.le_of_ble_eq_true rfl)
  rw [lg_entry_eq]
  generalize (lg_sl ([.ref (ad 0), .int v1, .int v2, .int v3, .int v4, .int v5]) ++ List.replicate (6 - (lg_sl ([.ref (ad 0), .int v1, .int v2, .int v3, .int v4, .int v5])).length) Slot.unset).toArray = ls at hl ⊢
  have hl : lv_has ls 6 [(0, .ref (ad 0)), (1, .int v1), (2, .int v2), (3, .int v3), (4, .int v4), (5, .int v5)] := hl
  unfold q_Fleet_enter at h
  refine lv_aload_n hx hb d_Fleet_enter_0 rfl (lv_at hl 0 rfl) ?_
  refine va_get (D := D) (ci := 1) (v := .ref (ad 2)) (C := "CarrierPaths$Fleet") (T := F_Fleet) (N := 8) hx hb hts in_Fleet hown hK hP 0 rfl rfl 1 (by decide) (hts _ kw101) (fun _ h9 => h9) rfl d_Fleet_enter_1 ?_
  refine lv_iload_n hx hb d_Fleet_enter_4 rfl (lv_at hl 1 rfl) ?_
  refine lv_iload_n hx hb d_Fleet_enter_5 rfl (lv_at hl 2 rfl) ?_
  obtain ⟨hi, h⟩ := h
  refine va_iast hx hb hK hP (D_Fleet inj) hS 2 0 rfl rfl hi d_Fleet_enter_6 (fun H locs hP _ hS => ?_)
  have hP : va_P D classes (W_Fleet ad cI cZ (sto σ 2 v1.toNatClampNeg v2)) H := hP
  refine lv_aload_n hx hb d_Fleet_enter_7 rfl (lv_at hl 0 rfl) ?_
  refine va_get (D := D) (ci := 1) (v := .ref (ad 1)) (C := "CarrierPaths$Fleet") (T := F_Fleet) (N := 8) hx hb hts in_Fleet hown hK hP 0 rfl rfl 0 (by decide) (hts _ kw100) (fun _ h9 => h9) rfl d_Fleet_enter_8 ?_
  refine lv_iload_n hx hb d_Fleet_enter_11 rfl (lv_at hl 1 rfl) ?_
  refine lv_iload_n hx hb d_Fleet_enter_12 rfl (lv_at hl 3 rfl) ?_
  obtain ⟨hi, h⟩ := h
  refine va_iast hx hb hK hP (D_Fleet inj) hS 1 0 rfl rfl hi d_Fleet_enter_13 (fun H locs hP _ hS => ?_)
  have hP : va_P D classes (W_Fleet ad cI cZ (sto (sto σ 2 v1.toNatClampNeg v2) 1 v1.toNatClampNeg v3)) H := hP
  refine lv_aload_n hx hb d_Fleet_enter_14 rfl (lv_at hl 0 rfl) ?_
  refine va_get (D := D) (ci := 1) (v := .ref (ad 3)) (C := "CarrierPaths$Fleet") (T := F_Fleet) (N := 8) hx hb hts in_Fleet hown hK hP 0 rfl rfl 2 (by decide) (hts _ kw102) (fun _ h9 => h9) rfl d_Fleet_enter_15 ?_
  refine lv_iload_n hx hb d_Fleet_enter_18 rfl (lv_at hl 1 rfl) ?_
  refine lv_iload hx hb d_Fleet_enter_19 (lv_at hl 5 rfl) ?_
  refine lv_iload hx hb d_Fleet_enter_21 (lv_at hl 4 rfl) ?_
  refine lv_iadd hx hb d_Fleet_enter_23 ?_
  obtain ⟨hi, h⟩ := h
  refine va_iast hx hb hK hP (D_Fleet inj) hS 3 0 rfl rfl hi d_Fleet_enter_24 (fun H locs hP _ hS => ?_)
  have hP : va_P D classes (W_Fleet ad cI cZ (sto (sto (sto σ 2 v1.toNatClampNeg v2) 1 v1.toNatClampNeg v3) 3 v1.toNatClampNeg (v5 + v4))) H := hP
  refine lv_aload_n hx hb d_Fleet_enter_25 rfl (lv_at hl 0 rfl) ?_
  refine va_get (D := D) (ci := 1) (v := .ref (ad 5)) (C := "CarrierPaths$Fleet") (T := F_Fleet) (N := 8) hx hb hts in_Fleet hown hK hP 0 rfl rfl 4 (by decide) (hts _ kw104) (fun _ h9 => h9) rfl d_Fleet_enter_26 ?_
  refine lv_iload_n hx hb d_Fleet_enter_29 rfl (lv_at hl 1 rfl) ?_
  refine lv_dup2_11 hx hb d_Fleet_enter_30 rfl rfl ?_
  obtain ⟨hi, h⟩ := h
  refine va_iald hx hb hK hP 5 0 rfl rfl hi d_Fleet_enter_31 ?_
  refine lv_iload hx hb d_Fleet_enter_32 (lv_at hl 4 rfl) ?_
  refine lv_isub hx hb d_Fleet_enter_34 ?_
  obtain ⟨hi, h⟩ := h
  refine va_iast hx hb hK hP (D_Fleet inj) hS 5 0 rfl rfl hi d_Fleet_enter_35 (fun H locs hP _ hS => ?_)
  have hP : va_P D classes (W_Fleet ad cI cZ (sto (sto (sto (sto σ 2 v1.toNatClampNeg v2) 1 v1.toNatClampNeg v3) 3 v1.toNatClampNeg (v5 + v4)) 5 v1.toNatClampNeg (((sto (sto (sto σ 2 v1.toNatClampNeg v2) 1 v1.toNatClampNeg v3) 3 v1.toNatClampNeg (v5 + v4)) 5 v1.toNatClampNeg) - v4))) H := hP
  exact W.vret hx hb hr (fun t ht hW => ⟨⟨(sto (sto (sto (sto σ 2 v1.toNatClampNeg v2) 1 v1.toNatClampNeg v3) 3 v1.toNatClampNeg (v5 + v4)) 5 v1.toNatClampNeg (((sto (sto (sto σ 2 v1.toNatClampNeg v2) 1 v1.toNatClampNeg v3) 3 v1.toNatClampNeg (v5 + v4)) 5 v1.toNatClampNeg) - v4)), rfl, h, hp_back ht hP⟩, hS.F ht⟩) hS.2.2 d_Fleet_enter_36
def q_Fleet_addEmptyTime (v1 v2 : Int32) (σ : Sg) (Q : (Sg → Prop)) : Prop :=
  (vp_in v1 6 ∧ (vp_in v1 6 ∧ Q (sto σ 7 v1.toNatClampNeg ((σ 7 v1.toNatClampNeg) + v2))))
set_option maxHeartbeats 4000000 in
set_option maxRecDepth 100000 in
theorem t_Fleet_addEmptyTime (l : Launch) (D : va_G) (cI cZ : ClassId) (ad : Nat → Nat) (inj : Inj ad 8) (v1 v2 : Int32) (σ : Sg) (Q : (Sg → Prop)) (h : q_Fleet_addEmptyTime v1 v2 σ Q) : Met l y_Fleet_addEmptyTime (.code y_Fleet_addEmptyTime prog_3_method_21_code 3 none :: TG) { frames := 0, cells := 0, slots := 0, locals := 0 } (va_Pc [.ref (ad 0), .int v1, .int v2] (roB D (tysA cI cZ) (W_Fleet ad cI cZ σ))) (va_Qv Q (fun u t => va_P D classes (W_Fleet ad cI cZ u) t.heap) (inA ad 8)) 0 0 (inA ad 8) := by
  refine Met.ofW (cc := prog_3_method_21_code) (maxL := 3) (ret := none) (by decide) rfl ?_
  intro p e s m args below meth c s₁ B hml hv
  obtain ⟨rfl, hP, hK⟩ := hv
  have hx := B.exec
  have hb := B.bytes
  have hr := B.returns
  have hts : ∀ w ∈ TG, w.before [.ref (ad 0), .int v1, .int v2].toArray s = true := fun w hw => atoms_spec (ws := .code y_Fleet_addEmptyTime prog_3_method_21_code 3 none :: TG) B.pre w (List.mem_cons_of_mem _ hw)
  have hown : s.vm.findClass "CarrierPaths$Fleet" = some m.cls := findClass_of_methodNamed B.named
  have hlocks := B.notSynchronized
  have hS : va_S (inA ad 8) s.heap s.heap [] := va_S.rf
  have hl := lv_entry ([.ref (ad 0), .int v1, .int v2]) (n := 3) (Nat.le_of_ble_eq_true rfl)
  rw [lg_entry_eq]
  generalize (lg_sl ([.ref (ad 0), .int v1, .int v2]) ++ List.replicate (3 - (lg_sl ([.ref (ad 0), .int v1, .int v2])).length) Slot.unset).toArray = ls at hl ⊢
  have hl : lv_has ls 3 [(0, .ref (ad 0)), (1, .int v1), (2, .int v2)] := hl
  unfold q_Fleet_addEmptyTime at h
  refine lv_aload_n hx hb d_Fleet_addEmptyTime_0 rfl (lv_at hl 0 rfl) ?_
  refine va_get (D := D) (ci := 1) (v := .ref (ad 7)) (C := "CarrierPaths$Fleet") (T := F_Fleet) (N := 8) hx hb hts in_Fleet hown hK hP 0 rfl rfl 6 (by decide) (hts _ kw106) (fun _ h9 => h9) rfl d_Fleet_addEmptyTime_1 ?_
  refine lv_iload_n hx hb d_Fleet_addEmptyTime_4 rfl (lv_at hl 1 rfl) ?_
  refine lv_dup2_11 hx hb d_Fleet_addEmptyTime_5 rfl rfl ?_
  obtain ⟨hi, h⟩ := h
  refine va_iald hx hb hK hP 7 0 rfl rfl hi d_Fleet_addEmptyTime_6 ?_
  refine lv_iload_n hx hb d_Fleet_addEmptyTime_7 rfl (lv_at hl 2 rfl) ?_
  refine lv_iadd hx hb d_Fleet_addEmptyTime_8 ?_
  obtain ⟨hi, h⟩ := h
  refine va_iast hx hb hK hP (D_Fleet inj) hS 7 0 rfl rfl hi d_Fleet_addEmptyTime_9 (fun H locs hP _ hS => ?_)
  have hP : va_P D classes (W_Fleet ad cI cZ (sto σ 7 v1.toNatClampNeg ((σ 7 v1.toNatClampNeg) + v2))) H := hP
  exact W.vret hx hb hr (fun t ht hW => ⟨⟨(sto σ 7 v1.toNatClampNeg ((σ 7 v1.toNatClampNeg) + v2)), rfl, h, hp_back ht hP⟩, hS.F ht⟩) hS.2.2 d_Fleet_addEmptyTime_10
def q_Fleet_arrive_b0 (J : Nat → Int32 → Int32 → Int32 → Sg → Prop) (Q : (Int32 → Sg → Prop)) (v1 v2 v3 : Int32) (σ : Sg) : Prop :=
  J 1 v1 0 0 σ
def q_Fleet_arrive_b1 (J : Nat → Int32 → Int32 → Int32 → Sg → Prop) (Q : (Int32 → Sg → Prop)) (v1 v2 v3 : Int32) (σ : Sg) : Prop :=
  (((σ 0 7) ≤ v3 → Q v2 σ) ∧ (¬ (σ 0 7) ≤ v3 → (q_Fleet_isOnPiece v3 σ (fun r1 => ((r1 = 0 → J 1 v1 v2 (v3 + 1) σ) ∧ (¬ r1 = 0 → (vp_in v3 6 ∧ ((v1 < (σ 3 v3.toNatClampNeg) → J 1 v1 v2 (v3 + 1) σ) ∧ (¬ v1 < (σ 3 v3.toNatClampNeg) → (vp_in v3 6 ∧ (vp_in v3 6 ∧ J 1 v1 (v2 + 1) (v3 + 1) (sto (sto σ 2 v3.toNatClampNeg (-1)) 3 v3.toNatClampNeg (-1)))))))))))))
def q_Fleet_arrive_j (Q : (Int32 → Sg → Prop)) : Nat → Nat → Int32 → Int32 → Int32 → Sg → Prop
  | 0, _, _, _, _, _ => False
  | n + 1, 0, v1, v2, v3, σ => q_Fleet_arrive_b0 (q_Fleet_arrive_j Q n) Q v1 v2 v3 σ
  | n + 1, 1, v1, v2, v3, σ => q_Fleet_arrive_b1 (q_Fleet_arrive_j Q n) Q v1 v2 v3 σ
  | _ + 1, _ + 2, _, _, _, _ => False
def q_Fleet_arrive (v1 : Int32) (σ : Sg) (Q : (Int32 → Sg → Prop)) : Prop := q_Fleet_arrive_j Q 4000 0 v1 0 0 σ
def lc_Fleet_arrive (ad : Nat → Nat) (b : Nat) (v1 v2 v3 : Int32) : List (Nat × Value) := match b with
  | 0 => [(0, .ref (ad 0)), (1, .int v1)]
  | 1 => [(0, .ref (ad 0)), (1, .int v1), (2, .int v2), (3, .int v3)]
  | _ => []
def pc_Fleet_arrive (b : Nat) : Nat := match b with
  | 0 => 0
  | 1 => 4
  | _ => 0
set_option maxHeartbeats 4000000 in
set_option maxRecDepth 100000 in
theorem t_Fleet_arrive (l : Launch) (D : va_G) (cI cZ : ClassId) (ad : Nat → Nat) (inj : Inj ad 8) (v1 : Int32) (σ : Sg) (Q : (Int32 → Sg → Prop)) (h : q_Fleet_arrive v1 σ Q) : Met l y_Fleet_arrive (.code y_Fleet_arrive prog_3_method_22_code 4 (some .int) :: TG) { frames := 1, cells := 0, slots := 0, locals := 21 } (va_Pc [.ref (ad 0), .int v1] (roB D (tysA cI cZ) (W_Fleet ad cI cZ σ))) (va_Qi Q (fun u t => va_P D classes (W_Fleet ad cI cZ u) t.heap) (inA ad 8)) 0 0 (inA ad 8) := by
  refine Met.ofW (cc := prog_3_method_22_code) (maxL := 4) (ret := (some .int)) (by decide) rfl ?_
  intro p e s m args below meth c s₁ B hml hv
  obtain ⟨rfl, hP, hK⟩ := hv
  have hx := B.exec
  have hb := B.bytes
  have hr := B.returns
  have hts : ∀ w ∈ TG, w.before [.ref (ad 0), .int v1].toArray s = true := fun w hw => atoms_spec (ws := .code y_Fleet_arrive prog_3_method_22_code 4 (some .int) :: TG) B.pre w (List.mem_cons_of_mem _ hw)
  have hown : s.vm.findClass "CarrierPaths$Fleet" = some m.cls := findClass_of_methodNamed B.named
  have hlocks := B.notSynchronized
  have hS : va_S (inA ad 8) s.heap s.heap [] := va_S.rf
  have hl := lv_entry ([.ref (ad 0), .int v1]) (n := 4) (Nat.le_of_ble_eq_true rfl)
  rw [lg_entry_eq]
  generalize (lg_sl ([.ref (ad 0), .int v1]) ++ List.replicate (4 - (lg_sl ([.ref (ad 0), .int v1])).length) Slot.unset).toArray = ls at hl ⊢
  generalize ([.ref (ad 0), .int v1] : List Value).toArray = args at hts ⊢
  have key : ∀ (n b : Nat) (v1 v2 v3 : Int32) (σ : Sg), q_Fleet_arrive_j Q n b v1 v2 v3 σ → ∀ (H : Heap) (locs : List Loc) (ls : Array Slot), va_P D classes (W_Fleet ad cI cZ σ) H → va_S (inA ad 8) s.heap H locs → lv_has ls 4 (lc_Fleet_arrive ad b v1 v2 v3) → W p l e (headSpec (.code y_Fleet_arrive prog_3_method_22_code 4 (some .int) :: TG) { frames := 1, cells := 0, slots := 0, locals := 21 }).room s m args below meth c H locs 0 0 (MQ below (va_Qi Q (fun u t => va_P D classes (W_Fleet ad cI cZ u) t.heap) (inA ad 8)) args s 0 0 (inA ad 8)) (F0 m (pc_Fleet_arrive b) ls []) := by
    clear h hl hP hS
    intro n
    induction n with
    | zero => intro b _ _ _ _ h; exact False.elim h
    | succ n ih =>
      intro b v1 v2 v3 σ h H locs ls hP hS hl
      match b, h, hl with
      | 0, h, hl =>
        have h : q_Fleet_arrive_b0 (q_Fleet_arrive_j Q n) Q v1 v2 v3 σ := h
        have hl : lv_has ls 4 [(0, .ref (ad 0)), (1, .int v1)] := hl
        refine W.eq (g2 := F0 m 0 ls []) rfl ?_
        unfold q_Fleet_arrive_b0 at h
        refine lv_iconst (v := 0) hx hb d_Fleet_arrive_0 (by decide) ?_
        refine lv_istore_n (lv' := [(2, .int 0), (0, .ref (ad 0)), (1, .int v1)]) hx hb d_Fleet_arrive_1 rfl hl (by decide) rfl (fun ls hl => ?_)
        refine lv_iconst (v := 0) hx hb d_Fleet_arrive_2 (by decide) ?_
        refine lv_istore_n (lv' := [(3, .int 0), (2, .int 0), (0, .ref (ad 0)), (1, .int v1)]) hx hb d_Fleet_arrive_3 rfl hl (by decide) rfl (fun ls hl => ?_)
        exact ih 1 v1 0 0 σ h _ _ _ hP hS (lv_sub hl [2, 3, 1, 0] rfl)
      | 1, h, hl =>
        have h : q_Fleet_arrive_b1 (q_Fleet_arrive_j Q n) Q v1 v2 v3 σ := h
        have hl : lv_has ls 4 [(0, .ref (ad 0)), (1, .int v1), (2, .int v2), (3, .int v3)] := hl
        refine W.eq (g2 := F0 m 4 ls []) rfl ?_
        unfold q_Fleet_arrive_b1 at h
        refine lv_iload_n hx hb d_Fleet_arrive_4 rfl (lv_at hl 3 rfl) ?_
        refine lv_aload_n hx hb d_Fleet_arrive_5 rfl (lv_at hl 0 rfl) ?_
        refine va_get (D := D) (ci := 1) (v := .int (σ 0 7)) (C := "CarrierPaths$Fleet") (T := F_Fleet) (N := 8) hx hb hts in_Fleet hown hK hP 0 rfl rfl 7 (by decide) (hts _ kw107) (fun _ h9 => h9) rfl d_Fleet_arrive_6 ?_
        refine lv_icmp_ge (tgt := 53) hx hb d_Fleet_arrive_9 (by decide) (fun hc => ?_) (fun hc => ?_)
        · have h := h.1 hc
          refine lv_iload_n hx hb d_Fleet_arrive_53 rfl (lv_at hl 2 rfl) ?_
          exact W.iret (v := v2) hx hb hr (fun t ht hW => ⟨⟨v2, σ, rfl, h, hp_back ht hP⟩, hS.F ht⟩) hS.2.2 d_Fleet_arrive_54
        · have h := h.2 hc
          refine lv_aload_n hx hb d_Fleet_arrive_12 rfl (lv_at hl 0 rfl) ?_
          refine lv_iload_n hx hb d_Fleet_arrive_13 rfl (lv_at hl 3 rfl) ?_
          refine vp_callSi (W.runV (As := [.int v3]) (rest := []) ⟨hx, hb, hml, hown, hts⟩ (t_Fleet_isOnPiece l D cI cZ ad v3 σ _ h) (cwV 1 hts (g_of kw266 kw267 kw268 kw6 kw269) rfl rfl rfl (by decide +kernel) ⟨Nat.le_of_ble_eq_true rfl, Nat.le_of_ble_eq_true rfl⟩) (ro_pre hK hP (va_recv hK hP (ci := 1) (q0 := 0) rfl rfl)) rfl rfl hl.1 rfl (lv_room (Nat.le_of_ble_eq_true rfl)) d_Fleet_arrive_14 ⟨Nat.le_of_ble_eq_true rfl, Nat.le_of_ble_eq_true rfl⟩) (fun r1 h => ?_)
          refine lv_if_eq (tgt := 47) hx hb d_Fleet_arrive_17 (by decide) (fun hc => ?_) (fun hc => ?_)
          · have h := h.1 hc
            refine lv_iinc (v := (v3 + 1)) (lv' := [(3, .int (v3 + 1)), (0, .ref (ad 0)), (1, .int v1), (2, .int v2)]) hx hb d_Fleet_arrive_47 hl (k := 3) rfl rfl (by decide) rfl (fun ls hl => ?_)
            refine lv_goto (tgt := 4) hx hb d_Fleet_arrive_50 (by decide) ?_
            exact ih 1 v1 v2 (v3 + 1) σ h _ _ _ hP hS (lv_sub hl [1, 2, 3, 0] rfl)
          · have h := h.2 hc
            refine lv_aload_n hx hb d_Fleet_arrive_20 rfl (lv_at hl 0 rfl) ?_
            refine va_get (D := D) (ci := 1) (v := .ref (ad 3)) (C := "CarrierPaths$Fleet") (T := F_Fleet) (N := 8) hx hb hts in_Fleet hown hK hP 0 rfl rfl 2 (by decide) (hts _ kw102) (fun _ h9 => h9) rfl d_Fleet_arrive_21 ?_
            refine lv_iload_n hx hb d_Fleet_arrive_24 rfl (lv_at hl 3 rfl) ?_
            obtain ⟨hi, h⟩ := h
            refine va_iald hx hb hK hP 3 0 rfl rfl hi d_Fleet_arrive_25 ?_
            refine lv_iload_n hx hb d_Fleet_arrive_26 rfl (lv_at hl 1 rfl) ?_
            refine lv_icmp_gt (tgt := 47) hx hb d_Fleet_arrive_27 (by decide) (fun hc => ?_) (fun hc => ?_)
            · have h := h.1 hc
              refine lv_iinc (v := (v3 + 1)) (lv' := [(3, .int (v3 + 1)), (0, .ref (ad 0)), (1, .int v1), (2, .int v2)]) hx hb d_Fleet_arrive_47 hl (k := 3) rfl rfl (by decide) rfl (fun ls hl => ?_)
              refine lv_goto (tgt := 4) hx hb d_Fleet_arrive_50 (by decide) ?_
              exact ih 1 v1 v2 (v3 + 1) σ h _ _ _ hP hS (lv_sub hl [1, 2, 3, 0] rfl)
            · have h := h.2 hc
              refine lv_aload_n hx hb d_Fleet_arrive_30 rfl (lv_at hl 0 rfl) ?_
              refine va_get (D := D) (ci := 1) (v := .ref (ad 2)) (C := "CarrierPaths$Fleet") (T := F_Fleet) (N := 8) hx hb hts in_Fleet hown hK hP 0 rfl rfl 1 (by decide) (hts _ kw101) (fun _ h9 => h9) rfl d_Fleet_arrive_31 ?_
              refine lv_iload_n hx hb d_Fleet_arrive_34 rfl (lv_at hl 3 rfl) ?_
              refine lv_iconst (v := (-1)) hx hb d_Fleet_arrive_35 (by decide) ?_
              obtain ⟨hi, h⟩ := h
              refine va_iast hx hb hK hP (D_Fleet inj) hS 2 0 rfl rfl hi d_Fleet_arrive_36 (fun H locs hP _ hS => ?_)
              have hP : va_P D classes (W_Fleet ad cI cZ (sto σ 2 v3.toNatClampNeg (-1))) H := hP
              refine lv_aload_n hx hb d_Fleet_arrive_37 rfl (lv_at hl 0 rfl) ?_
              refine va_get (D := D) (ci := 1) (v := .ref (ad 3)) (C := "CarrierPaths$Fleet") (T := F_Fleet) (N := 8) hx hb hts in_Fleet hown hK hP 0 rfl rfl 2 (by decide) (hts _ kw102) (fun _ h9 => h9) rfl d_Fleet_arrive_38 ?_
              refine lv_iload_n hx hb d_Fleet_arrive_41 rfl (lv_at hl 3 rfl) ?_
              refine lv_iconst (v := (-1)) hx hb d_Fleet_arrive_42 (by decide) ?_
              obtain ⟨hi, h⟩ := h
              refine va_iast hx hb hK hP (D_Fleet inj) hS 3 0 rfl rfl hi d_Fleet_arrive_43 (fun H locs hP _ hS => ?_)
              have hP : va_P D classes (W_Fleet ad cI cZ (sto (sto σ 2 v3.toNatClampNeg (-1)) 3 v3.toNatClampNeg (-1))) H := hP
              refine lv_iinc (v := (v2 + 1)) (lv' := [(2, .int (v2 + 1)), (0, .ref (ad 0)), (1, .int v1), (3, .int v3)]) hx hb d_Fleet_arrive_44 hl (k := 2) rfl rfl (by decide) rfl (fun ls hl => ?_)
              refine lv_iinc (v := (v3 + 1)) (lv' := [(3, .int (v3 + 1)), (2, .int (v2 + 1)), (0, .ref (ad 0)), (1, .int v1)]) hx hb d_Fleet_arrive_47 hl (k := 3) rfl rfl (by decide) rfl (fun ls hl => ?_)
              refine lv_goto (tgt := 4) hx hb d_Fleet_arrive_50 (by decide) ?_
              exact ih 1 v1 (v2 + 1) (v3 + 1) (sto (sto σ 2 v3.toNatClampNeg (-1)) 3 v3.toNatClampNeg (-1)) h _ _ _ hP hS (lv_sub hl [2, 3, 1, 0] rfl)
      | _ + 2, h, _ => exact False.elim h
  exact key 4000 0 v1 0 0 σ h s.heap [] ls hP hS hl
end
section
theorem d_Jobs_size_0 : decode prog_4_method_2_code 0 = .ok (.aload_n 0, 1) := by decide +kernel
theorem d_Jobs_size_1 : decode prog_4_method_2_code 1 = .ok (.getfield 24, 3) := by decide +kernel
theorem d_Jobs_size_4 : decode prog_4_method_2_code 4 = .ok (.ireturn, 1) := by decide +kernel
theorem d_Jobs_has_0 : decode prog_4_method_3_code 0 = .ok (.iload_n 1, 1) := by decide +kernel
theorem d_Jobs_has_1 : decode prog_4_method_3_code 1 = .ok (.ifCond .lt 15, 3) := by decide +kernel
theorem d_Jobs_has_4 : decode prog_4_method_3_code 4 = .ok (.iload_n 1, 1) := by decide +kernel
theorem d_Jobs_has_5 : decode prog_4_method_3_code 5 = .ok (.aload_n 0, 1) := by decide +kernel
theorem d_Jobs_has_6 : decode prog_4_method_3_code 6 = .ok (.getfield 24, 3) := by decide +kernel
theorem d_Jobs_has_9 : decode prog_4_method_3_code 9 = .ok (.if_icmp .ge 7, 3) := by decide +kernel
theorem d_Jobs_has_12 : decode prog_4_method_3_code 12 = .ok (.iconst 1, 1) := by decide +kernel
theorem d_Jobs_has_13 : decode prog_4_method_3_code 13 = .ok (.goto 4, 3) := by decide +kernel
theorem d_Jobs_has_16 : decode prog_4_method_3_code 16 = .ok (.iconst 0, 1) := by decide +kernel
theorem d_Jobs_has_17 : decode prog_4_method_3_code 17 = .ok (.ireturn, 1) := by decide +kernel
theorem d_Jobs_add_0 : decode prog_4_method_4_code 0 = .ok (.aload_n 0, 1) := by decide +kernel
theorem d_Jobs_add_1 : decode prog_4_method_4_code 1 = .ok (.getfield 24, 3) := by decide +kernel
theorem d_Jobs_add_4 : decode prog_4_method_4_code 4 = .ok (.istore_n 3, 1) := by decide +kernel
theorem d_Jobs_add_5 : decode prog_4_method_4_code 5 = .ok (.aload_n 0, 1) := by decide +kernel
theorem d_Jobs_add_6 : decode prog_4_method_4_code 6 = .ok (.getfield 9, 3) := by decide +kernel
theorem d_Jobs_add_9 : decode prog_4_method_4_code 9 = .ok (.iload_n 3, 1) := by decide +kernel
theorem d_Jobs_add_10 : decode prog_4_method_4_code 10 = .ok (.iload_n 1, 1) := by decide +kernel
theorem d_Jobs_add_11 : decode prog_4_method_4_code 11 = .ok (.iastore, 1) := by decide +kernel
theorem d_Jobs_add_12 : decode prog_4_method_4_code 12 = .ok (.aload_n 0, 1) := by decide +kernel
theorem d_Jobs_add_13 : decode prog_4_method_4_code 13 = .ok (.getfield 15, 3) := by decide +kernel
theorem d_Jobs_add_16 : decode prog_4_method_4_code 16 = .ok (.iload_n 3, 1) := by decide +kernel
theorem d_Jobs_add_17 : decode prog_4_method_4_code 17 = .ok (.iload_n 2, 1) := by decide +kernel
theorem d_Jobs_add_18 : decode prog_4_method_4_code 18 = .ok (.iastore, 1) := by decide +kernel
theorem d_Jobs_add_19 : decode prog_4_method_4_code 19 = .ok (.aload_n 0, 1) := by decide +kernel
theorem d_Jobs_add_20 : decode prog_4_method_4_code 20 = .ok (.getfield 18, 3) := by decide +kernel
theorem d_Jobs_add_23 : decode prog_4_method_4_code 23 = .ok (.iload_n 3, 1) := by decide +kernel
theorem d_Jobs_add_24 : decode prog_4_method_4_code 24 = .ok (.iconst 0, 1) := by decide +kernel
theorem d_Jobs_add_25 : decode prog_4_method_4_code 25 = .ok (.iastore, 1) := by decide +kernel
theorem d_Jobs_add_26 : decode prog_4_method_4_code 26 = .ok (.aload_n 0, 1) := by decide +kernel
theorem d_Jobs_add_27 : decode prog_4_method_4_code 27 = .ok (.getfield 21, 3) := by decide +kernel
theorem d_Jobs_add_30 : decode prog_4_method_4_code 30 = .ok (.iload_n 3, 1) := by decide +kernel
theorem d_Jobs_add_31 : decode prog_4_method_4_code 31 = .ok (.iconst (-1), 1) := by decide +kernel
theorem d_Jobs_add_32 : decode prog_4_method_4_code 32 = .ok (.iastore, 1) := by decide +kernel
theorem d_Jobs_add_33 : decode prog_4_method_4_code 33 = .ok (.aload_n 0, 1) := by decide +kernel
theorem d_Jobs_add_34 : decode prog_4_method_4_code 34 = .ok (.dup, 1) := by decide +kernel
theorem d_Jobs_add_35 : decode prog_4_method_4_code 35 = .ok (.getfield 24, 3) := by decide +kernel
theorem d_Jobs_add_38 : decode prog_4_method_4_code 38 = .ok (.iconst 1, 1) := by decide +kernel
theorem d_Jobs_add_39 : decode prog_4_method_4_code 39 = .ok (.iadd, 1) := by decide +kernel
theorem d_Jobs_add_40 : decode prog_4_method_4_code 40 = .ok (.putfield 24, 3) := by decide +kernel
theorem d_Jobs_add_43 : decode prog_4_method_4_code 43 = .ok (.iload_n 3, 1) := by decide +kernel
theorem d_Jobs_add_44 : decode prog_4_method_4_code 44 = .ok (.ireturn, 1) := by decide +kernel
theorem d_Jobs_fromOf_0 : decode prog_4_method_5_code 0 = .ok (.aload_n 0, 1) := by decide +kernel
theorem d_Jobs_fromOf_1 : decode prog_4_method_5_code 1 = .ok (.getfield 9, 3) := by decide +kernel
theorem d_Jobs_fromOf_4 : decode prog_4_method_5_code 4 = .ok (.iload_n 1, 1) := by decide +kernel
theorem d_Jobs_fromOf_5 : decode prog_4_method_5_code 5 = .ok (.iaload, 1) := by decide +kernel
theorem d_Jobs_fromOf_6 : decode prog_4_method_5_code 6 = .ok (.ireturn, 1) := by decide +kernel
theorem d_Jobs_toOf_0 : decode prog_4_method_6_code 0 = .ok (.aload_n 0, 1) := by decide +kernel
theorem d_Jobs_toOf_1 : decode prog_4_method_6_code 1 = .ok (.getfield 15, 3) := by decide +kernel
theorem d_Jobs_toOf_4 : decode prog_4_method_6_code 4 = .ok (.iload_n 1, 1) := by decide +kernel
theorem d_Jobs_toOf_5 : decode prog_4_method_6_code 5 = .ok (.iaload, 1) := by decide +kernel
theorem d_Jobs_toOf_6 : decode prog_4_method_6_code 6 = .ok (.ireturn, 1) := by decide +kernel
theorem d_Jobs_stateOf_0 : decode prog_4_method_7_code 0 = .ok (.aload_n 0, 1) := by decide +kernel
theorem d_Jobs_stateOf_1 : decode prog_4_method_7_code 1 = .ok (.getfield 18, 3) := by decide +kernel
theorem d_Jobs_stateOf_4 : decode prog_4_method_7_code 4 = .ok (.iload_n 1, 1) := by decide +kernel
theorem d_Jobs_stateOf_5 : decode prog_4_method_7_code 5 = .ok (.iaload, 1) := by decide +kernel
theorem d_Jobs_stateOf_6 : decode prog_4_method_7_code 6 = .ok (.ireturn, 1) := by decide +kernel
theorem d_Jobs_carrierOf_0 : decode prog_4_method_8_code 0 = .ok (.aload_n 0, 1) := by decide +kernel
theorem d_Jobs_carrierOf_1 : decode prog_4_method_8_code 1 = .ok (.getfield 21, 3) := by decide +kernel
theorem d_Jobs_carrierOf_4 : decode prog_4_method_8_code 4 = .ok (.iload_n 1, 1) := by decide +kernel
theorem d_Jobs_carrierOf_5 : decode prog_4_method_8_code 5 = .ok (.iaload, 1) := by decide +kernel
theorem d_Jobs_carrierOf_6 : decode prog_4_method_8_code 6 = .ok (.ireturn, 1) := by decide +kernel
theorem d_Jobs_isWaiting_0 : decode prog_4_method_9_code 0 = .ok (.aload_n 0, 1) := by decide +kernel
theorem d_Jobs_isWaiting_1 : decode prog_4_method_9_code 1 = .ok (.getfield 18, 3) := by decide +kernel
theorem d_Jobs_isWaiting_4 : decode prog_4_method_9_code 4 = .ok (.iload_n 1, 1) := by decide +kernel
theorem d_Jobs_isWaiting_5 : decode prog_4_method_9_code 5 = .ok (.iaload, 1) := by decide +kernel
theorem d_Jobs_isWaiting_6 : decode prog_4_method_9_code 6 = .ok (.ifCond .ne 7, 3) := by decide +kernel
theorem d_Jobs_isWaiting_9 : decode prog_4_method_9_code 9 = .ok (.iconst 1, 1) := by decide +kernel
theorem d_Jobs_isWaiting_10 : decode prog_4_method_9_code 10 = .ok (.goto 4, 3) := by decide +kernel
theorem d_Jobs_isWaiting_13 : decode prog_4_method_9_code 13 = .ok (.iconst 0, 1) := by decide +kernel
theorem d_Jobs_isWaiting_14 : decode prog_4_method_9_code 14 = .ok (.ireturn, 1) := by decide +kernel
theorem d_Jobs_isLoaded_0 : decode prog_4_method_10_code 0 = .ok (.aload_n 0, 1) := by decide +kernel
theorem d_Jobs_isLoaded_1 : decode prog_4_method_10_code 1 = .ok (.getfield 18, 3) := by decide +kernel
theorem d_Jobs_isLoaded_4 : decode prog_4_method_10_code 4 = .ok (.iload_n 1, 1) := by decide +kernel
theorem d_Jobs_isLoaded_5 : decode prog_4_method_10_code 5 = .ok (.iaload, 1) := by decide +kernel
theorem d_Jobs_isLoaded_6 : decode prog_4_method_10_code 6 = .ok (.iconst 2, 1) := by decide +kernel
theorem d_Jobs_isLoaded_7 : decode prog_4_method_10_code 7 = .ok (.if_icmp .ne 7, 3) := by decide +kernel
theorem d_Jobs_isLoaded_10 : decode prog_4_method_10_code 10 = .ok (.iconst 1, 1) := by decide +kernel
theorem d_Jobs_isLoaded_11 : decode prog_4_method_10_code 11 = .ok (.goto 4, 3) := by decide +kernel
theorem d_Jobs_isLoaded_14 : decode prog_4_method_10_code 14 = .ok (.iconst 0, 1) := by decide +kernel
theorem d_Jobs_isLoaded_15 : decode prog_4_method_10_code 15 = .ok (.ireturn, 1) := by decide +kernel
theorem d_Jobs_goalOf_0 : decode prog_4_method_11_code 0 = .ok (.aload_n 0, 1) := by decide +kernel
theorem d_Jobs_goalOf_1 : decode prog_4_method_11_code 1 = .ok (.iload_n 1, 1) := by decide +kernel
theorem d_Jobs_goalOf_2 : decode prog_4_method_11_code 2 = .ok (.invokevirtual 28, 3) := by decide +kernel
theorem d_Jobs_goalOf_5 : decode prog_4_method_11_code 5 = .ok (.ifCond .eq 12, 3) := by decide +kernel
theorem d_Jobs_goalOf_8 : decode prog_4_method_11_code 8 = .ok (.aload_n 0, 1) := by decide +kernel
theorem d_Jobs_goalOf_9 : decode prog_4_method_11_code 9 = .ok (.getfield 15, 3) := by decide +kernel
theorem d_Jobs_goalOf_12 : decode prog_4_method_11_code 12 = .ok (.iload_n 1, 1) := by decide +kernel
theorem d_Jobs_goalOf_13 : decode prog_4_method_11_code 13 = .ok (.iaload, 1) := by decide +kernel
theorem d_Jobs_goalOf_14 : decode prog_4_method_11_code 14 = .ok (.goto 9, 3) := by decide +kernel
theorem d_Jobs_goalOf_17 : decode prog_4_method_11_code 17 = .ok (.aload_n 0, 1) := by decide +kernel
theorem d_Jobs_goalOf_18 : decode prog_4_method_11_code 18 = .ok (.getfield 9, 3) := by decide +kernel
theorem d_Jobs_goalOf_21 : decode prog_4_method_11_code 21 = .ok (.iload_n 1, 1) := by decide +kernel
theorem d_Jobs_goalOf_22 : decode prog_4_method_11_code 22 = .ok (.iaload, 1) := by decide +kernel
theorem d_Jobs_goalOf_23 : decode prog_4_method_11_code 23 = .ok (.ireturn, 1) := by decide +kernel
theorem d_Jobs_ended_0 : decode prog_4_method_12_code 0 = .ok (.iconst 0, 1) := by decide +kernel
theorem d_Jobs_ended_1 : decode prog_4_method_12_code 1 = .ok (.istore_n 1, 1) := by decide +kernel
theorem d_Jobs_ended_2 : decode prog_4_method_12_code 2 = .ok (.iconst 0, 1) := by decide +kernel
theorem d_Jobs_ended_3 : decode prog_4_method_12_code 3 = .ok (.istore_n 2, 1) := by decide +kernel
theorem d_Jobs_ended_4 : decode prog_4_method_12_code 4 = .ok (.iload_n 2, 1) := by decide +kernel
theorem d_Jobs_ended_5 : decode prog_4_method_12_code 5 = .ok (.aload_n 0, 1) := by decide +kernel
theorem d_Jobs_ended_6 : decode prog_4_method_12_code 6 = .ok (.getfield 24, 3) := by decide +kernel
theorem d_Jobs_ended_9 : decode prog_4_method_12_code 9 = .ok (.if_icmp .ge 22, 3) := by decide +kernel
theorem d_Jobs_ended_12 : decode prog_4_method_12_code 12 = .ok (.aload_n 0, 1) := by decide +kernel
theorem d_Jobs_ended_13 : decode prog_4_method_12_code 13 = .ok (.getfield 18, 3) := by decide +kernel
theorem d_Jobs_ended_16 : decode prog_4_method_12_code 16 = .ok (.iload_n 2, 1) := by decide +kernel
theorem d_Jobs_ended_17 : decode prog_4_method_12_code 17 = .ok (.iaload, 1) := by decide +kernel
theorem d_Jobs_ended_18 : decode prog_4_method_12_code 18 = .ok (.iconst 3, 1) := by decide +kernel
theorem d_Jobs_ended_19 : decode prog_4_method_12_code 19 = .ok (.if_icmp .ne 6, 3) := by decide +kernel
theorem d_Jobs_ended_22 : decode prog_4_method_12_code 22 = .ok (.iinc 1 1, 3) := by decide +kernel
theorem d_Jobs_ended_25 : decode prog_4_method_12_code 25 = .ok (.iinc 2 1, 3) := by decide +kernel
theorem d_Jobs_ended_28 : decode prog_4_method_12_code 28 = .ok (.goto (-24), 3) := by decide +kernel
theorem d_Jobs_ended_31 : decode prog_4_method_12_code 31 = .ok (.iload_n 1, 1) := by decide +kernel
theorem d_Jobs_ended_32 : decode prog_4_method_12_code 32 = .ok (.ireturn, 1) := by decide +kernel
theorem d_Jobs_setState_0 : decode prog_4_method_13_code 0 = .ok (.aload_n 0, 1) := by decide +kernel
theorem d_Jobs_setState_1 : decode prog_4_method_13_code 1 = .ok (.getfield 18, 3) := by decide +kernel
theorem d_Jobs_setState_4 : decode prog_4_method_13_code 4 = .ok (.iload_n 1, 1) := by decide +kernel
theorem d_Jobs_setState_5 : decode prog_4_method_13_code 5 = .ok (.iload_n 2, 1) := by decide +kernel
theorem d_Jobs_setState_6 : decode prog_4_method_13_code 6 = .ok (.iastore, 1) := by decide +kernel
theorem d_Jobs_setState_7 : decode prog_4_method_13_code 7 = .ok (.return_, 1) := by decide +kernel
theorem d_Jobs_give_0 : decode prog_4_method_14_code 0 = .ok (.aload_n 0, 1) := by decide +kernel
theorem d_Jobs_give_1 : decode prog_4_method_14_code 1 = .ok (.getfield 18, 3) := by decide +kernel
theorem d_Jobs_give_4 : decode prog_4_method_14_code 4 = .ok (.iload_n 1, 1) := by decide +kernel
theorem d_Jobs_give_5 : decode prog_4_method_14_code 5 = .ok (.iconst 1, 1) := by decide +kernel
theorem d_Jobs_give_6 : decode prog_4_method_14_code 6 = .ok (.iastore, 1) := by decide +kernel
theorem d_Jobs_give_7 : decode prog_4_method_14_code 7 = .ok (.aload_n 0, 1) := by decide +kernel
theorem d_Jobs_give_8 : decode prog_4_method_14_code 8 = .ok (.getfield 21, 3) := by decide +kernel
theorem d_Jobs_give_11 : decode prog_4_method_14_code 11 = .ok (.iload_n 1, 1) := by decide +kernel
theorem d_Jobs_give_12 : decode prog_4_method_14_code 12 = .ok (.iload_n 2, 1) := by decide +kernel
theorem d_Jobs_give_13 : decode prog_4_method_14_code 13 = .ok (.iastore, 1) := by decide +kernel
theorem d_Jobs_give_14 : decode prog_4_method_14_code 14 = .ok (.return_, 1) := by decide +kernel
end
section
def W_Jobs (ad : Nat → Nat) (cI cZ : ClassId) (σ : Sg) : va_W :=
  [(ad 0, .inr (2, [.ref (ad 1), .ref (ad 2), .ref (ad 3), .ref (ad 4), .int (σ 0 4)])),
   (ad 1, .inl (cI, 12, .inl (σ 1))),
   (ad 2, .inl (cI, 12, .inl (σ 2))),
   (ad 3, .inl (cI, 12, .inl (σ 3))),
   (ad 4, .inl (cI, 12, .inl (σ 4)))]
theorem D_Jobs {ad : Nat → Nat} {cI cZ : ClassId} {σ : Sg} (inj : Inj ad 5) : va_D (inA ad 5) (W_Jobs ad cI cZ σ) := D_of inj rfl
def q_Jobs_size (σ : Sg) (Q : (Int32 → Prop)) : Prop :=
  Q (σ 0 4)
set_option maxHeartbeats 4000000 in
set_option maxRecDepth 100000 in
theorem t_Jobs_size (l : Launch) (D : va_G) (cI cZ : ClassId) (ad : Nat → Nat) (σ : Sg) (Q : (Int32 → Prop)) (h : q_Jobs_size σ Q) : Met l y_Jobs_size (.code y_Jobs_size prog_4_method_2_code 1 (some .int) :: TG) { frames := 0, cells := 0, slots := 0, locals := 0 } (va_Pc [.ref (ad 0)] (roB D (tysA cI cZ) (W_Jobs ad cI cZ σ))) (vp_Si Q) 0 0 (fun _ => False) := by
  refine Met.ofW (cc := prog_4_method_2_code) (maxL := 1) (ret := (some .int)) (by decide) rfl ?_
  intro p e s m args below meth c s₁ B hml hv
  obtain ⟨rfl, hP, hK⟩ := hv
  have hx := B.exec
  have hb := B.bytes
  have hr := B.returns
  have hts : ∀ w ∈ TG, w.before [.ref (ad 0)].toArray s = true := fun w hw => atoms_spec (ws := .code y_Jobs_size prog_4_method_2_code 1 (some .int) :: TG) B.pre w (List.mem_cons_of_mem _ hw)
  have hown : s.vm.findClass "CarrierPaths$Jobs" = some m.cls := findClass_of_methodNamed B.named
  have hlocks := B.notSynchronized
  have hl := lv_entry ([.ref (ad 0)]) (n := 1) (Nat.le_of_ble_eq_true rfl)
  rw [lg_entry_eq]
  generalize (lg_sl ([.ref (ad 0)]) ++ List.replicate (1 - (lg_sl ([.ref (ad 0)])).length) Slot.unset).toArray = ls at hl ⊢
  have hl : lv_has ls 1 [(0, .ref (ad 0))] := hl
  unfold q_Jobs_size at h
  refine lv_aload_n hx hb d_Jobs_size_0 rfl (lv_at hl 0 rfl) ?_
  refine va_get (D := D) (ci := 2) (v := .int (σ 0 4)) (C := "CarrierPaths$Jobs") (T := F_Jobs) (N := 5) hx hb hts in_Jobs hown hK hP 0 rfl rfl 4 (by decide) (hts _ kw135) (fun _ h9 => h9) rfl d_Jobs_size_1 ?_
  exact W.iret (v := (σ 0 4)) hx hb hr (fun t ht hW => ⟨(σ 0 4), rfl, h, ht⟩) (fun q hq => by cases hq) d_Jobs_size_4
def q_Jobs_has (v1 : Int32) (σ : Sg) (Q : (Int32 → Prop)) : Prop :=
  ((v1 < 0 → Q 0) ∧ (¬ v1 < 0 → (((σ 0 4) ≤ v1 → Q 0) ∧ (¬ (σ 0 4) ≤ v1 → Q 1))))
set_option maxHeartbeats 4000000 in
set_option maxRecDepth 100000 in
theorem t_Jobs_has (l : Launch) (D : va_G) (cI cZ : ClassId) (ad : Nat → Nat) (v1 : Int32) (σ : Sg) (Q : (Int32 → Prop)) (h : q_Jobs_has v1 σ Q) : Met l y_Jobs_has (.code y_Jobs_has prog_4_method_3_code 2 (some .boolean) :: TG) { frames := 0, cells := 0, slots := 0, locals := 0 } (va_Pc [.ref (ad 0), .int v1] (roB D (tysA cI cZ) (W_Jobs ad cI cZ σ))) (vp_Si Q) 0 0 (fun _ => False) := by
  refine Met.ofW (cc := prog_4_method_3_code) (maxL := 2) (ret := (some .boolean)) (by decide) rfl ?_
  intro p e s m args below meth c s₁ B hml hv
  obtain ⟨rfl, hP, hK⟩ := hv
  have hx := B.exec
  have hb := B.bytes
  have hr := B.returns
  have hts : ∀ w ∈ TG, w.before [.ref (ad 0), .int v1].toArray s = true := fun w hw => atoms_spec (ws := .code y_Jobs_has prog_4_method_3_code 2 (some .boolean) :: TG) B.pre w (List.mem_cons_of_mem _ hw)
  have hown : s.vm.findClass "CarrierPaths$Jobs" = some m.cls := findClass_of_methodNamed B.named
  have hlocks := B.notSynchronized
  have hl := lv_entry ([.ref (ad 0), .int v1]) (n := 2) (Nat.le_of_ble_eq_true rfl)
  rw [lg_entry_eq]
  generalize (lg_sl ([.ref (ad 0), .int v1]) ++ List.replicate (2 - (lg_sl ([.ref (ad 0), .int v1])).length) Slot.unset).toArray = ls at hl ⊢
  have hl : lv_has ls 2 [(0, .ref (ad 0)), (1, .int v1)] := hl
  unfold q_Jobs_has at h
  refine lv_iload_n hx hb d_Jobs_has_0 rfl (lv_at hl 1 rfl) ?_
  refine lv_if_lt (tgt := 16) hx hb d_Jobs_has_1 (by decide) (fun hc => ?_) (fun hc => ?_)
  · have h := h.1 hc
    refine lv_iconst (v := 0) hx hb d_Jobs_has_16 (by decide) ?_
    exact W.zret (v := 0) hx hb hr (by decide) (fun t ht hW => ⟨0, rfl, h, ht⟩) (fun q hq => by cases hq) d_Jobs_has_17
  · have h := h.2 hc
    refine lv_iload_n hx hb d_Jobs_has_4 rfl (lv_at hl 1 rfl) ?_
    refine lv_aload_n hx hb d_Jobs_has_5 rfl (lv_at hl 0 rfl) ?_
    refine va_get (D := D) (ci := 2) (v := .int (σ 0 4)) (C := "CarrierPaths$Jobs") (T := F_Jobs) (N := 5) hx hb hts in_Jobs hown hK hP 0 rfl rfl 4 (by decide) (hts _ kw135) (fun _ h9 => h9) rfl d_Jobs_has_6 ?_
    refine lv_icmp_ge (tgt := 16) hx hb d_Jobs_has_9 (by decide) (fun hc => ?_) (fun hc => ?_)
    · have h := h.1 hc
      refine lv_iconst (v := 0) hx hb d_Jobs_has_16 (by decide) ?_
      exact W.zret (v := 0) hx hb hr (by decide) (fun t ht hW => ⟨0, rfl, h, ht⟩) (fun q hq => by cases hq) d_Jobs_has_17
    · have h := h.2 hc
      refine lv_iconst (v := 1) hx hb d_Jobs_has_12 (by decide) ?_
      refine lv_goto (tgt := 17) hx hb d_Jobs_has_13 (by decide) ?_
      exact W.zret (v := 1) hx hb hr (by decide) (fun t ht hW => ⟨1, rfl, h, ht⟩) (fun q hq => by cases hq) d_Jobs_has_17
def q_Jobs_add (v1 v2 : Int32) (σ : Sg) (Q : (Int32 → Sg → Prop)) : Prop :=
  (vp_in (σ 0 4) 12 ∧ (vp_in (σ 0 4) 12 ∧ (vp_in (σ 0 4) 12 ∧ (vp_in (σ 0 4) 12 ∧ Q (σ 0 4) (sto (sto (sto (sto (sto σ 1 (σ 0 4).toNatClampNeg v1) 2 (σ 0 4).toNatClampNeg v2) 3 (σ 0 4).toNatClampNeg 0) 4 (σ 0 4).toNatClampNeg (-1)) 0 4 (((sto (sto (sto (sto σ 1 (σ 0 4).toNatClampNeg v1) 2 (σ 0 4).toNatClampNeg v2) 3 (σ 0 4).toNatClampNeg 0) 4 (σ 0 4).toNatClampNeg (-1)) 0 4) + 1))))))
set_option maxHeartbeats 4000000 in
set_option maxRecDepth 100000 in
theorem t_Jobs_add (l : Launch) (D : va_G) (cI cZ : ClassId) (ad : Nat → Nat) (inj : Inj ad 5) (v1 v2 : Int32) (σ : Sg) (Q : (Int32 → Sg → Prop)) (h : q_Jobs_add v1 v2 σ Q) : Met l y_Jobs_add (.code y_Jobs_add prog_4_method_4_code 4 (some .int) :: TG) { frames := 0, cells := 0, slots := 0, locals := 0 } (va_Pc [.ref (ad 0), .int v1, .int v2] (roB D (tysA cI cZ) (W_Jobs ad cI cZ σ))) (va_Qi Q (fun u t => va_P D classes (W_Jobs ad cI cZ u) t.heap) (inA ad 5)) 0 0 (inA ad 5) := by
  refine Met.ofW (cc := prog_4_method_4_code) (maxL := 4) (ret := (some .int)) (by decide) rfl ?_
  intro p e s m args below meth c s₁ B hml hv
  obtain ⟨rfl, hP, hK⟩ := hv
  have hx := B.exec
  have hb := B.bytes
  have hr := B.returns
  have hts : ∀ w ∈ TG, w.before [.ref (ad 0), .int v1, .int v2].toArray s = true := fun w hw => atoms_spec (ws := .code y_Jobs_add prog_4_method_4_code 4 (some .int) :: TG) B.pre w (List.mem_cons_of_mem _ hw)
  have hown : s.vm.findClass "CarrierPaths$Jobs" = some m.cls := findClass_of_methodNamed B.named
  have hlocks := B.notSynchronized
  have hS : va_S (inA ad 5) s.heap s.heap [] := va_S.rf
  have hl := lv_entry ([.ref (ad 0), .int v1, .int v2]) (n := 4) (Nat.le_of_ble_eq_true rfl)
  rw [lg_entry_eq]
  generalize (lg_sl ([.ref (ad 0), .int v1, .int v2]) ++ List.replicate (4 - (lg_sl ([.ref (ad 0), .int v1, .int v2])).length) Slot.unset).toArray = ls at hl ⊢
  have hl : lv_has ls 4 [(0, .ref (ad 0)), (1, .int v1), (2, .int v2)] := hl
  unfold q_Jobs_add at h
  refine lv_aload_n hx hb d_Jobs_add_0 rfl (lv_at hl 0 rfl) ?_
  refine va_get (D := D) (ci := 2) (v := .int (σ 0 4)) (C := "CarrierPaths$Jobs") (T := F_Jobs) (N := 5) hx hb hts in_Jobs hown hK hP 0 rfl rfl 4 (by decide) (hts _ kw135) (fun _ h9 => h9) rfl d_Jobs_add_1 ?_
  refine lv_istore_n (lv' := [(3, .int (σ 0 4)), (0, .ref (ad 0)), (1, .int v1), (2, .int v2)]) hx hb d_Jobs_add_4 rfl hl (by decide) rfl (fun ls hl => ?_)
  refine lv_aload_n hx hb d_Jobs_add_5 rfl (lv_at hl 1 rfl) ?_
  refine va_get (D := D) (ci := 2) (v := .ref (ad 1)) (C := "CarrierPaths$Jobs") (T := F_Jobs) (N := 5) hx hb hts in_Jobs hown hK hP 0 rfl rfl 0 (by decide) (hts _ kw131) (fun _ h9 => h9) rfl d_Jobs_add_6 ?_
  refine lv_iload_n hx hb d_Jobs_add_9 rfl (lv_at hl 0 rfl) ?_
  refine lv_iload_n hx hb d_Jobs_add_10 rfl (lv_at hl 2 rfl) ?_
  obtain ⟨hi, h⟩ := h
  refine va_iast hx hb hK hP (D_Jobs inj) hS 1 0 rfl rfl hi d_Jobs_add_11 (fun H locs hP _ hS => ?_)
  have hP : va_P D classes (W_Jobs ad cI cZ (sto σ 1 (σ 0 4).toNatClampNeg v1)) H := hP
  refine lv_aload_n hx hb d_Jobs_add_12 rfl (lv_at hl 1 rfl) ?_
  refine va_get (D := D) (ci := 2) (v := .ref (ad 2)) (C := "CarrierPaths$Jobs") (T := F_Jobs) (N := 5) hx hb hts in_Jobs hown hK hP 0 rfl rfl 1 (by decide) (hts _ kw132) (fun _ h9 => h9) rfl d_Jobs_add_13 ?_
  refine lv_iload_n hx hb d_Jobs_add_16 rfl (lv_at hl 0 rfl) ?_
  refine lv_iload_n hx hb d_Jobs_add_17 rfl (lv_at hl 3 rfl) ?_
  obtain ⟨hi, h⟩ := h
  refine va_iast hx hb hK hP (D_Jobs inj) hS 2 0 rfl rfl hi d_Jobs_add_18 (fun H locs hP _ hS => ?_)
  have hP : va_P D classes (W_Jobs ad cI cZ (sto (sto σ 1 (σ 0 4).toNatClampNeg v1) 2 (σ 0 4).toNatClampNeg v2)) H := hP
  refine lv_aload_n hx hb d_Jobs_add_19 rfl (lv_at hl 1 rfl) ?_
  refine va_get (D := D) (ci := 2) (v := .ref (ad 3)) (C := "CarrierPaths$Jobs") (T := F_Jobs) (N := 5) hx hb hts in_Jobs hown hK hP 0 rfl rfl 2 (by decide) (hts _ kw133) (fun _ h9 => h9) rfl d_Jobs_add_20 ?_
  refine lv_iload_n hx hb d_Jobs_add_23 rfl (lv_at hl 0 rfl) ?_
  refine lv_iconst (v := 0) hx hb d_Jobs_add_24 (by decide) ?_
  obtain ⟨hi, h⟩ := h
  refine va_iast hx hb hK hP (D_Jobs inj) hS 3 0 rfl rfl hi d_Jobs_add_25 (fun H locs hP _ hS => ?_)
  have hP : va_P D classes (W_Jobs ad cI cZ (sto (sto (sto σ 1 (σ 0 4).toNatClampNeg v1) 2 (σ 0 4).toNatClampNeg v2) 3 (σ 0 4).toNatClampNeg 0)) H := hP
  refine lv_aload_n hx hb d_Jobs_add_26 rfl (lv_at hl 1 rfl) ?_
  refine va_get (D := D) (ci := 2) (v := .ref (ad 4)) (C := "CarrierPaths$Jobs") (T := F_Jobs) (N := 5) hx hb hts in_Jobs hown hK hP 0 rfl rfl 3 (by decide) (hts _ kw134) (fun _ h9 => h9) rfl d_Jobs_add_27 ?_
  refine lv_iload_n hx hb d_Jobs_add_30 rfl (lv_at hl 0 rfl) ?_
  refine lv_iconst (v := (-1)) hx hb d_Jobs_add_31 (by decide) ?_
  obtain ⟨hi, h⟩ := h
  refine va_iast hx hb hK hP (D_Jobs inj) hS 4 0 rfl rfl hi d_Jobs_add_32 (fun H locs hP _ hS => ?_)
  have hP : va_P D classes (W_Jobs ad cI cZ (sto (sto (sto (sto σ 1 (σ 0 4).toNatClampNeg v1) 2 (σ 0 4).toNatClampNeg v2) 3 (σ 0 4).toNatClampNeg 0) 4 (σ 0 4).toNatClampNeg (-1))) H := hP
  refine lv_aload_n hx hb d_Jobs_add_33 rfl (lv_at hl 1 rfl) ?_
  refine lv_dup hx hb d_Jobs_add_34 rfl ?_
  refine va_get (D := D) (ci := 2) (v := .int ((sto (sto (sto (sto σ 1 (σ 0 4).toNatClampNeg v1) 2 (σ 0 4).toNatClampNeg v2) 3 (σ 0 4).toNatClampNeg 0) 4 (σ 0 4).toNatClampNeg (-1)) 0 4)) (C := "CarrierPaths$Jobs") (T := F_Jobs) (N := 5) hx hb hts in_Jobs hown hK hP 0 rfl rfl 4 (by decide) (hts _ kw135) (fun _ h9 => h9) rfl d_Jobs_add_35 ?_
  refine lv_iconst (v := 1) hx hb d_Jobs_add_38 (by decide) ?_
  refine lv_iadd hx hb d_Jobs_add_39 ?_
  refine va_put (D := D) (ci := 2) (v := .int (((sto (sto (sto (sto σ 1 (σ 0 4).toNatClampNeg v1) 2 (σ 0 4).toNatClampNeg v2) 3 (σ 0 4).toNatClampNeg 0) 4 (σ 0 4).toNatClampNeg (-1)) 0 4) + 1)) (ty := .int) (C := "CarrierPaths$Jobs") (T := F_Jobs) (N := 5) hx hb hts in_Jobs ty_Jobs ty_Jobs_ok nm_Jobs hown hK hP (D_Jobs inj) hS 0 rfl rfl 4 (by decide) (hts _ kw135) (fun _ h9 => h9) rfl (by decide +kernel) rfl rfl (Nat.le_of_ble_eq_true rfl) d_Jobs_add_40 (fun H locs hP _ hS => ?_)
  have hP : va_P D classes (W_Jobs ad cI cZ (sto (sto (sto (sto (sto σ 1 (σ 0 4).toNatClampNeg v1) 2 (σ 0 4).toNatClampNeg v2) 3 (σ 0 4).toNatClampNeg 0) 4 (σ 0 4).toNatClampNeg (-1)) 0 4 (((sto (sto (sto (sto σ 1 (σ 0 4).toNatClampNeg v1) 2 (σ 0 4).toNatClampNeg v2) 3 (σ 0 4).toNatClampNeg 0) 4 (σ 0 4).toNatClampNeg (-1)) 0 4) + 1))) H := hP
  refine lv_iload_n hx hb d_Jobs_add_43 rfl (lv_at hl 0 rfl) ?_
  exact W.iret (v := (σ 0 4)) hx hb hr (fun t ht hW => ⟨⟨(σ 0 4), (sto (sto (sto (sto (sto σ 1 (σ 0 4).toNatClampNeg v1) 2 (σ 0 4).toNatClampNeg v2) 3 (σ 0 4).toNatClampNeg 0) 4 (σ 0 4).toNatClampNeg (-1)) 0 4 (((sto (sto (sto (sto σ 1 (σ 0 4).toNatClampNeg v1) 2 (σ 0 4).toNatClampNeg v2) 3 (σ 0 4).toNatClampNeg 0) 4 (σ 0 4).toNatClampNeg (-1)) 0 4) + 1)), rfl, h, hp_back ht hP⟩, hS.F ht⟩) hS.2.2 d_Jobs_add_44
def q_Jobs_fromOf (v1 : Int32) (σ : Sg) (Q : (Int32 → Prop)) : Prop :=
  (vp_in v1 12 ∧ Q (σ 1 v1.toNatClampNeg))
set_option maxHeartbeats 4000000 in
set_option maxRecDepth 100000 in
theorem t_Jobs_fromOf (l : Launch) (D : va_G) (cI cZ : ClassId) (ad : Nat → Nat) (v1 : Int32) (σ : Sg) (Q : (Int32 → Prop)) (h : q_Jobs_fromOf v1 σ Q) : Met l y_Jobs_fromOf (.code y_Jobs_fromOf prog_4_method_5_code 2 (some .int) :: TG) { frames := 0, cells := 0, slots := 0, locals := 0 } (va_Pc [.ref (ad 0), .int v1] (roB D (tysA cI cZ) (W_Jobs ad cI cZ σ))) (vp_Si Q) 0 0 (fun _ => False) := by
  refine Met.ofW (cc := prog_4_method_5_code) (maxL := 2) (ret := (some .int)) (by decide) rfl ?_
  intro p e s m args below meth c s₁ B hml hv
  obtain ⟨rfl, hP, hK⟩ := hv
  have hx := B.exec
  have hb := B.bytes
  have hr := B.returns
  have hts : ∀ w ∈ TG, w.before [.ref (ad 0), .int v1].toArray s = true := fun w hw => atoms_spec (ws := .code y_Jobs_fromOf prog_4_method_5_code 2 (some .int) :: TG) B.pre w (List.mem_cons_of_mem _ hw)
  have hown : s.vm.findClass "CarrierPaths$Jobs" = some m.cls := findClass_of_methodNamed B.named
  have hlocks := B.notSynchronized
  have hl := lv_entry ([.ref (ad 0), .int v1]) (n := 2) (Nat.le_of_ble_eq_true rfl)
  rw [lg_entry_eq]
  generalize (lg_sl ([.ref (ad 0), .int v1]) ++ List.replicate (2 - (lg_sl ([.ref (ad 0), .int v1])).length) Slot.unset).toArray = ls at hl ⊢
  have hl : lv_has ls 2 [(0, .ref (ad 0)), (1, .int v1)] := hl
  unfold q_Jobs_fromOf at h
  refine lv_aload_n hx hb d_Jobs_fromOf_0 rfl (lv_at hl 0 rfl) ?_
  refine va_get (D := D) (ci := 2) (v := .ref (ad 1)) (C := "CarrierPaths$Jobs") (T := F_Jobs) (N := 5) hx hb hts in_Jobs hown hK hP 0 rfl rfl 0 (by decide) (hts _ kw131) (fun _ h9 => h9) rfl d_Jobs_fromOf_1 ?_
  refine lv_iload_n hx hb d_Jobs_fromOf_4 rfl (lv_at hl 1 rfl) ?_
  obtain ⟨hi, h⟩ := h
  refine va_iald hx hb hK hP 1 0 rfl rfl hi d_Jobs_fromOf_5 ?_
  exact W.iret (v := (σ 1 v1.toNatClampNeg)) hx hb hr (fun t ht hW => ⟨(σ 1 v1.toNatClampNeg), rfl, h, ht⟩) (fun q hq => by cases hq) d_Jobs_fromOf_6
def q_Jobs_toOf (v1 : Int32) (σ : Sg) (Q : (Int32 → Prop)) : Prop :=
  (vp_in v1 12 ∧ Q (σ 2 v1.toNatClampNeg))
set_option maxHeartbeats 4000000 in
set_option maxRecDepth 100000 in
theorem t_Jobs_toOf (l : Launch) (D : va_G) (cI cZ : ClassId) (ad : Nat → Nat) (v1 : Int32) (σ : Sg) (Q : (Int32 → Prop)) (h : q_Jobs_toOf v1 σ Q) : Met l y_Jobs_toOf (.code y_Jobs_toOf prog_4_method_6_code 2 (some .int) :: TG) { frames := 0, cells := 0, slots := 0, locals := 0 } (va_Pc [.ref (ad 0), .int v1] (roB D (tysA cI cZ) (W_Jobs ad cI cZ σ))) (vp_Si Q) 0 0 (fun _ => False) := by
  refine Met.ofW (cc := prog_4_method_6_code) (maxL := 2) (ret := (some .int)) (by decide) rfl ?_
  intro p e s m args below meth c s₁ B hml hv
  obtain ⟨rfl, hP, hK⟩ := hv
  have hx := B.exec
  have hb := B.bytes
  have hr := B.returns
  have hts : ∀ w ∈ TG, w.before [.ref (ad 0), .int v1].toArray s = true := fun w hw => atoms_spec (ws := .code y_Jobs_toOf prog_4_method_6_code 2 (some .int) :: TG) B.pre w (List.mem_cons_of_mem _ hw)
  have hown : s.vm.findClass "CarrierPaths$Jobs" = some m.cls := findClass_of_methodNamed B.named
  have hlocks := B.notSynchronized
  have hl := lv_entry ([.ref (ad 0), .int v1]) (n := 2) (Nat.le_of_ble_eq_true rfl)
  rw [lg_entry_eq]
  generalize (lg_sl ([.ref (ad 0), .int v1]) ++ List.replicate (2 - (lg_sl ([.ref (ad 0), .int v1])).length) Slot.unset).toArray = ls at hl ⊢
  have hl : lv_has ls 2 [(0, .ref (ad 0)), (1, .int v1)] := hl
  unfold q_Jobs_toOf at h
  refine lv_aload_n hx hb d_Jobs_toOf_0 rfl (lv_at hl 0 rfl) ?_
  refine va_get (D := D) (ci := 2) (v := .ref (ad 2)) (C := "CarrierPaths$Jobs") (T := F_Jobs) (N := 5) hx hb hts in_Jobs hown hK hP 0 rfl rfl 1 (by decide) (hts _ kw132) (fun _ h9 => h9) rfl d_Jobs_toOf_1 ?_
  refine lv_iload_n hx hb d_Jobs_toOf_4 rfl (lv_at hl 1 rfl) ?_
  obtain ⟨hi, h⟩ := h
  refine va_iald hx hb hK hP 2 0 rfl rfl hi d_Jobs_toOf_5 ?_
  exact W.iret (v := (σ 2 v1.toNatClampNeg)) hx hb hr (fun t ht hW => ⟨(σ 2 v1.toNatClampNeg), rfl, h, ht⟩) (fun q hq => by cases hq) d_Jobs_toOf_6
def q_Jobs_stateOf (v1 : Int32) (σ : Sg) (Q : (Int32 → Prop)) : Prop :=
  (vp_in v1 12 ∧ Q (σ 3 v1.toNatClampNeg))
set_option maxHeartbeats 4000000 in
set_option maxRecDepth 100000 in
theorem t_Jobs_stateOf (l : Launch) (D : va_G) (cI cZ : ClassId) (ad : Nat → Nat) (v1 : Int32) (σ : Sg) (Q : (Int32 → Prop)) (h : q_Jobs_stateOf v1 σ Q) : Met l y_Jobs_stateOf (.code y_Jobs_stateOf prog_4_method_7_code 2 (some .int) :: TG) { frames := 0, cells := 0, slots := 0, locals := 0 } (va_Pc [.ref (ad 0), .int v1] (roB D (tysA cI cZ) (W_Jobs ad cI cZ σ))) (vp_Si Q) 0 0 (fun _ => False) := by
  refine Met.ofW (cc := prog_4_method_7_code) (maxL := 2) (ret := (some .int)) (by decide) rfl ?_
  intro p e s m args below meth c s₁ B hml hv
  obtain ⟨rfl, hP, hK⟩ := hv
  have hx := B.exec
  have hb := B.bytes
  have hr := B.returns
  have hts : ∀ w ∈ TG, w.before [.ref (ad 0), .int v1].toArray s = true := fun w hw => atoms_spec (ws := .code y_Jobs_stateOf prog_4_method_7_code 2 (some .int) :: TG) B.pre w (List.mem_cons_of_mem _ hw)
  have hown : s.vm.findClass "CarrierPaths$Jobs" = some m.cls := findClass_of_methodNamed B.named
  have hlocks := B.notSynchronized
  have hl := lv_entry ([.ref (ad 0), .int v1]) (n := 2) (Nat.le_of_ble_eq_true rfl)
  rw [lg_entry_eq]
  generalize (lg_sl ([.ref (ad 0), .int v1]) ++ List.replicate (2 - (lg_sl ([.ref (ad 0), .int v1])).length) Slot.unset).toArray = ls at hl ⊢
  have hl : lv_has ls 2 [(0, .ref (ad 0)), (1, .int v1)] := hl
  unfold q_Jobs_stateOf at h
  refine lv_aload_n hx hb d_Jobs_stateOf_0 rfl (lv_at hl 0 rfl) ?_
  refine va_get (D := D) (ci := 2) (v := .ref (ad 3)) (C := "CarrierPaths$Jobs") (T := F_Jobs) (N := 5) hx hb hts in_Jobs hown hK hP 0 rfl rfl 2 (by decide) (hts _ kw133) (fun _ h9 => h9) rfl d_Jobs_stateOf_1 ?_
  refine lv_iload_n hx hb d_Jobs_stateOf_4 rfl (lv_at hl 1 rfl) ?_
  obtain ⟨hi, h⟩ := h
  refine va_iald hx hb hK hP 3 0 rfl rfl hi d_Jobs_stateOf_5 ?_
  exact W.iret (v := (σ 3 v1.toNatClampNeg)) hx hb hr (fun t ht hW => ⟨(σ 3 v1.toNatClampNeg), rfl, h, ht⟩) (fun q hq => by cases hq) d_Jobs_stateOf_6
def q_Jobs_carrierOf (v1 : Int32) (σ : Sg) (Q : (Int32 → Prop)) : Prop :=
  (vp_in v1 12 ∧ Q (σ 4 v1.toNatClampNeg))
set_option maxHeartbeats 4000000 in
set_option maxRecDepth 100000 in
theorem t_Jobs_carrierOf (l : Launch) (D : va_G) (cI cZ : ClassId) (ad : Nat → Nat) (v1 : Int32) (σ : Sg) (Q : (Int32 → Prop)) (h : q_Jobs_carrierOf v1 σ Q) : Met l y_Jobs_carrierOf (.code y_Jobs_carrierOf prog_4_method_8_code 2 (some .int) :: TG) { frames := 0, cells := 0, slots := 0, locals := 0 } (va_Pc [.ref (ad 0), .int v1] (roB D (tysA cI cZ) (W_Jobs ad cI cZ σ))) (vp_Si Q) 0 0 (fun _ => False) := by
  refine Met.ofW (cc := prog_4_method_8_code) (maxL := 2) (ret := (some .int)) (by decide) rfl ?_
  intro p e s m args below meth c s₁ B hml hv
  obtain ⟨rfl, hP, hK⟩ := hv
  have hx := B.exec
  have hb := B.bytes
  have hr := B.returns
  have hts : ∀ w ∈ TG, w.before [.ref (ad 0), .int v1].toArray s = true := fun w hw => atoms_spec (ws := .code y_Jobs_carrierOf prog_4_method_8_code 2 (some .int) :: TG) B.pre w (List.mem_cons_of_mem _ hw)
  have hown : s.vm.findClass "CarrierPaths$Jobs" = some m.cls := findClass_of_methodNamed B.named
  have hlocks := B.notSynchronized
  have hl := lv_entry ([.ref (ad 0), .int v1]) (n := 2) (Nat.le_of_ble_eq_true rfl)
  rw [lg_entry_eq]
  generalize (lg_sl ([.ref (ad 0), .int v1]) ++ List.replicate (2 - (lg_sl ([.ref (ad 0), .int v1])).length) Slot.unset).toArray = ls at hl ⊢
  have hl : lv_has ls 2 [(0, .ref (ad 0)), (1, .int v1)] := hl
  unfold q_Jobs_carrierOf at h
  refine lv_aload_n hx hb d_Jobs_carrierOf_0 rfl (lv_at hl 0 rfl) ?_
  refine va_get (D := D) (ci := 2) (v := .ref (ad 4)) (C := "CarrierPaths$Jobs") (T := F_Jobs) (N := 5) hx hb hts in_Jobs hown hK hP 0 rfl rfl 3 (by decide) (hts _ kw134) (fun _ h9 => h9) rfl d_Jobs_carrierOf_1 ?_
  refine lv_iload_n hx hb d_Jobs_carrierOf_4 rfl (lv_at hl 1 rfl) ?_
  obtain ⟨hi, h⟩ := h
  refine va_iald hx hb hK hP 4 0 rfl rfl hi d_Jobs_carrierOf_5 ?_
  exact W.iret (v := (σ 4 v1.toNatClampNeg)) hx hb hr (fun t ht hW => ⟨(σ 4 v1.toNatClampNeg), rfl, h, ht⟩) (fun q hq => by cases hq) d_Jobs_carrierOf_6
def q_Jobs_isWaiting (v1 : Int32) (σ : Sg) (Q : (Int32 → Prop)) : Prop :=
  (vp_in v1 12 ∧ (((σ 3 v1.toNatClampNeg) = 0 → Q 1) ∧ (¬ (σ 3 v1.toNatClampNeg) = 0 → Q 0)))
set_option maxHeartbeats 4000000 in
set_option maxRecDepth 100000 in
theorem t_Jobs_isWaiting (l : Launch) (D : va_G) (cI cZ : ClassId) (ad : Nat → Nat) (v1 : Int32) (σ : Sg) (Q : (Int32 → Prop)) (h : q_Jobs_isWaiting v1 σ Q) : Met l y_Jobs_isWaiting (.code y_Jobs_isWaiting prog_4_method_9_code 2 (some .boolean) :: TG) { frames := 0, cells := 0, slots := 0, locals := 0 } (va_Pc [.ref (ad 0), .int v1] (roB D (tysA cI cZ) (W_Jobs ad cI cZ σ))) (vp_Si Q) 0 0 (fun _ => False) := by
  refine Met.ofW (cc := prog_4_method_9_code) (maxL := 2) (ret := (some .boolean)) (by decide) rfl ?_
  intro p e s m args below meth c s₁ B hml hv
  obtain ⟨rfl, hP, hK⟩ := hv
  have hx := B.exec
  have hb := B.bytes
  have hr := B.returns
  have hts : ∀ w ∈ TG, w.before [.ref (ad 0), .int v1].toArray s = true := fun w hw => atoms_spec (ws := .code y_Jobs_isWaiting prog_4_method_9_code 2 (some .boolean) :: TG) B.pre w (List.mem_cons_of_mem _ hw)
  have hown : s.vm.findClass "CarrierPaths$Jobs" = some m.cls := findClass_of_methodNamed B.named
  have hlocks := B.notSynchronized
  have hl := lv_entry ([.ref (ad 0), .int v1]) (n := 2) (Nat.le_of_ble_eq_true rfl)
  rw [lg_entry_eq]
  generalize (lg_sl ([.ref (ad 0), .int v1]) ++ List.replicate (2 - (lg_sl ([.ref (ad 0), .int v1])).length) Slot.unset).toArray = ls at hl ⊢
  have hl : lv_has ls 2 [(0, .ref (ad 0)), (1, .int v1)] := hl
  unfold q_Jobs_isWaiting at h
  refine lv_aload_n hx hb d_Jobs_isWaiting_0 rfl (lv_at hl 0 rfl) ?_
  refine va_get (D := D) (ci := 2) (v := .ref (ad 3)) (C := "CarrierPaths$Jobs") (T := F_Jobs) (N := 5) hx hb hts in_Jobs hown hK hP 0 rfl rfl 2 (by decide) (hts _ kw133) (fun _ h9 => h9) rfl d_Jobs_isWaiting_1 ?_
  refine lv_iload_n hx hb d_Jobs_isWaiting_4 rfl (lv_at hl 1 rfl) ?_
  obtain ⟨hi, h⟩ := h
  refine va_iald hx hb hK hP 3 0 rfl rfl hi d_Jobs_isWaiting_5 ?_
  refine lv_if_ne (tgt := 13) hx hb d_Jobs_isWaiting_6 (by decide) (fun hc => ?_) (fun hc => ?_)
  · have h := h.2 hc
    refine lv_iconst (v := 0) hx hb d_Jobs_isWaiting_13 (by decide) ?_
    exact W.zret (v := 0) hx hb hr (by decide) (fun t ht hW => ⟨0, rfl, h, ht⟩) (fun q hq => by cases hq) d_Jobs_isWaiting_14
  · have h := h.1 hc
    refine lv_iconst (v := 1) hx hb d_Jobs_isWaiting_9 (by decide) ?_
    refine lv_goto (tgt := 14) hx hb d_Jobs_isWaiting_10 (by decide) ?_
    exact W.zret (v := 1) hx hb hr (by decide) (fun t ht hW => ⟨1, rfl, h, ht⟩) (fun q hq => by cases hq) d_Jobs_isWaiting_14
def q_Jobs_isLoaded (v1 : Int32) (σ : Sg) (Q : (Int32 → Prop)) : Prop :=
  (vp_in v1 12 ∧ (((σ 3 v1.toNatClampNeg) = 2 → Q 1) ∧ (¬ (σ 3 v1.toNatClampNeg) = 2 → Q 0)))
set_option maxHeartbeats 4000000 in
set_option maxRecDepth 100000 in
theorem t_Jobs_isLoaded (l : Launch) (D : va_G) (cI cZ : ClassId) (ad : Nat → Nat) (v1 : Int32) (σ : Sg) (Q : (Int32 → Prop)) (h : q_Jobs_isLoaded v1 σ Q) : Met l y_Jobs_isLoaded (.code y_Jobs_isLoaded prog_4_method_10_code 2 (some .boolean) :: TG) { frames := 0, cells := 0, slots := 0, locals := 0 } (va_Pc [.ref (ad 0), .int v1] (roB D (tysA cI cZ) (W_Jobs ad cI cZ σ))) (vp_Si Q) 0 0 (fun _ => False) := by
  refine Met.ofW (cc := prog_4_method_10_code) (maxL := 2) (ret := (some .boolean)) (by decide) rfl ?_
  intro p e s m args below meth c s₁ B hml hv
  obtain ⟨rfl, hP, hK⟩ := hv
  have hx := B.exec
  have hb := B.bytes
  have hr := B.returns
  have hts : ∀ w ∈ TG, w.before [.ref (ad 0), .int v1].toArray s = true := fun w hw => atoms_spec (ws := .code y_Jobs_isLoaded prog_4_method_10_code 2 (some .boolean) :: TG) B.pre w (List.mem_cons_of_mem _ hw)
  have hown : s.vm.findClass "CarrierPaths$Jobs" = some m.cls := findClass_of_methodNamed B.named
  have hlocks := B.notSynchronized
  have hl := lv_entry ([.ref (ad 0), .int v1]) (n := 2) (Nat.le_of_ble_eq_true rfl)
  rw [lg_entry_eq]
  generalize (lg_sl ([.ref (ad 0), .int v1]) ++ List.replicate (2 - (lg_sl ([.ref (ad 0), .int v1])).length) Slot.unset).toArray = ls at hl ⊢
  have hl : lv_has ls 2 [(0, .ref (ad 0)), (1, .int v1)] := hl
  unfold q_Jobs_isLoaded at h
  refine lv_aload_n hx hb d_Jobs_isLoaded_0 rfl (lv_at hl 0 rfl) ?_
  refine va_get (D := D) (ci := 2) (v := .ref (ad 3)) (C := "CarrierPaths$Jobs") (T := F_Jobs) (N := 5) hx hb hts in_Jobs hown hK hP 0 rfl rfl 2 (by decide) (hts _ kw133) (fun _ h9 => h9) rfl d_Jobs_isLoaded_1 ?_
  refine lv_iload_n hx hb d_Jobs_isLoaded_4 rfl (lv_at hl 1 rfl) ?_
  obtain ⟨hi, h⟩ := h
  refine va_iald hx hb hK hP 3 0 rfl rfl hi d_Jobs_isLoaded_5 ?_
  refine lv_iconst (v := 2) hx hb d_Jobs_isLoaded_6 (by decide) ?_
  refine lv_icmp_ne (tgt := 14) hx hb d_Jobs_isLoaded_7 (by decide) (fun hc => ?_) (fun hc => ?_)
  · have h := h.2 hc
    refine lv_iconst (v := 0) hx hb d_Jobs_isLoaded_14 (by decide) ?_
    exact W.zret (v := 0) hx hb hr (by decide) (fun t ht hW => ⟨0, rfl, h, ht⟩) (fun q hq => by cases hq) d_Jobs_isLoaded_15
  · have h := h.1 hc
    refine lv_iconst (v := 1) hx hb d_Jobs_isLoaded_10 (by decide) ?_
    refine lv_goto (tgt := 15) hx hb d_Jobs_isLoaded_11 (by decide) ?_
    exact W.zret (v := 1) hx hb hr (by decide) (fun t ht hW => ⟨1, rfl, h, ht⟩) (fun q hq => by cases hq) d_Jobs_isLoaded_15
def q_Jobs_goalOf (v1 : Int32) (σ : Sg) (Q : (Int32 → Prop)) : Prop :=
  (q_Jobs_isLoaded v1 σ (fun r1 => ((r1 = 0 → (vp_in v1 12 ∧ Q (σ 1 v1.toNatClampNeg))) ∧ (¬ r1 = 0 → (vp_in v1 12 ∧ Q (σ 2 v1.toNatClampNeg))))))
set_option maxHeartbeats 4000000 in
set_option maxRecDepth 100000 in
theorem t_Jobs_goalOf (l : Launch) (D : va_G) (cI cZ : ClassId) (ad : Nat → Nat) (v1 : Int32) (σ : Sg) (Q : (Int32 → Prop)) (h : q_Jobs_goalOf v1 σ Q) : Met l y_Jobs_goalOf (.code y_Jobs_goalOf prog_4_method_11_code 2 (some .int) :: TG) { frames := 1, cells := 0, slots := 0, locals := 21 } (va_Pc [.ref (ad 0), .int v1] (roB D (tysA cI cZ) (W_Jobs ad cI cZ σ))) (vp_Si Q) 0 0 (fun _ => False) := by
  refine Met.ofW (cc := prog_4_method_11_code) (maxL := 2) (ret := (some .int)) (by decide) rfl ?_
  intro p e s m args below meth c s₁ B hml hv
  obtain ⟨rfl, hP, hK⟩ := hv
  have hx := B.exec
  have hb := B.bytes
  have hr := B.returns
  have hts : ∀ w ∈ TG, w.before [.ref (ad 0), .int v1].toArray s = true := fun w hw => atoms_spec (ws := .code y_Jobs_goalOf prog_4_method_11_code 2 (some .int) :: TG) B.pre w (List.mem_cons_of_mem _ hw)
  have hown : s.vm.findClass "CarrierPaths$Jobs" = some m.cls := findClass_of_methodNamed B.named
  have hlocks := B.notSynchronized
  have hl := lv_entry ([.ref (ad 0), .int v1]) (n := 2) (Nat.le_of_ble_eq_true rfl)
  rw [lg_entry_eq]
  generalize (lg_sl ([.ref (ad 0), .int v1]) ++ List.replicate (2 - (lg_sl ([.ref (ad 0), .int v1])).length) Slot.unset).toArray = ls at hl ⊢
  have hl : lv_has ls 2 [(0, .ref (ad 0)), (1, .int v1)] := hl
  unfold q_Jobs_goalOf at h
  refine lv_aload_n hx hb d_Jobs_goalOf_0 rfl (lv_at hl 0 rfl) ?_
  refine lv_iload_n hx hb d_Jobs_goalOf_1 rfl (lv_at hl 1 rfl) ?_
  refine vp_callSi (W.runV (As := [.int v1]) (rest := []) ⟨hx, hb, hml, hown, hts⟩ (t_Jobs_isLoaded l D cI cZ ad v1 σ _ h) (cwV 1 hts (g_of kw596 kw597 kw598 kw7 kw599) rfl rfl rfl (by decide +kernel) ⟨Nat.le_of_ble_eq_true rfl, Nat.le_of_ble_eq_true rfl⟩) (ro_pre hK hP (va_recv hK hP (ci := 2) (q0 := 0) rfl rfl)) rfl rfl hl.1 rfl (lv_room (Nat.le_of_ble_eq_true rfl)) d_Jobs_goalOf_2 ⟨Nat.le_of_ble_eq_true rfl, Nat.le_of_ble_eq_true rfl⟩) (fun r1 h => ?_)
  refine lv_if_eq (tgt := 17) hx hb d_Jobs_goalOf_5 (by decide) (fun hc => ?_) (fun hc => ?_)
  · have h := h.1 hc
    refine lv_aload_n hx hb d_Jobs_goalOf_17 rfl (lv_at hl 0 rfl) ?_
    refine va_get (D := D) (ci := 2) (v := .ref (ad 1)) (C := "CarrierPaths$Jobs") (T := F_Jobs) (N := 5) hx hb hts in_Jobs hown hK hP 0 rfl rfl 0 (by decide) (hts _ kw131) (fun _ h9 => h9) rfl d_Jobs_goalOf_18 ?_
    refine lv_iload_n hx hb d_Jobs_goalOf_21 rfl (lv_at hl 1 rfl) ?_
    obtain ⟨hi, h⟩ := h
    refine va_iald hx hb hK hP 1 0 rfl rfl hi d_Jobs_goalOf_22 ?_
    exact W.iret (v := (σ 1 v1.toNatClampNeg)) hx hb hr (fun t ht hW => ⟨(σ 1 v1.toNatClampNeg), rfl, h, ht⟩) (fun q hq => by cases hq) d_Jobs_goalOf_23
  · have h := h.2 hc
    refine lv_aload_n hx hb d_Jobs_goalOf_8 rfl (lv_at hl 0 rfl) ?_
    refine va_get (D := D) (ci := 2) (v := .ref (ad 2)) (C := "CarrierPaths$Jobs") (T := F_Jobs) (N := 5) hx hb hts in_Jobs hown hK hP 0 rfl rfl 1 (by decide) (hts _ kw132) (fun _ h9 => h9) rfl d_Jobs_goalOf_9 ?_
    refine lv_iload_n hx hb d_Jobs_goalOf_12 rfl (lv_at hl 1 rfl) ?_
    obtain ⟨hi, h⟩ := h
    refine va_iald hx hb hK hP 2 0 rfl rfl hi d_Jobs_goalOf_13 ?_
    refine lv_goto (tgt := 23) hx hb d_Jobs_goalOf_14 (by decide) ?_
    exact W.iret (v := (σ 2 v1.toNatClampNeg)) hx hb hr (fun t ht hW => ⟨(σ 2 v1.toNatClampNeg), rfl, h, ht⟩) (fun q hq => by cases hq) d_Jobs_goalOf_23
def q_Jobs_ended_b0 (J : Nat → Int32 → Int32 → Prop) (Q : (Int32 → Prop)) (v1 v2 : Int32) (σ : Sg) : Prop :=
  J 1 0 0
def q_Jobs_ended_b1 (J : Nat → Int32 → Int32 → Prop) (Q : (Int32 → Prop)) (v1 v2 : Int32) (σ : Sg) : Prop :=
  (((σ 0 4) ≤ v2 → Q v1) ∧ (¬ (σ 0 4) ≤ v2 → (vp_in v2 12 ∧ (((σ 3 v2.toNatClampNeg) = 3 → J 1 (v1 + 1) (v2 + 1)) ∧ (¬ (σ 3 v2.toNatClampNeg) = 3 → J 1 v1 (v2 + 1))))))
def q_Jobs_ended_j (Q : (Int32 → Prop)) (σ : Sg) : Nat → Nat → Int32 → Int32 → Prop
  | 0, _, _, _ => False
  | n + 1, 0, v1, v2 => q_Jobs_ended_b0 (q_Jobs_ended_j Q σ n) Q v1 v2 σ
  | n + 1, 1, v1, v2 => q_Jobs_ended_b1 (q_Jobs_ended_j Q σ n) Q v1 v2 σ
  | _ + 1, _ + 2, _, _ => False
def q_Jobs_ended (σ : Sg) (Q : (Int32 → Prop)) : Prop := q_Jobs_ended_j Q σ 4000 0 0 0
def lc_Jobs_ended (ad : Nat → Nat) (b : Nat) (v1 v2 : Int32) : List (Nat × Value) := match b with
  | 0 => [(0, .ref (ad 0))]
  | 1 => [(0, .ref (ad 0)), (1, .int v1), (2, .int v2)]
  | _ => []
def pc_Jobs_ended (b : Nat) : Nat := match b with
  | 0 => 0
  | 1 => 4
  | _ => 0
set_option maxHeartbeats 4000000 in
set_option maxRecDepth 100000 in
theorem t_Jobs_ended (l : Launch) (D : va_G) (cI cZ : ClassId) (ad : Nat → Nat) (σ : Sg) (Q : (Int32 → Prop)) (h : q_Jobs_ended σ Q) : Met l y_Jobs_ended (.code y_Jobs_ended prog_4_method_12_code 3 (some .int) :: TG) { frames := 0, cells := 0, slots := 0, locals := 0 } (va_Pc [.ref (ad 0)] (roB D (tysA cI cZ) (W_Jobs ad cI cZ σ))) (vp_Si Q) 0 0 (fun _ => False) := by
  refine Met.ofW (cc := prog_4_method_12_code) (maxL := 3) (ret := (some .int)) (by decide) rfl ?_
  intro p e s m args below meth c s₁ B hml hv
  obtain ⟨rfl, hP, hK⟩ := hv
  have hx := B.exec
  have hb := B.bytes
  have hr := B.returns
  have hts : ∀ w ∈ TG, w.before [.ref (ad 0)].toArray s = true := fun w hw => atoms_spec (ws := .code y_Jobs_ended prog_4_method_12_code 3 (some .int) :: TG) B.pre w (List.mem_cons_of_mem _ hw)
  have hown : s.vm.findClass "CarrierPaths$Jobs" = some m.cls := findClass_of_methodNamed B.named
  have hlocks := B.notSynchronized
  have hl := lv_entry ([.ref (ad 0)]) (n := 3) (Nat.le_of_ble_eq_true rfl)
  rw [lg_entry_eq]
  generalize (lg_sl ([.ref (ad 0)]) ++ List.replicate (3 - (lg_sl ([.ref (ad 0)])).length) Slot.unset).toArray = ls at hl ⊢
  generalize ([.ref (ad 0)] : List Value).toArray = args at hts ⊢
  have key : ∀ (n b : Nat) (v1 v2 : Int32), q_Jobs_ended_j Q σ n b v1 v2 → ∀ ls : Array Slot, lv_has ls 3 (lc_Jobs_ended ad b v1 v2) → W p l e (headSpec (.code y_Jobs_ended prog_4_method_12_code 3 (some .int) :: TG) { frames := 0, cells := 0, slots := 0, locals := 0 }).room s m args below meth c s.heap [] 0 0 (MQ below (vp_Si Q) args s 0 0 (fun _ => False)) (F0 m (pc_Jobs_ended b) ls []) := by
    clear h hl
    intro n
    induction n with
    | zero => intro b _ _ h; exact False.elim h
    | succ n ih =>
      intro b v1 v2 h ls hl
      match b, h, hl with
      | 0, h, hl =>
        have h : q_Jobs_ended_b0 (q_Jobs_ended_j Q σ n) Q v1 v2 σ := h
        have hl : lv_has ls 3 [(0, .ref (ad 0))] := hl
        refine W.eq (g2 := F0 m 0 ls []) rfl ?_
        unfold q_Jobs_ended_b0 at h
        refine lv_iconst (v := 0) hx hb d_Jobs_ended_0 (by decide) ?_
        refine lv_istore_n (lv' := [(1, .int 0), (0, .ref (ad 0))]) hx hb d_Jobs_ended_1 rfl hl (by decide) rfl (fun ls hl => ?_)
        refine lv_iconst (v := 0) hx hb d_Jobs_ended_2 (by decide) ?_
        refine lv_istore_n (lv' := [(2, .int 0), (1, .int 0), (0, .ref (ad 0))]) hx hb d_Jobs_ended_3 rfl hl (by decide) rfl (fun ls hl => ?_)
        exact ih 1 0 0 h _ (lv_sub hl [2, 1, 0] rfl)
      | 1, h, hl =>
        have h : q_Jobs_ended_b1 (q_Jobs_ended_j Q σ n) Q v1 v2 σ := h
        have hl : lv_has ls 3 [(0, .ref (ad 0)), (1, .int v1), (2, .int v2)] := hl
        refine W.eq (g2 := F0 m 4 ls []) rfl ?_
        unfold q_Jobs_ended_b1 at h
        refine lv_iload_n hx hb d_Jobs_ended_4 rfl (lv_at hl 2 rfl) ?_
        refine lv_aload_n hx hb d_Jobs_ended_5 rfl (lv_at hl 0 rfl) ?_
        refine va_get (D := D) (ci := 2) (v := .int (σ 0 4)) (C := "CarrierPaths$Jobs") (T := F_Jobs) (N := 5) hx hb hts in_Jobs hown hK hP 0 rfl rfl 4 (by decide) (hts _ kw135) (fun _ h9 => h9) rfl d_Jobs_ended_6 ?_
        refine lv_icmp_ge (tgt := 31) hx hb d_Jobs_ended_9 (by decide) (fun hc => ?_) (fun hc => ?_)
        · have h := h.1 hc
          refine lv_iload_n hx hb d_Jobs_ended_31 rfl (lv_at hl 1 rfl) ?_
          exact W.iret (v := v1) hx hb hr (fun t ht hW => ⟨v1, rfl, h, ht⟩) (fun q hq => by cases hq) d_Jobs_ended_32
        · have h := h.2 hc
          refine lv_aload_n hx hb d_Jobs_ended_12 rfl (lv_at hl 0 rfl) ?_
          refine va_get (D := D) (ci := 2) (v := .ref (ad 3)) (C := "CarrierPaths$Jobs") (T := F_Jobs) (N := 5) hx hb hts in_Jobs hown hK hP 0 rfl rfl 2 (by decide) (hts _ kw133) (fun _ h9 => h9) rfl d_Jobs_ended_13 ?_
          refine lv_iload_n hx hb d_Jobs_ended_16 rfl (lv_at hl 2 rfl) ?_
          obtain ⟨hi, h⟩ := h
          refine va_iald hx hb hK hP 3 0 rfl rfl hi d_Jobs_ended_17 ?_
          refine lv_iconst (v := 3) hx hb d_Jobs_ended_18 (by decide) ?_
          refine lv_icmp_ne (tgt := 25) hx hb d_Jobs_ended_19 (by decide) (fun hc => ?_) (fun hc => ?_)
          · have h := h.2 hc
            refine lv_iinc (v := (v2 + 1)) (lv' := [(2, .int (v2 + 1)), (0, .ref (ad 0)), (1, .int v1)]) hx hb d_Jobs_ended_25 hl (k := 2) rfl rfl (by decide) rfl (fun ls hl => ?_)
            refine lv_goto (tgt := 4) hx hb d_Jobs_ended_28 (by decide) ?_
            exact ih 1 v1 (v2 + 1) h _ (lv_sub hl [1, 2, 0] rfl)
          · have h := h.1 hc
            refine lv_iinc (v := (v1 + 1)) (lv' := [(1, .int (v1 + 1)), (0, .ref (ad 0)), (2, .int v2)]) hx hb d_Jobs_ended_22 hl (k := 1) rfl rfl (by decide) rfl (fun ls hl => ?_)
            refine lv_iinc (v := (v2 + 1)) (lv' := [(2, .int (v2 + 1)), (1, .int (v1 + 1)), (0, .ref (ad 0))]) hx hb d_Jobs_ended_25 hl (k := 2) rfl rfl (by decide) rfl (fun ls hl => ?_)
            refine lv_goto (tgt := 4) hx hb d_Jobs_ended_28 (by decide) ?_
            exact ih 1 (v1 + 1) (v2 + 1) h _ (lv_sub hl [2, 1, 0] rfl)
      | _ + 2, h, _ => exact False.elim h
  exact key 4000 0 0 0 h ls hl
def q_Jobs_setState (v1 v2 : Int32) (σ : Sg) (Q : (Sg → Prop)) : Prop :=
  (vp_in v1 12 ∧ Q (sto σ 3 v1.toNatClampNeg v2))
set_option maxHeartbeats 4000000 in
set_option maxRecDepth 100000 in
theorem t_Jobs_setState (l : Launch) (D : va_G) (cI cZ : ClassId) (ad : Nat → Nat) (inj : Inj ad 5) (v1 v2 : Int32) (σ : Sg) (Q : (Sg → Prop)) (h : q_Jobs_setState v1 v2 σ Q) : Met l y_Jobs_setState (.code y_Jobs_setState prog_4_method_13_code 3 none :: TG) { frames := 0, cells := 0, slots := 0, locals := 0 } (va_Pc [.ref (ad 0), .int v1, .int v2] (roB D (tysA cI cZ) (W_Jobs ad cI cZ σ))) (va_Qv Q (fun u t => va_P D classes (W_Jobs ad cI cZ u) t.heap) (inA ad 5)) 0 0 (inA ad 5) := by
  refine Met.ofW (cc := prog_4_method_13_code) (maxL := 3) (ret := none) (by decide) rfl ?_
  intro p e s m args below meth c s₁ B hml hv
  obtain ⟨rfl, hP, hK⟩ := hv
  have hx := B.exec
  have hb := B.bytes
  have hr := B.returns
  have hts : ∀ w ∈ TG, w.before [.ref (ad 0), .int v1, .int v2].toArray s = true := fun w hw => atoms_spec (ws := .code y_Jobs_setState prog_4_method_13_code 3 none :: TG) B.pre w (List.mem_cons_of_mem _ hw)
  have hown : s.vm.findClass "CarrierPaths$Jobs" = some m.cls := findClass_of_methodNamed B.named
  have hlocks := B.notSynchronized
  have hS : va_S (inA ad 5) s.heap s.heap [] := va_S.rf
  have hl := lv_entry ([.ref (ad 0), .int v1, .int v2]) (n := 3) (Nat.le_of_ble_eq_true rfl)
  rw [lg_entry_eq]
  generalize (lg_sl ([.ref (ad 0), .int v1, .int v2]) ++ List.replicate (3 - (lg_sl ([.ref (ad 0), .int v1, .int v2])).length) Slot.unset).toArray = ls at hl ⊢
  have hl : lv_has ls 3 [(0, .ref (ad 0)), (1, .int v1), (2, .int v2)] := hl
  unfold q_Jobs_setState at h
  refine lv_aload_n hx hb d_Jobs_setState_0 rfl (lv_at hl 0 rfl) ?_
  refine va_get (D := D) (ci := 2) (v := .ref (ad 3)) (C := "CarrierPaths$Jobs") (T := F_Jobs) (N := 5) hx hb hts in_Jobs hown hK hP 0 rfl rfl 2 (by decide) (hts _ kw133) (fun _ h9 => h9) rfl d_Jobs_setState_1 ?_
  refine lv_iload_n hx hb d_Jobs_setState_4 rfl (lv_at hl 1 rfl) ?_
  refine lv_iload_n hx hb d_Jobs_setState_5 rfl (lv_at hl 2 rfl) ?_
  obtain ⟨hi, h⟩ := h
  refine va_iast hx hb hK hP (D_Jobs inj) hS 3 0 rfl rfl hi d_Jobs_setState_6 (fun H locs hP _ hS => ?_)
  have hP : va_P D classes (W_Jobs ad cI cZ (sto σ 3 v1.toNatClampNeg v2)) H := hP
  exact W.vret hx hb hr (fun t ht hW => ⟨⟨(sto σ 3 v1.toNatClampNeg v2), rfl, h, hp_back ht hP⟩, hS.F ht⟩) hS.2.2 d_Jobs_setState_7
def q_Jobs_give (v1 v2 : Int32) (σ : Sg) (Q : (Sg → Prop)) : Prop :=
  (vp_in v1 12 ∧ (vp_in v1 12 ∧ Q (sto (sto σ 3 v1.toNatClampNeg 1) 4 v1.toNatClampNeg v2)))
set_option maxHeartbeats 4000000 in
set_option maxRecDepth 100000 in
theorem t_Jobs_give (l : Launch) (D : va_G) (cI cZ : ClassId) (ad : Nat → Nat) (inj : Inj ad 5) (v1 v2 : Int32) (σ : Sg) (Q : (Sg → Prop)) (h : q_Jobs_give v1 v2 σ Q) : Met l y_Jobs_give (.code y_Jobs_give prog_4_method_14_code 3 none :: TG) { frames := 0, cells := 0, slots := 0, locals := 0 } (va_Pc [.ref (ad 0), .int v1, .int v2] (roB D (tysA cI cZ) (W_Jobs ad cI cZ σ))) (va_Qv Q (fun u t => va_P D classes (W_Jobs ad cI cZ u) t.heap) (inA ad 5)) 0 0 (inA ad 5) := by
  refine Met.ofW (cc := prog_4_method_14_code) (maxL := 3) (ret := none) (by decide) rfl ?_
  intro p e s m args below meth c s₁ B hml hv
  obtain ⟨rfl, hP, hK⟩ := hv
  have hx := B.exec
  have hb := B.bytes
  have hr := B.returns
  have hts : ∀ w ∈ TG, w.before [.ref (ad 0), .int v1, .int v2].toArray s = true := fun w hw => atoms_spec (ws := .code y_Jobs_give prog_4_method_14_code 3 none :: TG) B.pre w (List.mem_cons_of_mem _ hw)
  have hown : s.vm.findClass "CarrierPaths$Jobs" = some m.cls := findClass_of_methodNamed B.named
  have hlocks := B.notSynchronized
  have hS : va_S (inA ad 5) s.heap s.heap [] := va_S.rf
  have hl := lv_entry ([.ref (ad 0), .int v1, .int v2]) (n := 3) (Nat.le_of_ble_eq_true rfl)
  rw [lg_entry_eq]
  generalize (lg_sl ([.ref (ad 0), .int v1, .int v2]) ++ List.replicate (3 - (lg_sl ([.ref (ad 0), .int v1, .int v2])).length) Slot.unset).toArray = ls at hl ⊢
  have hl : lv_has ls 3 [(0, .ref (ad 0)), (1, .int v1), (2, .int v2)] := hl
  unfold q_Jobs_give at h
  refine lv_aload_n hx hb d_Jobs_give_0 rfl (lv_at hl 0 rfl) ?_
  refine va_get (D := D) (ci := 2) (v := .ref (ad 3)) (C := "CarrierPaths$Jobs") (T := F_Jobs) (N := 5) hx hb hts in_Jobs hown hK hP 0 rfl rfl 2 (by decide) (hts _ kw133) (fun _ h9 => h9) rfl d_Jobs_give_1 ?_
  refine lv_iload_n hx hb d_Jobs_give_4 rfl (lv_at hl 1 rfl) ?_
  refine lv_iconst (v := 1) hx hb d_Jobs_give_5 (by decide) ?_
  obtain ⟨hi, h⟩ := h
  refine va_iast hx hb hK hP (D_Jobs inj) hS 3 0 rfl rfl hi d_Jobs_give_6 (fun H locs hP _ hS => ?_)
  have hP : va_P D classes (W_Jobs ad cI cZ (sto σ 3 v1.toNatClampNeg 1)) H := hP
  refine lv_aload_n hx hb d_Jobs_give_7 rfl (lv_at hl 0 rfl) ?_
  refine va_get (D := D) (ci := 2) (v := .ref (ad 4)) (C := "CarrierPaths$Jobs") (T := F_Jobs) (N := 5) hx hb hts in_Jobs hown hK hP 0 rfl rfl 3 (by decide) (hts _ kw134) (fun _ h9 => h9) rfl d_Jobs_give_8 ?_
  refine lv_iload_n hx hb d_Jobs_give_11 rfl (lv_at hl 1 rfl) ?_
  refine lv_iload_n hx hb d_Jobs_give_12 rfl (lv_at hl 2 rfl) ?_
  obtain ⟨hi, h⟩ := h
  refine va_iast hx hb hK hP (D_Jobs inj) hS 4 0 rfl rfl hi d_Jobs_give_13 (fun H locs hP _ hS => ?_)
  have hP : va_P D classes (W_Jobs ad cI cZ (sto (sto σ 3 v1.toNatClampNeg 1) 4 v1.toNatClampNeg v2)) H := hP
  exact W.vret hx hb hr (fun t ht hW => ⟨⟨(sto (sto σ 3 v1.toNatClampNeg 1) 4 v1.toNatClampNeg v2), rfl, h, hp_back ht hP⟩, hS.F ht⟩) hS.2.2 d_Jobs_give_14
end
section
theorem d_Choice_begin_0 : decode prog_2_method_2_code 0 = .ok (.aload_n 0, 1) := by decide +kernel
theorem d_Choice_begin_1 : decode prog_2_method_2_code 1 = .ok (.iload_n 1, 1) := by decide +kernel
theorem d_Choice_begin_2 : decode prog_2_method_2_code 2 = .ok (.putfield 21, 3) := by decide +kernel
theorem d_Choice_begin_5 : decode prog_2_method_2_code 5 = .ok (.aload_n 0, 1) := by decide +kernel
theorem d_Choice_begin_6 : decode prog_2_method_2_code 6 = .ok (.iload_n 2, 1) := by decide +kernel
theorem d_Choice_begin_7 : decode prog_2_method_2_code 7 = .ok (.putfield 25, 3) := by decide +kernel
theorem d_Choice_begin_10 : decode prog_2_method_2_code 10 = .ok (.aload_n 0, 1) := by decide +kernel
theorem d_Choice_begin_11 : decode prog_2_method_2_code 11 = .ok (.iconst 0, 1) := by decide +kernel
theorem d_Choice_begin_12 : decode prog_2_method_2_code 12 = .ok (.putfield 28, 3) := by decide +kernel
theorem d_Choice_begin_15 : decode prog_2_method_2_code 15 = .ok (.iconst 0, 1) := by decide +kernel
theorem d_Choice_begin_16 : decode prog_2_method_2_code 16 = .ok (.istore_n 3, 1) := by decide +kernel
theorem d_Choice_begin_17 : decode prog_2_method_2_code 17 = .ok (.iload_n 3, 1) := by decide +kernel
theorem d_Choice_begin_18 : decode prog_2_method_2_code 18 = .ok (.aload_n 0, 1) := by decide +kernel
theorem d_Choice_begin_19 : decode prog_2_method_2_code 19 = .ok (.getfield 9, 3) := by decide +kernel
theorem d_Choice_begin_22 : decode prog_2_method_2_code 22 = .ok (.arraylength, 1) := by decide +kernel
theorem d_Choice_begin_23 : decode prog_2_method_2_code 23 = .ok (.if_icmp .ge 16, 3) := by decide +kernel
theorem d_Choice_begin_26 : decode prog_2_method_2_code 26 = .ok (.aload_n 0, 1) := by decide +kernel
theorem d_Choice_begin_27 : decode prog_2_method_2_code 27 = .ok (.getfield 9, 3) := by decide +kernel
theorem d_Choice_begin_30 : decode prog_2_method_2_code 30 = .ok (.iload_n 3, 1) := by decide +kernel
theorem d_Choice_begin_31 : decode prog_2_method_2_code 31 = .ok (.iconst 0, 1) := by decide +kernel
theorem d_Choice_begin_32 : decode prog_2_method_2_code 32 = .ok (.iastore, 1) := by decide +kernel
theorem d_Choice_begin_33 : decode prog_2_method_2_code 33 = .ok (.iinc 3 1, 3) := by decide +kernel
theorem d_Choice_begin_36 : decode prog_2_method_2_code 36 = .ok (.goto (-19), 3) := by decide +kernel
theorem d_Choice_begin_39 : decode prog_2_method_2_code 39 = .ok (.return_, 1) := by decide +kernel
theorem d_Choice_offer_0 : decode prog_2_method_3_code 0 = .ok (.aload_n 0, 1) := by decide +kernel
theorem d_Choice_offer_1 : decode prog_2_method_3_code 1 = .ok (.getfield 9, 3) := by decide +kernel
theorem d_Choice_offer_4 : decode prog_2_method_3_code 4 = .ok (.iload_n 1, 1) := by decide +kernel
theorem d_Choice_offer_5 : decode prog_2_method_3_code 5 = .ok (.bipush 6, 2) := by decide +kernel
theorem d_Choice_offer_7 : decode prog_2_method_3_code 7 = .ok (.imul, 1) := by decide +kernel
theorem d_Choice_offer_8 : decode prog_2_method_3_code 8 = .ok (.iload_n 2, 1) := by decide +kernel
theorem d_Choice_offer_9 : decode prog_2_method_3_code 9 = .ok (.iadd, 1) := by decide +kernel
theorem d_Choice_offer_10 : decode prog_2_method_3_code 10 = .ok (.sipush 6000, 3) := by decide +kernel
theorem d_Choice_offer_13 : decode prog_2_method_3_code 13 = .ok (.iload_n 3, 1) := by decide +kernel
theorem d_Choice_offer_14 : decode prog_2_method_3_code 14 = .ok (.isub, 1) := by decide +kernel
theorem d_Choice_offer_15 : decode prog_2_method_3_code 15 = .ok (.iastore, 1) := by decide +kernel
theorem d_Choice_offer_16 : decode prog_2_method_3_code 16 = .ok (.aload_n 0, 1) := by decide +kernel
theorem d_Choice_offer_17 : decode prog_2_method_3_code 17 = .ok (.dup, 1) := by decide +kernel
theorem d_Choice_offer_18 : decode prog_2_method_3_code 18 = .ok (.getfield 28, 3) := by decide +kernel
theorem d_Choice_offer_21 : decode prog_2_method_3_code 21 = .ok (.iconst 1, 1) := by decide +kernel
theorem d_Choice_offer_22 : decode prog_2_method_3_code 22 = .ok (.iload_n 2, 1) := by decide +kernel
theorem d_Choice_offer_23 : decode prog_2_method_3_code 23 = .ok (.ishl, 1) := by decide +kernel
theorem d_Choice_offer_24 : decode prog_2_method_3_code 24 = .ok (.ior, 1) := by decide +kernel
theorem d_Choice_offer_25 : decode prog_2_method_3_code 25 = .ok (.putfield 28, 3) := by decide +kernel
theorem d_Choice_offer_28 : decode prog_2_method_3_code 28 = .ok (.return_, 1) := by decide +kernel
theorem d_Choice_carrierFor_0 : decode prog_2_method_5_code 0 = .ok (.aload_n 0, 1) := by decide +kernel
theorem d_Choice_carrierFor_1 : decode prog_2_method_5_code 1 = .ok (.getfield 18, 3) := by decide +kernel
theorem d_Choice_carrierFor_4 : decode prog_2_method_5_code 4 = .ok (.iload_n 1, 1) := by decide +kernel
theorem d_Choice_carrierFor_5 : decode prog_2_method_5_code 5 = .ok (.iaload, 1) := by decide +kernel
theorem d_Choice_carrierFor_6 : decode prog_2_method_5_code 6 = .ok (.ireturn, 1) := by decide +kernel
theorem d_Choice_worthOf_0 : decode prog_2_method_11_code 0 = .ok (.aload_n 0, 1) := by decide +kernel
theorem d_Choice_worthOf_1 : decode prog_2_method_11_code 1 = .ok (.getfield 9, 3) := by decide +kernel
theorem d_Choice_worthOf_4 : decode prog_2_method_11_code 4 = .ok (.iload_n 1, 1) := by decide +kernel
theorem d_Choice_worthOf_5 : decode prog_2_method_11_code 5 = .ok (.bipush 6, 2) := by decide +kernel
theorem d_Choice_worthOf_7 : decode prog_2_method_11_code 7 = .ok (.imul, 1) := by decide +kernel
theorem d_Choice_worthOf_8 : decode prog_2_method_11_code 8 = .ok (.iload_n 2, 1) := by decide +kernel
theorem d_Choice_worthOf_9 : decode prog_2_method_11_code 9 = .ok (.iadd, 1) := by decide +kernel
theorem d_Choice_worthOf_10 : decode prog_2_method_11_code 10 = .ok (.iaload, 1) := by decide +kernel
theorem d_Choice_worthOf_11 : decode prog_2_method_11_code 11 = .ok (.ireturn, 1) := by decide +kernel
theorem d_Choice_canTake_0 : decode prog_2_method_9_code 0 = .ok (.aload_n 0, 1) := by decide +kernel
theorem d_Choice_canTake_1 : decode prog_2_method_9_code 1 = .ok (.iload_n 1, 1) := by decide +kernel
theorem d_Choice_canTake_2 : decode prog_2_method_9_code 2 = .ok (.iload_n 2, 1) := by decide +kernel
theorem d_Choice_canTake_3 : decode prog_2_method_9_code 3 = .ok (.invokevirtual 58, 3) := by decide +kernel
theorem d_Choice_canTake_6 : decode prog_2_method_9_code 6 = .ok (.ifCond .le 15, 3) := by decide +kernel
theorem d_Choice_canTake_9 : decode prog_2_method_9_code 9 = .ok (.iload_n 3, 1) := by decide +kernel
theorem d_Choice_canTake_10 : decode prog_2_method_9_code 10 = .ok (.iconst 1, 1) := by decide +kernel
theorem d_Choice_canTake_11 : decode prog_2_method_9_code 11 = .ok (.iload_n 2, 1) := by decide +kernel
theorem d_Choice_canTake_12 : decode prog_2_method_9_code 12 = .ok (.ishl, 1) := by decide +kernel
theorem d_Choice_canTake_13 : decode prog_2_method_9_code 13 = .ok (.iand, 1) := by decide +kernel
theorem d_Choice_canTake_14 : decode prog_2_method_9_code 14 = .ok (.ifCond .ne 7, 3) := by decide +kernel
theorem d_Choice_canTake_17 : decode prog_2_method_9_code 17 = .ok (.iconst 1, 1) := by decide +kernel
theorem d_Choice_canTake_18 : decode prog_2_method_9_code 18 = .ok (.goto 4, 3) := by decide +kernel
theorem d_Choice_canTake_21 : decode prog_2_method_9_code 21 = .ok (.iconst 0, 1) := by decide +kernel
theorem d_Choice_canTake_22 : decode prog_2_method_9_code 22 = .ok (.ireturn, 1) := by decide +kernel
theorem d_Choice_bestFrom_0 : decode prog_2_method_12_code 0 = .ok (.aload_n 0, 1) := by decide +kernel
theorem d_Choice_bestFrom_1 : decode prog_2_method_12_code 1 = .ok (.getfield 15, 3) := by decide +kernel
theorem d_Choice_bestFrom_4 : decode prog_2_method_12_code 4 = .ok (.iload_n 1, 1) := by decide +kernel
theorem d_Choice_bestFrom_5 : decode prog_2_method_12_code 5 = .ok (.bipush 6, 2) := by decide +kernel
theorem d_Choice_bestFrom_7 : decode prog_2_method_12_code 7 = .ok (.ishl, 1) := by decide +kernel
theorem d_Choice_bestFrom_8 : decode prog_2_method_12_code 8 = .ok (.iload_n 2, 1) := by decide +kernel
theorem d_Choice_bestFrom_9 : decode prog_2_method_12_code 9 = .ok (.iadd, 1) := by decide +kernel
theorem d_Choice_bestFrom_10 : decode prog_2_method_12_code 10 = .ok (.iaload, 1) := by decide +kernel
theorem d_Choice_bestFrom_11 : decode prog_2_method_12_code 11 = .ok (.ireturn, 1) := by decide +kernel
theorem d_Choice_worthWith_0 : decode prog_2_method_10_code 0 = .ok (.aload_n 0, 1) := by decide +kernel
theorem d_Choice_worthWith_1 : decode prog_2_method_10_code 1 = .ok (.iload_n 1, 1) := by decide +kernel
theorem d_Choice_worthWith_2 : decode prog_2_method_10_code 2 = .ok (.iload_n 2, 1) := by decide +kernel
theorem d_Choice_worthWith_3 : decode prog_2_method_10_code 3 = .ok (.invokevirtual 58, 3) := by decide +kernel
theorem d_Choice_worthWith_6 : decode prog_2_method_10_code 6 = .ok (.aload_n 0, 1) := by decide +kernel
theorem d_Choice_worthWith_7 : decode prog_2_method_10_code 7 = .ok (.iload_n 1, 1) := by decide +kernel
theorem d_Choice_worthWith_8 : decode prog_2_method_10_code 8 = .ok (.iconst 1, 1) := by decide +kernel
theorem d_Choice_worthWith_9 : decode prog_2_method_10_code 9 = .ok (.iadd, 1) := by decide +kernel
theorem d_Choice_worthWith_10 : decode prog_2_method_10_code 10 = .ok (.iload_n 3, 1) := by decide +kernel
theorem d_Choice_worthWith_11 : decode prog_2_method_10_code 11 = .ok (.iconst 1, 1) := by decide +kernel
theorem d_Choice_worthWith_12 : decode prog_2_method_10_code 12 = .ok (.iload_n 2, 1) := by decide +kernel
theorem d_Choice_worthWith_13 : decode prog_2_method_10_code 13 = .ok (.ishl, 1) := by decide +kernel
theorem d_Choice_worthWith_14 : decode prog_2_method_10_code 14 = .ok (.ior, 1) := by decide +kernel
theorem d_Choice_worthWith_15 : decode prog_2_method_10_code 15 = .ok (.invokevirtual 42, 3) := by decide +kernel
theorem d_Choice_worthWith_18 : decode prog_2_method_10_code 18 = .ok (.iadd, 1) := by decide +kernel
theorem d_Choice_worthWith_19 : decode prog_2_method_10_code 19 = .ok (.ireturn, 1) := by decide +kernel
theorem d_Choice_mostWorth_0 : decode prog_2_method_7_code 0 = .ok (.aload_n 0, 1) := by decide +kernel
theorem d_Choice_mostWorth_1 : decode prog_2_method_7_code 1 = .ok (.iload_n 1, 1) := by decide +kernel
theorem d_Choice_mostWorth_2 : decode prog_2_method_7_code 2 = .ok (.iconst 1, 1) := by decide +kernel
theorem d_Choice_mostWorth_3 : decode prog_2_method_7_code 3 = .ok (.iadd, 1) := by decide +kernel
theorem d_Choice_mostWorth_4 : decode prog_2_method_7_code 4 = .ok (.iload_n 2, 1) := by decide +kernel
theorem d_Choice_mostWorth_5 : decode prog_2_method_7_code 5 = .ok (.invokevirtual 42, 3) := by decide +kernel
theorem d_Choice_mostWorth_8 : decode prog_2_method_7_code 8 = .ok (.istore_n 3, 1) := by decide +kernel
theorem d_Choice_mostWorth_9 : decode prog_2_method_7_code 9 = .ok (.iconst 0, 1) := by decide +kernel
theorem d_Choice_mostWorth_10 : decode prog_2_method_7_code 10 = .ok (.istore 4, 2) := by decide +kernel
theorem d_Choice_mostWorth_12 : decode prog_2_method_7_code 12 = .ok (.iload 4, 2) := by decide +kernel
theorem d_Choice_mostWorth_14 : decode prog_2_method_7_code 14 = .ok (.aload_n 0, 1) := by decide +kernel
theorem d_Choice_mostWorth_15 : decode prog_2_method_7_code 15 = .ok (.getfield 25, 3) := by decide +kernel
theorem d_Choice_mostWorth_18 : decode prog_2_method_7_code 18 = .ok (.if_icmp .ge 33, 3) := by decide +kernel
theorem d_Choice_mostWorth_21 : decode prog_2_method_7_code 21 = .ok (.aload_n 0, 1) := by decide +kernel
theorem d_Choice_mostWorth_22 : decode prog_2_method_7_code 22 = .ok (.iload_n 1, 1) := by decide +kernel
theorem d_Choice_mostWorth_23 : decode prog_2_method_7_code 23 = .ok (.iload 4, 2) := by decide +kernel
theorem d_Choice_mostWorth_25 : decode prog_2_method_7_code 25 = .ok (.iload_n 2, 1) := by decide +kernel
theorem d_Choice_mostWorth_26 : decode prog_2_method_7_code 26 = .ok (.invokevirtual 45, 3) := by decide +kernel
theorem d_Choice_mostWorth_29 : decode prog_2_method_7_code 29 = .ok (.ifCond .eq 16, 3) := by decide +kernel
theorem d_Choice_mostWorth_32 : decode prog_2_method_7_code 32 = .ok (.iload_n 3, 1) := by decide +kernel
theorem d_Choice_mostWorth_33 : decode prog_2_method_7_code 33 = .ok (.aload_n 0, 1) := by decide +kernel
theorem d_Choice_mostWorth_34 : decode prog_2_method_7_code 34 = .ok (.iload_n 1, 1) := by decide +kernel
theorem d_Choice_mostWorth_35 : decode prog_2_method_7_code 35 = .ok (.iload 4, 2) := by decide +kernel
theorem d_Choice_mostWorth_37 : decode prog_2_method_7_code 37 = .ok (.iload_n 2, 1) := by decide +kernel
theorem d_Choice_mostWorth_38 : decode prog_2_method_7_code 38 = .ok (.invokevirtual 49, 3) := by decide +kernel
theorem d_Choice_mostWorth_41 : decode prog_2_method_7_code 41 = .ok (.invokestatic 53, 3) := by decide +kernel
theorem d_Choice_mostWorth_44 : decode prog_2_method_7_code 44 = .ok (.istore_n 3, 1) := by decide +kernel
theorem d_Choice_mostWorth_45 : decode prog_2_method_7_code 45 = .ok (.iinc 4 1, 3) := by decide +kernel
theorem d_Choice_mostWorth_48 : decode prog_2_method_7_code 48 = .ok (.goto (-36), 3) := by decide +kernel
theorem d_Choice_mostWorth_51 : decode prog_2_method_7_code 51 = .ok (.iload_n 3, 1) := by decide +kernel
theorem d_Choice_mostWorth_52 : decode prog_2_method_7_code 52 = .ok (.ireturn, 1) := by decide +kernel
theorem d_Choice_findBest_0 : decode prog_2_method_6_code 0 = .ok (.iconst 0, 1) := by decide +kernel
theorem d_Choice_findBest_1 : decode prog_2_method_6_code 1 = .ok (.istore_n 2, 1) := by decide +kernel
theorem d_Choice_findBest_2 : decode prog_2_method_6_code 2 = .ok (.iload_n 2, 1) := by decide +kernel
theorem d_Choice_findBest_3 : decode prog_2_method_6_code 3 = .ok (.aload_n 0, 1) := by decide +kernel
theorem d_Choice_findBest_4 : decode prog_2_method_6_code 4 = .ok (.getfield 28, 3) := by decide +kernel
theorem d_Choice_findBest_7 : decode prog_2_method_6_code 7 = .ok (.if_icmp .gt 37, 3) := by decide +kernel
theorem d_Choice_findBest_10 : decode prog_2_method_6_code 10 = .ok (.iload_n 2, 1) := by decide +kernel
theorem d_Choice_findBest_11 : decode prog_2_method_6_code 11 = .ok (.aload_n 0, 1) := by decide +kernel
theorem d_Choice_findBest_12 : decode prog_2_method_6_code 12 = .ok (.getfield 28, 3) := by decide +kernel
theorem d_Choice_findBest_15 : decode prog_2_method_6_code 15 = .ok (.iconst (-1), 1) := by decide +kernel
theorem d_Choice_findBest_16 : decode prog_2_method_6_code 16 = .ok (.ixor, 1) := by decide +kernel
theorem d_Choice_findBest_17 : decode prog_2_method_6_code 17 = .ok (.iand, 1) := by decide +kernel
theorem d_Choice_findBest_18 : decode prog_2_method_6_code 18 = .ok (.ifCond .ne 20, 3) := by decide +kernel
theorem d_Choice_findBest_21 : decode prog_2_method_6_code 21 = .ok (.aload_n 0, 1) := by decide +kernel
theorem d_Choice_findBest_22 : decode prog_2_method_6_code 22 = .ok (.getfield 15, 3) := by decide +kernel
theorem d_Choice_findBest_25 : decode prog_2_method_6_code 25 = .ok (.iload_n 1, 1) := by decide +kernel
theorem d_Choice_findBest_26 : decode prog_2_method_6_code 26 = .ok (.bipush 6, 2) := by decide +kernel
theorem d_Choice_findBest_28 : decode prog_2_method_6_code 28 = .ok (.ishl, 1) := by decide +kernel
theorem d_Choice_findBest_29 : decode prog_2_method_6_code 29 = .ok (.iload_n 2, 1) := by decide +kernel
theorem d_Choice_findBest_30 : decode prog_2_method_6_code 30 = .ok (.iadd, 1) := by decide +kernel
theorem d_Choice_findBest_31 : decode prog_2_method_6_code 31 = .ok (.aload_n 0, 1) := by decide +kernel
theorem d_Choice_findBest_32 : decode prog_2_method_6_code 32 = .ok (.iload_n 1, 1) := by decide +kernel
theorem d_Choice_findBest_33 : decode prog_2_method_6_code 33 = .ok (.iload_n 2, 1) := by decide +kernel
theorem d_Choice_findBest_34 : decode prog_2_method_6_code 34 = .ok (.invokevirtual 39, 3) := by decide +kernel
theorem d_Choice_findBest_37 : decode prog_2_method_6_code 37 = .ok (.iastore, 1) := by decide +kernel
theorem d_Choice_findBest_38 : decode prog_2_method_6_code 38 = .ok (.iinc 2 1, 3) := by decide +kernel
theorem d_Choice_findBest_41 : decode prog_2_method_6_code 41 = .ok (.goto (-39), 3) := by decide +kernel
theorem d_Choice_findBest_44 : decode prog_2_method_6_code 44 = .ok (.return_, 1) := by decide +kernel
theorem d_Choice_leastCarrier_0 : decode prog_2_method_8_code 0 = .ok (.iconst 0, 1) := by decide +kernel
theorem d_Choice_leastCarrier_1 : decode prog_2_method_8_code 1 = .ok (.istore_n 3, 1) := by decide +kernel
theorem d_Choice_leastCarrier_2 : decode prog_2_method_8_code 2 = .ok (.iload_n 3, 1) := by decide +kernel
theorem d_Choice_leastCarrier_3 : decode prog_2_method_8_code 3 = .ok (.aload_n 0, 1) := by decide +kernel
theorem d_Choice_leastCarrier_4 : decode prog_2_method_8_code 4 = .ok (.getfield 25, 3) := by decide +kernel
theorem d_Choice_leastCarrier_7 : decode prog_2_method_8_code 7 = .ok (.if_icmp .ge 37, 3) := by decide +kernel
theorem d_Choice_leastCarrier_10 : decode prog_2_method_8_code 10 = .ok (.aload_n 0, 1) := by decide +kernel
theorem d_Choice_leastCarrier_11 : decode prog_2_method_8_code 11 = .ok (.iload_n 1, 1) := by decide +kernel
theorem d_Choice_leastCarrier_12 : decode prog_2_method_8_code 12 = .ok (.iload_n 3, 1) := by decide +kernel
theorem d_Choice_leastCarrier_13 : decode prog_2_method_8_code 13 = .ok (.iload_n 2, 1) := by decide +kernel
theorem d_Choice_leastCarrier_14 : decode prog_2_method_8_code 14 = .ok (.invokevirtual 45, 3) := by decide +kernel
theorem d_Choice_leastCarrier_17 : decode prog_2_method_8_code 17 = .ok (.ifCond .eq 21, 3) := by decide +kernel
theorem d_Choice_leastCarrier_20 : decode prog_2_method_8_code 20 = .ok (.aload_n 0, 1) := by decide +kernel
theorem d_Choice_leastCarrier_21 : decode prog_2_method_8_code 21 = .ok (.iload_n 1, 1) := by decide +kernel
theorem d_Choice_leastCarrier_22 : decode prog_2_method_8_code 22 = .ok (.iload_n 3, 1) := by decide +kernel
theorem d_Choice_leastCarrier_23 : decode prog_2_method_8_code 23 = .ok (.iload_n 2, 1) := by decide +kernel
theorem d_Choice_leastCarrier_24 : decode prog_2_method_8_code 24 = .ok (.invokevirtual 49, 3) := by decide +kernel
theorem d_Choice_leastCarrier_27 : decode prog_2_method_8_code 27 = .ok (.aload_n 0, 1) := by decide +kernel
theorem d_Choice_leastCarrier_28 : decode prog_2_method_8_code 28 = .ok (.iload_n 1, 1) := by decide +kernel
theorem d_Choice_leastCarrier_29 : decode prog_2_method_8_code 29 = .ok (.iload_n 2, 1) := by decide +kernel
theorem d_Choice_leastCarrier_30 : decode prog_2_method_8_code 30 = .ok (.invokevirtual 42, 3) := by decide +kernel
theorem d_Choice_leastCarrier_33 : decode prog_2_method_8_code 33 = .ok (.if_icmp .ne 5, 3) := by decide +kernel
theorem d_Choice_leastCarrier_36 : decode prog_2_method_8_code 36 = .ok (.iload_n 3, 1) := by decide +kernel
theorem d_Choice_leastCarrier_37 : decode prog_2_method_8_code 37 = .ok (.ireturn, 1) := by decide +kernel
theorem d_Choice_leastCarrier_38 : decode prog_2_method_8_code 38 = .ok (.iinc 3 1, 3) := by decide +kernel
theorem d_Choice_leastCarrier_41 : decode prog_2_method_8_code 41 = .ok (.goto (-39), 3) := by decide +kernel
theorem d_Choice_leastCarrier_44 : decode prog_2_method_8_code 44 = .ok (.iconst (-1), 1) := by decide +kernel
theorem d_Choice_leastCarrier_45 : decode prog_2_method_8_code 45 = .ok (.ireturn, 1) := by decide +kernel
theorem d_Choice_settle_0 : decode prog_2_method_4_code 0 = .ok (.aload_n 0, 1) := by decide +kernel
theorem d_Choice_settle_1 : decode prog_2_method_4_code 1 = .ok (.getfield 21, 3) := by decide +kernel
theorem d_Choice_settle_4 : decode prog_2_method_4_code 4 = .ok (.iconst 1, 1) := by decide +kernel
theorem d_Choice_settle_5 : decode prog_2_method_4_code 5 = .ok (.isub, 1) := by decide +kernel
theorem d_Choice_settle_6 : decode prog_2_method_4_code 6 = .ok (.istore_n 1, 1) := by decide +kernel
theorem d_Choice_settle_7 : decode prog_2_method_4_code 7 = .ok (.iload_n 1, 1) := by decide +kernel
theorem d_Choice_settle_8 : decode prog_2_method_4_code 8 = .ok (.ifCond .lt 14, 3) := by decide +kernel
theorem d_Choice_settle_11 : decode prog_2_method_4_code 11 = .ok (.aload_n 0, 1) := by decide +kernel
theorem d_Choice_settle_12 : decode prog_2_method_4_code 12 = .ok (.iload_n 1, 1) := by decide +kernel
theorem d_Choice_settle_13 : decode prog_2_method_4_code 13 = .ok (.invokevirtual 31, 3) := by decide +kernel
theorem d_Choice_settle_16 : decode prog_2_method_4_code 16 = .ok (.iinc 1 (-1), 3) := by decide +kernel
theorem d_Choice_settle_19 : decode prog_2_method_4_code 19 = .ok (.goto (-12), 3) := by decide +kernel
theorem d_Choice_settle_22 : decode prog_2_method_4_code 22 = .ok (.iconst 0, 1) := by decide +kernel
theorem d_Choice_settle_23 : decode prog_2_method_4_code 23 = .ok (.istore_n 1, 1) := by decide +kernel
theorem d_Choice_settle_24 : decode prog_2_method_4_code 24 = .ok (.iconst 0, 1) := by decide +kernel
theorem d_Choice_settle_25 : decode prog_2_method_4_code 25 = .ok (.istore_n 2, 1) := by decide +kernel
theorem d_Choice_settle_26 : decode prog_2_method_4_code 26 = .ok (.iload_n 2, 1) := by decide +kernel
theorem d_Choice_settle_27 : decode prog_2_method_4_code 27 = .ok (.aload_n 0, 1) := by decide +kernel
theorem d_Choice_settle_28 : decode prog_2_method_4_code 28 = .ok (.getfield 21, 3) := by decide +kernel
theorem d_Choice_settle_31 : decode prog_2_method_4_code 31 = .ok (.if_icmp .ge 38, 3) := by decide +kernel
theorem d_Choice_settle_34 : decode prog_2_method_4_code 34 = .ok (.aload_n 0, 1) := by decide +kernel
theorem d_Choice_settle_35 : decode prog_2_method_4_code 35 = .ok (.iload_n 2, 1) := by decide +kernel
theorem d_Choice_settle_36 : decode prog_2_method_4_code 36 = .ok (.iload_n 1, 1) := by decide +kernel
theorem d_Choice_settle_37 : decode prog_2_method_4_code 37 = .ok (.invokevirtual 35, 3) := by decide +kernel
theorem d_Choice_settle_40 : decode prog_2_method_4_code 40 = .ok (.istore_n 3, 1) := by decide +kernel
theorem d_Choice_settle_41 : decode prog_2_method_4_code 41 = .ok (.aload_n 0, 1) := by decide +kernel
theorem d_Choice_settle_42 : decode prog_2_method_4_code 42 = .ok (.getfield 18, 3) := by decide +kernel
theorem d_Choice_settle_45 : decode prog_2_method_4_code 45 = .ok (.iload_n 2, 1) := by decide +kernel
theorem d_Choice_settle_46 : decode prog_2_method_4_code 46 = .ok (.iload_n 3, 1) := by decide +kernel
theorem d_Choice_settle_47 : decode prog_2_method_4_code 47 = .ok (.iastore, 1) := by decide +kernel
theorem d_Choice_settle_48 : decode prog_2_method_4_code 48 = .ok (.iload_n 1, 1) := by decide +kernel
theorem d_Choice_settle_49 : decode prog_2_method_4_code 49 = .ok (.iload_n 3, 1) := by decide +kernel
theorem d_Choice_settle_50 : decode prog_2_method_4_code 50 = .ok (.iconst (-1), 1) := by decide +kernel
theorem d_Choice_settle_51 : decode prog_2_method_4_code 51 = .ok (.if_icmp .ne 7, 3) := by decide +kernel
theorem d_Choice_settle_54 : decode prog_2_method_4_code 54 = .ok (.iconst 0, 1) := by decide +kernel
theorem d_Choice_settle_55 : decode prog_2_method_4_code 55 = .ok (.goto 6, 3) := by decide +kernel
theorem d_Choice_settle_58 : decode prog_2_method_4_code 58 = .ok (.iconst 1, 1) := by decide +kernel
theorem d_Choice_settle_59 : decode prog_2_method_4_code 59 = .ok (.iload_n 3, 1) := by decide +kernel
theorem d_Choice_settle_60 : decode prog_2_method_4_code 60 = .ok (.ishl, 1) := by decide +kernel
theorem d_Choice_settle_61 : decode prog_2_method_4_code 61 = .ok (.ior, 1) := by decide +kernel
theorem d_Choice_settle_62 : decode prog_2_method_4_code 62 = .ok (.istore_n 1, 1) := by decide +kernel
theorem d_Choice_settle_63 : decode prog_2_method_4_code 63 = .ok (.iinc 2 1, 3) := by decide +kernel
theorem d_Choice_settle_66 : decode prog_2_method_4_code 66 = .ok (.goto (-40), 3) := by decide +kernel
theorem d_Choice_settle_69 : decode prog_2_method_4_code 69 = .ok (.return_, 1) := by decide +kernel
end
section
def W_Choice (ad : Nat → Nat) (cI cZ : ClassId) (σ : Sg) : va_W :=
  [(ad 0, .inr (0, [.ref (ad 1), .ref (ad 2), .ref (ad 3), .int (σ 0 3), .int (σ 0 4), .int (σ 0 5)])),
   (ad 1, .inl (cI, 72, .inl (σ 1))),
   (ad 2, .inl (cI, 832, .inl (σ 2))),
   (ad 3, .inl (cI, 12, .inl (σ 3)))]
theorem D_Choice {ad : Nat → Nat} {cI cZ : ClassId} {σ : Sg} (inj : Inj ad 4) : va_D (inA ad 4) (W_Choice ad cI cZ σ) := D_of inj rfl
def q_Choice_begin_b0 (J : Nat → Int32 → Int32 → Int32 → Sg → Prop) (Q : (Sg → Prop)) (v1 v2 v3 : Int32) (σ : Sg) : Prop :=
  J 1 v1 v2 0 (sto (sto (sto σ 0 3 v1) 0 4 v2) 0 5 0)
def q_Choice_begin_b1 (J : Nat → Int32 → Int32 → Int32 → Sg → Prop) (Q : (Sg → Prop)) (v1 v2 v3 : Int32) (σ : Sg) : Prop :=
  ((72 ≤ v3 → Q σ) ∧ (¬ 72 ≤ v3 → (vp_in v3 72 ∧ J 1 v1 v2 (v3 + 1) (sto σ 1 v3.toNatClampNeg 0))))
def q_Choice_begin_j (Q : (Sg → Prop)) : Nat → Nat → Int32 → Int32 → Int32 → Sg → Prop
  | 0, _, _, _, _, _ => False
  | n + 1, 0, v1, v2, v3, σ => q_Choice_begin_b0 (q_Choice_begin_j Q n) Q v1 v2 v3 σ
  | n + 1, 1, v1, v2, v3, σ => q_Choice_begin_b1 (q_Choice_begin_j Q n) Q v1 v2 v3 σ
  | _ + 1, _ + 2, _, _, _, _ => False
def q_Choice_begin (v1 v2 : Int32) (σ : Sg) (Q : (Sg → Prop)) : Prop := q_Choice_begin_j Q 4000 0 v1 v2 0 σ
def lc_Choice_begin (ad : Nat → Nat) (b : Nat) (v1 v2 v3 : Int32) : List (Nat × Value) := match b with
  | 0 => [(0, .ref (ad 0)), (1, .int v1), (2, .int v2)]
  | 1 => [(0, .ref (ad 0)), (1, .int v1), (2, .int v2), (3, .int v3)]
  | _ => []
def pc_Choice_begin (b : Nat) : Nat := match b with
  | 0 => 0
  | 1 => 17
  | _ => 0
set_option maxHeartbeats 4000000 in
set_option maxRecDepth 100000 in
theorem t_Choice_begin (l : Launch) (D : va_G) (cI cZ : ClassId) (ad : Nat → Nat) (inj : Inj ad 4) (v1 v2 : Int32) (σ : Sg) (Q : (Sg → Prop)) (h : q_Choice_begin v1 v2 σ Q) : Met l y_Choice_begin (.code y_Choice_begin prog_2_method_2_code 4 none :: TG) { frames := 0, cells := 0, slots := 0, locals := 0 } (va_Pc [.ref (ad 0), .int v1, .int v2] (roB D (tysA cI cZ) (W_Choice ad cI cZ σ))) (va_Qv Q (fun u t => va_P D classes (W_Choice ad cI cZ u) t.heap) (inA ad 4)) 0 0 (inA ad 4) := by
  refine Met.ofW (cc := prog_2_method_2_code) (maxL := 4) (ret := none) (by decide) rfl ?_
  intro p e s m args below meth c s₁ B hml hv
  obtain ⟨rfl, hP, hK⟩ := hv
  have hx := B.exec
  have hb := B.bytes
  have hr := B.returns
  have hts : ∀ w ∈ TG, w.before [.ref (ad 0), .int v1, .int v2].toArray s = true := fun w hw => atoms_spec (ws := .code y_Choice_begin prog_2_method_2_code 4 none :: TG) B.pre w (List.mem_cons_of_mem _ hw)
  have hown : s.vm.findClass "CarrierPaths$Choice" = some m.cls := findClass_of_methodNamed B.named
  have hlocks := B.notSynchronized
  have hS : va_S (inA ad 4) s.heap s.heap [] := va_S.rf
  have hl := lv_entry ([.ref (ad 0), .int v1, .int v2]) (n := 4) (Nat.le_of_ble_eq_true rfl)
  rw [lg_entry_eq]
  generalize (lg_sl ([.ref (ad 0), .int v1, .int v2]) ++ List.replicate (4 - (lg_sl ([.ref (ad 0), .int v1, .int v2])).length) Slot.unset).toArray = ls at hl ⊢
  generalize ([.ref (ad 0), .int v1, .int v2] : List Value).toArray = args at hts ⊢
  have key : ∀ (n b : Nat) (v1 v2 v3 : Int32) (σ : Sg), q_Choice_begin_j Q n b v1 v2 v3 σ → ∀ (H : Heap) (locs : List Loc) (ls : Array Slot), va_P D classes (W_Choice ad cI cZ σ) H → va_S (inA ad 4) s.heap H locs → lv_has ls 4 (lc_Choice_begin ad b v1 v2 v3) → W p l e (headSpec (.code y_Choice_begin prog_2_method_2_code 4 none :: TG) { frames := 0, cells := 0, slots := 0, locals := 0 }).room s m args below meth c H locs 0 0 (MQ below (va_Qv Q (fun u t => va_P D classes (W_Choice ad cI cZ u) t.heap) (inA ad 4)) args s 0 0 (inA ad 4)) (F0 m (pc_Choice_begin b) ls []) := by
    clear h hl hP hS
    intro n
    induction n with
    | zero => intro b _ _ _ _ h; exact False.elim h
    | succ n ih =>
      intro b v1 v2 v3 σ h H locs ls hP hS hl
      match b, h, hl with
      | 0, h, hl =>
        have h : q_Choice_begin_b0 (q_Choice_begin_j Q n) Q v1 v2 v3 σ := h
        have hl : lv_has ls 4 [(0, .ref (ad 0)), (1, .int v1), (2, .int v2)] := hl
        refine W.eq (g2 := F0 m 0 ls []) rfl ?_
        unfold q_Choice_begin_b0 at h
        refine lv_aload_n hx hb d_Choice_begin_0 rfl (lv_at hl 0 rfl) ?_
        refine lv_iload_n hx hb d_Choice_begin_1 rfl (lv_at hl 1 rfl) ?_
        refine va_put (D := D) (ci := 0) (v := .int v1) (ty := .int) (C := "CarrierPaths$Choice") (T := F_Choice) (N := 6) hx hb hts in_Choice ty_Choice ty_Choice_ok nm_Choice hown hK hP (D_Choice inj) hS 0 rfl rfl 3 (by decide) (hts _ kw156) (fun _ h9 => h9) rfl (by decide +kernel) rfl rfl (Nat.le_of_ble_eq_true rfl) d_Choice_begin_2 (fun H locs hP _ hS => ?_)
        have hP : va_P D classes (W_Choice ad cI cZ (sto σ 0 3 v1)) H := hP
        refine lv_aload_n hx hb d_Choice_begin_5 rfl (lv_at hl 0 rfl) ?_
        refine lv_iload_n hx hb d_Choice_begin_6 rfl (lv_at hl 2 rfl) ?_
        refine va_put (D := D) (ci := 0) (v := .int v2) (ty := .int) (C := "CarrierPaths$Choice") (T := F_Choice) (N := 6) hx hb hts in_Choice ty_Choice ty_Choice_ok nm_Choice hown hK hP (D_Choice inj) hS 0 rfl rfl 4 (by decide) (hts _ kw157) (fun _ h9 => h9) rfl (by decide +kernel) rfl rfl (Nat.le_of_ble_eq_true rfl) d_Choice_begin_7 (fun H locs hP _ hS => ?_)
        have hP : va_P D classes (W_Choice ad cI cZ (sto (sto σ 0 3 v1) 0 4 v2)) H := hP
        refine lv_aload_n hx hb d_Choice_begin_10 rfl (lv_at hl 0 rfl) ?_
        refine lv_iconst (v := 0) hx hb d_Choice_begin_11 (by decide) ?_
        refine va_put (D := D) (ci := 0) (v := .int 0) (ty := .int) (C := "CarrierPaths$Choice") (T := F_Choice) (N := 6) hx hb hts in_Choice ty_Choice ty_Choice_ok nm_Choice hown hK hP (D_Choice inj) hS 0 rfl rfl 5 (by decide) (hts _ kw158) (fun _ h9 => h9) rfl (by decide +kernel) rfl rfl (Nat.le_of_ble_eq_true rfl) d_Choice_begin_12 (fun H locs hP _ hS => ?_)
        have hP : va_P D classes (W_Choice ad cI cZ (sto (sto (sto σ 0 3 v1) 0 4 v2) 0 5 0)) H := hP
        refine lv_iconst (v := 0) hx hb d_Choice_begin_15 (by decide) ?_
        refine lv_istore_n (lv' := [(3, .int 0), (0, .ref (ad 0)), (1, .int v1), (2, .int v2)]) hx hb d_Choice_begin_16 rfl hl (by decide) rfl (fun ls hl => ?_)
        exact ih 1 v1 v2 0 (sto (sto (sto σ 0 3 v1) 0 4 v2) 0 5 0) h _ _ _ hP hS (lv_sub hl [1, 2, 3, 0] rfl)
      | 1, h, hl =>
        have h : q_Choice_begin_b1 (q_Choice_begin_j Q n) Q v1 v2 v3 σ := h
        have hl : lv_has ls 4 [(0, .ref (ad 0)), (1, .int v1), (2, .int v2), (3, .int v3)] := hl
        refine W.eq (g2 := F0 m 17 ls []) rfl ?_
        unfold q_Choice_begin_b1 at h
        refine lv_iload_n hx hb d_Choice_begin_17 rfl (lv_at hl 3 rfl) ?_
        refine lv_aload_n hx hb d_Choice_begin_18 rfl (lv_at hl 0 rfl) ?_
        refine va_get (D := D) (ci := 0) (v := .ref (ad 1)) (C := "CarrierPaths$Choice") (T := F_Choice) (N := 6) hx hb hts in_Choice hown hK hP 0 rfl rfl 0 (by decide) (hts _ kw153) (fun _ h9 => h9) rfl d_Choice_begin_19 ?_
        refine va_alen hx hb hK hP 1 0 rfl rfl (v := 72) rfl d_Choice_begin_22 ?_
        refine lv_icmp_ge (tgt := 39) hx hb d_Choice_begin_23 (by decide) (fun hc => ?_) (fun hc => ?_)
        · have h := h.1 hc
          exact W.vret hx hb hr (fun t ht hW => ⟨⟨σ, rfl, h, hp_back ht hP⟩, hS.F ht⟩) hS.2.2 d_Choice_begin_39
        · have h := h.2 hc
          refine lv_aload_n hx hb d_Choice_begin_26 rfl (lv_at hl 0 rfl) ?_
          refine va_get (D := D) (ci := 0) (v := .ref (ad 1)) (C := "CarrierPaths$Choice") (T := F_Choice) (N := 6) hx hb hts in_Choice hown hK hP 0 rfl rfl 0 (by decide) (hts _ kw153) (fun _ h9 => h9) rfl d_Choice_begin_27 ?_
          refine lv_iload_n hx hb d_Choice_begin_30 rfl (lv_at hl 3 rfl) ?_
          refine lv_iconst (v := 0) hx hb d_Choice_begin_31 (by decide) ?_
          obtain ⟨hi, h⟩ := h
          refine va_iast hx hb hK hP (D_Choice inj) hS 1 0 rfl rfl hi d_Choice_begin_32 (fun H locs hP _ hS => ?_)
          have hP : va_P D classes (W_Choice ad cI cZ (sto σ 1 v3.toNatClampNeg 0)) H := hP
          refine lv_iinc (v := (v3 + 1)) (lv' := [(3, .int (v3 + 1)), (0, .ref (ad 0)), (1, .int v1), (2, .int v2)]) hx hb d_Choice_begin_33 hl (k := 3) rfl rfl (by decide) rfl (fun ls hl => ?_)
          refine lv_goto (tgt := 17) hx hb d_Choice_begin_36 (by decide) ?_
          exact ih 1 v1 v2 (v3 + 1) (sto σ 1 v3.toNatClampNeg 0) h _ _ _ hP hS (lv_sub hl [1, 2, 3, 0] rfl)
      | _ + 2, h, _ => exact False.elim h
  exact key 4000 0 v1 v2 0 σ h s.heap [] ls hP hS hl
def q_Choice_offer (v1 v2 v3 : Int32) (σ : Sg) (Q : (Sg → Prop)) : Prop :=
  (vp_in ((v1 * 6) + v2) 72 ∧ Q (sto (sto σ 1 ((v1 * 6) + v2).toNatClampNeg (6000 - v3)) 0 5 (((sto σ 1 ((v1 * 6) + v2).toNatClampNeg (6000 - v3)) 0 5) ||| (1 <<< (v2 &&& 31)))))
set_option maxHeartbeats 4000000 in
set_option maxRecDepth 100000 in
theorem t_Choice_offer (l : Launch) (D : va_G) (cI cZ : ClassId) (ad : Nat → Nat) (inj : Inj ad 4) (v1 v2 v3 : Int32) (σ : Sg) (Q : (Sg → Prop)) (h : q_Choice_offer v1 v2 v3 σ Q) : Met l y_Choice_offer (.code y_Choice_offer prog_2_method_3_code 4 none :: TG) { frames := 0, cells := 0, slots := 0, locals := 0 } (va_Pc [.ref (ad 0), .int v1, .int v2, .int v3] (roB D (tysA cI cZ) (W_Choice ad cI cZ σ))) (va_Qv Q (fun u t => va_P D classes (W_Choice ad cI cZ u) t.heap) (inA ad 4)) 0 0 (inA ad 4) := by
  refine Met.ofW (cc := prog_2_method_3_code) (maxL := 4) (ret := none) (by decide) rfl ?_
  intro p e s m args below meth c s₁ B hml hv
  obtain ⟨rfl, hP, hK⟩ := hv
  have hx := B.exec
  have hb := B.bytes
  have hr := B.returns
  have hts : ∀ w ∈ TG, w.before [.ref (ad 0), .int v1, .int v2, .int v3].toArray s = true := fun w hw => atoms_spec (ws := .code y_Choice_offer prog_2_method_3_code 4 none :: TG) B.pre w (List.mem_cons_of_mem _ hw)
  have hown : s.vm.findClass "CarrierPaths$Choice" = some m.cls := findClass_of_methodNamed B.named
  have hlocks := B.notSynchronized
  have hS : va_S (inA ad 4) s.heap s.heap [] := va_S.rf
  have hl := lv_entry ([.ref (ad 0), .int v1, .int v2, .int v3]) (n := 4) (Nat.le_of_ble_eq_true rfl)
  rw [lg_entry_eq]
  generalize (lg_sl ([.ref (ad 0), .int v1, .int v2, .int v3]) ++ List.replicate (4 - (lg_sl ([.ref (ad 0), .int v1, .int v2, .int v3])).length) Slot.unset).toArray = ls at hl ⊢
  have hl : lv_has ls 4 [(0, .ref (ad 0)), (1, .int v1), (2, .int v2), (3, .int v3)] := hl
  unfold q_Choice_offer at h
  refine lv_aload_n hx hb d_Choice_offer_0 rfl (lv_at hl 0 rfl) ?_
  refine va_get (D := D) (ci := 0) (v := .ref (ad 1)) (C := "CarrierPaths$Choice") (T := F_Choice) (N := 6) hx hb hts in_Choice hown hK hP 0 rfl rfl 0 (by decide) (hts _ kw153) (fun _ h9 => h9) rfl d_Choice_offer_1 ?_
  refine lv_iload_n hx hb d_Choice_offer_4 rfl (lv_at hl 1 rfl) ?_
  refine lv_bipush (v := 6) hx hb d_Choice_offer_5 (by decide) ?_
  refine lv_imul hx hb d_Choice_offer_7 ?_
  refine lv_iload_n hx hb d_Choice_offer_8 rfl (lv_at hl 2 rfl) ?_
  refine lv_iadd hx hb d_Choice_offer_9 ?_
  refine lv_sipush (v := 6000) hx hb d_Choice_offer_10 (by decide) ?_
  refine lv_iload_n hx hb d_Choice_offer_13 rfl (lv_at hl 3 rfl) ?_
  refine lv_isub hx hb d_Choice_offer_14 ?_
  obtain ⟨hi, h⟩ := h
  refine va_iast hx hb hK hP (D_Choice inj) hS 1 0 rfl rfl hi d_Choice_offer_15 (fun H locs hP _ hS => ?_)
  have hP : va_P D classes (W_Choice ad cI cZ (sto σ 1 ((v1 * 6) + v2).toNatClampNeg (6000 - v3))) H := hP
  refine lv_aload_n hx hb d_Choice_offer_16 rfl (lv_at hl 0 rfl) ?_
  refine lv_dup hx hb d_Choice_offer_17 rfl ?_
  refine va_get (D := D) (ci := 0) (v := .int ((sto σ 1 ((v1 * 6) + v2).toNatClampNeg (6000 - v3)) 0 5)) (C := "CarrierPaths$Choice") (T := F_Choice) (N := 6) hx hb hts in_Choice hown hK hP 0 rfl rfl 5 (by decide) (hts _ kw158) (fun _ h9 => h9) rfl d_Choice_offer_18 ?_
  refine lv_iconst (v := 1) hx hb d_Choice_offer_21 (by decide) ?_
  refine lv_iload_n hx hb d_Choice_offer_22 rfl (lv_at hl 2 rfl) ?_
  refine lv_ishl hx hb d_Choice_offer_23 ?_
  refine lv_ior hx hb d_Choice_offer_24 ?_
  refine va_put (D := D) (ci := 0) (v := .int (((sto σ 1 ((v1 * 6) + v2).toNatClampNeg (6000 - v3)) 0 5) ||| (1 <<< (v2 &&& 31)))) (ty := .int) (C := "CarrierPaths$Choice") (T := F_Choice) (N := 6) hx hb hts in_Choice ty_Choice ty_Choice_ok nm_Choice hown hK hP (D_Choice inj) hS 0 rfl rfl 5 (by decide) (hts _ kw158) (fun _ h9 => h9) rfl (by decide +kernel) rfl rfl (Nat.le_of_ble_eq_true rfl) d_Choice_offer_25 (fun H locs hP _ hS => ?_)
  have hP : va_P D classes (W_Choice ad cI cZ (sto (sto σ 1 ((v1 * 6) + v2).toNatClampNeg (6000 - v3)) 0 5 (((sto σ 1 ((v1 * 6) + v2).toNatClampNeg (6000 - v3)) 0 5) ||| (1 <<< (v2 &&& 31))))) H := hP
  exact W.vret hx hb hr (fun t ht hW => ⟨⟨(sto (sto σ 1 ((v1 * 6) + v2).toNatClampNeg (6000 - v3)) 0 5 (((sto σ 1 ((v1 * 6) + v2).toNatClampNeg (6000 - v3)) 0 5) ||| (1 <<< (v2 &&& 31)))), rfl, h, hp_back ht hP⟩, hS.F ht⟩) hS.2.2 d_Choice_offer_28
def q_Choice_carrierFor (v1 : Int32) (σ : Sg) (Q : (Int32 → Prop)) : Prop :=
  (vp_in v1 12 ∧ Q (σ 3 v1.toNatClampNeg))
set_option maxHeartbeats 4000000 in
set_option maxRecDepth 100000 in
theorem t_Choice_carrierFor (l : Launch) (D : va_G) (cI cZ : ClassId) (ad : Nat → Nat) (v1 : Int32) (σ : Sg) (Q : (Int32 → Prop)) (h : q_Choice_carrierFor v1 σ Q) : Met l y_Choice_carrierFor (.code y_Choice_carrierFor prog_2_method_5_code 2 (some .int) :: TG) { frames := 0, cells := 0, slots := 0, locals := 0 } (va_Pc [.ref (ad 0), .int v1] (roB D (tysA cI cZ) (W_Choice ad cI cZ σ))) (vp_Si Q) 0 0 (fun _ => False) := by
  refine Met.ofW (cc := prog_2_method_5_code) (maxL := 2) (ret := (some .int)) (by decide) rfl ?_
  intro p e s m args below meth c s₁ B hml hv
  obtain ⟨rfl, hP, hK⟩ := hv
  have hx := B.exec
  have hb := B.bytes
  have hr := B.returns
  have hts : ∀ w ∈ TG, w.before [.ref (ad 0), .int v1].toArray s = true := fun w hw => atoms_spec (ws := .code y_Choice_carrierFor prog_2_method_5_code 2 (some .int) :: TG) B.pre w (List.mem_cons_of_mem _ hw)
  have hown : s.vm.findClass "CarrierPaths$Choice" = some m.cls := findClass_of_methodNamed B.named
  have hlocks := B.notSynchronized
  have hl := lv_entry ([.ref (ad 0), .int v1]) (n := 2) (Nat.le_of_ble_eq_true rfl)
  rw [lg_entry_eq]
  generalize (lg_sl ([.ref (ad 0), .int v1]) ++ List.replicate (2 - (lg_sl ([.ref (ad 0), .int v1])).length) Slot.unset).toArray = ls at hl ⊢
  have hl : lv_has ls 2 [(0, .ref (ad 0)), (1, .int v1)] := hl
  unfold q_Choice_carrierFor at h
  refine lv_aload_n hx hb d_Choice_carrierFor_0 rfl (lv_at hl 0 rfl) ?_
  refine va_get (D := D) (ci := 0) (v := .ref (ad 3)) (C := "CarrierPaths$Choice") (T := F_Choice) (N := 6) hx hb hts in_Choice hown hK hP 0 rfl rfl 2 (by decide) (hts _ kw155) (fun _ h9 => h9) rfl d_Choice_carrierFor_1 ?_
  refine lv_iload_n hx hb d_Choice_carrierFor_4 rfl (lv_at hl 1 rfl) ?_
  obtain ⟨hi, h⟩ := h
  refine va_iald hx hb hK hP 3 0 rfl rfl hi d_Choice_carrierFor_5 ?_
  exact W.iret (v := (σ 3 v1.toNatClampNeg)) hx hb hr (fun t ht hW => ⟨(σ 3 v1.toNatClampNeg), rfl, h, ht⟩) (fun q hq => by cases hq) d_Choice_carrierFor_6
def q_Choice_worthOf (v1 v2 : Int32) (σ : Sg) (Q : (Int32 → Prop)) : Prop :=
  (vp_in ((v1 * 6) + v2) 72 ∧ Q (σ 1 ((v1 * 6) + v2).toNatClampNeg))
set_option maxHeartbeats 4000000 in
set_option maxRecDepth 100000 in
theorem t_Choice_worthOf (l : Launch) (D : va_G) (cI cZ : ClassId) (ad : Nat → Nat) (v1 v2 : Int32) (σ : Sg) (Q : (Int32 → Prop)) (h : q_Choice_worthOf v1 v2 σ Q) : Met l y_Choice_worthOf (.code y_Choice_worthOf prog_2_method_11_code 3 (some .int) :: TG) { frames := 0, cells := 0, slots := 0, locals := 0 } (va_Pc [.ref (ad 0), .int v1, .int v2] (roB D (tysA cI cZ) (W_Choice ad cI cZ σ))) (vp_Si Q) 0 0 (fun _ => False) := by
  refine Met.ofW (cc := prog_2_method_11_code) (maxL := 3) (ret := (some .int)) (by decide) rfl ?_
  intro p e s m args below meth c s₁ B hml hv
  obtain ⟨rfl, hP, hK⟩ := hv
  have hx := B.exec
  have hb := B.bytes
  have hr := B.returns
  have hts : ∀ w ∈ TG, w.before [.ref (ad 0), .int v1, .int v2].toArray s = true := fun w hw => atoms_spec (ws := .code y_Choice_worthOf prog_2_method_11_code 3 (some .int) :: TG) B.pre w (List.mem_cons_of_mem _ hw)
  have hown : s.vm.findClass "CarrierPaths$Choice" = some m.cls := findClass_of_methodNamed B.named
  have hlocks := B.notSynchronized
  have hl := lv_entry ([.ref (ad 0), .int v1, .int v2]) (n := 3) (Nat.le_of_ble_eq_true rfl)
  rw [lg_entry_eq]
  generalize (lg_sl ([.ref (ad 0), .int v1, .int v2]) ++ List.replicate (3 - (lg_sl ([.ref (ad 0), .int v1, .int v2])).length) Slot.unset).toArray = ls at hl ⊢
  have hl : lv_has ls 3 [(0, .ref (ad 0)), (1, .int v1), (2, .int v2)] := hl
  unfold q_Choice_worthOf at h
  refine lv_aload_n hx hb d_Choice_worthOf_0 rfl (lv_at hl 0 rfl) ?_
  refine va_get (D := D) (ci := 0) (v := .ref (ad 1)) (C := "CarrierPaths$Choice") (T := F_Choice) (N := 6) hx hb hts in_Choice hown hK hP 0 rfl rfl 0 (by decide) (hts _ kw153) (fun _ h9 => h9) rfl d_Choice_worthOf_1 ?_
  refine lv_iload_n hx hb d_Choice_worthOf_4 rfl (lv_at hl 1 rfl) ?_
  refine lv_bipush (v := 6) hx hb d_Choice_worthOf_5 (by decide) ?_
  refine lv_imul hx hb d_Choice_worthOf_7 ?_
  refine lv_iload_n hx hb d_Choice_worthOf_8 rfl (lv_at hl 2 rfl) ?_
  refine lv_iadd hx hb d_Choice_worthOf_9 ?_
  obtain ⟨hi, h⟩ := h
  refine va_iald hx hb hK hP 1 0 rfl rfl hi d_Choice_worthOf_10 ?_
  exact W.iret (v := (σ 1 ((v1 * 6) + v2).toNatClampNeg)) hx hb hr (fun t ht hW => ⟨(σ 1 ((v1 * 6) + v2).toNatClampNeg), rfl, h, ht⟩) (fun q hq => by cases hq) d_Choice_worthOf_11
def q_Choice_canTake (v1 v2 v3 : Int32) (σ : Sg) (Q : (Int32 → Prop)) : Prop :=
  (q_Choice_worthOf v1 v2 σ (fun r1 => ((r1 ≤ 0 → Q 0) ∧ (¬ r1 ≤ 0 → (((v3 &&& (1 <<< (v2 &&& 31))) = 0 → Q 1) ∧ (¬ (v3 &&& (1 <<< (v2 &&& 31))) = 0 → Q 0))))))
set_option maxHeartbeats 4000000 in
set_option maxRecDepth 100000 in
theorem t_Choice_canTake (l : Launch) (D : va_G) (cI cZ : ClassId) (ad : Nat → Nat) (v1 v2 v3 : Int32) (σ : Sg) (Q : (Int32 → Prop)) (h : q_Choice_canTake v1 v2 v3 σ Q) : Met l y_Choice_canTake (.code y_Choice_canTake prog_2_method_9_code 4 (some .boolean) :: TG) { frames := 1, cells := 0, slots := 0, locals := 22 } (va_Pc [.ref (ad 0), .int v1, .int v2, .int v3] (roB D (tysA cI cZ) (W_Choice ad cI cZ σ))) (vp_Si Q) 0 0 (fun _ => False) := by
  refine Met.ofW (cc := prog_2_method_9_code) (maxL := 4) (ret := (some .boolean)) (by decide) rfl ?_
  intro p e s m args below meth c s₁ B hml hv
  obtain ⟨rfl, hP, hK⟩ := hv
  have hx := B.exec
  have hb := B.bytes
  have hr := B.returns
  have hts : ∀ w ∈ TG, w.before [.ref (ad 0), .int v1, .int v2, .int v3].toArray s = true := fun w hw => atoms_spec (ws := .code y_Choice_canTake prog_2_method_9_code 4 (some .boolean) :: TG) B.pre w (List.mem_cons_of_mem _ hw)
  have hown : s.vm.findClass "CarrierPaths$Choice" = some m.cls := findClass_of_methodNamed B.named
  have hlocks := B.notSynchronized
  have hl := lv_entry ([.ref (ad 0), .int v1, .int v2, .int v3]) (n := 4) (Nat.le_of_ble_eq_true rfl)
  rw [lg_entry_eq]
  generalize (lg_sl ([.ref (ad 0), .int v1, .int v2, .int v3]) ++ List.replicate (4 - (lg_sl ([.ref (ad 0), .int v1, .int v2, .int v3])).length) Slot.unset).toArray = ls at hl ⊢
  have hl : lv_has ls 4 [(0, .ref (ad 0)), (1, .int v1), (2, .int v2), (3, .int v3)] := hl
  unfold q_Choice_canTake at h
  refine lv_aload_n hx hb d_Choice_canTake_0 rfl (lv_at hl 0 rfl) ?_
  refine lv_iload_n hx hb d_Choice_canTake_1 rfl (lv_at hl 1 rfl) ?_
  refine lv_iload_n hx hb d_Choice_canTake_2 rfl (lv_at hl 2 rfl) ?_
  refine vp_callSi (W.runV (As := [.int v1, .int v2]) (rest := []) ⟨hx, hb, hml, hown, hts⟩ (t_Choice_worthOf l D cI cZ ad v1 v2 σ _ h) (cwV 2 hts (g_of kw295 kw297 kp7 kw8 kw298) rfl rfl rfl (by decide +kernel) ⟨Nat.le_of_ble_eq_true rfl, Nat.le_of_ble_eq_true rfl⟩) (ro_pre hK hP (va_recv hK hP (ci := 0) (q0 := 0) rfl rfl)) rfl rfl hl.1 rfl (lv_room (Nat.le_of_ble_eq_true rfl)) d_Choice_canTake_3 ⟨Nat.le_of_ble_eq_true rfl, Nat.le_of_ble_eq_true rfl⟩) (fun r1 h => ?_)
  refine lv_if_le (tgt := 21) hx hb d_Choice_canTake_6 (by decide) (fun hc => ?_) (fun hc => ?_)
  · have h := h.1 hc
    refine lv_iconst (v := 0) hx hb d_Choice_canTake_21 (by decide) ?_
    exact W.zret (v := 0) hx hb hr (by decide) (fun t ht hW => ⟨0, rfl, h, ht⟩) (fun q hq => by cases hq) d_Choice_canTake_22
  · have h := h.2 hc
    refine lv_iload_n hx hb d_Choice_canTake_9 rfl (lv_at hl 3 rfl) ?_
    refine lv_iconst (v := 1) hx hb d_Choice_canTake_10 (by decide) ?_
    refine lv_iload_n hx hb d_Choice_canTake_11 rfl (lv_at hl 2 rfl) ?_
    refine lv_ishl hx hb d_Choice_canTake_12 ?_
    refine lv_iand hx hb d_Choice_canTake_13 ?_
    refine lv_if_ne (tgt := 21) hx hb d_Choice_canTake_14 (by decide) (fun hc => ?_) (fun hc => ?_)
    · have h := h.2 hc
      refine lv_iconst (v := 0) hx hb d_Choice_canTake_21 (by decide) ?_
      exact W.zret (v := 0) hx hb hr (by decide) (fun t ht hW => ⟨0, rfl, h, ht⟩) (fun q hq => by cases hq) d_Choice_canTake_22
    · have h := h.1 hc
      refine lv_iconst (v := 1) hx hb d_Choice_canTake_17 (by decide) ?_
      refine lv_goto (tgt := 22) hx hb d_Choice_canTake_18 (by decide) ?_
      exact W.zret (v := 1) hx hb hr (by decide) (fun t ht hW => ⟨1, rfl, h, ht⟩) (fun q hq => by cases hq) d_Choice_canTake_22
def q_Choice_bestFrom (v1 v2 : Int32) (σ : Sg) (Q : (Int32 → Prop)) : Prop :=
  (vp_in ((v1 <<< (6 &&& 31)) + v2) 832 ∧ Q (σ 2 ((v1 <<< (6 &&& 31)) + v2).toNatClampNeg))
set_option maxHeartbeats 4000000 in
set_option maxRecDepth 100000 in
theorem t_Choice_bestFrom (l : Launch) (D : va_G) (cI cZ : ClassId) (ad : Nat → Nat) (v1 v2 : Int32) (σ : Sg) (Q : (Int32 → Prop)) (h : q_Choice_bestFrom v1 v2 σ Q) : Met l y_Choice_bestFrom (.code y_Choice_bestFrom prog_2_method_12_code 3 (some .int) :: TG) { frames := 0, cells := 0, slots := 0, locals := 0 } (va_Pc [.ref (ad 0), .int v1, .int v2] (roB D (tysA cI cZ) (W_Choice ad cI cZ σ))) (vp_Si Q) 0 0 (fun _ => False) := by
  refine Met.ofW (cc := prog_2_method_12_code) (maxL := 3) (ret := (some .int)) (by decide) rfl ?_
  intro p e s m args below meth c s₁ B hml hv
  obtain ⟨rfl, hP, hK⟩ := hv
  have hx := B.exec
  have hb := B.bytes
  have hr := B.returns
  have hts : ∀ w ∈ TG, w.before [.ref (ad 0), .int v1, .int v2].toArray s = true := fun w hw => atoms_spec (ws := .code y_Choice_bestFrom prog_2_method_12_code 3 (some .int) :: TG) B.pre w (List.mem_cons_of_mem _ hw)
  have hown : s.vm.findClass "CarrierPaths$Choice" = some m.cls := findClass_of_methodNamed B.named
  have hlocks := B.notSynchronized
  have hl := lv_entry ([.ref (ad 0), .int v1, .int v2]) (n := 3) (Nat.le_of_ble_eq_true rfl)
  rw [lg_entry_eq]
  generalize (lg_sl ([.ref (ad 0), .int v1, .int v2]) ++ List.replicate (3 - (lg_sl ([.ref (ad 0), .int v1, .int v2])).length) Slot.unset).toArray = ls at hl ⊢
  have hl : lv_has ls 3 [(0, .ref (ad 0)), (1, .int v1), (2, .int v2)] := hl
  unfold q_Choice_bestFrom at h
  refine lv_aload_n hx hb d_Choice_bestFrom_0 rfl (lv_at hl 0 rfl) ?_
  refine va_get (D := D) (ci := 0) (v := .ref (ad 2)) (C := "CarrierPaths$Choice") (T := F_Choice) (N := 6) hx hb hts in_Choice hown hK hP 0 rfl rfl 1 (by decide) (hts _ kw154) (fun _ h9 => h9) rfl d_Choice_bestFrom_1 ?_
  refine lv_iload_n hx hb d_Choice_bestFrom_4 rfl (lv_at hl 1 rfl) ?_
  refine lv_bipush (v := 6) hx hb d_Choice_bestFrom_5 (by decide) ?_
  refine lv_ishl hx hb d_Choice_bestFrom_7 ?_
  refine lv_iload_n hx hb d_Choice_bestFrom_8 rfl (lv_at hl 2 rfl) ?_
  refine lv_iadd hx hb d_Choice_bestFrom_9 ?_
  obtain ⟨hi, h⟩ := h
  refine va_iald hx hb hK hP 2 0 rfl rfl hi d_Choice_bestFrom_10 ?_
  exact W.iret (v := (σ 2 ((v1 <<< (6 &&& 31)) + v2).toNatClampNeg)) hx hb hr (fun t ht hW => ⟨(σ 2 ((v1 <<< (6 &&& 31)) + v2).toNatClampNeg), rfl, h, ht⟩) (fun q hq => by cases hq) d_Choice_bestFrom_11
def q_Choice_worthWith (v1 v2 v3 : Int32) (σ : Sg) (Q : (Int32 → Prop)) : Prop :=
  (q_Choice_worthOf v1 v2 σ (fun r1 => (q_Choice_bestFrom (v1 + 1) (v3 ||| (1 <<< (v2 &&& 31))) σ (fun r2 => Q (r1 + r2)))))
set_option maxHeartbeats 4000000 in
set_option maxRecDepth 100000 in
theorem t_Choice_worthWith (l : Launch) (D : va_G) (cI cZ : ClassId) (ad : Nat → Nat) (v1 v2 v3 : Int32) (σ : Sg) (Q : (Int32 → Prop)) (h : q_Choice_worthWith v1 v2 v3 σ Q) : Met l y_Choice_worthWith (.code y_Choice_worthWith prog_2_method_10_code 4 (some .int) :: TG) { frames := 1, cells := 0, slots := 0, locals := 22 } (va_Pc [.ref (ad 0), .int v1, .int v2, .int v3] (roB D (tysA cI cZ) (W_Choice ad cI cZ σ))) (vp_Si Q) 0 0 (fun _ => False) := by
  refine Met.ofW (cc := prog_2_method_10_code) (maxL := 4) (ret := (some .int)) (by decide) rfl ?_
  intro p e s m args below meth c s₁ B hml hv
  obtain ⟨rfl, hP, hK⟩ := hv
  have hx := B.exec
  have hb := B.bytes
  have hr := B.returns
  have hts : ∀ w ∈ TG, w.before [.ref (ad 0), .int v1, .int v2, .int v3].toArray s = true := fun w hw => atoms_spec (ws := .code y_Choice_worthWith prog_2_method_10_code 4 (some .int) :: TG) B.pre w (List.mem_cons_of_mem _ hw)
  have hown : s.vm.findClass "CarrierPaths$Choice" = some m.cls := findClass_of_methodNamed B.named
  have hlocks := B.notSynchronized
  have hl := lv_entry ([.ref (ad 0), .int v1, .int v2, .int v3]) (n := 4) (Nat.le_of_ble_eq_true rfl)
  rw [lg_entry_eq]
  generalize (lg_sl ([.ref (ad 0), .int v1, .int v2, .int v3]) ++ List.replicate (4 - (lg_sl ([.ref (ad 0), .int v1, .int v2, .int v3])).length) Slot.unset).toArray = ls at hl ⊢
  have hl : lv_has ls 4 [(0, .ref (ad 0)), (1, .int v1), (2, .int v2), (3, .int v3)] := hl
  unfold q_Choice_worthWith at h
  refine lv_aload_n hx hb d_Choice_worthWith_0 rfl (lv_at hl 0 rfl) ?_
  refine lv_iload_n hx hb d_Choice_worthWith_1 rfl (lv_at hl 1 rfl) ?_
  refine lv_iload_n hx hb d_Choice_worthWith_2 rfl (lv_at hl 2 rfl) ?_
  refine vp_callSi (W.runV (As := [.int v1, .int v2]) (rest := []) ⟨hx, hb, hml, hown, hts⟩ (t_Choice_worthOf l D cI cZ ad v1 v2 σ _ h) (cwV 2 hts (g_of kw295 kw297 kp7 kw8 kw298) rfl rfl rfl (by decide +kernel) ⟨Nat.le_of_ble_eq_true rfl, Nat.le_of_ble_eq_true rfl⟩) (ro_pre hK hP (va_recv hK hP (ci := 0) (q0 := 0) rfl rfl)) rfl rfl hl.1 rfl (lv_room (Nat.le_of_ble_eq_true rfl)) d_Choice_worthWith_3 ⟨Nat.le_of_ble_eq_true rfl, Nat.le_of_ble_eq_true rfl⟩) (fun r1 h => ?_)
  refine lv_aload_n hx hb d_Choice_worthWith_6 rfl (lv_at hl 0 rfl) ?_
  refine lv_iload_n hx hb d_Choice_worthWith_7 rfl (lv_at hl 1 rfl) ?_
  refine lv_iconst (v := 1) hx hb d_Choice_worthWith_8 (by decide) ?_
  refine lv_iadd hx hb d_Choice_worthWith_9 ?_
  refine lv_iload_n hx hb d_Choice_worthWith_10 rfl (lv_at hl 3 rfl) ?_
  refine lv_iconst (v := 1) hx hb d_Choice_worthWith_11 (by decide) ?_
  refine lv_iload_n hx hb d_Choice_worthWith_12 rfl (lv_at hl 2 rfl) ?_
  refine lv_ishl hx hb d_Choice_worthWith_13 ?_
  refine lv_ior hx hb d_Choice_worthWith_14 ?_
  refine vp_callSi (W.runV (As := [.int (v1 + 1), .int (v3 ||| (1 <<< (v2 &&& 31)))]) (rest := [.int r1]) ⟨hx, hb, hml, hown, hts⟩ (t_Choice_bestFrom l D cI cZ ad (v1 + 1) (v3 ||| (1 <<< (v2 &&& 31))) σ _ h) (cwV 2 hts (g_of kw287 kw289 kp5 kw8 kw290) rfl rfl rfl (by decide +kernel) ⟨Nat.le_of_ble_eq_true rfl, Nat.le_of_ble_eq_true rfl⟩) (ro_pre hK hP (va_recv hK hP (ci := 0) (q0 := 0) rfl rfl)) rfl rfl hl.1 rfl (lv_room (Nat.le_of_ble_eq_true rfl)) d_Choice_worthWith_15 ⟨Nat.le_of_ble_eq_true rfl, Nat.le_of_ble_eq_true rfl⟩) (fun r2 h => ?_)
  refine lv_iadd hx hb d_Choice_worthWith_18 ?_
  exact W.iret (v := (r1 + r2)) hx hb hr (fun t ht hW => ⟨(r1 + r2), rfl, h, ht⟩) (fun q hq => by cases hq) d_Choice_worthWith_19
def q_Choice_mostWorth_b0 (J : Nat → Int32 → Int32 → Int32 → Int32 → Prop) (Q : (Int32 → Prop)) (v1 v2 v3 v4 : Int32) (σ : Sg) : Prop :=
  (q_Choice_bestFrom (v1 + 1) v2 σ (fun r1 => J 1 v1 v2 r1 0))
def q_Choice_mostWorth_b1 (J : Nat → Int32 → Int32 → Int32 → Int32 → Prop) (Q : (Int32 → Prop)) (v1 v2 v3 v4 : Int32) (σ : Sg) : Prop :=
  (((σ 0 4) ≤ v4 → Q v3) ∧ (¬ (σ 0 4) ≤ v4 → (q_Choice_canTake v1 v4 v2 σ (fun r2 => ((r2 = 0 → J 1 v1 v2 v3 (v4 + 1)) ∧ (¬ r2 = 0 → (q_Choice_worthWith v1 v4 v2 σ (fun r3 => J 1 v1 v2 (if v3 < r3 then r3 else v3) (v4 + 1)))))))))
def q_Choice_mostWorth_j (Q : (Int32 → Prop)) (σ : Sg) : Nat → Nat → Int32 → Int32 → Int32 → Int32 → Prop
  | 0, _, _, _, _, _ => False
  | n + 1, 0, v1, v2, v3, v4 => q_Choice_mostWorth_b0 (q_Choice_mostWorth_j Q σ n) Q v1 v2 v3 v4 σ
  | n + 1, 1, v1, v2, v3, v4 => q_Choice_mostWorth_b1 (q_Choice_mostWorth_j Q σ n) Q v1 v2 v3 v4 σ
  | _ + 1, _ + 2, _, _, _, _ => False
def q_Choice_mostWorth (v1 v2 : Int32) (σ : Sg) (Q : (Int32 → Prop)) : Prop := q_Choice_mostWorth_j Q σ 4000 0 v1 v2 0 0
def lc_Choice_mostWorth (ad : Nat → Nat) (b : Nat) (v1 v2 v3 v4 : Int32) : List (Nat × Value) := match b with
  | 0 => [(0, .ref (ad 0)), (1, .int v1), (2, .int v2)]
  | 1 => [(0, .ref (ad 0)), (1, .int v1), (2, .int v2), (3, .int v3), (4, .int v4)]
  | _ => []
def pc_Choice_mostWorth (b : Nat) : Nat := match b with
  | 0 => 0
  | 1 => 12
  | _ => 0
set_option maxHeartbeats 4000000 in
set_option maxRecDepth 100000 in
theorem t_Choice_mostWorth (l : Launch) (D : va_G) (cI cZ : ClassId) (ad : Nat → Nat) (v1 v2 : Int32) (σ : Sg) (Q : (Int32 → Prop)) (h : q_Choice_mostWorth v1 v2 σ Q) : Met l y_Choice_mostWorth (.code y_Choice_mostWorth prog_2_method_7_code 5 (some .int) :: TG) { frames := 2, cells := 0, slots := 0, locals := 45 } (va_Pc [.ref (ad 0), .int v1, .int v2] (roB D (tysA cI cZ) (W_Choice ad cI cZ σ))) (vp_Si Q) 0 0 (fun _ => False) := by
  refine Met.ofW (cc := prog_2_method_7_code) (maxL := 5) (ret := (some .int)) (by decide) rfl ?_
  intro p e s m args below meth c s₁ B hml hv
  obtain ⟨rfl, hP, hK⟩ := hv
  have hx := B.exec
  have hb := B.bytes
  have hr := B.returns
  have hts : ∀ w ∈ TG, w.before [.ref (ad 0), .int v1, .int v2].toArray s = true := fun w hw => atoms_spec (ws := .code y_Choice_mostWorth prog_2_method_7_code 5 (some .int) :: TG) B.pre w (List.mem_cons_of_mem _ hw)
  have hown : s.vm.findClass "CarrierPaths$Choice" = some m.cls := findClass_of_methodNamed B.named
  have hlocks := B.notSynchronized
  have hl := lv_entry ([.ref (ad 0), .int v1, .int v2]) (n := 5) (Nat.le_of_ble_eq_true rfl)
  rw [lg_entry_eq]
  generalize (lg_sl ([.ref (ad 0), .int v1, .int v2]) ++ List.replicate (5 - (lg_sl ([.ref (ad 0), .int v1, .int v2])).length) Slot.unset).toArray = ls at hl ⊢
  generalize ([.ref (ad 0), .int v1, .int v2] : List Value).toArray = args at hts ⊢
  have key : ∀ (n b : Nat) (v1 v2 v3 v4 : Int32), q_Choice_mostWorth_j Q σ n b v1 v2 v3 v4 → ∀ ls : Array Slot, lv_has ls 5 (lc_Choice_mostWorth ad b v1 v2 v3 v4) → W p l e (headSpec (.code y_Choice_mostWorth prog_2_method_7_code 5 (some .int) :: TG) { frames := 2, cells := 0, slots := 0, locals := 45 }).room s m args below meth c s.heap [] 0 0 (MQ below (vp_Si Q) args s 0 0 (fun _ => False)) (F0 m (pc_Choice_mostWorth b) ls []) := by
    clear h hl
    intro n
    induction n with
    | zero => intro b _ _ _ _ h; exact False.elim h
    | succ n ih =>
      intro b v1 v2 v3 v4 h ls hl
      match b, h, hl with
      | 0, h, hl =>
        have h : q_Choice_mostWorth_b0 (q_Choice_mostWorth_j Q σ n) Q v1 v2 v3 v4 σ := h
        have hl : lv_has ls 5 [(0, .ref (ad 0)), (1, .int v1), (2, .int v2)] := hl
        refine W.eq (g2 := F0 m 0 ls []) rfl ?_
        unfold q_Choice_mostWorth_b0 at h
        refine lv_aload_n hx hb d_Choice_mostWorth_0 rfl (lv_at hl 0 rfl) ?_
        refine lv_iload_n hx hb d_Choice_mostWorth_1 rfl (lv_at hl 1 rfl) ?_
        refine lv_iconst (v := 1) hx hb d_Choice_mostWorth_2 (by decide) ?_
        refine lv_iadd hx hb d_Choice_mostWorth_3 ?_
        refine lv_iload_n hx hb d_Choice_mostWorth_4 rfl (lv_at hl 2 rfl) ?_
        refine vp_callSi (W.runV (As := [.int (v1 + 1), .int v2]) (rest := []) ⟨hx, hb, hml, hown, hts⟩ (t_Choice_bestFrom l D cI cZ ad (v1 + 1) v2 σ _ h) (cwV 2 hts (g_of kw287 kw289 kp5 kw8 kw290) rfl rfl rfl (by decide +kernel) ⟨Nat.le_of_ble_eq_true rfl, Nat.le_of_ble_eq_true rfl⟩) (ro_pre hK hP (va_recv hK hP (ci := 0) (q0 := 0) rfl rfl)) rfl rfl hl.1 rfl (lv_room (Nat.le_of_ble_eq_true rfl)) d_Choice_mostWorth_5 ⟨Nat.le_of_ble_eq_true rfl, Nat.le_of_ble_eq_true rfl⟩) (fun r1 h => ?_)
        refine lv_istore_n (lv' := [(3, .int r1), (0, .ref (ad 0)), (1, .int v1), (2, .int v2)]) hx hb d_Choice_mostWorth_8 rfl hl (by decide) rfl (fun ls hl => ?_)
        refine lv_iconst (v := 0) hx hb d_Choice_mostWorth_9 (by decide) ?_
        refine lv_istore (lv' := [(4, .int 0), (3, .int r1), (0, .ref (ad 0)), (1, .int v1), (2, .int v2)]) hx hb d_Choice_mostWorth_10 hl (by decide) rfl (fun ls hl => ?_)
        exact ih 1 v1 v2 r1 0 h _ (lv_sub hl [2, 3, 4, 1, 0] rfl)
      | 1, h, hl =>
        have h : q_Choice_mostWorth_b1 (q_Choice_mostWorth_j Q σ n) Q v1 v2 v3 v4 σ := h
        have hl : lv_has ls 5 [(0, .ref (ad 0)), (1, .int v1), (2, .int v2), (3, .int v3), (4, .int v4)] := hl
        refine W.eq (g2 := F0 m 12 ls []) rfl ?_
        unfold q_Choice_mostWorth_b1 at h
        refine lv_iload hx hb d_Choice_mostWorth_12 (lv_at hl 4 rfl) ?_
        refine lv_aload_n hx hb d_Choice_mostWorth_14 rfl (lv_at hl 0 rfl) ?_
        refine va_get (D := D) (ci := 0) (v := .int (σ 0 4)) (C := "CarrierPaths$Choice") (T := F_Choice) (N := 6) hx hb hts in_Choice hown hK hP 0 rfl rfl 4 (by decide) (hts _ kw157) (fun _ h9 => h9) rfl d_Choice_mostWorth_15 ?_
        refine lv_icmp_ge (tgt := 51) hx hb d_Choice_mostWorth_18 (by decide) (fun hc => ?_) (fun hc => ?_)
        · have h := h.1 hc
          refine lv_iload_n hx hb d_Choice_mostWorth_51 rfl (lv_at hl 3 rfl) ?_
          exact W.iret (v := v3) hx hb hr (fun t ht hW => ⟨v3, rfl, h, ht⟩) (fun q hq => by cases hq) d_Choice_mostWorth_52
        · have h := h.2 hc
          refine lv_aload_n hx hb d_Choice_mostWorth_21 rfl (lv_at hl 0 rfl) ?_
          refine lv_iload_n hx hb d_Choice_mostWorth_22 rfl (lv_at hl 1 rfl) ?_
          refine lv_iload hx hb d_Choice_mostWorth_23 (lv_at hl 4 rfl) ?_
          refine lv_iload_n hx hb d_Choice_mostWorth_25 rfl (lv_at hl 2 rfl) ?_
          refine vp_callSi (W.runV (As := [.int v1, .int v4, .int v2]) (rest := []) ⟨hx, hb, hml, hown, hts⟩ (t_Choice_canTake l D cI cZ ad v1 v4 v2 σ _ h) (cwV 3 hts (g_of kw291 kw293 kp6 kw8 kw294) rfl rfl rfl (by decide +kernel) ⟨Nat.le_of_ble_eq_true rfl, Nat.le_of_ble_eq_true rfl⟩) (ro_pre hK hP (va_recv hK hP (ci := 0) (q0 := 0) rfl rfl)) rfl rfl hl.1 rfl (lv_room (Nat.le_of_ble_eq_true rfl)) d_Choice_mostWorth_26 ⟨Nat.le_of_ble_eq_true rfl, Nat.le_of_ble_eq_true rfl⟩) (fun r2 h => ?_)
          refine lv_if_eq (tgt := 45) hx hb d_Choice_mostWorth_29 (by decide) (fun hc => ?_) (fun hc => ?_)
          · have h := h.1 hc
            refine lv_iinc (v := (v4 + 1)) (lv' := [(4, .int (v4 + 1)), (0, .ref (ad 0)), (1, .int v1), (2, .int v2), (3, .int v3)]) hx hb d_Choice_mostWorth_45 hl (k := 4) rfl rfl (by decide) rfl (fun ls hl => ?_)
            refine lv_goto (tgt := 12) hx hb d_Choice_mostWorth_48 (by decide) ?_
            exact ih 1 v1 v2 v3 (v4 + 1) h _ (lv_sub hl [1, 2, 3, 4, 0] rfl)
          · have h := h.2 hc
            refine lv_iload_n hx hb d_Choice_mostWorth_32 rfl (lv_at hl 3 rfl) ?_
            refine lv_aload_n hx hb d_Choice_mostWorth_33 rfl (lv_at hl 0 rfl) ?_
            refine lv_iload_n hx hb d_Choice_mostWorth_34 rfl (lv_at hl 1 rfl) ?_
            refine lv_iload hx hb d_Choice_mostWorth_35 (lv_at hl 4 rfl) ?_
            refine lv_iload_n hx hb d_Choice_mostWorth_37 rfl (lv_at hl 2 rfl) ?_
            refine vp_callSi (W.runV (As := [.int v1, .int v4, .int v2]) (rest := [.int v3]) ⟨hx, hb, hml, hown, hts⟩ (t_Choice_worthWith l D cI cZ ad v1 v4 v2 σ _ h) (cwV 3 hts (g_of kw299 kw301 kp8 kw8 kw302) rfl rfl rfl (by decide +kernel) ⟨Nat.le_of_ble_eq_true rfl, Nat.le_of_ble_eq_true rfl⟩) (ro_pre hK hP (va_recv hK hP (ci := 0) (q0 := 0) rfl rfl)) rfl rfl hl.1 rfl (lv_room (Nat.le_of_ble_eq_true rfl)) d_Choice_mostWorth_38 ⟨Nat.le_of_ble_eq_true rfl, Nat.le_of_ble_eq_true rfl⟩) (fun r3 h => ?_)
            refine va_mmax hx hb (hml.trans hl.1.symm) hown (hts _ kw303) (hts _ kw28) (hts _ kw2) (hts _ kw29) (Nat.le_of_ble_eq_true rfl) (Nat.le_of_ble_eq_true rfl) (Nat.zero_le _) (Nat.zero_le _) d_Choice_mostWorth_41 ?_
            refine lv_istore_n (lv' := [(3, .int (if v3 < r3 then r3 else v3)), (0, .ref (ad 0)), (1, .int v1), (2, .int v2), (4, .int v4)]) hx hb d_Choice_mostWorth_44 rfl hl (by decide) rfl (fun ls hl => ?_)
            refine lv_iinc (v := (v4 + 1)) (lv' := [(4, .int (v4 + 1)), (3, .int (if v3 < r3 then r3 else v3)), (0, .ref (ad 0)), (1, .int v1), (2, .int v2)]) hx hb d_Choice_mostWorth_45 hl (k := 4) rfl rfl (by decide) rfl (fun ls hl => ?_)
            refine lv_goto (tgt := 12) hx hb d_Choice_mostWorth_48 (by decide) ?_
            exact ih 1 v1 v2 (if v3 < r3 then r3 else v3) (v4 + 1) h _ (lv_sub hl [2, 3, 4, 1, 0] rfl)
      | _ + 2, h, _ => exact False.elim h
  exact key 4000 0 v1 v2 0 0 h ls hl
def q_Choice_findBest_b0 (J : Nat → Int32 → Int32 → Sg → Prop) (Q : (Sg → Prop)) (v1 v2 : Int32) (σ : Sg) : Prop :=
  J 1 v1 0 σ
def q_Choice_findBest_b1 (J : Nat → Int32 → Int32 → Sg → Prop) (Q : (Sg → Prop)) (v1 v2 : Int32) (σ : Sg) : Prop :=
  (((σ 0 5) < v2 → Q σ) ∧ (¬ (σ 0 5) < v2 → (((v2 &&& ((σ 0 5) ^^^ (-1))) = 0 → (q_Choice_mostWorth v1 v2 σ (fun r1 => (vp_in ((v1 <<< (6 &&& 31)) + v2) 832 ∧ J 1 v1 (v2 + 1) (sto σ 2 ((v1 <<< (6 &&& 31)) + v2).toNatClampNeg r1))))) ∧ (¬ (v2 &&& ((σ 0 5) ^^^ (-1))) = 0 → J 1 v1 (v2 + 1) σ))))
def q_Choice_findBest_j (Q : (Sg → Prop)) : Nat → Nat → Int32 → Int32 → Sg → Prop
  | 0, _, _, _, _ => False
  | n + 1, 0, v1, v2, σ => q_Choice_findBest_b0 (q_Choice_findBest_j Q n) Q v1 v2 σ
  | n + 1, 1, v1, v2, σ => q_Choice_findBest_b1 (q_Choice_findBest_j Q n) Q v1 v2 σ
  | _ + 1, _ + 2, _, _, _ => False
def q_Choice_findBest (v1 : Int32) (σ : Sg) (Q : (Sg → Prop)) : Prop := q_Choice_findBest_j Q 4000 0 v1 0 σ
def lc_Choice_findBest (ad : Nat → Nat) (b : Nat) (v1 v2 : Int32) : List (Nat × Value) := match b with
  | 0 => [(0, .ref (ad 0)), (1, .int v1)]
  | 1 => [(0, .ref (ad 0)), (1, .int v1), (2, .int v2)]
  | _ => []
def pc_Choice_findBest (b : Nat) : Nat := match b with
  | 0 => 0
  | 1 => 2
  | _ => 0
set_option maxHeartbeats 4000000 in
set_option maxRecDepth 100000 in
theorem t_Choice_findBest (l : Launch) (D : va_G) (cI cZ : ClassId) (ad : Nat → Nat) (inj : Inj ad 4) (v1 : Int32) (σ : Sg) (Q : (Sg → Prop)) (h : q_Choice_findBest v1 σ Q) : Met l y_Choice_findBest (.code y_Choice_findBest prog_2_method_6_code 3 none :: TG) { frames := 3, cells := 0, slots := 0, locals := 69 } (va_Pc [.ref (ad 0), .int v1] (roB D (tysA cI cZ) (W_Choice ad cI cZ σ))) (va_Qv Q (fun u t => va_P D classes (W_Choice ad cI cZ u) t.heap) (inA ad 4)) 0 0 (inA ad 4) := by
  refine Met.ofW (cc := prog_2_method_6_code) (maxL := 3) (ret := none) (by decide) rfl ?_
  intro p e s m args below meth c s₁ B hml hv
  obtain ⟨rfl, hP, hK⟩ := hv
  have hx := B.exec
  have hb := B.bytes
  have hr := B.returns
  have hts : ∀ w ∈ TG, w.before [.ref (ad 0), .int v1].toArray s = true := fun w hw => atoms_spec (ws := .code y_Choice_findBest prog_2_method_6_code 3 none :: TG) B.pre w (List.mem_cons_of_mem _ hw)
  have hown : s.vm.findClass "CarrierPaths$Choice" = some m.cls := findClass_of_methodNamed B.named
  have hlocks := B.notSynchronized
  have hS : va_S (inA ad 4) s.heap s.heap [] := va_S.rf
  have hl := lv_entry ([.ref (ad 0), .int v1]) (n := 3) (Nat.le_of_ble_eq_true rfl)
  rw [lg_entry_eq]
  generalize (lg_sl ([.ref (ad 0), .int v1]) ++ List.replicate (3 - (lg_sl ([.ref (ad 0), .int v1])).length) Slot.unset).toArray = ls at hl ⊢
  generalize ([.ref (ad 0), .int v1] : List Value).toArray = args at hts ⊢
  have key : ∀ (n b : Nat) (v1 v2 : Int32) (σ : Sg), q_Choice_findBest_j Q n b v1 v2 σ → ∀ (H : Heap) (locs : List Loc) (ls : Array Slot), va_P D classes (W_Choice ad cI cZ σ) H → va_S (inA ad 4) s.heap H locs → lv_has ls 3 (lc_Choice_findBest ad b v1 v2) → W p l e (headSpec (.code y_Choice_findBest prog_2_method_6_code 3 none :: TG) { frames := 3, cells := 0, slots := 0, locals := 69 }).room s m args below meth c H locs 0 0 (MQ below (va_Qv Q (fun u t => va_P D classes (W_Choice ad cI cZ u) t.heap) (inA ad 4)) args s 0 0 (inA ad 4)) (F0 m (pc_Choice_findBest b) ls []) := by
    clear h hl hP hS
    intro n
    induction n with
    | zero => intro b _ _ _ h; exact False.elim h
    | succ n ih =>
      intro b v1 v2 σ h H locs ls hP hS hl
      match b, h, hl with
      | 0, h, hl =>
        have h : q_Choice_findBest_b0 (q_Choice_findBest_j Q n) Q v1 v2 σ := h
        have hl : lv_has ls 3 [(0, .ref (ad 0)), (1, .int v1)] := hl
        refine W.eq (g2 := F0 m 0 ls []) rfl ?_
        unfold q_Choice_findBest_b0 at h
        refine lv_iconst (v := 0) hx hb d_Choice_findBest_0 (by decide) ?_
        refine lv_istore_n (lv' := [(2, .int 0), (0, .ref (ad 0)), (1, .int v1)]) hx hb d_Choice_findBest_1 rfl hl (by decide) rfl (fun ls hl => ?_)
        exact ih 1 v1 0 σ h _ _ _ hP hS (lv_sub hl [1, 2, 0] rfl)
      | 1, h, hl =>
        have h : q_Choice_findBest_b1 (q_Choice_findBest_j Q n) Q v1 v2 σ := h
        have hl : lv_has ls 3 [(0, .ref (ad 0)), (1, .int v1), (2, .int v2)] := hl
        refine W.eq (g2 := F0 m 2 ls []) rfl ?_
        unfold q_Choice_findBest_b1 at h
        refine lv_iload_n hx hb d_Choice_findBest_2 rfl (lv_at hl 2 rfl) ?_
        refine lv_aload_n hx hb d_Choice_findBest_3 rfl (lv_at hl 0 rfl) ?_
        refine va_get (D := D) (ci := 0) (v := .int (σ 0 5)) (C := "CarrierPaths$Choice") (T := F_Choice) (N := 6) hx hb hts in_Choice hown hK hP 0 rfl rfl 5 (by decide) (hts _ kw158) (fun _ h9 => h9) rfl d_Choice_findBest_4 ?_
        refine lv_icmp_gt (tgt := 44) hx hb d_Choice_findBest_7 (by decide) (fun hc => ?_) (fun hc => ?_)
        · have h := h.1 hc
          exact W.vret hx hb hr (fun t ht hW => ⟨⟨σ, rfl, h, hp_back ht hP⟩, hS.F ht⟩) hS.2.2 d_Choice_findBest_44
        · have h := h.2 hc
          refine lv_iload_n hx hb d_Choice_findBest_10 rfl (lv_at hl 2 rfl) ?_
          refine lv_aload_n hx hb d_Choice_findBest_11 rfl (lv_at hl 0 rfl) ?_
          refine va_get (D := D) (ci := 0) (v := .int (σ 0 5)) (C := "CarrierPaths$Choice") (T := F_Choice) (N := 6) hx hb hts in_Choice hown hK hP 0 rfl rfl 5 (by decide) (hts _ kw158) (fun _ h9 => h9) rfl d_Choice_findBest_12 ?_
          refine lv_iconst (v := (-1)) hx hb d_Choice_findBest_15 (by decide) ?_
          refine lv_ixor hx hb d_Choice_findBest_16 ?_
          refine lv_iand hx hb d_Choice_findBest_17 ?_
          refine lv_if_ne (tgt := 38) hx hb d_Choice_findBest_18 (by decide) (fun hc => ?_) (fun hc => ?_)
          · have h := h.2 hc
            refine lv_iinc (v := (v2 + 1)) (lv' := [(2, .int (v2 + 1)), (0, .ref (ad 0)), (1, .int v1)]) hx hb d_Choice_findBest_38 hl (k := 2) rfl rfl (by decide) rfl (fun ls hl => ?_)
            refine lv_goto (tgt := 2) hx hb d_Choice_findBest_41 (by decide) ?_
            exact ih 1 v1 (v2 + 1) σ h _ _ _ hP hS (lv_sub hl [1, 2, 0] rfl)
          · have h := h.1 hc
            refine lv_aload_n hx hb d_Choice_findBest_21 rfl (lv_at hl 0 rfl) ?_
            refine va_get (D := D) (ci := 0) (v := .ref (ad 2)) (C := "CarrierPaths$Choice") (T := F_Choice) (N := 6) hx hb hts in_Choice hown hK hP 0 rfl rfl 1 (by decide) (hts _ kw154) (fun _ h9 => h9) rfl d_Choice_findBest_22 ?_
            refine lv_iload_n hx hb d_Choice_findBest_25 rfl (lv_at hl 1 rfl) ?_
            refine lv_bipush (v := 6) hx hb d_Choice_findBest_26 (by decide) ?_
            refine lv_ishl hx hb d_Choice_findBest_28 ?_
            refine lv_iload_n hx hb d_Choice_findBest_29 rfl (lv_at hl 2 rfl) ?_
            refine lv_iadd hx hb d_Choice_findBest_30 ?_
            refine lv_aload_n hx hb d_Choice_findBest_31 rfl (lv_at hl 0 rfl) ?_
            refine lv_iload_n hx hb d_Choice_findBest_32 rfl (lv_at hl 1 rfl) ?_
            refine lv_iload_n hx hb d_Choice_findBest_33 rfl (lv_at hl 2 rfl) ?_
            refine vp_callSi (W.runV (As := [.int v1, .int v2]) (rest := [.int ((v1 <<< (6 &&& 31)) + v2), .ref (ad 2)]) ⟨hx, hb, hml, hown, hts⟩ (t_Choice_mostWorth l D cI cZ ad v1 v2 σ _ h) (cwV 2 hts (g_of kw283 kw285 kp4 kw8 kw286) rfl rfl rfl (by decide +kernel) ⟨Nat.le_of_ble_eq_true rfl, Nat.le_of_ble_eq_true rfl⟩) (ro_pre hK hP (va_recv hK hP (ci := 0) (q0 := 0) rfl rfl)) rfl rfl hl.1 rfl (lv_room (Nat.le_of_ble_eq_true rfl)) d_Choice_findBest_34 ⟨Nat.le_of_ble_eq_true rfl, Nat.le_of_ble_eq_true rfl⟩) (fun r1 h => ?_)
            obtain ⟨hi, h⟩ := h
            refine va_iast hx hb hK hP (D_Choice inj) hS 2 0 rfl rfl hi d_Choice_findBest_37 (fun H locs hP _ hS => ?_)
            have hP : va_P D classes (W_Choice ad cI cZ (sto σ 2 ((v1 <<< (6 &&& 31)) + v2).toNatClampNeg r1)) H := hP
            refine lv_iinc (v := (v2 + 1)) (lv' := [(2, .int (v2 + 1)), (0, .ref (ad 0)), (1, .int v1)]) hx hb d_Choice_findBest_38 hl (k := 2) rfl rfl (by decide) rfl (fun ls hl => ?_)
            refine lv_goto (tgt := 2) hx hb d_Choice_findBest_41 (by decide) ?_
            exact ih 1 v1 (v2 + 1) (sto σ 2 ((v1 <<< (6 &&& 31)) + v2).toNatClampNeg r1) h _ _ _ hP hS (lv_sub hl [1, 2, 0] rfl)
      | _ + 2, h, _ => exact False.elim h
  exact key 4000 0 v1 0 σ h s.heap [] ls hP hS hl
def q_Choice_leastCarrier_b0 (J : Nat → Int32 → Int32 → Int32 → Prop) (Q : (Int32 → Prop)) (v1 v2 v3 : Int32) (σ : Sg) : Prop :=
  J 1 v1 v2 0
def q_Choice_leastCarrier_b1 (J : Nat → Int32 → Int32 → Int32 → Prop) (Q : (Int32 → Prop)) (v1 v2 v3 : Int32) (σ : Sg) : Prop :=
  (((σ 0 4) ≤ v3 → Q (-1)) ∧ (¬ (σ 0 4) ≤ v3 → (q_Choice_canTake v1 v3 v2 σ (fun r1 => ((r1 = 0 → J 1 v1 v2 (v3 + 1)) ∧ (¬ r1 = 0 → (q_Choice_worthWith v1 v3 v2 σ (fun r2 => (q_Choice_bestFrom v1 v2 σ (fun r3 => ((r2 = r3 → Q v3) ∧ (¬ r2 = r3 → J 1 v1 v2 (v3 + 1)))))))))))))
def q_Choice_leastCarrier_j (Q : (Int32 → Prop)) (σ : Sg) : Nat → Nat → Int32 → Int32 → Int32 → Prop
  | 0, _, _, _, _ => False
  | n + 1, 0, v1, v2, v3 => q_Choice_leastCarrier_b0 (q_Choice_leastCarrier_j Q σ n) Q v1 v2 v3 σ
  | n + 1, 1, v1, v2, v3 => q_Choice_leastCarrier_b1 (q_Choice_leastCarrier_j Q σ n) Q v1 v2 v3 σ
  | _ + 1, _ + 2, _, _, _ => False
def q_Choice_leastCarrier (v1 v2 : Int32) (σ : Sg) (Q : (Int32 → Prop)) : Prop := q_Choice_leastCarrier_j Q σ 4000 0 v1 v2 0
def lc_Choice_leastCarrier (ad : Nat → Nat) (b : Nat) (v1 v2 v3 : Int32) : List (Nat × Value) := match b with
  | 0 => [(0, .ref (ad 0)), (1, .int v1), (2, .int v2)]
  | 1 => [(0, .ref (ad 0)), (1, .int v1), (2, .int v2), (3, .int v3)]
  | _ => []
def pc_Choice_leastCarrier (b : Nat) : Nat := match b with
  | 0 => 0
  | 1 => 2
  | _ => 0
set_option maxHeartbeats 4000000 in
set_option maxRecDepth 100000 in
theorem t_Choice_leastCarrier (l : Launch) (D : va_G) (cI cZ : ClassId) (ad : Nat → Nat) (v1 v2 : Int32) (σ : Sg) (Q : (Int32 → Prop)) (h : q_Choice_leastCarrier v1 v2 σ Q) : Met l y_Choice_leastCarrier (.code y_Choice_leastCarrier prog_2_method_8_code 4 (some .int) :: TG) { frames := 2, cells := 0, slots := 0, locals := 45 } (va_Pc [.ref (ad 0), .int v1, .int v2] (roB D (tysA cI cZ) (W_Choice ad cI cZ σ))) (vp_Si Q) 0 0 (fun _ => False) := by
  refine Met.ofW (cc := prog_2_method_8_code) (maxL := 4) (ret := (some .int)) (by decide) rfl ?_
  intro p e s m args below meth c s₁ B hml hv
  obtain ⟨rfl, hP, hK⟩ := hv
  have hx := B.exec
  have hb := B.bytes
  have hr := B.returns
  have hts : ∀ w ∈ TG, w.before [.ref (ad 0), .int v1, .int v2].toArray s = true := fun w hw => atoms_spec (ws := .code y_Choice_leastCarrier prog_2_method_8_code 4 (some .int) :: TG) B.pre w (List.mem_cons_of_mem _ hw)
  have hown : s.vm.findClass "CarrierPaths$Choice" = some m.cls := findClass_of_methodNamed B.named
  have hlocks := B.notSynchronized
  have hl := lv_entry ([.ref (ad 0), .int v1, .int v2]) (n := 4) (Nat.le_of_ble_eq_true rfl)
  rw [lg_entry_eq]
  generalize (lg_sl ([.ref (ad 0), .int v1, .int v2]) ++ List.replicate (4 - (lg_sl ([.ref (ad 0), .int v1, .int v2])).length) Slot.unset).toArray = ls at hl ⊢
  generalize ([.ref (ad 0), .int v1, .int v2] : List Value).toArray = args at hts ⊢
  have key : ∀ (n b : Nat) (v1 v2 v3 : Int32), q_Choice_leastCarrier_j Q σ n b v1 v2 v3 → ∀ ls : Array Slot, lv_has ls 4 (lc_Choice_leastCarrier ad b v1 v2 v3) → W p l e (headSpec (.code y_Choice_leastCarrier prog_2_method_8_code 4 (some .int) :: TG) { frames := 2, cells := 0, slots := 0, locals := 45 }).room s m args below meth c s.heap [] 0 0 (MQ below (vp_Si Q) args s 0 0 (fun _ => False)) (F0 m (pc_Choice_leastCarrier b) ls []) := by
    clear h hl
    intro n
    induction n with
    | zero => intro b _ _ _ h; exact False.elim h
    | succ n ih =>
      intro b v1 v2 v3 h ls hl
      match b, h, hl with
      | 0, h, hl =>
        have h : q_Choice_leastCarrier_b0 (q_Choice_leastCarrier_j Q σ n) Q v1 v2 v3 σ := h
        have hl : lv_has ls 4 [(0, .ref (ad 0)), (1, .int v1), (2, .int v2)] := hl
        refine W.eq (g2 := F0 m 0 ls []) rfl ?_
        unfold q_Choice_leastCarrier_b0 at h
        refine lv_iconst (v := 0) hx hb d_Choice_leastCarrier_0 (by decide) ?_
        refine lv_istore_n (lv' := [(3, .int 0), (0, .ref (ad 0)), (1, .int v1), (2, .int v2)]) hx hb d_Choice_leastCarrier_1 rfl hl (by decide) rfl (fun ls hl => ?_)
        exact ih 1 v1 v2 0 h _ (lv_sub hl [1, 2, 3, 0] rfl)
      | 1, h, hl =>
        have h : q_Choice_leastCarrier_b1 (q_Choice_leastCarrier_j Q σ n) Q v1 v2 v3 σ := h
        have hl : lv_has ls 4 [(0, .ref (ad 0)), (1, .int v1), (2, .int v2), (3, .int v3)] := hl
        refine W.eq (g2 := F0 m 2 ls []) rfl ?_
        unfold q_Choice_leastCarrier_b1 at h
        refine lv_iload_n hx hb d_Choice_leastCarrier_2 rfl (lv_at hl 3 rfl) ?_
        refine lv_aload_n hx hb d_Choice_leastCarrier_3 rfl (lv_at hl 0 rfl) ?_
        refine va_get (D := D) (ci := 0) (v := .int (σ 0 4)) (C := "CarrierPaths$Choice") (T := F_Choice) (N := 6) hx hb hts in_Choice hown hK hP 0 rfl rfl 4 (by decide) (hts _ kw157) (fun _ h9 => h9) rfl d_Choice_leastCarrier_4 ?_
        refine lv_icmp_ge (tgt := 44) hx hb d_Choice_leastCarrier_7 (by decide) (fun hc => ?_) (fun hc => ?_)
        · have h := h.1 hc
          refine lv_iconst (v := (-1)) hx hb d_Choice_leastCarrier_44 (by decide) ?_
          exact W.iret (v := (-1)) hx hb hr (fun t ht hW => ⟨(-1), rfl, h, ht⟩) (fun q hq => by cases hq) d_Choice_leastCarrier_45
        · have h := h.2 hc
          refine lv_aload_n hx hb d_Choice_leastCarrier_10 rfl (lv_at hl 0 rfl) ?_
          refine lv_iload_n hx hb d_Choice_leastCarrier_11 rfl (lv_at hl 1 rfl) ?_
          refine lv_iload_n hx hb d_Choice_leastCarrier_12 rfl (lv_at hl 3 rfl) ?_
          refine lv_iload_n hx hb d_Choice_leastCarrier_13 rfl (lv_at hl 2 rfl) ?_
          refine vp_callSi (W.runV (As := [.int v1, .int v3, .int v2]) (rest := []) ⟨hx, hb, hml, hown, hts⟩ (t_Choice_canTake l D cI cZ ad v1 v3 v2 σ _ h) (cwV 3 hts (g_of kw291 kw293 kp6 kw8 kw294) rfl rfl rfl (by decide +kernel) ⟨Nat.le_of_ble_eq_true rfl, Nat.le_of_ble_eq_true rfl⟩) (ro_pre hK hP (va_recv hK hP (ci := 0) (q0 := 0) rfl rfl)) rfl rfl hl.1 rfl (lv_room (Nat.le_of_ble_eq_true rfl)) d_Choice_leastCarrier_14 ⟨Nat.le_of_ble_eq_true rfl, Nat.le_of_ble_eq_true rfl⟩) (fun r1 h => ?_)
          refine lv_if_eq (tgt := 38) hx hb d_Choice_leastCarrier_17 (by decide) (fun hc => ?_) (fun hc => ?_)
          · have h := h.1 hc
            refine lv_iinc (v := (v3 + 1)) (lv' := [(3, .int (v3 + 1)), (0, .ref (ad 0)), (1, .int v1), (2, .int v2)]) hx hb d_Choice_leastCarrier_38 hl (k := 3) rfl rfl (by decide) rfl (fun ls hl => ?_)
            refine lv_goto (tgt := 2) hx hb d_Choice_leastCarrier_41 (by decide) ?_
            exact ih 1 v1 v2 (v3 + 1) h _ (lv_sub hl [1, 2, 3, 0] rfl)
          · have h := h.2 hc
            refine lv_aload_n hx hb d_Choice_leastCarrier_20 rfl (lv_at hl 0 rfl) ?_
            refine lv_iload_n hx hb d_Choice_leastCarrier_21 rfl (lv_at hl 1 rfl) ?_
            refine lv_iload_n hx hb d_Choice_leastCarrier_22 rfl (lv_at hl 3 rfl) ?_
            refine lv_iload_n hx hb d_Choice_leastCarrier_23 rfl (lv_at hl 2 rfl) ?_
            refine vp_callSi (W.runV (As := [.int v1, .int v3, .int v2]) (rest := []) ⟨hx, hb, hml, hown, hts⟩ (t_Choice_worthWith l D cI cZ ad v1 v3 v2 σ _ h) (cwV 3 hts (g_of kw299 kw301 kp8 kw8 kw302) rfl rfl rfl (by decide +kernel) ⟨Nat.le_of_ble_eq_true rfl, Nat.le_of_ble_eq_true rfl⟩) (ro_pre hK hP (va_recv hK hP (ci := 0) (q0 := 0) rfl rfl)) rfl rfl hl.1 rfl (lv_room (Nat.le_of_ble_eq_true rfl)) d_Choice_leastCarrier_24 ⟨Nat.le_of_ble_eq_true rfl, Nat.le_of_ble_eq_true rfl⟩) (fun r2 h => ?_)
            refine lv_aload_n hx hb d_Choice_leastCarrier_27 rfl (lv_at hl 0 rfl) ?_
            refine lv_iload_n hx hb d_Choice_leastCarrier_28 rfl (lv_at hl 1 rfl) ?_
            refine lv_iload_n hx hb d_Choice_leastCarrier_29 rfl (lv_at hl 2 rfl) ?_
            refine vp_callSi (W.runV (As := [.int v1, .int v2]) (rest := [.int r2]) ⟨hx, hb, hml, hown, hts⟩ (t_Choice_bestFrom l D cI cZ ad v1 v2 σ _ h) (cwV 2 hts (g_of kw287 kw289 kp5 kw8 kw290) rfl rfl rfl (by decide +kernel) ⟨Nat.le_of_ble_eq_true rfl, Nat.le_of_ble_eq_true rfl⟩) (ro_pre hK hP (va_recv hK hP (ci := 0) (q0 := 0) rfl rfl)) rfl rfl hl.1 rfl (lv_room (Nat.le_of_ble_eq_true rfl)) d_Choice_leastCarrier_30 ⟨Nat.le_of_ble_eq_true rfl, Nat.le_of_ble_eq_true rfl⟩) (fun r3 h => ?_)
            refine lv_icmp_ne (tgt := 38) hx hb d_Choice_leastCarrier_33 (by decide) (fun hc => ?_) (fun hc => ?_)
            · have h := h.2 hc
              refine lv_iinc (v := (v3 + 1)) (lv' := [(3, .int (v3 + 1)), (0, .ref (ad 0)), (1, .int v1), (2, .int v2)]) hx hb d_Choice_leastCarrier_38 hl (k := 3) rfl rfl (by decide) rfl (fun ls hl => ?_)
              refine lv_goto (tgt := 2) hx hb d_Choice_leastCarrier_41 (by decide) ?_
              exact ih 1 v1 v2 (v3 + 1) h _ (lv_sub hl [1, 2, 3, 0] rfl)
            · have h := h.1 hc
              refine lv_iload_n hx hb d_Choice_leastCarrier_36 rfl (lv_at hl 3 rfl) ?_
              exact W.iret (v := v3) hx hb hr (fun t ht hW => ⟨v3, rfl, h, ht⟩) (fun q hq => by cases hq) d_Choice_leastCarrier_37
      | _ + 2, h, _ => exact False.elim h
  exact key 4000 0 v1 v2 0 h ls hl
def q_Choice_settle_b0 (J : Nat → Int32 → Int32 → Int32 → Sg → Prop) (Q : (Sg → Prop)) (v1 v2 v3 : Int32) (σ : Sg) : Prop :=
  J 1 ((σ 0 3) - 1) 0 0 σ
def q_Choice_settle_b1 (J : Nat → Int32 → Int32 → Int32 → Sg → Prop) (Q : (Sg → Prop)) (v1 v2 v3 : Int32) (σ : Sg) : Prop :=
  ((v1 < 0 → J 2 0 0 0 σ) ∧ (¬ v1 < 0 → (q_Choice_findBest v1 σ (fun u1 => J 1 (v1 + (-1)) 0 0 u1))))
def q_Choice_settle_b2 (J : Nat → Int32 → Int32 → Int32 → Sg → Prop) (Q : (Sg → Prop)) (v1 v2 v3 : Int32) (σ : Sg) : Prop :=
  (((σ 0 3) ≤ v2 → Q σ) ∧ (¬ (σ 0 3) ≤ v2 → (q_Choice_leastCarrier v2 v1 σ (fun r2 => (vp_in v2 12 ∧ ((r2 = (-1) → J 2 (v1 ||| 0) (v2 + 1) 0 (sto σ 3 v2.toNatClampNeg r2)) ∧ (¬ r2 = (-1) → J 2 (v1 ||| (1 <<< (r2 &&& 31))) (v2 + 1) 0 (sto σ 3 v2.toNatClampNeg r2))))))))
def q_Choice_settle_j (Q : (Sg → Prop)) : Nat → Nat → Int32 → Int32 → Int32 → Sg → Prop
  | 0, _, _, _, _, _ => False
  | n + 1, 0, v1, v2, v3, σ => q_Choice_settle_b0 (q_Choice_settle_j Q n) Q v1 v2 v3 σ
  | n + 1, 1, v1, v2, v3, σ => q_Choice_settle_b1 (q_Choice_settle_j Q n) Q v1 v2 v3 σ
  | n + 1, 2, v1, v2, v3, σ => q_Choice_settle_b2 (q_Choice_settle_j Q n) Q v1 v2 v3 σ
  | _ + 1, _ + 3, _, _, _, _ => False
def q_Choice_settle (σ : Sg) (Q : (Sg → Prop)) : Prop := q_Choice_settle_j Q 4000 0 0 0 0 σ
def lc_Choice_settle (ad : Nat → Nat) (b : Nat) (v1 v2 v3 : Int32) : List (Nat × Value) := match b with
  | 0 => [(0, .ref (ad 0))]
  | 1 => [(0, .ref (ad 0)), (1, .int v1)]
  | 2 => [(0, .ref (ad 0)), (1, .int v1), (2, .int v2)]
  | _ => []
def pc_Choice_settle (b : Nat) : Nat := match b with
  | 0 => 0
  | 1 => 7
  | 2 => 26
  | _ => 0
set_option maxHeartbeats 4000000 in
set_option maxRecDepth 100000 in
theorem t_Choice_settle (l : Launch) (D : va_G) (cI cZ : ClassId) (ad : Nat → Nat) (inj : Inj ad 4) (σ : Sg) (Q : (Sg → Prop)) (h : q_Choice_settle σ Q) : Met l y_Choice_settle (.code y_Choice_settle prog_2_method_4_code 4 none :: TG) { frames := 4, cells := 0, slots := 0, locals := 91 } (va_Pc [.ref (ad 0)] (roB D (tysA cI cZ) (W_Choice ad cI cZ σ))) (va_Qv Q (fun u t => va_P D classes (W_Choice ad cI cZ u) t.heap) (inA ad 4)) 0 0 (inA ad 4) := by
  refine Met.ofW (cc := prog_2_method_4_code) (maxL := 4) (ret := none) (by decide) rfl ?_
  intro p e s m args below meth c s₁ B hml hv
  obtain ⟨rfl, hP, hK⟩ := hv
  have hx := B.exec
  have hb := B.bytes
  have hr := B.returns
  have hts : ∀ w ∈ TG, w.before [.ref (ad 0)].toArray s = true := fun w hw => atoms_spec (ws := .code y_Choice_settle prog_2_method_4_code 4 none :: TG) B.pre w (List.mem_cons_of_mem _ hw)
  have hown : s.vm.findClass "CarrierPaths$Choice" = some m.cls := findClass_of_methodNamed B.named
  have hlocks := B.notSynchronized
  have hS : va_S (inA ad 4) s.heap s.heap [] := va_S.rf
  have hl := lv_entry ([.ref (ad 0)]) (n := 4) (Nat.le_of_ble_eq_true rfl)
  rw [lg_entry_eq]
  generalize (lg_sl ([.ref (ad 0)]) ++ List.replicate (4 - (lg_sl ([.ref (ad 0)])).length) Slot.unset).toArray = ls at hl ⊢
  generalize ([.ref (ad 0)] : List Value).toArray = args at hts ⊢
  have key : ∀ (n b : Nat) (v1 v2 v3 : Int32) (σ : Sg), q_Choice_settle_j Q n b v1 v2 v3 σ → ∀ (H : Heap) (locs : List Loc) (ls : Array Slot), va_P D classes (W_Choice ad cI cZ σ) H → va_S (inA ad 4) s.heap H locs → lv_has ls 4 (lc_Choice_settle ad b v1 v2 v3) → W p l e (headSpec (.code y_Choice_settle prog_2_method_4_code 4 none :: TG) { frames := 4, cells := 0, slots := 0, locals := 91 }).room s m args below meth c H locs 0 0 (MQ below (va_Qv Q (fun u t => va_P D classes (W_Choice ad cI cZ u) t.heap) (inA ad 4)) args s 0 0 (inA ad 4)) (F0 m (pc_Choice_settle b) ls []) := by
    clear h hl hP hS
    intro n
    induction n with
    | zero => intro b _ _ _ _ h; exact False.elim h
    | succ n ih =>
      intro b v1 v2 v3 σ h H locs ls hP hS hl
      match b, h, hl with
      | 0, h, hl =>
        have h : q_Choice_settle_b0 (q_Choice_settle_j Q n) Q v1 v2 v3 σ := h
        have hl : lv_has ls 4 [(0, .ref (ad 0))] := hl
        refine W.eq (g2 := F0 m 0 ls []) rfl ?_
        unfold q_Choice_settle_b0 at h
        refine lv_aload_n hx hb d_Choice_settle_0 rfl (lv_at hl 0 rfl) ?_
        refine va_get (D := D) (ci := 0) (v := .int (σ 0 3)) (C := "CarrierPaths$Choice") (T := F_Choice) (N := 6) hx hb hts in_Choice hown hK hP 0 rfl rfl 3 (by decide) (hts _ kw156) (fun _ h9 => h9) rfl d_Choice_settle_1 ?_
        refine lv_iconst (v := 1) hx hb d_Choice_settle_4 (by decide) ?_
        refine lv_isub hx hb d_Choice_settle_5 ?_
        refine lv_istore_n (lv' := [(1, .int ((σ 0 3) - 1)), (0, .ref (ad 0))]) hx hb d_Choice_settle_6 rfl hl (by decide) rfl (fun ls hl => ?_)
        exact ih 1 ((σ 0 3) - 1) 0 0 σ h _ _ _ hP hS (lv_sub hl [1, 0] rfl)
      | 1, h, hl =>
        have h : q_Choice_settle_b1 (q_Choice_settle_j Q n) Q v1 v2 v3 σ := h
        have hl : lv_has ls 4 [(0, .ref (ad 0)), (1, .int v1)] := hl
        refine W.eq (g2 := F0 m 7 ls []) rfl ?_
        unfold q_Choice_settle_b1 at h
        refine lv_iload_n hx hb d_Choice_settle_7 rfl (lv_at hl 1 rfl) ?_
        refine lv_if_lt (tgt := 22) hx hb d_Choice_settle_8 (by decide) (fun hc => ?_) (fun hc => ?_)
        · have h := h.1 hc
          refine lv_iconst (v := 0) hx hb d_Choice_settle_22 (by decide) ?_
          refine lv_istore_n (lv' := [(1, .int 0), (0, .ref (ad 0))]) hx hb d_Choice_settle_23 rfl hl (by decide) rfl (fun ls hl => ?_)
          refine lv_iconst (v := 0) hx hb d_Choice_settle_24 (by decide) ?_
          refine lv_istore_n (lv' := [(2, .int 0), (1, .int 0), (0, .ref (ad 0))]) hx hb d_Choice_settle_25 rfl hl (by decide) rfl (fun ls hl => ?_)
          exact ih 2 0 0 0 σ h _ _ _ hP hS (lv_sub hl [2, 1, 0] rfl)
        · have h := h.2 hc
          refine lv_aload_n hx hb d_Choice_settle_11 rfl (lv_at hl 0 rfl) ?_
          refine lv_iload_n hx hb d_Choice_settle_12 rfl (lv_at hl 1 rfl) ?_
          refine va_callv (va_runV (As := [.int v1]) (rest := []) ⟨hx, hb, hml, hown, hts⟩ (t_Choice_findBest l D cI cZ ad inj v1 σ _ h) (cwV 1 hts (g_of kw279 kw281 kp3 kw8 kw282) rfl rfl rfl (by decide +kernel) ⟨Nat.le_of_ble_eq_true rfl, Nat.le_of_ble_eq_true rfl⟩) (ro_pre hK hP (va_recv hK hP (ci := 0) (q0 := 0) rfl rfl)) rfl rfl hl.1 rfl (lv_room (Nat.le_of_ble_eq_true rfl)) d_Choice_settle_13 ⟨Nat.le_of_ble_eq_true rfl, Nat.le_of_ble_eq_true rfl⟩) hS (fun _ _ h => h) (fun _ h => h) (fun u1 t H1 locs ht _ h hP1 _ hk1 hS => ?_)
          have hP1 : va_P D classes (W_Choice ad cI cZ u1) H1 := hp_fwd ht hP1
          clear hk1 ht
          generalize H1 = H at hP1 hS ⊢
          have hP := hP1
          refine lv_iinc (v := (v1 + (-1))) (lv' := [(1, .int (v1 + (-1))), (0, .ref (ad 0))]) hx hb d_Choice_settle_16 hl (k := 1) rfl rfl (by decide) rfl (fun ls hl => ?_)
          refine lv_goto (tgt := 7) hx hb d_Choice_settle_19 (by decide) ?_
          exact ih 1 (v1 + (-1)) 0 0 u1 h _ _ _ hP hS (lv_sub hl [1, 0] rfl)
      | 2, h, hl =>
        have h : q_Choice_settle_b2 (q_Choice_settle_j Q n) Q v1 v2 v3 σ := h
        have hl : lv_has ls 4 [(0, .ref (ad 0)), (1, .int v1), (2, .int v2)] := hl
        refine W.eq (g2 := F0 m 26 ls []) rfl ?_
        unfold q_Choice_settle_b2 at h
        refine lv_iload_n hx hb d_Choice_settle_26 rfl (lv_at hl 2 rfl) ?_
        refine lv_aload_n hx hb d_Choice_settle_27 rfl (lv_at hl 0 rfl) ?_
        refine va_get (D := D) (ci := 0) (v := .int (σ 0 3)) (C := "CarrierPaths$Choice") (T := F_Choice) (N := 6) hx hb hts in_Choice hown hK hP 0 rfl rfl 3 (by decide) (hts _ kw156) (fun _ h9 => h9) rfl d_Choice_settle_28 ?_
        refine lv_icmp_ge (tgt := 69) hx hb d_Choice_settle_31 (by decide) (fun hc => ?_) (fun hc => ?_)
        · have h := h.1 hc
          exact W.vret hx hb hr (fun t ht hW => ⟨⟨σ, rfl, h, hp_back ht hP⟩, hS.F ht⟩) hS.2.2 d_Choice_settle_69
        · have h := h.2 hc
          refine lv_aload_n hx hb d_Choice_settle_34 rfl (lv_at hl 0 rfl) ?_
          refine lv_iload_n hx hb d_Choice_settle_35 rfl (lv_at hl 2 rfl) ?_
          refine lv_iload_n hx hb d_Choice_settle_36 rfl (lv_at hl 1 rfl) ?_
          refine vp_callSi (W.runV (As := [.int v2, .int v1]) (rest := []) ⟨hx, hb, hml, hown, hts⟩ (t_Choice_leastCarrier l D cI cZ ad v2 v1 σ _ h) (cwV 2 hts (g_of kw304 kw306 kp9 kw8 kw307) rfl rfl rfl (by decide +kernel) ⟨Nat.le_of_ble_eq_true rfl, Nat.le_of_ble_eq_true rfl⟩) (ro_pre hK hP (va_recv hK hP (ci := 0) (q0 := 0) rfl rfl)) rfl rfl hl.1 rfl (lv_room (Nat.le_of_ble_eq_true rfl)) d_Choice_settle_37 ⟨Nat.le_of_ble_eq_true rfl, Nat.le_of_ble_eq_true rfl⟩) (fun r2 h => ?_)
          refine lv_istore_n (lv' := [(3, .int r2), (0, .ref (ad 0)), (1, .int v1), (2, .int v2)]) hx hb d_Choice_settle_40 rfl hl (by decide) rfl (fun ls hl => ?_)
          refine lv_aload_n hx hb d_Choice_settle_41 rfl (lv_at hl 1 rfl) ?_
          refine va_get (D := D) (ci := 0) (v := .ref (ad 3)) (C := "CarrierPaths$Choice") (T := F_Choice) (N := 6) hx hb hts in_Choice hown hK hP 0 rfl rfl 2 (by decide) (hts _ kw155) (fun _ h9 => h9) rfl d_Choice_settle_42 ?_
          refine lv_iload_n hx hb d_Choice_settle_45 rfl (lv_at hl 3 rfl) ?_
          refine lv_iload_n hx hb d_Choice_settle_46 rfl (lv_at hl 0 rfl) ?_
          obtain ⟨hi, h⟩ := h
          refine va_iast hx hb hK hP (D_Choice inj) hS 3 0 rfl rfl hi d_Choice_settle_47 (fun H locs hP _ hS => ?_)
          have hP : va_P D classes (W_Choice ad cI cZ (sto σ 3 v2.toNatClampNeg r2)) H := hP
          refine lv_iload_n hx hb d_Choice_settle_48 rfl (lv_at hl 2 rfl) ?_
          refine lv_iload_n hx hb d_Choice_settle_49 rfl (lv_at hl 0 rfl) ?_
          refine lv_iconst (v := (-1)) hx hb d_Choice_settle_50 (by decide) ?_
          refine lv_icmp_ne (tgt := 58) hx hb d_Choice_settle_51 (by decide) (fun hc => ?_) (fun hc => ?_)
          · have h := h.2 hc
            refine lv_iconst (v := 1) hx hb d_Choice_settle_58 (by decide) ?_
            refine lv_iload_n hx hb d_Choice_settle_59 rfl (lv_at hl 0 rfl) ?_
            refine lv_ishl hx hb d_Choice_settle_60 ?_
            refine lv_ior hx hb d_Choice_settle_61 ?_
            refine lv_istore_n (lv' := [(1, .int (v1 ||| (1 <<< (r2 &&& 31)))), (3, .int r2), (0, .ref (ad 0)), (2, .int v2)]) hx hb d_Choice_settle_62 rfl hl (by decide) rfl (fun ls hl => ?_)
            refine lv_iinc (v := (v2 + 1)) (lv' := [(2, .int (v2 + 1)), (1, .int (v1 ||| (1 <<< (r2 &&& 31)))), (3, .int r2), (0, .ref (ad 0))]) hx hb d_Choice_settle_63 hl (k := 3) rfl rfl (by decide) rfl (fun ls hl => ?_)
            refine lv_goto (tgt := 26) hx hb d_Choice_settle_66 (by decide) ?_
            exact ih 2 (v1 ||| (1 <<< (r2 &&& 31))) (v2 + 1) 0 (sto σ 3 v2.toNatClampNeg r2) h _ _ _ hP hS (lv_sub hl [3, 1, 0] rfl)
          · have h := h.1 hc
            refine lv_iconst (v := 0) hx hb d_Choice_settle_54 (by decide) ?_
            refine lv_goto (tgt := 61) hx hb d_Choice_settle_55 (by decide) ?_
            refine lv_ior hx hb d_Choice_settle_61 ?_
            refine lv_istore_n (lv' := [(1, .int (v1 ||| 0)), (3, .int r2), (0, .ref (ad 0)), (2, .int v2)]) hx hb d_Choice_settle_62 rfl hl (by decide) rfl (fun ls hl => ?_)
            refine lv_iinc (v := (v2 + 1)) (lv' := [(2, .int (v2 + 1)), (1, .int (v1 ||| 0)), (3, .int r2), (0, .ref (ad 0))]) hx hb d_Choice_settle_63 hl (k := 3) rfl rfl (by decide) rfl (fun ls hl => ?_)
            refine lv_goto (tgt := 26) hx hb d_Choice_settle_66 (by decide) ?_
            exact ih 2 (v1 ||| 0) (v2 + 1) 0 (sto σ 3 v2.toNatClampNeg r2) h _ _ _ hP hS (lv_sub hl [3, 1, 0] rfl)
      | _ + 3, h, _ => exact False.elim h
  exact key 4000 0 0 0 0 σ h s.heap [] ls hP hS hl
end
