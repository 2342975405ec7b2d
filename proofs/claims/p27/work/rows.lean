section
-- ===== PART A: goes FIRST, ahead of the names: the tables' words, and 'selects' of the private methods out of them =====
/-- a private method of a class that the tables say can be made, by its rows of tables_1 -/
def lw_okq (q : MethodName × Nat) : Prop := (q.1.cls ≠ "java/lang/invoke/MethodHandle" ∧ q.1.cls ≠ "java/lang/invoke/VarHandle") ∧ Cond.instantiable q.1.cls q.2 ∈ tables_1 ∧ Cond.privateMethod q.1 ∈ tables_1 ∧ Cond.instanceMethod q.1 ∈ tables_1
theorem lw_p0 : lw_okq (⟨"TurnsOneWay$Stone", "readLump", "(LTurnsOneWay$Tape;I)Z"⟩, 11) := ⟨⟨by decide +kernel, by decide +kernel⟩, List.mem_of_getElem? (i := 219) (by decide +kernel), List.mem_of_getElem? (i := 378) (by decide +kernel), List.mem_of_getElem? (i := 379) (by decide +kernel)⟩
theorem lw_p1 : lw_okq (⟨"TurnsOneWay$Stone", "readRate", "(LTurnsOneWay$Tape;I)Z"⟩, 11) := ⟨⟨by decide +kernel, by decide +kernel⟩, List.mem_of_getElem? (i := 219) (by decide +kernel), List.mem_of_getElem? (i := 397) (by decide +kernel), List.mem_of_getElem? (i := 398) (by decide +kernel)⟩
theorem lw_p2 : lw_okq (⟨"TurnsOneWay$Stone", "weigh", "()V"⟩, 11) := ⟨⟨by decide +kernel, by decide +kernel⟩, List.mem_of_getElem? (i := 219) (by decide +kernel), List.mem_of_getElem? (i := 409) (by decide +kernel), List.mem_of_getElem? (i := 410) (by decide +kernel)⟩
theorem lw_p3 : lw_okq (⟨"TurnsOneWay", "stoneAt", "(I)LTurnsOneWay$Stone;"⟩, 11) := ⟨⟨by decide +kernel, by decide +kernel⟩, List.mem_of_getElem? (i := 16) (by decide +kernel), List.mem_of_getElem? (i := 425) (by decide +kernel), List.mem_of_getElem? (i := 426) (by decide +kernel)⟩
theorem lw_p4 : lw_okq (⟨"TurnsOneWay$Stone", "keenWith", "(III)I"⟩, 11) := ⟨⟨by decide +kernel, by decide +kernel⟩, List.mem_of_getElem? (i := 219) (by decide +kernel), List.mem_of_getElem? (i := 438) (by decide +kernel), List.mem_of_getElem? (i := 439) (by decide +kernel)⟩
theorem lw_p5 : lw_okq (⟨"TurnsOneWay$Changes", "write", "(II)V"⟩, 3) := ⟨⟨by decide +kernel, by decide +kernel⟩, List.mem_of_getElem? (i := 175) (by decide +kernel), List.mem_of_getElem? (i := 486) (by decide +kernel), List.mem_of_getElem? (i := 487) (by decide +kernel)⟩
theorem lw_p6 : lw_okq (⟨"TurnsOneWay$Floor", "readLine", "(LTurnsOneWay$Tape;)Z"⟩, 11) := ⟨⟨by decide +kernel, by decide +kernel⟩, List.mem_of_getElem? (i := 259) (by decide +kernel), List.mem_of_getElem? (i := 498) (by decide +kernel), List.mem_of_getElem? (i := 499) (by decide +kernel)⟩
theorem lw_p7 : lw_okq (⟨"TurnsOneWay$Floor", "readJoined", "(LTurnsOneWay$Tape;II)I"⟩, 11) := ⟨⟨by decide +kernel, by decide +kernel⟩, List.mem_of_getElem? (i := 259) (by decide +kernel), List.mem_of_getElem? (i := 502) (by decide +kernel), List.mem_of_getElem? (i := 503) (by decide +kernel)⟩
theorem lw_p8 : lw_okq (⟨"TurnsOneWay$Floor", "readOne", "(LTurnsOneWay$Tape;I)I"⟩, 11) := ⟨⟨by decide +kernel, by decide +kernel⟩, List.mem_of_getElem? (i := 259) (by decide +kernel), List.mem_of_getElem? (i := 506) (by decide +kernel), List.mem_of_getElem? (i := 507) (by decide +kernel)⟩
theorem lw_p9 : lw_okq (⟨"TurnsOneWay$Floor", "append", "(III)I"⟩, 11) := ⟨⟨by decide +kernel, by decide +kernel⟩, List.mem_of_getElem? (i := 259) (by decide +kernel), List.mem_of_getElem? (i := 512) (by decide +kernel), List.mem_of_getElem? (i := 513) (by decide +kernel)⟩
theorem lw_p10 : lw_okq (⟨"TurnsOneWay$Floor", "readOpened", "(LTurnsOneWay$Tape;II)I"⟩, 11) := ⟨⟨by decide +kernel, by decide +kernel⟩, List.mem_of_getElem? (i := 259) (by decide +kernel), List.mem_of_getElem? (i := 516) (by decide +kernel), List.mem_of_getElem? (i := 517) (by decide +kernel)⟩
theorem lw_p11 : lw_okq (⟨"TurnsOneWay$Floor", "appendNumber", "(I)I"⟩, 11) := ⟨⟨by decide +kernel, by decide +kernel⟩, List.mem_of_getElem? (i := 259) (by decide +kernel), List.mem_of_getElem? (i := 521) (by decide +kernel), List.mem_of_getElem? (i := 522) (by decide +kernel)⟩
theorem lw_p12 : lw_okq (⟨"TurnsOneWay", "isGround", "(I)Z"⟩, 11) := ⟨⟨by decide +kernel, by decide +kernel⟩, List.mem_of_getElem? (i := 16) (by decide +kernel), List.mem_of_getElem? (i := 538) (by decide +kernel), List.mem_of_getElem? (i := 539) (by decide +kernel)⟩
theorem lw_p13 : lw_okq (⟨"TurnsOneWay", "isFloorOrNone", "(I)Z"⟩, 11) := ⟨⟨by decide +kernel, by decide +kernel⟩, List.mem_of_getElem? (i := 16) (by decide +kernel), List.mem_of_getElem? (i := 542) (by decide +kernel), List.mem_of_getElem? (i := 543) (by decide +kernel)⟩
theorem lw_p14 : lw_okq (⟨"TurnsOneWay", "floorAt", "(I)LTurnsOneWay$Floor;"⟩, 11) := ⟨⟨by decide +kernel, by decide +kernel⟩, List.mem_of_getElem? (i := 16) (by decide +kernel), List.mem_of_getElem? (i := 546) (by decide +kernel), List.mem_of_getElem? (i := 547) (by decide +kernel)⟩
theorem lw_p15 : lw_okq (⟨"TurnsOneWay", "layOwn", "(I)V"⟩, 11) := ⟨⟨by decide +kernel, by decide +kernel⟩, List.mem_of_getElem? (i := 16) (by decide +kernel), List.mem_of_getElem? (i := 554) (by decide +kernel), List.mem_of_getElem? (i := 555) (by decide +kernel)⟩
def lw_privs_1 : List (MethodName × Nat) := [(⟨"TurnsOneWay$Stone", "readLump", "(LTurnsOneWay$Tape;I)Z"⟩, 11), (⟨"TurnsOneWay$Stone", "readRate", "(LTurnsOneWay$Tape;I)Z"⟩, 11), (⟨"TurnsOneWay$Stone", "weigh", "()V"⟩, 11), (⟨"TurnsOneWay", "stoneAt", "(I)LTurnsOneWay$Stone;"⟩, 11), (⟨"TurnsOneWay$Stone", "keenWith", "(III)I"⟩, 11), (⟨"TurnsOneWay$Changes", "write", "(II)V"⟩, 3), (⟨"TurnsOneWay$Floor", "readLine", "(LTurnsOneWay$Tape;)Z"⟩, 11), (⟨"TurnsOneWay$Floor", "readJoined", "(LTurnsOneWay$Tape;II)I"⟩, 11), (⟨"TurnsOneWay$Floor", "readOne", "(LTurnsOneWay$Tape;I)I"⟩, 11), (⟨"TurnsOneWay$Floor", "append", "(III)I"⟩, 11), (⟨"TurnsOneWay$Floor", "readOpened", "(LTurnsOneWay$Tape;II)I"⟩, 11), (⟨"TurnsOneWay$Floor", "appendNumber", "(I)I"⟩, 11), (⟨"TurnsOneWay", "isGround", "(I)Z"⟩, 11), (⟨"TurnsOneWay", "isFloorOrNone", "(I)Z"⟩, 11), (⟨"TurnsOneWay", "floorAt", "(I)LTurnsOneWay$Floor;"⟩, 11), (⟨"TurnsOneWay", "layOwn", "(I)V"⟩, 11)]
theorem lw_r1 : ∀ q ∈ lw_privs_1, lw_okq q := List.forall_mem_cons.mpr ⟨lw_p0, List.forall_mem_cons.mpr ⟨lw_p1, List.forall_mem_cons.mpr ⟨lw_p2, List.forall_mem_cons.mpr ⟨lw_p3, List.forall_mem_cons.mpr ⟨lw_p4, List.forall_mem_cons.mpr ⟨lw_p5, List.forall_mem_cons.mpr ⟨lw_p6, List.forall_mem_cons.mpr ⟨lw_p7, List.forall_mem_cons.mpr ⟨lw_p8, List.forall_mem_cons.mpr ⟨lw_p9, List.forall_mem_cons.mpr ⟨lw_p10, List.forall_mem_cons.mpr ⟨lw_p11, List.forall_mem_cons.mpr ⟨lw_p12, List.forall_mem_cons.mpr ⟨lw_p13, List.forall_mem_cons.mpr ⟨lw_p14, List.forall_mem_cons.mpr ⟨lw_p15, fun _ h => absurd h List.not_mem_nil⟩⟩⟩⟩⟩⟩⟩⟩⟩⟩⟩⟩⟩⟩⟩⟩
theorem lw_p16 : lw_okq (⟨"TurnsOneWay", "lay", "(II)V"⟩, 11) := ⟨⟨by decide +kernel, by decide +kernel⟩, List.mem_of_getElem? (i := 16) (by decide +kernel), List.mem_of_getElem? (i := 558) (by decide +kernel), List.mem_of_getElem? (i := 559) (by decide +kernel)⟩
theorem lw_p17 : lw_okq (⟨"TurnsOneWay", "start", "(II)V"⟩, 11) := ⟨⟨by decide +kernel, by decide +kernel⟩, List.mem_of_getElem? (i := 16) (by decide +kernel), List.mem_of_getElem? (i := 567) (by decide +kernel), List.mem_of_getElem? (i := 568) (by decide +kernel)⟩
theorem lw_p18 : lw_okq (⟨"TurnsOneWay$Going", "note", "(LTurnsOneWay$Motion;I)V"⟩, 9) := ⟨⟨by decide +kernel, by decide +kernel⟩, List.mem_of_getElem? (i := 121) (by decide +kernel), List.mem_of_getElem? (i := 582) (by decide +kernel), List.mem_of_getElem? (i := 583) (by decide +kernel)⟩
theorem lw_p19 : lw_okq (⟨"TurnsOneWay$Motion", "growRattle", "()V"⟩, 17) := ⟨⟨by decide +kernel, by decide +kernel⟩, List.mem_of_getElem? (i := 50) (by decide +kernel), List.mem_of_getElem? (i := 590) (by decide +kernel), List.mem_of_getElem? (i := 591) (by decide +kernel)⟩
theorem lw_p20 : lw_okq (⟨"TurnsOneWay$Motion", "grown", "(III)I"⟩, 17) := ⟨⟨by decide +kernel, by decide +kernel⟩, List.mem_of_getElem? (i := 50) (by decide +kernel), List.mem_of_getElem? (i := 594) (by decide +kernel), List.mem_of_getElem? (i := 595) (by decide +kernel)⟩
theorem lw_p21 : lw_okq (⟨"TurnsOneWay$Motion", "pushTurn", "()V"⟩, 17) := ⟨⟨by decide +kernel, by decide +kernel⟩, List.mem_of_getElem? (i := 50) (by decide +kernel), List.mem_of_getElem? (i := 611) (by decide +kernel), List.mem_of_getElem? (i := 612) (by decide +kernel)⟩
theorem lw_p22 : lw_okq (⟨"TurnsOneWay$Motion", "lose", "()V"⟩, 17) := ⟨⟨by decide +kernel, by decide +kernel⟩, List.mem_of_getElem? (i := 50) (by decide +kernel), List.mem_of_getElem? (i := 618) (by decide +kernel), List.mem_of_getElem? (i := 619) (by decide +kernel)⟩
theorem lw_p23 : lw_okq (⟨"TurnsOneWay$Motion", "lossOf", "(II)I"⟩, 17) := ⟨⟨by decide +kernel, by decide +kernel⟩, List.mem_of_getElem? (i := 50) (by decide +kernel), List.mem_of_getElem? (i := 627) (by decide +kernel), List.mem_of_getElem? (i := 628) (by decide +kernel)⟩
theorem lw_p24 : lw_okq (⟨"TurnsOneWay$Floor", "valueAt", "(I)I"⟩, 11) := ⟨⟨by decide +kernel, by decide +kernel⟩, List.mem_of_getElem? (i := 259) (by decide +kernel), List.mem_of_getElem? (i := 635) (by decide +kernel), List.mem_of_getElem? (i := 636) (by decide +kernel)⟩
theorem lw_p25 : lw_okq (⟨"TurnsOneWay$Floor", "result", "(III)I"⟩, 11) := ⟨⟨by decide +kernel, by decide +kernel⟩, List.mem_of_getElem? (i := 259) (by decide +kernel), List.mem_of_getElem? (i := 641) (by decide +kernel), List.mem_of_getElem? (i := 642) (by decide +kernel)⟩
theorem lw_p26 : lw_okq (⟨"TurnsOneWay$Going", "ended", "()I"⟩, 9) := ⟨⟨by decide +kernel, by decide +kernel⟩, List.mem_of_getElem? (i := 121) (by decide +kernel), List.mem_of_getElem? (i := 675) (by decide +kernel), List.mem_of_getElem? (i := 676) (by decide +kernel)⟩
theorem lw_p27 : lw_okq (⟨"TurnsOneWay", "firstBack", "(II)I"⟩, 11) := ⟨⟨by decide +kernel, by decide +kernel⟩, List.mem_of_getElem? (i := 16) (by decide +kernel), List.mem_of_getElem? (i := 692) (by decide +kernel), List.mem_of_getElem? (i := 693) (by decide +kernel)⟩
theorem lw_p28 : lw_okq (⟨"TurnsOneWay", "shelfAt", "(I)LTurnsOneWay$Shelf;"⟩, 11) := ⟨⟨by decide +kernel, by decide +kernel⟩, List.mem_of_getElem? (i := 16) (by decide +kernel), List.mem_of_getElem? (i := 745) (by decide +kernel), List.mem_of_getElem? (i := 746) (by decide +kernel)⟩
theorem lw_p29 : lw_okq (⟨"TurnsOneWay", "offBy", "(III)I"⟩, 11) := ⟨⟨by decide +kernel, by decide +kernel⟩, List.mem_of_getElem? (i := 16) (by decide +kernel), List.mem_of_getElem? (i := 783) (by decide +kernel), List.mem_of_getElem? (i := 784) (by decide +kernel)⟩
theorem lw_p30 : lw_okq (⟨"TurnsOneWay", "changeTo", "(I)V"⟩, 11) := ⟨⟨by decide +kernel, by decide +kernel⟩, List.mem_of_getElem? (i := 16) (by decide +kernel), List.mem_of_getElem? (i := 818) (by decide +kernel), List.mem_of_getElem? (i := 819) (by decide +kernel)⟩
theorem lw_p31 : lw_okq (⟨"TurnsOneWay$Bodies", "ask", "(IIII)I"⟩, 6) := ⟨⟨by decide +kernel, by decide +kernel⟩, List.mem_of_getElem? (i := 193) (by decide +kernel), List.mem_of_getElem? (i := 850) (by decide +kernel), List.mem_of_getElem? (i := 851) (by decide +kernel)⟩
def lw_privs_2 : List (MethodName × Nat) := [(⟨"TurnsOneWay", "lay", "(II)V"⟩, 11), (⟨"TurnsOneWay", "start", "(II)V"⟩, 11), (⟨"TurnsOneWay$Going", "note", "(LTurnsOneWay$Motion;I)V"⟩, 9), (⟨"TurnsOneWay$Motion", "growRattle", "()V"⟩, 17), (⟨"TurnsOneWay$Motion", "grown", "(III)I"⟩, 17), (⟨"TurnsOneWay$Motion", "pushTurn", "()V"⟩, 17), (⟨"TurnsOneWay$Motion", "lose", "()V"⟩, 17), (⟨"TurnsOneWay$Motion", "lossOf", "(II)I"⟩, 17), (⟨"TurnsOneWay$Floor", "valueAt", "(I)I"⟩, 11), (⟨"TurnsOneWay$Floor", "result", "(III)I"⟩, 11), (⟨"TurnsOneWay$Going", "ended", "()I"⟩, 9), (⟨"TurnsOneWay", "firstBack", "(II)I"⟩, 11), (⟨"TurnsOneWay", "shelfAt", "(I)LTurnsOneWay$Shelf;"⟩, 11), (⟨"TurnsOneWay", "offBy", "(III)I"⟩, 11), (⟨"TurnsOneWay", "changeTo", "(I)V"⟩, 11), (⟨"TurnsOneWay$Bodies", "ask", "(IIII)I"⟩, 6)]
theorem lw_r2 : ∀ q ∈ lw_privs_2, lw_okq q := List.forall_mem_cons.mpr ⟨lw_p16, List.forall_mem_cons.mpr ⟨lw_p17, List.forall_mem_cons.mpr ⟨lw_p18, List.forall_mem_cons.mpr ⟨lw_p19, List.forall_mem_cons.mpr ⟨lw_p20, List.forall_mem_cons.mpr ⟨lw_p21, List.forall_mem_cons.mpr ⟨lw_p22, List.forall_mem_cons.mpr ⟨lw_p23, List.forall_mem_cons.mpr ⟨lw_p24, List.forall_mem_cons.mpr ⟨lw_p25, List.forall_mem_cons.mpr ⟨lw_p26, List.forall_mem_cons.mpr ⟨lw_p27, List.forall_mem_cons.mpr ⟨lw_p28, List.forall_mem_cons.mpr ⟨lw_p29, List.forall_mem_cons.mpr ⟨lw_p30, List.forall_mem_cons.mpr ⟨lw_p31, fun _ h => absurd h List.not_mem_nil⟩⟩⟩⟩⟩⟩⟩⟩⟩⟩⟩⟩⟩⟩⟩⟩
theorem lw_p32 : lw_okq (⟨"TurnsOneWay$Bodies", "run", "(IIII)I"⟩, 6) := ⟨⟨by decide +kernel, by decide +kernel⟩, List.mem_of_getElem? (i := 193) (by decide +kernel), List.mem_of_getElem? (i := 864) (by decide +kernel), List.mem_of_getElem? (i := 865) (by decide +kernel)⟩
theorem lw_p33 : lw_okq (⟨"TurnsOneWay$Shelf", "cutDown", "(J)J"⟩, 4) := ⟨⟨by decide +kernel, by decide +kernel⟩, List.mem_of_getElem? (i := 298) (by decide +kernel), List.mem_of_getElem? (i := 906) (by decide +kernel), List.mem_of_getElem? (i := 907) (by decide +kernel)⟩
theorem lw_p34 : lw_okq (⟨"TurnsOneWayModel", "readLump", "(I)V"⟩, 59) := ⟨⟨by decide +kernel, by decide +kernel⟩, List.mem_of_getElem? (i := 935) (by decide +kernel), List.mem_of_getElem? (i := 1130) (by decide +kernel), List.mem_of_getElem? (i := 1131) (by decide +kernel)⟩
theorem lw_p35 : lw_okq (⟨"TurnsOneWayModel", "digit", "(I)I"⟩, 59) := ⟨⟨by decide +kernel, by decide +kernel⟩, List.mem_of_getElem? (i := 935) (by decide +kernel), List.mem_of_getElem? (i := 1134) (by decide +kernel), List.mem_of_getElem? (i := 1135) (by decide +kernel)⟩
theorem lw_p36 : lw_okq (⟨"TurnsOneWayModel", "signed", "()I"⟩, 59) := ⟨⟨by decide +kernel, by decide +kernel⟩, List.mem_of_getElem? (i := 935) (by decide +kernel), List.mem_of_getElem? (i := 1138) (by decide +kernel), List.mem_of_getElem? (i := 1139) (by decide +kernel)⟩
theorem lw_p37 : lw_okq (⟨"TurnsOneWayModel", "isHere", "(I)Z"⟩, 59) := ⟨⟨by decide +kernel, by decide +kernel⟩, List.mem_of_getElem? (i := 935) (by decide +kernel), List.mem_of_getElem? (i := 1142) (by decide +kernel), List.mem_of_getElem? (i := 1143) (by decide +kernel)⟩
theorem lw_p38 : lw_okq (⟨"TurnsOneWayModel", "takes", "(I)V"⟩, 59) := ⟨⟨by decide +kernel, by decide +kernel⟩, List.mem_of_getElem? (i := 935) (by decide +kernel), List.mem_of_getElem? (i := 1146) (by decide +kernel), List.mem_of_getElem? (i := 1147) (by decide +kernel)⟩
theorem lw_p39 : lw_okq (⟨"TurnsOneWayModel", "readNumber", "(I)I"⟩, 59) := ⟨⟨by decide +kernel, by decide +kernel⟩, List.mem_of_getElem? (i := 935) (by decide +kernel), List.mem_of_getElem? (i := 1150) (by decide +kernel), List.mem_of_getElem? (i := 1151) (by decide +kernel)⟩
theorem lw_p40 : lw_okq (⟨"TurnsOneWayModel", "isStone", "(I)Z"⟩, 59) := ⟨⟨by decide +kernel, by decide +kernel⟩, List.mem_of_getElem? (i := 935) (by decide +kernel), List.mem_of_getElem? (i := 1158) (by decide +kernel), List.mem_of_getElem? (i := 1159) (by decide +kernel)⟩
theorem lw_p41 : lw_okq (⟨"TurnsOneWayModel", "sumOf", "(III)I"⟩, 59) := ⟨⟨by decide +kernel, by decide +kernel⟩, List.mem_of_getElem? (i := 935) (by decide +kernel), List.mem_of_getElem? (i := 1163) (by decide +kernel), List.mem_of_getElem? (i := 1164) (by decide +kernel)⟩
theorem lw_p42 : lw_okq (⟨"TurnsOneWayModel", "wideX", "(I)I"⟩, 59) := ⟨⟨by decide +kernel, by decide +kernel⟩, List.mem_of_getElem? (i := 935) (by decide +kernel), List.mem_of_getElem? (i := 1167) (by decide +kernel), List.mem_of_getElem? (i := 1168) (by decide +kernel)⟩
theorem lw_p43 : lw_okq (⟨"TurnsOneWayModel", "wideY", "(I)I"⟩, 59) := ⟨⟨by decide +kernel, by decide +kernel⟩, List.mem_of_getElem? (i := 935) (by decide +kernel), List.mem_of_getElem? (i := 1171) (by decide +kernel), List.mem_of_getElem? (i := 1172) (by decide +kernel)⟩
theorem lw_p44 : lw_okq (⟨"TurnsOneWayModel", "slant", "(I)I"⟩, 59) := ⟨⟨by decide +kernel, by decide +kernel⟩, List.mem_of_getElem? (i := 935) (by decide +kernel), List.mem_of_getElem? (i := 1175) (by decide +kernel), List.mem_of_getElem? (i := 1176) (by decide +kernel)⟩
theorem lw_p45 : lw_okq (⟨"TurnsOneWayModel", "keenOf", "(I)I"⟩, 59) := ⟨⟨by decide +kernel, by decide +kernel⟩, List.mem_of_getElem? (i := 935) (by decide +kernel), List.mem_of_getElem? (i := 1179) (by decide +kernel), List.mem_of_getElem? (i := 1180) (by decide +kernel)⟩
theorem lw_p46 : lw_okq (⟨"TurnsOneWayModel", "place", "(III)V"⟩, 59) := ⟨⟨by decide +kernel, by decide +kernel⟩, List.mem_of_getElem? (i := 935) (by decide +kernel), List.mem_of_getElem? (i := 1197) (by decide +kernel), List.mem_of_getElem? (i := 1198) (by decide +kernel)⟩
theorem lw_p47 : lw_okq (⟨"TurnsOneWayModel", "changes", "(III)I"⟩, 59) := ⟨⟨by decide +kernel, by decide +kernel⟩, List.mem_of_getElem? (i := 935) (by decide +kernel), List.mem_of_getElem? (i := 1209) (by decide +kernel), List.mem_of_getElem? (i := 1210) (by decide +kernel)⟩
def lw_privs_3 : List (MethodName × Nat) := [(⟨"TurnsOneWay$Bodies", "run", "(IIII)I"⟩, 6), (⟨"TurnsOneWay$Shelf", "cutDown", "(J)J"⟩, 4), (⟨"TurnsOneWayModel", "readLump", "(I)V"⟩, 59), (⟨"TurnsOneWayModel", "digit", "(I)I"⟩, 59), (⟨"TurnsOneWayModel", "signed", "()I"⟩, 59), (⟨"TurnsOneWayModel", "isHere", "(I)Z"⟩, 59), (⟨"TurnsOneWayModel", "takes", "(I)V"⟩, 59), (⟨"TurnsOneWayModel", "readNumber", "(I)I"⟩, 59), (⟨"TurnsOneWayModel", "isStone", "(I)Z"⟩, 59), (⟨"TurnsOneWayModel", "sumOf", "(III)I"⟩, 59), (⟨"TurnsOneWayModel", "wideX", "(I)I"⟩, 59), (⟨"TurnsOneWayModel", "wideY", "(I)I"⟩, 59), (⟨"TurnsOneWayModel", "slant", "(I)I"⟩, 59), (⟨"TurnsOneWayModel", "keenOf", "(I)I"⟩, 59), (⟨"TurnsOneWayModel", "place", "(III)V"⟩, 59), (⟨"TurnsOneWayModel", "changes", "(III)I"⟩, 59)]
theorem lw_r3 : ∀ q ∈ lw_privs_3, lw_okq q := List.forall_mem_cons.mpr ⟨lw_p32, List.forall_mem_cons.mpr ⟨lw_p33, List.forall_mem_cons.mpr ⟨lw_p34, List.forall_mem_cons.mpr ⟨lw_p35, List.forall_mem_cons.mpr ⟨lw_p36, List.forall_mem_cons.mpr ⟨lw_p37, List.forall_mem_cons.mpr ⟨lw_p38, List.forall_mem_cons.mpr ⟨lw_p39, List.forall_mem_cons.mpr ⟨lw_p40, List.forall_mem_cons.mpr ⟨lw_p41, List.forall_mem_cons.mpr ⟨lw_p42, List.forall_mem_cons.mpr ⟨lw_p43, List.forall_mem_cons.mpr ⟨lw_p44, List.forall_mem_cons.mpr ⟨lw_p45, List.forall_mem_cons.mpr ⟨lw_p46, List.forall_mem_cons.mpr ⟨lw_p47, fun _ h => absurd h List.not_mem_nil⟩⟩⟩⟩⟩⟩⟩⟩⟩⟩⟩⟩⟩⟩⟩⟩
theorem lw_p48 : lw_okq (⟨"TurnsOneWayModel", "valueAt", "(II)I"⟩, 59) := ⟨⟨by decide +kernel, by decide +kernel⟩, List.mem_of_getElem? (i := 935) (by decide +kernel), List.mem_of_getElem? (i := 1213) (by decide +kernel), List.mem_of_getElem? (i := 1214) (by decide +kernel)⟩
theorem lw_p49 : lw_okq (⟨"TurnsOneWayModel", "readText", "(I)I"⟩, 59) := ⟨⟨by decide +kernel, by decide +kernel⟩, List.mem_of_getElem? (i := 935) (by decide +kernel), List.mem_of_getElem? (i := 1221) (by decide +kernel), List.mem_of_getElem? (i := 1222) (by decide +kernel)⟩
theorem lw_p50 : lw_okq (⟨"TurnsOneWayModel", "line", "()V"⟩, 59) := ⟨⟨by decide +kernel, by decide +kernel⟩, List.mem_of_getElem? (i := 935) (by decide +kernel), List.mem_of_getElem? (i := 1225) (by decide +kernel), List.mem_of_getElem? (i := 1226) (by decide +kernel)⟩
theorem lw_p51 : lw_okq (⟨"TurnsOneWayModel", "either", "()V"⟩, 59) := ⟨⟨by decide +kernel, by decide +kernel⟩, List.mem_of_getElem? (i := 935) (by decide +kernel), List.mem_of_getElem? (i := 1229) (by decide +kernel), List.mem_of_getElem? (i := 1230) (by decide +kernel)⟩
theorem lw_p52 : lw_okq (⟨"TurnsOneWayModel", "both", "()V"⟩, 59) := ⟨⟨by decide +kernel, by decide +kernel⟩, List.mem_of_getElem? (i := 935) (by decide +kernel), List.mem_of_getElem? (i := 1233) (by decide +kernel), List.mem_of_getElem? (i := 1234) (by decide +kernel)⟩
theorem lw_p53 : lw_okq (⟨"TurnsOneWayModel", "compared", "()V"⟩, 59) := ⟨⟨by decide +kernel, by decide +kernel⟩, List.mem_of_getElem? (i := 935) (by decide +kernel), List.mem_of_getElem? (i := 1237) (by decide +kernel), List.mem_of_getElem? (i := 1238) (by decide +kernel)⟩
theorem lw_p54 : lw_okq (⟨"TurnsOneWayModel", "sum", "()V"⟩, 59) := ⟨⟨by decide +kernel, by decide +kernel⟩, List.mem_of_getElem? (i := 935) (by decide +kernel), List.mem_of_getElem? (i := 1241) (by decide +kernel), List.mem_of_getElem? (i := 1242) (by decide +kernel)⟩
theorem lw_p55 : lw_okq (⟨"TurnsOneWayModel", "product", "()V"⟩, 59) := ⟨⟨by decide +kernel, by decide +kernel⟩, List.mem_of_getElem? (i := 935) (by decide +kernel), List.mem_of_getElem? (i := 1245) (by decide +kernel), List.mem_of_getElem? (i := 1246) (by decide +kernel)⟩
theorem lw_p56 : lw_okq (⟨"TurnsOneWayModel", "operand", "()V"⟩, 59) := ⟨⟨by decide +kernel, by decide +kernel⟩, List.mem_of_getElem? (i := 935) (by decide +kernel), List.mem_of_getElem? (i := 1249) (by decide +kernel), List.mem_of_getElem? (i := 1250) (by decide +kernel)⟩
theorem lw_p57 : lw_okq (⟨"TurnsOneWayModel", "look", "()I"⟩, 59) := ⟨⟨by decide +kernel, by decide +kernel⟩, List.mem_of_getElem? (i := 935) (by decide +kernel), List.mem_of_getElem? (i := 1253) (by decide +kernel), List.mem_of_getElem? (i := 1254) (by decide +kernel)⟩
theorem lw_p58 : lw_okq (⟨"TurnsOneWayModel", "addStep", "(II)V"⟩, 59) := ⟨⟨by decide +kernel, by decide +kernel⟩, List.mem_of_getElem? (i := 935) (by decide +kernel), List.mem_of_getElem? (i := 1260) (by decide +kernel), List.mem_of_getElem? (i := 1261) (by decide +kernel)⟩
theorem lw_p59 : lw_okq (⟨"TurnsOneWayModel", "opens", "()Z"⟩, 59) := ⟨⟨by decide +kernel, by decide +kernel⟩, List.mem_of_getElem? (i := 935) (by decide +kernel), List.mem_of_getElem? (i := 1264) (by decide +kernel), List.mem_of_getElem? (i := 1265) (by decide +kernel)⟩
theorem lw_p60 : lw_okq (⟨"TurnsOneWayModel", "wrong", "()V"⟩, 59) := ⟨⟨by decide +kernel, by decide +kernel⟩, List.mem_of_getElem? (i := 935) (by decide +kernel), List.mem_of_getElem? (i := 1268) (by decide +kernel), List.mem_of_getElem? (i := 1269) (by decide +kernel)⟩
theorem lw_p61 : lw_okq (⟨"TurnsOneWayModel", "figure", "()V"⟩, 59) := ⟨⟨by decide +kernel, by decide +kernel⟩, List.mem_of_getElem? (i := 935) (by decide +kernel), List.mem_of_getElem? (i := 1272) (by decide +kernel), List.mem_of_getElem? (i := 1273) (by decide +kernel)⟩
theorem lw_p62 : lw_okq (⟨"TurnsOneWayModel", "isGoing", "(I)Z"⟩, 59) := ⟨⟨by decide +kernel, by decide +kernel⟩, List.mem_of_getElem? (i := 935) (by decide +kernel), List.mem_of_getElem? (i := 1284) (by decide +kernel), List.mem_of_getElem? (i := 1285) (by decide +kernel)⟩
theorem lw_p63 : lw_okq (⟨"TurnsOneWayModel", "isFloor", "(I)Z"⟩, 59) := ⟨⟨by decide +kernel, by decide +kernel⟩, List.mem_of_getElem? (i := 935) (by decide +kernel), List.mem_of_getElem? (i := 1288) (by decide +kernel), List.mem_of_getElem? (i := 1289) (by decide +kernel)⟩
def lw_privs_4 : List (MethodName × Nat) := [(⟨"TurnsOneWayModel", "valueAt", "(II)I"⟩, 59), (⟨"TurnsOneWayModel", "readText", "(I)I"⟩, 59), (⟨"TurnsOneWayModel", "line", "()V"⟩, 59), (⟨"TurnsOneWayModel", "either", "()V"⟩, 59), (⟨"TurnsOneWayModel", "both", "()V"⟩, 59), (⟨"TurnsOneWayModel", "compared", "()V"⟩, 59), (⟨"TurnsOneWayModel", "sum", "()V"⟩, 59), (⟨"TurnsOneWayModel", "product", "()V"⟩, 59), (⟨"TurnsOneWayModel", "operand", "()V"⟩, 59), (⟨"TurnsOneWayModel", "look", "()I"⟩, 59), (⟨"TurnsOneWayModel", "addStep", "(II)V"⟩, 59), (⟨"TurnsOneWayModel", "opens", "()Z"⟩, 59), (⟨"TurnsOneWayModel", "wrong", "()V"⟩, 59), (⟨"TurnsOneWayModel", "figure", "()V"⟩, 59), (⟨"TurnsOneWayModel", "isGoing", "(I)Z"⟩, 59), (⟨"TurnsOneWayModel", "isFloor", "(I)Z"⟩, 59)]
theorem lw_r4 : ∀ q ∈ lw_privs_4, lw_okq q := List.forall_mem_cons.mpr ⟨lw_p48, List.forall_mem_cons.mpr ⟨lw_p49, List.forall_mem_cons.mpr ⟨lw_p50, List.forall_mem_cons.mpr ⟨lw_p51, List.forall_mem_cons.mpr ⟨lw_p52, List.forall_mem_cons.mpr ⟨lw_p53, List.forall_mem_cons.mpr ⟨lw_p54, List.forall_mem_cons.mpr ⟨lw_p55, List.forall_mem_cons.mpr ⟨lw_p56, List.forall_mem_cons.mpr ⟨lw_p57, List.forall_mem_cons.mpr ⟨lw_p58, List.forall_mem_cons.mpr ⟨lw_p59, List.forall_mem_cons.mpr ⟨lw_p60, List.forall_mem_cons.mpr ⟨lw_p61, List.forall_mem_cons.mpr ⟨lw_p62, List.forall_mem_cons.mpr ⟨lw_p63, fun _ h => absurd h List.not_mem_nil⟩⟩⟩⟩⟩⟩⟩⟩⟩⟩⟩⟩⟩⟩⟩⟩
theorem lw_p64 : lw_okq (⟨"TurnsOneWayModel", "begin", "(II)V"⟩, 59) := ⟨⟨by decide +kernel, by decide +kernel⟩, List.mem_of_getElem? (i := 935) (by decide +kernel), List.mem_of_getElem? (i := 1296) (by decide +kernel), List.mem_of_getElem? (i := 1297) (by decide +kernel)⟩
theorem lw_p65 : lw_okq (⟨"TurnsOneWayModel", "note", "(I)V"⟩, 59) := ⟨⟨by decide +kernel, by decide +kernel⟩, List.mem_of_getElem? (i := 935) (by decide +kernel), List.mem_of_getElem? (i := 1300) (by decide +kernel), List.mem_of_getElem? (i := 1301) (by decide +kernel)⟩
theorem lw_p66 : lw_okq (⟨"TurnsOneWayModel", "go", "(IIII)V"⟩, 59) := ⟨⟨by decide +kernel, by decide +kernel⟩, List.mem_of_getElem? (i := 935) (by decide +kernel), List.mem_of_getElem? (i := 1304) (by decide +kernel), List.mem_of_getElem? (i := 1305) (by decide +kernel)⟩
theorem lw_p67 : lw_okq (⟨"TurnsOneWayModel", "takenBy", "(IIII)I"⟩, 59) := ⟨⟨by decide +kernel, by decide +kernel⟩, List.mem_of_getElem? (i := 935) (by decide +kernel), List.mem_of_getElem? (i := 1309) (by decide +kernel), List.mem_of_getElem? (i := 1310) (by decide +kernel)⟩
theorem lw_p68 : lw_okq (⟨"TurnsOneWayModel", "gives", "(I)I"⟩, 59) := ⟨⟨by decide +kernel, by decide +kernel⟩, List.mem_of_getElem? (i := 935) (by decide +kernel), List.mem_of_getElem? (i := 1313) (by decide +kernel), List.mem_of_getElem? (i := 1314) (by decide +kernel)⟩
theorem lw_p69 : lw_okq (⟨"TurnsOneWayModel", "worked", "(III)I"⟩, 59) := ⟨⟨by decide +kernel, by decide +kernel⟩, List.mem_of_getElem? (i := 935) (by decide +kernel), List.mem_of_getElem? (i := 1317) (by decide +kernel), List.mem_of_getElem? (i := 1318) (by decide +kernel)⟩
theorem lw_p70 : lw_okq (⟨"TurnsOneWayModel", "goThrough", "(IIIII)V"⟩, 59) := ⟨⟨by decide +kernel, by decide +kernel⟩, List.mem_of_getElem? (i := 935) (by decide +kernel), List.mem_of_getElem? (i := 1340) (by decide +kernel), List.mem_of_getElem? (i := 1341) (by decide +kernel)⟩
theorem lw_p71 : lw_okq (⟨"TurnsOneWayModel", "lookBack", "(I)V"⟩, 59) := ⟨⟨by decide +kernel, by decide +kernel⟩, List.mem_of_getElem? (i := 935) (by decide +kernel), List.mem_of_getElem? (i := 1344) (by decide +kernel), List.mem_of_getElem? (i := 1345) (by decide +kernel)⟩
theorem lw_p72 : lw_okq (⟨"TurnsOneWayModel", "screwed", "(III)I"⟩, 59) := ⟨⟨by decide +kernel, by decide +kernel⟩, List.mem_of_getElem? (i := 935) (by decide +kernel), List.mem_of_getElem? (i := 1356) (by decide +kernel), List.mem_of_getElem? (i := 1357) (by decide +kernel)⟩
theorem lw_p73 : lw_okq (⟨"TurnsOneWayModel", "draw", "(I)I"⟩, 59) := ⟨⟨by decide +kernel, by decide +kernel⟩, List.mem_of_getElem? (i := 935) (by decide +kernel), List.mem_of_getElem? (i := 1376) (by decide +kernel), List.mem_of_getElem? (i := 1377) (by decide +kernel)⟩
theorem lw_p74 : lw_okq (⟨"TurnsOneWayModel", "isFrame", "(II)Z"⟩, 59) := ⟨⟨by decide +kernel, by decide +kernel⟩, List.mem_of_getElem? (i := 935) (by decide +kernel), List.mem_of_getElem? (i := 1385) (by decide +kernel), List.mem_of_getElem? (i := 1386) (by decide +kernel)⟩
theorem lw_p75 : lw_okq (⟨"TurnsOneWayModel", "addFrame", "(II)V"⟩, 59) := ⟨⟨by decide +kernel, by decide +kernel⟩, List.mem_of_getElem? (i := 935) (by decide +kernel), List.mem_of_getElem? (i := 1389) (by decide +kernel), List.mem_of_getElem? (i := 1390) (by decide +kernel)⟩
theorem lw_p76 : lw_okq (⟨"TurnsOneWayModel", "offBy", "(IIII)I"⟩, 59) := ⟨⟨by decide +kernel, by decide +kernel⟩, List.mem_of_getElem? (i := 935) (by decide +kernel), List.mem_of_getElem? (i := 1408) (by decide +kernel), List.mem_of_getElem? (i := 1409) (by decide +kernel)⟩
theorem lw_p77 : lw_okq (⟨"TurnsOneWayModel", "isBody", "(I)Z"⟩, 59) := ⟨⟨by decide +kernel, by decide +kernel⟩, List.mem_of_getElem? (i := 935) (by decide +kernel), List.mem_of_getElem? (i := 1441) (by decide +kernel), List.mem_of_getElem? (i := 1442) (by decide +kernel)⟩
theorem lw_p78 : lw_okq (⟨"TurnsOneWayModel", "rolls", "(II)I"⟩, 59) := ⟨⟨by decide +kernel, by decide +kernel⟩, List.mem_of_getElem? (i := 935) (by decide +kernel), List.mem_of_getElem? (i := 1445) (by decide +kernel), List.mem_of_getElem? (i := 1446) (by decide +kernel)⟩
theorem lw_p79 : lw_okq (⟨"TurnsOneWayModel", "ran", "(I)V"⟩, 59) := ⟨⟨by decide +kernel, by decide +kernel⟩, List.mem_of_getElem? (i := 935) (by decide +kernel), List.mem_of_getElem? (i := 1449) (by decide +kernel), List.mem_of_getElem? (i := 1450) (by decide +kernel)⟩
def lw_privs_5 : List (MethodName × Nat) := [(⟨"TurnsOneWayModel", "begin", "(II)V"⟩, 59), (⟨"TurnsOneWayModel", "note", "(I)V"⟩, 59), (⟨"TurnsOneWayModel", "go", "(IIII)V"⟩, 59), (⟨"TurnsOneWayModel", "takenBy", "(IIII)I"⟩, 59), (⟨"TurnsOneWayModel", "gives", "(I)I"⟩, 59), (⟨"TurnsOneWayModel", "worked", "(III)I"⟩, 59), (⟨"TurnsOneWayModel", "goThrough", "(IIIII)V"⟩, 59), (⟨"TurnsOneWayModel", "lookBack", "(I)V"⟩, 59), (⟨"TurnsOneWayModel", "screwed", "(III)I"⟩, 59), (⟨"TurnsOneWayModel", "draw", "(I)I"⟩, 59), (⟨"TurnsOneWayModel", "isFrame", "(II)Z"⟩, 59), (⟨"TurnsOneWayModel", "addFrame", "(II)V"⟩, 59), (⟨"TurnsOneWayModel", "offBy", "(IIII)I"⟩, 59), (⟨"TurnsOneWayModel", "isBody", "(I)Z"⟩, 59), (⟨"TurnsOneWayModel", "rolls", "(II)I"⟩, 59), (⟨"TurnsOneWayModel", "ran", "(I)V"⟩, 59)]
theorem lw_r5 : ∀ q ∈ lw_privs_5, lw_okq q := List.forall_mem_cons.mpr ⟨lw_p64, List.forall_mem_cons.mpr ⟨lw_p65, List.forall_mem_cons.mpr ⟨lw_p66, List.forall_mem_cons.mpr ⟨lw_p67, List.forall_mem_cons.mpr ⟨lw_p68, List.forall_mem_cons.mpr ⟨lw_p69, List.forall_mem_cons.mpr ⟨lw_p70, List.forall_mem_cons.mpr ⟨lw_p71, List.forall_mem_cons.mpr ⟨lw_p72, List.forall_mem_cons.mpr ⟨lw_p73, List.forall_mem_cons.mpr ⟨lw_p74, List.forall_mem_cons.mpr ⟨lw_p75, List.forall_mem_cons.mpr ⟨lw_p76, List.forall_mem_cons.mpr ⟨lw_p77, List.forall_mem_cons.mpr ⟨lw_p78, List.forall_mem_cons.mpr ⟨lw_p79, fun _ h => absurd h List.not_mem_nil⟩⟩⟩⟩⟩⟩⟩⟩⟩⟩⟩⟩⟩⟩⟩⟩
theorem lw_p80 : lw_okq (⟨"TurnsOneWayModel", "keptRolls", "(II)I"⟩, 59) := ⟨⟨by decide +kernel, by decide +kernel⟩, List.mem_of_getElem? (i := 935) (by decide +kernel), List.mem_of_getElem? (i := 1453) (by decide +kernel), List.mem_of_getElem? (i := 1454) (by decide +kernel)⟩
theorem lw_p81 : lw_okq (⟨"TurnsOneWayModel", "plainRolls", "(II)I"⟩, 59) := ⟨⟨by decide +kernel, by decide +kernel⟩, List.mem_of_getElem? (i := 935) (by decide +kernel), List.mem_of_getElem? (i := 1457) (by decide +kernel), List.mem_of_getElem? (i := 1458) (by decide +kernel)⟩
theorem lw_p82 : lw_okq (⟨"TurnsOneWayModel", "trades", "(II)I"⟩, 59) := ⟨⟨by decide +kernel, by decide +kernel⟩, List.mem_of_getElem? (i := 935) (by decide +kernel), List.mem_of_getElem? (i := 1461) (by decide +kernel), List.mem_of_getElem? (i := 1462) (by decide +kernel)⟩
theorem lw_p83 : lw_okq (⟨"TurnsOneWayModel", "turnedTrades", "(II)I"⟩, 59) := ⟨⟨by decide +kernel, by decide +kernel⟩, List.mem_of_getElem? (i := 935) (by decide +kernel), List.mem_of_getElem? (i := 1465) (by decide +kernel), List.mem_of_getElem? (i := 1466) (by decide +kernel)⟩
theorem lw_p84 : lw_okq (⟨"TurnsOneWayModel", "plainTrades", "(II)I"⟩, 59) := ⟨⟨by decide +kernel, by decide +kernel⟩, List.mem_of_getElem? (i := 935) (by decide +kernel), List.mem_of_getElem? (i := 1469) (by decide +kernel), List.mem_of_getElem? (i := 1470) (by decide +kernel)⟩
theorem lw_p85 : lw_okq (⟨"TurnsOneWayModel", "ends", "(II)I"⟩, 59) := ⟨⟨by decide +kernel, by decide +kernel⟩, List.mem_of_getElem? (i := 935) (by decide +kernel), List.mem_of_getElem? (i := 1473) (by decide +kernel), List.mem_of_getElem? (i := 1474) (by decide +kernel)⟩
theorem lw_p86 : lw_okq (⟨"TurnsOneWayModel", "plainEnds", "(II)I"⟩, 59) := ⟨⟨by decide +kernel, by decide +kernel⟩, List.mem_of_getElem? (i := 935) (by decide +kernel), List.mem_of_getElem? (i := 1477) (by decide +kernel), List.mem_of_getElem? (i := 1478) (by decide +kernel)⟩
theorem lw_p87 : lw_okq (⟨"TurnsOneWayModel", "tells", "(II)I"⟩, 59) := ⟨⟨by decide +kernel, by decide +kernel⟩, List.mem_of_getElem? (i := 935) (by decide +kernel), List.mem_of_getElem? (i := 1484) (by decide +kernel), List.mem_of_getElem? (i := 1485) (by decide +kernel)⟩
theorem lw_p88 : lw_okq (⟨"TurnsOneWayModel", "plainTells", "(II)I"⟩, 59) := ⟨⟨by decide +kernel, by decide +kernel⟩, List.mem_of_getElem? (i := 935) (by decide +kernel), List.mem_of_getElem? (i := 1488) (by decide +kernel), List.mem_of_getElem? (i := 1489) (by decide +kernel)⟩
theorem lw_p89 : lw_okq (⟨"TurnsOneWayModel", "whyNoPlace", "(II)I"⟩, 59) := ⟨⟨by decide +kernel, by decide +kernel⟩, List.mem_of_getElem? (i := 935) (by decide +kernel), List.mem_of_getElem? (i := 1508) (by decide +kernel), List.mem_of_getElem? (i := 1509) (by decide +kernel)⟩
def lw_privs_6 : List (MethodName × Nat) := [(⟨"TurnsOneWayModel", "keptRolls", "(II)I"⟩, 59), (⟨"TurnsOneWayModel", "plainRolls", "(II)I"⟩, 59), (⟨"TurnsOneWayModel", "trades", "(II)I"⟩, 59), (⟨"TurnsOneWayModel", "turnedTrades", "(II)I"⟩, 59), (⟨"TurnsOneWayModel", "plainTrades", "(II)I"⟩, 59), (⟨"TurnsOneWayModel", "ends", "(II)I"⟩, 59), (⟨"TurnsOneWayModel", "plainEnds", "(II)I"⟩, 59), (⟨"TurnsOneWayModel", "tells", "(II)I"⟩, 59), (⟨"TurnsOneWayModel", "plainTells", "(II)I"⟩, 59), (⟨"TurnsOneWayModel", "whyNoPlace", "(II)I"⟩, 59)]
theorem lw_r6 : ∀ q ∈ lw_privs_6, lw_okq q := List.forall_mem_cons.mpr ⟨lw_p80, List.forall_mem_cons.mpr ⟨lw_p81, List.forall_mem_cons.mpr ⟨lw_p82, List.forall_mem_cons.mpr ⟨lw_p83, List.forall_mem_cons.mpr ⟨lw_p84, List.forall_mem_cons.mpr ⟨lw_p85, List.forall_mem_cons.mpr ⟨lw_p86, List.forall_mem_cons.mpr ⟨lw_p87, List.forall_mem_cons.mpr ⟨lw_p88, List.forall_mem_cons.mpr ⟨lw_p89, fun _ h => absurd h List.not_mem_nil⟩⟩⟩⟩⟩⟩⟩⟩⟩⟩
def lw_privs : List (MethodName × Nat) := lw_privs_1 ++ (lw_privs_2 ++ (lw_privs_3 ++ (lw_privs_4 ++ (lw_privs_5 ++ (lw_privs_6)))))
def lw_tbl : List Cond := k2_sels lw_privs ++ tables_1
theorem lw_privs_ok : ∀ q ∈ lw_privs, lw_okq q := by
  show ∀ q ∈ lw_privs_1 ++ (lw_privs_2 ++ (lw_privs_3 ++ (lw_privs_4 ++ (lw_privs_5 ++ (lw_privs_6))))), lw_okq q
  exact List.forall_mem_append.mpr ⟨lw_r1, List.forall_mem_append.mpr ⟨lw_r2, List.forall_mem_append.mpr ⟨lw_r3, List.forall_mem_append.mpr ⟨lw_r4, List.forall_mem_append.mpr ⟨lw_r5, lw_r6⟩⟩⟩⟩⟩
-- ===== classes, methods, tables by place
def T0 : u_T := fun k => match k with
  | 0 => ("TurnsOneWay$Bodies", "kinds", "[I", true)
  | 1 => ("TurnsOneWay$Bodies", "ranNumbers", "[I", true)
  | 2 => ("TurnsOneWay$Bodies", "length", "I", false)
  | 3 => ("TurnsOneWay$Bodies", "ran", "I", false)
  | 4 => ("TurnsOneWay$Bodies", "self", "I", false)
  | _ => ("TurnsOneWay$Bodies", "selfKind", "I", false)
def T1 : u_T := fun k => match k with
  | 0 => ("TurnsOneWay$Changes", "parts", "[I", true)
  | 1 => ("TurnsOneWay$Changes", "done", "I", false)
  | _ => ("TurnsOneWay$Changes", "all", "I", false)
def T2 : u_T := fun k => match k with
  | 0 => ("TurnsOneWay$Film", "ticks", "[I", true)
  | 1 => ("TurnsOneWay$Film", "turns", "[I", true)
  | _ => ("TurnsOneWay$Film", "length", "I", false)
def T3 : u_T := fun k => match k with
  | 0 => ("TurnsOneWay$Floor", "codes", "[I", true)
  | 1 => ("TurnsOneWay$Floor", "lefts", "[I", true)
  | 2 => ("TurnsOneWay$Floor", "rights", "[I", true)
  | 3 => ("TurnsOneWay$Floor", "values", "[I", true)
  | 4 => ("TurnsOneWay$Floor", "length", "I", false)
  | 5 => ("TurnsOneWay$Floor", "w", "I", false)
  | 6 => ("TurnsOneWay$Floor", "v", "I", false)
  | 7 => ("TurnsOneWay$Floor", "s", "I", false)
  | 8 => ("TurnsOneWay$Floor", "p", "I", false)
  | 9 => ("TurnsOneWay$Floor", "q", "I", false)
  | _ => ("TurnsOneWay$Floor", "i", "I", false)
def T4 : u_T := fun k => match k with
  | 0 => ("TurnsOneWay$Going", "turns", "[I", true)
  | 1 => ("TurnsOneWay$Going", "ps", "[I", true)
  | 2 => ("TurnsOneWay$Going", "qs", "[I", true)
  | 3 => ("TurnsOneWay$Going", "last", "I", false)
  | 4 => ("TurnsOneWay$Going", "backs", "I", false)
  | 5 => ("TurnsOneWay$Going", "turned", "I", false)
  | 6 => ("TurnsOneWay$Going", "lostS", "I", false)
  | 7 => ("TurnsOneWay$Going", "lostP", "I", false)
  | _ => ("TurnsOneWay$Going", "lostQ", "I", false)
def T5 : u_T := fun k => match k with
  | 0 => ("TurnsOneWay$Motion", "keen", "I", false)
  | 1 => ("TurnsOneWay$Motion", "a", "I", false)
  | 2 => ("TurnsOneWay$Motion", "b", "I", false)
  | 3 => ("TurnsOneWay$Motion", "c", "I", false)
  | 4 => ("TurnsOneWay$Motion", "d", "I", false)
  | 5 => ("TurnsOneWay$Motion", "floor", "LTurnsOneWay$Floor;", false)
  | 6 => ("TurnsOneWay$Motion", "percent", "I", false)
  | 7 => ("TurnsOneWay$Motion", "s", "I", false)
  | 8 => ("TurnsOneWay$Motion", "p", "I", false)
  | 9 => ("TurnsOneWay$Motion", "q", "I", false)
  | 10 => ("TurnsOneWay$Motion", "tick", "I", false)
  | 11 => ("TurnsOneWay$Motion", "side", "I", false)
  | 12 => ("TurnsOneWay$Motion", "backs", "I", false)
  | 13 => ("TurnsOneWay$Motion", "turned", "I", false)
  | 14 => ("TurnsOneWay$Motion", "lostS", "I", false)
  | 15 => ("TurnsOneWay$Motion", "lostP", "I", false)
  | _ => ("TurnsOneWay$Motion", "lostQ", "I", false)
def T6 : u_T := fun k => match k with
  | 0 => ("TurnsOneWay$Shelf", "elements", "[J", true)
  | 1 => ("TurnsOneWay$Shelf", "body", "I", false)
  | 2 => ("TurnsOneWay$Shelf", "sort", "I", false)
  | _ => ("TurnsOneWay$Shelf", "length", "I", false)
def T7 : u_T := fun k => match k with
  | 0 => ("TurnsOneWay$Stone", "weights", "[I", true)
  | 1 => ("TurnsOneWay$Stone", "xs", "[I", true)
  | 2 => ("TurnsOneWay$Stone", "ys", "[I", true)
  | 3 => ("TurnsOneWay$Stone", "rates", "[I", true)
  | 4 => ("TurnsOneWay$Stone", "lumps", "I", false)
  | 5 => ("TurnsOneWay$Stone", "sum", "I", false)
  | 6 => ("TurnsOneWay$Stone", "sumX", "I", false)
  | 7 => ("TurnsOneWay$Stone", "sumY", "I", false)
  | 8 => ("TurnsOneWay$Stone", "sumXX", "I", false)
  | 9 => ("TurnsOneWay$Stone", "sumYY", "I", false)
  | _ => ("TurnsOneWay$Stone", "sumXY", "I", false)
def T8 : u_T := fun k => match k with
  | 0 => ("TurnsOneWay$Tape", "bytes", "[B", true)
  | 1 => ("TurnsOneWay$Tape", "length", "I", false)
  | _ => ("TurnsOneWay$Tape", "at", "I", false)
def T9 : u_T := fun k => match k with
  | 0 => ("TurnsOneWay", "tape", "LTurnsOneWay$Tape;", true)
  | 1 => ("TurnsOneWay", "stones", "[LTurnsOneWay$Stone;", true)
  | 2 => ("TurnsOneWay", "floors", "[LTurnsOneWay$Floor;", true)
  | 3 => ("TurnsOneWay", "shelves", "[LTurnsOneWay$Shelf;", true)
  | 4 => ("TurnsOneWay", "motion", "LTurnsOneWay$Motion;", true)
  | 5 => ("TurnsOneWay", "kept", "LTurnsOneWay$Going;", true)
  | 6 => ("TurnsOneWay", "film", "LTurnsOneWay$Film;", true)
  | 7 => ("TurnsOneWay", "changes", "LTurnsOneWay$Changes;", true)
  | 8 => ("TurnsOneWay", "bodies", "LTurnsOneWay$Bodies;", true)
  | 9 => ("TurnsOneWay", "stoneCount", "I", false)
  | _ => ("TurnsOneWay", "floorCount", "I", false)
def T10 : u_T := fun k => match k with
  | 0 => ("TurnsOneWayModel", "code", "I", false)
  | 1 => ("TurnsOneWayModel", "tape", "[B", true)
  | 2 => ("TurnsOneWayModel", "taped", "I", false)
  | 3 => ("TurnsOneWayModel", "stones", "I", false)
  | 4 => ("TurnsOneWayModel", "lumps", "[I", true)
  | 5 => ("TurnsOneWayModel", "weight", "[I", true)
  | 6 => ("TurnsOneWayModel", "atX", "[I", true)
  | 7 => ("TurnsOneWayModel", "atY", "[I", true)
  | 8 => ("TurnsOneWayModel", "numbers", "[I", true)
  | 9 => ("TurnsOneWayModel", "screw", "I", false)
  | 10 => ("TurnsOneWayModel", "screwX", "I", false)
  | 11 => ("TurnsOneWayModel", "screwY", "I", false)
  | 12 => ("TurnsOneWayModel", "doneMany", "I", false)
  | 13 => ("TurnsOneWayModel", "undoneMany", "I", false)
  | 14 => ("TurnsOneWayModel", "changeOf", "[I", true)
  | 15 => ("TurnsOneWayModel", "changeAt", "[I", true)
  | 16 => ("TurnsOneWayModel", "before", "[I", true)
  | 17 => ("TurnsOneWayModel", "behind", "[I", true)
  | 18 => ("TurnsOneWayModel", "here", "I", false)
  | 19 => ("TurnsOneWayModel", "fault", "I", false)
  | 20 => ("TurnsOneWayModel", "open", "I", false)
  | 21 => ("TurnsOneWayModel", "laid", "I", false)
  | 22 => ("TurnsOneWayModel", "act", "[B", true)
  | 23 => ("TurnsOneWayModel", "with", "[I", true)
  | 24 => ("TurnsOneWayModel", "lineMany", "[I", true)
  | 25 => ("TurnsOneWayModel", "testEnd", "[S", true)
  | 26 => ("TurnsOneWayModel", "lineEnd", "[S", true)
  | 27 => ("TurnsOneWayModel", "facts", "[I", true)
  | 28 => ("TurnsOneWayModel", "pile", "[I", true)
  | 29 => ("TurnsOneWayModel", "floors", "I", false)
  | 30 => ("TurnsOneWayModel", "turn", "I", false)
  | 31 => ("TurnsOneWayModel", "left", "I", false)
  | 32 => ("TurnsOneWayModel", "right", "I", false)
  | 33 => ("TurnsOneWayModel", "lostTurn", "I", false)
  | 34 => ("TurnsOneWayModel", "lostLeft", "I", false)
  | 35 => ("TurnsOneWayModel", "lostRight", "I", false)
  | 36 => ("TurnsOneWayModel", "turns", "[I", true)
  | 37 => ("TurnsOneWayModel", "lefts", "[I", true)
  | 38 => ("TurnsOneWayModel", "rights", "[I", true)
  | 39 => ("TurnsOneWayModel", "kept", "I", false)
  | 40 => ("TurnsOneWayModel", "keptTurn", "I", false)
  | 41 => ("TurnsOneWayModel", "keptLeft", "I", false)
  | 42 => ("TurnsOneWayModel", "keptRight", "I", false)
  | 43 => ("TurnsOneWayModel", "lastSign", "I", false)
  | 44 => ("TurnsOneWayModel", "backMany", "I", false)
  | 45 => ("TurnsOneWayModel", "firstBack", "I", false)
  | 46 => ("TurnsOneWayModel", "drawn", "I", false)
  | 47 => ("TurnsOneWayModel", "frames", "I", false)
  | 48 => ("TurnsOneWayModel", "frameTick", "[I", true)
  | 49 => ("TurnsOneWayModel", "frameTurn", "[I", true)
  | 50 => ("TurnsOneWayModel", "ways", "[J", true)
  | 51 => ("TurnsOneWayModel", "bodies", "I", false)
  | 52 => ("TurnsOneWayModel", "kind", "[I", true)
  | 53 => ("TurnsOneWayModel", "traces", "I", false)
  | 54 => ("TurnsOneWayModel", "traced", "[I", true)
  | 55 => ("TurnsOneWayModel", "holds", "[I", true)
  | 56 => ("TurnsOneWayModel", "size", "[I", true)
  | 57 => ("TurnsOneWayModel", "elements", "[J", true)
  | _ => ("TurnsOneWayModel", "shifted", "[J", true)
def oN : Nat → String := fun k => match k with
  | 0 => "TurnsOneWay$Bodies"
  | 1 => "TurnsOneWay$Changes"
  | 2 => "TurnsOneWay$Film"
  | 3 => "TurnsOneWay$Floor"
  | 4 => "TurnsOneWay$Going"
  | 5 => "TurnsOneWay$Motion"
  | 6 => "TurnsOneWay$Shelf"
  | 7 => "TurnsOneWay$Stone"
  | 8 => "TurnsOneWay$Tape"
  | 9 => "TurnsOneWay"
  | 10 => "TurnsOneWayModel"
  | 11 => "TurnsOneWayLaw"
  | 12 => "java/lang/Integer"
  | _ => "java/lang/Math"
def cls : List vw_C := [("TurnsOneWay$Bodies", T0, 6), ("TurnsOneWay$Changes", T1, 3), ("TurnsOneWay$Film", T2, 3), ("TurnsOneWay$Floor", T3, 11), ("TurnsOneWay$Going", T4, 9), ("TurnsOneWay$Motion", T5, 17), ("TurnsOneWay$Shelf", T6, 4), ("TurnsOneWay$Stone", T7, 11), ("TurnsOneWay$Tape", T8, 3), ("TurnsOneWay", T9, 11), ("TurnsOneWayModel", T10, 59)]
def ft0 : Nat → FieldType := fun k => match k with
  | 0 => .array .int
  | 1 => .array .int
  | 2 => .int
  | 3 => .int
  | 4 => .int
  | _ => .int
def ft1 : Nat → FieldType := fun k => match k with
  | 0 => .array .int
  | 1 => .int
  | _ => .int
def ft2 : Nat → FieldType := fun k => match k with
  | 0 => .array .int
  | 1 => .array .int
  | _ => .int
def ft3 : Nat → FieldType := fun k => match k with
  | 0 => .array .int
  | 1 => .array .int
  | 2 => .array .int
  | 3 => .array .int
  | 4 => .int
  | 5 => .int
  | 6 => .int
  | 7 => .int
  | 8 => .int
  | 9 => .int
  | _ => .int
def ft4 : Nat → FieldType := fun k => match k with
  | 0 => .array .int
  | 1 => .array .int
  | 2 => .array .int
  | 3 => .int
  | 4 => .int
  | 5 => .int
  | 6 => .int
  | 7 => .int
  | _ => .int
def ft5 : Nat → FieldType := fun k => match k with
  | 0 => .int
  | 1 => .int
  | 2 => .int
  | 3 => .int
  | 4 => .int
  | 5 => .object "TurnsOneWay$Floor"
  | 6 => .int
  | 7 => .int
  | 8 => .int
  | 9 => .int
  | 10 => .int
  | 11 => .int
  | 12 => .int
  | 13 => .int
  | 14 => .int
  | 15 => .int
  | _ => .int
def ft6 : Nat → FieldType := fun k => match k with
  | 0 => .array .long
  | 1 => .int
  | 2 => .int
  | _ => .int
def ft7 : Nat → FieldType := fun k => match k with
  | 0 => .array .int
  | 1 => .array .int
  | 2 => .array .int
  | 3 => .array .int
  | 4 => .int
  | 5 => .int
  | 6 => .int
  | 7 => .int
  | 8 => .int
  | 9 => .int
  | _ => .int
def ft8 : Nat → FieldType := fun k => match k with
  | 0 => .array .byte
  | 1 => .int
  | _ => .int
def ft9 : Nat → FieldType := fun k => match k with
  | 0 => .object "TurnsOneWay$Tape"
  | 1 => .array (.object "TurnsOneWay$Stone")
  | 2 => .array (.object "TurnsOneWay$Floor")
  | 3 => .array (.object "TurnsOneWay$Shelf")
  | 4 => .object "TurnsOneWay$Motion"
  | 5 => .object "TurnsOneWay$Going"
  | 6 => .object "TurnsOneWay$Film"
  | 7 => .object "TurnsOneWay$Changes"
  | 8 => .object "TurnsOneWay$Bodies"
  | 9 => .int
  | _ => .int
def ft10 : Nat → FieldType := fun k => match k with
  | 0 => .int
  | 1 => .array .byte
  | 2 => .int
  | 3 => .int
  | 4 => .array .int
  | 5 => .array .int
  | 6 => .array .int
  | 7 => .array .int
  | 8 => .array .int
  | 9 => .int
  | 10 => .int
  | 11 => .int
  | 12 => .int
  | 13 => .int
  | 14 => .array .int
  | 15 => .array .int
  | 16 => .array .int
  | 17 => .array .int
  | 18 => .int
  | 19 => .int
  | 20 => .int
  | 21 => .int
  | 22 => .array .byte
  | 23 => .array .int
  | 24 => .array .int
  | 25 => .array .short
  | 26 => .array .short
  | 27 => .array .int
  | 28 => .array .int
  | 29 => .int
  | 30 => .int
  | 31 => .int
  | 32 => .int
  | 33 => .int
  | 34 => .int
  | 35 => .int
  | 36 => .array .int
  | 37 => .array .int
  | 38 => .array .int
  | 39 => .int
  | 40 => .int
  | 41 => .int
  | 42 => .int
  | 43 => .int
  | 44 => .int
  | 45 => .int
  | 46 => .int
  | 47 => .int
  | 48 => .array .int
  | 49 => .array .int
  | 50 => .array .long
  | 51 => .int
  | 52 => .array .int
  | 53 => .int
  | 54 => .array .int
  | 55 => .array .int
  | 56 => .array .int
  | 57 => .array .long
  | _ => .array .long
def ftC : Nat → Nat → FieldType := fun c => match c with
  | 0 => ft0
  | 1 => ft1
  | 2 => ft2
  | 3 => ft3
  | 4 => ft4
  | 5 => ft5
  | 6 => ft6
  | 7 => ft7
  | 8 => ft8
  | 9 => ft9
  | _ => ft10
def dfl : Nat → List Value := fun c => match c with
  | 0 => [.null, .null, .int 0, .int 0, .int 0, .int 0]
  | 1 => [.null, .int 0, .int 0]
  | 2 => [.null, .null, .int 0]
  | 3 => [.null, .null, .null, .null, .int 0, .int 0, .int 0, .int 0, .int 0, .int 0, .int 0]
  | 4 => [.null, .null, .null, .int 0, .int 0, .int 0, .int 0, .int 0, .int 0]
  | 5 => [.int 0, .int 0, .int 0, .int 0, .int 0, .null, .int 0, .int 0, .int 0, .int 0, .int 0, .int 0, .int 0, .int 0, .int 0, .int 0, .int 0]
  | 6 => [.null, .int 0, .int 0, .int 0]
  | 7 => [.null, .null, .null, .null, .int 0, .int 0, .int 0, .int 0, .int 0, .int 0, .int 0]
  | 8 => [.null, .int 0, .int 0]
  | 9 => [.null, .null, .null, .null, .null, .null, .null, .null, .null, .int 0, .int 0]
  | _ => [.int 0, .null, .int 0, .int 0, .null, .null, .null, .null, .null, .int 0, .int 0, .int 0, .int 0, .int 0, .null, .null, .null, .null, .int 0, .int 0, .int 0, .int 0, .null, .null, .null, .null, .null, .null, .null, .int 0, .int 0, .int 0, .int 0, .int 0, .int 0, .int 0, .null, .null, .null, .int 0, .int 0, .int 0, .int 0, .int 0, .int 0, .int 0, .int 0, .int 0, .null, .null, .null, .int 0, .null, .int 0, .null, .null, .null, .null, .null]
def tyL : List FieldType := [.int, .long, .byte, .short, .object "TurnsOneWay$Stone", .object "TurnsOneWay$Floor", .object "TurnsOneWay$Shelf"]
abbrev MI : Type := Nat × MethodName × ByteArray × Nat × Option FieldType
def MBo_init : MI := (0, ⟨"TurnsOneWay$Bodies", "<init>", "()V"⟩, prog_2_method_1_code, 1, none)
def MBo_append : MI := (0, ⟨"TurnsOneWay$Bodies", "append", "(I)Z"⟩, prog_2_method_2_code, 2, (some .boolean))
def MBo_kindOf : MI := (0, ⟨"TurnsOneWay$Bodies", "kindOf", "(I)I"⟩, prog_2_method_3_code, 2, (some .int))
def MBo_above : MI := (0, ⟨"TurnsOneWay$Bodies", "above", "(I)I"⟩, prog_2_method_4_code, 1, (some .int))
def MBo_isUnder : MI := (0, ⟨"TurnsOneWay$Bodies", "isUnder", "(II)Z"⟩, prog_2_method_5_code, 4, (some .boolean))
def MBo_ownNumber : MI := (0, ⟨"TurnsOneWay$Bodies", "ownNumber", "(II)I"⟩, prog_2_method_6_code, 3, (some .int))
def MBo_traced : MI := (0, ⟨"TurnsOneWay$Bodies", "traced", "(I)I"⟩, prog_2_method_7_code, 2, (some .int))
def MBo_perform : MI := (0, ⟨"TurnsOneWay$Bodies", "perform", "(III)I"⟩, prog_2_method_8_code, 4, (some .int))
def MBo_ask : MI := (0, ⟨"TurnsOneWay$Bodies", "ask", "(IIII)I"⟩, prog_2_method_9_code, 7, (some .int))
def MBo_run : MI := (0, ⟨"TurnsOneWay$Bodies", "run", "(IIII)I"⟩, prog_2_method_10_code, 5, (some .int))
def MCh_init : MI := (1, ⟨"TurnsOneWay$Changes", "<init>", "()V"⟩, prog_3_method_1_code, 1, none)
def MCh_note : MI := (1, ⟨"TurnsOneWay$Changes", "note", "(IIII)V"⟩, prog_3_method_2_code, 5, none)
def MCh_write : MI := (1, ⟨"TurnsOneWay$Changes", "write", "(II)V"⟩, prog_3_method_3_code, 4, none)
def MCh_part : MI := (1, ⟨"TurnsOneWay$Changes", "part", "(II)I"⟩, prog_3_method_4_code, 4, (some .int))
def MFi_init : MI := (2, ⟨"TurnsOneWay$Film", "<init>", "()V"⟩, prog_4_method_1_code, 1, none)
def MFi_mayCome : MI := (2, ⟨"TurnsOneWay$Film", "mayCome", "(II)Z"⟩, prog_4_method_2_code, 4, (some .boolean))
def MFi_append : MI := (2, ⟨"TurnsOneWay$Film", "append", "(II)Z"⟩, prog_4_method_3_code, 3, (some .boolean))
def MFi_takeFrom : MI := (2, ⟨"TurnsOneWay$Film", "takeFrom", "(LTurnsOneWay$Shelf;II)I"⟩, prog_4_method_4_code, 9, (some .int))
def MFi_tickAt : MI := (2, ⟨"TurnsOneWay$Film", "tickAt", "(I)I"⟩, prog_4_method_5_code, 2, (some .int))
def MFi_turnAt : MI := (2, ⟨"TurnsOneWay$Film", "turnAt", "(I)I"⟩, prog_4_method_6_code, 2, (some .int))
def MFl_init : MI := (3, ⟨"TurnsOneWay$Floor", "<init>", "()V"⟩, prog_5_method_1_code, 1, none)
def MFl_readFrom : MI := (3, ⟨"TurnsOneWay$Floor", "readFrom", "(LTurnsOneWay$Tape;)Z"⟩, prog_5_method_2_code, 4, (some .boolean))
def MFl_readLine : MI := (3, ⟨"TurnsOneWay$Floor", "readLine", "(LTurnsOneWay$Tape;)Z"⟩, prog_5_method_3_code, 3, (some .boolean))
def MFl_readJoined : MI := (3, ⟨"TurnsOneWay$Floor", "readJoined", "(LTurnsOneWay$Tape;II)I"⟩, prog_5_method_4_code, 9, (some .int))
def MFl_levelOf : MI := (3, ⟨"TurnsOneWay$Floor", "levelOf", "(I)I"⟩, prog_5_method_5_code, 1, (some .int))
def MFl_readOne : MI := (3, ⟨"TurnsOneWay$Floor", "readOne", "(LTurnsOneWay$Tape;I)I"⟩, prog_5_method_6_code, 5, (some .int))
def MFl_readOpened : MI := (3, ⟨"TurnsOneWay$Floor", "readOpened", "(LTurnsOneWay$Tape;II)I"⟩, prog_5_method_7_code, 5, (some .int))
def MFl_append : MI := (3, ⟨"TurnsOneWay$Floor", "append", "(III)I"⟩, prog_5_method_8_code, 4, (some .int))
def MFl_appendNumber : MI := (3, ⟨"TurnsOneWay$Floor", "appendNumber", "(I)I"⟩, prog_5_method_9_code, 3, (some .int))
def MFl_name : MI := (3, ⟨"TurnsOneWay$Floor", "name", "(IIII)V"⟩, prog_5_method_10_code, 5, none)
def MFl_takes : MI := (3, ⟨"TurnsOneWay$Floor", "takes", "(II)I"⟩, prog_5_method_11_code, 7, (some .int))
def MFl_valueAt : MI := (3, ⟨"TurnsOneWay$Floor", "valueAt", "(I)I"⟩, prog_5_method_12_code, 2, (some .int))
def MFl_result : MI := (3, ⟨"TurnsOneWay$Floor", "result", "(III)I"⟩, prog_5_method_13_code, 4, (some .int))
def MGo_init : MI := (4, ⟨"TurnsOneWay$Going", "<init>", "()V"⟩, prog_6_method_1_code, 1, none)
def MGo_isThere : MI := (4, ⟨"TurnsOneWay$Going", "isThere", "()Z"⟩, prog_6_method_2_code, 1, (some .boolean))
def MGo_record : MI := (4, ⟨"TurnsOneWay$Going", "record", "(LTurnsOneWay$Motion;I)V"⟩, prog_6_method_3_code, 4, none)
def MGo_note : MI := (4, ⟨"TurnsOneWay$Going", "note", "(LTurnsOneWay$Motion;I)V"⟩, prog_6_method_4_code, 3, none)
def MGo_at : MI := (4, ⟨"TurnsOneWay$Going", "at", "(II)I"⟩, prog_6_method_5_code, 3, (some .int))
def MGo_backTick : MI := (4, ⟨"TurnsOneWay$Going", "backTick", "(I)I"⟩, prog_6_method_6_code, 6, (some .int))
def MGo_summary : MI := (4, ⟨"TurnsOneWay$Going", "summary", "(I)I"⟩, prog_6_method_7_code, 2, (some .int))
def MGo_ended : MI := (4, ⟨"TurnsOneWay$Going", "ended", "()I"⟩, prog_6_method_8_code, 2, (some .int))
def MMo_init : MI := (5, ⟨"TurnsOneWay$Motion", "<init>", "()V"⟩, prog_7_method_1_code, 1, none)
def MMo_rule : MI := (5, ⟨"TurnsOneWay$Motion", "rule", "(LTurnsOneWay$Stone;ILTurnsOneWay$Floor;)V"⟩, prog_7_method_2_code, 4, none)
def MMo_start : MI := (5, ⟨"TurnsOneWay$Motion", "start", "(IIII)V"⟩, prog_7_method_3_code, 5, none)
def MMo_run : MI := (5, ⟨"TurnsOneWay$Motion", "run", "(I)V"⟩, prog_7_method_4_code, 3, none)
def MMo_step : MI := (5, ⟨"TurnsOneWay$Motion", "step", "()V"⟩, prog_7_method_5_code, 2, none)
def MMo_growRattle : MI := (5, ⟨"TurnsOneWay$Motion", "growRattle", "()V"⟩, prog_7_method_6_code, 3, none)
def MMo_grown : MI := (5, ⟨"TurnsOneWay$Motion", "grown", "(III)I"⟩, prog_7_method_7_code, 4, (some .int))
def MMo_pushTurn : MI := (5, ⟨"TurnsOneWay$Motion", "pushTurn", "()V"⟩, prog_7_method_8_code, 4, none)
def MMo_lose : MI := (5, ⟨"TurnsOneWay$Motion", "lose", "()V"⟩, prog_7_method_9_code, 4, none)
def MMo_lossOf : MI := (5, ⟨"TurnsOneWay$Motion", "lossOf", "(II)I"⟩, prog_7_method_10_code, 3, (some .int))
def MMo_nearer : MI := (5, ⟨"TurnsOneWay$Motion", "nearer", "(II)I"⟩, prog_7_method_11_code, 2, (some .int))
def MMo_heldTurn : MI := (5, ⟨"TurnsOneWay$Motion", "heldTurn", "(I)I"⟩, prog_7_method_12_code, 1, (some .int))
def MMo_heldRattle : MI := (5, ⟨"TurnsOneWay$Motion", "heldRattle", "(I)I"⟩, prog_7_method_13_code, 1, (some .int))
def MSh_init : MI := (6, ⟨"TurnsOneWay$Shelf", "<init>", "()V"⟩, prog_8_method_1_code, 1, none)
def MSh_hold : MI := (6, ⟨"TurnsOneWay$Shelf", "hold", "(I)V"⟩, prog_8_method_2_code, 2, none)
def MSh_holdRow : MI := (6, ⟨"TurnsOneWay$Shelf", "holdRow", "(II)V"⟩, prog_8_method_3_code, 4, none)
def MSh_isRow : MI := (6, ⟨"TurnsOneWay$Shelf", "isRow", "()Z"⟩, prog_8_method_4_code, 1, (some .boolean))
def MSh_isRowOf : MI := (6, ⟨"TurnsOneWay$Shelf", "isRowOf", "(I)Z"⟩, prog_8_method_5_code, 2, (some .boolean))
def MSh_isEmpty : MI := (6, ⟨"TurnsOneWay$Shelf", "isEmpty", "()Z"⟩, prog_8_method_6_code, 1, (some .boolean))
def MSh_hasPlaces : MI := (6, ⟨"TurnsOneWay$Shelf", "hasPlaces", "(II)Z"⟩, prog_8_method_7_code, 3, (some .boolean))
def MSh_refusal : MI := (6, ⟨"TurnsOneWay$Shelf", "refusal", "(I)I"⟩, prog_8_method_8_code, 2, (some .int))
def MSh_read : MI := (6, ⟨"TurnsOneWay$Shelf", "read", "(I)J"⟩, prog_8_method_9_code, 2, (some .long))
def MSh_write : MI := (6, ⟨"TurnsOneWay$Shelf", "write", "(IJ)V"⟩, prog_8_method_10_code, 4, none)
def MSh_cutDown : MI := (6, ⟨"TurnsOneWay$Shelf", "cutDown", "(J)J"⟩, prog_8_method_11_code, 3, (some .long))
def MSt_init : MI := (7, ⟨"TurnsOneWay$Stone", "<init>", "()V"⟩, prog_9_method_1_code, 1, none)
def MSt_readFrom : MI := (7, ⟨"TurnsOneWay$Stone", "readFrom", "(LTurnsOneWay$Tape;)Z"⟩, prog_9_method_2_code, 5, (some .boolean))
def MSt_readLump : MI := (7, ⟨"TurnsOneWay$Stone", "readLump", "(LTurnsOneWay$Tape;I)Z"⟩, prog_9_method_3_code, 4, (some .boolean))
def MSt_readSigned : MI := (7, ⟨"TurnsOneWay$Stone", "readSigned", "(LTurnsOneWay$Tape;[II)Z"⟩, prog_9_method_4_code, 5, (some .boolean))
def MSt_readRate : MI := (7, ⟨"TurnsOneWay$Stone", "readRate", "(LTurnsOneWay$Tape;I)Z"⟩, prog_9_method_5_code, 5, (some .boolean))
def MSt_mostRate : MI := (7, ⟨"TurnsOneWay$Stone", "mostRate", "(I)I"⟩, prog_9_method_6_code, 1, (some .int))
def MSt_weigh : MI := (7, ⟨"TurnsOneWay$Stone", "weigh", "()V"⟩, prog_9_method_7_code, 5, none)
def MSt_keen : MI := (7, ⟨"TurnsOneWay$Stone", "keen", "()I"⟩, prog_9_method_8_code, 1, (some .int))
def MSt_keenWith : MI := (7, ⟨"TurnsOneWay$Stone", "keenWith", "(III)I"⟩, prog_9_method_9_code, 9, (some .int))
def MSt_screwPlace : MI := (7, ⟨"TurnsOneWay$Stone", "screwPlace", "(II)I"⟩, prog_9_method_10_code, 5, (some .int))
def MSt_rate : MI := (7, ⟨"TurnsOneWay$Stone", "rate", "(I)I"⟩, prog_9_method_11_code, 2, (some .int))
def MSt_measure : MI := (7, ⟨"TurnsOneWay$Stone", "measure", "(I)I"⟩, prog_9_method_12_code, 2, (some .int))
def MSt_lumpPart : MI := (7, ⟨"TurnsOneWay$Stone", "lumpPart", "(II)I"⟩, prog_9_method_13_code, 3, (some .int))
def MSt_isRate : MI := (7, ⟨"TurnsOneWay$Stone", "isRate", "(I)Z"⟩, prog_9_method_14_code, 1, (some .boolean))
def MSt_mayBecome : MI := (7, ⟨"TurnsOneWay$Stone", "mayBecome", "(II)Z"⟩, prog_9_method_15_code, 3, (some .boolean))
def MSt_change : MI := (7, ⟨"TurnsOneWay$Stone", "change", "(II)I"⟩, prog_9_method_16_code, 5, (some .int))
def MTa_init : MI := (8, ⟨"TurnsOneWay$Tape", "<init>", "()V"⟩, prog_10_method_1_code, 1, none)
def MTa_append : MI := (8, ⟨"TurnsOneWay$Tape", "append", "(I)V"⟩, prog_10_method_2_code, 2, none)
def MTa_clear : MI := (8, ⟨"TurnsOneWay$Tape", "clear", "()V"⟩, prog_10_method_3_code, 1, none)
def MTa_rewind : MI := (8, ⟨"TurnsOneWay$Tape", "rewind", "()V"⟩, prog_10_method_4_code, 1, none)
def MTa_isAtEnd : MI := (8, ⟨"TurnsOneWay$Tape", "isAtEnd", "()Z"⟩, prog_10_method_5_code, 1, (some .boolean))
def MTa_here : MI := (8, ⟨"TurnsOneWay$Tape", "here", "()I"⟩, prog_10_method_6_code, 1, (some .int))
def MTa_skip : MI := (8, ⟨"TurnsOneWay$Tape", "skip", "(I)Z"⟩, prog_10_method_7_code, 2, (some .boolean))
def MTa_digit : MI := (8, ⟨"TurnsOneWay$Tape", "digit", "(I)I"⟩, prog_10_method_8_code, 3, (some .int))
def MTa_number : MI := (8, ⟨"TurnsOneWay$Tape", "number", "(I)I"⟩, prog_10_method_9_code, 6, (some .int))
def MTo_init : MI := (9, ⟨"TurnsOneWay", "<init>", "()V"⟩, prog_1_method_1_code, 2, none)
def MTo_feed : MI := (9, ⟨"TurnsOneWay", "feed", "(II)I"⟩, prog_1_method_2_code, 4, (some .int))
def MTo_stone : MI := (9, ⟨"TurnsOneWay", "stone", "()I"⟩, prog_1_method_3_code, 2, (some .int))
def MTo_of : MI := (9, ⟨"TurnsOneWay", "of", "(II)I"⟩, prog_1_method_4_code, 4, (some .int))
def MTo_lump : MI := (9, ⟨"TurnsOneWay", "lump", "(III)I"⟩, prog_1_method_5_code, 5, (some .int))
def MTo_set : MI := (9, ⟨"TurnsOneWay", "set", "(III)I"⟩, prog_1_method_6_code, 6, (some .int))
def MTo_floor : MI := (9, ⟨"TurnsOneWay", "floor", "()I"⟩, prog_1_method_7_code, 2, (some .int))
def MTo_grows : MI := (9, ⟨"TurnsOneWay", "grows", "(II)I"⟩, prog_1_method_8_code, 5, (some .int))
def MTo_roll : MI := (9, ⟨"TurnsOneWay", "roll", "(IIII)I"⟩, prog_1_method_9_code, 5, (some .int))
def MTo_going : MI := (9, ⟨"TurnsOneWay", "going", "(II)I"⟩, prog_1_method_10_code, 3, (some .int))
def MTo_back : MI := (9, ⟨"TurnsOneWay", "back", "(I)I"⟩, prog_1_method_11_code, 2, (some .int))
def MTo_told : MI := (9, ⟨"TurnsOneWay", "told", "(I)I"⟩, prog_1_method_12_code, 2, (some .int))
def MTo_even : MI := (9, ⟨"TurnsOneWay", "even", "(IIII)I"⟩, prog_1_method_13_code, 6, (some .int))
def MTo_soonest : MI := (9, ⟨"TurnsOneWay", "soonest", "(IIII)I"⟩, prog_1_method_14_code, 9, (some .int))
def MTo_screws : MI := (9, ⟨"TurnsOneWay", "screws", "(III)I"⟩, prog_1_method_15_code, 5, (some .int))
def MTo_lightest : MI := (9, ⟨"TurnsOneWay", "lightest", "(II)I"⟩, prog_1_method_16_code, 5, (some .int))
def MTo_seen : MI := (9, ⟨"TurnsOneWay", "seen", "(III)I"⟩, prog_1_method_17_code, 5, (some .int))
def MTo_pressed : MI := (9, ⟨"TurnsOneWay", "pressed", "(II)I"⟩, prog_1_method_18_code, 3, (some .int))
def MTo_hands : MI := (9, ⟨"TurnsOneWay", "hands", "(III)I"⟩, prog_1_method_19_code, 10, (some .int))
def MTo_frame : MI := (9, ⟨"TurnsOneWay", "frame", "(II)I"⟩, prog_1_method_20_code, 3, (some .int))
def MTo_frames : MI := (9, ⟨"TurnsOneWay", "frames", "(III)I"⟩, prog_1_method_21_code, 5, (some .int))
def MTo_cut : MI := (9, ⟨"TurnsOneWay", "cut", "()I"⟩, prog_1_method_22_code, 2, (some .int))
def MTo_off : MI := (9, ⟨"TurnsOneWay", "off", "(III)I"⟩, prog_1_method_23_code, 4, (some .int))
def MTo_shape : MI := (9, ⟨"TurnsOneWay", "shape", "(III)I"⟩, prog_1_method_24_code, 8, (some .int))
def MTo_span : MI := (9, ⟨"TurnsOneWay", "span", "(III)I"⟩, prog_1_method_25_code, 6, (some .int))
def MTo_which : MI := (9, ⟨"TurnsOneWay", "which", "(II)I"⟩, prog_1_method_26_code, 9, (some .int))
def MTo_chance : MI := (9, ⟨"TurnsOneWay", "chance", "(II)I"⟩, prog_1_method_27_code, 9, (some .int))
def MTo_undo : MI := (9, ⟨"TurnsOneWay", "undo", "()I"⟩, prog_1_method_28_code, 1, (some .int))
def MTo_redo : MI := (9, ⟨"TurnsOneWay", "redo", "()I"⟩, prog_1_method_29_code, 1, (some .int))
def MTo_body : MI := (9, ⟨"TurnsOneWay", "body", "(I)I"⟩, prog_1_method_30_code, 2, (some .int))
def MTo_act : MI := (9, ⟨"TurnsOneWay", "act", "(III)I"⟩, prog_1_method_31_code, 4, (some .int))
def MTo_trace : MI := (9, ⟨"TurnsOneWay", "trace", "(I)I"⟩, prog_1_method_32_code, 2, (some .int))
def MTo_keep : MI := (9, ⟨"TurnsOneWay", "keep", "(II)I"⟩, prog_1_method_33_code, 4, (some .int))
def MTo_row : MI := (9, ⟨"TurnsOneWay", "row", "(III)I"⟩, prog_1_method_34_code, 5, (some .int))
def MTo_put : MI := (9, ⟨"TurnsOneWay", "put", "(IIJ)I"⟩, prog_1_method_35_code, 7, (some .int))
def MTo_element : MI := (9, ⟨"TurnsOneWay", "element", "(II)J"⟩, prog_1_method_36_code, 4, (some .long))
def MTo_shift : MI := (9, ⟨"TurnsOneWay", "shift", "(IIIII)I"⟩, prog_1_method_37_code, 8, (some .int))
def MTo_taken : MI := (9, ⟨"TurnsOneWay", "taken", "(II)I"⟩, prog_1_method_38_code, 5, (some .int))
def MTo_count : MI := (9, ⟨"TurnsOneWay", "count", "(I)I"⟩, prog_1_method_39_code, 2, (some .int))
def MTo_isWithin : MI := (9, ⟨"TurnsOneWay", "isWithin", "(III)Z"⟩, prog_1_method_40_code, 3, (some .boolean))
def MTo_isKeen : MI := (9, ⟨"TurnsOneWay", "isKeen", "(I)Z"⟩, prog_1_method_41_code, 1, (some .boolean))
def MTo_isStart : MI := (9, ⟨"TurnsOneWay", "isStart", "(II)Z"⟩, prog_1_method_42_code, 2, (some .boolean))
def MTo_drawn : MI := (9, ⟨"TurnsOneWay", "drawn", "(I)I"⟩, prog_1_method_43_code, 1, (some .int))
def MTo_stoneAt : MI := (9, ⟨"TurnsOneWay", "stoneAt", "(I)LTurnsOneWay$Stone;"⟩, prog_1_method_44_code, 2, (some (.object "TurnsOneWay$Stone")))
def MTo_floorAt : MI := (9, ⟨"TurnsOneWay", "floorAt", "(I)LTurnsOneWay$Floor;"⟩, prog_1_method_45_code, 2, (some (.object "TurnsOneWay$Floor")))
def MTo_shelfAt : MI := (9, ⟨"TurnsOneWay", "shelfAt", "(I)LTurnsOneWay$Shelf;"⟩, prog_1_method_46_code, 2, (some (.object "TurnsOneWay$Shelf")))
def MTo_isFloorOrNone : MI := (9, ⟨"TurnsOneWay", "isFloorOrNone", "(I)Z"⟩, prog_1_method_47_code, 2, (some .boolean))
def MTo_isGround : MI := (9, ⟨"TurnsOneWay", "isGround", "(I)Z"⟩, prog_1_method_48_code, 2, (some .boolean))
def MTo_lay : MI := (9, ⟨"TurnsOneWay", "lay", "(II)V"⟩, prog_1_method_49_code, 4, none)
def MTo_layOwn : MI := (9, ⟨"TurnsOneWay", "layOwn", "(I)V"⟩, prog_1_method_50_code, 3, none)
def MTo_start : MI := (9, ⟨"TurnsOneWay", "start", "(II)V"⟩, prog_1_method_51_code, 3, none)
def MTo_firstBack : MI := (9, ⟨"TurnsOneWay", "firstBack", "(II)I"⟩, prog_1_method_52_code, 4, (some .int))
def MTo_offBy : MI := (9, ⟨"TurnsOneWay", "offBy", "(III)I"⟩, prog_1_method_53_code, 7, (some .int))
def MTo_changeTo : MI := (9, ⟨"TurnsOneWay", "changeTo", "(I)V"⟩, prog_1_method_54_code, 3, none)
def MRm_init : MI := (10, ⟨"TurnsOneWayModel", "<init>", "()V"⟩, prog_12_method_1_code, 1, none)
def MRm_in : MI := (10, ⟨"TurnsOneWayModel", "in", "(III)Z"⟩, prog_12_method_3_code, 3, (some .boolean))
def MRm_sizeOf : MI := (10, ⟨"TurnsOneWayModel", "sizeOf", "(I)I"⟩, prog_12_method_4_code, 1, (some .int))
def MRm_held : MI := (10, ⟨"TurnsOneWayModel", "held", "(III)I"⟩, prog_12_method_5_code, 3, (some .int))
def MRm_feed : MI := (10, ⟨"TurnsOneWayModel", "feed", "(II)I"⟩, prog_12_method_6_code, 4, (some .int))
def MRm_isStone : MI := (10, ⟨"TurnsOneWayModel", "isStone", "(I)Z"⟩, prog_12_method_7_code, 2, (some .boolean))
def MRm_isHere : MI := (10, ⟨"TurnsOneWayModel", "isHere", "(I)Z"⟩, prog_12_method_8_code, 2, (some .boolean))
def MRm_takes : MI := (10, ⟨"TurnsOneWayModel", "takes", "(I)V"⟩, prog_12_method_9_code, 2, none)
def MRm_digit : MI := (10, ⟨"TurnsOneWayModel", "digit", "(I)I"⟩, prog_12_method_10_code, 3, (some .int))
def MRm_signed : MI := (10, ⟨"TurnsOneWayModel", "signed", "()I"⟩, prog_12_method_11_code, 2, (some .int))
def MRm_readNumber : MI := (10, ⟨"TurnsOneWayModel", "readNumber", "(I)I"⟩, prog_12_method_12_code, 4, (some .int))
def MRm_readLump : MI := (10, ⟨"TurnsOneWayModel", "readLump", "(I)V"⟩, prog_12_method_13_code, 3, none)
def MRm_stone : MI := (10, ⟨"TurnsOneWayModel", "stone", "()I"⟩, prog_12_method_14_code, 3, (some .int))
def MRm_sumOf : MI := (10, ⟨"TurnsOneWayModel", "sumOf", "(III)I"⟩, prog_12_method_15_code, 9, (some .int))
def MRm_wideX : MI := (10, ⟨"TurnsOneWayModel", "wideX", "(I)I"⟩, prog_12_method_16_code, 2, (some .int))
def MRm_wideY : MI := (10, ⟨"TurnsOneWayModel", "wideY", "(I)I"⟩, prog_12_method_17_code, 2, (some .int))
def MRm_slant : MI := (10, ⟨"TurnsOneWayModel", "slant", "(I)I"⟩, prog_12_method_18_code, 2, (some .int))
def MRm_keenOf : MI := (10, ⟨"TurnsOneWayModel", "keenOf", "(I)I"⟩, prog_12_method_19_code, 2, (some .int))
def MRm_of : MI := (10, ⟨"TurnsOneWayModel", "of", "(II)I"⟩, prog_12_method_20_code, 3, (some .int))
def MRm_lump : MI := (10, ⟨"TurnsOneWayModel", "lump", "(III)I"⟩, prog_12_method_21_code, 5, (some .int))
def MRm_valueAt : MI := (10, ⟨"TurnsOneWayModel", "valueAt", "(II)I"⟩, prog_12_method_22_code, 3, (some .int))
def MRm_place : MI := (10, ⟨"TurnsOneWayModel", "place", "(III)V"⟩, prog_12_method_23_code, 4, none)
def MRm_changes : MI := (10, ⟨"TurnsOneWayModel", "changes", "(III)I"⟩, prog_12_method_24_code, 6, (some .int))
def MRm_undo : MI := (10, ⟨"TurnsOneWayModel", "undo", "()I"⟩, prog_12_method_25_code, 1, (some .int))
def MRm_redo : MI := (10, ⟨"TurnsOneWayModel", "redo", "()I"⟩, prog_12_method_26_code, 1, (some .int))
def MRm_set : MI := (10, ⟨"TurnsOneWayModel", "set", "(III)I"⟩, prog_12_method_27_code, 4, (some .int))
def MRm_look : MI := (10, ⟨"TurnsOneWayModel", "look", "()I"⟩, prog_12_method_28_code, 1, (some .int))
def MRm_wrong : MI := (10, ⟨"TurnsOneWayModel", "wrong", "()V"⟩, prog_12_method_29_code, 1, none)
def MRm_addStep : MI := (10, ⟨"TurnsOneWayModel", "addStep", "(II)V"⟩, prog_12_method_30_code, 3, none)
def MRm_nameOf : MI := (10, ⟨"TurnsOneWayModel", "nameOf", "(I)I"⟩, prog_12_method_31_code, 1, (some .int))
def MRm_opens : MI := (10, ⟨"TurnsOneWayModel", "opens", "()Z"⟩, prog_12_method_32_code, 1, (some .boolean))
def MRm_figure : MI := (10, ⟨"TurnsOneWayModel", "figure", "()V"⟩, prog_12_method_33_code, 3, none)
def MRm_operand : MI := (10, ⟨"TurnsOneWayModel", "operand", "()V"⟩, prog_12_method_34_code, 2, none)
def MRm_product : MI := (10, ⟨"TurnsOneWayModel", "product", "()V"⟩, prog_12_method_35_code, 2, none)
def MRm_sum : MI := (10, ⟨"TurnsOneWayModel", "sum", "()V"⟩, prog_12_method_36_code, 2, none)
def MRm_compared : MI := (10, ⟨"TurnsOneWayModel", "compared", "()V"⟩, prog_12_method_37_code, 2, none)
def MRm_both : MI := (10, ⟨"TurnsOneWayModel", "both", "()V"⟩, prog_12_method_38_code, 1, none)
def MRm_either : MI := (10, ⟨"TurnsOneWayModel", "either", "()V"⟩, prog_12_method_39_code, 1, none)
def MRm_line : MI := (10, ⟨"TurnsOneWayModel", "line", "()V"⟩, prog_12_method_40_code, 2, none)
def MRm_readText : MI := (10, ⟨"TurnsOneWayModel", "readText", "(I)I"⟩, prog_12_method_41_code, 3, (some .int))
def MRm_twoOf : MI := (10, ⟨"TurnsOneWayModel", "twoOf", "(III)I"⟩, prog_12_method_42_code, 3, (some .int))
def MRm_worked : MI := (10, ⟨"TurnsOneWayModel", "worked", "(III)I"⟩, prog_12_method_43_code, 7, (some .int))
def MRm_gives : MI := (10, ⟨"TurnsOneWayModel", "gives", "(I)I"⟩, prog_12_method_44_code, 4, (some .int))
def MRm_isFloor : MI := (10, ⟨"TurnsOneWayModel", "isFloor", "(I)Z"⟩, prog_12_method_45_code, 2, (some .boolean))
def MRm_floor : MI := (10, ⟨"TurnsOneWayModel", "floor", "()I"⟩, prog_12_method_46_code, 2, (some .int))
def MRm_grows : MI := (10, ⟨"TurnsOneWayModel", "grows", "(II)I"⟩, prog_12_method_47_code, 4, (some .int))
def MRm_isStart : MI := (10, ⟨"TurnsOneWayModel", "isStart", "(II)Z"⟩, prog_12_method_48_code, 2, (some .boolean))
def MRm_isGoing : MI := (10, ⟨"TurnsOneWayModel", "isGoing", "(I)Z"⟩, prog_12_method_49_code, 2, (some .boolean))
def MRm_begin : MI := (10, ⟨"TurnsOneWayModel", "begin", "(II)V"⟩, prog_12_method_50_code, 3, none)
def MRm_takenBy : MI := (10, ⟨"TurnsOneWayModel", "takenBy", "(IIII)I"⟩, prog_12_method_51_code, 5, (some .int))
def MRm_go : MI := (10, ⟨"TurnsOneWayModel", "go", "(IIII)V"⟩, prog_12_method_52_code, 10, none)
def MRm_note : MI := (10, ⟨"TurnsOneWayModel", "note", "(I)V"⟩, prog_12_method_53_code, 2, none)
def MRm_roll : MI := (10, ⟨"TurnsOneWayModel", "roll", "(IIII)I"⟩, prog_12_method_54_code, 7, (some .int))
def MRm_going : MI := (10, ⟨"TurnsOneWayModel", "going", "(II)I"⟩, prog_12_method_55_code, 3, (some .int))
def MRm_back : MI := (10, ⟨"TurnsOneWayModel", "back", "(I)I"⟩, prog_12_method_56_code, 6, (some .int))
def MRm_told : MI := (10, ⟨"TurnsOneWayModel", "told", "(I)I"⟩, prog_12_method_57_code, 4, (some .int))
def MRm_lookBack : MI := (10, ⟨"TurnsOneWayModel", "lookBack", "(I)V"⟩, prog_12_method_58_code, 3, none)
def MRm_goThrough : MI := (10, ⟨"TurnsOneWayModel", "goThrough", "(IIIII)V"⟩, prog_12_method_59_code, 7, none)
def MRm_even : MI := (10, ⟨"TurnsOneWayModel", "even", "(IIII)I"⟩, prog_12_method_60_code, 5, (some .int))
def MRm_soonest : MI := (10, ⟨"TurnsOneWayModel", "soonest", "(IIII)I"⟩, prog_12_method_61_code, 8, (some .int))
def MRm_screwed : MI := (10, ⟨"TurnsOneWayModel", "screwed", "(III)I"⟩, prog_12_method_62_code, 7, (some .int))
def MRm_screws : MI := (10, ⟨"TurnsOneWayModel", "screws", "(III)I"⟩, prog_12_method_63_code, 4, (some .int))
def MRm_lightest : MI := (10, ⟨"TurnsOneWayModel", "lightest", "(II)I"⟩, prog_12_method_64_code, 4, (some .int))
def MRm_seen : MI := (10, ⟨"TurnsOneWayModel", "seen", "(III)I"⟩, prog_12_method_65_code, 5, (some .int))
def MRm_pressed : MI := (10, ⟨"TurnsOneWayModel", "pressed", "(II)I"⟩, prog_12_method_66_code, 6, (some .int))
def MRm_draw : MI := (10, ⟨"TurnsOneWayModel", "draw", "(I)I"⟩, prog_12_method_67_code, 2, (some .int))
def MRm_hands : MI := (10, ⟨"TurnsOneWayModel", "hands", "(III)I"⟩, prog_12_method_68_code, 9, (some .int))
def MRm_isFrame : MI := (10, ⟨"TurnsOneWayModel", "isFrame", "(II)Z"⟩, prog_12_method_69_code, 3, (some .boolean))
def MRm_addFrame : MI := (10, ⟨"TurnsOneWayModel", "addFrame", "(II)V"⟩, prog_12_method_70_code, 3, none)
def MRm_frame : MI := (10, ⟨"TurnsOneWayModel", "frame", "(II)I"⟩, prog_12_method_71_code, 3, (some .int))
def MRm_frames : MI := (10, ⟨"TurnsOneWayModel", "frames", "(III)I"⟩, prog_12_method_72_code, 8, (some .int))
def MRm_cut : MI := (10, ⟨"TurnsOneWayModel", "cut", "()I"⟩, prog_12_method_73_code, 2, (some .int))
def MRm_offBy : MI := (10, ⟨"TurnsOneWayModel", "offBy", "(IIII)I"⟩, prog_12_method_74_code, 8, (some .int))
def MRm_off : MI := (10, ⟨"TurnsOneWayModel", "off", "(III)I"⟩, prog_12_method_75_code, 4, (some .int))
def MRm_shape : MI := (10, ⟨"TurnsOneWayModel", "shape", "(III)I"⟩, prog_12_method_76_code, 8, (some .int))
def MRm_span : MI := (10, ⟨"TurnsOneWayModel", "span", "(III)I"⟩, prog_12_method_77_code, 6, (some .int))
def MRm_which : MI := (10, ⟨"TurnsOneWayModel", "which", "(II)I"⟩, prog_12_method_78_code, 7, (some .int))
def MRm_chance : MI := (10, ⟨"TurnsOneWayModel", "chance", "(II)I"⟩, prog_12_method_79_code, 9, (some .int))
def MRm_isBody : MI := (10, ⟨"TurnsOneWayModel", "isBody", "(I)Z"⟩, prog_12_method_80_code, 2, (some .boolean))
def MRm_ran : MI := (10, ⟨"TurnsOneWayModel", "ran", "(I)V"⟩, prog_12_method_81_code, 2, none)
def MRm_trace : MI := (10, ⟨"TurnsOneWayModel", "trace", "(I)I"⟩, prog_12_method_82_code, 2, (some .int))
def MRm_body : MI := (10, ⟨"TurnsOneWayModel", "body", "(I)I"⟩, prog_12_method_83_code, 2, (some .int))
def MRm_isUnder : MI := (10, ⟨"TurnsOneWayModel", "isUnder", "(II)Z"⟩, prog_12_method_84_code, 2, (some .boolean))
def MRm_plainRolls : MI := (10, ⟨"TurnsOneWayModel", "plainRolls", "(II)I"⟩, prog_12_method_85_code, 3, (some .int))
def MRm_keptRolls : MI := (10, ⟨"TurnsOneWayModel", "keptRolls", "(II)I"⟩, prog_12_method_86_code, 3, (some .int))
def MRm_rolls : MI := (10, ⟨"TurnsOneWayModel", "rolls", "(II)I"⟩, prog_12_method_87_code, 3, (some .int))
def MRm_plainTrades : MI := (10, ⟨"TurnsOneWayModel", "plainTrades", "(II)I"⟩, prog_12_method_88_code, 3, (some .int))
def MRm_turnedTrades : MI := (10, ⟨"TurnsOneWayModel", "turnedTrades", "(II)I"⟩, prog_12_method_89_code, 3, (some .int))
def MRm_trades : MI := (10, ⟨"TurnsOneWayModel", "trades", "(II)I"⟩, prog_12_method_90_code, 4, (some .int))
def MRm_plainEnds : MI := (10, ⟨"TurnsOneWayModel", "plainEnds", "(II)I"⟩, prog_12_method_91_code, 3, (some .int))
def MRm_ends : MI := (10, ⟨"TurnsOneWayModel", "ends", "(II)I"⟩, prog_12_method_92_code, 4, (some .int))
def MRm_plainTells : MI := (10, ⟨"TurnsOneWayModel", "plainTells", "(II)I"⟩, prog_12_method_93_code, 4, (some .int))
def MRm_tells : MI := (10, ⟨"TurnsOneWayModel", "tells", "(II)I"⟩, prog_12_method_94_code, 4, (some .int))
def MRm_act : MI := (10, ⟨"TurnsOneWayModel", "act", "(III)I"⟩, prog_12_method_95_code, 4, (some .int))
def MRm_count : MI := (10, ⟨"TurnsOneWayModel", "count", "(I)I"⟩, prog_12_method_96_code, 2, (some .int))
def MRm_isShelf : MI := (10, ⟨"TurnsOneWayModel", "isShelf", "(I)Z"⟩, prog_12_method_97_code, 1, (some .boolean))
def MRm_keep : MI := (10, ⟨"TurnsOneWayModel", "keep", "(II)I"⟩, prog_12_method_98_code, 3, (some .int))
def MRm_row : MI := (10, ⟨"TurnsOneWayModel", "row", "(III)I"⟩, prog_12_method_99_code, 5, (some .int))
def MRm_whyNoPlace : MI := (10, ⟨"TurnsOneWayModel", "whyNoPlace", "(II)I"⟩, prog_12_method_100_code, 3, (some .int))
def MRm_put : MI := (10, ⟨"TurnsOneWayModel", "put", "(IIJ)I"⟩, prog_12_method_101_code, 7, (some .int))
def MRm_element : MI := (10, ⟨"TurnsOneWayModel", "element", "(II)J"⟩, prog_12_method_102_code, 3, (some .long))
def MRm_shift : MI := (10, ⟨"TurnsOneWayModel", "shift", "(IIIII)I"⟩, prog_12_method_103_code, 7, (some .int))
def MRm_taken : MI := (10, ⟨"TurnsOneWayModel", "taken", "(II)I"⟩, prog_12_method_104_code, 3, (some .int))
def MIn_signum : MI := (12, ⟨"java/lang/Integer", "signum", "(I)I"⟩, prog_13_method_56_code, 1, (some .int))
def MMa_abs : MI := (13, ⟨"java/lang/Math", "abs", "(I)I"⟩, prog_14_method_59_code, 1, (some .int))
def MMa_max : MI := (13, ⟨"java/lang/Math", "max", "(II)I"⟩, prog_14_method_65_code, 2, (some .int))
def MMa_min : MI := (13, ⟨"java/lang/Math", "min", "(II)I"⟩, prog_14_method_69_code, 2, (some .int))
def MMa_minL : MI := (13, ⟨"java/lang/Math", "min", "(JJ)J"⟩, prog_14_method_70_code, 4, (some .long))
def MLa_law : MI := (11, ⟨"TurnsOneWayLaw", "law", "([I)Z"⟩, code, maxLocals, ret)
def ML_0 : List MI := [MBo_init, MBo_append, MBo_kindOf, MBo_above, MBo_isUnder, MBo_ownNumber, MBo_traced, MBo_perform, MBo_ask, MBo_run, MCh_init, MCh_note, MCh_write, MCh_part, MFi_init, MFi_mayCome, MFi_append, MFi_takeFrom, MFi_tickAt, MFi_turnAt, MFl_init, MFl_readFrom, MFl_readLine, MFl_readJoined, MFl_levelOf, MFl_readOne, MFl_readOpened, MFl_append, MFl_appendNumber, MFl_name]
def ML_1 : List MI := [MFl_takes, MFl_valueAt, MFl_result, MGo_init, MGo_isThere, MGo_record, MGo_note, MGo_at, MGo_backTick, MGo_summary, MGo_ended, MMo_init, MMo_rule, MMo_start, MMo_run, MMo_step, MMo_growRattle, MMo_grown, MMo_pushTurn, MMo_lose, MMo_lossOf, MMo_nearer, MMo_heldTurn, MMo_heldRattle, MSh_init, MSh_hold, MSh_holdRow, MSh_isRow, MSh_isRowOf, MSh_isEmpty]
def ML_2 : List MI := [MSh_hasPlaces, MSh_refusal, MSh_read, MSh_write, MSh_cutDown, MSt_init, MSt_readFrom, MSt_readLump, MSt_readSigned, MSt_readRate, MSt_mostRate, MSt_weigh, MSt_keen, MSt_keenWith, MSt_screwPlace, MSt_rate, MSt_measure, MSt_lumpPart, MSt_isRate, MSt_mayBecome, MSt_change, MTa_init, MTa_append, MTa_clear, MTa_rewind, MTa_isAtEnd, MTa_here, MTa_skip, MTa_digit, MTa_number]
def ML_3 : List MI := [MTo_init, MTo_feed, MTo_stone, MTo_of, MTo_lump, MTo_set, MTo_floor, MTo_grows, MTo_roll, MTo_going, MTo_back, MTo_told, MTo_even, MTo_soonest, MTo_screws, MTo_lightest, MTo_seen, MTo_pressed, MTo_hands, MTo_frame, MTo_frames, MTo_cut, MTo_off, MTo_shape, MTo_span, MTo_which, MTo_chance, MTo_undo, MTo_redo, MTo_body]
def ML_4 : List MI := [MTo_act, MTo_trace, MTo_keep, MTo_row, MTo_put, MTo_element, MTo_shift, MTo_taken, MTo_count, MTo_isWithin, MTo_isKeen, MTo_isStart, MTo_drawn, MTo_stoneAt, MTo_floorAt, MTo_shelfAt, MTo_isFloorOrNone, MTo_isGround, MTo_lay, MTo_layOwn, MTo_start, MTo_firstBack, MTo_offBy, MTo_changeTo, MRm_init, MRm_in, MRm_sizeOf, MRm_held, MRm_feed, MRm_isStone]
def ML_5 : List MI := [MRm_isHere, MRm_takes, MRm_digit, MRm_signed, MRm_readNumber, MRm_readLump, MRm_stone, MRm_sumOf, MRm_wideX, MRm_wideY, MRm_slant, MRm_keenOf, MRm_of, MRm_lump, MRm_valueAt, MRm_place, MRm_changes, MRm_undo, MRm_redo, MRm_set, MRm_look, MRm_wrong, MRm_addStep, MRm_nameOf, MRm_opens, MRm_figure, MRm_operand, MRm_product, MRm_sum, MRm_compared]
def ML_6 : List MI := [MRm_both, MRm_either, MRm_line, MRm_readText, MRm_twoOf, MRm_worked, MRm_gives, MRm_isFloor, MRm_floor, MRm_grows, MRm_isStart, MRm_isGoing, MRm_begin, MRm_takenBy, MRm_go, MRm_note, MRm_roll, MRm_going, MRm_back, MRm_told, MRm_lookBack, MRm_goThrough, MRm_even, MRm_soonest, MRm_screwed, MRm_screws, MRm_lightest, MRm_seen, MRm_pressed, MRm_draw]
def ML_7 : List MI := [MRm_hands, MRm_isFrame, MRm_addFrame, MRm_frame, MRm_frames, MRm_cut, MRm_offBy, MRm_off, MRm_shape, MRm_span, MRm_which, MRm_chance, MRm_isBody, MRm_ran, MRm_trace, MRm_body, MRm_isUnder, MRm_plainRolls, MRm_keptRolls, MRm_rolls, MRm_plainTrades, MRm_turnedTrades, MRm_trades, MRm_plainEnds, MRm_ends, MRm_plainTells, MRm_tells, MRm_act, MRm_count, MRm_isShelf]
def ML_8 : List MI := [MRm_keep, MRm_row, MRm_whyNoPlace, MRm_put, MRm_element, MRm_shift, MRm_taken, MIn_signum]
def mI (j : Nat) : MI := match j / 30 with
  | 0 => ML_0.getD (j % 30) MBo_init
  | 1 => ML_1.getD (j % 30) MBo_init
  | 2 => ML_2.getD (j % 30) MBo_init
  | 3 => ML_3.getD (j % 30) MBo_init
  | 4 => ML_4.getD (j % 30) MBo_init
  | 5 => ML_5.getD (j % 30) MBo_init
  | 6 => ML_6.getD (j % 30) MBo_init
  | 7 => ML_7.getD (j % 30) MBo_init
  | _ => ML_8.getD (j % 30) MBo_init
def CT_0_0 : List (Nat × (Nat × Nat × Nat × Nat) × List Nat) := [(3, (3, 0, 0, 0), [287, 111, 112]), (25, (1, 0, 1, 3), [950, 951, 97]), (35, (0, 0, 1, 2), [935, 936, 937, 97]), (44, (0, 0, 4, 8), [939, 941, 31, 97]), (48, (1, 0, 2, 5), [945, 946, 97]), (52, (0, 0, 4, 9), [953, 955, 32, 97])]
def CT_0 : List (Nat × (Nat × Nat × Nat × Nat) × List Nat) := CT_0_0
def CT_1_0 : List (Nat × (Nat × Nat × Nat × Nat) × List Nat) := [(1, (3, 0, 0, 0), [269, 111, 112]), (17, (10, 0, 0, 0), [572, 574, 573, 103]), (23, (0, 1, 2, 12), [575, 577, 5, 96])]
def CT_1 : List (Nat × (Nat × Nat × Nat × Nat) × List Nat) := CT_1_0
def CT_2_0 : List (Nat × (Nat × Nat × Nat × Nat) × List Nat) := [(3, (3, 0, 0, 0), [252, 111, 112]), (22, (4, 0, 3, 129), [825, 449, 91]), (26, (0, 6, 2, 60), [854, 855, 856, 100]), (32, (0, 6, 1, 62), [858, 859, 860, 100]), (36, (0, 2, 2, 15), [862, 822, 823, 95]), (39, (0, 2, 2, 16), [863, 827, 828, 95])]
def CT_2 : List (Nat × (Nat × Nat × Nat × Nat) × List Nat) := CT_2_0
def CT_3_0 : List (Nat × (Nat × Nat × Nat × Nat) × List Nat) := [(3, (3, 0, 0, 0), [353, 111, 112]), (28, (0, 3, 1, 22), [587, 589, 6, 99]), (32, (0, 8, 1, 87), [600, 483, 484, 92]), (36, (0, 8, 0, 85), [617, 503, 504, 92]), (40, (0, 3, 3, 23), [591, 593, 7, 99]), (44, (0, 3, 3, 27), [601, 603, 9, 99]), (48, (0, 3, 2, 25), [595, 597, 8, 99]), (52, (0, 8, 0, 86), [599, 476, 477, 92]), (56, (1, 0, 1, 24), [614, 615, 99]), (60, (0, 3, 3, 26), [605, 607, 10, 99]), (63, (0, 8, 1, 89), [609, 491, 492, 92]), (66, (0, 3, 1, 28), [610, 612, 11, 99]), (69, (8, 0, 0, 0), [715, 532, 102, 533]), (92, (0, 3, 1, 31), [724, 726, 24, 99]), (95, (7, 0, 0, 0), [728, 535, 102, 536]), (99, (6, 0, 0, 0), [729, 538, 102, 539]), (102, (0, 3, 3, 32), [730, 732, 25, 99])]
def CT_3 : List (Nat × (Nat × Nat × Nat × Nat) × List Nat) := CT_3_0
def CT_4_0 : List (Nat × (Nat × Nat × Nat × Nat) × List Nat) := [(3, (3, 0, 0, 0), [215, 111, 112]), (25, (0, 4, 2, 36), [671, 673, 18, 94]), (29, (0, 5, 0, 45), [675, 676, 677, 93]), (64, (1, 0, 1, 247), [755, 665, 104]), (70, (0, 4, 0, 40), [764, 766, 26, 94])]
def CT_4 : List (Nat × (Nat × Nat × Nat × Nat) × List Nat) := CT_4_0
def CT_5_0 : List (Nat × (Nat × Nat × Nat × Nat) × List Nat) := [(1, (3, 0, 0, 0), [144, 111, 112]), (13, (0, 7, 1, 75), [655, 541, 542, 98]), (50, (1, 0, 1, 247), [664, 665, 104]), (73, (0, 5, 0, 45), [776, 676, 677, 93]), (76, (0, 5, 0, 46), [679, 681, 19, 93]), (79, (0, 5, 0, 48), [700, 702, 21, 93]), (82, (0, 5, 0, 49), [707, 709, 22, 93]), (85, (0, 5, 3, 47), [683, 685, 20, 93]), (89, (1, 0, 1, 53), [692, 693, 93]), (92, (1, 0, 2, 51), [697, 698, 93]), (96, (8, 0, 0, 0), [687, 532, 102, 533]), (103, (9, 0, 0, 0), [689, 690, 102, 691]), (107, (1, 0, 1, 52), [704, 705, 93]), (110, (0, 3, 4, 29), [711, 712, 713, 99]), (116, (0, 5, 2, 50), [716, 718, 23, 93]), (119, (0, 3, 2, 30), [720, 721, 722, 99]), (122, (7, 0, 0, 0), [695, 535, 102, 536]), (124, (6, 0, 0, 0), [696, 538, 102, 539])]
def CT_5 : List (Nat × (Nat × Nat × Nat × Nat) × List Nat) := CT_5_0
def CT_6_0 : List (Nat × (Nat × Nat × Nat × Nat) × List Nat) := [(3, (3, 0, 0, 0), [392, 111, 112]), (25, (0, 6, 0, 57), [842, 843, 844, 100]), (29, (0, 6, 0, 59), [989, 839, 840, 100]), (32, (0, 6, 2, 60), [990, 855, 856, 100]), (36, (0, 6, 1, 64), [995, 997, 33, 100])]
def CT_6 : List (Nat × (Nat × Nat × Nat × Nat) × List Nat) := CT_6_0
def CT_7_0 : List (Nat × (Nat × Nat × Nat × Nat) × List Nat) := [(3, (3, 0, 0, 0), [313, 111, 112]), (28, (0, 7, 2, 67), [467, 469, 0, 98]), (32, (0, 8, 1, 87), [482, 483, 484, 92]), (38, (0, 7, 2, 69), [486, 488, 1, 98]), (41, (0, 7, 0, 71), [498, 500, 2, 98]), (44, (0, 8, 0, 85), [502, 503, 504, 92]), (48, (0, 8, 1, 88), [471, 472, 473, 92]), (52, (1, 0, 3, 68), [479, 480, 98]), (59, (0, 8, 1, 89), [490, 491, 492, 92]), (62, (1, 0, 1, 70), [495, 496, 98]), (83, (0, 7, 3, 73), [527, 529, 4, 98]), (87, (8, 0, 0, 0), [531, 532, 102, 533]), (92, (7, 0, 0, 0), [534, 535, 102, 536]), (96, (6, 0, 0, 0), [537, 538, 102, 539]), (99, (0, 7, 0, 72), [523, 524, 525, 98]), (103, (0, 7, 1, 75), [540, 541, 542, 98]), (107, (1, 0, 1, 78), [561, 562, 98])]
def CT_7 : List (Nat × (Nat × Nat × Nat × Nat) × List Nat) := CT_7_0
def CT_8_0 : List (Nat × (Nat × Nat × Nat × Nat) × List Nat) := [(1, (3, 0, 0, 0), [118, 111, 112]), (20, (0, 8, 0, 86), [475, 476, 477, 92]), (24, (0, 8, 1, 88), [494, 472, 473, 92])]
def CT_8 : List (Nat × (Nat × Nat × Nat × Nat) × List Nat) := CT_8_0
def CT_9_0 : List (Nat × (Nat × Nat × Nat × Nat) × List Nat) := [(1, (3, 0, 0, 0), [110, 111, 112]), (9, (5, 8, 0, 81), [115, 116, 92]), (36, (5, 5, 0, 41), [141, 142, 93]), (43, (5, 4, 0, 33), [212, 213, 94]), (50, (5, 2, 0, 14), [249, 250, 95]), (57, (5, 1, 0, 10), [266, 267, 96]), (64, (5, 0, 0, 0), [284, 285, 97]), (69, (5, 7, 0, 65), [310, 311, 98]), (70, (5, 3, 0, 20), [350, 351, 99]), (71, (5, 6, 0, 54), [389, 390, 100]), (72, (1, 0, 3, 129), [448, 449, 91]), (80, (0, 8, 1, 82), [451, 452, 453, 92]), (87, (0, 8, 0, 84), [459, 460, 461, 92]), (90, (0, 7, 1, 66), [463, 464, 465, 98]), (97, (0, 8, 0, 83), [506, 507, 508, 92]), (100, (0, 9, 1, 133), [514, 516, 3, 91]), (105, (0, 7, 1, 76), [519, 520, 521, 98]), (112, (0, 7, 2, 77), [548, 549, 550, 98]), (116, (0, 7, 2, 79), [557, 558, 559, 98]), (120, (0, 7, 2, 80), [564, 565, 566, 98])]
def CT_9_1 : List (Nat × (Nat × Nat × Nat × Nat) × List Nat) := [(123, (0, 1, 4, 11), [568, 569, 570, 96]), (130, (0, 3, 1, 21), [583, 584, 585, 99]), (131, (0, 7, 0, 72), [622, 524, 525, 98]), (135, (0, 9, 1, 137), [627, 629, 12, 91]), (139, (1, 0, 2, 131), [639, 640, 91]), (142, (0, 9, 1, 139), [643, 645, 15, 91]), (145, (0, 9, 2, 140), [656, 658, 17, 91]), (149, (0, 4, 2, 35), [667, 668, 669, 94]), (156, (0, 4, 0, 34), [738, 739, 740, 94]), (163, (0, 4, 2, 37), [742, 743, 744, 94]), (168, (0, 4, 1, 38), [751, 752, 753, 94]), (171, (0, 4, 1, 39), [760, 761, 762, 94]), (174, (0, 5, 3, 42), [651, 652, 653, 93]), (181, (0, 5, 1, 44), [772, 773, 774, 93]), (185, (0, 9, 1, 136), [631, 633, 13, 91]), (188, (0, 9, 2, 141), [781, 783, 27, 91]), (191, (1, 0, 1, 130), [790, 791, 91]), (194, (0, 7, 2, 74), [793, 794, 795, 98]), (197, (0, 9, 2, 138), [647, 649, 16, 91]), (203, (1, 0, 1, 132), [813, 814, 91])]
def CT_9_2 : List (Nat × (Nat × Nat × Nat × Nat) × List Nat) := [(206, (0, 2, 2, 15), [821, 822, 823, 95]), (209, (0, 2, 2, 16), [826, 827, 828, 95]), (212, (0, 9, 1, 135), [834, 836, 28, 91]), (216, (0, 6, 0, 59), [838, 839, 840, 100]), (219, (0, 6, 1, 58), [846, 847, 848, 100]), (222, (0, 2, 3, 17), [850, 851, 852, 95]), (226, (0, 9, 3, 142), [872, 874, 29, 91]), (230, (6, 0, 0, 0), [901, 538, 102, 539]), (240, (0, 9, 1, 143), [907, 909, 30, 91]), (246, (0, 0, 1, 1), [923, 924, 925, 97]), (249, (0, 0, 3, 7), [931, 932, 933, 97]), (252, (0, 0, 1, 6), [961, 962, 963, 97]), (255, (0, 6, 1, 55), [969, 970, 971, 100]), (258, (0, 6, 2, 56), [977, 978, 979, 100]), (261, (0, 6, 1, 61), [985, 986, 987, 100]), (264, (0, 6, 2, 63), [991, 992, 993, 100]), (272, (0, 6, 1, 62), [1004, 859, 860, 100]), (276, (0, 6, 0, 57), [1009, 843, 844, 100]), (282, (0, 6, 2, 60), [1010, 855, 856, 100]), (289, (10, 0, 0, 0), [1011, 574, 573, 103])]
def CT_9_3 : List (Nat × (Nat × Nat × Nat × Nat) × List Nat) := [(298, (0, 0, 1, 2), [1016, 936, 937, 97]), (301, (1, 0, 2, 4), [1017, 1018, 97]), (309, (0, 9, 1, 134), [635, 637, 14, 91]), (313, (0, 5, 4, 43), [660, 661, 662, 93]), (315, (0, 5, 0, 45), [785, 676, 677, 93]), (321, (0, 2, 1, 19), [876, 877, 878, 95]), (324, (0, 2, 1, 18), [880, 881, 882, 95]), (327, (8, 0, 0, 0), [884, 532, 102, 533]), (330, (0, 1, 2, 13), [911, 912, 913, 96])]
def CT_9 : List (Nat × (Nat × Nat × Nat × Nat) × List Nat) := CT_9_0 ++ (CT_9_1 ++ (CT_9_2 ++ (CT_9_3)))
def CT_10_0 : List (Nat × (Nat × Nat × Nat × Nat) × List Nat) := [(1, (3, 0, 0, 0), [1029, 111, 112]), (107, (1, 0, 3, 145), [1212, 1213, 101]), (123, (0, 10, 1, 150), [1231, 1233, 37, 101]), (127, (0, 10, 1, 152), [1223, 1225, 35, 101]), (131, (0, 10, 0, 153), [1227, 1229, 36, 101]), (135, (0, 10, 1, 155), [1219, 1221, 34, 101]), (139, (0, 10, 1, 151), [1235, 1237, 38, 101]), (142, (0, 10, 1, 154), [1239, 1241, 39, 101]), (154, (0, 10, 3, 157), [1252, 1254, 41, 101]), (158, (0, 10, 1, 160), [1264, 1266, 44, 101]), (161, (0, 10, 1, 158), [1256, 1258, 42, 101]), (164, (0, 10, 1, 159), [1260, 1262, 43, 101]), (167, (1, 0, 1, 146), [1272, 1273, 101]), (170, (1, 0, 3, 147), [1275, 1276, 101]), (173, (0, 10, 1, 149), [1247, 1249, 40, 101]), (177, (0, 10, 1, 161), [1268, 1270, 45, 101]), (180, (0, 10, 2, 164), [1302, 1304, 48, 101]), (190, (0, 10, 3, 165), [1286, 1288, 46, 101]), (194, (0, 10, 3, 166), [1298, 1300, 47, 101]), (203, (0, 10, 0, 171), [1357, 1359, 60, 101])]
def CT_10_1 : List (Nat × (Nat × Nat × Nat × Nat) × List Nat) := [(206, (0, 10, 0, 170), [1342, 1344, 57, 101]), (209, (0, 10, 2, 172), [1349, 1351, 58, 101]), (213, (1, 0, 1, 173), [1346, 1347, 101]), (216, (0, 10, 0, 174), [1353, 1355, 59, 101]), (220, (0, 10, 0, 176), [1338, 1340, 56, 101]), (223, (0, 10, 0, 181), [1318, 1320, 51, 101]), (226, (0, 10, 0, 175), [1361, 1363, 61, 101]), (229, (0, 10, 0, 177), [1334, 1336, 55, 101]), (232, (0, 10, 0, 178), [1330, 1332, 54, 101]), (235, (0, 10, 0, 179), [1326, 1328, 53, 101]), (238, (0, 10, 0, 180), [1322, 1324, 52, 101]), (241, (0, 10, 0, 182), [1314, 1316, 50, 101]), (244, (1, 0, 3, 184), [1410, 1411, 101]), (247, (0, 10, 3, 185), [1406, 1408, 69, 101]), (253, (0, 10, 1, 183), [1310, 1312, 49, 101]), (257, (0, 10, 1, 187), [1377, 1379, 63, 101]), (278, (0, 10, 1, 186), [1402, 1404, 68, 101]), (283, (0, 10, 4, 193), [1398, 1400, 67, 101]), (287, (0, 10, 1, 191), [1373, 1375, 62, 101]), (290, (1, 0, 2, 190), [1381, 1382, 101])]
def CT_10_2 : List (Nat × (Nat × Nat × Nat × Nat) × List Nat) := [(294, (0, 10, 2, 192), [1385, 1387, 64, 101]), (297, (0, 10, 1, 195), [1389, 1391, 65, 101]), (300, (0, 10, 4, 194), [1393, 1395, 66, 101]), (322, (0, 10, 1, 200), [1433, 1435, 71, 101]), (325, (0, 10, 5, 201), [1429, 1431, 70, 101]), (329, (0, 10, 3, 204), [1445, 1447, 72, 101]), (336, (0, 10, 1, 209), [1465, 1467, 73, 101]), (342, (0, 10, 2, 211), [1474, 1476, 74, 101]), (345, (0, 10, 2, 212), [1478, 1480, 75, 101]), (348, (1, 0, 1, 239), [1486, 1487, 101]), (351, (0, 10, 4, 216), [1497, 1499, 76, 101]), (362, (0, 10, 1, 223), [1538, 1540, 79, 101]), (365, (0, 10, 2, 227), [1546, 1548, 81, 101]), (368, (0, 10, 2, 228), [1542, 1544, 80, 101]), (371, (0, 10, 2, 229), [1534, 1536, 78, 101]), (374, (0, 10, 2, 230), [1558, 1560, 84, 101]), (377, (0, 10, 2, 231), [1554, 1556, 83, 101]), (380, (0, 10, 2, 234), [1562, 1564, 85, 101]), (383, (0, 10, 2, 233), [1566, 1568, 86, 101]), (386, (1, 0, 2, 226), [1570, 1571, 101])]
def CT_10_3 : List (Nat × (Nat × Nat × Nat × Nat) × List Nat) := [(389, (0, 10, 2, 232), [1550, 1552, 82, 101]), (392, (0, 10, 2, 235), [1577, 1579, 88, 101]), (395, (0, 10, 1, 222), [1530, 1532, 77, 101]), (398, (0, 10, 2, 236), [1573, 1575, 87, 101]), (401, (0, 10, 2, 242), [1597, 1599, 89, 101])]
def CT_10 : List (Nat × (Nat × Nat × Nat × Nat) × List Nat) := CT_10_0 ++ (CT_10_1 ++ (CT_10_2 ++ (CT_10_3)))
def CT_11_0 : List (Nat × (Nat × Nat × Nat × Nat) × List Nat) := [(9, (2, 9, 0, 90), [107, 108, 91]), (12, (2, 10, 0, 144), [1026, 1027, 101]), (13, (0, 9, 2, 91), [444, 445, 446, 91]), (17, (0, 10, 2, 148), [1208, 1209, 1210, 101]), (18, (0, 9, 0, 92), [455, 456, 457, 91]), (22, (0, 10, 0, 156), [1215, 1216, 1217, 101]), (23, (0, 9, 2, 93), [510, 511, 512, 91]), (26, (0, 10, 2, 162), [1243, 1244, 1245, 101]), (27, (0, 9, 3, 94), [544, 545, 546, 91]), (31, (0, 10, 3, 163), [1278, 1279, 1280, 101]), (32, (0, 9, 3, 95), [553, 554, 555, 91]), (35, (0, 10, 3, 169), [1294, 1295, 1296, 101]), (36, (0, 9, 0, 96), [579, 580, 581, 91]), (39, (0, 10, 0, 188), [1306, 1307, 1308, 101]), (40, (0, 9, 2, 97), [618, 619, 620, 91]), (43, (0, 10, 2, 189), [1365, 1366, 1367, 101]), (44, (0, 9, 4, 98), [623, 624, 625, 91]), (48, (0, 10, 4, 196), [1369, 1370, 1371, 101]), (49, (0, 9, 2, 99), [734, 735, 736, 91]), (52, (0, 10, 2, 197), [1413, 1414, 1415, 101])]
def CT_11_1 : List (Nat × (Nat × Nat × Nat × Nat) × List Nat) := [(53, (0, 9, 1, 100), [747, 748, 749, 91]), (57, (0, 10, 1, 198), [1417, 1418, 1419, 101]), (58, (0, 9, 1, 101), [756, 757, 758, 91]), (61, (0, 10, 1, 199), [1421, 1422, 1423, 101]), (62, (0, 9, 4, 102), [768, 769, 770, 91]), (65, (0, 10, 4, 202), [1425, 1426, 1427, 101]), (66, (0, 9, 4, 103), [777, 778, 779, 91]), (69, (0, 10, 4, 203), [1437, 1438, 1439, 101]), (70, (0, 9, 3, 104), [786, 787, 788, 91]), (73, (0, 10, 3, 205), [1441, 1442, 1443, 101]), (74, (0, 9, 2, 105), [797, 798, 799, 91]), (77, (0, 10, 2, 206), [1449, 1450, 1451, 101]), (78, (0, 9, 3, 106), [801, 802, 803, 91]), (81, (0, 10, 3, 207), [1453, 1454, 1455, 101]), (82, (0, 9, 2, 107), [805, 806, 807, 91]), (85, (0, 10, 2, 208), [1457, 1458, 1459, 101]), (86, (0, 9, 3, 108), [809, 810, 811, 91]), (89, (0, 10, 3, 210), [1461, 1462, 1463, 101]), (90, (0, 9, 2, 109), [817, 818, 819, 91]), (93, (0, 10, 2, 213), [1470, 1471, 1472, 101])]
def CT_11_2 : List (Nat × (Nat × Nat × Nat × Nat) × List Nat) := [(94, (0, 9, 3, 110), [830, 831, 832, 91]), (97, (0, 10, 3, 214), [1482, 1483, 1484, 101]), (98, (0, 9, 0, 111), [864, 865, 866, 91]), (101, (0, 10, 0, 215), [1489, 1490, 1491, 101]), (102, (0, 9, 3, 112), [868, 869, 870, 91]), (105, (0, 10, 3, 217), [1493, 1494, 1495, 101]), (106, (0, 9, 3, 113), [885, 886, 887, 91]), (109, (0, 10, 3, 218), [1501, 1502, 1503, 101]), (110, (0, 9, 3, 114), [889, 890, 891, 91]), (113, (0, 10, 3, 219), [1505, 1506, 1507, 101]), (114, (0, 9, 2, 115), [893, 894, 895, 91]), (117, (0, 10, 2, 220), [1509, 1510, 1511, 101]), (118, (0, 9, 2, 116), [897, 898, 899, 91]), (121, (0, 10, 2, 221), [1513, 1514, 1515, 101]), (122, (0, 9, 0, 117), [903, 904, 905, 91]), (125, (0, 10, 0, 167), [1282, 1283, 1284, 101]), (126, (0, 9, 0, 118), [915, 916, 917, 91]), (129, (0, 10, 0, 168), [1290, 1291, 1292, 101]), (130, (0, 9, 1, 119), [919, 920, 921, 91]), (133, (0, 10, 1, 225), [1522, 1523, 1524, 101])]
def CT_11_3 : List (Nat × (Nat × Nat × Nat × Nat) × List Nat) := [(134, (0, 9, 3, 120), [927, 928, 929, 91]), (137, (0, 10, 3, 237), [1526, 1527, 1528, 101]), (138, (0, 9, 1, 121), [957, 958, 959, 91]), (141, (0, 10, 1, 224), [1518, 1519, 1520, 101]), (142, (0, 9, 2, 122), [965, 966, 967, 91]), (145, (0, 10, 2, 240), [1585, 1586, 1587, 101]), (146, (0, 9, 3, 123), [973, 974, 975, 91]), (149, (0, 10, 3, 241), [1589, 1590, 1591, 101]), (152, (0, 9, 3, 124), [981, 982, 983, 91]), (156, (0, 10, 3, 243), [1593, 1594, 1595, 101]), (157, (0, 9, 2, 125), [999, 1000, 1001, 91]), (161, (0, 10, 2, 244), [1601, 1602, 1603, 101]), (162, (0, 9, 5, 126), [1005, 1006, 1007, 91]), (166, (0, 10, 5, 245), [1606, 1607, 1608, 101]), (167, (0, 9, 2, 127), [1012, 1013, 1014, 91]), (170, (0, 10, 2, 246), [1610, 1611, 1612, 101]), (171, (0, 9, 1, 128), [1020, 1021, 1022, 91]), (174, (0, 10, 1, 238), [1581, 1582, 1583, 101])]
def CT_11 : List (Nat × (Nat × Nat × Nat × Nat) × List Nat) := CT_11_0 ++ (CT_11_1 ++ (CT_11_2 ++ (CT_11_3)))
def CT : Nat → List (Nat × (Nat × Nat × Nat × Nat) × List Nat) := fun o => match o with
  | 0 => CT_0
  | 1 => CT_1
  | 2 => CT_2
  | 3 => CT_3
  | 4 => CT_4
  | 5 => CT_5
  | 6 => CT_6
  | 7 => CT_7
  | 8 => CT_8
  | 9 => CT_9
  | 10 => CT_10
  | 11 => CT_11
  | _ => []
def FT_0_0 : List (Nat × (Nat × Nat × Nat × Nat) × Nat × Nat) := [(11, (0, 0, 1, 1), 0, 288), (15, (0, 1, 1, 1), 0, 289), (18, (0, 2, 0, 0), 0, 290), (32, (0, 3, 0, 0), 0, 292), (38, (0, 5, 0, 0), 0, 295), (41, (0, 4, 0, 0), 0, 294)]
def FT_0 : List (Nat × (Nat × Nat × Nat × Nat) × Nat × Nat) := FT_0_0
def FT_1_0 : List (Nat × (Nat × Nat × Nat × Nat) × Nat × Nat) := [(9, (1, 0, 1, 1), 0, 270), (13, (1, 1, 0, 0), 0, 271), (27, (1, 2, 0, 0), 0, 273)]
def FT_1 : List (Nat × (Nat × Nat × Nat × Nat) × Nat × Nat) := FT_1_0
def FT_2_0 : List (Nat × (Nat × Nat × Nat × Nat) × Nat × Nat) := [(11, (2, 0, 1, 1), 0, 253), (15, (2, 1, 1, 1), 0, 254), (18, (2, 2, 0, 0), 0, 255)]
def FT_2 : List (Nat × (Nat × Nat × Nat × Nat) × Nat × Nat) := FT_2_0
def FT_3_0 : List (Nat × (Nat × Nat × Nat × Nat) × Nat × Nat) := [(11, (3, 0, 1, 1), 0, 354), (15, (3, 1, 1, 1), 0, 355), (18, (3, 2, 1, 1), 0, 356), (21, (3, 3, 1, 1), 0, 357), (24, (3, 4, 0, 0), 0, 358), (74, (3, 7, 0, 0), 0, 361), (77, (3, 8, 0, 0), 0, 362), (80, (3, 9, 0, 0), 0, 363), (83, (3, 10, 0, 0), 0, 364), (86, (3, 5, 0, 0), 0, 359), (89, (3, 6, 0, 0), 0, 360)]
def FT_3 : List (Nat × (Nat × Nat × Nat × Nat) × Nat × Nat) := FT_3_0
def FT_4_0 : List (Nat × (Nat × Nat × Nat × Nat) × Nat × Nat) := [(9, (4, 0, 1, 1), 0, 216), (15, (4, 1, 1, 1), 0, 217), (18, (4, 2, 1, 1), 0, 218), (21, (4, 3, 0, 0), 0, 219), (34, (5, 12, 0, 0), 1, 164), (37, (4, 4, 0, 0), 0, 221), (38, (5, 13, 0, 0), 1, 167), (41, (4, 5, 0, 0), 0, 223), (42, (5, 14, 0, 0), 1, 170), (45, (4, 6, 0, 0), 0, 224), (46, (5, 15, 0, 0), 1, 172), (49, (4, 7, 0, 0), 0, 225), (50, (5, 16, 0, 0), 1, 174), (53, (4, 8, 0, 0), 0, 226), (54, (5, 7, 0, 0), 1, 154), (57, (5, 8, 0, 0), 1, 157), (60, (5, 9, 0, 0), 1, 159)]
def FT_4 : List (Nat × (Nat × Nat × Nat × Nat) × Nat × Nat) := FT_4_0
def FT_5_0 : List (Nat × (Nat × Nat × Nat × Nat) × Nat × Nat) := [(7, (5, 0, 0, 0), 0, 145), (19, (5, 1, 0, 0), 0, 146), (22, (5, 2, 0, 0), 0, 147), (25, (5, 3, 0, 0), 0, 148), (28, (5, 4, 0, 0), 0, 149), (31, (5, 5, 1, 0), 0, 150), (35, (5, 6, 0, 0), 0, 151), (38, (5, 7, 0, 0), 0, 153), (41, (5, 8, 0, 0), 0, 156), (44, (5, 9, 0, 0), 0, 158), (47, (5, 10, 0, 0), 0, 160), (55, (5, 11, 0, 0), 0, 162), (58, (5, 12, 0, 0), 0, 163), (61, (5, 13, 0, 0), 0, 166), (64, (5, 14, 0, 0), 0, 169), (67, (5, 15, 0, 0), 0, 171), (70, (5, 16, 0, 0), 0, 173)]
def FT_5 : List (Nat × (Nat × Nat × Nat × Nat) × Nat × Nat) := FT_5_0
def FT_6_0 : List (Nat × (Nat × Nat × Nat × Nat) × Nat × Nat) := [(11, (6, 0, 1, 1), 0, 393), (15, (6, 1, 0, 0), 0, 395), (19, (6, 2, 0, 0), 0, 397), (22, (6, 3, 0, 0), 0, 399)]
def FT_6 : List (Nat × (Nat × Nat × Nat × Nat) × Nat × Nat) := FT_6_0
def FT_7_0 : List (Nat × (Nat × Nat × Nat × Nat) × Nat × Nat) := [(11, (7, 0, 1, 1), 0, 314), (15, (7, 1, 1, 1), 0, 315), (18, (7, 2, 1, 1), 0, 316), (21, (7, 3, 1, 1), 0, 317), (24, (7, 4, 0, 0), 0, 318), (56, (8, 2, 0, 0), 1, 124), (65, (7, 5, 0, 0), 0, 320), (68, (7, 6, 0, 0), 0, 321), (71, (7, 7, 0, 0), 0, 322), (74, (7, 8, 0, 0), 0, 323), (77, (7, 9, 0, 0), 0, 324), (80, (7, 10, 0, 0), 0, 325)]
def FT_7 : List (Nat × (Nat × Nat × Nat × Nat) × Nat × Nat) := FT_7_0
def FT_8_0 : List (Nat × (Nat × Nat × Nat × Nat) × Nat × Nat) := [(9, (8, 0, 1, 1), 0, 119), (13, (8, 1, 0, 0), 0, 120), (17, (8, 2, 0, 0), 0, 122)]
def FT_8 : List (Nat × (Nat × Nat × Nat × Nat) × Nat × Nat) := FT_8_0
def FT_9_0 : List (Nat × (Nat × Nat × Nat × Nat) × Nat × Nat) := [(10, (9, 0, 1, 1), 0, 410), (18, (9, 1, 1, 1), 0, 411), (24, (9, 2, 1, 1), 0, 412), (30, (9, 3, 1, 1), 0, 413), (37, (9, 4, 1, 1), 0, 414), (44, (9, 5, 1, 1), 0, 415), (51, (9, 6, 1, 1), 0, 416), (58, (9, 7, 1, 1), 0, 417), (65, (9, 8, 1, 1), 0, 418), (76, (8, 1, 0, 0), 1, 121), (84, (9, 9, 0, 0), 0, 419), (94, (8, 2, 0, 0), 1, 123), (109, (7, 4, 0, 0), 1, 319), (127, (9, 10, 0, 0), 0, 420), (153, (5, 7, 0, 0), 1, 155), (160, (4, 3, 0, 0), 1, 220), (165, (4, 4, 0, 0), 1, 222), (178, (5, 6, 0, 0), 1, 152), (184, (5, 12, 0, 0), 1, 165), (200, (5, 13, 0, 0), 1, 168)]
def FT_9_1 : List (Nat × (Nat × Nat × Nat × Nat) × Nat × Nat) := [(211, (2, 2, 0, 0), 1, 256), (237, (1, 1, 0, 0), 1, 272), (243, (1, 2, 0, 0), 1, 274), (248, (0, 2, 0, 0), 1, 291), (279, (6, 2, 0, 0), 1, 398), (285, (6, 0, 1, 1), 1, 394), (295, (6, 1, 0, 0), 1, 396), (304, (0, 3, 0, 0), 1, 293), (318, (5, 10, 0, 0), 1, 161)]
def FT_9 : List (Nat × (Nat × Nat × Nat × Nat) × Nat × Nat) := FT_9_0 ++ (FT_9_1)
def FT_10_0 : List (Nat × (Nat × Nat × Nat × Nat) × Nat × Nat) := [(7, (10, 1, 1, 1), 0, 1030), (13, (10, 4, 1, 1), 0, 1033), (17, (10, 5, 1, 1), 0, 1034), (20, (10, 6, 1, 1), 0, 1035), (23, (10, 7, 1, 1), 0, 1036), (26, (10, 8, 1, 1), 0, 1037), (29, (10, 14, 1, 1), 0, 1043), (32, (10, 15, 1, 1), 0, 1044), (35, (10, 16, 1, 1), 0, 1045), (38, (10, 17, 1, 1), 0, 1046), (41, (10, 22, 1, 1), 0, 1051), (44, (10, 23, 1, 1), 0, 1052), (47, (10, 24, 1, 1), 0, 1053), (50, (10, 25, 1, 1), 0, 1054), (54, (10, 26, 1, 1), 0, 1055), (57, (10, 27, 1, 1), 0, 1056), (60, (10, 28, 1, 1), 0, 1057), (63, (10, 36, 1, 1), 0, 1065), (66, (10, 37, 1, 1), 0, 1066), (69, (10, 38, 1, 1), 0, 1067)]
def FT_10_1 : List (Nat × (Nat × Nat × Nat × Nat) × Nat × Nat) := [(72, (10, 39, 0, 0), 0, 1068), (76, (10, 48, 1, 1), 0, 1077), (79, (10, 49, 1, 1), 0, 1078), (82, (10, 50, 1, 1), 0, 1079), (86, (10, 52, 1, 1), 0, 1081), (89, (10, 54, 1, 1), 0, 1083), (92, (10, 55, 1, 1), 0, 1084), (95, (10, 56, 1, 1), 0, 1085), (98, (10, 57, 1, 1), 0, 1086), (101, (10, 58, 1, 1), 0, 1087), (111, (10, 2, 0, 0), 0, 1031), (114, (10, 3, 0, 0), 0, 1032), (117, (10, 19, 0, 0), 0, 1048), (120, (10, 18, 0, 0), 0, 1047), (145, (10, 9, 0, 0), 0, 1038), (148, (10, 10, 0, 0), 0, 1039), (151, (10, 11, 0, 0), 0, 1040), (184, (10, 13, 0, 0), 0, 1042), (187, (10, 12, 0, 0), 0, 1041), (197, (10, 21, 0, 0), 0, 1050)]
def FT_10_2 : List (Nat × (Nat × Nat × Nat × Nat) × Nat × Nat) := [(200, (10, 20, 0, 0), 0, 1049), (250, (10, 29, 0, 0), 0, 1058), (260, (10, 30, 0, 0), 0, 1059), (263, (10, 31, 0, 0), 0, 1060), (266, (10, 32, 0, 0), 0, 1061), (269, (10, 33, 0, 0), 0, 1062), (272, (10, 34, 0, 0), 0, 1063), (275, (10, 35, 0, 0), 0, 1064), (304, (10, 40, 0, 0), 0, 1069), (307, (10, 41, 0, 0), 0, 1070), (310, (10, 42, 0, 0), 0, 1071), (313, (10, 43, 0, 0), 0, 1072), (316, (10, 44, 0, 0), 0, 1073), (319, (10, 45, 0, 0), 0, 1074), (332, (10, 46, 0, 0), 0, 1075), (339, (10, 47, 0, 0), 0, 1076), (356, (10, 51, 0, 0), 0, 1080), (359, (10, 53, 0, 0), 0, 1082)]
def FT_10 : List (Nat × (Nat × Nat × Nat × Nat) × Nat × Nat) := FT_10_0 ++ (FT_10_1 ++ (FT_10_2))
def FT : Nat → List (Nat × (Nat × Nat × Nat × Nat) × Nat × Nat) := fun o => match o with
  | 0 => FT_0
  | 1 => FT_1
  | 2 => FT_2
  | 3 => FT_3
  | 4 => FT_4
  | 5 => FT_5
  | 6 => FT_6
  | 7 => FT_7
  | 8 => FT_8
  | 9 => FT_9
  | 10 => FT_10
  | _ => []
def NT_9_0 : List (Nat × Nat × List Nat) := [(7, 8, [113, 114, 92]), (16, 7, [133, 309, 98]), (22, 3, [135, 349, 99]), (28, 6, [137, 388, 100]), (34, 5, [139, 140, 93]), (41, 4, [210, 211, 94]), (48, 2, [247, 248, 95]), (55, 1, [264, 265, 96]), (62, 0, [282, 283, 97])]
def NT_9 : List (Nat × Nat × List Nat) := NT_9_0
def NT_11_0 : List (Nat × Nat × List Nat) := [(7, 9, [105, 106, 91]), (10, 10, [1024, 1025, 101])]
def NT_11 : List (Nat × Nat × List Nat) := NT_11_0
def NT : Nat → List (Nat × Nat × List Nat) := fun o => match o with
  | 9 => NT_9
  | 11 => NT_11
  | _ => []
def AT_9_0 : List (Nat × Nat × String × List Nat) := [(16, 4, "TurnsOneWay$Stone", [133, 134]), (22, 5, "TurnsOneWay$Floor", [135, 136]), (28, 6, "TurnsOneWay$Shelf", [137, 138])]
def AT_9 : List (Nat × Nat × String × List Nat) := AT_9_0
def AT : Nat → List (Nat × Nat × String × List Nat) := fun o => match o with
  | 9 => AT_9
  | _ => []
def KT_4_0 : List (Nat × Int32 × Nat) := [(63, -2000000000, 746)]
def KT_4 : List (Nat × Int32 × Nat) := KT_4_0
def KT_7_0 : List (Nat × Int32 × Nat) := [(106, -2000000000, 552)]
def KT_7 : List (Nat × Int32 × Nat) := KT_7_0
def KT_9_0 : List (Nat × Int32 × Nat) := [(104, -2000000000, 518), (307, 999999, 642), (308, 1103515245, 816)]
def KT_9 : List (Nat × Int32 × Nat) := KT_9_0
def KT_10_0 : List (Nat × Int32 × Nat) := [(176, -2000000000, 1251), (256, 999999, 1384), (335, 1103515245, 1469)]
def KT_10 : List (Nat × Int32 × Nat) := KT_10_0
def KT : Nat → List (Nat × Int32 × Nat) := fun o => match o with
  | 4 => KT_4
  | 7 => KT_7
  | 9 => KT_9
  | 10 => KT_10
  | _ => []
def KL_5_0 : List (Nat × Int64 × Nat) := [(101, 1000000, 688)]
def KL_5 : List (Nat × Int64 × Nat) := KL_5_0
def KL_9_0 : List (Nat × Int64 × Nat) := [(235, 1000, 902), (270, -9223372036854775808, 1003)]
def KL_9 : List (Nat × Int64 × Nat) := KL_9_0
def KL_10_0 : List (Nat × Int64 × Nat) := [(281, 1000000, 1397), (354, 1000, 1517), (406, -9223372036854775808, 1605)]
def KL_10 : List (Nat × Int64 × Nat) := KL_10_0
def KL_11_0 : List (Nat × Int64 × Nat) := [(150, 4294967295, 1614)]
def KL_11 : List (Nat × Int64 × Nat) := KL_11_0
def KL : Nat → List (Nat × Int64 × Nat) := fun o => match o with
  | 5 => KL_5
  | 9 => KL_9
  | 10 => KL_10
  | 11 => KL_11
  | _ => []
def toQ (q : Nat × Nat × Nat × Nat) : Nat × Nat × Nat × MI := (q.1, q.2.1, q.2.2.1, mI q.2.2.2)
def fC (o i : Nat) : Option (Nat × Nat × Nat × MI) := ((CT o).find? (fun r => r.1 == i)).map (fun r => toQ r.2.1)
def fF (o i : Nat) : Option (Nat × Nat × Nat × Nat) := ((FT o).find? (fun r => r.1 == i)).map (fun r => r.2.1)
def fN (o i : Nat) : Option Nat := ((NT o).find? (fun r => r.1 == i)).map (fun r => r.2.1)
def fA (o i : Nat) : Option Nat := ((AT o).find? (fun r => r.1 == i)).map (fun r => r.2.1)
def fK (o i : Nat) : Option Int32 := ((KT o).find? (fun r => r.1 == i)).map (fun r => r.2.1)
def fL (o i : Nat) : Option Int64 := ((KL o).find? (fun r => r.1 == i)).map (fun r => r.2.1)
end
section
def nestW (w : Cond) : Bool := match w with
  | .fieldLinkNest _ _ _ _ _ _ => true
  | .methodLinkNest _ _ _ _ => true
  | .arrayOver (.object _) => true
  | _ => false
def codeW (M : MI) : Cond := .code M.2.1 M.2.2.1 M.2.2.2.1 M.2.2.2.2
def callWs (o i : Nat) (q : Nat × Nat × Nat × MI) : List Cond := match q with
  | (0, _, _, M) => [.methodLink (oN o) i M.2.1, .instanceMethod M.2.1, .selects M.2.1.cls M.2.1 M.2.1, .initialized M.2.1.cls]
  | (1, _, _, M) => [.methodLink (oN o) i M.2.1, .static M.2.1, .initialized M.2.1.cls]
  | (2, _, _, M) => [.methodLink (oN o) i M.2.1, .instanceMethod M.2.1, .initialized M.2.1.cls]
  | (3, _, _, _) => [.methodLink (oN o) i objectInit, .instanceMethod objectInit, .code objectInit ⟨#[0xb1]⟩ 1 none]
  | (4, _, _, M) => [.methodLinkNest (oN o) i M.2.1 "TurnsOneWay", .static M.2.1, .initialized M.2.1.cls]
  | (5, _, _, M) => [.methodLinkNest (oN o) i M.2.1 "TurnsOneWay", .instanceMethod M.2.1, .initialized M.2.1.cls]
  | (6, _, _, _) => [.methodLink (oN o) i Lib.Math.max.name, .static Lib.Math.max.name, .initialized "java/lang/Math", .code Lib.Math.max.name Lib.Math.max.code 2 (some .int)]
  | (7, _, _, _) => [.methodLink (oN o) i Lib.Math.min.name, .static Lib.Math.min.name, .initialized "java/lang/Math", .code Lib.Math.min.name Lib.Math.min.code 2 (some .int)]
  | (8, _, _, _) => [.methodLink (oN o) i Lib.Math.abs.name, .static Lib.Math.abs.name, .initialized "java/lang/Math", .code Lib.Math.abs.name Lib.Math.abs.code 1 (some .int)]
  | (9, _, _, _) => [.methodLink (oN o) i Lib.MathLoose.min_long.x, .static Lib.MathLoose.min_long.x, .initialized "java/lang/Math", .code Lib.MathLoose.min_long.x Lib.MathLoose.min_long.code 4 (some .long)]
  | (10, _, _, _) => [.methodLink (oN o) i arraycopyName, .native arraycopyName, .static arraycopyName, .initialized "java/lang/System"]
  | _ => []
def ckW (w : Cond) (p : Nat) : Bool := decide (lw_tbl[p]? = some w) && (goodWord w || nestW w)
def ckWs (l : List Cond) (ps : List Nat) : Bool := l.length == ps.length && (l.zip ps).all (fun z => ckW z.1 z.2)
def okT (w : Cond) : Prop := w ∈ lw_tbl ∧ (goodWord w = true ∨ nestW w = true)
theorem ckW_ok {w : Cond} {p : Nat} (h : ckW w p = true) : okT w := by
  simp only [ckW, Bool.and_eq_true, Bool.or_eq_true, decide_eq_true_eq] at h
  exact ⟨List.mem_of_getElem? h.1, h.2⟩
theorem ckWs_ok {l : List Cond} {ps : List Nat} (h : ckWs l ps = true) : ∀ w ∈ l, okT w := by
  simp only [ckWs, Bool.and_eq_true, beq_iff_eq] at h
  intro w hw
  obtain ⟨k, hk⟩ := List.getElem?_of_mem hw
  have hl : k < l.length := (List.getElem?_eq_some_iff.mp hk).1
  have hl2 : k < ps.length := by rw [← h.1]; exact hl
  have hz : (w, ps[k]) ∈ l.zip ps := by
    refine List.mem_of_getElem? (i := k) ?_
    rw [List.getElem?_zip_eq_some]
    exact ⟨hk, List.getElem?_eq_getElem hl2⟩
  exact ckW_ok (List.all_eq_true.mp h.2 _ hz)
def okMI (M : MI) : Prop := plainName M.2.1.cls = true ∧ M.2.1.cls ≠ "java/lang/invoke/MethodHandle" ∧ M.2.1.cls ≠ "java/lang/invoke/VarHandle" ∧ oN M.1 = M.2.1.cls
def okQ (q : Nat × Nat × Nat × MI) : Prop := (q.1 = 3 ∨ 6 ≤ q.1) ∨ (okMI q.2.2.2 ∧ (parseMethodDescriptor q.2.2.2.2.1.desc).map (fun d => d.parameters.length) = some q.2.2.1 ∧ ((q.1 = 0 ∨ q.1 = 2 ∨ q.1 = 5) → (cls[q.2.1]?).map (fun r => r.1) = some q.2.2.2.2.1.cls) ∧ ((q.1 = 2 ∨ q.1 = 5) → q.2.2.2.2.1.name = "<init>" ∧ q.2.2.2.2.2.2.2 = none))
def ckMI (M : MI) : Bool := plainName M.2.1.cls && decide (M.2.1.cls ≠ "java/lang/invoke/MethodHandle") && decide (M.2.1.cls ≠ "java/lang/invoke/VarHandle") && decide (oN M.1 = M.2.1.cls)
def ckQ (q : Nat × Nat × Nat × MI) : Bool := (q.1 == 3 || Nat.ble 6 q.1) || (ckMI q.2.2.2 && decide ((parseMethodDescriptor q.2.2.2.2.1.desc).map (fun d => d.parameters.length) = some q.2.2.1) && (!(q.1 == 0 || q.1 == 2 || q.1 == 5) || decide ((cls[q.2.1]?).map (fun r => r.1) = some q.2.2.2.2.1.cls)) && (!(q.1 == 2 || q.1 == 5) || (decide (q.2.2.2.2.1.name = "<init>") && q.2.2.2.2.2.2.2.isNone)))
theorem ckMI_ok {M : MI} (h : ckMI M = true) : okMI M := by
  simp only [ckMI, Bool.and_eq_true, decide_eq_true_eq] at h
  exact ⟨h.1.1.1, h.1.1.2, h.1.2, h.2⟩
theorem ckQ_ok {q : Nat × Nat × Nat × MI} (h : ckQ q = true) : okQ q := by
  obtain ⟨k, ci, n, M⟩ := q
  simp only [ckQ, Bool.and_eq_true, decide_eq_true_eq, Bool.or_eq_true, Bool.not_eq_true', beq_iff_eq, Bool.or_eq_false_iff, beq_eq_false_iff_ne, Nat.ble_eq] at h
  unfold okQ
  rcases h with h | ⟨⟨⟨h1, h2⟩, h3⟩, h4⟩
  · exact Or.inl h
  · refine Or.inr ⟨ckMI_ok h1, h2, fun hk => ?_, fun hk => ?_⟩
    · rcases h3 with h3 | h3
      · exfalso
        simp only at hk
        omega
      · exact h3
    · rcases h4 with h4 | h4
      · exfalso
        simp only at hk
        omega
      · exact ⟨h4.1, Option.isNone_iff_eq_none.mp h4.2⟩
def ckC (o : Nat) (r : Nat × (Nat × Nat × Nat × Nat) × List Nat) : Bool := ckWs (callWs o r.1 (toQ r.2.1)) r.2.2 && ckQ (toQ r.2.1)
def wF (o : Nat) (r : Nat × (Nat × Nat × Nat × Nat) × Nat × Nat) : Cond := match cls[r.2.1.1]? with
  | some (C, T, _) => if r.2.2.1 = 1 then .fieldLinkNest (oN o) r.1 C (T r.2.1.2.1).2.1 (T r.2.1.2.1).2.2.1 "TurnsOneWay" else .fieldLink (oN o) r.1 C (T r.2.1.2.1).2.1 (T r.2.1.2.1).2.2.1
  | none => .returned
def ckF (o : Nat) (r : Nat × (Nat × Nat × Nat × Nat) × Nat × Nat) : Bool := match cls[r.2.1.1]? with
  | some (C, T, N) => ckW (wF o r) r.2.2.2 && decide (r.2.1.2.1 < N) && decide ((T r.2.1.2.1).1 = C) && ((T r.2.1.2.1).2.2.2 == (r.2.1.2.2.2 == 1)) && (if r.2.1.2.2.1 = 0 then (T r.2.1.2.1).2.2.1 == "I" else (T r.2.1.2.1).2.2.1 != "I" && (ftC r.2.1.1 r.2.1.2.1).isReference) && (!(r.2.1.2.2.2 == 1) || decide (oN o = C) || true)
  | none => false
def ckN (o : Nat) (r : Nat × Nat × List Nat) : Bool := match cls[r.2.1]? with
  | some (C, _, N) => ckWs [.classLink (oN o) r.1 C, .instantiable C N, .initialized C] r.2.2
  | none => false
def ckA (o : Nat) (r : Nat × Nat × String × List Nat) : Bool := decide (tyL[r.2.1]? = some (.object r.2.2.1)) && ckWs [.classLink (oN o) r.1 r.2.2.1, .arrayOver (.object r.2.2.1)] r.2.2.2
def ckK (o : Nat) (r : Nat × Int32 × Nat) : Bool := ckW (.constant (oN o) r.1 r.2.1) r.2.2
def ckL (o : Nat) (r : Nat × Int64 × Nat) : Bool := ckW (.constantLong (oN o) r.1 r.2.1) r.2.2
set_option maxRecDepth 100000 in
theorem CT_a0_0 : (CT_0_0).all (ckC 0) = true := by decide +kernel
theorem CT_a0 : (CT_0).all (ckC 0) = true := CT_a0_0
set_option maxRecDepth 100000 in
theorem CT_a1_0 : (CT_1_0).all (ckC 1) = true := by decide +kernel
theorem CT_a1 : (CT_1).all (ckC 1) = true := CT_a1_0
set_option maxRecDepth 100000 in
theorem CT_a2_0 : (CT_2_0).all (ckC 2) = true := by decide +kernel
theorem CT_a2 : (CT_2).all (ckC 2) = true := CT_a2_0
set_option maxRecDepth 100000 in
theorem CT_a3_0 : (CT_3_0).all (ckC 3) = true := by decide +kernel
theorem CT_a3 : (CT_3).all (ckC 3) = true := CT_a3_0
set_option maxRecDepth 100000 in
theorem CT_a4_0 : (CT_4_0).all (ckC 4) = true := by decide +kernel
theorem CT_a4 : (CT_4).all (ckC 4) = true := CT_a4_0
set_option maxRecDepth 100000 in
theorem CT_a5_0 : (CT_5_0).all (ckC 5) = true := by decide +kernel
theorem CT_a5 : (CT_5).all (ckC 5) = true := CT_a5_0
set_option maxRecDepth 100000 in
theorem CT_a6_0 : (CT_6_0).all (ckC 6) = true := by decide +kernel
theorem CT_a6 : (CT_6).all (ckC 6) = true := CT_a6_0
set_option maxRecDepth 100000 in
theorem CT_a7_0 : (CT_7_0).all (ckC 7) = true := by decide +kernel
theorem CT_a7 : (CT_7).all (ckC 7) = true := CT_a7_0
set_option maxRecDepth 100000 in
theorem CT_a8_0 : (CT_8_0).all (ckC 8) = true := by decide +kernel
theorem CT_a8 : (CT_8).all (ckC 8) = true := CT_a8_0
set_option maxRecDepth 100000 in
theorem CT_a9_0 : (CT_9_0).all (ckC 9) = true := by decide +kernel
set_option maxRecDepth 100000 in
theorem CT_a9_1 : (CT_9_1).all (ckC 9) = true := by decide +kernel
set_option maxRecDepth 100000 in
theorem CT_a9_2 : (CT_9_2).all (ckC 9) = true := by decide +kernel
set_option maxRecDepth 100000 in
theorem CT_a9_3 : (CT_9_3).all (ckC 9) = true := by decide +kernel
theorem CT_a9 : (CT_9).all (ckC 9) = true := by
  unfold CT_9
  simp only [List.all_append, Bool.and_eq_true]
  exact ⟨CT_a9_0, ⟨CT_a9_1, ⟨CT_a9_2, CT_a9_3⟩⟩⟩
set_option maxRecDepth 100000 in
theorem CT_a10_0 : (CT_10_0).all (ckC 10) = true := by decide +kernel
set_option maxRecDepth 100000 in
theorem CT_a10_1 : (CT_10_1).all (ckC 10) = true := by decide +kernel
set_option maxRecDepth 100000 in
theorem CT_a10_2 : (CT_10_2).all (ckC 10) = true := by decide +kernel
set_option maxRecDepth 100000 in
theorem CT_a10_3 : (CT_10_3).all (ckC 10) = true := by decide +kernel
theorem CT_a10 : (CT_10).all (ckC 10) = true := by
  unfold CT_10
  simp only [List.all_append, Bool.and_eq_true]
  exact ⟨CT_a10_0, ⟨CT_a10_1, ⟨CT_a10_2, CT_a10_3⟩⟩⟩
set_option maxRecDepth 100000 in
theorem CT_a11_0 : (CT_11_0).all (ckC 11) = true := by decide +kernel
set_option maxRecDepth 100000 in
theorem CT_a11_1 : (CT_11_1).all (ckC 11) = true := by decide +kernel
set_option maxRecDepth 100000 in
theorem CT_a11_2 : (CT_11_2).all (ckC 11) = true := by decide +kernel
set_option maxRecDepth 100000 in
theorem CT_a11_3 : (CT_11_3).all (ckC 11) = true := by decide +kernel
theorem CT_a11 : (CT_11).all (ckC 11) = true := by
  unfold CT_11
  simp only [List.all_append, Bool.and_eq_true]
  exact ⟨CT_a11_0, ⟨CT_a11_1, ⟨CT_a11_2, CT_a11_3⟩⟩⟩
theorem CT_all (o : Nat) : (CT o).all (ckC o) = true := by
  unfold CT
  split
  · exact CT_a0
  · exact CT_a1
  · exact CT_a2
  · exact CT_a3
  · exact CT_a4
  · exact CT_a5
  · exact CT_a6
  · exact CT_a7
  · exact CT_a8
  · exact CT_a9
  · exact CT_a10
  · exact CT_a11
  · rfl
set_option maxRecDepth 100000 in
theorem FT_a0_0 : (FT_0_0).all (ckF 0) = true := by decide +kernel
theorem FT_a0 : (FT_0).all (ckF 0) = true := FT_a0_0
set_option maxRecDepth 100000 in
theorem FT_a1_0 : (FT_1_0).all (ckF 1) = true := by decide +kernel
theorem FT_a1 : (FT_1).all (ckF 1) = true := FT_a1_0
set_option maxRecDepth 100000 in
theorem FT_a2_0 : (FT_2_0).all (ckF 2) = true := by decide +kernel
theorem FT_a2 : (FT_2).all (ckF 2) = true := FT_a2_0
set_option maxRecDepth 100000 in
theorem FT_a3_0 : (FT_3_0).all (ckF 3) = true := by decide +kernel
theorem FT_a3 : (FT_3).all (ckF 3) = true := FT_a3_0
set_option maxRecDepth 100000 in
theorem FT_a4_0 : (FT_4_0).all (ckF 4) = true := by decide +kernel
theorem FT_a4 : (FT_4).all (ckF 4) = true := FT_a4_0
set_option maxRecDepth 100000 in
theorem FT_a5_0 : (FT_5_0).all (ckF 5) = true := by decide +kernel
theorem FT_a5 : (FT_5).all (ckF 5) = true := FT_a5_0
set_option maxRecDepth 100000 in
theorem FT_a6_0 : (FT_6_0).all (ckF 6) = true := by decide +kernel
theorem FT_a6 : (FT_6).all (ckF 6) = true := FT_a6_0
set_option maxRecDepth 100000 in
theorem FT_a7_0 : (FT_7_0).all (ckF 7) = true := by decide +kernel
theorem FT_a7 : (FT_7).all (ckF 7) = true := FT_a7_0
set_option maxRecDepth 100000 in
theorem FT_a8_0 : (FT_8_0).all (ckF 8) = true := by decide +kernel
theorem FT_a8 : (FT_8).all (ckF 8) = true := FT_a8_0
set_option maxRecDepth 100000 in
theorem FT_a9_0 : (FT_9_0).all (ckF 9) = true := by decide +kernel
set_option maxRecDepth 100000 in
theorem FT_a9_1 : (FT_9_1).all (ckF 9) = true := by decide +kernel
theorem FT_a9 : (FT_9).all (ckF 9) = true := by
  unfold FT_9
  simp only [List.all_append, Bool.and_eq_true]
  exact ⟨FT_a9_0, FT_a9_1⟩
set_option maxRecDepth 100000 in
theorem FT_a10_0 : (FT_10_0).all (ckF 10) = true := by decide +kernel
set_option maxRecDepth 100000 in
theorem FT_a10_1 : (FT_10_1).all (ckF 10) = true := by decide +kernel
set_option maxRecDepth 100000 in
theorem FT_a10_2 : (FT_10_2).all (ckF 10) = true := by decide +kernel
theorem FT_a10 : (FT_10).all (ckF 10) = true := by
  unfold FT_10
  simp only [List.all_append, Bool.and_eq_true]
  exact ⟨FT_a10_0, ⟨FT_a10_1, FT_a10_2⟩⟩
theorem FT_all (o : Nat) : (FT o).all (ckF o) = true := by
  unfold FT
  split
  · exact FT_a0
  · exact FT_a1
  · exact FT_a2
  · exact FT_a3
  · exact FT_a4
  · exact FT_a5
  · exact FT_a6
  · exact FT_a7
  · exact FT_a8
  · exact FT_a9
  · exact FT_a10
  · rfl
set_option maxRecDepth 100000 in
theorem NT_a9_0 : (NT_9_0).all (ckN 9) = true := by decide +kernel
theorem NT_a9 : (NT_9).all (ckN 9) = true := NT_a9_0
set_option maxRecDepth 100000 in
theorem NT_a11_0 : (NT_11_0).all (ckN 11) = true := by decide +kernel
theorem NT_a11 : (NT_11).all (ckN 11) = true := NT_a11_0
theorem NT_all (o : Nat) : (NT o).all (ckN o) = true := by
  unfold NT
  split
  · exact NT_a9
  · exact NT_a11
  · rfl
set_option maxRecDepth 100000 in
theorem AT_a9_0 : (AT_9_0).all (ckA 9) = true := by decide +kernel
theorem AT_a9 : (AT_9).all (ckA 9) = true := AT_a9_0
theorem AT_all (o : Nat) : (AT o).all (ckA o) = true := by
  unfold AT
  split
  · exact AT_a9
  · rfl
set_option maxRecDepth 100000 in
theorem KT_a4_0 : (KT_4_0).all (ckK 4) = true := by decide +kernel
theorem KT_a4 : (KT_4).all (ckK 4) = true := KT_a4_0
set_option maxRecDepth 100000 in
theorem KT_a7_0 : (KT_7_0).all (ckK 7) = true := by decide +kernel
theorem KT_a7 : (KT_7).all (ckK 7) = true := KT_a7_0
set_option maxRecDepth 100000 in
theorem KT_a9_0 : (KT_9_0).all (ckK 9) = true := by decide +kernel
theorem KT_a9 : (KT_9).all (ckK 9) = true := KT_a9_0
set_option maxRecDepth 100000 in
theorem KT_a10_0 : (KT_10_0).all (ckK 10) = true := by decide +kernel
theorem KT_a10 : (KT_10).all (ckK 10) = true := KT_a10_0
theorem KT_all (o : Nat) : (KT o).all (ckK o) = true := by
  unfold KT
  split
  · exact KT_a4
  · exact KT_a7
  · exact KT_a9
  · exact KT_a10
  · rfl
set_option maxRecDepth 100000 in
theorem KL_a5_0 : (KL_5_0).all (ckL 5) = true := by decide +kernel
theorem KL_a5 : (KL_5).all (ckL 5) = true := KL_a5_0
set_option maxRecDepth 100000 in
theorem KL_a9_0 : (KL_9_0).all (ckL 9) = true := by decide +kernel
theorem KL_a9 : (KL_9).all (ckL 9) = true := KL_a9_0
set_option maxRecDepth 100000 in
theorem KL_a10_0 : (KL_10_0).all (ckL 10) = true := by decide +kernel
theorem KL_a10 : (KL_10).all (ckL 10) = true := KL_a10_0
set_option maxRecDepth 100000 in
theorem KL_a11_0 : (KL_11_0).all (ckL 11) = true := by decide +kernel
theorem KL_a11 : (KL_11).all (ckL 11) = true := KL_a11_0
theorem KL_all (o : Nat) : (KL o).all (ckL o) = true := by
  unfold KL
  split
  · exact KL_a5
  · exact KL_a9
  · exact KL_a10
  · exact KL_a11
  · rfl
set_option maxRecDepth 100000 in
theorem cw_MBo_init : codeW MBo_init ∈ lw_tbl := List.mem_append_right _ (List.mem_append_left _ (List.mem_of_getElem? (i := 196) rfl))
set_option maxRecDepth 100000 in
theorem cw_MBo_append : codeW MBo_append ∈ lw_tbl := List.mem_append_right _ (List.mem_append_right _ (List.mem_append_right _ (List.mem_append_right _ (List.mem_append_left _ (List.mem_of_getElem? (i := 116) rfl)))))
set_option maxRecDepth 100000 in
theorem cw_MBo_kindOf : codeW MBo_kindOf ∈ lw_tbl := List.mem_append_right _ (List.mem_append_right _ (List.mem_append_right _ (List.mem_append_right _ (List.mem_append_left _ (List.mem_of_getElem? (i := 128) rfl)))))
set_option maxRecDepth 100000 in
theorem cw_MBo_above : codeW MBo_above ∈ lw_tbl := List.mem_append_right _ (List.mem_append_right _ (List.mem_append_right _ (List.mem_append_right _ (List.mem_append_left _ (List.mem_of_getElem? (i := 142) rfl)))))
set_option maxRecDepth 100000 in
theorem cw_MBo_isUnder : codeW MBo_isUnder ∈ lw_tbl := List.mem_append_right _ (List.mem_append_right _ (List.mem_append_right _ (List.mem_append_right _ (List.mem_append_left _ (List.mem_of_getElem? (i := 209) rfl)))))
set_option maxRecDepth 100000 in
theorem cw_MBo_ownNumber : codeW MBo_ownNumber ∈ lw_tbl := List.mem_append_right _ (List.mem_append_right _ (List.mem_append_right _ (List.mem_append_right _ (List.mem_append_left _ (List.mem_of_getElem? (i := 137) rfl)))))
set_option maxRecDepth 100000 in
theorem cw_MBo_traced : codeW MBo_traced ∈ lw_tbl := List.mem_append_right _ (List.mem_append_right _ (List.mem_append_right _ (List.mem_append_right _ (List.mem_append_left _ (List.mem_of_getElem? (i := 154) rfl)))))
set_option maxRecDepth 100000 in
theorem cw_MBo_perform : codeW MBo_perform ∈ lw_tbl := List.mem_append_right _ (List.mem_append_right _ (List.mem_append_right _ (List.mem_append_right _ (List.mem_append_left _ (List.mem_of_getElem? (i := 124) rfl)))))
set_option maxRecDepth 100000 in
theorem cw_MBo_ask : codeW MBo_ask ∈ lw_tbl := List.mem_append_right _ (List.mem_append_right _ (List.mem_append_right _ (List.mem_append_right _ (List.mem_append_left _ (List.mem_of_getElem? (i := 132) rfl)))))
set_option maxRecDepth 100000 in
theorem cw_MBo_run : codeW MBo_run ∈ lw_tbl := List.mem_append_right _ (List.mem_append_right _ (List.mem_append_right _ (List.mem_append_right _ (List.mem_append_left _ (List.mem_of_getElem? (i := 146) rfl)))))
set_option maxRecDepth 100000 in
theorem cw_MCh_init : codeW MCh_init ∈ lw_tbl := List.mem_append_right _ (List.mem_append_left _ (List.mem_of_getElem? (i := 178) rfl))
set_option maxRecDepth 100000 in
theorem cw_MCh_note : codeW MCh_note ∈ lw_tbl := List.mem_append_right _ (List.mem_append_right _ (List.mem_append_right _ (List.mem_append_left _ (List.mem_of_getElem? (i := 1) rfl))))
set_option maxRecDepth 100000 in
theorem cw_MCh_write : codeW MCh_write ∈ lw_tbl := List.mem_append_right _ (List.mem_append_right _ (List.mem_append_right _ (List.mem_append_left _ (List.mem_of_getElem? (i := 8) rfl))))
set_option maxRecDepth 100000 in
theorem cw_MCh_part : codeW MCh_part ∈ lw_tbl := List.mem_append_right _ (List.mem_append_right _ (List.mem_append_right _ (List.mem_append_right _ (List.mem_append_left _ (List.mem_of_getElem? (i := 104) rfl)))))
set_option maxRecDepth 100000 in
theorem cw_MFi_init : codeW MFi_init ∈ lw_tbl := List.mem_append_right _ (List.mem_append_left _ (List.mem_of_getElem? (i := 161) rfl))
set_option maxRecDepth 100000 in
theorem cw_MFi_mayCome : codeW MFi_mayCome ∈ lw_tbl := List.mem_append_right _ (List.mem_append_right _ (List.mem_append_right _ (List.mem_append_right _ (List.mem_append_left _ (List.mem_of_getElem? (i := 14) rfl)))))
set_option maxRecDepth 100000 in
theorem cw_MFi_append : codeW MFi_append ∈ lw_tbl := List.mem_append_right _ (List.mem_append_right _ (List.mem_append_right _ (List.mem_append_right _ (List.mem_append_left _ (List.mem_of_getElem? (i := 19) rfl)))))
set_option maxRecDepth 100000 in
theorem cw_MFi_takeFrom : codeW MFi_takeFrom ∈ lw_tbl := List.mem_append_right _ (List.mem_append_right _ (List.mem_append_right _ (List.mem_append_right _ (List.mem_append_left _ (List.mem_of_getElem? (i := 43) rfl)))))
set_option maxRecDepth 100000 in
theorem cw_MFi_tickAt : codeW MFi_tickAt ∈ lw_tbl := List.mem_append_right _ (List.mem_append_right _ (List.mem_append_right _ (List.mem_append_right _ (List.mem_append_left _ (List.mem_of_getElem? (i := 73) rfl)))))
set_option maxRecDepth 100000 in
theorem cw_MFi_turnAt : codeW MFi_turnAt ∈ lw_tbl := List.mem_append_right _ (List.mem_append_right _ (List.mem_append_right _ (List.mem_append_right _ (List.mem_append_left _ (List.mem_of_getElem? (i := 69) rfl)))))
set_option maxRecDepth 100000 in
theorem cw_MFl_init : codeW MFl_init ∈ lw_tbl := List.mem_append_right _ (List.mem_append_right _ (List.mem_append_left _ (List.mem_of_getElem? (i := 22) rfl)))
set_option maxRecDepth 100000 in
theorem cw_MFl_readFrom : codeW MFl_readFrom ∈ lw_tbl := List.mem_append_right _ (List.mem_append_right _ (List.mem_append_right _ (List.mem_append_left _ (List.mem_of_getElem? (i := 16) rfl))))
set_option maxRecDepth 100000 in
theorem cw_MFl_readLine : codeW MFl_readLine ∈ lw_tbl := List.mem_append_right _ (List.mem_append_right _ (List.mem_append_right _ (List.mem_append_left _ (List.mem_of_getElem? (i := 20) rfl))))
set_option maxRecDepth 100000 in
theorem cw_MFl_readJoined : codeW MFl_readJoined ∈ lw_tbl := List.mem_append_right _ (List.mem_append_right _ (List.mem_append_right _ (List.mem_append_left _ (List.mem_of_getElem? (i := 24) rfl))))
set_option maxRecDepth 100000 in
theorem cw_MFl_levelOf : codeW MFl_levelOf ∈ lw_tbl := List.mem_append_right _ (List.mem_append_right _ (List.mem_append_right _ (List.mem_append_left _ (List.mem_of_getElem? (i := 46) rfl))))
set_option maxRecDepth 100000 in
theorem cw_MFl_readOne : codeW MFl_readOne ∈ lw_tbl := List.mem_append_right _ (List.mem_append_right _ (List.mem_append_right _ (List.mem_append_left _ (List.mem_of_getElem? (i := 28) rfl))))
set_option maxRecDepth 100000 in
theorem cw_MFl_readOpened : codeW MFl_readOpened ∈ lw_tbl := List.mem_append_right _ (List.mem_append_right _ (List.mem_append_right _ (List.mem_append_left _ (List.mem_of_getElem? (i := 38) rfl))))
set_option maxRecDepth 100000 in
theorem cw_MFl_append : codeW MFl_append ∈ lw_tbl := List.mem_append_right _ (List.mem_append_right _ (List.mem_append_right _ (List.mem_append_left _ (List.mem_of_getElem? (i := 34) rfl))))
set_option maxRecDepth 100000 in
theorem cw_MFl_appendNumber : codeW MFl_appendNumber ∈ lw_tbl := List.mem_append_right _ (List.mem_append_right _ (List.mem_append_right _ (List.mem_append_left _ (List.mem_of_getElem? (i := 43) rfl))))
set_option maxRecDepth 100000 in
theorem cw_MFl_name : codeW MFl_name ∈ lw_tbl := List.mem_append_right _ (List.mem_append_right _ (List.mem_append_right _ (List.mem_append_left _ (List.mem_of_getElem? (i := 144) rfl))))
set_option maxRecDepth 100000 in
theorem cw_MFl_takes : codeW MFl_takes ∈ lw_tbl := List.mem_append_right _ (List.mem_append_right _ (List.mem_append_right _ (List.mem_append_left _ (List.mem_of_getElem? (i := 153) rfl))))
set_option maxRecDepth 100000 in
theorem cw_MFl_valueAt : codeW MFl_valueAt ∈ lw_tbl := List.mem_append_right _ (List.mem_append_right _ (List.mem_append_right _ (List.mem_append_left _ (List.mem_of_getElem? (i := 157) rfl))))
set_option maxRecDepth 100000 in
theorem cw_MFl_result : codeW MFl_result ∈ lw_tbl := List.mem_append_right _ (List.mem_append_right _ (List.mem_append_right _ (List.mem_append_left _ (List.mem_of_getElem? (i := 163) rfl))))
set_option maxRecDepth 100000 in
theorem cw_MGo_init : codeW MGo_init ∈ lw_tbl := List.mem_append_right _ (List.mem_append_left _ (List.mem_of_getElem? (i := 124) rfl))
set_option maxRecDepth 100000 in
theorem cw_MGo_isThere : codeW MGo_isThere ∈ lw_tbl := List.mem_append_right _ (List.mem_append_right _ (List.mem_append_right _ (List.mem_append_left _ (List.mem_of_getElem? (i := 171) rfl))))
set_option maxRecDepth 100000 in
theorem cw_MGo_record : codeW MGo_record ∈ lw_tbl := List.mem_append_right _ (List.mem_append_right _ (List.mem_append_right _ (List.mem_append_left _ (List.mem_of_getElem? (i := 100) rfl))))
set_option maxRecDepth 100000 in
theorem cw_MGo_note : codeW MGo_note ∈ lw_tbl := List.mem_append_right _ (List.mem_append_right _ (List.mem_append_right _ (List.mem_append_left _ (List.mem_of_getElem? (i := 104) rfl))))
set_option maxRecDepth 100000 in
theorem cw_MGo_at : codeW MGo_at ∈ lw_tbl := List.mem_append_right _ (List.mem_append_right _ (List.mem_append_right _ (List.mem_append_left _ (List.mem_of_getElem? (i := 175) rfl))))
set_option maxRecDepth 100000 in
theorem cw_MGo_backTick : codeW MGo_backTick ∈ lw_tbl := List.mem_append_right _ (List.mem_append_right _ (List.mem_append_right _ (List.mem_append_left _ (List.mem_of_getElem? (i := 184) rfl))))
set_option maxRecDepth 100000 in
theorem cw_MGo_summary : codeW MGo_summary ∈ lw_tbl := List.mem_append_right _ (List.mem_append_right _ (List.mem_append_right _ (List.mem_append_left _ (List.mem_of_getElem? (i := 193) rfl))))
set_option maxRecDepth 100000 in
theorem cw_MGo_ended : codeW MGo_ended ∈ lw_tbl := List.mem_append_right _ (List.mem_append_right _ (List.mem_append_right _ (List.mem_append_left _ (List.mem_of_getElem? (i := 197) rfl))))
set_option maxRecDepth 100000 in
theorem cw_MMo_init : codeW MMo_init ∈ lw_tbl := List.mem_append_right _ (List.mem_append_left _ (List.mem_of_getElem? (i := 53) rfl))
set_option maxRecDepth 100000 in
theorem cw_MMo_rule : codeW MMo_rule ∈ lw_tbl := List.mem_append_right _ (List.mem_append_right _ (List.mem_append_right _ (List.mem_append_left _ (List.mem_of_getElem? (i := 84) rfl))))
set_option maxRecDepth 100000 in
theorem cw_MMo_start : codeW MMo_start ∈ lw_tbl := List.mem_append_right _ (List.mem_append_right _ (List.mem_append_right _ (List.mem_append_left _ (List.mem_of_getElem? (i := 93) rfl))))
set_option maxRecDepth 100000 in
theorem cw_MMo_run : codeW MMo_run ∈ lw_tbl := List.mem_append_right _ (List.mem_append_right _ (List.mem_append_right _ (List.mem_append_left _ (List.mem_of_getElem? (i := 205) rfl))))
set_option maxRecDepth 100000 in
theorem cw_MMo_step : codeW MMo_step ∈ lw_tbl := List.mem_append_right _ (List.mem_append_right _ (List.mem_append_right _ (List.mem_append_left _ (List.mem_of_getElem? (i := 108) rfl))))
set_option maxRecDepth 100000 in
theorem cw_MMo_growRattle : codeW MMo_growRattle ∈ lw_tbl := List.mem_append_right _ (List.mem_append_right _ (List.mem_append_right _ (List.mem_append_left _ (List.mem_of_getElem? (i := 112) rfl))))
set_option maxRecDepth 100000 in
theorem cw_MMo_grown : codeW MMo_grown ∈ lw_tbl := List.mem_append_right _ (List.mem_append_right _ (List.mem_append_right _ (List.mem_append_left _ (List.mem_of_getElem? (i := 116) rfl))))
set_option maxRecDepth 100000 in
theorem cw_MMo_pushTurn : codeW MMo_pushTurn ∈ lw_tbl := List.mem_append_right _ (List.mem_append_right _ (List.mem_append_right _ (List.mem_append_left _ (List.mem_of_getElem? (i := 133) rfl))))
set_option maxRecDepth 100000 in
theorem cw_MMo_lose : codeW MMo_lose ∈ lw_tbl := List.mem_append_right _ (List.mem_append_right _ (List.mem_append_right _ (List.mem_append_left _ (List.mem_of_getElem? (i := 140) rfl))))
set_option maxRecDepth 100000 in
theorem cw_MMo_lossOf : codeW MMo_lossOf ∈ lw_tbl := List.mem_append_right _ (List.mem_append_right _ (List.mem_append_right _ (List.mem_append_left _ (List.mem_of_getElem? (i := 149) rfl))))
set_option maxRecDepth 100000 in
theorem cw_MMo_nearer : codeW MMo_nearer ∈ lw_tbl := List.mem_append_right _ (List.mem_append_right _ (List.mem_append_right _ (List.mem_append_left _ (List.mem_of_getElem? (i := 129) rfl))))
set_option maxRecDepth 100000 in
theorem cw_MMo_heldTurn : codeW MMo_heldTurn ∈ lw_tbl := List.mem_append_right _ (List.mem_append_right _ (List.mem_append_right _ (List.mem_append_left _ (List.mem_of_getElem? (i := 136) rfl))))
set_option maxRecDepth 100000 in
theorem cw_MMo_heldRattle : codeW MMo_heldRattle ∈ lw_tbl := List.mem_append_right _ (List.mem_append_right _ (List.mem_append_right _ (List.mem_append_left _ (List.mem_of_getElem? (i := 124) rfl))))
set_option maxRecDepth 100000 in
theorem cw_MSh_init : codeW MSh_init ∈ lw_tbl := List.mem_append_right _ (List.mem_append_right _ (List.mem_append_left _ (List.mem_of_getElem? (i := 61) rfl)))
set_option maxRecDepth 100000 in
theorem cw_MSh_hold : codeW MSh_hold ∈ lw_tbl := List.mem_append_right _ (List.mem_append_right _ (List.mem_append_right _ (List.mem_append_right _ (List.mem_append_left _ (List.mem_of_getElem? (i := 162) rfl)))))
set_option maxRecDepth 100000 in
theorem cw_MSh_holdRow : codeW MSh_holdRow ∈ lw_tbl := List.mem_append_right _ (List.mem_append_right _ (List.mem_append_right _ (List.mem_append_right _ (List.mem_append_left _ (List.mem_of_getElem? (i := 170) rfl)))))
set_option maxRecDepth 100000 in
theorem cw_MSh_isRow : codeW MSh_isRow ∈ lw_tbl := List.mem_append_right _ (List.mem_append_right _ (List.mem_append_right _ (List.mem_append_right _ (List.mem_append_left _ (List.mem_of_getElem? (i := 35) rfl)))))
set_option maxRecDepth 100000 in
theorem cw_MSh_isRowOf : codeW MSh_isRowOf ∈ lw_tbl := List.mem_append_right _ (List.mem_append_right _ (List.mem_append_right _ (List.mem_append_right _ (List.mem_append_left _ (List.mem_of_getElem? (i := 39) rfl)))))
set_option maxRecDepth 100000 in
theorem cw_MSh_isEmpty : codeW MSh_isEmpty ∈ lw_tbl := List.mem_append_right _ (List.mem_append_right _ (List.mem_append_right _ (List.mem_append_right _ (List.mem_append_left _ (List.mem_of_getElem? (i := 31) rfl)))))
set_option maxRecDepth 100000 in
theorem cw_MSh_hasPlaces : codeW MSh_hasPlaces ∈ lw_tbl := List.mem_append_right _ (List.mem_append_right _ (List.mem_append_right _ (List.mem_append_right _ (List.mem_append_left _ (List.mem_of_getElem? (i := 47) rfl)))))
set_option maxRecDepth 100000 in
theorem cw_MSh_refusal : codeW MSh_refusal ∈ lw_tbl := List.mem_append_right _ (List.mem_append_right _ (List.mem_append_right _ (List.mem_append_right _ (List.mem_append_left _ (List.mem_of_getElem? (i := 178) rfl)))))
set_option maxRecDepth 100000 in
theorem cw_MSh_read : codeW MSh_read ∈ lw_tbl := List.mem_append_right _ (List.mem_append_right _ (List.mem_append_right _ (List.mem_append_right _ (List.mem_append_left _ (List.mem_of_getElem? (i := 51) rfl)))))
set_option maxRecDepth 100000 in
theorem cw_MSh_write : codeW MSh_write ∈ lw_tbl := List.mem_append_right _ (List.mem_append_right _ (List.mem_append_right _ (List.mem_append_right _ (List.mem_append_left _ (List.mem_of_getElem? (i := 184) rfl)))))
set_option maxRecDepth 100000 in
theorem cw_MSh_cutDown : codeW MSh_cutDown ∈ lw_tbl := List.mem_append_right _ (List.mem_append_right _ (List.mem_append_right _ (List.mem_append_right _ (List.mem_append_left _ (List.mem_of_getElem? (i := 188) rfl)))))
set_option maxRecDepth 100000 in
theorem cw_MSt_init : codeW MSt_init ∈ lw_tbl := List.mem_append_right _ (List.mem_append_left _ (List.mem_of_getElem? (i := 222) rfl))
set_option maxRecDepth 100000 in
theorem cw_MSt_readFrom : codeW MSt_readFrom ∈ lw_tbl := List.mem_append_right _ (List.mem_append_right _ (List.mem_append_left _ (List.mem_of_getElem? (i := 136) rfl)))
set_option maxRecDepth 100000 in
theorem cw_MSt_readLump : codeW MSt_readLump ∈ lw_tbl := List.mem_append_right _ (List.mem_append_right _ (List.mem_append_left _ (List.mem_of_getElem? (i := 140) rfl)))
set_option maxRecDepth 100000 in
theorem cw_MSt_readSigned : codeW MSt_readSigned ∈ lw_tbl := List.mem_append_right _ (List.mem_append_right _ (List.mem_append_left _ (List.mem_of_getElem? (i := 151) rfl)))
set_option maxRecDepth 100000 in
theorem cw_MSt_readRate : codeW MSt_readRate ∈ lw_tbl := List.mem_append_right _ (List.mem_append_right _ (List.mem_append_left _ (List.mem_of_getElem? (i := 159) rfl)))
set_option maxRecDepth 100000 in
theorem cw_MSt_mostRate : codeW MSt_mostRate ∈ lw_tbl := List.mem_append_right _ (List.mem_append_right _ (List.mem_append_left _ (List.mem_of_getElem? (i := 167) rfl)))
set_option maxRecDepth 100000 in
theorem cw_MSt_weigh : codeW MSt_weigh ∈ lw_tbl := List.mem_append_right _ (List.mem_append_right _ (List.mem_append_left _ (List.mem_of_getElem? (i := 171) rfl)))
set_option maxRecDepth 100000 in
theorem cw_MSt_keen : codeW MSt_keen ∈ lw_tbl := List.mem_append_right _ (List.mem_append_right _ (List.mem_append_left _ (List.mem_of_getElem? (i := 196) rfl)))
set_option maxRecDepth 100000 in
theorem cw_MSt_keenWith : codeW MSt_keenWith ∈ lw_tbl := List.mem_append_right _ (List.mem_append_right _ (List.mem_append_left _ (List.mem_of_getElem? (i := 200) rfl)))
set_option maxRecDepth 100000 in
theorem cw_MSt_screwPlace : codeW MSt_screwPlace ∈ lw_tbl := List.mem_append_right _ (List.mem_append_right _ (List.mem_append_right _ (List.mem_append_left _ (List.mem_of_getElem? (i := 226) rfl))))
set_option maxRecDepth 100000 in
theorem cw_MSt_rate : codeW MSt_rate ∈ lw_tbl := List.mem_append_right _ (List.mem_append_right _ (List.mem_append_left _ (List.mem_of_getElem? (i := 213) rfl)))
set_option maxRecDepth 100000 in
theorem cw_MSt_measure : codeW MSt_measure ∈ lw_tbl := List.mem_append_right _ (List.mem_append_right _ (List.mem_append_left _ (List.mem_of_getElem? (i := 192) rfl)))
set_option maxRecDepth 100000 in
theorem cw_MSt_lumpPart : codeW MSt_lumpPart ∈ lw_tbl := List.mem_append_right _ (List.mem_append_right _ (List.mem_append_left _ (List.mem_of_getElem? (i := 221) rfl)))
set_option maxRecDepth 100000 in
theorem cw_MSt_isRate : codeW MSt_isRate ∈ lw_tbl := List.mem_append_right _ (List.mem_append_right _ (List.mem_append_left _ (List.mem_of_getElem? (i := 233) rfl)))
set_option maxRecDepth 100000 in
theorem cw_MSt_mayBecome : codeW MSt_mayBecome ∈ lw_tbl := List.mem_append_right _ (List.mem_append_right _ (List.mem_append_left _ (List.mem_of_getElem? (i := 230) rfl)))
set_option maxRecDepth 100000 in
theorem cw_MSt_change : codeW MSt_change ∈ lw_tbl := List.mem_append_right _ (List.mem_append_right _ (List.mem_append_left _ (List.mem_of_getElem? (i := 237) rfl)))
set_option maxRecDepth 100000 in
theorem cw_MTa_init : codeW MTa_init ∈ lw_tbl := List.mem_append_right _ (List.mem_append_left _ (List.mem_of_getElem? (i := 27) rfl))
set_option maxRecDepth 100000 in
theorem cw_MTa_append : codeW MTa_append ∈ lw_tbl := List.mem_append_right _ (List.mem_append_right _ (List.mem_append_left _ (List.mem_of_getElem? (i := 124) rfl)))
set_option maxRecDepth 100000 in
theorem cw_MTa_clear : codeW MTa_clear ∈ lw_tbl := List.mem_append_right _ (List.mem_append_right _ (List.mem_append_left _ (List.mem_of_getElem? (i := 179) rfl)))
set_option maxRecDepth 100000 in
theorem cw_MTa_rewind : codeW MTa_rewind ∈ lw_tbl := List.mem_append_right _ (List.mem_append_right _ (List.mem_append_left _ (List.mem_of_getElem? (i := 132) rfl)))
set_option maxRecDepth 100000 in
theorem cw_MTa_isAtEnd : codeW MTa_isAtEnd ∈ lw_tbl := List.mem_append_right _ (List.mem_append_right _ (List.mem_append_left _ (List.mem_of_getElem? (i := 175) rfl)))
set_option maxRecDepth 100000 in
theorem cw_MTa_here : codeW MTa_here ∈ lw_tbl := List.mem_append_right _ (List.mem_append_right _ (List.mem_append_left _ (List.mem_of_getElem? (i := 148) rfl)))
set_option maxRecDepth 100000 in
theorem cw_MTa_skip : codeW MTa_skip ∈ lw_tbl := List.mem_append_right _ (List.mem_append_right _ (List.mem_append_left _ (List.mem_of_getElem? (i := 155) rfl)))
set_option maxRecDepth 100000 in
theorem cw_MTa_digit : codeW MTa_digit ∈ lw_tbl := List.mem_append_right _ (List.mem_append_right _ (List.mem_append_left _ (List.mem_of_getElem? (i := 144) rfl)))
set_option maxRecDepth 100000 in
theorem cw_MTa_number : codeW MTa_number ∈ lw_tbl := List.mem_append_right _ (List.mem_append_right _ (List.mem_append_left _ (List.mem_of_getElem? (i := 163) rfl)))
set_option maxRecDepth 100000 in
theorem cw_MTo_init : codeW MTo_init ∈ lw_tbl := List.mem_append_right _ (List.mem_append_left _ (List.mem_of_getElem? (i := 19) rfl))
set_option maxRecDepth 100000 in
theorem cw_MTo_feed : codeW MTo_feed ∈ lw_tbl := List.mem_append_right _ (List.mem_append_right _ (List.mem_append_left _ (List.mem_of_getElem? (i := 117) rfl)))
set_option maxRecDepth 100000 in
theorem cw_MTo_stone : codeW MTo_stone ∈ lw_tbl := List.mem_append_right _ (List.mem_append_right _ (List.mem_append_left _ (List.mem_of_getElem? (i := 128) rfl)))
set_option maxRecDepth 100000 in
theorem cw_MTo_of : codeW MTo_of ∈ lw_tbl := List.mem_append_right _ (List.mem_append_right _ (List.mem_append_left _ (List.mem_of_getElem? (i := 183) rfl)))
set_option maxRecDepth 100000 in
theorem cw_MTo_lump : codeW MTo_lump ∈ lw_tbl := List.mem_append_right _ (List.mem_append_right _ (List.mem_append_left _ (List.mem_of_getElem? (i := 217) rfl)))
set_option maxRecDepth 100000 in
theorem cw_MTo_set : codeW MTo_set ∈ lw_tbl := List.mem_append_right _ (List.mem_append_right _ (List.mem_append_left _ (List.mem_of_getElem? (i := 226) rfl)))
set_option maxRecDepth 100000 in
theorem cw_MTo_floor : codeW MTo_floor ∈ lw_tbl := List.mem_append_right _ (List.mem_append_right _ (List.mem_append_right _ (List.mem_append_left _ (List.mem_of_getElem? (i := 12) rfl))))
set_option maxRecDepth 100000 in
theorem cw_MTo_grows : codeW MTo_grows ∈ lw_tbl := List.mem_append_right _ (List.mem_append_right _ (List.mem_append_right _ (List.mem_append_left _ (List.mem_of_getElem? (i := 51) rfl))))
set_option maxRecDepth 100000 in
theorem cw_MTo_roll : codeW MTo_roll ∈ lw_tbl := List.mem_append_right _ (List.mem_append_right _ (List.mem_append_right _ (List.mem_append_left _ (List.mem_of_getElem? (i := 56) rfl))))
set_option maxRecDepth 100000 in
theorem cw_MTo_going : codeW MTo_going ∈ lw_tbl := List.mem_append_right _ (List.mem_append_right _ (List.mem_append_right _ (List.mem_append_left _ (List.mem_of_getElem? (i := 167) rfl))))
set_option maxRecDepth 100000 in
theorem cw_MTo_back : codeW MTo_back ∈ lw_tbl := List.mem_append_right _ (List.mem_append_right _ (List.mem_append_right _ (List.mem_append_left _ (List.mem_of_getElem? (i := 180) rfl))))
set_option maxRecDepth 100000 in
theorem cw_MTo_told : codeW MTo_told ∈ lw_tbl := List.mem_append_right _ (List.mem_append_right _ (List.mem_append_right _ (List.mem_append_left _ (List.mem_of_getElem? (i := 189) rfl))))
set_option maxRecDepth 100000 in
theorem cw_MTo_even : codeW MTo_even ∈ lw_tbl := List.mem_append_right _ (List.mem_append_right _ (List.mem_append_right _ (List.mem_append_left _ (List.mem_of_getElem? (i := 201) rfl))))
set_option maxRecDepth 100000 in
theorem cw_MTo_soonest : codeW MTo_soonest ∈ lw_tbl := List.mem_append_right _ (List.mem_append_right _ (List.mem_append_right _ (List.mem_append_left _ (List.mem_of_getElem? (i := 210) rfl))))
set_option maxRecDepth 100000 in
theorem cw_MTo_screws : codeW MTo_screws ∈ lw_tbl := List.mem_append_right _ (List.mem_append_right _ (List.mem_append_right _ (List.mem_append_left _ (List.mem_of_getElem? (i := 219) rfl))))
set_option maxRecDepth 100000 in
theorem cw_MTo_lightest : codeW MTo_lightest ∈ lw_tbl := List.mem_append_right _ (List.mem_append_right _ (List.mem_append_right _ (List.mem_append_left _ (List.mem_of_getElem? (i := 230) rfl))))
set_option maxRecDepth 100000 in
theorem cw_MTo_seen : codeW MTo_seen ∈ lw_tbl := List.mem_append_right _ (List.mem_append_right _ (List.mem_append_right _ (List.mem_append_left _ (List.mem_of_getElem? (i := 234) rfl))))
set_option maxRecDepth 100000 in
theorem cw_MTo_pressed : codeW MTo_pressed ∈ lw_tbl := List.mem_append_right _ (List.mem_append_right _ (List.mem_append_right _ (List.mem_append_left _ (List.mem_of_getElem? (i := 238) rfl))))
set_option maxRecDepth 100000 in
theorem cw_MTo_hands : codeW MTo_hands ∈ lw_tbl := List.mem_append_right _ (List.mem_append_right _ (List.mem_append_right _ (List.mem_append_right _ (List.mem_append_left _ (List.mem_of_getElem? (i := 2) rfl)))))
set_option maxRecDepth 100000 in
theorem cw_MTo_frame : codeW MTo_frame ∈ lw_tbl := List.mem_append_right _ (List.mem_append_right _ (List.mem_append_right _ (List.mem_append_right _ (List.mem_append_left _ (List.mem_of_getElem? (i := 10) rfl)))))
set_option maxRecDepth 100000 in
theorem cw_MTo_frames : codeW MTo_frames ∈ lw_tbl := List.mem_append_right _ (List.mem_append_right _ (List.mem_append_right _ (List.mem_append_right _ (List.mem_append_left _ (List.mem_of_getElem? (i := 23) rfl)))))
set_option maxRecDepth 100000 in
theorem cw_MTo_cut : codeW MTo_cut ∈ lw_tbl := List.mem_append_right _ (List.mem_append_right _ (List.mem_append_right _ (List.mem_append_right _ (List.mem_append_left _ (List.mem_of_getElem? (i := 57) rfl)))))
set_option maxRecDepth 100000 in
theorem cw_MTo_off : codeW MTo_off ∈ lw_tbl := List.mem_append_right _ (List.mem_append_right _ (List.mem_append_right _ (List.mem_append_right _ (List.mem_append_left _ (List.mem_of_getElem? (i := 61) rfl)))))
set_option maxRecDepth 100000 in
theorem cw_MTo_shape : codeW MTo_shape ∈ lw_tbl := List.mem_append_right _ (List.mem_append_right _ (List.mem_append_right _ (List.mem_append_right _ (List.mem_append_left _ (List.mem_of_getElem? (i := 78) rfl)))))
set_option maxRecDepth 100000 in
theorem cw_MTo_span : codeW MTo_span ∈ lw_tbl := List.mem_append_right _ (List.mem_append_right _ (List.mem_append_right _ (List.mem_append_right _ (List.mem_append_left _ (List.mem_of_getElem? (i := 82) rfl)))))
set_option maxRecDepth 100000 in
theorem cw_MTo_which : codeW MTo_which ∈ lw_tbl := List.mem_append_right _ (List.mem_append_right _ (List.mem_append_right _ (List.mem_append_right _ (List.mem_append_left _ (List.mem_of_getElem? (i := 86) rfl)))))
set_option maxRecDepth 100000 in
theorem cw_MTo_chance : codeW MTo_chance ∈ lw_tbl := List.mem_append_right _ (List.mem_append_right _ (List.mem_append_right _ (List.mem_append_right _ (List.mem_append_left _ (List.mem_of_getElem? (i := 90) rfl)))))
set_option maxRecDepth 100000 in
theorem cw_MTo_undo : codeW MTo_undo ∈ lw_tbl := List.mem_append_right _ (List.mem_append_right _ (List.mem_append_right _ (List.mem_append_right _ (List.mem_append_left _ (List.mem_of_getElem? (i := 96) rfl)))))
set_option maxRecDepth 100000 in
theorem cw_MTo_redo : codeW MTo_redo ∈ lw_tbl := List.mem_append_right _ (List.mem_append_right _ (List.mem_append_right _ (List.mem_append_right _ (List.mem_append_left _ (List.mem_of_getElem? (i := 108) rfl)))))
set_option maxRecDepth 100000 in
theorem cw_MTo_body : codeW MTo_body ∈ lw_tbl := List.mem_append_right _ (List.mem_append_right _ (List.mem_append_right _ (List.mem_append_right _ (List.mem_append_left _ (List.mem_of_getElem? (i := 112) rfl)))))
set_option maxRecDepth 100000 in
theorem cw_MTo_act : codeW MTo_act ∈ lw_tbl := List.mem_append_right _ (List.mem_append_right _ (List.mem_append_right _ (List.mem_append_right _ (List.mem_append_left _ (List.mem_of_getElem? (i := 120) rfl)))))
set_option maxRecDepth 100000 in
theorem cw_MTo_trace : codeW MTo_trace ∈ lw_tbl := List.mem_append_right _ (List.mem_append_right _ (List.mem_append_right _ (List.mem_append_right _ (List.mem_append_left _ (List.mem_of_getElem? (i := 150) rfl)))))
set_option maxRecDepth 100000 in
theorem cw_MTo_keep : codeW MTo_keep ∈ lw_tbl := List.mem_append_right _ (List.mem_append_right _ (List.mem_append_right _ (List.mem_append_right _ (List.mem_append_left _ (List.mem_of_getElem? (i := 158) rfl)))))
set_option maxRecDepth 100000 in
theorem cw_MTo_row : codeW MTo_row ∈ lw_tbl := List.mem_append_right _ (List.mem_append_right _ (List.mem_append_right _ (List.mem_append_right _ (List.mem_append_left _ (List.mem_of_getElem? (i := 166) rfl)))))
set_option maxRecDepth 100000 in
theorem cw_MTo_put : codeW MTo_put ∈ lw_tbl := List.mem_append_right _ (List.mem_append_right _ (List.mem_append_right _ (List.mem_append_right _ (List.mem_append_left _ (List.mem_of_getElem? (i := 174) rfl)))))
set_option maxRecDepth 100000 in
theorem cw_MTo_element : codeW MTo_element ∈ lw_tbl := List.mem_append_right _ (List.mem_append_right _ (List.mem_append_right _ (List.mem_append_right _ (List.mem_append_left _ (List.mem_of_getElem? (i := 192) rfl)))))
set_option maxRecDepth 100000 in
theorem cw_MTo_shift : codeW MTo_shift ∈ lw_tbl := List.mem_append_right _ (List.mem_append_right _ (List.mem_append_right _ (List.mem_append_right _ (List.mem_append_left _ (List.mem_of_getElem? (i := 198) rfl)))))
set_option maxRecDepth 100000 in
theorem cw_MTo_taken : codeW MTo_taken ∈ lw_tbl := List.mem_append_right _ (List.mem_append_right _ (List.mem_append_right _ (List.mem_append_right _ (List.mem_append_left _ (List.mem_of_getElem? (i := 205) rfl)))))
set_option maxRecDepth 100000 in
theorem cw_MTo_count : codeW MTo_count ∈ lw_tbl := List.mem_append_right _ (List.mem_append_right _ (List.mem_append_right _ (List.mem_append_right _ (List.mem_append_left _ (List.mem_of_getElem? (i := 213) rfl)))))
set_option maxRecDepth 100000 in
theorem cw_MTo_isWithin : codeW MTo_isWithin ∈ lw_tbl := List.mem_append_right _ (List.mem_append_right _ (List.mem_append_left _ (List.mem_of_getElem? (i := 120) rfl)))
set_option maxRecDepth 100000 in
theorem cw_MTo_isKeen : codeW MTo_isKeen ∈ lw_tbl := List.mem_append_right _ (List.mem_append_right _ (List.mem_append_right _ (List.mem_append_left _ (List.mem_of_getElem? (i := 222) rfl))))
set_option maxRecDepth 100000 in
theorem cw_MTo_isStart : codeW MTo_isStart ∈ lw_tbl := List.mem_append_right _ (List.mem_append_right _ (List.mem_append_right _ (List.mem_append_left _ (List.mem_of_getElem? (i := 71) rfl))))
set_option maxRecDepth 100000 in
theorem cw_MTo_drawn : codeW MTo_drawn ∈ lw_tbl := List.mem_append_right _ (List.mem_append_right _ (List.mem_append_right _ (List.mem_append_right _ (List.mem_append_left _ (List.mem_of_getElem? (i := 5) rfl)))))
set_option maxRecDepth 100000 in
theorem cw_MTo_stoneAt : codeW MTo_stoneAt ∈ lw_tbl := List.mem_append_right _ (List.mem_append_right _ (List.mem_append_left _ (List.mem_of_getElem? (i := 187) rfl)))
set_option maxRecDepth 100000 in
theorem cw_MTo_floorAt : codeW MTo_floorAt ∈ lw_tbl := List.mem_append_right _ (List.mem_append_right _ (List.mem_append_right _ (List.mem_append_left _ (List.mem_of_getElem? (i := 68) rfl))))
set_option maxRecDepth 100000 in
theorem cw_MTo_shelfAt : codeW MTo_shelfAt ∈ lw_tbl := List.mem_append_right _ (List.mem_append_right _ (List.mem_append_right _ (List.mem_append_right _ (List.mem_append_left _ (List.mem_of_getElem? (i := 27) rfl)))))
set_option maxRecDepth 100000 in
theorem cw_MTo_isFloorOrNone : codeW MTo_isFloorOrNone ∈ lw_tbl := List.mem_append_right _ (List.mem_append_right _ (List.mem_append_right _ (List.mem_append_left _ (List.mem_of_getElem? (i := 64) rfl))))
set_option maxRecDepth 100000 in
theorem cw_MTo_isGround : codeW MTo_isGround ∈ lw_tbl := List.mem_append_right _ (List.mem_append_right _ (List.mem_append_right _ (List.mem_append_left _ (List.mem_of_getElem? (i := 60) rfl))))
set_option maxRecDepth 100000 in
theorem cw_MTo_lay : codeW MTo_lay ∈ lw_tbl := List.mem_append_right _ (List.mem_append_right _ (List.mem_append_right _ (List.mem_append_left _ (List.mem_of_getElem? (i := 80) rfl))))
set_option maxRecDepth 100000 in
theorem cw_MTo_layOwn : codeW MTo_layOwn ∈ lw_tbl := List.mem_append_right _ (List.mem_append_right _ (List.mem_append_right _ (List.mem_append_left _ (List.mem_of_getElem? (i := 76) rfl))))
set_option maxRecDepth 100000 in
theorem cw_MTo_start : codeW MTo_start ∈ lw_tbl := List.mem_append_right _ (List.mem_append_right _ (List.mem_append_right _ (List.mem_append_left _ (List.mem_of_getElem? (i := 89) rfl))))
set_option maxRecDepth 100000 in
theorem cw_MTo_firstBack : codeW MTo_firstBack ∈ lw_tbl := List.mem_append_right _ (List.mem_append_right _ (List.mem_append_right _ (List.mem_append_left _ (List.mem_of_getElem? (i := 214) rfl))))
set_option maxRecDepth 100000 in
theorem cw_MTo_offBy : codeW MTo_offBy ∈ lw_tbl := List.mem_append_right _ (List.mem_append_right _ (List.mem_append_right _ (List.mem_append_right _ (List.mem_append_left _ (List.mem_of_getElem? (i := 65) rfl)))))
set_option maxRecDepth 100000 in
theorem cw_MTo_changeTo : codeW MTo_changeTo ∈ lw_tbl := List.mem_append_right _ (List.mem_append_right _ (List.mem_append_right _ (List.mem_append_right _ (List.mem_append_left _ (List.mem_of_getElem? (i := 100) rfl)))))
set_option maxRecDepth 100000 in
theorem cw_MRm_init : codeW MRm_init ∈ lw_tbl := List.mem_append_right _ (List.mem_append_right _ (List.mem_append_right _ (List.mem_append_right _ (List.mem_append_left _ (List.mem_of_getElem? (i := 218) rfl)))))
set_option maxRecDepth 100000 in
theorem cw_MRm_in : codeW MRm_in ∈ lw_tbl := List.mem_append_right _ (List.mem_append_right _ (List.mem_append_right _ (List.mem_append_right _ (List.mem_append_right _ (List.mem_append_left _ (List.mem_of_getElem? (i := 164) rfl))))))
set_option maxRecDepth 100000 in
theorem cw_MRm_sizeOf : codeW MRm_sizeOf ∈ lw_tbl := List.mem_append_right _ (List.mem_append_right _ (List.mem_append_right _ (List.mem_append_right _ (List.mem_append_right _ (List.mem_append_left _ (List.mem_of_getElem? (i := 224) rfl))))))
set_option maxRecDepth 100000 in
theorem cw_MRm_held : codeW MRm_held ∈ lw_tbl := List.mem_append_right _ (List.mem_append_right _ (List.mem_append_right _ (List.mem_append_right _ (List.mem_append_right _ (List.mem_append_left _ (List.mem_of_getElem? (i := 227) rfl))))))
set_option maxRecDepth 100000 in
theorem cw_MRm_feed : codeW MRm_feed ∈ lw_tbl := List.mem_append_right _ (List.mem_append_right _ (List.mem_append_right _ (List.mem_append_right _ (List.mem_append_right _ (List.mem_append_left _ (List.mem_of_getElem? (i := 161) rfl))))))
set_option maxRecDepth 100000 in
theorem cw_MRm_isStone : codeW MRm_isStone ∈ lw_tbl := List.mem_append_right _ (List.mem_append_right _ (List.mem_append_right _ (List.mem_append_right _ (List.mem_append_right _ (List.mem_append_left _ (List.mem_of_getElem? (i := 200) rfl))))))
set_option maxRecDepth 100000 in
theorem cw_MRm_isHere : codeW MRm_isHere ∈ lw_tbl := List.mem_append_right _ (List.mem_append_right _ (List.mem_append_right _ (List.mem_append_right _ (List.mem_append_right _ (List.mem_append_left _ (List.mem_of_getElem? (i := 184) rfl))))))
set_option maxRecDepth 100000 in
theorem cw_MRm_takes : codeW MRm_takes ∈ lw_tbl := List.mem_append_right _ (List.mem_append_right _ (List.mem_append_right _ (List.mem_append_right _ (List.mem_append_right _ (List.mem_append_left _ (List.mem_of_getElem? (i := 188) rfl))))))
set_option maxRecDepth 100000 in
theorem cw_MRm_digit : codeW MRm_digit ∈ lw_tbl := List.mem_append_right _ (List.mem_append_right _ (List.mem_append_right _ (List.mem_append_right _ (List.mem_append_right _ (List.mem_append_left _ (List.mem_of_getElem? (i := 176) rfl))))))
set_option maxRecDepth 100000 in
theorem cw_MRm_signed : codeW MRm_signed ∈ lw_tbl := List.mem_append_right _ (List.mem_append_right _ (List.mem_append_right _ (List.mem_append_right _ (List.mem_append_right _ (List.mem_append_left _ (List.mem_of_getElem? (i := 180) rfl))))))
set_option maxRecDepth 100000 in
theorem cw_MRm_readNumber : codeW MRm_readNumber ∈ lw_tbl := List.mem_append_right _ (List.mem_append_right _ (List.mem_append_right _ (List.mem_append_right _ (List.mem_append_right _ (List.mem_append_left _ (List.mem_of_getElem? (i := 192) rfl))))))
set_option maxRecDepth 100000 in
theorem cw_MRm_readLump : codeW MRm_readLump ∈ lw_tbl := List.mem_append_right _ (List.mem_append_right _ (List.mem_append_right _ (List.mem_append_right _ (List.mem_append_right _ (List.mem_append_left _ (List.mem_of_getElem? (i := 172) rfl))))))
set_option maxRecDepth 100000 in
theorem cw_MRm_stone : codeW MRm_stone ∈ lw_tbl := List.mem_append_right _ (List.mem_append_right _ (List.mem_append_right _ (List.mem_append_right _ (List.mem_append_right _ (List.mem_append_left _ (List.mem_of_getElem? (i := 168) rfl))))))
set_option maxRecDepth 100000 in
theorem cw_MRm_sumOf : codeW MRm_sumOf ∈ lw_tbl := List.mem_append_right _ (List.mem_append_right _ (List.mem_append_right _ (List.mem_append_right _ (List.mem_append_right _ (List.mem_append_left _ (List.mem_of_getElem? (i := 205) rfl))))))
set_option maxRecDepth 100000 in
theorem cw_MRm_wideX : codeW MRm_wideX ∈ lw_tbl := List.mem_append_right _ (List.mem_append_right _ (List.mem_append_right _ (List.mem_append_right _ (List.mem_append_right _ (List.mem_append_left _ (List.mem_of_getElem? (i := 209) rfl))))))
set_option maxRecDepth 100000 in
theorem cw_MRm_wideY : codeW MRm_wideY ∈ lw_tbl := List.mem_append_right _ (List.mem_append_right _ (List.mem_append_right _ (List.mem_append_right _ (List.mem_append_right _ (List.mem_append_left _ (List.mem_of_getElem? (i := 213) rfl))))))
set_option maxRecDepth 100000 in
theorem cw_MRm_slant : codeW MRm_slant ∈ lw_tbl := List.mem_append_right _ (List.mem_append_right _ (List.mem_append_right _ (List.mem_append_right _ (List.mem_append_right _ (List.mem_append_left _ (List.mem_of_getElem? (i := 217) rfl))))))
set_option maxRecDepth 100000 in
theorem cw_MRm_keenOf : codeW MRm_keenOf ∈ lw_tbl := List.mem_append_right _ (List.mem_append_right _ (List.mem_append_right _ (List.mem_append_right _ (List.mem_append_right _ (List.mem_append_left _ (List.mem_of_getElem? (i := 221) rfl))))))
set_option maxRecDepth 100000 in
theorem cw_MRm_of : codeW MRm_of ∈ lw_tbl := List.mem_append_right _ (List.mem_append_right _ (List.mem_append_right _ (List.mem_append_right _ (List.mem_append_right _ (List.mem_append_left _ (List.mem_of_getElem? (i := 196) rfl))))))
set_option maxRecDepth 100000 in
theorem cw_MRm_lump : codeW MRm_lump ∈ lw_tbl := List.mem_append_right _ (List.mem_append_right _ (List.mem_append_right _ (List.mem_append_right _ (List.mem_append_right _ (List.mem_append_left _ (List.mem_of_getElem? (i := 231) rfl))))))
set_option maxRecDepth 100000 in
theorem cw_MRm_valueAt : codeW MRm_valueAt ∈ lw_tbl := List.mem_append_right _ (List.mem_append_right _ (List.mem_append_right _ (List.mem_append_right _ (List.mem_append_right _ (List.mem_append_right _ (List.mem_append_left _ (List.mem_of_getElem? (i := 15) rfl)))))))
set_option maxRecDepth 100000 in
theorem cw_MRm_place : codeW MRm_place ∈ lw_tbl := List.mem_append_right _ (List.mem_append_right _ (List.mem_append_right _ (List.mem_append_right _ (List.mem_append_right _ (List.mem_append_left _ (List.mem_of_getElem? (i := 239) rfl))))))
set_option maxRecDepth 100000 in
theorem cw_MRm_changes : codeW MRm_changes ∈ lw_tbl := List.mem_append_right _ (List.mem_append_right _ (List.mem_append_right _ (List.mem_append_right _ (List.mem_append_right _ (List.mem_append_right _ (List.mem_append_left _ (List.mem_of_getElem? (i := 11) rfl)))))))
set_option maxRecDepth 100000 in
theorem cw_MRm_undo : codeW MRm_undo ∈ lw_tbl := List.mem_append_right _ (List.mem_append_right _ (List.mem_append_right _ (List.mem_append_right _ (List.mem_append_right _ (List.mem_append_left _ (List.mem_of_getElem? (i := 235) rfl))))))
set_option maxRecDepth 100000 in
theorem cw_MRm_redo : codeW MRm_redo ∈ lw_tbl := List.mem_append_right _ (List.mem_append_right _ (List.mem_append_right _ (List.mem_append_right _ (List.mem_append_right _ (List.mem_append_right _ (List.mem_append_left _ (List.mem_of_getElem? (i := 3) rfl)))))))
set_option maxRecDepth 100000 in
theorem cw_MRm_set : codeW MRm_set ∈ lw_tbl := List.mem_append_right _ (List.mem_append_right _ (List.mem_append_right _ (List.mem_append_right _ (List.mem_append_right _ (List.mem_append_right _ (List.mem_append_left _ (List.mem_of_getElem? (i := 7) rfl)))))))
set_option maxRecDepth 100000 in
theorem cw_MRm_look : codeW MRm_look ∈ lw_tbl := List.mem_append_right _ (List.mem_append_right _ (List.mem_append_right _ (List.mem_append_right _ (List.mem_append_right _ (List.mem_append_right _ (List.mem_append_left _ (List.mem_of_getElem? (i := 55) rfl)))))))
set_option maxRecDepth 100000 in
theorem cw_MRm_wrong : codeW MRm_wrong ∈ lw_tbl := List.mem_append_right _ (List.mem_append_right _ (List.mem_append_right _ (List.mem_append_right _ (List.mem_append_right _ (List.mem_append_right _ (List.mem_append_left _ (List.mem_of_getElem? (i := 70) rfl)))))))
set_option maxRecDepth 100000 in
theorem cw_MRm_addStep : codeW MRm_addStep ∈ lw_tbl := List.mem_append_right _ (List.mem_append_right _ (List.mem_append_right _ (List.mem_append_right _ (List.mem_append_right _ (List.mem_append_right _ (List.mem_append_left _ (List.mem_of_getElem? (i := 62) rfl)))))))
set_option maxRecDepth 100000 in
theorem cw_MRm_nameOf : codeW MRm_nameOf ∈ lw_tbl := List.mem_append_right _ (List.mem_append_right _ (List.mem_append_right _ (List.mem_append_right _ (List.mem_append_right _ (List.mem_append_right _ (List.mem_append_left _ (List.mem_of_getElem? (i := 58) rfl)))))))
set_option maxRecDepth 100000 in
theorem cw_MRm_opens : codeW MRm_opens ∈ lw_tbl := List.mem_append_right _ (List.mem_append_right _ (List.mem_append_right _ (List.mem_append_right _ (List.mem_append_right _ (List.mem_append_right _ (List.mem_append_left _ (List.mem_of_getElem? (i := 66) rfl)))))))
set_option maxRecDepth 100000 in
theorem cw_MRm_figure : codeW MRm_figure ∈ lw_tbl := List.mem_append_right _ (List.mem_append_right _ (List.mem_append_right _ (List.mem_append_right _ (List.mem_append_right _ (List.mem_append_right _ (List.mem_append_left _ (List.mem_of_getElem? (i := 74) rfl)))))))
set_option maxRecDepth 100000 in
theorem cw_MRm_operand : codeW MRm_operand ∈ lw_tbl := List.mem_append_right _ (List.mem_append_right _ (List.mem_append_right _ (List.mem_append_right _ (List.mem_append_right _ (List.mem_append_right _ (List.mem_append_left _ (List.mem_of_getElem? (i := 51) rfl)))))))
set_option maxRecDepth 100000 in
theorem cw_MRm_product : codeW MRm_product ∈ lw_tbl := List.mem_append_right _ (List.mem_append_right _ (List.mem_append_right _ (List.mem_append_right _ (List.mem_append_right _ (List.mem_append_right _ (List.mem_append_left _ (List.mem_of_getElem? (i := 47) rfl)))))))
set_option maxRecDepth 100000 in
theorem cw_MRm_sum : codeW MRm_sum ∈ lw_tbl := List.mem_append_right _ (List.mem_append_right _ (List.mem_append_right _ (List.mem_append_right _ (List.mem_append_right _ (List.mem_append_right _ (List.mem_append_left _ (List.mem_of_getElem? (i := 43) rfl)))))))
set_option maxRecDepth 100000 in
theorem cw_MRm_compared : codeW MRm_compared ∈ lw_tbl := List.mem_append_right _ (List.mem_append_right _ (List.mem_append_right _ (List.mem_append_right _ (List.mem_append_right _ (List.mem_append_right _ (List.mem_append_left _ (List.mem_of_getElem? (i := 39) rfl)))))))
set_option maxRecDepth 100000 in
theorem cw_MRm_both : codeW MRm_both ∈ lw_tbl := List.mem_append_right _ (List.mem_append_right _ (List.mem_append_right _ (List.mem_append_right _ (List.mem_append_right _ (List.mem_append_right _ (List.mem_append_left _ (List.mem_of_getElem? (i := 35) rfl)))))))
set_option maxRecDepth 100000 in
theorem cw_MRm_either : codeW MRm_either ∈ lw_tbl := List.mem_append_right _ (List.mem_append_right _ (List.mem_append_right _ (List.mem_append_right _ (List.mem_append_right _ (List.mem_append_right _ (List.mem_append_left _ (List.mem_of_getElem? (i := 31) rfl)))))))
set_option maxRecDepth 100000 in
theorem cw_MRm_line : codeW MRm_line ∈ lw_tbl := List.mem_append_right _ (List.mem_append_right _ (List.mem_append_right _ (List.mem_append_right _ (List.mem_append_right _ (List.mem_append_right _ (List.mem_append_left _ (List.mem_of_getElem? (i := 27) rfl)))))))
set_option maxRecDepth 100000 in
theorem cw_MRm_readText : codeW MRm_readText ∈ lw_tbl := List.mem_append_right _ (List.mem_append_right _ (List.mem_append_right _ (List.mem_append_right _ (List.mem_append_right _ (List.mem_append_right _ (List.mem_append_left _ (List.mem_of_getElem? (i := 23) rfl)))))))
set_option maxRecDepth 100000 in
theorem cw_MRm_twoOf : codeW MRm_twoOf ∈ lw_tbl := List.mem_append_right _ (List.mem_append_right _ (List.mem_append_right _ (List.mem_append_right _ (List.mem_append_right _ (List.mem_append_right _ (List.mem_append_left _ (List.mem_of_getElem? (i := 122) rfl)))))))
set_option maxRecDepth 100000 in
theorem cw_MRm_worked : codeW MRm_worked ∈ lw_tbl := List.mem_append_right _ (List.mem_append_right _ (List.mem_append_right _ (List.mem_append_right _ (List.mem_append_right _ (List.mem_append_right _ (List.mem_append_left _ (List.mem_of_getElem? (i := 119) rfl)))))))
set_option maxRecDepth 100000 in
theorem cw_MRm_gives : codeW MRm_gives ∈ lw_tbl := List.mem_append_right _ (List.mem_append_right _ (List.mem_append_right _ (List.mem_append_right _ (List.mem_append_right _ (List.mem_append_right _ (List.mem_append_left _ (List.mem_of_getElem? (i := 115) rfl)))))))
set_option maxRecDepth 100000 in
theorem cw_MRm_isFloor : codeW MRm_isFloor ∈ lw_tbl := List.mem_append_right _ (List.mem_append_right _ (List.mem_append_right _ (List.mem_append_right _ (List.mem_append_right _ (List.mem_append_right _ (List.mem_append_left _ (List.mem_of_getElem? (i := 90) rfl)))))))
set_option maxRecDepth 100000 in
theorem cw_MRm_floor : codeW MRm_floor ∈ lw_tbl := List.mem_append_right _ (List.mem_append_right _ (List.mem_append_right _ (List.mem_append_right _ (List.mem_append_right _ (List.mem_append_right _ (List.mem_append_left _ (List.mem_of_getElem? (i := 19) rfl)))))))
set_option maxRecDepth 100000 in
theorem cw_MRm_grows : codeW MRm_grows ∈ lw_tbl := List.mem_append_right _ (List.mem_append_right _ (List.mem_append_right _ (List.mem_append_right _ (List.mem_append_right _ (List.mem_append_right _ (List.mem_append_left _ (List.mem_of_getElem? (i := 78) rfl)))))))
set_option maxRecDepth 100000 in
theorem cw_MRm_isStart : codeW MRm_isStart ∈ lw_tbl := List.mem_append_right _ (List.mem_append_right _ (List.mem_append_right _ (List.mem_append_right _ (List.mem_append_right _ (List.mem_append_right _ (List.mem_append_left _ (List.mem_of_getElem? (i := 93) rfl)))))))
set_option maxRecDepth 100000 in
theorem cw_MRm_isGoing : codeW MRm_isGoing ∈ lw_tbl := List.mem_append_right _ (List.mem_append_right _ (List.mem_append_right _ (List.mem_append_right _ (List.mem_append_right _ (List.mem_append_right _ (List.mem_append_left _ (List.mem_of_getElem? (i := 86) rfl)))))))
set_option maxRecDepth 100000 in
theorem cw_MRm_begin : codeW MRm_begin ∈ lw_tbl := List.mem_append_right _ (List.mem_append_right _ (List.mem_append_right _ (List.mem_append_right _ (List.mem_append_right _ (List.mem_append_right _ (List.mem_append_left _ (List.mem_of_getElem? (i := 98) rfl)))))))
set_option maxRecDepth 100000 in
theorem cw_MRm_takenBy : codeW MRm_takenBy ∈ lw_tbl := List.mem_append_right _ (List.mem_append_right _ (List.mem_append_right _ (List.mem_append_right _ (List.mem_append_right _ (List.mem_append_right _ (List.mem_append_left _ (List.mem_of_getElem? (i := 111) rfl)))))))
set_option maxRecDepth 100000 in
theorem cw_MRm_go : codeW MRm_go ∈ lw_tbl := List.mem_append_right _ (List.mem_append_right _ (List.mem_append_right _ (List.mem_append_right _ (List.mem_append_right _ (List.mem_append_right _ (List.mem_append_left _ (List.mem_of_getElem? (i := 106) rfl)))))))
set_option maxRecDepth 100000 in
theorem cw_MRm_note : codeW MRm_note ∈ lw_tbl := List.mem_append_right _ (List.mem_append_right _ (List.mem_append_right _ (List.mem_append_right _ (List.mem_append_right _ (List.mem_append_right _ (List.mem_append_left _ (List.mem_of_getElem? (i := 102) rfl)))))))
set_option maxRecDepth 100000 in
theorem cw_MRm_roll : codeW MRm_roll ∈ lw_tbl := List.mem_append_right _ (List.mem_append_right _ (List.mem_append_right _ (List.mem_append_right _ (List.mem_append_right _ (List.mem_append_right _ (List.mem_append_left _ (List.mem_of_getElem? (i := 82) rfl)))))))
set_option maxRecDepth 100000 in
theorem cw_MRm_going : codeW MRm_going ∈ lw_tbl := List.mem_append_right _ (List.mem_append_right _ (List.mem_append_right _ (List.mem_append_right _ (List.mem_append_right _ (List.mem_append_right _ (List.mem_append_left _ (List.mem_of_getElem? (i := 126) rfl)))))))
set_option maxRecDepth 100000 in
theorem cw_MRm_back : codeW MRm_back ∈ lw_tbl := List.mem_append_right _ (List.mem_append_right _ (List.mem_append_right _ (List.mem_append_right _ (List.mem_append_right _ (List.mem_append_right _ (List.mem_append_left _ (List.mem_of_getElem? (i := 130) rfl)))))))
set_option maxRecDepth 100000 in
theorem cw_MRm_told : codeW MRm_told ∈ lw_tbl := List.mem_append_right _ (List.mem_append_right _ (List.mem_append_right _ (List.mem_append_right _ (List.mem_append_right _ (List.mem_append_right _ (List.mem_append_left _ (List.mem_of_getElem? (i := 134) rfl)))))))
set_option maxRecDepth 100000 in
theorem cw_MRm_lookBack : codeW MRm_lookBack ∈ lw_tbl := List.mem_append_right _ (List.mem_append_right _ (List.mem_append_right _ (List.mem_append_right _ (List.mem_append_right _ (List.mem_append_right _ (List.mem_append_left _ (List.mem_of_getElem? (i := 146) rfl)))))))
set_option maxRecDepth 100000 in
theorem cw_MRm_goThrough : codeW MRm_goThrough ∈ lw_tbl := List.mem_append_right _ (List.mem_append_right _ (List.mem_append_right _ (List.mem_append_right _ (List.mem_append_right _ (List.mem_append_right _ (List.mem_append_left _ (List.mem_of_getElem? (i := 142) rfl)))))))
set_option maxRecDepth 100000 in
theorem cw_MRm_even : codeW MRm_even ∈ lw_tbl := List.mem_append_right _ (List.mem_append_right _ (List.mem_append_right _ (List.mem_append_right _ (List.mem_append_right _ (List.mem_append_right _ (List.mem_append_left _ (List.mem_of_getElem? (i := 138) rfl)))))))
set_option maxRecDepth 100000 in
theorem cw_MRm_soonest : codeW MRm_soonest ∈ lw_tbl := List.mem_append_right _ (List.mem_append_right _ (List.mem_append_right _ (List.mem_append_right _ (List.mem_append_right _ (List.mem_append_right _ (List.mem_append_left _ (List.mem_of_getElem? (i := 150) rfl)))))))
set_option maxRecDepth 100000 in
theorem cw_MRm_screwed : codeW MRm_screwed ∈ lw_tbl := List.mem_append_right _ (List.mem_append_right _ (List.mem_append_right _ (List.mem_append_right _ (List.mem_append_right _ (List.mem_append_right _ (List.mem_append_left _ (List.mem_of_getElem? (i := 158) rfl)))))))
set_option maxRecDepth 100000 in
theorem cw_MRm_screws : codeW MRm_screws ∈ lw_tbl := List.mem_append_right _ (List.mem_append_right _ (List.mem_append_right _ (List.mem_append_right _ (List.mem_append_right _ (List.mem_append_right _ (List.mem_append_left _ (List.mem_of_getElem? (i := 154) rfl)))))))
set_option maxRecDepth 100000 in
theorem cw_MRm_lightest : codeW MRm_lightest ∈ lw_tbl := List.mem_append_right _ (List.mem_append_right _ (List.mem_append_right _ (List.mem_append_right _ (List.mem_append_right _ (List.mem_append_right _ (List.mem_append_left _ (List.mem_of_getElem? (i := 162) rfl)))))))
set_option maxRecDepth 100000 in
theorem cw_MRm_seen : codeW MRm_seen ∈ lw_tbl := List.mem_append_right _ (List.mem_append_right _ (List.mem_append_right _ (List.mem_append_right _ (List.mem_append_right _ (List.mem_append_right _ (List.mem_append_left _ (List.mem_of_getElem? (i := 166) rfl)))))))
set_option maxRecDepth 100000 in
theorem cw_MRm_pressed : codeW MRm_pressed ∈ lw_tbl := List.mem_append_right _ (List.mem_append_right _ (List.mem_append_right _ (List.mem_append_right _ (List.mem_append_right _ (List.mem_append_right _ (List.mem_append_left _ (List.mem_of_getElem? (i := 170) rfl)))))))
set_option maxRecDepth 100000 in
theorem cw_MRm_draw : codeW MRm_draw ∈ lw_tbl := List.mem_append_right _ (List.mem_append_right _ (List.mem_append_right _ (List.mem_append_right _ (List.mem_append_right _ (List.mem_append_right _ (List.mem_append_left _ (List.mem_of_getElem? (i := 178) rfl)))))))
set_option maxRecDepth 100000 in
theorem cw_MRm_hands : codeW MRm_hands ∈ lw_tbl := List.mem_append_right _ (List.mem_append_right _ (List.mem_append_right _ (List.mem_append_right _ (List.mem_append_right _ (List.mem_append_right _ (List.mem_append_left _ (List.mem_of_getElem? (i := 174) rfl)))))))
set_option maxRecDepth 100000 in
theorem cw_MRm_isFrame : codeW MRm_isFrame ∈ lw_tbl := List.mem_append_right _ (List.mem_append_right _ (List.mem_append_right _ (List.mem_append_right _ (List.mem_append_right _ (List.mem_append_right _ (List.mem_append_left _ (List.mem_of_getElem? (i := 187) rfl)))))))
set_option maxRecDepth 100000 in
theorem cw_MRm_addFrame : codeW MRm_addFrame ∈ lw_tbl := List.mem_append_right _ (List.mem_append_right _ (List.mem_append_right _ (List.mem_append_right _ (List.mem_append_right _ (List.mem_append_right _ (List.mem_append_left _ (List.mem_of_getElem? (i := 191) rfl)))))))
set_option maxRecDepth 100000 in
theorem cw_MRm_frame : codeW MRm_frame ∈ lw_tbl := List.mem_append_right _ (List.mem_append_right _ (List.mem_append_right _ (List.mem_append_right _ (List.mem_append_right _ (List.mem_append_right _ (List.mem_append_left _ (List.mem_of_getElem? (i := 183) rfl)))))))
set_option maxRecDepth 100000 in
theorem cw_MRm_frames : codeW MRm_frames ∈ lw_tbl := List.mem_append_right _ (List.mem_append_right _ (List.mem_append_right _ (List.mem_append_right _ (List.mem_append_right _ (List.mem_append_right _ (List.mem_append_left _ (List.mem_of_getElem? (i := 195) rfl)))))))
set_option maxRecDepth 100000 in
theorem cw_MRm_cut : codeW MRm_cut ∈ lw_tbl := List.mem_append_right _ (List.mem_append_right _ (List.mem_append_right _ (List.mem_append_right _ (List.mem_append_right _ (List.mem_append_right _ (List.mem_append_left _ (List.mem_of_getElem? (i := 202) rfl)))))))
set_option maxRecDepth 100000 in
theorem cw_MRm_offBy : codeW MRm_offBy ∈ lw_tbl := List.mem_append_right _ (List.mem_append_right _ (List.mem_append_right _ (List.mem_append_right _ (List.mem_append_right _ (List.mem_append_right _ (List.mem_append_left _ (List.mem_of_getElem? (i := 210) rfl)))))))
set_option maxRecDepth 100000 in
theorem cw_MRm_off : codeW MRm_off ∈ lw_tbl := List.mem_append_right _ (List.mem_append_right _ (List.mem_append_right _ (List.mem_append_right _ (List.mem_append_right _ (List.mem_append_right _ (List.mem_append_left _ (List.mem_of_getElem? (i := 206) rfl)))))))
set_option maxRecDepth 100000 in
theorem cw_MRm_shape : codeW MRm_shape ∈ lw_tbl := List.mem_append_right _ (List.mem_append_right _ (List.mem_append_right _ (List.mem_append_right _ (List.mem_append_right _ (List.mem_append_right _ (List.mem_append_left _ (List.mem_of_getElem? (i := 214) rfl)))))))
set_option maxRecDepth 100000 in
theorem cw_MRm_span : codeW MRm_span ∈ lw_tbl := List.mem_append_right _ (List.mem_append_right _ (List.mem_append_right _ (List.mem_append_right _ (List.mem_append_right _ (List.mem_append_right _ (List.mem_append_left _ (List.mem_of_getElem? (i := 218) rfl)))))))
set_option maxRecDepth 100000 in
theorem cw_MRm_which : codeW MRm_which ∈ lw_tbl := List.mem_append_right _ (List.mem_append_right _ (List.mem_append_right _ (List.mem_append_right _ (List.mem_append_right _ (List.mem_append_right _ (List.mem_append_left _ (List.mem_of_getElem? (i := 222) rfl)))))))
set_option maxRecDepth 100000 in
theorem cw_MRm_chance : codeW MRm_chance ∈ lw_tbl := List.mem_append_right _ (List.mem_append_right _ (List.mem_append_right _ (List.mem_append_right _ (List.mem_append_right _ (List.mem_append_right _ (List.mem_append_left _ (List.mem_of_getElem? (i := 226) rfl)))))))
set_option maxRecDepth 100000 in
theorem cw_MRm_isBody : codeW MRm_isBody ∈ lw_tbl := List.mem_append_right _ (List.mem_append_right _ (List.mem_append_right _ (List.mem_append_right _ (List.mem_append_right _ (List.mem_append_right _ (List.mem_append_right _ (List.mem_of_getElem? (i := 3) rfl)))))))
set_option maxRecDepth 100000 in
theorem cw_MRm_ran : codeW MRm_ran ∈ lw_tbl := List.mem_append_right _ (List.mem_append_right _ (List.mem_append_right _ (List.mem_append_right _ (List.mem_append_right _ (List.mem_append_right _ (List.mem_append_right _ (List.mem_of_getElem? (i := 11) rfl)))))))
set_option maxRecDepth 100000 in
theorem cw_MRm_trace : codeW MRm_trace ∈ lw_tbl := List.mem_append_right _ (List.mem_append_right _ (List.mem_append_right _ (List.mem_append_right _ (List.mem_append_right _ (List.mem_append_right _ (List.mem_append_left _ (List.mem_of_getElem? (i := 231) rfl)))))))
set_option maxRecDepth 100000 in
theorem cw_MRm_body : codeW MRm_body ∈ lw_tbl := List.mem_append_right _ (List.mem_append_right _ (List.mem_append_right _ (List.mem_append_right _ (List.mem_append_right _ (List.mem_append_right _ (List.mem_append_left _ (List.mem_of_getElem? (i := 235) rfl)))))))
set_option maxRecDepth 100000 in
theorem cw_MRm_isUnder : codeW MRm_isUnder ∈ lw_tbl := List.mem_append_right _ (List.mem_append_right _ (List.mem_append_right _ (List.mem_append_right _ (List.mem_append_right _ (List.mem_append_right _ (List.mem_append_right _ (List.mem_of_getElem? (i := 42) rfl)))))))
set_option maxRecDepth 100000 in
theorem cw_MRm_plainRolls : codeW MRm_plainRolls ∈ lw_tbl := List.mem_append_right _ (List.mem_append_right _ (List.mem_append_right _ (List.mem_append_right _ (List.mem_append_right _ (List.mem_append_right _ (List.mem_append_right _ (List.mem_of_getElem? (i := 19) rfl)))))))
set_option maxRecDepth 100000 in
theorem cw_MRm_keptRolls : codeW MRm_keptRolls ∈ lw_tbl := List.mem_append_right _ (List.mem_append_right _ (List.mem_append_right _ (List.mem_append_right _ (List.mem_append_right _ (List.mem_append_right _ (List.mem_append_right _ (List.mem_of_getElem? (i := 15) rfl)))))))
set_option maxRecDepth 100000 in
theorem cw_MRm_rolls : codeW MRm_rolls ∈ lw_tbl := List.mem_append_right _ (List.mem_append_right _ (List.mem_append_right _ (List.mem_append_right _ (List.mem_append_right _ (List.mem_append_right _ (List.mem_append_right _ (List.mem_of_getElem? (i := 7) rfl)))))))
set_option maxRecDepth 100000 in
theorem cw_MRm_plainTrades : codeW MRm_plainTrades ∈ lw_tbl := List.mem_append_right _ (List.mem_append_right _ (List.mem_append_right _ (List.mem_append_right _ (List.mem_append_right _ (List.mem_append_right _ (List.mem_append_right _ (List.mem_of_getElem? (i := 31) rfl)))))))
set_option maxRecDepth 100000 in
theorem cw_MRm_turnedTrades : codeW MRm_turnedTrades ∈ lw_tbl := List.mem_append_right _ (List.mem_append_right _ (List.mem_append_right _ (List.mem_append_right _ (List.mem_append_right _ (List.mem_append_right _ (List.mem_append_right _ (List.mem_of_getElem? (i := 27) rfl)))))))
set_option maxRecDepth 100000 in
theorem cw_MRm_trades : codeW MRm_trades ∈ lw_tbl := List.mem_append_right _ (List.mem_append_right _ (List.mem_append_right _ (List.mem_append_right _ (List.mem_append_right _ (List.mem_append_right _ (List.mem_append_right _ (List.mem_of_getElem? (i := 23) rfl)))))))
set_option maxRecDepth 100000 in
theorem cw_MRm_plainEnds : codeW MRm_plainEnds ∈ lw_tbl := List.mem_append_right _ (List.mem_append_right _ (List.mem_append_right _ (List.mem_append_right _ (List.mem_append_right _ (List.mem_append_right _ (List.mem_append_right _ (List.mem_of_getElem? (i := 39) rfl)))))))
set_option maxRecDepth 100000 in
theorem cw_MRm_ends : codeW MRm_ends ∈ lw_tbl := List.mem_append_right _ (List.mem_append_right _ (List.mem_append_right _ (List.mem_append_right _ (List.mem_append_right _ (List.mem_append_right _ (List.mem_append_right _ (List.mem_of_getElem? (i := 35) rfl)))))))
set_option maxRecDepth 100000 in
theorem cw_MRm_plainTells : codeW MRm_plainTells ∈ lw_tbl := List.mem_append_right _ (List.mem_append_right _ (List.mem_append_right _ (List.mem_append_right _ (List.mem_append_right _ (List.mem_append_right _ (List.mem_append_right _ (List.mem_of_getElem? (i := 50) rfl)))))))
set_option maxRecDepth 100000 in
theorem cw_MRm_tells : codeW MRm_tells ∈ lw_tbl := List.mem_append_right _ (List.mem_append_right _ (List.mem_append_right _ (List.mem_append_right _ (List.mem_append_right _ (List.mem_append_right _ (List.mem_append_right _ (List.mem_of_getElem? (i := 46) rfl)))))))
set_option maxRecDepth 100000 in
theorem cw_MRm_act : codeW MRm_act ∈ lw_tbl := List.mem_append_right _ (List.mem_append_right _ (List.mem_append_right _ (List.mem_append_right _ (List.mem_append_right _ (List.mem_append_right _ (List.mem_append_left _ (List.mem_of_getElem? (i := 239) rfl)))))))
set_option maxRecDepth 100000 in
theorem cw_MRm_count : codeW MRm_count ∈ lw_tbl := List.mem_append_right _ (List.mem_append_right _ (List.mem_append_right _ (List.mem_append_right _ (List.mem_append_right _ (List.mem_append_right _ (List.mem_append_right _ (List.mem_of_getElem? (i := 54) rfl)))))))
set_option maxRecDepth 100000 in
theorem cw_MRm_isShelf : codeW MRm_isShelf ∈ lw_tbl := List.mem_append_right _ (List.mem_append_right _ (List.mem_append_right _ (List.mem_append_right _ (List.mem_append_right _ (List.mem_append_right _ (List.mem_append_left _ (List.mem_of_getElem? (i := 198) rfl)))))))
set_option maxRecDepth 100000 in
theorem cw_MRm_keep : codeW MRm_keep ∈ lw_tbl := List.mem_append_right _ (List.mem_append_right _ (List.mem_append_right _ (List.mem_append_right _ (List.mem_append_right _ (List.mem_append_right _ (List.mem_append_right _ (List.mem_of_getElem? (i := 58) rfl)))))))
set_option maxRecDepth 100000 in
theorem cw_MRm_row : codeW MRm_row ∈ lw_tbl := List.mem_append_right _ (List.mem_append_right _ (List.mem_append_right _ (List.mem_append_right _ (List.mem_append_right _ (List.mem_append_right _ (List.mem_append_right _ (List.mem_of_getElem? (i := 62) rfl)))))))
set_option maxRecDepth 100000 in
theorem cw_MRm_whyNoPlace : codeW MRm_whyNoPlace ∈ lw_tbl := List.mem_append_right _ (List.mem_append_right _ (List.mem_append_right _ (List.mem_append_right _ (List.mem_append_right _ (List.mem_append_right _ (List.mem_append_right _ (List.mem_of_getElem? (i := 70) rfl)))))))
set_option maxRecDepth 100000 in
theorem cw_MRm_put : codeW MRm_put ∈ lw_tbl := List.mem_append_right _ (List.mem_append_right _ (List.mem_append_right _ (List.mem_append_right _ (List.mem_append_right _ (List.mem_append_right _ (List.mem_append_right _ (List.mem_of_getElem? (i := 66) rfl)))))))
set_option maxRecDepth 100000 in
theorem cw_MRm_element : codeW MRm_element ∈ lw_tbl := List.mem_append_right _ (List.mem_append_right _ (List.mem_append_right _ (List.mem_append_right _ (List.mem_append_right _ (List.mem_append_right _ (List.mem_append_right _ (List.mem_of_getElem? (i := 74) rfl)))))))
set_option maxRecDepth 100000 in
theorem cw_MRm_shift : codeW MRm_shift ∈ lw_tbl := List.mem_append_right _ (List.mem_append_right _ (List.mem_append_right _ (List.mem_append_right _ (List.mem_append_right _ (List.mem_append_right _ (List.mem_append_right _ (List.mem_of_getElem? (i := 79) rfl)))))))
set_option maxRecDepth 100000 in
theorem cw_MRm_taken : codeW MRm_taken ∈ lw_tbl := List.mem_append_right _ (List.mem_append_right _ (List.mem_append_right _ (List.mem_append_right _ (List.mem_append_right _ (List.mem_append_right _ (List.mem_append_right _ (List.mem_of_getElem? (i := 83) rfl)))))))
set_option maxRecDepth 100000 in
theorem cw_MIn_signum : codeW MIn_signum ∈ lw_tbl := List.mem_append_right _ (List.mem_append_right _ (List.mem_append_right _ (List.mem_append_left _ (List.mem_of_getElem? (i := 96) rfl))))
theorem cw_l0 : ∀ M ∈ ML_0, codeW M ∈ lw_tbl := List.forall_mem_cons.mpr <| And.intro cw_MBo_init <| List.forall_mem_cons.mpr <| And.intro cw_MBo_append <| List.forall_mem_cons.mpr <| And.intro cw_MBo_kindOf <| List.forall_mem_cons.mpr <| And.intro cw_MBo_above <| List.forall_mem_cons.mpr <| And.intro cw_MBo_isUnder <| List.forall_mem_cons.mpr <| And.intro cw_MBo_ownNumber <| List.forall_mem_cons.mpr <| And.intro cw_MBo_traced <| List.forall_mem_cons.mpr <| And.intro cw_MBo_perform <| List.forall_mem_cons.mpr <| And.intro cw_MBo_ask <| List.forall_mem_cons.mpr <| And.intro cw_MBo_run <| List.forall_mem_cons.mpr <| And.intro cw_MCh_init <| List.forall_mem_cons.mpr <| And.intro cw_MCh_note <| List.forall_mem_cons.mpr <| And.intro cw_MCh_write <| List.forall_mem_cons.mpr <| And.intro cw_MCh_part <| List.forall_mem_cons.mpr <| And.intro cw_MFi_init <| List.forall_mem_cons.mpr <| And.intro cw_MFi_mayCome <| List.forall_mem_cons.mpr <| And.intro cw_MFi_append <| List.forall_mem_cons.mpr <| And.intro cw_MFi_takeFrom <| List.forall_mem_cons.mpr <| And.intro cw_MFi_tickAt <| List.forall_mem_cons.mpr <| And.intro cw_MFi_turnAt <| List.forall_mem_cons.mpr <| And.intro cw_MFl_init <| List.forall_mem_cons.mpr <| And.intro cw_MFl_readFrom <| List.forall_mem_cons.mpr <| And.intro cw_MFl_readLine <| List.forall_mem_cons.mpr <| And.intro cw_MFl_readJoined <| List.forall_mem_cons.mpr <| And.intro cw_MFl_levelOf <| List.forall_mem_cons.mpr <| And.intro cw_MFl_readOne <| List.forall_mem_cons.mpr <| And.intro cw_MFl_readOpened <| List.forall_mem_cons.mpr <| And.intro cw_MFl_append <| List.forall_mem_cons.mpr <| And.intro cw_MFl_appendNumber <| List.forall_mem_cons.mpr <| And.intro cw_MFl_name <| fun _ h => absurd h List.not_mem_nil
theorem cw_l1 : ∀ M ∈ ML_1, codeW M ∈ lw_tbl := List.forall_mem_cons.mpr <| And.intro cw_MFl_takes <| List.forall_mem_cons.mpr <| And.intro cw_MFl_valueAt <| List.forall_mem_cons.mpr <| And.intro cw_MFl_result <| List.forall_mem_cons.mpr <| And.intro cw_MGo_init <| List.forall_mem_cons.mpr <| And.intro cw_MGo_isThere <| List.forall_mem_cons.mpr <| And.intro cw_MGo_record <| List.forall_mem_cons.mpr <| And.intro cw_MGo_note <| List.forall_mem_cons.mpr <| And.intro cw_MGo_at <| List.forall_mem_cons.mpr <| And.intro cw_MGo_backTick <| List.forall_mem_cons.mpr <| And.intro cw_MGo_summary <| List.forall_mem_cons.mpr <| And.intro cw_MGo_ended <| List.forall_mem_cons.mpr <| And.intro cw_MMo_init <| List.forall_mem_cons.mpr <| And.intro cw_MMo_rule <| List.forall_mem_cons.mpr <| And.intro cw_MMo_start <| List.forall_mem_cons.mpr <| And.intro cw_MMo_run <| List.forall_mem_cons.mpr <| And.intro cw_MMo_step <| List.forall_mem_cons.mpr <| And.intro cw_MMo_growRattle <| List.forall_mem_cons.mpr <| And.intro cw_MMo_grown <| List.forall_mem_cons.mpr <| And.intro cw_MMo_pushTurn <| List.forall_mem_cons.mpr <| And.intro cw_MMo_lose <| List.forall_mem_cons.mpr <| And.intro cw_MMo_lossOf <| List.forall_mem_cons.mpr <| And.intro cw_MMo_nearer <| List.forall_mem_cons.mpr <| And.intro cw_MMo_heldTurn <| List.forall_mem_cons.mpr <| And.intro cw_MMo_heldRattle <| List.forall_mem_cons.mpr <| And.intro cw_MSh_init <| List.forall_mem_cons.mpr <| And.intro cw_MSh_hold <| List.forall_mem_cons.mpr <| And.intro cw_MSh_holdRow <| List.forall_mem_cons.mpr <| And.intro cw_MSh_isRow <| List.forall_mem_cons.mpr <| And.intro cw_MSh_isRowOf <| List.forall_mem_cons.mpr <| And.intro cw_MSh_isEmpty <| fun _ h => absurd h List.not_mem_nil
theorem cw_l2 : ∀ M ∈ ML_2, codeW M ∈ lw_tbl := List.forall_mem_cons.mpr <| And.intro cw_MSh_hasPlaces <| List.forall_mem_cons.mpr <| And.intro cw_MSh_refusal <| List.forall_mem_cons.mpr <| And.intro cw_MSh_read <| List.forall_mem_cons.mpr <| And.intro cw_MSh_write <| List.forall_mem_cons.mpr <| And.intro cw_MSh_cutDown <| List.forall_mem_cons.mpr <| And.intro cw_MSt_init <| List.forall_mem_cons.mpr <| And.intro cw_MSt_readFrom <| List.forall_mem_cons.mpr <| And.intro cw_MSt_readLump <| List.forall_mem_cons.mpr <| And.intro cw_MSt_readSigned <| List.forall_mem_cons.mpr <| And.intro cw_MSt_readRate <| List.forall_mem_cons.mpr <| And.intro cw_MSt_mostRate <| List.forall_mem_cons.mpr <| And.intro cw_MSt_weigh <| List.forall_mem_cons.mpr <| And.intro cw_MSt_keen <| List.forall_mem_cons.mpr <| And.intro cw_MSt_keenWith <| List.forall_mem_cons.mpr <| And.intro cw_MSt_screwPlace <| List.forall_mem_cons.mpr <| And.intro cw_MSt_rate <| List.forall_mem_cons.mpr <| And.intro cw_MSt_measure <| List.forall_mem_cons.mpr <| And.intro cw_MSt_lumpPart <| List.forall_mem_cons.mpr <| And.intro cw_MSt_isRate <| List.forall_mem_cons.mpr <| And.intro cw_MSt_mayBecome <| List.forall_mem_cons.mpr <| And.intro cw_MSt_change <| List.forall_mem_cons.mpr <| And.intro cw_MTa_init <| List.forall_mem_cons.mpr <| And.intro cw_MTa_append <| List.forall_mem_cons.mpr <| And.intro cw_MTa_clear <| List.forall_mem_cons.mpr <| And.intro cw_MTa_rewind <| List.forall_mem_cons.mpr <| And.intro cw_MTa_isAtEnd <| List.forall_mem_cons.mpr <| And.intro cw_MTa_here <| List.forall_mem_cons.mpr <| And.intro cw_MTa_skip <| List.forall_mem_cons.mpr <| And.intro cw_MTa_digit <| List.forall_mem_cons.mpr <| And.intro cw_MTa_number <| fun _ h => absurd h List.not_mem_nil
theorem cw_l3 : ∀ M ∈ ML_3, codeW M ∈ lw_tbl := List.forall_mem_cons.mpr <| And.intro cw_MTo_init <| List.forall_mem_cons.mpr <| And.intro cw_MTo_feed <| List.forall_mem_cons.mpr <| And.intro cw_MTo_stone <| List.forall_mem_cons.mpr <| And.intro cw_MTo_of <| List.forall_mem_cons.mpr <| And.intro cw_MTo_lump <| List.forall_mem_cons.mpr <| And.intro cw_MTo_set <| List.forall_mem_cons.mpr <| And.intro cw_MTo_floor <| List.forall_mem_cons.mpr <| And.intro cw_MTo_grows <| List.forall_mem_cons.mpr <| And.intro cw_MTo_roll <| List.forall_mem_cons.mpr <| And.intro cw_MTo_going <| List.forall_mem_cons.mpr <| And.intro cw_MTo_back <| List.forall_mem_cons.mpr <| And.intro cw_MTo_told <| List.forall_mem_cons.mpr <| And.intro cw_MTo_even <| List.forall_mem_cons.mpr <| And.intro cw_MTo_soonest <| List.forall_mem_cons.mpr <| And.intro cw_MTo_screws <| List.forall_mem_cons.mpr <| And.intro cw_MTo_lightest <| List.forall_mem_cons.mpr <| And.intro cw_MTo_seen <| List.forall_mem_cons.mpr <| And.intro cw_MTo_pressed <| List.forall_mem_cons.mpr <| And.intro cw_MTo_hands <| List.forall_mem_cons.mpr <| And.intro cw_MTo_frame <| List.forall_mem_cons.mpr <| And.intro cw_MTo_frames <| List.forall_mem_cons.mpr <| And.intro cw_MTo_cut <| List.forall_mem_cons.mpr <| And.intro cw_MTo_off <| List.forall_mem_cons.mpr <| And.intro cw_MTo_shape <| List.forall_mem_cons.mpr <| And.intro cw_MTo_span <| List.forall_mem_cons.mpr <| And.intro cw_MTo_which <| List.forall_mem_cons.mpr <| And.intro cw_MTo_chance <| List.forall_mem_cons.mpr <| And.intro cw_MTo_undo <| List.forall_mem_cons.mpr <| And.intro cw_MTo_redo <| List.forall_mem_cons.mpr <| And.intro cw_MTo_body <| fun _ h => absurd h List.not_mem_nil
theorem cw_l4 : ∀ M ∈ ML_4, codeW M ∈ lw_tbl := List.forall_mem_cons.mpr <| And.intro cw_MTo_act <| List.forall_mem_cons.mpr <| And.intro cw_MTo_trace <| List.forall_mem_cons.mpr <| And.intro cw_MTo_keep <| List.forall_mem_cons.mpr <| And.intro cw_MTo_row <| List.forall_mem_cons.mpr <| And.intro cw_MTo_put <| List.forall_mem_cons.mpr <| And.intro cw_MTo_element <| List.forall_mem_cons.mpr <| And.intro cw_MTo_shift <| List.forall_mem_cons.mpr <| And.intro cw_MTo_taken <| List.forall_mem_cons.mpr <| And.intro cw_MTo_count <| List.forall_mem_cons.mpr <| And.intro cw_MTo_isWithin <| List.forall_mem_cons.mpr <| And.intro cw_MTo_isKeen <| List.forall_mem_cons.mpr <| And.intro cw_MTo_isStart <| List.forall_mem_cons.mpr <| And.intro cw_MTo_drawn <| List.forall_mem_cons.mpr <| And.intro cw_MTo_stoneAt <| List.forall_mem_cons.mpr <| And.intro cw_MTo_floorAt <| List.forall_mem_cons.mpr <| And.intro cw_MTo_shelfAt <| List.forall_mem_cons.mpr <| And.intro cw_MTo_isFloorOrNone <| List.forall_mem_cons.mpr <| And.intro cw_MTo_isGround <| List.forall_mem_cons.mpr <| And.intro cw_MTo_lay <| List.forall_mem_cons.mpr <| And.intro cw_MTo_layOwn <| List.forall_mem_cons.mpr <| And.intro cw_MTo_start <| List.forall_mem_cons.mpr <| And.intro cw_MTo_firstBack <| List.forall_mem_cons.mpr <| And.intro cw_MTo_offBy <| List.forall_mem_cons.mpr <| And.intro cw_MTo_changeTo <| List.forall_mem_cons.mpr <| And.intro cw_MRm_init <| List.forall_mem_cons.mpr <| And.intro cw_MRm_in <| List.forall_mem_cons.mpr <| And.intro cw_MRm_sizeOf <| List.forall_mem_cons.mpr <| And.intro cw_MRm_held <| List.forall_mem_cons.mpr <| And.intro cw_MRm_feed <| List.forall_mem_cons.mpr <| And.intro cw_MRm_isStone <| fun _ h => absurd h List.not_mem_nil
theorem cw_l5 : ∀ M ∈ ML_5, codeW M ∈ lw_tbl := List.forall_mem_cons.mpr <| And.intro cw_MRm_isHere <| List.forall_mem_cons.mpr <| And.intro cw_MRm_takes <| List.forall_mem_cons.mpr <| And.intro cw_MRm_digit <| List.forall_mem_cons.mpr <| And.intro cw_MRm_signed <| List.forall_mem_cons.mpr <| And.intro cw_MRm_readNumber <| List.forall_mem_cons.mpr <| And.intro cw_MRm_readLump <| List.forall_mem_cons.mpr <| And.intro cw_MRm_stone <| List.forall_mem_cons.mpr <| And.intro cw_MRm_sumOf <| List.forall_mem_cons.mpr <| And.intro cw_MRm_wideX <| List.forall_mem_cons.mpr <| And.intro cw_MRm_wideY <| List.forall_mem_cons.mpr <| And.intro cw_MRm_slant <| List.forall_mem_cons.mpr <| And.intro cw_MRm_keenOf <| List.forall_mem_cons.mpr <| And.intro cw_MRm_of <| List.forall_mem_cons.mpr <| And.intro cw_MRm_lump <| List.forall_mem_cons.mpr <| And.intro cw_MRm_valueAt <| List.forall_mem_cons.mpr <| And.intro cw_MRm_place <| List.forall_mem_cons.mpr <| And.intro cw_MRm_changes <| List.forall_mem_cons.mpr <| And.intro cw_MRm_undo <| List.forall_mem_cons.mpr <| And.intro cw_MRm_redo <| List.forall_mem_cons.mpr <| And.intro cw_MRm_set <| List.forall_mem_cons.mpr <| And.intro cw_MRm_look <| List.forall_mem_cons.mpr <| And.intro cw_MRm_wrong <| List.forall_mem_cons.mpr <| And.intro cw_MRm_addStep <| List.forall_mem_cons.mpr <| And.intro cw_MRm_nameOf <| List.forall_mem_cons.mpr <| And.intro cw_MRm_opens <| List.forall_mem_cons.mpr <| And.intro cw_MRm_figure <| List.forall_mem_cons.mpr <| And.intro cw_MRm_operand <| List.forall_mem_cons.mpr <| And.intro cw_MRm_product <| List.forall_mem_cons.mpr <| And.intro cw_MRm_sum <| List.forall_mem_cons.mpr <| And.intro cw_MRm_compared <| fun _ h => absurd h List.not_mem_nil
theorem cw_l6 : ∀ M ∈ ML_6, codeW M ∈ lw_tbl := List.forall_mem_cons.mpr <| And.intro cw_MRm_both <| List.forall_mem_cons.mpr <| And.intro cw_MRm_either <| List.forall_mem_cons.mpr <| And.intro cw_MRm_line <| List.forall_mem_cons.mpr <| And.intro cw_MRm_readText <| List.forall_mem_cons.mpr <| And.intro cw_MRm_twoOf <| List.forall_mem_cons.mpr <| And.intro cw_MRm_worked <| List.forall_mem_cons.mpr <| And.intro cw_MRm_gives <| List.forall_mem_cons.mpr <| And.intro cw_MRm_isFloor <| List.forall_mem_cons.mpr <| And.intro cw_MRm_floor <| List.forall_mem_cons.mpr <| And.intro cw_MRm_grows <| List.forall_mem_cons.mpr <| And.intro cw_MRm_isStart <| List.forall_mem_cons.mpr <| And.intro cw_MRm_isGoing <| List.forall_mem_cons.mpr <| And.intro cw_MRm_begin <| List.forall_mem_cons.mpr <| And.intro cw_MRm_takenBy <| List.forall_mem_cons.mpr <| And.intro cw_MRm_go <| List.forall_mem_cons.mpr <| And.intro cw_MRm_note <| List.forall_mem_cons.mpr <| And.intro cw_MRm_roll <| List.forall_mem_cons.mpr <| And.intro cw_MRm_going <| List.forall_mem_cons.mpr <| And.intro cw_MRm_back <| List.forall_mem_cons.mpr <| And.intro cw_MRm_told <| List.forall_mem_cons.mpr <| And.intro cw_MRm_lookBack <| List.forall_mem_cons.mpr <| And.intro cw_MRm_goThrough <| List.forall_mem_cons.mpr <| And.intro cw_MRm_even <| List.forall_mem_cons.mpr <| And.intro cw_MRm_soonest <| List.forall_mem_cons.mpr <| And.intro cw_MRm_screwed <| List.forall_mem_cons.mpr <| And.intro cw_MRm_screws <| List.forall_mem_cons.mpr <| And.intro cw_MRm_lightest <| List.forall_mem_cons.mpr <| And.intro cw_MRm_seen <| List.forall_mem_cons.mpr <| And.intro cw_MRm_pressed <| List.forall_mem_cons.mpr <| And.intro cw_MRm_draw <| fun _ h => absurd h List.not_mem_nil
theorem cw_l7 : ∀ M ∈ ML_7, codeW M ∈ lw_tbl := List.forall_mem_cons.mpr <| And.intro cw_MRm_hands <| List.forall_mem_cons.mpr <| And.intro cw_MRm_isFrame <| List.forall_mem_cons.mpr <| And.intro cw_MRm_addFrame <| List.forall_mem_cons.mpr <| And.intro cw_MRm_frame <| List.forall_mem_cons.mpr <| And.intro cw_MRm_frames <| List.forall_mem_cons.mpr <| And.intro cw_MRm_cut <| List.forall_mem_cons.mpr <| And.intro cw_MRm_offBy <| List.forall_mem_cons.mpr <| And.intro cw_MRm_off <| List.forall_mem_cons.mpr <| And.intro cw_MRm_shape <| List.forall_mem_cons.mpr <| And.intro cw_MRm_span <| List.forall_mem_cons.mpr <| And.intro cw_MRm_which <| List.forall_mem_cons.mpr <| And.intro cw_MRm_chance <| List.forall_mem_cons.mpr <| And.intro cw_MRm_isBody <| List.forall_mem_cons.mpr <| And.intro cw_MRm_ran <| List.forall_mem_cons.mpr <| And.intro cw_MRm_trace <| List.forall_mem_cons.mpr <| And.intro cw_MRm_body <| List.forall_mem_cons.mpr <| And.intro cw_MRm_isUnder <| List.forall_mem_cons.mpr <| And.intro cw_MRm_plainRolls <| List.forall_mem_cons.mpr <| And.intro cw_MRm_keptRolls <| List.forall_mem_cons.mpr <| And.intro cw_MRm_rolls <| List.forall_mem_cons.mpr <| And.intro cw_MRm_plainTrades <| List.forall_mem_cons.mpr <| And.intro cw_MRm_turnedTrades <| List.forall_mem_cons.mpr <| And.intro cw_MRm_trades <| List.forall_mem_cons.mpr <| And.intro cw_MRm_plainEnds <| List.forall_mem_cons.mpr <| And.intro cw_MRm_ends <| List.forall_mem_cons.mpr <| And.intro cw_MRm_plainTells <| List.forall_mem_cons.mpr <| And.intro cw_MRm_tells <| List.forall_mem_cons.mpr <| And.intro cw_MRm_act <| List.forall_mem_cons.mpr <| And.intro cw_MRm_count <| List.forall_mem_cons.mpr <| And.intro cw_MRm_isShelf <| fun _ h => absurd h List.not_mem_nil
theorem cw_l8 : ∀ M ∈ ML_8, codeW M ∈ lw_tbl := List.forall_mem_cons.mpr <| And.intro cw_MRm_keep <| List.forall_mem_cons.mpr <| And.intro cw_MRm_row <| List.forall_mem_cons.mpr <| And.intro cw_MRm_whyNoPlace <| List.forall_mem_cons.mpr <| And.intro cw_MRm_put <| List.forall_mem_cons.mpr <| And.intro cw_MRm_element <| List.forall_mem_cons.mpr <| And.intro cw_MRm_shift <| List.forall_mem_cons.mpr <| And.intro cw_MRm_taken <| List.forall_mem_cons.mpr <| And.intro cw_MIn_signum <| fun _ h => absurd h List.not_mem_nil
theorem cw_gd {l : List MI} (h : ∀ M ∈ l, codeW M ∈ lw_tbl) (k : Nat) : codeW (l.getD k MBo_init) ∈ lw_tbl := by
  rw [List.getD_eq_getElem?_getD]
  cases hk : l[k]? with
  | none => exact cw_MBo_init
  | some M => exact h M (List.mem_of_getElem? hk)
theorem cw_all (j : Nat) : codeW (mI j) ∈ lw_tbl := by
  unfold mI
  split
  · exact cw_gd cw_l0 _
  · exact cw_gd cw_l1 _
  · exact cw_gd cw_l2 _
  · exact cw_gd cw_l3 _
  · exact cw_gd cw_l4 _
  · exact cw_gd cw_l5 _
  · exact cw_gd cw_l6 _
  · exact cw_gd cw_l7 _
  · exact cw_gd cw_l8 _
set_option maxRecDepth 100000 in
theorem lay_0 : ckWs (u_ws "TurnsOneWay$Bodies" T0 6) [296, 298, 300, 302, 304, 306] = true := by decide +kernel
theorem nm_0 : ∀ a, a < 6 → ∀ b, b < 6 → a ≠ b → (T0 a).2.1 ≠ (T0 b).2.1 := by decide +kernel
theorem ft_0 : ∀ k, k < 6 → parseFieldDescriptor (T0 k).2.2.1 = some (ft0 k) := by decide +kernel
theorem df_0 : ∀ k, k < 6 → defaultValue (ft0 k) = vp_V (dfl 0) k := by decide +kernel
set_option maxRecDepth 100000 in
theorem lay_1 : ckWs (u_ws "TurnsOneWay$Changes" T1 3) [275, 277, 279] = true := by decide +kernel
theorem nm_1 : ∀ a, a < 3 → ∀ b, b < 3 → a ≠ b → (T1 a).2.1 ≠ (T1 b).2.1 := by decide +kernel
theorem ft_1 : ∀ k, k < 3 → parseFieldDescriptor (T1 k).2.2.1 = some (ft1 k) := by decide +kernel
theorem df_1 : ∀ k, k < 3 → defaultValue (ft1 k) = vp_V (dfl 1) k := by decide +kernel
set_option maxRecDepth 100000 in
theorem lay_2 : ckWs (u_ws "TurnsOneWay$Film" T2 3) [257, 259, 261] = true := by decide +kernel
theorem nm_2 : ∀ a, a < 3 → ∀ b, b < 3 → a ≠ b → (T2 a).2.1 ≠ (T2 b).2.1 := by decide +kernel
theorem ft_2 : ∀ k, k < 3 → parseFieldDescriptor (T2 k).2.2.1 = some (ft2 k) := by decide +kernel
theorem df_2 : ∀ k, k < 3 → defaultValue (ft2 k) = vp_V (dfl 2) k := by decide +kernel
set_option maxRecDepth 100000 in
theorem lay_3 : ckWs (u_ws "TurnsOneWay$Floor" T3 11) [365, 367, 369, 371, 373, 375, 377, 379, 381, 383, 385] = true := by decide +kernel
theorem nm_3 : ∀ a, a < 11 → ∀ b, b < 11 → a ≠ b → (T3 a).2.1 ≠ (T3 b).2.1 := by decide +kernel
theorem ft_3 : ∀ k, k < 11 → parseFieldDescriptor (T3 k).2.2.1 = some (ft3 k) := by decide +kernel
theorem df_3 : ∀ k, k < 11 → defaultValue (ft3 k) = vp_V (dfl 3) k := by decide +kernel
set_option maxRecDepth 100000 in
theorem lay_4 : ckWs (u_ws "TurnsOneWay$Going" T4 9) [227, 229, 231, 233, 235, 237, 239, 241, 243] = true := by decide +kernel
theorem nm_4 : ∀ a, a < 9 → ∀ b, b < 9 → a ≠ b → (T4 a).2.1 ≠ (T4 b).2.1 := by decide +kernel
theorem ft_4 : ∀ k, k < 9 → parseFieldDescriptor (T4 k).2.2.1 = some (ft4 k) := by decide +kernel
theorem df_4 : ∀ k, k < 9 → defaultValue (ft4 k) = vp_V (dfl 4) k := by decide +kernel
set_option maxRecDepth 100000 in
theorem lay_5 : ckWs (u_ws "TurnsOneWay$Motion" T5 17) [175, 177, 179, 181, 183, 185, 187, 189, 191, 193, 195, 197, 199, 201, 203, 205, 207] = true := by decide +kernel
theorem nm_5 : ∀ a, a < 17 → ∀ b, b < 17 → a ≠ b → (T5 a).2.1 ≠ (T5 b).2.1 := by decide +kernel
theorem ft_5 : ∀ k, k < 17 → parseFieldDescriptor (T5 k).2.2.1 = some (ft5 k) := by decide +kernel
theorem df_5 : ∀ k, k < 17 → defaultValue (ft5 k) = vp_V (dfl 5) k := by decide +kernel
set_option maxRecDepth 100000 in
theorem lay_6 : ckWs (u_ws "TurnsOneWay$Shelf" T6 4) [400, 402, 404, 406] = true := by decide +kernel
theorem nm_6 : ∀ a, a < 4 → ∀ b, b < 4 → a ≠ b → (T6 a).2.1 ≠ (T6 b).2.1 := by decide +kernel
theorem ft_6 : ∀ k, k < 4 → parseFieldDescriptor (T6 k).2.2.1 = some (ft6 k) := by decide +kernel
theorem df_6 : ∀ k, k < 4 → defaultValue (ft6 k) = vp_V (dfl 6) k := by decide +kernel
set_option maxRecDepth 100000 in
theorem lay_7 : ckWs (u_ws "TurnsOneWay$Stone" T7 11) [326, 328, 330, 332, 334, 336, 338, 340, 342, 344, 346] = true := by decide +kernel
theorem nm_7 : ∀ a, a < 11 → ∀ b, b < 11 → a ≠ b → (T7 a).2.1 ≠ (T7 b).2.1 := by decide +kernel
theorem ft_7 : ∀ k, k < 11 → parseFieldDescriptor (T7 k).2.2.1 = some (ft7 k) := by decide +kernel
theorem df_7 : ∀ k, k < 11 → defaultValue (ft7 k) = vp_V (dfl 7) k := by decide +kernel
set_option maxRecDepth 100000 in
theorem lay_8 : ckWs (u_ws "TurnsOneWay$Tape" T8 3) [125, 127, 129] = true := by decide +kernel
theorem nm_8 : ∀ a, a < 3 → ∀ b, b < 3 → a ≠ b → (T8 a).2.1 ≠ (T8 b).2.1 := by decide +kernel
theorem ft_8 : ∀ k, k < 3 → parseFieldDescriptor (T8 k).2.2.1 = some (ft8 k) := by decide +kernel
theorem df_8 : ∀ k, k < 3 → defaultValue (ft8 k) = vp_V (dfl 8) k := by decide +kernel
set_option maxRecDepth 100000 in
theorem lay_9 : ckWs (u_ws "TurnsOneWay" T9 11) [421, 423, 425, 427, 429, 431, 433, 435, 437, 439, 441] = true := by decide +kernel
theorem nm_9 : ∀ a, a < 11 → ∀ b, b < 11 → a ≠ b → (T9 a).2.1 ≠ (T9 b).2.1 := by decide +kernel
theorem ft_9 : ∀ k, k < 11 → parseFieldDescriptor (T9 k).2.2.1 = some (ft9 k) := by decide +kernel
theorem df_9 : ∀ k, k < 11 → defaultValue (ft9 k) = vp_V (dfl 9) k := by decide +kernel
set_option maxRecDepth 100000 in
theorem lay_10 : ckWs (u_ws "TurnsOneWayModel" T10 59) [1088, 1090, 1092, 1094, 1096, 1098, 1100, 1102, 1104, 1106, 1108, 1110, 1112, 1114, 1116, 1118, 1120, 1122, 1124, 1126, 1128, 1130, 1132, 1134, 1136, 1138, 1140, 1142, 1144, 1146, 1148, 1150, 1152, 1154, 1156, 1158, 1160, 1162, 1164, 1166, 1168, 1170, 1172, 1174, 1176, 1178, 1180, 1182, 1184, 1186, 1188, 1190, 1192, 1194, 1196, 1198, 1200, 1202, 1204] = true := by decide +kernel
theorem nm_10 : ∀ a, a < 59 → ∀ b, b < 59 → a ≠ b → (T10 a).2.1 ≠ (T10 b).2.1 := by decide +kernel
theorem ft_10 : ∀ k, k < 59 → parseFieldDescriptor (T10 k).2.2.1 = some (ft10 k) := by decide +kernel
theorem df_10 : ∀ k, k < 59 → defaultValue (ft10 k) = vp_V (dfl 10) k := by decide +kernel
set_option maxRecDepth 100000 in
theorem ac_all : ckWs [.arrayClass .int, .arrayClass .long, .arrayClass .byte, .arrayClass .short] [246, 409, 132, 1207] = true := by decide +kernel
set_option maxRecDepth 100000 in
theorem ao_all : ckWs [.arrayOver (.object "TurnsOneWay$Stone"), .arrayOver (.object "TurnsOneWay$Floor"), .arrayOver (.object "TurnsOneWay$Shelf")] [134, 136, 138] = true := by decide +kernel
set_option maxRecDepth 100000 in
theorem ins_0 : ckW (.instantiable "TurnsOneWay$Bodies" 6) 283 = true := by decide +kernel
set_option maxRecDepth 100000 in
theorem ins_1 : ckW (.instantiable "TurnsOneWay$Changes" 3) 265 = true := by decide +kernel
set_option maxRecDepth 100000 in
theorem ins_2 : ckW (.instantiable "TurnsOneWay$Film" 3) 248 = true := by decide +kernel
set_option maxRecDepth 100000 in
theorem ins_3 : ckW (.instantiable "TurnsOneWay$Floor" 11) 349 = true := by decide +kernel
set_option maxRecDepth 100000 in
theorem ins_4 : ckW (.instantiable "TurnsOneWay$Going" 9) 211 = true := by decide +kernel
set_option maxRecDepth 100000 in
theorem ins_5 : ckW (.instantiable "TurnsOneWay$Motion" 17) 140 = true := by decide +kernel
set_option maxRecDepth 100000 in
theorem ins_6 : ckW (.instantiable "TurnsOneWay$Shelf" 4) 388 = true := by decide +kernel
set_option maxRecDepth 100000 in
theorem ins_7 : ckW (.instantiable "TurnsOneWay$Stone" 11) 309 = true := by decide +kernel
set_option maxRecDepth 100000 in
theorem ins_8 : ckW (.instantiable "TurnsOneWay$Tape" 3) 114 = true := by decide +kernel
set_option maxRecDepth 100000 in
theorem ins_9 : ckW (.instantiable "TurnsOneWay" 11) 106 = true := by decide +kernel
set_option maxRecDepth 100000 in
theorem ins_10 : ckW (.instantiable "TurnsOneWayModel" 59) 1025 = true := by decide +kernel
end
section
-- ===== THE INTERPRETER: an abstract machine over the claim's bytecode; a reference is the place of a cell in the order of making
abbrev Hp : Type := Nat × (Nat → Option va_E)
abbrev Out : Type := (Nat × List Value × List Value × Hp) ⊕ ((MI × List Value × List Value) ⊕ Option Value)
abbrev Res : Type := Option (Option Value × Hp)
abbrev Tok : Type := UInt32 → Option (Nat × (Nat → Int32))
def mkU : Value := .retAddr 0
def sE (h : Hp) (a : Nat) (e : va_E) : Hp := (h.1, va_up h.2 a (some e))
def nE (h : Hp) (e : va_E) : Hp := (h.1 + 1, va_up h.2 h.1 (some e))
def nx (pc : Nat) (L st : List Value) (h : Hp) : Option Out := some (.inl (pc, L, st, h))
def g1 (len n : Nat) (r : Option Out) : Option Out := if len = n then r else none
def sL (L : List Value) (i : Nat) (v : Value) : List Value := match i with
  | 0 => L.set 0 v
  | j + 1 => (if (L.getD j mkU).category = 2 then L.set j mkU else L).set (j + 1) v
def sL2 (L : List Value) (i : Nat) (v : Value) : List Value := (sL L i v).set (i + 1) mkU
def o_il (L st : List Value) (h : Hp) (pc i : Nat) : Option Out := match L[i]? with
  | some (.int x) => nx pc L (.int x :: st) h
  | _ => none
def o_ll (L st : List Value) (h : Hp) (pc i : Nat) : Option Out := match L[i]? with
  | some (.long x) => nx pc L (.long x :: st) h
  | _ => none
def o_al (L st : List Value) (h : Hp) (pc i : Nat) : Option Out := match L[i]? with
  | some (.ref x) => nx pc L (.ref x :: st) h
  | some (.float x) => nx pc L (.float x :: st) h
  | some .null => nx pc L (.null :: st) h
  | _ => none
def o_is (L st : List Value) (h : Hp) (pc i : Nat) : Option Out := match st with
  | .int x :: r => if i < L.length then nx pc (sL L i (.int x)) r h else none
  | _ => none
def o_ls (L st : List Value) (h : Hp) (pc i : Nat) : Option Out := match st with
  | .long x :: r => if i + 1 < L.length then nx pc (sL2 L i (.long x)) r h else none
  | _ => none
def o_as (L st : List Value) (h : Hp) (pc i : Nat) : Option Out := match st with
  | .ref x :: r => if i < L.length then nx pc (sL L i (.ref x)) r h else none
  | .float x :: r => if i < L.length then nx pc (sL L i (.float x)) r h else none
  | .null :: r => if i < L.length then nx pc (sL L i .null) r h else none
  | _ => none
def o_inc (L st : List Value) (h : Hp) (pc i : Nat) (n : Int) : Option Out := match L[i]? with
  | some (.int x) => nx pc (sL L i (.int (x + Int32.ofInt n))) st h
  | _ => none
def o_ii (f : Int32 → Int32 → Int32) (L st : List Value) (h : Hp) (pc : Nat) : Option Out := match st with
  | .int y :: .int x :: r => nx pc L (.int (f x y) :: r) h
  | _ => none
def o_i0 (f : Int32 → Int32 → Int32) (L st : List Value) (h : Hp) (pc : Nat) : Option Out := match st with
  | .int y :: .int x :: r => if y = 0 then none else nx pc L (.int (f x y) :: r) h
  | _ => none
def o_i (f : Int32 → Int32) (L st : List Value) (h : Hp) (pc : Nat) : Option Out := match st with
  | .int x :: r => nx pc L (.int (f x) :: r) h
  | _ => none
def o_lL (f : Int64 → Int64 → Int64) (L st : List Value) (h : Hp) (pc : Nat) : Option Out := match st with
  | .long y :: .long x :: r => nx pc L (.long (f x y) :: r) h
  | _ => none
def o_l0 (f : Int64 → Int64 → Int64) (L st : List Value) (h : Hp) (pc : Nat) : Option Out := match st with
  | .long y :: .long x :: r => if y = 0 then none else nx pc L (.long (f x y) :: r) h
  | _ => none
def o_lsh (f : Int64 → Int32 → Int64) (L st : List Value) (h : Hp) (pc : Nat) : Option Out := match st with
  | .int y :: .long x :: r => nx pc L (.long (f x y) :: r) h
  | _ => none
def o_i2l (L st : List Value) (h : Hp) (pc : Nat) : Option Out := match st with
  | .int x :: r => nx pc L (.long x.toInt64 :: r) h
  | _ => none
def o_l2i (L st : List Value) (h : Hp) (pc : Nat) : Option Out := match st with
  | .long x :: r => nx pc L (.int x.toInt32 :: r) h
  | _ => none
def o_lcmp (L st : List Value) (h : Hp) (pc : Nat) : Option Out := match st with
  | .long y :: .long x :: r => nx pc L (.int (lg_cmp x y) :: r) h
  | _ => none
def o_dup (L st : List Value) (h : Hp) (pc : Nat) : Option Out := match st with
  | v :: r => if v.category = 1 then nx pc L (v :: v :: r) h else none
  | _ => none
def o_pop (L st : List Value) (h : Hp) (pc : Nat) : Option Out := match st with
  | v :: r => if v.category = 1 then nx pc L r h else none
  | _ => none
def o_pop2 (L st : List Value) (h : Hp) (pc : Nat) : Option Out := match st with
  | .long _ :: r => nx pc L r h
  | _ => none
/-- static rows of ints, as tokens -/
def fS (o i : Nat) : Option UInt32 := if o = 0 then (if i = 22 then some 1 else if i = 29 then some 2 else none) else none
def o_gs (o i : Nat) (L st : List Value) (h : Hp) (pc : Nat) : Option Out := match fS o i with
  | some t => nx pc L (.float t :: st) h
  | none => none
/-- ints, longs copied from a row to a row -/
def o_cp (d pc : Nat) (L st : List Value) (h : Hp) : Option Out := match st with
  | .int n :: .int j :: .ref b :: .int i :: .ref a :: rest => match h.2 a, h.2 b with
    | some (.inl (0, na, .inl f)), some (.inl (0, nb, .inl g)) => if 0 < d ∧ (rest.map fun v => v.category).sum ≤ 8 ∧ ¬ i < 0 ∧ ¬ j < 0 ∧ ¬ n < 0 ∧ i.toNatClampNeg + n.toNatClampNeg ≤ na ∧ j.toNatClampNeg + n.toNatClampNeg ≤ nb then nx (pc + 3) L rest (sE h b (.inl (0, nb, .inl (va_cpy f g i.toNatClampNeg j.toNatClampNeg n.toNatClampNeg)))) else none
    | some (.inl (1, na, .inr (.inl f))), some (.inl (1, nb, .inr (.inl g))) => if 0 < d ∧ (rest.map fun v => v.category).sum ≤ 8 ∧ ¬ i < 0 ∧ ¬ j < 0 ∧ ¬ n < 0 ∧ i.toNatClampNeg + n.toNatClampNeg ≤ na ∧ j.toNatClampNeg + n.toNatClampNeg ≤ nb then nx (pc + 3) L rest (sE h b (.inl (1, nb, .inr (.inl (va_cpy f g i.toNatClampNeg j.toNatClampNeg n.toNatClampNeg))))) else none
    | _, _ => none
  | _ => none
def o_dup2 (L st : List Value) (h : Hp) (pc : Nat) : Option Out := match st with
  | v :: w :: r => if v.category = 1 ∧ w.category = 1 then nx pc L (v :: w :: v :: w :: r) h else none
  | _ => none
/-- a jump: to pc + off where b holds -/
def o_jp (pc : Nat) (off : Int) (L st : List Value) (h : Hp) : Option Out := if (pc : Int) + off < 0 then none else nx ((pc : Int) + off).toNat L st h
def bB (cc : ClassFile.Cond) (x y : Int32) : Bool := match cc with
  | .eq => decide (x = y)
  | .ne => decide (¬ x = y)
  | .lt => decide (x < y)
  | .ge => decide (y ≤ x)
  | .gt => decide (y < x)
  | .le => decide (x ≤ y)
def o_if2 (cc : ClassFile.Cond) (off : Int) (L st : List Value) (h : Hp) (pc : Nat) : Option Out := match st with
  | .int y :: .int x :: r => if (pc : Int) + off < 0 then none else if bB cc x y = true then o_jp pc off L r h else nx (pc + 3) L r h
  | _ => none
def o_if1 (cc : ClassFile.Cond) (off : Int) (L st : List Value) (h : Hp) (pc : Nat) : Option Out := match st with
  | .int x :: r => if (pc : Int) + off < 0 then none else if bB cc x 0 = true then o_jp pc off L r h else nx (pc + 3) L r h
  | _ => none
def o_nul (b : Bool) (off : Int) (L st : List Value) (h : Hp) (pc : Nat) : Option Out := match st with
  | .ref _ :: r => if b = true then nx (pc + 3) L r h else o_jp pc off L r h
  | .null :: r => if b = true then o_jp pc off L r h else nx (pc + 3) L r h
  | _ => none
def o_tab (dflt lo hi : Int) (offs : Array Int) (L st : List Value) (h : Hp) (pc : Nat) : Option Out := match st with
  | .int x :: r => if x.toInt < lo ∨ hi < x.toInt then o_jp pc dflt L r h else match offs[(x.toInt - lo).toNat]? with
    | some off => o_jp pc off L r h
    | none => none
  | _ => none
def o_lkp (dflt : Int) (ps : Array (Int × Int)) (L st : List Value) (h : Hp) (pc : Nat) : Option Out := match st with
  | .int x :: r => if (ps.toList.zip (ps.toList.drop 1)).all (fun (a, next) => a.1 < next.1) = true then o_jp pc (Op.lookupswitch.offset ps.toList dflt x.toInt) L r h else none
  | _ => none
def o_gf (o i : Nat) (L st : List Value) (h : Hp) (pc : Nat) : Option Out := match st with
  | .ref a :: r => match fF o i with
    | some (ci, k, _, _) => match h.2 a with
      | some (.inr (c', fs)) => if c' = ci then match fs[k]? with
          | some v => nx pc L (v :: r) h
          | none => none
        else none
      | _ => none
    | none => none
  | _ => none
def okV (ty : Nat) (v : Value) : Bool := match ty, v with
  | 0, .int _ => true
  | 1, .ref _ => true
  | 1, .null => true
  | _, _ => false
def o_pf (ini : Bool) (o i : Nat) (L st : List Value) (h : Hp) (pc : Nat) : Option Out := match st with
  | v :: .ref a :: r => match fF o i with
    | some (ci, k, ty, fin) => match h.2 a with
      | some (.inr (c', fs)) => if c' = ci ∧ k < fs.length ∧ okV ty v = true ∧ (fin = 0 ∨ (ini = true ∧ ci = o)) then nx pc L r (sE h a (.inr (ci, fs.set k v))) else none
      | _ => none
    | none => none
  | _ => none
/-- loads of ints out of an array of type t -/
def o_ial (X : Tok) (t : Nat) (L st : List Value) (h : Hp) (pc : Nat) : Option Out := match st with
  | .int j :: .ref a :: r => match h.2 a with
    | some (.inl (t', n, .inl f)) => if t' = t ∧ ¬ (j < 0 ∨ n ≤ j.toNatClampNeg) then nx pc L (.int (f j.toNatClampNeg) :: r) h else none
    | _ => none
  | .int j :: .float k :: r => match X k with
    | some (n, f) => if t = 0 ∧ ¬ (j < 0 ∨ n ≤ j.toNatClampNeg) then nx pc L (.int (f j.toNatClampNeg) :: r) h else none
    | none => none
  | _ => none
def o_lal (L st : List Value) (h : Hp) (pc : Nat) : Option Out := match st with
  | .int j :: .ref a :: r => match h.2 a with
    | some (.inl (t', n, .inr (.inl f))) => if t' = 1 ∧ ¬ (j < 0 ∨ n ≤ j.toNatClampNeg) then nx pc L (.long (f j.toNatClampNeg) :: r) h else none
    | _ => none
  | _ => none
def o_aal (L st : List Value) (h : Hp) (pc : Nat) : Option Out := match st with
  | .int j :: .ref a :: r => match h.2 a with
    | some (.inl (t', n, .inr (.inr (.inr (.inr f))))) => if (4 ≤ t' ∧ t' ≤ 6) ∧ ¬ (j < 0 ∨ n ≤ j.toNatClampNeg) then nx pc L (va_rf (f j.toNatClampNeg) :: r) h else none
    | _ => none
  | _ => none
def o_ias (t : Nat) (nar : Int32 → Int32) (L st : List Value) (h : Hp) (pc : Nat) : Option Out := match st with
  | .int x :: .int j :: .ref a :: r => match h.2 a with
    | some (.inl (t', n, .inl f)) => if t' = t ∧ ¬ (j < 0 ∨ n ≤ j.toNatClampNeg) then nx pc L r (sE h a (.inl (t, n, .inl (upd f j.toNatClampNeg (nar x))))) else none
    | _ => none
  | _ => none
def o_las (L st : List Value) (h : Hp) (pc : Nat) : Option Out := match st with
  | .long x :: .int j :: .ref a :: r => match h.2 a with
    | some (.inl (t', n, .inr (.inl f))) => if t' = 1 ∧ ¬ (j < 0 ∨ n ≤ j.toNatClampNeg) then nx pc L r (sE h a (.inl (1, n, .inr (.inl (vp_updL f j.toNatClampNeg x))))) else none
    | _ => none
  | _ => none
def o_aas (L st : List Value) (h : Hp) (pc : Nat) : Option Out := match st with
  | .ref v :: .int j :: .ref a :: r => match h.2 a with
    | some (.inl (t', n, .inr (.inr (.inr (.inr f))))) => match h.2 v with
      | some (.inr (ci, _)) => if tyL[t']? = (cls[ci]?).map (fun q => FieldType.object q.1) ∧ t' < 7 ∧ ci < 11 ∧ ¬ (j < 0 ∨ n ≤ j.toNatClampNeg) then nx pc L r (sE h a (.inl (t', n, .inr (.inr (.inr (.inr (va_up f j.toNatClampNeg (some v)))))))) else none
      | _ => none
    | _ => none
  | _ => none
def o_len (X : Tok) (L st : List Value) (h : Hp) (pc : Nat) : Option Out := match st with
  | .ref a :: r => match h.2 a with
    | some (.inl (t', n, _)) => if t' < 7 then nx pc L (.int (Int32.ofNat n) :: r) h else none
    | _ => none
  | .float k :: r => match X k with
    | some (n, _) => nx pc L (.int (Int32.ofNat n) :: r) h
    | none => none
  | _ => none
def o_new (o i : Nat) (L st : List Value) (h : Hp) (pc : Nat) : Option Out := match fN o i with
  | some ci => if ci < 11 then nx pc L (.ref h.1 :: st) (nE h (.inr (ci, dfl ci))) else none
  | none => none
def nwA (at' : ArrayType) : Option (Nat × ((Nat → Int32) ⊕ (Nat → Int64) ⊕ (Nat → UInt32) ⊕ (Nat → UInt64) ⊕ (Nat → Option Nat))) := match at' with
  | .int => some (0, .inl fun _ => 0)
  | .long => some (1, .inr (.inl fun _ => 0))
  | .byte => some (2, .inl fun _ => 0)
  | .short => some (3, .inl fun _ => 0)
  | _ => none
def o_nwa (at' : ArrayType) (L st : List Value) (h : Hp) (pc : Nat) : Option Out := match st with
  | .int n :: r => match nwA at' with
    | some (t, a) => if n < 0 ∨ 700 < n.toNatClampNeg then none else nx pc L (.ref h.1 :: r) (nE h (.inl (t, n.toNatClampNeg, a)))
    | none => none
  | _ => none
def o_anw (o i : Nat) (L st : List Value) (h : Hp) (pc : Nat) : Option Out := match st with
  | .int n :: r => match fA o i with
    | some t => if n < 0 ∨ 700 < n.toNatClampNeg ∨ 7 ≤ t then none else nx pc L (.ref h.1 :: r) (nE h (.inl (t, n.toNatClampNeg, .inr (.inr (.inr (.inr fun _ => none))))))
    | none => none
  | _ => none
def o_ldc (o i : Nat) (L st : List Value) (h : Hp) (pc : Nat) : Option Out := match fK o i with
  | some v => nx pc L (.int v :: st) h
  | none => none
def o_ldl (o i : Nat) (L st : List Value) (h : Hp) (pc : Nat) : Option Out := match fL o i with
  | some v => nx pc L (.long v :: st) h
  | none => none
def exL : List Value → List Value
  | [] => []
  | v :: vs => if v.category = 2 then v :: mkU :: exL vs else v :: exL vs
def ent (M : MI) (av : List Value) : List Value := exL av ++ List.replicate (M.2.2.2.1 - (exL av).length) mkU
def okCall (M : MI) (av rest : List Value) : Prop := (exL av).length ≤ M.2.2.2.1 ∧ M.2.2.2.1 ≤ 45 ∧ (rest.map fun v => v.category).sum ≤ 8
def o_call (M : MI) (av rest : List Value) : Option Out := if (exL av).length ≤ M.2.2.2.1 ∧ M.2.2.2.1 ≤ 45 ∧ (rest.map fun v => v.category).sum ≤ 8 then some (.inr (.inl (M, av, rest))) else none
def o_iv (o i : Nat) (_L st : List Value) (h : Hp) (_pc : Nat) : Option Out := match fC o i with
  | some (0, ci, n, M) => match st.drop n with
    | .ref a :: rest => match h.2 a with
      | some (.inr (c', _)) => if c' = ci ∧ (st.take n).length = n then o_call M (.ref a :: (st.take n).reverse) rest else none
      | _ => none
    | _ => none
  | _ => none
def o_math (d pc : Nat) (L rest : List Value) (h : Hp) (v : Value) : Option Out := if 0 < d ∧ (rest.map fun v => v.category).sum ≤ 8 then nx (pc + 3) L (v :: rest) h else none
def o_is1 (d o i : Nat) (L st : List Value) (h : Hp) (pc : Nat) : Option Out := match fC o i with
  | some (1, _, n, M) => if (st.take n).length = n then o_call M (st.take n).reverse (st.drop n) else none
  | some (4, _, n, M) => if (st.take n).length = n then o_call M (st.take n).reverse (st.drop n) else none
  | some (6, _, _, _) => match st with
    | .int y :: .int x :: rest => o_math d pc L rest h (.int (if x < y then y else x))
    | _ => none
  | some (7, _, _, _) => match st with
    | .int y :: .int x :: rest => o_math d pc L rest h (.int (if y < x then y else x))
    | _ => none
  | some (8, _, _, _) => match st with
    | .int x :: rest => o_math d pc L rest h (.int (if 0 ≤ x then x else 0 - x))
    | _ => none
  | some (9, _, _, _) => match st with
    | .long y :: .long x :: rest => o_math d pc L rest h (.long (if y < x then y else x))
    | _ => none
  | some (10, _, _, _) => o_cp d pc L st h
  | _ => none
def o_ip (d o i : Nat) (L st : List Value) (h : Hp) (pc : Nat) : Option Out := match fC o i with
  | some (2, _, n, M) => match st.drop n with
    | .ref a :: rest => if (st.take n).length = n then o_call M (.ref a :: (st.take n).reverse) rest else none
    | _ => none
  | some (5, _, n, M) => match st.drop n with
    | .ref a :: rest => if (st.take n).length = n then o_call M (.ref a :: (st.take n).reverse) rest else none
    | _ => none
  | some (3, _, _, _) => match st with
    | .ref _ :: rest => if 0 < d ∧ (rest.map fun v => v.category).sum ≤ 8 then nx (pc + 3) L rest h else none
    | _ => none
  | _ => none
def o_ir (rt : Option FieldType) (st : List Value) : Option Out := match rt, st with
  | some .int, [.int x] => some (.inr (.inr (some (.int x))))
  | some .boolean, [.int x] => if x = 0 ∨ x = 1 then some (.inr (.inr (some (.int x)))) else none
  | _, _ => none
def o_lr (rt : Option FieldType) (st : List Value) : Option Out := match rt, st with
  | some .long, [.long x] => some (.inr (.inr (some (.long x))))
  | _, _ => none
def o_ar (rt : Option FieldType) (st : List Value) : Option Out := match rt, st with
  | some (.object _), [.ref x] => some (.inr (.inr (some (.ref x))))
  | some (.object _), [.null] => some (.inr (.inr (some .null)))
  | _, _ => none
def o_vr (rt : Option FieldType) (st : List Value) : Option Out := match rt, st with
  | none, [] => some (.inr (.inr none))
  | _, _ => none
def ex (X : Tok) (d : Nat) (M : MI) (pc : Nat) (ins : Instr) (len : Nat) (L st : List Value) (h : Hp) : Option Out := match ins with
  | .iload_n k => g1 len 1 (o_il L st h (pc + 1) k)
  | .iload i => g1 len 2 (o_il L st h (pc + 2) i)
  | .lload_n k => g1 len 1 (o_ll L st h (pc + 1) k)
  | .lload i => g1 len 2 (o_ll L st h (pc + 2) i)
  | .aload_n k => g1 len 1 (o_al L st h (pc + 1) k)
  | .aload i => g1 len 2 (o_al L st h (pc + 2) i)
  | .istore_n k => g1 len 1 (o_is L st h (pc + 1) k)
  | .istore i => g1 len 2 (o_is L st h (pc + 2) i)
  | .lstore_n k => g1 len 1 (o_ls L st h (pc + 1) k)
  | .lstore i => g1 len 2 (o_ls L st h (pc + 2) i)
  | .astore_n k => g1 len 1 (o_as L st h (pc + 1) k)
  | .astore i => g1 len 2 (o_as L st h (pc + 2) i)
  | .iinc i n => g1 len 3 (o_inc L st h (pc + 3) i n)
  | .iconst n => g1 len 1 (nx (pc + 1) L (.int (Int32.ofInt n) :: st) h)
  | .bipush n => g1 len 2 (nx (pc + 2) L (.int (Int8.ofInt n).toInt32 :: st) h)
  | .sipush n => g1 len 3 (nx (pc + 3) L (.int (Int16.ofInt n).toInt32 :: st) h)
  | .lconst n => g1 len 1 (nx (pc + 1) L (.long (Int64.ofNat (n : Nat)) :: st) h)
  | .aconst_null => g1 len 1 (nx (pc + 1) L (.null :: st) h)
  | .ldc i => g1 len 2 (o_ldc M.1 i L st h (pc + 2))
  | .ldc_w i => g1 len 3 (o_ldc M.1 i L st h (pc + 3))
  | .ldc2_w i => g1 len 3 (o_ldl M.1 i L st h (pc + 3))
  | .iadd => g1 len 1 (o_ii (fun x y => x + y) L st h (pc + 1))
  | .isub => g1 len 1 (o_ii (fun x y => x - y) L st h (pc + 1))
  | .imul => g1 len 1 (o_ii (fun x y => x * y) L st h (pc + 1))
  | .iand => g1 len 1 (o_ii (fun x y => x &&& y) L st h (pc + 1))
  | .ior => g1 len 1 (o_ii (fun x y => x ||| y) L st h (pc + 1))
  | .ixor => g1 len 1 (o_ii (fun x y => x ^^^ y) L st h (pc + 1))
  | .ishr => g1 len 1 (o_ii (fun x y => x >>> (y &&& 31)) L st h (pc + 1))
  | .iushr => g1 len 1 (o_ii (fun x y => (x.toUInt32 >>> (y.toUInt32 &&& Int32.toUInt32 31)).toInt32) L st h (pc + 1))
  | .idiv => g1 len 1 (o_i0 (fun x y => x / y) L st h (pc + 1))
  | .irem => g1 len 1 (o_i0 (fun x y => x - x / y * y) L st h (pc + 1))
  | .ineg => g1 len 1 (o_i (fun x => -x) L st h (pc + 1))
  | .i2b => g1 len 1 (o_i (fun x => x.toInt8.toInt32) L st h (pc + 1))
  | .i2s => g1 len 1 (o_i (fun x => x.toInt16.toInt32) L st h (pc + 1))
  | .ladd => g1 len 1 (o_lL (fun x y => x + y) L st h (pc + 1))
  | .lmul => g1 len 1 (o_lL (fun x y => x * y) L st h (pc + 1))
  | .land => g1 len 1 (o_lL (fun x y => x &&& y) L st h (pc + 1))
  | .lor => g1 len 1 (o_lL (fun x y => x ||| y) L st h (pc + 1))
  | .ldiv => g1 len 1 (o_l0 (fun x y => x / y) L st h (pc + 1))
  | .lshl => g1 len 1 (o_lsh (fun x y => x <<< (y.toInt64 &&& 63)) L st h (pc + 1))
  | .i2l => g1 len 1 (o_i2l L st h (pc + 1))
  | .l2i => g1 len 1 (o_l2i L st h (pc + 1))
  | .lcmp => g1 len 1 (o_lcmp L st h (pc + 1))
  | .dup => g1 len 1 (o_dup L st h (pc + 1))
  | .pop => g1 len 1 (o_pop L st h (pc + 1))
  | .pop2 => g1 len 1 (o_pop2 L st h (pc + 1))
  | .getstatic i => g1 len 3 (o_gs M.1 i L st h (pc + 3))
  | .dup2 => g1 len 1 (o_dup2 L st h (pc + 1))
  | .goto off => g1 len 3 (o_jp pc off L st h)
  | .if_icmp cc off => g1 len 3 (o_if2 cc off L st h pc)
  | .ifCond cc off => g1 len 3 (o_if1 cc off L st h pc)
  | .ifnull off => g1 len 3 (o_nul true off L st h pc)
  | .ifnonnull off => g1 len 3 (o_nul false off L st h pc)
  | .tableswitch dflt lo hi offs => o_tab dflt lo hi offs L st h pc
  | .lookupswitch dflt ps => o_lkp dflt ps L st h pc
  | .getfield i => g1 len 3 (o_gf M.1 i L st h (pc + 3))
  | .putfield i => g1 len 3 (o_pf (decide (M.2.1.name = "<init>")) M.1 i L st h (pc + 3))
  | .iaload => g1 len 1 (o_ial X 0 L st h (pc + 1))
  | .baload => g1 len 1 (o_ial X 2 L st h (pc + 1))
  | .saload => g1 len 1 (o_ial X 3 L st h (pc + 1))
  | .laload => g1 len 1 (o_lal L st h (pc + 1))
  | .aaload => g1 len 1 (o_aal L st h (pc + 1))
  | .iastore => g1 len 1 (o_ias 0 (fun x => x) L st h (pc + 1))
  | .bastore => g1 len 1 (o_ias 2 (fun x => x.toInt8.toInt32) L st h (pc + 1))
  | .sastore => g1 len 1 (o_ias 3 (fun x => x.toInt16.toInt32) L st h (pc + 1))
  | .lastore => g1 len 1 (o_las L st h (pc + 1))
  | .aastore => g1 len 1 (o_aas L st h (pc + 1))
  | .arraylength => g1 len 1 (o_len X L st h (pc + 1))
  | .new i => g1 len 3 (o_new M.1 i L st h (pc + 3))
  | .newarray at' => g1 len 2 (o_nwa at' L st h (pc + 2))
  | .anewarray i => g1 len 3 (o_anw M.1 i L st h (pc + 3))
  | .invokevirtual i => g1 len 3 (o_iv M.1 i L st h pc)
  | .invokestatic i => g1 len 3 (o_is1 d M.1 i L st h pc)
  | .invokespecial i => g1 len 3 (o_ip d M.1 i L st h pc)
  | .ireturn => g1 len 1 (o_ir M.2.2.2.2 st)
  | .lreturn => g1 len 1 (o_lr M.2.2.2.2 st)
  | .areturn => g1 len 1 (o_ar M.2.2.2.2 st)
  | .return_ => g1 len 1 (o_vr M.2.2.2.2 st)
  | _ => none
def stp (X : Tok) (d : Nat) (M : MI) (pc : Nat) (L st : List Value) (h : Hp) : Option Out := match decode M.2.2.1 pc with
  | .ok (ins, len) => ex X d M pc ins len L st h
  | .error _ => none
def psh (v : Option Value) (rest : List Value) : List Value := match v with
  | none => rest
  | some v => v :: rest
def run (X : Tok) : Nat → Nat → MI → Nat → List Value → List Value → Hp → Res
  | 0, _, _, _, _, _, _ => none
  | f + 1, d, M, pc, L, st, h => match stp X d M pc L st h with
    | none => none
    | some (.inl (pc', L', st', h')) => run X f d M pc' L' st' h'
    | some (.inr (.inl (M', av, rest))) => match d with
      | 0 => none
      | d' + 1 => match run X f d' M' 0 (ent M' av) [] h with
        | none => none
        | some (v, h') => run X f (d' + 1) M (pc + 3) L (psh v rest) h'
    | some (.inr (.inr v)) => some (v, h)
theorem run_mono (X : Tok) : ∀ (f d : Nat) (M : MI) (pc : Nat) (L st : List Value) (h : Hp) (r : Option Value × Hp), run X f d M pc L st h = some r → run X (f + 1) d M pc L st h = some r := by
  intro f
  induction f with
  | zero => intro d M pc L st h r hr; exact absurd hr (by simp [run])
  | succ f ih =>
    intro d M pc L st h r hr
    rw [run] at hr
    rw [run]
    cases hs : stp X d M pc L st h with
    | none => rw [hs] at hr; exact absurd hr (by simp)
    | some o =>
      rw [hs] at hr
      rcases o with ⟨pc', L', st', h'⟩ | ⟨M', av, rest⟩ | v
      · exact ih _ _ _ _ _ _ _ hr
      · cases d with
        | zero => exact absurd hr (by simp)
        | succ d' =>
          simp only at hr ⊢
          cases hq : run X f d' M' 0 (ent M' av) [] h with
          | none => rw [hq] at hr; exact absurd hr (by simp)
          | some q =>
            rw [hq] at hr
            rw [ih _ _ _ _ _ _ _ hq]
            exact ih _ _ _ _ _ _ _ hr
      · exact hr
theorem run_le (X : Tok) {f g : Nat} (hfg : f ≤ g) {d : Nat} {M : MI} {pc : Nat} {L st : List Value} {h : Hp} {r : Option Value × Hp} (hr : run X f d M pc L st h = some r) : run X g d M pc L st h = some r := by
  induction hfg with
  | refl => exact hr
  | step _ ih => exact run_mono X _ _ _ _ _ _ _ _ ih
theorem run_det (X : Tok) {f g d : Nat} {M : MI} {pc : Nat} {L st : List Value} {h : Hp} {r q : Option Value × Hp} (h1 : run X f d M pc L st h = some r) (h2 : run X g d M pc L st h = some q) : r = q := by
  have a := run_le X (Nat.le_max_left f g) h1
  have b := run_le X (Nat.le_max_right f g) h2
  rw [a] at b
  exact Option.some.inj b
/-- the answer, whatever the fuel -/
noncomputable def Rr (X : Tok) (d : Nat) (M : MI) (pc : Nat) (L st : List Value) (h : Hp) : Res :=
  haveI := Classical.propDecidable (∃ r, ∃ f, run X f d M pc L st h = some r)
  if w : ∃ r, ∃ f, run X f d M pc L st h = some r then some w.choose else none
theorem Rr_iff (X : Tok) {d : Nat} {M : MI} {pc : Nat} {L st : List Value} {h : Hp} {r : Option Value × Hp} : Rr X d M pc L st h = some r ↔ ∃ f, run X f d M pc L st h = some r := by
  unfold Rr
  constructor
  · intro hr
    by_cases w : ∃ r, ∃ f, run X f d M pc L st h = some r
    · rw [dif_pos w] at hr
      rw [← Option.some.inj hr]
      exact w.choose_spec
    · rw [dif_neg w] at hr
      exact absurd hr (by simp)
  · rintro ⟨f, hf⟩
    have w : ∃ r, ∃ f, run X f d M pc L st h = some r := ⟨r, f, hf⟩
    rw [dif_pos w]
    obtain ⟨g, hg⟩ := w.choose_spec
    rw [run_det X hg hf]
/-- one step of the answer -/
theorem Rr_step (X : Tok) (d : Nat) (M : MI) (pc : Nat) (L st : List Value) (h : Hp) : Rr X d M pc L st h = match stp X d M pc L st h with
    | none => none
    | some (.inl (pc', L', st', h')) => Rr X d M pc' L' st' h'
    | some (.inr (.inl (M', av, rest))) => match d with
      | 0 => none
      | d' + 1 => (Rr X d' M' 0 (ent M' av) [] h).bind fun q => Rr X (d' + 1) M (pc + 3) L (psh q.1 rest) q.2
    | some (.inr (.inr v)) => some (v, h) := by
  apply Option.ext
  intro r
  rw [Rr_iff]
  cases hs : stp X d M pc L st h with
  | none =>
    simp only [reduceCtorEq, iff_false]
    rintro ⟨f, hf⟩
    cases f with
    | zero => exact absurd hf (by simp [run])
    | succ f => rw [run, hs] at hf; exact absurd hf (by simp)
  | some o =>
    rcases o with ⟨pc', L', st', h'⟩ | ⟨M', av, rest⟩ | v
    · simp only
      rw [Rr_iff]
      constructor
      · rintro ⟨f, hf⟩
        cases f with
        | zero => exact absurd hf (by simp [run])
        | succ f => rw [run, hs] at hf; exact ⟨f, hf⟩
      · rintro ⟨f, hf⟩
        exact ⟨f + 1, by rw [run, hs]; exact hf⟩
    · cases d with
      | zero =>
        simp only [reduceCtorEq, iff_false]
        rintro ⟨f, hf⟩
        cases f with
        | zero => exact absurd hf (by simp [run])
        | succ f => rw [run, hs] at hf; exact absurd hf (by simp)
      | succ d' =>
        simp only
        rw [Option.bind_eq_some_iff]
        constructor
        · rintro ⟨f, hf⟩
          cases f with
          | zero => exact absurd hf (by simp [run])
          | succ f =>
            rw [run, hs] at hf
            simp only at hf
            cases hq : run X f d' M' 0 (ent M' av) [] h with
            | none => rw [hq] at hf; exact absurd hf (by simp)
            | some q =>
              rw [hq] at hf
              exact ⟨q, (Rr_iff X).mpr ⟨f, hq⟩, (Rr_iff X).mpr ⟨f, hf⟩⟩
        · rintro ⟨q, hq, hr⟩
          obtain ⟨f, hf⟩ := (Rr_iff X).mp hq
          obtain ⟨g, hg⟩ := (Rr_iff X).mp hr
          refine ⟨max f g + 1, ?_⟩
          rw [run, hs]
          simp only
          rw [run_le X (Nat.le_max_left f g) hf]
          exact run_le X (Nat.le_max_right f g) hg
    · simp only
      constructor
      · rintro ⟨f, hf⟩
        cases f with
        | zero => exact absurd hf (by simp [run])
        | succ f => rw [run, hs] at hf; exact hf
      · intro hr
        exact ⟨1, by rw [run, hs]; exact hr⟩
end
section
theorem nx_inj {a a' : Nat} {b b' c c' : List Value} {d d' : Hp} (h : nx a b c d = some (.inl (a', b', c', d'))) : a = a' ∧ b = b' ∧ c = c' ∧ d = d' := by
  cases h
  exact ⟨rfl, rfl, rfl, rfl⟩
theorem g1_inj {len n : Nat} {r : Option Out} {o : Out} (h : g1 len n r = some o) : len = n ∧ r = some o := by
  unfold g1 at h
  split at h
  · exact ⟨by assumption, h⟩
  · cases h
theorem jp_inj {pc : Nat} {off : Int} {L st : List Value} {h : Hp} {o : Out} (ho : o_jp pc off L st h = some o) : ∃ pc' : Nat, (pc : Int) + off = (pc' : Int) ∧ o = .inl (pc', L, st, h) := by
  unfold o_jp at ho
  split at ho
  · cases ho
  · rename_i hn
    cases ho
    exact ⟨_, (Int.toNat_of_nonneg (by omega)).symm, rfl⟩
def gOK (h : Hp) (o : Out) : Prop := ∀ q, o = .inl q → h.1 ≤ q.2.2.2.1
theorem gOK_nx {h h' : Hp} {pc : Nat} {L st : List Value} {o : Out} (he : h.1 ≤ h'.1) (ho : nx pc L st h' = some o) : gOK h o := by
  cases ho
  intro q hq
  cases hq
  exact he
theorem gOK_jp {h : Hp} {pc : Nat} {off : Int} {L st : List Value} {o : Out} (ho : o_jp pc off L st h = some o) : gOK h o := by
  obtain ⟨pc', -, rfl⟩ := jp_inj ho
  intro q hq
  cases hq
  exact Nat.le_refl _
theorem gOK_call {M : MI} {av rest : List Value} {h : Hp} {o : Out} (ho : o_call M av rest = some o) : gOK h o := by
  unfold o_call at ho
  split at ho
  · cases ho
    intro q hq
    cases hq
  · cases ho
theorem gOK_math {h : Hp} {d pc : Nat} {L rest : List Value} {v : Value} {o : Out} (ho : o_math d pc L rest h v = some o) : gOK h o := by
  unfold o_math at ho
  split at ho
  · exact gOK_nx (Nat.le_refl _) ho
  · cases ho
theorem gOK_ret {v : Option Value} {h : Hp} {o : Out} (ho : (some (.inr (.inr v)) : Option Out) = some o) : gOK h o := by
  cases ho
  intro q hq
  cases hq
theorem gr_o_il {pc i : Nat} {L st : List Value} {h : Hp} {o : Out} (ho : o_il L st h pc i = some o) : gOK h o := by
  unfold o_il at ho
  repeat' split at ho
  all_goals first | (refine gOK_nx ?_ ho; exact Nat.le_refl _) | (refine gOK_nx ?_ ho; exact Nat.le_succ _) | exact gOK_jp ho | exact gOK_call ho | exact gOK_math ho | exact gOK_ret ho | (cases ho; done)
theorem gr_o_ll {pc i : Nat} {L st : List Value} {h : Hp} {o : Out} (ho : o_ll L st h pc i = some o) : gOK h o := by
  unfold o_ll at ho
  repeat' split at ho
  all_goals first | (refine gOK_nx ?_ ho; exact Nat.le_refl _) | (refine gOK_nx ?_ ho; exact Nat.le_succ _) | exact gOK_jp ho | exact gOK_call ho | exact gOK_math ho | exact gOK_ret ho | (cases ho; done)
theorem gr_o_al {pc i : Nat} {L st : List Value} {h : Hp} {o : Out} (ho : o_al L st h pc i = some o) : gOK h o := by
  unfold o_al at ho
  repeat' split at ho
  all_goals first | (refine gOK_nx ?_ ho; exact Nat.le_refl _) | (refine gOK_nx ?_ ho; exact Nat.le_succ _) | exact gOK_jp ho | exact gOK_call ho | exact gOK_math ho | exact gOK_ret ho | (cases ho; done)
theorem gr_o_is {pc i : Nat} {L st : List Value} {h : Hp} {o : Out} (ho : o_is L st h pc i = some o) : gOK h o := by
  unfold o_is at ho
  repeat' split at ho
  all_goals first | (refine gOK_nx ?_ ho; exact Nat.le_refl _) | (refine gOK_nx ?_ ho; exact Nat.le_succ _) | exact gOK_jp ho | exact gOK_call ho | exact gOK_math ho | exact gOK_ret ho | (cases ho; done)
theorem gr_o_ls {pc i : Nat} {L st : List Value} {h : Hp} {o : Out} (ho : o_ls L st h pc i = some o) : gOK h o := by
  unfold o_ls at ho
  repeat' split at ho
  all_goals first | (refine gOK_nx ?_ ho; exact Nat.le_refl _) | (refine gOK_nx ?_ ho; exact Nat.le_succ _) | exact gOK_jp ho | exact gOK_call ho | exact gOK_math ho | exact gOK_ret ho | (cases ho; done)
theorem gr_o_as {pc i : Nat} {L st : List Value} {h : Hp} {o : Out} (ho : o_as L st h pc i = some o) : gOK h o := by
  unfold o_as at ho
  repeat' split at ho
  all_goals first | (refine gOK_nx ?_ ho; exact Nat.le_refl _) | (refine gOK_nx ?_ ho; exact Nat.le_succ _) | exact gOK_jp ho | exact gOK_call ho | exact gOK_math ho | exact gOK_ret ho | (cases ho; done)
theorem gr_o_inc {pc i : Nat} {n : Int} {L st : List Value} {h : Hp} {o : Out} (ho : o_inc L st h pc i n = some o) : gOK h o := by
  unfold o_inc at ho
  repeat' split at ho
  all_goals first | (refine gOK_nx ?_ ho; exact Nat.le_refl _) | (refine gOK_nx ?_ ho; exact Nat.le_succ _) | exact gOK_jp ho | exact gOK_call ho | exact gOK_math ho | exact gOK_ret ho | (cases ho; done)
theorem gr_o_ii {f : Int32 → Int32 → Int32} {pc : Nat} {L st : List Value} {h : Hp} {o : Out} (ho : o_ii f L st h pc = some o) : gOK h o := by
  unfold o_ii at ho
  repeat' split at ho
  all_goals first | (refine gOK_nx ?_ ho; exact Nat.le_refl _) | (refine gOK_nx ?_ ho; exact Nat.le_succ _) | exact gOK_jp ho | exact gOK_call ho | exact gOK_math ho | exact gOK_ret ho | (cases ho; done)
theorem gr_o_i0 {f : Int32 → Int32 → Int32} {pc : Nat} {L st : List Value} {h : Hp} {o : Out} (ho : o_i0 f L st h pc = some o) : gOK h o := by
  unfold o_i0 at ho
  repeat' split at ho
  all_goals first | (refine gOK_nx ?_ ho; exact Nat.le_refl _) | (refine gOK_nx ?_ ho; exact Nat.le_succ _) | exact gOK_jp ho | exact gOK_call ho | exact gOK_math ho | exact gOK_ret ho | (cases ho; done)
theorem gr_o_i {f : Int32 → Int32} {pc : Nat} {L st : List Value} {h : Hp} {o : Out} (ho : o_i f L st h pc = some o) : gOK h o := by
  unfold o_i at ho
  repeat' split at ho
  all_goals first | (refine gOK_nx ?_ ho; exact Nat.le_refl _) | (refine gOK_nx ?_ ho; exact Nat.le_succ _) | exact gOK_jp ho | exact gOK_call ho | exact gOK_math ho | exact gOK_ret ho | (cases ho; done)
theorem gr_o_lL {f : Int64 → Int64 → Int64} {pc : Nat} {L st : List Value} {h : Hp} {o : Out} (ho : o_lL f L st h pc = some o) : gOK h o := by
  unfold o_lL at ho
  repeat' split at ho
  all_goals first | (refine gOK_nx ?_ ho; exact Nat.le_refl _) | (refine gOK_nx ?_ ho; exact Nat.le_succ _) | exact gOK_jp ho | exact gOK_call ho | exact gOK_math ho | exact gOK_ret ho | (cases ho; done)
theorem gr_o_l0 {f : Int64 → Int64 → Int64} {pc : Nat} {L st : List Value} {h : Hp} {o : Out} (ho : o_l0 f L st h pc = some o) : gOK h o := by
  unfold o_l0 at ho
  repeat' split at ho
  all_goals first | (refine gOK_nx ?_ ho; exact Nat.le_refl _) | (refine gOK_nx ?_ ho; exact Nat.le_succ _) | exact gOK_jp ho | exact gOK_call ho | exact gOK_math ho | exact gOK_ret ho | (cases ho; done)
theorem gr_o_lsh {f : Int64 → Int32 → Int64} {pc : Nat} {L st : List Value} {h : Hp} {o : Out} (ho : o_lsh f L st h pc = some o) : gOK h o := by
  unfold o_lsh at ho
  repeat' split at ho
  all_goals first | (refine gOK_nx ?_ ho; exact Nat.le_refl _) | (refine gOK_nx ?_ ho; exact Nat.le_succ _) | exact gOK_jp ho | exact gOK_call ho | exact gOK_math ho | exact gOK_ret ho | (cases ho; done)
theorem gr_o_i2l {pc : Nat} {L st : List Value} {h : Hp} {o : Out} (ho : o_i2l L st h pc = some o) : gOK h o := by
  unfold o_i2l at ho
  repeat' split at ho
  all_goals first | (refine gOK_nx ?_ ho; exact Nat.le_refl _) | (refine gOK_nx ?_ ho; exact Nat.le_succ _) | exact gOK_jp ho | exact gOK_call ho | exact gOK_math ho | exact gOK_ret ho | (cases ho; done)
theorem gr_o_l2i {pc : Nat} {L st : List Value} {h : Hp} {o : Out} (ho : o_l2i L st h pc = some o) : gOK h o := by
  unfold o_l2i at ho
  repeat' split at ho
  all_goals first | (refine gOK_nx ?_ ho; exact Nat.le_refl _) | (refine gOK_nx ?_ ho; exact Nat.le_succ _) | exact gOK_jp ho | exact gOK_call ho | exact gOK_math ho | exact gOK_ret ho | (cases ho; done)
theorem gr_o_lcmp {pc : Nat} {L st : List Value} {h : Hp} {o : Out} (ho : o_lcmp L st h pc = some o) : gOK h o := by
  unfold o_lcmp at ho
  repeat' split at ho
  all_goals first | (refine gOK_nx ?_ ho; exact Nat.le_refl _) | (refine gOK_nx ?_ ho; exact Nat.le_succ _) | exact gOK_jp ho | exact gOK_call ho | exact gOK_math ho | exact gOK_ret ho | (cases ho; done)
theorem gr_o_pop2 {pc : Nat} {L st : List Value} {h : Hp} {o : Out} (ho : o_pop2 L st h pc = some o) : gOK h o := by
  unfold o_pop2 at ho
  repeat' split at ho
  all_goals first | (refine gOK_nx ?_ ho; exact Nat.le_refl _) | (cases ho; done)
theorem gr_o_gs {oo i pc : Nat} {L st : List Value} {h : Hp} {o : Out} (ho : o_gs oo i L st h pc = some o) : gOK h o := by
  unfold o_gs at ho
  repeat' split at ho
  all_goals first | (refine gOK_nx ?_ ho; exact Nat.le_refl _) | (cases ho; done)
theorem gr_o_cp {d pc : Nat} {L st : List Value} {h : Hp} {o : Out} (ho : o_cp d pc L st h = some o) : gOK h o := by
  unfold o_cp at ho
  repeat' split at ho
  all_goals first | (refine gOK_nx ?_ ho; exact Nat.le_refl _) | (cases ho; done)
theorem gr_o_dup {pc : Nat} {L st : List Value} {h : Hp} {o : Out} (ho : o_dup L st h pc = some o) : gOK h o := by
  unfold o_dup at ho
  repeat' split at ho
  all_goals first | (refine gOK_nx ?_ ho; exact Nat.le_refl _) | (refine gOK_nx ?_ ho; exact Nat.le_succ _) | exact gOK_jp ho | exact gOK_call ho | exact gOK_math ho | exact gOK_ret ho | (cases ho; done)
theorem gr_o_pop {pc : Nat} {L st : List Value} {h : Hp} {o : Out} (ho : o_pop L st h pc = some o) : gOK h o := by
  unfold o_pop at ho
  repeat' split at ho
  all_goals first | (refine gOK_nx ?_ ho; exact Nat.le_refl _) | (refine gOK_nx ?_ ho; exact Nat.le_succ _) | exact gOK_jp ho | exact gOK_call ho | exact gOK_math ho | exact gOK_ret ho | (cases ho; done)
theorem gr_o_dup2 {pc : Nat} {L st : List Value} {h : Hp} {o : Out} (ho : o_dup2 L st h pc = some o) : gOK h o := by
  unfold o_dup2 at ho
  repeat' split at ho
  all_goals first | (refine gOK_nx ?_ ho; exact Nat.le_refl _) | (refine gOK_nx ?_ ho; exact Nat.le_succ _) | exact gOK_jp ho | exact gOK_call ho | exact gOK_math ho | exact gOK_ret ho | (cases ho; done)
theorem gr_o_lal {pc : Nat} {L st : List Value} {h : Hp} {o : Out} (ho : o_lal L st h pc = some o) : gOK h o := by
  unfold o_lal at ho
  repeat' split at ho
  all_goals first | (refine gOK_nx ?_ ho; exact Nat.le_refl _) | (refine gOK_nx ?_ ho; exact Nat.le_succ _) | exact gOK_jp ho | exact gOK_call ho | exact gOK_math ho | exact gOK_ret ho | (cases ho; done)
theorem gr_o_aal {pc : Nat} {L st : List Value} {h : Hp} {o : Out} (ho : o_aal L st h pc = some o) : gOK h o := by
  unfold o_aal at ho
  repeat' split at ho
  all_goals first | (refine gOK_nx ?_ ho; exact Nat.le_refl _) | (refine gOK_nx ?_ ho; exact Nat.le_succ _) | exact gOK_jp ho | exact gOK_call ho | exact gOK_math ho | exact gOK_ret ho | (cases ho; done)
theorem gr_o_las {pc : Nat} {L st : List Value} {h : Hp} {o : Out} (ho : o_las L st h pc = some o) : gOK h o := by
  unfold o_las at ho
  repeat' split at ho
  all_goals first | (refine gOK_nx ?_ ho; exact Nat.le_refl _) | (refine gOK_nx ?_ ho; exact Nat.le_succ _) | exact gOK_jp ho | exact gOK_call ho | exact gOK_math ho | exact gOK_ret ho | (cases ho; done)
theorem gr_o_aas {pc : Nat} {L st : List Value} {h : Hp} {o : Out} (ho : o_aas L st h pc = some o) : gOK h o := by
  unfold o_aas at ho
  repeat' split at ho
  all_goals first | (refine gOK_nx ?_ ho; exact Nat.le_refl _) | (refine gOK_nx ?_ ho; exact Nat.le_succ _) | exact gOK_jp ho | exact gOK_call ho | exact gOK_math ho | exact gOK_ret ho | (cases ho; done)
theorem gr_o_if2 {cc : ClassFile.Cond} {off : Int} {pc : Nat} {L st : List Value} {h : Hp} {o : Out} (ho : o_if2 cc off L st h pc = some o) : gOK h o := by
  unfold o_if2 at ho
  repeat' split at ho
  all_goals first | (refine gOK_nx ?_ ho; exact Nat.le_refl _) | (refine gOK_nx ?_ ho; exact Nat.le_succ _) | exact gOK_jp ho | exact gOK_call ho | exact gOK_math ho | exact gOK_ret ho | (cases ho; done)
theorem gr_o_if1 {cc : ClassFile.Cond} {off : Int} {pc : Nat} {L st : List Value} {h : Hp} {o : Out} (ho : o_if1 cc off L st h pc = some o) : gOK h o := by
  unfold o_if1 at ho
  repeat' split at ho
  all_goals first | (refine gOK_nx ?_ ho; exact Nat.le_refl _) | (refine gOK_nx ?_ ho; exact Nat.le_succ _) | exact gOK_jp ho | exact gOK_call ho | exact gOK_math ho | exact gOK_ret ho | (cases ho; done)
theorem gr_o_nul {b : Bool} {off : Int} {pc : Nat} {L st : List Value} {h : Hp} {o : Out} (ho : o_nul b off L st h pc = some o) : gOK h o := by
  unfold o_nul at ho
  repeat' split at ho
  all_goals first | (refine gOK_nx ?_ ho; exact Nat.le_refl _) | (refine gOK_nx ?_ ho; exact Nat.le_succ _) | exact gOK_jp ho | exact gOK_call ho | exact gOK_math ho | exact gOK_ret ho | (cases ho; done)
theorem gr_o_tab {dflt lo hi : Int} {offs : Array Int} {pc : Nat} {L st : List Value} {h : Hp} {o : Out} (ho : o_tab dflt lo hi offs L st h pc = some o) : gOK h o := by
  unfold o_tab at ho
  repeat' split at ho
  all_goals first | (refine gOK_nx ?_ ho; exact Nat.le_refl _) | (refine gOK_nx ?_ ho; exact Nat.le_succ _) | exact gOK_jp ho | exact gOK_call ho | exact gOK_math ho | exact gOK_ret ho | (cases ho; done)
theorem gr_o_lkp {dflt : Int} {ps : Array (Int × Int)} {pc : Nat} {L st : List Value} {h : Hp} {o : Out} (ho : o_lkp dflt ps L st h pc = some o) : gOK h o := by
  unfold o_lkp at ho
  repeat' split at ho
  all_goals first | (refine gOK_nx ?_ ho; exact Nat.le_refl _) | (refine gOK_nx ?_ ho; exact Nat.le_succ _) | exact gOK_jp ho | exact gOK_call ho | exact gOK_math ho | exact gOK_ret ho | (cases ho; done)
theorem gr_o_gf {oo i pc : Nat} {L st : List Value} {h : Hp} {o : Out} (ho : o_gf oo i L st h pc = some o) : gOK h o := by
  unfold o_gf at ho
  repeat' split at ho
  all_goals first | (refine gOK_nx ?_ ho; exact Nat.le_refl _) | (refine gOK_nx ?_ ho; exact Nat.le_succ _) | exact gOK_jp ho | exact gOK_call ho | exact gOK_math ho | exact gOK_ret ho | (cases ho; done)
theorem gr_o_new {oo i pc : Nat} {L st : List Value} {h : Hp} {o : Out} (ho : o_new oo i L st h pc = some o) : gOK h o := by
  unfold o_new at ho
  repeat' split at ho
  all_goals first | (refine gOK_nx ?_ ho; exact Nat.le_refl _) | (refine gOK_nx ?_ ho; exact Nat.le_succ _) | exact gOK_jp ho | exact gOK_call ho | exact gOK_math ho | exact gOK_ret ho | (cases ho; done)
theorem gr_o_anw {oo i pc : Nat} {L st : List Value} {h : Hp} {o : Out} (ho : o_anw oo i L st h pc = some o) : gOK h o := by
  unfold o_anw at ho
  repeat' split at ho
  all_goals first | (refine gOK_nx ?_ ho; exact Nat.le_refl _) | (refine gOK_nx ?_ ho; exact Nat.le_succ _) | exact gOK_jp ho | exact gOK_call ho | exact gOK_math ho | exact gOK_ret ho | (cases ho; done)
theorem gr_o_ldc {oo i pc : Nat} {L st : List Value} {h : Hp} {o : Out} (ho : o_ldc oo i L st h pc = some o) : gOK h o := by
  unfold o_ldc at ho
  repeat' split at ho
  all_goals first | (refine gOK_nx ?_ ho; exact Nat.le_refl _) | (refine gOK_nx ?_ ho; exact Nat.le_succ _) | exact gOK_jp ho | exact gOK_call ho | exact gOK_math ho | exact gOK_ret ho | (cases ho; done)
theorem gr_o_ldl {oo i pc : Nat} {L st : List Value} {h : Hp} {o : Out} (ho : o_ldl oo i L st h pc = some o) : gOK h o := by
  unfold o_ldl at ho
  repeat' split at ho
  all_goals first | (refine gOK_nx ?_ ho; exact Nat.le_refl _) | (refine gOK_nx ?_ ho; exact Nat.le_succ _) | exact gOK_jp ho | exact gOK_call ho | exact gOK_math ho | exact gOK_ret ho | (cases ho; done)
theorem gr_o_iv {oo i pc : Nat} {L st : List Value} {h : Hp} {o : Out} (ho : o_iv oo i L st h pc = some o) : gOK h o := by
  unfold o_iv at ho
  repeat' split at ho
  all_goals first | (refine gOK_nx ?_ ho; exact Nat.le_refl _) | (refine gOK_nx ?_ ho; exact Nat.le_succ _) | exact gOK_jp ho | exact gOK_call ho | exact gOK_math ho | exact gOK_ret ho | (cases ho; done)
theorem gr_o_pf {ini : Bool} {oo i pc : Nat} {L st : List Value} {h : Hp} {o : Out} (ho : o_pf ini oo i L st h pc = some o) : gOK h o := by
  unfold o_pf at ho
  repeat' split at ho
  all_goals first | (refine gOK_nx ?_ ho; exact Nat.le_refl _) | (refine gOK_nx ?_ ho; exact Nat.le_succ _) | exact gOK_jp ho | exact gOK_call ho | exact gOK_math ho | exact gOK_ret ho | (cases ho; done)
theorem gr_o_ial {X : Tok} {t pc : Nat} {L st : List Value} {h : Hp} {o : Out} (ho : o_ial X t L st h pc = some o) : gOK h o := by
  unfold o_ial at ho
  repeat' split at ho
  all_goals first | (refine gOK_nx ?_ ho; exact Nat.le_refl _) | (refine gOK_nx ?_ ho; exact Nat.le_succ _) | exact gOK_jp ho | exact gOK_call ho | exact gOK_math ho | exact gOK_ret ho | (cases ho; done)
theorem gr_o_len {X : Tok} {pc : Nat} {L st : List Value} {h : Hp} {o : Out} (ho : o_len X L st h pc = some o) : gOK h o := by
  unfold o_len at ho
  repeat' split at ho
  all_goals first | (refine gOK_nx ?_ ho; exact Nat.le_refl _) | (refine gOK_nx ?_ ho; exact Nat.le_succ _) | exact gOK_jp ho | exact gOK_call ho | exact gOK_math ho | exact gOK_ret ho | (cases ho; done)
theorem gr_o_ias {t : Nat} {nar : Int32 → Int32} {pc : Nat} {L st : List Value} {h : Hp} {o : Out} (ho : o_ias t nar L st h pc = some o) : gOK h o := by
  unfold o_ias at ho
  repeat' split at ho
  all_goals first | (refine gOK_nx ?_ ho; exact Nat.le_refl _) | (refine gOK_nx ?_ ho; exact Nat.le_succ _) | exact gOK_jp ho | exact gOK_call ho | exact gOK_math ho | exact gOK_ret ho | (cases ho; done)
theorem gr_o_nwa {at' : ArrayType} {pc : Nat} {L st : List Value} {h : Hp} {o : Out} (ho : o_nwa at' L st h pc = some o) : gOK h o := by
  unfold o_nwa at ho
  repeat' split at ho
  all_goals first | (refine gOK_nx ?_ ho; exact Nat.le_refl _) | (refine gOK_nx ?_ ho; exact Nat.le_succ _) | exact gOK_jp ho | exact gOK_call ho | exact gOK_math ho | exact gOK_ret ho | (cases ho; done)
theorem gr_o_is1 {d oo i pc : Nat} {L st : List Value} {h : Hp} {o : Out} (ho : o_is1 d oo i L st h pc = some o) : gOK h o := by
  unfold o_is1 at ho
  repeat' split at ho
  all_goals first | (refine gOK_nx ?_ ho; exact Nat.le_refl _) | (refine gOK_nx ?_ ho; exact Nat.le_succ _) | exact gOK_jp ho | exact gOK_call ho | exact gr_o_cp ho | exact gOK_math ho | exact gOK_ret ho | (cases ho; done)
theorem gr_o_ip {d oo i pc : Nat} {L st : List Value} {h : Hp} {o : Out} (ho : o_ip d oo i L st h pc = some o) : gOK h o := by
  unfold o_ip at ho
  repeat' split at ho
  all_goals first | (refine gOK_nx ?_ ho; exact Nat.le_refl _) | (refine gOK_nx ?_ ho; exact Nat.le_succ _) | exact gOK_jp ho | exact gOK_call ho | exact gOK_math ho | exact gOK_ret ho | (cases ho; done)
theorem gr_o_ir {rt : Option FieldType} {st : List Value} {h : Hp} {o : Out} (ho : o_ir rt st = some o) : gOK h o := by
  unfold o_ir at ho
  repeat' split at ho
  all_goals first | (refine gOK_nx ?_ ho; exact Nat.le_refl _) | (refine gOK_nx ?_ ho; exact Nat.le_succ _) | exact gOK_jp ho | exact gOK_call ho | exact gOK_math ho | exact gOK_ret ho | (cases ho; done)
theorem gr_o_lr {rt : Option FieldType} {st : List Value} {h : Hp} {o : Out} (ho : o_lr rt st = some o) : gOK h o := by
  unfold o_lr at ho
  repeat' split at ho
  all_goals first | (refine gOK_nx ?_ ho; exact Nat.le_refl _) | (refine gOK_nx ?_ ho; exact Nat.le_succ _) | exact gOK_jp ho | exact gOK_call ho | exact gOK_math ho | exact gOK_ret ho | (cases ho; done)
theorem gr_o_ar {rt : Option FieldType} {st : List Value} {h : Hp} {o : Out} (ho : o_ar rt st = some o) : gOK h o := by
  unfold o_ar at ho
  repeat' split at ho
  all_goals first | (refine gOK_nx ?_ ho; exact Nat.le_refl _) | (refine gOK_nx ?_ ho; exact Nat.le_succ _) | exact gOK_jp ho | exact gOK_call ho | exact gOK_math ho | exact gOK_ret ho | (cases ho; done)
theorem gr_o_vr {rt : Option FieldType} {st : List Value} {h : Hp} {o : Out} (ho : o_vr rt st = some o) : gOK h o := by
  unfold o_vr at ho
  repeat' split at ho
  all_goals first | (refine gOK_nx ?_ ho; exact Nat.le_refl _) | (refine gOK_nx ?_ ho; exact Nat.le_succ _) | exact gOK_jp ho | exact gOK_call ho | exact gOK_math ho | exact gOK_ret ho | (cases ho; done)
theorem gr_ex {X : Tok} {d : Nat} {M : MI} {pc : Nat} {ins : Instr} {len : Nat} {L st : List Value} {h : Hp} {o : Out} (ho : ex X d M pc ins len L st h = some o) : gOK h o := by
  cases ins
  all_goals first
    | (cases ho; done)
    | exact gOK_nx (Nat.le_refl _) (g1_inj ho).2
    | exact gOK_jp (g1_inj ho).2
    | exact gr_o_tab ho
    | exact gr_o_lkp ho
    | exact gr_o_il (g1_inj ho).2
    | exact gr_o_ll (g1_inj ho).2
    | exact gr_o_al (g1_inj ho).2
    | exact gr_o_is (g1_inj ho).2
    | exact gr_o_ls (g1_inj ho).2
    | exact gr_o_as (g1_inj ho).2
    | exact gr_o_inc (g1_inj ho).2
    | exact gr_o_ii (g1_inj ho).2
    | exact gr_o_i0 (g1_inj ho).2
    | exact gr_o_i (g1_inj ho).2
    | exact gr_o_lL (g1_inj ho).2
    | exact gr_o_l0 (g1_inj ho).2
    | exact gr_o_lsh (g1_inj ho).2
    | exact gr_o_i2l (g1_inj ho).2
    | exact gr_o_l2i (g1_inj ho).2
    | exact gr_o_lcmp (g1_inj ho).2
    | exact gr_o_dup (g1_inj ho).2
    | exact gr_o_pop (g1_inj ho).2
    | exact gr_o_pop2 (g1_inj ho).2
    | exact gr_o_gs (g1_inj ho).2
    | exact gr_o_dup2 (g1_inj ho).2
    | exact gr_o_lal (g1_inj ho).2
    | exact gr_o_aal (g1_inj ho).2
    | exact gr_o_las (g1_inj ho).2
    | exact gr_o_aas (g1_inj ho).2
    | exact gr_o_if2 (g1_inj ho).2
    | exact gr_o_if1 (g1_inj ho).2
    | exact gr_o_nul (g1_inj ho).2
    | exact gr_o_gf (g1_inj ho).2
    | exact gr_o_new (g1_inj ho).2
    | exact gr_o_anw (g1_inj ho).2
    | exact gr_o_ldc (g1_inj ho).2
    | exact gr_o_ldl (g1_inj ho).2
    | exact gr_o_iv (g1_inj ho).2
    | exact gr_o_pf (g1_inj ho).2
    | exact gr_o_ial (g1_inj ho).2
    | exact gr_o_len (g1_inj ho).2
    | exact gr_o_ias (g1_inj ho).2
    | exact gr_o_nwa (g1_inj ho).2
    | exact gr_o_is1 (g1_inj ho).2
    | exact gr_o_ip (g1_inj ho).2
    | exact gr_o_ir (g1_inj ho).2
    | exact gr_o_lr (g1_inj ho).2
    | exact gr_o_ar (g1_inj ho).2
    | exact gr_o_vr (g1_inj ho).2
theorem stp_grow {X : Tok} {d : Nat} {M : MI} {pc : Nat} {L st : List Value} {h : Hp} {q : Nat × List Value × List Value × Hp} (ho : stp X d M pc L st h = some (.inl q)) : h.1 ≤ q.2.2.2.1 := by
  unfold stp at ho
  split at ho
  · exact gr_ex ho q rfl
  · cases ho
theorem run_grow {X : Tok} : ∀ (f d : Nat) (M : MI) (pc : Nat) (L st : List Value) (h : Hp) (v : Option Value) (h' : Hp), run X f d M pc L st h = some (v, h') → h.1 ≤ h'.1 := by
  intro f
  induction f with
  | zero => intro d M pc L st h v h' hr; exact absurd hr (by simp [run])
  | succ f ih =>
    intro d M pc L st h v h' hr
    rw [run] at hr
    cases hs : stp X d M pc L st h with
    | none => rw [hs] at hr; exact absurd hr (by simp)
    | some o =>
      rw [hs] at hr
      rcases o with q | ⟨M', av, rest⟩ | w
      · obtain ⟨pc1, L1, st1, h1⟩ := q
        exact Nat.le_trans (stp_grow hs) (ih _ _ _ _ _ _ _ _ hr)
      · cases d with
        | zero => exact absurd hr (by simp)
        | succ d' =>
          simp only at hr
          cases hq : run X f d' M' 0 (ent M' av) [] h with
          | none => rw [hq] at hr; exact absurd hr (by simp)
          | some q =>
            rw [hq] at hr
            exact Nat.le_trans (ih _ _ _ _ _ _ _ _ hq) (ih _ _ _ _ _ _ _ _ hr)
      · cases hr
        exact Nat.le_refl _
def kN (o : Out) : Prop := ∃ q, o = .inl q
theorem kN_nx {h' : Hp} {pc : Nat} {L st : List Value} {o : Out} (ho : nx pc L st h' = some o) : kN o := by
  cases ho
  exact ⟨_, rfl⟩
theorem kN_jp {h : Hp} {pc : Nat} {off : Int} {L st : List Value} {o : Out} (ho : o_jp pc off L st h = some o) : kN o := by
  obtain ⟨pc', -, rfl⟩ := jp_inj ho
  exact ⟨_, rfl⟩
def kd (i : Instr) : Nat := match i with
  | .invokevirtual _ => 1
  | .invokestatic _ => 1
  | .invokespecial _ => 1
  | .ireturn => 2
  | .lreturn => 2
  | .areturn => 2
  | .return_ => 2
  | _ => 0
def kR (o : Out) : Prop := ∃ v, o = .inr (.inr v)
theorem kR_ret {v : Option Value} {o : Out} (ho : (some (.inr (.inr v)) : Option Out) = some o) : kR o := by
  cases ho
  exact ⟨_, rfl⟩
theorem kn_o_il {pc i : Nat} {L st : List Value} {h : Hp} {o : Out} (ho : o_il L st h pc i = some o) : kN o := by
  unfold o_il at ho
  repeat' split at ho
  all_goals first | exact kN_nx ho | exact kN_jp ho | (cases ho; done)
theorem kn_o_ll {pc i : Nat} {L st : List Value} {h : Hp} {o : Out} (ho : o_ll L st h pc i = some o) : kN o := by
  unfold o_ll at ho
  repeat' split at ho
  all_goals first | exact kN_nx ho | exact kN_jp ho | (cases ho; done)
theorem kn_o_al {pc i : Nat} {L st : List Value} {h : Hp} {o : Out} (ho : o_al L st h pc i = some o) : kN o := by
  unfold o_al at ho
  repeat' split at ho
  all_goals first | exact kN_nx ho | exact kN_jp ho | (cases ho; done)
theorem kn_o_is {pc i : Nat} {L st : List Value} {h : Hp} {o : Out} (ho : o_is L st h pc i = some o) : kN o := by
  unfold o_is at ho
  repeat' split at ho
  all_goals first | exact kN_nx ho | exact kN_jp ho | (cases ho; done)
theorem kn_o_ls {pc i : Nat} {L st : List Value} {h : Hp} {o : Out} (ho : o_ls L st h pc i = some o) : kN o := by
  unfold o_ls at ho
  repeat' split at ho
  all_goals first | exact kN_nx ho | exact kN_jp ho | (cases ho; done)
theorem kn_o_as {pc i : Nat} {L st : List Value} {h : Hp} {o : Out} (ho : o_as L st h pc i = some o) : kN o := by
  unfold o_as at ho
  repeat' split at ho
  all_goals first | exact kN_nx ho | exact kN_jp ho | (cases ho; done)
theorem kn_o_inc {pc i : Nat} {n : Int} {L st : List Value} {h : Hp} {o : Out} (ho : o_inc L st h pc i n = some o) : kN o := by
  unfold o_inc at ho
  repeat' split at ho
  all_goals first | exact kN_nx ho | exact kN_jp ho | (cases ho; done)
theorem kn_o_ii {f : Int32 → Int32 → Int32} {pc : Nat} {L st : List Value} {h : Hp} {o : Out} (ho : o_ii f L st h pc = some o) : kN o := by
  unfold o_ii at ho
  repeat' split at ho
  all_goals first | exact kN_nx ho | exact kN_jp ho | (cases ho; done)
theorem kn_o_i0 {f : Int32 → Int32 → Int32} {pc : Nat} {L st : List Value} {h : Hp} {o : Out} (ho : o_i0 f L st h pc = some o) : kN o := by
  unfold o_i0 at ho
  repeat' split at ho
  all_goals first | exact kN_nx ho | exact kN_jp ho | (cases ho; done)
theorem kn_o_i {f : Int32 → Int32} {pc : Nat} {L st : List Value} {h : Hp} {o : Out} (ho : o_i f L st h pc = some o) : kN o := by
  unfold o_i at ho
  repeat' split at ho
  all_goals first | exact kN_nx ho | exact kN_jp ho | (cases ho; done)
theorem kn_o_lL {f : Int64 → Int64 → Int64} {pc : Nat} {L st : List Value} {h : Hp} {o : Out} (ho : o_lL f L st h pc = some o) : kN o := by
  unfold o_lL at ho
  repeat' split at ho
  all_goals first | exact kN_nx ho | exact kN_jp ho | (cases ho; done)
theorem kn_o_l0 {f : Int64 → Int64 → Int64} {pc : Nat} {L st : List Value} {h : Hp} {o : Out} (ho : o_l0 f L st h pc = some o) : kN o := by
  unfold o_l0 at ho
  repeat' split at ho
  all_goals first | exact kN_nx ho | exact kN_jp ho | (cases ho; done)
theorem kn_o_lsh {f : Int64 → Int32 → Int64} {pc : Nat} {L st : List Value} {h : Hp} {o : Out} (ho : o_lsh f L st h pc = some o) : kN o := by
  unfold o_lsh at ho
  repeat' split at ho
  all_goals first | exact kN_nx ho | exact kN_jp ho | (cases ho; done)
theorem kn_o_i2l {pc : Nat} {L st : List Value} {h : Hp} {o : Out} (ho : o_i2l L st h pc = some o) : kN o := by
  unfold o_i2l at ho
  repeat' split at ho
  all_goals first | exact kN_nx ho | exact kN_jp ho | (cases ho; done)
theorem kn_o_l2i {pc : Nat} {L st : List Value} {h : Hp} {o : Out} (ho : o_l2i L st h pc = some o) : kN o := by
  unfold o_l2i at ho
  repeat' split at ho
  all_goals first | exact kN_nx ho | exact kN_jp ho | (cases ho; done)
theorem kn_o_lcmp {pc : Nat} {L st : List Value} {h : Hp} {o : Out} (ho : o_lcmp L st h pc = some o) : kN o := by
  unfold o_lcmp at ho
  repeat' split at ho
  all_goals first | exact kN_nx ho | exact kN_jp ho | (cases ho; done)
theorem kn_o_pop2 {pc : Nat} {L st : List Value} {h : Hp} {o : Out} (ho : o_pop2 L st h pc = some o) : kN o := by
  unfold o_pop2 at ho
  repeat' split at ho
  all_goals first | exact kN_nx ho | exact kN_jp ho | (cases ho; done)
theorem kn_o_gs {oo i pc : Nat} {L st : List Value} {h : Hp} {o : Out} (ho : o_gs oo i L st h pc = some o) : kN o := by
  unfold o_gs at ho
  repeat' split at ho
  all_goals first | exact kN_nx ho | exact kN_jp ho | (cases ho; done)
theorem kn_o_dup {pc : Nat} {L st : List Value} {h : Hp} {o : Out} (ho : o_dup L st h pc = some o) : kN o := by
  unfold o_dup at ho
  repeat' split at ho
  all_goals first | exact kN_nx ho | exact kN_jp ho | (cases ho; done)
theorem kn_o_pop {pc : Nat} {L st : List Value} {h : Hp} {o : Out} (ho : o_pop L st h pc = some o) : kN o := by
  unfold o_pop at ho
  repeat' split at ho
  all_goals first | exact kN_nx ho | exact kN_jp ho | (cases ho; done)
theorem kn_o_dup2 {pc : Nat} {L st : List Value} {h : Hp} {o : Out} (ho : o_dup2 L st h pc = some o) : kN o := by
  unfold o_dup2 at ho
  repeat' split at ho
  all_goals first | exact kN_nx ho | exact kN_jp ho | (cases ho; done)
theorem kn_o_lal {pc : Nat} {L st : List Value} {h : Hp} {o : Out} (ho : o_lal L st h pc = some o) : kN o := by
  unfold o_lal at ho
  repeat' split at ho
  all_goals first | exact kN_nx ho | exact kN_jp ho | (cases ho; done)
theorem kn_o_aal {pc : Nat} {L st : List Value} {h : Hp} {o : Out} (ho : o_aal L st h pc = some o) : kN o := by
  unfold o_aal at ho
  repeat' split at ho
  all_goals first | exact kN_nx ho | exact kN_jp ho | (cases ho; done)
theorem kn_o_las {pc : Nat} {L st : List Value} {h : Hp} {o : Out} (ho : o_las L st h pc = some o) : kN o := by
  unfold o_las at ho
  repeat' split at ho
  all_goals first | exact kN_nx ho | exact kN_jp ho | (cases ho; done)
theorem kn_o_aas {pc : Nat} {L st : List Value} {h : Hp} {o : Out} (ho : o_aas L st h pc = some o) : kN o := by
  unfold o_aas at ho
  repeat' split at ho
  all_goals first | exact kN_nx ho | exact kN_jp ho | (cases ho; done)
theorem kn_o_if2 {cc : ClassFile.Cond} {off : Int} {pc : Nat} {L st : List Value} {h : Hp} {o : Out} (ho : o_if2 cc off L st h pc = some o) : kN o := by
  unfold o_if2 at ho
  repeat' split at ho
  all_goals first | exact kN_nx ho | exact kN_jp ho | (cases ho; done)
theorem kn_o_if1 {cc : ClassFile.Cond} {off : Int} {pc : Nat} {L st : List Value} {h : Hp} {o : Out} (ho : o_if1 cc off L st h pc = some o) : kN o := by
  unfold o_if1 at ho
  repeat' split at ho
  all_goals first | exact kN_nx ho | exact kN_jp ho | (cases ho; done)
theorem kn_o_nul {b : Bool} {off : Int} {pc : Nat} {L st : List Value} {h : Hp} {o : Out} (ho : o_nul b off L st h pc = some o) : kN o := by
  unfold o_nul at ho
  repeat' split at ho
  all_goals first | exact kN_nx ho | exact kN_jp ho | (cases ho; done)
theorem kn_o_tab {dflt lo hi : Int} {offs : Array Int} {pc : Nat} {L st : List Value} {h : Hp} {o : Out} (ho : o_tab dflt lo hi offs L st h pc = some o) : kN o := by
  unfold o_tab at ho
  repeat' split at ho
  all_goals first | exact kN_nx ho | exact kN_jp ho | (cases ho; done)
theorem kn_o_lkp {dflt : Int} {ps : Array (Int × Int)} {pc : Nat} {L st : List Value} {h : Hp} {o : Out} (ho : o_lkp dflt ps L st h pc = some o) : kN o := by
  unfold o_lkp at ho
  repeat' split at ho
  all_goals first | exact kN_nx ho | exact kN_jp ho | (cases ho; done)
theorem kn_o_gf {oo i pc : Nat} {L st : List Value} {h : Hp} {o : Out} (ho : o_gf oo i L st h pc = some o) : kN o := by
  unfold o_gf at ho
  repeat' split at ho
  all_goals first | exact kN_nx ho | exact kN_jp ho | (cases ho; done)
theorem kn_o_new {oo i pc : Nat} {L st : List Value} {h : Hp} {o : Out} (ho : o_new oo i L st h pc = some o) : kN o := by
  unfold o_new at ho
  repeat' split at ho
  all_goals first | exact kN_nx ho | exact kN_jp ho | (cases ho; done)
theorem kn_o_anw {oo i pc : Nat} {L st : List Value} {h : Hp} {o : Out} (ho : o_anw oo i L st h pc = some o) : kN o := by
  unfold o_anw at ho
  repeat' split at ho
  all_goals first | exact kN_nx ho | exact kN_jp ho | (cases ho; done)
theorem kn_o_ldc {oo i pc : Nat} {L st : List Value} {h : Hp} {o : Out} (ho : o_ldc oo i L st h pc = some o) : kN o := by
  unfold o_ldc at ho
  repeat' split at ho
  all_goals first | exact kN_nx ho | exact kN_jp ho | (cases ho; done)
theorem kn_o_ldl {oo i pc : Nat} {L st : List Value} {h : Hp} {o : Out} (ho : o_ldl oo i L st h pc = some o) : kN o := by
  unfold o_ldl at ho
  repeat' split at ho
  all_goals first | exact kN_nx ho | exact kN_jp ho | (cases ho; done)
theorem kn_o_pf {ini : Bool} {oo i pc : Nat} {L st : List Value} {h : Hp} {o : Out} (ho : o_pf ini oo i L st h pc = some o) : kN o := by
  unfold o_pf at ho
  repeat' split at ho
  all_goals first | exact kN_nx ho | exact kN_jp ho | (cases ho; done)
theorem kn_o_ial {X : Tok} {t pc : Nat} {L st : List Value} {h : Hp} {o : Out} (ho : o_ial X t L st h pc = some o) : kN o := by
  unfold o_ial at ho
  repeat' split at ho
  all_goals first | exact kN_nx ho | exact kN_jp ho | (cases ho; done)
theorem kn_o_len {X : Tok} {pc : Nat} {L st : List Value} {h : Hp} {o : Out} (ho : o_len X L st h pc = some o) : kN o := by
  unfold o_len at ho
  repeat' split at ho
  all_goals first | exact kN_nx ho | exact kN_jp ho | (cases ho; done)
theorem kn_o_ias {t : Nat} {nar : Int32 → Int32} {pc : Nat} {L st : List Value} {h : Hp} {o : Out} (ho : o_ias t nar L st h pc = some o) : kN o := by
  unfold o_ias at ho
  repeat' split at ho
  all_goals first | exact kN_nx ho | exact kN_jp ho | (cases ho; done)
theorem kn_o_nwa {at' : ArrayType} {pc : Nat} {L st : List Value} {h : Hp} {o : Out} (ho : o_nwa at' L st h pc = some o) : kN o := by
  unfold o_nwa at ho
  repeat' split at ho
  all_goals first | exact kN_nx ho | exact kN_jp ho | (cases ho; done)
theorem kr_o_ir {rt : Option FieldType} {st : List Value} {o : Out} (ho : o_ir rt st = some o) : kR o := by
  unfold o_ir at ho
  repeat' split at ho
  all_goals first | exact kR_ret ho | (cases ho; done)
theorem kr_o_lr {rt : Option FieldType} {st : List Value} {o : Out} (ho : o_lr rt st = some o) : kR o := by
  unfold o_lr at ho
  repeat' split at ho
  all_goals first | exact kR_ret ho | (cases ho; done)
theorem kr_o_ar {rt : Option FieldType} {st : List Value} {o : Out} (ho : o_ar rt st = some o) : kR o := by
  unfold o_ar at ho
  repeat' split at ho
  all_goals first | exact kR_ret ho | (cases ho; done)
theorem kr_o_vr {rt : Option FieldType} {st : List Value} {o : Out} (ho : o_vr rt st = some o) : kR o := by
  unfold o_vr at ho
  repeat' split at ho
  all_goals first | exact kR_ret ho | (cases ho; done)
theorem kn_ex {X : Tok} {d : Nat} {M : MI} {pc : Nat} {ins : Instr} {len : Nat} {L st : List Value} {h : Hp} {o : Out} (hk : kd ins = 0) (ho : ex X d M pc ins len L st h = some o) : kN o := by
  cases ins
  all_goals first
    | (cases hk; done)
    | (cases ho; done)
    | exact kN_nx (g1_inj ho).2
    | exact kN_jp (g1_inj ho).2
    | exact kn_o_tab ho
    | exact kn_o_lkp ho
    | exact kn_o_il (g1_inj ho).2
    | exact kn_o_ll (g1_inj ho).2
    | exact kn_o_al (g1_inj ho).2
    | exact kn_o_is (g1_inj ho).2
    | exact kn_o_ls (g1_inj ho).2
    | exact kn_o_as (g1_inj ho).2
    | exact kn_o_inc (g1_inj ho).2
    | exact kn_o_ii (g1_inj ho).2
    | exact kn_o_i0 (g1_inj ho).2
    | exact kn_o_i (g1_inj ho).2
    | exact kn_o_lL (g1_inj ho).2
    | exact kn_o_l0 (g1_inj ho).2
    | exact kn_o_lsh (g1_inj ho).2
    | exact kn_o_i2l (g1_inj ho).2
    | exact kn_o_l2i (g1_inj ho).2
    | exact kn_o_lcmp (g1_inj ho).2
    | exact kn_o_dup (g1_inj ho).2
    | exact kn_o_pop (g1_inj ho).2
    | exact kn_o_pop2 (g1_inj ho).2
    | exact kn_o_gs (g1_inj ho).2
    | exact kn_o_dup2 (g1_inj ho).2
    | exact kn_o_lal (g1_inj ho).2
    | exact kn_o_aal (g1_inj ho).2
    | exact kn_o_las (g1_inj ho).2
    | exact kn_o_aas (g1_inj ho).2
    | exact kn_o_if2 (g1_inj ho).2
    | exact kn_o_if1 (g1_inj ho).2
    | exact kn_o_nul (g1_inj ho).2
    | exact kn_o_gf (g1_inj ho).2
    | exact kn_o_new (g1_inj ho).2
    | exact kn_o_anw (g1_inj ho).2
    | exact kn_o_ldc (g1_inj ho).2
    | exact kn_o_ldl (g1_inj ho).2
    | exact kn_o_pf (g1_inj ho).2
    | exact kn_o_ial (g1_inj ho).2
    | exact kn_o_len (g1_inj ho).2
    | exact kn_o_ias (g1_inj ho).2
    | exact kn_o_nwa (g1_inj ho).2
theorem kr_ex {X : Tok} {d : Nat} {M : MI} {pc : Nat} {ins : Instr} {len : Nat} {L st : List Value} {h : Hp} {o : Out} (hk : kd ins = 2) (ho : ex X d M pc ins len L st h = some o) : kR o := by
  cases ins
  all_goals first
    | (cases hk; done)
    | exact kr_o_ir (g1_inj ho).2
    | exact kr_o_lr (g1_inj ho).2
    | exact kr_o_ar (g1_inj ho).2
    | exact kr_o_vr (g1_inj ho).2
end
section
-- ===== what the tables say
theorem fC_ok {o i : Nat} {q : Nat × Nat × Nat × MI} (h : fC o i = some q) : (∀ w ∈ callWs o i q, okT w) ∧ okQ q ∧ codeW q.2.2.2 ∈ lw_tbl := by
  unfold fC at h
  obtain ⟨r, hr, rfl⟩ := Option.map_eq_some_iff.mp h
  have h1 := List.find?_some hr
  have h2 := List.all_eq_true.mp (CT_all o) r (List.mem_of_find?_eq_some hr)
  simp only [ckC, Bool.and_eq_true] at h2
  simp only [beq_iff_eq] at h1
  subst h1
  exact ⟨ckWs_ok h2.1, ckQ_ok h2.2, cw_all _⟩
theorem cls_ok : ∀ (ci : Nat) (C : String) (T : u_T) (N : Nat), cls[ci]? = some (C, T, N) → (∀ w ∈ u_ws C T N, okT w) ∧ (∀ a, a < N → ∀ b, b < N → a ≠ b → (T a).2.1 ≠ (T b).2.1) ∧ (∀ k, k < N → parseFieldDescriptor (T k).2.2.1 = some (ftC ci k)) ∧ (∀ k, k < N → defaultValue (ftC ci k) = vp_V (dfl ci) k) ∧ N ≤ 700 ∧ oN ci = C
  | 0, _, _, _, h => by cases h; exact ⟨ckWs_ok lay_0, nm_0, ft_0, df_0, by decide, rfl⟩
  | 1, _, _, _, h => by cases h; exact ⟨ckWs_ok lay_1, nm_1, ft_1, df_1, by decide, rfl⟩
  | 2, _, _, _, h => by cases h; exact ⟨ckWs_ok lay_2, nm_2, ft_2, df_2, by decide, rfl⟩
  | 3, _, _, _, h => by cases h; exact ⟨ckWs_ok lay_3, nm_3, ft_3, df_3, by decide, rfl⟩
  | 4, _, _, _, h => by cases h; exact ⟨ckWs_ok lay_4, nm_4, ft_4, df_4, by decide, rfl⟩
  | 5, _, _, _, h => by cases h; exact ⟨ckWs_ok lay_5, nm_5, ft_5, df_5, by decide, rfl⟩
  | 6, _, _, _, h => by cases h; exact ⟨ckWs_ok lay_6, nm_6, ft_6, df_6, by decide, rfl⟩
  | 7, _, _, _, h => by cases h; exact ⟨ckWs_ok lay_7, nm_7, ft_7, df_7, by decide, rfl⟩
  | 8, _, _, _, h => by cases h; exact ⟨ckWs_ok lay_8, nm_8, ft_8, df_8, by decide, rfl⟩
  | 9, _, _, _, h => by cases h; exact ⟨ckWs_ok lay_9, nm_9, ft_9, df_9, by decide, rfl⟩
  | 10, _, _, _, h => by cases h; exact ⟨ckWs_ok lay_10, nm_10, ft_10, df_10, by decide, rfl⟩
  | n + 11, _, _, _, h => by simp [cls] at h
theorem fF_ok {o i ci k ty fin : Nat} (h : fF o i = some (ci, k, ty, fin)) : ∃ C T N, cls[ci]? = some (C, T, N) ∧ k < N ∧ (T k).1 = C ∧ (okT (.fieldLink (oN o) i C (T k).2.1 (T k).2.2.1) ∨ okT (.fieldLinkNest (oN o) i C (T k).2.1 (T k).2.2.1 "TurnsOneWay")) ∧ (T k).2.2.2 = (fin == 1) ∧ (ty = 0 → (T k).2.2.1 = "I") ∧ (ty ≠ 0 → (ftC ci k).isReference = true) := by
  unfold fF at h
  obtain ⟨r, hr, he⟩ := Option.map_eq_some_iff.mp h
  have h1 := List.find?_some hr
  have h2 := List.all_eq_true.mp (FT_all o) r (List.mem_of_find?_eq_some hr)
  simp only [beq_iff_eq] at h1
  subst h1
  obtain ⟨i, ⟨ci', k', ty', fin'⟩, nest, pos⟩ := r
  cases he
  simp only [ckF] at h2
  cases hc : cls[ci]? with
  | none => rw [hc] at h2; cases h2
  | some q =>
    obtain ⟨C, T, N⟩ := q
    rw [hc] at h2
    simp only [Bool.and_eq_true, decide_eq_true_eq, beq_iff_eq] at h2
    obtain ⟨⟨⟨⟨⟨h3, h4⟩, h5⟩, h6⟩, h7⟩, -⟩ := h2
    have h8 := ckW_ok h3
    simp only [wF, hc] at h8
    refine ⟨C, T, N, rfl, h4, h5, ?_, h6, fun hz => ?_, fun hz => ?_⟩
    · split at h8
      · exact Or.inr h8
      · exact Or.inl h8
    · rw [if_pos hz] at h7
      exact beq_iff_eq.mp h7
    · rw [if_neg hz, Bool.and_eq_true] at h7
      exact h7.2
theorem fN_ok {o i ci : Nat} (h : fN o i = some ci) : ∃ C T N, cls[ci]? = some (C, T, N) ∧ okT (.classLink (oN o) i C) ∧ okT (.instantiable C N) ∧ okT (.initialized C) := by
  unfold fN at h
  obtain ⟨r, hr, he⟩ := Option.map_eq_some_iff.mp h
  have h1 := List.find?_some hr
  have h2 := List.all_eq_true.mp (NT_all o) r (List.mem_of_find?_eq_some hr)
  simp only [beq_iff_eq] at h1
  subst h1
  obtain ⟨i, ci', ps⟩ := r
  cases he
  simp only [ckN] at h2
  cases hc : cls[ci']? with
  | none => rw [hc] at h2; cases h2
  | some q =>
    obtain ⟨C, T, N⟩ := q
    rw [hc] at h2
    have h3 := ckWs_ok h2
    exact ⟨C, T, N, rfl, h3 _ (by simp), h3 _ (by simp), h3 _ (by simp)⟩
theorem fA_ok {o i t : Nat} (h : fA o i = some t) : ∃ C, tyL[t]? = some (.object C) ∧ okT (.classLink (oN o) i C) ∧ okT (.arrayOver (.object C)) := by
  unfold fA at h
  obtain ⟨r, hr, he⟩ := Option.map_eq_some_iff.mp h
  have h1 := List.find?_some hr
  have h2 := List.all_eq_true.mp (AT_all o) r (List.mem_of_find?_eq_some hr)
  simp only [beq_iff_eq] at h1
  subst h1
  obtain ⟨i, t', C, ps⟩ := r
  cases he
  simp only [ckA, Bool.and_eq_true, decide_eq_true_eq] at h2
  have h3 := ckWs_ok h2.2
  exact ⟨C, h2.1, h3 _ (by simp), h3 _ (by simp)⟩
theorem fK_ok {o i : Nat} {v : Int32} (h : fK o i = some v) : okT (.constant (oN o) i v) := by
  unfold fK at h
  obtain ⟨r, hr, he⟩ := Option.map_eq_some_iff.mp h
  have h1 := List.find?_some hr
  have h2 := List.all_eq_true.mp (KT_all o) r (List.mem_of_find?_eq_some hr)
  simp only [beq_iff_eq] at h1
  subst h1
  cases he
  exact ckW_ok h2
theorem fL_ok {o i : Nat} {v : Int64} (h : fL o i = some v) : okT (.constantLong (oN o) i v) := by
  unfold fL at h
  obtain ⟨r, hr, he⟩ := Option.map_eq_some_iff.mp h
  have h1 := List.find?_some hr
  have h2 := List.all_eq_true.mp (KL_all o) r (List.mem_of_find?_eq_some hr)
  simp only [beq_iff_eq] at h1
  subst h1
  cases he
  exact ckW_ok h2
-- ===== concrete from abstract
def cv (N : Nat) (sb : UInt32 → Addr) (v : Value) : Value := match v with
  | .ref a => .ref (N + a)
  | .float t => .ref (sb t)
  | v => v
def cA (N : Nat) (a : (Nat → Int32) ⊕ (Nat → Int64) ⊕ (Nat → UInt32) ⊕ (Nat → UInt64) ⊕ (Nat → Option Nat)) : (Nat → Int32) ⊕ (Nat → Int64) ⊕ (Nat → UInt32) ⊕ (Nat → UInt64) ⊕ (Nat → Option Nat) := match a with
  | .inr (.inr (.inr (.inr f))) => .inr (.inr (.inr (.inr fun j => (f j).map fun x => N + x)))
  | a => a
def cE (N : Nat) (sb : UInt32 → Addr) (tyC : Nat → ClassId) (e : va_E) : va_E := match e with
  | .inl (t, n, a) => .inl (tyC t, n, cA N a)
  | .inr (ci, fs) => .inr (ci, fs.map (cv N sb))
def tyV (tyC : Nat → ClassId) : List (ClassId × FieldType) := (List.range tyL.length).map fun k => (tyC k, tyL.getD k .int)
theorem tyV_at {tyC : Nat → ClassId} {t : Nat} {ty : FieldType} (h : tyL[t]? = some ty) : (tyV tyC)[t]? = some (tyC t, ty) := by
  have hl : t < tyL.length := (List.getElem?_eq_some_iff.mp h).1
  unfold tyV
  rw [List.getElem?_map, List.getElem?_range hl]
  simp [List.getD_eq_getElem?_getD, h]
def HR (G : va_G) (tyC : Nat → ClassId) (sb : UInt32 → Addr) (N : Nat) (h : Hp) (H : Heap) : Prop := H.size = N + h.1 ∧ ∀ (k : Nat) (e : va_E), h.2 k = some e → va_at G cls (N + k, cE N sb tyC e) H
def LR (N : Nat) (sb : UInt32 → Addr) (n : Nat) (ls : Array Slot) (L : List Value) : Prop := ls.size = n ∧ L.length = n ∧ lv_wf ls ∧ ∀ (i : Nat) (v : Value), L[i]? = some v → v ≠ mkU → ls[i]? = some (.val (cv N sb v))
/-- the static rows, by token -/
def sNm (t : UInt32) : String := if t = 1 then "ABOVE" else "OWN"
def XT (X : Tok) (sb : UInt32 → Addr) (H0 : Heap) (U : State) : Prop := (∀ (t : UInt32) (q : Nat × (Nat → Int32)), X t = some q → va_T .int (sb t) q.1 (fun j => .int (q.2 j)) (fun a : Nat => H0.size ≤ a) U H0) ∧ ∀ t : UInt32, t = 1 ∨ t = 2 → va_Z "TurnsOneWay$Bodies" (sNm t) "[I" (.ref (sb t)) (fun a : Nat => H0.size ≤ a) U H0
theorem XT_moved {X : Tok} {sb : UInt32 → Addr} {H0 : Heap} {u U : State} (hvm : u.vm.Alike U.vm) (h : XT X sb H0 u) : XT X sb H0 U := ⟨fun t q hq => (h.1 t q hq).moved hvm, fun t ht => (h.2 t ht).moved hvm⟩
def CX (X : Tok) (G : va_G) (tyC : Nat → ClassId) (sb : UInt32 → Addr) (H0 : Heap) (p : Program) (s : State) (m : MethodId) (args : Array Value) (meth : Method) (c : Code) (M : MI) : Prop :=
  p.tables.exec = Jvm.exec ∧ c.code = M.2.2.1 ∧ c.maxLocals = M.2.2.2.1 ∧ s.vm.findClass (oN M.1) = some m.cls ∧ (∀ w ∈ lw_tbl, goodWord w = true → w.before args s = true) ∧ (∀ w ∈ lw_tbl, nestW w = true → va_Nw w s) ∧ (M.2.1.name = "<init>" → meth.name = "<init>") ∧ va_K G cls (tyV tyC) s ∧ XT X sb H0 s
def WA (sb : UInt32 → Addr) (G : va_G) (tyC : Nat → ClassId) (H0 : Heap) (p : Program) (l : Launch) (e : Env) (R : Room) (s : State) (m : MethodId) (args : Array Value) (below : List Frame) (meth : Method) (c : Code) (Q : State → Prop) (nL n0 : Nat) (pc : Nat) (L st : List Value) (h : Hp) : Prop :=
  ∀ (H : Heap) (locs : List Loc) (ls : Array Slot), HR G tyC sb H0.size h H → va_S (fun q : Nat => H0.size ≤ q) H0 H locs → LR H0.size sb nL ls L → n0 ≤ h.1 → W p l e R s m args below meth c H locs (h.1 - n0) (700 * (h.1 - n0)) Q (F0 m pc ls (st.map (cv H0.size sb)))
theorem cv_cat (N : Nat) (sb : UInt32 → Addr) (v : Value) : (cv N sb v).category = v.category := by
  cases v <;> rfl
theorem cv_cats (N : Nat) (sb : UInt32 → Addr) (l : List Value) : ((l.map (cv N sb)).map fun v => v.category) = l.map fun v => v.category := by
  rw [List.map_map]
  exact List.map_congr_left fun v _ => cv_cat N sb v
theorem okT_use {args : Array Value} {s : State} (h1 : ∀ w ∈ lw_tbl, goodWord w = true → w.before args s = true) (h2 : ∀ w ∈ lw_tbl, nestW w = true → va_Nw w s) {w : Cond} (h : okT w) : w.before args s = true := by
  obtain ⟨hm, hg | hn⟩ := h
  · exact h1 w hm hg
  · have h3 := h2 w hm hn
    unfold nestW at hn
    split at hn
    · exact va_Nw.use rfl h3
    · exact va_Nw.use rfl h3
    · exact h3
    · cases hn
theorem HR_lt {G : va_G} {tyC : Nat → ClassId} {sb : UInt32 → Addr} {N : Nat} {h : Hp} {H : Heap} (hH : HR G tyC sb N h H) {k : Nat} {e : va_E} (he : h.2 k = some e) : N + k < H.size := (hH.2 k e he).lt
theorem HR_set {G : va_G} {tyC : Nat → ClassId} {sb : UInt32 → Addr} {N : Nat} {h : Hp} {H H' : Heap} (hH : HR G tyC sb N h H) {a : Nat} {e : va_E} (hz : H'.size = H.size) (ho : ∀ q : Nat, q ≠ N + a → H'[q]? = H[q]?) (he : va_at G cls (N + a, cE N sb tyC e) H') : HR G tyC sb N (sE h a e) H' := by
  refine ⟨hz.trans hH.1, fun k e' hk => ?_⟩
  by_cases hka : k = a
  · subst hka
    have : some e = some e' := by
      have h2 : va_up h.2 k (some e) k = some e' := hk
      rwa [va_up_self] at h2
    cases this
    exact he
  · have h2 : va_up h.2 a (some e) k = some e' := hk
    rw [va_up_ne _ _ hka] at h2
    exact (hH.2 k e' h2).kept (ho _ (by show N + k ≠ N + a; omega))
theorem HR_push {G : va_G} {tyC : Nat → ClassId} {sb : UInt32 → Addr} {N : Nat} {h : Hp} {H H' : Heap} (hH : HR G tyC sb N h H) {e : va_E} (hz : H'.size = H.size + 1) (ho : ∀ q : Nat, q < H.size → H'[q]? = H[q]?) (he : va_at G cls (H.size, cE N sb tyC e) H') : HR G tyC sb N (nE h e) H' := by
  refine ⟨?_, fun k e' hk => ?_⟩
  · show H'.size = N + (h.1 + 1)
    rw [hz, hH.1]
    omega
  · by_cases hka : k = h.1
    · subst hka
      have : some e = some e' := by
        have h2 : va_up h.2 h.1 (some e) h.1 = some e' := hk
        rwa [va_up_self] at h2
      cases this
      rw [← hH.1]
      exact he
    · have h2 : va_up h.2 h.1 (some e) k = some e' := hk
      rw [va_up_ne _ _ hka] at h2
      exact (hH.2 k e' h2).kept (ho _ (HR_lt hH h2))
/-- the locals as the kit has them -/
def prs (N : Nat) (sb : UInt32 → Addr) (L : List Value) : List (Nat × Value) := (List.range L.length).filterMap fun i => match L[i]? with
  | some v => if v = mkU then none else some (i, cv N sb v)
  | none => none
theorem prs_in {N : Nat} {sb : UInt32 → Addr} {L : List Value} {i : Nat} {v : Value} (h : L[i]? = some v) (hv : v ≠ mkU) : (i, cv N sb v) ∈ prs N sb L := by
  refine List.mem_filterMap.mpr ⟨i, List.mem_range.mpr (List.getElem?_eq_some_iff.mp h).1, ?_⟩
  rw [h]
  simp [hv]
theorem prs_of {N : Nat} {sb : UInt32 → Addr} {L : List Value} {q : Nat × Value} (h : q ∈ prs N sb L) : ∃ v, L[q.1]? = some v ∧ v ≠ mkU ∧ q.2 = cv N sb v := by
  obtain ⟨i, -, hi⟩ := List.mem_filterMap.mp h
  cases hL : L[i]? with
  | none => rw [hL] at hi; cases hi
  | some v =>
    rw [hL] at hi
    simp only at hi
    split at hi
    · cases hi
    · cases hi
      exact ⟨v, hL, by assumption, rfl⟩
theorem LR_has {N : Nat} {sb : UInt32 → Addr} {n : Nat} {ls : Array Slot} {L : List Value} (h : LR N sb n ls L) : lv_has ls n (prs N sb L) := by
  refine ⟨h.1, h.2.2.1, fun q hq => ?_⟩
  obtain ⟨v, h1, h2, h3⟩ := prs_of hq
  rw [h3]
  exact h.2.2.2 _ _ h1 h2
theorem sL_len (L : List Value) (i : Nat) (v : Value) : (sL L i v).length = L.length := by
  unfold sL
  split
  · simp
  · split <;> simp
theorem sL_at {L : List Value} {i j : Nat} {x v : Value} (h : (sL L i x)[j]? = some v) (hv : v ≠ mkU) : (j = i ∧ v = x) ∨ (j ≠ i ∧ L[j]? = some v ∧ ¬ (j + 1 = i ∧ v.category = 2)) := by
  unfold sL at h
  split at h
  · by_cases hj : j = 0
    · subst hj
      rw [List.getElem?_set_self'] at h
      cases hL : L[0]? with
      | none => rw [hL] at h; cases h
      | some w => rw [hL] at h; cases h; exact Or.inl ⟨rfl, rfl⟩
    · rw [List.getElem?_set_ne (Ne.symm hj)] at h
      exact Or.inr ⟨hj, h, fun q => by omega⟩
  · rename_i i'
    by_cases hj : j = i' + 1
    · subst hj
      rw [List.getElem?_set_self'] at h
      generalize (if (L.getD i' mkU).category = 2 then L.set i' mkU else L) = L1 at h
      cases hL : L1[i' + 1]? with
      | none => rw [hL] at h; cases h
      | some w => rw [hL] at h; cases h; exact Or.inl ⟨rfl, rfl⟩
    · rw [List.getElem?_set_ne (Ne.symm hj)] at h
      split at h
      · rename_i hc
        by_cases hj2 : j = i'
        · subst hj2
          rw [List.getElem?_set_self'] at h
          cases hL : L[j]? with
          | none => rw [hL] at h; cases h
          | some w => rw [hL] at h; cases h; exact absurd rfl hv
        · rw [List.getElem?_set_ne (Ne.symm hj2)] at h
          exact Or.inr ⟨hj, h, fun q => by omega⟩
      · rename_i hc
        refine Or.inr ⟨hj, h, fun q => ?_⟩
        have : j = i' := by omega
        subst this
        rw [List.getD_eq_getElem?_getD, h] at hc
        exact hc q.2
theorem LR_st1 {N : Nat} {sb : UInt32 → Addr} {n i : Nat} {ls ls' : Array Slot} {L : List Value} {x : Value} (h : LR N sb n ls L) (h2 : lv_has ls' n ((i, cv N sb x) :: (prs N sb L).filter (fun q => !(q.1 == i) && !(q.1 + 1 == i && q.2.category == 2)))) : LR N sb n ls' (sL L i x) := by
  refine ⟨h2.1, (sL_len _ _ _).trans h.2.1, h2.2.1, fun j v hj hv => ?_⟩
  rcases sL_at hj hv with ⟨rfl, rfl⟩ | ⟨h3, h4, h5⟩
  · exact h2.2.2 _ List.mem_cons_self
  · refine h2.2.2 (j, cv N sb v) (List.mem_cons_of_mem _ (List.mem_filter.mpr ⟨prs_in h4 hv, ?_⟩))
    rw [cv_cat]
    simp only [Bool.and_eq_true, Bool.not_eq_true', beq_eq_false_iff_ne, Bool.and_eq_false_iff]
    refine ⟨h3, ?_⟩
    by_cases h6 : j + 1 = i
    · exact Or.inr fun h7 => h5 ⟨h6, h7⟩
    · exact Or.inl h6
theorem LR_st2 {N : Nat} {sb : UInt32 → Addr} {n i : Nat} {ls ls' : Array Slot} {L : List Value} {x : Value} (h : LR N sb n ls L) (h2 : lv_has ls' n ((i, cv N sb x) :: (prs N sb L).filter (fun q => !(q.1 == i) && (!(q.1 == i + 1) && !(q.1 + 1 == i && q.2.category == 2))))) : LR N sb n ls' (sL2 L i x) := by
  refine ⟨h2.1, ?_, h2.2.1, fun j v hj hv => ?_⟩
  · unfold sL2
    rw [List.length_set, sL_len]
    exact h.2.1
  · unfold sL2 at hj
    by_cases hji : j = i + 1
    · subst hji
      rw [List.getElem?_set_self'] at hj
      cases hL : (sL L i x)[i + 1]? with
      | none => rw [hL] at hj; cases hj
      | some w => rw [hL] at hj; cases hj; exact absurd rfl hv
    · rw [List.getElem?_set_ne (Ne.symm hji)] at hj
      rcases sL_at hj hv with ⟨rfl, rfl⟩ | ⟨h3, h4, h5⟩
      · exact h2.2.2 _ List.mem_cons_self
      · refine h2.2.2 (j, cv N sb v) (List.mem_cons_of_mem _ (List.mem_filter.mpr ⟨prs_in h4 hv, ?_⟩))
        rw [cv_cat]
        simp only [Bool.and_eq_true, Bool.not_eq_true', beq_eq_false_iff_ne, Bool.and_eq_false_iff]
        refine ⟨h3, hji, ?_⟩
        by_cases h6 : j + 1 = i
        · exact Or.inr fun h7 => h5 ⟨h6, h7⟩
        · exact Or.inl h6
theorem ent_at (N : Nat) (sb : UInt32 → Addr) : ∀ (av : List Value) (i j : Nat) (v : Value), (exL av)[j]? = some v → v ≠ mkU → (i + j, cv N sb v) ∈ lv_args i (av.map (cv N sb)) := by
  intro av
  induction av with
  | nil => intro i j v h; simp [exL] at h
  | cons a av ih =>
    intro i j v h hv
    rw [List.map_cons, lv_args]
    rw [cv_cat]
    unfold exL at h
    by_cases hc : a.category = 2
    · rw [if_pos hc] at h ⊢
      match j, h with
      | 0, h => cases h; exact List.mem_cons_self
      | 1, h => cases h; exact absurd rfl hv
      | j + 2, h =>
        refine List.mem_cons_of_mem _ ?_
        have := ih (i + 2) j v h hv
        rwa [show i + 2 + j = i + (j + 2) by omega] at this
    · rw [if_neg hc] at h ⊢
      match j, h with
      | 0, h => cases h; exact List.mem_cons_self
      | j + 1, h =>
        refine List.mem_cons_of_mem _ ?_
        have := ih (i + 1) j v h hv
        rwa [show i + 1 + j = i + (j + 1) by omega] at this
theorem exL_len (N : Nat) (sb : UInt32 → Addr) (av : List Value) : (lg_sl (av.map (cv N sb))).length = (exL av).length := by
  induction av with
  | nil => rfl
  | cons a av ih =>
    have h1 : lg_sl ((a :: av).map (cv N sb)) = (if (cv N sb a).category = 2 then [.val (cv N sb a), .second] else [.val (cv N sb a)]) ++ lg_sl (av.map (cv N sb)) := rfl
    rw [h1, List.length_append, ih, cv_cat, exL]
    split <;> simp only [List.length_cons, List.length_nil] <;> omega
theorem LR_ent {N : Nat} {sb : UInt32 → Addr} {M : MI} {av : List Value} (h : (exL av).length ≤ M.2.2.2.1) : LR N sb M.2.2.2.1 ((lg_sl (av.map (cv N sb)) ++ List.replicate (M.2.2.2.1 - (lg_sl (av.map (cv N sb))).length) Slot.unset).toArray) (ent M av) := by
  have h1 := lv_entry (av.map (cv N sb)) (n := M.2.2.2.1) (by rw [exL_len]; exact h)
  refine ⟨h1.1, ?_, h1.2.1, fun i v hi hv => ?_⟩
  · unfold ent
    rw [List.length_append, List.length_replicate]
    omega
  · unfold ent at hi
    by_cases hl : i < (exL av).length
    · rw [List.getElem?_append_left hl] at hi
      have := ent_at N sb av 0 i v hi hv
      rw [Nat.zero_add] at this
      exact h1.2.2 _ this
    · rw [List.getElem?_append_right (by omega)] at hi
      have := List.mem_of_getElem? hi
      exact absurd (List.eq_of_mem_replicate this) hv
end
section
theorem va_P1 {D : va_G} {cl : List vw_C} {q : Nat × va_E} {H : Heap} (h : va_at D cl q H) : va_P D cl [q] H := by
  intro k r hk
  match k, hk with
  | 0, hk => cases hk; exact h
  | k + 1, hk => simp at hk
theorem cv_rf (N : Nat) (sb : UInt32 → Addr) (r : Option Nat) : cv N sb (va_rf r) = va_rf (r.map fun x => N + x) := by
  cases r <;> rfl
theorem ne_i (x : Int32) : Value.int x ≠ mkU := by unfold mkU; exact fun q => by cases q
theorem ne_l (x : Int64) : Value.long x ≠ mkU := by unfold mkU; exact fun q => by cases q
theorem ne_r (x : Nat) : Value.ref x ≠ mkU := by unfold mkU; exact fun q => by cases q
theorem ne_f (x : UInt32) : Value.float x ≠ mkU := by unfold mkU; exact fun q => by cases q
theorem ne_n : Value.null ≠ mkU := by unfold mkU; exact fun q => by cases q
section STP
variable {X : Tok} {G : va_G} {tyC : Nat → ClassId} {sb : UInt32 → Addr} {H0 : Heap} {p : Program} {l : Launch} {e : Env} {R : Room} {s : State} {m : MethodId} {args : Array Value} {below : List Frame} {meth : Method} {c : Code} {Q : State → Prop} {M : MI} {n0 : Nat}
variable {pc pc1 pc' i len : Nat} {L st L' st' : List Value} {h h' : Hp}
theorem n_push {v : Value} (row : ∀ (H : Heap) (locs : List Loc) (ls : Array Slot) (cells slots : Nat) (rest : List Value), W p l e R s m args below meth c H locs cells slots Q (F0 m pc1 ls (cv H0.size sb v :: rest)) → W p l e R s m args below meth c H locs cells slots Q (F0 m pc ls rest)) (ho : nx pc1 L (v :: st) h = some (.inl (pc', L', st', h'))) (k : WA sb G tyC H0 p l e R s m args below meth c Q M.2.2.2.1 n0 pc' L' st' h') : WA sb G tyC H0 p l e R s m args below meth c Q M.2.2.2.1 n0 pc L st h := by
  obtain ⟨rfl, rfl, rfl, rfl⟩ := nx_inj ho
  intro H locs ls hH hS hL hn
  exact row _ _ _ _ _ _ (k H locs ls hH hS hL hn)
theorem n_il (row : ∀ (x : Int32) (H : Heap) (locs : List Loc) (ls : Array Slot) (cells slots : Nat) (rest : List Value), ls[i]? = some (.val (.int x)) → W p l e R s m args below meth c H locs cells slots Q (F0 m pc1 ls (.int x :: rest)) → W p l e R s m args below meth c H locs cells slots Q (F0 m pc ls rest)) (ho : o_il L st h pc1 i = some (.inl (pc', L', st', h'))) (k : WA sb G tyC H0 p l e R s m args below meth c Q M.2.2.2.1 n0 pc' L' st' h') : WA sb G tyC H0 p l e R s m args below meth c Q M.2.2.2.1 n0 pc L st h := by
  unfold o_il at ho
  split at ho
  · rename_i x hx
    obtain ⟨rfl, rfl, rfl, rfl⟩ := nx_inj ho
    intro H locs ls hH hS hL hn
    exact row _ _ _ _ _ _ _ (hL.2.2.2 i _ hx (ne_i x)) (k H locs ls hH hS hL hn)
  · cases ho
theorem n_ll (row : ∀ (x : Int64) (H : Heap) (locs : List Loc) (ls : Array Slot) (cells slots : Nat) (rest : List Value), ls[i]? = some (.val (.long x)) → W p l e R s m args below meth c H locs cells slots Q (F0 m pc1 ls (.long x :: rest)) → W p l e R s m args below meth c H locs cells slots Q (F0 m pc ls rest)) (ho : o_ll L st h pc1 i = some (.inl (pc', L', st', h'))) (k : WA sb G tyC H0 p l e R s m args below meth c Q M.2.2.2.1 n0 pc' L' st' h') : WA sb G tyC H0 p l e R s m args below meth c Q M.2.2.2.1 n0 pc L st h := by
  unfold o_ll at ho
  split at ho
  · rename_i x hx
    obtain ⟨rfl, rfl, rfl, rfl⟩ := nx_inj ho
    intro H locs ls hH hS hL hn
    exact row _ _ _ _ _ _ _ (hL.2.2.2 i _ hx (ne_l x)) (k H locs ls hH hS hL hn)
  · cases ho
theorem n_al (row : ∀ (x : Nat) (H : Heap) (locs : List Loc) (ls : Array Slot) (cells slots : Nat) (rest : List Value), ls[i]? = some (.val (.ref x)) → W p l e R s m args below meth c H locs cells slots Q (F0 m pc1 ls (.ref x :: rest)) → W p l e R s m args below meth c H locs cells slots Q (F0 m pc ls rest)) (row0 : ∀ (H : Heap) (locs : List Loc) (ls : Array Slot) (cells slots : Nat) (rest : List Value), ls[i]? = some (.val .null) → W p l e R s m args below meth c H locs cells slots Q (F0 m pc1 ls (.null :: rest)) → W p l e R s m args below meth c H locs cells slots Q (F0 m pc ls rest)) (ho : o_al L st h pc1 i = some (.inl (pc', L', st', h'))) (k : WA sb G tyC H0 p l e R s m args below meth c Q M.2.2.2.1 n0 pc' L' st' h') : WA sb G tyC H0 p l e R s m args below meth c Q M.2.2.2.1 n0 pc L st h := by
  unfold o_al at ho
  split at ho
  · rename_i x hx
    obtain ⟨rfl, rfl, rfl, rfl⟩ := nx_inj ho
    intro H locs ls hH hS hL hn
    exact row _ _ _ _ _ _ _ (hL.2.2.2 i _ hx (ne_r x)) (k H locs ls hH hS hL hn)
  · rename_i x hx
    obtain ⟨rfl, rfl, rfl, rfl⟩ := nx_inj ho
    intro H locs ls hH hS hL hn
    exact row _ _ _ _ _ _ _ (hL.2.2.2 i _ hx (ne_f x)) (k H locs ls hH hS hL hn)
  · rename_i hx
    obtain ⟨rfl, rfl, rfl, rfl⟩ := nx_inj ho
    intro H locs ls hH hS hL hn
    exact row0 _ _ _ _ _ _ (hL.2.2.2 i _ hx ne_n) (k H locs ls hH hS hL hn)
  · cases ho
theorem n_is (row : ∀ (x : Int32) (H : Heap) (locs : List Loc) (ls : Array Slot) (cells slots : Nat) (rest : List Value) (lv lv' : List (Nat × Value)), lv_has ls M.2.2.2.1 lv → i < M.2.2.2.1 → (i, Value.int x) :: lv.filter (fun q => !(q.1 == i) && !(q.1 + 1 == i && q.2.category == 2)) = lv' → (∀ ls' : Array Slot, lv_has ls' M.2.2.2.1 lv' → W p l e R s m args below meth c H locs cells slots Q (F0 m pc1 ls' rest)) → W p l e R s m args below meth c H locs cells slots Q (F0 m pc ls (.int x :: rest))) (ho : o_is L st h pc1 i = some (.inl (pc', L', st', h'))) (k : WA sb G tyC H0 p l e R s m args below meth c Q M.2.2.2.1 n0 pc' L' st' h') : WA sb G tyC H0 p l e R s m args below meth c Q M.2.2.2.1 n0 pc L st h := by
  unfold o_is at ho
  split at ho
  · rename_i x r
    split at ho
    · rename_i hi
      obtain ⟨rfl, rfl, rfl, rfl⟩ := nx_inj ho
      intro H locs ls hH hS hL hn
      exact row _ _ _ _ _ _ _ _ _ (LR_has hL) (by rw [← hL.2.1]; exact hi) rfl fun ls' h2 => k H locs ls' hH hS (LR_st1 (x := .int x) hL h2) hn
    · cases ho
  · cases ho
theorem n_ls (row : ∀ (x : Int64) (H : Heap) (locs : List Loc) (ls : Array Slot) (cells slots : Nat) (rest : List Value) (lv lv' : List (Nat × Value)), lv_has ls M.2.2.2.1 lv → i + 1 < M.2.2.2.1 → (i, Value.long x) :: lv.filter (fun q => !(q.1 == i) && (!(q.1 == i + 1) && !(q.1 + 1 == i && q.2.category == 2))) = lv' → (∀ ls' : Array Slot, lv_has ls' M.2.2.2.1 lv' → W p l e R s m args below meth c H locs cells slots Q (F0 m pc1 ls' rest)) → W p l e R s m args below meth c H locs cells slots Q (F0 m pc ls (.long x :: rest))) (ho : o_ls L st h pc1 i = some (.inl (pc', L', st', h'))) (k : WA sb G tyC H0 p l e R s m args below meth c Q M.2.2.2.1 n0 pc' L' st' h') : WA sb G tyC H0 p l e R s m args below meth c Q M.2.2.2.1 n0 pc L st h := by
  unfold o_ls at ho
  split at ho
  · rename_i x r
    split at ho
    · rename_i hi
      obtain ⟨rfl, rfl, rfl, rfl⟩ := nx_inj ho
      intro H locs ls hH hS hL hn
      exact row _ _ _ _ _ _ _ _ _ (LR_has hL) (by rw [← hL.2.1]; exact hi) rfl fun ls' h2 => k H locs ls' hH hS (LR_st2 (x := .long x) hL h2) hn
    · cases ho
  · cases ho
theorem n_as (row : ∀ (x : Nat) (H : Heap) (locs : List Loc) (ls : Array Slot) (cells slots : Nat) (rest : List Value) (lv lv' : List (Nat × Value)), lv_has ls M.2.2.2.1 lv → i < M.2.2.2.1 → (i, Value.ref x) :: lv.filter (fun q => !(q.1 == i) && !(q.1 + 1 == i && q.2.category == 2)) = lv' → (∀ ls' : Array Slot, lv_has ls' M.2.2.2.1 lv' → W p l e R s m args below meth c H locs cells slots Q (F0 m pc1 ls' rest)) → W p l e R s m args below meth c H locs cells slots Q (F0 m pc ls (.ref x :: rest)))
    (row0 : ∀ (H : Heap) (locs : List Loc) (ls : Array Slot) (cells slots : Nat) (rest : List Value) (lv lv' : List (Nat × Value)), lv_has ls M.2.2.2.1 lv → i < M.2.2.2.1 → (i, Value.null) :: lv.filter (fun q => !(q.1 == i) && !(q.1 + 1 == i && q.2.category == 2)) = lv' → (∀ ls' : Array Slot, lv_has ls' M.2.2.2.1 lv' → W p l e R s m args below meth c H locs cells slots Q (F0 m pc1 ls' rest)) → W p l e R s m args below meth c H locs cells slots Q (F0 m pc ls (.null :: rest))) (ho : o_as L st h pc1 i = some (.inl (pc', L', st', h'))) (k : WA sb G tyC H0 p l e R s m args below meth c Q M.2.2.2.1 n0 pc' L' st' h') : WA sb G tyC H0 p l e R s m args below meth c Q M.2.2.2.1 n0 pc L st h := by
  unfold o_as at ho
  split at ho
  · rename_i x r
    split at ho
    · rename_i hi
      obtain ⟨rfl, rfl, rfl, rfl⟩ := nx_inj ho
      intro H locs ls hH hS hL hn
      exact row _ _ _ _ _ _ _ _ _ (LR_has hL) (by rw [← hL.2.1]; exact hi) rfl fun ls' h2 => k H locs ls' hH hS (LR_st1 (x := .ref x) hL h2) hn
    · cases ho
  · rename_i x r
    split at ho
    · rename_i hi
      obtain ⟨rfl, rfl, rfl, rfl⟩ := nx_inj ho
      intro H locs ls hH hS hL hn
      exact row _ _ _ _ _ _ _ _ _ (LR_has hL) (by rw [← hL.2.1]; exact hi) rfl fun ls' h2 => k H locs ls' hH hS (LR_st1 (x := .float x) hL h2) hn
    · cases ho
  · rename_i r
    split at ho
    · rename_i hi
      obtain ⟨rfl, rfl, rfl, rfl⟩ := nx_inj ho
      intro H locs ls hH hS hL hn
      exact row0 _ _ _ _ _ _ _ _ (LR_has hL) (by rw [← hL.2.1]; exact hi) rfl fun ls' h2 => k H locs ls' hH hS (LR_st1 (x := .null) hL h2) hn
    · cases ho
  · cases ho
theorem n_inc {n : Int} (hx : p.tables.exec = Jvm.exec) (hb : c.code = M.2.2.1) (hd : decode M.2.2.1 pc = .ok (.iinc i n, 3)) (ho : o_inc L st h (pc + 3) i n = some (.inl (pc', L', st', h'))) (k : WA sb G tyC H0 p l e R s m args below meth c Q M.2.2.2.1 n0 pc' L' st' h') : WA sb G tyC H0 p l e R s m args below meth c Q M.2.2.2.1 n0 pc L st h := by
  unfold o_inc at ho
  split at ho
  · rename_i x hi
    obtain ⟨rfl, rfl, rfl, rfl⟩ := nx_inj ho
    intro H locs ls hH hS hL hn
    obtain ⟨kk, hkk⟩ := List.getElem?_of_mem (prs_in (N := H0.size) (sb := sb) hi (ne_i x))
    exact lv_iinc hx hb hd (LR_has hL) hkk rfl (by rw [← hL.2.1]; exact (List.getElem?_eq_some_iff.mp hi).1) rfl fun ls' h2 => k H locs ls' hH hS (LR_st1 (x := .int (x + Int32.ofInt n)) hL h2) hn
  · cases ho
theorem n_ii {f : Int32 → Int32 → Int32} (row : ∀ (x y : Int32) (H : Heap) (locs : List Loc) (ls : Array Slot) (cells slots : Nat) (rest : List Value), W p l e R s m args below meth c H locs cells slots Q (F0 m pc1 ls (.int (f x y) :: rest)) → W p l e R s m args below meth c H locs cells slots Q (F0 m pc ls (.int y :: .int x :: rest))) (ho : o_ii f L st h pc1 = some (.inl (pc', L', st', h'))) (k : WA sb G tyC H0 p l e R s m args below meth c Q M.2.2.2.1 n0 pc' L' st' h') : WA sb G tyC H0 p l e R s m args below meth c Q M.2.2.2.1 n0 pc L st h := by
  unfold o_ii at ho
  split at ho
  · obtain ⟨rfl, rfl, rfl, rfl⟩ := nx_inj ho
    intro H locs ls hH hS hL hn
    exact row _ _ _ _ _ _ _ _ (k H locs ls hH hS hL hn)
  · cases ho
theorem n_i0 {f : Int32 → Int32 → Int32} (row : ∀ (x y : Int32) (H : Heap) (locs : List Loc) (ls : Array Slot) (cells slots : Nat) (rest : List Value), ¬ y = 0 → W p l e R s m args below meth c H locs cells slots Q (F0 m pc1 ls (.int (f x y) :: rest)) → W p l e R s m args below meth c H locs cells slots Q (F0 m pc ls (.int y :: .int x :: rest))) (ho : o_i0 f L st h pc1 = some (.inl (pc', L', st', h'))) (k : WA sb G tyC H0 p l e R s m args below meth c Q M.2.2.2.1 n0 pc' L' st' h') : WA sb G tyC H0 p l e R s m args below meth c Q M.2.2.2.1 n0 pc L st h := by
  unfold o_i0 at ho
  split at ho
  · split at ho
    · cases ho
    · rename_i hy
      obtain ⟨rfl, rfl, rfl, rfl⟩ := nx_inj ho
      intro H locs ls hH hS hL hn
      exact row _ _ _ _ _ _ _ _ hy (k H locs ls hH hS hL hn)
  · cases ho
theorem n_i {f : Int32 → Int32} (row : ∀ (x : Int32) (H : Heap) (locs : List Loc) (ls : Array Slot) (cells slots : Nat) (rest : List Value), W p l e R s m args below meth c H locs cells slots Q (F0 m pc1 ls (.int (f x) :: rest)) → W p l e R s m args below meth c H locs cells slots Q (F0 m pc ls (.int x :: rest))) (ho : o_i f L st h pc1 = some (.inl (pc', L', st', h'))) (k : WA sb G tyC H0 p l e R s m args below meth c Q M.2.2.2.1 n0 pc' L' st' h') : WA sb G tyC H0 p l e R s m args below meth c Q M.2.2.2.1 n0 pc L st h := by
  unfold o_i at ho
  split at ho
  · obtain ⟨rfl, rfl, rfl, rfl⟩ := nx_inj ho
    intro H locs ls hH hS hL hn
    exact row _ _ _ _ _ _ _ (k H locs ls hH hS hL hn)
  · cases ho
theorem n_lL {f : Int64 → Int64 → Int64} (row : ∀ (x y : Int64) (H : Heap) (locs : List Loc) (ls : Array Slot) (cells slots : Nat) (rest : List Value), W p l e R s m args below meth c H locs cells slots Q (F0 m pc1 ls (.long (f x y) :: rest)) → W p l e R s m args below meth c H locs cells slots Q (F0 m pc ls (.long y :: .long x :: rest))) (ho : o_lL f L st h pc1 = some (.inl (pc', L', st', h'))) (k : WA sb G tyC H0 p l e R s m args below meth c Q M.2.2.2.1 n0 pc' L' st' h') : WA sb G tyC H0 p l e R s m args below meth c Q M.2.2.2.1 n0 pc L st h := by
  unfold o_lL at ho
  split at ho
  · obtain ⟨rfl, rfl, rfl, rfl⟩ := nx_inj ho
    intro H locs ls hH hS hL hn
    exact row _ _ _ _ _ _ _ _ (k H locs ls hH hS hL hn)
  · cases ho
theorem n_l0 {f : Int64 → Int64 → Int64} (row : ∀ (x y : Int64) (H : Heap) (locs : List Loc) (ls : Array Slot) (cells slots : Nat) (rest : List Value), ¬ y = 0 → W p l e R s m args below meth c H locs cells slots Q (F0 m pc1 ls (.long (f x y) :: rest)) → W p l e R s m args below meth c H locs cells slots Q (F0 m pc ls (.long y :: .long x :: rest))) (ho : o_l0 f L st h pc1 = some (.inl (pc', L', st', h'))) (k : WA sb G tyC H0 p l e R s m args below meth c Q M.2.2.2.1 n0 pc' L' st' h') : WA sb G tyC H0 p l e R s m args below meth c Q M.2.2.2.1 n0 pc L st h := by
  unfold o_l0 at ho
  split at ho
  · split at ho
    · cases ho
    · rename_i hy
      obtain ⟨rfl, rfl, rfl, rfl⟩ := nx_inj ho
      intro H locs ls hH hS hL hn
      exact row _ _ _ _ _ _ _ _ hy (k H locs ls hH hS hL hn)
  · cases ho
theorem n_lsh {f : Int64 → Int32 → Int64} (row : ∀ (x : Int64) (y : Int32) (H : Heap) (locs : List Loc) (ls : Array Slot) (cells slots : Nat) (rest : List Value), W p l e R s m args below meth c H locs cells slots Q (F0 m pc1 ls (.long (f x y) :: rest)) → W p l e R s m args below meth c H locs cells slots Q (F0 m pc ls (.int y :: .long x :: rest))) (ho : o_lsh f L st h pc1 = some (.inl (pc', L', st', h'))) (k : WA sb G tyC H0 p l e R s m args below meth c Q M.2.2.2.1 n0 pc' L' st' h') : WA sb G tyC H0 p l e R s m args below meth c Q M.2.2.2.1 n0 pc L st h := by
  unfold o_lsh at ho
  split at ho
  · obtain ⟨rfl, rfl, rfl, rfl⟩ := nx_inj ho
    intro H locs ls hH hS hL hn
    exact row _ _ _ _ _ _ _ _ (k H locs ls hH hS hL hn)
  · cases ho
theorem n_i2l (hx : p.tables.exec = Jvm.exec) (hb : c.code = M.2.2.1) (hd : decode M.2.2.1 pc = .ok (.i2l, 1)) (ho : o_i2l L st h (pc + 1) = some (.inl (pc', L', st', h'))) (k : WA sb G tyC H0 p l e R s m args below meth c Q M.2.2.2.1 n0 pc' L' st' h') : WA sb G tyC H0 p l e R s m args below meth c Q M.2.2.2.1 n0 pc L st h := by
  unfold o_i2l at ho
  split at ho
  · obtain ⟨rfl, rfl, rfl, rfl⟩ := nx_inj ho
    intro H locs ls hH hS hL hn
    exact lv_i2l hx hb hd rfl (k H locs ls hH hS hL hn)
  · cases ho
theorem n_l2i (hx : p.tables.exec = Jvm.exec) (hb : c.code = M.2.2.1) (hd : decode M.2.2.1 pc = .ok (.l2i, 1)) (ho : o_l2i L st h (pc + 1) = some (.inl (pc', L', st', h'))) (k : WA sb G tyC H0 p l e R s m args below meth c Q M.2.2.2.1 n0 pc' L' st' h') : WA sb G tyC H0 p l e R s m args below meth c Q M.2.2.2.1 n0 pc L st h := by
  unfold o_l2i at ho
  split at ho
  · obtain ⟨rfl, rfl, rfl, rfl⟩ := nx_inj ho
    intro H locs ls hH hS hL hn
    exact lv_l2i hx hb hd rfl (k H locs ls hH hS hL hn)
  · cases ho
theorem n_lcmp (hx : p.tables.exec = Jvm.exec) (hb : c.code = M.2.2.1) (hd : decode M.2.2.1 pc = .ok (.lcmp, 1)) (ho : o_lcmp L st h (pc + 1) = some (.inl (pc', L', st', h'))) (k : WA sb G tyC H0 p l e R s m args below meth c Q M.2.2.2.1 n0 pc' L' st' h') : WA sb G tyC H0 p l e R s m args below meth c Q M.2.2.2.1 n0 pc L st h := by
  unfold o_lcmp at ho
  split at ho
  · obtain ⟨rfl, rfl, rfl, rfl⟩ := nx_inj ho
    intro H locs ls hH hS hL hn
    exact W.lcmp hx hb hd (k H locs ls hH hS hL hn)
  · cases ho
theorem n_dup (hx : p.tables.exec = Jvm.exec) (hb : c.code = M.2.2.1) (hd : decode M.2.2.1 pc = .ok (.dup, 1)) (ho : o_dup L st h (pc + 1) = some (.inl (pc', L', st', h'))) (k : WA sb G tyC H0 p l e R s m args below meth c Q M.2.2.2.1 n0 pc' L' st' h') : WA sb G tyC H0 p l e R s m args below meth c Q M.2.2.2.1 n0 pc L st h := by
  unfold o_dup at ho
  split at ho
  · split at ho
    · rename_i hc
      obtain ⟨rfl, rfl, rfl, rfl⟩ := nx_inj ho
      intro H locs ls hH hS hL hn
      exact lv_dup hx hb hd (by rw [cv_cat]; exact hc) (k H locs ls hH hS hL hn)
    · cases ho
  · cases ho
theorem n_pop (hx : p.tables.exec = Jvm.exec) (hb : c.code = M.2.2.1) (hd : decode M.2.2.1 pc = .ok (.pop, 1)) (ho : o_pop L st h (pc + 1) = some (.inl (pc', L', st', h'))) (k : WA sb G tyC H0 p l e R s m args below meth c Q M.2.2.2.1 n0 pc' L' st' h') : WA sb G tyC H0 p l e R s m args below meth c Q M.2.2.2.1 n0 pc L st h := by
  unfold o_pop at ho
  split at ho
  · split at ho
    · rename_i hc
      obtain ⟨rfl, rfl, rfl, rfl⟩ := nx_inj ho
      intro H locs ls hH hS hL hn
      exact lv_pop hx hb hd (by rw [cv_cat]; exact hc) (k H locs ls hH hS hL hn)
    · cases ho
  · cases ho
theorem n_pop2 (hx : p.tables.exec = Jvm.exec) (hb : c.code = M.2.2.1) (hd : decode M.2.2.1 pc = .ok (.pop2, 1)) (ho : o_pop2 L st h (pc + 1) = some (.inl (pc', L', st', h'))) (k : WA sb G tyC H0 p l e R s m args below meth c Q M.2.2.2.1 n0 pc' L' st' h') : WA sb G tyC H0 p l e R s m args below meth c Q M.2.2.2.1 n0 pc L st h := by
  unfold o_pop2 at ho
  split at ho
  · obtain ⟨rfl, rfl, rfl, rfl⟩ := nx_inj ho
    intro H locs ls hH hS hL hn
    exact lv_pop2_2 hx hb hd rfl (k H locs ls hH hS hL hn)
  · cases ho
theorem n_dup2 (hx : p.tables.exec = Jvm.exec) (hb : c.code = M.2.2.1) (hd : decode M.2.2.1 pc = .ok (.dup2, 1)) (ho : o_dup2 L st h (pc + 1) = some (.inl (pc', L', st', h'))) (k : WA sb G tyC H0 p l e R s m args below meth c Q M.2.2.2.1 n0 pc' L' st' h') : WA sb G tyC H0 p l e R s m args below meth c Q M.2.2.2.1 n0 pc L st h := by
  unfold o_dup2 at ho
  split at ho
  · split at ho
    · rename_i hc
      obtain ⟨rfl, rfl, rfl, rfl⟩ := nx_inj ho
      intro H locs ls hH hS hL hn
      exact lv_dup2_11 hx hb hd (by rw [cv_cat]; exact hc.1) (by rw [cv_cat]; exact hc.2) (k H locs ls hH hS hL hn)
    · cases ho
  · cases ho
theorem n_goto {off : Int} (hx : p.tables.exec = Jvm.exec) (hb : c.code = M.2.2.1) (hd : decode M.2.2.1 pc = .ok (.goto off, 3)) (ho : o_jp pc off L st h = some (.inl (pc', L', st', h'))) (k : WA sb G tyC H0 p l e R s m args below meth c Q M.2.2.2.1 n0 pc' L' st' h') : WA sb G tyC H0 p l e R s m args below meth c Q M.2.2.2.1 n0 pc L st h := by
  obtain ⟨t, ht, he⟩ := jp_inj ho
  cases he
  intro H locs ls hH hS hL hn
  exact lv_goto hx hb hd ht (k H locs ls hH hS hL hn)
theorem n_if2 {cc : ClassFile.Cond} {off : Int} (hx : p.tables.exec = Jvm.exec) (hb : c.code = M.2.2.1) (hd : decode M.2.2.1 pc = .ok (.if_icmp cc off, 3)) (ho : o_if2 cc off L st h pc = some (.inl (pc', L', st', h'))) (k : WA sb G tyC H0 p l e R s m args below meth c Q M.2.2.2.1 n0 pc' L' st' h') : WA sb G tyC H0 p l e R s m args below meth c Q M.2.2.2.1 n0 pc L st h := by
  unfold o_if2 at ho
  split at ho
  · rename_i y x r
    split at ho
    · cases ho
    rename_i hj
    have ht : (pc : Int) + off = (((pc : Int) + off).toNat : Int) := (Int.toNat_of_nonneg (by omega)).symm
    intro H locs ls hH hS hL hn
    split at ho
    · rename_i hc
      obtain ⟨t, ht2, he⟩ := jp_inj ho
      cases he
      have k2 := k H locs ls hH hS hL hn
      cases cc <;> simp only [bB, decide_eq_true_eq] at hc
      · exact lv_icmp_eq hx hb hd ht2 (fun _ => k2) (fun q => absurd hc q)
      · exact lv_icmp_ne hx hb hd ht2 (fun _ => k2) (fun q => absurd q hc)
      · exact lv_icmp_lt hx hb hd ht2 (fun _ => k2) (fun q => absurd hc q)
      · exact lv_icmp_ge hx hb hd ht2 (fun _ => k2) (fun q => absurd hc q)
      · exact lv_icmp_gt hx hb hd ht2 (fun _ => k2) (fun q => absurd hc q)
      · exact lv_icmp_le hx hb hd ht2 (fun _ => k2) (fun q => absurd hc q)
    · rename_i hc
      obtain ⟨rfl, rfl, rfl, rfl⟩ := nx_inj ho
      have k2 := k H locs ls hH hS hL hn
      cases cc <;> simp only [bB, decide_eq_true_eq, Classical.not_not] at hc
      · exact lv_icmp_eq hx hb hd ht (fun q => absurd q hc) (fun _ => k2)
      · exact lv_icmp_ne hx hb hd ht (fun q => absurd hc q) (fun _ => k2)
      · exact lv_icmp_lt hx hb hd ht (fun q => absurd q hc) (fun _ => k2)
      · exact lv_icmp_ge hx hb hd ht (fun q => absurd q hc) (fun _ => k2)
      · exact lv_icmp_gt hx hb hd ht (fun q => absurd q hc) (fun _ => k2)
      · exact lv_icmp_le hx hb hd ht (fun q => absurd q hc) (fun _ => k2)
  · cases ho
theorem n_if1 {cc : ClassFile.Cond} {off : Int} (hx : p.tables.exec = Jvm.exec) (hb : c.code = M.2.2.1) (hd : decode M.2.2.1 pc = .ok (.ifCond cc off, 3)) (ho : o_if1 cc off L st h pc = some (.inl (pc', L', st', h'))) (k : WA sb G tyC H0 p l e R s m args below meth c Q M.2.2.2.1 n0 pc' L' st' h') : WA sb G tyC H0 p l e R s m args below meth c Q M.2.2.2.1 n0 pc L st h := by
  unfold o_if1 at ho
  split at ho
  · rename_i x r
    split at ho
    · cases ho
    rename_i hj
    have ht : (pc : Int) + off = (((pc : Int) + off).toNat : Int) := (Int.toNat_of_nonneg (by omega)).symm
    intro H locs ls hH hS hL hn
    split at ho
    · rename_i hc
      obtain ⟨t, ht2, he⟩ := jp_inj ho
      cases he
      have k2 := k H locs ls hH hS hL hn
      cases cc <;> simp only [bB, decide_eq_true_eq] at hc
      · exact lv_if_eq hx hb hd ht2 (fun _ => k2) (fun q => absurd hc q)
      · exact lv_if_ne hx hb hd ht2 (fun _ => k2) (fun q => absurd q hc)
      · exact lv_if_lt hx hb hd ht2 (fun _ => k2) (fun q => absurd hc q)
      · exact lv_if_ge hx hb hd ht2 (fun _ => k2) (fun q => absurd hc q)
      · exact lv_if_gt hx hb hd ht2 (fun _ => k2) (fun q => absurd hc q)
      · exact lv_if_le hx hb hd ht2 (fun _ => k2) (fun q => absurd hc q)
    · rename_i hc
      obtain ⟨rfl, rfl, rfl, rfl⟩ := nx_inj ho
      have k2 := k H locs ls hH hS hL hn
      cases cc <;> simp only [bB, decide_eq_true_eq, Classical.not_not] at hc
      · exact lv_if_eq hx hb hd ht (fun q => absurd q hc) (fun _ => k2)
      · exact lv_if_ne hx hb hd ht (fun q => absurd hc q) (fun _ => k2)
      · exact lv_if_lt hx hb hd ht (fun q => absurd q hc) (fun _ => k2)
      · exact lv_if_ge hx hb hd ht (fun q => absurd q hc) (fun _ => k2)
      · exact lv_if_gt hx hb hd ht (fun q => absurd q hc) (fun _ => k2)
      · exact lv_if_le hx hb hd ht (fun q => absurd q hc) (fun _ => k2)
  · cases ho
theorem n_null {off : Int} (hx : p.tables.exec = Jvm.exec) (hb : c.code = M.2.2.1) (hd : decode M.2.2.1 pc = .ok (.ifnull off, 3)) (ho : o_nul true off L st h pc = some (.inl (pc', L', st', h'))) (k : WA sb G tyC H0 p l e R s m args below meth c Q M.2.2.2.1 n0 pc' L' st' h') : WA sb G tyC H0 p l e R s m args below meth c Q M.2.2.2.1 n0 pc L st h := by
  unfold o_nul at ho
  split at ho
  · rw [if_pos rfl] at ho
    obtain ⟨rfl, rfl, rfl, rfl⟩ := nx_inj ho
    intro H locs ls hH hS hL hn
    exact lv_ifnull hx hb hd (k H locs ls hH hS hL hn)
  · rw [if_pos rfl] at ho
    obtain ⟨t, ht, he⟩ := jp_inj ho
    cases he
    intro H locs ls hH hS hL hn
    exact lv_ifnullN hx hb hd ht (k H locs ls hH hS hL hn)
  · cases ho
theorem n_nnull {off : Int} (hx : p.tables.exec = Jvm.exec) (hb : c.code = M.2.2.1) (hd : decode M.2.2.1 pc = .ok (.ifnonnull off, 3)) (ho : o_nul false off L st h pc = some (.inl (pc', L', st', h'))) (k : WA sb G tyC H0 p l e R s m args below meth c Q M.2.2.2.1 n0 pc' L' st' h') : WA sb G tyC H0 p l e R s m args below meth c Q M.2.2.2.1 n0 pc L st h := by
  unfold o_nul at ho
  split at ho
  · rw [if_neg (by decide)] at ho
    obtain ⟨t, ht, he⟩ := jp_inj ho
    cases he
    intro H locs ls hH hS hL hn
    exact lv_ifnonnull hx hb hd ht (k H locs ls hH hS hL hn)
  · rw [if_neg (by decide)] at ho
    obtain ⟨rfl, rfl, rfl, rfl⟩ := nx_inj ho
    intro H locs ls hH hS hL hn
    exact lv_ifnonnullN hx hb hd (k H locs ls hH hS hL hn)
  · cases ho
theorem n_tab {dflt lo hi : Int} {offs : Array Int} (hx : p.tables.exec = Jvm.exec) (hb : c.code = M.2.2.1) (hd : decode M.2.2.1 pc = .ok (.tableswitch dflt lo hi offs, len)) (ho : o_tab dflt lo hi offs L st h pc = some (.inl (pc', L', st', h'))) (k : WA sb G tyC H0 p l e R s m args below meth c Q M.2.2.2.1 n0 pc' L' st' h') : WA sb G tyC H0 p l e R s m args below meth c Q M.2.2.2.1 n0 pc L st h := by
  unfold o_tab at ho
  split at ho
  · intro H locs ls hH hS hL hn
    split at ho
    · rename_i hc
      obtain ⟨t, ht, he⟩ := jp_inj ho
      cases he
      exact lv_tableOut hx hb hd hc ht (k H locs ls hH hS hL hn)
    · rename_i hc
      split at ho
      · rename_i off hoff
        obtain ⟨t, ht, he⟩ := jp_inj ho
        cases he
        exact lv_tableIn hx hb hd (fun q => hc (Or.inl q)) (fun q => hc (Or.inr q)) hoff ht (k H locs ls hH hS hL hn)
      · cases ho
  · cases ho
theorem n_lkp {dflt : Int} {ps : Array (Int × Int)} (hx : p.tables.exec = Jvm.exec) (hb : c.code = M.2.2.1) (hd : decode M.2.2.1 pc = .ok (.lookupswitch dflt ps, len)) (ho : o_lkp dflt ps L st h pc = some (.inl (pc', L', st', h'))) (k : WA sb G tyC H0 p l e R s m args below meth c Q M.2.2.2.1 n0 pc' L' st' h') : WA sb G tyC H0 p l e R s m args below meth c Q M.2.2.2.1 n0 pc L st h := by
  unfold o_lkp at ho
  split at ho
  · split at ho
    · rename_i hc
      obtain ⟨t, ht, he⟩ := jp_inj ho
      cases he
      intro H locs ls hH hS hL hn
      exact lv_lookup hx hb hd hc rfl ht (k H locs ls hH hS hL hn)
    · cases ho
  · cases ho
end STP
end
section
theorem tyL_lt {t : Nat} (h : t < 7) : ∃ ty, tyL[t]? = some ty := by
  have : t < tyL.length := h
  exact ⟨_, List.getElem?_eq_getElem this⟩
theorem tyL_q {t : Nat} (h : 4 ≤ t ∧ t ≤ 6) : ∃ C, tyL[t]? = some (.object C) := by
  have h4 : t = 4 ∨ t = 5 ∨ t = 6 := by omega
  rcases h4 with rfl | rfl | rfl
  · exact ⟨_, rfl⟩
  · exact ⟨_, rfl⟩
  · exact ⟨_, rfl⟩
theorem okV_fit {N : Nat} {sb : UInt32 → Addr} {ty : Nat} {v : Value} (h : okV ty v = true) {t : FieldType} (h0 : ty = 0 → t = .int) (h1 : ty ≠ 0 → t.isReference = true) : narrow t (cv N sb v) = cv N sb v ∧ fits t (cv N sb v) = true := by
  unfold okV at h
  split at h
  · rw [h0 rfl]
    exact ⟨rfl, rfl⟩
  · have h2 := h1 (by decide)
    cases t <;> first | (cases h2; done) | exact ⟨rfl, rfl⟩
  · have h2 := h1 (by decide)
    cases t <;> first | (cases h2; done) | exact ⟨rfl, rfl⟩
  · cases h
theorem map_getD {N : Nat} {sb : UInt32 → Addr} (fs : List Value) (k : Nat) {v : Value} (h : fs[k]? = some v) : (fs.map (cv N sb))[k]? = some (cv N sb v) := by
  rw [List.getElem?_map, h]
  rfl
theorem dfl_cv (N : Nat) (sb : UInt32 → Addr) : ∀ ci, ci < 11 → (dfl ci).map (cv N sb) = dfl ci := by
  intro ci h
  match ci, h with
  | 0, _ => rfl
  | 1, _ => rfl
  | 2, _ => rfl
  | 3, _ => rfl
  | 4, _ => rfl
  | 5, _ => rfl
  | 6, _ => rfl
  | 7, _ => rfl
  | 8, _ => rfl
  | 9, _ => rfl
  | 10, _ => rfl
  | n + 11, h => exact absurd h (by omega)
section HPS
variable {X : Tok} {G : va_G} {tyC : Nat → ClassId} {sb : UInt32 → Addr} {H0 : Heap} {p : Program} {l : Launch} {e : Env} {R : Room} {s : State} {m : MethodId} {args : Array Value} {below : List Frame} {meth : Method} {c : Code} {Q : State → Prop} {M : MI} {n0 : Nat}
variable {pc pc1 pc' i len : Nat} {L st L' st' : List Value} {h h' : Hp}
theorem n_ldc (hx : p.tables.exec = Jvm.exec) (C0 : CX X G tyC sb H0 p s m args meth c M) (row : ∀ (v : Int32) (H : Heap) (locs : List Loc) (ls : Array Slot) (cells slots : Nat) (rest : List Value), (Jvm.Cond.constant (oN M.1) i v).before args s = true → W p l e R s m args below meth c H locs cells slots Q (F0 m pc1 ls (.int v :: rest)) → W p l e R s m args below meth c H locs cells slots Q (F0 m pc ls rest)) (ho : o_ldc M.1 i L st h pc1 = some (.inl (pc', L', st', h'))) (k : WA sb G tyC H0 p l e R s m args below meth c Q M.2.2.2.1 n0 pc' L' st' h') : WA sb G tyC H0 p l e R s m args below meth c Q M.2.2.2.1 n0 pc L st h := by
  unfold o_ldc at ho
  split at ho
  · rename_i v hv
    obtain ⟨rfl, rfl, rfl, rfl⟩ := nx_inj ho
    intro H locs ls hH hS hL hn
    exact row _ _ _ _ _ _ _ (okT_use C0.2.2.2.2.1 C0.2.2.2.2.2.1 (fK_ok hv)) (k H locs ls hH hS hL hn)
  · cases ho
theorem n_ldl (C0 : CX X G tyC sb H0 p s m args meth c M) (hd : decode M.2.2.1 pc = .ok (.ldc2_w i, 3)) (ho : o_ldl M.1 i L st h (pc + 3) = some (.inl (pc', L', st', h'))) (k : WA sb G tyC H0 p l e R s m args below meth c Q M.2.2.2.1 n0 pc' L' st' h') : WA sb G tyC H0 p l e R s m args below meth c Q M.2.2.2.1 n0 pc L st h := by
  obtain ⟨hx, hb, hml, hown, h5, h6, -⟩ := C0
  unfold o_ldl at ho
  split at ho
  · rename_i v hv
    obtain ⟨rfl, rfl, rfl, rfl⟩ := nx_inj ho
    intro H locs ls hH hS hL hn
    exact lv_ldc2 hx hb hown (okT_use h5 h6 (fL_ok hv)) hd (k H locs ls hH hS hL hn)
  · cases ho
theorem n_gf (C0 : CX X G tyC sb H0 p s m args meth c M) (hd : decode M.2.2.1 pc = .ok (.getfield i, 3)) (ho : o_gf M.1 i L st h (pc + 3) = some (.inl (pc', L', st', h'))) (k : WA sb G tyC H0 p l e R s m args below meth c Q M.2.2.2.1 n0 pc' L' st' h') : WA sb G tyC H0 p l e R s m args below meth c Q M.2.2.2.1 n0 pc L st h := by
  obtain ⟨hx, hb, hml, hown, h5, h6, -, hK, -⟩ := C0
  unfold o_gf at ho
  split at ho
  · rename_i a r
    split at ho
    · rename_i ci kk ty fin hf
      split at ho
      · rename_i c' fs hc
        split at ho
        · rename_i hcc
          subst hcc
          split at ho
          · rename_i v hv
            obtain ⟨rfl, rfl, rfl, rfl⟩ := nx_inj ho
            intro H locs ls hH hS hL hn
            obtain ⟨C, T, N, q1, q2, q3, q4, -⟩ := fF_ok hf
            have hw := cls_ok _ _ _ _ q1
            have hP : va_P G cls [(H0.size + a, .inr (c', fs.map (cv H0.size sb)))] H := va_P1 (hH.2 a _ hc)
            rcases q4 with q4 | q4
            · exact va_get (D := G) (Ts := u_ws C T N) hx hb (fun w hw' => okT_use h5 h6 (hw.1 w hw')) (fun w hw' => hw') hown hK hP 0 rfl q1 kk q2 (okT_use h5 h6 q4) (fun x h9 => by rw [q3] at h9; exact h9) (map_getD fs kk hv) hd (k H locs ls hH hS hL hn)
            · exact va_getN (D := G) (Ts := u_ws C T N) hx hb (fun w hw' => okT_use h5 h6 (hw.1 w hw')) (fun w hw' => hw') hown hK hP 0 rfl q1 kk q2 (okT_use h5 h6 q4) (fun x h9 => by rw [q3] at h9; exact h9) (map_getD fs kk hv) hd (k H locs ls hH hS hL hn)
          · cases ho
        · cases ho
      · cases ho
    · cases ho
  · cases ho
theorem n_pf (C0 : CX X G tyC sb H0 p s m args meth c M) (hd : decode M.2.2.1 pc = .ok (.putfield i, 3)) (ho : o_pf (decide (M.2.1.name = "<init>")) M.1 i L st h (pc + 3) = some (.inl (pc', L', st', h'))) (k : WA sb G tyC H0 p l e R s m args below meth c Q M.2.2.2.1 n0 pc' L' st' h') : WA sb G tyC H0 p l e R s m args below meth c Q M.2.2.2.1 n0 pc L st h := by
  obtain ⟨hx, hb, hml, hown, h5, h6, hini, hK, -⟩ := C0
  unfold o_pf at ho
  split at ho
  · rename_i v a r
    split at ho
    · rename_i ci kk ty fin hf
      split at ho
      · rename_i c' fs hc
        split at ho
        · rename_i hcc
          obtain ⟨rfl, hlen, hok, hfi⟩ := hcc
          obtain ⟨rfl, rfl, rfl, rfl⟩ := nx_inj ho
          intro H locs ls hH hS hL hn
          obtain ⟨C, T, N, q1, q2, q3, q4, q5, q6, q7⟩ := fF_ok hf
          obtain ⟨w1, w2, w3, w4, w5, w6⟩ := cls_ok _ _ _ _ q1
          have hts : ∀ w ∈ u_ws C T N, w.before args s = true := fun w hw' => okT_use h5 h6 (w1 w hw')
          have hap := va_apart (own := oN M.1) (D := G) hts (fun w hw' => hw') (ftC c') w3 w2 hK q1
          obtain ⟨r', h1, cell, g1, g2, g3, g4⟩ := hH.2 a _ hc
          have hr : r' = (C, T, N) := Option.some.inj (h1.symm.trans q1)
          subst hr
          obtain ⟨hSl, hfc, kC, hkC, hkind⟩ := hK.1 c' _ q1
          obtain ⟨cf, kf, fi, f, hi, hsl⟩ := hSl kk q2
          have hlay := hts _ (u_in_lay q2)
          have hst := (u_facts hfc hkC (u_lays hts (fun w hw' => hw') q2) hi).1
          have hd2 := w3 kk q2
          obtain ⟨hnar, hfit⟩ := okV_fit (N := H0.size) (sb := sb) hok (t := ftC c' kk) (fun hz => by
            have e1 := w3 kk q2
            rw [q6 hz] at e1
            exact (Option.some.inj (e1.symm.trans (show parseFieldDescriptor "I" = some .int by decide)))) q7
          have hi2 : s.fieldFound? C (T kk).2.1 (T kk).2.2.1 = some (cf, kf, fi, f) := by rw [← hi, q3]
          have key : ∀ H' : Heap, H'[H0.size + a]? = some (cell.setSlot f.slot (cv H0.size sb v)) → H'.size = H.size → (∀ q, q ≠ H0.size + a → H'[q]? = H[q]?) → W p l e R s m args below meth c H' (locs ++ [⟨H0.size + a, f.slot⟩]) (h.1 - n0) (700 * (h.1 - n0)) Q (F0 m (pc + 3) ls (r.map (cv H0.size sb))) := by
            intro H' e1 e2 e3
            refine k H' _ ls (HR_set hH e2 e3 ?_) (hS.put e2 e3 (Nat.le_add_right _ _)) hL hn
            rw [hsl] at e1
            refine ⟨_, q1, t_OB.to (V := updV (vp_V (fs.map (cv H0.size sb))) kk (cv H0.size sb v)) ⟨_, e1, g2, g3, t_set g4 hap q2 (cv H0.size sb v)⟩ (fun j _ => ?_)⟩
            rw [List.map_set]
            exact vp_updV_set (by rw [List.length_map]; exact hlen) _ j
          have hlt : f.slot < cell.slots.size := by rw [hsl]; exact k2_hasslot (g4 kk q2)
          by_cases hfin : fin = 1
          · have hT : (T kk).2.2.2 = true := by rw [q5, hfin]; rfl
            unfold u_lay at hlay
            rw [if_pos hT] at hlay
            have hini2 : M.2.1.name = "<init>" ∧ c' = M.1 := by
              rcases hfi with z | z
              · rw [hfin] at z; cases z
              · exact ⟨of_decide_eq_true z.1, z.2⟩
            have hcf : m.cls = cf := by
              obtain ⟨_, _, c2, _, _, _, -, -, hf', -, -, -, hown2, -⟩ := Cond.laysFinal_spec hlay
              have e1 : c2 = cf := by have := hi.symm.trans hf'; simp at this; exact this.1.symm
              rw [q3, ← w6, hini2.2] at hown2
              rw [← e1]
              exact Option.some.inj (hown.symm.trans hown2)
            have h6f := u_fits hfc hkC hkind (Or.inr hlay) hi hd2 hnar hfit
            rcases q4 with q4 | q4
            · exact W.putFinK hx hb hown (okT_use h5 h6 q4) hi2 hst hcf (hini hini2.1) (by rw [g2]; exact h6f) g1 g3 hlt rfl rfl hd key
            · exact va_Wputf hx hb hown (okT_use h5 h6 q4) hi2 hst (Or.inr ⟨hcf, hini hini2.1⟩) g1 (by rw [g3]; exact fun q => by cases q) hlt (by rw [g2] at *; exact h6f.1) (by rw [g3, g2]; exact h6f.2) rfl rfl hd (key _ (by simp [Array.getElem?_setIfInBounds, (Array.getElem?_eq_some_iff.mp g1).1]) (by simp) (fun q hq => by simp [Array.getElem?_setIfInBounds, Ne.symm hq]))
          · have hT : (T kk).2.2.2 = false := by rw [q5]; simp [hfin]
            unfold u_lay at hlay
            rw [if_neg (by rw [hT]; decide)] at hlay
            have h6s := u_store hfc hkC hkind hlay hi hd2 hnar hfit
            rcases q4 with q4 | q4
            · exact W.putK hx hb (f := f) ⟨hown, okT_use h5 h6 q4, ⟨_, _, _, hi2⟩, hst⟩ (by rw [g2]; exact h6s) g1 g3 hlt rfl rfl hd key
            · exact va_WputK hx hb (f := f) hown (okT_use h5 h6 q4) hi2 hst (by rw [g2]; exact h6s) g1 g3 hlt rfl rfl hd key
        · cases ho
      · cases ho
    · cases ho
  · cases ho
theorem T_ld {A : Nat → Prop} {cc : ByteArray} {H : Heap} {locs : List Loc} {cells slots : Nat} {ls : Array Slot} {rest : List Value} (hx : p.tables.exec = Jvm.exec) (hb : c.code = cc) {t N : Nat} {xs : Nat → Int32} (hT : va_T .int t N (fun j => .int (xs j)) A s H0) (hS : va_S A H0 H locs) {j : Int32} (hin : ¬ (j < 0 ∨ N ≤ j.toNatClampNeg)) (hd : decode cc pc = .ok (.iaload, 1))
    (kk : W p l e R s m args below meth c H locs cells slots Q (F0 m (pc + 1) ls (.int (xs j.toNatClampNeg) :: rest))) : W p l e R s m args below meth c H locs cells slots Q (F0 m pc ls (.int j :: .ref t :: rest)) := by
  obtain ⟨cell, h1, h2, h3, h4, h5, h6, h7⟩ := hT
  have hlt : j.toNatClampNeg < N := Nat.not_le.mp fun q => hin (Or.inr q)
  exact W.iald (v := .int (xs j.toNatClampNeg)) hx hb (by rw [hS.2.1 t (Array.getElem?_eq_some_iff.mp h1).1 h7]; exact h1) h2 h3 (fun q => hin (q.elim Or.inl fun z => Or.inr (Nat.le_trans h4 z))) (h6 _ hlt) rfl rfl hd kk
theorem T_len {A : Nat → Prop} {cc : ByteArray} {H : Heap} {locs : List Loc} {cells slots : Nat} {ls : Array Slot} {rest : List Value} (hx : p.tables.exec = Jvm.exec) (hb : c.code = cc) {t N : Nat} {xs : Nat → Int32} (hT : va_T .int t N (fun j => .int (xs j)) A s H0) (hS : va_S A H0 H locs) (hd : decode cc pc = .ok (.arraylength, 1))
    (kk : W p l e R s m args below meth c H locs cells slots Q (F0 m (pc + 1) ls (.int (Int32.ofNat N) :: rest))) : W p l e R s m args below meth c H locs cells slots Q (F0 m pc ls (.ref t :: rest)) := by
  obtain ⟨cell, h1, h2, h3, h4, h5, h6, h7⟩ := hT
  exact W.alen (n := Int32.ofNat N) hx hb (by rw [hS.2.1 t (Array.getElem?_eq_some_iff.mp h1).1 h7]; exact h1) h2 h5 rfl rfl hd kk
theorem gs_in {o i : Nat} {t : UInt32} (h : fS o i = some t) : o = 0 ∧ ((i = 22 ∧ t = 1) ∨ (i = 29 ∧ t = 2)) := by
  unfold fS at h
  split at h
  · rename_i h0
    refine ⟨h0, ?_⟩
    split at h
    · rename_i h1
      cases h
      exact Or.inl ⟨h1, rfl⟩
    · split at h
      · rename_i h1
        cases h
        exact Or.inr ⟨h1, rfl⟩
      · cases h
  · cases h
set_option maxRecDepth 100000 in
theorem gs_w1 : ckW (.fieldLink "TurnsOneWay$Bodies" 22 "TurnsOneWay$Bodies" "ABOVE" "[I") 943 = true := by decide +kernel
set_option maxRecDepth 100000 in
theorem gs_w2 : ckW (.fieldLink "TurnsOneWay$Bodies" 29 "TurnsOneWay$Bodies" "OWN" "[I") 948 = true := by decide +kernel
theorem n_gs (C0 : CX X G tyC sb H0 p s m args meth c M) (hd : decode M.2.2.1 pc = .ok (.getstatic i, 3)) (ho : o_gs M.1 i L st h (pc + 3) = some (.inl (pc', L', st', h'))) (k : WA sb G tyC H0 p l e R s m args below meth c Q M.2.2.2.1 n0 pc' L' st' h') : WA sb G tyC H0 p l e R s m args below meth c Q M.2.2.2.1 n0 pc L st h := by
  obtain ⟨hx, hb, hml, hown, h5, h6, -, hK, hX⟩ := C0
  unfold o_gs at ho
  split at ho
  · rename_i t hf
    obtain ⟨rfl, rfl, rfl, rfl⟩ := nx_inj ho
    obtain ⟨h0, h1⟩ := gs_in hf
    intro H locs ls hH hS hL hn
    rw [h0] at hown
    rcases h1 with ⟨rfl, rfl⟩ | ⟨rfl, rfl⟩
    · obtain ⟨cf, kf, fi, f, a, cell, z1, z2, z3, z4, z5, z6, z7, z8⟩ := hX.2 1 (Or.inl rfl)
      exact W.gets hx hb hown (okT_use h5 h6 (ckW_ok gs_w1)) z1 z2 z3 z4 (by rw [hS.2.1 a (Array.getElem?_eq_some_iff.mp z5).1 z8]; exact z5) (fun e => by rw [e] at z6; cases z6) z7 rfl hd (k H locs ls hH hS hL hn)
    · obtain ⟨cf, kf, fi, f, a, cell, z1, z2, z3, z4, z5, z6, z7, z8⟩ := hX.2 2 (Or.inr rfl)
      exact W.gets hx hb hown (okT_use h5 h6 (ckW_ok gs_w2)) z1 z2 z3 z4 (by rw [hS.2.1 a (Array.getElem?_eq_some_iff.mp z5).1 z8]; exact z5) (fun e => by rw [e] at z6; cases z6) z7 rfl hd (k H locs ls hH hS hL hn)
  · cases ho
theorem i_nn {z : Int32} (hz : ¬ z < 0) : z.toInt = (z.toNatClampNeg : Int) := by
  have hz0 : (0 : Int) ≤ z.toInt := by
    have := Int32.not_lt.mp hz
    simpa using Int32.le_iff_toInt_le.mp this
  show z.toInt = ((z.toInt.toNat : Nat) : Int)
  omega
/-- numbers copied from a row to a row -/
theorem W_cp {α : Type} {wr : α → Value} {cc : ByteArray} {H : Heap} {locs : List Loc} {cells slots : Nat} {ls : Array Slot} {rest : List Value} {own : String} (hx : p.tables.exec = Jvm.exec) (hb : c.code = cc) (hml : c.maxLocals = ls.size) (hown : s.vm.findClass own = some m.cls) (hlink : (Cond.methodLink own i arraycopyName).before args s = true) (hnat : (Cond.native arraycopyName).before args s = true) (hstat : (Cond.static arraycopyName).before args s = true) (hini : (Cond.initialized "java/lang/System").before args s = true)
    (hK : va_K G cls (tyV tyC) s) {t : Nat} {ty : FieldType} (hty : tyL[t]? = some ty) (hprim : refKind ty = false) {a b na nb : Nat} {f g : Nat → α} (ha : H[a]? = some (arrV (tyC t) na (fun j => wr (f j)))) (hbb : H[b]? = some (arrV (tyC t) nb (fun j => wr (g j)))) (hfit : ∀ x, fits ty (wr x) = true) (hres : ∀ x, match wr x with | .ref _ => False | _ => True)
    {sp dp n : Int32} (h1 : ¬ sp < 0) (h2 : ¬ dp < 0) (h3 : ¬ n < 0) (h4 : sp.toNatClampNeg + n.toNatClampNeg ≤ na) (h5 : dp.toNatClampNeg + n.toNatClampNeg ≤ nb)
    (hframes : 1 ≤ R.frames) (hlocals : (rest.map fun v => v.category).sum + (nativeFrameWords "java/lang/System" "arraycopy" 5 + 11) ≤ R.locals) (hd : decode cc pc = .ok (.invokestatic i, 3))
    (kk : ∀ (H1 : Heap) (locs1 : List Loc), H1[b]? = some (arrV (tyC t) nb (fun j => wr (va_cpy f g sp.toNatClampNeg dp.toNatClampNeg n.toNatClampNeg j))) → H1.size = H.size → (∀ q : Nat, q ≠ b → H1[q]? = H[q]?) → (∀ q ∈ locs1, q ∈ locs ∨ q.base = b) → W p l e R s m args below meth c H1 locs1 cells slots Q (F0 m (pc + 3) ls rest)) : W p l e R s m args below meth c H locs cells slots Q (F0 m pc ls (.int n :: .int dp :: .ref b :: .int sp :: .ref a :: rest)) := by
  intro T hT X'
  obtain ⟨-, k0, hk0, cm0, hkk0⟩ := (hK.2 t _ (tyV_at hty)).1 na (fun j => wr (f j))
  obtain ⟨-, k1, hk1, cm1, hkk1⟩ := (hK.2 t _ (tyV_at hty)).1 nb (fun j => wr (g j))
  obtain ⟨vm', X2, step⟩ := X'.arraycopy hx hown hlink hnat hstat hini (src := a) (dst := b) (cs := arrV (tyC t) na (fun j => wr (f j))) (cd := arrV (tyC t) nb (fun j => wr (g j))) (srcPos := sp) (destPos := dp) (n := n) (by rw [hT]; exact ha) (by rw [hT]; exact hbb)
    (fun _ h => by cases h) (fun _ h => by cases h) (fun h => by cases h) (fun h => by cases h) hk0 hk1 hkk0 hkk1 (by simp [hprim]) h1 h2 h3
    (by rw [i_nn h1, i_nn h3]; rw [arrV_size]; omega)
    (by rw [i_nn h2, i_nn h3]; rw [arrV_size]; omega)
    (fun vm₁ _ j hj => by
      have e : (arrV (tyC t) na (fun j => wr (f j))).slots.getD (sp.toNatClampNeg + j) .null = wr (f (sp.toNatClampNeg + j)) := by
        rw [Array.getD_eq_getD_getElem?, arrV_read _ _ (by omega)]
        rfl
      refine ⟨?_, ?_⟩
      · rw [e]
        exact hfit _
      · rw [e]
        have := hres (f (sp.toNatClampNeg + j))
        revert this
        generalize wr (f (sp.toNatClampNeg + j)) = w
        intro this
        cases w <;> first | exact trivial | exact this.elim)
    (g := F0 m pc ls (.int n :: .int dp :: .ref b :: .int sp :: .ref a :: rest)) rfl (by rw [hml]) (rest := rest) rfl (by rw [hb]; exact hd) hframes (by show 2 * 0 + _ + _ ≤ _; omega)
  have e1 : copied (arrV (tyC t) na (fun j => wr (f j))) (arrV (tyC t) nb (fun j => wr (g j))) sp dp n = arrV (tyC t) nb (fun j => wr (va_cpy f g sp.toNatClampNeg dp.toNatClampNeg n.toNatClampNeg j)) := va_copied wr (tyC t) (tyC t) f g h4
  rw [e1] at X2 step
  have hl : b < H.size := (Array.getElem?_eq_some_iff.mp hbb).1
  have hheap : ((T.setVm vm').setCell b (arrV (tyC t) nb (fun j => wr (va_cpy f g sp.toNatClampNeg dp.toNatClampNeg n.toNatClampNeg j)))).heap = H.setIfInBounds b (arrV (tyC t) nb (fun j => wr (va_cpy f g sp.toNatClampNeg dp.toNatClampNeg n.toNatClampNeg j))) := by rw [← hT]; rfl
  obtain ⟨t2, a1, b1⟩ := kk _ _ (by simp [Array.getElem?_setIfInBounds, hl]) (by simp) (fun q hq => by simp [Array.getElem?_setIfInBounds, Ne.symm hq]) (fun q hq => by
      rcases List.mem_append.mp hq with h | h
      · exact Or.inl h
      · obtain ⟨z, -, hz⟩ := List.mem_map.mp h
        rw [← hz]
        exact Or.inr rfl) _ hheap X2
  exact ⟨t2, step t2 a1, b1⟩
theorem n_ial0 (C0 : CX X G tyC sb H0 p s m args meth c M) (hd : decode M.2.2.1 pc = .ok (.iaload, 1)) (ho : o_ial X 0 L st h (pc + 1) = some (.inl (pc', L', st', h'))) (k : WA sb G tyC H0 p l e R s m args below meth c Q M.2.2.2.1 n0 pc' L' st' h') : WA sb G tyC H0 p l e R s m args below meth c Q M.2.2.2.1 n0 pc L st h := by
  obtain ⟨hx, hb, hml, hown, h5, h6, -, hK, hX⟩ := C0
  unfold o_ial at ho
  split at ho
  · rename_i j a r
    split at ho
    · rename_i t' n f hc
      split at ho
      · rename_i hcc
        obtain ⟨rfl, hin⟩ := hcc
        obtain ⟨rfl, rfl, rfl, rfl⟩ := nx_inj ho
        intro H locs ls hH hS hL hn
        have hP : va_P G cls [(H0.size + a, .inl (tyC 0, n, .inl f))] H := va_P1 (hH.2 a _ hc)
        exact va_iald (D := G) hx hb hK hP 0 0 rfl (tyV_at rfl) hin hd (k H locs ls hH hS hL hn)
      · cases ho
    · cases ho
  · rename_i j t r
    split at ho
    · rename_i n f hc
      split at ho
      · rename_i hcc
        obtain ⟨rfl, rfl, rfl, rfl⟩ := nx_inj ho
        intro H locs ls hH hS hL hn
        exact T_ld hx hb (hX.1 _ _ hc) hS hcc.2 hd (k H locs ls hH hS hL hn)
      · cases ho
    · cases ho
  · cases ho
theorem n_ial2 (C0 : CX X G tyC sb H0 p s m args meth c M) (hd : decode M.2.2.1 pc = .ok (.baload, 1)) (ho : o_ial X 2 L st h (pc + 1) = some (.inl (pc', L', st', h'))) (k : WA sb G tyC H0 p l e R s m args below meth c Q M.2.2.2.1 n0 pc' L' st' h') : WA sb G tyC H0 p l e R s m args below meth c Q M.2.2.2.1 n0 pc L st h := by
  obtain ⟨hx, hb, hml, hown, h5, h6, -, hK, hX⟩ := C0
  unfold o_ial at ho
  split at ho
  · rename_i j a r
    split at ho
    · rename_i t' n f hc
      split at ho
      · rename_i hcc
        obtain ⟨rfl, hin⟩ := hcc
        obtain ⟨rfl, rfl, rfl, rfl⟩ := nx_inj ho
        intro H locs ls hH hS hL hn
        have hP : va_P G cls [(H0.size + a, .inl (tyC 2, n, .inl f))] H := va_P1 (hH.2 a _ hc)
        exact va_bald (D := G) hx hb hK hP 0 2 rfl (tyV_at rfl) hin hd (k H locs ls hH hS hL hn)
      · cases ho
    · cases ho
  · rename_i j t r
    split at ho
    · rename_i n f hc
      split at ho
      · rename_i hcc
        exact absurd hcc.1 (by decide)
      · cases ho
    · cases ho
  · cases ho
theorem n_ial3 (C0 : CX X G tyC sb H0 p s m args meth c M) (hd : decode M.2.2.1 pc = .ok (.saload, 1)) (ho : o_ial X 3 L st h (pc + 1) = some (.inl (pc', L', st', h'))) (k : WA sb G tyC H0 p l e R s m args below meth c Q M.2.2.2.1 n0 pc' L' st' h') : WA sb G tyC H0 p l e R s m args below meth c Q M.2.2.2.1 n0 pc L st h := by
  obtain ⟨hx, hb, hml, hown, h5, h6, -, hK, hX⟩ := C0
  unfold o_ial at ho
  split at ho
  · rename_i j a r
    split at ho
    · rename_i t' n f hc
      split at ho
      · rename_i hcc
        obtain ⟨rfl, hin⟩ := hcc
        obtain ⟨rfl, rfl, rfl, rfl⟩ := nx_inj ho
        intro H locs ls hH hS hL hn
        have hP : va_P G cls [(H0.size + a, .inl (tyC 3, n, .inl f))] H := va_P1 (hH.2 a _ hc)
        exact va_sald (D := G) hx hb hK hP 0 3 rfl (tyV_at rfl) hin hd (k H locs ls hH hS hL hn)
      · cases ho
    · cases ho
  · rename_i j t r
    split at ho
    · rename_i n f hc
      split at ho
      · rename_i hcc
        exact absurd hcc.1 (by decide)
      · cases ho
    · cases ho
  · cases ho
theorem n_lal (C0 : CX X G tyC sb H0 p s m args meth c M) (hd : decode M.2.2.1 pc = .ok (.laload, 1)) (ho : o_lal L st h (pc + 1) = some (.inl (pc', L', st', h'))) (k : WA sb G tyC H0 p l e R s m args below meth c Q M.2.2.2.1 n0 pc' L' st' h') : WA sb G tyC H0 p l e R s m args below meth c Q M.2.2.2.1 n0 pc L st h := by
  obtain ⟨hx, hb, hml, hown, h5, h6, -, hK, hX⟩ := C0
  unfold o_lal at ho
  split at ho
  · rename_i j a r
    split at ho
    · rename_i t' n f hc
      split at ho
      · rename_i hcc
        obtain ⟨rfl, hin⟩ := hcc
        obtain ⟨rfl, rfl, rfl, rfl⟩ := nx_inj ho
        intro H locs ls hH hS hL hn
        have hP : va_P G cls [(H0.size + a, .inl (tyC 1, n, .inr (.inl f)))] H := va_P1 (hH.2 a _ hc)
        exact va_lald (D := G) hx hb hK hP 0 1 rfl (tyV_at rfl) hin hd (k H locs ls hH hS hL hn)
      · cases ho
    · cases ho
  · cases ho
theorem n_aal (C0 : CX X G tyC sb H0 p s m args meth c M) (hd : decode M.2.2.1 pc = .ok (.aaload, 1)) (ho : o_aal L st h (pc + 1) = some (.inl (pc', L', st', h'))) (k : WA sb G tyC H0 p l e R s m args below meth c Q M.2.2.2.1 n0 pc' L' st' h') : WA sb G tyC H0 p l e R s m args below meth c Q M.2.2.2.1 n0 pc L st h := by
  obtain ⟨hx, hb, hml, hown, h5, h6, -, hK, hX⟩ := C0
  unfold o_aal at ho
  split at ho
  · rename_i j a r
    split at ho
    · rename_i t' n f hc
      split at ho
      · rename_i hcc
        obtain ⟨ht, hin⟩ := hcc
        obtain ⟨rfl, rfl, rfl, rfl⟩ := nx_inj ho
        intro H locs ls hH hS hL hn
        obtain ⟨C, hC⟩ := tyL_q ht
        have hP : va_P G cls [(H0.size + a, .inl (tyC t', n, .inr (.inr (.inr (.inr fun j => (f j).map fun x => H0.size + x)))))] H := va_P1 (hH.2 a _ hc)
        have k2 := k H locs ls hH hS hL hn
        rw [List.map_cons, cv_rf] at k2
        exact va_aldq (D := G) hx hb hK hP 0 t' rfl (tyV_at hC) hin hd k2
      · cases ho
    · cases ho
  · cases ho
theorem n_ias0 (C0 : CX X G tyC sb H0 p s m args meth c M) (hd : decode M.2.2.1 pc = .ok (.iastore, 1)) (ho : o_ias 0 (fun x => x) L st h (pc + 1) = some (.inl (pc', L', st', h'))) (k : WA sb G tyC H0 p l e R s m args below meth c Q M.2.2.2.1 n0 pc' L' st' h') : WA sb G tyC H0 p l e R s m args below meth c Q M.2.2.2.1 n0 pc L st h := by
  obtain ⟨hx, hb, hml, hown, h5, h6, -, hK, hX⟩ := C0
  unfold o_ias at ho
  split at ho
  · rename_i x j a r
    split at ho
    · rename_i t' n f hc
      split at ho
      · rename_i hcc
        obtain ⟨rfl, hin⟩ := hcc
        obtain ⟨rfl, rfl, rfl, rfl⟩ := nx_inj ho
        intro H locs ls hH hS hL hn
        refine W.iast hx hb (hH.2 a _ hc) ((hK.2 0 _ (tyV_at rfl)).1 n (fun j => .int (f j))) (fun q => by cases q) (by show ¬ (j < 0 ∨ (arrV _ _ _).slots.size ≤ _); rw [arrV_size]; exact hin) rfl rfl hd fun H1 e1 z oq => ?_
        refine k H1 _ ls (HR_set hH z oq ?_) (hS.put z oq (Nat.le_add_right _ _)) hL hn
        show H1[H0.size + a]? = some (vp_cell _ _)
        rw [e1]
        show some ((arrV (tyC 0) n (fun j => .int (f j))).setSlot _ _) = some (arrV (tyC 0) n (fun j => .int (upd f _ _ j)))
        rw [arrV_store]
        congr 2
        funext q
        by_cases hq : q = j.toNatClampNeg
        · subst hq
          simp [updV, upd]
          try rfl
        · simp [updV, upd, hq]
      · cases ho
    · cases ho
  · cases ho
theorem n_ias2 (C0 : CX X G tyC sb H0 p s m args meth c M) (hd : decode M.2.2.1 pc = .ok (.bastore, 1)) (ho : o_ias 2 (fun x => x.toInt8.toInt32) L st h (pc + 1) = some (.inl (pc', L', st', h'))) (k : WA sb G tyC H0 p l e R s m args below meth c Q M.2.2.2.1 n0 pc' L' st' h') : WA sb G tyC H0 p l e R s m args below meth c Q M.2.2.2.1 n0 pc L st h := by
  obtain ⟨hx, hb, hml, hown, h5, h6, -, hK, hX⟩ := C0
  unfold o_ias at ho
  split at ho
  · rename_i x j a r
    split at ho
    · rename_i t' n f hc
      split at ho
      · rename_i hcc
        obtain ⟨rfl, hin⟩ := hcc
        obtain ⟨rfl, rfl, rfl, rfl⟩ := nx_inj ho
        intro H locs ls hH hS hL hn
        refine W.bast hx hb (hH.2 a _ hc) ((hK.2 2 _ (tyV_at rfl)).1 n (fun j => .int (f j))) (fun q => by cases q) (by show ¬ (j < 0 ∨ (arrV _ _ _).slots.size ≤ _); rw [arrV_size]; exact hin) rfl rfl hd fun H1 e1 z oq => ?_
        refine k H1 _ ls (HR_set hH z oq ?_) (hS.put z oq (Nat.le_add_right _ _)) hL hn
        show H1[H0.size + a]? = some (vp_cell _ _)
        rw [e1]
        show some ((arrV (tyC 2) n (fun j => .int (f j))).setSlot _ _) = some (arrV (tyC 2) n (fun j => .int (upd f _ _ j)))
        rw [arrV_store]
        congr 2
        funext q
        by_cases hq : q = j.toNatClampNeg
        · subst hq
          simp [updV, upd]
          try rfl
        · simp [updV, upd, hq]
      · cases ho
    · cases ho
  · cases ho
theorem n_ias3 (C0 : CX X G tyC sb H0 p s m args meth c M) (hd : decode M.2.2.1 pc = .ok (.sastore, 1)) (ho : o_ias 3 (fun x => x.toInt16.toInt32) L st h (pc + 1) = some (.inl (pc', L', st', h'))) (k : WA sb G tyC H0 p l e R s m args below meth c Q M.2.2.2.1 n0 pc' L' st' h') : WA sb G tyC H0 p l e R s m args below meth c Q M.2.2.2.1 n0 pc L st h := by
  obtain ⟨hx, hb, hml, hown, h5, h6, -, hK, hX⟩ := C0
  unfold o_ias at ho
  split at ho
  · rename_i x j a r
    split at ho
    · rename_i t' n f hc
      split at ho
      · rename_i hcc
        obtain ⟨rfl, hin⟩ := hcc
        obtain ⟨rfl, rfl, rfl, rfl⟩ := nx_inj ho
        intro H locs ls hH hS hL hn
        refine W.sast hx hb (hH.2 a _ hc) ((hK.2 3 _ (tyV_at rfl)).1 n (fun j => .int (f j))) (fun q => by cases q) (by show ¬ (j < 0 ∨ (arrV _ _ _).slots.size ≤ _); rw [arrV_size]; exact hin) rfl rfl hd fun H1 e1 z oq => ?_
        refine k H1 _ ls (HR_set hH z oq ?_) (hS.put z oq (Nat.le_add_right _ _)) hL hn
        show H1[H0.size + a]? = some (vp_cell _ _)
        rw [e1]
        show some ((arrV (tyC 3) n (fun j => .int (f j))).setSlot _ _) = some (arrV (tyC 3) n (fun j => .int (upd f _ _ j)))
        rw [arrV_store]
        congr 2
        funext q
        by_cases hq : q = j.toNatClampNeg
        · subst hq
          simp [updV, upd]
          try rfl
        · simp [updV, upd, hq]
      · cases ho
    · cases ho
  · cases ho
theorem n_las (C0 : CX X G tyC sb H0 p s m args meth c M) (hd : decode M.2.2.1 pc = .ok (.lastore, 1)) (ho : o_las L st h (pc + 1) = some (.inl (pc', L', st', h'))) (k : WA sb G tyC H0 p l e R s m args below meth c Q M.2.2.2.1 n0 pc' L' st' h') : WA sb G tyC H0 p l e R s m args below meth c Q M.2.2.2.1 n0 pc L st h := by
  obtain ⟨hx, hb, hml, hown, h5, h6, -, hK, hX⟩ := C0
  unfold o_las at ho
  split at ho
  · rename_i x j a r
    split at ho
    · rename_i t' n f hc
      split at ho
      · rename_i hcc
        obtain ⟨rfl, hin⟩ := hcc
        obtain ⟨rfl, rfl, rfl, rfl⟩ := nx_inj ho
        intro H locs ls hH hS hL hn
        refine W.last hx hb (hH.2 a _ hc) ((hK.2 1 _ (tyV_at rfl)).1 n (fun j => .long (f j))) (fun q => by cases q) (by show ¬ (j < 0 ∨ (arrV _ _ _).slots.size ≤ _); rw [arrV_size]; exact hin) rfl rfl hd fun H1 e1 z oq => ?_
        refine k H1 _ ls (HR_set hH z oq ?_) (hS.put z oq (Nat.le_add_right _ _)) hL hn
        show H1[H0.size + a]? = some (vp_cell _ _)
        rw [e1]
        show some ((arrV (tyC 1) n (fun j => .long (f j))).setSlot _ _) = some (arrV (tyC 1) n (fun j => .long (vp_updL f _ _ j)))
        rw [arrV_store]
        congr 2
        funext q
        by_cases hq : q = j.toNatClampNeg
        · subst hq
          simp [updV, vp_updL]
        · simp [updV, vp_updL, hq]
      · cases ho
    · cases ho
  · cases ho
theorem n_aas (C0 : CX X G tyC sb H0 p s m args meth c M) (hd : decode M.2.2.1 pc = .ok (.aastore, 1)) (ho : o_aas L st h (pc + 1) = some (.inl (pc', L', st', h'))) (k : WA sb G tyC H0 p l e R s m args below meth c Q M.2.2.2.1 n0 pc' L' st' h') : WA sb G tyC H0 p l e R s m args below meth c Q M.2.2.2.1 n0 pc L st h := by
  obtain ⟨hx, hb, hml, hown, h5, h6, -, hK, hX⟩ := C0
  unfold o_aas at ho
  split at ho
  · rename_i v j a r
    split at ho
    · rename_i t' n f hc
      split at ho
      · rename_i ci vs hcv
        split at ho
        · rename_i hcc
          obtain ⟨ht, ht7, hci, hin⟩ := hcc
          obtain ⟨rfl, rfl, rfl, rfl⟩ := nx_inj ho
          intro H locs ls hH hS hL hn
          have hlt : j.toNatClampNeg < n := Nat.not_le.mp fun q => hin (Or.inr q)
          have h0 : ¬ j < 0 := fun q => hin (Or.inl q)
          obtain ⟨r', hr', cellV, g1, g2, g3, -⟩ := hH.2 v _ hcv
          have ht2 : tyL[t']? = some (.object r'.1) := by rw [ht, hr']; rfl
          have hcls := (hK.1 ci r' hr').2
          obtain ⟨kA, comp, k1, k2, k3, -⟩ := (hK.2 t' _ (tyV_at ht2)).2
          have hcomp : comp = G.1 ci := Option.some.inj (k3.symm.trans hcls.1)
          subst hcomp
          obtain ⟨kC, hkC, -⟩ := hcls.2
          refine W.aast hx hb (hH.2 a _ hc) (fun q h => by cases h) (fun h => by cases h) k1 k2 rfl hkC ⟨h0, by show _ < (arrV _ _ _).slots.size; rw [arrV_size]; exact hlt⟩ g1 (fun q h => by rw [g3] at h; cases h) (by rw [g2]; exact hkC) (by rw [g2]; exact va_assign hcls) rfl rfl hd fun H1 e1 z oq => ?_
          refine k H1 _ ls (HR_set hH z oq ?_) (hS.put z oq (Nat.le_add_right _ _)) hL hn
          show H1[H0.size + a]? = some (vp_cell _ _)
          rw [e1]
          show some ((arrV (tyC t') n (fun j => va_rf ((f j).map fun x => H0.size + x))).setSlot _ _) = some (arrV (tyC t') n (fun j => va_rf ((va_up f _ _ j).map fun x => H0.size + x)))
          rw [arrV_store]
          congr 2
          funext q
          by_cases hq : q = j.toNatClampNeg
          · subst hq
            simp [updV, va_up, va_rf]
          · simp [updV, va_up, hq]
        · cases ho
      · cases ho
    · cases ho
  · cases ho
theorem n_len (C0 : CX X G tyC sb H0 p s m args meth c M) (hd : decode M.2.2.1 pc = .ok (.arraylength, 1)) (ho : o_len X L st h (pc + 1) = some (.inl (pc', L', st', h'))) (k : WA sb G tyC H0 p l e R s m args below meth c Q M.2.2.2.1 n0 pc' L' st' h') : WA sb G tyC H0 p l e R s m args below meth c Q M.2.2.2.1 n0 pc L st h := by
  obtain ⟨hx, hb, hml, hown, h5, h6, -, hK, hX⟩ := C0
  unfold o_len at ho
  split at ho
  · rename_i a r
    split at ho
    · rename_i t' n x hc
      split at ho
      · rename_i ht
        obtain ⟨rfl, rfl, rfl, rfl⟩ := nx_inj ho
        intro H locs ls hH hS hL hn
        obtain ⟨ty, hty⟩ := tyL_lt ht
        have hP : va_P G cls [(H0.size + a, .inl (tyC t', n, cA H0.size x))] H := va_P1 (hH.2 a _ hc)
        exact va_alen (D := G) hx hb hK hP 0 t' rfl (tyV_at hty) rfl hd (k H locs ls hH hS hL hn)
      · cases ho
    · cases ho
  · rename_i t r
    split at ho
    · rename_i n f hc
      obtain ⟨rfl, rfl, rfl, rfl⟩ := nx_inj ho
      intro H locs ls hH hS hL hn
      exact T_len hx hb (hX.1 _ _ hc) hS hd (k H locs ls hH hS hL hn)
    · cases ho
  · cases ho
theorem n_new (C0 : CX X G tyC sb H0 p s m args meth c M) (hd : decode M.2.2.1 pc = .ok (.new i, 3)) (ho : o_new M.1 i L st h (pc + 3) = some (.inl (pc', L', st', h'))) (hr1 : h'.1 - n0 ≤ R.cells) (hr2 : 700 * (h'.1 - n0) ≤ R.slots) (k : WA sb G tyC H0 p l e R s m args below meth c Q M.2.2.2.1 n0 pc' L' st' h') : WA sb G tyC H0 p l e R s m args below meth c Q M.2.2.2.1 n0 pc L st h := by
  obtain ⟨hx, hb, hml, hown, h5, h6, -, hK, hX⟩ := C0
  unfold o_new at ho
  split at ho
  · rename_i ci hf
    split at ho
    · rename_i hci
      obtain ⟨rfl, rfl, rfl, rfl⟩ := nx_inj ho
      intro H locs ls hH hS hL hn
      obtain ⟨C, T, N, q1, q2, q3, q4⟩ := fN_ok hf
      obtain ⟨w1, w2, w3, w4, w5, w6⟩ := cls_ok _ _ _ _ q1
      have hts : ∀ w ∈ u_ws C T N, w.before args s = true := fun w hw' => okT_use h5 h6 (w1 w hw')
      have hKn := hK.1 ci _ q1
      have hc1 : (nE h (.inr (ci, dfl ci))).1 = h.1 + 1 := rfl
      rw [hc1] at hr1 hr2
      refine W.newcK hx hb hown (okT_use h5 h6 q2) (okT_use h5 h6 q3) (okT_use h5 h6 q4) rfl hd (by omega) (by omega) hKn.2.1 rfl fun H1 kC hkC e1 z1 o1 => ?_
      refine W.widen (k := (nE h (.inr (ci, dfl ci))).1 - n0) (n := 700 * ((nE h (.inr (ci, dfl ci))).1 - n0)) (by rw [hc1]; omega) (by rw [hc1]; omega) ?_
      rw [show Value.ref H.size = cv H0.size sb (.ref h.1) by rw [hH.1]; rfl]
      refine k H1 locs ls (HR_push hH z1 o1 ?_) ⟨Nat.le_trans hS.1 (by omega), fun x h1 h2 => (o1 x (Nat.lt_of_lt_of_le h1 hS.1)).trans (hS.2.1 x h1 h2), hS.2.2⟩ hL (by rw [hc1]; omega)
      refine ⟨_, q1, (u_born (ftC ci) hts (fun w hw' => hw') hKn hkC e1 w3).to fun j hj => ?_⟩
      rw [dfl_cv _ _ _ hci]
      exact w4 j hj
    · cases ho
  · cases ho
theorem n_nwa {at' : ArrayType} (C0 : CX X G tyC sb H0 p s m args meth c M) (hd : decode M.2.2.1 pc = .ok (.newarray at', 2)) (ho : o_nwa at' L st h (pc + 2) = some (.inl (pc', L', st', h'))) (hr1 : h'.1 - n0 ≤ R.cells) (hr2 : 700 * (h'.1 - n0) ≤ R.slots) (k : WA sb G tyC H0 p l e R s m args below meth c Q M.2.2.2.1 n0 pc' L' st' h') : WA sb G tyC H0 p l e R s m args below meth c Q M.2.2.2.1 n0 pc L st h := by
  obtain ⟨hx, hb, hml, hown, h5, h6, -, hK, hX⟩ := C0
  unfold o_nwa at ho
  split at ho
  · rename_i n r
    split at ho
    · rename_i t a hf
      split at ho
      · cases ho
      · rename_i hcc
        obtain ⟨rfl, rfl, rfl, rfl⟩ := nx_inj ho
        intro H locs ls hH hS hL hn
        have hn0 : ¬ n < 0 := fun q => hcc (Or.inl q)
        have hn7 : n.toNatClampNeg ≤ 700 := Nat.not_lt.mp fun q => hcc (Or.inr q)
        have hc1 : (nE h (.inl (t, n.toNatClampNeg, a))).1 = h.1 + 1 := rfl
        rw [hc1] at hr1 hr2
        have hac : ∀ w ∈ ([.arrayClass .int, .arrayClass .long, .arrayClass .byte, .arrayClass .short] : List Cond), w.before args s = true := fun w hw => okT_use h5 h6 (ckWs_ok ac_all w hw)
        have key : ∀ (ty : FieldType), tyL[t]? = some ty → (∀ kA, vp_cell kA (n.toNatClampNeg, cA H0.size a) = arrV kA n.toNatClampNeg (fun _ => defaultValue ty)) → newarray.typeOf at' = ty → (Cond.arrayClass (newarray.typeOf at')).before args s = true → componentBytes ty ≤ 8 → ("[" ++ (newarray.typeOf at').toString) = "[" ++ ty.toString → va_RA s (tyC t) ty = (s.vm.findClass ("[" ++ ty.toString) = some (tyC t)) → W p l e R s m args below meth c H locs (h.1 - n0) (700 * (h.1 - n0)) Q (F0 m pc ls (List.map (cv H0.size sb) (.int n :: r))) := by
          intro ty hty hcell hat hac2 hcb hstr hra
          subst hat
          refine va_newaK hx hb hac2 rfl hd rfl hn0 rfl ?_ (by omega) (by omega) rfl fun H1 kA e1 z1 o1 hAr hNm => ?_
          · exact Nat.le_trans (Nat.mul_le_mul hn7 hcb) (by decide)
          · have hcA : kA = tyC t := by
              have h9 := (hK.2 t _ (tyV_at hty)).2
              rw [hra] at h9
              exact Option.some.inj (hNm.symm.trans h9)
            subst hcA
            refine W.widen (k := (nE h (.inl (t, n.toNatClampNeg, a))).1 - n0) (n := 700 * ((nE h (.inl (t, n.toNatClampNeg, a))).1 - n0)) (by rw [hc1]; omega) (by rw [hc1]; omega) ?_
            show W _ _ _ _ _ _ _ _ _ _ _ _ _ _ _ (F0 m (pc + 2) ls (Value.ref H.size :: r.map (cv H0.size sb)))
            rw [show Value.ref H.size = cv H0.size sb (.ref h.1) by rw [hH.1]; rfl]
            refine k H1 locs ls (HR_push hH z1 o1 ?_) ⟨Nat.le_trans hS.1 (by omega), fun x h1 h2 => (o1 x (Nat.lt_of_lt_of_le h1 hS.1)).trans (hS.2.1 x h1 h2), hS.2.2⟩ hL (by rw [hc1]; omega)
            show H1[H.size]? = some (vp_cell (tyC t) (n.toNatClampNeg, cA H0.size a))
            rw [hcell]
            exact e1
        unfold nwA at hf
        split at hf
        · cases hf; exact key .int rfl (fun _ => rfl) rfl (hac _ (by simp [newarray.typeOf])) (by decide) rfl rfl
        · cases hf; exact key .long rfl (fun _ => rfl) rfl (hac _ (by simp [newarray.typeOf])) (by decide) rfl rfl
        · cases hf; exact key .byte rfl (fun _ => rfl) rfl (hac _ (by simp [newarray.typeOf])) (by decide) rfl rfl
        · cases hf; exact key .short rfl (fun _ => rfl) rfl (hac _ (by simp [newarray.typeOf])) (by decide) rfl rfl
        · cases hf
    · cases ho
  · cases ho
theorem n_anw (C0 : CX X G tyC sb H0 p s m args meth c M) (hd : decode M.2.2.1 pc = .ok (.anewarray i, 3)) (ho : o_anw M.1 i L st h (pc + 3) = some (.inl (pc', L', st', h'))) (hr1 : h'.1 - n0 ≤ R.cells) (hr2 : 700 * (h'.1 - n0) ≤ R.slots) (k : WA sb G tyC H0 p l e R s m args below meth c Q M.2.2.2.1 n0 pc' L' st' h') : WA sb G tyC H0 p l e R s m args below meth c Q M.2.2.2.1 n0 pc L st h := by
  obtain ⟨hx, hb, hml, hown, h5, h6, -, hK, hX⟩ := C0
  unfold o_anw at ho
  split at ho
  · rename_i n r
    split at ho
    · rename_i t hf
      split at ho
      · cases ho
      · rename_i hcc
        obtain ⟨rfl, rfl, rfl, rfl⟩ := nx_inj ho
        intro H locs ls hH hS hL hn
        have hn0 : ¬ n < 0 := fun q => hcc (Or.inl q)
        have hn7 : n.toNatClampNeg ≤ 700 := Nat.not_lt.mp fun q => hcc (Or.inr (Or.inl q))
        obtain ⟨C, hC, w1, w2⟩ := fA_ok hf
        generalize he : (.inl (t, n.toNatClampNeg, .inr (.inr (.inr (.inr fun _ => none)))) : va_E) = e0 at k hr1 hr2
        have hc1 : (nE h e0).1 = h.1 + 1 := rfl
        rw [hc1] at hr1 hr2
        refine W.anew hx hb hown (okT_use h5 h6 w1) (okT_use h5 h6 w2) rfl hd rfl hn0 (by omega) (by omega) (by omega) fun cA kA comp f1 f2 f3 f4 => ?_
        have hcA : cA = tyC t := by
          obtain ⟨_, _, _, _, _, h9⟩ := (hK.2 t _ (tyV_at hC)).2
          exact Option.some.inj (f1.symm.trans h9)
        subst hcA
        generalize hH1 : H.push ({ cls := tyC t, slots := Array.replicate n.toNatClampNeg .null, vm := .none } : Cell) = H1
        have z1 : H1.size = H.size + 1 := by rw [← hH1, Array.size_push]
        have e1 : H1[H.size]? = some (arrV (tyC t) n.toNatClampNeg (fun _ => .null)) := by rw [← hH1, Array.getElem?_push_size, ← arrV_new]
        have o1 : ∀ q : Nat, q < H.size → H1[q]? = H[q]? := fun q hq => by rw [← hH1, Array.getElem?_push, if_neg (Nat.ne_of_lt hq)]
        refine W.widen (k := (nE h e0).1 - n0) (n := 700 * ((nE h e0).1 - n0)) (by rw [hc1]; omega) (by rw [hc1]; omega) ?_
        show W _ _ _ _ _ _ _ _ _ _ _ _ _ _ _ (F0 m (pc + 3) ls (Value.ref H.size :: r.map (cv H0.size sb)))
        rw [show Value.ref H.size = cv H0.size sb (.ref h.1) by rw [hH.1]; rfl]
        refine k H1 locs ls (HR_push hH z1 o1 ?_) ⟨Nat.le_trans hS.1 (by omega), fun x h1 h2 => (o1 x (Nat.lt_of_lt_of_le h1 hS.1)).trans (hS.2.1 x h1 h2), hS.2.2⟩ hL (by rw [hc1]; omega)
        subst he
        exact e1
    · cases ho
  · cases ho
theorem n_obj (C0 : CX X G tyC sb H0 p s m args meth c M) {d a : Nat} {ci n : Nat} {M' : MI} {rest : List Value} (hd : decode M.2.2.1 pc = .ok (.invokespecial i, 3)) (hq : fC M.1 i = some (3, ci, n, M')) (hdp : 0 < d) (hfr : d ≤ R.frames) (hlo : 64 * d ≤ R.locals) (hr : (rest.map fun v => v.category).sum ≤ 8) (k : WA sb G tyC H0 p l e R s m args below meth c Q M.2.2.2.1 n0 (pc + 3) L rest h) : WA sb G tyC H0 p l e R s m args below meth c Q M.2.2.2.1 n0 pc L (.ref a :: rest) h := by
  obtain ⟨hx, hb, hml, hown, h5, h6, -, hK, hX⟩ := C0
  intro H locs ls hH hS hL hn
  have hw : ∀ w ∈ callWs M.1 i (3, ci, n, M'), w.before args s = true := fun w hw' => okT_use h5 h6 ((fC_ok hq).1 w hw')
  refine W.objInit hx hb hown (hw _ (by simp [callWs])) (hw _ (by simp [callWs])) (hw _ (by simp [callWs])) rfl (by rw [hml]; exact hL.1) rfl hd (by omega) ?_ (k H locs ls hH hS hL hn)
  rw [cv_cats]
  show 2 * 0 + _ + 12 ≤ _
  omega
theorem n_math {d : Nat} {rest st0 : List Value} {v : Value} (row : ∀ (H : Heap) (locs : List Loc) (ls : Array Slot), ls.size = M.2.2.2.1 → n0 ≤ h.1 → W p l e R s m args below meth c H locs (h.1 - n0) (700 * (h.1 - n0)) Q (F0 m (pc + 3) ls (cv H0.size sb v :: rest.map (cv H0.size sb))) → W p l e R s m args below meth c H locs (h.1 - n0) (700 * (h.1 - n0)) Q (F0 m pc ls (st0.map (cv H0.size sb)))) (ho : o_math d pc L rest h v = some (.inl (pc', L', st', h'))) (k : WA sb G tyC H0 p l e R s m args below meth c Q M.2.2.2.1 n0 pc' L' st' h') : WA sb G tyC H0 p l e R s m args below meth c Q M.2.2.2.1 n0 pc L st0 h := by
  unfold o_math at ho
  split at ho
  · obtain ⟨rfl, rfl, rfl, rfl⟩ := nx_inj ho
    intro H locs ls hH hS hL hn
    exact row _ _ _ hL.1 hn (k H locs ls hH hS hL hn)
  · cases ho
theorem n_cp {ci n d : Nat} {M1 : MI} (C0 : CX X G tyC sb H0 p s m args meth c M) (hd : decode M.2.2.1 pc = .ok (.invokestatic i, 3)) (hf : fC M.1 i = some (10, ci, n, M1)) (hfr : d ≤ R.frames) (hlo : 64 * d ≤ R.locals) (ho : o_cp d pc L st h = some (.inl (pc', L', st', h'))) (k : WA sb G tyC H0 p l e R s m args below meth c Q M.2.2.2.1 n0 pc' L' st' h') : WA sb G tyC H0 p l e R s m args below meth c Q M.2.2.2.1 n0 pc L st h := by
  obtain ⟨hx, hb, hml, hown, h5, h6, -, hK, hX⟩ := C0
  have hw : ∀ w ∈ callWs M.1 i (10, ci, n, M1), w.before args s = true := fun w hw' => okT_use h5 h6 ((fC_ok hf).1 w hw')
  have hnw : nativeFrameWords "java/lang/System" "arraycopy" 5 + 11 ≤ 56 := by decide +kernel
  unfold o_cp at ho
  split at ho
  · rename_i nn j b j2 a rest
    split at ho
    · rename_i na f nb g hca hcb
      split at ho
      · rename_i hcc
        obtain ⟨c1, c2, c3, c4, c5, c6, c7⟩ := hcc
        obtain ⟨rfl, rfl, rfl, rfl⟩ := nx_inj ho
        intro H locs ls hH hS hL hn
        refine W_cp (wr := Value.int) (t := 0) (ty := .int) hx hb (hml.trans hL.1.symm) hown (hw _ (by simp [callWs])) (hw _ (by simp [callWs])) (hw _ (by simp [callWs])) (hw _ (by simp [callWs])) hK rfl rfl (hH.2 a _ hca) (hH.2 b _ hcb) (fun _ => rfl) (fun _ => trivial) c3 c4 c5 c6 c7 (by omega) (by rw [cv_cats]; omega) hd fun H1 locs1 e1 z oq lq => ?_
        refine k H1 locs1 ls (HR_set hH z oq e1) ⟨by rw [z]; exact hS.1, fun q q1 q2 => (oq q (by omega)).trans (hS.2.1 q q1 q2), fun q hq => ?_⟩ hL hn
        rcases lq q hq with h1 | h1
        · exact hS.2.2 q h1
        · rw [h1]; exact Nat.le_add_right _ _
      · cases ho
    · rename_i na f nb g hca hcb
      split at ho
      · rename_i hcc
        obtain ⟨c1, c2, c3, c4, c5, c6, c7⟩ := hcc
        obtain ⟨rfl, rfl, rfl, rfl⟩ := nx_inj ho
        intro H locs ls hH hS hL hn
        refine W_cp (wr := Value.long) (t := 1) (ty := .long) hx hb (hml.trans hL.1.symm) hown (hw _ (by simp [callWs])) (hw _ (by simp [callWs])) (hw _ (by simp [callWs])) (hw _ (by simp [callWs])) hK rfl rfl (hH.2 a _ hca) (hH.2 b _ hcb) (fun _ => rfl) (fun _ => trivial) c3 c4 c5 c6 c7 (by omega) (by rw [cv_cats]; omega) hd fun H1 locs1 e1 z oq lq => ?_
        refine k H1 locs1 ls (HR_set hH z oq e1) ⟨by rw [z]; exact hS.1, fun q q1 q2 => (oq q (by omega)).trans (hS.2.1 q q1 q2), fun q hq => ?_⟩ hL hn
        rcases lq q hq with h1 | h1
        · exact hS.2.2 q h1
        · rw [h1]; exact Nat.le_add_right _ _
      · cases ho
    · cases ho
  · cases ho
end HPS
end
section
def WT : List Cond := lw_tbl.filter goodWord
def PcM (X : Tok) (G : va_G) (tyC : Nat → ClassId) (sb : UInt32 → Addr) (H0 : Heap) (av : List Value) (h : Hp) : Array Value → State → Prop := va_Pc (av.map (cv H0.size sb)) fun U => HR G tyC sb H0.size h U.heap ∧ va_S (fun q : Nat => H0.size ≤ q) H0 U.heap [] ∧ va_K G cls (tyV tyC) U ∧ (∀ w ∈ lw_tbl, nestW w = true → va_Nw w U) ∧ XT X sb H0 U
def QcM (G : va_G) (tyC : Nat → ClassId) (sb : UInt32 → Addr) (H0 : Heap) (v : Option Value) (h : Hp) : Array Value → State → Outcome → State → Prop := fun _ _ oc t => oc = .returned (v.map (cv H0.size sb)) ∧ HR G tyC sb H0.size h t.heap ∧ va_S (fun q : Nat => H0.size ≤ q) H0 t.heap []
theorem nest_warm {w : Cond} (hw : nestW w = true) {s U : State} (hW : s.WarmedH U.vm) (h : va_Nw w s) : va_Nw w U := by
  unfold nestW at hw
  split at hw
  · exact va_Nw.warmF hW h
  · exact va_Nw.warmM hW h
  · exact va_AO.moved hW.alike h
  · cases hw
theorem nest_same {w : Cond} (hw : nestW w = true) {s U : State} (hv : s.vm = U.vm) (h : va_Nw w s) : va_Nw w U := by
  unfold nestW at hw
  split at hw
  · exact va_Nw.same rfl hv h
  · exact va_Nw.same rfl hv h
  · exact va_AO.moved (by rw [hv]; exact Vm.Alike.refl _) h
  · cases hw
theorem PcM_blind {X : Tok} {G : va_G} {tyC : Nat → ClassId} {sb : UInt32 → Addr} {H0 : Heap} {av : List Value} {h : Hp} : FrameBlind (PcM X G tyC sb H0 av h) := by
  intro a U g mk q
  obtain ⟨q0, q1, q2, q3, q4, q5⟩ := q
  exact ⟨q0, q1, q2, va_K.moved (u := U) (U := U.calling g mk a) (Vm.Alike.refl U.vm) q3, fun w hw hn => nest_same (s := U) (U := U.calling g mk a) hn rfl (q4 w hw hn), XT_moved (u := U) (U := U.calling g mk a) (Vm.Alike.refl U.vm) q5⟩
theorem call_inl {M : MI} {av rest : List Value} {q : Nat × List Value × List Value × Hp} (h : o_call M av rest = some (.inl q)) : False := by
  unfold o_call at h
  split at h <;> cases h
theorem call_inr {M M' : MI} {av av' rest rest' : List Value} (h : o_call M av rest = some (.inr (.inl (M', av', rest')))) : M = M' ∧ av = av' ∧ rest = rest' ∧ (exL av).length ≤ M.2.2.2.1 ∧ M.2.2.2.1 ≤ 45 ∧ (rest.map fun v => v.category).sum ≤ 8 := by
  unfold o_call at h
  split at h
  · rename_i hc
    cases h
    exact ⟨rfl, rfl, rfl, hc⟩
  · cases h
theorem call_ret {M : MI} {av rest : List Value} {v : Option Value} (h : o_call M av rest = some (.inr (.inr v))) : False := by
  unfold o_call at h
  split at h <;> cases h
theorem jp_inr {pc : Nat} {off : Int} {L st : List Value} {h : Hp} {v : (MI × List Value × List Value) ⊕ Option Value} (ho : o_jp pc off L st h = some (.inr v)) : False := by
  obtain ⟨_, _, hh⟩ := jp_inj ho
  cases hh
theorem cp_inr {d pc : Nat} {L st : List Value} {h : Hp} {v : (MI × List Value × List Value) ⊕ Option Value} (ho : o_cp d pc L st h = some (.inr v)) : False := by
  unfold o_cp at ho
  repeat' split at ho
  all_goals (cases ho; done)
theorem math_inr {d pc : Nat} {L rest : List Value} {h : Hp} {w : Value} {v : (MI × List Value × List Value) ⊕ Option Value} (ho : o_math d pc L rest h w = some (.inr v)) : False := by
  unfold o_math at ho
  split at ho
  · cases ho
  · cases ho
theorem psh_map (N : Nat) (sb : UInt32 → Addr) (v : Option Value) (rest : List Value) : (v.map (cv N sb)).toList ++ rest.map (cv N sb) = (psh v rest).map (cv N sb) := by
  cases v <;> rfl
theorem stp_inv {X : Tok} {d : Nat} {M : MI} {pc : Nat} {L st : List Value} {h : Hp} {o : Out} (hs : stp X d M pc L st h = some o) : ∃ ins len, decode M.2.2.1 pc = .ok (ins, len) ∧ ex X d M pc ins len L st h = some o := by
  unfold stp at hs
  split at hs
  · rename_i ins len hd
    exact ⟨ins, len, hd, hs⟩
  · cases hs
section WLK
variable {X : Tok} {G : va_G} {tyC : Nat → ClassId} {sb : UInt32 → Addr} {H0 : Heap} {p : Program} {l : Launch} {e : Env} {R : Room} {s : State} {m : MethodId} {args : Array Value} {below : List Frame} {meth : Method} {c : Code} {Q : State → Prop} {M : MI} {n0 : Nat}
variable {pc pc' i len d : Nat} {L st L' st' : List Value} {h h' : Hp}
theorem PcM_of (C0 : CX X G tyC sb H0 p s m args meth c M) {H : Heap} {locs : List Loc} (hH : HR G tyC sb H0.size h H) (hS : va_S (fun q : Nat => H0.size ≤ q) H0 H locs) {av : List Value} : ∀ U : State, U.heap = H → s.WarmedH U.vm → PcM X G tyC sb H0 av h (av.map (cv H0.size sb)).toArray U := by
  intro U hU hW
  obtain ⟨hx, hb, hml, hown, h5, h6, -, hK, hX⟩ := C0
  exact ⟨rfl, by rw [hU]; exact hH, by rw [hU]; exact ⟨hS.1, hS.2.1, fun _ z => by cases z⟩, va_K.moved hW.alike hK, fun w hw hn => nest_warm hn hW (h6 w hw hn), XT_moved hW.alike hX⟩
theorem n_use {H : Heap} {locs : List Loc} {ls : Array Slot} {st0 : List Value} {a : Array Value} {rest : List Value} {v : Option Value} (hr : va_Run p l e R s m args below meth c H locs (h.1 - n0) (700 * (h.1 - n0)) (h'.1 - h.1) (700 * (h'.1 - h.1)) (F0 m pc ls st0) (rest.map (cv H0.size sb)) (QcM G tyC sb H0 v h' a) (fun q => H0.size ≤ q)) (hg : h.1 ≤ h'.1) (hS : va_S (fun q : Nat => H0.size ≤ q) H0 H locs) (hL : LR H0.size sb M.2.2.2.1 ls L) (hn : n0 ≤ h.1) (k : WA sb G tyC H0 p l e R s m args below meth c Q M.2.2.2.1 n0 (pc + 3) L (psh v rest) h') : W p l e R s m args below meth c H locs (h.1 - n0) (700 * (h.1 - n0)) Q (F0 m pc ls st0) := by
  intro T hT X'
  obtain ⟨v', st₀, t, T', L2, h0, X2, hL2, e1, e2, ⟨hv, hH', hS'⟩, stp'⟩ := hr T hT X'
  cases hv
  have k2 := k T'.heap (locs ++ L2) ls (by rw [e1]; exact hH') ⟨by rw [e1]; exact hS'.1, fun q h1 h2 => by rw [e1]; exact hS'.2.1 q h1 h2, fun q hq => by
    rcases List.mem_append.mp hq with z | z
    · exact hS.2.2 q z
    · exact hL2 q z⟩ hL (Nat.le_trans hn hg)
  rw [show h'.1 - n0 = (h.1 - n0) + (h'.1 - h.1) by omega, show 700 * (h.1 - n0 + (h'.1 - h.1)) = 700 * (h.1 - n0) + 700 * (h'.1 - h.1) by omega] at k2
  obtain ⟨t2, a1, b1⟩ := k2 T' rfl X2
  refine ⟨t2, stp' t2 ?_, b1⟩
  rw [psh_map]
  exact a1
theorem cb_of (C0 : CX X G tyC sb H0 p s m args meth c M) {M' : MI} {mc ms d' n : Nat} (hM : okMI M') (hcw : codeW M' ∈ lw_tbl) (hini : (Cond.initialized M'.2.1.cls).before args s = true) (hn : (parseMethodDescriptor M'.2.1.desc).map (fun d => d.parameters.length) = some n) (hl : (Cond.methodLink (oN M.1) i M'.2.1).before args s = true) (hfr : d' + 1 ≤ R.frames) (hlo : 64 * (d' + 1) ≤ R.locals) (h45 : M'.2.2.2.1 ≤ 45) :
    CallB R s args (oN M.1) i M'.2.1 M'.2.2.1 M'.2.2.2.1 M'.2.2.2.2 (codeW M' :: WT) { frames := d', cells := mc, slots := ms, locals := 64 * d' } mc ms n := by
  obtain ⟨hx, hb, hml, hown, h5, h6, -⟩ := C0
  have hgw : goodWord (codeW M') = true := rfl
  refine ⟨rfl, rfl, hfr, by show 8 + (M'.2.2.2.1 + 11) + 64 * d' ≤ R.locals; omega, fun w hw a' U hW => ?_, List.mem_cons_self, h5 _ hcw hgw, hini, ⟨hM.2.1, hM.2.2.1⟩, fun sig hs => ?_, hl⟩
  · rcases List.mem_cons.mp hw with rfl | hw
    · exact word_at hW (good_of_word hgw) (h5 _ hcw hgw)
    · obtain ⟨w1, w2⟩ := List.mem_filter.mp hw
      exact word_at hW (good_of_word w2) (h5 _ w1 w2)
  · rw [hs] at hn
    exact (Option.some.inj hn).symm
theorem cn_of (C0 : CX X G tyC sb H0 p s m args meth c M) {M' : MI} {mc ms d' n : Nat} (hM : okMI M') (hcw : codeW M' ∈ lw_tbl) (hini : (Cond.initialized M'.2.1.cls).before args s = true) (hn : (parseMethodDescriptor M'.2.1.desc).map (fun d => d.parameters.length) = some n) (hl : (Cond.methodLinkNest (oN M.1) i M'.2.1 "TurnsOneWay").before args s = true) (hfr : d' + 1 ≤ R.frames) (hlo : 64 * (d' + 1) ≤ R.locals) (h45 : M'.2.2.2.1 ≤ 45) :
    va_CN R s args (oN M.1) i M'.2.1 "TurnsOneWay" M'.2.2.1 M'.2.2.2.1 M'.2.2.2.2 (codeW M' :: WT) { frames := d', cells := mc, slots := ms, locals := 64 * d' } mc ms n := by
  obtain ⟨hx, hb, hml, hown, h5, h6, -⟩ := C0
  have hgw : goodWord (codeW M') = true := rfl
  refine ⟨⟨rfl, rfl, hfr, by show 8 + (M'.2.2.2.1 + 11) + 64 * d' ≤ R.locals; omega, fun w hw a' U hW => ?_, List.mem_cons_self⟩, h5 _ hcw hgw, hini, ⟨hM.2.1, hM.2.2.1⟩, fun sig hs => ?_, hl⟩
  · rcases List.mem_cons.mp hw with rfl | hw
    · exact word_at hW (good_of_word hgw) (h5 _ hcw hgw)
    · obtain ⟨w1, w2⟩ := List.mem_filter.mp hw
      exact word_at hW (good_of_word w2) (h5 _ w1 w2)
  · rw [hs] at hn
    exact (Option.some.inj hn).symm
theorem stk_eq {N : Nat} {sb : UInt32 → Addr} {st rest : List Value} {n : Nat} {a : Nat} (h : st.drop n = .ref a :: rest) : st.map (cv N sb) = ((st.take n).reverse.map (cv N sb)).reverse ++ Value.ref (N + a) :: rest.map (cv N sb) := by
  conv => lhs; rw [← List.take_append_drop n st, h]
  rw [List.map_append, List.map_reverse, List.reverse_reverse]
  rfl
theorem stk_eqS {N : Nat} {sb : UInt32 → Addr} {st : List Value} {n : Nat} : st.map (cv N sb) = ((st.take n).reverse.map (cv N sb)).reverse ++ (st.drop n).map (cv N sb) := by
  conv => lhs; rw [← List.take_append_drop n st]
  rw [List.map_append, List.map_reverse, List.reverse_reverse]
/-- a call -/
theorem snd_call (C0 : CX X G tyC sb H0 p s m args meth c M) {M' : MI} {av rest : List Value} {d' : Nat} {v : Option Value} (hs : stp X (d' + 1) M pc L st h = some (.inr (.inl (M', av, rest)))) (hfr : d' + 1 ≤ R.frames) (hlo : 64 * (d' + 1) ≤ R.locals) (hc1 : h'.1 - n0 ≤ R.cells) (hc2 : 700 * (h'.1 - n0) ≤ R.slots) (hg : h.1 ≤ h'.1)
    (hMet : okMI M' → (exL av).length ≤ M'.2.2.2.1 → Met l M'.2.1 (codeW M' :: WT) { frames := d', cells := h'.1 - h.1, slots := 700 * (h'.1 - h.1), locals := 64 * d' } (PcM X G tyC sb H0 av h) (QcM G tyC sb H0 v h') (h'.1 - h.1) (700 * (h'.1 - h.1)) (fun q => H0.size ≤ q))
    (k : WA sb G tyC H0 p l e R s m args below meth c Q M.2.2.2.1 n0 (pc + 3) L (psh v rest) h') : WA sb G tyC H0 p l e R s m args below meth c Q M.2.2.2.1 n0 pc L st h := by
  obtain ⟨hx, hb, hml, hown, h5, h6, hini, hK, hX⟩ := id C0
  have S : CallFix p m c M.2.2.1 M.2.2.2.1 s args [] (oN M.1) := ⟨hx, hb, hml, hown, fun _ z => by cases z⟩
  replace hs := stp_inv hs
  obtain ⟨ins, len, hd, hs⟩ := hs
  cases ins
  case invokevirtual ix =>
    obtain ⟨rfl, ho⟩ := g1_inj hs
    unfold o_iv at ho
    split at ho
    · rename_i ci n M1 hf
      split at ho
      · rename_i a rest1 hst
        split at ho
        · rename_i c' fs hcell
          split at ho
          · rename_i hcc
            obtain ⟨rfl, hlen⟩ := hcc
            obtain ⟨rfl, rfl, rfl, q1, q2, q3⟩ := call_inr ho
            obtain ⟨hw, hq, hcw⟩ := fC_ok hf
            rcases hq with hq | ⟨hM, hn, hcl, -⟩
            · simp at hq
            have hw2 : ∀ w ∈ callWs M.1 ix (0, c', n, M1), w.before args s = true := fun w z => okT_use h5 h6 (hw w z)
            intro H locs ls hH hS hL hn0
            refine n_use (M := M) (L := L) (rest := rest1) (v := v) (a := ((Value.ref a :: (st.take n).reverse).map (cv H0.size sb)).toArray) ?_ hg hS hL hn0 k
            obtain ⟨r', hr', cellV, g1', g2, g3, -⟩ := hH.2 a _ hcell
            refine va_runV (C := M1.2.1.cls) (b := H0.size + a) (As := (st.take n).reverse.map (cv H0.size sb)) (n := n) S (hMet hM q1) ⟨cb_of C0 hM hcw (hw2 _ (by simp [callWs])) hn (hw2 _ (by simp [callWs])) hfr hlo q2, hw2 _ (by simp [callWs]), hw2 _ (by simp [callWs])⟩ ⟨PcM_blind, ⟨cellV, g1', by rw [g3]; rfl, ?_⟩, PcM_of (av := Value.ref a :: (st.take n).reverse) C0 hH hS⟩ rfl (by rw [List.length_map, List.length_reverse]; exact hlen) hL.1 (stk_eq hst) (lv_room (rest := []) (pc := 0) (m := m) (ls := ls) (by rw [cv_cats]; exact q3)) hd ⟨by omega, by omega⟩
            have h1 := hcl (Or.inl rfl)
            have h2 : cls[c']? = some r' := hr'
            simp only [h2, Option.map_some, Option.some.injEq] at h1
            rw [← h1, g2]
            exact (hK.1 c' r' h2).2.1
          · cases ho
        · cases ho
      · cases ho
    · cases ho
  case invokestatic ix =>
    obtain ⟨rfl, ho⟩ := g1_inj hs
    unfold o_is1 at ho
    split at ho
    · rename_i ci n M1 hf
      split at ho
      · rename_i hlen
        obtain ⟨rfl, rfl, rfl, q1, q2, q3⟩ := call_inr ho
        obtain ⟨hw, hq, hcw⟩ := fC_ok hf
        rcases hq with hq | ⟨hM, hn, hcl, -⟩
        · simp at hq
        have hw2 : ∀ w ∈ callWs M.1 ix (1, ci, n, M1), w.before args s = true := fun w z => okT_use h5 h6 (hw w z)
        intro H locs ls hH hS hL hn0
        refine n_use (M := M) (L := L) (rest := st.drop n) (v := v) (a := ((st.take n).reverse.map (cv H0.size sb)).toArray) ?_ hg hS hL hn0 k
        exact va_runS (As := (st.take n).reverse.map (cv H0.size sb)) (n := n) S (hMet hM q1) ⟨cb_of C0 hM hcw (hw2 _ (by simp [callWs])) hn (hw2 _ (by simp [callWs])) hfr hlo q2, hw2 _ (by simp [callWs])⟩ ⟨PcM_blind, PcM_of C0 hH hS⟩ rfl (by rw [List.length_map, List.length_reverse]; exact hlen) hL.1 stk_eqS (lv_room (rest := []) (pc := 0) (m := m) (ls := ls) (by rw [cv_cats]; exact q3)) hd ⟨by omega, by omega⟩
      · cases ho
    · rename_i ci n M1 hf
      split at ho
      · rename_i hlen
        obtain ⟨rfl, rfl, rfl, q1, q2, q3⟩ := call_inr ho
        obtain ⟨hw, hq, hcw⟩ := fC_ok hf
        rcases hq with hq | ⟨hM, hn, hcl, -⟩
        · simp at hq
        have hw2 : ∀ w ∈ callWs M.1 ix (4, ci, n, M1), w.before args s = true := fun w z => okT_use h5 h6 (hw w z)
        intro H locs ls hH hS hL hn0
        refine n_use (M := M) (L := L) (rest := st.drop n) (v := v) (a := ((st.take n).reverse.map (cv H0.size sb)).toArray) ?_ hg hS hL hn0 k
        exact va_runSN (As := (st.take n).reverse.map (cv H0.size sb)) (n := n) S (hMet hM q1) ⟨cn_of C0 hM hcw (hw2 _ (by simp [callWs])) hn (hw2 _ (by simp [callWs])) hfr hlo q2, hw2 _ (by simp [callWs]), trivial⟩ ⟨PcM_blind, PcM_of C0 hH hS⟩ rfl (by rw [List.length_map, List.length_reverse]; exact hlen) hL.1 stk_eqS (lv_room (rest := []) (pc := 0) (m := m) (ls := ls) (by rw [cv_cats]; exact q3)) hd ⟨by omega, by omega⟩
      · cases ho
    all_goals first
      | (cases ho; done)
      | exact (cp_inr ho).elim
      | (split at ho
         · exact (math_inr ho).elim
         · cases ho)
  case invokespecial ix =>
    obtain ⟨rfl, ho⟩ := g1_inj hs
    unfold o_ip at ho
    split at ho
    · rename_i ci n M1 hf
      split at ho
      · rename_i a rest1 hst
        split at ho
        · rename_i hlen
          obtain ⟨rfl, rfl, rfl, q1, q2, q3⟩ := call_inr ho
          obtain ⟨hw, hq, hcw⟩ := fC_ok hf
          rcases hq with hq | ⟨hM, hn, hcl, hin⟩
          · simp at hq
          have hin2 := hin (Or.inl rfl)
          simp only at hin2
          have hw2 : ∀ w ∈ callWs M.1 ix (2, ci, n, M1), w.before args s = true := fun w z => okT_use h5 h6 (hw w z)
          intro H locs ls hH hS hL hn0
          refine n_use (M := M) (L := L) (rest := rest1) (v := v) (a := ((Value.ref a :: (st.take n).reverse).map (cv H0.size sb)).toArray) ?_ hg hS hL hn0 k
          have hcb := cb_of (mc := h'.1 - h.1) (ms := 700 * (h'.1 - h.1)) (i := ix) C0 hM hcw (hw2 _ (by simp [callWs])) hn (hw2 _ (by simp [callWs])) hfr hlo q2
          rw [hin2.2] at hcb
          exact va_runI (b := H0.size + a) (As := (st.take n).reverse.map (cv H0.size sb)) (n := n) S (hMet hM q1) ⟨hcb, hin2.1, hw2 _ (by simp [callWs])⟩ ⟨PcM_blind, PcM_of (av := Value.ref a :: (st.take n).reverse) C0 hH hS⟩ rfl (by rw [List.length_map, List.length_reverse]; exact hlen) hL.1 (stk_eq hst) (lv_room (rest := []) (pc := 0) (m := m) (ls := ls) (by rw [cv_cats]; exact q3)) hd ⟨by omega, by omega⟩
        · cases ho
      · cases ho
    · rename_i ci n M1 hf
      split at ho
      · rename_i a rest1 hst
        split at ho
        · rename_i hlen
          obtain ⟨rfl, rfl, rfl, q1, q2, q3⟩ := call_inr ho
          obtain ⟨hw, hq, hcw⟩ := fC_ok hf
          rcases hq with hq | ⟨hM, hn, hcl, hin⟩
          · simp at hq
          have hin2 := hin (Or.inr rfl)
          simp only at hin2
          have hw2 : ∀ w ∈ callWs M.1 ix (5, ci, n, M1), w.before args s = true := fun w z => okT_use h5 h6 (hw w z)
          intro H locs ls hH hS hL hn0
          refine n_use (M := M) (L := L) (rest := rest1) (v := v) (a := ((Value.ref a :: (st.take n).reverse).map (cv H0.size sb)).toArray) ?_ hg hS hL hn0 k
          have hcb := cn_of (mc := h'.1 - h.1) (ms := 700 * (h'.1 - h.1)) (i := ix) C0 hM hcw (hw2 _ (by simp [callWs])) hn (hw2 _ (by simp [callWs])) hfr hlo q2
          rw [hin2.2] at hcb
          exact va_runIN (b := H0.size + a) (As := (st.take n).reverse.map (cv H0.size sb)) (n := n) S (hMet hM q1) ⟨hcb, hin2.1, hw2 _ (by simp [callWs])⟩ ⟨PcM_blind, PcM_of (av := Value.ref a :: (st.take n).reverse) C0 hH hS⟩ rfl (by rw [List.length_map, List.length_reverse]; exact hlen) hL.1 (stk_eq hst) (lv_room (rest := []) (pc := 0) (m := m) (ls := ls) (by rw [cv_cats]; exact q3)) hd ⟨by omega, by omega⟩
        · cases ho
      · cases ho
    · split at ho
      · split at ho
        · cases ho
        · cases ho
      · cases ho
    · cases ho
  all_goals exfalso
  all_goals first
    | (obtain ⟨_, hq⟩ := kn_ex rfl hs; cases hq; done)
    | (obtain ⟨_, hq⟩ := kr_ex rfl hs; cases hq; done)
/-- a step that is no call and no end -/
theorem snd_next (C0 : CX X G tyC sb H0 p s m args meth c M) (hs : stp X d M pc L st h = some (.inl (pc', L', st', h'))) (hfr : d ≤ R.frames) (hlo : 64 * d ≤ R.locals) (hc1 : h'.1 - n0 ≤ R.cells) (hc2 : 700 * (h'.1 - n0) ≤ R.slots) (k : WA sb G tyC H0 p l e R s m args below meth c Q M.2.2.2.1 n0 pc' L' st' h') : WA sb G tyC H0 p l e R s m args below meth c Q M.2.2.2.1 n0 pc L st h := by
  obtain ⟨hx, hb, hml, hown, h5, h6, hini, hK, hX⟩ := id C0
  replace hs := stp_inv hs
  obtain ⟨ins, len, hd, hs⟩ := hs
  cases ins
  case iload_n kq =>
    obtain ⟨rfl, ho⟩ := g1_inj hs
    exact n_il (fun x H locs ls cells slots rest hl kk => lv_iload_n hx hb hd rfl hl kk) ho k
  case iload iq =>
    obtain ⟨rfl, ho⟩ := g1_inj hs
    exact n_il (fun x H locs ls cells slots rest hl kk => lv_iload hx hb hd hl kk) ho k
  case lload_n kq =>
    obtain ⟨rfl, ho⟩ := g1_inj hs
    exact n_ll (fun x H locs ls cells slots rest hl kk => lv_lload_n hx hb hd rfl hl kk) ho k
  case lload iq =>
    obtain ⟨rfl, ho⟩ := g1_inj hs
    exact n_ll (fun x H locs ls cells slots rest hl kk => lv_lload hx hb hd hl kk) ho k
  case aload_n kq =>
    obtain ⟨rfl, ho⟩ := g1_inj hs
    exact n_al (fun x H locs ls cells slots rest hl kk => lv_aload_n hx hb hd rfl hl kk) (fun H locs ls cells slots rest hl kk => lv_aload_nN hx hb hd rfl hl kk) ho k
  case aload iq =>
    obtain ⟨rfl, ho⟩ := g1_inj hs
    exact n_al (fun x H locs ls cells slots rest hl kk => lv_aload hx hb hd hl kk) (fun H locs ls cells slots rest hl kk => lv_aloadN hx hb hd hl kk) ho k
  case istore_n kq =>
    obtain ⟨rfl, ho⟩ := g1_inj hs
    exact n_is (fun x H locs ls cells slots rest lv lv' hl hi he kk => lv_istore_n hx hb hd rfl hl hi he kk) ho k
  case istore iq =>
    obtain ⟨rfl, ho⟩ := g1_inj hs
    exact n_is (fun x H locs ls cells slots rest lv lv' hl hi he kk => lv_istore hx hb hd hl hi he kk) ho k
  case lstore_n kq =>
    obtain ⟨rfl, ho⟩ := g1_inj hs
    exact n_ls (fun x H locs ls cells slots rest lv lv' hl hi he kk => lv_lstore_n hx hb hd rfl hl hi he kk) ho k
  case lstore iq =>
    obtain ⟨rfl, ho⟩ := g1_inj hs
    exact n_ls (fun x H locs ls cells slots rest lv lv' hl hi he kk => lv_lstore hx hb hd hl hi he kk) ho k
  case astore_n kq =>
    obtain ⟨rfl, ho⟩ := g1_inj hs
    exact n_as (fun x H locs ls cells slots rest lv lv' hl hi he kk => lv_astore_n hx hb hd rfl hl hi he kk) (fun H locs ls cells slots rest lv lv' hl hi he kk => lv_astore_nN hx hb hd rfl hl hi he kk) ho k
  case astore iq =>
    obtain ⟨rfl, ho⟩ := g1_inj hs
    exact n_as (fun x H locs ls cells slots rest lv lv' hl hi he kk => lv_astore hx hb hd hl hi he kk) (fun H locs ls cells slots rest lv lv' hl hi he kk => lv_astoreN hx hb hd hl hi he kk) ho k
  case iinc iq nq =>
    obtain ⟨rfl, ho⟩ := g1_inj hs
    exact n_inc hx hb hd ho k
  case iconst nq =>
    obtain ⟨rfl, ho⟩ := g1_inj hs
    exact n_push (fun H locs ls cells slots rest kk => lv_iconst hx hb hd rfl kk) ho k
  case bipush nq =>
    obtain ⟨rfl, ho⟩ := g1_inj hs
    exact n_push (fun H locs ls cells slots rest kk => lv_bipush hx hb hd rfl kk) ho k
  case sipush nq =>
    obtain ⟨rfl, ho⟩ := g1_inj hs
    exact n_push (fun H locs ls cells slots rest kk => lv_sipush hx hb hd rfl kk) ho k
  case lconst nq =>
    obtain ⟨rfl, ho⟩ := g1_inj hs
    exact n_push (fun H locs ls cells slots rest kk => lv_lconst hx hb hd rfl kk) ho k
  case aconst_null =>
    obtain ⟨rfl, ho⟩ := g1_inj hs
    exact n_push (fun H locs ls cells slots rest kk => lv_null hx hb hd kk) ho k
  case ldc iq =>
    obtain ⟨rfl, ho⟩ := g1_inj hs
    exact n_ldc hx C0 (fun v H locs ls cells slots rest hc kk => lv_ldc hx hb hown hc hd kk) ho k
  case ldc_w iq =>
    obtain ⟨rfl, ho⟩ := g1_inj hs
    exact n_ldc hx C0 (fun v H locs ls cells slots rest hc kk => lv_ldcw hx hb hown hc hd kk) ho k
  case ldc2_w iq =>
    obtain ⟨rfl, ho⟩ := g1_inj hs
    exact n_ldl C0 hd ho k
  case iadd =>
    obtain ⟨rfl, ho⟩ := g1_inj hs
    exact n_ii (fun x y H locs ls cells slots rest kk => lv_iadd hx hb hd kk) ho k
  case isub =>
    obtain ⟨rfl, ho⟩ := g1_inj hs
    exact n_ii (fun x y H locs ls cells slots rest kk => lv_isub hx hb hd kk) ho k
  case imul =>
    obtain ⟨rfl, ho⟩ := g1_inj hs
    exact n_ii (fun x y H locs ls cells slots rest kk => lv_imul hx hb hd kk) ho k
  case iand =>
    obtain ⟨rfl, ho⟩ := g1_inj hs
    exact n_ii (fun x y H locs ls cells slots rest kk => lv_iand hx hb hd kk) ho k
  case ior =>
    obtain ⟨rfl, ho⟩ := g1_inj hs
    exact n_ii (fun x y H locs ls cells slots rest kk => lv_ior hx hb hd kk) ho k
  case pop2 =>
    obtain ⟨rfl, ho⟩ := g1_inj hs
    exact n_pop2 hx hb hd ho k
  case getstatic iq =>
    obtain ⟨rfl, ho⟩ := g1_inj hs
    exact n_gs C0 hd ho k
  case ixor =>
    obtain ⟨rfl, ho⟩ := g1_inj hs
    exact n_ii (fun x y H locs ls cells slots rest kk => lv_ixor hx hb hd kk) ho k
  case ishr =>
    obtain ⟨rfl, ho⟩ := g1_inj hs
    exact n_ii (fun x y H locs ls cells slots rest kk => lv_ishr hx hb hd kk) ho k
  case iushr =>
    obtain ⟨rfl, ho⟩ := g1_inj hs
    exact n_ii (fun x y H locs ls cells slots rest kk => lv_iushr hx hb hd rfl kk) ho k
  case idiv =>
    obtain ⟨rfl, ho⟩ := g1_inj hs
    exact n_i0 (fun x y H locs ls cells slots rest hy kk => lv_idiv hx hb hd hy kk) ho k
  case irem =>
    obtain ⟨rfl, ho⟩ := g1_inj hs
    exact n_i0 (fun x y H locs ls cells slots rest hy kk => lv_irem hx hb hd hy kk) ho k
  case ineg =>
    obtain ⟨rfl, ho⟩ := g1_inj hs
    exact n_i (fun x H locs ls cells slots rest kk => lv_ineg hx hb hd kk) ho k
  case i2b =>
    obtain ⟨rfl, ho⟩ := g1_inj hs
    exact n_i (fun x H locs ls cells slots rest kk => lv_i2b hx hb hd rfl kk) ho k
  case i2s =>
    obtain ⟨rfl, ho⟩ := g1_inj hs
    exact n_i (fun x H locs ls cells slots rest kk => lv_i2s hx hb hd rfl kk) ho k
  case ladd =>
    obtain ⟨rfl, ho⟩ := g1_inj hs
    exact n_lL (fun x y H locs ls cells slots rest kk => lv_ladd hx hb hd kk) ho k
  case lmul =>
    obtain ⟨rfl, ho⟩ := g1_inj hs
    exact n_lL (fun x y H locs ls cells slots rest kk => lv_lmul hx hb hd kk) ho k
  case land =>
    obtain ⟨rfl, ho⟩ := g1_inj hs
    exact n_lL (fun x y H locs ls cells slots rest kk => lv_land hx hb hd kk) ho k
  case lor =>
    obtain ⟨rfl, ho⟩ := g1_inj hs
    exact n_lL (fun x y H locs ls cells slots rest kk => lv_lor hx hb hd kk) ho k
  case ldiv =>
    obtain ⟨rfl, ho⟩ := g1_inj hs
    exact n_l0 (fun x y H locs ls cells slots rest hy kk => lv_ldiv hx hb hd hy kk) ho k
  case lshl =>
    obtain ⟨rfl, ho⟩ := g1_inj hs
    exact n_lsh (fun x y H locs ls cells slots rest kk => lv_lshl hx hb hd rfl kk) ho k
  case i2l =>
    obtain ⟨rfl, ho⟩ := g1_inj hs
    exact n_i2l hx hb hd ho k
  case l2i =>
    obtain ⟨rfl, ho⟩ := g1_inj hs
    exact n_l2i hx hb hd ho k
  case lcmp =>
    obtain ⟨rfl, ho⟩ := g1_inj hs
    exact n_lcmp hx hb hd ho k
  case dup =>
    obtain ⟨rfl, ho⟩ := g1_inj hs
    exact n_dup hx hb hd ho k
  case pop =>
    obtain ⟨rfl, ho⟩ := g1_inj hs
    exact n_pop hx hb hd ho k
  case dup2 =>
    obtain ⟨rfl, ho⟩ := g1_inj hs
    exact n_dup2 hx hb hd ho k
  case goto oq =>
    obtain ⟨rfl, ho⟩ := g1_inj hs
    exact n_goto hx hb hd ho k
  case if_icmp cq oq =>
    obtain ⟨rfl, ho⟩ := g1_inj hs
    exact n_if2 hx hb hd ho k
  case ifCond cq oq =>
    obtain ⟨rfl, ho⟩ := g1_inj hs
    exact n_if1 hx hb hd ho k
  case ifnull oq =>
    obtain ⟨rfl, ho⟩ := g1_inj hs
    exact n_null hx hb hd ho k
  case ifnonnull oq =>
    obtain ⟨rfl, ho⟩ := g1_inj hs
    exact n_nnull hx hb hd ho k
  case tableswitch a1 a2 a3 a4 => exact n_tab hx hb hd hs k
  case lookupswitch a1 a2 => exact n_lkp hx hb hd hs k
  case getfield iq =>
    obtain ⟨rfl, ho⟩ := g1_inj hs
    exact n_gf C0 hd ho k
  case putfield iq =>
    obtain ⟨rfl, ho⟩ := g1_inj hs
    exact n_pf C0 hd ho k
  case iaload =>
    obtain ⟨rfl, ho⟩ := g1_inj hs
    exact n_ial0 C0 hd ho k
  case baload =>
    obtain ⟨rfl, ho⟩ := g1_inj hs
    exact n_ial2 C0 hd ho k
  case saload =>
    obtain ⟨rfl, ho⟩ := g1_inj hs
    exact n_ial3 C0 hd ho k
  case laload =>
    obtain ⟨rfl, ho⟩ := g1_inj hs
    exact n_lal C0 hd ho k
  case aaload =>
    obtain ⟨rfl, ho⟩ := g1_inj hs
    exact n_aal C0 hd ho k
  case iastore =>
    obtain ⟨rfl, ho⟩ := g1_inj hs
    exact n_ias0 C0 hd ho k
  case bastore =>
    obtain ⟨rfl, ho⟩ := g1_inj hs
    exact n_ias2 C0 hd ho k
  case sastore =>
    obtain ⟨rfl, ho⟩ := g1_inj hs
    exact n_ias3 C0 hd ho k
  case lastore =>
    obtain ⟨rfl, ho⟩ := g1_inj hs
    exact n_las C0 hd ho k
  case aastore =>
    obtain ⟨rfl, ho⟩ := g1_inj hs
    exact n_aas C0 hd ho k
  case arraylength =>
    obtain ⟨rfl, ho⟩ := g1_inj hs
    exact n_len C0 hd ho k
  case new iq =>
    obtain ⟨rfl, ho⟩ := g1_inj hs
    exact n_new C0 hd ho hc1 hc2 k
  case newarray aq =>
    obtain ⟨rfl, ho⟩ := g1_inj hs
    exact n_nwa C0 hd ho hc1 hc2 k
  case anewarray iq =>
    obtain ⟨rfl, ho⟩ := g1_inj hs
    exact n_anw C0 hd ho hc1 hc2 k
  case invokevirtual ix =>
    obtain ⟨rfl, ho⟩ := g1_inj hs
    exfalso
    unfold o_iv at ho
    split at ho
    · split at ho
      · split at ho
        · split at ho
          · exact call_inl ho
          · cases ho
        · cases ho
      · cases ho
    · cases ho
  case invokespecial ix =>
    obtain ⟨rfl, ho⟩ := g1_inj hs
    unfold o_ip at ho
    split at ho
    · exfalso
      split at ho
      · split at ho
        · exact call_inl ho
        · cases ho
      · cases ho
    · exfalso
      split at ho
      · split at ho
        · exact call_inl ho
        · cases ho
      · cases ho
    · rename_i ci n M1 hf
      split at ho
      · rename_i a rest
        split at ho
        · rename_i hcc
          obtain ⟨rfl, rfl, rfl, rfl⟩ := nx_inj ho
          exact n_obj C0 hd hf hcc.1 hfr hlo hcc.2 k
        · cases ho
      · cases ho
    · cases ho
  case invokestatic ix =>
    obtain ⟨rfl, ho⟩ := g1_inj hs
    unfold o_is1 at ho
    split at ho
    · exfalso
      split at ho
      · exact call_inl ho
      · cases ho
    · exfalso
      split at ho
      · exact call_inl ho
      · cases ho
    · rename_i ci n M1 hf
      have hw : ∀ w ∈ callWs M.1 ix (6, ci, n, M1), w.before args s = true := fun w hw' => okT_use h5 h6 ((fC_ok hf).1 w hw')
      split at ho
      · have hcc := ho
        unfold o_math at hcc
        split at hcc
        · rename_i hdp
          obtain ⟨-, -, -, rfl⟩ := nx_inj hcc
          refine n_math (fun H locs ls hsz hn kk => ?_) ho k
          refine va_mmax hx hb (hml.trans hsz.symm) hown (hw _ (by simp [callWs])) (hw _ (by simp [callWs])) (hw _ (by simp [callWs])) (hw _ (by simp [callWs])) (by omega) ?_ hc1 hc2 hd kk
          rw [cv_cats]
          omega
        · cases hcc
      · cases ho
    · rename_i ci n M1 hf
      have hw : ∀ w ∈ callWs M.1 ix (7, ci, n, M1), w.before args s = true := fun w hw' => okT_use h5 h6 ((fC_ok hf).1 w hw')
      split at ho
      · have hcc := ho
        unfold o_math at hcc
        split at hcc
        · rename_i hdp
          obtain ⟨-, -, -, rfl⟩ := nx_inj hcc
          refine n_math (fun H locs ls hsz hn kk => ?_) ho k
          refine va_mmin hx hb (hml.trans hsz.symm) hown (hw _ (by simp [callWs])) (hw _ (by simp [callWs])) (hw _ (by simp [callWs])) (hw _ (by simp [callWs])) (by omega) ?_ hc1 hc2 hd kk
          rw [cv_cats]
          omega
        · cases hcc
      · cases ho
    · rename_i ci n M1 hf
      have hw : ∀ w ∈ callWs M.1 ix (8, ci, n, M1), w.before args s = true := fun w hw' => okT_use h5 h6 ((fC_ok hf).1 w hw')
      split at ho
      · have hcc := ho
        unfold o_math at hcc
        split at hcc
        · rename_i hdp
          obtain ⟨-, -, -, rfl⟩ := nx_inj hcc
          refine n_math (fun H locs ls hsz hn kk => ?_) ho k
          refine va_mabs hx hb (hml.trans hsz.symm) hown (hw _ (by simp [callWs])) (hw _ (by simp [callWs])) (hw _ (by simp [callWs])) (hw _ (by simp [callWs])) (by omega) ?_ hc1 hc2 hd kk
          rw [cv_cats]
          omega
        · cases hcc
      · cases ho
    · rename_i ci n M1 hf
      have hw : ∀ w ∈ callWs M.1 ix (9, ci, n, M1), w.before args s = true := fun w hw' => okT_use h5 h6 ((fC_ok hf).1 w hw')
      split at ho
      · have hcc := ho
        unfold o_math at hcc
        split at hcc
        · rename_i hdp
          obtain ⟨-, -, -, rfl⟩ := nx_inj hcc
          refine n_math (fun H locs ls hsz hn kk => ?_) ho k
          refine va_mmin_long hx hb (hml.trans hsz.symm) hown (hw _ (by simp [callWs])) (hw _ (by simp [callWs])) (hw _ (by simp [callWs])) (hw _ (by simp [callWs])) (by omega) ?_ hc1 hc2 hd kk
          rw [cv_cats]
          omega
        · cases hcc
      · cases ho
    · rename_i ci n M1 hf
      exact n_cp C0 hd hf hfr hlo ho k
    · cases ho
  all_goals exfalso
  all_goals first
    | (cases hs; done)
    | (obtain ⟨_, hq⟩ := kr_ex rfl hs; cases hq; done)
/-- a method's end -/
theorem snd_ret (C0 : CX X G tyC sb H0 p s m args meth c M) {v : Option Value} (hrt : meth.sig.returnType = M.2.2.2.2) (hlocks : meth.locks = false) (hs : stp X d M pc L st h = some (.inr (.inr v))) : WA sb G tyC H0 p l e R s m args below meth c (MQ below (QcM G tyC sb H0 v h) args s (h.1 - n0) (700 * (h.1 - n0)) (fun q => H0.size ≤ q)) M.2.2.2.1 n0 pc L st h := by
  obtain ⟨hx, hb, hml, hown, h5, h6, hini, hK, hX⟩ := id C0
  replace hs := stp_inv hs
  obtain ⟨ins, len, hd, hs⟩ := hs
  have hQ : ∀ {H : Heap} {locs : List Loc}, HR G tyC sb H0.size h H → va_S (fun q : Nat => H0.size ≤ q) H0 H locs → ∀ t : State, t.heap = H → s.WarmedH t.vm → QcM G tyC sb H0 v h args s (.returned (v.map (cv H0.size sb))) t := fun hH hS t ht _ => ⟨rfl, by rw [ht]; exact hH, by rw [ht]; exact ⟨hS.1, hS.2.1, fun _ z => by cases z⟩⟩
  cases ins
  case ireturn =>
    obtain ⟨rfl, ho⟩ := g1_inj hs
    unfold o_ir at ho
    split at ho
    · rename_i x hr
      cases ho
      intro H locs ls hH hS hL hn
      exact W.iret hx hb (by rw [hrt]; exact hr) (hQ hH hS) hS.2.2 hd hlocks
    · rename_i x hr
      split at ho
      · rename_i hx01
        cases ho
        intro H locs ls hH hS hL hn
        exact W.zret (ty := .boolean) hx hb (by rw [hrt]; exact hr) (by rcases hx01 with rfl | rfl <;> rfl) (hQ hH hS) hS.2.2 hd hlocks
      · cases ho
    · cases ho
  case lreturn =>
    obtain ⟨rfl, ho⟩ := g1_inj hs
    unfold o_lr at ho
    split at ho
    · rename_i x hr
      cases ho
      intro H locs ls hH hS hL hn
      exact W.lret hx hb (by rw [hrt]; exact hr) (hQ hH hS) hS.2.2 hd hlocks
    · cases ho
  case areturn =>
    obtain ⟨rfl, ho⟩ := g1_inj hs
    unfold o_ar at ho
    split at ho
    · rename_i x hr
      cases ho
      intro H locs ls hH hS hL hn
      exact W.aret hx hb (by rw [hrt]; exact hr) (Or.inl ⟨_, rfl⟩) (Or.inr ⟨_, rfl⟩) (hQ hH hS) hS.2.2 hd hlocks
    · rename_i x hr
      cases ho
      intro H locs ls hH hS hL hn
      exact W.aret hx hb (by rw [hrt]; exact hr) (Or.inl ⟨_, rfl⟩) (Or.inl rfl) (hQ hH hS) hS.2.2 hd hlocks
    · cases ho
  case return_ =>
    obtain ⟨rfl, ho⟩ := g1_inj hs
    unfold o_vr at ho
    split at ho
    · rename_i hr
      cases ho
      intro H locs ls hH hS hL hn
      exact W.vret hx hb (by rw [hrt]; exact hr) (hQ hH hS) hS.2.2 hd hlocks
    · cases ho
  case invokevirtual ix =>
    obtain ⟨rfl, ho⟩ := g1_inj hs
    exfalso
    unfold o_iv at ho
    repeat' split at ho
    all_goals first | exact call_ret ho | (cases ho; done)
  case invokestatic ix =>
    obtain ⟨rfl, ho⟩ := g1_inj hs
    exfalso
    unfold o_is1 at ho
    repeat' split at ho
    all_goals first | exact call_ret ho | exact math_inr ho | exact cp_inr ho | (cases ho; done)
  case invokespecial ix =>
    obtain ⟨rfl, ho⟩ := g1_inj hs
    exfalso
    unfold o_ip at ho
    repeat' split at ho
    all_goals first | exact call_ret ho | (obtain ⟨_, hq⟩ := kN_nx ho; cases hq; done) | (cases ho; done)
  all_goals exfalso
  all_goals (obtain ⟨_, hq⟩ := kn_ex rfl hs; cases hq; done)
end WLK
/-- what a run of the interpreter says of the machine, at a frame of the method -/
def Walks (X : Tok) (G : va_G) (tyC : Nat → ClassId) (sb : UInt32 → Addr) (H0 : Heap) (l : Launch) (f : Nat) : Prop := ∀ (d : Nat) (M : MI) (pc : Nat) (L st : List Value) (h : Hp) (v0 : Option Value) (h' : Hp), run X f d M pc L st h = some (v0, h') → ∀ {p : Program} {e : Env} {R : Room} {s : State} {m : MethodId} {args : Array Value} {below : List Frame} {meth : Method} {c : Code} {Q : State → Prop} {n0 : Nat}, CX X G tyC sb H0 p s m args meth c M → d ≤ R.frames → 64 * d ≤ R.locals → h'.1 - n0 ≤ R.cells → 700 * (h'.1 - n0) ≤ R.slots → (∀ (pc : Nat) (L st : List Value), stp X d M pc L st h' = some (.inr (.inr v0)) → WA sb G tyC H0 p l e R s m args below meth c Q M.2.2.2.1 n0 pc L st h') → WA sb G tyC H0 p l e R s m args below meth c Q M.2.2.2.1 n0 pc L st h
theorem met_of {X : Tok} {G : va_G} {tyC : Nat → ClassId} {sb : UInt32 → Addr} {H0 : Heap} {l : Launch} {f d : Nat} {M : MI} {av : List Value} {h h' : Hp} {v : Option Value} (ih : Walks X G tyC sb H0 l f) (hr : run X f d M 0 (ent M av) [] h = some (v, h')) (hM : okMI M) (hlen : (exL av).length ≤ M.2.2.2.1) : Met l M.2.1 (codeW M :: WT) { frames := d, cells := h'.1 - h.1, slots := 700 * (h'.1 - h.1), locals := 64 * d } (PcM X G tyC sb H0 av h) (QcM G tyC sb H0 v h') (h'.1 - h.1) (700 * (h'.1 - h.1)) (fun q => H0.size ≤ q) := by
  refine Met.ofW (cc := M.2.2.1) (maxL := M.2.2.2.1) (ret := M.2.2.2.2) hM.1 rfl ?_
  intro p e s m args below meth c s₁ B hml hv
  obtain ⟨rfl, hH, hS, hK, hN, hX⟩ := hv
  have hts := atoms_spec (ws := codeW M :: WT) B.pre
  have hown : s.vm.findClass M.2.1.cls = some m.cls := findClass_of_methodNamed B.named
  have C0 : CX X G tyC sb H0 p s m (av.map (cv H0.size sb)).toArray meth c M := ⟨B.exec, B.bytes, hml, by rw [hM.2.2.2]; exact hown, fun w hw hg => hts w (List.mem_cons_of_mem _ (List.mem_filter.mpr ⟨hw, hg⟩)), hN, fun hi => by rw [← hi]; exact (name_of_methodNamed B.named B.method).1, hK, hX⟩
  have K := ih d M 0 (ent M av) [] h v h' hr (p := p) (e := e) (R := { frames := d, cells := h'.1 - h.1, slots := 700 * (h'.1 - h.1), locals := 64 * d }) (s := s) (m := m) (below := below) (meth := meth) (c := c) (Q := MQ below (QcM G tyC sb H0 v h') (av.map (cv H0.size sb)).toArray s (h'.1 - h.1) (700 * (h'.1 - h.1)) (fun q => H0.size ≤ q)) (n0 := h.1) C0 (Nat.le_refl _) (Nat.le_refl _) (Nat.le_refl _) (Nat.le_refl _) (fun pc L st hs => snd_ret C0 B.returns B.notSynchronized hs)
  have K2 := K s.heap [] _ hH hS (LR_ent hlen) (Nat.le_refl _)
  rw [lg_entry_eq]
  rw [Nat.sub_self, Nat.mul_zero] at K2
  exact K2
theorem walks (X : Tok) (G : va_G) (tyC : Nat → ClassId) (sb : UInt32 → Addr) (H0 : Heap) (l : Launch) : ∀ f, Walks X G tyC sb H0 l f := by
  intro f
  induction f with
  | zero => intro d M pc L st h v0 h' hr; exact absurd hr (by simp [run])
  | succ f ih =>
    intro d M pc L st h v0 h' hr p e R s m args below meth c Q n0 C0 hfr hlo hc1 hc2 hend
    have hgr := run_grow _ _ _ _ _ _ _ _ _ hr
    rw [run] at hr
    cases hs : stp X d M pc L st h with
    | none => rw [hs] at hr; exact absurd hr (by simp)
    | some o =>
      rw [hs] at hr
      rcases o with ⟨pc1, L1, st1, h1⟩ | ⟨M', av, rest⟩ | w
      · simp only at hr
        have hg1 := run_grow _ _ _ _ _ _ _ _ _ hr
        exact snd_next C0 hs hfr hlo (by omega) (by omega) (ih d M pc1 L1 st1 h1 v0 h' hr C0 hfr hlo hc1 hc2 hend)
      · cases d with
        | zero => exact absurd hr (by simp)
        | succ d' =>
          simp only at hr
          cases hq : run X f d' M' 0 (ent M' av) [] h with
          | none => rw [hq] at hr; exact absurd hr (by simp)
          | some q =>
            obtain ⟨v, h1⟩ := q
            rw [hq] at hr
            simp only at hr
            have hg0 := run_grow _ _ _ _ _ _ _ _ _ hq
            have hg1 := run_grow _ _ _ _ _ _ _ _ _ hr
            exact snd_call (h' := h1) (v := v) C0 hs hfr hlo (by omega) (by omega) hg0 (fun hM hl => met_of ih hq hM hl) (ih (d' + 1) M (pc + 3) L (psh v rest) h1 v0 h' hr C0 hfr hlo hc1 hc2 hend)
      · cases hr
        exact hend pc L st hs
end
