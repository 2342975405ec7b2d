-- ===== PART A: goes FIRST, ahead of the names: the tables' words, and 'selects' of the private methods out of them =====
/-- a private method of a class that the tables say can be made, by its rows of tables_1 -/
def lw_okq (q : MethodName × Nat) : Prop := (q.1.cls ≠ "java/lang/invoke/MethodHandle" ∧ q.1.cls ≠ "java/lang/invoke/VarHandle") ∧ Cond.instantiable q.1.cls q.2 ∈ tables_1 ∧ Cond.privateMethod q.1 ∈ tables_1 ∧ Cond.instanceMethod q.1 ∈ tables_1
theorem lw_p0 : lw_okq (⟨"TurnsOneWay$Stone", "readLump", "(LTurnsOneWay$Tape;I)Z"⟩, 11) := ⟨⟨by decide +kernel, by decide +kernel⟩, List.mem_of_getElem? (i := 219) (by decide +kernel), List.mem_of_getElem? (i := 378) (by decide +kernel), List.mem_of_getElem? (i := 379) (by decide +kernel)⟩
theorem lw_p1 : lw_okq (⟨"TurnsOneWay$Stone", "readRate", "(LTurnsOneWay$Tape;I)Z"⟩, 11) := ⟨⟨by decide +kernel, by decide +kernel⟩, List.mem_of_getElem? (i := 219) (by decide +kernel), List.mem_of_getElem? (i := 397) (by decide +kernel), List.mem_of_getElem? (i := 398) (by decide +kernel)⟩
theorem lw_p2 : lw_okq (⟨"TurnsOneWay$Stone", "weigh", "()V"⟩, 11) := ⟨⟨by decide +kernel, by decide +kernel⟩, List.mem_of_getElem? (i := 219) (by decide +kernel), List.mem_of_getElem? (i := 409) (by decide +kernel), List.mem_of_getElem? (i := 410) (by decide +kernel)⟩
theorem lw_p3 : lw_okq (⟨"TurnsOneWay", "stoneAt", "(I)LTurnsOneWay$Stone;"⟩, 11) := ⟨⟨by decide +kernel, by decide +kernel⟩, List.mem_of_getElem? (i := 16) (by decide +kernel), List.mem_of_getElem? (i := 425) (by decide +kernel), List.mem_of_getElem? (i := 426) (by decide +kernel)⟩
theorem lw_p4 : lw_okq (⟨"TurnsOneWay$Stone", "keenWith", "(III)I"⟩, 11) := ⟨⟨by decide +kernel, by decide +kernel⟩, List.mem_of_getElem? (i := 219) (by decide +kernel), List.mem_of_getElem? (i := 438) (by decide +kernel), List.mem_of_getElem? (i := 439) (by decide +kernel)⟩
theorem lw_p5 : lw_okq (⟨"TurnsOneWay$Changes", "write", "(II)V"⟩, 3) := ⟨⟨by decide +kernel, by decide +kernel⟩, List.mem_of_getElem? (i := 175) (by decide +kernel), List.mem_of_getElem? (i := 486) (by decide +kernel), List.mem_of_getElem? (i := 487) (by decide +kernel)⟩
theorem lw_p6 : lw_okq (⟨"TurnsOneWay$Floor", "readLine", "(LTurnsOneWay$Tape;)Z"⟩, 11) := ⟨⟨by decide +kernel, by decide +kernel⟩, List.mem_of_getElem? (i := 259) (by decide +kernel), List.mem_of_getElem? (i := 498) (by decide +kernel), List.mem_of_getElem? (i := 499) (by decide +kernel)⟩
theorem lw_p7 : lw_okq (⟨"TurnsOneWay$Floor", "readJoined", "(LTurnsOneWay$Tape;II)I"⟩, 11) := ⟨⟨by decide +kernel, by decide +kernel⟩, List.mem_of_getElem? (i := 259) (by decide +kernel), List.mem_of_getElem? (i := 502) (by decide +kernel), List.mem_of_getElem? (i := 503) (by decide +kernel)⟩
theorem lw_p8 : lw_okq (⟨"TurnsOneWay$Floor", "readOne", "(LTurnsOneWay$Tape;I)I"⟩, 11) := ⟨⟨by decide +kernel, by decide +kernel⟩, List.mem_of_getElem? (i := 259) (by decide +kernel), List.mem_of_getElem? (i := 506) (by decide +kernel), List.mem_of_getElem? (i := 507) (by decide +kernel)⟩
theorem lw_p9 : lw_okq (⟨"TurnsOneWay$Floor", "append", "(III)I"⟩, 11) := ⟨⟨by decide +kernel, by decide +kernel⟩, List.mem_of_getElem? (i := 259) (by decide +kernel), List.mem_of_getElem? (i := 512) (by decide +kernel), List.mem_of_getElem? (i := 513) (by decide +kernel)⟩
theorem lw_p10 : lw_okq (⟨"TurnsOneWay$Floor", "readOpened", "(LTurnsOneWay$Tape;II)I"⟩, 11) := ⟨⟨by decide +kernel, by decide +kernel⟩, List.mem_of_getElem? (i := 259) (by decide +kernel), List.mem_of_getElem? (i := 516) (by decide +kernel), List.mem_of_getElem? (i := 517) (by decide +kernel)⟩
theorem lw_p11 : lw_okq (⟨"TurnsOneWay$Floor", "appendNumber", "(I)I"⟩, 11) := ⟨⟨by decide +kernel, by decide +kernel⟩, List.mem_of_getElem? (i := 259) (by decide +kernel), List.mem_of_getElem? (i := 521) (by decide +kernel), List.mem_of_getElem? (i := 522) (by decide +kernel)⟩
theorem lw_p12 : lw_okq (⟨"TurnsOneWay", "isGround", "(I)Z"⟩, 11) := ⟨⟨by decide +kernel, by decide +kernel⟩, List.mem_of_getElem? (i := 16) (by decide +kernel), List.mem_of_getElem? (i := 538) (by decide +kernel), List.mem_of_getElem? (i := 539) (by decide +kernel)⟩
theorem lw_p13 : lw_okq (⟨"TurnsOneWay", "isFloorOrNone", "(I)Z"⟩, 11) := ⟨⟨by decide +kernel, by decide +kernel⟩, List.mem_of_getElem? (i := 16) (by decide +kernel), List.mem_of_getElem? (i := 542) (by decide +kernel), List.mem_of_getElem? (i := 543) (by decide +kernel)⟩
theorem lw_p14 : lw_okq (⟨"TurnsOneWay", "floorAt", "(I)LTurnsOneWay$Floor;"⟩, 11) := ⟨⟨by decide +kernel, by decide +kernel⟩, List.mem_of_getElem? (i := 16) (by decide +kernel), List.mem_of_getElem? (i := 546) (by decide +kernel), List.mem_of_getElem? (i := 547) (by decide +kernel)⟩
theorem lw_p15 : lw_okq (⟨"TurnsOneWay", "layOwn", "(I)V"⟩, 11) := ⟨⟨by decide +kernel, by decide +kernel⟩, List.mem_of_getElem? (i := 16) (by decide +kernel), List.mem_of_getElem? (i := 554) (by decide +kernel), List.mem_of_getElem? (i := 555) (by decide +kernel)⟩
def lw_privs_1 : List (MethodName × Nat) := [(⟨"TurnsOneWay$Stone", "readLump", "(LTurnsOneWay$Tape;I)Z"⟩, 11), (⟨"TurnsOneWay$Stone", "readRate", "(LTurnsOneWay$Tape;I)Z"⟩, 11), (⟨"TurnsOneWay$Stone", "weigh", "()V"⟩, 11), (⟨"TurnsOneWay", "stoneAt", "(I)LTurnsOneWay$Stone;"⟩, 11), (⟨"TurnsOneWay$Stone", "keenWith", "(III)I"⟩, 11), (⟨"TurnsOneWay$Changes", "write", "(II)V"⟩, 3), (⟨"TurnsOneWay$Floor", "readLine", "(LTurnsOneWay$Tape;)Z"⟩, 11), (⟨"TurnsOneWay$Floor", "readJoined", "(LTurnsOneWay$Tape;II)I"⟩, 11), (⟨"TurnsOneWay$Floor", "readOne", "(LTurnsOneWay$Tape;I)I"⟩, 11), (⟨"TurnsOneWay$Floor", "append", "(III)I"⟩, 11), (⟨"TurnsOneWay$Floor", "readOpened", "(LTurnsOneWay$Tape;II)I"⟩, 11), (⟨"TurnsOneWay$Floor", "appendNumber", "(I)I"⟩, 11), (⟨"TurnsOneWay", "isGround", "(I)Z"⟩, 11), (⟨"TurnsOneWay", "isFloorOrNone", "(I)Z"⟩, 11), (⟨"TurnsOneWay", "floorAt", "(I)LTurnsOneWay$Floor;"⟩, 11), (⟨"TurnsOneWay", "layOwn", "(I)V"⟩, 11)]
theorem lw_r1 : ∀ q ∈ lw_privs_1, lw_okq q := List.forall_mem_cons.mpr ⟨lw_p0, List.forall_mem_cons.mpr ⟨lw_p1, List.forall_mem_cons.mpr ⟨lw_p2, List.forall_mem_cons.mpr ⟨lw_p3, List.forall_mem_cons.mpr ⟨lw_p4, List.forall_mem_cons.mpr ⟨lw_p5, List.forall_mem_cons.mpr ⟨lw_p6, List.forall_mem_cons.mpr ⟨lw_p7, List.forall_mem_cons.mpr ⟨lw_p8, List.forall_mem_cons.mpr ⟨lw_p9, List.forall_mem_cons.mpr ⟨lw_p10, List.forall_mem_cons.mpr ⟨lw_p11, List.forall_mem_cons.mpr ⟨lw_p12, List.forall_mem_cons.mpr ⟨lw_p13, List.forall_mem_cons.mpr ⟨lw_p14, List.forall_mem_cons.mpr ⟨lw_p15, fun _ h => absurd h List.not_mem_nil⟩⟩⟩⟩⟩⟩⟩⟩⟩⟩⟩⟩⟩⟩⟩⟩
theorem lw_p16 : lw_okq (⟨"TurnsOneWay", "lay", "(II)V"⟩, 11) := ⟨⟨by decide +kernel, by decide +kernel⟩, List.mem_of_getElem? (i := 16) (by decide +kernel), List.mem_of_getElem? (i := 558) (by decide +kernel), List.mem_of_getElem? (i := 559) (by decide +kernel)⟩
theorem lw_p17 : lw_okq (⟨"TurnsOneWay", "start", "(II)V"⟩, 11) := ⟨⟨by decide +kernel, by decide +kernel⟩, List.mem_of_getElem? (i := 16) (by decide +kernel), List.mem_of_getElem? (i := 567) (by decide +kernel), List.mem_of_getElem? (i := 568) (by decide +kernel)⟩
theorem lw_p18 : lw_okq (⟨"TurnsOneWay$Going", "note", "(LTurnsOneWay$Motion;I)V"⟩, 9) := ⟨⟨by decide +kernel, by decide +kernel⟩, List.mem_of_getElem? (i := 121) (by decide +kernel), List.mem_of_getElem? (i := 582) (by decide +kernel), List.mem_of_getElem? (i := 583) (by decide +kernel)⟩
theorem lw_p19 : lw_okq (⟨"TurnsOneWay$Motion", "growRattle", "()V"⟩, 17) := ⟨⟨by decide +kernel, by decide +kernel⟩, List.mem_of_getElem? (i := 50) (by decide +kernel), List.mem_of_getElem? (i := 590) (by decide +kernel), List.mem_of_getElem? (i := 591) (by decide +kernel)⟩
theorem lw_p20 : lw_okq (⟨"TurnsOneWay$Motion", "grown", "(III)I"⟩, 17) := ⟨⟨by decide +kernel, by decide +kernel⟩, List.mem_of_getElem? (i := 50) (by decide +kernel), List.mem_of_getElem? (i := 594) (by decide +kernel), List.mem_of_getElem? (i := 595) (by decide +kernel)⟩
theorem lw_p21 : lw_okq (⟨"TurnsOneWay$Motion", "pushTurn", "()V"⟩, 17) := ⟨⟨by decide +kernel, by decide +kernel⟩, List.mem_of_getElem? (i := 50) (by decide +kernel), List.mem_of_getElem? (i := 611) (by decide +kernel), List.mem_of_getElem? (i := 612) (by decide +kernel)⟩
theorem lw_p22 : lw_okq (⟨"TurnsOneWay$Motion", "lose", "()V"⟩, 17) := ⟨⟨by decide +kernel, by decide +kernel⟩, List.mem_of_getElem? (i := 50) (by decide +kernel), List.mem_of_getElem? (i := 618) (by decide +kernel), List.mem_of_getElem? (i := 619) (by decide +kernel)⟩
theorem lw_p23 : lw_okq (⟨"TurnsOneWay$Motion", "lossOf", "(II)I"⟩, 17) := ⟨⟨by decide +kernel, by decide +kernel⟩, List.mem_of_getElem? (i := 50) (by decide +kernel), List.mem_of_getElem? (i := 627) (by decide +kernel), List.mem_of_getElem? (i := 628) (by decide +kernel)⟩
theorem lw_p24 : lw_okq (⟨"TurnsOneWay$Floor", "valueAt", "(I)I"⟩, 11) := ⟨⟨by decide +kernel, by decide +kernel⟩, List.mem_of_getElem? (i := 259) (by decide +kernel), List.mem_of_getElem? (i := 635) (by decide +kernel), List.mem_of_getElem? (i := 636) (by decide +kernel)⟩
theorem lw_p25 : lw_okq (⟨"TurnsOneWay$Floor", "result", "(III)I"⟩, 11) := ⟨⟨by decide +kernel, by decide +kernel⟩, List.mem_of_getElem? (i := 259) (by decide +kernel), List.mem_of_getElem? (i := 641) (by decide +kernel), List.mem_of_getElem? (i := 642) (by decide +kernel)⟩
theorem lw_p26 : lw_okq (⟨"TurnsOneWay$Going", "ended", "()I"⟩, 9) := ⟨⟨by decide +kernel, by decide +kernel⟩, List.mem_of_getElem? (i := 121) (by decide +kernel), List.mem_of_getElem? (i := 675) (by decide +kernel), List.mem_of_getElem? (i := 676) (by decide +kernel)⟩
theorem lw_p27 : lw_okq (⟨"TurnsOneWay", "firstBack", "(II)I"⟩, 11) := ⟨⟨by decide +kernel, by decide +kernel⟩, List.mem_of_getElem? (i := 16) (by decide +kernel), List.mem_of_getElem? (i := 692) (by decide +kernel), List.mem_of_getElem? (i := 693) (by decide +kernel)⟩
theorem lw_p28 : lw_okq (⟨"TurnsOneWay", "shelfAt", "(I)LTurnsOneWay$Shelf;"⟩, 11) := ⟨⟨by decide +kernel, by decide +kernel⟩, List.mem_of_getElem? (i := 16) (by decide +kernel), List.mem_of_getElem? (i := 745) (by decide +kernel), List.mem_of_getElem? (i := 746) (by decide +kernel)⟩
theorem lw_p29 : lw_okq (⟨"TurnsOneWay", "offBy", "(III)I"⟩, 11) := ⟨⟨by decide +kernel, by decide +kernel⟩, List.mem_of_getElem? (i := 16) (by decide +kernel), List.mem_of_getElem? (i := 783) (by decide +kernel), List.mem_of_getElem? (i := 784) (by decide +kernel)⟩
theorem lw_p30 : lw_okq (⟨"TurnsOneWay", "changeTo", "(I)V"⟩, 11) := ⟨⟨by decide +kernel, by decide +kernel⟩, List.mem_of_getElem? (i := 16) (by decide +kernel), List.mem_of_getElem? (i := 818) (by decide +kernel), List.mem_of_getElem? (i := 819) (by decide +kernel)⟩
theorem lw_p31 : lw_okq (⟨"TurnsOneWay$Bodies", "ask", "(IIII)I"⟩, 6) := ⟨⟨by decide +kernel, by decide +kernel⟩, List.mem_of_getElem? (i := 193) (by decide +kernel), List.mem_of_getElem? (i := 850) (by decide +kernel), List.mem_of_getElem? (i := 851) (by decide +kernel)⟩
def lw_privs_2 : List (MethodName × Nat) := [(⟨"TurnsOneWay", "lay", "(II)V"⟩, 11), (⟨"TurnsOneWay", "start", "(II)V"⟩, 11), (⟨"TurnsOneWay$Going", "note", "(LTurnsOneWay$Motion;I)V"⟩, 9), (⟨"TurnsOneWay$Motion", "growRattle", "()V"⟩, 17), (⟨"TurnsOneWay$Motion", "grown", "(III)I"⟩, 17), (⟨"TurnsOneWay$Motion", "pushTurn", "()V"⟩, 17), (⟨"TurnsOneWay$Motion", "lose", "()V"⟩, 17), (⟨"TurnsOneWay$Motion", "lossOf", "(II)I"⟩, 17), (⟨"TurnsOneWay$Floor", "valueAt", "(I)I"⟩, 11), (⟨"TurnsOneWay$Floor", "result", "(III)I"⟩, 11), (⟨"TurnsOneWay$Going", "ended", "()I"⟩, 9), (⟨"TurnsOneWay", "firstBack", "(II)I"⟩, 11), (⟨"TurnsOneWay", "shelfAt", "(I)LTurnsOneWay$Shelf;"⟩, 11), (⟨"TurnsOneWay", "offBy", "(III)I"⟩, 11), (⟨"TurnsOneWay", "changeTo", "(I)V"⟩, 11), (⟨"TurnsOneWay$Bodies", "ask", "(IIII)I"⟩, 6)]
theorem lw_r2 : ∀ q ∈ lw_privs_2, lw_okq q := List.forall_mem_cons.mpr ⟨lw_p16, List.forall_mem_cons.mpr ⟨lw_p17, List.forall_mem_cons.mpr ⟨lw_p18, List.forall_mem_cons.mpr ⟨lw_p19, List.forall_mem_cons.mpr ⟨lw_p20, List.forall_mem_cons.mpr ⟨lw_p21, List.forall_mem_cons.mpr ⟨lw_p22, List.forall_mem_cons.mpr ⟨lw_p23, List.forall_mem_cons.mpr ⟨lw_p24, List.forall_mem_cons.mpr ⟨lw_p25, List.forall_mem_cons.mpr ⟨lw_p26, List.forall_mem_cons.mpr ⟨lw_p27, List.forall_mem_cons.mpr ⟨lw_p28, List.forall_mem_cons.mpr ⟨lw_p29, List.forall_mem_cons.mpr ⟨lw_p30, List.forall_mem_cons.mpr ⟨lw_p31, fun _ h => absurd h List.not_mem_nil⟩⟩⟩⟩⟩⟩⟩⟩⟩⟩⟩⟩⟩⟩⟩⟩
theorem lw_p32 : lw_okq (⟨"TurnsOneWay$Bodies", "run", "(IIII)I"⟩, 6) := ⟨⟨by decide +kernel, by decide +kernel⟩, List.mem_of_getElem? (i := 193) (by decide +kernel), List.mem_of_getElem? (i := 864) (by decide +kernel), List.mem_of_getElem? (i := 865) (by decide +kernel)⟩
theorem lw_p33 : lw_okq (⟨"TurnsOneWay$Shelf", "cutDown", "(J)J"⟩, 4) := ⟨⟨by decide +kernel, by decide +kernel⟩, List.mem_of_getElem? (i := 298) (by decide +kernel), List.mem_of_getElem? (i := 906) (by decide +kernel), List.mem_of_getElem? (i := 907) (by decide +kernel)⟩
theorem lw_p34 : lw_okq (⟨"TurnsOneWayModel", "readLump", "(I)V"⟩, 59) := ⟨⟨by decide +kernel, by decide +kernel⟩, List.mem_of_getElem? (i := 935) (by decide +kernel), List.mem_of_getElem? (i := 1130) (by decide +kernel), List.mem_of_getElem? (i := 1131) (by decide +kernel)⟩
theorem lw_p35 : lw_okq (⟨"TurnsOneWayModel", "digit", "(I)I"⟩, 59) := ⟨⟨by decide +kernel, by decide +kernel⟩, List.mem_of_getElem? (i := 935) (by decide +kernel), List.mem_of_getElem? (i := 1134) (by decide +kernel), List.mem_of_getElem? (i := 1135) (by decide +kernel)⟩
theorem lw_p36 : lw_okq (⟨"TurnsOneWayModel", "signed", "()I"⟩, 59) := ⟨⟨by decide +kernel, by decide +kernel⟩, List.mem_of_getElem? (i := 935) (by decide +kernel), List.mem_of_getElem? (i := 1138) (by decide +kernel), List.mem_of_getElem? (i := 1139) (by decide +kernel)⟩
theorem lw_p37 : lw_okq (⟨"TurnsOneWayModel", "isHere", "(I)Z"⟩, 59) := ⟨⟨by decide +kernel, by decide +kernel⟩, List.mem_of_getElem? (i := 935) (by decide +kernel), List.mem_of_getElem? (i := 1142) (by decide +kernel), List.mem_of_getElem? (i := 1143) (by decide +kernel)⟩
theorem lw_p38 : lw_okq (⟨"TurnsOneWayModel", "takes", "(I)V"⟩, 59) := ⟨⟨by decide +kernel, by decide +kernel⟩, List.mem_of_getElem? (i := 935) (by decide +kernel), List.mem_of_getElem? (i := 1146) (by decide +kernel), List.mem_of_getElem? (i := 1147) (by decide +kernel)⟩
theorem lw_p39 : lw_okq (⟨"TurnsOneWayModel", "readNumber", "(I)I"⟩, 59) := ⟨⟨by decide +kernel, by decide +kernel⟩, List.mem_of_getElem? (i := 935) (by decide +kernel), List.mem_of_getElem? (i := 1150) (by decide +kernel), List.mem_of_getElem? (i := 1151) (by decide +kernel)⟩
theorem lw_p40 : lw_okq (⟨"TurnsOneWayModel", "isStone", "(I)Z"⟩, 59) := ⟨⟨by decide +kernel, by decide +kernel⟩, List.mem_of_getElem? (i := 935) (by decide +kernel), List.mem_of_getElem? (i := 1158) (by decide +kernel), List.mem_of_getElem? (i := 1159) (by decide +kernel)⟩
theorem lw_p41 : lw_okq (⟨"TurnsOneWayModel", "sumOf", "(III)I"⟩, 59) := ⟨⟨by decide +kernel, by decide +kernel⟩, List.mem_of_getElem? (i := 935) (by decide +kernel), List.mem_of_getElem? (i := 1163) (by decide +kernel), List.mem_of_getElem? (i := 1164) (by decide +kernel)⟩
theorem lw_p42 : lw_okq (⟨"TurnsOneWayModel", "wideX", "(I)I"⟩, 59) := ⟨⟨by decide +kernel, by decide +kernel⟩, List.mem_of_getElem? (i := 935) (by decide +kernel), List.mem_of_getElem? (i := 1167) (by decide +kernel), List.mem_of_getElem? (i := 1168) (by decide +kernel)⟩
theorem lw_p43 : lw_okq (⟨"TurnsOneWayModel", "wideY", "(I)I"⟩, 59) := ⟨⟨by decide +kernel, by decide +kernel⟩, List.mem_of_getElem? (i := 935) (by decide +kernel), List.mem_of_getElem? (i := 1171) (by decide +kernel), List.mem_of_getElem? (i := 1172) (by decide +kernel)⟩
theorem lw_p44 : lw_okq (⟨"TurnsOneWayModel", "slant", "(I)I"⟩, 59) := ⟨⟨by decide +kernel, by decide +kernel⟩, List.mem_of_getElem? (i := 935) (by decide +kernel), List.mem_of_getElem? (i := 1175) (by decide +kernel), List.mem_of_getElem? (i := 1176) (by decide +kernel)⟩
theorem lw_p45 : lw_okq (⟨"TurnsOneWayModel", "keenOf", "(I)I"⟩, 59) := ⟨⟨by decide +kernel, by decide +kernel⟩, List.mem_of_getElem? (i := 935) (by decide +kernel), List.mem_of_getElem? (i := 1179) (by decide +kernel), List.mem_of_getElem? (i := 1180) (by decide +kernel)⟩
theorem lw_p46 : lw_okq (⟨"TurnsOneWayModel", "place", "(III)V"⟩, 59) := ⟨⟨by decide +kernel, by decide +kernel⟩, List.mem_of_getElem? (i := 935) (by decide +kernel), List.mem_of_getElem? (i := 1197) (by decide +kernel), List.mem_of_getElem? (i := 1198) (by decide +kernel)⟩
theorem lw_p47 : lw_okq (⟨"TurnsOneWayModel", "changes", "(III)I"⟩, 59) := ⟨⟨by decide +kernel, by decide +kernel⟩, List.mem_of_getElem? (i := 935) (by decide +kernel), List.mem_of_getElem? (i := 1209) (by decide +kernel), List.mem_of_getElem? (i := 1210) (by decide +kernel)⟩
def lw_privs_3 : List (MethodName × Nat) := [(⟨"TurnsOneWay$Bodies", "run", "(IIII)I"⟩, 6), (⟨"TurnsOneWay$Shelf", "cutDown", "(J)J"⟩, 4), (⟨"TurnsOneWayModel", "readLump", "(I)V"⟩, 59), (⟨"TurnsOneWayModel", "digit", "(I)I"⟩, 59), (⟨"TurnsOneWayModel", "signed", "()I"⟩, 59), (⟨"TurnsOneWayModel", "isHere", "(I)Z"⟩, 59), (⟨"TurnsOneWayModel", "takes", "(I)V"⟩, 59), (⟨"TurnsOneWayModel", "readNumber", "(I)I"⟩, 59), (⟨"TurnsOneWayModel", "isStone", "(I)Z"⟩, 59), (⟨"TurnsOneWayModel", "sumOf", "(III)I"⟩, 59), (⟨"TurnsOneWayModel", "wideX", "(I)I"⟩, 59), (⟨"TurnsOneWayModel", "wideY", "(I)I"⟩, 59), (⟨"TurnsOneWayModel", "slant", "(I)I"⟩, 59), (⟨"TurnsOneWayModel", "keenOf", "(I)I"⟩, 59), (⟨"TurnsOneWayModel", "place", "(III)V"⟩, 59), (⟨"TurnsOneWayModel", "changes", "(III)I"⟩, 59)]
theorem lw_r3 : ∀ q ∈ lw_privs_3, lw_okq q := List.forall_mem_cons.mpr ⟨lw_p32, List.forall_mem_cons.mpr ⟨lw_p33, List.forall_mem_cons.mpr ⟨lw_p34, List.forall_mem_cons.mpr ⟨lw_p35, List.forall_mem_cons.mpr ⟨lw_p36, List.forall_mem_cons.mpr ⟨lw_p37, List.forall_mem_cons.mpr ⟨lw_p38, List.forall_mem_cons.mpr ⟨lw_p39, List.forall_mem_cons.mpr ⟨lw_p40, List.forall_mem_cons.mpr ⟨lw_p41, List.forall_mem_cons.mpr ⟨lw_p42, List.forall_mem_cons.mpr ⟨lw_p43, List.forall_mem_cons.mpr ⟨lw_p44, List.forall_mem_cons.mpr ⟨lw_p45, List.forall_mem_cons.mpr ⟨lw_p46, List.forall_mem_cons.mpr ⟨lw_p47, fun _ h => absurd h List.not_mem_nil⟩⟩⟩⟩⟩⟩⟩⟩⟩⟩⟩⟩⟩⟩⟩⟩
theorem lw_p48 : lw_okq (⟨"TurnsOneWayModel", "valueAt", "(II)I"⟩, 59) := ⟨⟨by decide +kernel, by decide +kernel⟩, List.mem_of_getElem? (i := 935) (by decide +kernel), List.mem_of_getElem? (i := 1213) (by decide +kernel), List.mem_of_getElem? (i := 1214) (by decide +kernel)⟩
theorem lw_p49 : lw_okq (⟨"TurnsOneWayModel", "readText", "(I)I"⟩, 59) := ⟨⟨by decide +kernel, by decide +kernel⟩, List.mem_of_getElem? (i := 935) (by decide +kernel), List.mem_of_getElem? (i := 1221) (by decide +kernel), List.mem_of_getElem? (i := 1222) (by decide +kernel)⟩
theorem lw_p50 : lw_okq (⟨"TurnsOneWayModel", "line", "()V"⟩, 59) := ⟨⟨by decide +kernel, by decide +kernel⟩, List.mem_of_getElem? (i := 935) (by decide +kernel), List.mem_of_getElem? (i := 1225) (by decide +kernel), List.mem_of_getElem? (i := 1226) (by decide +kernel)⟩
theorem lw_p51 : lw_okq (⟨"TurnsOneWayModel", "either", "()V"⟩, 59) := ⟨⟨by decide +kernel, by decide +kernel⟩, List.mem_of_getElem? (i := 935) (by decide +kernel), List.mem_of_getElem? (i := 1229) (by decide +kernel), List.mem_of_getElem? (i := 1230) (by decide +kernel)⟩
theorem lw_p52 : lw_okq (⟨"TurnsOneWayModel", "both", "()V"⟩, 59) := ⟨⟨by decide +kernel, by decide +kernel⟩, List.mem_of_getElem? (i := 935) (by decide +kernel), List.mem_of_getElem? (i := 1233) (by decide +kernel), List.mem_of_getElem? (i := 1234) (by decide +kernel)⟩
theorem lw_p53 : lw_okq (⟨"TurnsOneWayModel", "compared", "()V"⟩, 59) := ⟨⟨by decide +kernel, by decide +kernel⟩, List.mem_of_getElem? (i := 935) (by decide +kernel), List.mem_of_getElem? (i := 1237) (by decide +kernel), List.mem_of_getElem? (i := 1238) (by decide +kernel)⟩
theorem lw_p54 : lw_okq (⟨"TurnsOneWayModel", "sum", "()V"⟩, 59) := ⟨⟨by decide +kernel, by decide +kernel⟩, List.mem_of_getElem? (i := 935) (by decide +kernel), List.mem_of_getElem? (i := 1241) (by decide +kernel), List.mem_of_getElem? (i := 1242) (by decide +kernel)⟩
theorem lw_p55 : lw_okq (⟨"TurnsOneWayModel", "product", "()V"⟩, 59) := ⟨⟨by decide +kernel, by decide +kernel⟩, List.mem_of_getElem? (i := 935) (by decide +kernel), List.mem_of_getElem? (i := 1245) (by decide +kernel), List.mem_of_getElem? (i := 1246) (by decide +kernel)⟩
theorem lw_p56 : lw_okq (⟨"TurnsOneWayModel", "operand", "()V"⟩, 59) := ⟨⟨by decide +kernel, by decide +kernel⟩, List.mem_of_getElem? (i := 935) (by decide +kernel), List.mem_of_getElem? (i := 1249) (by decide +kernel), List.mem_of_getElem? (i := 1250) (by decide +kernel)⟩
theorem lw_p57 : lw_okq (⟨"TurnsOneWayModel", "look", "()I"⟩, 59) := ⟨⟨by decide +kernel, by decide +kernel⟩, List.mem_of_getElem? (i := 935) (by decide +kernel), List.mem_of_getElem? (i := 1253) (by decide +kernel), List.mem_of_getElem? (i := 1254) (by decide +kernel)⟩
theorem lw_p58 : lw_okq (⟨"TurnsOneWayModel", "addStep", "(II)V"⟩, 59) := ⟨⟨by decide +kernel, by decide +kernel⟩, List.mem_of_getElem? (i := 935) (by decide +kernel), List.mem_of_getElem? (i := 1260) (by decide +kernel), List.mem_of_getElem? (i := 1261) (by decide +kernel)⟩
theorem lw_p59 : lw_okq (⟨"TurnsOneWayModel", "opens", "()Z"⟩, 59) := ⟨⟨by decide +kernel, by decide +kernel⟩, List.mem_of_getElem? (i := 935) (by decide +kernel), List.mem_of_getElem? (i := 1264) (by decide +kernel), List.mem_of_getElem? (i := 1265) (by decide +kernel)⟩
theorem lw_p60 : lw_okq (⟨"TurnsOneWayModel", "wrong", "()V"⟩, 59) := ⟨⟨by decide +kernel, by decide +kernel⟩, List.mem_of_getElem? (i := 935) (by decide +kernel), List.mem_of_getElem? (i := 1268) (by decide +kernel), List.mem_of_getElem? (i := 1269) (by decide +kernel)⟩
theorem lw_p61 : lw_okq (⟨"TurnsOneWayModel", "figure", "()V"⟩, 59) := ⟨⟨by decide +kernel, by decide +kernel⟩, List.mem_of_getElem? (i := 935) (by decide +kernel), List.mem_of_getElem? (i := 1272) (by decide +kernel), List.mem_of_getElem? (i := 1273) (by decide +kernel)⟩
theorem lw_p62 : lw_okq (⟨"TurnsOneWayModel", "isGoing", "(I)Z"⟩, 59) := ⟨⟨by decide +kernel, by decide +kernel⟩, List.mem_of_getElem? (i := 935) (by decide +kernel), List.mem_of_getElem? (i := 1284) (by decide +kernel), List.mem_of_getElem? (i := 1285) (by decide +kernel)⟩
theorem lw_p63 : lw_okq (⟨"TurnsOneWayModel", "isFloor", "(I)Z"⟩, 59) := ⟨⟨by decide +kernel, by decide +kernel⟩, List.mem_of_getElem? (i := 935) (by decide +kernel), List.mem_of_getElem? (i := 1288) (by decide +kernel), List.mem_of_getElem? (i := 1289) (by decide +kernel)⟩
def lw_privs_4 : List (MethodName × Nat) := [(⟨"TurnsOneWayModel", "valueAt", "(II)I"⟩, 59), (⟨"TurnsOneWayModel", "readText", "(I)I"⟩, 59), (⟨"TurnsOneWayModel", "line", "()V"⟩, 59), (⟨"TurnsOneWayModel", "either", "()V"⟩, 59), (⟨"TurnsOneWayModel", "both", "()V"⟩, 59), (⟨"TurnsOneWayModel", "compared", "()V"⟩, 59), (⟨"TurnsOneWayModel", "sum", "()V"⟩, 59), (⟨"TurnsOneWayModel", "product", "()V"⟩, 59), (⟨"TurnsOneWayModel", "operand", "()V"⟩, 59), (⟨"TurnsOneWayModel", "look", "()I"⟩, 59), (⟨"TurnsOneWayModel", "addStep", "(II)V"⟩, 59), (⟨"TurnsOneWayModel", "opens", "()Z"⟩, 59), (⟨"TurnsOneWayModel", "wrong", "()V"⟩, 59), (⟨"TurnsOneWayModel", "figure", "()V"⟩, 59), (⟨"TurnsOneWayModel", "isGoing", "(I)Z"⟩, 59), (⟨"TurnsOneWayModel", "isFloor", "(I)Z"⟩, 59)]
theorem lw_r4 : ∀ q ∈ lw_privs_4, lw_okq q := List.forall_mem_cons.mpr ⟨lw_p48, List.forall_mem_cons.mpr ⟨lw_p49, List.forall_mem_cons.mpr ⟨lw_p50, List.forall_mem_cons.mpr ⟨lw_p51, List.forall_mem_cons.mpr ⟨lw_p52, List.forall_mem_cons.mpr ⟨lw_p53, List.forall_mem_cons.mpr ⟨lw_p54, List.forall_mem_cons.mpr ⟨lw_p55, List.forall_mem_cons.mpr ⟨lw_p56, List.forall_mem_cons.mpr ⟨lw_p57, List.forall_mem_cons.mpr ⟨lw_p58, List.forall_mem_cons.mpr ⟨lw_p59, List.forall_mem_cons.mpr ⟨lw_p60, List.forall_mem_cons.mpr ⟨lw_p61, List.forall_mem_cons.mpr ⟨lw_p62, List.forall_mem_cons.mpr ⟨lw_p63, fun _ h => absurd h List.not_mem_nil⟩⟩⟩⟩⟩⟩⟩⟩⟩⟩⟩⟩⟩⟩⟩⟩
theorem lw_p64 : lw_okq (⟨"TurnsOneWayModel", "begin", "(II)V"⟩, 59) := ⟨⟨by decide +kernel, by decide +kernel⟩, List.mem_of_getElem? (i := 935) (by decide +kernel), List.mem_of_getElem? (i := 1296) (by decide +kernel), List.mem_of_getElem? (i := 1297) (by decide +kernel)⟩
theorem lw_p65 : lw_okq (⟨"TurnsOneWayModel", "note", "(I)V"⟩, 59) := ⟨⟨by decide +kernel, by decide +kernel⟩, List.mem_of_getElem? (i := 935) (by decide +kernel), List.mem_of_getElem? (i := 1300) (by decide +kernel), List.mem_of_getElem? (i := 1301) (by decide +kernel)⟩
theorem lw_p66 : lw_okq (⟨"TurnsOneWayModel", "go", "(IIII)V"⟩, 59) := ⟨⟨by decide +kernel, by decide +kernel⟩, List.mem_of_getElem? (i := 935) (by decide +kernel), List.mem_of_getElem? (i := 1304) (by decide +kernel), List.mem_of_getElem? (i := 1305) (by decide +kernel)⟩
theorem lw_p67 : lw_okq (⟨"TurnsOneWayModel", "takenBy", "(IIII)I"⟩, 59) := ⟨⟨by decide +kernel, by decide +kernel⟩, List.mem_of_getElem? (i := 935) (by decide +kernel), List.mem_of_getElem? (i := 1309) (by decide +kernel), List.mem_of_getElem? (i := 1310) (by decide +kernel)⟩
theorem lw_p68 : lw_okq (⟨"TurnsOneWayModel", "gives", "(I)I"⟩, 59) := ⟨⟨by decide +kernel, by decide +kernel⟩, List.mem_of_getElem? (i := 935) (by decide +kernel), List.mem_of_getElem? (i := 1313) (by decide +kernel), List.mem_of_getElem? (i := 1314) (by decide +kernel)⟩
theorem lw_p69 : lw_okq (⟨"TurnsOneWayModel", "worked", "(III)I"⟩, 59) := ⟨⟨by decide +kernel, by decide +kernel⟩, List.mem_of_getElem? (i := 935) (by decide +kernel), List.mem_of_getElem? (i := 1317) (by decide +kernel), List.mem_of_getElem? (i := 1318) (by decide +kernel)⟩
theorem lw_p70 : lw_okq (⟨"TurnsOneWayModel", "goThrough", "(IIIII)V"⟩, 59) := ⟨⟨by decide +kernel, by decide +kernel⟩, List.mem_of_getElem? (i := 935) (by decide +kernel), List.mem_of_getElem? (i := 1340) (by decide +kernel), List.mem_of_getElem? (i := 1341) (by decide +kernel)⟩
theorem lw_p71 : lw_okq (⟨"TurnsOneWayModel", "lookBack", "(I)V"⟩, 59) := ⟨⟨by decide +kernel, by decide +kernel⟩, List.mem_of_getElem? (i := 935) (by decide +kernel), List.mem_of_getElem? (i := 1344) (by decide +kernel), List.mem_of_getElem? (i := 1345) (by decide +kernel)⟩
theorem lw_p72 : lw_okq (⟨"TurnsOneWayModel", "screwed", "(III)I"⟩, 59) := ⟨⟨by decide +kernel, by decide +kernel⟩, List.mem_of_getElem? (i := 935) (by decide +kernel), List.mem_of_getElem? (i := 1356) (by decide +kernel), List.mem_of_getElem? (i := 1357) (by decide +kernel)⟩
theorem lw_p73 : lw_okq (⟨"TurnsOneWayModel", "draw", "(I)I"⟩, 59) := ⟨⟨by decide +kernel, by decide +kernel⟩, List.mem_of_getElem? (i := 935) (by decide +kernel), List.mem_of_getElem? (i := 1376) (by decide +kernel), List.mem_of_getElem? (i := 1377) (by decide +kernel)⟩
theorem lw_p74 : lw_okq (⟨"TurnsOneWayModel", "isFrame", "(II)Z"⟩, 59) := ⟨⟨by decide +kernel, by decide +kernel⟩, List.mem_of_getElem? (i := 935) (by decide +kernel), List.mem_of_getElem? (i := 1385) (by decide +kernel), List.mem_of_getElem? (i := 1386) (by decide +kernel)⟩
theorem lw_p75 : lw_okq (⟨"TurnsOneWayModel", "addFrame", "(II)V"⟩, 59) := ⟨⟨by decide +kernel, by decide +kernel⟩, List.mem_of_getElem? (i := 935) (by decide +kernel), List.mem_of_getElem? (i := 1389) (by decide +kernel), List.mem_of_getElem? (i := 1390) (by decide +kernel)⟩
theorem lw_p76 : lw_okq (⟨"TurnsOneWayModel", "offBy", "(IIII)I"⟩, 59) := ⟨⟨by decide +kernel, by decide +kernel⟩, List.mem_of_getElem? (i := 935) (by decide +kernel), List.mem_of_getElem? (i := 1408) (by decide +kernel), List.mem_of_getElem? (i := 1409) (by decide +kernel)⟩
theorem lw_p77 : lw_okq (⟨"TurnsOneWayModel", "isBody", "(I)Z"⟩, 59) := ⟨⟨by decide +kernel, by decide +kernel⟩, List.mem_of_getElem? (i := 935) (by decide +kernel), List.mem_of_getElem? (i := 1441) (by decide +kernel), List.mem_of_getElem? (i := 1442) (by decide +kernel)⟩
theorem lw_p78 : lw_okq (⟨"TurnsOneWayModel", "rolls", "(II)I"⟩, 59) := ⟨⟨by decide +kernel, by decide +kernel⟩, List.mem_of_getElem? (i := 935) (by decide +kernel), List.mem_of_getElem? (i := 1445) (by decide +kernel), List.mem_of_getElem? (i := 1446) (by decide +kernel)⟩
theorem lw_p79 : lw_okq (⟨"TurnsOneWayModel", "ran", "(I)V"⟩, 59) := ⟨⟨by decide +kernel, by decide +kernel⟩, List.mem_of_getElem? (i := 935) (by decide +kernel), List.mem_of_getElem? (i := 1449) (by decide +kernel), List.mem_of_getElem? (i := 1450) (by decide +kernel)⟩
def lw_privs_5 : List (MethodName × Nat) := [(⟨"TurnsOneWayModel", "begin", "(II)V"⟩, 59), (⟨"TurnsOneWayModel", "note", "(I)V"⟩, 59), (⟨"TurnsOneWayModel", "go", "(IIII)V"⟩, 59), (⟨"TurnsOneWayModel", "takenBy", "(IIII)I"⟩, 59), (⟨"TurnsOneWayModel", "gives", "(I)I"⟩, 59), (⟨"TurnsOneWayModel", "worked", "(III)I"⟩, 59), (⟨"TurnsOneWayModel", "goThrough", "(IIIII)V"⟩, 59), (⟨"TurnsOneWayModel", "lookBack", "(I)V"⟩, 59), (⟨"TurnsOneWayModel", "screwed", "(III)I"⟩, 59), (⟨"TurnsOneWayModel", "draw", "(I)I"⟩, 59), (⟨"TurnsOneWayModel", "isFrame", "(II)Z"⟩, 59), (⟨"TurnsOneWayModel", "addFrame", "(II)V"⟩, 59), (⟨"TurnsOneWayModel", "offBy", "(IIII)I"⟩, 59), (⟨"TurnsOneWayModel", "isBody", "(I)Z"⟩, 59), (⟨"TurnsOneWayModel", "rolls", "(II)I"⟩, 59), (⟨"TurnsOneWayModel", "ran", "(I)V"⟩, 59)]
theorem lw_r5 : ∀ q ∈ lw_privs_5, lw_okq q := List.forall_mem_cons.mpr ⟨lw_p64, List.forall_mem_cons.mpr ⟨lw_p65, List.forall_mem_cons.mpr ⟨lw_p66, List.forall_mem_cons.mpr ⟨lw_p67, List.forall_mem_cons.mpr ⟨lw_p68, List.forall_mem_cons.mpr ⟨lw_p69, List.forall_mem_cons.mpr ⟨lw_p70, List.forall_mem_cons.mpr ⟨lw_p71, List.forall_mem_cons.mpr ⟨lw_p72, List.forall_mem_cons.mpr ⟨lw_p73, List.forall_mem_cons.mpr ⟨lw_p74, List.forall_mem_cons.mpr ⟨lw_p75, List.forall_mem_cons.mpr ⟨lw_p76, List.forall_mem_cons.mpr ⟨lw_p77, List.forall_mem_cons.mpr ⟨lw_p78, List.forall_mem_cons.mpr ⟨lw_p79, fun _ h => absurd h List.not_mem_nil⟩⟩⟩⟩⟩⟩⟩⟩⟩⟩⟩⟩⟩⟩⟩⟩
theorem lw_p80 : lw_okq (⟨"TurnsOneWayModel", "keptRolls", "(II)I"⟩, 59) := ⟨⟨by decide +kernel, by decide +kernel⟩, List.mem_of_getElem? (i := 935) (by decide +kernel), List.mem_of_getElem? (i := 1453) (by decide +kernel), List.mem_of_getElem? (i := 1454) (by decide +kernel)⟩
theorem lw_p81 : lw_okq (⟨"TurnsOneWayModel", "plainRolls", "(II)I"⟩, 59) := ⟨⟨by decide +kernel, by decide +kernel⟩, List.mem_of_getElem? (i := 935) (by decide +kernel), List.mem_of_getElem? (i := 1457) (by decide +kernel), List.mem_of_getElem? (i := 1458) (by decide +kernel)⟩
theorem lw_p82 : lw_okq (⟨"TurnsOneWayModel", "trades", "(II)I"⟩, 59) := ⟨⟨by decide +kernel, by decide +kernel⟩, List.mem_of_getElem? (i := 935) (by decide +kernel), List.mem_of_getElem? (i := 1461) (by decide +kernel), List.mem_of_getElem? (i := 1462) (by decide +kernel)⟩
theorem lw_p83 : lw_okq (⟨"TurnsOneWayModel", "turnedTrades", "(II)I"⟩, 59) := ⟨⟨by decide +kernel, by decide +kernel⟩, List.mem_of_getElem? (i := 935) (by decide +kernel), List.mem_of_getElem? (i := 1465) (by decide +kernel), List.mem_of_getElem? (i := 1466) (by decide +kernel)⟩
theorem lw_p84 : lw_okq (⟨"TurnsOneWayModel", "plainTrades", "(II)I"⟩, 59) := ⟨⟨by decide +kernel, by decide +kernel⟩, List.mem_of_getElem? (i := 935) (by decide +kernel), List.mem_of_getElem? (i := 1469) (by decide +kernel), List.mem_of_getElem? (i := 1470) (by decide +kernel)⟩
theorem lw_p85 : lw_okq (⟨"TurnsOneWayModel", "ends", "(II)I"⟩, 59) := ⟨⟨by decide +kernel, by decide +kernel⟩, List.mem_of_getElem? (i := 935) (by decide +kernel), List.mem_of_getElem? (i := 1473) (by decide +kernel), List.mem_of_getElem? (i := 1474) (by decide +kernel)⟩
theorem lw_p86 : lw_okq (⟨"TurnsOneWayModel", "plainEnds", "(II)I"⟩, 59) := ⟨⟨by decide +kernel, by decide +kernel⟩, List.mem_of_getElem? (i := 935) (by decide +kernel), List.mem_of_getElem? (i := 1477) (by decide +kernel), List.mem_of_getElem? (i := 1478) (by decide +kernel)⟩
theorem lw_p87 : lw_okq (⟨"TurnsOneWayModel", "tells", "(II)I"⟩, 59) := ⟨⟨by decide +kernel, by decide +kernel⟩, List.mem_of_getElem? (i := 935) (by decide +kernel), List.mem_of_getElem? (i := 1484) (by decide +kernel), List.mem_of_getElem? (i := 1485) (by decide +kernel)⟩
theorem lw_p88 : lw_okq (⟨"TurnsOneWayModel", "plainTells", "(II)I"⟩, 59) := ⟨⟨by decide +kernel, by decide +kernel⟩, List.mem_of_getElem? (i := 935) (by decide +kernel), List.mem_of_getElem? (i := 1488) (by decide +kernel), List.mem_of_getElem? (i := 1489) (by decide +kernel)⟩
theorem lw_p89 : lw_okq (⟨"TurnsOneWayModel", "whyNoPlace", "(II)I"⟩, 59) := ⟨⟨by decide +kernel, by decide +kernel⟩, List.mem_of_getElem? (i := 935) (by decide +kernel), List.mem_of_getElem? (i := 1508) (by decide +kernel), List.mem_of_getElem? (i := 1509) (by decide +kernel)⟩
def lw_privs_6 : List (MethodName × Nat) := [(⟨"TurnsOneWayModel", "keptRolls", "(II)I"⟩, 59), (⟨"TurnsOneWayModel", "plainRolls", "(II)I"⟩, 59), (⟨"TurnsOneWayModel", "trades", "(II)I"⟩, 59), (⟨"TurnsOneWayModel", "turnedTrades", "(II)I"⟩, 59), (⟨"TurnsOneWayModel", "plainTrades", "(II)I"⟩, 59), (⟨"TurnsOneWayModel", "ends", "(II)I"⟩, 59), (⟨"TurnsOneWayModel", "plainEnds", "(II)I"⟩, 59), (⟨"TurnsOneWayModel", "tells", "(II)I"⟩, 59), (⟨"TurnsOneWayModel", "plainTells", "(II)I"⟩, 59), (⟨"TurnsOneWayModel", "whyNoPlace", "(II)I"⟩, 59)]
theorem lw_r6 : ∀ q ∈ lw_privs_6, lw_okq q := List.forall_mem_cons.mpr ⟨lw_p80, List.forall_mem_cons.mpr ⟨lw_p81, List.forall_mem_cons.mpr ⟨lw_p82, List.forall_mem_cons.mpr ⟨lw_p83, List.forall_mem_cons.mpr ⟨lw_p84, List.forall_mem_cons.mpr ⟨lw_p85, List.forall_mem_cons.mpr ⟨lw_p86, List.forall_mem_cons.mpr ⟨lw_p87, List.forall_mem_cons.mpr ⟨lw_p88, List.forall_mem_cons.mpr ⟨lw_p89, fun _ h => absurd h List.not_mem_nil⟩⟩⟩⟩⟩⟩⟩⟩⟩⟩
def lw_privs : List (MethodName × Nat) := lw_privs_1 ++ (lw_privs_2 ++ (lw_privs_3 ++ (lw_privs_4 ++ (lw_privs_5 ++ (lw_privs_6)))))
def lw_tbl : List Cond := k2_sels lw_privs ++ tables_1
theorem lw_privs_ok : ∀ q ∈ lw_privs, lw_okq q := by
  show ∀ q ∈ lw_privs_1 ++ (lw_privs_2 ++ (lw_privs_3 ++ (lw_privs_4 ++ (lw_privs_5 ++ (lw_privs_6))))), lw_okq q
  exact List.forall_mem_append.mpr ⟨lw_r1, List.forall_mem_append.mpr ⟨lw_r2, List.forall_mem_append.mpr ⟨lw_r3, List.forall_mem_append.mpr ⟨lw_r4, List.forall_mem_append.mpr ⟨lw_r5, lw_r6⟩⟩⟩⟩⟩
-- ===== classes, methods, tables by place
def T0 : u_T := fun k => match k with
  | 0 => ("TurnsOneWay$Bodies", "kinds", "[I", true)
  | 1 => ("TurnsOneWay$Bodies", "ranNumbers", "[I", true)
  | 2 => ("TurnsOneWay$Bodies", "length", "I", false)
  | 3 => ("TurnsOneWay$Bodies", "ran", "I", false)
  | 4 => ("TurnsOneWay$Bodies", "self", "I", false)
  | _ => ("TurnsOneWay$Bodies", "selfKind", "I", false)
def T1 : u_T := fun k => match k with
  | 0 => ("TurnsOneWay$Changes", "parts", "[I", true)
  | 1 => ("TurnsOneWay$Changes", "done", "I", false)
  | _ => ("TurnsOneWay$Changes", "all", "I", false)
def T2 : u_T := fun k => match k with
  | 0 => ("TurnsOneWay$Film", "ticks", "[I", true)
  | 1 => ("TurnsOneWay$Film", "turns", "[I", true)
  | _ => ("TurnsOneWay$Film", "length", "I", false)
def T3 : u_T := fun k => match k with
  | 0 => ("TurnsOneWay$Floor", "codes", "[I", true)
  | 1 => ("TurnsOneWay$Floor", "lefts", "[I", true)
  | 2 => ("TurnsOneWay$Floor", "rights", "[I", true)
  | 3 => ("TurnsOneWay$Floor", "values", "[I", true)
  | 4 => ("TurnsOneWay$Floor", "length", "I", false)
  | 5 => ("TurnsOneWay$Floor", "w", "I", false)
  | 6 => ("TurnsOneWay$Floor", "v", "I", false)
  | 7 => ("TurnsOneWay$Floor", "s", "I", false)
  | 8 => ("TurnsOneWay$Floor", "p", "I", false)
  | 9 => ("TurnsOneWay$Floor", "q", "I", false)
  | _ => ("TurnsOneWay$Floor", "i", "I", false)
def T4 : u_T := fun k => match k with
  | 0 => ("TurnsOneWay$Going", "turns", "[I", true)
  | 1 => ("TurnsOneWay$Going", "ps", "[I", true)
  | 2 => ("TurnsOneWay$Going", "qs", "[I", true)
  | 3 => ("TurnsOneWay$Going", "last", "I", false)
  | 4 => ("TurnsOneWay$Going", "backs", "I", false)
  | 5 => ("TurnsOneWay$Going", "turned", "I", false)
  | 6 => ("TurnsOneWay$Going", "lostS", "I", false)
  | 7 => ("TurnsOneWay$Going", "lostP", "I", false)
  | _ => ("TurnsOneWay$Going", "lostQ", "I", false)
def T5 : u_T := fun k => match k with
  | 0 => ("TurnsOneWay$Motion", "keen", "I", false)
  | 1 => ("TurnsOneWay$Motion", "a", "I", false)
  | 2 => ("TurnsOneWay$Motion", "b", "I", false)
  | 3 => ("TurnsOneWay$Motion", "c", "I", false)
  | 4 => ("TurnsOneWay$Motion", "d", "I", false)
  | 5 => ("TurnsOneWay$Motion", "floor", "LTurnsOneWay$Floor;", false)
  | 6 => ("TurnsOneWay$Motion", "percent", "I", false)
  | 7 => ("TurnsOneWay$Motion", "s", "I", false)
  | 8 => ("TurnsOneWay$Motion", "p", "I", false)
  | 9 => ("TurnsOneWay$Motion", "q", "I", false)
  | 10 => ("TurnsOneWay$Motion", "tick", "I", false)
  | 11 => ("TurnsOneWay$Motion", "side", "I", false)
  | 12 => ("TurnsOneWay$Motion", "backs", "I", false)
  | 13 => ("TurnsOneWay$Motion", "turned", "I", false)
  | 14 => ("TurnsOneWay$Motion", "lostS", "I", false)
  | 15 => ("TurnsOneWay$Motion", "lostP", "I", false)
  | _ => ("TurnsOneWay$Motion", "lostQ", "I", false)
def T6 : u_T := fun k => match k with
  | 0 => ("TurnsOneWay$Shelf", "elements", "[J", true)
  | 1 => ("TurnsOneWay$Shelf", "body", "I", false)
  | 2 => ("TurnsOneWay$Shelf", "sort", "I", false)
  | _ => ("TurnsOneWay$Shelf", "length", "I", false)
def T7 : u_T := fun k => match k with
  | 0 => ("TurnsOneWay$Stone", "weights", "[I", true)
  | 1 => ("TurnsOneWay$Stone", "xs", "[I", true)
  | 2 => ("TurnsOneWay$Stone", "ys", "[I", true)
  | 3 => ("TurnsOneWay$Stone", "rates", "[I", true)
  | 4 => ("TurnsOneWay$Stone", "lumps", "I", false)
  | 5 => ("TurnsOneWay$Stone", "sum", "I", false)
  | 6 => ("TurnsOneWay$Stone", "sumX", "I", false)
  | 7 => ("TurnsOneWay$Stone", "sumY", "I", false)
  | 8 => ("TurnsOneWay$Stone", "sumXX", "I", false)
  | 9 => ("TurnsOneWay$Stone", "sumYY", "I", false)
  | _ => ("TurnsOneWay$Stone", "sumXY", "I", false)
def T8 : u_T := fun k => match k with
  | 0 => ("TurnsOneWay$Tape", "bytes", "[B", true)
  | 1 => ("TurnsOneWay$Tape", "length", "I", false)
  | _ => ("TurnsOneWay$Tape", "at", "I", false)
def T9 : u_T := fun k => match k with
  | 0 => ("TurnsOneWay", "tape", "LTurnsOneWay$Tape;", true)
  | 1 => ("TurnsOneWay", "stones", "[LTurnsOneWay$Stone;", true)
  | 2 => ("TurnsOneWay", "floors", "[LTurnsOneWay$Floor;", true)
  | 3 => ("TurnsOneWay", "shelves", "[LTurnsOneWay$Shelf;", true)
  | 4 => ("TurnsOneWay", "motion", "LTurnsOneWay$Motion;", true)
  | 5 => ("TurnsOneWay", "kept", "LTurnsOneWay$Going;", true)
  | 6 => ("TurnsOneWay", "film", "LTurnsOneWay$Film;", true)
  | 7 => ("TurnsOneWay", "changes", "LTurnsOneWay$Changes;", true)
  | 8 => ("TurnsOneWay", "bodies", "LTurnsOneWay$Bodies;", true)
  | 9 => ("TurnsOneWay", "stoneCount", "I", false)
  | _ => ("TurnsOneWay", "floorCount", "I", false)
def T10 : u_T := fun k => match k with
  | 0 => ("TurnsOneWayModel", "code", "I", false)
  | 1 => ("TurnsOneWayModel", "tape", "[B", true)
  | 2 => ("TurnsOneWayModel", "taped", "I", false)
  | 3 => ("TurnsOneWayModel", "stones", "I", false)
  | 4 => ("TurnsOneWayModel", "lumps", "[I", true)
  | 5 => ("TurnsOneWayModel", "weight", "[I", true)
  | 6 => ("TurnsOneWayModel", "atX", "[I", true)
  | 7 => ("TurnsOneWayModel", "atY", "[I", true)
  | 8 => ("TurnsOneWayModel", "numbers", "[I", true)
  | 9 => ("TurnsOneWayModel", "screw", "I", false)
  | 10 => ("TurnsOneWayModel", "screwX", "I", false)
  | 11 => ("TurnsOneWayModel", "screwY", "I", false)
  | 12 => ("TurnsOneWayModel", "doneMany", "I", false)
  | 13 => ("TurnsOneWayModel", "undoneMany", "I", false)
  | 14 => ("TurnsOneWayModel", "changeOf", "[I", true)
  | 15 => ("TurnsOneWayModel", "changeAt", "[I", true)
  | 16 => ("TurnsOneWayModel", "before", "[I", true)
  | 17 => ("TurnsOneWayModel", "behind", "[I", true)
  | 18 => ("TurnsOneWayModel", "here", "I", false)
  | 19 => ("TurnsOneWayModel", "fault", "I", false)
  | 20 => ("TurnsOneWayModel", "open", "I", false)
  | 21 => ("TurnsOneWayModel", "laid", "I", false)
  | 22 => ("TurnsOneWayModel", "act", "[B", true)
  | 23 => ("TurnsOneWayModel", "with", "[I", true)
  | 24 => ("TurnsOneWayModel", "lineMany", "[I", true)
  | 25 => ("TurnsOneWayModel", "testEnd", "[S", true)
  | 26 => ("TurnsOneWayModel", "lineEnd", "[S", true)
  | 27 => ("TurnsOneWayModel", "facts", "[I", true)
  | 28 => ("TurnsOneWayModel", "pile", "[I", true)
  | 29 => ("TurnsOneWayModel", "floors", "I", false)
  | 30 => ("TurnsOneWayModel", "turn", "I", false)
  | 31 => ("TurnsOneWayModel", "left", "I", false)
  | 32 => ("TurnsOneWayModel", "right", "I", false)
  | 33 => ("TurnsOneWayModel", "lostTurn", "I", false)
  | 34 => ("TurnsOneWayModel", "lostLeft", "I", false)
  | 35 => ("TurnsOneWayModel", "lostRight", "I", false)
  | 36 => ("TurnsOneWayModel", "turns", "[I", true)
  | 37 => ("TurnsOneWayModel", "lefts", "[I", true)
  | 38 => ("TurnsOneWayModel", "rights", "[I", true)
  | 39 => ("TurnsOneWayModel", "kept", "I", false)
  | 40 => ("TurnsOneWayModel", "keptTurn", "I", false)
  | 41 => ("TurnsOneWayModel", "keptLeft", "I", false)
  | 42 => ("TurnsOneWayModel", "keptRight", "I", false)
  | 43 => ("TurnsOneWayModel", "lastSign", "I", false)
  | 44 => ("TurnsOneWayModel", "backMany", "I", false)
  | 45 => ("TurnsOneWayModel", "firstBack", "I", false)
  | 46 => ("TurnsOneWayModel", "drawn", "I", false)
  | 47 => ("TurnsOneWayModel", "frames", "I", false)
  | 48 => ("TurnsOneWayModel", "frameTick", "[I", true)
  | 49 => ("TurnsOneWayModel", "frameTurn", "[I", true)
  | 50 => ("TurnsOneWayModel", "ways", "[J", true)
  | 51 => ("TurnsOneWayModel", "bodies", "I", false)
  | 52 => ("TurnsOneWayModel", "kind", "[I", true)
  | 53 => ("TurnsOneWayModel", "traces", "I", false)
  | 54 => ("TurnsOneWayModel", "traced", "[I", true)
  | 55 => ("TurnsOneWayModel", "holds", "[I", true)
  | 56 => ("TurnsOneWayModel", "size", "[I", true)
  | 57 => ("TurnsOneWayModel", "elements", "[J", true)
  | _ => ("TurnsOneWayModel", "shifted", "[J", true)
def oN : Nat → String := fun k => match k with
  | 0 => "TurnsOneWay$Bodies"
  | 1 => "TurnsOneWay$Changes"
  | 2 => "TurnsOneWay$Film"
  | 3 => "TurnsOneWay$Floor"
  | 4 => "TurnsOneWay$Going"
  | 5 => "TurnsOneWay$Motion"
  | 6 => "TurnsOneWay$Shelf"
  | 7 => "TurnsOneWay$Stone"
  | 8 => "TurnsOneWay$Tape"
  | 9 => "TurnsOneWay"
  | 10 => "TurnsOneWayModel"
  | 11 => "TurnsOneWayLaw"
  | 12 => "java/lang/Integer"
  | _ => "java/lang/Math"
def cls : List vw_C := [("TurnsOneWay$Bodies", T0, 6), ("TurnsOneWay$Changes", T1, 3), ("TurnsOneWay$Film", T2, 3), ("TurnsOneWay$Floor", T3, 11), ("TurnsOneWay$Going", T4, 9), ("TurnsOneWay$Motion", T5, 17), ("TurnsOneWay$Shelf", T6, 4), ("TurnsOneWay$Stone", T7, 11), ("TurnsOneWay$Tape", T8, 3), ("TurnsOneWay", T9, 11), ("TurnsOneWayModel", T10, 59)]
def ft0 : Nat → FieldType := fun k => match k with
  | 0 => .array .int
  | 1 => .array .int
  | 2 => .int
  | 3 => .int
  | 4 => .int
  | _ => .int
def ft1 : Nat → FieldType := fun k => match k with
  | 0 => .array .int
  | 1 => .int
  | _ => .int
def ft2 : Nat → FieldType := fun k => match k with
  | 0 => .array .int
  | 1 => .array .int
  | _ => .int
def ft3 : Nat → FieldType := fun k => match k with
  | 0 => .array .int
  | 1 => .array .int
  | 2 => .array .int
  | 3 => .array .int
  | 4 => .int
  | 5 => .int
  | 6 => .int
  | 7 => .int
  | 8 => .int
  | 9 => .int
  | _ => .int
def ft4 : Nat → FieldType := fun k => match k with
  | 0 => .array .int
  | 1 => .array .int
  | 2 => .array .int
  | 3 => .int
  | 4 => .int
  | 5 => .int
  | 6 => .int
  | 7 => .int
  | _ => .int
def ft5 : Nat → FieldType := fun k => match k with
  | 0 => .int
  | 1 => .int
  | 2 => .int
  | 3 => .int
  | 4 => .int
  | 5 => .object "TurnsOneWay$Floor"
  | 6 => .int
  | 7 => .int
  | 8 => .int
  | 9 => .int
  | 10 => .int
  | 11 => .int
  | 12 => .int
  | 13 => .int
  | 14 => .int
  | 15 => .int
  | _ => .int
def ft6 : Nat → FieldType := fun k => match k with
  | 0 => .array .long
  | 1 => .int
  | 2 => .int
  | _ => .int
def ft7 : Nat → FieldType := fun k => match k with
  | 0 => .array .int
  | 1 => .array .int
  | 2 => .array .int
  | 3 => .array .int
  | 4 => .int
  | 5 => .int
  | 6 => .int
  | 7 => .int
  | 8 => .int
  | 9 => .int
  | _ => .int
def ft8 : Nat → FieldType := fun k => match k with
  | 0 => .array .byte
  | 1 => .int
  | _ => .int
def ft9 : Nat → FieldType := fun k => match k with
  | 0 => .object "TurnsOneWay$Tape"
  | 1 => .array (.object "TurnsOneWay$Stone")
  | 2 => .array (.object "TurnsOneWay$Floor")
  | 3 => .array (.object "TurnsOneWay$Shelf")
  | 4 => .object "TurnsOneWay$Motion"
  | 5 => .object "TurnsOneWay$Going"
  | 6 => .object "TurnsOneWay$Film"
  | 7 => .object "TurnsOneWay$Changes"
  | 8 => .object "TurnsOneWay$Bodies"
  | 9 => .int
  | _ => .int
def ft10 : Nat → FieldType := fun k => match k with
  | 0 => .int
  | 1 => .array .byte
  | 2 => .int
  | 3 => .int
  | 4 => .array .int
  | 5 => .array .int
  | 6 => .array .int
  | 7 => .array .int
  | 8 => .array .int
  | 9 => .int
  | 10 => .int
  | 11 => .int
  | 12 => .int
  | 13 => .int
  | 14 => .array .int
  | 15 => .array .int
  | 16 => .array .int
  | 17 => .array .int
  | 18 => .int
  | 19 => .int
  | 20 => .int
  | 21 => .int
  | 22 => .array .byte
  | 23 => .array .int
  | 24 => .array .int
  | 25 => .array .short
  | 26 => .array .short
  | 27 => .array .int
  | 28 => .array .int
  | 29 => .int
  | 30 => .int
  | 31 => .int
  | 32 => .int
  | 33 => .int
  | 34 => .int
  | 35 => .int
  | 36 => .array .int
  | 37 => .array .int
  | 38 => .array .int
  | 39 => .int
  | 40 => .int
  | 41 => .int
  | 42 => .int
  | 43 => .int
  | 44 => .int
  | 45 => .int
  | 46 => .int
  | 47 => .int
  | 48 => .array .int
  | 49 => .array .int
  | 50 => .array .long
  | 51 => .int
  | 52 => .array .int
  | 53 => .int
  | 54 => .array .int
  | 55 => .array .int
  | 56 => .array .int
  | 57 => .array .long
  | _ => .array .long
def ftC : Nat → Nat → FieldType := fun c => match c with
  | 0 => ft0
  | 1 => ft1
  | 2 => ft2
  | 3 => ft3
  | 4 => ft4
  | 5 => ft5
  | 6 => ft6
  | 7 => ft7
  | 8 => ft8
  | 9 => ft9
  | _ => ft10
def dfl : Nat → List Value := fun c => match c with
  | 0 => [.null, .null, .int 0, .int 0, .int 0, .int 0]
  | 1 => [.null, .int 0, .int 0]
  | 2 => [.null, .null, .int 0]
  | 3 => [.null, .null, .null, .null, .int 0, .int 0, .int 0, .int 0, .int 0, .int 0, .int 0]
  | 4 => [.null, .null, .null, .int 0, .int 0, .int 0, .int 0, .int 0, .int 0]
  | 5 => [.int 0, .int 0, .int 0, .int 0, .int 0, .null, .int 0, .int 0, .int 0, .int 0, .int 0, .int 0, .int 0, .int 0, .int 0, .int 0, .int 0]
  | 6 => [.null, .int 0, .int 0, .int 0]
  | 7 => [.null, .null, .null, .null, .int 0, .int 0, .int 0, .int 0, .int 0, .int 0, .int 0]
  | 8 => [.null, .int 0, .int 0]
  | 9 => [.null, .null, .null, .null, .null, .null, .null, .null, .null, .int 0, .int 0]
  | _ => [.int 0, .null, .int 0, .int 0, .null, .null, .null, .null, .null, .int 0, .int 0, .int 0, .int 0, .int 0, .null, .null, .null, .null, .int 0, .int 0, .int 0, .int 0, .null, .null, .null, .null, .null, .null, .null, .int 0, .int 0, .int 0, .int 0, .int 0, .int 0, .int 0, .null, .null, .null, .int 0, .int 0, .int 0, .int 0, .int 0, .int 0, .int 0, .int 0, .int 0, .null, .null, .null, .int 0, .null, .int 0, .null, .null, .null, .null, .null]
def tyL : List FieldType := [.int, .long, .byte, .short, .object "TurnsOneWay$Stone", .object "TurnsOneWay$Floor", .object "TurnsOneWay$Shelf"]
abbrev MI : Type := Nat × MethodName × ByteArray × Nat × Option FieldType
def MBo_init : MI := (0, ⟨"TurnsOneWay$Bodies", "<init>", "()V"⟩, prog_2_method_1_code, 1, none)
def MBo_append : MI := (0, ⟨"TurnsOneWay$Bodies", "append", "(I)Z"⟩, prog_2_method_2_code, 2, (some .boolean))
def MBo_kindOf : MI := (0, ⟨"TurnsOneWay$Bodies", "kindOf", "(I)I"⟩, prog_2_method_3_code, 2, (some .int))
def MBo_above : MI := (0, ⟨"TurnsOneWay$Bodies", "above", "(I)I"⟩, prog_2_method_4_code, 1, (some .int))
def MBo_isUnder : MI := (0, ⟨"TurnsOneWay$Bodies", "isUnder", "(II)Z"⟩, prog_2_method_5_code, 4, (some .boolean))
def MBo_ownNumber : MI := (0, ⟨"TurnsOneWay$Bodies", "ownNumber", "(II)I"⟩, prog_2_method_6_code, 3, (some .int))
def MBo_traced : MI := (0, ⟨"TurnsOneWay$Bodies", "traced", "(I)I"⟩, prog_2_method_7_code, 2, (some .int))
def MBo_perform : MI := (0, ⟨"TurnsOneWay$Bodies", "perform", "(III)I"⟩, prog_2_method_8_code, 4, (some .int))
def MBo_ask : MI := (0, ⟨"TurnsOneWay$Bodies", "ask", "(IIII)I"⟩, prog_2_method_9_code, 7, (some .int))
def MBo_run : MI := (0, ⟨"TurnsOneWay$Bodies", "run", "(IIII)I"⟩, prog_2_method_10_code, 5, (some .int))
def MCh_init : MI := (1, ⟨"TurnsOneWay$Changes", "<init>", "()V"⟩, prog_3_method_1_code, 1, none)
def MCh_note : MI := (1, ⟨"TurnsOneWay$Changes", "note", "(IIII)V"⟩, prog_3_method_2_code, 5, none)
def MCh_write : MI := (1, ⟨"TurnsOneWay$Changes", "write", "(II)V"⟩, prog_3_method_3_code, 4, none)
def MCh_part : MI := (1, ⟨"TurnsOneWay$Changes", "part", "(II)I"⟩, prog_3_method_4_code, 4, (some .int))
def MFi_init : MI := (2, ⟨"TurnsOneWay$Film", "<init>", "()V"⟩, prog_4_method_1_code, 1, none)
def MFi_mayCome : MI := (2, ⟨"TurnsOneWay$Film", "mayCome", "(II)Z"⟩, prog_4_method_2_code, 4, (some .boolean))
def MFi_append : MI := (2, ⟨"TurnsOneWay$Film", "append", "(II)Z"⟩, prog_4_method_3_code, 3, (some .boolean))
def MFi_takeFrom : MI := (2, ⟨"TurnsOneWay$Film", "takeFrom", "(LTurnsOneWay$Shelf;II)I"⟩, prog_4_method_4_code, 9, (some .int))
def MFi_tickAt : MI := (2, ⟨"TurnsOneWay$Film", "tickAt", "(I)I"⟩, prog_4_method_5_code, 2, (some .int))
def MFi_turnAt : MI := (2, ⟨"TurnsOneWay$Film", "turnAt", "(I)I"⟩, prog_4_method_6_code, 2, (some .int))
def MFl_init : MI := (3, ⟨"TurnsOneWay$Floor", "<init>", "()V"⟩, prog_5_method_1_code, 1, none)
def MFl_readFrom : MI := (3, ⟨"TurnsOneWay$Floor", "readFrom", "(LTurnsOneWay$Tape;)Z"⟩, prog_5_method_2_code, 4, (some .boolean))
def MFl_readLine : MI := (3, ⟨"TurnsOneWay$Floor", "readLine", "(LTurnsOneWay$Tape;)Z"⟩, prog_5_method_3_code, 3, (some .boolean))
def MFl_readJoined : MI := (3, ⟨"TurnsOneWay$Floor", "readJoined", "(LTurnsOneWay$Tape;II)I"⟩, prog_5_method_4_code, 9, (some .int))
def MFl_levelOf : MI := (3, ⟨"TurnsOneWay$Floor", "levelOf", "(I)I"⟩, prog_5_method_5_code, 1, (some .int))
def MFl_readOne : MI := (3, ⟨"TurnsOneWay$Floor", "readOne", "(LTurnsOneWay$Tape;I)I"⟩, prog_5_method_6_code, 5, (some .int))
def MFl_readOpened : MI := (3, ⟨"TurnsOneWay$Floor", "readOpened", "(LTurnsOneWay$Tape;II)I"⟩, prog_5_method_7_code, 5, (some .int))
def MFl_append : MI := (3, ⟨"TurnsOneWay$Floor", "append", "(III)I"⟩, prog_5_method_8_code, 4, (some .int))
def MFl_appendNumber : MI := (3, ⟨"TurnsOneWay$Floor", "appendNumber", "(I)I"⟩, prog_5_method_9_code, 3, (some .int))
def MFl_name : MI := (3, ⟨"TurnsOneWay$Floor", "name", "(IIII)V"⟩, prog_5_method_10_code, 5, none)
def MFl_takes : MI := (3, ⟨"TurnsOneWay$Floor", "takes", "(II)I"⟩, prog_5_method_11_code, 7, (some .int))
def MFl_valueAt : MI := (3, ⟨"TurnsOneWay$Floor", "valueAt", "(I)I"⟩, prog_5_method_12_code, 2, (some .int))
def MFl_result : MI := (3, ⟨"TurnsOneWay$Floor", "result", "(III)I"⟩, prog_5_method_13_code, 4, (some .int))
def MGo_init : MI := (4, ⟨"TurnsOneWay$Going", "<init>", "()V"⟩, prog_6_method_1_code, 1, none)
def MGo_isThere : MI := (4, ⟨"TurnsOneWay$Going", "isThere", "()Z"⟩, prog_6_method_2_code, 1, (some .boolean))
def MGo_record : MI := (4, ⟨"TurnsOneWay$Going", "record", "(LTurnsOneWay$Motion;I)V"⟩, prog_6_method_3_code, 4, none)
def MGo_note : MI := (4, ⟨"TurnsOneWay$Going", "note", "(LTurnsOneWay$Motion;I)V"⟩, prog_6_method_4_code, 3, none)
def MGo_at : MI := (4, ⟨"TurnsOneWay$Going", "at", "(II)I"⟩, prog_6_method_5_code, 3, (some .int))
def MGo_backTick : MI := (4, ⟨"TurnsOneWay$Going", "backTick", "(I)I"⟩, prog_6_method_6_code, 6, (some .int))
def MGo_summary : MI := (4, ⟨"TurnsOneWay$Going", "summary", "(I)I"⟩, prog_6_method_7_code, 2, (some .int))
def MGo_ended : MI := (4, ⟨"TurnsOneWay$Going", "ended", "()I"⟩, prog_6_method_8_code, 2, (some .int))
def MMo_init : MI := (5, ⟨"TurnsOneWay$Motion", "<init>", "()V"⟩, prog_7_method_1_code, 1, none)
def MMo_rule : MI := (5, ⟨"TurnsOneWay$Motion", "rule", "(LTurnsOneWay$Stone;ILTurnsOneWay$Floor;)V"⟩, prog_7_method_2_code, 4, none)
def MMo_start : MI := (5, ⟨"TurnsOneWay$Motion", "start", "(IIII)V"⟩, prog_7_method_3_code, 5, none)
def MMo_run : MI := (5, ⟨"TurnsOneWay$Motion", "run", "(I)V"⟩, prog_7_method_4_code, 3, none)
def MMo_step : MI := (5, ⟨"TurnsOneWay$Motion", "step", "()V"⟩, prog_7_method_5_code, 2, none)
def MMo_growRattle : MI := (5, ⟨"TurnsOneWay$Motion", "growRattle", "()V"⟩, prog_7_method_6_code, 3, none)
def MMo_grown : MI := (5, ⟨"TurnsOneWay$Motion", "grown", "(III)I"⟩, prog_7_method_7_code, 4, (some .int))
def MMo_pushTurn : MI := (5, ⟨"TurnsOneWay$Motion", "pushTurn", "()V"⟩, prog_7_method_8_code, 4, none)
def MMo_lose : MI := (5, ⟨"TurnsOneWay$Motion", "lose", "()V"⟩, prog_7_method_9_code, 4, none)
def MMo_lossOf : MI := (5, ⟨"TurnsOneWay$Motion", "lossOf", "(II)I"⟩, prog_7_method_10_code, 3, (some .int))
def MMo_nearer : MI := (5, ⟨"TurnsOneWay$Motion", "nearer", "(II)I"⟩, prog_7_method_11_code, 2, (some .int))
def MMo_heldTurn : MI := (5, ⟨"TurnsOneWay$Motion", "heldTurn", "(I)I"⟩, prog_7_method_12_code, 1, (some .int))
def MMo_heldRattle : MI := (5, ⟨"TurnsOneWay$Motion", "heldRattle", "(I)I"⟩, prog_7_method_13_code, 1, (some .int))
def MSh_init : MI := (6, ⟨"TurnsOneWay$Shelf", "<init>", "()V"⟩, prog_8_method_1_code, 1, none)
def MSh_hold : MI := (6, ⟨"TurnsOneWay$Shelf", "hold", "(I)V"⟩, prog_8_method_2_code, 2, none)
def MSh_holdRow : MI := (6, ⟨"TurnsOneWay$Shelf", "holdRow", "(II)V"⟩, prog_8_method_3_code, 4, none)
def MSh_isRow : MI := (6, ⟨"TurnsOneWay$Shelf", "isRow", "()Z"⟩, prog_8_method_4_code, 1, (some .boolean))
def MSh_isRowOf : MI := (6, ⟨"TurnsOneWay$Shelf", "isRowOf", "(I)Z"⟩, prog_8_method_5_code, 2, (some .boolean))
def MSh_isEmpty : MI := (6, ⟨"TurnsOneWay$Shelf", "isEmpty", "()Z"⟩, prog_8_method_6_code, 1, (some .boolean))
def MSh_hasPlaces : MI := (6, ⟨"TurnsOneWay$Shelf", "hasPlaces", "(II)Z"⟩, prog_8_method_7_code, 3, (some .boolean))
def MSh_refusal : MI := (6, ⟨"TurnsOneWay$Shelf", "refusal", "(I)I"⟩, prog_8_method_8_code, 2, (some .int))
def MSh_read : MI := (6, ⟨"TurnsOneWay$Shelf", "read", "(I)J"⟩, prog_8_method_9_code, 2, (some .long))
def MSh_write : MI := (6, ⟨"TurnsOneWay$Shelf", "write", "(IJ)V"⟩, prog_8_method_10_code, 4, none)
def MSh_cutDown : MI := (6, ⟨"TurnsOneWay$Shelf", "cutDown", "(J)J"⟩, prog_8_method_11_code, 3, (some .long))
def MSt_init : MI := (7, ⟨"TurnsOneWay$Stone", "<init>", "()V"⟩, prog_9_method_1_code, 1, none)
def MSt_readFrom : MI := (7, ⟨"TurnsOneWay$Stone", "readFrom", "(LTurnsOneWay$Tape;)Z"⟩, prog_9_method_2_code, 5, (some .boolean))
def MSt_readLump : MI := (7, ⟨"TurnsOneWay$Stone", "readLump", "(LTurnsOneWay$Tape;I)Z"⟩, prog_9_method_3_code, 4, (some .boolean))
def MSt_readSigned : MI := (7, ⟨"TurnsOneWay$Stone", "readSigned", "(LTurnsOneWay$Tape;[II)Z"⟩, prog_9_method_4_code, 5, (some .boolean))
def MSt_readRate : MI := (7, ⟨"TurnsOneWay$Stone", "readRate", "(LTurnsOneWay$Tape;I)Z"⟩, prog_9_method_5_code, 5, (some .boolean))
def MSt_mostRate : MI := (7, ⟨"TurnsOneWay$Stone", "mostRate", "(I)I"⟩, prog_9_method_6_code, 1, (some .int))
def MSt_weigh : MI := (7, ⟨"TurnsOneWay$Stone", "weigh", "()V"⟩, prog_9_method_7_code, 5, none)
def MSt_keen : MI := (7, ⟨"TurnsOneWay$Stone", "keen", "()I"⟩, prog_9_method_8_code, 1, (some .int))
def MSt_keenWith : MI := (7, ⟨"TurnsOneWay$Stone", "keenWith", "(III)I"⟩, prog_9_method_9_code, 9, (some .int))
def MSt_screwPlace : MI := (7, ⟨"TurnsOneWay$Stone", "screwPlace", "(II)I"⟩, prog_9_method_10_code, 5, (some .int))
def MSt_rate : MI := (7, ⟨"TurnsOneWay$Stone", "rate", "(I)I"⟩, prog_9_method_11_code, 2, (some .int))
def MSt_measure : MI := (7, ⟨"TurnsOneWay$Stone", "measure", "(I)I"⟩, prog_9_method_12_code, 2, (some .int))
def MSt_lumpPart : MI := (7, ⟨"TurnsOneWay$Stone", "lumpPart", "(II)I"⟩, prog_9_method_13_code, 3, (some .int))
def MSt_isRate : MI := (7, ⟨"TurnsOneWay$Stone", "isRate", "(I)Z"⟩, prog_9_method_14_code, 1, (some .boolean))
def MSt_mayBecome : MI := (7, ⟨"TurnsOneWay$Stone", "mayBecome", "(II)Z"⟩, prog_9_method_15_code, 3, (some .boolean))
def MSt_change : MI := (7, ⟨"TurnsOneWay$Stone", "change", "(II)I"⟩, prog_9_method_16_code, 5, (some .int))
def MTa_init : MI := (8, ⟨"TurnsOneWay$Tape", "<init>", "()V"⟩, prog_10_method_1_code, 1, none)
def MTa_append : MI := (8, ⟨"TurnsOneWay$Tape", "append", "(I)V"⟩, prog_10_method_2_code, 2, none)
def MTa_clear : MI := (8, ⟨"TurnsOneWay$Tape", "clear", "()V"⟩, prog_10_method_3_code, 1, none)
def MTa_rewind : MI := (8, ⟨"TurnsOneWay$Tape", "rewind", "()V"⟩, prog_10_method_4_code, 1, none)
def MTa_isAtEnd : MI := (8, ⟨"TurnsOneWay$Tape", "isAtEnd", "()Z"⟩, prog_10_method_5_code, 1, (some .boolean))
def MTa_here : MI := (8, ⟨"TurnsOneWay$Tape", "here", "()I"⟩, prog_10_method_6_code, 1, (some .int))
def MTa_skip : MI := (8, ⟨"TurnsOneWay$Tape", "skip", "(I)Z"⟩, prog_10_method_7_code, 2, (some .boolean))
def MTa_digit : MI := (8, ⟨"TurnsOneWay$Tape", "digit", "(I)I"⟩, prog_10_method_8_code, 3, (some .int))
def MTa_number : MI := (8, ⟨"TurnsOneWay$Tape", "number", "(I)I"⟩, prog_10_method_9_code, 6, (some .int))
def MTo_init : MI := (9, ⟨"TurnsOneWay", "<init>", "()V"⟩, prog_1_method_1_code, 2, none)
def MTo_feed : MI := (9, ⟨"TurnsOneWay", "feed", "(II)I"⟩, prog_1_method_2_code, 4, (some .int))
def MTo_stone : MI := (9, ⟨"TurnsOneWay", "stone", "()I"⟩, prog_1_method_3_code, 2, (some .int))
def MTo_of : MI := (9, ⟨"TurnsOneWay", "of", "(II)I"⟩, prog_1_method_4_code, 4, (some .int))
def MTo_lump : MI := (9, ⟨"TurnsOneWay", "lump", "(III)I"⟩, prog_1_method_5_code, 5, (some .int))
def MTo_set : MI := (9, ⟨"TurnsOneWay", "set", "(III)I"⟩, prog_1_method_6_code, 6, (some .int))
def MTo_floor : MI := (9, ⟨"TurnsOneWay", "floor", "()I"⟩, prog_1_method_7_code, 2, (some .int))
def MTo_grows : MI := (9, ⟨"TurnsOneWay", "grows", "(II)I"⟩, prog_1_method_8_code, 5, (some .int))
def MTo_roll : MI := (9, ⟨"TurnsOneWay", "roll", "(IIII)I"⟩, prog_1_method_9_code, 5, (some .int))
def MTo_going : MI := (9, ⟨"TurnsOneWay", "going", "(II)I"⟩, prog_1_method_10_code, 3, (some .int))
def MTo_back : MI := (9, ⟨"TurnsOneWay", "back", "(I)I"⟩, prog_1_method_11_code, 2, (some .int))
def MTo_told : MI := (9, ⟨"TurnsOneWay", "told", "(I)I"⟩, prog_1_method_12_code, 2, (some .int))
def MTo_even : MI := (9, ⟨"TurnsOneWay", "even", "(IIII)I"⟩, prog_1_method_13_code, 6, (some .int))
def MTo_soonest : MI := (9, ⟨"TurnsOneWay", "soonest", "(IIII)I"⟩, prog_1_method_14_code, 9, (some .int))
def MTo_screws : MI := (9, ⟨"TurnsOneWay", "screws", "(III)I"⟩, prog_1_method_15_code, 5, (some .int))
def MTo_lightest : MI := (9, ⟨"TurnsOneWay", "lightest", "(II)I"⟩, prog_1_method_16_code, 5, (some .int))
def MTo_seen : MI := (9, ⟨"TurnsOneWay", "seen", "(III)I"⟩, prog_1_method_17_code, 5, (some .int))
def MTo_pressed : MI := (9, ⟨"TurnsOneWay", "pressed", "(II)I"⟩, prog_1_method_18_code, 3, (some .int))
def MTo_hands : MI := (9, ⟨"TurnsOneWay", "hands", "(III)I"⟩, prog_1_method_19_code, 10, (some .int))
def MTo_frame : MI := (9, ⟨"TurnsOneWay", "frame", "(II)I"⟩, prog_1_method_20_code, 3, (some .int))
def MTo_frames : MI := (9, ⟨"TurnsOneWay", "frames", "(III)I"⟩, prog_1_method_21_code, 5, (some .int))
def MTo_cut : MI := (9, ⟨"TurnsOneWay", "cut", "()I"⟩, prog_1_method_22_code, 2, (some .int))
def MTo_off : MI := (9, ⟨"TurnsOneWay", "off", "(III)I"⟩, prog_1_method_23_code, 4, (some .int))
def MTo_shape : MI := (9, ⟨"TurnsOneWay", "shape", "(III)I"⟩, prog_1_method_24_code, 8, (some .int))
def MTo_span : MI := (9, ⟨"TurnsOneWay", "span", "(III)I"⟩, prog_1_method_25_code, 6, (some .int))
def MTo_which : MI := (9, ⟨"TurnsOneWay", "which", "(II)I"⟩, prog_1_method_26_code, 9, (some .int))
def MTo_chance : MI := (9, ⟨"TurnsOneWay", "chance", "(II)I"⟩, prog_1_method_27_code, 9, (some .int))
def MTo_undo : MI := (9, ⟨"TurnsOneWay", "undo", "()I"⟩, prog_1_method_28_code, 1, (some .int))
def MTo_redo : MI := (9, ⟨"TurnsOneWay", "redo", "()I"⟩, prog_1_method_29_code, 1, (some .int))
def MTo_body : MI := (9, ⟨"TurnsOneWay", "body", "(I)I"⟩, prog_1_method_30_code, 2, (some .int))
def MTo_act : MI := (9, ⟨"TurnsOneWay", "act", "(III)I"⟩, prog_1_method_31_code, 4, (some .int))
def MTo_trace : MI := (9, ⟨"TurnsOneWay", "trace", "(I)I"⟩, prog_1_method_32_code, 2, (some .int))
def MTo_keep : MI := (9, ⟨"TurnsOneWay", "keep", "(II)I"⟩, prog_1_method_33_code, 4, (some .int))
def MTo_row : MI := (9, ⟨"TurnsOneWay", "row", "(III)I"⟩, prog_1_method_34_code, 5, (some .int))
def MTo_put : MI := (9, ⟨"TurnsOneWay", "put", "(IIJ)I"⟩, prog_1_method_35_code, 7, (some .int))
def MTo_element : MI := (9, ⟨"TurnsOneWay", "element", "(II)J"⟩, prog_1_method_36_code, 4, (some .long))
def MTo_shift : MI := (9, ⟨"TurnsOneWay", "shift", "(IIIII)I"⟩, prog_1_method_37_code, 8, (some .int))
def MTo_taken : MI := (9, ⟨"TurnsOneWay", "taken", "(II)I"⟩, prog_1_method_38_code, 5, (some .int))
def MTo_count : MI := (9, ⟨"TurnsOneWay", "count", "(I)I"⟩, prog_1_method_39_code, 2, (some .int))
def MTo_isWithin : MI := (9, ⟨"TurnsOneWay", "isWithin", "(III)Z"⟩, prog_1_method_40_code, 3, (some .boolean))
def MTo_isKeen : MI := (9, ⟨"TurnsOneWay", "isKeen", "(I)Z"⟩, prog_1_method_41_code, 1, (some .boolean))
def MTo_isStart : MI := (9, ⟨"TurnsOneWay", "isStart", "(II)Z"⟩, prog_1_method_42_code, 2, (some .boolean))
def MTo_drawn : MI := (9, ⟨"TurnsOneWay", "drawn", "(I)I"⟩, prog_1_method_43_code, 1, (some .int))
def MTo_stoneAt : MI := (9, ⟨"TurnsOneWay", "stoneAt", "(I)LTurnsOneWay$Stone;"⟩, prog_1_method_44_code, 2, (some (.object "TurnsOneWay$Stone")))
def MTo_floorAt : MI := (9, ⟨"TurnsOneWay", "floorAt", "(I)LTurnsOneWay$Floor;"⟩, prog_1_method_45_code, 2, (some (.object "TurnsOneWay$Floor")))
def MTo_shelfAt : MI := (9, ⟨"TurnsOneWay", "shelfAt", "(I)LTurnsOneWay$Shelf;"⟩, prog_1_method_46_code, 2, (some (.object "TurnsOneWay$Shelf")))
def MTo_isFloorOrNone : MI := (9, ⟨"TurnsOneWay", "isFloorOrNone", "(I)Z"⟩, prog_1_method_47_code, 2, (some .boolean))
def MTo_isGround : MI := (9, ⟨"TurnsOneWay", "isGround", "(I)Z"⟩, prog_1_method_48_code, 2, (some .boolean))
def MTo_lay : MI := (9, ⟨"TurnsOneWay", "lay", "(II)V"⟩, prog_1_method_49_code, 4, none)
def MTo_layOwn : MI := (9, ⟨"TurnsOneWay", "layOwn", "(I)V"⟩, prog_1_method_50_code, 3, none)
def MTo_start : MI := (9, ⟨"TurnsOneWay", "start", "(II)V"⟩, prog_1_method_51_code, 3, none)
def MTo_firstBack : MI := (9, ⟨"TurnsOneWay", "firstBack", "(II)I"⟩, prog_1_method_52_code, 4, (some .int))
def MTo_offBy : MI := (9, ⟨"TurnsOneWay", "offBy", "(III)I"⟩, prog_1_method_53_code, 7, (some .int))
def MTo_changeTo : MI := (9, ⟨"TurnsOneWay", "changeTo", "(I)V"⟩, prog_1_method_54_code, 3, none)
def MRm_init : MI := (10, ⟨"TurnsOneWayModel", "<init>", "()V"⟩, prog_12_method_1_code, 1, none)
def MRm_in : MI := (10, ⟨"TurnsOneWayModel", "in", "(III)Z"⟩, prog_12_method_3_code, 3, (some .boolean))
def MRm_sizeOf : MI := (10, ⟨"TurnsOneWayModel", "sizeOf", "(I)I"⟩, prog_12_method_4_code, 1, (some .int))
def MRm_held : MI := (10, ⟨"TurnsOneWayModel", "held", "(III)I"⟩, prog_12_method_5_code, 3, (some .int))
def MRm_feed : MI := (10, ⟨"TurnsOneWayModel", "feed", "(II)I"⟩, prog_12_method_6_code, 4, (some .int))
def MRm_isStone : MI := (10, ⟨"TurnsOneWayModel", "isStone", "(I)Z"⟩, prog_12_method_7_code, 2, (some .boolean))
def MRm_isHere : MI := (10, ⟨"TurnsOneWayModel", "isHere", "(I)Z"⟩, prog_12_method_8_code, 2, (some .boolean))
def MRm_takes : MI := (10, ⟨"TurnsOneWayModel", "takes", "(I)V"⟩, prog_12_method_9_code, 2, none)
def MRm_digit : MI := (10, ⟨"TurnsOneWayModel", "digit", "(I)I"⟩, prog_12_method_10_code, 3, (some .int))
def MRm_signed : MI := (10, ⟨"TurnsOneWayModel", "signed", "()I"⟩, prog_12_method_11_code, 2, (some .int))
def MRm_readNumber : MI := (10, ⟨"TurnsOneWayModel", "readNumber", "(I)I"⟩, prog_12_method_12_code, 4, (some .int))
def MRm_readLump : MI := (10, ⟨"TurnsOneWayModel", "readLump", "(I)V"⟩, prog_12_method_13_code, 3, none)
def MRm_stone : MI := (10, ⟨"TurnsOneWayModel", "stone", "()I"⟩, prog_12_method_14_code, 3, (some .int))
def MRm_sumOf : MI := (10, ⟨"TurnsOneWayModel", "sumOf", "(III)I"⟩, prog_12_method_15_code, 9, (some .int))
def MRm_wideX : MI := (10, ⟨"TurnsOneWayModel", "wideX", "(I)I"⟩, prog_12_method_16_code, 2, (some .int))
def MRm_wideY : MI := (10, ⟨"TurnsOneWayModel", "wideY", "(I)I"⟩, prog_12_method_17_code, 2, (some .int))
def MRm_slant : MI := (10, ⟨"TurnsOneWayModel", "slant", "(I)I"⟩, prog_12_method_18_code, 2, (some .int))
def MRm_keenOf : MI := (10, ⟨"TurnsOneWayModel", "keenOf", "(I)I"⟩, prog_12_method_19_code, 2, (some .int))
def MRm_of : MI := (10, ⟨"TurnsOneWayModel", "of", "(II)I"⟩, prog_12_method_20_code, 3, (some .int))
def MRm_lump : MI := (10, ⟨"TurnsOneWayModel", "lump", "(III)I"⟩, prog_12_method_21_code, 5, (some .int))
def MRm_valueAt : MI := (10, ⟨"TurnsOneWayModel", "valueAt", "(II)I"⟩, prog_12_method_22_code, 3, (some .int))
def MRm_place : MI := (10, ⟨"TurnsOneWayModel", "place", "(III)V"⟩, prog_12_method_23_code, 4, none)
def MRm_changes : MI := (10, ⟨"TurnsOneWayModel", "changes", "(III)I"⟩, prog_12_method_24_code, 6, (some .int))
def MRm_undo : MI := (10, ⟨"TurnsOneWayModel", "undo", "()I"⟩, prog_12_method_25_code, 1, (some .int))
def MRm_redo : MI := (10, ⟨"TurnsOneWayModel", "redo", "()I"⟩, prog_12_method_26_code, 1, (some .int))
def MRm_set : MI := (10, ⟨"TurnsOneWayModel", "set", "(III)I"⟩, prog_12_method_27_code, 4, (some .int))
def MRm_look : MI := (10, ⟨"TurnsOneWayModel", "look", "()I"⟩, prog_12_method_28_code, 1, (some .int))
def MRm_wrong : MI := (10, ⟨"TurnsOneWayModel", "wrong", "()V"⟩, prog_12_method_29_code, 1, none)
def MRm_addStep : MI := (10, ⟨"TurnsOneWayModel", "addStep", "(II)V"⟩, prog_12_method_30_code, 3, none)
def MRm_nameOf : MI := (10, ⟨"TurnsOneWayModel", "nameOf", "(I)I"⟩, prog_12_method_31_code, 1, (some .int))
def MRm_opens : MI := (10, ⟨"TurnsOneWayModel", "opens", "()Z"⟩, prog_12_method_32_code, 1, (some .boolean))
def MRm_figure : MI := (10, ⟨"TurnsOneWayModel", "figure", "()V"⟩, prog_12_method_33_code, 3, none)
def MRm_operand : MI := (10, ⟨"TurnsOneWayModel", "operand", "()V"⟩, prog_12_method_34_code, 2, none)
def MRm_product : MI := (10, ⟨"TurnsOneWayModel", "product", "()V"⟩, prog_12_method_35_code, 2, none)
def MRm_sum : MI := (10, ⟨"TurnsOneWayModel", "sum", "()V"⟩, prog_12_method_36_code, 2, none)
def MRm_compared : MI := (10, ⟨"TurnsOneWayModel", "compared", "()V"⟩, prog_12_method_37_code, 2, none)
def MRm_both : MI := (10, ⟨"TurnsOneWayModel", "both", "()V"⟩, prog_12_method_38_code, 1, none)
def MRm_either : MI := (10, ⟨"TurnsOneWayModel", "either", "()V"⟩, prog_12_method_39_code, 1, none)
def MRm_line : MI := (10, ⟨"TurnsOneWayModel", "line", "()V"⟩, prog_12_method_40_code, 2, none)
def MRm_readText : MI := (10, ⟨"TurnsOneWayModel", "readText", "(I)I"⟩, prog_12_method_41_code, 3, (some .int))
def MRm_twoOf : MI := (10, ⟨"TurnsOneWayModel", "twoOf", "(III)I"⟩, prog_12_method_42_code, 3, (some .int))
def MRm_worked : MI := (10, ⟨"TurnsOneWayModel", "worked", "(III)I"⟩, prog_12_method_43_code, 7, (some .int))
def MRm_gives : MI := (10, ⟨"TurnsOneWayModel", "gives", "(I)I"⟩, prog_12_method_44_code, 4, (some .int))
def MRm_isFloor : MI := (10, ⟨"TurnsOneWayModel", "isFloor", "(I)Z"⟩, prog_12_method_45_code, 2, (some .boolean))
def MRm_floor : MI := (10, ⟨"TurnsOneWayModel", "floor", "()I"⟩, prog_12_method_46_code, 2, (some .int))
def MRm_grows : MI := (10, ⟨"TurnsOneWayModel", "grows", "(II)I"⟩, prog_12_method_47_code, 4, (some .int))
def MRm_isStart : MI := (10, ⟨"TurnsOneWayModel", "isStart", "(II)Z"⟩, prog_12_method_48_code, 2, (some .boolean))
def MRm_isGoing : MI := (10, ⟨"TurnsOneWayModel", "isGoing", "(I)Z"⟩, prog_12_method_49_code, 2, (some .boolean))
def MRm_begin : MI := (10, ⟨"TurnsOneWayModel", "begin", "(II)V"⟩, prog_12_method_50_code, 3, none)
def MRm_takenBy : MI := (10, ⟨"TurnsOneWayModel", "takenBy", "(IIII)I"⟩, prog_12_method_51_code, 5, (some .int))
def MRm_go : MI := (10, ⟨"TurnsOneWayModel", "go", "(IIII)V"⟩, prog_12_method_52_code, 10, none)
def MRm_note : MI := (10, ⟨"TurnsOneWayModel", "note", "(I)V"⟩, prog_12_method_53_code, 2, none)
def MRm_roll : MI := (10, ⟨"TurnsOneWayModel", "roll", "(IIII)I"⟩, prog_12_method_54_code, 7, (some .int))
def MRm_going : MI := (10, ⟨"TurnsOneWayModel", "going", "(II)I"⟩, prog_12_method_55_code, 3, (some .int))
def MRm_back : MI := (10, ⟨"TurnsOneWayModel", "back", "(I)I"⟩, prog_12_method_56_code, 6, (some .int))
def MRm_told : MI := (10, ⟨"TurnsOneWayModel", "told", "(I)I"⟩, prog_12_method_57_code, 4, (some .int))
def MRm_lookBack : MI := (10, ⟨"TurnsOneWayModel", "lookBack", "(I)V"⟩, prog_12_method_58_code, 3, none)
def MRm_goThrough : MI := (10, ⟨"TurnsOneWayModel", "goThrough", "(IIIII)V"⟩, prog_12_method_59_code, 7, none)
def MRm_even : MI := (10, ⟨"TurnsOneWayModel", "even", "(IIII)I"⟩, prog_12_method_60_code, 5, (some .int))
def MRm_soonest : MI := (10, ⟨"TurnsOneWayModel", "soonest", "(IIII)I"⟩, prog_12_method_61_code, 8, (some .int))
def MRm_screwed : MI := (10, ⟨"TurnsOneWayModel", "screwed", "(III)I"⟩, prog_12_method_62_code, 7, (some .int))
def MRm_screws : MI := (10, ⟨"TurnsOneWayModel", "screws", "(III)I"⟩, prog_12_method_63_code, 4, (some .int))
def MRm_lightest : MI := (10, ⟨"TurnsOneWayModel", "lightest", "(II)I"⟩, prog_12_method_64_code, 4, (some .int))
def MRm_seen : MI := (10, ⟨"TurnsOneWayModel", "seen", "(III)I"⟩, prog_12_method_65_code, 5, (some .int))
def MRm_pressed : MI := (10, ⟨"TurnsOneWayModel", "pressed", "(II)I"⟩, prog_12_method_66_code, 6, (some .int))
def MRm_draw : MI := (10, ⟨"TurnsOneWayModel", "draw", "(I)I"⟩, prog_12_method_67_code, 2, (some .int))
def MRm_hands : MI := (10, ⟨"TurnsOneWayModel", "hands", "(III)I"⟩, prog_12_method_68_code, 9, (some .int))
def MRm_isFrame : MI := (10, ⟨"TurnsOneWayModel", "isFrame", "(II)Z"⟩, prog_12_method_69_code, 3, (some .boolean))
def MRm_addFrame : MI := (10, ⟨"TurnsOneWayModel", "addFrame", "(II)V"⟩, prog_12_method_70_code, 3, none)
def MRm_frame : MI := (10, ⟨"TurnsOneWayModel", "frame", "(II)I"⟩, prog_12_method_71_code, 3, (some .int))
def MRm_frames : MI := (10, ⟨"TurnsOneWayModel", "frames", "(III)I"⟩, prog_12_method_72_code, 8, (some .int))
def MRm_cut : MI := (10, ⟨"TurnsOneWayModel", "cut", "()I"⟩, prog_12_method_73_code, 2, (some .int))
def MRm_offBy : MI := (10, ⟨"TurnsOneWayModel", "offBy", "(IIII)I"⟩, prog_12_method_74_code, 8, (some .int))
def MRm_off : MI := (10, ⟨"TurnsOneWayModel", "off", "(III)I"⟩, prog_12_method_75_code, 4, (some .int))
def MRm_shape : MI := (10, ⟨"TurnsOneWayModel", "shape", "(III)I"⟩, prog_12_method_76_code, 8, (some .int))
def MRm_span : MI := (10, ⟨"TurnsOneWayModel", "span", "(III)I"⟩, prog_12_method_77_code, 6, (some .int))
def MRm_which : MI := (10, ⟨"TurnsOneWayModel", "which", "(II)I"⟩, prog_12_method_78_code, 7, (some .int))
def MRm_chance : MI := (10, ⟨"TurnsOneWayModel", "chance", "(II)I"⟩, prog_12_method_79_code, 9, (some .int))
def MRm_isBody : MI := (10, ⟨"TurnsOneWayModel", "isBody", "(I)Z"⟩, prog_12_method_80_code, 2, (some .boolean))
def MRm_ran : MI := (10, ⟨"TurnsOneWayModel", "ran", "(I)V"⟩, prog_12_method_81_code, 2, none)
def MRm_trace : MI := (10, ⟨"TurnsOneWayModel", "trace", "(I)I"⟩, prog_12_method_82_code, 2, (some .int))
def MRm_body : MI := (10, ⟨"TurnsOneWayModel", "body", "(I)I"⟩, prog_12_method_83_code, 2, (some .int))
def MRm_isUnder : MI := (10, ⟨"TurnsOneWayModel", "isUnder", "(II)Z"⟩, prog_12_method_84_code, 2, (some .boolean))
def MRm_plainRolls : MI := (10, ⟨"TurnsOneWayModel", "plainRolls", "(II)I"⟩, prog_12_method_85_code, 3, (some .int))
def MRm_keptRolls : MI := (10, ⟨"TurnsOneWayModel", "keptRolls", "(II)I"⟩, prog_12_method_86_code, 3, (some .int))
def MRm_rolls : MI := (10, ⟨"TurnsOneWayModel", "rolls", "(II)I"⟩, prog_12_method_87_code, 3, (some .int))
def MRm_plainTrades : MI := (10, ⟨"TurnsOneWayModel", "plainTrades", "(II)I"⟩, prog_12_method_88_code, 3, (some .int))
def MRm_turnedTrades : MI := (10, ⟨"TurnsOneWayModel", "turnedTrades", "(II)I"⟩, prog_12_method_89_code, 3, (some .int))
def MRm_trades : MI := (10, ⟨"TurnsOneWayModel", "trades", "(II)I"⟩, prog_12_method_90_code, 4, (some .int))
def MRm_plainEnds : MI := (10, ⟨"TurnsOneWayModel", "plainEnds", "(II)I"⟩, prog_12_method_91_code, 3, (some .int))
def MRm_ends : MI := (10, ⟨"TurnsOneWayModel", "ends", "(II)I"⟩, prog_12_method_92_code, 4, (some .int))
def MRm_plainTells : MI := (10, ⟨"TurnsOneWayModel", "plainTells", "(II)I"⟩, prog_12_method_93_code, 4, (some .int))
def MRm_tells : MI := (10, ⟨"TurnsOneWayModel", "tells", "(II)I"⟩, prog_12_method_94_code, 4, (some .int))
def MRm_act : MI := (10, ⟨"TurnsOneWayModel", "act", "(III)I"⟩, prog_12_method_95_code, 4, (some .int))
def MRm_count : MI := (10, ⟨"TurnsOneWayModel", "count", "(I)I"⟩, prog_12_method_96_code, 2, (some .int))
def MRm_isShelf : MI := (10, ⟨"TurnsOneWayModel", "isShelf", "(I)Z"⟩, prog_12_method_97_code, 1, (some .boolean))
def MRm_keep : MI := (10, ⟨"TurnsOneWayModel", "keep", "(II)I"⟩, prog_12_method_98_code, 3, (some .int))
def MRm_row : MI := (10, ⟨"TurnsOneWayModel", "row", "(III)I"⟩, prog_12_method_99_code, 5, (some .int))
def MRm_whyNoPlace : MI := (10, ⟨"TurnsOneWayModel", "whyNoPlace", "(II)I"⟩, prog_12_method_100_code, 3, (some .int))
def MRm_put : MI := (10, ⟨"TurnsOneWayModel", "put", "(IIJ)I"⟩, prog_12_method_101_code, 7, (some .int))
def MRm_element : MI := (10, ⟨"TurnsOneWayModel", "element", "(II)J"⟩, prog_12_method_102_code, 3, (some .long))
def MRm_shift : MI := (10, ⟨"TurnsOneWayModel", "shift", "(IIIII)I"⟩, prog_12_method_103_code, 7, (some .int))
def MRm_taken : MI := (10, ⟨"TurnsOneWayModel", "taken", "(II)I"⟩, prog_12_method_104_code, 3, (some .int))
def MIn_signum : MI := (12, ⟨"java/lang/Integer", "signum", "(I)I"⟩, prog_13_method_56_code, 1, (some .int))
def MMa_abs : MI := (13, ⟨"java/lang/Math", "abs", "(I)I"⟩, prog_14_method_59_code, 1, (some .int))
def MMa_max : MI := (13, ⟨"java/lang/Math", "max", "(II)I"⟩, prog_14_method_65_code, 2, (some .int))
def MMa_min : MI := (13, ⟨"java/lang/Math", "min", "(II)I"⟩, prog_14_method_69_code, 2, (some .int))
def MMa_minL : MI := (13, ⟨"java/lang/Math", "min", "(JJ)J"⟩, prog_14_method_70_code, 4, (some .long))
def MLa_law : MI := (11, ⟨"TurnsOneWayLaw", "law", "([I)Z"⟩, code, maxLocals, ret)
def ML_0 : List MI := [MBo_init, MBo_append, MBo_kindOf, MBo_above, MBo_isUnder, MBo_ownNumber, MBo_traced, MBo_perform, MBo_ask, MBo_run, MCh_init, MCh_note, MCh_write, MCh_part, MFi_init, MFi_mayCome, MFi_append, MFi_takeFrom, MFi_tickAt, MFi_turnAt, MFl_init, MFl_readFrom, MFl_readLine, MFl_readJoined, MFl_levelOf, MFl_readOne, MFl_readOpened, MFl_append, MFl_appendNumber, MFl_name]
def ML_1 : List MI := [MFl_takes, MFl_valueAt, MFl_result, MGo_init, MGo_isThere, MGo_record, MGo_note, MGo_at, MGo_backTick, MGo_summary, MGo_ended, MMo_init, MMo_rule, MMo_start, MMo_run, MMo_step, MMo_growRattle, MMo_grown, MMo_pushTurn, MMo_lose, MMo_lossOf, MMo_nearer, MMo_heldTurn, MMo_heldRattle, MSh_init, MSh_hold, MSh_holdRow, MSh_isRow, MSh_isRowOf, MSh_isEmpty]
def ML_2 : List MI := [MSh_hasPlaces, MSh_refusal, MSh_read, MSh_write, MSh_cutDown, MSt_init, MSt_readFrom, MSt_readLump, MSt_readSigned, MSt_readRate, MSt_mostRate, MSt_weigh, MSt_keen, MSt_keenWith, MSt_screwPlace, MSt_rate, MSt_measure, MSt_lumpPart, MSt_isRate, MSt_mayBecome, MSt_change, MTa_init, MTa_append, MTa_clear, MTa_rewind, MTa_isAtEnd, MTa_here, MTa_skip, MTa_digit, MTa_number]
def ML_3 : List MI := [MTo_init, MTo_feed, MTo_stone, MTo_of, MTo_lump, MTo_set, MTo_floor, MTo_grows, MTo_roll, MTo_going, MTo_back, MTo_told, MTo_even, MTo_soonest, MTo_screws, MTo_lightest, MTo_seen, MTo_pressed, MTo_hands, MTo_frame, MTo_frames, MTo_cut, MTo_off, MTo_shape, MTo_span, MTo_which, MTo_chance, MTo_undo, MTo_redo, MTo_body]
def ML_4 : List MI := [MTo_act, MTo_trace, MTo_keep, MTo_row, MTo_put, MTo_element, MTo_shift, MTo_taken, MTo_count, MTo_isWithin, MTo_isKeen, MTo_isStart, MTo_drawn, MTo_stoneAt, MTo_floorAt, MTo_shelfAt, MTo_isFloorOrNone, MTo_isGround, MTo_lay, MTo_layOwn, MTo_start, MTo_firstBack, MTo_offBy, MTo_changeTo, MRm_init, MRm_in, MRm_sizeOf, MRm_held, MRm_feed, MRm_isStone]
def ML_5 : List MI := [MRm_isHere, MRm_takes, MRm_digit, MRm_signed, MRm_readNumber, MRm_readLump, MRm_stone, MRm_sumOf, MRm_wideX, MRm_wideY, MRm_slant, MRm_keenOf, MRm_of, MRm_lump, MRm_valueAt, MRm_place, MRm_changes, MRm_undo, MRm_redo, MRm_set, MRm_look, MRm_wrong, MRm_addStep, MRm_nameOf, MRm_opens, MRm_figure, MRm_operand, MRm_product, MRm_sum, MRm_compared]
def ML_6 : List MI := [MRm_both, MRm_either, MRm_line, MRm_readText, MRm_twoOf, MRm_worked, MRm_gives, MRm_isFloor, MRm_floor, MRm_grows, MRm_isStart, MRm_isGoing, MRm_begin, MRm_takenBy, MRm_go, MRm_note, MRm_roll, MRm_going, MRm_back, MRm_told, MRm_lookBack, MRm_goThrough, MRm_even, MRm_soonest, MRm_screwed, MRm_screws, MRm_lightest, MRm_seen, MRm_pressed, MRm_draw]
def ML_7 : List MI := [MRm_hands, MRm_isFrame, MRm_addFrame, MRm_frame, MRm_frames, MRm_cut, MRm_offBy, MRm_off, MRm_shape, MRm_span, MRm_which, MRm_chance, MRm_isBody, MRm_ran, MRm_trace, MRm_body, MRm_isUnder, MRm_plainRolls, MRm_keptRolls, MRm_rolls, MRm_plainTrades, MRm_turnedTrades, MRm_trades, MRm_plainEnds, MRm_ends, MRm_plainTells, MRm_tells, MRm_act, MRm_count, MRm_isShelf]
def ML_8 : List MI := [MRm_keep, MRm_row, MRm_whyNoPlace, MRm_put, MRm_element, MRm_shift, MRm_taken, MIn_signum]
def mI (j : Nat) : MI := match j / 30 with
  | 0 => ML_0.getD (j % 30) MBo_init
  | 1 => ML_1.getD (j % 30) MBo_init
  | 2 => ML_2.getD (j % 30) MBo_init
  | 3 => ML_3.getD (j % 30) MBo_init
  | 4 => ML_4.getD (j % 30) MBo_init
  | 5 => ML_5.getD (j % 30) MBo_init
  | 6 => ML_6.getD (j % 30) MBo_init
  | 7 => ML_7.getD (j % 30) MBo_init
  | _ => ML_8.getD (j % 30) MBo_init
def CT_0_0 : List (Nat × (Nat × Nat × Nat × Nat) × List Nat) := [(3, (3, 0, 0, 0), [287, 111, 112]), (25, (1, 0, 1, 3), [950, 951, 97]), (35, (0, 0, 1, 2), [935, 936, 937, 97]), (44, (0, 0, 4, 8), [939, 941, 31, 97]), (48, (1, 0, 2, 5), [945, 946, 97]), (52, (0, 0, 4, 9), [953, 955, 32, 97])]
def CT_0 : List (Nat × (Nat × Nat × Nat × Nat) × List Nat) := CT_0_0
def CT_1_0 : List (Nat × (Nat × Nat × Nat × Nat) × List Nat) := [(1, (3, 0, 0, 0), [269, 111, 112]), (17, (10, 0, 0, 0), [572, 574, 573, 103]), (23, (0, 1, 2, 12), [575, 577, 5, 96])]
def CT_1 : List (Nat × (Nat × Nat × Nat × Nat) × List Nat) := CT_1_0
def CT_2_0 : List (Nat × (Nat × Nat × Nat × Nat) × List Nat) := [(3, (3, 0, 0, 0), [252, 111, 112]), (22, (4, 0, 3, 129), [825, 449, 91]), (26, (0, 6, 2, 60), [854, 855, 856, 100]), (32, (0, 6, 1, 62), [858, 859, 860, 100]), (36, (0, 2, 2, 15), [862, 822, 823, 95]), (39, (0, 2, 2, 16), [863, 827, 828, 95])]
def CT_2 : List (Nat × (Nat × Nat × Nat × Nat) × List Nat) := CT_2_0
def CT_3_0 : List (Nat × (Nat × Nat × Nat × Nat) × List Nat) := [(3, (3, 0, 0, 0), [353, 111, 112]), (28, (0, 3, 1, 22), [587, 589, 6, 99]), (32, (0, 8, 1, 87), [600, 483, 484, 92]), (36, (0, 8, 0, 85), [617, 503, 504, 92]), (40, (0, 3, 3, 23), [591, 593, 7, 99]), (44, (0, 3, 3, 27), [601, 603, 9, 99]), (48, (0, 3, 2, 25), [595, 597, 8, 99]), (52, (0, 8, 0, 86), [599, 476, 477, 92]), (56, (1, 0, 1, 24), [614, 615, 99]), (60, (0, 3, 3, 26), [605, 607, 10, 99]), (63, (0, 8, 1, 89), [609, 491, 492, 92]), (66, (0, 3, 1, 28), [610, 612, 11, 99]), (69, (8, 0, 0, 0), [715, 532, 102, 533]), (92, (0, 3, 1, 31), [724, 726, 24, 99]), (95, (7, 0, 0, 0), [728, 535, 102, 536]), (99, (6, 0, 0, 0), [729, 538, 102, 539]), (102, (0, 3, 3, 32), [730, 732, 25, 99])]
def CT_3 : List (Nat × (Nat × Nat × Nat × Nat) × List Nat) := CT_3_0
def CT_4_0 : List (Nat × (Nat × Nat × Nat × Nat) × List Nat) := [(3, (3, 0, 0, 0), [215, 111, 112]), (25, (0, 4, 2, 36), [671, 673, 18, 94]), (29, (0, 5, 0, 45), [675, 676, 677, 93]), (64, (1, 0, 1, 247), [755, 665, 104]), (70, (0, 4, 0, 40), [764, 766, 26, 94])]
def CT_4 : List (Nat × (Nat × Nat × Nat × Nat) × List Nat) := CT_4_0
def CT_5_0 : List (Nat × (Nat × Nat × Nat × Nat) × List Nat) := [(1, (3, 0, 0, 0), [144, 111, 112]), (13, (0, 7, 1, 75), [655, 541, 542, 98]), (50, (1, 0, 1, 247), [664, 665, 104]), (73, (0, 5, 0, 45), [776, 676, 677, 93]), (76, (0, 5, 0, 46), [679, 681, 19, 93]), (79, (0, 5, 0, 48), [700, 702, 21, 93]), (82, (0, 5, 0, 49), [707, 709, 22, 93]), (85, (0, 5, 3, 47), [683, 685, 20, 93]), (89, (1, 0, 1, 53), [692, 693, 93]), (92, (1, 0, 2, 51), [697, 698, 93]), (96, (8, 0, 0, 0), [687, 532, 102, 533]), (103, (9, 0, 0, 0), [689, 690, 102, 691]), (107, (1, 0, 1, 52), [704, 705, 93]), (110, (0, 3, 4, 29), [711, 712, 713, 99]), (116, (0, 5, 2, 50), [716, 718, 23, 93]), (119, (0, 3, 2, 30), [720, 721, 722, 99]), (122, (7, 0, 0, 0), [695, 535, 102, 536]), (124, (6, 0, 0, 0), [696, 538, 102, 539])]
def CT_5 : List (Nat × (Nat × Nat × Nat × Nat) × List Nat) := CT_5_0
def CT_6_0 : List (Nat × (Nat × Nat × Nat × Nat) × List Nat) := [(3, (3, 0, 0, 0), [392, 111, 112]), (25, (0, 6, 0, 57), [842, 843, 844, 100]), (29, (0, 6, 0, 59), [989, 839, 840, 100]), (32, (0, 6, 2, 60), [990, 855, 856, 100]), (36, (0, 6, 1, 64), [995, 997, 33, 100])]
def CT_6 : List (Nat × (Nat × Nat × Nat × Nat) × List Nat) := CT_6_0
def CT_7_0 : List (Nat × (Nat × Nat × Nat × Nat) × List Nat) := [(3, (3, 0, 0, 0), [313, 111, 112]), (28, (0, 7, 2, 67), [467, 469, 0, 98]), (32, (0, 8, 1, 87), [482, 483, 484, 92]), (38, (0, 7, 2, 69), [486, 488, 1, 98]), (41, (0, 7, 0, 71), [498, 500, 2, 98]), (44, (0, 8, 0, 85), [502, 503, 504, 92]), (48, (0, 8, 1, 88), [471, 472, 473, 92]), (52, (1, 0, 3, 68), [479, 480, 98]), (59, (0, 8, 1, 89), [490, 491, 492, 92]), (62, (1, 0, 1, 70), [495, 496, 98]), (83, (0, 7, 3, 73), [527, 529, 4, 98]), (87, (8, 0, 0, 0), [531, 532, 102, 533]), (92, (7, 0, 0, 0), [534, 535, 102, 536]), (96, (6, 0, 0, 0), [537, 538, 102, 539]), (99, (0, 7, 0, 72), [523, 524, 525, 98]), (103, (0, 7, 1, 75), [540, 541, 542, 98]), (107, (1, 0, 1, 78), [561, 562, 98])]
def CT_7 : List (Nat × (Nat × Nat × Nat × Nat) × List Nat) := CT_7_0
def CT_8_0 : List (Nat × (Nat × Nat × Nat × Nat) × List Nat) := [(1, (3, 0, 0, 0), [118, 111, 112]), (20, (0, 8, 0, 86), [475, 476, 477, 92]), (24, (0, 8, 1, 88), [494, 472, 473, 92])]
def CT_8 : List (Nat × (Nat × Nat × Nat × Nat) × List Nat) := CT_8_0
def CT_9_0 : List (Nat × (Nat × Nat × Nat × Nat) × List Nat) := [(1, (3, 0, 0, 0), [110, 111, 112]), (9, (5, 8, 0, 81), [115, 116, 92]), (36, (5, 5, 0, 41), [141, 142, 93]), (43, (5, 4, 0, 33), [212, 213, 94]), (50, (5, 2, 0, 14), [249, 250, 95]), (57, (5, 1, 0, 10), [266, 267, 96]), (64, (5, 0, 0, 0), [284, 285, 97]), (69, (5, 7, 0, 65), [310, 311, 98]), (70, (5, 3, 0, 20), [350, 351, 99]), (71, (5, 6, 0, 54), [389, 390, 100]), (72, (1, 0, 3, 129), [448, 449, 91]), (80, (0, 8, 1, 82), [451, 452, 453, 92]), (87, (0, 8, 0, 84), [459, 460, 461, 92]), (90, (0, 7, 1, 66), [463, 464, 465, 98]), (97, (0, 8, 0, 83), [506, 507, 508, 92]), (100, (0, 9, 1, 133), [514, 516, 3, 91]), (105, (0, 7, 1, 76), [519, 520, 521, 98]), (112, (0, 7, 2, 77), [548, 549, 550, 98]), (116, (0, 7, 2, 79), [557, 558, 559, 98]), (120, (0, 7, 2, 80), [564, 565, 566, 98])]
def CT_9_1 : List (Nat × (Nat × Nat × Nat × Nat) × List Nat) := [(123, (0, 1, 4, 11), [568, 569, 570, 96]), (130, (0, 3, 1, 21), [583, 584, 585, 99]), (131, (0, 7, 0, 72), [622, 524, 525, 98]), (135, (0, 9, 1, 137), [627, 629, 12, 91]), (139, (1, 0, 2, 131), [639, 640, 91]), (142, (0, 9, 1, 139), [643, 645, 15, 91]), (145, (0, 9, 2, 140), [656, 658, 17, 91]), (149, (0, 4, 2, 35), [667, 668, 669, 94]), (156, (0, 4, 0, 34), [738, 739, 740, 94]), (163, (0, 4, 2, 37), [742, 743, 744, 94]), (168, (0, 4, 1, 38), [751, 752, 753, 94]), (171, (0, 4, 1, 39), [760, 761, 762, 94]), (174, (0, 5, 3, 42), [651, 652, 653, 93]), (181, (0, 5, 1, 44), [772, 773, 774, 93]), (185, (0, 9, 1, 136), [631, 633, 13, 91]), (188, (0, 9, 2, 141), [781, 783, 27, 91]), (191, (1, 0, 1, 130), [790, 791, 91]), (194, (0, 7, 2, 74), [793, 794, 795, 98]), (197, (0, 9, 2, 138), [647, 649, 16, 91]), (203, (1, 0, 1, 132), [813, 814, 91])]
def CT_9_2 : List (Nat × (Nat × Nat × Nat × Nat) × List Nat) := [(206, (0, 2, 2, 15), [821, 822, 823, 95]), (209, (0, 2, 2, 16), [826, 827, 828, 95]), (212, (0, 9, 1, 135), [834, 836, 28, 91]), (216, (0, 6, 0, 59), [838, 839, 840, 100]), (219, (0, 6, 1, 58), [846, 847, 848, 100]), (222, (0, 2, 3, 17), [850, 851, 852, 95]), (226, (0, 9, 3, 142), [872, 874, 29, 91]), (230, (6, 0, 0, 0), [901, 538, 102, 539]), (240, (0, 9, 1, 143), [907, 909, 30, 91]), (246, (0, 0, 1, 1), [923, 924, 925, 97]), (249, (0, 0, 3, 7), [931, 932, 933, 97]), (252, (0, 0, 1, 6), [961, 962, 963, 97]), (255, (0, 6, 1, 55), [969, 970, 971, 100]), (258, (0, 6, 2, 56), [977, 978, 979, 100]), (261, (0, 6, 1, 61), [985, 986, 987, 100]), (264, (0, 6, 2, 63), [991, 992, 993, 100]), (272, (0, 6, 1, 62), [1004, 859, 860, 100]), (276, (0, 6, 0, 57), [1009, 843, 844, 100]), (282, (0, 6, 2, 60), [1010, 855, 856, 100]), (289, (10, 0, 0, 0), [1011, 574, 573, 103])]
def CT_9_3 : List (Nat × (Nat × Nat × Nat × Nat) × List Nat) := [(298, (0, 0, 1, 2), [1016, 936, 937, 97]), (301, (1, 0, 2, 4), [1017, 1018, 97]), (309, (0, 9, 1, 134), [635, 637, 14, 91]), (313, (0, 5, 4, 43), [660, 661, 662, 93]), (315, (0, 5, 0, 45), [785, 676, 677, 93]), (321, (0, 2, 1, 19), [876, 877, 878, 95]), (324, (0, 2, 1, 18), [880, 881, 882, 95]), (327, (8, 0, 0, 0), [884, 532, 102, 533]), (330, (0, 1, 2, 13), [911, 912, 913, 96])]
def CT_9 : List (Nat × (Nat × Nat × Nat × Nat) × List Nat) := CT_9_0 ++ (CT_9_1 ++ (CT_9_2 ++ (CT_9_3)))
def CT_10_0 : List (Nat × (Nat × Nat × Nat × Nat) × List Nat) := [(1, (3, 0, 0, 0), [1029, 111, 112]), (107, (1, 0, 3, 145), [1212, 1213, 101]), (123, (0, 10, 1, 150), [1231, 1233, 37, 101]), (127, (0, 10, 1, 152), [1223, 1225, 35, 101]), (131, (0, 10, 0, 153), [1227, 1229, 36, 101]), (135, (0, 10, 1, 155), [1219, 1221, 34, 101]), (139, (0, 10, 1, 151), [1235, 1237, 38, 101]), (142, (0, 10, 1, 154), [1239, 1241, 39, 101]), (154, (0, 10, 3, 157), [1252, 1254, 41, 101]), (158, (0, 10, 1, 160), [1264, 1266, 44, 101]), (161, (0, 10, 1, 158), [1256, 1258, 42, 101]), (164, (0, 10, 1, 159), [1260, 1262, 43, 101]), (167, (1, 0, 1, 146), [1272, 1273, 101]), (170, (1, 0, 3, 147), [1275, 1276, 101]), (173, (0, 10, 1, 149), [1247, 1249, 40, 101]), (177, (0, 10, 1, 161), [1268, 1270, 45, 101]), (180, (0, 10, 2, 164), [1302, 1304, 48, 101]), (190, (0, 10, 3, 165), [1286, 1288, 46, 101]), (194, (0, 10, 3, 166), [1298, 1300, 47, 101]), (203, (0, 10, 0, 171), [1357, 1359, 60, 101])]
def CT_10_1 : List (Nat × (Nat × Nat × Nat × Nat) × List Nat) := [(206, (0, 10, 0, 170), [1342, 1344, 57, 101]), (209, (0, 10, 2, 172), [1349, 1351, 58, 101]), (213, (1, 0, 1, 173), [1346, 1347, 101]), (216, (0, 10, 0, 174), [1353, 1355, 59, 101]), (220, (0, 10, 0, 176), [1338, 1340, 56, 101]), (223, (0, 10, 0, 181), [1318, 1320, 51, 101]), (226, (0, 10, 0, 175), [1361, 1363, 61, 101]), (229, (0, 10, 0, 177), [1334, 1336, 55, 101]), (232, (0, 10, 0, 178), [1330, 1332, 54, 101]), (235, (0, 10, 0, 179), [1326, 1328, 53, 101]), (238, (0, 10, 0, 180), [1322, 1324, 52, 101]), (241, (0, 10, 0, 182), [1314, 1316, 50, 101]), (244, (1, 0, 3, 184), [1410, 1411, 101]), (247, (0, 10, 3, 185), [1406, 1408, 69, 101]), (253, (0, 10, 1, 183), [1310, 1312, 49, 101]), (257, (0, 10, 1, 187), [1377, 1379, 63, 101]), (278, (0, 10, 1, 186), [1402, 1404, 68, 101]), (283, (0, 10, 4, 193), [1398, 1400, 67, 101]), (287, (0, 10, 1, 191), [1373, 1375, 62, 101]), (290, (1, 0, 2, 190), [1381, 1382, 101])]
def CT_10_2 : List (Nat × (Nat × Nat × Nat × Nat) × List Nat) := [(294, (0, 10, 2, 192), [1385, 1387, 64, 101]), (297, (0, 10, 1, 195), [1389, 1391, 65, 101]), (300, (0, 10, 4, 194), [1393, 1395, 66, 101]), (322, (0, 10, 1, 200), [1433, 1435, 71, 101]), (325, (0, 10, 5, 201), [1429, 1431, 70, 101]), (329, (0, 10, 3, 204), [1445, 1447, 72, 101]), (336, (0, 10, 1, 209), [1465, 1467, 73, 101]), (342, (0, 10, 2, 211), [1474, 1476, 74, 101]), (345, (0, 10, 2, 212), [1478, 1480, 75, 101]), (348, (1, 0, 1, 239), [1486, 1487, 101]), (351, (0, 10, 4, 216), [1497, 1499, 76, 101]), (362, (0, 10, 1, 223), [1538, 1540, 79, 101]), (365, (0, 10, 2, 227), [1546, 1548, 81, 101]), (368, (0, 10, 2, 228), [1542, 1544, 80, 101]), (371, (0, 10, 2, 229), [1534, 1536, 78, 101]), (374, (0, 10, 2, 230), [1558, 1560, 84, 101]), (377, (0, 10, 2, 231), [1554, 1556, 83, 101]), (380, (0, 10, 2, 234), [1562, 1564, 85, 101]), (383, (0, 10, 2, 233), [1566, 1568, 86, 101]), (386, (1, 0, 2, 226), [1570, 1571, 101])]
def CT_10_3 : List (Nat × (Nat × Nat × Nat × Nat) × List Nat) := [(389, (0, 10, 2, 232), [1550, 1552, 82, 101]), (392, (0, 10, 2, 235), [1577, 1579, 88, 101]), (395, (0, 10, 1, 222), [1530, 1532, 77, 101]), (398, (0, 10, 2, 236), [1573, 1575, 87, 101]), (401, (0, 10, 2, 242), [1597, 1599, 89, 101])]
def CT_10 : List (Nat × (Nat × Nat × Nat × Nat) × List Nat) := CT_10_0 ++ (CT_10_1 ++ (CT_10_2 ++ (CT_10_3)))
def CT_11_0 : List (Nat × (Nat × Nat × Nat × Nat) × List Nat) := [(9, (2, 9, 0, 90), [107, 108, 91]), (12, (2, 10, 0, 144), [1026, 1027, 101]), (13, (0, 9, 2, 91), [444, 445, 446, 91]), (17, (0, 10, 2, 148), [1208, 1209, 1210, 101]), (18, (0, 9, 0, 92), [455, 456, 457, 91]), (22, (0, 10, 0, 156), [1215, 1216, 1217, 101]), (23, (0, 9, 2, 93), [510, 511, 512, 91]), (26, (0, 10, 2, 162), [1243, 1244, 1245, 101]), (27, (0, 9, 3, 94), [544, 545, 546, 91]), (31, (0, 10, 3, 163), [1278, 1279, 1280, 101]), (32, (0, 9, 3, 95), [553, 554, 555, 91]), (35, (0, 10, 3, 169), [1294, 1295, 1296, 101]), (36, (0, 9, 0, 96), [579, 580, 581, 91]), (39, (0, 10, 0, 188), [1306, 1307, 1308, 101]), (40, (0, 9, 2, 97), [618, 619, 620, 91]), (43, (0, 10, 2, 189), [1365, 1366, 1367, 101]), (44, (0, 9, 4, 98), [623, 624, 625, 91]), (48, (0, 10, 4, 196), [1369, 1370, 1371, 101]), (49, (0, 9, 2, 99), [734, 735, 736, 91]), (52, (0, 10, 2, 197), [1413, 1414, 1415, 101])]
def CT_11_1 : List (Nat × (Nat × Nat × Nat × Nat) × List Nat) := [(53, (0, 9, 1, 100), [747, 748, 749, 91]), (57, (0, 10, 1, 198), [1417, 1418, 1419, 101]), (58, (0, 9, 1, 101), [756, 757, 758, 91]), (61, (0, 10, 1, 199), [1421, 1422, 1423, 101]), (62, (0, 9, 4, 102), [768, 769, 770, 91]), (65, (0, 10, 4, 202), [1425, 1426, 1427, 101]), (66, (0, 9, 4, 103), [777, 778, 779, 91]), (69, (0, 10, 4, 203), [1437, 1438, 1439, 101]), (70, (0, 9, 3, 104), [786, 787, 788, 91]), (73, (0, 10, 3, 205), [1441, 1442, 1443, 101]), (74, (0, 9, 2, 105), [797, 798, 799, 91]), (77, (0, 10, 2, 206), [1449, 1450, 1451, 101]), (78, (0, 9, 3, 106), [801, 802, 803, 91]), (81, (0, 10, 3, 207), [1453, 1454, 1455, 101]), (82, (0, 9, 2, 107), [805, 806, 807, 91]), (85, (0, 10, 2, 208), [1457, 1458, 1459, 101]), (86, (0, 9, 3, 108), [809, 810, 811, 91]), (89, (0, 10, 3, 210), [1461, 1462, 1463, 101]), (90, (0, 9, 2, 109), [817, 818, 819, 91]), (93, (0, 10, 2, 213), [1470, 1471, 1472, 101])]
def CT_11_2 : List (Nat × (Nat × Nat × Nat × Nat) × List Nat) := [(94, (0, 9, 3, 110), [830, 831, 832, 91]), (97, (0, 10, 3, 214), [1482, 1483, 1484, 101]), (98, (0, 9, 0, 111), [864, 865, 866, 91]), (101, (0, 10, 0, 215), [1489, 1490, 1491, 101]), (102, (0, 9, 3, 112), [868, 869, 870, 91]), (105, (0, 10, 3, 217), [1493, 1494, 1495, 101]), (106, (0, 9, 3, 113), [885, 886, 887, 91]), (109, (0, 10, 3, 218), [1501, 1502, 1503, 101]), (110, (0, 9, 3, 114), [889, 890, 891, 91]), (113, (0, 10, 3, 219), [1505, 1506, 1507, 101]), (114, (0, 9, 2, 115), [893, 894, 895, 91]), (117, (0, 10, 2, 220), [1509, 1510, 1511, 101]), (118, (0, 9, 2, 116), [897, 898, 899, 91]), (121, (0, 10, 2, 221), [1513, 1514, 1515, 101]), (122, (0, 9, 0, 117), [903, 904, 905, 91]), (125, (0, 10, 0, 167), [1282, 1283, 1284, 101]), (126, (0, 9, 0, 118), [915, 916, 917, 91]), (129, (0, 10, 0, 168), [1290, 1291, 1292, 101]), (130, (0, 9, 1, 119), [919, 920, 921, 91]), (133, (0, 10, 1, 225), [1522, 1523, 1524, 101])]
def CT_11_3 : List (Nat × (Nat × Nat × Nat × Nat) × List Nat) := [(134, (0, 9, 3, 120), [927, 928, 929, 91]), (137, (0, 10, 3, 237), [1526, 1527, 1528, 101]), (138, (0, 9, 1, 121), [957, 958, 959, 91]), (141, (0, 10, 1, 224), [1518, 1519, 1520, 101]), (142, (0, 9, 2, 122), [965, 966, 967, 91]), (145, (0, 10, 2, 240), [1585, 1586, 1587, 101]), (146, (0, 9, 3, 123), [973, 974, 975, 91]), (149, (0, 10, 3, 241), [1589, 1590, 1591, 101]), (152, (0, 9, 3, 124), [981, 982, 983, 91]), (156, (0, 10, 3, 243), [1593, 1594, 1595, 101]), (157, (0, 9, 2, 125), [999, 1000, 1001, 91]), (161, (0, 10, 2, 244), [1601, 1602, 1603, 101]), (162, (0, 9, 5, 126), [1005, 1006, 1007, 91]), (166, (0, 10, 5, 245), [1606, 1607, 1608, 101]), (167, (0, 9, 2, 127), [1012, 1013, 1014, 91]), (170, (0, 10, 2, 246), [1610, 1611, 1612, 101]), (171, (0, 9, 1, 128), [1020, 1021, 1022, 91]), (174, (0, 10, 1, 238), [1581, 1582, 1583, 101])]
def CT_11 : List (Nat × (Nat × Nat × Nat × Nat) × List Nat) := CT_11_0 ++ (CT_11_1 ++ (CT_11_2 ++ (CT_11_3)))
def CT : Nat → List (Nat × (Nat × Nat × Nat × Nat) × List Nat) := fun o => match o with
  | 0 => CT_0
  | 1 => CT_1
  | 2 => CT_2
  | 3 => CT_3
  | 4 => CT_4
  | 5 => CT_5
  | 6 => CT_6
  | 7 => CT_7
  | 8 => CT_8
  | 9 => CT_9
  | 10 => CT_10
  | 11 => CT_11
  | _ => []
def FT_0_0 : List (Nat × (Nat × Nat × Nat × Nat) × Nat × Nat) := [(11, (0, 0, 1, 1), 0, 288), (15, (0, 1, 1, 1), 0, 289), (18, (0, 2, 0, 0), 0, 290), (32, (0, 3, 0, 0), 0, 292), (38, (0, 5, 0, 0), 0, 295), (41, (0, 4, 0, 0), 0, 294)]
def FT_0 : List (Nat × (Nat × Nat × Nat × Nat) × Nat × Nat) := FT_0_0
def FT_1_0 : List (Nat × (Nat × Nat × Nat × Nat) × Nat × Nat) := [(9, (1, 0, 1, 1), 0, 270), (13, (1, 1, 0, 0), 0, 271), (27, (1, 2, 0, 0), 0, 273)]
def FT_1 : List (Nat × (Nat × Nat × Nat × Nat) × Nat × Nat) := FT_1_0
def FT_2_0 : List (Nat × (Nat × Nat × Nat × Nat) × Nat × Nat) := [(11, (2, 0, 1, 1), 0, 253), (15, (2, 1, 1, 1), 0, 254), (18, (2, 2, 0, 0), 0, 255)]
def FT_2 : List (Nat × (Nat × Nat × Nat × Nat) × Nat × Nat) := FT_2_0
def FT_3_0 : List (Nat × (Nat × Nat × Nat × Nat) × Nat × Nat) := [(11, (3, 0, 1, 1), 0, 354), (15, (3, 1, 1, 1), 0, 355), (18, (3, 2, 1, 1), 0, 356), (21, (3, 3, 1, 1), 0, 357), (24, (3, 4, 0, 0), 0, 358), (74, (3, 7, 0, 0), 0, 361), (77, (3, 8, 0, 0), 0, 362), (80, (3, 9, 0, 0), 0, 363), (83, (3, 10, 0, 0), 0, 364), (86, (3, 5, 0, 0), 0, 359), (89, (3, 6, 0, 0), 0, 360)]
def FT_3 : List (Nat × (Nat × Nat × Nat × Nat) × Nat × Nat) := FT_3_0
def FT_4_0 : List (Nat × (Nat × Nat × Nat × Nat) × Nat × Nat) := [(9, (4, 0, 1, 1), 0, 216), (15, (4, 1, 1, 1), 0, 217), (18, (4, 2, 1, 1), 0, 218), (21, (4, 3, 0, 0), 0, 219), (34, (5, 12, 0, 0), 1, 164), (37, (4, 4, 0, 0), 0, 221), (38, (5, 13, 0, 0), 1, 167), (41, (4, 5, 0, 0), 0, 223), (42, (5, 14, 0, 0), 1, 170), (45, (4, 6, 0, 0), 0, 224), (46, (5, 15, 0, 0), 1, 172), (49, (4, 7, 0, 0), 0, 225), (50, (5, 16, 0, 0), 1, 174), (53, (4, 8, 0, 0), 0, 226), (54, (5, 7, 0, 0), 1, 154), (57, (5, 8, 0, 0), 1, 157), (60, (5, 9, 0, 0), 1, 159)]
def FT_4 : List (Nat × (Nat × Nat × Nat × Nat) × Nat × Nat) := FT_4_0
def FT_5_0 : List (Nat × (Nat × Nat × Nat × Nat) × Nat × Nat) := [(7, (5, 0, 0, 0), 0, 145), (19, (5, 1, 0, 0), 0, 146), (22, (5, 2, 0, 0), 0, 147), (25, (5, 3, 0, 0), 0, 148), (28, (5, 4, 0, 0), 0, 149), (31, (5, 5, 1, 0), 0, 150), (35, (5, 6, 0, 0), 0, 151), (38, (5, 7, 0, 0), 0, 153), (41, (5, 8, 0, 0), 0, 156), (44, (5, 9, 0, 0), 0, 158), (47, (5, 10, 0, 0), 0, 160), (55, (5, 11, 0, 0), 0, 162), (58, (5, 12, 0, 0), 0, 163), (61, (5, 13, 0, 0), 0, 166), (64, (5, 14, 0, 0), 0, 169), (67, (5, 15, 0, 0), 0, 171), (70, (5, 16, 0, 0), 0, 173)]
def FT_5 : List (Nat × (Nat × Nat × Nat × Nat) × Nat × Nat) := FT_5_0
def FT_6_0 : List (Nat × (Nat × Nat × Nat × Nat) × Nat × Nat) := [(11, (6, 0, 1, 1), 0, 393), (15, (6, 1, 0, 0), 0, 395), (19, (6, 2, 0, 0), 0, 397), (22, (6, 3, 0, 0), 0, 399)]
def FT_6 : List (Nat × (Nat × Nat × Nat × Nat) × Nat × Nat) := FT_6_0
def FT_7_0 : List (Nat × (Nat × Nat × Nat × Nat) × Nat × Nat) := [(11, (7, 0, 1, 1), 0, 314), (15, (7, 1, 1, 1), 0, 315), (18, (7, 2, 1, 1), 0, 316), (21, (7, 3, 1, 1), 0, 317), (24, (7, 4, 0, 0), 0, 318), (56, (8, 2, 0, 0), 1, 124), (65, (7, 5, 0, 0), 0, 320), (68, (7, 6, 0, 0), 0, 321), (71, (7, 7, 0, 0), 0, 322), (74, (7, 8, 0, 0), 0, 323), (77, (7, 9, 0, 0), 0, 324), (80, (7, 10, 0, 0), 0, 325)]
def FT_7 : List (Nat × (Nat × Nat × Nat × Nat) × Nat × Nat) := FT_7_0
def FT_8_0 : List (Nat × (Nat × Nat × Nat × Nat) × Nat × Nat) := [(9, (8, 0, 1, 1), 0, 119), (13, (8, 1, 0, 0), 0, 120), (17, (8, 2, 0, 0), 0, 122)]
def FT_8 : List (Nat × (Nat × Nat × Nat × Nat) × Nat × Nat) := FT_8_0
def FT_9_0 : List (Nat × (Nat × Nat × Nat × Nat) × Nat × Nat) := [(10, (9, 0, 1, 1), 0, 410), (18, (9, 1, 1, 1), 0, 411), (24, (9, 2, 1, 1), 0, 412), (30, (9, 3, 1, 1), 0, 413), (37, (9, 4, 1, 1), 0, 414), (44, (9, 5, 1, 1), 0, 415), (51, (9, 6, 1, 1), 0, 416), (58, (9, 7, 1, 1), 0, 417), (65, (9, 8, 1, 1), 0, 418), (76, (8, 1, 0, 0), 1, 121), (84, (9, 9, 0, 0), 0, 419), (94, (8, 2, 0, 0), 1, 123), (109, (7, 4, 0, 0), 1, 319), (127, (9, 10, 0, 0), 0, 420), (153, (5, 7, 0, 0), 1, 155), (160, (4, 3, 0, 0), 1, 220), (165, (4, 4, 0, 0), 1, 222), (178, (5, 6, 0, 0), 1, 152), (184, (5, 12, 0, 0), 1, 165), (200, (5, 13, 0, 0), 1, 168)]
def FT_9_1 : List (Nat × (Nat × Nat × Nat × Nat) × Nat × Nat) := [(211, (2, 2, 0, 0), 1, 256), (237, (1, 1, 0, 0), 1, 272), (243, (1, 2, 0, 0), 1, 274), (248, (0, 2, 0, 0), 1, 291), (279, (6, 2, 0, 0), 1, 398), (285, (6, 0, 1, 1), 1, 394), (295, (6, 1, 0, 0), 1, 396), (304, (0, 3, 0, 0), 1, 293), (318, (5, 10, 0, 0), 1, 161)]
def FT_9 : List (Nat × (Nat × Nat × Nat × Nat) × Nat × Nat) := FT_9_0 ++ (FT_9_1)
def FT_10_0 : List (Nat × (Nat × Nat × Nat × Nat) × Nat × Nat) := [(7, (10, 1, 1, 1), 0, 1030), (13, (10, 4, 1, 1), 0, 1033), (17, (10, 5, 1, 1), 0, 1034), (20, (10, 6, 1, 1), 0, 1035), (23, (10, 7, 1, 1), 0, 1036), (26, (10, 8, 1, 1), 0, 1037), (29, (10, 14, 1, 1), 0, 1043), (32, (10, 15, 1, 1), 0, 1044), (35, (10, 16, 1, 1), 0, 1045), (38, (10, 17, 1, 1), 0, 1046), (41, (10, 22, 1, 1), 0, 1051), (44, (10, 23, 1, 1), 0, 1052), (47, (10, 24, 1, 1), 0, 1053), (50, (10, 25, 1, 1), 0, 1054), (54, (10, 26, 1, 1), 0, 1055), (57, (10, 27, 1, 1), 0, 1056), (60, (10, 28, 1, 1), 0, 1057), (63, (10, 36, 1, 1), 0, 1065), (66, (10, 37, 1, 1), 0, 1066), (69, (10, 38, 1, 1), 0, 1067)]
def FT_10_1 : List (Nat × (Nat × Nat × Nat × Nat) × Nat × Nat) := [(72, (10, 39, 0, 0), 0, 1068), (76, (10, 48, 1, 1), 0, 1077), (79, (10, 49, 1, 1), 0, 1078), (82, (10, 50, 1, 1), 0, 1079), (86, (10, 52, 1, 1), 0, 1081), (89, (10, 54, 1, 1), 0, 1083), (92, (10, 55, 1, 1), 0, 1084), (95, (10, 56, 1, 1), 0, 1085), (98, (10, 57, 1, 1), 0, 1086), (101, (10, 58, 1, 1), 0, 1087), (111, (10, 2, 0, 0), 0, 1031), (114, (10, 3, 0, 0), 0, 1032), (117, (10, 19, 0, 0), 0, 1048), (120, (10, 18, 0, 0), 0, 1047), (145, (10, 9, 0, 0), 0, 1038), (148, (10, 10, 0, 0), 0, 1039), (151, (10, 11, 0, 0), 0, 1040), (184, (10, 13, 0, 0), 0, 1042), (187, (10, 12, 0, 0), 0, 1041), (197, (10, 21, 0, 0), 0, 1050)]
def FT_10_2 : List (Nat × (Nat × Nat × Nat × Nat) × Nat × Nat) := [(200, (10, 20, 0, 0), 0, 1049), (250, (10, 29, 0, 0), 0, 1058), (260, (10, 30, 0, 0), 0, 1059), (263, (10, 31, 0, 0), 0, 1060), (266, (10, 32, 0, 0), 0, 1061), (269, (10, 33, 0, 0), 0, 1062), (272, (10, 34, 0, 0), 0, 1063), (275, (10, 35, 0, 0), 0, 1064), (304, (10, 40, 0, 0), 0, 1069), (307, (10, 41, 0, 0), 0, 1070), (310, (10, 42, 0, 0), 0, 1071), (313, (10, 43, 0, 0), 0, 1072), (316, (10, 44, 0, 0), 0, 1073), (319, (10, 45, 0, 0), 0, 1074), (332, (10, 46, 0, 0), 0, 1075), (339, (10, 47, 0, 0), 0, 1076), (356, (10, 51, 0, 0), 0, 1080), (359, (10, 53, 0, 0), 0, 1082)]
def FT_10 : List (Nat × (Nat × Nat × Nat × Nat) × Nat × Nat) := FT_10_0 ++ (FT_10_1 ++ (FT_10_2))
def FT : Nat → List (Nat × (Nat × Nat × Nat × Nat) × Nat × Nat) := fun o => match o with
  | 0 => FT_0
  | 1 => FT_1
  | 2 => FT_2
  | 3 => FT_3
  | 4 => FT_4
  | 5 => FT_5
  | 6 => FT_6
  | 7 => FT_7
  | 8 => FT_8
  | 9 => FT_9
  | 10 => FT_10
  | _ => []
def NT_9_0 : List (Nat × Nat × List Nat) := [(7, 8, [113, 114, 92]), (16, 7, [133, 309, 98]), (22, 3, [135, 349, 99]), (28, 6, [137, 388, 100]), (34, 5, [139, 140, 93]), (41, 4, [210, 211, 94]), (48, 2, [247, 248, 95]), (55, 1, [264, 265, 96]), (62, 0, [282, 283, 97])]
def NT_9 : List (Nat × Nat × List Nat) := NT_9_0
def NT_11_0 : List (Nat × Nat × List Nat) := [(7, 9, [105, 106, 91]), (10, 10, [1024, 1025, 101])]
def NT_11 : List (Nat × Nat × List Nat) := NT_11_0
def NT : Nat → List (Nat × Nat × List Nat) := fun o => match o with
  | 9 => NT_9
  | 11 => NT_11
  | _ => []
def AT_9_0 : List (Nat × Nat × String × List Nat) := [(16, 4, "TurnsOneWay$Stone", [133, 134]), (22, 5, "TurnsOneWay$Floor", [135, 136]), (28, 6, "TurnsOneWay$Shelf", [137, 138])]
def AT_9 : List (Nat × Nat × String × List Nat) := AT_9_0
def AT : Nat → List (Nat × Nat × String × List Nat) := fun o => match o with
  | 9 => AT_9
  | _ => []
def KT_4_0 : List (Nat × Int32 × Nat) := [(63, -2000000000, 746)]
def KT_4 : List (Nat × Int32 × Nat) := KT_4_0
def KT_7_0 : List (Nat × Int32 × Nat) := [(106, -2000000000, 552)]
def KT_7 : List (Nat × Int32 × Nat) := KT_7_0
def KT_9_0 : List (Nat × Int32 × Nat) := [(104, -2000000000, 518), (307, 999999, 642), (308, 1103515245, 816)]
def KT_9 : List (Nat × Int32 × Nat) := KT_9_0
def KT_10_0 : List (Nat × Int32 × Nat) := [(176, -2000000000, 1251), (256, 999999, 1384), (335, 1103515245, 1469)]
def KT_10 : List (Nat × Int32 × Nat) := KT_10_0
def KT : Nat → List (Nat × Int32 × Nat) := fun o => match o with
  | 4 => KT_4
  | 7 => KT_7
  | 9 => KT_9
  | 10 => KT_10
  | _ => []
def KL_5_0 : List (Nat × Int64 × Nat) := [(101, 1000000, 688)]
def KL_5 : List (Nat × Int64 × Nat) := KL_5_0
def KL_9_0 : List (Nat × Int64 × Nat) := [(235, 1000, 902), (270, -9223372036854775808, 1003)]
def KL_9 : List (Nat × Int64 × Nat) := KL_9_0
def KL_10_0 : List (Nat × Int64 × Nat) := [(281, 1000000, 1397), (354, 1000, 1517), (406, -9223372036854775808, 1605)]
def KL_10 : List (Nat × Int64 × Nat) := KL_10_0
def KL_11_0 : List (Nat × Int64 × Nat) := [(150, 4294967295, 1614)]
def KL_11 : List (Nat × Int64 × Nat) := KL_11_0
def KL : Nat → List (Nat × Int64 × Nat) := fun o => match o with
  | 5 => KL_5
  | 9 => KL_9
  | 10 => KL_10
  | 11 => KL_11
  | _ => []
def toQ (q : Nat × Nat × Nat × Nat) : Nat × Nat × Nat × MI := (q.1, q.2.1, q.2.2.1, mI q.2.2.2)
def fC (o i : Nat) : Option (Nat × Nat × Nat × MI) := ((CT o).find? (fun r => r.1 == i)).map (fun r => toQ r.2.1)
def fF (o i : Nat) : Option (Nat × Nat × Nat × Nat) := ((FT o).find? (fun r => r.1 == i)).map (fun r => r.2.1)
def fN (o i : Nat) : Option Nat := ((NT o).find? (fun r => r.1 == i)).map (fun r => r.2.1)
def fA (o i : Nat) : Option Nat := ((AT o).find? (fun r => r.1 == i)).map (fun r => r.2.1)
def fK (o i : Nat) : Option Int32 := ((KT o).find? (fun r => r.1 == i)).map (fun r => r.2.1)
def fL (o i : Nat) : Option Int64 := ((KL o).find? (fun r => r.1 == i)).map (fun r => r.2.1)
