section
-- ===== PART A: goes FIRST, ahead of the names: the tables' words, and 'selects' of the private methods out of them =====
/-- a private method of a class that the tables say can be made, by its rows of tables_1 -/
def lw_okq (q : MethodName × Nat) : Prop := (q.1.cls ≠ "java/lang/invoke/MethodHandle" ∧ q.1.cls ≠ "java/lang/invoke/VarHandle") ∧ Cond.instantiable q.1.cls q.2 ∈ tables_1 ∧ Cond.privateMethod q.1 ∈ tables_1 ∧ Cond.instanceMethod q.1 ∈ tables_1
theorem lw_p0 : lw_okq (⟨"OldMap$Points", "add", "(IIII)I"⟩, 4) := ⟨⟨by decide +kernel, by decide +kernel⟩, List.mem_of_getElem? (i := 28) (by decide +kernel), List.mem_of_getElem? (i := 232) (by decide +kernel), List.mem_of_getElem? (i := 233) (by decide +kernel)⟩
theorem lw_p1 : lw_okq (⟨"OldMap$Points", "place", "(IIII)V"⟩, 4) := ⟨⟨by decide +kernel, by decide +kernel⟩, List.mem_of_getElem? (i := 28) (by decide +kernel), List.mem_of_getElem? (i := 236) (by decide +kernel), List.mem_of_getElem? (i := 237) (by decide +kernel)⟩
theorem lw_p2 : lw_okq (⟨"OldMap$Points", "has", "(I)Z"⟩, 4) := ⟨⟨by decide +kernel, by decide +kernel⟩, List.mem_of_getElem? (i := 28) (by decide +kernel), List.mem_of_getElem? (i := 247) (by decide +kernel), List.mem_of_getElem? (i := 248) (by decide +kernel)⟩
theorem lw_p3 : lw_okq (⟨"OldMap", "fits", "(I)Z"⟩, 7) := ⟨⟨by decide +kernel, by decide +kernel⟩, List.mem_of_getElem? (i := 14) (by decide +kernel), List.mem_of_getElem? (i := 275) (by decide +kernel), List.mem_of_getElem? (i := 276) (by decide +kernel)⟩
theorem lw_p4 : lw_okq (⟨"OldMap$Points", "counting", "()I"⟩, 4) := ⟨⟨by decide +kernel, by decide +kernel⟩, List.mem_of_getElem? (i := 28) (by decide +kernel), List.mem_of_getElem? (i := 279) (by decide +kernel), List.mem_of_getElem? (i := 280) (by decide +kernel)⟩
theorem lw_p5 : lw_okq (⟨"OldMap$Bend", "fit", "(II)Z"⟩, 7) := ⟨⟨by decide +kernel, by decide +kernel⟩, List.mem_of_getElem? (i := 115) (by decide +kernel), List.mem_of_getElem? (i := 283) (by decide +kernel), List.mem_of_getElem? (i := 284) (by decide +kernel)⟩
theorem lw_p6 : lw_okq (⟨"OldMap$Bend", "sumOf", "(I)J"⟩, 7) := ⟨⟨by decide +kernel, by decide +kernel⟩, List.mem_of_getElem? (i := 115) (by decide +kernel), List.mem_of_getElem? (i := 293) (by decide +kernel), List.mem_of_getElem? (i := 294) (by decide +kernel)⟩
theorem lw_p7 : lw_okq (⟨"OldMap$Bend", "fitShift", "()Z"⟩, 7) := ⟨⟨by decide +kernel, by decide +kernel⟩, List.mem_of_getElem? (i := 115) (by decide +kernel), List.mem_of_getElem? (i := 297) (by decide +kernel), List.mem_of_getElem? (i := 298) (by decide +kernel)⟩
theorem lw_p8 : lw_okq (⟨"OldMap$Way", "set", "(JJJJ)V"⟩, 4) := ⟨⟨by decide +kernel, by decide +kernel⟩, List.mem_of_getElem? (i := 121) (by decide +kernel), List.mem_of_getElem? (i := 301) (by decide +kernel), List.mem_of_getElem? (i := 302) (by decide +kernel)⟩
theorem lw_p9 : lw_okq (⟨"OldMap$Bend", "fitTurned", "()Z"⟩, 7) := ⟨⟨by decide +kernel, by decide +kernel⟩, List.mem_of_getElem? (i := 115) (by decide +kernel), List.mem_of_getElem? (i := 305) (by decide +kernel), List.mem_of_getElem? (i := 306) (by decide +kernel)⟩
theorem lw_p10 : lw_okq (⟨"OldMap$Bend", "spread", "(II)J"⟩, 7) := ⟨⟨by decide +kernel, by decide +kernel⟩, List.mem_of_getElem? (i := 115) (by decide +kernel), List.mem_of_getElem? (i := 309) (by decide +kernel), List.mem_of_getElem? (i := 310) (by decide +kernel)⟩
theorem lw_p11 : lw_okq (⟨"OldMap$Bend", "fitShrunk", "(ILOldMap$Way;)Z"⟩, 7) := ⟨⟨by decide +kernel, by decide +kernel⟩, List.mem_of_getElem? (i := 115) (by decide +kernel), List.mem_of_getElem? (i := 313) (by decide +kernel), List.mem_of_getElem? (i := 314) (by decide +kernel)⟩
theorem lw_p12 : lw_okq (⟨"OldMap$Bend", "aboveOfQ", "()J"⟩, 7) := ⟨⟨by decide +kernel, by decide +kernel⟩, List.mem_of_getElem? (i := 115) (by decide +kernel), List.mem_of_getElem? (i := 327) (by decide +kernel), List.mem_of_getElem? (i := 328) (by decide +kernel)⟩
theorem lw_p13 : lw_okq (⟨"OldMap$Bend", "along", "(I)LOldMap$Way;"⟩, 7) := ⟨⟨by decide +kernel, by decide +kernel⟩, List.mem_of_getElem? (i := 115) (by decide +kernel), List.mem_of_getElem? (i := 338) (by decide +kernel), List.mem_of_getElem? (i := 339) (by decide +kernel)⟩
theorem lw_p14 : lw_okq (⟨"OldMap$Way", "above", "(JJ)J"⟩, 4) := ⟨⟨by decide +kernel, by decide +kernel⟩, List.mem_of_getElem? (i := 121) (by decide +kernel), List.mem_of_getElem? (i := 342) (by decide +kernel), List.mem_of_getElem? (i := 343) (by decide +kernel)⟩
theorem lw_p15 : lw_okq (⟨"OldMap$Bend", "offAbove", "(II)J"⟩, 7) := ⟨⟨by decide +kernel, by decide +kernel⟩, List.mem_of_getElem? (i := 115) (by decide +kernel), List.mem_of_getElem? (i := 350) (by decide +kernel), List.mem_of_getElem? (i := 351) (by decide +kernel)⟩
def lw_privs_1 : List (MethodName × Nat) := [(⟨"OldMap$Points", "add", "(IIII)I"⟩, 4), (⟨"OldMap$Points", "place", "(IIII)V"⟩, 4), (⟨"OldMap$Points", "has", "(I)Z"⟩, 4), (⟨"OldMap", "fits", "(I)Z"⟩, 7), (⟨"OldMap$Points", "counting", "()I"⟩, 4), (⟨"OldMap$Bend", "fit", "(II)Z"⟩, 7), (⟨"OldMap$Bend", "sumOf", "(I)J"⟩, 7), (⟨"OldMap$Bend", "fitShift", "()Z"⟩, 7), (⟨"OldMap$Way", "set", "(JJJJ)V"⟩, 4), (⟨"OldMap$Bend", "fitTurned", "()Z"⟩, 7), (⟨"OldMap$Bend", "spread", "(II)J"⟩, 7), (⟨"OldMap$Bend", "fitShrunk", "(ILOldMap$Way;)Z"⟩, 7), (⟨"OldMap$Bend", "aboveOfQ", "()J"⟩, 7), (⟨"OldMap$Bend", "along", "(I)LOldMap$Way;"⟩, 7), (⟨"OldMap$Way", "above", "(JJ)J"⟩, 4), (⟨"OldMap$Bend", "offAbove", "(II)J"⟩, 7)]
theorem lw_r1 : ∀ q ∈ lw_privs_1, lw_okq q := List.forall_mem_cons.mpr ⟨lw_p0, List.forall_mem_cons.mpr ⟨lw_p1, List.forall_mem_cons.mpr ⟨lw_p2, List.forall_mem_cons.mpr ⟨lw_p3, List.forall_mem_cons.mpr ⟨lw_p4, List.forall_mem_cons.mpr ⟨lw_p5, List.forall_mem_cons.mpr ⟨lw_p6, List.forall_mem_cons.mpr ⟨lw_p7, List.forall_mem_cons.mpr ⟨lw_p8, List.forall_mem_cons.mpr ⟨lw_p9, List.forall_mem_cons.mpr ⟨lw_p10, List.forall_mem_cons.mpr ⟨lw_p11, List.forall_mem_cons.mpr ⟨lw_p12, List.forall_mem_cons.mpr ⟨lw_p13, List.forall_mem_cons.mpr ⟨lw_p14, List.forall_mem_cons.mpr ⟨lw_p15, fun _ h => absurd h List.not_mem_nil⟩⟩⟩⟩⟩⟩⟩⟩⟩⟩⟩⟩⟩⟩⟩⟩
theorem lw_p16 : lw_okq (⟨"OldMap$Bend", "missAbove", "(I)J"⟩, 7) := ⟨⟨by decide +kernel, by decide +kernel⟩, List.mem_of_getElem? (i := 115) (by decide +kernel), List.mem_of_getElem? (i := 360) (by decide +kernel), List.mem_of_getElem? (i := 361) (by decide +kernel)⟩
theorem lw_p17 : lw_okq (⟨"OldMap$Bend", "shiftMiss", "(I)J"⟩, 7) := ⟨⟨by decide +kernel, by decide +kernel⟩, List.mem_of_getElem? (i := 115) (by decide +kernel), List.mem_of_getElem? (i := 364) (by decide +kernel), List.mem_of_getElem? (i := 365) (by decide +kernel)⟩
theorem lw_p18 : lw_okq (⟨"OldMap$Bend", "turnedMiss", "()J"⟩, 7) := ⟨⟨by decide +kernel, by decide +kernel⟩, List.mem_of_getElem? (i := 115) (by decide +kernel), List.mem_of_getElem? (i := 369) (by decide +kernel), List.mem_of_getElem? (i := 370) (by decide +kernel)⟩
theorem lw_p19 : lw_okq (⟨"OldMap$Bend", "firstBeyond", "(I)I"⟩, 7) := ⟨⟨by decide +kernel, by decide +kernel⟩, List.mem_of_getElem? (i := 115) (by decide +kernel), List.mem_of_getElem? (i := 377) (by decide +kernel), List.mem_of_getElem? (i := 378) (by decide +kernel)⟩
theorem lw_p20 : lw_okq (⟨"OldMap$Bend", "isFarOff", "(III)Z"⟩, 7) := ⟨⟨by decide +kernel, by decide +kernel⟩, List.mem_of_getElem? (i := 115) (by decide +kernel), List.mem_of_getElem? (i := 381) (by decide +kernel), List.mem_of_getElem? (i := 382) (by decide +kernel)⟩
theorem lw_p21 : lw_okq (⟨"OldMap", "lyingSet", "(I)I"⟩, 7) := ⟨⟨by decide +kernel, by decide +kernel⟩, List.mem_of_getElem? (i := 14) (by decide +kernel), List.mem_of_getElem? (i := 391) (by decide +kernel), List.mem_of_getElem? (i := 392) (by decide +kernel)⟩
theorem lw_p22 : lw_okq (⟨"OldMap", "agreeWithout", "(II)Z"⟩, 7) := ⟨⟨by decide +kernel, by decide +kernel⟩, List.mem_of_getElem? (i := 14) (by decide +kernel), List.mem_of_getElem? (i := 395) (by decide +kernel), List.mem_of_getElem? (i := 396) (by decide +kernel)⟩
theorem lw_p23 : lw_okq (⟨"OldMap", "leastSet", "(II)I"⟩, 7) := ⟨⟨by decide +kernel, by decide +kernel⟩, List.mem_of_getElem? (i := 14) (by decide +kernel), List.mem_of_getElem? (i := 399) (by decide +kernel), List.mem_of_getElem? (i := 400) (by decide +kernel)⟩
theorem lw_p24 : lw_okq (⟨"OldMap$Points", "turn", "(IIII)I"⟩, 4) := ⟨⟨by decide +kernel, by decide +kernel⟩, List.mem_of_getElem? (i := 28) (by decide +kernel), List.mem_of_getElem? (i := 419) (by decide +kernel), List.mem_of_getElem? (i := 420) (by decide +kernel)⟩
theorem lw_p25 : lw_okq (⟨"OldMap$Points", "side", "(IIIII)I"⟩, 4) := ⟨⟨by decide +kernel, by decide +kernel⟩, List.mem_of_getElem? (i := 28) (by decide +kernel), List.mem_of_getElem? (i := 423) (by decide +kernel), List.mem_of_getElem? (i := 424) (by decide +kernel)⟩
theorem lw_p26 : lw_okq (⟨"OldMap$Triangles", "add", "(III)I"⟩, 3) := ⟨⟨by decide +kernel, by decide +kernel⟩, List.mem_of_getElem? (i := 56) (by decide +kernel), List.mem_of_getElem? (i := 427) (by decide +kernel), List.mem_of_getElem? (i := 428) (by decide +kernel)⟩
theorem lw_p27 : lw_okq (⟨"OldMap$Triangles", "has", "(I)Z"⟩, 3) := ⟨⟨by decide +kernel, by decide +kernel⟩, List.mem_of_getElem? (i := 56) (by decide +kernel), List.mem_of_getElem? (i := 435) (by decide +kernel), List.mem_of_getElem? (i := 436) (by decide +kernel)⟩
theorem lw_p28 : lw_okq (⟨"OldMap$Triangles", "isFlat", "(I)Z"⟩, 3) := ⟨⟨by decide +kernel, by decide +kernel⟩, List.mem_of_getElem? (i := 56) (by decide +kernel), List.mem_of_getElem? (i := 439) (by decide +kernel), List.mem_of_getElem? (i := 440) (by decide +kernel)⟩
theorem lw_p29 : lw_okq (⟨"OldMap$Triangles", "turn", "(II)I"⟩, 3) := ⟨⟨by decide +kernel, by decide +kernel⟩, List.mem_of_getElem? (i := 56) (by decide +kernel), List.mem_of_getElem? (i := 443) (by decide +kernel), List.mem_of_getElem? (i := 444) (by decide +kernel)⟩
theorem lw_p30 : lw_okq (⟨"OldMap$Triangles", "isOver", "(I)Z"⟩, 3) := ⟨⟨by decide +kernel, by decide +kernel⟩, List.mem_of_getElem? (i := 56) (by decide +kernel), List.mem_of_getElem? (i := 448) (by decide +kernel), List.mem_of_getElem? (i := 449) (by decide +kernel)⟩
theorem lw_p31 : lw_okq (⟨"OldMap$Triangles", "wayRound", "(II)I"⟩, 3) := ⟨⟨by decide +kernel, by decide +kernel⟩, List.mem_of_getElem? (i := 56) (by decide +kernel), List.mem_of_getElem? (i := 452) (by decide +kernel), List.mem_of_getElem? (i := 453) (by decide +kernel)⟩
def lw_privs_2 : List (MethodName × Nat) := [(⟨"OldMap$Bend", "missAbove", "(I)J"⟩, 7), (⟨"OldMap$Bend", "shiftMiss", "(I)J"⟩, 7), (⟨"OldMap$Bend", "turnedMiss", "()J"⟩, 7), (⟨"OldMap$Bend", "firstBeyond", "(I)I"⟩, 7), (⟨"OldMap$Bend", "isFarOff", "(III)Z"⟩, 7), (⟨"OldMap", "lyingSet", "(I)I"⟩, 7), (⟨"OldMap", "agreeWithout", "(II)Z"⟩, 7), (⟨"OldMap", "leastSet", "(II)I"⟩, 7), (⟨"OldMap$Points", "turn", "(IIII)I"⟩, 4), (⟨"OldMap$Points", "side", "(IIIII)I"⟩, 4), (⟨"OldMap$Triangles", "add", "(III)I"⟩, 3), (⟨"OldMap$Triangles", "has", "(I)Z"⟩, 3), (⟨"OldMap$Triangles", "isFlat", "(I)Z"⟩, 3), (⟨"OldMap$Triangles", "turn", "(II)I"⟩, 3), (⟨"OldMap$Triangles", "isOver", "(I)Z"⟩, 3), (⟨"OldMap$Triangles", "wayRound", "(II)I"⟩, 3)]
theorem lw_r2 : ∀ q ∈ lw_privs_2, lw_okq q := List.forall_mem_cons.mpr ⟨lw_p16, List.forall_mem_cons.mpr ⟨lw_p17, List.forall_mem_cons.mpr ⟨lw_p18, List.forall_mem_cons.mpr ⟨lw_p19, List.forall_mem_cons.mpr ⟨lw_p20, List.forall_mem_cons.mpr ⟨lw_p21, List.forall_mem_cons.mpr ⟨lw_p22, List.forall_mem_cons.mpr ⟨lw_p23, List.forall_mem_cons.mpr ⟨lw_p24, List.forall_mem_cons.mpr ⟨lw_p25, List.forall_mem_cons.mpr ⟨lw_p26, List.forall_mem_cons.mpr ⟨lw_p27, List.forall_mem_cons.mpr ⟨lw_p28, List.forall_mem_cons.mpr ⟨lw_p29, List.forall_mem_cons.mpr ⟨lw_p30, List.forall_mem_cons.mpr ⟨lw_p31, fun _ h => absurd h List.not_mem_nil⟩⟩⟩⟩⟩⟩⟩⟩⟩⟩⟩⟩⟩⟩⟩⟩
theorem lw_p32 : lw_okq (⟨"OldMap$Triangles", "firstAround", "(III)I"⟩, 3) := ⟨⟨by decide +kernel, by decide +kernel⟩, List.mem_of_getElem? (i := 56) (by decide +kernel), List.mem_of_getElem? (i := 463) (by decide +kernel), List.mem_of_getElem? (i := 464) (by decide +kernel)⟩
theorem lw_p33 : lw_okq (⟨"OldMap$Triangles", "holds", "(IIII)Z"⟩, 3) := ⟨⟨by decide +kernel, by decide +kernel⟩, List.mem_of_getElem? (i := 56) (by decide +kernel), List.mem_of_getElem? (i := 468) (by decide +kernel), List.mem_of_getElem? (i := 469) (by decide +kernel)⟩
theorem lw_p34 : lw_okq (⟨"OldMap$Triangles", "inward", "(IIIIII)I"⟩, 3) := ⟨⟨by decide +kernel, by decide +kernel⟩, List.mem_of_getElem? (i := 56) (by decide +kernel), List.mem_of_getElem? (i := 472) (by decide +kernel), List.mem_of_getElem? (i := 473) (by decide +kernel)⟩
theorem lw_p35 : lw_okq (⟨"OldMap$Triangles", "bentAbove", "(IIIII)J"⟩, 3) := ⟨⟨by decide +kernel, by decide +kernel⟩, List.mem_of_getElem? (i := 56) (by decide +kernel), List.mem_of_getElem? (i := 481) (by decide +kernel), List.mem_of_getElem? (i := 482) (by decide +kernel)⟩
theorem lw_p36 : lw_okq (⟨"OldMap$Triangles", "overlap", "(III)Z"⟩, 3) := ⟨⟨by decide +kernel, by decide +kernel⟩, List.mem_of_getElem? (i := 56) (by decide +kernel), List.mem_of_getElem? (i := 490) (by decide +kernel), List.mem_of_getElem? (i := 491) (by decide +kernel)⟩
theorem lw_p37 : lw_okq (⟨"OldMap$Triangles", "isParted", "(III)Z"⟩, 3) := ⟨⟨by decide +kernel, by decide +kernel⟩, List.mem_of_getElem? (i := 56) (by decide +kernel), List.mem_of_getElem? (i := 494) (by decide +kernel), List.mem_of_getElem? (i := 495) (by decide +kernel)⟩
theorem lw_p38 : lw_okq (⟨"OldMap$Triangles", "isOutside", "(IIII[I)Z"⟩, 3) := ⟨⟨by decide +kernel, by decide +kernel⟩, List.mem_of_getElem? (i := 56) (by decide +kernel), List.mem_of_getElem? (i := 498) (by decide +kernel), List.mem_of_getElem? (i := 499) (by decide +kernel)⟩
theorem lw_p39 : lw_okq (⟨"OldMap$Table", "thingsOf", "(I)LOldMap$Things;"⟩, 4) := ⟨⟨by decide +kernel, by decide +kernel⟩, List.mem_of_getElem? (i := 22) (by decide +kernel), List.mem_of_getElem? (i := 513) (by decide +kernel), List.mem_of_getElem? (i := 514) (by decide +kernel)⟩
theorem lw_p40 : lw_okq (⟨"OldMap$Things", "add", "(III)I"⟩, 4) := ⟨⟨by decide +kernel, by decide +kernel⟩, List.mem_of_getElem? (i := 74) (by decide +kernel), List.mem_of_getElem? (i := 517) (by decide +kernel), List.mem_of_getElem? (i := 518) (by decide +kernel)⟩
theorem lw_p41 : lw_okq (⟨"OldMap$Things", "has", "(I)Z"⟩, 4) := ⟨⟨by decide +kernel, by decide +kernel⟩, List.mem_of_getElem? (i := 74) (by decide +kernel), List.mem_of_getElem? (i := 529) (by decide +kernel), List.mem_of_getElem? (i := 530) (by decide +kernel)⟩
theorem lw_p42 : lw_okq (⟨"OldMap$Match", "find", "(I)V"⟩, 7) := ⟨⟨by decide +kernel, by decide +kernel⟩, List.mem_of_getElem? (i := 173) (by decide +kernel), List.mem_of_getElem? (i := 533) (by decide +kernel), List.mem_of_getElem? (i := 534) (by decide +kernel)⟩
theorem lw_p43 : lw_okq (⟨"OldMap$Match", "measure", "(I)V"⟩, 7) := ⟨⟨by decide +kernel, by decide +kernel⟩, List.mem_of_getElem? (i := 173) (by decide +kernel), List.mem_of_getElem? (i := 537) (by decide +kernel), List.mem_of_getElem? (i := 538) (by decide +kernel)⟩
theorem lw_p44 : lw_okq (⟨"OldMap$Way", "rounded", "(JJ)J"⟩, 4) := ⟨⟨by decide +kernel, by decide +kernel⟩, List.mem_of_getElem? (i := 121) (by decide +kernel), List.mem_of_getElem? (i := 541) (by decide +kernel), List.mem_of_getElem? (i := 542) (by decide +kernel)⟩
theorem lw_p45 : lw_okq (⟨"OldMap$Match", "fillLeast", "(I)V"⟩, 7) := ⟨⟨by decide +kernel, by decide +kernel⟩, List.mem_of_getElem? (i := 173) (by decide +kernel), List.mem_of_getElem? (i := 551) (by decide +kernel), List.mem_of_getElem? (i := 552) (by decide +kernel)⟩
theorem lw_p46 : lw_okq (⟨"OldMap$Match", "leastFrom", "(III)I"⟩, 7) := ⟨⟨by decide +kernel, by decide +kernel⟩, List.mem_of_getElem? (i := 173) (by decide +kernel), List.mem_of_getElem? (i := 555) (by decide +kernel), List.mem_of_getElem? (i := 556) (by decide +kernel)⟩
theorem lw_p47 : lw_okq (⟨"OldMap$Match", "isFree", "(III)Z"⟩, 7) := ⟨⟨by decide +kernel, by decide +kernel⟩, List.mem_of_getElem? (i := 173) (by decide +kernel), List.mem_of_getElem? (i := 559) (by decide +kernel), List.mem_of_getElem? (i := 560) (by decide +kernel)⟩
def lw_privs_3 : List (MethodName × Nat) := [(⟨"OldMap$Triangles", "firstAround", "(III)I"⟩, 3), (⟨"OldMap$Triangles", "holds", "(IIII)Z"⟩, 3), (⟨"OldMap$Triangles", "inward", "(IIIIII)I"⟩, 3), (⟨"OldMap$Triangles", "bentAbove", "(IIIII)J"⟩, 3), (⟨"OldMap$Triangles", "overlap", "(III)Z"⟩, 3), (⟨"OldMap$Triangles", "isParted", "(III)Z"⟩, 3), (⟨"OldMap$Triangles", "isOutside", "(IIII[I)Z"⟩, 3), (⟨"OldMap$Table", "thingsOf", "(I)LOldMap$Things;"⟩, 4), (⟨"OldMap$Things", "add", "(III)I"⟩, 4), (⟨"OldMap$Things", "has", "(I)Z"⟩, 4), (⟨"OldMap$Match", "find", "(I)V"⟩, 7), (⟨"OldMap$Match", "measure", "(I)V"⟩, 7), (⟨"OldMap$Way", "rounded", "(JJ)J"⟩, 4), (⟨"OldMap$Match", "fillLeast", "(I)V"⟩, 7), (⟨"OldMap$Match", "leastFrom", "(III)I"⟩, 7), (⟨"OldMap$Match", "isFree", "(III)Z"⟩, 7)]
theorem lw_r3 : ∀ q ∈ lw_privs_3, lw_okq q := List.forall_mem_cons.mpr ⟨lw_p32, List.forall_mem_cons.mpr ⟨lw_p33, List.forall_mem_cons.mpr ⟨lw_p34, List.forall_mem_cons.mpr ⟨lw_p35, List.forall_mem_cons.mpr ⟨lw_p36, List.forall_mem_cons.mpr ⟨lw_p37, List.forall_mem_cons.mpr ⟨lw_p38, List.forall_mem_cons.mpr ⟨lw_p39, List.forall_mem_cons.mpr ⟨lw_p40, List.forall_mem_cons.mpr ⟨lw_p41, List.forall_mem_cons.mpr ⟨lw_p42, List.forall_mem_cons.mpr ⟨lw_p43, List.forall_mem_cons.mpr ⟨lw_p44, List.forall_mem_cons.mpr ⟨lw_p45, List.forall_mem_cons.mpr ⟨lw_p46, List.forall_mem_cons.mpr ⟨lw_p47, fun _ h => absurd h List.not_mem_nil⟩⟩⟩⟩⟩⟩⟩⟩⟩⟩⟩⟩⟩⟩⟩⟩
theorem lw_p48 : lw_okq (⟨"OldMap$Match", "costWith", "(III)I"⟩, 7) := ⟨⟨by decide +kernel, by decide +kernel⟩, List.mem_of_getElem? (i := 173) (by decide +kernel), List.mem_of_getElem? (i := 563) (by decide +kernel), List.mem_of_getElem? (i := 564) (by decide +kernel)⟩
theorem lw_p49 : lw_okq (⟨"OldMap$Match", "give", "()V"⟩, 7) := ⟨⟨by decide +kernel, by decide +kernel⟩, List.mem_of_getElem? (i := 173) (by decide +kernel), List.mem_of_getElem? (i := 570) (by decide +kernel), List.mem_of_getElem? (i := 571) (by decide +kernel)⟩
theorem lw_p50 : lw_okq (⟨"OldMap$Match", "firstBest", "(I)I"⟩, 7) := ⟨⟨by decide +kernel, by decide +kernel⟩, List.mem_of_getElem? (i := 173) (by decide +kernel), List.mem_of_getElem? (i := 574) (by decide +kernel), List.mem_of_getElem? (i := 575) (by decide +kernel)⟩
theorem lw_p51 : lw_okq (⟨"OldMap$Match", "leastCost", "()I"⟩, 7) := ⟨⟨by decide +kernel, by decide +kernel⟩, List.mem_of_getElem? (i := 173) (by decide +kernel), List.mem_of_getElem? (i := 582) (by decide +kernel), List.mem_of_getElem? (i := 583) (by decide +kernel)⟩
theorem lw_p52 : lw_okq (⟨"OldMap$Match", "firstUnused", "()I"⟩, 7) := ⟨⟨by decide +kernel, by decide +kernel⟩, List.mem_of_getElem? (i := 173) (by decide +kernel), List.mem_of_getElem? (i := 590) (by decide +kernel), List.mem_of_getElem? (i := 591) (by decide +kernel)⟩
theorem lw_p53 : lw_okq (⟨"OldMap$Triangles", "manyOver", "()I"⟩, 3) := ⟨⟨by decide +kernel, by decide +kernel⟩, List.mem_of_getElem? (i := 56) (by decide +kernel), List.mem_of_getElem? (i := 598) (by decide +kernel), List.mem_of_getElem? (i := 599) (by decide +kernel)⟩
theorem lw_p54 : lw_okq (⟨"OldMap$Triangles", "manyFlat", "()I"⟩, 3) := ⟨⟨by decide +kernel, by decide +kernel⟩, List.mem_of_getElem? (i := 56) (by decide +kernel), List.mem_of_getElem? (i := 603) (by decide +kernel), List.mem_of_getElem? (i := 604) (by decide +kernel)⟩
theorem lw_p55 : lw_okq (⟨"OldMap$Triangles", "manyOverlaps", "(I)I"⟩, 3) := ⟨⟨by decide +kernel, by decide +kernel⟩, List.mem_of_getElem? (i := 56) (by decide +kernel), List.mem_of_getElem? (i := 607) (by decide +kernel), List.mem_of_getElem? (i := 608) (by decide +kernel)⟩
theorem lw_p56 : lw_okq (⟨"OldMap$Table", "copyFrom", "(LOldMap$Table;)V"⟩, 4) := ⟨⟨by decide +kernel, by decide +kernel⟩, List.mem_of_getElem? (i := 22) (by decide +kernel), List.mem_of_getElem? (i := 616) (by decide +kernel), List.mem_of_getElem? (i := 617) (by decide +kernel)⟩
theorem lw_p57 : lw_okq (⟨"OldMap$Points", "copyFrom", "(LOldMap$Points;)V"⟩, 4) := ⟨⟨by decide +kernel, by decide +kernel⟩, List.mem_of_getElem? (i := 28) (by decide +kernel), List.mem_of_getElem? (i := 620) (by decide +kernel), List.mem_of_getElem? (i := 621) (by decide +kernel)⟩
theorem lw_p58 : lw_okq (⟨"OldMap$Triangles", "copyFrom", "(LOldMap$Triangles;)V"⟩, 3) := ⟨⟨by decide +kernel, by decide +kernel⟩, List.mem_of_getElem? (i := 56) (by decide +kernel), List.mem_of_getElem? (i := 627) (by decide +kernel), List.mem_of_getElem? (i := 628) (by decide +kernel)⟩
theorem lw_p59 : lw_okq (⟨"OldMap$Things", "copyFrom", "(LOldMap$Things;)V"⟩, 4) := ⟨⟨by decide +kernel, by decide +kernel⟩, List.mem_of_getElem? (i := 74) (by decide +kernel), List.mem_of_getElem? (i := 632) (by decide +kernel), List.mem_of_getElem? (i := 633) (by decide +kernel)⟩
theorem lw_p60 : lw_okq (⟨"OldMapModel", "isPoint", "(I)Z"⟩, 36) := ⟨⟨by decide +kernel, by decide +kernel⟩, List.mem_of_getElem? (i := 641) (by decide +kernel), List.mem_of_getElem? (i := 771) (by decide +kernel), List.mem_of_getElem? (i := 772) (by decide +kernel)⟩
theorem lw_p61 : lw_okq (⟨"OldMapModel", "counting", "()I"⟩, 36) := ⟨⟨by decide +kernel, by decide +kernel⟩, List.mem_of_getElem? (i := 641) (by decide +kernel), List.mem_of_getElem? (i := 797) (by decide +kernel), List.mem_of_getElem? (i := 798) (by decide +kernel)⟩
theorem lw_p62 : lw_okq (⟨"OldMapModel", "fit", "(II)Z"⟩, 36) := ⟨⟨by decide +kernel, by decide +kernel⟩, List.mem_of_getElem? (i := 641) (by decide +kernel), List.mem_of_getElem? (i := 801) (by decide +kernel), List.mem_of_getElem? (i := 802) (by decide +kernel)⟩
theorem lw_p63 : lw_okq (⟨"OldMapModel", "shift", "(I)Z"⟩, 36) := ⟨⟨by decide +kernel, by decide +kernel⟩, List.mem_of_getElem? (i := 641) (by decide +kernel), List.mem_of_getElem? (i := 805) (by decide +kernel), List.mem_of_getElem? (i := 806) (by decide +kernel)⟩
def lw_privs_4 : List (MethodName × Nat) := [(⟨"OldMap$Match", "costWith", "(III)I"⟩, 7), (⟨"OldMap$Match", "give", "()V"⟩, 7), (⟨"OldMap$Match", "firstBest", "(I)I"⟩, 7), (⟨"OldMap$Match", "leastCost", "()I"⟩, 7), (⟨"OldMap$Match", "firstUnused", "()I"⟩, 7), (⟨"OldMap$Triangles", "manyOver", "()I"⟩, 3), (⟨"OldMap$Triangles", "manyFlat", "()I"⟩, 3), (⟨"OldMap$Triangles", "manyOverlaps", "(I)I"⟩, 3), (⟨"OldMap$Table", "copyFrom", "(LOldMap$Table;)V"⟩, 4), (⟨"OldMap$Points", "copyFrom", "(LOldMap$Points;)V"⟩, 4), (⟨"OldMap$Triangles", "copyFrom", "(LOldMap$Triangles;)V"⟩, 3), (⟨"OldMap$Things", "copyFrom", "(LOldMap$Things;)V"⟩, 4), (⟨"OldMapModel", "isPoint", "(I)Z"⟩, 36), (⟨"OldMapModel", "counting", "()I"⟩, 36), (⟨"OldMapModel", "fit", "(II)Z"⟩, 36), (⟨"OldMapModel", "shift", "(I)Z"⟩, 36)]
theorem lw_r4 : ∀ q ∈ lw_privs_4, lw_okq q := List.forall_mem_cons.mpr ⟨lw_p48, List.forall_mem_cons.mpr ⟨lw_p49, List.forall_mem_cons.mpr ⟨lw_p50, List.forall_mem_cons.mpr ⟨lw_p51, List.forall_mem_cons.mpr ⟨lw_p52, List.forall_mem_cons.mpr ⟨lw_p53, List.forall_mem_cons.mpr ⟨lw_p54, List.forall_mem_cons.mpr ⟨lw_p55, List.forall_mem_cons.mpr ⟨lw_p56, List.forall_mem_cons.mpr ⟨lw_p57, List.forall_mem_cons.mpr ⟨lw_p58, List.forall_mem_cons.mpr ⟨lw_p59, List.forall_mem_cons.mpr ⟨lw_p60, List.forall_mem_cons.mpr ⟨lw_p61, List.forall_mem_cons.mpr ⟨lw_p62, List.forall_mem_cons.mpr ⟨lw_p63, fun _ h => absurd h List.not_mem_nil⟩⟩⟩⟩⟩⟩⟩⟩⟩⟩⟩⟩⟩⟩⟩⟩
theorem lw_p64 : lw_okq (⟨"OldMapModel", "sum", "(III)J"⟩, 36) := ⟨⟨by decide +kernel, by decide +kernel⟩, List.mem_of_getElem? (i := 641) (by decide +kernel), List.mem_of_getElem? (i := 809) (by decide +kernel), List.mem_of_getElem? (i := 810) (by decide +kernel)⟩
theorem lw_p65 : lw_okq (⟨"OldMapModel", "spread", "(III)J"⟩, 36) := ⟨⟨by decide +kernel, by decide +kernel⟩, List.mem_of_getElem? (i := 641) (by decide +kernel), List.mem_of_getElem? (i := 813) (by decide +kernel), List.mem_of_getElem? (i := 814) (by decide +kernel)⟩
theorem lw_p66 : lw_okq (⟨"OldMapModel", "turned", "(I)Z"⟩, 36) := ⟨⟨by decide +kernel, by decide +kernel⟩, List.mem_of_getElem? (i := 641) (by decide +kernel), List.mem_of_getElem? (i := 818) (by decide +kernel), List.mem_of_getElem? (i := 819) (by decide +kernel)⟩
theorem lw_p67 : lw_okq (⟨"OldMapModel", "shrunk", "(I)Z"⟩, 36) := ⟨⟨by decide +kernel, by decide +kernel⟩, List.mem_of_getElem? (i := 641) (by decide +kernel), List.mem_of_getElem? (i := 822) (by decide +kernel), List.mem_of_getElem? (i := 823) (by decide +kernel)⟩
theorem lw_p68 : lw_okq (⟨"OldMapModel", "offOf", "(IZ)J"⟩, 36) := ⟨⟨by decide +kernel, by decide +kernel⟩, List.mem_of_getElem? (i := 641) (by decide +kernel), List.mem_of_getElem? (i := 841) (by decide +kernel), List.mem_of_getElem? (i := 842) (by decide +kernel)⟩
theorem lw_p69 : lw_okq (⟨"OldMapModel", "firstBeyond", "(I)I"⟩, 36) := ⟨⟨by decide +kernel, by decide +kernel⟩, List.mem_of_getElem? (i := 641) (by decide +kernel), List.mem_of_getElem? (i := 853) (by decide +kernel), List.mem_of_getElem? (i := 854) (by decide +kernel)⟩
theorem lw_p70 : lw_okq (⟨"OldMapModel", "isBeyond", "(I)Z"⟩, 36) := ⟨⟨by decide +kernel, by decide +kernel⟩, List.mem_of_getElem? (i := 641) (by decide +kernel), List.mem_of_getElem? (i := 857) (by decide +kernel), List.mem_of_getElem? (i := 858) (by decide +kernel)⟩
theorem lw_p71 : lw_okq (⟨"OldMapModel", "isTriangle", "(I)Z"⟩, 36) := ⟨⟨by decide +kernel, by decide +kernel⟩, List.mem_of_getElem? (i := 641) (by decide +kernel), List.mem_of_getElem? (i := 888) (by decide +kernel), List.mem_of_getElem? (i := 889) (by decide +kernel)⟩
theorem lw_p72 : lw_okq (⟨"OldMapModel", "stateOf", "(I)I"⟩, 36) := ⟨⟨by decide +kernel, by decide +kernel⟩, List.mem_of_getElem? (i := 641) (by decide +kernel), List.mem_of_getElem? (i := 892) (by decide +kernel), List.mem_of_getElem? (i := 893) (by decide +kernel)⟩
theorem lw_p73 : lw_okq (⟨"OldMapModel", "isFlat", "(I)Z"⟩, 36) := ⟨⟨by decide +kernel, by decide +kernel⟩, List.mem_of_getElem? (i := 641) (by decide +kernel), List.mem_of_getElem? (i := 896) (by decide +kernel), List.mem_of_getElem? (i := 897) (by decide +kernel)⟩
theorem lw_p74 : lw_okq (⟨"OldMapModel", "round", "(II)J"⟩, 36) := ⟨⟨by decide +kernel, by decide +kernel⟩, List.mem_of_getElem? (i := 641) (by decide +kernel), List.mem_of_getElem? (i := 900) (by decide +kernel), List.mem_of_getElem? (i := 901) (by decide +kernel)⟩
theorem lw_p75 : lw_okq (⟨"OldMapModel", "corner", "(IIII)J"⟩, 36) := ⟨⟨by decide +kernel, by decide +kernel⟩, List.mem_of_getElem? (i := 641) (by decide +kernel), List.mem_of_getElem? (i := 904) (by decide +kernel), List.mem_of_getElem? (i := 905) (by decide +kernel)⟩
theorem lw_p76 : lw_okq (⟨"OldMapModel", "side", "(IIIJJ)J"⟩, 36) := ⟨⟨by decide +kernel, by decide +kernel⟩, List.mem_of_getElem? (i := 641) (by decide +kernel), List.mem_of_getElem? (i := 908) (by decide +kernel), List.mem_of_getElem? (i := 909) (by decide +kernel)⟩
theorem lw_p77 : lw_okq (⟨"OldMapModel", "isWithin", "(IIII)Z"⟩, 36) := ⟨⟨by decide +kernel, by decide +kernel⟩, List.mem_of_getElem? (i := 641) (by decide +kernel), List.mem_of_getElem? (i := 916) (by decide +kernel), List.mem_of_getElem? (i := 917) (by decide +kernel)⟩
theorem lw_p78 : lw_okq (⟨"OldMapModel", "doMeet", "(III)Z"⟩, 36) := ⟨⟨by decide +kernel, by decide +kernel⟩, List.mem_of_getElem? (i := 641) (by decide +kernel), List.mem_of_getElem? (i := 928) (by decide +kernel), List.mem_of_getElem? (i := 929) (by decide +kernel)⟩
theorem lw_p79 : lw_okq (⟨"OldMapModel", "parts", "(III)Z"⟩, 36) := ⟨⟨by decide +kernel, by decide +kernel⟩, List.mem_of_getElem? (i := 641) (by decide +kernel), List.mem_of_getElem? (i := 932) (by decide +kernel), List.mem_of_getElem? (i := 933) (by decide +kernel)⟩
def lw_privs_5 : List (MethodName × Nat) := [(⟨"OldMapModel", "sum", "(III)J"⟩, 36), (⟨"OldMapModel", "spread", "(III)J"⟩, 36), (⟨"OldMapModel", "turned", "(I)Z"⟩, 36), (⟨"OldMapModel", "shrunk", "(I)Z"⟩, 36), (⟨"OldMapModel", "offOf", "(IZ)J"⟩, 36), (⟨"OldMapModel", "firstBeyond", "(I)I"⟩, 36), (⟨"OldMapModel", "isBeyond", "(I)Z"⟩, 36), (⟨"OldMapModel", "isTriangle", "(I)Z"⟩, 36), (⟨"OldMapModel", "stateOf", "(I)I"⟩, 36), (⟨"OldMapModel", "isFlat", "(I)Z"⟩, 36), (⟨"OldMapModel", "round", "(II)J"⟩, 36), (⟨"OldMapModel", "corner", "(IIII)J"⟩, 36), (⟨"OldMapModel", "side", "(IIIJJ)J"⟩, 36), (⟨"OldMapModel", "isWithin", "(IIII)Z"⟩, 36), (⟨"OldMapModel", "doMeet", "(III)Z"⟩, 36), (⟨"OldMapModel", "parts", "(III)Z"⟩, 36)]
theorem lw_r5 : ∀ q ∈ lw_privs_5, lw_okq q := List.forall_mem_cons.mpr ⟨lw_p64, List.forall_mem_cons.mpr ⟨lw_p65, List.forall_mem_cons.mpr ⟨lw_p66, List.forall_mem_cons.mpr ⟨lw_p67, List.forall_mem_cons.mpr ⟨lw_p68, List.forall_mem_cons.mpr ⟨lw_p69, List.forall_mem_cons.mpr ⟨lw_p70, List.forall_mem_cons.mpr ⟨lw_p71, List.forall_mem_cons.mpr ⟨lw_p72, List.forall_mem_cons.mpr ⟨lw_p73, List.forall_mem_cons.mpr ⟨lw_p74, List.forall_mem_cons.mpr ⟨lw_p75, List.forall_mem_cons.mpr ⟨lw_p76, List.forall_mem_cons.mpr ⟨lw_p77, List.forall_mem_cons.mpr ⟨lw_p78, List.forall_mem_cons.mpr ⟨lw_p79, fun _ h => absurd h List.not_mem_nil⟩⟩⟩⟩⟩⟩⟩⟩⟩⟩⟩⟩⟩⟩⟩⟩
theorem lw_p80 : lw_okq (⟨"OldMapModel", "findMatch", "(I)Z"⟩, 36) := ⟨⟨by decide +kernel, by decide +kernel⟩, List.mem_of_getElem? (i := 641) (by decide +kernel), List.mem_of_getElem? (i := 952) (by decide +kernel), List.mem_of_getElem? (i := 953) (by decide +kernel)⟩
theorem lw_p81 : lw_okq (⟨"OldMapModel", "findCosts", "()V"⟩, 36) := ⟨⟨by decide +kernel, by decide +kernel⟩, List.mem_of_getElem? (i := 641) (by decide +kernel), List.mem_of_getElem? (i := 956) (by decide +kernel), List.mem_of_getElem? (i := 957) (by decide +kernel)⟩
theorem lw_p82 : lw_okq (⟨"OldMapModel", "costOfChoice", "()J"⟩, 36) := ⟨⟨by decide +kernel, by decide +kernel⟩, List.mem_of_getElem? (i := 641) (by decide +kernel), List.mem_of_getElem? (i := 967) (by decide +kernel), List.mem_of_getElem? (i := 968) (by decide +kernel)⟩
theorem lw_p83 : lw_okq (⟨"OldMapModel", "inState", "(I)I"⟩, 36) := ⟨⟨by decide +kernel, by decide +kernel⟩, List.mem_of_getElem? (i := 641) (by decide +kernel), List.mem_of_getElem? (i := 983) (by decide +kernel), List.mem_of_getElem? (i := 984) (by decide +kernel)⟩
theorem lw_p84 : lw_okq (⟨"OldMapModel", "meetings", "(I)I"⟩, 36) := ⟨⟨by decide +kernel, by decide +kernel⟩, List.mem_of_getElem? (i := 641) (by decide +kernel), List.mem_of_getElem? (i := 987) (by decide +kernel), List.mem_of_getElem? (i := 988) (by decide +kernel)⟩
def lw_privs_6 : List (MethodName × Nat) := [(⟨"OldMapModel", "findMatch", "(I)Z"⟩, 36), (⟨"OldMapModel", "findCosts", "()V"⟩, 36), (⟨"OldMapModel", "costOfChoice", "()J"⟩, 36), (⟨"OldMapModel", "inState", "(I)I"⟩, 36), (⟨"OldMapModel", "meetings", "(I)I"⟩, 36)]
theorem lw_r6 : ∀ q ∈ lw_privs_6, lw_okq q := List.forall_mem_cons.mpr ⟨lw_p80, List.forall_mem_cons.mpr ⟨lw_p81, List.forall_mem_cons.mpr ⟨lw_p82, List.forall_mem_cons.mpr ⟨lw_p83, List.forall_mem_cons.mpr ⟨lw_p84, fun _ h => absurd h List.not_mem_nil⟩⟩⟩⟩⟩
def lw_privs : List (MethodName × Nat) := lw_privs_1 ++ (lw_privs_2 ++ (lw_privs_3 ++ (lw_privs_4 ++ (lw_privs_5 ++ (lw_privs_6)))))
def lw_tbl : List Cond := k2_sels lw_privs ++ tables_1
theorem lw_privs_ok : ∀ q ∈ lw_privs, lw_okq q := by
  show ∀ q ∈ lw_privs_1 ++ (lw_privs_2 ++ (lw_privs_3 ++ (lw_privs_4 ++ (lw_privs_5 ++ (lw_privs_6))))), lw_okq q
  exact List.forall_mem_append.mpr ⟨lw_r1, List.forall_mem_append.mpr ⟨lw_r2, List.forall_mem_append.mpr ⟨lw_r3, List.forall_mem_append.mpr ⟨lw_r4, List.forall_mem_append.mpr ⟨lw_r5, lw_r6⟩⟩⟩⟩⟩
end
section
/-! ===== BEGIN words of one list among another's, by their places ===== -/
theorem goodIn_r {big : List Cond} (ws : List Cond) (ps : List Nat) (hp : ws = ps.filterMap (fun i => big[i]?)) (h : ws.all goodWord = true) : GoodIn big ws := by
  intro w hw
  have h1 := List.all_eq_true.mp h w hw
  rw [hp] at hw
  obtain ⟨i, -, hi⟩ := List.mem_filterMap.mp hw
  have hm : w ∈ big := by first | exact List.mem_of_getElem? hi | exact List.getElem?_mem hi
  exact ⟨hm, good_of_word h1⟩
theorem goodIn_app {big a b : List Cond} (ha : GoodIn big a) (hb : GoodIn big b) : GoodIn big (a ++ b) := fun w h => (List.mem_append.mp h).elim (ha w) (hb w)
theorem goodIn_ca {big a b : List Cond} {c : Cond} (ha : GoodIn big (c :: a)) (hb : GoodIn big b) : GoodIn big (c :: (a ++ b)) := fun w h => (List.mem_cons.mp h).elim (fun e => ha w (List.mem_cons.mpr (Or.inl e))) (fun h => (List.mem_append.mp h).elim (fun h => ha w (List.mem_cons.mpr (Or.inr h))) (hb w))
theorem goodIn_sub {big ws : List Cond} (hm : ∀ w ∈ ws, w ∈ big) (h : ws.all goodWord = true) : GoodIn big ws := fun w hw => ⟨hm w hw, good_of_word (List.all_eq_true.mp h w hw)⟩
/-! ===== END ===== -/
end
section
def RX0 : String := "OldMap$Bend"
def TX0 : u_T := fun k => match k with
  | 0 => ("OldMap$Bend", "points", "LOldMap$Points;", true)
  | 1 => ("OldMap$Bend", "toX", "LOldMap$Way;", true)
  | 2 => ("OldMap$Bend", "toY", "LOldMap$Way;", true)
  | 3 => ("OldMap$Bend", "sums", "[J", true)
  | 4 => ("OldMap$Bend", "kind", "I", false)
  | 5 => ("OldMap$Bend", "fittedBits", "I", false)
  | _ => ("OldMap$Bend", "n", "J", false)
def tyX0 : Nat → FieldType := fun k => match k with
  | 0 => .object "OldMap$Points"
  | 1 => .object "OldMap$Way"
  | 2 => .object "OldMap$Way"
  | 3 => .array .long
  | 4 => .int
  | 5 => .int
  | _ => .long
abbrev wsX00 : List Cond := u_ws RX0 TX0 7
theorem nmX0 : ∀ a, a < 7 → ∀ b, b < 7 → a ≠ b → (TX0 a).2.1 ≠ (TX0 b).2.1 := by decide +kernel
theorem tyX0_ok : ∀ k, k < 7 → parseFieldDescriptor (TX0 k).2.2.1 = some (tyX0 k) := by decide +kernel
abbrev cX0_init : ByteArray := prog_2_method_1_code
def yX0_init : MethodName := ⟨RX0, "<init>", "(LOldMap$Points;)V"⟩
abbrev cX0_fit : ByteArray := prog_2_method_2_code
def yX0_fit : MethodName := ⟨RX0, "fit", "(II)Z"⟩
abbrev cX0_fitShift : ByteArray := prog_2_method_3_code
def yX0_fitShift : MethodName := ⟨RX0, "fitShift", "()Z"⟩
abbrev cX0_fitTurned : ByteArray := prog_2_method_4_code
def yX0_fitTurned : MethodName := ⟨RX0, "fitTurned", "()Z"⟩
abbrev cX0_fitShrunk : ByteArray := prog_2_method_5_code
def yX0_fitShrunk : MethodName := ⟨RX0, "fitShrunk", "(ILOldMap$Way;)Z"⟩
abbrev cX0_sumOf : ByteArray := prog_2_method_6_code
def yX0_sumOf : MethodName := ⟨RX0, "sumOf", "(I)J"⟩
abbrev cX0_spread : ByteArray := prog_2_method_7_code
def yX0_spread : MethodName := ⟨RX0, "spread", "(II)J"⟩
abbrev cX0_along : ByteArray := prog_2_method_8_code
def yX0_along : MethodName := ⟨RX0, "along", "(I)LOldMap$Way;"⟩
abbrev cX0_aboveOfQ : ByteArray := prog_2_method_9_code
def yX0_aboveOfQ : MethodName := ⟨RX0, "aboveOfQ", "()J"⟩
abbrev cX0_offAbove : ByteArray := prog_2_method_10_code
def yX0_offAbove : MethodName := ⟨RX0, "offAbove", "(II)J"⟩
abbrev cX0_missAbove : ByteArray := prog_2_method_11_code
def yX0_missAbove : MethodName := ⟨RX0, "missAbove", "(I)J"⟩
abbrev cX0_shiftMiss : ByteArray := prog_2_method_12_code
def yX0_shiftMiss : MethodName := ⟨RX0, "shiftMiss", "(I)J"⟩
abbrev cX0_turnedMiss : ByteArray := prog_2_method_13_code
def yX0_turnedMiss : MethodName := ⟨RX0, "turnedMiss", "()J"⟩
abbrev cX0_firstBeyond : ByteArray := prog_2_method_14_code
def yX0_firstBeyond : MethodName := ⟨RX0, "firstBeyond", "(I)I"⟩
abbrev cX0_isFarOff : ByteArray := prog_2_method_15_code
def yX0_isFarOff : MethodName := ⟨RX0, "isFarOff", "(III)Z"⟩
def RX1 : String := "OldMap$Match"
def TX1 : u_T := fun k => match k with
  | 0 => ("OldMap$Match", "olds", "LOldMap$Things;", true)
  | 1 => ("OldMap$Match", "news", "LOldMap$Things;", true)
  | 2 => ("OldMap$Match", "bend", "LOldMap$Bend;", true)
  | 3 => ("OldMap$Match", "apart", "[[I", true)
  | 4 => ("OldMap$Match", "least", "[[I", true)
  | 5 => ("OldMap$Match", "given", "[I", true)
  | _ => ("OldMap$Match", "used", "I", false)
def tyX1 : Nat → FieldType := fun k => match k with
  | 0 => .object "OldMap$Things"
  | 1 => .object "OldMap$Things"
  | 2 => .object "OldMap$Bend"
  | 3 => .array (.array .int)
  | 4 => .array (.array .int)
  | 5 => .array .int
  | _ => .int
abbrev wsX10 : List Cond := u_ws RX1 TX1 7
theorem nmX1 : ∀ a, a < 7 → ∀ b, b < 7 → a ≠ b → (TX1 a).2.1 ≠ (TX1 b).2.1 := by decide +kernel
theorem tyX1_ok : ∀ k, k < 7 → parseFieldDescriptor (TX1 k).2.2.1 = some (tyX1 k) := by decide +kernel
abbrev cX1_init : ByteArray := prog_3_method_1_code
def yX1_init : MethodName := ⟨RX1, "<init>", "(LOldMap$Things;LOldMap$Things;LOldMap$Bend;)V"⟩
abbrev cX1_find : ByteArray := prog_3_method_2_code
def yX1_find : MethodName := ⟨RX1, "find", "(I)V"⟩
abbrev cX1_measure : ByteArray := prog_3_method_3_code
def yX1_measure : MethodName := ⟨RX1, "measure", "(I)V"⟩
abbrev cX1_fillLeast : ByteArray := prog_3_method_4_code
def yX1_fillLeast : MethodName := ⟨RX1, "fillLeast", "(I)V"⟩
abbrev cX1_leastFrom : ByteArray := prog_3_method_5_code
def yX1_leastFrom : MethodName := ⟨RX1, "leastFrom", "(III)I"⟩
abbrev cX1_isFree : ByteArray := prog_3_method_6_code
def yX1_isFree : MethodName := ⟨RX1, "isFree", "(III)Z"⟩
abbrev cX1_costWith : ByteArray := prog_3_method_7_code
def yX1_costWith : MethodName := ⟨RX1, "costWith", "(III)I"⟩
abbrev cX1_give : ByteArray := prog_3_method_8_code
def yX1_give : MethodName := ⟨RX1, "give", "()V"⟩
abbrev cX1_firstBest : ByteArray := prog_3_method_9_code
def yX1_firstBest : MethodName := ⟨RX1, "firstBest", "(I)I"⟩
abbrev cX1_leastCost : ByteArray := prog_3_method_10_code
def yX1_leastCost : MethodName := ⟨RX1, "leastCost", "()I"⟩
abbrev cX1_firstUnused : ByteArray := prog_3_method_11_code
def yX1_firstUnused : MethodName := ⟨RX1, "firstUnused", "()I"⟩
def RX2 : String := "OldMap$Points"
def TX2 : u_T := fun k => match k with
  | 0 => ("OldMap$Points", "count", "I", false)
  | 1 => ("OldMap$Points", "at", "[[I", true)
  | 2 => ("OldMap$Points", "sureBits", "I", false)
  | _ => ("OldMap$Points", "inBits", "I", false)
def tyX2 : Nat → FieldType := fun k => match k with
  | 0 => .int
  | 1 => .array (.array .int)
  | 2 => .int
  | _ => .int
abbrev wsX20 : List Cond := u_ws RX2 TX2 4
theorem nmX2 : ∀ a, a < 4 → ∀ b, b < 4 → a ≠ b → (TX2 a).2.1 ≠ (TX2 b).2.1 := by decide +kernel
theorem tyX2_ok : ∀ k, k < 4 → parseFieldDescriptor (TX2 k).2.2.1 = some (tyX2 k) := by decide +kernel
abbrev cX2_init : ByteArray := prog_4_method_1_code
def yX2_init : MethodName := ⟨RX2, "<init>", "()V"⟩
abbrev cX2_has : ByteArray := prog_4_method_2_code
def yX2_has : MethodName := ⟨RX2, "has", "(I)Z"⟩
abbrev cX2_add : ByteArray := prog_4_method_3_code
def yX2_add : MethodName := ⟨RX2, "add", "(IIII)I"⟩
abbrev cX2_place : ByteArray := prog_4_method_4_code
def yX2_place : MethodName := ⟨RX2, "place", "(IIII)V"⟩
abbrev cX2_counting : ByteArray := prog_4_method_5_code
def yX2_counting : MethodName := ⟨RX2, "counting", "()I"⟩
abbrev cX2_side : ByteArray := prog_4_method_6_code
def yX2_side : MethodName := ⟨RX2, "side", "(IIIII)I"⟩
abbrev cX2_turn : ByteArray := prog_4_method_7_code
def yX2_turn : MethodName := ⟨RX2, "turn", "(IIII)I"⟩
abbrev cX2_copyFrom : ByteArray := prog_4_method_8_code
def yX2_copyFrom : MethodName := ⟨RX2, "copyFrom", "(LOldMap$Points;)V"⟩
def RX3 : String := "OldMap$Table"
def TX3 : u_T := fun k => match k with
  | 0 => ("OldMap$Table", "points", "LOldMap$Points;", true)
  | 1 => ("OldMap$Table", "triangles", "LOldMap$Triangles;", true)
  | 2 => ("OldMap$Table", "oldThings", "LOldMap$Things;", true)
  | _ => ("OldMap$Table", "newThings", "LOldMap$Things;", true)
def tyX3 : Nat → FieldType := fun k => match k with
  | 0 => .object "OldMap$Points"
  | 1 => .object "OldMap$Triangles"
  | 2 => .object "OldMap$Things"
  | _ => .object "OldMap$Things"
abbrev wsX30 : List Cond := u_ws RX3 TX3 4
theorem nmX3 : ∀ a, a < 4 → ∀ b, b < 4 → a ≠ b → (TX3 a).2.1 ≠ (TX3 b).2.1 := by decide +kernel
theorem tyX3_ok : ∀ k, k < 4 → parseFieldDescriptor (TX3 k).2.2.1 = some (tyX3 k) := by decide +kernel
abbrev cX3_init : ByteArray := prog_5_method_1_code
def yX3_init : MethodName := ⟨RX3, "<init>", "()V"⟩
abbrev cX3_thingsOf : ByteArray := prog_5_method_2_code
def yX3_thingsOf : MethodName := ⟨RX3, "thingsOf", "(I)LOldMap$Things;"⟩
abbrev cX3_copyFrom : ByteArray := prog_5_method_3_code
def yX3_copyFrom : MethodName := ⟨RX3, "copyFrom", "(LOldMap$Table;)V"⟩
def RX4 : String := "OldMap$Things"
def TX4 : u_T := fun k => match k with
  | 0 => ("OldMap$Things", "count", "I", false)
  | 1 => ("OldMap$Things", "kind", "[I", true)
  | 2 => ("OldMap$Things", "x", "[I", true)
  | _ => ("OldMap$Things", "y", "[I", true)
def tyX4 : Nat → FieldType := fun k => match k with
  | 0 => .int
  | 1 => .array .int
  | 2 => .array .int
  | _ => .array .int
abbrev wsX40 : List Cond := u_ws RX4 TX4 4
theorem nmX4 : ∀ a, a < 4 → ∀ b, b < 4 → a ≠ b → (TX4 a).2.1 ≠ (TX4 b).2.1 := by decide +kernel
theorem tyX4_ok : ∀ k, k < 4 → parseFieldDescriptor (TX4 k).2.2.1 = some (tyX4 k) := by decide +kernel
abbrev cX4_init : ByteArray := prog_6_method_1_code
def yX4_init : MethodName := ⟨RX4, "<init>", "()V"⟩
abbrev cX4_has : ByteArray := prog_6_method_2_code
def yX4_has : MethodName := ⟨RX4, "has", "(I)Z"⟩
abbrev cX4_add : ByteArray := prog_6_method_3_code
def yX4_add : MethodName := ⟨RX4, "add", "(III)I"⟩
abbrev cX4_copyFrom : ByteArray := prog_6_method_4_code
def yX4_copyFrom : MethodName := ⟨RX4, "copyFrom", "(LOldMap$Things;)V"⟩
def RX5 : String := "OldMap$Triangles"
def TX5 : u_T := fun k => match k with
  | 0 => ("OldMap$Triangles", "points", "LOldMap$Points;", true)
  | 1 => ("OldMap$Triangles", "count", "I", false)
  | _ => ("OldMap$Triangles", "corner", "[[I", true)
def tyX5 : Nat → FieldType := fun k => match k with
  | 0 => .object "OldMap$Points"
  | 1 => .int
  | _ => .array (.array .int)
abbrev wsX50 : List Cond := u_ws RX5 TX5 3
theorem nmX5 : ∀ a, a < 3 → ∀ b, b < 3 → a ≠ b → (TX5 a).2.1 ≠ (TX5 b).2.1 := by decide +kernel
theorem tyX5_ok : ∀ k, k < 3 → parseFieldDescriptor (TX5 k).2.2.1 = some (tyX5 k) := by decide +kernel
abbrev cX5_init : ByteArray := prog_7_method_1_code
def yX5_init : MethodName := ⟨RX5, "<init>", "(LOldMap$Points;)V"⟩
abbrev cX5_has : ByteArray := prog_7_method_2_code
def yX5_has : MethodName := ⟨RX5, "has", "(I)Z"⟩
abbrev cX5_add : ByteArray := prog_7_method_3_code
def yX5_add : MethodName := ⟨RX5, "add", "(III)I"⟩
abbrev cX5_turn : ByteArray := prog_7_method_4_code
def yX5_turn : MethodName := ⟨RX5, "turn", "(II)I"⟩
abbrev cX5_isFlat : ByteArray := prog_7_method_5_code
def yX5_isFlat : MethodName := ⟨RX5, "isFlat", "(I)Z"⟩
abbrev cX5_isOver : ByteArray := prog_7_method_6_code
def yX5_isOver : MethodName := ⟨RX5, "isOver", "(I)Z"⟩
abbrev cX5_wayRound : ByteArray := prog_7_method_7_code
def yX5_wayRound : MethodName := ⟨RX5, "wayRound", "(II)I"⟩
abbrev cX5_inward : ByteArray := prog_7_method_8_code
def yX5_inward : MethodName := ⟨RX5, "inward", "(IIIIII)I"⟩
abbrev cX5_holds : ByteArray := prog_7_method_9_code
def yX5_holds : MethodName := ⟨RX5, "holds", "(IIII)Z"⟩
abbrev cX5_firstAround : ByteArray := prog_7_method_10_code
def yX5_firstAround : MethodName := ⟨RX5, "firstAround", "(III)I"⟩
abbrev cX5_bentAbove : ByteArray := prog_7_method_11_code
def yX5_bentAbove : MethodName := ⟨RX5, "bentAbove", "(IIIII)J"⟩
abbrev cX5_overlap : ByteArray := prog_7_method_12_code
def yX5_overlap : MethodName := ⟨RX5, "overlap", "(III)Z"⟩
abbrev cX5_isParted : ByteArray := prog_7_method_13_code
def yX5_isParted : MethodName := ⟨RX5, "isParted", "(III)Z"⟩
abbrev cX5_isOutside : ByteArray := prog_7_method_14_code
def yX5_isOutside : MethodName := ⟨RX5, "isOutside", "(IIII[I)Z"⟩
abbrev cX5_manyOver : ByteArray := prog_7_method_15_code
def yX5_manyOver : MethodName := ⟨RX5, "manyOver", "()I"⟩
abbrev cX5_manyFlat : ByteArray := prog_7_method_16_code
def yX5_manyFlat : MethodName := ⟨RX5, "manyFlat", "()I"⟩
abbrev cX5_manyOverlaps : ByteArray := prog_7_method_17_code
def yX5_manyOverlaps : MethodName := ⟨RX5, "manyOverlaps", "(I)I"⟩
abbrev cX5_copyFrom : ByteArray := prog_7_method_18_code
def yX5_copyFrom : MethodName := ⟨RX5, "copyFrom", "(LOldMap$Triangles;)V"⟩
def RX6 : String := "OldMap$Way"
def TX6 : u_T := fun k => match k with
  | 0 => ("OldMap$Way", "byX", "J", false)
  | 1 => ("OldMap$Way", "byY", "J", false)
  | 2 => ("OldMap$Way", "plus", "J", false)
  | _ => ("OldMap$Way", "below", "J", false)
def tyX6 : Nat → FieldType := fun k => match k with
  | 0 => .long
  | 1 => .long
  | 2 => .long
  | _ => .long
abbrev wsX60 : List Cond := u_ws RX6 TX6 4
theorem nmX6 : ∀ a, a < 4 → ∀ b, b < 4 → a ≠ b → (TX6 a).2.1 ≠ (TX6 b).2.1 := by decide +kernel
theorem tyX6_ok : ∀ k, k < 4 → parseFieldDescriptor (TX6 k).2.2.1 = some (tyX6 k) := by decide +kernel
abbrev cX6_init : ByteArray := prog_8_method_1_code
def yX6_init : MethodName := ⟨RX6, "<init>", "()V"⟩
abbrev cX6_set : ByteArray := prog_8_method_2_code
def yX6_set : MethodName := ⟨RX6, "set", "(JJJJ)V"⟩
abbrev cX6_above : ByteArray := prog_8_method_3_code
def yX6_above : MethodName := ⟨RX6, "above", "(JJ)J"⟩
abbrev cX6_rounded : ByteArray := prog_8_method_4_code
def yX6_rounded : MethodName := ⟨RX6, "rounded", "(JJ)J"⟩
def RX7 : String := "OldMap"
def TX7 : u_T := fun k => match k with
  | 0 => ("OldMap", "table", "LOldMap$Table;", true)
  | 1 => ("OldMap", "kept", "LOldMap$Table;", true)
  | 2 => ("OldMap", "theBend", "LOldMap$Bend;", true)
  | 3 => ("OldMap", "theMatch", "LOldMap$Match;", true)
  | 4 => ("OldMap", "anyKept", "Z", false)
  | 5 => ("OldMap", "beyondLimit", "I", false)
  | _ => ("OldMap", "lostCost", "I", false)
def tyX7 : Nat → FieldType := fun k => match k with
  | 0 => .object "OldMap$Table"
  | 1 => .object "OldMap$Table"
  | 2 => .object "OldMap$Bend"
  | 3 => .object "OldMap$Match"
  | 4 => .boolean
  | 5 => .int
  | _ => .int
abbrev wsX70 : List Cond := u_ws RX7 TX7 7
theorem nmX7 : ∀ a, a < 7 → ∀ b, b < 7 → a ≠ b → (TX7 a).2.1 ≠ (TX7 b).2.1 := by decide +kernel
theorem tyX7_ok : ∀ k, k < 7 → parseFieldDescriptor (TX7 k).2.2.1 = some (tyX7 k) := by decide +kernel
abbrev cX7_init : ByteArray := prog_1_method_1_code
def yX7_init : MethodName := ⟨RX7, "<init>", "()V"⟩
abbrev cX7_point : ByteArray := prog_1_method_2_code
def yX7_point : MethodName := ⟨RX7, "point", "(IIII)I"⟩
abbrev cX7_move : ByteArray := prog_1_method_3_code
def yX7_move : MethodName := ⟨RX7, "move", "(IIII)I"⟩
abbrev cX7_sure : ByteArray := prog_1_method_4_code
def yX7_sure : MethodName := ⟨RX7, "sure", "(IZ)I"⟩
abbrev cX7_put : ByteArray := prog_1_method_5_code
def yX7_put : MethodName := ⟨RX7, "put", "(IZ)I"⟩
abbrev cX7_of : ByteArray := prog_1_method_6_code
def yX7_of : MethodName := ⟨RX7, "of", "(II)I"⟩
abbrev cX7_bend : ByteArray := prog_1_method_7_code
def yX7_bend : MethodName := ⟨RX7, "bend", "(II)J"⟩
abbrev cX7_carry : ByteArray := prog_1_method_8_code
def yX7_carry : MethodName := ⟨RX7, "carry", "(IIII)J"⟩
abbrev cX7_off : ByteArray := prog_1_method_9_code
def yX7_off : MethodName := ⟨RX7, "off", "(III)J"⟩
abbrev cX7_miss : ByteArray := prog_1_method_10_code
def yX7_miss : MethodName := ⟨RX7, "miss", "(II)J"⟩
abbrev cX7_beyond : ByteArray := prog_1_method_11_code
def yX7_beyond : MethodName := ⟨RX7, "beyond", "(I)I"⟩
abbrev cX7_lying : ByteArray := prog_1_method_12_code
def yX7_lying : MethodName := ⟨RX7, "lying", "(I)I"⟩
abbrev cX7_drop : ByteArray := prog_1_method_13_code
def yX7_drop : MethodName := ⟨RX7, "drop", "(I)I"⟩
abbrev cX7_rule : ByteArray := prog_1_method_14_code
def yX7_rule : MethodName := ⟨RX7, "rule", "(II)I"⟩
abbrev cX7_triangle : ByteArray := prog_1_method_15_code
def yX7_triangle : MethodName := ⟨RX7, "triangle", "(III)I"⟩
abbrev cX7_state : ByteArray := prog_1_method_16_code
def yX7_state : MethodName := ⟨RX7, "state", "(I)I"⟩
abbrev cX7_within : ByteArray := prog_1_method_17_code
def yX7_within : MethodName := ⟨RX7, "within", "(III)I"⟩
abbrev cX7_carried : ByteArray := prog_1_method_18_code
def yX7_carried : MethodName := ⟨RX7, "carried", "(IIIII)J"⟩
abbrev cX7_meet : ByteArray := prog_1_method_19_code
def yX7_meet : MethodName := ⟨RX7, "meet", "(III)I"⟩
abbrev cX7_area : ByteArray := prog_1_method_20_code
def yX7_area : MethodName := ⟨RX7, "area", "(II)I"⟩
abbrev cX7_thing : ByteArray := prog_1_method_21_code
def yX7_thing : MethodName := ⟨RX7, "thing", "(IIII)I"⟩
abbrev cX7_sweep : ByteArray := prog_1_method_22_code
def yX7_sweep : MethodName := ⟨RX7, "sweep", "(I)I"⟩
abbrev cX7_match : ByteArray := prog_1_method_23_code
def yX7_match : MethodName := ⟨RX7, "match", "(II)I"⟩
abbrev cX7_cost : ByteArray := prog_1_method_24_code
def yX7_cost : MethodName := ⟨RX7, "cost", "(I)I"⟩
abbrev cX7_left : ByteArray := prog_1_method_25_code
def yX7_left : MethodName := ⟨RX7, "left", "(I)I"⟩
abbrev cX7_many : ByteArray := prog_1_method_26_code
def yX7_many : MethodName := ⟨RX7, "many", "(I)I"⟩
abbrev cX7_keep : ByteArray := prog_1_method_27_code
def yX7_keep : MethodName := ⟨RX7, "keep", "()I"⟩
abbrev cX7_back : ByteArray := prog_1_method_28_code
def yX7_back : MethodName := ⟨RX7, "back", "()I"⟩
abbrev cX7_isPlace : ByteArray := prog_1_method_29_code
def yX7_isPlace : MethodName := ⟨RX7, "isPlace", "(II)Z"⟩
abbrev cX7_isMap : ByteArray := prog_1_method_30_code
def yX7_isMap : MethodName := ⟨RX7, "isMap", "(I)Z"⟩
abbrev cX7_isKind : ByteArray := prog_1_method_31_code
def yX7_isKind : MethodName := ⟨RX7, "isKind", "(I)Z"⟩
abbrev cX7_isPartOfTwo : ByteArray := prog_1_method_32_code
def yX7_isPartOfTwo : MethodName := ⟨RX7, "isPartOfTwo", "(I)Z"⟩
abbrev cX7_withBit : ByteArray := prog_1_method_33_code
def yX7_withBit : MethodName := ⟨RX7, "withBit", "(IIZ)I"⟩
abbrev cX7_cleared : ByteArray := prog_1_method_34_code
def yX7_cleared : MethodName := ⟨RX7, "cleared", "(JJI)J"⟩
abbrev cX7_commonDivisor : ByteArray := prog_1_method_35_code
def yX7_commonDivisor : MethodName := ⟨RX7, "commonDivisor", "(JJ)J"⟩
abbrev cX7_fits : ByteArray := prog_1_method_36_code
def yX7_fits : MethodName := ⟨RX7, "fits", "(I)Z"⟩
abbrev cX7_lyingSet : ByteArray := prog_1_method_37_code
def yX7_lyingSet : MethodName := ⟨RX7, "lyingSet", "(I)I"⟩
abbrev cX7_agreeWithout : ByteArray := prog_1_method_38_code
def yX7_agreeWithout : MethodName := ⟨RX7, "agreeWithout", "(II)Z"⟩
abbrev cX7_leastSet : ByteArray := prog_1_method_39_code
def yX7_leastSet : MethodName := ⟨RX7, "leastSet", "(II)I"⟩
abbrev cX7_nextOfSameSize : ByteArray := prog_1_method_40_code
def yX7_nextOfSameSize : MethodName := ⟨RX7, "nextOfSameSize", "(I)I"⟩
def RX8 : String := "OldMapModel"
def TX8 : u_T := fun k => match k with
  | 0 => ("OldMapModel", "points", "I", false)
  | 1 => ("OldMapModel", "places", "[I", true)
  | 2 => ("OldMapModel", "isSure", "[Z", true)
  | 3 => ("OldMapModel", "isIn", "[Z", true)
  | 4 => ("OldMapModel", "triangles", "I", false)
  | 5 => ("OldMapModel", "corners", "[I", true)
  | 6 => ("OldMapModel", "thingMany", "[I", true)
  | 7 => ("OldMapModel", "things", "[I", true)
  | 8 => ("OldMapModel", "limit", "I", false)
  | 9 => ("OldMapModel", "lost", "I", false)
  | 10 => ("OldMapModel", "isKept", "Z", false)
  | 11 => ("OldMapModel", "keptNumbers", "[I", true)
  | 12 => ("OldMapModel", "keptPlaces", "[I", true)
  | 13 => ("OldMapModel", "keptStates", "[I", true)
  | 14 => ("OldMapModel", "keptCorners", "[I", true)
  | 15 => ("OldMapModel", "keptThings", "[I", true)
  | 16 => ("OldMapModel", "xx", "J", false)
  | 17 => ("OldMapModel", "xy", "J", false)
  | 18 => ("OldMapModel", "x0", "J", false)
  | 19 => ("OldMapModel", "lowX", "J", false)
  | 20 => ("OldMapModel", "yx", "J", false)
  | 21 => ("OldMapModel", "yy", "J", false)
  | 22 => ("OldMapModel", "y0", "J", false)
  | 23 => ("OldMapModel", "lowY", "J", false)
  | 24 => ("OldMapModel", "p0", "J", false)
  | 25 => ("OldMapModel", "lowP", "J", false)
  | 26 => ("OldMapModel", "q0", "J", false)
  | 27 => ("OldMapModel", "lowQ", "J", false)
  | 28 => ("OldMapModel", "missX", "J", false)
  | 29 => ("OldMapModel", "lowMissX", "J", false)
  | 30 => ("OldMapModel", "missY", "J", false)
  | 31 => ("OldMapModel", "lowMissY", "J", false)
  | 32 => ("OldMapModel", "costs", "[J", true)
  | 33 => ("OldMapModel", "choice", "[I", true)
  | 34 => ("OldMapModel", "best", "[I", true)
  | _ => ("OldMapModel", "bestCost", "J", false)
def tyX8 : Nat → FieldType := fun k => match k with
  | 0 => .int
  | 1 => .array .int
  | 2 => .array .boolean
  | 3 => .array .boolean
  | 4 => .int
  | 5 => .array .int
  | 6 => .array .int
  | 7 => .array .int
  | 8 => .int
  | 9 => .int
  | 10 => .boolean
  | 11 => .array .int
  | 12 => .array .int
  | 13 => .array .int
  | 14 => .array .int
  | 15 => .array .int
  | 16 => .long
  | 17 => .long
  | 18 => .long
  | 19 => .long
  | 20 => .long
  | 21 => .long
  | 22 => .long
  | 23 => .long
  | 24 => .long
  | 25 => .long
  | 26 => .long
  | 27 => .long
  | 28 => .long
  | 29 => .long
  | 30 => .long
  | 31 => .long
  | 32 => .array .long
  | 33 => .array .int
  | 34 => .array .int
  | _ => .long
abbrev wsX80 : List Cond := u_ws RX8 TX8 36
theorem nmX8 : ∀ a, a < 36 → ∀ b, b < 36 → a ≠ b → (TX8 a).2.1 ≠ (TX8 b).2.1 := by decide +kernel
theorem tyX8_ok : ∀ k, k < 36 → parseFieldDescriptor (TX8 k).2.2.1 = some (tyX8 k) := by decide +kernel
abbrev cX8_init : ByteArray := prog_10_method_1_code
def yX8_init : MethodName := ⟨RX8, "<init>", "()V"⟩
abbrev cX8_in : ByteArray := prog_10_method_2_code
def yX8_in : MethodName := ⟨RX8, "in", "(III)Z"⟩
abbrev cX8_isPlace : ByteArray := prog_10_method_3_code
def yX8_isPlace : MethodName := ⟨RX8, "isPlace", "(II)Z"⟩
abbrev cX8_isPoint : ByteArray := prog_10_method_4_code
def yX8_isPoint : MethodName := ⟨RX8, "isPoint", "(I)Z"⟩
abbrev cX8_isMap : ByteArray := prog_10_method_5_code
def yX8_isMap : MethodName := ⟨RX8, "isMap", "(I)Z"⟩
abbrev cX8_point : ByteArray := prog_10_method_6_code
def yX8_point : MethodName := ⟨RX8, "point", "(IIII)I"⟩
abbrev cX8_move : ByteArray := prog_10_method_7_code
def yX8_move : MethodName := ⟨RX8, "move", "(IIII)I"⟩
abbrev cX8_sure : ByteArray := prog_10_method_8_code
def yX8_sure : MethodName := ⟨RX8, "sure", "(IZ)I"⟩
abbrev cX8_put : ByteArray := prog_10_method_9_code
def yX8_put : MethodName := ⟨RX8, "put", "(IZ)I"⟩
abbrev cX8_of : ByteArray := prog_10_method_10_code
def yX8_of : MethodName := ⟨RX8, "of", "(II)I"⟩
abbrev cX8_counting : ByteArray := prog_10_method_11_code
def yX8_counting : MethodName := ⟨RX8, "counting", "()I"⟩
abbrev cX8_sum : ByteArray := prog_10_method_12_code
def yX8_sum : MethodName := ⟨RX8, "sum", "(III)J"⟩
abbrev cX8_spread : ByteArray := prog_10_method_13_code
def yX8_spread : MethodName := ⟨RX8, "spread", "(III)J"⟩
abbrev cX8_shift : ByteArray := prog_10_method_14_code
def yX8_shift : MethodName := ⟨RX8, "shift", "(I)Z"⟩
abbrev cX8_turned : ByteArray := prog_10_method_15_code
def yX8_turned : MethodName := ⟨RX8, "turned", "(I)Z"⟩
abbrev cX8_shrunk : ByteArray := prog_10_method_16_code
def yX8_shrunk : MethodName := ⟨RX8, "shrunk", "(I)Z"⟩
abbrev cX8_fit : ByteArray := prog_10_method_17_code
def yX8_fit : MethodName := ⟨RX8, "fit", "(II)Z"⟩
abbrev cX8_isKind : ByteArray := prog_10_method_18_code
def yX8_isKind : MethodName := ⟨RX8, "isKind", "(I)Z"⟩
abbrev cX8_common : ByteArray := prog_10_method_19_code
def yX8_common : MethodName := ⟨RX8, "common", "(JJ)J"⟩
abbrev cX8_told : ByteArray := prog_10_method_20_code
def yX8_told : MethodName := ⟨RX8, "told", "(JJZ)J"⟩
abbrev cX8_bend : ByteArray := prog_10_method_21_code
def yX8_bend : MethodName := ⟨RX8, "bend", "(II)J"⟩
abbrev cX8_carry : ByteArray := prog_10_method_22_code
def yX8_carry : MethodName := ⟨RX8, "carry", "(IIII)J"⟩
abbrev cX8_offOf : ByteArray := prog_10_method_23_code
def yX8_offOf : MethodName := ⟨RX8, "offOf", "(IZ)J"⟩
abbrev cX8_off : ByteArray := prog_10_method_24_code
def yX8_off : MethodName := ⟨RX8, "off", "(III)J"⟩
abbrev cX8_miss : ByteArray := prog_10_method_25_code
def yX8_miss : MethodName := ⟨RX8, "miss", "(II)J"⟩
abbrev cX8_isBeyond : ByteArray := prog_10_method_26_code
def yX8_isBeyond : MethodName := ⟨RX8, "isBeyond", "(I)Z"⟩
abbrev cX8_firstBeyond : ByteArray := prog_10_method_27_code
def yX8_firstBeyond : MethodName := ⟨RX8, "firstBeyond", "(I)I"⟩
abbrev cX8_beyond : ByteArray := prog_10_method_28_code
def yX8_beyond : MethodName := ⟨RX8, "beyond", "(I)I"⟩
abbrev cX8_manyOf : ByteArray := prog_10_method_29_code
def yX8_manyOf : MethodName := ⟨RX8, "manyOf", "(I)I"⟩
abbrev cX8_lying : ByteArray := prog_10_method_30_code
def yX8_lying : MethodName := ⟨RX8, "lying", "(I)I"⟩
abbrev cX8_drop : ByteArray := prog_10_method_31_code
def yX8_drop : MethodName := ⟨RX8, "drop", "(I)I"⟩
abbrev cX8_rule : ByteArray := prog_10_method_32_code
def yX8_rule : MethodName := ⟨RX8, "rule", "(II)I"⟩
abbrev cX8_isTriangle : ByteArray := prog_10_method_33_code
def yX8_isTriangle : MethodName := ⟨RX8, "isTriangle", "(I)Z"⟩
abbrev cX8_corner : ByteArray := prog_10_method_34_code
def yX8_corner : MethodName := ⟨RX8, "corner", "(IIII)J"⟩
abbrev cX8_cross : ByteArray := prog_10_method_35_code
def yX8_cross : MethodName := ⟨RX8, "cross", "(JJJJJJ)J"⟩
abbrev cX8_side : ByteArray := prog_10_method_36_code
def yX8_side : MethodName := ⟨RX8, "side", "(IIIJJ)J"⟩
abbrev cX8_round : ByteArray := prog_10_method_37_code
def yX8_round : MethodName := ⟨RX8, "round", "(II)J"⟩
abbrev cX8_isFlat : ByteArray := prog_10_method_38_code
def yX8_isFlat : MethodName := ⟨RX8, "isFlat", "(I)Z"⟩
abbrev cX8_triangle : ByteArray := prog_10_method_39_code
def yX8_triangle : MethodName := ⟨RX8, "triangle", "(III)I"⟩
abbrev cX8_stateOf : ByteArray := prog_10_method_40_code
def yX8_stateOf : MethodName := ⟨RX8, "stateOf", "(I)I"⟩
abbrev cX8_state : ByteArray := prog_10_method_41_code
def yX8_state : MethodName := ⟨RX8, "state", "(I)I"⟩
abbrev cX8_isWithin : ByteArray := prog_10_method_42_code
def yX8_isWithin : MethodName := ⟨RX8, "isWithin", "(IIII)Z"⟩
abbrev cX8_within : ByteArray := prog_10_method_43_code
def yX8_within : MethodName := ⟨RX8, "within", "(III)I"⟩
abbrev cX8_carried : ByteArray := prog_10_method_44_code
def yX8_carried : MethodName := ⟨RX8, "carried", "(IIIII)J"⟩
abbrev cX8_parts : ByteArray := prog_10_method_45_code
def yX8_parts : MethodName := ⟨RX8, "parts", "(III)Z"⟩
abbrev cX8_doMeet : ByteArray := prog_10_method_46_code
def yX8_doMeet : MethodName := ⟨RX8, "doMeet", "(III)Z"⟩
abbrev cX8_meet : ByteArray := prog_10_method_47_code
def yX8_meet : MethodName := ⟨RX8, "meet", "(III)I"⟩
abbrev cX8_area : ByteArray := prog_10_method_48_code
def yX8_area : MethodName := ⟨RX8, "area", "(II)I"⟩
abbrev cX8_thing : ByteArray := prog_10_method_49_code
def yX8_thing : MethodName := ⟨RX8, "thing", "(IIII)I"⟩
abbrev cX8_sweep : ByteArray := prog_10_method_50_code
def yX8_sweep : MethodName := ⟨RX8, "sweep", "(I)I"⟩
abbrev cX8_floor : ByteArray := prog_10_method_51_code
def yX8_floor : MethodName := ⟨RX8, "floor", "(JJ)J"⟩
abbrev cX8_rounded : ByteArray := prog_10_method_52_code
def yX8_rounded : MethodName := ⟨RX8, "rounded", "(JJ)J"⟩
abbrev cX8_findCosts : ByteArray := prog_10_method_53_code
def yX8_findCosts : MethodName := ⟨RX8, "findCosts", "()V"⟩
abbrev cX8_costOfChoice : ByteArray := prog_10_method_54_code
def yX8_costOfChoice : MethodName := ⟨RX8, "costOfChoice", "()J"⟩
abbrev cX8_findMatch : ByteArray := prog_10_method_55_code
def yX8_findMatch : MethodName := ⟨RX8, "findMatch", "(I)Z"⟩
abbrev cX8_match : ByteArray := prog_10_method_56_code
def yX8_match : MethodName := ⟨RX8, "match", "(II)I"⟩
abbrev cX8_cost : ByteArray := prog_10_method_57_code
def yX8_cost : MethodName := ⟨RX8, "cost", "(I)I"⟩
abbrev cX8_left : ByteArray := prog_10_method_58_code
def yX8_left : MethodName := ⟨RX8, "left", "(I)I"⟩
abbrev cX8_inState : ByteArray := prog_10_method_59_code
def yX8_inState : MethodName := ⟨RX8, "inState", "(I)I"⟩
abbrev cX8_meetings : ByteArray := prog_10_method_60_code
def yX8_meetings : MethodName := ⟨RX8, "meetings", "(I)I"⟩
abbrev cX8_many : ByteArray := prog_10_method_61_code
def yX8_many : MethodName := ⟨RX8, "many", "(I)I"⟩
abbrev cX8_copy : ByteArray := prog_10_method_62_code
def yX8_copy : MethodName := ⟨RX8, "copy", "([I[I)V"⟩
abbrev cX8_keep : ByteArray := prog_10_method_63_code
def yX8_keep : MethodName := ⟨RX8, "keep", "()I"⟩
abbrev cX8_back : ByteArray := prog_10_method_64_code
def yX8_back : MethodName := ⟨RX8, "back", "()I"⟩
def RJ6 : String := "java/lang/Integer"
def TJ6 : u_T := fun k => match k with
  | _ => ("", "", "", false)
def tyJ6 : Nat → FieldType := fun k => match k with
  | _ => .int
abbrev wsJ60 : List Cond := u_ws RJ6 TJ6 0
theorem nmJ6 : ∀ a, a < 0 → ∀ b, b < 0 → a ≠ b → (TJ6 a).2.1 ≠ (TJ6 b).2.1 := by decide +kernel
theorem tyJ6_ok : ∀ k, k < 0 → parseFieldDescriptor (TJ6 k).2.2.1 = some (tyJ6 k) := by decide +kernel
abbrev cJ6_bitCount_0f7a4 : ByteArray := prog_11_method_49_code
def yJ6_bitCount_0f7a4 : MethodName := ⟨RJ6, "bitCount", "(I)I"⟩
abbrev cJ6_signum_0f7a4 : ByteArray := prog_11_method_56_code
def yJ6_signum_0f7a4 : MethodName := ⟨RJ6, "signum", "(I)I"⟩
def RJ9 : String := "java/lang/Math"
def TJ9 : u_T := fun k => match k with
  | _ => ("", "", "", false)
def tyJ9 : Nat → FieldType := fun k => match k with
  | _ => .int
abbrev wsJ90 : List Cond := u_ws RJ9 TJ9 0
theorem nmJ9 : ∀ a, a < 0 → ∀ b, b < 0 → a ≠ b → (TJ9 a).2.1 ≠ (TJ9 b).2.1 := by decide +kernel
theorem tyJ9_ok : ∀ k, k < 0 → parseFieldDescriptor (TJ9 k).2.2.1 = some (tyJ9 k) := by decide +kernel
abbrev cJ9_floorDiv_f86c9 : ByteArray := prog_12_method_49_code
def yJ9_floorDiv_f86c9 : MethodName := ⟨RJ9, "floorDiv", "(JJ)J"⟩
abbrev cJ9_abs_0f7a4 : ByteArray := prog_12_method_59_code
def yJ9_abs_0f7a4 : MethodName := ⟨RJ9, "abs", "(I)I"⟩
abbrev cJ9_abs_067f4 : ByteArray := prog_12_method_61_code
def yJ9_abs_067f4 : MethodName := ⟨RJ9, "abs", "(J)J"⟩
abbrev cJ9_min_7cf53 : ByteArray := prog_12_method_69_code
def yJ9_min_7cf53 : MethodName := ⟨RJ9, "min", "(II)I"⟩
def RJ10 : String := "java/lang/System"
def TJ10 : u_T := fun k => match k with
  | _ => ("", "", "", false)
def tyJ10 : Nat → FieldType := fun k => match k with
  | _ => .int
abbrev wsJ100 : List Cond := u_ws RJ10 TJ10 0
theorem nmJ10 : ∀ a, a < 0 → ∀ b, b < 0 → a ≠ b → (TJ10 a).2.1 ≠ (TJ10 b).2.1 := by decide +kernel
theorem tyJ10_ok : ∀ k, k < 0 → parseFieldDescriptor (TJ10 k).2.2.1 = some (tyJ10 k) := by decide +kernel
def RL : String := "OldMapLaw"
abbrev cL_law : ByteArray := code
def yL_law : MethodName := ⟨RL, "law", "([I)Z"⟩
abbrev vwCl : List vw_C := [(RX0, TX0, 7), (RX1, TX1, 7), (RX2, TX2, 4), (RX3, TX3, 4), (RX4, TX4, 4), (RX5, TX5, 3), (RX6, TX6, 4), (RX7, TX7, 7), (RX8, TX8, 36)]
end
section
/-! THE LAYER: a heap of static shape. Cells 0..75 are the class's, 76..90 the reference's; what changes is I (ints) and J (longs), by cell and place. -/
abbrev hI : Type := Nat → Nat → Int32
abbrev hJ : Type := Nat → Nat → Int64
abbrev h_Sh : Type := (Nat × List Nat) ⊕ (Nat × Nat)
def h_shL : List h_Sh := [.inl (7, [2, 2, 2, 2, 0, 0, 0]), .inl (3, [2, 2, 2, 2]), .inl (2, [0, 2, 0, 0]), .inr (2, 4), .inr (0, 12), .inr (0, 12), .inr (0, 12), .inr (0, 12), .inl (5, [2, 0, 2]), .inr (2, 10), .inr (0, 3), .inr (0, 3), .inr (0, 3), .inr (0, 3), .inr (0, 3), .inr (0, 3), .inr (0, 3), .inr (0, 3), .inr (0, 3), .inr (0, 3), .inl (4, [0, 2, 2, 2]), .inr (0, 6), .inr (0, 6), .inr (0, 6), .inl (4, [0, 2, 2, 2]), .inr (0, 6), .inr (0, 6), .inr (0, 6), .inl (3, [2, 2, 2, 2]), .inl (2, [0, 2, 0, 0]), .inr (2, 4), .inr (0, 12), .inr (0, 12), .inr (0, 12), .inr (0, 12), .inl (5, [2, 0, 2]), .inr (2, 10), .inr (0, 3), .inr (0, 3), .inr (0, 3), .inr (0, 3), .inr (0, 3), .inr (0, 3), .inr (0, 3), .inr (0, 3), .inr (0, 3), .inr (0, 3), .inl (4, [0, 2, 2, 2]), .inr (0, 6), .inr (0, 6), .inr (0, 6), .inl (4, [0, 2, 2, 2]), .inr (0, 6), .inr (0, 6), .inr (0, 6), .inl (0, [2, 2, 2, 2, 0, 0, 1]), .inl (6, [1, 1, 1, 1]), .inl (6, [1, 1, 1, 1]), .inr (1, 4), .inl (1, [2, 2, 2, 2, 2, 2, 0]), .inr (2, 6), .inr (0, 6), .inr (0, 6), .inr (0, 6), .inr (0, 6), .inr (0, 6), .inr (0, 6), .inr (2, 7), .inr (0, 64), .inr (0, 64), .inr (0, 64), .inr (0, 64), .inr (0, 64), .inr (0, 64), .inr (0, 64), .inr (0, 6), .inl (8, [0, 2, 2, 2, 0, 2, 2, 2, 0, 0, 0, 2, 2, 2, 2, 2, 1, 1, 1, 1, 1, 1, 1, 1, 1, 1, 1, 1, 1, 1, 1, 1, 2, 2, 2, 1]), .inr (0, 48), .inr (3, 12), .inr (3, 12), .inr (0, 30), .inr (0, 2), .inr (0, 36), .inr (0, 4), .inr (0, 48), .inr (0, 12), .inr (0, 30), .inr (0, 36), .inr (1, 36), .inr (0, 6), .inr (0, 6)]
def h_sh (k : Nat) : h_Sh := h_shL.getD k (.inr (0, 0))
def h_rfL : List (List Nat) := [[1, 28, 55, 59, 0, 0, 0], [2, 8, 20, 24], [0, 3, 0, 0], [], [], [], [], [], [2, 0, 9], [], [], [], [], [], [], [], [], [], [], [], [0, 21, 22, 23], [], [], [], [0, 25, 26, 27], [], [], [], [29, 35, 47, 51], [0, 30, 0, 0], [], [], [], [], [], [29, 0, 36], [], [], [], [], [], [], [], [], [], [], [], [0, 48, 49, 50], [], [], [], [0, 52, 53, 54], [], [], [], [2, 56, 57, 58, 0, 0, 0], [0, 0, 0, 0], [0, 0, 0, 0], [], [20, 24, 55, 60, 67, 75, 0], [], [], [], [], [], [], [], [], [], [], [], [], [], [], [], [], [0, 77, 78, 79, 0, 80, 81, 82, 0, 0, 0, 83, 84, 85, 86, 87, 0, 0, 0, 0, 0, 0, 0, 0, 0, 0, 0, 0, 0, 0, 0, 0, 88, 89, 90, 0], [], [], [], [], [], [], [], [], [], [], [], [], [], []]
def h_rf (k j : Nat) : Nat := if k = 3 then 4 + j else if k = 9 then 10 + j else if k = 30 then 31 + j else if k = 36 then 37 + j else if k = 60 then 61 + j else if k = 67 then 68 + j else (h_rfL.getD k []).getD j 0
theorem sh_0 : h_sh 0 = .inl (7, [2, 2, 2, 2, 0, 0, 0]) := by decide +kernel
theorem sh_1 : h_sh 1 = .inl (3, [2, 2, 2, 2]) := by decide +kernel
theorem sh_2 : h_sh 2 = .inl (2, [0, 2, 0, 0]) := by decide +kernel
theorem sh_3 : h_sh 3 = .inr (2, 4) := by decide +kernel
theorem sh_4 : h_sh 4 = .inr (0, 12) := by decide +kernel
theorem sh_5 : h_sh 5 = .inr (0, 12) := by decide +kernel
theorem sh_6 : h_sh 6 = .inr (0, 12) := by decide +kernel
theorem sh_7 : h_sh 7 = .inr (0, 12) := by decide +kernel
theorem sh_8 : h_sh 8 = .inl (5, [2, 0, 2]) := by decide +kernel
theorem sh_9 : h_sh 9 = .inr (2, 10) := by decide +kernel
theorem sh_10 : h_sh 10 = .inr (0, 3) := by decide +kernel
theorem sh_11 : h_sh 11 = .inr (0, 3) := by decide +kernel
theorem sh_12 : h_sh 12 = .inr (0, 3) := by decide +kernel
theorem sh_13 : h_sh 13 = .inr (0, 3) := by decide +kernel
theorem sh_14 : h_sh 14 = .inr (0, 3) := by decide +kernel
theorem sh_15 : h_sh 15 = .inr (0, 3) := by decide +kernel
theorem sh_16 : h_sh 16 = .inr (0, 3) := by decide +kernel
theorem sh_17 : h_sh 17 = .inr (0, 3) := by decide +kernel
theorem sh_18 : h_sh 18 = .inr (0, 3) := by decide +kernel
theorem sh_19 : h_sh 19 = .inr (0, 3) := by decide +kernel
theorem sh_20 : h_sh 20 = .inl (4, [0, 2, 2, 2]) := by decide +kernel
theorem sh_21 : h_sh 21 = .inr (0, 6) := by decide +kernel
theorem sh_22 : h_sh 22 = .inr (0, 6) := by decide +kernel
theorem sh_23 : h_sh 23 = .inr (0, 6) := by decide +kernel
theorem sh_24 : h_sh 24 = .inl (4, [0, 2, 2, 2]) := by decide +kernel
theorem sh_25 : h_sh 25 = .inr (0, 6) := by decide +kernel
theorem sh_26 : h_sh 26 = .inr (0, 6) := by decide +kernel
theorem sh_27 : h_sh 27 = .inr (0, 6) := by decide +kernel
theorem sh_28 : h_sh 28 = .inl (3, [2, 2, 2, 2]) := by decide +kernel
theorem sh_29 : h_sh 29 = .inl (2, [0, 2, 0, 0]) := by decide +kernel
theorem sh_30 : h_sh 30 = .inr (2, 4) := by decide +kernel
theorem sh_31 : h_sh 31 = .inr (0, 12) := by decide +kernel
theorem sh_32 : h_sh 32 = .inr (0, 12) := by decide +kernel
theorem sh_33 : h_sh 33 = .inr (0, 12) := by decide +kernel
theorem sh_34 : h_sh 34 = .inr (0, 12) := by decide +kernel
theorem sh_35 : h_sh 35 = .inl (5, [2, 0, 2]) := by decide +kernel
theorem sh_36 : h_sh 36 = .inr (2, 10) := by decide +kernel
theorem sh_37 : h_sh 37 = .inr (0, 3) := by decide +kernel
theorem sh_38 : h_sh 38 = .inr (0, 3) := by decide +kernel
theorem sh_39 : h_sh 39 = .inr (0, 3) := by decide +kernel
theorem sh_40 : h_sh 40 = .inr (0, 3) := by decide +kernel
theorem sh_41 : h_sh 41 = .inr (0, 3) := by decide +kernel
theorem sh_42 : h_sh 42 = .inr (0, 3) := by decide +kernel
theorem sh_43 : h_sh 43 = .inr (0, 3) := by decide +kernel
theorem sh_44 : h_sh 44 = .inr (0, 3) := by decide +kernel
theorem sh_45 : h_sh 45 = .inr (0, 3) := by decide +kernel
theorem sh_46 : h_sh 46 = .inr (0, 3) := by decide +kernel
theorem sh_47 : h_sh 47 = .inl (4, [0, 2, 2, 2]) := by decide +kernel
theorem sh_48 : h_sh 48 = .inr (0, 6) := by decide +kernel
theorem sh_49 : h_sh 49 = .inr (0, 6) := by decide +kernel
theorem sh_50 : h_sh 50 = .inr (0, 6) := by decide +kernel
theorem sh_51 : h_sh 51 = .inl (4, [0, 2, 2, 2]) := by decide +kernel
theorem sh_52 : h_sh 52 = .inr (0, 6) := by decide +kernel
theorem sh_53 : h_sh 53 = .inr (0, 6) := by decide +kernel
theorem sh_54 : h_sh 54 = .inr (0, 6) := by decide +kernel
theorem sh_55 : h_sh 55 = .inl (0, [2, 2, 2, 2, 0, 0, 1]) := by decide +kernel
theorem sh_56 : h_sh 56 = .inl (6, [1, 1, 1, 1]) := by decide +kernel
theorem sh_57 : h_sh 57 = .inl (6, [1, 1, 1, 1]) := by decide +kernel
theorem sh_58 : h_sh 58 = .inr (1, 4) := by decide +kernel
theorem sh_59 : h_sh 59 = .inl (1, [2, 2, 2, 2, 2, 2, 0]) := by decide +kernel
theorem sh_60 : h_sh 60 = .inr (2, 6) := by decide +kernel
theorem sh_61 : h_sh 61 = .inr (0, 6) := by decide +kernel
theorem sh_62 : h_sh 62 = .inr (0, 6) := by decide +kernel
theorem sh_63 : h_sh 63 = .inr (0, 6) := by decide +kernel
theorem sh_64 : h_sh 64 = .inr (0, 6) := by decide +kernel
theorem sh_65 : h_sh 65 = .inr (0, 6) := by decide +kernel
theorem sh_66 : h_sh 66 = .inr (0, 6) := by decide +kernel
theorem sh_67 : h_sh 67 = .inr (2, 7) := by decide +kernel
theorem sh_68 : h_sh 68 = .inr (0, 64) := by decide +kernel
theorem sh_69 : h_sh 69 = .inr (0, 64) := by decide +kernel
theorem sh_70 : h_sh 70 = .inr (0, 64) := by decide +kernel
theorem sh_71 : h_sh 71 = .inr (0, 64) := by decide +kernel
theorem sh_72 : h_sh 72 = .inr (0, 64) := by decide +kernel
theorem sh_73 : h_sh 73 = .inr (0, 64) := by decide +kernel
theorem sh_74 : h_sh 74 = .inr (0, 64) := by decide +kernel
theorem sh_75 : h_sh 75 = .inr (0, 6) := by decide +kernel
theorem sh_76 : h_sh 76 = .inl (8, [0, 2, 2, 2, 0, 2, 2, 2, 0, 0, 0, 2, 2, 2, 2, 2, 1, 1, 1, 1, 1, 1, 1, 1, 1, 1, 1, 1, 1, 1, 1, 1, 2, 2, 2, 1]) := by decide +kernel
theorem sh_77 : h_sh 77 = .inr (0, 48) := by decide +kernel
theorem sh_78 : h_sh 78 = .inr (3, 12) := by decide +kernel
theorem sh_79 : h_sh 79 = .inr (3, 12) := by decide +kernel
theorem sh_80 : h_sh 80 = .inr (0, 30) := by decide +kernel
theorem sh_81 : h_sh 81 = .inr (0, 2) := by decide +kernel
theorem sh_82 : h_sh 82 = .inr (0, 36) := by decide +kernel
theorem sh_83 : h_sh 83 = .inr (0, 4) := by decide +kernel
theorem sh_84 : h_sh 84 = .inr (0, 48) := by decide +kernel
theorem sh_85 : h_sh 85 = .inr (0, 12) := by decide +kernel
theorem sh_86 : h_sh 86 = .inr (0, 30) := by decide +kernel
theorem sh_87 : h_sh 87 = .inr (0, 36) := by decide +kernel
theorem sh_88 : h_sh 88 = .inr (1, 36) := by decide +kernel
theorem sh_89 : h_sh 89 = .inr (0, 6) := by decide +kernel
theorem sh_90 : h_sh 90 = .inr (0, 6) := by decide +kernel
theorem rf_3 (j : Nat) : h_rf 3 j = 4 + j := by simp [h_rf]
theorem rf_9 (j : Nat) : h_rf 9 j = 10 + j := by simp [h_rf]
theorem rf_30 (j : Nat) : h_rf 30 j = 31 + j := by simp [h_rf]
theorem rf_36 (j : Nat) : h_rf 36 j = 37 + j := by simp [h_rf]
theorem rf_60 (j : Nat) : h_rf 60 j = 61 + j := by simp [h_rf]
theorem rf_67 (j : Nat) : h_rf 67 j = 68 + j := by simp [h_rf]
theorem rf_0_0 : h_rf 0 0 = 1 := by decide +kernel
theorem rf_0_1 : h_rf 0 1 = 28 := by decide +kernel
theorem rf_0_2 : h_rf 0 2 = 55 := by decide +kernel
theorem rf_0_3 : h_rf 0 3 = 59 := by decide +kernel
theorem rf_1_0 : h_rf 1 0 = 2 := by decide +kernel
theorem rf_1_1 : h_rf 1 1 = 8 := by decide +kernel
theorem rf_1_2 : h_rf 1 2 = 20 := by decide +kernel
theorem rf_1_3 : h_rf 1 3 = 24 := by decide +kernel
theorem rf_2_1 : h_rf 2 1 = 3 := by decide +kernel
theorem rf_8_0 : h_rf 8 0 = 2 := by decide +kernel
theorem rf_8_2 : h_rf 8 2 = 9 := by decide +kernel
theorem rf_20_1 : h_rf 20 1 = 21 := by decide +kernel
theorem rf_20_2 : h_rf 20 2 = 22 := by decide +kernel
theorem rf_20_3 : h_rf 20 3 = 23 := by decide +kernel
theorem rf_24_1 : h_rf 24 1 = 25 := by decide +kernel
theorem rf_24_2 : h_rf 24 2 = 26 := by decide +kernel
theorem rf_24_3 : h_rf 24 3 = 27 := by decide +kernel
theorem rf_28_0 : h_rf 28 0 = 29 := by decide +kernel
theorem rf_28_1 : h_rf 28 1 = 35 := by decide +kernel
theorem rf_28_2 : h_rf 28 2 = 47 := by decide +kernel
theorem rf_28_3 : h_rf 28 3 = 51 := by decide +kernel
theorem rf_29_1 : h_rf 29 1 = 30 := by decide +kernel
theorem rf_35_0 : h_rf 35 0 = 29 := by decide +kernel
theorem rf_35_2 : h_rf 35 2 = 36 := by decide +kernel
theorem rf_47_1 : h_rf 47 1 = 48 := by decide +kernel
theorem rf_47_2 : h_rf 47 2 = 49 := by decide +kernel
theorem rf_47_3 : h_rf 47 3 = 50 := by decide +kernel
theorem rf_51_1 : h_rf 51 1 = 52 := by decide +kernel
theorem rf_51_2 : h_rf 51 2 = 53 := by decide +kernel
theorem rf_51_3 : h_rf 51 3 = 54 := by decide +kernel
theorem rf_55_0 : h_rf 55 0 = 2 := by decide +kernel
theorem rf_55_1 : h_rf 55 1 = 56 := by decide +kernel
theorem rf_55_2 : h_rf 55 2 = 57 := by decide +kernel
theorem rf_55_3 : h_rf 55 3 = 58 := by decide +kernel
theorem rf_59_0 : h_rf 59 0 = 20 := by decide +kernel
theorem rf_59_1 : h_rf 59 1 = 24 := by decide +kernel
theorem rf_59_2 : h_rf 59 2 = 55 := by decide +kernel
theorem rf_59_3 : h_rf 59 3 = 60 := by decide +kernel
theorem rf_59_4 : h_rf 59 4 = 67 := by decide +kernel
theorem rf_59_5 : h_rf 59 5 = 75 := by decide +kernel
theorem rf_76_1 : h_rf 76 1 = 77 := by decide +kernel
theorem rf_76_2 : h_rf 76 2 = 78 := by decide +kernel
theorem rf_76_3 : h_rf 76 3 = 79 := by decide +kernel
theorem rf_76_5 : h_rf 76 5 = 80 := by decide +kernel
theorem rf_76_6 : h_rf 76 6 = 81 := by decide +kernel
theorem rf_76_7 : h_rf 76 7 = 82 := by decide +kernel
theorem rf_76_11 : h_rf 76 11 = 83 := by decide +kernel
theorem rf_76_12 : h_rf 76 12 = 84 := by decide +kernel
theorem rf_76_13 : h_rf 76 13 = 85 := by decide +kernel
theorem rf_76_14 : h_rf 76 14 = 86 := by decide +kernel
theorem rf_76_15 : h_rf 76 15 = 87 := by decide +kernel
theorem rf_76_32 : h_rf 76 32 = 88 := by decide +kernel
theorem rf_76_33 : h_rf 76 33 = 89 := by decide +kernel
theorem rf_76_34 : h_rf 76 34 = 90 := by decide +kernel
theorem shr_at : ∀ r, r < 4 → h_sh (4 + r) = .inr (0, 12) := by decide +kernel
theorem shk_at {r : Nat} (h : r < 4) : 4 + r < 91 := by omega
theorem shr_cor : ∀ r, r < 10 → h_sh (10 + r) = .inr (0, 3) := by decide +kernel
theorem shk_cor {r : Nat} (h : r < 10) : 10 + r < 91 := by omega
theorem shr_atk : ∀ r, r < 4 → h_sh (31 + r) = .inr (0, 12) := by decide +kernel
theorem shk_atk {r : Nat} (h : r < 4) : 31 + r < 91 := by omega
theorem shr_cork : ∀ r, r < 10 → h_sh (37 + r) = .inr (0, 3) := by decide +kernel
theorem shk_cork {r : Nat} (h : r < 10) : 37 + r < 91 := by omega
theorem shr_apart : ∀ r, r < 6 → h_sh (61 + r) = .inr (0, 6) := by decide +kernel
theorem shk_apart {r : Nat} (h : r < 6) : 61 + r < 91 := by omega
theorem shr_least : ∀ r, r < 7 → h_sh (68 + r) = .inr (0, 64) := by decide +kernel
theorem shk_least {r : Nat} (h : r < 7) : 68 + r < 91 := by omega

abbrev hQ : Type := va_G × (Nat → ClassId) × (Nat → Nat)
abbrev rr (G : hQ) (k : Nat) : Value := Value.ref (G.2.2 k)
def h_val (G : hQ) (I : hI) (J : hJ) (k j κ : Nat) : Value := if κ = 0 then .int (I k j) else if κ = 1 then .long (J k j) else rr G (h_rf k j)
def h_flds (G : hQ) (I : hI) (J : hJ) (k : Nat) (ks : List Nat) : List Value := ks.zipIdx.map (fun q => h_val G I J k q.2 q.1)
def h_arr (G : hQ) (I : hI) (J : hJ) (k κ n : Nat) : vp_A := if κ = 1 then (n, .inr (.inl (J k))) else if κ = 2 then (n, .inr (.inr (.inr (.inr (fun j => some (G.2.2 (h_rf k j))))))) else (n, .inl (I k))
def h_cell (G : hQ) (I : hI) (J : hJ) (k : Nat) : va_E := match h_sh k with
  | .inl q => .inr (q.1, h_flds G I J k q.2)
  | .inr q => .inl (G.2.1 q.1, h_arr G I J k q.1 q.2)
def h_W (G : hQ) (I : hI) (J : hJ) : va_W := (List.range 91).map (fun k => (G.2.2 k, h_cell G I J k))
def h_ty (G : hQ) : List (ClassId × FieldType) := [(G.2.1 0, .int), (G.2.1 1, .long), (G.2.1 2, .array .int), (G.2.1 3, .boolean)]
def h_up (I : hI) (k j : Nat) (v : Int32) : hI := fun a b => if a = k ∧ b = j then v else I a b
def h_upL (J : hJ) (k j : Nat) (v : Int64) : hJ := fun a b => if a = k ∧ b = j then v else J a b
def h_cp (I : hI) (k0 k n : Nat) : hI := fun a b => if a = k ∧ b < n then I k0 b else I a b
theorem h_cell_o {G : hQ} {I : hI} {J : hJ} {k ci : Nat} {ks : List Nat} (hs : h_sh k = .inl (ci, ks)) : h_cell G I J k = .inr (ci, h_flds G I J k ks) := by unfold h_cell; rw [hs]
theorem h_cell_a {G : hQ} {I : hI} {J : hJ} {k κ n : Nat} (hs : h_sh k = .inr (κ, n)) : h_cell G I J k = .inl (G.2.1 κ, h_arr G I J k κ n) := by unfold h_cell; rw [hs]
theorem h_W_at {G : hQ} {I : hI} {J : hJ} {k : Nat} (hk : k < 91) : (h_W G I J)[k]? = some (G.2.2 k, h_cell G I J k) := by
  unfold h_W
  rw [List.getElem?_map, List.getElem?_range hk]
  rfl
theorem h_W_o {G : hQ} {I : hI} {J : hJ} {k ci : Nat} {ks : List Nat} (hk : k < 91) (hs : h_sh k = .inl (ci, ks)) : (h_W G I J)[k]? = some (G.2.2 k, .inr (ci, h_flds G I J k ks)) := by rw [h_W_at hk, h_cell_o hs]
theorem h_W_a {G : hQ} {I : hI} {J : hJ} {k κ n : Nat} (hk : k < 91) (hs : h_sh k = .inr (κ, n)) : (h_W G I J)[k]? = some (G.2.2 k, .inl (G.2.1 κ, h_arr G I J k κ n)) := by rw [h_W_at hk, h_cell_a hs]
theorem h_flds_at {G : hQ} {I : hI} {J : hJ} {k j κ : Nat} {ks : List Nat} (hj : ks[j]? = some κ) : (h_flds G I J k ks)[j]? = some (h_val G I J k j κ) := by
  unfold h_flds
  rw [List.getElem?_map, List.getElem?_zipIdx, hj]
  simp
theorem h_flds_len {G : hQ} {I : hI} {J : hJ} {k : Nat} {ks : List Nat} : (h_flds G I J k ks).length = ks.length := by simp [h_flds]
theorem h_W_set {G : hQ} {I I' : hI} {J J' : hJ} {k : Nat} {e : va_E} (hk : k < 91) (he : h_cell G I' J' k = e) (ho : ∀ a, a ≠ k → h_cell G I' J' a = h_cell G I J a) : (h_W G I J).set k (G.2.2 k, e) = h_W G I' J' := by
  apply List.ext_getElem?
  intro i
  by_cases hi : i < 91
  · rw [h_W_at hi, List.getElem?_set]
    by_cases h : k = i
    · subst h
      rw [if_pos rfl, if_pos (by simpa [h_W] using hk), he]
    · rw [if_neg h, h_W_at hi, ho i (fun q => h q.symm)]
  · have h1 : (h_W G I' J')[i]? = none := List.getElem?_eq_none (by simp [h_W]; omega)
    have h2 : ((h_W G I J).set k (G.2.2 k, e))[i]? = none := List.getElem?_eq_none (by simp [h_W]; omega)
    rw [h1, h2]
theorem h_cell_ne {G : hQ} {I I' : hI} {J J' : hJ} {a : Nat} (hI : I' a = I a) (hJ : J' a = J a) : h_cell G I' J' a = h_cell G I J a := by
  unfold h_cell h_flds h_arr h_val
  rw [hI, hJ]
theorem h_up_ne {I : hI} {k j a : Nat} {v : Int32} (h : a ≠ k) : h_up I k j v a = I a := by funext b; simp [h_up, h]
theorem h_upL_ne {J : hJ} {k j a : Nat} {v : Int64} (h : a ≠ k) : h_upL J k j v a = J a := by funext b; simp [h_upL, h]
theorem h_cp_ne {I : hI} {k0 k n a : Nat} (h : a ≠ k) : h_cp I k0 k n a = I a := by funext b; simp [h_cp, h]
theorem h_up_eq {I : hI} {k j : Nat} {v : Int32} : h_up I k j v k = upd (I k) j v := by funext b; simp [h_up, upd]
theorem h_upL_eq {J : hJ} {k j : Nat} {v : Int64} : h_upL J k j v k = vp_updL (J k) j v := by funext b; simp [h_upL, vp_updL]
theorem h_cp_eq {I : hI} {k0 k n : Nat} : h_cp I k0 k n k = va_cpy (I k0) (I k) 0 0 n := by
  funext b
  simp [h_cp, va_cpy]
theorem h_flds_up {G : hQ} {I : hI} {J : hJ} {k j : Nat} {ks : List Nat} {v : Int32} (hj : ks[j]? = some 0) : h_flds G (h_up I k j v) J k ks = (h_flds G I J k ks).set j (.int v) := by
  apply List.ext_getElem?
  intro i
  rw [List.getElem?_set, h_flds_len]
  have hl : j < ks.length := (List.getElem?_eq_some_iff.mp hj).1
  by_cases h : j = i
  · subst h
    rw [if_pos rfl, if_pos hl, h_flds_at hj]
    simp [h_val, h_up]
  · rw [if_neg h]
    cases hi : ks[i]? with
    | none => rw [List.getElem?_eq_none (by rw [h_flds_len]; exact List.getElem?_eq_none_iff.mp hi), List.getElem?_eq_none (by rw [h_flds_len]; exact List.getElem?_eq_none_iff.mp hi)]
    | some κ => rw [h_flds_at hi, h_flds_at hi]; have h2 : ¬ i = j := fun q => h q.symm; simp [h_val, h_up, h2]
theorem h_flds_upL {G : hQ} {I : hI} {J : hJ} {k j : Nat} {ks : List Nat} {v : Int64} (hj : ks[j]? = some 1) : h_flds G I (h_upL J k j v) k ks = (h_flds G I J k ks).set j (.long v) := by
  apply List.ext_getElem?
  intro i
  rw [List.getElem?_set, h_flds_len]
  have hl : j < ks.length := (List.getElem?_eq_some_iff.mp hj).1
  by_cases h : j = i
  · subst h
    rw [if_pos rfl, if_pos hl, h_flds_at hj]
    simp [h_val, h_upL]
  · rw [if_neg h]
    cases hi : ks[i]? with
    | none => rw [List.getElem?_eq_none (by rw [h_flds_len]; exact List.getElem?_eq_none_iff.mp hi), List.getElem?_eq_none (by rw [h_flds_len]; exact List.getElem?_eq_none_iff.mp hi)]
    | some κ => rw [h_flds_at hi, h_flds_at hi]; have h2 : ¬ i = j := fun q => h q.symm; simp [h_val, h_upL, h2]
theorem h_W_up_o {G : hQ} {I : hI} {J : hJ} {k ci j : Nat} {ks : List Nat} {v : Int32} (hk : k < 91) (hs : h_sh k = .inl (ci, ks)) (hj : ks[j]? = some 0) : (h_W G I J).set k (G.2.2 k, .inr (ci, (h_flds G I J k ks).set j (.int v))) = h_W G (h_up I k j v) J :=
  h_W_set hk (by rw [h_cell_o hs, h_flds_up hj]) (fun a h => h_cell_ne (h_up_ne h) rfl)
theorem h_W_upL_o {G : hQ} {I : hI} {J : hJ} {k ci j : Nat} {ks : List Nat} {v : Int64} (hk : k < 91) (hs : h_sh k = .inl (ci, ks)) (hj : ks[j]? = some 1) : (h_W G I J).set k (G.2.2 k, .inr (ci, (h_flds G I J k ks).set j (.long v))) = h_W G I (h_upL J k j v) :=
  h_W_set hk (by rw [h_cell_o hs, h_flds_upL hj]) (fun a h => h_cell_ne rfl (h_upL_ne h))
theorem h_W_i {G : hQ} {I : hI} {J : hJ} {k n : Nat} (hk : k < 91) (hs : h_sh k = .inr (0, n)) : (h_W G I J)[k]? = some (G.2.2 k, .inl (G.2.1 0, n, .inl (I k))) := h_W_a hk hs
theorem h_W_z {G : hQ} {I : hI} {J : hJ} {k n : Nat} (hk : k < 91) (hs : h_sh k = .inr (3, n)) : (h_W G I J)[k]? = some (G.2.2 k, .inl (G.2.1 3, n, .inl (I k))) := h_W_a hk hs
theorem h_W_l {G : hQ} {I : hI} {J : hJ} {k n : Nat} (hk : k < 91) (hs : h_sh k = .inr (1, n)) : (h_W G I J)[k]? = some (G.2.2 k, .inl (G.2.1 1, n, .inr (.inl (J k)))) := h_W_a hk hs
theorem h_W_q {G : hQ} {I : hI} {J : hJ} {k n : Nat} (hk : k < 91) (hs : h_sh k = .inr (2, n)) : (h_W G I J)[k]? = some (G.2.2 k, .inl (G.2.1 2, n, .inr (.inr (.inr (.inr (fun j => some (G.2.2 (h_rf k j)))))))) := h_W_a hk hs
theorem h_W_up_i {G : hQ} {I : hI} {J : hJ} {k n j : Nat} {v : Int32} (hk : k < 91) (hs : h_sh k = .inr (0, n)) : (h_W G I J).set k (G.2.2 k, .inl (G.2.1 0, n, .inl (upd (I k) j v))) = h_W G (h_up I k j v) J :=
  h_W_set hk (by rw [h_cell_a hs]; simp [h_arr, h_up_eq]) (fun a h => h_cell_ne (h_up_ne h) rfl)
theorem h_W_up_z {G : hQ} {I : hI} {J : hJ} {k n j : Nat} {v : Int32} (hk : k < 91) (hs : h_sh k = .inr (3, n)) : (h_W G I J).set k (G.2.2 k, .inl (G.2.1 3, n, .inl (upd (I k) j v))) = h_W G (h_up I k j v) J :=
  h_W_set hk (by rw [h_cell_a hs]; simp [h_arr, h_up_eq]) (fun a h => h_cell_ne (h_up_ne h) rfl)
theorem h_W_up_l {G : hQ} {I : hI} {J : hJ} {k n j : Nat} {v : Int64} (hk : k < 91) (hs : h_sh k = .inr (1, n)) : (h_W G I J).set k (G.2.2 k, .inl (G.2.1 1, n, .inr (.inl (vp_updL (J k) j v)))) = h_W G I (h_upL J k j v) :=
  h_W_set hk (by rw [h_cell_a hs]; simp [h_arr, h_upL_eq]) (fun a h => h_cell_ne rfl (h_upL_ne h))
theorem h_W_cp {G : hQ} {I : hI} {J : hJ} {k0 k n m : Nat} (hk : k < 91) (hs : h_sh k = .inr (0, n)) : (h_W G I J).set k (G.2.2 k, .inl (G.2.1 0, n, .inl (va_cpy (I k0) (I k) 0 0 m))) = h_W G (h_cp I k0 k m) J :=
  h_W_set hk (by rw [h_cell_a hs]; simp [h_arr, h_cp_eq]) (fun a h => h_cell_ne (h_cp_ne h) rfl)
/-- the constant things of a walk: p l e R s m args below meth c Q A nL cells slots -/
abbrev hG : Type := Program × Launch × Env × Room × State × MethodId × Array Value × List Frame × Method × Code × (State → Prop) × (Nat → Prop) × Nat × Nat × Nat
abbrev g_p (Γ : hG) := Γ.1
abbrev g_l (Γ : hG) := Γ.2.1
abbrev g_e (Γ : hG) := Γ.2.2.1
abbrev g_R (Γ : hG) := Γ.2.2.2.1
abbrev g_s (Γ : hG) := Γ.2.2.2.2.1
abbrev g_m (Γ : hG) := Γ.2.2.2.2.2.1
abbrev g_a (Γ : hG) := Γ.2.2.2.2.2.2.1
abbrev g_b (Γ : hG) := Γ.2.2.2.2.2.2.2.1
abbrev g_t (Γ : hG) := Γ.2.2.2.2.2.2.2.2.1
abbrev g_c (Γ : hG) := Γ.2.2.2.2.2.2.2.2.2.1
abbrev g_Q (Γ : hG) := Γ.2.2.2.2.2.2.2.2.2.2.1
abbrev g_A (Γ : hG) := Γ.2.2.2.2.2.2.2.2.2.2.2.1
abbrev g_n (Γ : hG) := Γ.2.2.2.2.2.2.2.2.2.2.2.2.1
abbrev g_k (Γ : hG) := Γ.2.2.2.2.2.2.2.2.2.2.2.2.2.1
abbrev g_j (Γ : hG) := Γ.2.2.2.2.2.2.2.2.2.2.2.2.2.2
/-- at pc, with locals lo, stack st and the heap (I, J), the machine comes to its goal -/
def h_WW (Γ : hG) (G : hQ) (pc : Nat) (lo : List (Nat × Value)) (st : List Value) (I : hI) (J : hJ) : Prop :=
  ∀ (H : Heap) (locs : List Loc) (ls : Array Slot), va_P G.1 vwCl (h_W G I J) H → va_D (g_A Γ) (h_W G I J) → va_S (g_A Γ) (g_s Γ).heap H locs → lv_has ls (g_n Γ) lo →
    W (g_p Γ) (g_l Γ) (g_e Γ) (g_R Γ) (g_s Γ) (g_m Γ) (g_a Γ) (g_b Γ) (g_t Γ) (g_c Γ) H locs (g_k Γ) (g_j Γ) (g_Q Γ) (F0 (g_m Γ) pc ls st)
/-- what is known of them: exec, bytes, locals' number, own class, words, classes; the room: frames fr, locals lc -/
abbrev h_C (Γ : hG) (G : hQ) (l : Launch) (nL : Nat) (cc : ByteArray) (Ts : List Cond) (own : String) (fr lc : Nat) : Prop :=
  (g_p Γ).tables.exec = Jvm.exec ∧ (g_c Γ).code = cc ∧ (g_c Γ).maxLocals = g_n Γ ∧ (g_s Γ).vm.findClass own = some (g_m Γ).cls ∧ (∀ w ∈ Ts, w.before (g_a Γ) (g_s Γ) = true) ∧ va_K G.1 vwCl (h_ty G) (g_s Γ) ∧ (∀ q : Nat, (g_s Γ).heap.size ≤ q → g_A Γ q) ∧ fr ≤ (g_R Γ).frames ∧ lc ≤ (g_R Γ).locals ∧ g_k Γ ≤ (g_R Γ).cells ∧ g_j Γ ≤ (g_R Γ).slots ∧ g_l Γ = l ∧ g_n Γ = nL
section HL
variable {Γ : hG} {G : hQ} {l : Launch} {nL : Nat} {cc : ByteArray} {Ts : List Cond} {own : String} {fr lc pc : Nat} {lo lo' : List (Nat × Value)} {st : List Value} {I : hI} {J : hJ}
theorem x_lo (ks : List Nat) (hl : lv_pick lo ks = lo') (k : h_WW Γ G pc lo' st I J) : h_WW Γ G pc lo st I J := fun H locs ls a b c d => k H locs ls a b c (lv_sub d ks hl)
theorem x_topi {x : Int32} (k : ∀ y : Int32, y = x → h_WW Γ G pc lo (.int y :: st) I J) : h_WW Γ G pc lo (.int x :: st) I J := k x rfl
theorem x_topl {x : Int64} (k : ∀ y : Int64, y = x → h_WW Γ G pc lo (.long y :: st) I J) : h_WW Γ G pc lo (.long x :: st) I J := k x rfl
theorem x_topie {x : Int32} (y : Int32) (h : x = y) (k : h_WW Γ G pc lo (.int y :: st) I J) : h_WW Γ G pc lo (.int x :: st) I J := h ▸ k
theorem x_tople {x : Int64} (y : Int64) (h : x = y) (k : h_WW Γ G pc lo (.long y :: st) I J) : h_WW Γ G pc lo (.long x :: st) I J := h ▸ k
theorem x_eqI {I' : hI} {J' : hJ} (h : I = I') (h2 : J = J') (k : h_WW Γ G pc lo st I' J') : h_WW Γ G pc lo st I J := by subst h; subst h2; exact k

theorem x_iload_n (K : h_C Γ G l nL cc Ts own fr lc) {k : Fin 4} {i : Nat} {x : Int32} (q : Nat) (hdg : decode cc pc = .ok (.iload_n k, 1)) (hi : (k : Nat) = i) (hl : lo[q]? = some (i, .int x)) (k : h_WW Γ G (pc + 1) lo (.int x :: st) I J) : h_WW Γ G pc lo st I J := fun H locs ls a b c d => lv_iload_n K.1 K.2.1 hdg hi (lv_at d q hl) (k H locs ls a b c d)
theorem x_iload (K : h_C Γ G l nL cc Ts own fr lc) {i : Nat} {x : Int32} (q : Nat) (hdg : decode cc pc = .ok (.iload i, 2)) (hl : lo[q]? = some (i, .int x)) (k : h_WW Γ G (pc + 2) lo (.int x :: st) I J) : h_WW Γ G pc lo st I J := fun H locs ls a b c d => lv_iload K.1 K.2.1 hdg (lv_at d q hl) (k H locs ls a b c d)
theorem x_istore_n (K : h_C Γ G l nL cc Ts own fr lc) {k : Fin 4} {i : Nat} {x : Int32} (hdg : decode cc pc = .ok (.istore_n k, 1)) (hi : (k : Nat) = i) (hn : i < nL) (hl : (i, Value.int x) :: lo.filter (fun q => !(q.1 == i) && !(q.1 + 1 == i && q.2.category == 2)) = lo') (kk : h_WW Γ G (pc + 1) lo' st I J) : h_WW Γ G pc lo (.int x :: st) I J := fun H locs ls a b c d => lv_istore_n K.1 K.2.1 hdg hi d (by rw [K.2.2.2.2.2.2.2.2.2.2.2.2]; exact hn) hl (fun ls2 d2 => kk H locs ls2 a b c d2)
theorem x_istore (K : h_C Γ G l nL cc Ts own fr lc) {i : Nat} {x : Int32} (hdg : decode cc pc = .ok (.istore i, 2)) (hn : i < nL) (hl : (i, Value.int x) :: lo.filter (fun q => !(q.1 == i) && !(q.1 + 1 == i && q.2.category == 2)) = lo') (kk : h_WW Γ G (pc + 2) lo' st I J) : h_WW Γ G pc lo (.int x :: st) I J := fun H locs ls a b c d => lv_istore K.1 K.2.1 hdg d (by rw [K.2.2.2.2.2.2.2.2.2.2.2.2]; exact hn) hl (fun ls2 d2 => kk H locs ls2 a b c d2)
theorem x_lload_n (K : h_C Γ G l nL cc Ts own fr lc) {k : Fin 4} {i : Nat} {x : Int64} (q : Nat) (hdg : decode cc pc = .ok (.lload_n k, 1)) (hi : (k : Nat) = i) (hl : lo[q]? = some (i, .long x)) (k : h_WW Γ G (pc + 1) lo (.long x :: st) I J) : h_WW Γ G pc lo st I J := fun H locs ls a b c d => lv_lload_n K.1 K.2.1 hdg hi (lv_at d q hl) (k H locs ls a b c d)
theorem x_lload (K : h_C Γ G l nL cc Ts own fr lc) {i : Nat} {x : Int64} (q : Nat) (hdg : decode cc pc = .ok (.lload i, 2)) (hl : lo[q]? = some (i, .long x)) (k : h_WW Γ G (pc + 2) lo (.long x :: st) I J) : h_WW Γ G pc lo st I J := fun H locs ls a b c d => lv_lload K.1 K.2.1 hdg (lv_at d q hl) (k H locs ls a b c d)
theorem x_lstore_n (K : h_C Γ G l nL cc Ts own fr lc) {k : Fin 4} {i : Nat} {x : Int64} (hdg : decode cc pc = .ok (.lstore_n k, 1)) (hi : (k : Nat) = i) (hn : i + 1 < nL) (hl : (i, Value.long x) :: lo.filter (fun q => !(q.1 == i) && (!(q.1 == i + 1) && !(q.1 + 1 == i && q.2.category == 2))) = lo') (kk : h_WW Γ G (pc + 1) lo' st I J) : h_WW Γ G pc lo (.long x :: st) I J := fun H locs ls a b c d => lv_lstore_n K.1 K.2.1 hdg hi d (by rw [K.2.2.2.2.2.2.2.2.2.2.2.2]; exact hn) hl (fun ls2 d2 => kk H locs ls2 a b c d2)
theorem x_lstore (K : h_C Γ G l nL cc Ts own fr lc) {i : Nat} {x : Int64} (hdg : decode cc pc = .ok (.lstore i, 2)) (hn : i + 1 < nL) (hl : (i, Value.long x) :: lo.filter (fun q => !(q.1 == i) && (!(q.1 == i + 1) && !(q.1 + 1 == i && q.2.category == 2))) = lo') (kk : h_WW Γ G (pc + 2) lo' st I J) : h_WW Γ G pc lo (.long x :: st) I J := fun H locs ls a b c d => lv_lstore K.1 K.2.1 hdg d (by rw [K.2.2.2.2.2.2.2.2.2.2.2.2]; exact hn) hl (fun ls2 d2 => kk H locs ls2 a b c d2)
theorem x_aload_n (K : h_C Γ G l nL cc Ts own fr lc) {k : Fin 4} {i : Nat} {x : Nat} (q : Nat) (hdg : decode cc pc = .ok (.aload_n k, 1)) (hi : (k : Nat) = i) (hl : lo[q]? = some (i, .ref x)) (k : h_WW Γ G (pc + 1) lo (.ref x :: st) I J) : h_WW Γ G pc lo st I J := fun H locs ls a b c d => lv_aload_n K.1 K.2.1 hdg hi (lv_at d q hl) (k H locs ls a b c d)
theorem x_aload (K : h_C Γ G l nL cc Ts own fr lc) {i : Nat} {x : Nat} (q : Nat) (hdg : decode cc pc = .ok (.aload i, 2)) (hl : lo[q]? = some (i, .ref x)) (k : h_WW Γ G (pc + 2) lo (.ref x :: st) I J) : h_WW Γ G pc lo st I J := fun H locs ls a b c d => lv_aload K.1 K.2.1 hdg (lv_at d q hl) (k H locs ls a b c d)
theorem x_astore_n (K : h_C Γ G l nL cc Ts own fr lc) {k : Fin 4} {i : Nat} {x : Nat} (hdg : decode cc pc = .ok (.astore_n k, 1)) (hi : (k : Nat) = i) (hn : i < nL) (hl : (i, Value.ref x) :: lo.filter (fun q => !(q.1 == i) && !(q.1 + 1 == i && q.2.category == 2)) = lo') (kk : h_WW Γ G (pc + 1) lo' st I J) : h_WW Γ G pc lo (.ref x :: st) I J := fun H locs ls a b c d => lv_astore_n K.1 K.2.1 hdg hi d (by rw [K.2.2.2.2.2.2.2.2.2.2.2.2]; exact hn) hl (fun ls2 d2 => kk H locs ls2 a b c d2)
theorem x_astore (K : h_C Γ G l nL cc Ts own fr lc) {i : Nat} {x : Nat} (hdg : decode cc pc = .ok (.astore i, 2)) (hn : i < nL) (hl : (i, Value.ref x) :: lo.filter (fun q => !(q.1 == i) && !(q.1 + 1 == i && q.2.category == 2)) = lo') (kk : h_WW Γ G (pc + 2) lo' st I J) : h_WW Γ G pc lo (.ref x :: st) I J := fun H locs ls a b c d => lv_astore K.1 K.2.1 hdg d (by rw [K.2.2.2.2.2.2.2.2.2.2.2.2]; exact hn) hl (fun ls2 d2 => kk H locs ls2 a b c d2)
theorem x_iinc (K : h_C Γ G l nL cc Ts own fr lc) {i q0 : Nat} {n : Int} {x v : Int32} (hdg : decode cc pc = .ok (.iinc i n, 3)) (hk : lo[q0]? = some (i, .int x)) (hv : x + Int32.ofInt n = v) (hn : i < nL) (hl : (i, Value.int v) :: lo.filter (fun q => !(q.1 == i) && !(q.1 + 1 == i && q.2.category == 2)) = lo') (kk : h_WW Γ G (pc + 3) lo' st I J) : h_WW Γ G pc lo st I J := fun H locs ls a b c d => lv_iinc K.1 K.2.1 hdg d hk hv (by rw [K.2.2.2.2.2.2.2.2.2.2.2.2]; exact hn) hl (fun ls2 d2 => kk H locs ls2 a b c d2)
theorem x_iconst (K : h_C Γ G l nL cc Ts own fr lc) {n : Int} {v : Int32} (hdg : decode cc pc = .ok (.iconst n, 1)) (hv : Int32.ofInt n = v) (k : h_WW Γ G (pc + 1) lo (.int v :: st) I J) : h_WW Γ G pc lo st I J := fun H locs ls a b c d => lv_iconst K.1 K.2.1 hdg hv (k H locs ls a b c d)
theorem x_bipush (K : h_C Γ G l nL cc Ts own fr lc) {n : Int} {v : Int32} (hdg : decode cc pc = .ok (.bipush n, 2)) (hv : (Int8.ofInt n).toInt32 = v) (k : h_WW Γ G (pc + 2) lo (.int v :: st) I J) : h_WW Γ G pc lo st I J := fun H locs ls a b c d => lv_bipush K.1 K.2.1 hdg hv (k H locs ls a b c d)
theorem x_sipush (K : h_C Γ G l nL cc Ts own fr lc) {n : Int} {v : Int32} (hdg : decode cc pc = .ok (.sipush n, 3)) (hv : (Int16.ofInt n).toInt32 = v) (k : h_WW Γ G (pc + 3) lo (.int v :: st) I J) : h_WW Γ G pc lo st I J := fun H locs ls a b c d => lv_sipush K.1 K.2.1 hdg hv (k H locs ls a b c d)
theorem x_lconst (K : h_C Γ G l nL cc Ts own fr lc) {n : Fin 2} {v : Int64} (hdg : decode cc pc = .ok (.lconst n, 1)) (hv : Int64.ofNat (n : Nat) = v) (k : h_WW Γ G (pc + 1) lo (.long v :: st) I J) : h_WW Γ G pc lo st I J := fun H locs ls a b c d => lv_lconst K.1 K.2.1 hdg hv (k H locs ls a b c d)
theorem x_ldc_w (K : h_C Γ G l nL cc Ts own fr lc) {index : Nat} {v : Int32} (hc : Jvm.Cond.constant own index v ∈ Ts) (hdg : decode cc pc = .ok (.ldc_w index, 3)) (k : h_WW Γ G (pc + 3) lo (.int v :: st) I J) : h_WW Γ G pc lo st I J := fun H locs ls a b c d => lv_ldcw K.1 K.2.1 K.2.2.2.1 (K.2.2.2.2.1 _ hc) hdg (k H locs ls a b c d)
theorem x_ldc2_w (K : h_C Γ G l nL cc Ts own fr lc) {index : Nat} {v : Int64} (hc : Jvm.Cond.constantLong own index v ∈ Ts) (hdg : decode cc pc = .ok (.ldc2_w index, 3)) (k : h_WW Γ G (pc + 3) lo (.long v :: st) I J) : h_WW Γ G pc lo st I J := fun H locs ls a b c d => lv_ldc2 K.1 K.2.1 K.2.2.2.1 (K.2.2.2.2.1 _ hc) hdg (k H locs ls a b c d)
theorem x_iadd (K : h_C Γ G l nL cc Ts own fr lc) {x y : Int32} (hdg : decode cc pc = .ok (.iadd, 1)) (k : h_WW Γ G (pc + 1) lo (.int (x + y) :: st) I J) : h_WW Γ G pc lo (.int y :: .int x :: st) I J := fun H locs ls a b c d => lv_iadd K.1 K.2.1 hdg (k H locs ls a b c d)
theorem x_isub (K : h_C Γ G l nL cc Ts own fr lc) {x y : Int32} (hdg : decode cc pc = .ok (.isub, 1)) (k : h_WW Γ G (pc + 1) lo (.int (x - y) :: st) I J) : h_WW Γ G pc lo (.int y :: .int x :: st) I J := fun H locs ls a b c d => lv_isub K.1 K.2.1 hdg (k H locs ls a b c d)
theorem x_imul (K : h_C Γ G l nL cc Ts own fr lc) {x y : Int32} (hdg : decode cc pc = .ok (.imul, 1)) (k : h_WW Γ G (pc + 1) lo (.int (x * y) :: st) I J) : h_WW Γ G pc lo (.int y :: .int x :: st) I J := fun H locs ls a b c d => lv_imul K.1 K.2.1 hdg (k H locs ls a b c d)
theorem x_iand (K : h_C Γ G l nL cc Ts own fr lc) {x y : Int32} (hdg : decode cc pc = .ok (.iand, 1)) (k : h_WW Γ G (pc + 1) lo (.int (x &&& y) :: st) I J) : h_WW Γ G pc lo (.int y :: .int x :: st) I J := fun H locs ls a b c d => lv_iand K.1 K.2.1 hdg (k H locs ls a b c d)
theorem x_ior (K : h_C Γ G l nL cc Ts own fr lc) {x y : Int32} (hdg : decode cc pc = .ok (.ior, 1)) (k : h_WW Γ G (pc + 1) lo (.int (x ||| y) :: st) I J) : h_WW Γ G pc lo (.int y :: .int x :: st) I J := fun H locs ls a b c d => lv_ior K.1 K.2.1 hdg (k H locs ls a b c d)
theorem x_ixor (K : h_C Γ G l nL cc Ts own fr lc) {x y : Int32} (hdg : decode cc pc = .ok (.ixor, 1)) (k : h_WW Γ G (pc + 1) lo (.int (x ^^^ y) :: st) I J) : h_WW Γ G pc lo (.int y :: .int x :: st) I J := fun H locs ls a b c d => lv_ixor K.1 K.2.1 hdg (k H locs ls a b c d)
theorem x_ishl (K : h_C Γ G l nL cc Ts own fr lc) {x y : Int32} (hdg : decode cc pc = .ok (.ishl, 1)) (k : h_WW Γ G (pc + 1) lo (.int (x <<< (y &&& 31)) :: st) I J) : h_WW Γ G pc lo (.int y :: .int x :: st) I J := fun H locs ls a b c d => lv_ishl K.1 K.2.1 hdg (k H locs ls a b c d)
theorem x_ishr (K : h_C Γ G l nL cc Ts own fr lc) {x y : Int32} (hdg : decode cc pc = .ok (.ishr, 1)) (k : h_WW Γ G (pc + 1) lo (.int (x >>> (y &&& 31)) :: st) I J) : h_WW Γ G pc lo (.int y :: .int x :: st) I J := fun H locs ls a b c d => lv_ishr K.1 K.2.1 hdg (k H locs ls a b c d)
theorem x_ladd (K : h_C Γ G l nL cc Ts own fr lc) {x y : Int64} (hdg : decode cc pc = .ok (.ladd, 1)) (k : h_WW Γ G (pc + 1) lo (.long (x + y) :: st) I J) : h_WW Γ G pc lo (.long y :: .long x :: st) I J := fun H locs ls a b c d => lv_ladd K.1 K.2.1 hdg (k H locs ls a b c d)
theorem x_lsub (K : h_C Γ G l nL cc Ts own fr lc) {x y : Int64} (hdg : decode cc pc = .ok (.lsub, 1)) (k : h_WW Γ G (pc + 1) lo (.long (x - y) :: st) I J) : h_WW Γ G pc lo (.long y :: .long x :: st) I J := fun H locs ls a b c d => lv_lsub K.1 K.2.1 hdg (k H locs ls a b c d)
theorem x_lmul (K : h_C Γ G l nL cc Ts own fr lc) {x y : Int64} (hdg : decode cc pc = .ok (.lmul, 1)) (k : h_WW Γ G (pc + 1) lo (.long (x * y) :: st) I J) : h_WW Γ G pc lo (.long y :: .long x :: st) I J := fun H locs ls a b c d => lv_lmul K.1 K.2.1 hdg (k H locs ls a b c d)
theorem x_lxor (K : h_C Γ G l nL cc Ts own fr lc) {x y : Int64} (hdg : decode cc pc = .ok (.lxor, 1)) (k : h_WW Γ G (pc + 1) lo (.long (x ^^^ y) :: st) I J) : h_WW Γ G pc lo (.long y :: .long x :: st) I J := fun H locs ls a b c d => lv_lxor K.1 K.2.1 hdg (k H locs ls a b c d)
theorem x_idiv (K : h_C Γ G l nL cc Ts own fr lc) {x y : Int32} (hdg : decode cc pc = .ok (.idiv, 1)) (hne : ¬ y = 0) (k : h_WW Γ G (pc + 1) lo (.int (x / y) :: st) I J) : h_WW Γ G pc lo (.int y :: .int x :: st) I J := fun H locs ls a b c d => lv_idiv K.1 K.2.1 hdg hne (k H locs ls a b c d)
theorem x_irem (K : h_C Γ G l nL cc Ts own fr lc) {x y : Int32} (hdg : decode cc pc = .ok (.irem, 1)) (hne : ¬ y = 0) (k : h_WW Γ G (pc + 1) lo (.int (x - x / y * y) :: st) I J) : h_WW Γ G pc lo (.int y :: .int x :: st) I J := fun H locs ls a b c d => lv_irem K.1 K.2.1 hdg hne (k H locs ls a b c d)
theorem x_ldiv (K : h_C Γ G l nL cc Ts own fr lc) {x y : Int64} (hdg : decode cc pc = .ok (.ldiv, 1)) (hne : ¬ y = 0) (k : h_WW Γ G (pc + 1) lo (.long (x / y) :: st) I J) : h_WW Γ G pc lo (.long y :: .long x :: st) I J := fun H locs ls a b c d => lv_ldiv K.1 K.2.1 hdg hne (k H locs ls a b c d)
theorem x_lrem (K : h_C Γ G l nL cc Ts own fr lc) {x y : Int64} (hdg : decode cc pc = .ok (.lrem, 1)) (hne : ¬ y = 0) (k : h_WW Γ G (pc + 1) lo (.long (x - x / y * y) :: st) I J) : h_WW Γ G pc lo (.long y :: .long x :: st) I J := fun H locs ls a b c d => lv_lrem K.1 K.2.1 hdg hne (k H locs ls a b c d)
theorem x_ineg (K : h_C Γ G l nL cc Ts own fr lc) {x : Int32} (hdg : decode cc pc = .ok (.ineg, 1)) (k : h_WW Γ G (pc + 1) lo (.int (-x) :: st) I J) : h_WW Γ G pc lo (.int x :: st) I J := fun H locs ls a b c d => lv_ineg K.1 K.2.1 hdg (k H locs ls a b c d)
theorem x_lneg (K : h_C Γ G l nL cc Ts own fr lc) {x : Int64} (hdg : decode cc pc = .ok (.lneg, 1)) (k : h_WW Γ G (pc + 1) lo (.long (-x) :: st) I J) : h_WW Γ G pc lo (.long x :: st) I J := fun H locs ls a b c d => lv_lneg K.1 K.2.1 hdg (k H locs ls a b c d)
theorem x_iushr (K : h_C Γ G l nL cc Ts own fr lc) {x y v : Int32} (hdg : decode cc pc = .ok (.iushr, 1)) (hv : (x.toUInt32 >>> (y.toUInt32 &&& Int32.toUInt32 31)).toInt32 = v) (k : h_WW Γ G (pc + 1) lo (.int v :: st) I J) : h_WW Γ G pc lo (.int y :: .int x :: st) I J := fun H locs ls a b c d => lv_iushr K.1 K.2.1 hdg hv (k H locs ls a b c d)
theorem x_lcmp (K : h_C Γ G l nL cc Ts own fr lc) {x y : Int64} (hdg : decode cc pc = .ok (.lcmp, 1)) (k : h_WW Γ G (pc + 1) lo (.int (lg_cmp x y) :: st) I J) : h_WW Γ G pc lo (.long y :: .long x :: st) I J := fun H locs ls a b c d => W.lcmp K.1 K.2.1 hdg (k H locs ls a b c d)
theorem x_i2l (K : h_C Γ G l nL cc Ts own fr lc) {x : Int32} (hdg : decode cc pc = .ok (.i2l, 1)) (k : h_WW Γ G (pc + 1) lo (.long x.toInt64 :: st) I J) : h_WW Γ G pc lo (.int x :: st) I J := fun H locs ls a b c d => lv_i2l K.1 K.2.1 hdg rfl (k H locs ls a b c d)
theorem x_l2i (K : h_C Γ G l nL cc Ts own fr lc) {x : Int64} (hdg : decode cc pc = .ok (.l2i, 1)) (k : h_WW Γ G (pc + 1) lo (.int x.toInt32 :: st) I J) : h_WW Γ G pc lo (.long x :: st) I J := fun H locs ls a b c d => lv_l2i K.1 K.2.1 hdg rfl (k H locs ls a b c d)
theorem x_if_eq (K : h_C Γ G l nL cc Ts own fr lc) {x : Int32} {off : Int} {tgt : Nat} (hdg : decode cc pc = .ok (.ifCond .eq off, 3)) (ht : (pc : Int) + off = (tgt : Int)) (kt : x = 0 → h_WW Γ G tgt lo st I J) (kf : ¬ x = 0 → h_WW Γ G (pc + 3) lo st I J) : h_WW Γ G pc lo (.int x :: st) I J := fun H locs ls a b c d => lv_if_eq K.1 K.2.1 hdg ht (fun q => kt q H locs ls a b c d) (fun q => kf q H locs ls a b c d)
theorem x_icmp_eq (K : h_C Γ G l nL cc Ts own fr lc) {x y : Int32} {off : Int} {tgt : Nat} (hdg : decode cc pc = .ok (.if_icmp .eq off, 3)) (ht : (pc : Int) + off = (tgt : Int)) (kt : x = y → h_WW Γ G tgt lo st I J) (kf : ¬ x = y → h_WW Γ G (pc + 3) lo st I J) : h_WW Γ G pc lo (.int y :: .int x :: st) I J := fun H locs ls a b c d => lv_icmp_eq K.1 K.2.1 hdg ht (fun q => kt q H locs ls a b c d) (fun q => kf q H locs ls a b c d)
theorem x_if_ne (K : h_C Γ G l nL cc Ts own fr lc) {x : Int32} {off : Int} {tgt : Nat} (hdg : decode cc pc = .ok (.ifCond .ne off, 3)) (ht : (pc : Int) + off = (tgt : Int)) (kt : ¬ x = 0 → h_WW Γ G tgt lo st I J) (kf : x = 0 → h_WW Γ G (pc + 3) lo st I J) : h_WW Γ G pc lo (.int x :: st) I J := fun H locs ls a b c d => lv_if_ne K.1 K.2.1 hdg ht (fun q => kt q H locs ls a b c d) (fun q => kf q H locs ls a b c d)
theorem x_icmp_ne (K : h_C Γ G l nL cc Ts own fr lc) {x y : Int32} {off : Int} {tgt : Nat} (hdg : decode cc pc = .ok (.if_icmp .ne off, 3)) (ht : (pc : Int) + off = (tgt : Int)) (kt : ¬ x = y → h_WW Γ G tgt lo st I J) (kf : x = y → h_WW Γ G (pc + 3) lo st I J) : h_WW Γ G pc lo (.int y :: .int x :: st) I J := fun H locs ls a b c d => lv_icmp_ne K.1 K.2.1 hdg ht (fun q => kt q H locs ls a b c d) (fun q => kf q H locs ls a b c d)
theorem x_if_lt (K : h_C Γ G l nL cc Ts own fr lc) {x : Int32} {off : Int} {tgt : Nat} (hdg : decode cc pc = .ok (.ifCond .lt off, 3)) (ht : (pc : Int) + off = (tgt : Int)) (kt : x < 0 → h_WW Γ G tgt lo st I J) (kf : ¬ x < 0 → h_WW Γ G (pc + 3) lo st I J) : h_WW Γ G pc lo (.int x :: st) I J := fun H locs ls a b c d => lv_if_lt K.1 K.2.1 hdg ht (fun q => kt q H locs ls a b c d) (fun q => kf q H locs ls a b c d)
theorem x_icmp_lt (K : h_C Γ G l nL cc Ts own fr lc) {x y : Int32} {off : Int} {tgt : Nat} (hdg : decode cc pc = .ok (.if_icmp .lt off, 3)) (ht : (pc : Int) + off = (tgt : Int)) (kt : x < y → h_WW Γ G tgt lo st I J) (kf : ¬ x < y → h_WW Γ G (pc + 3) lo st I J) : h_WW Γ G pc lo (.int y :: .int x :: st) I J := fun H locs ls a b c d => lv_icmp_lt K.1 K.2.1 hdg ht (fun q => kt q H locs ls a b c d) (fun q => kf q H locs ls a b c d)
theorem x_if_ge (K : h_C Γ G l nL cc Ts own fr lc) {x : Int32} {off : Int} {tgt : Nat} (hdg : decode cc pc = .ok (.ifCond .ge off, 3)) (ht : (pc : Int) + off = (tgt : Int)) (kt : 0 ≤ x → h_WW Γ G tgt lo st I J) (kf : ¬ 0 ≤ x → h_WW Γ G (pc + 3) lo st I J) : h_WW Γ G pc lo (.int x :: st) I J := fun H locs ls a b c d => lv_if_ge K.1 K.2.1 hdg ht (fun q => kt q H locs ls a b c d) (fun q => kf q H locs ls a b c d)
theorem x_icmp_ge (K : h_C Γ G l nL cc Ts own fr lc) {x y : Int32} {off : Int} {tgt : Nat} (hdg : decode cc pc = .ok (.if_icmp .ge off, 3)) (ht : (pc : Int) + off = (tgt : Int)) (kt : y ≤ x → h_WW Γ G tgt lo st I J) (kf : ¬ y ≤ x → h_WW Γ G (pc + 3) lo st I J) : h_WW Γ G pc lo (.int y :: .int x :: st) I J := fun H locs ls a b c d => lv_icmp_ge K.1 K.2.1 hdg ht (fun q => kt q H locs ls a b c d) (fun q => kf q H locs ls a b c d)
theorem x_if_gt (K : h_C Γ G l nL cc Ts own fr lc) {x : Int32} {off : Int} {tgt : Nat} (hdg : decode cc pc = .ok (.ifCond .gt off, 3)) (ht : (pc : Int) + off = (tgt : Int)) (kt : 0 < x → h_WW Γ G tgt lo st I J) (kf : ¬ 0 < x → h_WW Γ G (pc + 3) lo st I J) : h_WW Γ G pc lo (.int x :: st) I J := fun H locs ls a b c d => lv_if_gt K.1 K.2.1 hdg ht (fun q => kt q H locs ls a b c d) (fun q => kf q H locs ls a b c d)
theorem x_icmp_gt (K : h_C Γ G l nL cc Ts own fr lc) {x y : Int32} {off : Int} {tgt : Nat} (hdg : decode cc pc = .ok (.if_icmp .gt off, 3)) (ht : (pc : Int) + off = (tgt : Int)) (kt : y < x → h_WW Γ G tgt lo st I J) (kf : ¬ y < x → h_WW Γ G (pc + 3) lo st I J) : h_WW Γ G pc lo (.int y :: .int x :: st) I J := fun H locs ls a b c d => lv_icmp_gt K.1 K.2.1 hdg ht (fun q => kt q H locs ls a b c d) (fun q => kf q H locs ls a b c d)
theorem x_if_le (K : h_C Γ G l nL cc Ts own fr lc) {x : Int32} {off : Int} {tgt : Nat} (hdg : decode cc pc = .ok (.ifCond .le off, 3)) (ht : (pc : Int) + off = (tgt : Int)) (kt : x ≤ 0 → h_WW Γ G tgt lo st I J) (kf : ¬ x ≤ 0 → h_WW Γ G (pc + 3) lo st I J) : h_WW Γ G pc lo (.int x :: st) I J := fun H locs ls a b c d => lv_if_le K.1 K.2.1 hdg ht (fun q => kt q H locs ls a b c d) (fun q => kf q H locs ls a b c d)
theorem x_icmp_le (K : h_C Γ G l nL cc Ts own fr lc) {x y : Int32} {off : Int} {tgt : Nat} (hdg : decode cc pc = .ok (.if_icmp .le off, 3)) (ht : (pc : Int) + off = (tgt : Int)) (kt : x ≤ y → h_WW Γ G tgt lo st I J) (kf : ¬ x ≤ y → h_WW Γ G (pc + 3) lo st I J) : h_WW Γ G pc lo (.int y :: .int x :: st) I J := fun H locs ls a b c d => lv_icmp_le K.1 K.2.1 hdg ht (fun q => kt q H locs ls a b c d) (fun q => kf q H locs ls a b c d)
theorem x_goto (K : h_C Γ G l nL cc Ts own fr lc) {off : Int} {tgt : Nat} (hdg : decode cc pc = .ok (.goto off, 3)) (ht : (pc : Int) + off = (tgt : Int)) (k : h_WW Γ G tgt lo st I J) : h_WW Γ G pc lo st I J := fun H locs ls a b c d => lv_goto K.1 K.2.1 hdg ht (k H locs ls a b c d)
theorem x_tableIn (K : h_C Γ G l nL cc Ts own fr lc) {dflt lo1 hi : Int} {offs : Array Int} {len : Nat} {x : Int32} {off : Int} {tgt : Nat} (hdg : decode cc pc = .ok (.tableswitch dflt lo1 hi offs, len)) (h1 : ¬ x.toInt < lo1) (h2 : ¬ hi < x.toInt) (ho : offs[(x.toInt - lo1).toNat]? = some off) (ht : (pc : Int) + off = (tgt : Int)) (k : h_WW Γ G tgt lo st I J) : h_WW Γ G pc lo (.int x :: st) I J := fun H locs ls a b c d => lv_tableIn K.1 K.2.1 hdg h1 h2 ho ht (k H locs ls a b c d)
theorem x_tableOut (K : h_C Γ G l nL cc Ts own fr lc) {dflt lo1 hi : Int} {offs : Array Int} {len : Nat} {x : Int32} {tgt : Nat} (hdg : decode cc pc = .ok (.tableswitch dflt lo1 hi offs, len)) (h : x.toInt < lo1 ∨ hi < x.toInt) (ht : (pc : Int) + dflt = (tgt : Int)) (k : h_WW Γ G tgt lo st I J) : h_WW Γ G pc lo (.int x :: st) I J := fun H locs ls a b c d => lv_tableOut K.1 K.2.1 hdg h ht (k H locs ls a b c d)
theorem x_lookup (K : h_C Γ G l nL cc Ts own fr lc) {dflt : Int} {ps : Array (Int × Int)} {len : Nat} {x : Int32} {off : Int} {tgt : Nat} (hdg : decode cc pc = .ok (.lookupswitch dflt ps, len)) (hp : (ps.toList.zip (ps.toList.drop 1)).all (fun (a, next) => a.1 < next.1) = true) (ho : Op.lookupswitch.offset ps.toList dflt x.toInt = off) (ht : (pc : Int) + off = (tgt : Int)) (k : h_WW Γ G tgt lo st I J) : h_WW Γ G pc lo (.int x :: st) I J := fun H locs ls a b c d => lv_lookup K.1 K.2.1 hdg hp ho ht (k H locs ls a b c d)
theorem x_dup (K : h_C Γ G l nL cc Ts own fr lc) {v : Value} (hdg : decode cc pc = .ok (.dup, 1)) (hv : v.category = 1) (k : h_WW Γ G (pc + 1) lo (v :: v :: st) I J) : h_WW Γ G pc lo (v :: st) I J := fun H locs ls a b c d => lv_dup K.1 K.2.1 hdg hv (k H locs ls a b c d)
theorem x_dup2 (K : h_C Γ G l nL cc Ts own fr lc) {va vb : Value} (hdg : decode cc pc = .ok (.dup2, 1)) (ha : va.category = 1) (hb : vb.category = 1) (k : h_WW Γ G (pc + 1) lo (va :: vb :: va :: vb :: st) I J) : h_WW Γ G pc lo (va :: vb :: st) I J := fun H locs ls a b c d => lv_dup2_11 K.1 K.2.1 hdg ha hb (k H locs ls a b c d)
theorem x_geti (K : h_C Γ G l nL cc Ts own fr lc) {k0 j0 ci : Nat} {ks : List Nat} {C ref : String} {T : u_T} {N index : Nat} (hk : k0 < 91) (hs : h_sh k0 = .inl (ci, ks)) (hc : vwCl[ci]? = some (C, T, N)) (hin : ∀ w ∈ u_ws C T N, w ∈ Ts) (hjN : j0 < N) (hlink : Cond.fieldLink own index ref (T j0).2.1 (T j0).2.2.1 ∈ Ts) (href : (T j0).1 = ref) (hj : ks[j0]? = some 0) (hdg : decode cc pc = .ok (.getfield index, 3)) (kk : h_WW Γ G (pc + 3) lo (.int (I k0 j0) :: st) I J) : h_WW Γ G pc lo (rr G k0 :: st) I J := fun H locs ls a b c d => va_get (v := .int (I k0 j0)) K.1 K.2.1 K.2.2.2.2.1 hin K.2.2.2.1 K.2.2.2.2.2.1 a k0 (h_W_o hk hs) hc j0 hjN (K.2.2.2.2.1 _ hlink) (fun _ h9 => by rw [← href]; exact h9) (by rw [h_flds_at hj]; rfl) hdg (kk H locs ls a b c d)
theorem x_getl (K : h_C Γ G l nL cc Ts own fr lc) {k0 j0 ci : Nat} {ks : List Nat} {C ref : String} {T : u_T} {N index : Nat} (hk : k0 < 91) (hs : h_sh k0 = .inl (ci, ks)) (hc : vwCl[ci]? = some (C, T, N)) (hin : ∀ w ∈ u_ws C T N, w ∈ Ts) (hjN : j0 < N) (hlink : Cond.fieldLink own index ref (T j0).2.1 (T j0).2.2.1 ∈ Ts) (href : (T j0).1 = ref) (hj : ks[j0]? = some 1) (hdg : decode cc pc = .ok (.getfield index, 3)) (kk : h_WW Γ G (pc + 3) lo (.long (J k0 j0) :: st) I J) : h_WW Γ G pc lo (rr G k0 :: st) I J := fun H locs ls a b c d => va_get (v := .long (J k0 j0)) K.1 K.2.1 K.2.2.2.2.1 hin K.2.2.2.1 K.2.2.2.2.2.1 a k0 (h_W_o hk hs) hc j0 hjN (K.2.2.2.2.1 _ hlink) (fun _ h9 => by rw [← href]; exact h9) (by rw [h_flds_at hj]; rfl) hdg (kk H locs ls a b c d)
theorem x_getr (K : h_C Γ G l nL cc Ts own fr lc) {k0 j0 ci : Nat} {ks : List Nat} {C ref : String} {T : u_T} {N index : Nat} (hk : k0 < 91) (hs : h_sh k0 = .inl (ci, ks)) (hc : vwCl[ci]? = some (C, T, N)) (hin : ∀ w ∈ u_ws C T N, w ∈ Ts) (hjN : j0 < N) (hlink : Cond.fieldLink own index ref (T j0).2.1 (T j0).2.2.1 ∈ Ts) (href : (T j0).1 = ref) {r0 : Nat} (hj : ks[j0]? = some 2) (hr : h_rf k0 j0 = r0) (hdg : decode cc pc = .ok (.getfield index, 3)) (kk : h_WW Γ G (pc + 3) lo (rr G r0 :: st) I J) : h_WW Γ G pc lo (rr G k0 :: st) I J := fun H locs ls a b c d => va_get (v := rr G r0) K.1 K.2.1 K.2.2.2.2.1 hin K.2.2.2.1 K.2.2.2.2.2.1 a k0 (h_W_o hk hs) hc j0 hjN (K.2.2.2.2.1 _ hlink) (fun _ h9 => by rw [← href]; exact h9) (by rw [h_flds_at hj, ← hr]; rfl) hdg (kk H locs ls a b c d)
theorem x_puti (K : h_C Γ G l nL cc Ts own fr lc) {k0 j0 ci : Nat} {ks : List Nat} {C ref : String} {T : u_T} {N index : Nat} (hk : k0 < 91) (hs : h_sh k0 = .inl (ci, ks)) (hc : vwCl[ci]? = some (C, T, N)) (hin : ∀ w ∈ u_ws C T N, w ∈ Ts) (hjN : j0 < N) (hlink : Cond.fieldLink own index ref (T j0).2.1 (T j0).2.2.1 ∈ Ts) (href : (T j0).1 = ref) {v : Int32} {ty : FieldType} (ty0 : Nat → FieldType) (hty : ∀ k, k < N → parseFieldDescriptor (T k).2.2.1 = some (ty0 k)) (hnm : ∀ a, a < N → ∀ b, b < N → a ≠ b → (T a).2.1 ≠ (T b).2.1) (hfin : (T j0).2.2.2 = false) (hd : parseFieldDescriptor (T j0).2.2.1 = some ty) (hn : narrow ty (.int v) = .int v) (hfit : fits ty (.int v) = true) (hj : ks[j0]? = some 0) (hdg : decode cc pc = .ok (.putfield index, 3)) (kk : h_WW Γ G (pc + 3) lo st (h_up I k0 j0 v) J) : h_WW Γ G pc lo (.int v :: rr G k0 :: st) I J := fun H locs ls a b c d => va_put (v := .int v) (ty := ty) K.1 K.2.1 K.2.2.2.2.1 hin ty0 hty hnm K.2.2.2.1 K.2.2.2.2.2.1 a b c k0 (h_W_o hk hs) hc j0 hjN (K.2.2.2.2.1 _ hlink) (fun _ h9 => by rw [← href]; exact h9) hfin hd hn hfit (by rw [h_flds_len]; exact (List.getElem?_eq_some_iff.mp hj).1) hdg (fun H1 locs1 a1 b1 c1 => kk H1 locs1 ls (h_W_up_o hk hs hj ▸ a1) (h_W_up_o hk hs hj ▸ b1) c1 d)
theorem x_putl (K : h_C Γ G l nL cc Ts own fr lc) {k0 j0 ci : Nat} {ks : List Nat} {C ref : String} {T : u_T} {N index : Nat} (hk : k0 < 91) (hs : h_sh k0 = .inl (ci, ks)) (hc : vwCl[ci]? = some (C, T, N)) (hin : ∀ w ∈ u_ws C T N, w ∈ Ts) (hjN : j0 < N) (hlink : Cond.fieldLink own index ref (T j0).2.1 (T j0).2.2.1 ∈ Ts) (href : (T j0).1 = ref) {v : Int64} {ty : FieldType} (ty0 : Nat → FieldType) (hty : ∀ k, k < N → parseFieldDescriptor (T k).2.2.1 = some (ty0 k)) (hnm : ∀ a, a < N → ∀ b, b < N → a ≠ b → (T a).2.1 ≠ (T b).2.1) (hfin : (T j0).2.2.2 = false) (hd : parseFieldDescriptor (T j0).2.2.1 = some ty) (hn : narrow ty (.long v) = .long v) (hfit : fits ty (.long v) = true) (hj : ks[j0]? = some 1) (hdg : decode cc pc = .ok (.putfield index, 3)) (kk : h_WW Γ G (pc + 3) lo st I (h_upL J k0 j0 v)) : h_WW Γ G pc lo (.long v :: rr G k0 :: st) I J := fun H locs ls a b c d => va_put (v := .long v) (ty := ty) K.1 K.2.1 K.2.2.2.2.1 hin ty0 hty hnm K.2.2.2.1 K.2.2.2.2.2.1 a b c k0 (h_W_o hk hs) hc j0 hjN (K.2.2.2.2.1 _ hlink) (fun _ h9 => by rw [← href]; exact h9) hfin hd hn hfit (by rw [h_flds_len]; exact (List.getElem?_eq_some_iff.mp hj).1) hdg (fun H1 locs1 a1 b1 c1 => kk H1 locs1 ls (h_W_upL_o hk hs hj ▸ a1) (h_W_upL_o hk hs hj ▸ b1) c1 d)
theorem x_getiN (K : h_C Γ G l nL cc Ts own fr lc) {host : String} {k0 j0 ci : Nat} {ks : List Nat} {C ref : String} {T : u_T} {N index : Nat} (hk : k0 < 91) (hs : h_sh k0 = .inl (ci, ks)) (hc : vwCl[ci]? = some (C, T, N)) (hin : ∀ w ∈ u_ws C T N, w ∈ Ts) (hjN : j0 < N) (hlink : Cond.fieldLinkNest own index ref (T j0).2.1 (T j0).2.2.1 host ∈ Ts) (href : (T j0).1 = ref) (hj : ks[j0]? = some 0) (hdg : decode cc pc = .ok (.getfield index, 3)) (kk : h_WW Γ G (pc + 3) lo (.int (I k0 j0) :: st) I J) : h_WW Γ G pc lo (rr G k0 :: st) I J := fun H locs ls a b c d => va_getN (v := .int (I k0 j0)) K.1 K.2.1 K.2.2.2.2.1 hin K.2.2.2.1 K.2.2.2.2.2.1 a k0 (h_W_o hk hs) hc j0 hjN (K.2.2.2.2.1 _ hlink) (fun _ h9 => by rw [← href]; exact h9) (by rw [h_flds_at hj]; rfl) hdg (kk H locs ls a b c d)
theorem x_getlN (K : h_C Γ G l nL cc Ts own fr lc) {host : String} {k0 j0 ci : Nat} {ks : List Nat} {C ref : String} {T : u_T} {N index : Nat} (hk : k0 < 91) (hs : h_sh k0 = .inl (ci, ks)) (hc : vwCl[ci]? = some (C, T, N)) (hin : ∀ w ∈ u_ws C T N, w ∈ Ts) (hjN : j0 < N) (hlink : Cond.fieldLinkNest own index ref (T j0).2.1 (T j0).2.2.1 host ∈ Ts) (href : (T j0).1 = ref) (hj : ks[j0]? = some 1) (hdg : decode cc pc = .ok (.getfield index, 3)) (kk : h_WW Γ G (pc + 3) lo (.long (J k0 j0) :: st) I J) : h_WW Γ G pc lo (rr G k0 :: st) I J := fun H locs ls a b c d => va_getN (v := .long (J k0 j0)) K.1 K.2.1 K.2.2.2.2.1 hin K.2.2.2.1 K.2.2.2.2.2.1 a k0 (h_W_o hk hs) hc j0 hjN (K.2.2.2.2.1 _ hlink) (fun _ h9 => by rw [← href]; exact h9) (by rw [h_flds_at hj]; rfl) hdg (kk H locs ls a b c d)
theorem x_getrN (K : h_C Γ G l nL cc Ts own fr lc) {host : String} {k0 j0 ci : Nat} {ks : List Nat} {C ref : String} {T : u_T} {N index : Nat} (hk : k0 < 91) (hs : h_sh k0 = .inl (ci, ks)) (hc : vwCl[ci]? = some (C, T, N)) (hin : ∀ w ∈ u_ws C T N, w ∈ Ts) (hjN : j0 < N) (hlink : Cond.fieldLinkNest own index ref (T j0).2.1 (T j0).2.2.1 host ∈ Ts) (href : (T j0).1 = ref) {r0 : Nat} (hj : ks[j0]? = some 2) (hr : h_rf k0 j0 = r0) (hdg : decode cc pc = .ok (.getfield index, 3)) (kk : h_WW Γ G (pc + 3) lo (rr G r0 :: st) I J) : h_WW Γ G pc lo (rr G k0 :: st) I J := fun H locs ls a b c d => va_getN (v := rr G r0) K.1 K.2.1 K.2.2.2.2.1 hin K.2.2.2.1 K.2.2.2.2.2.1 a k0 (h_W_o hk hs) hc j0 hjN (K.2.2.2.2.1 _ hlink) (fun _ h9 => by rw [← href]; exact h9) (by rw [h_flds_at hj, ← hr]; rfl) hdg (kk H locs ls a b c d)
theorem x_putiN (K : h_C Γ G l nL cc Ts own fr lc) {host : String} {k0 j0 ci : Nat} {ks : List Nat} {C ref : String} {T : u_T} {N index : Nat} (hk : k0 < 91) (hs : h_sh k0 = .inl (ci, ks)) (hc : vwCl[ci]? = some (C, T, N)) (hin : ∀ w ∈ u_ws C T N, w ∈ Ts) (hjN : j0 < N) (hlink : Cond.fieldLinkNest own index ref (T j0).2.1 (T j0).2.2.1 host ∈ Ts) (href : (T j0).1 = ref) {v : Int32} {ty : FieldType} (ty0 : Nat → FieldType) (hty : ∀ k, k < N → parseFieldDescriptor (T k).2.2.1 = some (ty0 k)) (hnm : ∀ a, a < N → ∀ b, b < N → a ≠ b → (T a).2.1 ≠ (T b).2.1) (hfin : (T j0).2.2.2 = false) (hd : parseFieldDescriptor (T j0).2.2.1 = some ty) (hn : narrow ty (.int v) = .int v) (hfit : fits ty (.int v) = true) (hj : ks[j0]? = some 0) (hdg : decode cc pc = .ok (.putfield index, 3)) (kk : h_WW Γ G (pc + 3) lo st (h_up I k0 j0 v) J) : h_WW Γ G pc lo (.int v :: rr G k0 :: st) I J := fun H locs ls a b c d => va_putN (v := .int v) (ty := ty) K.1 K.2.1 K.2.2.2.2.1 hin ty0 hty hnm K.2.2.2.1 K.2.2.2.2.2.1 a b c k0 (h_W_o hk hs) hc j0 hjN (K.2.2.2.2.1 _ hlink) (fun _ h9 => by rw [← href]; exact h9) hfin hd hn hfit (by rw [h_flds_len]; exact (List.getElem?_eq_some_iff.mp hj).1) hdg (fun H1 locs1 a1 b1 c1 => kk H1 locs1 ls (h_W_up_o hk hs hj ▸ a1) (h_W_up_o hk hs hj ▸ b1) c1 d)
theorem x_putlN (K : h_C Γ G l nL cc Ts own fr lc) {host : String} {k0 j0 ci : Nat} {ks : List Nat} {C ref : String} {T : u_T} {N index : Nat} (hk : k0 < 91) (hs : h_sh k0 = .inl (ci, ks)) (hc : vwCl[ci]? = some (C, T, N)) (hin : ∀ w ∈ u_ws C T N, w ∈ Ts) (hjN : j0 < N) (hlink : Cond.fieldLinkNest own index ref (T j0).2.1 (T j0).2.2.1 host ∈ Ts) (href : (T j0).1 = ref) {v : Int64} {ty : FieldType} (ty0 : Nat → FieldType) (hty : ∀ k, k < N → parseFieldDescriptor (T k).2.2.1 = some (ty0 k)) (hnm : ∀ a, a < N → ∀ b, b < N → a ≠ b → (T a).2.1 ≠ (T b).2.1) (hfin : (T j0).2.2.2 = false) (hd : parseFieldDescriptor (T j0).2.2.1 = some ty) (hn : narrow ty (.long v) = .long v) (hfit : fits ty (.long v) = true) (hj : ks[j0]? = some 1) (hdg : decode cc pc = .ok (.putfield index, 3)) (kk : h_WW Γ G (pc + 3) lo st I (h_upL J k0 j0 v)) : h_WW Γ G pc lo (.long v :: rr G k0 :: st) I J := fun H locs ls a b c d => va_putN (v := .long v) (ty := ty) K.1 K.2.1 K.2.2.2.2.1 hin ty0 hty hnm K.2.2.2.1 K.2.2.2.2.2.1 a b c k0 (h_W_o hk hs) hc j0 hjN (K.2.2.2.2.1 _ hlink) (fun _ h9 => by rw [← href]; exact h9) hfin hd hn hfit (by rw [h_flds_len]; exact (List.getElem?_eq_some_iff.mp hj).1) hdg (fun H1 locs1 a1 b1 c1 => kk H1 locs1 ls (h_W_upL_o hk hs hj ▸ a1) (h_W_upL_o hk hs hj ▸ b1) c1 d)
theorem x_iald (K : h_C Γ G l nL cc Ts own fr lc) {k0 n : Nat} {i : Int32} (hk : k0 < 91) (hs : h_sh k0 = .inr (0, n)) (hin : vp_in i n) (hdg : decode cc pc = .ok (.iaload, 1)) (kk : h_WW Γ G (pc + 1) lo (.int (I k0 i.toNatClampNeg) :: st) I J) : h_WW Γ G pc lo (.int i :: rr G k0 :: st) I J := fun H locs ls a b c d => va_iald K.1 K.2.1 K.2.2.2.2.2.1 a k0 0 (h_W_i hk hs) rfl hin hdg (kk H locs ls a b c d)
theorem x_zald (K : h_C Γ G l nL cc Ts own fr lc) {k0 n : Nat} {i : Int32} (hk : k0 < 91) (hs : h_sh k0 = .inr (3, n)) (hin : vp_in i n) (hdg : decode cc pc = .ok (.baload, 1)) (kk : h_WW Γ G (pc + 1) lo (.int (I k0 i.toNatClampNeg) :: st) I J) : h_WW Γ G pc lo (.int i :: rr G k0 :: st) I J := fun H locs ls a b c d => va_zald K.1 K.2.1 K.2.2.2.2.2.1 a k0 3 (h_W_z hk hs) rfl hin hdg (kk H locs ls a b c d)
theorem x_lald (K : h_C Γ G l nL cc Ts own fr lc) {k0 n : Nat} {i : Int32} (hk : k0 < 91) (hs : h_sh k0 = .inr (1, n)) (hin : vp_in i n) (hdg : decode cc pc = .ok (.laload, 1)) (kk : h_WW Γ G (pc + 1) lo (.long (J k0 i.toNatClampNeg) :: st) I J) : h_WW Γ G pc lo (.int i :: rr G k0 :: st) I J := fun H locs ls a b c d => va_lald K.1 K.2.1 K.2.2.2.2.2.1 a k0 1 (h_W_l hk hs) rfl hin hdg (kk H locs ls a b c d)
theorem x_aald (K : h_C Γ G l nL cc Ts own fr lc) {k0 n r0 : Nat} {i : Int32} (hk : k0 < 91) (hs : h_sh k0 = .inr (2, n)) (hin : vp_in i n) (hr : h_rf k0 i.toNatClampNeg = r0) (hdg : decode cc pc = .ok (.aaload, 1)) (kk : h_WW Γ G (pc + 1) lo (rr G r0 :: st) I J) : h_WW Γ G pc lo (.int i :: rr G k0 :: st) I J := fun H locs ls a b c d => by
  have hlt : i.toNatClampNeg < n := Nat.not_le.mp fun q => hin (Or.inr q)
  exact W.aald (v := rr G r0) (ty := .array .int) K.1 K.2.1 (a k0 _ (h_W_q hk hs)) ((K.2.2.2.2.2.1.2 2 _ rfl).1 n (fun j => va_rf (some (G.2.2 (h_rf k0 j))))) rfl (fun q => by cases q) (by show ¬ (i < 0 ∨ (arrV _ _ _).slots.size ≤ _); rw [arrV_size]; exact hin) (by show (arrV _ _ _).slots[_]? = _; rw [arrV_read _ _ hlt, ← hr]; rfl) rfl rfl hdg (kk H locs ls a b c d)
theorem x_iast (K : h_C Γ G l nL cc Ts own fr lc) {k0 n : Nat} {i x : Int32} (hk : k0 < 91) (hs : h_sh k0 = .inr (0, n)) (hin : vp_in i n) (hdg : decode cc pc = .ok (.iastore, 1)) (kk : h_WW Γ G (pc + 1) lo st (h_up I k0 i.toNatClampNeg x) J) : h_WW Γ G pc lo (.int x :: .int i :: rr G k0 :: st) I J := fun H locs ls a b c d => va_iast K.1 K.2.1 K.2.2.2.2.2.1 a b c k0 0 (h_W_i hk hs) rfl hin hdg (fun H1 locs1 a1 b1 c1 => kk H1 locs1 ls (h_W_up_i hk hs ▸ a1) (h_W_up_i hk hs ▸ b1) c1 d)
theorem x_last (K : h_C Γ G l nL cc Ts own fr lc) {k0 n : Nat} {i : Int32} {x : Int64} (hk : k0 < 91) (hs : h_sh k0 = .inr (1, n)) (hin : vp_in i n) (hdg : decode cc pc = .ok (.lastore, 1)) (kk : h_WW Γ G (pc + 1) lo st I (h_upL J k0 i.toNatClampNeg x)) : h_WW Γ G pc lo (.long x :: .int i :: rr G k0 :: st) I J := fun H locs ls a b c d => va_last K.1 K.2.1 K.2.2.2.2.2.1 a b c k0 1 (h_W_l hk hs) rfl hin hdg (fun H1 locs1 a1 b1 c1 => kk H1 locs1 ls (h_W_up_l hk hs ▸ a1) (h_W_up_l hk hs ▸ b1) c1 d)
theorem x_alen (K : h_C Γ G l nL cc Ts own fr lc) {k0 κ n : Nat} {v : Int32} {ty : FieldType} (hk : k0 < 91) (hs : h_sh k0 = .inr (κ, n)) (hn : (h_arr G I J k0 κ n).1 = n) (hv : Int32.ofNat n = v) (ht : (h_ty G)[κ]? = some (G.2.1 κ, ty)) (hdg : decode cc pc = .ok (.arraylength, 1)) (kk : h_WW Γ G (pc + 1) lo (.int v :: st) I J) : h_WW Γ G pc lo (rr G k0 :: st) I J := fun H locs ls a b c d => va_alen K.1 K.2.1 K.2.2.2.2.2.1 a k0 κ (h_W_a hk hs) ht (by rw [hn]; exact hv) hdg (kk H locs ls a b c d)
end HL
end
section
/-! CONTRACTS over the static heap, their entry, and calls -/
def h_A (G : hQ) (sz : Nat) : Nat → Prop := fun q => (∃ k : Nat, k < 91 ∧ q = G.2.2 k) ∨ sz ≤ q
def h_Pre (G : hQ) (I : hI) (J : hJ) (sz : Nat) : State → Prop := fun U => U.heap.size = sz ∧ va_P G.1 vwCl (h_W G I J) U.heap ∧ va_K G.1 vwCl (h_ty G) U ∧ va_D (fun _ => True) (h_W G I J)
def h_B (G : hQ) (A : Nat → Prop) (u : hI × hJ) (t : State) : Prop := va_P G.1 vwCl (h_W G u.1 u.2) t.heap ∧ va_K G.1 vwCl (h_ty G) t ∧ va_D A (h_W G u.1 u.2)
abbrev h_rm (fr lc : Nat) : Room := { frames := fr, cells := 0, slots := 0, locals := lc }
def h_Mi (l : Launch) (y : MethodName) (ws : List Cond) (fr lc : Nat) (G : hQ) (avs : List Value) (I : hI) (J : hJ) (post : Int32 → hI → hJ → Prop) : Prop := ∀ sz : Nat, Met l y ws (h_rm fr lc) (va_Pc avs (h_Pre G I J sz)) (va_Qi (fun r (u : hI × hJ) => post r u.1 u.2) (h_B G (h_A G sz)) (h_A G sz)) 0 0 (h_A G sz)
def h_Ml (l : Launch) (y : MethodName) (ws : List Cond) (fr lc : Nat) (G : hQ) (avs : List Value) (I : hI) (J : hJ) (post : Int64 → hI → hJ → Prop) : Prop := ∀ sz : Nat, Met l y ws (h_rm fr lc) (va_Pc avs (h_Pre G I J sz)) (va_Ql (fun r (u : hI × hJ) => post r u.1 u.2) (h_B G (h_A G sz)) (h_A G sz)) 0 0 (h_A G sz)
def h_Mv (l : Launch) (y : MethodName) (ws : List Cond) (fr lc : Nat) (G : hQ) (avs : List Value) (I : hI) (J : hJ) (post : hI → hJ → Prop) : Prop := ∀ sz : Nat, Met l y ws (h_rm fr lc) (va_Pc avs (h_Pre G I J sz)) (va_Qv (fun (u : hI × hJ) => post u.1 u.2) (h_B G (h_A G sz)) (h_A G sz)) 0 0 (h_A G sz)
def h_Mr (l : Launch) (y : MethodName) (ws : List Cond) (fr lc : Nat) (G : hQ) (avs : List Value) (I : hI) (J : hJ) (post : Nat → hI → hJ → Prop) : Prop := ∀ sz : Nat, Met l y ws (h_rm fr lc) (va_Pc avs (h_Pre G I J sz)) (va_Qr (fun (u : Nat × hI × hJ) => post u.1 u.2.1 u.2.2) (fun u a t => a = G.2.2 u.1 ∧ h_B G (h_A G sz) u.2 t) (h_A G sz)) 0 0 (h_A G sz)
theorem h_A_of {G : hQ} {I : hI} {J : hJ} {A : Nat → Prop} {H0 H : Heap} {locs : List Loc} (hD : va_D A (h_W G I J)) (hS : va_S A H0 H locs) (hA : ∀ q, H0.size ≤ q → A q) : ∀ q, h_A G H.size q → A q := by
  intro q h
  rcases h with ⟨k, hk, rfl⟩ | h
  · exact hD.2 k _ (h_W_at hk)
  · exact hA q (Nat.le_trans hS.1 h)
theorem h_D_A {G : hQ} {I : hI} {J : hJ} {A : Nat → Prop} {sz : Nat} (hD : va_D A (h_W G I J)) : va_D (h_A G sz) (h_W G I J) := by
  refine ⟨hD.1, fun k q hk => ?_⟩
  have hl : k < 91 := by
    have := (List.getElem?_eq_some_iff.mp hk).1
    simpa [h_W] using this
  rw [h_W_at hl] at hk
  cases hk
  exact Or.inl ⟨k, hl, rfl⟩
theorem h_blind {G : hQ} {I : hI} {J : hJ} {sz : Nat} {avs : List Value} : FrameBlind (va_Pc avs (h_Pre G I J sz)) := fun a U g mk q => by
  obtain ⟨q0, q1, qP, qK, qD⟩ := q
  exact ⟨q0, q1, qP, va_K.moved (u := U) (U := U.calling g mk a) (Vm.Alike.refl U.vm) qK, qD⟩

set_option maxHeartbeats 1000000 in
theorem h_Mi.of {l : Launch} {y : MethodName} {ws ws' : List Cond} {fr lc : Nat} {G : hQ} {avs : List Value} {I : hI} {J : hJ} {post : Int32 → hI → hJ → Prop} {cc : ByteArray} {maxL : Nat} {ty : FieldType} (lo0 : List (Nat × Value)) (hy : plainName y.cls = true) (hw : ws = Cond.code y cc maxL (some ty) :: ws') (hlen : (lg_sl avs).length ≤ maxL) (hlo : lv_args 0 avs = lo0)
    (k : ∀ Γ : hG, h_C Γ G l maxL cc ws y.cls fr lc → (∀ {pc : Nat} {lo : List (Nat × Value)} {r : Int32} {I' : hI} {J' : hJ}, decode cc pc = .ok (.ireturn, 1) → post r I' J' → narrow ty (.int r) = .int r → h_WW Γ G pc lo [.int r] I' J') → h_WW Γ G 0 lo0 [] I J) : h_Mi l y ws fr lc G avs I J post := by
  intro sz
  refine Met.ofW (cc := cc) (maxL := maxL) (ret := some ty) hy hw ?_
  intro p e s m args below meth c s₁ B hml hv
  obtain ⟨rfl, hsz, hP, hK, hD0⟩ := hv
  have hown : s.vm.findClass y.cls = some m.cls := findClass_of_methodNamed B.named
  subst hsz
  have hD : va_D (h_A G s.heap.size) (h_W G I J) := h_D_A hD0
  have hA : ∀ q : Nat, s.heap.size ≤ q → h_A G s.heap.size q := fun q h => Or.inr h
  have hl := lv_entry avs (n := maxL) hlen
  rw [hlo] at hl
  rw [lg_entry_eq]
  generalize (lg_sl avs ++ List.replicate (maxL - (lg_sl avs).length) Slot.unset).toArray = ls at hl ⊢
  have hr := B.returns
  have hlk := B.notSynchronized
  generalize hqe : MQ below _ avs.toArray s 0 0 (h_A G s.heap.size) = Q
  have key := k (p, l, e, h_rm fr lc, s, m, avs.toArray, below, meth, c, Q, h_A G s.heap.size, maxL, 0, 0) ⟨B.exec, B.bytes, hml, hown, atoms_spec (ws := ws) B.pre, hK, hA, Nat.le_refl _, Nat.le_refl _, Nat.le_refl _, Nat.le_refl _, rfl, rfl⟩ ?_
  · exact key s.heap [] ls hP hD va_S.rf hl
  · intro pc lo r I' J' hdg hp hn H locs ls2 a b c2 d
    subst hqe
    exact W.zret (v := r) B.exec B.bytes hr hn (fun t ht hW => ⟨⟨r, (I', J'), rfl, hp, by rw [ht]; exact a, va_K.moved hW.alike hK, b⟩, c2.F ht⟩) c2.2.2 hdg hlk
set_option maxHeartbeats 1000000 in
theorem h_Ml.of {l : Launch} {y : MethodName} {ws ws' : List Cond} {fr lc : Nat} {G : hQ} {avs : List Value} {I : hI} {J : hJ} {post : Int64 → hI → hJ → Prop} {cc : ByteArray} {maxL : Nat} (lo0 : List (Nat × Value)) (hy : plainName y.cls = true) (hw : ws = Cond.code y cc maxL (some .long) :: ws') (hlen : (lg_sl avs).length ≤ maxL) (hlo : lv_args 0 avs = lo0)
    (k : ∀ Γ : hG, h_C Γ G l maxL cc ws y.cls fr lc → (∀ {pc : Nat} {lo : List (Nat × Value)} {r : Int64} {I' : hI} {J' : hJ}, decode cc pc = .ok (.lreturn, 1) → post r I' J' → h_WW Γ G pc lo [.long r] I' J') → h_WW Γ G 0 lo0 [] I J) : h_Ml l y ws fr lc G avs I J post := by
  intro sz
  refine Met.ofW (cc := cc) (maxL := maxL) (ret := some .long) hy hw ?_
  intro p e s m args below meth c s₁ B hml hv
  obtain ⟨rfl, hsz, hP, hK, hD0⟩ := hv
  have hown : s.vm.findClass y.cls = some m.cls := findClass_of_methodNamed B.named
  subst hsz
  have hD : va_D (h_A G s.heap.size) (h_W G I J) := h_D_A hD0
  have hA : ∀ q : Nat, s.heap.size ≤ q → h_A G s.heap.size q := fun q h => Or.inr h
  have hl := lv_entry avs (n := maxL) hlen
  rw [hlo] at hl
  rw [lg_entry_eq]
  generalize (lg_sl avs ++ List.replicate (maxL - (lg_sl avs).length) Slot.unset).toArray = ls at hl ⊢
  have hr := B.returns
  have hlk := B.notSynchronized
  generalize hqe : MQ below _ avs.toArray s 0 0 (h_A G s.heap.size) = Q
  have key := k (p, l, e, h_rm fr lc, s, m, avs.toArray, below, meth, c, Q, h_A G s.heap.size, maxL, 0, 0) ⟨B.exec, B.bytes, hml, hown, atoms_spec (ws := ws) B.pre, hK, hA, Nat.le_refl _, Nat.le_refl _, Nat.le_refl _, Nat.le_refl _, rfl, rfl⟩ ?_
  · exact key s.heap [] ls hP hD va_S.rf hl
  · intro pc lo r I' J' hdg hp H locs ls2 a b c2 d
    subst hqe
    exact W.lret (v := r) B.exec B.bytes hr (fun t ht hW => ⟨⟨r, (I', J'), rfl, hp, by rw [ht]; exact a, va_K.moved hW.alike hK, b⟩, c2.F ht⟩) c2.2.2 hdg hlk
set_option maxHeartbeats 1000000 in
theorem h_Mv.of {l : Launch} {y : MethodName} {ws ws' : List Cond} {fr lc : Nat} {G : hQ} {avs : List Value} {I : hI} {J : hJ} {post : hI → hJ → Prop} {cc : ByteArray} {maxL : Nat} (lo0 : List (Nat × Value)) (hy : plainName y.cls = true) (hw : ws = Cond.code y cc maxL (none) :: ws') (hlen : (lg_sl avs).length ≤ maxL) (hlo : lv_args 0 avs = lo0)
    (k : ∀ Γ : hG, h_C Γ G l maxL cc ws y.cls fr lc → (∀ {pc : Nat} {lo : List (Nat × Value)} {I' : hI} {J' : hJ}, decode cc pc = .ok (.return_, 1) → post I' J' → h_WW Γ G pc lo [] I' J') → h_WW Γ G 0 lo0 [] I J) : h_Mv l y ws fr lc G avs I J post := by
  intro sz
  refine Met.ofW (cc := cc) (maxL := maxL) (ret := none) hy hw ?_
  intro p e s m args below meth c s₁ B hml hv
  obtain ⟨rfl, hsz, hP, hK, hD0⟩ := hv
  have hown : s.vm.findClass y.cls = some m.cls := findClass_of_methodNamed B.named
  subst hsz
  have hD : va_D (h_A G s.heap.size) (h_W G I J) := h_D_A hD0
  have hA : ∀ q : Nat, s.heap.size ≤ q → h_A G s.heap.size q := fun q h => Or.inr h
  have hl := lv_entry avs (n := maxL) hlen
  rw [hlo] at hl
  rw [lg_entry_eq]
  generalize (lg_sl avs ++ List.replicate (maxL - (lg_sl avs).length) Slot.unset).toArray = ls at hl ⊢
  have hr := B.returns
  have hlk := B.notSynchronized
  generalize hqe : MQ below _ avs.toArray s 0 0 (h_A G s.heap.size) = Q
  have key := k (p, l, e, h_rm fr lc, s, m, avs.toArray, below, meth, c, Q, h_A G s.heap.size, maxL, 0, 0) ⟨B.exec, B.bytes, hml, hown, atoms_spec (ws := ws) B.pre, hK, hA, Nat.le_refl _, Nat.le_refl _, Nat.le_refl _, Nat.le_refl _, rfl, rfl⟩ ?_
  · exact key s.heap [] ls hP hD va_S.rf hl
  · intro pc lo I' J' hdg hp H locs ls2 a b c2 d
    subst hqe
    exact W.vret B.exec B.bytes hr (fun t ht hW => ⟨⟨(I', J'), rfl, hp, by rw [ht]; exact a, va_K.moved hW.alike hK, b⟩, c2.F ht⟩) c2.2.2 hdg hlk
set_option maxHeartbeats 1000000 in
theorem h_Mr.of {l : Launch} {y : MethodName} {ws ws' : List Cond} {fr lc : Nat} {G : hQ} {avs : List Value} {I : hI} {J : hJ} {post : Nat → hI → hJ → Prop} {cc : ByteArray} {maxL : Nat} {nm : String} (lo0 : List (Nat × Value)) (hy : plainName y.cls = true) (hw : ws = Cond.code y cc maxL (some (.object nm)) :: ws') (hlen : (lg_sl avs).length ≤ maxL) (hlo : lv_args 0 avs = lo0)
    (k : ∀ Γ : hG, h_C Γ G l maxL cc ws y.cls fr lc → (∀ {pc : Nat} {lo : List (Nat × Value)} {r : Nat} {I' : hI} {J' : hJ}, decode cc pc = .ok (.areturn, 1) → post r I' J' → h_WW Γ G pc lo [rr G r] I' J') → h_WW Γ G 0 lo0 [] I J) : h_Mr l y ws fr lc G avs I J post := by
  intro sz
  refine Met.ofW (cc := cc) (maxL := maxL) (ret := some (.object nm)) hy hw ?_
  intro p e s m args below meth c s₁ B hml hv
  obtain ⟨rfl, hsz, hP, hK, hD0⟩ := hv
  have hown : s.vm.findClass y.cls = some m.cls := findClass_of_methodNamed B.named
  subst hsz
  have hD : va_D (h_A G s.heap.size) (h_W G I J) := h_D_A hD0
  have hA : ∀ q : Nat, s.heap.size ≤ q → h_A G s.heap.size q := fun q h => Or.inr h
  have hl := lv_entry avs (n := maxL) hlen
  rw [hlo] at hl
  rw [lg_entry_eq]
  generalize (lg_sl avs ++ List.replicate (maxL - (lg_sl avs).length) Slot.unset).toArray = ls at hl ⊢
  have hr := B.returns
  have hlk := B.notSynchronized
  generalize hqe : MQ below _ avs.toArray s 0 0 (h_A G s.heap.size) = Q
  have key := k (p, l, e, h_rm fr lc, s, m, avs.toArray, below, meth, c, Q, h_A G s.heap.size, maxL, 0, 0) ⟨B.exec, B.bytes, hml, hown, atoms_spec (ws := ws) B.pre, hK, hA, Nat.le_refl _, Nat.le_refl _, Nat.le_refl _, Nat.le_refl _, rfl, rfl⟩ ?_
  · exact key s.heap [] ls hP hD va_S.rf hl
  · intro pc lo r I' J' hdg hp H locs ls2 a b c2 d
    subst hqe
    exact W.aret (v := rr G r) B.exec B.bytes hr (Or.inl ⟨_, rfl⟩) (Or.inr ⟨_, rfl⟩) (fun t ht hW => ⟨⟨(r, I', J'), G.2.2 r, rfl, hp, rfl, by rw [ht]; exact a, va_K.moved hW.alike hK, b⟩, c2.F ht⟩) c2.2.2 hdg hlk
section HC
variable {Γ : hG} {G : hQ} {l : Launch} {nL : Nat} {cc : ByteArray} {Ts : List Cond} {own : String} {fr lc pc : Nat} {lo : List (Nat × Value)} {st stk : List Value} {I : hI} {J : hJ}
set_option maxHeartbeats 1000000 in
theorem x_calliV (K : h_C Γ G l nL cc Ts own fr lc) {y : MethodName} {wsy ws0 : List Cond} {fr' lc' maxL n index : Nat} {As : List Value} {bytes : ByteArray} {ret : Option FieldType} {post : Int32 → hI → hJ → Prop} {k0 ci : Nat} {ks : List Nat} {C : String} {T : u_T} {N : Nat} (hk : k0 < 91) (hs : h_sh k0 = .inl (ci, ks)) (hc : vwCl[ci]? = some (C, T, N)) (hM : h_Mi l y wsy fr' lc' G (rr G k0 :: As) I J post) (hG : GoodIn Ts (wsV own index C y wsy)) (hd : y.cls = C ∧ y.cls ≠ "java/lang/invoke/MethodHandle" ∧ y.cls ≠ "java/lang/invoke/VarHandle" ∧ (parseMethodDescriptor y.desc).map (fun d => d.parameters.length) = some n) (hw : wsy = Cond.code y bytes maxL ret :: ws0) (hfr : fr' + 1 ≤ fr) (hlc : 8 + (maxL + 11) + lc' ≤ lc) (hn : As.length = n) (hst : stk = As.reverse ++ rr G k0 :: st) (hW : (st.map fun v => v.category).sum ≤ 8) (hdg : decode cc pc = .ok (.invokevirtual index, 3))
    (kk : ∀ (r : Int32) (I' : hI) (J' : hJ), post r I' J' → h_WW Γ G (pc + 3) lo (.int r :: st) I' J') : h_WW Γ G pc lo stk I J := fun H locs ls a b c d => by
  subst hst
  have hF := h_A_of b c K.2.2.2.2.2.2.1
  have hM1 := hM H.size
  rw [← K.2.2.2.2.2.2.2.2.2.2.2.1] at hM1
  refine va_calli (va_runV (As := As) (rest := st) ⟨K.1, K.2.1, K.2.2.1, K.2.2.2.1, K.2.2.2.2.1⟩ hM1 (cwV n K.2.2.2.2.1 hG hw rfl rfl hd ⟨Nat.le_trans hfr K.2.2.2.2.2.2.2.1, Nat.le_trans hlc K.2.2.2.2.2.2.2.2.1⟩) ⟨h_blind, va_recv K.2.2.2.2.2.1 a hc (h_W_o hk hs), fun U hU hW => ⟨rfl, by rw [hU], by rw [hU]; exact a, va_K.moved hW.alike K.2.2.2.2.2.1, b.weaken (fun _ _ _ _ => trivial)⟩⟩ rfl hn d.1 rfl (lv_room hW) hdg ⟨K.2.2.2.2.2.2.2.2.2.1, K.2.2.2.2.2.2.2.2.2.2.1⟩) c (fun q _ h => hF q h) hF (fun r u t H1 locs1 ht hvm hw1 hB hz1 hk1 hS => ?_)
  obtain ⟨hP1, hK1, hD1⟩ := hB
  rw [ht] at hP1
  exact kk r u.1 u.2 hw1 H1 locs1 ls hP1 (hD1.weaken (fun _ _ _ h => hF _ h)) hS d
set_option maxHeartbeats 1000000 in
theorem x_calllV (K : h_C Γ G l nL cc Ts own fr lc) {y : MethodName} {wsy ws0 : List Cond} {fr' lc' maxL n index : Nat} {As : List Value} {bytes : ByteArray} {ret : Option FieldType} {post : Int64 → hI → hJ → Prop} {k0 ci : Nat} {ks : List Nat} {C : String} {T : u_T} {N : Nat} (hk : k0 < 91) (hs : h_sh k0 = .inl (ci, ks)) (hc : vwCl[ci]? = some (C, T, N)) (hM : h_Ml l y wsy fr' lc' G (rr G k0 :: As) I J post) (hG : GoodIn Ts (wsV own index C y wsy)) (hd : y.cls = C ∧ y.cls ≠ "java/lang/invoke/MethodHandle" ∧ y.cls ≠ "java/lang/invoke/VarHandle" ∧ (parseMethodDescriptor y.desc).map (fun d => d.parameters.length) = some n) (hw : wsy = Cond.code y bytes maxL ret :: ws0) (hfr : fr' + 1 ≤ fr) (hlc : 8 + (maxL + 11) + lc' ≤ lc) (hn : As.length = n) (hst : stk = As.reverse ++ rr G k0 :: st) (hW : (st.map fun v => v.category).sum ≤ 8) (hdg : decode cc pc = .ok (.invokevirtual index, 3))
    (kk : ∀ (r : Int64) (I' : hI) (J' : hJ), post r I' J' → h_WW Γ G (pc + 3) lo (.long r :: st) I' J') : h_WW Γ G pc lo stk I J := fun H locs ls a b c d => by
  subst hst
  have hF := h_A_of b c K.2.2.2.2.2.2.1
  have hM1 := hM H.size
  rw [← K.2.2.2.2.2.2.2.2.2.2.2.1] at hM1
  refine va_calll (va_runV (As := As) (rest := st) ⟨K.1, K.2.1, K.2.2.1, K.2.2.2.1, K.2.2.2.2.1⟩ hM1 (cwV n K.2.2.2.2.1 hG hw rfl rfl hd ⟨Nat.le_trans hfr K.2.2.2.2.2.2.2.1, Nat.le_trans hlc K.2.2.2.2.2.2.2.2.1⟩) ⟨h_blind, va_recv K.2.2.2.2.2.1 a hc (h_W_o hk hs), fun U hU hW => ⟨rfl, by rw [hU], by rw [hU]; exact a, va_K.moved hW.alike K.2.2.2.2.2.1, b.weaken (fun _ _ _ _ => trivial)⟩⟩ rfl hn d.1 rfl (lv_room hW) hdg ⟨K.2.2.2.2.2.2.2.2.2.1, K.2.2.2.2.2.2.2.2.2.2.1⟩) c (fun q _ h => hF q h) hF (fun r u t H1 locs1 ht hvm hw1 hB hz1 hk1 hS => ?_)
  obtain ⟨hP1, hK1, hD1⟩ := hB
  rw [ht] at hP1
  exact kk r u.1 u.2 hw1 H1 locs1 ls hP1 (hD1.weaken (fun _ _ _ h => hF _ h)) hS d
set_option maxHeartbeats 1000000 in
theorem x_callvV (K : h_C Γ G l nL cc Ts own fr lc) {y : MethodName} {wsy ws0 : List Cond} {fr' lc' maxL n index : Nat} {As : List Value} {bytes : ByteArray} {ret : Option FieldType} {post : hI → hJ → Prop} {k0 ci : Nat} {ks : List Nat} {C : String} {T : u_T} {N : Nat} (hk : k0 < 91) (hs : h_sh k0 = .inl (ci, ks)) (hc : vwCl[ci]? = some (C, T, N)) (hM : h_Mv l y wsy fr' lc' G (rr G k0 :: As) I J post) (hG : GoodIn Ts (wsV own index C y wsy)) (hd : y.cls = C ∧ y.cls ≠ "java/lang/invoke/MethodHandle" ∧ y.cls ≠ "java/lang/invoke/VarHandle" ∧ (parseMethodDescriptor y.desc).map (fun d => d.parameters.length) = some n) (hw : wsy = Cond.code y bytes maxL ret :: ws0) (hfr : fr' + 1 ≤ fr) (hlc : 8 + (maxL + 11) + lc' ≤ lc) (hn : As.length = n) (hst : stk = As.reverse ++ rr G k0 :: st) (hW : (st.map fun v => v.category).sum ≤ 8) (hdg : decode cc pc = .ok (.invokevirtual index, 3))
    (kk : ∀ (I' : hI) (J' : hJ), post I' J' → h_WW Γ G (pc + 3) lo st I' J') : h_WW Γ G pc lo stk I J := fun H locs ls a b c d => by
  subst hst
  have hF := h_A_of b c K.2.2.2.2.2.2.1
  have hM1 := hM H.size
  rw [← K.2.2.2.2.2.2.2.2.2.2.2.1] at hM1
  refine va_callv (va_runV (As := As) (rest := st) ⟨K.1, K.2.1, K.2.2.1, K.2.2.2.1, K.2.2.2.2.1⟩ hM1 (cwV n K.2.2.2.2.1 hG hw rfl rfl hd ⟨Nat.le_trans hfr K.2.2.2.2.2.2.2.1, Nat.le_trans hlc K.2.2.2.2.2.2.2.2.1⟩) ⟨h_blind, va_recv K.2.2.2.2.2.1 a hc (h_W_o hk hs), fun U hU hW => ⟨rfl, by rw [hU], by rw [hU]; exact a, va_K.moved hW.alike K.2.2.2.2.2.1, b.weaken (fun _ _ _ _ => trivial)⟩⟩ rfl hn d.1 rfl (lv_room hW) hdg ⟨K.2.2.2.2.2.2.2.2.2.1, K.2.2.2.2.2.2.2.2.2.2.1⟩) c (fun q _ h => hF q h) hF (fun u t H1 locs1 ht hvm hw1 hB hz1 hk1 hS => ?_)
  obtain ⟨hP1, hK1, hD1⟩ := hB
  rw [ht] at hP1
  exact kk u.1 u.2 hw1 H1 locs1 ls hP1 (hD1.weaken (fun _ _ _ h => hF _ h)) hS d
set_option maxHeartbeats 1000000 in
theorem x_callrV (K : h_C Γ G l nL cc Ts own fr lc) {y : MethodName} {wsy ws0 : List Cond} {fr' lc' maxL n index : Nat} {As : List Value} {bytes : ByteArray} {ret : Option FieldType} {post : Nat → hI → hJ → Prop} {k0 ci : Nat} {ks : List Nat} {C : String} {T : u_T} {N : Nat} (hk : k0 < 91) (hs : h_sh k0 = .inl (ci, ks)) (hc : vwCl[ci]? = some (C, T, N)) (hM : h_Mr l y wsy fr' lc' G (rr G k0 :: As) I J post) (hG : GoodIn Ts (wsV own index C y wsy)) (hd : y.cls = C ∧ y.cls ≠ "java/lang/invoke/MethodHandle" ∧ y.cls ≠ "java/lang/invoke/VarHandle" ∧ (parseMethodDescriptor y.desc).map (fun d => d.parameters.length) = some n) (hw : wsy = Cond.code y bytes maxL ret :: ws0) (hfr : fr' + 1 ≤ fr) (hlc : 8 + (maxL + 11) + lc' ≤ lc) (hn : As.length = n) (hst : stk = As.reverse ++ rr G k0 :: st) (hW : (st.map fun v => v.category).sum ≤ 8) (hdg : decode cc pc = .ok (.invokevirtual index, 3))
    (kk : ∀ (r : Nat) (I' : hI) (J' : hJ), post r I' J' → h_WW Γ G (pc + 3) lo (rr G r :: st) I' J') : h_WW Γ G pc lo stk I J := fun H locs ls a b c d => by
  subst hst
  have hF := h_A_of b c K.2.2.2.2.2.2.1
  have hM1 := hM H.size
  rw [← K.2.2.2.2.2.2.2.2.2.2.2.1] at hM1
  refine va_callr (va_runV (As := As) (rest := st) ⟨K.1, K.2.1, K.2.2.1, K.2.2.2.1, K.2.2.2.2.1⟩ hM1 (cwV n K.2.2.2.2.1 hG hw rfl rfl hd ⟨Nat.le_trans hfr K.2.2.2.2.2.2.2.1, Nat.le_trans hlc K.2.2.2.2.2.2.2.2.1⟩) ⟨h_blind, va_recv K.2.2.2.2.2.1 a hc (h_W_o hk hs), fun U hU hW => ⟨rfl, by rw [hU], by rw [hU]; exact a, va_K.moved hW.alike K.2.2.2.2.2.1, b.weaken (fun _ _ _ _ => trivial)⟩⟩ rfl hn d.1 rfl (lv_room hW) hdg ⟨K.2.2.2.2.2.2.2.2.2.1, K.2.2.2.2.2.2.2.2.2.2.1⟩) c (fun q _ h => hF q h) hF (fun u ra t H1 locs1 ht hvm hw1 hB hz1 hk1 hS => ?_)
  obtain ⟨rfl, hP1, hK1, hD1⟩ := hB
  rw [ht] at hP1
  exact kk u.1 u.2.1 u.2.2 hw1 H1 locs1 ls hP1 (hD1.weaken (fun _ _ _ h => hF _ h)) hS d
set_option maxHeartbeats 1000000 in
theorem x_calliN (K : h_C Γ G l nL cc Ts own fr lc) {y : MethodName} {wsy ws0 : List Cond} {fr' lc' maxL n index : Nat} {As : List Value} {bytes : ByteArray} {ret : Option FieldType} {post : Int32 → hI → hJ → Prop} {k0 ci : Nat} {ks : List Nat} {C : String} {T : u_T} {N : Nat} (hk : k0 < 91) (hs : h_sh k0 = .inl (ci, ks)) (hc : vwCl[ci]? = some (C, T, N)) (hM : h_Mi l y wsy fr' lc' G (rr G k0 :: As) I J post) {host : String} (hG : GoodIn Ts wsy) (hm : Cond.methodLinkNest own index y host ∈ Ts) (hini : Cond.initialized y.cls ∈ Ts) (him : Cond.instanceMethod y ∈ Ts) (hse : Cond.selects C y y ∈ Ts) (hd : y.cls ≠ "java/lang/invoke/MethodHandle" ∧ y.cls ≠ "java/lang/invoke/VarHandle" ∧ (parseMethodDescriptor y.desc).map (fun d => d.parameters.length) = some n) (hw : wsy = Cond.code y bytes maxL ret :: ws0) (hfr : fr' + 1 ≤ fr) (hlc : 8 + (maxL + 11) + lc' ≤ lc) (hn : As.length = n) (hst : stk = As.reverse ++ rr G k0 :: st) (hW : (st.map fun v => v.category).sum ≤ 8) (hdg : decode cc pc = .ok (.invokevirtual index, 3))
    (kk : ∀ (r : Int32) (I' : hI) (J' : hJ), post r I' J' → h_WW Γ G (pc + 3) lo (.int r :: st) I' J') : h_WW Γ G pc lo stk I J := fun H locs ls a b c d => by
  subst hst
  have hF := h_A_of b c K.2.2.2.2.2.2.1
  have hM1 := hM H.size
  rw [← K.2.2.2.2.2.2.2.2.2.2.2.1] at hM1
  refine va_calli (va_runVN (As := As) (rest := st) ⟨K.1, K.2.1, K.2.2.1, K.2.2.2.1, K.2.2.2.2.1⟩ hM1 ⟨va_cnB n K.2.2.2.2.1 hG hw rfl rfl (va_Nw.of rfl (K.2.2.2.2.1 _ hm)) (K.2.2.2.2.1 _ hini) hd ⟨Nat.le_trans hfr K.2.2.2.2.2.2.2.1, Nat.le_trans hlc K.2.2.2.2.2.2.2.2.1⟩, K.2.2.2.2.1 _ him, K.2.2.2.2.1 _ hse⟩ ⟨h_blind, va_recv K.2.2.2.2.2.1 a hc (h_W_o hk hs), fun U hU hW => ⟨rfl, by rw [hU], by rw [hU]; exact a, va_K.moved hW.alike K.2.2.2.2.2.1, b.weaken (fun _ _ _ _ => trivial)⟩⟩ rfl hn d.1 rfl (lv_room hW) hdg ⟨K.2.2.2.2.2.2.2.2.2.1, K.2.2.2.2.2.2.2.2.2.2.1⟩) c (fun q _ h => hF q h) hF (fun r u t H1 locs1 ht hvm hw1 hB hz1 hk1 hS => ?_)
  obtain ⟨hP1, hK1, hD1⟩ := hB
  rw [ht] at hP1
  exact kk r u.1 u.2 hw1 H1 locs1 ls hP1 (hD1.weaken (fun _ _ _ h => hF _ h)) hS d
set_option maxHeartbeats 1000000 in
theorem x_calllN (K : h_C Γ G l nL cc Ts own fr lc) {y : MethodName} {wsy ws0 : List Cond} {fr' lc' maxL n index : Nat} {As : List Value} {bytes : ByteArray} {ret : Option FieldType} {post : Int64 → hI → hJ → Prop} {k0 ci : Nat} {ks : List Nat} {C : String} {T : u_T} {N : Nat} (hk : k0 < 91) (hs : h_sh k0 = .inl (ci, ks)) (hc : vwCl[ci]? = some (C, T, N)) (hM : h_Ml l y wsy fr' lc' G (rr G k0 :: As) I J post) {host : String} (hG : GoodIn Ts wsy) (hm : Cond.methodLinkNest own index y host ∈ Ts) (hini : Cond.initialized y.cls ∈ Ts) (him : Cond.instanceMethod y ∈ Ts) (hse : Cond.selects C y y ∈ Ts) (hd : y.cls ≠ "java/lang/invoke/MethodHandle" ∧ y.cls ≠ "java/lang/invoke/VarHandle" ∧ (parseMethodDescriptor y.desc).map (fun d => d.parameters.length) = some n) (hw : wsy = Cond.code y bytes maxL ret :: ws0) (hfr : fr' + 1 ≤ fr) (hlc : 8 + (maxL + 11) + lc' ≤ lc) (hn : As.length = n) (hst : stk = As.reverse ++ rr G k0 :: st) (hW : (st.map fun v => v.category).sum ≤ 8) (hdg : decode cc pc = .ok (.invokevirtual index, 3))
    (kk : ∀ (r : Int64) (I' : hI) (J' : hJ), post r I' J' → h_WW Γ G (pc + 3) lo (.long r :: st) I' J') : h_WW Γ G pc lo stk I J := fun H locs ls a b c d => by
  subst hst
  have hF := h_A_of b c K.2.2.2.2.2.2.1
  have hM1 := hM H.size
  rw [← K.2.2.2.2.2.2.2.2.2.2.2.1] at hM1
  refine va_calll (va_runVN (As := As) (rest := st) ⟨K.1, K.2.1, K.2.2.1, K.2.2.2.1, K.2.2.2.2.1⟩ hM1 ⟨va_cnB n K.2.2.2.2.1 hG hw rfl rfl (va_Nw.of rfl (K.2.2.2.2.1 _ hm)) (K.2.2.2.2.1 _ hini) hd ⟨Nat.le_trans hfr K.2.2.2.2.2.2.2.1, Nat.le_trans hlc K.2.2.2.2.2.2.2.2.1⟩, K.2.2.2.2.1 _ him, K.2.2.2.2.1 _ hse⟩ ⟨h_blind, va_recv K.2.2.2.2.2.1 a hc (h_W_o hk hs), fun U hU hW => ⟨rfl, by rw [hU], by rw [hU]; exact a, va_K.moved hW.alike K.2.2.2.2.2.1, b.weaken (fun _ _ _ _ => trivial)⟩⟩ rfl hn d.1 rfl (lv_room hW) hdg ⟨K.2.2.2.2.2.2.2.2.2.1, K.2.2.2.2.2.2.2.2.2.2.1⟩) c (fun q _ h => hF q h) hF (fun r u t H1 locs1 ht hvm hw1 hB hz1 hk1 hS => ?_)
  obtain ⟨hP1, hK1, hD1⟩ := hB
  rw [ht] at hP1
  exact kk r u.1 u.2 hw1 H1 locs1 ls hP1 (hD1.weaken (fun _ _ _ h => hF _ h)) hS d
set_option maxHeartbeats 1000000 in
theorem x_callvN (K : h_C Γ G l nL cc Ts own fr lc) {y : MethodName} {wsy ws0 : List Cond} {fr' lc' maxL n index : Nat} {As : List Value} {bytes : ByteArray} {ret : Option FieldType} {post : hI → hJ → Prop} {k0 ci : Nat} {ks : List Nat} {C : String} {T : u_T} {N : Nat} (hk : k0 < 91) (hs : h_sh k0 = .inl (ci, ks)) (hc : vwCl[ci]? = some (C, T, N)) (hM : h_Mv l y wsy fr' lc' G (rr G k0 :: As) I J post) {host : String} (hG : GoodIn Ts wsy) (hm : Cond.methodLinkNest own index y host ∈ Ts) (hini : Cond.initialized y.cls ∈ Ts) (him : Cond.instanceMethod y ∈ Ts) (hse : Cond.selects C y y ∈ Ts) (hd : y.cls ≠ "java/lang/invoke/MethodHandle" ∧ y.cls ≠ "java/lang/invoke/VarHandle" ∧ (parseMethodDescriptor y.desc).map (fun d => d.parameters.length) = some n) (hw : wsy = Cond.code y bytes maxL ret :: ws0) (hfr : fr' + 1 ≤ fr) (hlc : 8 + (maxL + 11) + lc' ≤ lc) (hn : As.length = n) (hst : stk = As.reverse ++ rr G k0 :: st) (hW : (st.map fun v => v.category).sum ≤ 8) (hdg : decode cc pc = .ok (.invokevirtual index, 3))
    (kk : ∀ (I' : hI) (J' : hJ), post I' J' → h_WW Γ G (pc + 3) lo st I' J') : h_WW Γ G pc lo stk I J := fun H locs ls a b c d => by
  subst hst
  have hF := h_A_of b c K.2.2.2.2.2.2.1
  have hM1 := hM H.size
  rw [← K.2.2.2.2.2.2.2.2.2.2.2.1] at hM1
  refine va_callv (va_runVN (As := As) (rest := st) ⟨K.1, K.2.1, K.2.2.1, K.2.2.2.1, K.2.2.2.2.1⟩ hM1 ⟨va_cnB n K.2.2.2.2.1 hG hw rfl rfl (va_Nw.of rfl (K.2.2.2.2.1 _ hm)) (K.2.2.2.2.1 _ hini) hd ⟨Nat.le_trans hfr K.2.2.2.2.2.2.2.1, Nat.le_trans hlc K.2.2.2.2.2.2.2.2.1⟩, K.2.2.2.2.1 _ him, K.2.2.2.2.1 _ hse⟩ ⟨h_blind, va_recv K.2.2.2.2.2.1 a hc (h_W_o hk hs), fun U hU hW => ⟨rfl, by rw [hU], by rw [hU]; exact a, va_K.moved hW.alike K.2.2.2.2.2.1, b.weaken (fun _ _ _ _ => trivial)⟩⟩ rfl hn d.1 rfl (lv_room hW) hdg ⟨K.2.2.2.2.2.2.2.2.2.1, K.2.2.2.2.2.2.2.2.2.2.1⟩) c (fun q _ h => hF q h) hF (fun u t H1 locs1 ht hvm hw1 hB hz1 hk1 hS => ?_)
  obtain ⟨hP1, hK1, hD1⟩ := hB
  rw [ht] at hP1
  exact kk u.1 u.2 hw1 H1 locs1 ls hP1 (hD1.weaken (fun _ _ _ h => hF _ h)) hS d
set_option maxHeartbeats 1000000 in
theorem x_callrN (K : h_C Γ G l nL cc Ts own fr lc) {y : MethodName} {wsy ws0 : List Cond} {fr' lc' maxL n index : Nat} {As : List Value} {bytes : ByteArray} {ret : Option FieldType} {post : Nat → hI → hJ → Prop} {k0 ci : Nat} {ks : List Nat} {C : String} {T : u_T} {N : Nat} (hk : k0 < 91) (hs : h_sh k0 = .inl (ci, ks)) (hc : vwCl[ci]? = some (C, T, N)) (hM : h_Mr l y wsy fr' lc' G (rr G k0 :: As) I J post) {host : String} (hG : GoodIn Ts wsy) (hm : Cond.methodLinkNest own index y host ∈ Ts) (hini : Cond.initialized y.cls ∈ Ts) (him : Cond.instanceMethod y ∈ Ts) (hse : Cond.selects C y y ∈ Ts) (hd : y.cls ≠ "java/lang/invoke/MethodHandle" ∧ y.cls ≠ "java/lang/invoke/VarHandle" ∧ (parseMethodDescriptor y.desc).map (fun d => d.parameters.length) = some n) (hw : wsy = Cond.code y bytes maxL ret :: ws0) (hfr : fr' + 1 ≤ fr) (hlc : 8 + (maxL + 11) + lc' ≤ lc) (hn : As.length = n) (hst : stk = As.reverse ++ rr G k0 :: st) (hW : (st.map fun v => v.category).sum ≤ 8) (hdg : decode cc pc = .ok (.invokevirtual index, 3))
    (kk : ∀ (r : Nat) (I' : hI) (J' : hJ), post r I' J' → h_WW Γ G (pc + 3) lo (rr G r :: st) I' J') : h_WW Γ G pc lo stk I J := fun H locs ls a b c d => by
  subst hst
  have hF := h_A_of b c K.2.2.2.2.2.2.1
  have hM1 := hM H.size
  rw [← K.2.2.2.2.2.2.2.2.2.2.2.1] at hM1
  refine va_callr (va_runVN (As := As) (rest := st) ⟨K.1, K.2.1, K.2.2.1, K.2.2.2.1, K.2.2.2.2.1⟩ hM1 ⟨va_cnB n K.2.2.2.2.1 hG hw rfl rfl (va_Nw.of rfl (K.2.2.2.2.1 _ hm)) (K.2.2.2.2.1 _ hini) hd ⟨Nat.le_trans hfr K.2.2.2.2.2.2.2.1, Nat.le_trans hlc K.2.2.2.2.2.2.2.2.1⟩, K.2.2.2.2.1 _ him, K.2.2.2.2.1 _ hse⟩ ⟨h_blind, va_recv K.2.2.2.2.2.1 a hc (h_W_o hk hs), fun U hU hW => ⟨rfl, by rw [hU], by rw [hU]; exact a, va_K.moved hW.alike K.2.2.2.2.2.1, b.weaken (fun _ _ _ _ => trivial)⟩⟩ rfl hn d.1 rfl (lv_room hW) hdg ⟨K.2.2.2.2.2.2.2.2.2.1, K.2.2.2.2.2.2.2.2.2.2.1⟩) c (fun q _ h => hF q h) hF (fun u ra t H1 locs1 ht hvm hw1 hB hz1 hk1 hS => ?_)
  obtain ⟨rfl, hP1, hK1, hD1⟩ := hB
  rw [ht] at hP1
  exact kk u.1 u.2.1 u.2.2 hw1 H1 locs1 ls hP1 (hD1.weaken (fun _ _ _ h => hF _ h)) hS d
set_option maxHeartbeats 1000000 in
theorem x_calliS (K : h_C Γ G l nL cc Ts own fr lc) {y : MethodName} {wsy ws0 : List Cond} {fr' lc' maxL n index : Nat} {As : List Value} {bytes : ByteArray} {ret : Option FieldType} {post : Int32 → hI → hJ → Prop} (hM : h_Mi l y wsy fr' lc' G (As) I J post) (hG : GoodIn Ts (va_wsS own index y wsy)) (hd : y.cls ≠ "java/lang/invoke/MethodHandle" ∧ y.cls ≠ "java/lang/invoke/VarHandle" ∧ (parseMethodDescriptor y.desc).map (fun d => d.parameters.length) = some n) (hw : wsy = Cond.code y bytes maxL ret :: ws0) (hfr : fr' + 1 ≤ fr) (hlc : 8 + (maxL + 11) + lc' ≤ lc) (hn : As.length = n) (hst : stk = As.reverse ++ st) (hW : (st.map fun v => v.category).sum ≤ 8) (hdg : decode cc pc = .ok (.invokestatic index, 3))
    (kk : ∀ (r : Int32) (I' : hI) (J' : hJ), post r I' J' → h_WW Γ G (pc + 3) lo (.int r :: st) I' J') : h_WW Γ G pc lo stk I J := fun H locs ls a b c d => by
  subst hst
  have hF := h_A_of b c K.2.2.2.2.2.2.1
  have hM1 := hM H.size
  rw [← K.2.2.2.2.2.2.2.2.2.2.2.1] at hM1
  refine va_calli (va_runS (As := As) (rest := st) ⟨K.1, K.2.1, K.2.2.1, K.2.2.2.1, K.2.2.2.2.1⟩ hM1 (va_cwS n K.2.2.2.2.1 hG hw rfl rfl hd ⟨Nat.le_trans hfr K.2.2.2.2.2.2.2.1, Nat.le_trans hlc K.2.2.2.2.2.2.2.2.1⟩) ⟨h_blind, fun U hU hW => ⟨rfl, by rw [hU], by rw [hU]; exact a, va_K.moved hW.alike K.2.2.2.2.2.1, b.weaken (fun _ _ _ _ => trivial)⟩⟩ rfl hn d.1 rfl (lv_room hW) hdg ⟨K.2.2.2.2.2.2.2.2.2.1, K.2.2.2.2.2.2.2.2.2.2.1⟩) c (fun q _ h => hF q h) hF (fun r u t H1 locs1 ht hvm hw1 hB hz1 hk1 hS => ?_)
  obtain ⟨hP1, hK1, hD1⟩ := hB
  rw [ht] at hP1
  exact kk r u.1 u.2 hw1 H1 locs1 ls hP1 (hD1.weaken (fun _ _ _ h => hF _ h)) hS d
set_option maxHeartbeats 1000000 in
theorem x_calllS (K : h_C Γ G l nL cc Ts own fr lc) {y : MethodName} {wsy ws0 : List Cond} {fr' lc' maxL n index : Nat} {As : List Value} {bytes : ByteArray} {ret : Option FieldType} {post : Int64 → hI → hJ → Prop} (hM : h_Ml l y wsy fr' lc' G (As) I J post) (hG : GoodIn Ts (va_wsS own index y wsy)) (hd : y.cls ≠ "java/lang/invoke/MethodHandle" ∧ y.cls ≠ "java/lang/invoke/VarHandle" ∧ (parseMethodDescriptor y.desc).map (fun d => d.parameters.length) = some n) (hw : wsy = Cond.code y bytes maxL ret :: ws0) (hfr : fr' + 1 ≤ fr) (hlc : 8 + (maxL + 11) + lc' ≤ lc) (hn : As.length = n) (hst : stk = As.reverse ++ st) (hW : (st.map fun v => v.category).sum ≤ 8) (hdg : decode cc pc = .ok (.invokestatic index, 3))
    (kk : ∀ (r : Int64) (I' : hI) (J' : hJ), post r I' J' → h_WW Γ G (pc + 3) lo (.long r :: st) I' J') : h_WW Γ G pc lo stk I J := fun H locs ls a b c d => by
  subst hst
  have hF := h_A_of b c K.2.2.2.2.2.2.1
  have hM1 := hM H.size
  rw [← K.2.2.2.2.2.2.2.2.2.2.2.1] at hM1
  refine va_calll (va_runS (As := As) (rest := st) ⟨K.1, K.2.1, K.2.2.1, K.2.2.2.1, K.2.2.2.2.1⟩ hM1 (va_cwS n K.2.2.2.2.1 hG hw rfl rfl hd ⟨Nat.le_trans hfr K.2.2.2.2.2.2.2.1, Nat.le_trans hlc K.2.2.2.2.2.2.2.2.1⟩) ⟨h_blind, fun U hU hW => ⟨rfl, by rw [hU], by rw [hU]; exact a, va_K.moved hW.alike K.2.2.2.2.2.1, b.weaken (fun _ _ _ _ => trivial)⟩⟩ rfl hn d.1 rfl (lv_room hW) hdg ⟨K.2.2.2.2.2.2.2.2.2.1, K.2.2.2.2.2.2.2.2.2.2.1⟩) c (fun q _ h => hF q h) hF (fun r u t H1 locs1 ht hvm hw1 hB hz1 hk1 hS => ?_)
  obtain ⟨hP1, hK1, hD1⟩ := hB
  rw [ht] at hP1
  exact kk r u.1 u.2 hw1 H1 locs1 ls hP1 (hD1.weaken (fun _ _ _ h => hF _ h)) hS d
set_option maxHeartbeats 1000000 in
theorem x_callvS (K : h_C Γ G l nL cc Ts own fr lc) {y : MethodName} {wsy ws0 : List Cond} {fr' lc' maxL n index : Nat} {As : List Value} {bytes : ByteArray} {ret : Option FieldType} {post : hI → hJ → Prop} (hM : h_Mv l y wsy fr' lc' G (As) I J post) (hG : GoodIn Ts (va_wsS own index y wsy)) (hd : y.cls ≠ "java/lang/invoke/MethodHandle" ∧ y.cls ≠ "java/lang/invoke/VarHandle" ∧ (parseMethodDescriptor y.desc).map (fun d => d.parameters.length) = some n) (hw : wsy = Cond.code y bytes maxL ret :: ws0) (hfr : fr' + 1 ≤ fr) (hlc : 8 + (maxL + 11) + lc' ≤ lc) (hn : As.length = n) (hst : stk = As.reverse ++ st) (hW : (st.map fun v => v.category).sum ≤ 8) (hdg : decode cc pc = .ok (.invokestatic index, 3))
    (kk : ∀ (I' : hI) (J' : hJ), post I' J' → h_WW Γ G (pc + 3) lo st I' J') : h_WW Γ G pc lo stk I J := fun H locs ls a b c d => by
  subst hst
  have hF := h_A_of b c K.2.2.2.2.2.2.1
  have hM1 := hM H.size
  rw [← K.2.2.2.2.2.2.2.2.2.2.2.1] at hM1
  refine va_callv (va_runS (As := As) (rest := st) ⟨K.1, K.2.1, K.2.2.1, K.2.2.2.1, K.2.2.2.2.1⟩ hM1 (va_cwS n K.2.2.2.2.1 hG hw rfl rfl hd ⟨Nat.le_trans hfr K.2.2.2.2.2.2.2.1, Nat.le_trans hlc K.2.2.2.2.2.2.2.2.1⟩) ⟨h_blind, fun U hU hW => ⟨rfl, by rw [hU], by rw [hU]; exact a, va_K.moved hW.alike K.2.2.2.2.2.1, b.weaken (fun _ _ _ _ => trivial)⟩⟩ rfl hn d.1 rfl (lv_room hW) hdg ⟨K.2.2.2.2.2.2.2.2.2.1, K.2.2.2.2.2.2.2.2.2.2.1⟩) c (fun q _ h => hF q h) hF (fun u t H1 locs1 ht hvm hw1 hB hz1 hk1 hS => ?_)
  obtain ⟨hP1, hK1, hD1⟩ := hB
  rw [ht] at hP1
  exact kk u.1 u.2 hw1 H1 locs1 ls hP1 (hD1.weaken (fun _ _ _ h => hF _ h)) hS d
set_option maxHeartbeats 1000000 in
theorem x_calliM (K : h_C Γ G l nL cc Ts own fr lc) {y : MethodName} {wsy ws0 : List Cond} {fr' lc' maxL n index : Nat} {As : List Value} {bytes : ByteArray} {ret : Option FieldType} {post : Int32 → hI → hJ → Prop} (hM : h_Mi l y wsy fr' lc' G (As) I J post) {host : String} (hG : GoodIn Ts wsy) (hm : Cond.methodLinkNest own index y host ∈ Ts) (hini : Cond.initialized y.cls ∈ Ts) (him : Cond.static y ∈ Ts) (hd : y.cls ≠ "java/lang/invoke/MethodHandle" ∧ y.cls ≠ "java/lang/invoke/VarHandle" ∧ (parseMethodDescriptor y.desc).map (fun d => d.parameters.length) = some n) (hw : wsy = Cond.code y bytes maxL ret :: ws0) (hfr : fr' + 1 ≤ fr) (hlc : 8 + (maxL + 11) + lc' ≤ lc) (hn : As.length = n) (hst : stk = As.reverse ++ st) (hW : (st.map fun v => v.category).sum ≤ 8) (hdg : decode cc pc = .ok (.invokestatic index, 3))
    (kk : ∀ (r : Int32) (I' : hI) (J' : hJ), post r I' J' → h_WW Γ G (pc + 3) lo (.int r :: st) I' J') : h_WW Γ G pc lo stk I J := fun H locs ls a b c d => by
  subst hst
  have hF := h_A_of b c K.2.2.2.2.2.2.1
  have hM1 := hM H.size
  rw [← K.2.2.2.2.2.2.2.2.2.2.2.1] at hM1
  refine va_calli (va_runSN (As := As) (rest := st) ⟨K.1, K.2.1, K.2.2.1, K.2.2.2.1, K.2.2.2.2.1⟩ hM1 ⟨va_cnB n K.2.2.2.2.1 hG hw rfl rfl (va_Nw.of rfl (K.2.2.2.2.1 _ hm)) (K.2.2.2.2.1 _ hini) hd ⟨Nat.le_trans hfr K.2.2.2.2.2.2.2.1, Nat.le_trans hlc K.2.2.2.2.2.2.2.2.1⟩, K.2.2.2.2.1 _ him, trivial⟩ ⟨h_blind, fun U hU hW => ⟨rfl, by rw [hU], by rw [hU]; exact a, va_K.moved hW.alike K.2.2.2.2.2.1, b.weaken (fun _ _ _ _ => trivial)⟩⟩ rfl hn d.1 rfl (lv_room hW) hdg ⟨K.2.2.2.2.2.2.2.2.2.1, K.2.2.2.2.2.2.2.2.2.2.1⟩) c (fun q _ h => hF q h) hF (fun r u t H1 locs1 ht hvm hw1 hB hz1 hk1 hS => ?_)
  obtain ⟨hP1, hK1, hD1⟩ := hB
  rw [ht] at hP1
  exact kk r u.1 u.2 hw1 H1 locs1 ls hP1 (hD1.weaken (fun _ _ _ h => hF _ h)) hS d
set_option maxHeartbeats 1000000 in
theorem x_calllM (K : h_C Γ G l nL cc Ts own fr lc) {y : MethodName} {wsy ws0 : List Cond} {fr' lc' maxL n index : Nat} {As : List Value} {bytes : ByteArray} {ret : Option FieldType} {post : Int64 → hI → hJ → Prop} (hM : h_Ml l y wsy fr' lc' G (As) I J post) {host : String} (hG : GoodIn Ts wsy) (hm : Cond.methodLinkNest own index y host ∈ Ts) (hini : Cond.initialized y.cls ∈ Ts) (him : Cond.static y ∈ Ts) (hd : y.cls ≠ "java/lang/invoke/MethodHandle" ∧ y.cls ≠ "java/lang/invoke/VarHandle" ∧ (parseMethodDescriptor y.desc).map (fun d => d.parameters.length) = some n) (hw : wsy = Cond.code y bytes maxL ret :: ws0) (hfr : fr' + 1 ≤ fr) (hlc : 8 + (maxL + 11) + lc' ≤ lc) (hn : As.length = n) (hst : stk = As.reverse ++ st) (hW : (st.map fun v => v.category).sum ≤ 8) (hdg : decode cc pc = .ok (.invokestatic index, 3))
    (kk : ∀ (r : Int64) (I' : hI) (J' : hJ), post r I' J' → h_WW Γ G (pc + 3) lo (.long r :: st) I' J') : h_WW Γ G pc lo stk I J := fun H locs ls a b c d => by
  subst hst
  have hF := h_A_of b c K.2.2.2.2.2.2.1
  have hM1 := hM H.size
  rw [← K.2.2.2.2.2.2.2.2.2.2.2.1] at hM1
  refine va_calll (va_runSN (As := As) (rest := st) ⟨K.1, K.2.1, K.2.2.1, K.2.2.2.1, K.2.2.2.2.1⟩ hM1 ⟨va_cnB n K.2.2.2.2.1 hG hw rfl rfl (va_Nw.of rfl (K.2.2.2.2.1 _ hm)) (K.2.2.2.2.1 _ hini) hd ⟨Nat.le_trans hfr K.2.2.2.2.2.2.2.1, Nat.le_trans hlc K.2.2.2.2.2.2.2.2.1⟩, K.2.2.2.2.1 _ him, trivial⟩ ⟨h_blind, fun U hU hW => ⟨rfl, by rw [hU], by rw [hU]; exact a, va_K.moved hW.alike K.2.2.2.2.2.1, b.weaken (fun _ _ _ _ => trivial)⟩⟩ rfl hn d.1 rfl (lv_room hW) hdg ⟨K.2.2.2.2.2.2.2.2.2.1, K.2.2.2.2.2.2.2.2.2.2.1⟩) c (fun q _ h => hF q h) hF (fun r u t H1 locs1 ht hvm hw1 hB hz1 hk1 hS => ?_)
  obtain ⟨hP1, hK1, hD1⟩ := hB
  rw [ht] at hP1
  exact kk r u.1 u.2 hw1 H1 locs1 ls hP1 (hD1.weaken (fun _ _ _ h => hF _ h)) hS d
set_option maxHeartbeats 1000000 in
theorem x_callvM (K : h_C Γ G l nL cc Ts own fr lc) {y : MethodName} {wsy ws0 : List Cond} {fr' lc' maxL n index : Nat} {As : List Value} {bytes : ByteArray} {ret : Option FieldType} {post : hI → hJ → Prop} (hM : h_Mv l y wsy fr' lc' G (As) I J post) {host : String} (hG : GoodIn Ts wsy) (hm : Cond.methodLinkNest own index y host ∈ Ts) (hini : Cond.initialized y.cls ∈ Ts) (him : Cond.static y ∈ Ts) (hd : y.cls ≠ "java/lang/invoke/MethodHandle" ∧ y.cls ≠ "java/lang/invoke/VarHandle" ∧ (parseMethodDescriptor y.desc).map (fun d => d.parameters.length) = some n) (hw : wsy = Cond.code y bytes maxL ret :: ws0) (hfr : fr' + 1 ≤ fr) (hlc : 8 + (maxL + 11) + lc' ≤ lc) (hn : As.length = n) (hst : stk = As.reverse ++ st) (hW : (st.map fun v => v.category).sum ≤ 8) (hdg : decode cc pc = .ok (.invokestatic index, 3))
    (kk : ∀ (I' : hI) (J' : hJ), post I' J' → h_WW Γ G (pc + 3) lo st I' J') : h_WW Γ G pc lo stk I J := fun H locs ls a b c d => by
  subst hst
  have hF := h_A_of b c K.2.2.2.2.2.2.1
  have hM1 := hM H.size
  rw [← K.2.2.2.2.2.2.2.2.2.2.2.1] at hM1
  refine va_callv (va_runSN (As := As) (rest := st) ⟨K.1, K.2.1, K.2.2.1, K.2.2.2.1, K.2.2.2.2.1⟩ hM1 ⟨va_cnB n K.2.2.2.2.1 hG hw rfl rfl (va_Nw.of rfl (K.2.2.2.2.1 _ hm)) (K.2.2.2.2.1 _ hini) hd ⟨Nat.le_trans hfr K.2.2.2.2.2.2.2.1, Nat.le_trans hlc K.2.2.2.2.2.2.2.2.1⟩, K.2.2.2.2.1 _ him, trivial⟩ ⟨h_blind, fun U hU hW => ⟨rfl, by rw [hU], by rw [hU]; exact a, va_K.moved hW.alike K.2.2.2.2.2.1, b.weaken (fun _ _ _ _ => trivial)⟩⟩ rfl hn d.1 rfl (lv_room hW) hdg ⟨K.2.2.2.2.2.2.2.2.2.1, K.2.2.2.2.2.2.2.2.2.2.1⟩) c (fun q _ h => hF q h) hF (fun u t H1 locs1 ht hvm hw1 hB hz1 hk1 hS => ?_)
  obtain ⟨hP1, hK1, hD1⟩ := hB
  rw [ht] at hP1
  exact kk u.1 u.2 hw1 H1 locs1 ls hP1 (hD1.weaken (fun _ _ _ h => hF _ h)) hS d
end HC
/-- a truth as the machine holds it -/
def bz (c : Prop) [Decidable c] : Int32 := if c then 1 else 0
theorem bz_t {c : Prop} [Decidable c] (h : c) : (1 : Int32) = bz c := (if_pos h).symm
theorem bz_f {c : Prop} [Decidable c] (h : ¬ c) : (0 : Int32) = bz c := (if_neg h).symm
theorem bz_0 {c : Prop} [Decidable c] : bz c = 0 ↔ ¬ c := by unfold bz; split <;> simp_all
theorem bz_1 {c : Prop} [Decidable c] : bz c = 1 ↔ c := by unfold bz; split <;> simp_all
theorem bz_n0 {c : Prop} [Decidable c] : ¬ bz c = 0 ↔ c := by unfold bz; split <;> simp_all
theorem bz_nar {c : Prop} [Decidable c] : narrow .boolean (.int (bz c)) = .int (bz c) := by unfold bz; split <;> rfl
theorem bz_fit {c : Prop} [Decidable c] : fits .boolean (.int (bz c)) = true := by unfold bz; split <;> rfl
end
section
theorem zz_end : True := trivial
end
