section
-- ===== PART A: goes FIRST, ahead of the names: the tables' words, and 'selects' of the private methods out of them =====
/-- a private method of a class that the tables say can be made, by its rows of tables_1 -/
def lw_okq (q : MethodName × Nat) : Prop := (q.1.cls ≠ "java/lang/invoke/MethodHandle" ∧ q.1.cls ≠ "java/lang/invoke/VarHandle") ∧ Cond.instantiable q.1.cls q.2 ∈ tables_1 ∧ Cond.privateMethod q.1 ∈ tables_1 ∧ Cond.instanceMethod q.1 ∈ tables_1
theorem lw_p0 : lw_okq (⟨"WindRoses$History", "placeOf", "(I)I"⟩, 3) := ⟨⟨by decide +kernel, by decide +kernel⟩, List.mem_of_getElem? (i := 34) (by decide +kernel), List.mem_of_getElem? (i := 209) (by decide +kernel), List.mem_of_getElem? (i := 210) (by decide +kernel)⟩
theorem lw_p1 : lw_okq (⟨"WindRoses", "wouldMixBounds", "(II)Z"⟩, 9) := ⟨⟨by decide +kernel, by decide +kernel⟩, List.mem_of_getElem? (i := 12) (by decide +kernel), List.mem_of_getElem? (i := 260) (by decide +kernel), List.mem_of_getElem? (i := 261) (by decide +kernel)⟩
theorem lw_p2 : lw_okq (⟨"WindRoses", "obstacleTo", "(I)I"⟩, 9) := ⟨⟨by decide +kernel, by decide +kernel⟩, List.mem_of_getElem? (i := 12) (by decide +kernel), List.mem_of_getElem? (i := 276) (by decide +kernel), List.mem_of_getElem? (i := 277) (by decide +kernel)⟩
theorem lw_p3 : lw_okq (⟨"WindRoses$Shares", "divide", "(LWindRoses$Desk;I)V"⟩, 4) := ⟨⟨by decide +kernel, by decide +kernel⟩, List.mem_of_getElem? (i := 97) (by decide +kernel), List.mem_of_getElem? (i := 288) (by decide +kernel), List.mem_of_getElem? (i := 289) (by decide +kernel)⟩
theorem lw_p4 : lw_okq (⟨"WindRoses$Shares", "makeEmpty", "()V"⟩, 4) := ⟨⟨by decide +kernel, by decide +kernel⟩, List.mem_of_getElem? (i := 97) (by decide +kernel), List.mem_of_getElem? (i := 293) (by decide +kernel), List.mem_of_getElem? (i := 294) (by decide +kernel)⟩
theorem lw_p5 : lw_okq (⟨"WindRoses$Desk", "hoursBetween", "(IIII)I"⟩, 2) := ⟨⟨by decide +kernel, by decide +kernel⟩, List.mem_of_getElem? (i := 20) (by decide +kernel), List.mem_of_getElem? (i := 305) (by decide +kernel), List.mem_of_getElem? (i := 306) (by decide +kernel)⟩
theorem lw_p6 : lw_okq (⟨"WindRoses$Shares", "partsAhead", "(I)I"⟩, 4) := ⟨⟨by decide +kernel, by decide +kernel⟩, List.mem_of_getElem? (i := 97) (by decide +kernel), List.mem_of_getElem? (i := 309) (by decide +kernel), List.mem_of_getElem? (i := 310) (by decide +kernel)⟩
theorem lw_p7 : lw_okq (⟨"WindRoses$Gap", "compare", "(II)V"⟩, 4) := ⟨⟨by decide +kernel, by decide +kernel⟩, List.mem_of_getElem? (i := 120) (by decide +kernel), List.mem_of_getElem? (i := 317) (by decide +kernel), List.mem_of_getElem? (i := 318) (by decide +kernel)⟩
theorem lw_p8 : lw_okq (⟨"WindRoses$Reader", "readEntry", "(I)Z"⟩, 7) := ⟨⟨by decide +kernel, by decide +kernel⟩, List.mem_of_getElem? (i := 66) (by decide +kernel), List.mem_of_getElem? (i := 393) (by decide +kernel), List.mem_of_getElem? (i := 394) (by decide +kernel)⟩
theorem lw_p9 : lw_okq (⟨"WindRoses$Reader", "readNumber", "(II)I"⟩, 7) := ⟨⟨by decide +kernel, by decide +kernel⟩, List.mem_of_getElem? (i := 66) (by decide +kernel), List.mem_of_getElem? (i := 397) (by decide +kernel), List.mem_of_getElem? (i := 398) (by decide +kernel)⟩
theorem lw_p10 : lw_okq (⟨"WindRoses$Reader", "take", "(C)Z"⟩, 7) := ⟨⟨by decide +kernel, by decide +kernel⟩, List.mem_of_getElem? (i := 66) (by decide +kernel), List.mem_of_getElem? (i := 407) (by decide +kernel), List.mem_of_getElem? (i := 408) (by decide +kernel)⟩
theorem lw_p11 : lw_okq (⟨"WindRoses$Reader", "readWind", "(I)Z"⟩, 7) := ⟨⟨by decide +kernel, by decide +kernel⟩, List.mem_of_getElem? (i := 66) (by decide +kernel), List.mem_of_getElem? (i := 416) (by decide +kernel), List.mem_of_getElem? (i := 417) (by decide +kernel)⟩
theorem lw_p12 : lw_okq (⟨"WindRoses$Reader", "readHours", "(I)Z"⟩, 7) := ⟨⟨by decide +kernel, by decide +kernel⟩, List.mem_of_getElem? (i := 66) (by decide +kernel), List.mem_of_getElem? (i := 420) (by decide +kernel), List.mem_of_getElem? (i := 421) (by decide +kernel)⟩
theorem lw_p13 : lw_okq (⟨"WindRoses$Desk", "sumOfRoses", "(I)I"⟩, 2) := ⟨⟨by decide +kernel, by decide +kernel⟩, List.mem_of_getElem? (i := 20) (by decide +kernel), List.mem_of_getElem? (i := 456) (by decide +kernel), List.mem_of_getElem? (i := 457) (by decide +kernel)⟩
theorem lw_p14 : lw_okq (⟨"WindRoses", "greatestSpeed", "(I)I"⟩, 9) := ⟨⟨by decide +kernel, by decide +kernel⟩, List.mem_of_getElem? (i := 12) (by decide +kernel), List.mem_of_getElem? (i := 471) (by decide +kernel), List.mem_of_getElem? (i := 472) (by decide +kernel)⟩
theorem lw_p15 : lw_okq (⟨"WindRoses", "meanSpeed", "(I)I"⟩, 9) := ⟨⟨by decide +kernel, by decide +kernel⟩, List.mem_of_getElem? (i := 12) (by decide +kernel), List.mem_of_getElem? (i := 480) (by decide +kernel), List.mem_of_getElem? (i := 481) (by decide +kernel)⟩
def lw_privs_1 : List (MethodName × Nat) := [(⟨"WindRoses$History", "placeOf", "(I)I"⟩, 3), (⟨"WindRoses", "wouldMixBounds", "(II)Z"⟩, 9), (⟨"WindRoses", "obstacleTo", "(I)I"⟩, 9), (⟨"WindRoses$Shares", "divide", "(LWindRoses$Desk;I)V"⟩, 4), (⟨"WindRoses$Shares", "makeEmpty", "()V"⟩, 4), (⟨"WindRoses$Desk", "hoursBetween", "(IIII)I"⟩, 2), (⟨"WindRoses$Shares", "partsAhead", "(I)I"⟩, 4), (⟨"WindRoses$Gap", "compare", "(II)V"⟩, 4), (⟨"WindRoses$Reader", "readEntry", "(I)Z"⟩, 7), (⟨"WindRoses$Reader", "readNumber", "(II)I"⟩, 7), (⟨"WindRoses$Reader", "take", "(C)Z"⟩, 7), (⟨"WindRoses$Reader", "readWind", "(I)Z"⟩, 7), (⟨"WindRoses$Reader", "readHours", "(I)Z"⟩, 7), (⟨"WindRoses$Desk", "sumOfRoses", "(I)I"⟩, 2), (⟨"WindRoses", "greatestSpeed", "(I)I"⟩, 9), (⟨"WindRoses", "meanSpeed", "(I)I"⟩, 9)]
theorem lw_r1 : ∀ q ∈ lw_privs_1, lw_okq q := List.forall_mem_cons.mpr ⟨lw_p0, List.forall_mem_cons.mpr ⟨lw_p1, List.forall_mem_cons.mpr ⟨lw_p2, List.forall_mem_cons.mpr ⟨lw_p3, List.forall_mem_cons.mpr ⟨lw_p4, List.forall_mem_cons.mpr ⟨lw_p5, List.forall_mem_cons.mpr ⟨lw_p6, List.forall_mem_cons.mpr ⟨lw_p7, List.forall_mem_cons.mpr ⟨lw_p8, List.forall_mem_cons.mpr ⟨lw_p9, List.forall_mem_cons.mpr ⟨lw_p10, List.forall_mem_cons.mpr ⟨lw_p11, List.forall_mem_cons.mpr ⟨lw_p12, List.forall_mem_cons.mpr ⟨lw_p13, List.forall_mem_cons.mpr ⟨lw_p14, List.forall_mem_cons.mpr ⟨lw_p15, fun _ h => absurd h List.not_mem_nil⟩⟩⟩⟩⟩⟩⟩⟩⟩⟩⟩⟩⟩⟩⟩⟩
theorem lw_p16 : lw_okq (⟨"WindRoses", "prevailingDirection", "(I)I"⟩, 9) := ⟨⟨by decide +kernel, by decide +kernel⟩, List.mem_of_getElem? (i := 12) (by decide +kernel), List.mem_of_getElem? (i := 489) (by decide +kernel), List.mem_of_getElem? (i := 490) (by decide +kernel)⟩
theorem lw_p17 : lw_okq (⟨"WindRoses$Shares", "giveOne", "()V"⟩, 4) := ⟨⟨by decide +kernel, by decide +kernel⟩, List.mem_of_getElem? (i := 97) (by decide +kernel), List.mem_of_getElem? (i := 522) (by decide +kernel), List.mem_of_getElem? (i := 523) (by decide +kernel)⟩
theorem lw_p18 : lw_okq (⟨"WindRoses", "hoursFrom", "(II)I"⟩, 9) := ⟨⟨by decide +kernel, by decide +kernel⟩, List.mem_of_getElem? (i := 12) (by decide +kernel), List.mem_of_getElem? (i := 530) (by decide +kernel), List.mem_of_getElem? (i := 531) (by decide +kernel)⟩
theorem lw_p19 : lw_okq (⟨"WindRoses", "platesNotAsDue", "()I"⟩, 9) := ⟨⟨by decide +kernel, by decide +kernel⟩, List.mem_of_getElem? (i := 12) (by decide +kernel), List.mem_of_getElem? (i := 585) (by decide +kernel), List.mem_of_getElem? (i := 586) (by decide +kernel)⟩
theorem lw_p20 : lw_okq (⟨"WindRosesModel", "hoursOf", "(I)I"⟩, 11) := ⟨⟨by decide +kernel, by decide +kernel⟩, List.mem_of_getElem? (i := 601) (by decide +kernel), List.mem_of_getElem? (i := 661) (by decide +kernel), List.mem_of_getElem? (i := 662) (by decide +kernel)⟩
theorem lw_p21 : lw_okq (⟨"WindRosesModel", "looks", "(I)I"⟩, 11) := ⟨⟨by decide +kernel, by decide +kernel⟩, List.mem_of_getElem? (i := 601) (by decide +kernel), List.mem_of_getElem? (i := 665) (by decide +kernel), List.mem_of_getElem? (i := 666) (by decide +kernel)⟩
theorem lw_p22 : lw_okq (⟨"WindRosesModel", "at", "(III)I"⟩, 11) := ⟨⟨by decide +kernel, by decide +kernel⟩, List.mem_of_getElem? (i := 601) (by decide +kernel), List.mem_of_getElem? (i := 669) (by decide +kernel), List.mem_of_getElem? (i := 670) (by decide +kernel)⟩
theorem lw_p23 : lw_okq (⟨"WindRosesModel", "kindOf", "(I)I"⟩, 11) := ⟨⟨by decide +kernel, by decide +kernel⟩, List.mem_of_getElem? (i := 601) (by decide +kernel), List.mem_of_getElem? (i := 677) (by decide +kernel), List.mem_of_getElem? (i := 678) (by decide +kernel)⟩
theorem lw_p24 : lw_okq (⟨"WindRosesModel", "calmOf", "(I)I"⟩, 11) := ⟨⟨by decide +kernel, by decide +kernel⟩, List.mem_of_getElem? (i := 601) (by decide +kernel), List.mem_of_getElem? (i := 681) (by decide +kernel), List.mem_of_getElem? (i := 682) (by decide +kernel)⟩
theorem lw_p25 : lw_okq (⟨"WindRosesModel", "num", "(I)I"⟩, 11) := ⟨⟨by decide +kernel, by decide +kernel⟩, List.mem_of_getElem? (i := 601) (by decide +kernel), List.mem_of_getElem? (i := 685) (by decide +kernel), List.mem_of_getElem? (i := 686) (by decide +kernel)⟩
theorem lw_p26 : lw_okq (⟨"WindRosesModel", "remembers", "()V"⟩, 11) := ⟨⟨by decide +kernel, by decide +kernel⟩, List.mem_of_getElem? (i := 601) (by decide +kernel), List.mem_of_getElem? (i := 689) (by decide +kernel), List.mem_of_getElem? (i := 690) (by decide +kernel)⟩
theorem lw_p27 : lw_okq (⟨"WindRosesModel", "puts", "(IIII)V"⟩, 11) := ⟨⟨by decide +kernel, by decide +kernel⟩, List.mem_of_getElem? (i := 601) (by decide +kernel), List.mem_of_getElem? (i := 693) (by decide +kernel), List.mem_of_getElem? (i := 694) (by decide +kernel)⟩
theorem lw_p28 : lw_okq (⟨"WindRosesModel", "isTooMuch", "(I)Z"⟩, 11) := ⟨⟨by decide +kernel, by decide +kernel⟩, List.mem_of_getElem? (i := 601) (by decide +kernel), List.mem_of_getElem? (i := 717) (by decide +kernel), List.mem_of_getElem? (i := 718) (by decide +kernel)⟩
theorem lw_p29 : lw_okq (⟨"WindRosesModel", "needs", "(I)I"⟩, 11) := ⟨⟨by decide +kernel, by decide +kernel⟩, List.mem_of_getElem? (i := 601) (by decide +kernel), List.mem_of_getElem? (i := 721) (by decide +kernel), List.mem_of_getElem? (i := 722) (by decide +kernel)⟩
theorem lw_p30 : lw_okq (⟨"WindRosesModel", "calmShare", "(I)I"⟩, 11) := ⟨⟨by decide +kernel, by decide +kernel⟩, List.mem_of_getElem? (i := 601) (by decide +kernel), List.mem_of_getElem? (i := 725) (by decide +kernel), List.mem_of_getElem? (i := 726) (by decide +kernel)⟩
theorem lw_p31 : lw_okq (⟨"WindRosesModel", "finds", "(I)V"⟩, 11) := ⟨⟨by decide +kernel, by decide +kernel⟩, List.mem_of_getElem? (i := 601) (by decide +kernel), List.mem_of_getElem? (i := 729) (by decide +kernel), List.mem_of_getElem? (i := 730) (by decide +kernel)⟩
def lw_privs_2 : List (MethodName × Nat) := [(⟨"WindRoses", "prevailingDirection", "(I)I"⟩, 9), (⟨"WindRoses$Shares", "giveOne", "()V"⟩, 4), (⟨"WindRoses", "hoursFrom", "(II)I"⟩, 9), (⟨"WindRoses", "platesNotAsDue", "()I"⟩, 9), (⟨"WindRosesModel", "hoursOf", "(I)I"⟩, 11), (⟨"WindRosesModel", "looks", "(I)I"⟩, 11), (⟨"WindRosesModel", "at", "(III)I"⟩, 11), (⟨"WindRosesModel", "kindOf", "(I)I"⟩, 11), (⟨"WindRosesModel", "calmOf", "(I)I"⟩, 11), (⟨"WindRosesModel", "num", "(I)I"⟩, 11), (⟨"WindRosesModel", "remembers", "()V"⟩, 11), (⟨"WindRosesModel", "puts", "(IIII)V"⟩, 11), (⟨"WindRosesModel", "isTooMuch", "(I)Z"⟩, 11), (⟨"WindRosesModel", "needs", "(I)I"⟩, 11), (⟨"WindRosesModel", "calmShare", "(I)I"⟩, 11), (⟨"WindRosesModel", "finds", "(I)V"⟩, 11)]
theorem lw_r2 : ∀ q ∈ lw_privs_2, lw_okq q := List.forall_mem_cons.mpr ⟨lw_p16, List.forall_mem_cons.mpr ⟨lw_p17, List.forall_mem_cons.mpr ⟨lw_p18, List.forall_mem_cons.mpr ⟨lw_p19, List.forall_mem_cons.mpr ⟨lw_p20, List.forall_mem_cons.mpr ⟨lw_p21, List.forall_mem_cons.mpr ⟨lw_p22, List.forall_mem_cons.mpr ⟨lw_p23, List.forall_mem_cons.mpr ⟨lw_p24, List.forall_mem_cons.mpr ⟨lw_p25, List.forall_mem_cons.mpr ⟨lw_p26, List.forall_mem_cons.mpr ⟨lw_p27, List.forall_mem_cons.mpr ⟨lw_p28, List.forall_mem_cons.mpr ⟨lw_p29, List.forall_mem_cons.mpr ⟨lw_p30, List.forall_mem_cons.mpr ⟨lw_p31, fun _ h => absurd h List.not_mem_nil⟩⟩⟩⟩⟩⟩⟩⟩⟩⟩⟩⟩⟩⟩⟩⟩
theorem lw_p32 : lw_okq (⟨"WindRosesModel", "ahead", "(II)I"⟩, 11) := ⟨⟨by decide +kernel, by decide +kernel⟩, List.mem_of_getElem? (i := 601) (by decide +kernel), List.mem_of_getElem? (i := 733) (by decide +kernel), List.mem_of_getElem? (i := 734) (by decide +kernel)⟩
theorem lw_p33 : lw_okq (⟨"WindRosesModel", "petalOf", "(II)I"⟩, 11) := ⟨⟨by decide +kernel, by decide +kernel⟩, List.mem_of_getElem? (i := 601) (by decide +kernel), List.mem_of_getElem? (i := 737) (by decide +kernel), List.mem_of_getElem? (i := 738) (by decide +kernel)⟩
theorem lw_p34 : lw_okq (⟨"WindRosesModel", "differs", "(I)I"⟩, 11) := ⟨⟨by decide +kernel, by decide +kernel⟩, List.mem_of_getElem? (i := 601) (by decide +kernel), List.mem_of_getElem? (i := 741) (by decide +kernel), List.mem_of_getElem? (i := 742) (by decide +kernel)⟩
theorem lw_p35 : lw_okq (⟨"WindRosesModel", "petals", "(I)I"⟩, 11) := ⟨⟨by decide +kernel, by decide +kernel⟩, List.mem_of_getElem? (i := 601) (by decide +kernel), List.mem_of_getElem? (i := 749) (by decide +kernel), List.mem_of_getElem? (i := 750) (by decide +kernel)⟩
theorem lw_p36 : lw_okq (⟨"WindRosesModel", "faultAt", "()I"⟩, 11) := ⟨⟨by decide +kernel, by decide +kernel⟩, List.mem_of_getElem? (i := 601) (by decide +kernel), List.mem_of_getElem? (i := 765) (by decide +kernel), List.mem_of_getElem? (i := 766) (by decide +kernel)⟩
theorem lw_p37 : lw_okq (⟨"WindRosesModel", "itemEnd", "(I)I"⟩, 11) := ⟨⟨by decide +kernel, by decide +kernel⟩, List.mem_of_getElem? (i := 601) (by decide +kernel), List.mem_of_getElem? (i := 769) (by decide +kernel), List.mem_of_getElem? (i := 770) (by decide +kernel)⟩
theorem lw_p38 : lw_okq (⟨"WindRosesModel", "headEnd", "(I)I"⟩, 11) := ⟨⟨by decide +kernel, by decide +kernel⟩, List.mem_of_getElem? (i := 601) (by decide +kernel), List.mem_of_getElem? (i := 773) (by decide +kernel), List.mem_of_getElem? (i := 774) (by decide +kernel)⟩
theorem lw_p39 : lw_okq (⟨"WindRosesModel", "numberEnd", "(III)I"⟩, 11) := ⟨⟨by decide +kernel, by decide +kernel⟩, List.mem_of_getElem? (i := 601) (by decide +kernel), List.mem_of_getElem? (i := 777) (by decide +kernel), List.mem_of_getElem? (i := 778) (by decide +kernel)⟩
theorem lw_p40 : lw_okq (⟨"WindRosesModel", "digit", "(I)I"⟩, 11) := ⟨⟨by decide +kernel, by decide +kernel⟩, List.mem_of_getElem? (i := 601) (by decide +kernel), List.mem_of_getElem? (i := 781) (by decide +kernel), List.mem_of_getElem? (i := 782) (by decide +kernel)⟩
theorem lw_p41 : lw_okq (⟨"WindRosesModel", "sign", "(I)I"⟩, 11) := ⟨⟨by decide +kernel, by decide +kernel⟩, List.mem_of_getElem? (i := 601) (by decide +kernel), List.mem_of_getElem? (i := 785) (by decide +kernel), List.mem_of_getElem? (i := 786) (by decide +kernel)⟩
theorem lw_p42 : lw_okq (⟨"WindRosesModel", "behind", "(II)I"⟩, 11) := ⟨⟨by decide +kernel, by decide +kernel⟩, List.mem_of_getElem? (i := 601) (by decide +kernel), List.mem_of_getElem? (i := 789) (by decide +kernel), List.mem_of_getElem? (i := 790) (by decide +kernel)⟩
theorem lw_p43 : lw_okq (⟨"WindRosesModel", "windEnd", "(I)I"⟩, 11) := ⟨⟨by decide +kernel, by decide +kernel⟩, List.mem_of_getElem? (i := 601) (by decide +kernel), List.mem_of_getElem? (i := 793) (by decide +kernel), List.mem_of_getElem? (i := 794) (by decide +kernel)⟩
theorem lw_p44 : lw_okq (⟨"WindRosesModel", "hoursOfText", "(I)I"⟩, 11) := ⟨⟨by decide +kernel, by decide +kernel⟩, List.mem_of_getElem? (i := 601) (by decide +kernel), List.mem_of_getElem? (i := 797) (by decide +kernel), List.mem_of_getElem? (i := 798) (by decide +kernel)⟩
theorem lw_p45 : lw_okq (⟨"WindRosesModel", "roseAt", "(I)I"⟩, 11) := ⟨⟨by decide +kernel, by decide +kernel⟩, List.mem_of_getElem? (i := 601) (by decide +kernel), List.mem_of_getElem? (i := 801) (by decide +kernel), List.mem_of_getElem? (i := 802) (by decide +kernel)⟩
theorem lw_p46 : lw_okq (⟨"WindRosesModel", "hoursAt", "(I)I"⟩, 11) := ⟨⟨by decide +kernel, by decide +kernel⟩, List.mem_of_getElem? (i := 601) (by decide +kernel), List.mem_of_getElem? (i := 805) (by decide +kernel), List.mem_of_getElem? (i := 806) (by decide +kernel)⟩
theorem lw_p47 : lw_okq (⟨"WindRosesModel", "numberIn", "(II)I"⟩, 11) := ⟨⟨by decide +kernel, by decide +kernel⟩, List.mem_of_getElem? (i := 601) (by decide +kernel), List.mem_of_getElem? (i := 809) (by decide +kernel), List.mem_of_getElem? (i := 810) (by decide +kernel)⟩
def lw_privs_3 : List (MethodName × Nat) := [(⟨"WindRosesModel", "ahead", "(II)I"⟩, 11), (⟨"WindRosesModel", "petalOf", "(II)I"⟩, 11), (⟨"WindRosesModel", "differs", "(I)I"⟩, 11), (⟨"WindRosesModel", "petals", "(I)I"⟩, 11), (⟨"WindRosesModel", "faultAt", "()I"⟩, 11), (⟨"WindRosesModel", "itemEnd", "(I)I"⟩, 11), (⟨"WindRosesModel", "headEnd", "(I)I"⟩, 11), (⟨"WindRosesModel", "numberEnd", "(III)I"⟩, 11), (⟨"WindRosesModel", "digit", "(I)I"⟩, 11), (⟨"WindRosesModel", "sign", "(I)I"⟩, 11), (⟨"WindRosesModel", "behind", "(II)I"⟩, 11), (⟨"WindRosesModel", "windEnd", "(I)I"⟩, 11), (⟨"WindRosesModel", "hoursOfText", "(I)I"⟩, 11), (⟨"WindRosesModel", "roseAt", "(I)I"⟩, 11), (⟨"WindRosesModel", "hoursAt", "(I)I"⟩, 11), (⟨"WindRosesModel", "numberIn", "(II)I"⟩, 11)]
theorem lw_r3 : ∀ q ∈ lw_privs_3, lw_okq q := List.forall_mem_cons.mpr ⟨lw_p32, List.forall_mem_cons.mpr ⟨lw_p33, List.forall_mem_cons.mpr ⟨lw_p34, List.forall_mem_cons.mpr ⟨lw_p35, List.forall_mem_cons.mpr ⟨lw_p36, List.forall_mem_cons.mpr ⟨lw_p37, List.forall_mem_cons.mpr ⟨lw_p38, List.forall_mem_cons.mpr ⟨lw_p39, List.forall_mem_cons.mpr ⟨lw_p40, List.forall_mem_cons.mpr ⟨lw_p41, List.forall_mem_cons.mpr ⟨lw_p42, List.forall_mem_cons.mpr ⟨lw_p43, List.forall_mem_cons.mpr ⟨lw_p44, List.forall_mem_cons.mpr ⟨lw_p45, List.forall_mem_cons.mpr ⟨lw_p46, List.forall_mem_cons.mpr ⟨lw_p47, fun _ h => absurd h List.not_mem_nil⟩⟩⟩⟩⟩⟩⟩⟩⟩⟩⟩⟩⟩⟩⟩⟩
theorem lw_p48 : lw_okq (⟨"WindRosesModel", "logs", "(I)V"⟩, 11) := ⟨⟨by decide +kernel, by decide +kernel⟩, List.mem_of_getElem? (i := 601) (by decide +kernel), List.mem_of_getElem? (i := 813) (by decide +kernel), List.mem_of_getElem? (i := 814) (by decide +kernel)⟩
theorem lw_p49 : lw_okq (⟨"WindRosesModel", "allHours", "(I)I"⟩, 11) := ⟨⟨by decide +kernel, by decide +kernel⟩, List.mem_of_getElem? (i := 601) (by decide +kernel), List.mem_of_getElem? (i := 825) (by decide +kernel), List.mem_of_getElem? (i := 826) (by decide +kernel)⟩
theorem lw_p50 : lw_okq (⟨"WindRosesModel", "ofRose", "(II)I"⟩, 11) := ⟨⟨by decide +kernel, by decide +kernel⟩, List.mem_of_getElem? (i := 601) (by decide +kernel), List.mem_of_getElem? (i := 837) (by decide +kernel), List.mem_of_getElem? (i := 838) (by decide +kernel)⟩
theorem lw_p51 : lw_okq (⟨"WindRosesModel", "greatestSpeed", "(I)I"⟩, 11) := ⟨⟨by decide +kernel, by decide +kernel⟩, List.mem_of_getElem? (i := 601) (by decide +kernel), List.mem_of_getElem? (i := 841) (by decide +kernel), List.mem_of_getElem? (i := 842) (by decide +kernel)⟩
theorem lw_p52 : lw_okq (⟨"WindRosesModel", "meanSpeed", "(I)I"⟩, 11) := ⟨⟨by decide +kernel, by decide +kernel⟩, List.mem_of_getElem? (i := 601) (by decide +kernel), List.mem_of_getElem? (i := 845) (by decide +kernel), List.mem_of_getElem? (i := 846) (by decide +kernel)⟩
theorem lw_p53 : lw_okq (⟨"WindRosesModel", "ofKind", "(I)I"⟩, 11) := ⟨⟨by decide +kernel, by decide +kernel⟩, List.mem_of_getElem? (i := 601) (by decide +kernel), List.mem_of_getElem? (i := 849) (by decide +kernel), List.mem_of_getElem? (i := 850) (by decide +kernel)⟩
theorem lw_p54 : lw_okq (⟨"WindRosesModel", "prevailing", "(I)I"⟩, 11) := ⟨⟨by decide +kernel, by decide +kernel⟩, List.mem_of_getElem? (i := 601) (by decide +kernel), List.mem_of_getElem? (i := 853) (by decide +kernel), List.mem_of_getElem? (i := 854) (by decide +kernel)⟩
theorem lw_p55 : lw_okq (⟨"WindRosesModel", "ofDirection", "(I)I"⟩, 11) := ⟨⟨by decide +kernel, by decide +kernel⟩, List.mem_of_getElem? (i := 601) (by decide +kernel), List.mem_of_getElem? (i := 857) (by decide +kernel), List.mem_of_getElem? (i := 858) (by decide +kernel)⟩
theorem lw_p56 : lw_okq (⟨"WindRosesModel", "deals", "(I)V"⟩, 11) := ⟨⟨by decide +kernel, by decide +kernel⟩, List.mem_of_getElem? (i := 601) (by decide +kernel), List.mem_of_getElem? (i := 876) (by decide +kernel), List.mem_of_getElem? (i := 877) (by decide +kernel)⟩
theorem lw_p57 : lw_okq (⟨"WindRosesModel", "longest", "(I)I"⟩, 11) := ⟨⟨by decide +kernel, by decide +kernel⟩, List.mem_of_getElem? (i := 601) (by decide +kernel), List.mem_of_getElem? (i := 900) (by decide +kernel), List.mem_of_getElem? (i := 901) (by decide +kernel)⟩
theorem lw_p58 : lw_okq (⟨"WindRosesModel", "farOff", "(I)I"⟩, 11) := ⟨⟨by decide +kernel, by decide +kernel⟩, List.mem_of_getElem? (i := 601) (by decide +kernel), List.mem_of_getElem? (i := 904) (by decide +kernel), List.mem_of_getElem? (i := 905) (by decide +kernel)⟩
theorem lw_p59 : lw_okq (⟨"WindRosesModel", "reasonOf", "(I)I"⟩, 11) := ⟨⟨by decide +kernel, by decide +kernel⟩, List.mem_of_getElem? (i := 601) (by decide +kernel), List.mem_of_getElem? (i := 916) (by decide +kernel), List.mem_of_getElem? (i := 917) (by decide +kernel)⟩
theorem lw_p60 : lw_okq (⟨"WindRosesModel", "ofPlates", "(I)I"⟩, 11) := ⟨⟨by decide +kernel, by decide +kernel⟩, List.mem_of_getElem? (i := 601) (by decide +kernel), List.mem_of_getElem? (i := 928) (by decide +kernel), List.mem_of_getElem? (i := 929) (by decide +kernel)⟩
def lw_privs_4 : List (MethodName × Nat) := [(⟨"WindRosesModel", "logs", "(I)V"⟩, 11), (⟨"WindRosesModel", "allHours", "(I)I"⟩, 11), (⟨"WindRosesModel", "ofRose", "(II)I"⟩, 11), (⟨"WindRosesModel", "greatestSpeed", "(I)I"⟩, 11), (⟨"WindRosesModel", "meanSpeed", "(I)I"⟩, 11), (⟨"WindRosesModel", "ofKind", "(I)I"⟩, 11), (⟨"WindRosesModel", "prevailing", "(I)I"⟩, 11), (⟨"WindRosesModel", "ofDirection", "(I)I"⟩, 11), (⟨"WindRosesModel", "deals", "(I)V"⟩, 11), (⟨"WindRosesModel", "longest", "(I)I"⟩, 11), (⟨"WindRosesModel", "farOff", "(I)I"⟩, 11), (⟨"WindRosesModel", "reasonOf", "(I)I"⟩, 11), (⟨"WindRosesModel", "ofPlates", "(I)I"⟩, 11)]
theorem lw_r4 : ∀ q ∈ lw_privs_4, lw_okq q := List.forall_mem_cons.mpr ⟨lw_p48, List.forall_mem_cons.mpr ⟨lw_p49, List.forall_mem_cons.mpr ⟨lw_p50, List.forall_mem_cons.mpr ⟨lw_p51, List.forall_mem_cons.mpr ⟨lw_p52, List.forall_mem_cons.mpr ⟨lw_p53, List.forall_mem_cons.mpr ⟨lw_p54, List.forall_mem_cons.mpr ⟨lw_p55, List.forall_mem_cons.mpr ⟨lw_p56, List.forall_mem_cons.mpr ⟨lw_p57, List.forall_mem_cons.mpr ⟨lw_p58, List.forall_mem_cons.mpr ⟨lw_p59, List.forall_mem_cons.mpr ⟨lw_p60, fun _ h => absurd h List.not_mem_nil⟩⟩⟩⟩⟩⟩⟩⟩⟩⟩⟩⟩⟩
def lw_privs : List (MethodName × Nat) := lw_privs_1 ++ (lw_privs_2 ++ (lw_privs_3 ++ (lw_privs_4)))
def lw_tbl : List Cond := k2_sels lw_privs ++ tables_1
theorem lw_privs_ok : ∀ q ∈ lw_privs, lw_okq q := by
  show ∀ q ∈ lw_privs_1 ++ (lw_privs_2 ++ (lw_privs_3 ++ (lw_privs_4))), lw_okq q
  exact List.forall_mem_append.mpr ⟨lw_r1, List.forall_mem_append.mpr ⟨lw_r2, List.forall_mem_append.mpr ⟨lw_r3, lw_r4⟩⟩⟩
-- ===== end of PART A; then your names; then what follows =====
/-! ===== BEGIN words of one list among another's, by their places ===== -/
theorem goodIn_r {big : List Cond} (ws : List Cond) (ps : List Nat) (hp : ws = ps.filterMap (fun i => big[i]?)) (h : ws.all goodWord = true) : GoodIn big ws := by
  intro w hw
  have h1 := List.all_eq_true.mp h w hw
  rw [hp] at hw
  obtain ⟨i, -, hi⟩ := List.mem_filterMap.mp hw
  have hm : w ∈ big := by first | exact List.mem_of_getElem? hi | exact List.getElem?_mem hi
  exact ⟨hm, good_of_word h1⟩
theorem goodIn_app {big a b : List Cond} (ha : GoodIn big a) (hb : GoodIn big b) : GoodIn big (a ++ b) := fun w h => (List.mem_append.mp h).elim (ha w) (hb w)
theorem goodIn_ca {big a b : List Cond} {c : Cond} (ha : GoodIn big (c :: a)) (hb : GoodIn big b) : GoodIn big (c :: (a ++ b)) := fun w h => (List.mem_cons.mp h).elim (fun e => ha w (List.mem_cons.mpr (Or.inl e))) (fun h => (List.mem_append.mp h).elim (fun h => ha w (List.mem_cons.mpr (Or.inr h))) (hb w))
theorem goodIn_sub {big ws : List Cond} (hm : ∀ w ∈ ws, w ∈ big) (h : ws.all goodWord = true) : GoodIn big ws := fun w hw => ⟨hm w hw, good_of_word (List.all_eq_true.mp h w hw)⟩
/-! ===== END ===== -/

/-! ===== BEGIN printed: names, fields, word lists, decode rows ===== -/
def RX0 : String := "WindRoses$Desk"
def TX0 : u_T := fun k => match k with
  | 0 => ("WindRoses$Desk", "row", "[I", true)
  | _ => ("WindRoses$Desk", "turning", "[I", true)
def tyX0 : Nat → FieldType := fun k => match k with
  | 0 => .array .int
  | _ => .array .int
abbrev wsX00 : List Cond := u_ws RX0 TX0 2
theorem nmX0 : ∀ a, a < 2 → ∀ b, b < 2 → a ≠ b → (TX0 a).2.1 ≠ (TX0 b).2.1 := by decide +kernel
theorem tyX0_ok : ∀ k, k < 2 → parseFieldDescriptor (TX0 k).2.2.1 = some (tyX0 k) := by decide +kernel
abbrev cX0_init : ByteArray := prog_2_method_1_code
def yX0_init : MethodName := ⟨RX0, "<init>", "()V"⟩
abbrev cX0_saveTo : ByteArray := prog_2_method_2_code
def yX0_saveTo : MethodName := ⟨RX0, "saveTo", "([II)V"⟩
abbrev cX0_loadFrom : ByteArray := prog_2_method_3_code
def yX0_loadFrom : MethodName := ⟨RX0, "loadFrom", "([II)V"⟩
abbrev cX0_cellOf : ByteArray := prog_2_method_4_code
def yX0_cellOf : MethodName := ⟨RX0, "cellOf", "(III)I"⟩
abbrev cX0_hoursAt : ByteArray := prog_2_method_5_code
def yX0_hoursAt : MethodName := ⟨RX0, "hoursAt", "(III)I"⟩
abbrev cX0_windyHours : ByteArray := prog_2_method_6_code
def yX0_windyHours : MethodName := ⟨RX0, "windyHours", "(I)I"⟩
abbrev cX0_calmHours : ByteArray := prog_2_method_7_code
def yX0_calmHours : MethodName := ⟨RX0, "calmHours", "(I)I"⟩
abbrev cX0_allHours : ByteArray := prog_2_method_8_code
def yX0_allHours : MethodName := ⟨RX0, "allHours", "(I)I"⟩
abbrev cX0_hasRoom : ByteArray := prog_2_method_9_code
def yX0_hasRoom : MethodName := ⟨RX0, "hasRoom", "(II)Z"⟩
abbrev cX0_addWindy : ByteArray := prog_2_method_10_code
def yX0_addWindy : MethodName := ⟨RX0, "addWindy", "(IIII)V"⟩
abbrev cX0_addCalm : ByteArray := prog_2_method_11_code
def yX0_addCalm : MethodName := ⟨RX0, "addCalm", "(II)V"⟩
abbrev cX0_turnLog : ByteArray := prog_2_method_12_code
def yX0_turnLog : MethodName := ⟨RX0, "turnLog", "(II)V"⟩
abbrev cX0_hoursBetween : ByteArray := prog_2_method_13_code
def yX0_hoursBetween : MethodName := ⟨RX0, "hoursBetween", "(IIII)I"⟩
abbrev cX0_directionHours : ByteArray := prog_2_method_14_code
def yX0_directionHours : MethodName := ⟨RX0, "directionHours", "(II)I"⟩
abbrev cX0_partHours : ByteArray := prog_2_method_15_code
def yX0_partHours : MethodName := ⟨RX0, "partHours", "(III)I"⟩
abbrev cX0_classHours : ByteArray := prog_2_method_16_code
def yX0_classHours : MethodName := ⟨RX0, "classHours", "(II)I"⟩
abbrev cX0_speedHours : ByteArray := prog_2_method_17_code
def yX0_speedHours : MethodName := ⟨RX0, "speedHours", "(II)I"⟩
abbrev cX0_calmShare : ByteArray := prog_2_method_18_code
def yX0_calmShare : MethodName := ⟨RX0, "calmShare", "(I)I"⟩
abbrev cX0_sumOfRoses : ByteArray := prog_2_method_19_code
def yX0_sumOfRoses : MethodName := ⟨RX0, "sumOfRoses", "(I)I"⟩
abbrev cX0_hoursOfAll : ByteArray := prog_2_method_20_code
def yX0_hoursOfAll : MethodName := ⟨RX0, "hoursOfAll", "()I"⟩
abbrev cX0_calmHoursOfAll : ByteArray := prog_2_method_21_code
def yX0_calmHoursOfAll : MethodName := ⟨RX0, "calmHoursOfAll", "()I"⟩
abbrev cX0_scrapesOfAll : ByteArray := prog_2_method_22_code
def yX0_scrapesOfAll : MethodName := ⟨RX0, "scrapesOfAll", "()I"⟩
abbrev cX0_setting : ByteArray := prog_2_method_23_code
def yX0_setting : MethodName := ⟨RX0, "setting", "(I)I"⟩
abbrev cX0_putSetting : ByteArray := prog_2_method_24_code
def yX0_putSetting : MethodName := ⟨RX0, "putSetting", "(II)V"⟩
abbrev cX0_circle : ByteArray := prog_2_method_25_code
def yX0_circle : MethodName := ⟨RX0, "circle", "(I)I"⟩
abbrev cX0_scrapes : ByteArray := prog_2_method_26_code
def yX0_scrapes : MethodName := ⟨RX0, "scrapes", "(I)I"⟩
abbrev cX0_petalLength : ByteArray := prog_2_method_27_code
def yX0_petalLength : MethodName := ⟨RX0, "petalLength", "(II)I"⟩
abbrev cX0_petalsCut : ByteArray := prog_2_method_28_code
def yX0_petalsCut : MethodName := ⟨RX0, "petalsCut", "(I)I"⟩
abbrev cX0_longestPetal : ByteArray := prog_2_method_29_code
def yX0_longestPetal : MethodName := ⟨RX0, "longestPetal", "(I)I"⟩
abbrev cX0_cut : ByteArray := prog_2_method_30_code
def yX0_cut : MethodName := ⟨RX0, "cut", "(ILWindRoses$Shares;I)V"⟩
abbrev cX0_isNewPlate : ByteArray := prog_2_method_31_code
def yX0_isNewPlate : MethodName := ⟨RX0, "isNewPlate", "(I)Z"⟩
abbrev cX0_putNewPlate : ByteArray := prog_2_method_32_code
def yX0_putNewPlate : MethodName := ⟨RX0, "putNewPlate", "(I)V"⟩
abbrev cX0_platesEngraved : ByteArray := prog_2_method_33_code
def yX0_platesEngraved : MethodName := ⟨RX0, "platesEngraved", "()I"⟩
abbrev cX0_platesRenewed : ByteArray := prog_2_method_34_code
def yX0_platesRenewed : MethodName := ⟨RX0, "platesRenewed", "()I"⟩
def RX1 : String := "WindRoses$Gap"
def TX1 : u_T := fun k => match k with
  | 0 => ("WindRoses$Gap", "due", "LWindRoses$Shares;", true)
  | 1 => ("WindRoses$Gap", "different", "I", false)
  | 2 => ("WindRoses$Gap", "distance", "I", false)
  | _ => ("WindRoses$Gap", "scrapes", "I", false)
def tyX1 : Nat → FieldType := fun k => match k with
  | 0 => .object "WindRoses$Shares"
  | 1 => .int
  | 2 => .int
  | _ => .int
abbrev wsX10 : List Cond := u_ws RX1 TX1 4
theorem nmX1 : ∀ a, a < 4 → ∀ b, b < 4 → a ≠ b → (TX1 a).2.1 ≠ (TX1 b).2.1 := by decide +kernel
theorem tyX1_ok : ∀ k, k < 4 → parseFieldDescriptor (TX1 k).2.2.1 = some (tyX1 k) := by decide +kernel
abbrev cX1_init : ByteArray := prog_3_method_1_code
def yX1_init : MethodName := ⟨RX1, "<init>", "()V"⟩
abbrev cX1_measure : ByteArray := prog_3_method_2_code
def yX1_measure : MethodName := ⟨RX1, "measure", "(LWindRoses$Desk;I)V"⟩
abbrev cX1_compare : ByteArray := prog_3_method_3_code
def yX1_compare : MethodName := ⟨RX1, "compare", "(II)V"⟩
def RX2 : String := "WindRoses$History"
def TX2 : u_T := fun k => match k with
  | 0 => ("WindRoses$History", "rows", "[I", true)
  | 1 => ("WindRoses$History", "oldest", "I", false)
  | _ => ("WindRoses$History", "states", "I", false)
def tyX2 : Nat → FieldType := fun k => match k with
  | 0 => .array .int
  | 1 => .int
  | _ => .int
abbrev wsX20 : List Cond := u_ws RX2 TX2 3
theorem nmX2 : ∀ a, a < 3 → ∀ b, b < 3 → a ≠ b → (TX2 a).2.1 ≠ (TX2 b).2.1 := by decide +kernel
theorem tyX2_ok : ∀ k, k < 3 → parseFieldDescriptor (TX2 k).2.2.1 = some (tyX2 k) := by decide +kernel
abbrev cX2_init : ByteArray := prog_4_method_1_code
def yX2_init : MethodName := ⟨RX2, "<init>", "()V"⟩
abbrev cX2_placeOf : ByteArray := prog_4_method_2_code
def yX2_placeOf : MethodName := ⟨RX2, "placeOf", "(I)I"⟩
abbrev cX2_remember : ByteArray := prog_4_method_3_code
def yX2_remember : MethodName := ⟨RX2, "remember", "(LWindRoses$Desk;)V"⟩
abbrev cX2_takeBack : ByteArray := prog_4_method_4_code
def yX2_takeBack : MethodName := ⟨RX2, "takeBack", "(LWindRoses$Desk;)V"⟩
def RX3 : String := "WindRoses$Reader"
def TX3 : u_T := fun k => match k with
  | 0 => ("WindRoses$Reader", "text", "LWindRoses$Text;", true)
  | 1 => ("WindRoses$Reader", "roses", "[I", true)
  | 2 => ("WindRoses$Reader", "directions", "[I", true)
  | 3 => ("WindRoses$Reader", "speeds", "[I", true)
  | 4 => ("WindRoses$Reader", "hours", "[I", true)
  | 5 => ("WindRoses$Reader", "entries", "I", false)
  | _ => ("WindRoses$Reader", "place", "I", false)
def tyX3 : Nat → FieldType := fun k => match k with
  | 0 => .object "WindRoses$Text"
  | 1 => .array .int
  | 2 => .array .int
  | 3 => .array .int
  | 4 => .array .int
  | 5 => .int
  | _ => .int
abbrev wsX30 : List Cond := u_ws RX3 TX3 7
theorem nmX3 : ∀ a, a < 7 → ∀ b, b < 7 → a ≠ b → (TX3 a).2.1 ≠ (TX3 b).2.1 := by decide +kernel
theorem tyX3_ok : ∀ k, k < 7 → parseFieldDescriptor (TX3 k).2.2.1 = some (tyX3 k) := by decide +kernel
abbrev cX3_init : ByteArray := prog_5_method_1_code
def yX3_init : MethodName := ⟨RX3, "<init>", "(LWindRoses$Text;)V"⟩
abbrev cX3_readAll : ByteArray := prog_5_method_2_code
def yX3_readAll : MethodName := ⟨RX3, "readAll", "()Z"⟩
abbrev cX3_hoursOf : ByteArray := prog_5_method_3_code
def yX3_hoursOf : MethodName := ⟨RX3, "hoursOf", "(I)I"⟩
abbrev cX3_addEntry : ByteArray := prog_5_method_4_code
def yX3_addEntry : MethodName := ⟨RX3, "addEntry", "(LWindRoses$Desk;I)V"⟩
abbrev cX3_readEntry : ByteArray := prog_5_method_5_code
def yX3_readEntry : MethodName := ⟨RX3, "readEntry", "(I)Z"⟩
abbrev cX3_readWind : ByteArray := prog_5_method_6_code
def yX3_readWind : MethodName := ⟨RX3, "readWind", "(I)Z"⟩
abbrev cX3_readHours : ByteArray := prog_5_method_7_code
def yX3_readHours : MethodName := ⟨RX3, "readHours", "(I)Z"⟩
abbrev cX3_take : ByteArray := prog_5_method_8_code
def yX3_take : MethodName := ⟨RX3, "take", "(C)Z"⟩
abbrev cX3_readNumber : ByteArray := prog_5_method_9_code
def yX3_readNumber : MethodName := ⟨RX3, "readNumber", "(II)I"⟩
def RX4 : String := "WindRoses$Shares"
def TX4 : u_T := fun k => match k with
  | 0 => ("WindRoses$Shares", "row", "[I", true)
  | 1 => ("WindRoses$Shares", "remainders", "[I", true)
  | 2 => ("WindRoses$Shares", "given", "[Z", true)
  | _ => ("WindRoses$Shares", "missing", "I", false)
def tyX4 : Nat → FieldType := fun k => match k with
  | 0 => .array .int
  | 1 => .array .int
  | 2 => .array .boolean
  | _ => .int
abbrev wsX40 : List Cond := u_ws RX4 TX4 4
theorem nmX4 : ∀ a, a < 4 → ∀ b, b < 4 → a ≠ b → (TX4 a).2.1 ≠ (TX4 b).2.1 := by decide +kernel
theorem tyX4_ok : ∀ k, k < 4 → parseFieldDescriptor (TX4 k).2.2.1 = some (tyX4 k) := by decide +kernel
abbrev cX4_init : ByteArray := prog_6_method_1_code
def yX4_init : MethodName := ⟨RX4, "<init>", "()V"⟩
abbrev cX4_fillByRank : ByteArray := prog_6_method_2_code
def yX4_fillByRank : MethodName := ⟨RX4, "fillByRank", "(LWindRoses$Desk;I)V"⟩
abbrev cX4_fillByDealing : ByteArray := prog_6_method_3_code
def yX4_fillByDealing : MethodName := ⟨RX4, "fillByDealing", "(LWindRoses$Desk;I)V"⟩
abbrev cX4_divide : ByteArray := prog_6_method_4_code
def yX4_divide : MethodName := ⟨RX4, "divide", "(LWindRoses$Desk;I)V"⟩
abbrev cX4_makeEmpty : ByteArray := prog_6_method_5_code
def yX4_makeEmpty : MethodName := ⟨RX4, "makeEmpty", "()V"⟩
abbrev cX4_partsAhead : ByteArray := prog_6_method_6_code
def yX4_partsAhead : MethodName := ⟨RX4, "partsAhead", "(I)I"⟩
abbrev cX4_giveOne : ByteArray := prog_6_method_7_code
def yX4_giveOne : MethodName := ⟨RX4, "giveOne", "()V"⟩
def RX5 : String := "WindRoses$Text"
def TX5 : u_T := fun k => match k with
  | 0 => ("WindRoses$Text", "row", "[C", true)
  | _ => ("WindRoses$Text", "length", "I", false)
def tyX5 : Nat → FieldType := fun k => match k with
  | 0 => .array .char
  | _ => .int
abbrev wsX50 : List Cond := u_ws RX5 TX5 2
theorem nmX5 : ∀ a, a < 2 → ∀ b, b < 2 → a ≠ b → (TX5 a).2.1 ≠ (TX5 b).2.1 := by decide +kernel
theorem tyX5_ok : ∀ k, k < 2 → parseFieldDescriptor (TX5 k).2.2.1 = some (tyX5 k) := by decide +kernel
abbrev cX5_init : ByteArray := prog_7_method_1_code
def yX5_init : MethodName := ⟨RX5, "<init>", "()V"⟩
abbrev cX5_length : ByteArray := prog_7_method_2_code
def yX5_length : MethodName := ⟨RX5, "length", "()I"⟩
abbrev cX5_isFull : ByteArray := prog_7_method_3_code
def yX5_isFull : MethodName := ⟨RX5, "isFull", "()Z"⟩
abbrev cX5_append : ByteArray := prog_7_method_4_code
def yX5_append : MethodName := ⟨RX5, "append", "(C)V"⟩
abbrev cX5_makeEmpty : ByteArray := prog_7_method_5_code
def yX5_makeEmpty : MethodName := ⟨RX5, "makeEmpty", "()V"⟩
abbrev cX5_isAt : ByteArray := prog_7_method_6_code
def yX5_isAt : MethodName := ⟨RX5, "isAt", "(IC)Z"⟩
abbrev cX5_digitAt : ByteArray := prog_7_method_7_code
def yX5_digitAt : MethodName := ⟨RX5, "digitAt", "(I)I"⟩
def RX6 : String := "WindRoses"
def TX6 : u_T := fun k => match k with
  | 0 => ("WindRoses", "desk", "LWindRoses$Desk;", true)
  | 1 => ("WindRoses", "history", "LWindRoses$History;", true)
  | 2 => ("WindRoses", "snapshot", "[I", true)
  | 3 => ("WindRoses", "hasSnapshot", "Z", false)
  | 4 => ("WindRoses", "text", "LWindRoses$Text;", true)
  | 5 => ("WindRoses", "reader", "LWindRoses$Reader;", true)
  | 6 => ("WindRoses", "shares", "LWindRoses$Shares;", true)
  | 7 => ("WindRoses", "otherShares", "LWindRoses$Shares;", true)
  | _ => ("WindRoses", "gap", "LWindRoses$Gap;", true)
def tyX6 : Nat → FieldType := fun k => match k with
  | 0 => .object "WindRoses$Desk"
  | 1 => .object "WindRoses$History"
  | 2 => .array .int
  | 3 => .boolean
  | 4 => .object "WindRoses$Text"
  | 5 => .object "WindRoses$Reader"
  | 6 => .object "WindRoses$Shares"
  | 7 => .object "WindRoses$Shares"
  | _ => .object "WindRoses$Gap"
abbrev wsX60 : List Cond := u_ws RX6 TX6 9
theorem nmX6 : ∀ a, a < 9 → ∀ b, b < 9 → a ≠ b → (TX6 a).2.1 ≠ (TX6 b).2.1 := by decide +kernel
theorem tyX6_ok : ∀ k, k < 9 → parseFieldDescriptor (TX6 k).2.2.1 = some (tyX6 k) := by decide +kernel
abbrev cX6_init : ByteArray := prog_1_method_1_code
def yX6_init : MethodName := ⟨RX6, "<init>", "()V"⟩
abbrev cX6_log : ByteArray := prog_1_method_2_code
def yX6_log : MethodName := ⟨RX6, "log", "(IIIII)I"⟩
abbrev cX6_calm : ByteArray := prog_1_method_3_code
def yX6_calm : MethodName := ⟨RX6, "calm", "(III)I"⟩
abbrev cX6_strike : ByteArray := prog_1_method_4_code
def yX6_strike : MethodName := ⟨RX6, "strike", "(IIII)I"⟩
abbrev cX6_turn : ByteArray := prog_1_method_5_code
def yX6_turn : MethodName := ⟨RX6, "turn", "(III)I"⟩
abbrev cX6_set : ByteArray := prog_1_method_6_code
def yX6_set : MethodName := ⟨RX6, "set", "(II)I"⟩
abbrev cX6_engrave : ByteArray := prog_1_method_7_code
def yX6_engrave : MethodName := ⟨RX6, "engrave", "(II)I"⟩
abbrev cX6_renew : ByteArray := prog_1_method_8_code
def yX6_renew : MethodName := ⟨RX6, "renew", "(II)I"⟩
abbrev cX6_type : ByteArray := prog_1_method_9_code
def yX6_type : MethodName := ⟨RX6, "type", "(C)I"⟩
abbrev cX6_clearText : ByteArray := prog_1_method_10_code
def yX6_clearText : MethodName := ⟨RX6, "clearText", "()I"⟩
abbrev cX6_logAll : ByteArray := prog_1_method_11_code
def yX6_logAll : MethodName := ⟨RX6, "logAll", "()I"⟩
abbrev cX6_undo : ByteArray := prog_1_method_12_code
def yX6_undo : MethodName := ⟨RX6, "undo", "()I"⟩
abbrev cX6_keep : ByteArray := prog_1_method_13_code
def yX6_keep : MethodName := ⟨RX6, "keep", "()I"⟩
abbrev cX6_restore : ByteArray := prog_1_method_14_code
def yX6_restore : MethodName := ⟨RX6, "restore", "()I"⟩
abbrev cX6_rose : ByteArray := prog_1_method_15_code
def yX6_rose : MethodName := ⟨RX6, "rose", "(III)I"⟩
abbrev cX6_hours : ByteArray := prog_1_method_16_code
def yX6_hours : MethodName := ⟨RX6, "hours", "(IIII)I"⟩
abbrev cX6_share : ByteArray := prog_1_method_17_code
def yX6_share : MethodName := ⟨RX6, "share", "(IIII)I"⟩
abbrev cX6_dealt : ByteArray := prog_1_method_18_code
def yX6_dealt : MethodName := ⟨RX6, "dealt", "(IIII)I"⟩
abbrev cX6_quarter : ByteArray := prog_1_method_19_code
def yX6_quarter : MethodName := ⟨RX6, "quarter", "(III)I"⟩
abbrev cX6_excess : ByteArray := prog_1_method_20_code
def yX6_excess : MethodName := ⟨RX6, "excess", "(III)I"⟩
abbrev cX6_unlike : ByteArray := prog_1_method_21_code
def yX6_unlike : MethodName := ⟨RX6, "unlike", "(III)I"⟩
abbrev cX6_seasonOf : ByteArray := prog_1_method_22_code
def yX6_seasonOf : MethodName := ⟨RX6, "seasonOf", "(II)I"⟩
abbrev cX6_plate : ByteArray := prog_1_method_23_code
def yX6_plate : MethodName := ⟨RX6, "plate", "(III)I"⟩
abbrev cX6_petal : ByteArray := prog_1_method_24_code
def yX6_petal : MethodName := ⟨RX6, "petal", "(IIII)I"⟩
abbrev cX6_reason : ByteArray := prog_1_method_25_code
def yX6_reason : MethodName := ⟨RX6, "reason", "(II)I"⟩
abbrev cX6_nextPlate : ByteArray := prog_1_method_26_code
def yX6_nextPlate : MethodName := ⟨RX6, "nextPlate", "()I"⟩
abbrev cX6_count : ByteArray := prog_1_method_27_code
def yX6_count : MethodName := ⟨RX6, "count", "(I)I"⟩
abbrev cX6_isBetween : ByteArray := prog_1_method_28_code
def yX6_isBetween : MethodName := ⟨RX6, "isBetween", "(III)Z"⟩
abbrev cX6_isRose : ByteArray := prog_1_method_29_code
def yX6_isRose : MethodName := ⟨RX6, "isRose", "(II)Z"⟩
abbrev cX6_isDirection : ByteArray := prog_1_method_30_code
def yX6_isDirection : MethodName := ⟨RX6, "isDirection", "(I)Z"⟩
abbrev cX6_isClass : ByteArray := prog_1_method_31_code
def yX6_isClass : MethodName := ⟨RX6, "isClass", "(I)Z"⟩
abbrev cX6_isPart : ByteArray := prog_1_method_32_code
def yX6_isPart : MethodName := ⟨RX6, "isPart", "(IIII)Z"⟩
abbrev cX6_roseOf : ByteArray := prog_1_method_33_code
def yX6_roseOf : MethodName := ⟨RX6, "roseOf", "(II)I"⟩
abbrev cX6_partOf : ByteArray := prog_1_method_34_code
def yX6_partOf : MethodName := ⟨RX6, "partOf", "(II)I"⟩
abbrev cX6_isSettingInRange : ByteArray := prog_1_method_35_code
def yX6_isSettingInRange : MethodName := ⟨RX6, "isSettingInRange", "(II)Z"⟩
abbrev cX6_wouldMixBounds : ByteArray := prog_1_method_36_code
def yX6_wouldMixBounds : MethodName := ⟨RX6, "wouldMixBounds", "(II)Z"⟩
abbrev cX6_hoursFrom : ByteArray := prog_1_method_37_code
def yX6_hoursFrom : MethodName := ⟨RX6, "hoursFrom", "(II)I"⟩
abbrev cX6_greatestSpeed : ByteArray := prog_1_method_38_code
def yX6_greatestSpeed : MethodName := ⟨RX6, "greatestSpeed", "(I)I"⟩
abbrev cX6_meanSpeed : ByteArray := prog_1_method_39_code
def yX6_meanSpeed : MethodName := ⟨RX6, "meanSpeed", "(I)I"⟩
abbrev cX6_prevailingDirection : ByteArray := prog_1_method_40_code
def yX6_prevailingDirection : MethodName := ⟨RX6, "prevailingDirection", "(I)I"⟩
abbrev cX6_obstacleTo : ByteArray := prog_1_method_41_code
def yX6_obstacleTo : MethodName := ⟨RX6, "obstacleTo", "(I)I"⟩
abbrev cX6_platesNotAsDue : ByteArray := prog_1_method_42_code
def yX6_platesNotAsDue : MethodName := ⟨RX6, "platesNotAsDue", "()I"⟩
def RX7 : String := "WindRosesModel"
def TX7 : u_T := fun k => match k with
  | 0 => ("WindRosesModel", "s", "[J", true)
  | 1 => ("WindRosesModel", "past", "[J", true)
  | 2 => ("WindRosesModel", "known", "I", false)
  | 3 => ("WindRosesModel", "snap", "[J", true)
  | 4 => ("WindRosesModel", "isKept", "Z", false)
  | 5 => ("WindRosesModel", "text", "[I", true)
  | 6 => ("WindRosesModel", "length", "I", false)
  | 7 => ("WindRosesModel", "parts", "[I", true)
  | 8 => ("WindRosesModel", "shares", "[I", true)
  | 9 => ("WindRosesModel", "others", "[I", true)
  | _ => ("WindRosesModel", "turned", "[I", true)
def tyX7 : Nat → FieldType := fun k => match k with
  | 0 => .array .long
  | 1 => .array .long
  | 2 => .int
  | 3 => .array .long
  | 4 => .boolean
  | 5 => .array .int
  | 6 => .int
  | 7 => .array .int
  | 8 => .array .int
  | 9 => .array .int
  | _ => .array .int
abbrev wsX70 : List Cond := u_ws RX7 TX7 11
theorem nmX7 : ∀ a, a < 11 → ∀ b, b < 11 → a ≠ b → (TX7 a).2.1 ≠ (TX7 b).2.1 := by decide +kernel
theorem tyX7_ok : ∀ k, k < 11 → parseFieldDescriptor (TX7 k).2.2.1 = some (tyX7 k) := by decide +kernel
abbrev cX7_init : ByteArray := prog_9_method_1_code
def yX7_init : MethodName := ⟨RX7, "<init>", "()V"⟩
abbrev cX7_in : ByteArray := prog_9_method_3_code
def yX7_in : MethodName := ⟨RX7, "in", "(III)Z"⟩
abbrev cX7_isFour : ByteArray := prog_9_method_4_code
def yX7_isFour : MethodName := ⟨RX7, "isFour", "(I)Z"⟩
abbrev cX7_isDirection : ByteArray := prog_9_method_5_code
def yX7_isDirection : MethodName := ⟨RX7, "isDirection", "(I)Z"⟩
abbrev cX7_num : ByteArray := prog_9_method_6_code
def yX7_num : MethodName := ⟨RX7, "num", "(I)I"⟩
abbrev cX7_remembers : ByteArray := prog_9_method_7_code
def yX7_remembers : MethodName := ⟨RX7, "remembers", "()V"⟩
abbrev cX7_cellOf : ByteArray := prog_9_method_8_code
def yX7_cellOf : MethodName := ⟨RX7, "cellOf", "(III)I"⟩
abbrev cX7_at : ByteArray := prog_9_method_9_code
def yX7_at : MethodName := ⟨RX7, "at", "(III)I"⟩
abbrev cX7_puts : ByteArray := prog_9_method_10_code
def yX7_puts : MethodName := ⟨RX7, "puts", "(IIII)V"⟩
abbrev cX7_kindOf : ByteArray := prog_9_method_11_code
def yX7_kindOf : MethodName := ⟨RX7, "kindOf", "(I)I"⟩
abbrev cX7_looks : ByteArray := prog_9_method_12_code
def yX7_looks : MethodName := ⟨RX7, "looks", "(I)I"⟩
abbrev cX7_calmOf : ByteArray := prog_9_method_13_code
def yX7_calmOf : MethodName := ⟨RX7, "calmOf", "(I)I"⟩
abbrev cX7_hoursOf : ByteArray := prog_9_method_14_code
def yX7_hoursOf : MethodName := ⟨RX7, "hoursOf", "(I)I"⟩
abbrev cX7_calmShare : ByteArray := prog_9_method_15_code
def yX7_calmShare : MethodName := ⟨RX7, "calmShare", "(I)I"⟩
abbrev cX7_ahead : ByteArray := prog_9_method_16_code
def yX7_ahead : MethodName := ⟨RX7, "ahead", "(II)I"⟩
abbrev cX7_finds : ByteArray := prog_9_method_17_code
def yX7_finds : MethodName := ⟨RX7, "finds", "(I)V"⟩
abbrev cX7_deals : ByteArray := prog_9_method_18_code
def yX7_deals : MethodName := ⟨RX7, "deals", "(I)V"⟩
abbrev cX7_roseOf : ByteArray := prog_9_method_19_code
def yX7_roseOf : MethodName := ⟨RX7, "roseOf", "(II)I"⟩
abbrev cX7_log : ByteArray := prog_9_method_20_code
def yX7_log : MethodName := ⟨RX7, "log", "(IIIII)I"⟩
abbrev cX7_calm : ByteArray := prog_9_method_21_code
def yX7_calm : MethodName := ⟨RX7, "calm", "(III)I"⟩
abbrev cX7_strike : ByteArray := prog_9_method_22_code
def yX7_strike : MethodName := ⟨RX7, "strike", "(IIII)I"⟩
abbrev cX7_turn : ByteArray := prog_9_method_23_code
def yX7_turn : MethodName := ⟨RX7, "turn", "(III)I"⟩
abbrev cX7_set : ByteArray := prog_9_method_24_code
def yX7_set : MethodName := ⟨RX7, "set", "(II)I"⟩
abbrev cX7_petalOf : ByteArray := prog_9_method_25_code
def yX7_petalOf : MethodName := ⟨RX7, "petalOf", "(II)I"⟩
abbrev cX7_differs : ByteArray := prog_9_method_26_code
def yX7_differs : MethodName := ⟨RX7, "differs", "(I)I"⟩
abbrev cX7_farOff : ByteArray := prog_9_method_27_code
def yX7_farOff : MethodName := ⟨RX7, "farOff", "(I)I"⟩
abbrev cX7_needs : ByteArray := prog_9_method_28_code
def yX7_needs : MethodName := ⟨RX7, "needs", "(I)I"⟩
abbrev cX7_isTooMuch : ByteArray := prog_9_method_29_code
def yX7_isTooMuch : MethodName := ⟨RX7, "isTooMuch", "(I)Z"⟩
abbrev cX7_engrave : ByteArray := prog_9_method_30_code
def yX7_engrave : MethodName := ⟨RX7, "engrave", "(II)I"⟩
abbrev cX7_petals : ByteArray := prog_9_method_31_code
def yX7_petals : MethodName := ⟨RX7, "petals", "(I)I"⟩
abbrev cX7_renew : ByteArray := prog_9_method_32_code
def yX7_renew : MethodName := ⟨RX7, "renew", "(II)I"⟩
abbrev cX7_type : ByteArray := prog_9_method_33_code
def yX7_type : MethodName := ⟨RX7, "type", "(C)I"⟩
abbrev cX7_clearText : ByteArray := prog_9_method_34_code
def yX7_clearText : MethodName := ⟨RX7, "clearText", "()I"⟩
abbrev cX7_sign : ByteArray := prog_9_method_35_code
def yX7_sign : MethodName := ⟨RX7, "sign", "(I)I"⟩
abbrev cX7_digit : ByteArray := prog_9_method_36_code
def yX7_digit : MethodName := ⟨RX7, "digit", "(I)I"⟩
abbrev cX7_numberEnd : ByteArray := prog_9_method_37_code
def yX7_numberEnd : MethodName := ⟨RX7, "numberEnd", "(III)I"⟩
abbrev cX7_numberIn : ByteArray := prog_9_method_38_code
def yX7_numberIn : MethodName := ⟨RX7, "numberIn", "(II)I"⟩
abbrev cX7_behind : ByteArray := prog_9_method_39_code
def yX7_behind : MethodName := ⟨RX7, "behind", "(II)I"⟩
abbrev cX7_headEnd : ByteArray := prog_9_method_40_code
def yX7_headEnd : MethodName := ⟨RX7, "headEnd", "(I)I"⟩
abbrev cX7_windEnd : ByteArray := prog_9_method_41_code
def yX7_windEnd : MethodName := ⟨RX7, "windEnd", "(I)I"⟩
abbrev cX7_itemEnd : ByteArray := prog_9_method_42_code
def yX7_itemEnd : MethodName := ⟨RX7, "itemEnd", "(I)I"⟩
abbrev cX7_faultAt : ByteArray := prog_9_method_43_code
def yX7_faultAt : MethodName := ⟨RX7, "faultAt", "()I"⟩
abbrev cX7_roseAt : ByteArray := prog_9_method_44_code
def yX7_roseAt : MethodName := ⟨RX7, "roseAt", "(I)I"⟩
abbrev cX7_hoursAt : ByteArray := prog_9_method_45_code
def yX7_hoursAt : MethodName := ⟨RX7, "hoursAt", "(I)I"⟩
abbrev cX7_hoursOfText : ByteArray := prog_9_method_46_code
def yX7_hoursOfText : MethodName := ⟨RX7, "hoursOfText", "(I)I"⟩
abbrev cX7_logs : ByteArray := prog_9_method_47_code
def yX7_logs : MethodName := ⟨RX7, "logs", "(I)V"⟩
abbrev cX7_logAll : ByteArray := prog_9_method_48_code
def yX7_logAll : MethodName := ⟨RX7, "logAll", "()I"⟩
abbrev cX7_allHours : ByteArray := prog_9_method_49_code
def yX7_allHours : MethodName := ⟨RX7, "allHours", "(I)I"⟩
abbrev cX7_undo : ByteArray := prog_9_method_50_code
def yX7_undo : MethodName := ⟨RX7, "undo", "()I"⟩
abbrev cX7_keep : ByteArray := prog_9_method_51_code
def yX7_keep : MethodName := ⟨RX7, "keep", "()I"⟩
abbrev cX7_restore : ByteArray := prog_9_method_52_code
def yX7_restore : MethodName := ⟨RX7, "restore", "()I"⟩
abbrev cX7_ofDirection : ByteArray := prog_9_method_53_code
def yX7_ofDirection : MethodName := ⟨RX7, "ofDirection", "(I)I"⟩
abbrev cX7_ofKind : ByteArray := prog_9_method_54_code
def yX7_ofKind : MethodName := ⟨RX7, "ofKind", "(I)I"⟩
abbrev cX7_greatestSpeed : ByteArray := prog_9_method_55_code
def yX7_greatestSpeed : MethodName := ⟨RX7, "greatestSpeed", "(I)I"⟩
abbrev cX7_meanSpeed : ByteArray := prog_9_method_56_code
def yX7_meanSpeed : MethodName := ⟨RX7, "meanSpeed", "(I)I"⟩
abbrev cX7_prevailing : ByteArray := prog_9_method_57_code
def yX7_prevailing : MethodName := ⟨RX7, "prevailing", "(I)I"⟩
abbrev cX7_ofRose : ByteArray := prog_9_method_58_code
def yX7_ofRose : MethodName := ⟨RX7, "ofRose", "(II)I"⟩
abbrev cX7_rose : ByteArray := prog_9_method_59_code
def yX7_rose : MethodName := ⟨RX7, "rose", "(III)I"⟩
abbrev cX7_hours : ByteArray := prog_9_method_60_code
def yX7_hours : MethodName := ⟨RX7, "hours", "(IIII)I"⟩
abbrev cX7_isPart : ByteArray := prog_9_method_61_code
def yX7_isPart : MethodName := ⟨RX7, "isPart", "(II)Z"⟩
abbrev cX7_share : ByteArray := prog_9_method_62_code
def yX7_share : MethodName := ⟨RX7, "share", "(IIII)I"⟩
abbrev cX7_dealt : ByteArray := prog_9_method_63_code
def yX7_dealt : MethodName := ⟨RX7, "dealt", "(IIII)I"⟩
abbrev cX7_quarter : ByteArray := prog_9_method_64_code
def yX7_quarter : MethodName := ⟨RX7, "quarter", "(III)I"⟩
abbrev cX7_excess : ByteArray := prog_9_method_65_code
def yX7_excess : MethodName := ⟨RX7, "excess", "(III)I"⟩
abbrev cX7_unlike : ByteArray := prog_9_method_66_code
def yX7_unlike : MethodName := ⟨RX7, "unlike", "(III)I"⟩
abbrev cX7_seasonOf : ByteArray := prog_9_method_67_code
def yX7_seasonOf : MethodName := ⟨RX7, "seasonOf", "(II)I"⟩
abbrev cX7_longest : ByteArray := prog_9_method_68_code
def yX7_longest : MethodName := ⟨RX7, "longest", "(I)I"⟩
abbrev cX7_plate : ByteArray := prog_9_method_69_code
def yX7_plate : MethodName := ⟨RX7, "plate", "(III)I"⟩
abbrev cX7_petal : ByteArray := prog_9_method_70_code
def yX7_petal : MethodName := ⟨RX7, "petal", "(IIII)I"⟩
abbrev cX7_reasonOf : ByteArray := prog_9_method_71_code
def yX7_reasonOf : MethodName := ⟨RX7, "reasonOf", "(I)I"⟩
abbrev cX7_reason : ByteArray := prog_9_method_72_code
def yX7_reason : MethodName := ⟨RX7, "reason", "(II)I"⟩
abbrev cX7_nextPlate : ByteArray := prog_9_method_73_code
def yX7_nextPlate : MethodName := ⟨RX7, "nextPlate", "()I"⟩
abbrev cX7_ofPlates : ByteArray := prog_9_method_74_code
def yX7_ofPlates : MethodName := ⟨RX7, "ofPlates", "(I)I"⟩
abbrev cX7_count : ByteArray := prog_9_method_75_code
def yX7_count : MethodName := ⟨RX7, "count", "(I)I"⟩
def RJ9 : String := "java/lang/Math"
def TJ9 : u_T := fun k => match k with
  | _ => ("", "", "", false)
def tyJ9 : Nat → FieldType := fun k => match k with
  | _ => .int
abbrev wsJ90 : List Cond := u_ws RJ9 TJ9 0
theorem nmJ9 : ∀ a, a < 0 → ∀ b, b < 0 → a ≠ b → (TJ9 a).2.1 ≠ (TJ9 b).2.1 := by decide +kernel
theorem tyJ9_ok : ∀ k, k < 0 → parseFieldDescriptor (TJ9 k).2.2.1 = some (tyJ9 k) := by decide +kernel
abbrev cJ9_floorMod_7cf53 : ByteArray := prog_10_method_50_code
def yJ9_floorMod_7cf53 : MethodName := ⟨RJ9, "floorMod", "(II)I"⟩
abbrev cJ9_abs_0f7a4 : ByteArray := prog_10_method_59_code
def yJ9_abs_0f7a4 : MethodName := ⟨RJ9, "abs", "(I)I"⟩
abbrev cJ9_max_7cf53 : ByteArray := prog_10_method_65_code
def yJ9_max_7cf53 : MethodName := ⟨RJ9, "max", "(II)I"⟩
def RJ10 : String := "java/lang/System"
def TJ10 : u_T := fun k => match k with
  | _ => ("", "", "", false)
def tyJ10 : Nat → FieldType := fun k => match k with
  | _ => .int
abbrev wsJ100 : List Cond := u_ws RJ10 TJ10 0
theorem nmJ10 : ∀ a, a < 0 → ∀ b, b < 0 → a ≠ b → (TJ10 a).2.1 ≠ (TJ10 b).2.1 := by decide +kernel
theorem tyJ10_ok : ∀ k, k < 0 → parseFieldDescriptor (TJ10 k).2.2.1 = some (tyJ10 k) := by decide +kernel
def RL : String := "WindRosesLaw"
abbrev cL_law : ByteArray := code
def yL_law : MethodName := ⟨RL, "law", "([I)Z"⟩
def wsX0_init : List Cond := .code yX0_init cX0_init 1 none :: ([.methodLink RX0 5 objectInit, .instanceMethod objectInit, .code objectInit ⟨#[0xb1]⟩ 1 none, .arrayClass .int, .fieldLink RX0 11 "WindRoses$Desk" "row" "[I", .fieldLink RX0 15 "WindRoses$Desk" "turning" "[I"] ++ wsX00)
def wsX0_saveTo : List Cond := .code yX0_saveTo cX0_saveTo 3 none :: ([.fieldLink RX0 11 "WindRoses$Desk" "row" "[I", .methodLink RX0 18 arraycopyName, .native arraycopyName, .static arraycopyName, .initialized "java/lang/System"] ++ wsX00)
def wsX0_loadFrom : List Cond := .code yX0_loadFrom cX0_loadFrom 3 none :: ([.fieldLink RX0 11 "WindRoses$Desk" "row" "[I", .methodLink RX0 18 arraycopyName, .native arraycopyName, .static arraycopyName, .initialized "java/lang/System"] ++ wsX00)
def wsX0_cellOf : List Cond := .code yX0_cellOf cX0_cellOf 3 (some .int) :: ([])
def wsX0_hoursAt : List Cond := .code yX0_hoursAt cX0_hoursAt 4 (some .int) :: ([.fieldLink RX0 11 "WindRoses$Desk" "row" "[I", .methodLink RX0 24 yX0_cellOf, .static yX0_cellOf, .initialized RX0, .code yX0_cellOf cX0_cellOf 3 (some .int)] ++ wsX00)
def wsX0_windyHours : List Cond := .code yX0_windyHours cX0_windyHours 2 (some .int) :: ([.fieldLink RX0 11 "WindRoses$Desk" "row" "[I"] ++ wsX00)
def wsX0_calmHours : List Cond := .code yX0_calmHours cX0_calmHours 2 (some .int) :: ([.fieldLink RX0 11 "WindRoses$Desk" "row" "[I"] ++ wsX00)
def wsX0_allHours : List Cond := .code yX0_allHours cX0_allHours 2 (some .int) :: ([.methodLink RX0 28 yX0_windyHours, .instanceMethod yX0_windyHours, .selects RX0 yX0_windyHours yX0_windyHours, .initialized RX0, .code yX0_windyHours cX0_windyHours 2 (some .int), .fieldLink RX0 11 "WindRoses$Desk" "row" "[I", .methodLink RX0 32 yX0_calmHours, .instanceMethod yX0_calmHours, .selects RX0 yX0_calmHours yX0_calmHours, .code yX0_calmHours cX0_calmHours 2 (some .int)] ++ wsX00)
def wsX0_hasRoom : List Cond := .code yX0_hasRoom cX0_hasRoom 3 (some .boolean) :: ([.methodLink RX0 35 yX0_allHours, .instanceMethod yX0_allHours, .selects RX0 yX0_allHours yX0_allHours, .initialized RX0, .code yX0_allHours cX0_allHours 2 (some .int), .methodLink RX0 28 yX0_windyHours, .instanceMethod yX0_windyHours, .selects RX0 yX0_windyHours yX0_windyHours, .code yX0_windyHours cX0_windyHours 2 (some .int), .fieldLink RX0 11 "WindRoses$Desk" "row" "[I", .methodLink RX0 32 yX0_calmHours, .instanceMethod yX0_calmHours, .selects RX0 yX0_calmHours yX0_calmHours, .code yX0_calmHours cX0_calmHours 2 (some .int)] ++ wsX00)
def wsX0_addWindy : List Cond := .code yX0_addWindy cX0_addWindy 5 none :: ([.fieldLink RX0 11 "WindRoses$Desk" "row" "[I", .methodLink RX0 24 yX0_cellOf, .static yX0_cellOf, .initialized RX0, .code yX0_cellOf cX0_cellOf 3 (some .int)] ++ wsX00)
def wsX0_addCalm : List Cond := .code yX0_addCalm cX0_addCalm 3 none :: ([.fieldLink RX0 11 "WindRoses$Desk" "row" "[I"] ++ wsX00)
def wsX0_turnLog : List Cond := .code yX0_turnLog cX0_turnLog 6 none :: ([.fieldLink RX0 11 "WindRoses$Desk" "row" "[I", .fieldLink RX0 15 "WindRoses$Desk" "turning" "[I", .methodLink RX0 18 arraycopyName, .native arraycopyName, .static arraycopyName, .initialized "java/lang/System"] ++ wsX00)
def wsX0_hoursBetween : List Cond := .code yX0_hoursBetween cX0_hoursBetween 8 (some .int) :: ([.fieldLink RX0 11 "WindRoses$Desk" "row" "[I"] ++ wsX00)
def wsX0_directionHours : List Cond := .code yX0_directionHours cX0_directionHours 3 (some .int) :: ([.methodLink RX0 38 yX0_hoursBetween, .instanceMethod yX0_hoursBetween, .selects RX0 yX0_hoursBetween yX0_hoursBetween, .initialized RX0, .code yX0_hoursBetween cX0_hoursBetween 8 (some .int), .fieldLink RX0 11 "WindRoses$Desk" "row" "[I"] ++ wsX00)
def wsX0_setting : List Cond := .code yX0_setting cX0_setting 2 (some .int) :: ([.fieldLink RX0 11 "WindRoses$Desk" "row" "[I"] ++ wsX00)
def wsX0_partHours : List Cond := .code yX0_partHours cX0_partHours 6 (some .int) :: ([.methodLink RX0 42 yX0_setting, .instanceMethod yX0_setting, .selects RX0 yX0_setting yX0_setting, .initialized RX0, .code yX0_setting cX0_setting 2 (some .int), .fieldLink RX0 11 "WindRoses$Desk" "row" "[I", .methodLink RX0 38 yX0_hoursBetween, .instanceMethod yX0_hoursBetween, .selects RX0 yX0_hoursBetween yX0_hoursBetween, .code yX0_hoursBetween cX0_hoursBetween 8 (some .int)] ++ wsX00)
def wsX0_classHours : List Cond := .code yX0_classHours cX0_classHours 5 (some .int) :: ([.methodLink RX0 45 yX0_partHours, .instanceMethod yX0_partHours, .selects RX0 yX0_partHours yX0_partHours, .initialized RX0, .code yX0_partHours cX0_partHours 6 (some .int), .methodLink RX0 42 yX0_setting, .instanceMethod yX0_setting, .selects RX0 yX0_setting yX0_setting, .code yX0_setting cX0_setting 2 (some .int), .fieldLink RX0 11 "WindRoses$Desk" "row" "[I", .methodLink RX0 38 yX0_hoursBetween, .instanceMethod yX0_hoursBetween, .selects RX0 yX0_hoursBetween yX0_hoursBetween, .code yX0_hoursBetween cX0_hoursBetween 8 (some .int)] ++ wsX00)
def wsX0_speedHours : List Cond := .code yX0_speedHours cX0_speedHours 5 (some .int) :: ([.methodLink RX0 48 yX0_hoursAt, .instanceMethod yX0_hoursAt, .selects RX0 yX0_hoursAt yX0_hoursAt, .initialized RX0, .code yX0_hoursAt cX0_hoursAt 4 (some .int), .fieldLink RX0 11 "WindRoses$Desk" "row" "[I", .methodLink RX0 24 yX0_cellOf, .static yX0_cellOf, .code yX0_cellOf cX0_cellOf 3 (some .int)] ++ wsX00)
def wsX0_calmShare : List Cond := .code yX0_calmShare cX0_calmShare 3 (some .int) :: ([.methodLink RX0 35 yX0_allHours, .instanceMethod yX0_allHours, .selects RX0 yX0_allHours yX0_allHours, .initialized RX0, .code yX0_allHours cX0_allHours 2 (some .int), .methodLink RX0 28 yX0_windyHours, .instanceMethod yX0_windyHours, .selects RX0 yX0_windyHours yX0_windyHours, .code yX0_windyHours cX0_windyHours 2 (some .int), .fieldLink RX0 11 "WindRoses$Desk" "row" "[I", .methodLink RX0 32 yX0_calmHours, .instanceMethod yX0_calmHours, .selects RX0 yX0_calmHours yX0_calmHours, .code yX0_calmHours cX0_calmHours 2 (some .int)] ++ wsX00)
def wsX0_sumOfRoses : List Cond := .code yX0_sumOfRoses cX0_sumOfRoses 4 (some .int) :: ([.fieldLink RX0 11 "WindRoses$Desk" "row" "[I"] ++ wsX00)
def wsX0_hoursOfAll : List Cond := .code yX0_hoursOfAll cX0_hoursOfAll 1 (some .int) :: ([.methodLink RX0 51 yX0_sumOfRoses, .instanceMethod yX0_sumOfRoses, .selects RX0 yX0_sumOfRoses yX0_sumOfRoses, .initialized RX0, .code yX0_sumOfRoses cX0_sumOfRoses 4 (some .int), .fieldLink RX0 11 "WindRoses$Desk" "row" "[I"] ++ wsX00)
def wsX0_calmHoursOfAll : List Cond := .code yX0_calmHoursOfAll cX0_calmHoursOfAll 1 (some .int) :: ([.methodLink RX0 51 yX0_sumOfRoses, .instanceMethod yX0_sumOfRoses, .selects RX0 yX0_sumOfRoses yX0_sumOfRoses, .initialized RX0, .code yX0_sumOfRoses cX0_sumOfRoses 4 (some .int), .fieldLink RX0 11 "WindRoses$Desk" "row" "[I"] ++ wsX00)
def wsX0_scrapesOfAll : List Cond := .code yX0_scrapesOfAll cX0_scrapesOfAll 1 (some .int) :: ([.methodLink RX0 51 yX0_sumOfRoses, .instanceMethod yX0_sumOfRoses, .selects RX0 yX0_sumOfRoses yX0_sumOfRoses, .initialized RX0, .code yX0_sumOfRoses cX0_sumOfRoses 4 (some .int), .fieldLink RX0 11 "WindRoses$Desk" "row" "[I"] ++ wsX00)
def wsX0_putSetting : List Cond := .code yX0_putSetting cX0_putSetting 3 none :: ([.fieldLink RX0 11 "WindRoses$Desk" "row" "[I"] ++ wsX00)
def wsX0_circle : List Cond := .code yX0_circle cX0_circle 2 (some .int) :: ([.fieldLink RX0 11 "WindRoses$Desk" "row" "[I"] ++ wsX00)
def wsX0_scrapes : List Cond := .code yX0_scrapes cX0_scrapes 2 (some .int) :: ([.fieldLink RX0 11 "WindRoses$Desk" "row" "[I"] ++ wsX00)
def wsX0_petalLength : List Cond := .code yX0_petalLength cX0_petalLength 3 (some .int) :: ([.fieldLink RX0 11 "WindRoses$Desk" "row" "[I"] ++ wsX00)
def wsX0_petalsCut : List Cond := .code yX0_petalsCut cX0_petalsCut 4 (some .int) :: ([.methodLink RX0 54 yX0_petalLength, .instanceMethod yX0_petalLength, .selects RX0 yX0_petalLength yX0_petalLength, .initialized RX0, .code yX0_petalLength cX0_petalLength 3 (some .int), .fieldLink RX0 11 "WindRoses$Desk" "row" "[I"] ++ wsX00)
def wsX0_longestPetal : List Cond := .code yX0_longestPetal cX0_longestPetal 4 (some .int) :: ([.methodLink RX0 58 Lib.Math.max.name, .static Lib.Math.max.name, .initialized "java/lang/Math", .code Lib.Math.max.name Lib.Math.max.code 2 (some .int), .methodLink RX0 54 yX0_petalLength, .instanceMethod yX0_petalLength, .selects RX0 yX0_petalLength yX0_petalLength, .initialized RX0, .code yX0_petalLength cX0_petalLength 3 (some .int), .fieldLink RX0 11 "WindRoses$Desk" "row" "[I"] ++ wsX00)
def wsX0_cut : List Cond := .code yX0_cut cX0_cut 4 none :: ([.fieldLink RX0 63 "WindRoses$Shares" "row" "[I", .fieldLink RX0 11 "WindRoses$Desk" "row" "[I", .methodLink RX0 18 arraycopyName, .native arraycopyName, .static arraycopyName, .initialized "java/lang/System", .methodLink RX0 66 yX0_calmShare, .instanceMethod yX0_calmShare, .selects RX0 yX0_calmShare yX0_calmShare, .initialized RX0, .code yX0_calmShare cX0_calmShare 3 (some .int), .methodLink RX0 35 yX0_allHours, .instanceMethod yX0_allHours, .selects RX0 yX0_allHours yX0_allHours, .code yX0_allHours cX0_allHours 2 (some .int), .methodLink RX0 28 yX0_windyHours, .instanceMethod yX0_windyHours, .selects RX0 yX0_windyHours yX0_windyHours, .code yX0_windyHours cX0_windyHours 2 (some .int), .methodLink RX0 32 yX0_calmHours, .instanceMethod yX0_calmHours, .selects RX0 yX0_calmHours yX0_calmHours, .code yX0_calmHours cX0_calmHours 2 (some .int)] ++ wsX40 ++ wsX00)
def wsX0_isNewPlate : List Cond := .code yX0_isNewPlate cX0_isNewPlate 2 (some .boolean) :: ([.methodLink RX0 69 yX0_petalsCut, .instanceMethod yX0_petalsCut, .selects RX0 yX0_petalsCut yX0_petalsCut, .initialized RX0, .code yX0_petalsCut cX0_petalsCut 4 (some .int), .methodLink RX0 54 yX0_petalLength, .instanceMethod yX0_petalLength, .selects RX0 yX0_petalLength yX0_petalLength, .code yX0_petalLength cX0_petalLength 3 (some .int), .fieldLink RX0 11 "WindRoses$Desk" "row" "[I", .methodLink RX0 72 yX0_circle, .instanceMethod yX0_circle, .selects RX0 yX0_circle yX0_circle, .code yX0_circle cX0_circle 2 (some .int), .methodLink RX0 75 yX0_scrapes, .instanceMethod yX0_scrapes, .selects RX0 yX0_scrapes yX0_scrapes, .code yX0_scrapes cX0_scrapes 2 (some .int)] ++ wsX00)
def wsX0_putNewPlate : List Cond := .code yX0_putNewPlate cX0_putNewPlate 3 none :: ([.fieldLink RX0 11 "WindRoses$Desk" "row" "[I"] ++ wsX00)
def wsX0_platesEngraved : List Cond := .code yX0_platesEngraved cX0_platesEngraved 1 (some .int) :: ([.fieldLink RX0 11 "WindRoses$Desk" "row" "[I"] ++ wsX00)
def wsX0_platesRenewed : List Cond := .code yX0_platesRenewed cX0_platesRenewed 1 (some .int) :: ([.fieldLink RX0 11 "WindRoses$Desk" "row" "[I"] ++ wsX00)
def wsX4_init : List Cond := .code yX4_init cX4_init 1 none :: ([.methodLink RX4 3 objectInit, .instanceMethod objectInit, .code objectInit ⟨#[0xb1]⟩ 1 none, .arrayClass .int, .fieldLink RX4 9 "WindRoses$Shares" "row" "[I", .fieldLink RX4 15 "WindRoses$Shares" "remainders" "[I", .arrayClass .boolean, .fieldLink RX4 18 "WindRoses$Shares" "given" "[Z", .fieldLink RX4 22 "WindRoses$Shares" "missing" "I"] ++ wsX40)
def wsX1_init : List Cond := .code yX1_init cX1_init 1 none :: ([.methodLink RX1 3 objectInit, .instanceMethod objectInit, .code objectInit ⟨#[0xb1]⟩ 1 none, .classLink RX1 9 RX4, .instantiable RX4 4, .initialized RX4, .fieldLink RX1 12 "WindRoses$Gap" "due" "LWindRoses$Shares;", .fieldLink RX1 18 "WindRoses$Gap" "different" "I", .fieldLink RX1 22 "WindRoses$Gap" "distance" "I", .fieldLink RX1 25 "WindRoses$Gap" "scrapes" "I", .methodLink RX1 11 yX4_init, .instanceMethod yX4_init, .code yX4_init cX4_init 1 none, .methodLink RX4 3 objectInit, .arrayClass .int, .fieldLink RX4 9 "WindRoses$Shares" "row" "[I", .fieldLink RX4 15 "WindRoses$Shares" "remainders" "[I", .arrayClass .boolean, .fieldLink RX4 18 "WindRoses$Shares" "given" "[Z", .fieldLink RX4 22 "WindRoses$Shares" "missing" "I"] ++ wsX40 ++ wsX10)
def wsX4_makeEmpty : List Cond := .code yX4_makeEmpty cX4_makeEmpty 2 none :: ([.fieldLink RX4 22 "WindRoses$Shares" "missing" "I", .fieldLink RX4 9 "WindRoses$Shares" "row" "[I", .fieldLink RX4 15 "WindRoses$Shares" "remainders" "[I"] ++ wsX40)
def wsX6_partOf : List Cond := .code yX6_partOf cX6_partOf 2 (some .int) :: ([])
def wsX4_divide_r1 : List Cond := [Cond.fieldLink RX4 22 "WindRoses$Shares" "missing" "I", Cond.fieldLink RX4 9 "WindRoses$Shares" "row" "[I", Cond.fieldLink RX4 15 "WindRoses$Shares" "remainders" "[I", Cond.methodLink RX4 37 yX0_windyHours, Cond.instanceMethod yX0_windyHours, Cond.selects RX0 yX0_windyHours yX0_windyHours, Cond.initialized RX0, Cond.code yX0_windyHours cX0_windyHours 2 (some .int), Cond.fieldLink RX0 11 "WindRoses$Desk" "row" "[I", Cond.methodLink RX4 42 yX4_makeEmpty, Cond.instanceMethod yX4_makeEmpty, Cond.selects RX4 yX4_makeEmpty yX4_makeEmpty, Cond.initialized RX4, Cond.code yX4_makeEmpty cX4_makeEmpty 2 none, Cond.static yX6_partOf, Cond.initialized RX6, Cond.code yX6_partOf cX6_partOf 2 (some .int), Cond.methodLink RX4 49 yX0_partHours, Cond.instanceMethod yX0_partHours, Cond.selects RX0 yX0_partHours yX0_partHours, Cond.code yX0_partHours cX0_partHours 6 (some .int), Cond.methodLink RX0 42 yX0_setting, Cond.instanceMethod yX0_setting, Cond.selects RX0 yX0_setting yX0_setting]
def wsX4_divide_r2 : List Cond := [Cond.code yX0_setting cX0_setting 2 (some .int), Cond.methodLink RX0 38 yX0_hoursBetween, Cond.instanceMethod yX0_hoursBetween, Cond.selects RX0 yX0_hoursBetween yX0_hoursBetween, Cond.code yX0_hoursBetween cX0_hoursBetween 8 (some .int)]
def wsX4_divide : List Cond := .code yX4_divide cX4_divide 8 none :: ((wsX4_divide_r1 ++ wsX4_divide_r2) ++ wsX40 ++ wsX00)
def wsX4_partsAhead : List Cond := .code yX4_partsAhead cX4_partsAhead 6 (some .int) :: ([.fieldLink RX4 15 "WindRoses$Shares" "remainders" "[I"] ++ wsX40)
def wsX4_fillByRank_r1 : List Cond := [Cond.fieldLink RX4 15 "WindRoses$Shares" "remainders" "[I", Cond.fieldLink RX4 22 "WindRoses$Shares" "missing" "I", Cond.fieldLink RX4 9 "WindRoses$Shares" "row" "[I", Cond.methodLink RX4 26 yX4_divide, Cond.instanceMethod yX4_divide, Cond.selects RX4 yX4_divide yX4_divide, Cond.initialized RX4, Cond.code yX4_divide cX4_divide 8 none, Cond.methodLink RX4 37 yX0_windyHours, Cond.instanceMethod yX0_windyHours, Cond.selects RX0 yX0_windyHours yX0_windyHours, Cond.initialized RX0, Cond.code yX0_windyHours cX0_windyHours 2 (some .int), Cond.fieldLink RX0 11 "WindRoses$Desk" "row" "[I", Cond.methodLink RX4 42 yX4_makeEmpty, Cond.instanceMethod yX4_makeEmpty, Cond.selects RX4 yX4_makeEmpty yX4_makeEmpty, Cond.code yX4_makeEmpty cX4_makeEmpty 2 none, Cond.static yX6_partOf, Cond.initialized RX6, Cond.code yX6_partOf cX6_partOf 2 (some .int), Cond.methodLink RX4 49 yX0_partHours, Cond.instanceMethod yX0_partHours, Cond.selects RX0 yX0_partHours yX0_partHours]
def wsX4_fillByRank_r2 : List Cond := [Cond.code yX0_partHours cX0_partHours 6 (some .int), Cond.methodLink RX0 42 yX0_setting, Cond.instanceMethod yX0_setting, Cond.selects RX0 yX0_setting yX0_setting, Cond.code yX0_setting cX0_setting 2 (some .int), Cond.methodLink RX0 38 yX0_hoursBetween, Cond.instanceMethod yX0_hoursBetween, Cond.selects RX0 yX0_hoursBetween yX0_hoursBetween, Cond.code yX0_hoursBetween cX0_hoursBetween 8 (some .int), Cond.methodLink RX4 30 yX4_partsAhead, Cond.instanceMethod yX4_partsAhead, Cond.selects RX4 yX4_partsAhead yX4_partsAhead, Cond.code yX4_partsAhead cX4_partsAhead 6 (some .int)]
def wsX4_fillByRank : List Cond := .code yX4_fillByRank cX4_fillByRank 4 none :: ((wsX4_fillByRank_r1 ++ wsX4_fillByRank_r2) ++ wsX40 ++ wsX00)
def wsX1_compare : List Cond := .code yX1_compare cX1_compare 3 none :: ([.fieldLink RX1 18 "WindRoses$Gap" "different" "I", .fieldLink RX1 25 "WindRoses$Gap" "scrapes" "I", .fieldLink RX1 22 "WindRoses$Gap" "distance" "I", .methodLink RX1 53 Lib.Math.abs.name, .static Lib.Math.abs.name, .initialized "java/lang/Math", .code Lib.Math.abs.name Lib.Math.abs.code 1 (some .int)] ++ wsX10)
def wsX1_measure_r1 : List Cond := [Cond.fieldLink RX1 12 "WindRoses$Gap" "due" "LWindRoses$Shares;", Cond.fieldLink RX1 18 "WindRoses$Gap" "different" "I", Cond.fieldLink RX1 22 "WindRoses$Gap" "distance" "I", Cond.fieldLink RX1 25 "WindRoses$Gap" "scrapes" "I", Cond.fieldLink RX1 38 "WindRoses$Shares" "row" "[I", Cond.methodLink RX1 28 yX4_fillByRank, Cond.instanceMethod yX4_fillByRank, Cond.selects RX4 yX4_fillByRank yX4_fillByRank, Cond.initialized RX4, Cond.code yX4_fillByRank cX4_fillByRank 4 none, Cond.fieldLink RX4 15 "WindRoses$Shares" "remainders" "[I", Cond.fieldLink RX4 22 "WindRoses$Shares" "missing" "I", Cond.fieldLink RX4 9 "WindRoses$Shares" "row" "[I", Cond.methodLink RX4 26 yX4_divide, Cond.instanceMethod yX4_divide, Cond.selects RX4 yX4_divide yX4_divide, Cond.code yX4_divide cX4_divide 8 none, Cond.methodLink RX4 37 yX0_windyHours, Cond.instanceMethod yX0_windyHours, Cond.selects RX0 yX0_windyHours yX0_windyHours, Cond.initialized RX0, Cond.code yX0_windyHours cX0_windyHours 2 (some .int), Cond.fieldLink RX0 11 "WindRoses$Desk" "row" "[I", Cond.methodLink RX4 42 yX4_makeEmpty]
def wsX1_measure_r2 : List Cond := [Cond.instanceMethod yX4_makeEmpty, Cond.selects RX4 yX4_makeEmpty yX4_makeEmpty, Cond.code yX4_makeEmpty cX4_makeEmpty 2 none, Cond.static yX6_partOf, Cond.initialized RX6, Cond.code yX6_partOf cX6_partOf 2 (some .int), Cond.methodLink RX4 49 yX0_partHours, Cond.instanceMethod yX0_partHours, Cond.selects RX0 yX0_partHours yX0_partHours, Cond.code yX0_partHours cX0_partHours 6 (some .int), Cond.methodLink RX0 42 yX0_setting, Cond.instanceMethod yX0_setting, Cond.selects RX0 yX0_setting yX0_setting, Cond.code yX0_setting cX0_setting 2 (some .int), Cond.methodLink RX0 38 yX0_hoursBetween, Cond.instanceMethod yX0_hoursBetween, Cond.selects RX0 yX0_hoursBetween yX0_hoursBetween, Cond.code yX0_hoursBetween cX0_hoursBetween 8 (some .int), Cond.methodLink RX4 30 yX4_partsAhead, Cond.instanceMethod yX4_partsAhead, Cond.selects RX4 yX4_partsAhead yX4_partsAhead, Cond.code yX4_partsAhead cX4_partsAhead 6 (some .int), Cond.methodLink RX1 32 yX0_petalLength, Cond.instanceMethod yX0_petalLength]
def wsX1_measure_r3 : List Cond := [Cond.selects RX0 yX0_petalLength yX0_petalLength, Cond.code yX0_petalLength cX0_petalLength 3 (some .int), Cond.methodLink RX1 42 yX1_compare, Cond.instanceMethod yX1_compare, Cond.selects RX1 yX1_compare yX1_compare, Cond.initialized RX1, Cond.code yX1_compare cX1_compare 3 none, Cond.methodLink RX1 53 Lib.Math.abs.name, Cond.static Lib.Math.abs.name, Cond.initialized "java/lang/Math", Cond.code Lib.Math.abs.name Lib.Math.abs.code 1 (some .int), Cond.methodLink RX1 46 yX0_circle, Cond.instanceMethod yX0_circle, Cond.selects RX0 yX0_circle yX0_circle, Cond.code yX0_circle cX0_circle 2 (some .int), Cond.methodLink RX1 50 yX0_calmShare, Cond.instanceMethod yX0_calmShare, Cond.selects RX0 yX0_calmShare yX0_calmShare, Cond.code yX0_calmShare cX0_calmShare 3 (some .int), Cond.methodLink RX0 35 yX0_allHours, Cond.instanceMethod yX0_allHours, Cond.selects RX0 yX0_allHours yX0_allHours, Cond.code yX0_allHours cX0_allHours 2 (some .int), Cond.methodLink RX0 28 yX0_windyHours]
def wsX1_measure_r4 : List Cond := [Cond.methodLink RX0 32 yX0_calmHours, Cond.instanceMethod yX0_calmHours, Cond.selects RX0 yX0_calmHours yX0_calmHours, Cond.code yX0_calmHours cX0_calmHours 2 (some .int)]
def wsX1_measure : List Cond := .code yX1_measure cX1_measure 4 none :: ((wsX1_measure_r1 ++ (wsX1_measure_r2 ++ (wsX1_measure_r3 ++ wsX1_measure_r4))) ++ wsX10 ++ wsX40 ++ wsX00)
def wsX2_init : List Cond := .code yX2_init cX2_init 1 none :: ([.methodLink RX2 3 objectInit, .instanceMethod objectInit, .code objectInit ⟨#[0xb1]⟩ 1 none, .constant RX2 11 (104724), .arrayClass .int, .fieldLink RX2 12 "WindRoses$History" "rows" "[I", .fieldLink RX2 18 "WindRoses$History" "oldest" "I", .fieldLink RX2 22 "WindRoses$History" "states" "I"] ++ wsX20)
def wsX2_placeOf : List Cond := .code yX2_placeOf cX2_placeOf 2 (some .int) :: ([.fieldLink RX2 18 "WindRoses$History" "oldest" "I"] ++ wsX20)
def wsX2_remember : List Cond := .code yX2_remember cX2_remember 2 none :: ([.fieldLink RX2 22 "WindRoses$History" "states" "I", .fieldLink RX2 18 "WindRoses$History" "oldest" "I", .fieldLink RX2 12 "WindRoses$History" "rows" "[I", .methodLink RX2 25 yX2_placeOf, .instanceMethod yX2_placeOf, .selects RX2 yX2_placeOf yX2_placeOf, .initialized RX2, .code yX2_placeOf cX2_placeOf 2 (some .int), .methodLink RX2 29 yX0_saveTo, .instanceMethod yX0_saveTo, .selects RX0 yX0_saveTo yX0_saveTo, .initialized RX0, .code yX0_saveTo cX0_saveTo 3 none, .fieldLink RX0 11 "WindRoses$Desk" "row" "[I", .methodLink RX0 18 arraycopyName, .native arraycopyName, .static arraycopyName, .initialized "java/lang/System"] ++ wsX20 ++ wsX00)
def wsX2_takeBack : List Cond := .code yX2_takeBack cX2_takeBack 2 none :: ([.fieldLink RX2 22 "WindRoses$History" "states" "I", .fieldLink RX2 12 "WindRoses$History" "rows" "[I", .methodLink RX2 25 yX2_placeOf, .instanceMethod yX2_placeOf, .selects RX2 yX2_placeOf yX2_placeOf, .initialized RX2, .code yX2_placeOf cX2_placeOf 2 (some .int), .fieldLink RX2 18 "WindRoses$History" "oldest" "I", .methodLink RX2 33 yX0_loadFrom, .instanceMethod yX0_loadFrom, .selects RX0 yX0_loadFrom yX0_loadFrom, .initialized RX0, .code yX0_loadFrom cX0_loadFrom 3 none, .fieldLink RX0 11 "WindRoses$Desk" "row" "[I", .methodLink RX0 18 arraycopyName, .native arraycopyName, .static arraycopyName, .initialized "java/lang/System"] ++ wsX20 ++ wsX00)
def wsX3_init : List Cond := .code yX3_init cX3_init 2 none :: ([.methodLink RX3 3 objectInit, .instanceMethod objectInit, .code objectInit ⟨#[0xb1]⟩ 1 none, .fieldLink RX3 9 "WindRoses$Reader" "text" "LWindRoses$Text;", .arrayClass .int, .fieldLink RX3 15 "WindRoses$Reader" "roses" "[I", .fieldLink RX3 19 "WindRoses$Reader" "directions" "[I", .fieldLink RX3 22 "WindRoses$Reader" "speeds" "[I", .fieldLink RX3 25 "WindRoses$Reader" "hours" "[I", .fieldLink RX3 28 "WindRoses$Reader" "entries" "I", .fieldLink RX3 32 "WindRoses$Reader" "place" "I"] ++ wsX30)
def wsX6_isBetween : List Cond := .code yX6_isBetween cX6_isBetween 3 (some .boolean) :: ([])
def wsX5_digitAt : List Cond := .code yX5_digitAt cX5_digitAt 2 (some .int) :: ([.fieldLink RX5 15 "WindRoses$Text" "length" "I", .fieldLink RX5 9 "WindRoses$Text" "row" "[C", .static yX6_isBetween, .initialized RX6, .code yX6_isBetween cX6_isBetween 3 (some .boolean)] ++ wsX50)
def wsX3_readNumber : List Cond := .code yX3_readNumber cX3_readNumber 5 (some .int) :: ([.fieldLink RX3 9 "WindRoses$Reader" "text" "LWindRoses$Text;", .fieldLink RX3 32 "WindRoses$Reader" "place" "I", .methodLink RX3 76 yX5_digitAt, .instanceMethod yX5_digitAt, .selects RX5 yX5_digitAt yX5_digitAt, .initialized RX5, .code yX5_digitAt cX5_digitAt 2 (some .int), .fieldLink RX5 15 "WindRoses$Text" "length" "I", .fieldLink RX5 9 "WindRoses$Text" "row" "[C", .static yX6_isBetween, .initialized RX6, .code yX6_isBetween cX6_isBetween 3 (some .boolean)] ++ wsX30 ++ wsX50)
def wsX5_isAt : List Cond := .code yX5_isAt cX5_isAt 3 (some .boolean) :: ([.fieldLink RX5 15 "WindRoses$Text" "length" "I", .fieldLink RX5 9 "WindRoses$Text" "row" "[C", .static yX6_isBetween, .initialized RX6, .code yX6_isBetween cX6_isBetween 3 (some .boolean)] ++ wsX50)
def wsX3_take : List Cond := .code yX3_take cX3_take 2 (some .boolean) :: ([.fieldLink RX3 9 "WindRoses$Reader" "text" "LWindRoses$Text;", .fieldLink RX3 32 "WindRoses$Reader" "place" "I", .methodLink RX3 72 yX5_isAt, .instanceMethod yX5_isAt, .selects RX5 yX5_isAt yX5_isAt, .initialized RX5, .code yX5_isAt cX5_isAt 3 (some .boolean), .fieldLink RX5 15 "WindRoses$Text" "length" "I", .fieldLink RX5 9 "WindRoses$Text" "row" "[C", .static yX6_isBetween, .initialized RX6, .code yX6_isBetween cX6_isBetween 3 (some .boolean)] ++ wsX30 ++ wsX50)
def wsX6_roseOf : List Cond := .code yX6_roseOf cX6_roseOf 2 (some .int) :: ([])
def wsX3_readWind_r1 : List Cond := [Cond.fieldLink RX3 19 "WindRoses$Reader" "directions" "[I", Cond.fieldLink RX3 22 "WindRoses$Reader" "speeds" "[I", Cond.methodLink RX3 39 yX3_take, Cond.instanceMethod yX3_take, Cond.selects RX3 yX3_take yX3_take, Cond.initialized RX3, Cond.code yX3_take cX3_take 2 (some .boolean), Cond.fieldLink RX3 9 "WindRoses$Reader" "text" "LWindRoses$Text;", Cond.fieldLink RX3 32 "WindRoses$Reader" "place" "I", Cond.methodLink RX3 72 yX5_isAt, Cond.instanceMethod yX5_isAt, Cond.selects RX5 yX5_isAt yX5_isAt, Cond.initialized RX5, Cond.code yX5_isAt cX5_isAt 3 (some .boolean), Cond.fieldLink RX5 15 "WindRoses$Text" "length" "I", Cond.fieldLink RX5 9 "WindRoses$Text" "row" "[C", Cond.static yX6_isBetween, Cond.initialized RX6, Cond.code yX6_isBetween cX6_isBetween 3 (some .boolean), Cond.methodLink RX3 59 yX3_readNumber, Cond.instanceMethod yX3_readNumber, Cond.selects RX3 yX3_readNumber yX3_readNumber, Cond.code yX3_readNumber cX3_readNumber 5 (some .int), Cond.methodLink RX3 76 yX5_digitAt]
def wsX3_readWind_r2 : List Cond := [Cond.instanceMethod yX5_digitAt, Cond.selects RX5 yX5_digitAt yX5_digitAt, Cond.code yX5_digitAt cX5_digitAt 2 (some .int)]
def wsX3_readWind : List Cond := .code yX3_readWind cX3_readWind 3 (some .boolean) :: ((wsX3_readWind_r1 ++ wsX3_readWind_r2) ++ wsX30 ++ wsX50)
def wsX3_readHours_r1 : List Cond := [Cond.fieldLink RX3 25 "WindRoses$Reader" "hours" "[I", Cond.methodLink RX3 39 yX3_take, Cond.instanceMethod yX3_take, Cond.selects RX3 yX3_take yX3_take, Cond.initialized RX3, Cond.code yX3_take cX3_take 2 (some .boolean), Cond.fieldLink RX3 9 "WindRoses$Reader" "text" "LWindRoses$Text;", Cond.fieldLink RX3 32 "WindRoses$Reader" "place" "I", Cond.methodLink RX3 72 yX5_isAt, Cond.instanceMethod yX5_isAt, Cond.selects RX5 yX5_isAt yX5_isAt, Cond.initialized RX5, Cond.code yX5_isAt cX5_isAt 3 (some .boolean), Cond.fieldLink RX5 15 "WindRoses$Text" "length" "I", Cond.fieldLink RX5 9 "WindRoses$Text" "row" "[C", Cond.static yX6_isBetween, Cond.initialized RX6, Cond.code yX6_isBetween cX6_isBetween 3 (some .boolean), Cond.methodLink RX3 59 yX3_readNumber, Cond.instanceMethod yX3_readNumber, Cond.selects RX3 yX3_readNumber yX3_readNumber, Cond.code yX3_readNumber cX3_readNumber 5 (some .int), Cond.methodLink RX3 76 yX5_digitAt, Cond.instanceMethod yX5_digitAt]
def wsX3_readHours_r2 : List Cond := [Cond.selects RX5 yX5_digitAt yX5_digitAt, Cond.code yX5_digitAt cX5_digitAt 2 (some .int)]
def wsX3_readHours : List Cond := .code yX3_readHours cX3_readHours 2 (some .boolean) :: ((wsX3_readHours_r1 ++ wsX3_readHours_r2) ++ wsX30 ++ wsX50)
def wsX3_readEntry_r1 : List Cond := [Cond.fieldLink RX3 15 "WindRoses$Reader" "roses" "[I", Cond.methodLink RX3 59 yX3_readNumber, Cond.instanceMethod yX3_readNumber, Cond.selects RX3 yX3_readNumber yX3_readNumber, Cond.initialized RX3, Cond.code yX3_readNumber cX3_readNumber 5 (some .int), Cond.fieldLink RX3 9 "WindRoses$Reader" "text" "LWindRoses$Text;", Cond.fieldLink RX3 32 "WindRoses$Reader" "place" "I", Cond.methodLink RX3 76 yX5_digitAt, Cond.instanceMethod yX5_digitAt, Cond.selects RX5 yX5_digitAt yX5_digitAt, Cond.initialized RX5, Cond.code yX5_digitAt cX5_digitAt 2 (some .int), Cond.fieldLink RX5 15 "WindRoses$Text" "length" "I", Cond.fieldLink RX5 9 "WindRoses$Text" "row" "[C", Cond.static yX6_isBetween, Cond.initialized RX6, Cond.code yX6_isBetween cX6_isBetween 3 (some .boolean), Cond.methodLink RX3 39 yX3_take, Cond.instanceMethod yX3_take, Cond.selects RX3 yX3_take yX3_take, Cond.code yX3_take cX3_take 2 (some .boolean), Cond.methodLink RX3 72 yX5_isAt, Cond.instanceMethod yX5_isAt]
def wsX3_readEntry_r2 : List Cond := [Cond.selects RX5 yX5_isAt yX5_isAt, Cond.code yX5_isAt cX5_isAt 3 (some .boolean), Cond.static yX6_roseOf, Cond.code yX6_roseOf cX6_roseOf 2 (some .int), Cond.methodLink RX3 66 yX3_readWind, Cond.instanceMethod yX3_readWind, Cond.selects RX3 yX3_readWind yX3_readWind, Cond.code yX3_readWind cX3_readWind 3 (some .boolean), Cond.fieldLink RX3 19 "WindRoses$Reader" "directions" "[I", Cond.fieldLink RX3 22 "WindRoses$Reader" "speeds" "[I", Cond.methodLink RX3 69 yX3_readHours, Cond.instanceMethod yX3_readHours, Cond.selects RX3 yX3_readHours yX3_readHours, Cond.code yX3_readHours cX3_readHours 2 (some .boolean), Cond.fieldLink RX3 25 "WindRoses$Reader" "hours" "[I"]
def wsX3_readEntry : List Cond := .code yX3_readEntry cX3_readEntry 4 (some .boolean) :: ((wsX3_readEntry_r1 ++ wsX3_readEntry_r2) ++ wsX30 ++ wsX50)
def wsX5_length : List Cond := .code yX5_length cX5_length 1 (some .int) :: ([.fieldLink RX5 15 "WindRoses$Text" "length" "I"] ++ wsX50)
def wsX3_readAll_r1 : List Cond := [Cond.fieldLink RX3 32 "WindRoses$Reader" "place" "I", Cond.fieldLink RX3 28 "WindRoses$Reader" "entries" "I", Cond.fieldLink RX3 9 "WindRoses$Reader" "text" "LWindRoses$Text;", Cond.methodLink RX3 35 yX3_readEntry, Cond.instanceMethod yX3_readEntry, Cond.selects RX3 yX3_readEntry yX3_readEntry, Cond.initialized RX3, Cond.code yX3_readEntry cX3_readEntry 4 (some .boolean), Cond.fieldLink RX3 15 "WindRoses$Reader" "roses" "[I", Cond.methodLink RX3 59 yX3_readNumber, Cond.instanceMethod yX3_readNumber, Cond.selects RX3 yX3_readNumber yX3_readNumber, Cond.code yX3_readNumber cX3_readNumber 5 (some .int), Cond.methodLink RX3 76 yX5_digitAt, Cond.instanceMethod yX5_digitAt, Cond.selects RX5 yX5_digitAt yX5_digitAt, Cond.initialized RX5, Cond.code yX5_digitAt cX5_digitAt 2 (some .int), Cond.fieldLink RX5 15 "WindRoses$Text" "length" "I", Cond.fieldLink RX5 9 "WindRoses$Text" "row" "[C", Cond.static yX6_isBetween, Cond.initialized RX6, Cond.code yX6_isBetween cX6_isBetween 3 (some .boolean), Cond.methodLink RX3 39 yX3_take]
def wsX3_readAll_r2 : List Cond := [Cond.instanceMethod yX3_take, Cond.selects RX3 yX3_take yX3_take, Cond.code yX3_take cX3_take 2 (some .boolean), Cond.methodLink RX3 72 yX5_isAt, Cond.instanceMethod yX5_isAt, Cond.selects RX5 yX5_isAt yX5_isAt, Cond.code yX5_isAt cX5_isAt 3 (some .boolean), Cond.static yX6_roseOf, Cond.code yX6_roseOf cX6_roseOf 2 (some .int), Cond.methodLink RX3 66 yX3_readWind, Cond.instanceMethod yX3_readWind, Cond.selects RX3 yX3_readWind yX3_readWind, Cond.code yX3_readWind cX3_readWind 3 (some .boolean), Cond.fieldLink RX3 19 "WindRoses$Reader" "directions" "[I", Cond.fieldLink RX3 22 "WindRoses$Reader" "speeds" "[I", Cond.methodLink RX3 69 yX3_readHours, Cond.instanceMethod yX3_readHours, Cond.selects RX3 yX3_readHours yX3_readHours, Cond.code yX3_readHours cX3_readHours 2 (some .boolean), Cond.fieldLink RX3 25 "WindRoses$Reader" "hours" "[I", Cond.methodLink RX3 43 yX5_length, Cond.instanceMethod yX5_length, Cond.selects RX5 yX5_length yX5_length, Cond.code yX5_length cX5_length 1 (some .int)]
def wsX3_readAll : List Cond := .code yX3_readAll cX3_readAll 2 (some .boolean) :: ((wsX3_readAll_r1 ++ wsX3_readAll_r2) ++ wsX30 ++ wsX50)
def wsX3_hoursOf : List Cond := .code yX3_hoursOf cX3_hoursOf 4 (some .int) :: ([.fieldLink RX3 28 "WindRoses$Reader" "entries" "I", .fieldLink RX3 15 "WindRoses$Reader" "roses" "[I", .fieldLink RX3 25 "WindRoses$Reader" "hours" "[I"] ++ wsX30)
def wsX3_addEntry : List Cond := .code yX3_addEntry cX3_addEntry 3 none :: ([.fieldLink RX3 19 "WindRoses$Reader" "directions" "[I", .fieldLink RX3 15 "WindRoses$Reader" "roses" "[I", .fieldLink RX3 25 "WindRoses$Reader" "hours" "[I", .fieldLink RX3 22 "WindRoses$Reader" "speeds" "[I", .methodLink RX3 49 yX0_addCalm, .instanceMethod yX0_addCalm, .selects RX0 yX0_addCalm yX0_addCalm, .initialized RX0, .code yX0_addCalm cX0_addCalm 3 none, .fieldLink RX0 11 "WindRoses$Desk" "row" "[I", .methodLink RX3 55 yX0_addWindy, .instanceMethod yX0_addWindy, .selects RX0 yX0_addWindy yX0_addWindy, .code yX0_addWindy cX0_addWindy 5 none, .methodLink RX0 24 yX0_cellOf, .static yX0_cellOf, .code yX0_cellOf cX0_cellOf 3 (some .int)] ++ wsX30 ++ wsX00)
def wsX4_giveOne : List Cond := .code yX4_giveOne cX4_giveOne 3 none :: ([.fieldLink RX4 18 "WindRoses$Shares" "given" "[Z", .fieldLink RX4 15 "WindRoses$Shares" "remainders" "[I", .fieldLink RX4 9 "WindRoses$Shares" "row" "[I"] ++ wsX40)
def wsX4_fillByDealing_r1 : List Cond := [Cond.fieldLink RX4 18 "WindRoses$Shares" "given" "[Z", Cond.fieldLink RX4 22 "WindRoses$Shares" "missing" "I", Cond.methodLink RX4 26 yX4_divide, Cond.instanceMethod yX4_divide, Cond.selects RX4 yX4_divide yX4_divide, Cond.initialized RX4, Cond.code yX4_divide cX4_divide 8 none, Cond.fieldLink RX4 9 "WindRoses$Shares" "row" "[I", Cond.fieldLink RX4 15 "WindRoses$Shares" "remainders" "[I", Cond.methodLink RX4 37 yX0_windyHours, Cond.instanceMethod yX0_windyHours, Cond.selects RX0 yX0_windyHours yX0_windyHours, Cond.initialized RX0, Cond.code yX0_windyHours cX0_windyHours 2 (some .int), Cond.fieldLink RX0 11 "WindRoses$Desk" "row" "[I", Cond.methodLink RX4 42 yX4_makeEmpty, Cond.instanceMethod yX4_makeEmpty, Cond.selects RX4 yX4_makeEmpty yX4_makeEmpty, Cond.code yX4_makeEmpty cX4_makeEmpty 2 none, Cond.static yX6_partOf, Cond.initialized RX6, Cond.code yX6_partOf cX6_partOf 2 (some .int), Cond.methodLink RX4 49 yX0_partHours, Cond.instanceMethod yX0_partHours]
def wsX4_fillByDealing_r2 : List Cond := [Cond.selects RX0 yX0_partHours yX0_partHours, Cond.code yX0_partHours cX0_partHours 6 (some .int), Cond.methodLink RX0 42 yX0_setting, Cond.instanceMethod yX0_setting, Cond.selects RX0 yX0_setting yX0_setting, Cond.code yX0_setting cX0_setting 2 (some .int), Cond.methodLink RX0 38 yX0_hoursBetween, Cond.instanceMethod yX0_hoursBetween, Cond.selects RX0 yX0_hoursBetween yX0_hoursBetween, Cond.code yX0_hoursBetween cX0_hoursBetween 8 (some .int), Cond.methodLink RX4 34 yX4_giveOne, Cond.instanceMethod yX4_giveOne, Cond.selects RX4 yX4_giveOne yX4_giveOne, Cond.code yX4_giveOne cX4_giveOne 3 none]
def wsX4_fillByDealing : List Cond := .code yX4_fillByDealing cX4_fillByDealing 4 none :: ((wsX4_fillByDealing_r1 ++ wsX4_fillByDealing_r2) ++ wsX40 ++ wsX00)
def wsX5_init : List Cond := .code yX5_init cX5_init 1 none :: ([.methodLink RX5 3 objectInit, .instanceMethod objectInit, .code objectInit ⟨#[0xb1]⟩ 1 none, .arrayClass .char, .fieldLink RX5 9 "WindRoses$Text" "row" "[C", .fieldLink RX5 15 "WindRoses$Text" "length" "I"] ++ wsX50)
def wsX5_isFull : List Cond := .code yX5_isFull cX5_isFull 1 (some .boolean) :: ([.fieldLink RX5 15 "WindRoses$Text" "length" "I"] ++ wsX50)
def wsX5_append : List Cond := .code yX5_append cX5_append 2 none :: ([.fieldLink RX5 9 "WindRoses$Text" "row" "[C", .fieldLink RX5 15 "WindRoses$Text" "length" "I", .methodLink RX5 19 yX5_isFull, .instanceMethod yX5_isFull, .selects RX5 yX5_isFull yX5_isFull, .initialized RX5, .code yX5_isFull cX5_isFull 1 (some .boolean)] ++ wsX50)
def wsX5_makeEmpty : List Cond := .code yX5_makeEmpty cX5_makeEmpty 1 none :: ([.fieldLink RX5 15 "WindRoses$Text" "length" "I"] ++ wsX50)
def wsX6_init_r1 : List Cond := [Cond.methodLink RX6 3 objectInit, Cond.instanceMethod objectInit, Cond.code objectInit ⟨#[0xb1]⟩ 1 none, Cond.classLink RX6 9 RX0, Cond.instantiable RX0 2, Cond.initialized RX0, Cond.fieldLink RX6 12 "WindRoses" "desk" "LWindRoses$Desk;", Cond.classLink RX6 16 RX2, Cond.instantiable RX2 3, Cond.initialized RX2, Cond.fieldLink RX6 19 "WindRoses" "history" "LWindRoses$History;", Cond.arrayClass .int, Cond.fieldLink RX6 23 "WindRoses" "snapshot" "[I", Cond.fieldLink RX6 27 "WindRoses" "hasSnapshot" "Z", Cond.classLink RX6 31 RX5, Cond.instantiable RX5 2, Cond.initialized RX5, Cond.fieldLink RX6 34 "WindRoses" "text" "LWindRoses$Text;", Cond.classLink RX6 38 RX3, Cond.instantiable RX3 7, Cond.initialized RX3, Cond.fieldLink RX6 43 "WindRoses" "reader" "LWindRoses$Reader;", Cond.classLink RX6 47 RX4, Cond.instantiable RX4 4]
def wsX6_init_r2 : List Cond := [Cond.initialized RX4, Cond.fieldLink RX6 50 "WindRoses" "shares" "LWindRoses$Shares;", Cond.fieldLink RX6 54 "WindRoses" "otherShares" "LWindRoses$Shares;", Cond.classLink RX6 57 RX1, Cond.instantiable RX1 4, Cond.initialized RX1, Cond.fieldLink RX6 60 "WindRoses" "gap" "LWindRoses$Gap;", Cond.methodLink RX6 11 yX0_init, Cond.instanceMethod yX0_init, Cond.code yX0_init cX0_init 1 none, Cond.methodLink RX0 5 objectInit, Cond.fieldLink RX0 11 "WindRoses$Desk" "row" "[I", Cond.fieldLink RX0 15 "WindRoses$Desk" "turning" "[I", Cond.methodLink RX6 18 yX2_init, Cond.instanceMethod yX2_init, Cond.code yX2_init cX2_init 1 none, Cond.methodLink RX2 3 objectInit, Cond.constant RX2 11 (104724), Cond.fieldLink RX2 12 "WindRoses$History" "rows" "[I", Cond.fieldLink RX2 18 "WindRoses$History" "oldest" "I", Cond.fieldLink RX2 22 "WindRoses$History" "states" "I", Cond.methodLink RX6 33 yX5_init, Cond.instanceMethod yX5_init, Cond.code yX5_init cX5_init 1 none]
def wsX6_init_r3 : List Cond := [Cond.methodLink RX5 3 objectInit, Cond.arrayClass .char, Cond.fieldLink RX5 9 "WindRoses$Text" "row" "[C", Cond.fieldLink RX5 15 "WindRoses$Text" "length" "I", Cond.methodLink RX6 40 yX3_init, Cond.instanceMethod yX3_init, Cond.code yX3_init cX3_init 2 none, Cond.methodLink RX3 3 objectInit, Cond.fieldLink RX3 9 "WindRoses$Reader" "text" "LWindRoses$Text;", Cond.fieldLink RX3 15 "WindRoses$Reader" "roses" "[I", Cond.fieldLink RX3 19 "WindRoses$Reader" "directions" "[I", Cond.fieldLink RX3 22 "WindRoses$Reader" "speeds" "[I", Cond.fieldLink RX3 25 "WindRoses$Reader" "hours" "[I", Cond.fieldLink RX3 28 "WindRoses$Reader" "entries" "I", Cond.fieldLink RX3 32 "WindRoses$Reader" "place" "I", Cond.methodLink RX6 49 yX4_init, Cond.instanceMethod yX4_init, Cond.code yX4_init cX4_init 1 none, Cond.methodLink RX4 3 objectInit, Cond.fieldLink RX4 9 "WindRoses$Shares" "row" "[I", Cond.fieldLink RX4 15 "WindRoses$Shares" "remainders" "[I", Cond.arrayClass .boolean, Cond.fieldLink RX4 18 "WindRoses$Shares" "given" "[Z", Cond.fieldLink RX4 22 "WindRoses$Shares" "missing" "I"]
def wsX6_init_r4 : List Cond := [Cond.methodLink RX6 59 yX1_init, Cond.instanceMethod yX1_init, Cond.code yX1_init cX1_init 1 none, Cond.methodLink RX1 3 objectInit, Cond.classLink RX1 9 RX4, Cond.fieldLink RX1 12 "WindRoses$Gap" "due" "LWindRoses$Shares;", Cond.fieldLink RX1 18 "WindRoses$Gap" "different" "I", Cond.fieldLink RX1 22 "WindRoses$Gap" "distance" "I", Cond.fieldLink RX1 25 "WindRoses$Gap" "scrapes" "I", Cond.methodLink RX1 11 yX4_init]
def wsX6_init : List Cond := .code yX6_init cX6_init 1 none :: ((wsX6_init_r1 ++ (wsX6_init_r2 ++ (wsX6_init_r3 ++ wsX6_init_r4))) ++ wsX00 ++ wsX60 ++ wsX20 ++ wsX50 ++ wsX30 ++ wsX40 ++ wsX10)
def wsX6_isRose : List Cond := .code yX6_isRose cX6_isRose 2 (some .boolean) :: ([.methodLink RX6 72 yX6_isBetween, .static yX6_isBetween, .initialized RX6, .code yX6_isBetween cX6_isBetween 3 (some .boolean)])
def wsX6_isDirection : List Cond := .code yX6_isDirection cX6_isDirection 1 (some .boolean) :: ([.methodLink RX6 72 yX6_isBetween, .static yX6_isBetween, .initialized RX6, .code yX6_isBetween cX6_isBetween 3 (some .boolean)])
def wsX6_log_r1 : List Cond := [Cond.fieldLink RX6 12 "WindRoses" "desk" "LWindRoses$Desk;", Cond.fieldLink RX6 19 "WindRoses" "history" "LWindRoses$History;", Cond.methodLink RX6 64 yX6_isRose, Cond.static yX6_isRose, Cond.initialized RX6, Cond.code yX6_isRose cX6_isRose 2 (some .boolean), Cond.methodLink RX6 72 yX6_isBetween, Cond.static yX6_isBetween, Cond.code yX6_isBetween cX6_isBetween 3 (some .boolean), Cond.methodLink RX6 68 yX6_isDirection, Cond.static yX6_isDirection, Cond.code yX6_isDirection cX6_isDirection 1 (some .boolean), Cond.methodLink RX6 76 yX6_roseOf, Cond.static yX6_roseOf, Cond.code yX6_roseOf cX6_roseOf 2 (some .int), Cond.methodLink RX6 80 yX0_hasRoom, Cond.instanceMethod yX0_hasRoom, Cond.selects RX0 yX0_hasRoom yX0_hasRoom, Cond.initialized RX0, Cond.code yX0_hasRoom cX0_hasRoom 3 (some .boolean), Cond.methodLink RX0 35 yX0_allHours, Cond.instanceMethod yX0_allHours, Cond.selects RX0 yX0_allHours yX0_allHours, Cond.code yX0_allHours cX0_allHours 2 (some .int)]
def wsX6_log_r2 : List Cond := [Cond.methodLink RX0 28 yX0_windyHours, Cond.instanceMethod yX0_windyHours, Cond.selects RX0 yX0_windyHours yX0_windyHours, Cond.code yX0_windyHours cX0_windyHours 2 (some .int), Cond.fieldLink RX0 11 "WindRoses$Desk" "row" "[I", Cond.methodLink RX0 32 yX0_calmHours, Cond.instanceMethod yX0_calmHours, Cond.selects RX0 yX0_calmHours yX0_calmHours, Cond.code yX0_calmHours cX0_calmHours 2 (some .int), Cond.methodLink RX6 83 yX2_remember, Cond.instanceMethod yX2_remember, Cond.selects RX2 yX2_remember yX2_remember, Cond.initialized RX2, Cond.code yX2_remember cX2_remember 2 none, Cond.fieldLink RX2 22 "WindRoses$History" "states" "I", Cond.fieldLink RX2 18 "WindRoses$History" "oldest" "I", Cond.fieldLink RX2 12 "WindRoses$History" "rows" "[I", Cond.methodLink RX2 25 yX2_placeOf, Cond.instanceMethod yX2_placeOf, Cond.selects RX2 yX2_placeOf yX2_placeOf, Cond.code yX2_placeOf cX2_placeOf 2 (some .int), Cond.methodLink RX2 29 yX0_saveTo, Cond.instanceMethod yX0_saveTo, Cond.selects RX0 yX0_saveTo yX0_saveTo]
def wsX6_log_r3 : List Cond := [Cond.code yX0_saveTo cX0_saveTo 3 none, Cond.methodLink RX0 18 arraycopyName, Cond.native arraycopyName, Cond.static arraycopyName, Cond.initialized "java/lang/System", Cond.methodLink RX6 87 yX0_addWindy, Cond.instanceMethod yX0_addWindy, Cond.selects RX0 yX0_addWindy yX0_addWindy, Cond.code yX0_addWindy cX0_addWindy 5 none, Cond.methodLink RX0 24 yX0_cellOf, Cond.static yX0_cellOf, Cond.code yX0_cellOf cX0_cellOf 3 (some .int), Cond.methodLink RX6 91 yX0_allHours]
def wsX6_log : List Cond := .code yX6_log cX6_log 7 (some .int) :: ((wsX6_log_r1 ++ (wsX6_log_r2 ++ wsX6_log_r3)) ++ wsX60 ++ wsX00 ++ wsX20)
def wsX6_calm_r1 : List Cond := [Cond.fieldLink RX6 12 "WindRoses" "desk" "LWindRoses$Desk;", Cond.fieldLink RX6 19 "WindRoses" "history" "LWindRoses$History;", Cond.methodLink RX6 64 yX6_isRose, Cond.static yX6_isRose, Cond.initialized RX6, Cond.code yX6_isRose cX6_isRose 2 (some .boolean), Cond.methodLink RX6 72 yX6_isBetween, Cond.static yX6_isBetween, Cond.code yX6_isBetween cX6_isBetween 3 (some .boolean), Cond.methodLink RX6 76 yX6_roseOf, Cond.static yX6_roseOf, Cond.code yX6_roseOf cX6_roseOf 2 (some .int), Cond.methodLink RX6 80 yX0_hasRoom, Cond.instanceMethod yX0_hasRoom, Cond.selects RX0 yX0_hasRoom yX0_hasRoom, Cond.initialized RX0, Cond.code yX0_hasRoom cX0_hasRoom 3 (some .boolean), Cond.methodLink RX0 35 yX0_allHours, Cond.instanceMethod yX0_allHours, Cond.selects RX0 yX0_allHours yX0_allHours, Cond.code yX0_allHours cX0_allHours 2 (some .int), Cond.methodLink RX0 28 yX0_windyHours, Cond.instanceMethod yX0_windyHours, Cond.selects RX0 yX0_windyHours yX0_windyHours]
def wsX6_calm_r2 : List Cond := [Cond.code yX0_windyHours cX0_windyHours 2 (some .int), Cond.fieldLink RX0 11 "WindRoses$Desk" "row" "[I", Cond.methodLink RX0 32 yX0_calmHours, Cond.instanceMethod yX0_calmHours, Cond.selects RX0 yX0_calmHours yX0_calmHours, Cond.code yX0_calmHours cX0_calmHours 2 (some .int), Cond.methodLink RX6 83 yX2_remember, Cond.instanceMethod yX2_remember, Cond.selects RX2 yX2_remember yX2_remember, Cond.initialized RX2, Cond.code yX2_remember cX2_remember 2 none, Cond.fieldLink RX2 22 "WindRoses$History" "states" "I", Cond.fieldLink RX2 18 "WindRoses$History" "oldest" "I", Cond.fieldLink RX2 12 "WindRoses$History" "rows" "[I", Cond.methodLink RX2 25 yX2_placeOf, Cond.instanceMethod yX2_placeOf, Cond.selects RX2 yX2_placeOf yX2_placeOf, Cond.code yX2_placeOf cX2_placeOf 2 (some .int), Cond.methodLink RX2 29 yX0_saveTo, Cond.instanceMethod yX0_saveTo, Cond.selects RX0 yX0_saveTo yX0_saveTo, Cond.code yX0_saveTo cX0_saveTo 3 none, Cond.methodLink RX0 18 arraycopyName, Cond.native arraycopyName]
def wsX6_calm_r3 : List Cond := [Cond.static arraycopyName, Cond.initialized "java/lang/System", Cond.methodLink RX6 95 yX0_addCalm, Cond.instanceMethod yX0_addCalm, Cond.selects RX0 yX0_addCalm yX0_addCalm, Cond.code yX0_addCalm cX0_addCalm 3 none, Cond.methodLink RX6 91 yX0_allHours]
def wsX6_calm : List Cond := .code yX6_calm cX6_calm 5 (some .int) :: ((wsX6_calm_r1 ++ (wsX6_calm_r2 ++ wsX6_calm_r3)) ++ wsX60 ++ wsX00 ++ wsX20)
def wsX6_strike_r1 : List Cond := [Cond.fieldLink RX6 12 "WindRoses" "desk" "LWindRoses$Desk;", Cond.fieldLink RX6 19 "WindRoses" "history" "LWindRoses$History;", Cond.methodLink RX6 64 yX6_isRose, Cond.static yX6_isRose, Cond.initialized RX6, Cond.code yX6_isRose cX6_isRose 2 (some .boolean), Cond.methodLink RX6 72 yX6_isBetween, Cond.static yX6_isBetween, Cond.code yX6_isBetween cX6_isBetween 3 (some .boolean), Cond.methodLink RX6 68 yX6_isDirection, Cond.static yX6_isDirection, Cond.code yX6_isDirection cX6_isDirection 1 (some .boolean), Cond.methodLink RX6 76 yX6_roseOf, Cond.static yX6_roseOf, Cond.code yX6_roseOf cX6_roseOf 2 (some .int), Cond.methodLink RX6 99 yX0_hoursAt, Cond.instanceMethod yX0_hoursAt, Cond.selects RX0 yX0_hoursAt yX0_hoursAt, Cond.initialized RX0, Cond.code yX0_hoursAt cX0_hoursAt 4 (some .int), Cond.fieldLink RX0 11 "WindRoses$Desk" "row" "[I", Cond.methodLink RX0 24 yX0_cellOf, Cond.static yX0_cellOf, Cond.code yX0_cellOf cX0_cellOf 3 (some .int)]
def wsX6_strike_r2 : List Cond := [Cond.methodLink RX6 83 yX2_remember, Cond.instanceMethod yX2_remember, Cond.selects RX2 yX2_remember yX2_remember, Cond.initialized RX2, Cond.code yX2_remember cX2_remember 2 none, Cond.fieldLink RX2 22 "WindRoses$History" "states" "I", Cond.fieldLink RX2 18 "WindRoses$History" "oldest" "I", Cond.fieldLink RX2 12 "WindRoses$History" "rows" "[I", Cond.methodLink RX2 25 yX2_placeOf, Cond.instanceMethod yX2_placeOf, Cond.selects RX2 yX2_placeOf yX2_placeOf, Cond.code yX2_placeOf cX2_placeOf 2 (some .int), Cond.methodLink RX2 29 yX0_saveTo, Cond.instanceMethod yX0_saveTo, Cond.selects RX0 yX0_saveTo yX0_saveTo, Cond.code yX0_saveTo cX0_saveTo 3 none, Cond.methodLink RX0 18 arraycopyName, Cond.native arraycopyName, Cond.static arraycopyName, Cond.initialized "java/lang/System", Cond.methodLink RX6 87 yX0_addWindy, Cond.instanceMethod yX0_addWindy, Cond.selects RX0 yX0_addWindy yX0_addWindy, Cond.code yX0_addWindy cX0_addWindy 5 none]
def wsX6_strike : List Cond := .code yX6_strike cX6_strike 7 (some .int) :: ((wsX6_strike_r1 ++ wsX6_strike_r2) ++ wsX60 ++ wsX00 ++ wsX20)
def wsX6_turn_r1 : List Cond := [Cond.fieldLink RX6 12 "WindRoses" "desk" "LWindRoses$Desk;", Cond.fieldLink RX6 19 "WindRoses" "history" "LWindRoses$History;", Cond.methodLink RX6 64 yX6_isRose, Cond.static yX6_isRose, Cond.initialized RX6, Cond.code yX6_isRose cX6_isRose 2 (some .boolean), Cond.methodLink RX6 72 yX6_isBetween, Cond.static yX6_isBetween, Cond.code yX6_isBetween cX6_isBetween 3 (some .boolean), Cond.methodLink RX6 76 yX6_roseOf, Cond.static yX6_roseOf, Cond.code yX6_roseOf cX6_roseOf 2 (some .int), Cond.methodLink RX6 103 yX0_windyHours, Cond.instanceMethod yX0_windyHours, Cond.selects RX0 yX0_windyHours yX0_windyHours, Cond.initialized RX0, Cond.code yX0_windyHours cX0_windyHours 2 (some .int), Cond.fieldLink RX0 11 "WindRoses$Desk" "row" "[I", Cond.methodLink RX6 83 yX2_remember, Cond.instanceMethod yX2_remember, Cond.selects RX2 yX2_remember yX2_remember, Cond.initialized RX2, Cond.code yX2_remember cX2_remember 2 none, Cond.fieldLink RX2 22 "WindRoses$History" "states" "I"]
def wsX6_turn_r2 : List Cond := [Cond.fieldLink RX2 18 "WindRoses$History" "oldest" "I", Cond.fieldLink RX2 12 "WindRoses$History" "rows" "[I", Cond.methodLink RX2 25 yX2_placeOf, Cond.instanceMethod yX2_placeOf, Cond.selects RX2 yX2_placeOf yX2_placeOf, Cond.code yX2_placeOf cX2_placeOf 2 (some .int), Cond.methodLink RX2 29 yX0_saveTo, Cond.instanceMethod yX0_saveTo, Cond.selects RX0 yX0_saveTo yX0_saveTo, Cond.code yX0_saveTo cX0_saveTo 3 none, Cond.methodLink RX0 18 arraycopyName, Cond.native arraycopyName, Cond.static arraycopyName, Cond.initialized "java/lang/System", Cond.methodLink RX6 106 yX0_turnLog, Cond.instanceMethod yX0_turnLog, Cond.selects RX0 yX0_turnLog yX0_turnLog, Cond.code yX0_turnLog cX0_turnLog 6 none, Cond.fieldLink RX0 15 "WindRoses$Desk" "turning" "[I"]
def wsX6_turn : List Cond := .code yX6_turn cX6_turn 5 (some .int) :: ((wsX6_turn_r1 ++ wsX6_turn_r2) ++ wsX60 ++ wsX00 ++ wsX20)
def wsX6_isSettingInRange : List Cond := .code yX6_isSettingInRange cX6_isSettingInRange 2 (some .boolean) :: ([.methodLink RX6 72 yX6_isBetween, .static yX6_isBetween, .initialized RX6, .code yX6_isBetween cX6_isBetween 3 (some .boolean)])
def wsX6_wouldMixBounds : List Cond := .code yX6_wouldMixBounds cX6_wouldMixBounds 3 (some .boolean) :: ([.fieldLink RX6 12 "WindRoses" "desk" "LWindRoses$Desk;", .methodLink RX6 115 yX0_setting, .instanceMethod yX0_setting, .selects RX0 yX0_setting yX0_setting, .initialized RX0, .code yX0_setting cX0_setting 2 (some .int), .fieldLink RX0 11 "WindRoses$Desk" "row" "[I"] ++ wsX60 ++ wsX00)
def wsX6_set_r1 : List Cond := [Cond.fieldLink RX6 12 "WindRoses" "desk" "LWindRoses$Desk;", Cond.fieldLink RX6 19 "WindRoses" "history" "LWindRoses$History;", Cond.methodLink RX6 72 yX6_isBetween, Cond.static yX6_isBetween, Cond.initialized RX6, Cond.code yX6_isBetween cX6_isBetween 3 (some .boolean), Cond.methodLink RX6 109 yX6_isSettingInRange, Cond.static yX6_isSettingInRange, Cond.code yX6_isSettingInRange cX6_isSettingInRange 2 (some .boolean), Cond.methodLink RX6 112 yX6_wouldMixBounds, Cond.instanceMethod yX6_wouldMixBounds, Cond.selects RX6 yX6_wouldMixBounds yX6_wouldMixBounds, Cond.code yX6_wouldMixBounds cX6_wouldMixBounds 3 (some .boolean), Cond.methodLink RX6 115 yX0_setting, Cond.instanceMethod yX0_setting, Cond.selects RX0 yX0_setting yX0_setting, Cond.initialized RX0, Cond.code yX0_setting cX0_setting 2 (some .int), Cond.fieldLink RX0 11 "WindRoses$Desk" "row" "[I", Cond.methodLink RX6 83 yX2_remember, Cond.instanceMethod yX2_remember, Cond.selects RX2 yX2_remember yX2_remember, Cond.initialized RX2, Cond.code yX2_remember cX2_remember 2 none]
def wsX6_set_r2 : List Cond := [Cond.fieldLink RX2 22 "WindRoses$History" "states" "I", Cond.fieldLink RX2 18 "WindRoses$History" "oldest" "I", Cond.fieldLink RX2 12 "WindRoses$History" "rows" "[I", Cond.methodLink RX2 25 yX2_placeOf, Cond.instanceMethod yX2_placeOf, Cond.selects RX2 yX2_placeOf yX2_placeOf, Cond.code yX2_placeOf cX2_placeOf 2 (some .int), Cond.methodLink RX2 29 yX0_saveTo, Cond.instanceMethod yX0_saveTo, Cond.selects RX0 yX0_saveTo yX0_saveTo, Cond.code yX0_saveTo cX0_saveTo 3 none, Cond.methodLink RX0 18 arraycopyName, Cond.native arraycopyName, Cond.static arraycopyName, Cond.initialized "java/lang/System", Cond.methodLink RX6 118 yX0_putSetting, Cond.instanceMethod yX0_putSetting, Cond.selects RX0 yX0_putSetting yX0_putSetting, Cond.code yX0_putSetting cX0_putSetting 3 none]
def wsX6_set : List Cond := .code yX6_set cX6_set 4 (some .int) :: ((wsX6_set_r1 ++ wsX6_set_r2) ++ wsX60 ++ wsX00 ++ wsX20)
def wsX6_obstacleTo_r1 : List Cond := [Cond.fieldLink RX6 12 "WindRoses" "desk" "LWindRoses$Desk;", Cond.fieldLink RX6 60 "WindRoses" "gap" "LWindRoses$Gap;", Cond.fieldLink RX6 135 "WindRoses$Gap" "different" "I", Cond.fieldLink RX6 127 "WindRoses$Gap" "scrapes" "I", Cond.methodLink RX6 91 yX0_allHours, Cond.instanceMethod yX0_allHours, Cond.selects RX0 yX0_allHours yX0_allHours, Cond.initialized RX0, Cond.code yX0_allHours cX0_allHours 2 (some .int), Cond.methodLink RX0 28 yX0_windyHours, Cond.instanceMethod yX0_windyHours, Cond.selects RX0 yX0_windyHours yX0_windyHours, Cond.code yX0_windyHours cX0_windyHours 2 (some .int), Cond.fieldLink RX0 11 "WindRoses$Desk" "row" "[I", Cond.methodLink RX0 32 yX0_calmHours, Cond.instanceMethod yX0_calmHours, Cond.selects RX0 yX0_calmHours yX0_calmHours, Cond.code yX0_calmHours cX0_calmHours 2 (some .int), Cond.methodLink RX6 260 yX1_measure, Cond.instanceMethod yX1_measure, Cond.selects RX1 yX1_measure yX1_measure, Cond.initialized RX1, Cond.code yX1_measure cX1_measure 4 none, Cond.fieldLink RX1 12 "WindRoses$Gap" "due" "LWindRoses$Shares;"]
def wsX6_obstacleTo_r2 : List Cond := [Cond.fieldLink RX1 18 "WindRoses$Gap" "different" "I", Cond.fieldLink RX1 22 "WindRoses$Gap" "distance" "I", Cond.fieldLink RX1 25 "WindRoses$Gap" "scrapes" "I", Cond.fieldLink RX1 38 "WindRoses$Shares" "row" "[I", Cond.methodLink RX1 28 yX4_fillByRank, Cond.instanceMethod yX4_fillByRank, Cond.selects RX4 yX4_fillByRank yX4_fillByRank, Cond.initialized RX4, Cond.code yX4_fillByRank cX4_fillByRank 4 none, Cond.fieldLink RX4 15 "WindRoses$Shares" "remainders" "[I", Cond.fieldLink RX4 22 "WindRoses$Shares" "missing" "I", Cond.fieldLink RX4 9 "WindRoses$Shares" "row" "[I", Cond.methodLink RX4 26 yX4_divide, Cond.instanceMethod yX4_divide, Cond.selects RX4 yX4_divide yX4_divide, Cond.code yX4_divide cX4_divide 8 none, Cond.methodLink RX4 37 yX0_windyHours, Cond.methodLink RX4 42 yX4_makeEmpty, Cond.instanceMethod yX4_makeEmpty, Cond.selects RX4 yX4_makeEmpty yX4_makeEmpty, Cond.code yX4_makeEmpty cX4_makeEmpty 2 none, Cond.static yX6_partOf, Cond.initialized RX6, Cond.code yX6_partOf cX6_partOf 2 (some .int)]
def wsX6_obstacleTo_r3 : List Cond := [Cond.methodLink RX4 49 yX0_partHours, Cond.instanceMethod yX0_partHours, Cond.selects RX0 yX0_partHours yX0_partHours, Cond.code yX0_partHours cX0_partHours 6 (some .int), Cond.methodLink RX0 42 yX0_setting, Cond.instanceMethod yX0_setting, Cond.selects RX0 yX0_setting yX0_setting, Cond.code yX0_setting cX0_setting 2 (some .int), Cond.methodLink RX0 38 yX0_hoursBetween, Cond.instanceMethod yX0_hoursBetween, Cond.selects RX0 yX0_hoursBetween yX0_hoursBetween, Cond.code yX0_hoursBetween cX0_hoursBetween 8 (some .int), Cond.methodLink RX4 30 yX4_partsAhead, Cond.instanceMethod yX4_partsAhead, Cond.selects RX4 yX4_partsAhead yX4_partsAhead, Cond.code yX4_partsAhead cX4_partsAhead 6 (some .int), Cond.methodLink RX1 32 yX0_petalLength, Cond.instanceMethod yX0_petalLength, Cond.selects RX0 yX0_petalLength yX0_petalLength, Cond.code yX0_petalLength cX0_petalLength 3 (some .int), Cond.methodLink RX1 42 yX1_compare, Cond.instanceMethod yX1_compare, Cond.selects RX1 yX1_compare yX1_compare, Cond.code yX1_compare cX1_compare 3 none]
def wsX6_obstacleTo_r4 : List Cond := [Cond.methodLink RX1 53 Lib.Math.abs.name, Cond.static Lib.Math.abs.name, Cond.initialized "java/lang/Math", Cond.code Lib.Math.abs.name Lib.Math.abs.code 1 (some .int), Cond.methodLink RX1 46 yX0_circle, Cond.instanceMethod yX0_circle, Cond.selects RX0 yX0_circle yX0_circle, Cond.code yX0_circle cX0_circle 2 (some .int), Cond.methodLink RX1 50 yX0_calmShare, Cond.instanceMethod yX0_calmShare, Cond.selects RX0 yX0_calmShare yX0_calmShare, Cond.code yX0_calmShare cX0_calmShare 3 (some .int), Cond.methodLink RX0 35 yX0_allHours, Cond.methodLink RX6 141 yX0_scrapes, Cond.instanceMethod yX0_scrapes, Cond.selects RX0 yX0_scrapes yX0_scrapes, Cond.code yX0_scrapes cX0_scrapes 2 (some .int), Cond.methodLink RX6 115 yX0_setting]
def wsX6_obstacleTo : List Cond := .code yX6_obstacleTo cX6_obstacleTo 2 (some .int) :: ((wsX6_obstacleTo_r1 ++ (wsX6_obstacleTo_r2 ++ (wsX6_obstacleTo_r3 ++ wsX6_obstacleTo_r4))) ++ wsX60 ++ wsX10 ++ wsX00 ++ wsX40)
def wsX6_engrave_r1 : List Cond := [Cond.fieldLink RX6 19 "WindRoses" "history" "LWindRoses$History;", Cond.fieldLink RX6 12 "WindRoses" "desk" "LWindRoses$Desk;", Cond.fieldLink RX6 60 "WindRoses" "gap" "LWindRoses$Gap;", Cond.fieldLink RX6 124 "WindRoses$Gap" "due" "LWindRoses$Shares;", Cond.fieldLink RX6 127 "WindRoses$Gap" "scrapes" "I", Cond.fieldLink RX6 135 "WindRoses$Gap" "different" "I", Cond.methodLink RX6 64 yX6_isRose, Cond.static yX6_isRose, Cond.initialized RX6, Cond.code yX6_isRose cX6_isRose 2 (some .boolean), Cond.methodLink RX6 72 yX6_isBetween, Cond.static yX6_isBetween, Cond.code yX6_isBetween cX6_isBetween 3 (some .boolean), Cond.methodLink RX6 76 yX6_roseOf, Cond.static yX6_roseOf, Cond.code yX6_roseOf cX6_roseOf 2 (some .int), Cond.methodLink RX6 121 yX6_obstacleTo, Cond.instanceMethod yX6_obstacleTo, Cond.selects RX6 yX6_obstacleTo yX6_obstacleTo, Cond.code yX6_obstacleTo cX6_obstacleTo 2 (some .int), Cond.methodLink RX6 91 yX0_allHours, Cond.instanceMethod yX0_allHours, Cond.selects RX0 yX0_allHours yX0_allHours, Cond.initialized RX0]
def wsX6_engrave_r2 : List Cond := [Cond.code yX0_allHours cX0_allHours 2 (some .int), Cond.methodLink RX0 28 yX0_windyHours, Cond.instanceMethod yX0_windyHours, Cond.selects RX0 yX0_windyHours yX0_windyHours, Cond.code yX0_windyHours cX0_windyHours 2 (some .int), Cond.fieldLink RX0 11 "WindRoses$Desk" "row" "[I", Cond.methodLink RX0 32 yX0_calmHours, Cond.instanceMethod yX0_calmHours, Cond.selects RX0 yX0_calmHours yX0_calmHours, Cond.code yX0_calmHours cX0_calmHours 2 (some .int), Cond.methodLink RX6 260 yX1_measure, Cond.instanceMethod yX1_measure, Cond.selects RX1 yX1_measure yX1_measure, Cond.initialized RX1, Cond.code yX1_measure cX1_measure 4 none, Cond.fieldLink RX1 12 "WindRoses$Gap" "due" "LWindRoses$Shares;", Cond.fieldLink RX1 18 "WindRoses$Gap" "different" "I", Cond.fieldLink RX1 22 "WindRoses$Gap" "distance" "I", Cond.fieldLink RX1 25 "WindRoses$Gap" "scrapes" "I", Cond.fieldLink RX1 38 "WindRoses$Shares" "row" "[I", Cond.methodLink RX1 28 yX4_fillByRank, Cond.instanceMethod yX4_fillByRank, Cond.selects RX4 yX4_fillByRank yX4_fillByRank, Cond.initialized RX4]
def wsX6_engrave_r3 : List Cond := [Cond.code yX4_fillByRank cX4_fillByRank 4 none, Cond.fieldLink RX4 15 "WindRoses$Shares" "remainders" "[I", Cond.fieldLink RX4 22 "WindRoses$Shares" "missing" "I", Cond.fieldLink RX4 9 "WindRoses$Shares" "row" "[I", Cond.methodLink RX4 26 yX4_divide, Cond.instanceMethod yX4_divide, Cond.selects RX4 yX4_divide yX4_divide, Cond.code yX4_divide cX4_divide 8 none, Cond.methodLink RX4 37 yX0_windyHours, Cond.methodLink RX4 42 yX4_makeEmpty, Cond.instanceMethod yX4_makeEmpty, Cond.selects RX4 yX4_makeEmpty yX4_makeEmpty, Cond.code yX4_makeEmpty cX4_makeEmpty 2 none, Cond.static yX6_partOf, Cond.code yX6_partOf cX6_partOf 2 (some .int), Cond.methodLink RX4 49 yX0_partHours, Cond.instanceMethod yX0_partHours, Cond.selects RX0 yX0_partHours yX0_partHours, Cond.code yX0_partHours cX0_partHours 6 (some .int), Cond.methodLink RX0 42 yX0_setting, Cond.instanceMethod yX0_setting, Cond.selects RX0 yX0_setting yX0_setting, Cond.code yX0_setting cX0_setting 2 (some .int), Cond.methodLink RX0 38 yX0_hoursBetween]
def wsX6_engrave_r4 : List Cond := [Cond.instanceMethod yX0_hoursBetween, Cond.selects RX0 yX0_hoursBetween yX0_hoursBetween, Cond.code yX0_hoursBetween cX0_hoursBetween 8 (some .int), Cond.methodLink RX4 30 yX4_partsAhead, Cond.instanceMethod yX4_partsAhead, Cond.selects RX4 yX4_partsAhead yX4_partsAhead, Cond.code yX4_partsAhead cX4_partsAhead 6 (some .int), Cond.methodLink RX1 32 yX0_petalLength, Cond.instanceMethod yX0_petalLength, Cond.selects RX0 yX0_petalLength yX0_petalLength, Cond.code yX0_petalLength cX0_petalLength 3 (some .int), Cond.methodLink RX1 42 yX1_compare, Cond.instanceMethod yX1_compare, Cond.selects RX1 yX1_compare yX1_compare, Cond.code yX1_compare cX1_compare 3 none, Cond.methodLink RX1 53 Lib.Math.abs.name, Cond.static Lib.Math.abs.name, Cond.initialized "java/lang/Math", Cond.code Lib.Math.abs.name Lib.Math.abs.code 1 (some .int), Cond.methodLink RX1 46 yX0_circle, Cond.instanceMethod yX0_circle, Cond.selects RX0 yX0_circle yX0_circle, Cond.code yX0_circle cX0_circle 2 (some .int), Cond.methodLink RX1 50 yX0_calmShare]
def wsX6_engrave_r5 : List Cond := [Cond.instanceMethod yX0_calmShare, Cond.selects RX0 yX0_calmShare yX0_calmShare, Cond.code yX0_calmShare cX0_calmShare 3 (some .int), Cond.methodLink RX0 35 yX0_allHours, Cond.methodLink RX6 141 yX0_scrapes, Cond.instanceMethod yX0_scrapes, Cond.selects RX0 yX0_scrapes yX0_scrapes, Cond.code yX0_scrapes cX0_scrapes 2 (some .int), Cond.methodLink RX6 115 yX0_setting, Cond.methodLink RX6 83 yX2_remember, Cond.instanceMethod yX2_remember, Cond.selects RX2 yX2_remember yX2_remember, Cond.initialized RX2, Cond.code yX2_remember cX2_remember 2 none, Cond.fieldLink RX2 22 "WindRoses$History" "states" "I", Cond.fieldLink RX2 18 "WindRoses$History" "oldest" "I", Cond.fieldLink RX2 12 "WindRoses$History" "rows" "[I", Cond.methodLink RX2 25 yX2_placeOf, Cond.instanceMethod yX2_placeOf, Cond.selects RX2 yX2_placeOf yX2_placeOf, Cond.code yX2_placeOf cX2_placeOf 2 (some .int), Cond.methodLink RX2 29 yX0_saveTo, Cond.instanceMethod yX0_saveTo, Cond.selects RX0 yX0_saveTo yX0_saveTo]
def wsX6_engrave_r6 : List Cond := [Cond.code yX0_saveTo cX0_saveTo 3 none, Cond.methodLink RX0 18 arraycopyName, Cond.native arraycopyName, Cond.static arraycopyName, Cond.initialized "java/lang/System", Cond.methodLink RX6 131 yX0_cut, Cond.instanceMethod yX0_cut, Cond.selects RX0 yX0_cut yX0_cut, Cond.code yX0_cut cX0_cut 4 none, Cond.fieldLink RX0 63 "WindRoses$Shares" "row" "[I", Cond.methodLink RX0 66 yX0_calmShare]
def wsX6_engrave : List Cond := .code yX6_engrave cX6_engrave 5 (some .int) :: ((wsX6_engrave_r1 ++ (wsX6_engrave_r2 ++ (wsX6_engrave_r3 ++ (wsX6_engrave_r4 ++ (wsX6_engrave_r5 ++ wsX6_engrave_r6))))) ++ wsX60 ++ wsX10 ++ wsX00 ++ wsX40 ++ wsX20)
def wsX6_renew_r1 : List Cond := [Cond.fieldLink RX6 12 "WindRoses" "desk" "LWindRoses$Desk;", Cond.fieldLink RX6 19 "WindRoses" "history" "LWindRoses$History;", Cond.methodLink RX6 64 yX6_isRose, Cond.static yX6_isRose, Cond.initialized RX6, Cond.code yX6_isRose cX6_isRose 2 (some .boolean), Cond.methodLink RX6 72 yX6_isBetween, Cond.static yX6_isBetween, Cond.code yX6_isBetween cX6_isBetween 3 (some .boolean), Cond.methodLink RX6 76 yX6_roseOf, Cond.static yX6_roseOf, Cond.code yX6_roseOf cX6_roseOf 2 (some .int), Cond.methodLink RX6 138 yX0_isNewPlate, Cond.instanceMethod yX0_isNewPlate, Cond.selects RX0 yX0_isNewPlate yX0_isNewPlate, Cond.initialized RX0, Cond.code yX0_isNewPlate cX0_isNewPlate 2 (some .boolean), Cond.methodLink RX0 69 yX0_petalsCut, Cond.instanceMethod yX0_petalsCut, Cond.selects RX0 yX0_petalsCut yX0_petalsCut, Cond.code yX0_petalsCut cX0_petalsCut 4 (some .int), Cond.methodLink RX0 54 yX0_petalLength, Cond.instanceMethod yX0_petalLength, Cond.selects RX0 yX0_petalLength yX0_petalLength]
def wsX6_renew_r2 : List Cond := [Cond.code yX0_petalLength cX0_petalLength 3 (some .int), Cond.fieldLink RX0 11 "WindRoses$Desk" "row" "[I", Cond.methodLink RX0 72 yX0_circle, Cond.instanceMethod yX0_circle, Cond.selects RX0 yX0_circle yX0_circle, Cond.code yX0_circle cX0_circle 2 (some .int), Cond.methodLink RX0 75 yX0_scrapes, Cond.instanceMethod yX0_scrapes, Cond.selects RX0 yX0_scrapes yX0_scrapes, Cond.code yX0_scrapes cX0_scrapes 2 (some .int), Cond.methodLink RX6 141 yX0_scrapes, Cond.methodLink RX6 83 yX2_remember, Cond.instanceMethod yX2_remember, Cond.selects RX2 yX2_remember yX2_remember, Cond.initialized RX2, Cond.code yX2_remember cX2_remember 2 none, Cond.fieldLink RX2 22 "WindRoses$History" "states" "I", Cond.fieldLink RX2 18 "WindRoses$History" "oldest" "I", Cond.fieldLink RX2 12 "WindRoses$History" "rows" "[I", Cond.methodLink RX2 25 yX2_placeOf, Cond.instanceMethod yX2_placeOf, Cond.selects RX2 yX2_placeOf yX2_placeOf, Cond.code yX2_placeOf cX2_placeOf 2 (some .int), Cond.methodLink RX2 29 yX0_saveTo]
def wsX6_renew_r3 : List Cond := [Cond.instanceMethod yX0_saveTo, Cond.selects RX0 yX0_saveTo yX0_saveTo, Cond.code yX0_saveTo cX0_saveTo 3 none, Cond.methodLink RX0 18 arraycopyName, Cond.native arraycopyName, Cond.static arraycopyName, Cond.initialized "java/lang/System", Cond.methodLink RX6 143 yX0_putNewPlate, Cond.instanceMethod yX0_putNewPlate, Cond.selects RX0 yX0_putNewPlate yX0_putNewPlate, Cond.code yX0_putNewPlate cX0_putNewPlate 3 none]
def wsX6_renew : List Cond := .code yX6_renew cX6_renew 5 (some .int) :: ((wsX6_renew_r1 ++ (wsX6_renew_r2 ++ wsX6_renew_r3)) ++ wsX60 ++ wsX00 ++ wsX20)
def wsX6_type : List Cond := .code yX6_type cX6_type 2 (some .int) :: ([.fieldLink RX6 34 "WindRoses" "text" "LWindRoses$Text;", .methodLink RX6 147 yX5_isFull, .instanceMethod yX5_isFull, .selects RX5 yX5_isFull yX5_isFull, .initialized RX5, .code yX5_isFull cX5_isFull 1 (some .boolean), .fieldLink RX5 15 "WindRoses$Text" "length" "I", .methodLink RX6 151 yX5_append, .instanceMethod yX5_append, .selects RX5 yX5_append yX5_append, .code yX5_append cX5_append 2 none, .fieldLink RX5 9 "WindRoses$Text" "row" "[C", .methodLink RX5 19 yX5_isFull, .methodLink RX6 155 yX5_length, .instanceMethod yX5_length, .selects RX5 yX5_length yX5_length, .code yX5_length cX5_length 1 (some .int)] ++ wsX60 ++ wsX50)
def wsX6_clearText : List Cond := .code yX6_clearText cX6_clearText 2 (some .int) :: ([.fieldLink RX6 34 "WindRoses" "text" "LWindRoses$Text;", .methodLink RX6 155 yX5_length, .instanceMethod yX5_length, .selects RX5 yX5_length yX5_length, .initialized RX5, .code yX5_length cX5_length 1 (some .int), .fieldLink RX5 15 "WindRoses$Text" "length" "I", .methodLink RX6 159 yX5_makeEmpty, .instanceMethod yX5_makeEmpty, .selects RX5 yX5_makeEmpty yX5_makeEmpty, .code yX5_makeEmpty cX5_makeEmpty 1 none] ++ wsX60 ++ wsX50)
def wsX6_logAll_r1 : List Cond := [Cond.fieldLink RX6 43 "WindRoses" "reader" "LWindRoses$Reader;", Cond.fieldLink RX6 165 "WindRoses$Reader" "place" "I", Cond.fieldLink RX6 12 "WindRoses" "desk" "LWindRoses$Desk;", Cond.fieldLink RX6 19 "WindRoses" "history" "LWindRoses$History;", Cond.fieldLink RX6 171 "WindRoses$Reader" "entries" "I", Cond.fieldLink RX6 178 "WindRoses$Reader" "hours" "[I", Cond.methodLink RX6 162 yX3_readAll, Cond.instanceMethod yX3_readAll, Cond.selects RX3 yX3_readAll yX3_readAll, Cond.initialized RX3, Cond.code yX3_readAll cX3_readAll 2 (some .boolean), Cond.fieldLink RX3 32 "WindRoses$Reader" "place" "I", Cond.fieldLink RX3 28 "WindRoses$Reader" "entries" "I", Cond.fieldLink RX3 9 "WindRoses$Reader" "text" "LWindRoses$Text;", Cond.methodLink RX3 35 yX3_readEntry, Cond.instanceMethod yX3_readEntry, Cond.selects RX3 yX3_readEntry yX3_readEntry, Cond.code yX3_readEntry cX3_readEntry 4 (some .boolean), Cond.fieldLink RX3 15 "WindRoses$Reader" "roses" "[I", Cond.methodLink RX3 59 yX3_readNumber, Cond.instanceMethod yX3_readNumber, Cond.selects RX3 yX3_readNumber yX3_readNumber, Cond.code yX3_readNumber cX3_readNumber 5 (some .int), Cond.methodLink RX3 76 yX5_digitAt]
def wsX6_logAll_r2 : List Cond := [Cond.instanceMethod yX5_digitAt, Cond.selects RX5 yX5_digitAt yX5_digitAt, Cond.initialized RX5, Cond.code yX5_digitAt cX5_digitAt 2 (some .int), Cond.fieldLink RX5 15 "WindRoses$Text" "length" "I", Cond.fieldLink RX5 9 "WindRoses$Text" "row" "[C", Cond.static yX6_isBetween, Cond.initialized RX6, Cond.code yX6_isBetween cX6_isBetween 3 (some .boolean), Cond.methodLink RX3 39 yX3_take, Cond.instanceMethod yX3_take, Cond.selects RX3 yX3_take yX3_take, Cond.code yX3_take cX3_take 2 (some .boolean), Cond.methodLink RX3 72 yX5_isAt, Cond.instanceMethod yX5_isAt, Cond.selects RX5 yX5_isAt yX5_isAt, Cond.code yX5_isAt cX5_isAt 3 (some .boolean), Cond.static yX6_roseOf, Cond.code yX6_roseOf cX6_roseOf 2 (some .int), Cond.methodLink RX3 66 yX3_readWind, Cond.instanceMethod yX3_readWind, Cond.selects RX3 yX3_readWind yX3_readWind, Cond.code yX3_readWind cX3_readWind 3 (some .boolean), Cond.fieldLink RX3 19 "WindRoses$Reader" "directions" "[I"]
def wsX6_logAll_r3 : List Cond := [Cond.fieldLink RX3 22 "WindRoses$Reader" "speeds" "[I", Cond.methodLink RX3 69 yX3_readHours, Cond.instanceMethod yX3_readHours, Cond.selects RX3 yX3_readHours yX3_readHours, Cond.code yX3_readHours cX3_readHours 2 (some .boolean), Cond.fieldLink RX3 25 "WindRoses$Reader" "hours" "[I", Cond.methodLink RX3 43 yX5_length, Cond.instanceMethod yX5_length, Cond.selects RX5 yX5_length yX5_length, Cond.code yX5_length cX5_length 1 (some .int), Cond.methodLink RX6 168 yX3_hoursOf, Cond.instanceMethod yX3_hoursOf, Cond.selects RX3 yX3_hoursOf yX3_hoursOf, Cond.code yX3_hoursOf cX3_hoursOf 4 (some .int), Cond.methodLink RX6 80 yX0_hasRoom, Cond.instanceMethod yX0_hasRoom, Cond.selects RX0 yX0_hasRoom yX0_hasRoom, Cond.initialized RX0, Cond.code yX0_hasRoom cX0_hasRoom 3 (some .boolean), Cond.methodLink RX0 35 yX0_allHours, Cond.instanceMethod yX0_allHours, Cond.selects RX0 yX0_allHours yX0_allHours, Cond.code yX0_allHours cX0_allHours 2 (some .int), Cond.methodLink RX0 28 yX0_windyHours]
def wsX6_logAll_r4 : List Cond := [Cond.instanceMethod yX0_windyHours, Cond.selects RX0 yX0_windyHours yX0_windyHours, Cond.code yX0_windyHours cX0_windyHours 2 (some .int), Cond.fieldLink RX0 11 "WindRoses$Desk" "row" "[I", Cond.methodLink RX0 32 yX0_calmHours, Cond.instanceMethod yX0_calmHours, Cond.selects RX0 yX0_calmHours yX0_calmHours, Cond.code yX0_calmHours cX0_calmHours 2 (some .int), Cond.methodLink RX6 83 yX2_remember, Cond.instanceMethod yX2_remember, Cond.selects RX2 yX2_remember yX2_remember, Cond.initialized RX2, Cond.code yX2_remember cX2_remember 2 none, Cond.fieldLink RX2 22 "WindRoses$History" "states" "I", Cond.fieldLink RX2 18 "WindRoses$History" "oldest" "I", Cond.fieldLink RX2 12 "WindRoses$History" "rows" "[I", Cond.methodLink RX2 25 yX2_placeOf, Cond.instanceMethod yX2_placeOf, Cond.selects RX2 yX2_placeOf yX2_placeOf, Cond.code yX2_placeOf cX2_placeOf 2 (some .int), Cond.methodLink RX2 29 yX0_saveTo, Cond.instanceMethod yX0_saveTo, Cond.selects RX0 yX0_saveTo yX0_saveTo, Cond.code yX0_saveTo cX0_saveTo 3 none]
def wsX6_logAll_r5 : List Cond := [Cond.methodLink RX0 18 arraycopyName, Cond.native arraycopyName, Cond.static arraycopyName, Cond.initialized "java/lang/System", Cond.methodLink RX6 174 yX3_addEntry, Cond.instanceMethod yX3_addEntry, Cond.selects RX3 yX3_addEntry yX3_addEntry, Cond.code yX3_addEntry cX3_addEntry 3 none, Cond.methodLink RX3 49 yX0_addCalm, Cond.instanceMethod yX0_addCalm, Cond.selects RX0 yX0_addCalm yX0_addCalm, Cond.code yX0_addCalm cX0_addCalm 3 none, Cond.methodLink RX3 55 yX0_addWindy, Cond.instanceMethod yX0_addWindy, Cond.selects RX0 yX0_addWindy yX0_addWindy, Cond.code yX0_addWindy cX0_addWindy 5 none, Cond.methodLink RX0 24 yX0_cellOf, Cond.static yX0_cellOf, Cond.code yX0_cellOf cX0_cellOf 3 (some .int)]
def wsX6_logAll : List Cond := .code yX6_logAll cX6_logAll 3 (some .int) :: ((wsX6_logAll_r1 ++ (wsX6_logAll_r2 ++ (wsX6_logAll_r3 ++ (wsX6_logAll_r4 ++ wsX6_logAll_r5)))) ++ wsX60 ++ wsX30 ++ wsX50 ++ wsX00 ++ wsX20)
def wsX6_undo_r1 : List Cond := [Cond.fieldLink RX6 19 "WindRoses" "history" "LWindRoses$History;", Cond.fieldLink RX6 181 "WindRoses$History" "states" "I", Cond.fieldLink RX6 12 "WindRoses" "desk" "LWindRoses$Desk;", Cond.methodLink RX6 184 yX2_takeBack, Cond.instanceMethod yX2_takeBack, Cond.selects RX2 yX2_takeBack yX2_takeBack, Cond.initialized RX2, Cond.code yX2_takeBack cX2_takeBack 2 none, Cond.fieldLink RX2 22 "WindRoses$History" "states" "I", Cond.fieldLink RX2 12 "WindRoses$History" "rows" "[I", Cond.methodLink RX2 25 yX2_placeOf, Cond.instanceMethod yX2_placeOf, Cond.selects RX2 yX2_placeOf yX2_placeOf, Cond.code yX2_placeOf cX2_placeOf 2 (some .int), Cond.fieldLink RX2 18 "WindRoses$History" "oldest" "I", Cond.methodLink RX2 33 yX0_loadFrom, Cond.instanceMethod yX0_loadFrom, Cond.selects RX0 yX0_loadFrom yX0_loadFrom, Cond.initialized RX0, Cond.code yX0_loadFrom cX0_loadFrom 3 none, Cond.fieldLink RX0 11 "WindRoses$Desk" "row" "[I", Cond.methodLink RX0 18 arraycopyName, Cond.native arraycopyName, Cond.static arraycopyName]
def wsX6_undo_r2 : List Cond := [Cond.initialized "java/lang/System"]
def wsX6_undo : List Cond := .code yX6_undo cX6_undo 1 (some .int) :: ((wsX6_undo_r1 ++ wsX6_undo_r2) ++ wsX60 ++ wsX20 ++ wsX00)
def wsX6_keep : List Cond := .code yX6_keep cX6_keep 1 (some .int) :: ([.fieldLink RX6 12 "WindRoses" "desk" "LWindRoses$Desk;", .fieldLink RX6 23 "WindRoses" "snapshot" "[I", .fieldLink RX6 27 "WindRoses" "hasSnapshot" "Z", .methodLink RX6 187 yX0_saveTo, .instanceMethod yX0_saveTo, .selects RX0 yX0_saveTo yX0_saveTo, .initialized RX0, .code yX0_saveTo cX0_saveTo 3 none, .fieldLink RX0 11 "WindRoses$Desk" "row" "[I", .methodLink RX0 18 arraycopyName, .native arraycopyName, .static arraycopyName, .initialized "java/lang/System", .methodLink RX6 191 yX0_hoursOfAll, .instanceMethod yX0_hoursOfAll, .selects RX0 yX0_hoursOfAll yX0_hoursOfAll, .code yX0_hoursOfAll cX0_hoursOfAll 1 (some .int), .methodLink RX0 51 yX0_sumOfRoses, .instanceMethod yX0_sumOfRoses, .selects RX0 yX0_sumOfRoses yX0_sumOfRoses, .code yX0_sumOfRoses cX0_sumOfRoses 4 (some .int)] ++ wsX60 ++ wsX00)
def wsX6_restore_r1 : List Cond := [Cond.fieldLink RX6 27 "WindRoses" "hasSnapshot" "Z", Cond.fieldLink RX6 19 "WindRoses" "history" "LWindRoses$History;", Cond.fieldLink RX6 12 "WindRoses" "desk" "LWindRoses$Desk;", Cond.fieldLink RX6 23 "WindRoses" "snapshot" "[I", Cond.methodLink RX6 83 yX2_remember, Cond.instanceMethod yX2_remember, Cond.selects RX2 yX2_remember yX2_remember, Cond.initialized RX2, Cond.code yX2_remember cX2_remember 2 none, Cond.fieldLink RX2 22 "WindRoses$History" "states" "I", Cond.fieldLink RX2 18 "WindRoses$History" "oldest" "I", Cond.fieldLink RX2 12 "WindRoses$History" "rows" "[I", Cond.methodLink RX2 25 yX2_placeOf, Cond.instanceMethod yX2_placeOf, Cond.selects RX2 yX2_placeOf yX2_placeOf, Cond.code yX2_placeOf cX2_placeOf 2 (some .int), Cond.methodLink RX2 29 yX0_saveTo, Cond.instanceMethod yX0_saveTo, Cond.selects RX0 yX0_saveTo yX0_saveTo, Cond.initialized RX0, Cond.code yX0_saveTo cX0_saveTo 3 none, Cond.fieldLink RX0 11 "WindRoses$Desk" "row" "[I", Cond.methodLink RX0 18 arraycopyName, Cond.native arraycopyName]
def wsX6_restore_r2 : List Cond := [Cond.static arraycopyName, Cond.initialized "java/lang/System", Cond.methodLink RX6 194 yX0_loadFrom, Cond.instanceMethod yX0_loadFrom, Cond.selects RX0 yX0_loadFrom yX0_loadFrom, Cond.code yX0_loadFrom cX0_loadFrom 3 none, Cond.methodLink RX6 191 yX0_hoursOfAll, Cond.instanceMethod yX0_hoursOfAll, Cond.selects RX0 yX0_hoursOfAll yX0_hoursOfAll, Cond.code yX0_hoursOfAll cX0_hoursOfAll 1 (some .int), Cond.methodLink RX0 51 yX0_sumOfRoses, Cond.instanceMethod yX0_sumOfRoses, Cond.selects RX0 yX0_sumOfRoses yX0_sumOfRoses, Cond.code yX0_sumOfRoses cX0_sumOfRoses 4 (some .int)]
def wsX6_restore : List Cond := .code yX6_restore cX6_restore 1 (some .int) :: ((wsX6_restore_r1 ++ wsX6_restore_r2) ++ wsX60 ++ wsX20 ++ wsX00)
def wsX6_greatestSpeed : List Cond := .code yX6_greatestSpeed cX6_greatestSpeed 3 (some .int) :: ([.fieldLink RX6 12 "WindRoses" "desk" "LWindRoses$Desk;", .methodLink RX6 287 yX0_speedHours, .instanceMethod yX0_speedHours, .selects RX0 yX0_speedHours yX0_speedHours, .initialized RX0, .code yX0_speedHours cX0_speedHours 5 (some .int), .methodLink RX0 48 yX0_hoursAt, .instanceMethod yX0_hoursAt, .selects RX0 yX0_hoursAt yX0_hoursAt, .code yX0_hoursAt cX0_hoursAt 4 (some .int), .fieldLink RX0 11 "WindRoses$Desk" "row" "[I", .methodLink RX0 24 yX0_cellOf, .static yX0_cellOf, .code yX0_cellOf cX0_cellOf 3 (some .int)] ++ wsX60 ++ wsX00)
def wsX6_meanSpeed : List Cond := .code yX6_meanSpeed cX6_meanSpeed 5 (some .int) :: ([.fieldLink RX6 12 "WindRoses" "desk" "LWindRoses$Desk;", .methodLink RX6 103 yX0_windyHours, .instanceMethod yX0_windyHours, .selects RX0 yX0_windyHours yX0_windyHours, .initialized RX0, .code yX0_windyHours cX0_windyHours 2 (some .int), .fieldLink RX0 11 "WindRoses$Desk" "row" "[I", .methodLink RX6 287 yX0_speedHours, .instanceMethod yX0_speedHours, .selects RX0 yX0_speedHours yX0_speedHours, .code yX0_speedHours cX0_speedHours 5 (some .int), .methodLink RX0 48 yX0_hoursAt, .instanceMethod yX0_hoursAt, .selects RX0 yX0_hoursAt yX0_hoursAt, .code yX0_hoursAt cX0_hoursAt 4 (some .int), .methodLink RX0 24 yX0_cellOf, .static yX0_cellOf, .code yX0_cellOf cX0_cellOf 3 (some .int)] ++ wsX60 ++ wsX00)
def wsX6_prevailingDirection : List Cond := .code yX6_prevailingDirection cX6_prevailingDirection 6 (some .int) :: ([.fieldLink RX6 12 "WindRoses" "desk" "LWindRoses$Desk;", .methodLink RX6 215 yX0_directionHours, .instanceMethod yX0_directionHours, .selects RX0 yX0_directionHours yX0_directionHours, .initialized RX0, .code yX0_directionHours cX0_directionHours 3 (some .int), .methodLink RX0 38 yX0_hoursBetween, .instanceMethod yX0_hoursBetween, .selects RX0 yX0_hoursBetween yX0_hoursBetween, .code yX0_hoursBetween cX0_hoursBetween 8 (some .int), .fieldLink RX0 11 "WindRoses$Desk" "row" "[I"] ++ wsX60 ++ wsX00)
def wsX6_rose_r1 : List Cond := [Cond.fieldLink RX6 12 "WindRoses" "desk" "LWindRoses$Desk;", Cond.methodLink RX6 64 yX6_isRose, Cond.static yX6_isRose, Cond.initialized RX6, Cond.code yX6_isRose cX6_isRose 2 (some .boolean), Cond.methodLink RX6 72 yX6_isBetween, Cond.static yX6_isBetween, Cond.code yX6_isBetween cX6_isBetween 3 (some .boolean), Cond.methodLink RX6 76 yX6_roseOf, Cond.static yX6_roseOf, Cond.code yX6_roseOf cX6_roseOf 2 (some .int), Cond.methodLink RX6 91 yX0_allHours, Cond.instanceMethod yX0_allHours, Cond.selects RX0 yX0_allHours yX0_allHours, Cond.initialized RX0, Cond.code yX0_allHours cX0_allHours 2 (some .int), Cond.methodLink RX0 28 yX0_windyHours, Cond.instanceMethod yX0_windyHours, Cond.selects RX0 yX0_windyHours yX0_windyHours, Cond.code yX0_windyHours cX0_windyHours 2 (some .int), Cond.fieldLink RX0 11 "WindRoses$Desk" "row" "[I", Cond.methodLink RX0 32 yX0_calmHours, Cond.instanceMethod yX0_calmHours, Cond.selects RX0 yX0_calmHours yX0_calmHours]
def wsX6_rose_r2 : List Cond := [Cond.code yX0_calmHours cX0_calmHours 2 (some .int), Cond.methodLink RX6 103 yX0_windyHours, Cond.methodLink RX6 197 yX0_calmHours, Cond.methodLink RX6 200 yX0_calmShare, Cond.instanceMethod yX0_calmShare, Cond.selects RX0 yX0_calmShare yX0_calmShare, Cond.code yX0_calmShare cX0_calmShare 3 (some .int), Cond.methodLink RX0 35 yX0_allHours, Cond.methodLink RX6 203 yX6_greatestSpeed, Cond.instanceMethod yX6_greatestSpeed, Cond.selects RX6 yX6_greatestSpeed yX6_greatestSpeed, Cond.code yX6_greatestSpeed cX6_greatestSpeed 3 (some .int), Cond.methodLink RX6 287 yX0_speedHours, Cond.instanceMethod yX0_speedHours, Cond.selects RX0 yX0_speedHours yX0_speedHours, Cond.code yX0_speedHours cX0_speedHours 5 (some .int), Cond.methodLink RX0 48 yX0_hoursAt, Cond.instanceMethod yX0_hoursAt, Cond.selects RX0 yX0_hoursAt yX0_hoursAt, Cond.code yX0_hoursAt cX0_hoursAt 4 (some .int), Cond.methodLink RX0 24 yX0_cellOf, Cond.static yX0_cellOf, Cond.code yX0_cellOf cX0_cellOf 3 (some .int), Cond.methodLink RX6 206 yX6_meanSpeed]
def wsX6_rose_r3 : List Cond := [Cond.instanceMethod yX6_meanSpeed, Cond.selects RX6 yX6_meanSpeed yX6_meanSpeed, Cond.code yX6_meanSpeed cX6_meanSpeed 5 (some .int), Cond.methodLink RX6 209 yX0_classHours, Cond.instanceMethod yX0_classHours, Cond.selects RX0 yX0_classHours yX0_classHours, Cond.code yX0_classHours cX0_classHours 5 (some .int), Cond.methodLink RX0 45 yX0_partHours, Cond.instanceMethod yX0_partHours, Cond.selects RX0 yX0_partHours yX0_partHours, Cond.code yX0_partHours cX0_partHours 6 (some .int), Cond.methodLink RX0 42 yX0_setting, Cond.instanceMethod yX0_setting, Cond.selects RX0 yX0_setting yX0_setting, Cond.code yX0_setting cX0_setting 2 (some .int), Cond.methodLink RX0 38 yX0_hoursBetween, Cond.instanceMethod yX0_hoursBetween, Cond.selects RX0 yX0_hoursBetween yX0_hoursBetween, Cond.code yX0_hoursBetween cX0_hoursBetween 8 (some .int), Cond.methodLink RX6 212 yX6_prevailingDirection, Cond.instanceMethod yX6_prevailingDirection, Cond.selects RX6 yX6_prevailingDirection yX6_prevailingDirection, Cond.code yX6_prevailingDirection cX6_prevailingDirection 6 (some .int), Cond.methodLink RX6 215 yX0_directionHours]
def wsX6_rose_r4 : List Cond := [Cond.instanceMethod yX0_directionHours, Cond.selects RX0 yX0_directionHours yX0_directionHours, Cond.code yX0_directionHours cX0_directionHours 3 (some .int)]
def wsX6_rose : List Cond := .code yX6_rose cX6_rose 5 (some .int) :: ((wsX6_rose_r1 ++ (wsX6_rose_r2 ++ (wsX6_rose_r3 ++ wsX6_rose_r4))) ++ wsX60 ++ wsX00)
def wsX6_isClass : List Cond := .code yX6_isClass cX6_isClass 1 (some .boolean) :: ([.methodLink RX6 72 yX6_isBetween, .static yX6_isBetween, .initialized RX6, .code yX6_isBetween cX6_isBetween 3 (some .boolean)])
def wsX6_hours_r1 : List Cond := [Cond.fieldLink RX6 12 "WindRoses" "desk" "LWindRoses$Desk;", Cond.methodLink RX6 64 yX6_isRose, Cond.static yX6_isRose, Cond.initialized RX6, Cond.code yX6_isRose cX6_isRose 2 (some .boolean), Cond.methodLink RX6 72 yX6_isBetween, Cond.static yX6_isBetween, Cond.code yX6_isBetween cX6_isBetween 3 (some .boolean), Cond.methodLink RX6 68 yX6_isDirection, Cond.static yX6_isDirection, Cond.code yX6_isDirection cX6_isDirection 1 (some .boolean), Cond.methodLink RX6 76 yX6_roseOf, Cond.static yX6_roseOf, Cond.code yX6_roseOf cX6_roseOf 2 (some .int), Cond.methodLink RX6 215 yX0_directionHours, Cond.instanceMethod yX0_directionHours, Cond.selects RX0 yX0_directionHours yX0_directionHours, Cond.initialized RX0, Cond.code yX0_directionHours cX0_directionHours 3 (some .int), Cond.methodLink RX0 38 yX0_hoursBetween, Cond.instanceMethod yX0_hoursBetween, Cond.selects RX0 yX0_hoursBetween yX0_hoursBetween, Cond.code yX0_hoursBetween cX0_hoursBetween 8 (some .int), Cond.fieldLink RX0 11 "WindRoses$Desk" "row" "[I"]
def wsX6_hours_r2 : List Cond := [Cond.methodLink RX6 218 yX6_isClass, Cond.static yX6_isClass, Cond.code yX6_isClass cX6_isClass 1 (some .boolean), Cond.methodLink RX6 221 yX0_partHours, Cond.instanceMethod yX0_partHours, Cond.selects RX0 yX0_partHours yX0_partHours, Cond.code yX0_partHours cX0_partHours 6 (some .int), Cond.methodLink RX0 42 yX0_setting, Cond.instanceMethod yX0_setting, Cond.selects RX0 yX0_setting yX0_setting, Cond.code yX0_setting cX0_setting 2 (some .int)]
def wsX6_hours : List Cond := .code yX6_hours cX6_hours 6 (some .int) :: ((wsX6_hours_r1 ++ wsX6_hours_r2) ++ wsX60 ++ wsX00)
def wsX6_isPart : List Cond := .code yX6_isPart cX6_isPart 4 (some .boolean) :: ([.methodLink RX6 64 yX6_isRose, .static yX6_isRose, .initialized RX6, .code yX6_isRose cX6_isRose 2 (some .boolean), .methodLink RX6 72 yX6_isBetween, .static yX6_isBetween, .code yX6_isBetween cX6_isBetween 3 (some .boolean), .methodLink RX6 68 yX6_isDirection, .static yX6_isDirection, .code yX6_isDirection cX6_isDirection 1 (some .boolean), .methodLink RX6 218 yX6_isClass, .static yX6_isClass, .code yX6_isClass cX6_isClass 1 (some .boolean)])
def wsX6_share_r1 : List Cond := [Cond.fieldLink RX6 50 "WindRoses" "shares" "LWindRoses$Shares;", Cond.fieldLink RX6 12 "WindRoses" "desk" "LWindRoses$Desk;", Cond.fieldLink RX6 231 "WindRoses$Shares" "row" "[I", Cond.methodLink RX6 224 yX6_isPart, Cond.static yX6_isPart, Cond.initialized RX6, Cond.code yX6_isPart cX6_isPart 4 (some .boolean), Cond.methodLink RX6 64 yX6_isRose, Cond.static yX6_isRose, Cond.code yX6_isRose cX6_isRose 2 (some .boolean), Cond.methodLink RX6 72 yX6_isBetween, Cond.static yX6_isBetween, Cond.code yX6_isBetween cX6_isBetween 3 (some .boolean), Cond.methodLink RX6 68 yX6_isDirection, Cond.static yX6_isDirection, Cond.code yX6_isDirection cX6_isDirection 1 (some .boolean), Cond.methodLink RX6 218 yX6_isClass, Cond.static yX6_isClass, Cond.code yX6_isClass cX6_isClass 1 (some .boolean), Cond.methodLink RX6 76 yX6_roseOf, Cond.static yX6_roseOf, Cond.code yX6_roseOf cX6_roseOf 2 (some .int), Cond.methodLink RX6 228 yX4_fillByRank, Cond.instanceMethod yX4_fillByRank]
def wsX6_share_r2 : List Cond := [Cond.selects RX4 yX4_fillByRank yX4_fillByRank, Cond.initialized RX4, Cond.code yX4_fillByRank cX4_fillByRank 4 none, Cond.fieldLink RX4 15 "WindRoses$Shares" "remainders" "[I", Cond.fieldLink RX4 22 "WindRoses$Shares" "missing" "I", Cond.fieldLink RX4 9 "WindRoses$Shares" "row" "[I", Cond.methodLink RX4 26 yX4_divide, Cond.instanceMethod yX4_divide, Cond.selects RX4 yX4_divide yX4_divide, Cond.code yX4_divide cX4_divide 8 none, Cond.methodLink RX4 37 yX0_windyHours, Cond.instanceMethod yX0_windyHours, Cond.selects RX0 yX0_windyHours yX0_windyHours, Cond.initialized RX0, Cond.code yX0_windyHours cX0_windyHours 2 (some .int), Cond.fieldLink RX0 11 "WindRoses$Desk" "row" "[I", Cond.methodLink RX4 42 yX4_makeEmpty, Cond.instanceMethod yX4_makeEmpty, Cond.selects RX4 yX4_makeEmpty yX4_makeEmpty, Cond.code yX4_makeEmpty cX4_makeEmpty 2 none, Cond.static yX6_partOf, Cond.code yX6_partOf cX6_partOf 2 (some .int), Cond.methodLink RX4 49 yX0_partHours, Cond.instanceMethod yX0_partHours]
def wsX6_share_r3 : List Cond := [Cond.selects RX0 yX0_partHours yX0_partHours, Cond.code yX0_partHours cX0_partHours 6 (some .int), Cond.methodLink RX0 42 yX0_setting, Cond.instanceMethod yX0_setting, Cond.selects RX0 yX0_setting yX0_setting, Cond.code yX0_setting cX0_setting 2 (some .int), Cond.methodLink RX0 38 yX0_hoursBetween, Cond.instanceMethod yX0_hoursBetween, Cond.selects RX0 yX0_hoursBetween yX0_hoursBetween, Cond.code yX0_hoursBetween cX0_hoursBetween 8 (some .int), Cond.methodLink RX4 30 yX4_partsAhead, Cond.instanceMethod yX4_partsAhead, Cond.selects RX4 yX4_partsAhead yX4_partsAhead, Cond.code yX4_partsAhead cX4_partsAhead 6 (some .int), Cond.methodLink RX6 234 yX6_partOf]
def wsX6_share : List Cond := .code yX6_share cX6_share 5 (some .int) :: ((wsX6_share_r1 ++ (wsX6_share_r2 ++ wsX6_share_r3)) ++ wsX60 ++ wsX40 ++ wsX00)
def wsX6_dealt_r1 : List Cond := [Cond.fieldLink RX6 50 "WindRoses" "shares" "LWindRoses$Shares;", Cond.fieldLink RX6 12 "WindRoses" "desk" "LWindRoses$Desk;", Cond.fieldLink RX6 231 "WindRoses$Shares" "row" "[I", Cond.methodLink RX6 224 yX6_isPart, Cond.static yX6_isPart, Cond.initialized RX6, Cond.code yX6_isPart cX6_isPart 4 (some .boolean), Cond.methodLink RX6 64 yX6_isRose, Cond.static yX6_isRose, Cond.code yX6_isRose cX6_isRose 2 (some .boolean), Cond.methodLink RX6 72 yX6_isBetween, Cond.static yX6_isBetween, Cond.code yX6_isBetween cX6_isBetween 3 (some .boolean), Cond.methodLink RX6 68 yX6_isDirection, Cond.static yX6_isDirection, Cond.code yX6_isDirection cX6_isDirection 1 (some .boolean), Cond.methodLink RX6 218 yX6_isClass, Cond.static yX6_isClass, Cond.code yX6_isClass cX6_isClass 1 (some .boolean), Cond.methodLink RX6 76 yX6_roseOf, Cond.static yX6_roseOf, Cond.code yX6_roseOf cX6_roseOf 2 (some .int), Cond.methodLink RX6 237 yX4_fillByDealing, Cond.instanceMethod yX4_fillByDealing]
def wsX6_dealt_r2 : List Cond := [Cond.selects RX4 yX4_fillByDealing yX4_fillByDealing, Cond.initialized RX4, Cond.code yX4_fillByDealing cX4_fillByDealing 4 none, Cond.fieldLink RX4 18 "WindRoses$Shares" "given" "[Z", Cond.fieldLink RX4 22 "WindRoses$Shares" "missing" "I", Cond.methodLink RX4 26 yX4_divide, Cond.instanceMethod yX4_divide, Cond.selects RX4 yX4_divide yX4_divide, Cond.code yX4_divide cX4_divide 8 none, Cond.fieldLink RX4 9 "WindRoses$Shares" "row" "[I", Cond.fieldLink RX4 15 "WindRoses$Shares" "remainders" "[I", Cond.methodLink RX4 37 yX0_windyHours, Cond.instanceMethod yX0_windyHours, Cond.selects RX0 yX0_windyHours yX0_windyHours, Cond.initialized RX0, Cond.code yX0_windyHours cX0_windyHours 2 (some .int), Cond.fieldLink RX0 11 "WindRoses$Desk" "row" "[I", Cond.methodLink RX4 42 yX4_makeEmpty, Cond.instanceMethod yX4_makeEmpty, Cond.selects RX4 yX4_makeEmpty yX4_makeEmpty, Cond.code yX4_makeEmpty cX4_makeEmpty 2 none, Cond.static yX6_partOf, Cond.code yX6_partOf cX6_partOf 2 (some .int), Cond.methodLink RX4 49 yX0_partHours]
def wsX6_dealt_r3 : List Cond := [Cond.instanceMethod yX0_partHours, Cond.selects RX0 yX0_partHours yX0_partHours, Cond.code yX0_partHours cX0_partHours 6 (some .int), Cond.methodLink RX0 42 yX0_setting, Cond.instanceMethod yX0_setting, Cond.selects RX0 yX0_setting yX0_setting, Cond.code yX0_setting cX0_setting 2 (some .int), Cond.methodLink RX0 38 yX0_hoursBetween, Cond.instanceMethod yX0_hoursBetween, Cond.selects RX0 yX0_hoursBetween yX0_hoursBetween, Cond.code yX0_hoursBetween cX0_hoursBetween 8 (some .int), Cond.methodLink RX4 34 yX4_giveOne, Cond.instanceMethod yX4_giveOne, Cond.selects RX4 yX4_giveOne yX4_giveOne, Cond.code yX4_giveOne cX4_giveOne 3 none, Cond.methodLink RX6 234 yX6_partOf]
def wsX6_dealt : List Cond := .code yX6_dealt cX6_dealt 5 (some .int) :: ((wsX6_dealt_r1 ++ (wsX6_dealt_r2 ++ wsX6_dealt_r3)) ++ wsX60 ++ wsX40 ++ wsX00)
def wsJ9_floorMod_7cf53 : List Cond := .code yJ9_floorMod_7cf53 cJ9_floorMod_7cf53 3 (some .int) :: ([])
def wsX6_hoursFrom : List Cond := .code yX6_hoursFrom cX6_hoursFrom 3 (some .int) :: ([.fieldLink RX6 12 "WindRoses" "desk" "LWindRoses$Desk;", .methodLink RX6 284 yJ9_floorMod_7cf53, .static yJ9_floorMod_7cf53, .initialized RJ9, .code yJ9_floorMod_7cf53 cJ9_floorMod_7cf53 3 (some .int), .methodLink RX6 215 yX0_directionHours, .instanceMethod yX0_directionHours, .selects RX0 yX0_directionHours yX0_directionHours, .initialized RX0, .code yX0_directionHours cX0_directionHours 3 (some .int), .methodLink RX0 38 yX0_hoursBetween, .instanceMethod yX0_hoursBetween, .selects RX0 yX0_hoursBetween yX0_hoursBetween, .code yX0_hoursBetween cX0_hoursBetween 8 (some .int), .fieldLink RX0 11 "WindRoses$Desk" "row" "[I"] ++ wsX60 ++ wsX00)
def wsX6_quarter_r1 : List Cond := [Cond.methodLink RX6 64 yX6_isRose, Cond.static yX6_isRose, Cond.initialized RX6, Cond.code yX6_isRose cX6_isRose 2 (some .boolean), Cond.methodLink RX6 72 yX6_isBetween, Cond.static yX6_isBetween, Cond.code yX6_isBetween cX6_isBetween 3 (some .boolean), Cond.methodLink RX6 76 yX6_roseOf, Cond.static yX6_roseOf, Cond.code yX6_roseOf cX6_roseOf 2 (some .int), Cond.methodLink RX6 240 yX6_hoursFrom, Cond.instanceMethod yX6_hoursFrom, Cond.selects RX6 yX6_hoursFrom yX6_hoursFrom, Cond.code yX6_hoursFrom cX6_hoursFrom 3 (some .int), Cond.fieldLink RX6 12 "WindRoses" "desk" "LWindRoses$Desk;", Cond.methodLink RX6 284 yJ9_floorMod_7cf53, Cond.static yJ9_floorMod_7cf53, Cond.initialized RJ9, Cond.code yJ9_floorMod_7cf53 cJ9_floorMod_7cf53 3 (some .int), Cond.methodLink RX6 215 yX0_directionHours, Cond.instanceMethod yX0_directionHours, Cond.selects RX0 yX0_directionHours yX0_directionHours, Cond.initialized RX0, Cond.code yX0_directionHours cX0_directionHours 3 (some .int)]
def wsX6_quarter_r2 : List Cond := [Cond.methodLink RX0 38 yX0_hoursBetween, Cond.instanceMethod yX0_hoursBetween, Cond.selects RX0 yX0_hoursBetween yX0_hoursBetween, Cond.code yX0_hoursBetween cX0_hoursBetween 8 (some .int), Cond.fieldLink RX0 11 "WindRoses$Desk" "row" "[I"]
def wsX6_quarter : List Cond := .code yX6_quarter cX6_quarter 8 (some .int) :: ((wsX6_quarter_r1 ++ wsX6_quarter_r2) ++ wsX60 ++ wsX00)
def wsX6_excess_r1 : List Cond := [Cond.methodLink RX6 243 Lib.Math.max.name, Cond.static Lib.Math.max.name, Cond.initialized "java/lang/Math", Cond.code Lib.Math.max.name Lib.Math.max.code 2 (some .int), Cond.methodLink RX6 64 yX6_isRose, Cond.static yX6_isRose, Cond.initialized RX6, Cond.code yX6_isRose cX6_isRose 2 (some .boolean), Cond.methodLink RX6 72 yX6_isBetween, Cond.static yX6_isBetween, Cond.code yX6_isBetween cX6_isBetween 3 (some .boolean), Cond.methodLink RX6 68 yX6_isDirection, Cond.static yX6_isDirection, Cond.code yX6_isDirection cX6_isDirection 1 (some .boolean), Cond.methodLink RX6 76 yX6_roseOf, Cond.static yX6_roseOf, Cond.code yX6_roseOf cX6_roseOf 2 (some .int), Cond.methodLink RX6 240 yX6_hoursFrom, Cond.instanceMethod yX6_hoursFrom, Cond.selects RX6 yX6_hoursFrom yX6_hoursFrom, Cond.code yX6_hoursFrom cX6_hoursFrom 3 (some .int), Cond.fieldLink RX6 12 "WindRoses" "desk" "LWindRoses$Desk;", Cond.methodLink RX6 284 yJ9_floorMod_7cf53, Cond.static yJ9_floorMod_7cf53]
def wsX6_excess_r2 : List Cond := [Cond.initialized RJ9, Cond.code yJ9_floorMod_7cf53 cJ9_floorMod_7cf53 3 (some .int), Cond.methodLink RX6 215 yX0_directionHours, Cond.instanceMethod yX0_directionHours, Cond.selects RX0 yX0_directionHours yX0_directionHours, Cond.initialized RX0, Cond.code yX0_directionHours cX0_directionHours 3 (some .int), Cond.methodLink RX0 38 yX0_hoursBetween, Cond.instanceMethod yX0_hoursBetween, Cond.selects RX0 yX0_hoursBetween yX0_hoursBetween, Cond.code yX0_hoursBetween cX0_hoursBetween 8 (some .int), Cond.fieldLink RX0 11 "WindRoses$Desk" "row" "[I"]
def wsX6_excess : List Cond := .code yX6_excess cX6_excess 6 (some .int) :: ((wsX6_excess_r1 ++ wsX6_excess_r2) ++ wsX60 ++ wsX00)
def wsX6_unlike_r1 : List Cond := [Cond.fieldLink RX6 50 "WindRoses" "shares" "LWindRoses$Shares;", Cond.fieldLink RX6 12 "WindRoses" "desk" "LWindRoses$Desk;", Cond.fieldLink RX6 54 "WindRoses" "otherShares" "LWindRoses$Shares;", Cond.fieldLink RX6 231 "WindRoses$Shares" "row" "[I", Cond.methodLink RX6 248 Lib.Math.abs.name, Cond.static Lib.Math.abs.name, Cond.initialized "java/lang/Math", Cond.code Lib.Math.abs.name Lib.Math.abs.code 1 (some .int), Cond.methodLink RX6 64 yX6_isRose, Cond.static yX6_isRose, Cond.initialized RX6, Cond.code yX6_isRose cX6_isRose 2 (some .boolean), Cond.methodLink RX6 72 yX6_isBetween, Cond.static yX6_isBetween, Cond.code yX6_isBetween cX6_isBetween 3 (some .boolean), Cond.methodLink RX6 76 yX6_roseOf, Cond.static yX6_roseOf, Cond.code yX6_roseOf cX6_roseOf 2 (some .int), Cond.methodLink RX6 228 yX4_fillByRank, Cond.instanceMethod yX4_fillByRank, Cond.selects RX4 yX4_fillByRank yX4_fillByRank, Cond.initialized RX4, Cond.code yX4_fillByRank cX4_fillByRank 4 none, Cond.fieldLink RX4 15 "WindRoses$Shares" "remainders" "[I"]
def wsX6_unlike_r2 : List Cond := [Cond.fieldLink RX4 22 "WindRoses$Shares" "missing" "I", Cond.fieldLink RX4 9 "WindRoses$Shares" "row" "[I", Cond.methodLink RX4 26 yX4_divide, Cond.instanceMethod yX4_divide, Cond.selects RX4 yX4_divide yX4_divide, Cond.code yX4_divide cX4_divide 8 none, Cond.methodLink RX4 37 yX0_windyHours, Cond.instanceMethod yX0_windyHours, Cond.selects RX0 yX0_windyHours yX0_windyHours, Cond.initialized RX0, Cond.code yX0_windyHours cX0_windyHours 2 (some .int), Cond.fieldLink RX0 11 "WindRoses$Desk" "row" "[I", Cond.methodLink RX4 42 yX4_makeEmpty, Cond.instanceMethod yX4_makeEmpty, Cond.selects RX4 yX4_makeEmpty yX4_makeEmpty, Cond.code yX4_makeEmpty cX4_makeEmpty 2 none, Cond.static yX6_partOf, Cond.code yX6_partOf cX6_partOf 2 (some .int), Cond.methodLink RX4 49 yX0_partHours, Cond.instanceMethod yX0_partHours, Cond.selects RX0 yX0_partHours yX0_partHours, Cond.code yX0_partHours cX0_partHours 6 (some .int), Cond.methodLink RX0 42 yX0_setting, Cond.instanceMethod yX0_setting]
def wsX6_unlike_r3 : List Cond := [Cond.selects RX0 yX0_setting yX0_setting, Cond.code yX0_setting cX0_setting 2 (some .int), Cond.methodLink RX0 38 yX0_hoursBetween, Cond.instanceMethod yX0_hoursBetween, Cond.selects RX0 yX0_hoursBetween yX0_hoursBetween, Cond.code yX0_hoursBetween cX0_hoursBetween 8 (some .int), Cond.methodLink RX4 30 yX4_partsAhead, Cond.instanceMethod yX4_partsAhead, Cond.selects RX4 yX4_partsAhead yX4_partsAhead, Cond.code yX4_partsAhead cX4_partsAhead 6 (some .int)]
def wsX6_unlike : List Cond := .code yX6_unlike cX6_unlike 6 (some .int) :: ((wsX6_unlike_r1 ++ (wsX6_unlike_r2 ++ wsX6_unlike_r3)) ++ wsX60 ++ wsX40 ++ wsX00)
def wsX6_seasonOf_r1 : List Cond := [Cond.fieldLink RX6 12 "WindRoses" "desk" "LWindRoses$Desk;", Cond.methodLink RX6 72 yX6_isBetween, Cond.static yX6_isBetween, Cond.initialized RX6, Cond.code yX6_isBetween cX6_isBetween 3 (some .boolean), Cond.methodLink RX6 218 yX6_isClass, Cond.static yX6_isClass, Cond.code yX6_isClass cX6_isClass 1 (some .boolean), Cond.methodLink RX6 76 yX6_roseOf, Cond.static yX6_roseOf, Cond.code yX6_roseOf cX6_roseOf 2 (some .int), Cond.methodLink RX6 209 yX0_classHours, Cond.instanceMethod yX0_classHours, Cond.selects RX0 yX0_classHours yX0_classHours, Cond.initialized RX0, Cond.code yX0_classHours cX0_classHours 5 (some .int), Cond.methodLink RX0 45 yX0_partHours, Cond.instanceMethod yX0_partHours, Cond.selects RX0 yX0_partHours yX0_partHours, Cond.code yX0_partHours cX0_partHours 6 (some .int), Cond.methodLink RX0 42 yX0_setting, Cond.instanceMethod yX0_setting, Cond.selects RX0 yX0_setting yX0_setting, Cond.code yX0_setting cX0_setting 2 (some .int)]
def wsX6_seasonOf_r2 : List Cond := [Cond.fieldLink RX0 11 "WindRoses$Desk" "row" "[I", Cond.methodLink RX0 38 yX0_hoursBetween, Cond.instanceMethod yX0_hoursBetween, Cond.selects RX0 yX0_hoursBetween yX0_hoursBetween, Cond.code yX0_hoursBetween cX0_hoursBetween 8 (some .int)]
def wsX6_seasonOf : List Cond := .code yX6_seasonOf cX6_seasonOf 7 (some .int) :: ((wsX6_seasonOf_r1 ++ wsX6_seasonOf_r2) ++ wsX60 ++ wsX00)
def wsX6_plate_r1 : List Cond := [Cond.fieldLink RX6 12 "WindRoses" "desk" "LWindRoses$Desk;", Cond.fieldLink RX6 60 "WindRoses" "gap" "LWindRoses$Gap;", Cond.fieldLink RX6 263 "WindRoses$Gap" "distance" "I", Cond.fieldLink RX6 127 "WindRoses$Gap" "scrapes" "I", Cond.methodLink RX6 64 yX6_isRose, Cond.static yX6_isRose, Cond.initialized RX6, Cond.code yX6_isRose cX6_isRose 2 (some .boolean), Cond.methodLink RX6 72 yX6_isBetween, Cond.static yX6_isBetween, Cond.code yX6_isBetween cX6_isBetween 3 (some .boolean), Cond.methodLink RX6 76 yX6_roseOf, Cond.static yX6_roseOf, Cond.code yX6_roseOf cX6_roseOf 2 (some .int), Cond.methodLink RX6 251 yX0_circle, Cond.instanceMethod yX0_circle, Cond.selects RX0 yX0_circle yX0_circle, Cond.initialized RX0, Cond.code yX0_circle cX0_circle 2 (some .int), Cond.fieldLink RX0 11 "WindRoses$Desk" "row" "[I", Cond.methodLink RX6 141 yX0_scrapes, Cond.instanceMethod yX0_scrapes, Cond.selects RX0 yX0_scrapes yX0_scrapes, Cond.code yX0_scrapes cX0_scrapes 2 (some .int)]
def wsX6_plate_r2 : List Cond := [Cond.methodLink RX6 254 yX0_petalsCut, Cond.instanceMethod yX0_petalsCut, Cond.selects RX0 yX0_petalsCut yX0_petalsCut, Cond.code yX0_petalsCut cX0_petalsCut 4 (some .int), Cond.methodLink RX0 54 yX0_petalLength, Cond.instanceMethod yX0_petalLength, Cond.selects RX0 yX0_petalLength yX0_petalLength, Cond.code yX0_petalLength cX0_petalLength 3 (some .int), Cond.methodLink RX6 257 yX0_longestPetal, Cond.instanceMethod yX0_longestPetal, Cond.selects RX0 yX0_longestPetal yX0_longestPetal, Cond.code yX0_longestPetal cX0_longestPetal 4 (some .int), Cond.methodLink RX0 58 Lib.Math.max.name, Cond.static Lib.Math.max.name, Cond.initialized "java/lang/Math", Cond.code Lib.Math.max.name Lib.Math.max.code 2 (some .int), Cond.methodLink RX6 260 yX1_measure, Cond.instanceMethod yX1_measure, Cond.selects RX1 yX1_measure yX1_measure, Cond.initialized RX1, Cond.code yX1_measure cX1_measure 4 none, Cond.fieldLink RX1 12 "WindRoses$Gap" "due" "LWindRoses$Shares;", Cond.fieldLink RX1 18 "WindRoses$Gap" "different" "I", Cond.fieldLink RX1 22 "WindRoses$Gap" "distance" "I"]
def wsX6_plate_r3 : List Cond := [Cond.fieldLink RX1 25 "WindRoses$Gap" "scrapes" "I", Cond.fieldLink RX1 38 "WindRoses$Shares" "row" "[I", Cond.methodLink RX1 28 yX4_fillByRank, Cond.instanceMethod yX4_fillByRank, Cond.selects RX4 yX4_fillByRank yX4_fillByRank, Cond.initialized RX4, Cond.code yX4_fillByRank cX4_fillByRank 4 none, Cond.fieldLink RX4 15 "WindRoses$Shares" "remainders" "[I", Cond.fieldLink RX4 22 "WindRoses$Shares" "missing" "I", Cond.fieldLink RX4 9 "WindRoses$Shares" "row" "[I", Cond.methodLink RX4 26 yX4_divide, Cond.instanceMethod yX4_divide, Cond.selects RX4 yX4_divide yX4_divide, Cond.code yX4_divide cX4_divide 8 none, Cond.methodLink RX4 37 yX0_windyHours, Cond.instanceMethod yX0_windyHours, Cond.selects RX0 yX0_windyHours yX0_windyHours, Cond.code yX0_windyHours cX0_windyHours 2 (some .int), Cond.methodLink RX4 42 yX4_makeEmpty, Cond.instanceMethod yX4_makeEmpty, Cond.selects RX4 yX4_makeEmpty yX4_makeEmpty, Cond.code yX4_makeEmpty cX4_makeEmpty 2 none, Cond.static yX6_partOf, Cond.code yX6_partOf cX6_partOf 2 (some .int)]
def wsX6_plate_r4 : List Cond := [Cond.methodLink RX4 49 yX0_partHours, Cond.instanceMethod yX0_partHours, Cond.selects RX0 yX0_partHours yX0_partHours, Cond.code yX0_partHours cX0_partHours 6 (some .int), Cond.methodLink RX0 42 yX0_setting, Cond.instanceMethod yX0_setting, Cond.selects RX0 yX0_setting yX0_setting, Cond.code yX0_setting cX0_setting 2 (some .int), Cond.methodLink RX0 38 yX0_hoursBetween, Cond.instanceMethod yX0_hoursBetween, Cond.selects RX0 yX0_hoursBetween yX0_hoursBetween, Cond.code yX0_hoursBetween cX0_hoursBetween 8 (some .int), Cond.methodLink RX4 30 yX4_partsAhead, Cond.instanceMethod yX4_partsAhead, Cond.selects RX4 yX4_partsAhead yX4_partsAhead, Cond.code yX4_partsAhead cX4_partsAhead 6 (some .int), Cond.methodLink RX1 32 yX0_petalLength, Cond.methodLink RX1 42 yX1_compare, Cond.instanceMethod yX1_compare, Cond.selects RX1 yX1_compare yX1_compare, Cond.code yX1_compare cX1_compare 3 none, Cond.methodLink RX1 53 Lib.Math.abs.name, Cond.static Lib.Math.abs.name, Cond.code Lib.Math.abs.name Lib.Math.abs.code 1 (some .int)]
def wsX6_plate_r5 : List Cond := [Cond.methodLink RX1 46 yX0_circle, Cond.methodLink RX1 50 yX0_calmShare, Cond.instanceMethod yX0_calmShare, Cond.selects RX0 yX0_calmShare yX0_calmShare, Cond.code yX0_calmShare cX0_calmShare 3 (some .int), Cond.methodLink RX0 35 yX0_allHours, Cond.instanceMethod yX0_allHours, Cond.selects RX0 yX0_allHours yX0_allHours, Cond.code yX0_allHours cX0_allHours 2 (some .int), Cond.methodLink RX0 28 yX0_windyHours, Cond.methodLink RX0 32 yX0_calmHours, Cond.instanceMethod yX0_calmHours, Cond.selects RX0 yX0_calmHours yX0_calmHours, Cond.code yX0_calmHours cX0_calmHours 2 (some .int)]
def wsX6_plate : List Cond := .code yX6_plate cX6_plate 5 (some .int) :: ((wsX6_plate_r1 ++ (wsX6_plate_r2 ++ (wsX6_plate_r3 ++ (wsX6_plate_r4 ++ wsX6_plate_r5)))) ++ wsX60 ++ wsX10 ++ wsX00 ++ wsX40)
def wsX6_petal_r1 : List Cond := [Cond.fieldLink RX6 12 "WindRoses" "desk" "LWindRoses$Desk;", Cond.methodLink RX6 224 yX6_isPart, Cond.static yX6_isPart, Cond.initialized RX6, Cond.code yX6_isPart cX6_isPart 4 (some .boolean), Cond.methodLink RX6 64 yX6_isRose, Cond.static yX6_isRose, Cond.code yX6_isRose cX6_isRose 2 (some .boolean), Cond.methodLink RX6 72 yX6_isBetween, Cond.static yX6_isBetween, Cond.code yX6_isBetween cX6_isBetween 3 (some .boolean), Cond.methodLink RX6 68 yX6_isDirection, Cond.static yX6_isDirection, Cond.code yX6_isDirection cX6_isDirection 1 (some .boolean), Cond.methodLink RX6 218 yX6_isClass, Cond.static yX6_isClass, Cond.code yX6_isClass cX6_isClass 1 (some .boolean), Cond.methodLink RX6 76 yX6_roseOf, Cond.static yX6_roseOf, Cond.code yX6_roseOf cX6_roseOf 2 (some .int), Cond.methodLink RX6 234 yX6_partOf, Cond.static yX6_partOf, Cond.code yX6_partOf cX6_partOf 2 (some .int), Cond.methodLink RX6 266 yX0_petalLength]
def wsX6_petal_r2 : List Cond := [Cond.instanceMethod yX0_petalLength, Cond.selects RX0 yX0_petalLength yX0_petalLength, Cond.initialized RX0, Cond.code yX0_petalLength cX0_petalLength 3 (some .int), Cond.fieldLink RX0 11 "WindRoses$Desk" "row" "[I"]
def wsX6_petal : List Cond := .code yX6_petal cX6_petal 5 (some .int) :: ((wsX6_petal_r1 ++ wsX6_petal_r2) ++ wsX60 ++ wsX00)
def wsX6_reason_r1 : List Cond := [Cond.methodLink RX6 64 yX6_isRose, Cond.static yX6_isRose, Cond.initialized RX6, Cond.code yX6_isRose cX6_isRose 2 (some .boolean), Cond.methodLink RX6 72 yX6_isBetween, Cond.static yX6_isBetween, Cond.code yX6_isBetween cX6_isBetween 3 (some .boolean), Cond.methodLink RX6 76 yX6_roseOf, Cond.static yX6_roseOf, Cond.code yX6_roseOf cX6_roseOf 2 (some .int), Cond.methodLink RX6 121 yX6_obstacleTo, Cond.instanceMethod yX6_obstacleTo, Cond.selects RX6 yX6_obstacleTo yX6_obstacleTo, Cond.code yX6_obstacleTo cX6_obstacleTo 2 (some .int), Cond.fieldLink RX6 12 "WindRoses" "desk" "LWindRoses$Desk;", Cond.fieldLink RX6 60 "WindRoses" "gap" "LWindRoses$Gap;", Cond.fieldLink RX6 135 "WindRoses$Gap" "different" "I", Cond.fieldLink RX6 127 "WindRoses$Gap" "scrapes" "I", Cond.methodLink RX6 91 yX0_allHours, Cond.instanceMethod yX0_allHours, Cond.selects RX0 yX0_allHours yX0_allHours, Cond.initialized RX0, Cond.code yX0_allHours cX0_allHours 2 (some .int), Cond.methodLink RX0 28 yX0_windyHours]
def wsX6_reason_r2 : List Cond := [Cond.instanceMethod yX0_windyHours, Cond.selects RX0 yX0_windyHours yX0_windyHours, Cond.code yX0_windyHours cX0_windyHours 2 (some .int), Cond.fieldLink RX0 11 "WindRoses$Desk" "row" "[I", Cond.methodLink RX0 32 yX0_calmHours, Cond.instanceMethod yX0_calmHours, Cond.selects RX0 yX0_calmHours yX0_calmHours, Cond.code yX0_calmHours cX0_calmHours 2 (some .int), Cond.methodLink RX6 260 yX1_measure, Cond.instanceMethod yX1_measure, Cond.selects RX1 yX1_measure yX1_measure, Cond.initialized RX1, Cond.code yX1_measure cX1_measure 4 none, Cond.fieldLink RX1 12 "WindRoses$Gap" "due" "LWindRoses$Shares;", Cond.fieldLink RX1 18 "WindRoses$Gap" "different" "I", Cond.fieldLink RX1 22 "WindRoses$Gap" "distance" "I", Cond.fieldLink RX1 25 "WindRoses$Gap" "scrapes" "I", Cond.fieldLink RX1 38 "WindRoses$Shares" "row" "[I", Cond.methodLink RX1 28 yX4_fillByRank, Cond.instanceMethod yX4_fillByRank, Cond.selects RX4 yX4_fillByRank yX4_fillByRank, Cond.initialized RX4, Cond.code yX4_fillByRank cX4_fillByRank 4 none, Cond.fieldLink RX4 15 "WindRoses$Shares" "remainders" "[I"]
def wsX6_reason_r3 : List Cond := [Cond.fieldLink RX4 22 "WindRoses$Shares" "missing" "I", Cond.fieldLink RX4 9 "WindRoses$Shares" "row" "[I", Cond.methodLink RX4 26 yX4_divide, Cond.instanceMethod yX4_divide, Cond.selects RX4 yX4_divide yX4_divide, Cond.code yX4_divide cX4_divide 8 none, Cond.methodLink RX4 37 yX0_windyHours, Cond.methodLink RX4 42 yX4_makeEmpty, Cond.instanceMethod yX4_makeEmpty, Cond.selects RX4 yX4_makeEmpty yX4_makeEmpty, Cond.code yX4_makeEmpty cX4_makeEmpty 2 none, Cond.static yX6_partOf, Cond.code yX6_partOf cX6_partOf 2 (some .int), Cond.methodLink RX4 49 yX0_partHours, Cond.instanceMethod yX0_partHours, Cond.selects RX0 yX0_partHours yX0_partHours, Cond.code yX0_partHours cX0_partHours 6 (some .int), Cond.methodLink RX0 42 yX0_setting, Cond.instanceMethod yX0_setting, Cond.selects RX0 yX0_setting yX0_setting, Cond.code yX0_setting cX0_setting 2 (some .int), Cond.methodLink RX0 38 yX0_hoursBetween, Cond.instanceMethod yX0_hoursBetween, Cond.selects RX0 yX0_hoursBetween yX0_hoursBetween]
def wsX6_reason_r4 : List Cond := [Cond.code yX0_hoursBetween cX0_hoursBetween 8 (some .int), Cond.methodLink RX4 30 yX4_partsAhead, Cond.instanceMethod yX4_partsAhead, Cond.selects RX4 yX4_partsAhead yX4_partsAhead, Cond.code yX4_partsAhead cX4_partsAhead 6 (some .int), Cond.methodLink RX1 32 yX0_petalLength, Cond.instanceMethod yX0_petalLength, Cond.selects RX0 yX0_petalLength yX0_petalLength, Cond.code yX0_petalLength cX0_petalLength 3 (some .int), Cond.methodLink RX1 42 yX1_compare, Cond.instanceMethod yX1_compare, Cond.selects RX1 yX1_compare yX1_compare, Cond.code yX1_compare cX1_compare 3 none, Cond.methodLink RX1 53 Lib.Math.abs.name, Cond.static Lib.Math.abs.name, Cond.initialized "java/lang/Math", Cond.code Lib.Math.abs.name Lib.Math.abs.code 1 (some .int), Cond.methodLink RX1 46 yX0_circle, Cond.instanceMethod yX0_circle, Cond.selects RX0 yX0_circle yX0_circle, Cond.code yX0_circle cX0_circle 2 (some .int), Cond.methodLink RX1 50 yX0_calmShare, Cond.instanceMethod yX0_calmShare, Cond.selects RX0 yX0_calmShare yX0_calmShare]
def wsX6_reason_r5 : List Cond := [Cond.code yX0_calmShare cX0_calmShare 3 (some .int), Cond.methodLink RX0 35 yX0_allHours, Cond.methodLink RX6 141 yX0_scrapes, Cond.instanceMethod yX0_scrapes, Cond.selects RX0 yX0_scrapes yX0_scrapes, Cond.code yX0_scrapes cX0_scrapes 2 (some .int), Cond.methodLink RX6 115 yX0_setting]
def wsX6_reason : List Cond := .code yX6_reason cX6_reason 3 (some .int) :: ((wsX6_reason_r1 ++ (wsX6_reason_r2 ++ (wsX6_reason_r3 ++ (wsX6_reason_r4 ++ wsX6_reason_r5)))) ++ wsX60 ++ wsX10 ++ wsX00 ++ wsX40)
def wsX6_nextPlate_r1 : List Cond := [Cond.fieldLink RX6 60 "WindRoses" "gap" "LWindRoses$Gap;", Cond.fieldLink RX6 263 "WindRoses$Gap" "distance" "I", Cond.methodLink RX6 121 yX6_obstacleTo, Cond.instanceMethod yX6_obstacleTo, Cond.selects RX6 yX6_obstacleTo yX6_obstacleTo, Cond.initialized RX6, Cond.code yX6_obstacleTo cX6_obstacleTo 2 (some .int), Cond.fieldLink RX6 12 "WindRoses" "desk" "LWindRoses$Desk;", Cond.fieldLink RX6 135 "WindRoses$Gap" "different" "I", Cond.fieldLink RX6 127 "WindRoses$Gap" "scrapes" "I", Cond.methodLink RX6 91 yX0_allHours, Cond.instanceMethod yX0_allHours, Cond.selects RX0 yX0_allHours yX0_allHours, Cond.initialized RX0, Cond.code yX0_allHours cX0_allHours 2 (some .int), Cond.methodLink RX0 28 yX0_windyHours, Cond.instanceMethod yX0_windyHours, Cond.selects RX0 yX0_windyHours yX0_windyHours, Cond.code yX0_windyHours cX0_windyHours 2 (some .int), Cond.fieldLink RX0 11 "WindRoses$Desk" "row" "[I", Cond.methodLink RX0 32 yX0_calmHours, Cond.instanceMethod yX0_calmHours, Cond.selects RX0 yX0_calmHours yX0_calmHours, Cond.code yX0_calmHours cX0_calmHours 2 (some .int)]
def wsX6_nextPlate_r2 : List Cond := [Cond.methodLink RX6 260 yX1_measure, Cond.instanceMethod yX1_measure, Cond.selects RX1 yX1_measure yX1_measure, Cond.initialized RX1, Cond.code yX1_measure cX1_measure 4 none, Cond.fieldLink RX1 12 "WindRoses$Gap" "due" "LWindRoses$Shares;", Cond.fieldLink RX1 18 "WindRoses$Gap" "different" "I", Cond.fieldLink RX1 22 "WindRoses$Gap" "distance" "I", Cond.fieldLink RX1 25 "WindRoses$Gap" "scrapes" "I", Cond.fieldLink RX1 38 "WindRoses$Shares" "row" "[I", Cond.methodLink RX1 28 yX4_fillByRank, Cond.instanceMethod yX4_fillByRank, Cond.selects RX4 yX4_fillByRank yX4_fillByRank, Cond.initialized RX4, Cond.code yX4_fillByRank cX4_fillByRank 4 none, Cond.fieldLink RX4 15 "WindRoses$Shares" "remainders" "[I", Cond.fieldLink RX4 22 "WindRoses$Shares" "missing" "I", Cond.fieldLink RX4 9 "WindRoses$Shares" "row" "[I", Cond.methodLink RX4 26 yX4_divide, Cond.instanceMethod yX4_divide, Cond.selects RX4 yX4_divide yX4_divide, Cond.code yX4_divide cX4_divide 8 none, Cond.methodLink RX4 37 yX0_windyHours, Cond.methodLink RX4 42 yX4_makeEmpty]
def wsX6_nextPlate_r3 : List Cond := [Cond.instanceMethod yX4_makeEmpty, Cond.selects RX4 yX4_makeEmpty yX4_makeEmpty, Cond.code yX4_makeEmpty cX4_makeEmpty 2 none, Cond.static yX6_partOf, Cond.code yX6_partOf cX6_partOf 2 (some .int), Cond.methodLink RX4 49 yX0_partHours, Cond.instanceMethod yX0_partHours, Cond.selects RX0 yX0_partHours yX0_partHours, Cond.code yX0_partHours cX0_partHours 6 (some .int), Cond.methodLink RX0 42 yX0_setting, Cond.instanceMethod yX0_setting, Cond.selects RX0 yX0_setting yX0_setting, Cond.code yX0_setting cX0_setting 2 (some .int), Cond.methodLink RX0 38 yX0_hoursBetween, Cond.instanceMethod yX0_hoursBetween, Cond.selects RX0 yX0_hoursBetween yX0_hoursBetween, Cond.code yX0_hoursBetween cX0_hoursBetween 8 (some .int), Cond.methodLink RX4 30 yX4_partsAhead, Cond.instanceMethod yX4_partsAhead, Cond.selects RX4 yX4_partsAhead yX4_partsAhead, Cond.code yX4_partsAhead cX4_partsAhead 6 (some .int), Cond.methodLink RX1 32 yX0_petalLength, Cond.instanceMethod yX0_petalLength, Cond.selects RX0 yX0_petalLength yX0_petalLength]
def wsX6_nextPlate_r4 : List Cond := [Cond.code yX0_petalLength cX0_petalLength 3 (some .int), Cond.methodLink RX1 42 yX1_compare, Cond.instanceMethod yX1_compare, Cond.selects RX1 yX1_compare yX1_compare, Cond.code yX1_compare cX1_compare 3 none, Cond.methodLink RX1 53 Lib.Math.abs.name, Cond.static Lib.Math.abs.name, Cond.initialized "java/lang/Math", Cond.code Lib.Math.abs.name Lib.Math.abs.code 1 (some .int), Cond.methodLink RX1 46 yX0_circle, Cond.instanceMethod yX0_circle, Cond.selects RX0 yX0_circle yX0_circle, Cond.code yX0_circle cX0_circle 2 (some .int), Cond.methodLink RX1 50 yX0_calmShare, Cond.instanceMethod yX0_calmShare, Cond.selects RX0 yX0_calmShare yX0_calmShare, Cond.code yX0_calmShare cX0_calmShare 3 (some .int), Cond.methodLink RX0 35 yX0_allHours, Cond.methodLink RX6 141 yX0_scrapes, Cond.instanceMethod yX0_scrapes, Cond.selects RX0 yX0_scrapes yX0_scrapes, Cond.code yX0_scrapes cX0_scrapes 2 (some .int), Cond.methodLink RX6 115 yX0_setting]
def wsX6_nextPlate : List Cond := .code yX6_nextPlate cX6_nextPlate 4 (some .int) :: ((wsX6_nextPlate_r1 ++ (wsX6_nextPlate_r2 ++ (wsX6_nextPlate_r3 ++ wsX6_nextPlate_r4))) ++ wsX60 ++ wsX10 ++ wsX00 ++ wsX40)
def wsX6_platesNotAsDue_r1 : List Cond := [Cond.fieldLink RX6 60 "WindRoses" "gap" "LWindRoses$Gap;", Cond.fieldLink RX6 12 "WindRoses" "desk" "LWindRoses$Desk;", Cond.fieldLink RX6 135 "WindRoses$Gap" "different" "I", Cond.methodLink RX6 260 yX1_measure, Cond.instanceMethod yX1_measure, Cond.selects RX1 yX1_measure yX1_measure, Cond.initialized RX1, Cond.code yX1_measure cX1_measure 4 none, Cond.fieldLink RX1 12 "WindRoses$Gap" "due" "LWindRoses$Shares;", Cond.fieldLink RX1 18 "WindRoses$Gap" "different" "I", Cond.fieldLink RX1 22 "WindRoses$Gap" "distance" "I", Cond.fieldLink RX1 25 "WindRoses$Gap" "scrapes" "I", Cond.fieldLink RX1 38 "WindRoses$Shares" "row" "[I", Cond.methodLink RX1 28 yX4_fillByRank, Cond.instanceMethod yX4_fillByRank, Cond.selects RX4 yX4_fillByRank yX4_fillByRank, Cond.initialized RX4, Cond.code yX4_fillByRank cX4_fillByRank 4 none, Cond.fieldLink RX4 15 "WindRoses$Shares" "remainders" "[I", Cond.fieldLink RX4 22 "WindRoses$Shares" "missing" "I", Cond.fieldLink RX4 9 "WindRoses$Shares" "row" "[I", Cond.methodLink RX4 26 yX4_divide, Cond.instanceMethod yX4_divide, Cond.selects RX4 yX4_divide yX4_divide]
def wsX6_platesNotAsDue_r2 : List Cond := [Cond.code yX4_divide cX4_divide 8 none, Cond.methodLink RX4 37 yX0_windyHours, Cond.instanceMethod yX0_windyHours, Cond.selects RX0 yX0_windyHours yX0_windyHours, Cond.initialized RX0, Cond.code yX0_windyHours cX0_windyHours 2 (some .int), Cond.fieldLink RX0 11 "WindRoses$Desk" "row" "[I", Cond.methodLink RX4 42 yX4_makeEmpty, Cond.instanceMethod yX4_makeEmpty, Cond.selects RX4 yX4_makeEmpty yX4_makeEmpty, Cond.code yX4_makeEmpty cX4_makeEmpty 2 none, Cond.static yX6_partOf, Cond.initialized RX6, Cond.code yX6_partOf cX6_partOf 2 (some .int), Cond.methodLink RX4 49 yX0_partHours, Cond.instanceMethod yX0_partHours, Cond.selects RX0 yX0_partHours yX0_partHours, Cond.code yX0_partHours cX0_partHours 6 (some .int), Cond.methodLink RX0 42 yX0_setting, Cond.instanceMethod yX0_setting, Cond.selects RX0 yX0_setting yX0_setting, Cond.code yX0_setting cX0_setting 2 (some .int), Cond.methodLink RX0 38 yX0_hoursBetween, Cond.instanceMethod yX0_hoursBetween]
def wsX6_platesNotAsDue_r3 : List Cond := [Cond.selects RX0 yX0_hoursBetween yX0_hoursBetween, Cond.code yX0_hoursBetween cX0_hoursBetween 8 (some .int), Cond.methodLink RX4 30 yX4_partsAhead, Cond.instanceMethod yX4_partsAhead, Cond.selects RX4 yX4_partsAhead yX4_partsAhead, Cond.code yX4_partsAhead cX4_partsAhead 6 (some .int), Cond.methodLink RX1 32 yX0_petalLength, Cond.instanceMethod yX0_petalLength, Cond.selects RX0 yX0_petalLength yX0_petalLength, Cond.code yX0_petalLength cX0_petalLength 3 (some .int), Cond.methodLink RX1 42 yX1_compare, Cond.instanceMethod yX1_compare, Cond.selects RX1 yX1_compare yX1_compare, Cond.code yX1_compare cX1_compare 3 none, Cond.methodLink RX1 53 Lib.Math.abs.name, Cond.static Lib.Math.abs.name, Cond.initialized "java/lang/Math", Cond.code Lib.Math.abs.name Lib.Math.abs.code 1 (some .int), Cond.methodLink RX1 46 yX0_circle, Cond.instanceMethod yX0_circle, Cond.selects RX0 yX0_circle yX0_circle, Cond.code yX0_circle cX0_circle 2 (some .int), Cond.methodLink RX1 50 yX0_calmShare, Cond.instanceMethod yX0_calmShare]
def wsX6_platesNotAsDue_r4 : List Cond := [Cond.selects RX0 yX0_calmShare yX0_calmShare, Cond.code yX0_calmShare cX0_calmShare 3 (some .int), Cond.methodLink RX0 35 yX0_allHours, Cond.instanceMethod yX0_allHours, Cond.selects RX0 yX0_allHours yX0_allHours, Cond.code yX0_allHours cX0_allHours 2 (some .int), Cond.methodLink RX0 28 yX0_windyHours, Cond.methodLink RX0 32 yX0_calmHours, Cond.instanceMethod yX0_calmHours, Cond.selects RX0 yX0_calmHours yX0_calmHours, Cond.code yX0_calmHours cX0_calmHours 2 (some .int)]
def wsX6_platesNotAsDue : List Cond := .code yX6_platesNotAsDue cX6_platesNotAsDue 3 (some .int) :: ((wsX6_platesNotAsDue_r1 ++ (wsX6_platesNotAsDue_r2 ++ (wsX6_platesNotAsDue_r3 ++ wsX6_platesNotAsDue_r4))) ++ wsX60 ++ wsX10 ++ wsX40 ++ wsX00)
def wsX6_count_r1 : List Cond := [Cond.fieldLink RX6 12 "WindRoses" "desk" "LWindRoses$Desk;", Cond.fieldLink RX6 19 "WindRoses" "history" "LWindRoses$History;", Cond.fieldLink RX6 181 "WindRoses$History" "states" "I", Cond.fieldLink RX6 34 "WindRoses" "text" "LWindRoses$Text;", Cond.methodLink RX6 191 yX0_hoursOfAll, Cond.instanceMethod yX0_hoursOfAll, Cond.selects RX0 yX0_hoursOfAll yX0_hoursOfAll, Cond.initialized RX0, Cond.code yX0_hoursOfAll cX0_hoursOfAll 1 (some .int), Cond.methodLink RX0 51 yX0_sumOfRoses, Cond.instanceMethod yX0_sumOfRoses, Cond.selects RX0 yX0_sumOfRoses yX0_sumOfRoses, Cond.code yX0_sumOfRoses cX0_sumOfRoses 4 (some .int), Cond.fieldLink RX0 11 "WindRoses$Desk" "row" "[I", Cond.methodLink RX6 269 yX0_calmHoursOfAll, Cond.instanceMethod yX0_calmHoursOfAll, Cond.selects RX0 yX0_calmHoursOfAll yX0_calmHoursOfAll, Cond.code yX0_calmHoursOfAll cX0_calmHoursOfAll 1 (some .int), Cond.methodLink RX6 272 yX6_platesNotAsDue, Cond.instanceMethod yX6_platesNotAsDue, Cond.selects RX6 yX6_platesNotAsDue yX6_platesNotAsDue, Cond.initialized RX6, Cond.code yX6_platesNotAsDue cX6_platesNotAsDue 3 (some .int), Cond.fieldLink RX6 60 "WindRoses" "gap" "LWindRoses$Gap;"]
def wsX6_count_r2 : List Cond := [Cond.fieldLink RX6 135 "WindRoses$Gap" "different" "I", Cond.methodLink RX6 260 yX1_measure, Cond.instanceMethod yX1_measure, Cond.selects RX1 yX1_measure yX1_measure, Cond.initialized RX1, Cond.code yX1_measure cX1_measure 4 none, Cond.fieldLink RX1 12 "WindRoses$Gap" "due" "LWindRoses$Shares;", Cond.fieldLink RX1 18 "WindRoses$Gap" "different" "I", Cond.fieldLink RX1 22 "WindRoses$Gap" "distance" "I", Cond.fieldLink RX1 25 "WindRoses$Gap" "scrapes" "I", Cond.fieldLink RX1 38 "WindRoses$Shares" "row" "[I", Cond.methodLink RX1 28 yX4_fillByRank, Cond.instanceMethod yX4_fillByRank, Cond.selects RX4 yX4_fillByRank yX4_fillByRank, Cond.initialized RX4, Cond.code yX4_fillByRank cX4_fillByRank 4 none, Cond.fieldLink RX4 15 "WindRoses$Shares" "remainders" "[I", Cond.fieldLink RX4 22 "WindRoses$Shares" "missing" "I", Cond.fieldLink RX4 9 "WindRoses$Shares" "row" "[I", Cond.methodLink RX4 26 yX4_divide, Cond.instanceMethod yX4_divide, Cond.selects RX4 yX4_divide yX4_divide, Cond.code yX4_divide cX4_divide 8 none, Cond.methodLink RX4 37 yX0_windyHours]
def wsX6_count_r3 : List Cond := [Cond.instanceMethod yX0_windyHours, Cond.selects RX0 yX0_windyHours yX0_windyHours, Cond.code yX0_windyHours cX0_windyHours 2 (some .int), Cond.methodLink RX4 42 yX4_makeEmpty, Cond.instanceMethod yX4_makeEmpty, Cond.selects RX4 yX4_makeEmpty yX4_makeEmpty, Cond.code yX4_makeEmpty cX4_makeEmpty 2 none, Cond.static yX6_partOf, Cond.code yX6_partOf cX6_partOf 2 (some .int), Cond.methodLink RX4 49 yX0_partHours, Cond.instanceMethod yX0_partHours, Cond.selects RX0 yX0_partHours yX0_partHours, Cond.code yX0_partHours cX0_partHours 6 (some .int), Cond.methodLink RX0 42 yX0_setting, Cond.instanceMethod yX0_setting, Cond.selects RX0 yX0_setting yX0_setting, Cond.code yX0_setting cX0_setting 2 (some .int), Cond.methodLink RX0 38 yX0_hoursBetween, Cond.instanceMethod yX0_hoursBetween, Cond.selects RX0 yX0_hoursBetween yX0_hoursBetween, Cond.code yX0_hoursBetween cX0_hoursBetween 8 (some .int), Cond.methodLink RX4 30 yX4_partsAhead, Cond.instanceMethod yX4_partsAhead, Cond.selects RX4 yX4_partsAhead yX4_partsAhead]
def wsX6_count_r4 : List Cond := [Cond.code yX4_partsAhead cX4_partsAhead 6 (some .int), Cond.methodLink RX1 32 yX0_petalLength, Cond.instanceMethod yX0_petalLength, Cond.selects RX0 yX0_petalLength yX0_petalLength, Cond.code yX0_petalLength cX0_petalLength 3 (some .int), Cond.methodLink RX1 42 yX1_compare, Cond.instanceMethod yX1_compare, Cond.selects RX1 yX1_compare yX1_compare, Cond.code yX1_compare cX1_compare 3 none, Cond.methodLink RX1 53 Lib.Math.abs.name, Cond.static Lib.Math.abs.name, Cond.initialized "java/lang/Math", Cond.code Lib.Math.abs.name Lib.Math.abs.code 1 (some .int), Cond.methodLink RX1 46 yX0_circle, Cond.instanceMethod yX0_circle, Cond.selects RX0 yX0_circle yX0_circle, Cond.code yX0_circle cX0_circle 2 (some .int), Cond.methodLink RX1 50 yX0_calmShare, Cond.instanceMethod yX0_calmShare, Cond.selects RX0 yX0_calmShare yX0_calmShare, Cond.code yX0_calmShare cX0_calmShare 3 (some .int), Cond.methodLink RX0 35 yX0_allHours, Cond.instanceMethod yX0_allHours, Cond.selects RX0 yX0_allHours yX0_allHours]
def wsX6_count_r5 : List Cond := [Cond.code yX0_allHours cX0_allHours 2 (some .int), Cond.methodLink RX0 28 yX0_windyHours, Cond.methodLink RX0 32 yX0_calmHours, Cond.instanceMethod yX0_calmHours, Cond.selects RX0 yX0_calmHours yX0_calmHours, Cond.code yX0_calmHours cX0_calmHours 2 (some .int), Cond.methodLink RX6 275 yX0_scrapesOfAll, Cond.instanceMethod yX0_scrapesOfAll, Cond.selects RX0 yX0_scrapesOfAll yX0_scrapesOfAll, Cond.code yX0_scrapesOfAll cX0_scrapesOfAll 1 (some .int), Cond.methodLink RX6 278 yX0_platesEngraved, Cond.instanceMethod yX0_platesEngraved, Cond.selects RX0 yX0_platesEngraved yX0_platesEngraved, Cond.code yX0_platesEngraved cX0_platesEngraved 1 (some .int), Cond.methodLink RX6 281 yX0_platesRenewed, Cond.instanceMethod yX0_platesRenewed, Cond.selects RX0 yX0_platesRenewed yX0_platesRenewed, Cond.code yX0_platesRenewed cX0_platesRenewed 1 (some .int), Cond.methodLink RX6 115 yX0_setting, Cond.methodLink RX6 155 yX5_length, Cond.instanceMethod yX5_length, Cond.selects RX5 yX5_length yX5_length, Cond.initialized RX5, Cond.code yX5_length cX5_length 1 (some .int)]
def wsX6_count_r6 : List Cond := [Cond.fieldLink RX5 15 "WindRoses$Text" "length" "I"]
def wsX6_count : List Cond := .code yX6_count cX6_count 2 (some .int) :: ((wsX6_count_r1 ++ (wsX6_count_r2 ++ (wsX6_count_r3 ++ (wsX6_count_r4 ++ (wsX6_count_r5 ++ wsX6_count_r6))))) ++ wsX60 ++ wsX20 ++ wsX00 ++ wsX10 ++ wsX40 ++ wsX50)
def wsX7_init : List Cond := .code yX7_init cX7_init 1 none :: ([.methodLink RX7 1 objectInit, .instanceMethod objectInit, .code objectInit ⟨#[0xb1]⟩ 1 none, .arrayClass .long, .fieldLink RX7 7 "WindRosesModel" "s" "[J", .fieldLink RX7 13 "WindRosesModel" "past" "[J", .fieldLink RX7 16 "WindRosesModel" "snap" "[J", .arrayClass .int, .fieldLink RX7 19 "WindRosesModel" "text" "[I", .fieldLink RX7 23 "WindRosesModel" "parts" "[I", .fieldLink RX7 26 "WindRosesModel" "shares" "[I", .fieldLink RX7 29 "WindRosesModel" "others" "[I", .fieldLink RX7 32 "WindRosesModel" "turned" "[I", .constantLong RX7 35 (12), .constantLong RX7 37 (30), .constantLong RX7 39 (5)] ++ wsX70)
def wsX7_in : List Cond := .code yX7_in cX7_in 3 (some .boolean) :: ([])
def wsX7_isFour : List Cond := .code yX7_isFour cX7_isFour 1 (some .boolean) :: ([.methodLink RX7 41 yX7_in, .static yX7_in, .initialized RX7, .code yX7_in cX7_in 3 (some .boolean)])
def wsX7_isDirection : List Cond := .code yX7_isDirection cX7_isDirection 1 (some .boolean) :: ([.methodLink RX7 41 yX7_in, .static yX7_in, .initialized RX7, .code yX7_in cX7_in 3 (some .boolean)])
def wsX7_num : List Cond := .code yX7_num cX7_num 2 (some .int) :: ([.fieldLink RX7 7 "WindRosesModel" "s" "[J"] ++ wsX70)
def wsX7_remembers : List Cond := .code yX7_remembers cX7_remembers 2 none :: ([.fieldLink RX7 45 "WindRosesModel" "known" "I", .fieldLink RX7 13 "WindRosesModel" "past" "[J", .fieldLink RX7 7 "WindRosesModel" "s" "[J"] ++ wsX70)
def wsX7_cellOf : List Cond := .code yX7_cellOf cX7_cellOf 3 (some .int) :: ([])
def wsX7_at : List Cond := .code yX7_at cX7_at 5 (some .int) :: ([.fieldLink RX7 7 "WindRosesModel" "s" "[J", .constantLong RX7 53 (16383), .methodLink RX7 49 yX7_cellOf, .static yX7_cellOf, .initialized RX7, .code yX7_cellOf cX7_cellOf 3 (some .int)] ++ wsX70)
def wsX7_puts : List Cond := .code yX7_puts cX7_puts 8 none :: ([.fieldLink RX7 7 "WindRosesModel" "s" "[J", .methodLink RX7 49 yX7_cellOf, .static yX7_cellOf, .initialized RX7, .code yX7_cellOf cX7_cellOf 3 (some .int), .methodLink RX7 55 yX7_at, .instanceMethod yX7_at, .selects RX7 yX7_at yX7_at, .code yX7_at cX7_at 5 (some .int), .constantLong RX7 53 (16383)] ++ wsX70)
def wsX7_kindOf : List Cond := .code yX7_kindOf cX7_kindOf 2 (some .int) :: ([.fieldLink RX7 7 "WindRosesModel" "s" "[J"] ++ wsX70)
def wsX7_looks : List Cond := .code yX7_looks cX7_looks 6 (some .int) :: ([.fieldLink RX7 23 "WindRosesModel" "parts" "[I", .methodLink RX7 55 yX7_at, .instanceMethod yX7_at, .selects RX7 yX7_at yX7_at, .initialized RX7, .code yX7_at cX7_at 5 (some .int), .fieldLink RX7 7 "WindRosesModel" "s" "[J", .constantLong RX7 53 (16383), .methodLink RX7 49 yX7_cellOf, .static yX7_cellOf, .code yX7_cellOf cX7_cellOf 3 (some .int), .methodLink RX7 58 yX7_kindOf, .instanceMethod yX7_kindOf, .selects RX7 yX7_kindOf yX7_kindOf, .code yX7_kindOf cX7_kindOf 2 (some .int)] ++ wsX70)
def wsX7_calmOf : List Cond := .code yX7_calmOf cX7_calmOf 2 (some .int) :: ([.methodLink RX7 62 yX7_num, .instanceMethod yX7_num, .selects RX7 yX7_num yX7_num, .initialized RX7, .code yX7_num cX7_num 2 (some .int), .fieldLink RX7 7 "WindRosesModel" "s" "[J"] ++ wsX70)
def wsX7_hoursOf_r1 : List Cond := [Cond.methodLink RX7 65 yX7_looks, Cond.instanceMethod yX7_looks, Cond.selects RX7 yX7_looks yX7_looks, Cond.initialized RX7, Cond.code yX7_looks cX7_looks 6 (some .int), Cond.fieldLink RX7 23 "WindRosesModel" "parts" "[I", Cond.methodLink RX7 55 yX7_at, Cond.instanceMethod yX7_at, Cond.selects RX7 yX7_at yX7_at, Cond.code yX7_at cX7_at 5 (some .int), Cond.fieldLink RX7 7 "WindRosesModel" "s" "[J", Cond.constantLong RX7 53 (16383), Cond.methodLink RX7 49 yX7_cellOf, Cond.static yX7_cellOf, Cond.code yX7_cellOf cX7_cellOf 3 (some .int), Cond.methodLink RX7 58 yX7_kindOf, Cond.instanceMethod yX7_kindOf, Cond.selects RX7 yX7_kindOf yX7_kindOf, Cond.code yX7_kindOf cX7_kindOf 2 (some .int), Cond.methodLink RX7 68 yX7_calmOf, Cond.instanceMethod yX7_calmOf, Cond.selects RX7 yX7_calmOf yX7_calmOf, Cond.code yX7_calmOf cX7_calmOf 2 (some .int), Cond.methodLink RX7 62 yX7_num]
def wsX7_hoursOf_r2 : List Cond := [Cond.instanceMethod yX7_num, Cond.selects RX7 yX7_num yX7_num, Cond.code yX7_num cX7_num 2 (some .int)]
def wsX7_hoursOf : List Cond := .code yX7_hoursOf cX7_hoursOf 2 (some .int) :: ((wsX7_hoursOf_r1 ++ wsX7_hoursOf_r2) ++ wsX70)
def wsX7_calmShare_r1 : List Cond := [Cond.methodLink RX7 71 yX7_hoursOf, Cond.instanceMethod yX7_hoursOf, Cond.selects RX7 yX7_hoursOf yX7_hoursOf, Cond.initialized RX7, Cond.code yX7_hoursOf cX7_hoursOf 2 (some .int), Cond.methodLink RX7 65 yX7_looks, Cond.instanceMethod yX7_looks, Cond.selects RX7 yX7_looks yX7_looks, Cond.code yX7_looks cX7_looks 6 (some .int), Cond.fieldLink RX7 23 "WindRosesModel" "parts" "[I", Cond.methodLink RX7 55 yX7_at, Cond.instanceMethod yX7_at, Cond.selects RX7 yX7_at yX7_at, Cond.code yX7_at cX7_at 5 (some .int), Cond.fieldLink RX7 7 "WindRosesModel" "s" "[J", Cond.constantLong RX7 53 (16383), Cond.methodLink RX7 49 yX7_cellOf, Cond.static yX7_cellOf, Cond.code yX7_cellOf cX7_cellOf 3 (some .int), Cond.methodLink RX7 58 yX7_kindOf, Cond.instanceMethod yX7_kindOf, Cond.selects RX7 yX7_kindOf yX7_kindOf, Cond.code yX7_kindOf cX7_kindOf 2 (some .int), Cond.methodLink RX7 68 yX7_calmOf]
def wsX7_calmShare_r2 : List Cond := [Cond.instanceMethod yX7_calmOf, Cond.selects RX7 yX7_calmOf yX7_calmOf, Cond.code yX7_calmOf cX7_calmOf 2 (some .int), Cond.methodLink RX7 62 yX7_num, Cond.instanceMethod yX7_num, Cond.selects RX7 yX7_num yX7_num, Cond.code yX7_num cX7_num 2 (some .int)]
def wsX7_calmShare : List Cond := .code yX7_calmShare cX7_calmShare 3 (some .int) :: ((wsX7_calmShare_r1 ++ wsX7_calmShare_r2) ++ wsX70)
def wsX7_ahead : List Cond := .code yX7_ahead cX7_ahead 7 (some .int) :: ([.fieldLink RX7 23 "WindRosesModel" "parts" "[I"] ++ wsX70)
def wsX7_finds : List Cond := .code yX7_finds cX7_finds 5 none :: ([.fieldLink RX7 26 "WindRosesModel" "shares" "[I", .fieldLink RX7 23 "WindRosesModel" "parts" "[I", .methodLink RX7 65 yX7_looks, .instanceMethod yX7_looks, .selects RX7 yX7_looks yX7_looks, .initialized RX7, .code yX7_looks cX7_looks 6 (some .int), .methodLink RX7 55 yX7_at, .instanceMethod yX7_at, .selects RX7 yX7_at yX7_at, .code yX7_at cX7_at 5 (some .int), .fieldLink RX7 7 "WindRosesModel" "s" "[J", .constantLong RX7 53 (16383), .methodLink RX7 49 yX7_cellOf, .static yX7_cellOf, .code yX7_cellOf cX7_cellOf 3 (some .int), .methodLink RX7 58 yX7_kindOf, .instanceMethod yX7_kindOf, .selects RX7 yX7_kindOf yX7_kindOf, .code yX7_kindOf cX7_kindOf 2 (some .int), .methodLink RX7 74 yX7_ahead, .instanceMethod yX7_ahead, .selects RX7 yX7_ahead yX7_ahead, .code yX7_ahead cX7_ahead 7 (some .int)] ++ wsX70)
def wsX7_deals : List Cond := .code yX7_deals cX7_deals 7 none :: ([.fieldLink RX7 26 "WindRosesModel" "shares" "[I", .fieldLink RX7 23 "WindRosesModel" "parts" "[I", .fieldLink RX7 29 "WindRosesModel" "others" "[I", .methodLink RX7 65 yX7_looks, .instanceMethod yX7_looks, .selects RX7 yX7_looks yX7_looks, .initialized RX7, .code yX7_looks cX7_looks 6 (some .int), .methodLink RX7 55 yX7_at, .instanceMethod yX7_at, .selects RX7 yX7_at yX7_at, .code yX7_at cX7_at 5 (some .int), .fieldLink RX7 7 "WindRosesModel" "s" "[J", .constantLong RX7 53 (16383), .methodLink RX7 49 yX7_cellOf, .static yX7_cellOf, .code yX7_cellOf cX7_cellOf 3 (some .int), .methodLink RX7 58 yX7_kindOf, .instanceMethod yX7_kindOf, .selects RX7 yX7_kindOf yX7_kindOf, .code yX7_kindOf cX7_kindOf 2 (some .int)] ++ wsX70)
def wsX7_roseOf : List Cond := .code yX7_roseOf cX7_roseOf 2 (some .int) :: ([.methodLink RX7 78 yX7_isFour, .static yX7_isFour, .initialized RX7, .code yX7_isFour cX7_isFour 1 (some .boolean), .methodLink RX7 41 yX7_in, .static yX7_in, .code yX7_in cX7_in 3 (some .boolean)])
def wsX7_log_r1 : List Cond := [Cond.methodLink RX7 82 yX7_isDirection, Cond.static yX7_isDirection, Cond.initialized RX7, Cond.code yX7_isDirection cX7_isDirection 1 (some .boolean), Cond.methodLink RX7 41 yX7_in, Cond.static yX7_in, Cond.code yX7_in cX7_in 3 (some .boolean), Cond.methodLink RX7 85 yX7_roseOf, Cond.static yX7_roseOf, Cond.code yX7_roseOf cX7_roseOf 2 (some .int), Cond.methodLink RX7 78 yX7_isFour, Cond.static yX7_isFour, Cond.code yX7_isFour cX7_isFour 1 (some .boolean), Cond.methodLink RX7 71 yX7_hoursOf, Cond.instanceMethod yX7_hoursOf, Cond.selects RX7 yX7_hoursOf yX7_hoursOf, Cond.code yX7_hoursOf cX7_hoursOf 2 (some .int), Cond.methodLink RX7 65 yX7_looks, Cond.instanceMethod yX7_looks, Cond.selects RX7 yX7_looks yX7_looks, Cond.code yX7_looks cX7_looks 6 (some .int), Cond.fieldLink RX7 23 "WindRosesModel" "parts" "[I", Cond.methodLink RX7 55 yX7_at, Cond.instanceMethod yX7_at]
def wsX7_log_r2 : List Cond := [Cond.selects RX7 yX7_at yX7_at, Cond.code yX7_at cX7_at 5 (some .int), Cond.fieldLink RX7 7 "WindRosesModel" "s" "[J", Cond.constantLong RX7 53 (16383), Cond.methodLink RX7 49 yX7_cellOf, Cond.static yX7_cellOf, Cond.code yX7_cellOf cX7_cellOf 3 (some .int), Cond.methodLink RX7 58 yX7_kindOf, Cond.instanceMethod yX7_kindOf, Cond.selects RX7 yX7_kindOf yX7_kindOf, Cond.code yX7_kindOf cX7_kindOf 2 (some .int), Cond.methodLink RX7 68 yX7_calmOf, Cond.instanceMethod yX7_calmOf, Cond.selects RX7 yX7_calmOf yX7_calmOf, Cond.code yX7_calmOf cX7_calmOf 2 (some .int), Cond.methodLink RX7 62 yX7_num, Cond.instanceMethod yX7_num, Cond.selects RX7 yX7_num yX7_num, Cond.code yX7_num cX7_num 2 (some .int), Cond.methodLink RX7 88 yX7_remembers, Cond.instanceMethod yX7_remembers, Cond.selects RX7 yX7_remembers yX7_remembers, Cond.code yX7_remembers cX7_remembers 2 none, Cond.fieldLink RX7 45 "WindRosesModel" "known" "I"]
def wsX7_log_r3 : List Cond := [Cond.fieldLink RX7 13 "WindRosesModel" "past" "[J", Cond.methodLink RX7 91 yX7_puts, Cond.instanceMethod yX7_puts, Cond.selects RX7 yX7_puts yX7_puts, Cond.code yX7_puts cX7_puts 8 none]
def wsX7_log : List Cond := .code yX7_log cX7_log 7 (some .int) :: ((wsX7_log_r1 ++ (wsX7_log_r2 ++ wsX7_log_r3)) ++ wsX70)
def wsX7_calm_r1 : List Cond := [Cond.fieldLink RX7 7 "WindRosesModel" "s" "[J", Cond.methodLink RX7 85 yX7_roseOf, Cond.static yX7_roseOf, Cond.initialized RX7, Cond.code yX7_roseOf cX7_roseOf 2 (some .int), Cond.methodLink RX7 78 yX7_isFour, Cond.static yX7_isFour, Cond.code yX7_isFour cX7_isFour 1 (some .boolean), Cond.methodLink RX7 41 yX7_in, Cond.static yX7_in, Cond.code yX7_in cX7_in 3 (some .boolean), Cond.methodLink RX7 71 yX7_hoursOf, Cond.instanceMethod yX7_hoursOf, Cond.selects RX7 yX7_hoursOf yX7_hoursOf, Cond.code yX7_hoursOf cX7_hoursOf 2 (some .int), Cond.methodLink RX7 65 yX7_looks, Cond.instanceMethod yX7_looks, Cond.selects RX7 yX7_looks yX7_looks, Cond.code yX7_looks cX7_looks 6 (some .int), Cond.fieldLink RX7 23 "WindRosesModel" "parts" "[I", Cond.methodLink RX7 55 yX7_at, Cond.instanceMethod yX7_at, Cond.selects RX7 yX7_at yX7_at, Cond.code yX7_at cX7_at 5 (some .int)]
def wsX7_calm_r2 : List Cond := [Cond.constantLong RX7 53 (16383), Cond.methodLink RX7 49 yX7_cellOf, Cond.static yX7_cellOf, Cond.code yX7_cellOf cX7_cellOf 3 (some .int), Cond.methodLink RX7 58 yX7_kindOf, Cond.instanceMethod yX7_kindOf, Cond.selects RX7 yX7_kindOf yX7_kindOf, Cond.code yX7_kindOf cX7_kindOf 2 (some .int), Cond.methodLink RX7 68 yX7_calmOf, Cond.instanceMethod yX7_calmOf, Cond.selects RX7 yX7_calmOf yX7_calmOf, Cond.code yX7_calmOf cX7_calmOf 2 (some .int), Cond.methodLink RX7 62 yX7_num, Cond.instanceMethod yX7_num, Cond.selects RX7 yX7_num yX7_num, Cond.code yX7_num cX7_num 2 (some .int), Cond.methodLink RX7 88 yX7_remembers, Cond.instanceMethod yX7_remembers, Cond.selects RX7 yX7_remembers yX7_remembers, Cond.code yX7_remembers cX7_remembers 2 none, Cond.fieldLink RX7 45 "WindRosesModel" "known" "I", Cond.fieldLink RX7 13 "WindRosesModel" "past" "[J"]
def wsX7_calm : List Cond := .code yX7_calm cX7_calm 5 (some .int) :: ((wsX7_calm_r1 ++ wsX7_calm_r2) ++ wsX70)
def wsX7_strike_r1 : List Cond := [Cond.methodLink RX7 82 yX7_isDirection, Cond.static yX7_isDirection, Cond.initialized RX7, Cond.code yX7_isDirection cX7_isDirection 1 (some .boolean), Cond.methodLink RX7 41 yX7_in, Cond.static yX7_in, Cond.code yX7_in cX7_in 3 (some .boolean), Cond.methodLink RX7 85 yX7_roseOf, Cond.static yX7_roseOf, Cond.code yX7_roseOf cX7_roseOf 2 (some .int), Cond.methodLink RX7 78 yX7_isFour, Cond.static yX7_isFour, Cond.code yX7_isFour cX7_isFour 1 (some .boolean), Cond.methodLink RX7 55 yX7_at, Cond.instanceMethod yX7_at, Cond.selects RX7 yX7_at yX7_at, Cond.code yX7_at cX7_at 5 (some .int), Cond.fieldLink RX7 7 "WindRosesModel" "s" "[J", Cond.constantLong RX7 53 (16383), Cond.methodLink RX7 49 yX7_cellOf, Cond.static yX7_cellOf, Cond.code yX7_cellOf cX7_cellOf 3 (some .int), Cond.methodLink RX7 88 yX7_remembers, Cond.instanceMethod yX7_remembers]
def wsX7_strike_r2 : List Cond := [Cond.selects RX7 yX7_remembers yX7_remembers, Cond.code yX7_remembers cX7_remembers 2 none, Cond.fieldLink RX7 45 "WindRosesModel" "known" "I", Cond.fieldLink RX7 13 "WindRosesModel" "past" "[J", Cond.methodLink RX7 91 yX7_puts, Cond.instanceMethod yX7_puts, Cond.selects RX7 yX7_puts yX7_puts, Cond.code yX7_puts cX7_puts 8 none]
def wsX7_strike : List Cond := .code yX7_strike cX7_strike 7 (some .int) :: ((wsX7_strike_r1 ++ wsX7_strike_r2) ++ wsX70)
def wsX7_turn_r1 : List Cond := [Cond.fieldLink RX7 32 "WindRosesModel" "turned" "[I", Cond.methodLink RX7 85 yX7_roseOf, Cond.static yX7_roseOf, Cond.initialized RX7, Cond.code yX7_roseOf cX7_roseOf 2 (some .int), Cond.methodLink RX7 78 yX7_isFour, Cond.static yX7_isFour, Cond.code yX7_isFour cX7_isFour 1 (some .boolean), Cond.methodLink RX7 41 yX7_in, Cond.static yX7_in, Cond.code yX7_in cX7_in 3 (some .boolean), Cond.methodLink RX7 65 yX7_looks, Cond.instanceMethod yX7_looks, Cond.selects RX7 yX7_looks yX7_looks, Cond.code yX7_looks cX7_looks 6 (some .int), Cond.fieldLink RX7 23 "WindRosesModel" "parts" "[I", Cond.methodLink RX7 55 yX7_at, Cond.instanceMethod yX7_at, Cond.selects RX7 yX7_at yX7_at, Cond.code yX7_at cX7_at 5 (some .int), Cond.fieldLink RX7 7 "WindRosesModel" "s" "[J", Cond.constantLong RX7 53 (16383), Cond.methodLink RX7 49 yX7_cellOf, Cond.static yX7_cellOf]
def wsX7_turn_r2 : List Cond := [Cond.code yX7_cellOf cX7_cellOf 3 (some .int), Cond.methodLink RX7 58 yX7_kindOf, Cond.instanceMethod yX7_kindOf, Cond.selects RX7 yX7_kindOf yX7_kindOf, Cond.code yX7_kindOf cX7_kindOf 2 (some .int), Cond.methodLink RX7 88 yX7_remembers, Cond.instanceMethod yX7_remembers, Cond.selects RX7 yX7_remembers yX7_remembers, Cond.code yX7_remembers cX7_remembers 2 none, Cond.fieldLink RX7 45 "WindRosesModel" "known" "I", Cond.fieldLink RX7 13 "WindRosesModel" "past" "[J", Cond.methodLink RX7 91 yX7_puts, Cond.instanceMethod yX7_puts, Cond.selects RX7 yX7_puts yX7_puts, Cond.code yX7_puts cX7_puts 8 none]
def wsX7_turn : List Cond := .code yX7_turn cX7_turn 8 (some .int) :: ((wsX7_turn_r1 ++ wsX7_turn_r2) ++ wsX70)
def wsX7_set : List Cond := .code yX7_set cX7_set 6 (some .int) :: ([.fieldLink RX7 7 "WindRosesModel" "s" "[J", .methodLink RX7 41 yX7_in, .static yX7_in, .initialized RX7, .code yX7_in cX7_in 3 (some .boolean), .methodLink RX7 62 yX7_num, .instanceMethod yX7_num, .selects RX7 yX7_num yX7_num, .code yX7_num cX7_num 2 (some .int), .methodLink RX7 88 yX7_remembers, .instanceMethod yX7_remembers, .selects RX7 yX7_remembers yX7_remembers, .code yX7_remembers cX7_remembers 2 none, .fieldLink RX7 45 "WindRosesModel" "known" "I", .fieldLink RX7 13 "WindRosesModel" "past" "[J"] ++ wsX70)
def wsX7_petalOf : List Cond := .code yX7_petalOf cX7_petalOf 3 (some .int) :: ([.methodLink RX7 62 yX7_num, .instanceMethod yX7_num, .selects RX7 yX7_num yX7_num, .initialized RX7, .code yX7_num cX7_num 2 (some .int), .fieldLink RX7 7 "WindRosesModel" "s" "[J"] ++ wsX70)
def wsX7_differs_r1 : List Cond := [Cond.fieldLink RX7 26 "WindRosesModel" "shares" "[I", Cond.methodLink RX7 62 yX7_num, Cond.instanceMethod yX7_num, Cond.selects RX7 yX7_num yX7_num, Cond.initialized RX7, Cond.code yX7_num cX7_num 2 (some .int), Cond.fieldLink RX7 7 "WindRosesModel" "s" "[J", Cond.methodLink RX7 95 yX7_calmShare, Cond.instanceMethod yX7_calmShare, Cond.selects RX7 yX7_calmShare yX7_calmShare, Cond.code yX7_calmShare cX7_calmShare 3 (some .int), Cond.methodLink RX7 71 yX7_hoursOf, Cond.instanceMethod yX7_hoursOf, Cond.selects RX7 yX7_hoursOf yX7_hoursOf, Cond.code yX7_hoursOf cX7_hoursOf 2 (some .int), Cond.methodLink RX7 65 yX7_looks, Cond.instanceMethod yX7_looks, Cond.selects RX7 yX7_looks yX7_looks, Cond.code yX7_looks cX7_looks 6 (some .int), Cond.fieldLink RX7 23 "WindRosesModel" "parts" "[I", Cond.methodLink RX7 55 yX7_at, Cond.instanceMethod yX7_at, Cond.selects RX7 yX7_at yX7_at, Cond.code yX7_at cX7_at 5 (some .int)]
def wsX7_differs_r2 : List Cond := [Cond.constantLong RX7 53 (16383), Cond.methodLink RX7 49 yX7_cellOf, Cond.static yX7_cellOf, Cond.code yX7_cellOf cX7_cellOf 3 (some .int), Cond.methodLink RX7 58 yX7_kindOf, Cond.instanceMethod yX7_kindOf, Cond.selects RX7 yX7_kindOf yX7_kindOf, Cond.code yX7_kindOf cX7_kindOf 2 (some .int), Cond.methodLink RX7 68 yX7_calmOf, Cond.instanceMethod yX7_calmOf, Cond.selects RX7 yX7_calmOf yX7_calmOf, Cond.code yX7_calmOf cX7_calmOf 2 (some .int), Cond.methodLink RX7 98 yX7_finds, Cond.instanceMethod yX7_finds, Cond.selects RX7 yX7_finds yX7_finds, Cond.code yX7_finds cX7_finds 5 none, Cond.methodLink RX7 74 yX7_ahead, Cond.instanceMethod yX7_ahead, Cond.selects RX7 yX7_ahead yX7_ahead, Cond.code yX7_ahead cX7_ahead 7 (some .int), Cond.methodLink RX7 102 yX7_petalOf, Cond.instanceMethod yX7_petalOf, Cond.selects RX7 yX7_petalOf yX7_petalOf, Cond.code yX7_petalOf cX7_petalOf 3 (some .int)]
def wsX7_differs : List Cond := .code yX7_differs cX7_differs 4 (some .int) :: ((wsX7_differs_r1 ++ wsX7_differs_r2) ++ wsX70)
def wsX7_farOff_r1 : List Cond := [Cond.fieldLink RX7 26 "WindRosesModel" "shares" "[I", Cond.methodLink RX7 62 yX7_num, Cond.instanceMethod yX7_num, Cond.selects RX7 yX7_num yX7_num, Cond.initialized RX7, Cond.code yX7_num cX7_num 2 (some .int), Cond.fieldLink RX7 7 "WindRosesModel" "s" "[J", Cond.methodLink RX7 95 yX7_calmShare, Cond.instanceMethod yX7_calmShare, Cond.selects RX7 yX7_calmShare yX7_calmShare, Cond.code yX7_calmShare cX7_calmShare 3 (some .int), Cond.methodLink RX7 71 yX7_hoursOf, Cond.instanceMethod yX7_hoursOf, Cond.selects RX7 yX7_hoursOf yX7_hoursOf, Cond.code yX7_hoursOf cX7_hoursOf 2 (some .int), Cond.methodLink RX7 65 yX7_looks, Cond.instanceMethod yX7_looks, Cond.selects RX7 yX7_looks yX7_looks, Cond.code yX7_looks cX7_looks 6 (some .int), Cond.fieldLink RX7 23 "WindRosesModel" "parts" "[I", Cond.methodLink RX7 55 yX7_at, Cond.instanceMethod yX7_at, Cond.selects RX7 yX7_at yX7_at, Cond.code yX7_at cX7_at 5 (some .int)]
def wsX7_farOff_r2 : List Cond := [Cond.constantLong RX7 53 (16383), Cond.methodLink RX7 49 yX7_cellOf, Cond.static yX7_cellOf, Cond.code yX7_cellOf cX7_cellOf 3 (some .int), Cond.methodLink RX7 58 yX7_kindOf, Cond.instanceMethod yX7_kindOf, Cond.selects RX7 yX7_kindOf yX7_kindOf, Cond.code yX7_kindOf cX7_kindOf 2 (some .int), Cond.methodLink RX7 68 yX7_calmOf, Cond.instanceMethod yX7_calmOf, Cond.selects RX7 yX7_calmOf yX7_calmOf, Cond.code yX7_calmOf cX7_calmOf 2 (some .int), Cond.methodLink RX7 98 yX7_finds, Cond.instanceMethod yX7_finds, Cond.selects RX7 yX7_finds yX7_finds, Cond.code yX7_finds cX7_finds 5 none, Cond.methodLink RX7 74 yX7_ahead, Cond.instanceMethod yX7_ahead, Cond.selects RX7 yX7_ahead yX7_ahead, Cond.code yX7_ahead cX7_ahead 7 (some .int), Cond.methodLink RX7 102 yX7_petalOf, Cond.instanceMethod yX7_petalOf, Cond.selects RX7 yX7_petalOf yX7_petalOf, Cond.code yX7_petalOf cX7_petalOf 3 (some .int)]
def wsX7_farOff : List Cond := .code yX7_farOff cX7_farOff 5 (some .int) :: ((wsX7_farOff_r1 ++ wsX7_farOff_r2) ++ wsX70)
def wsX7_needs_r1 : List Cond := [Cond.fieldLink RX7 26 "WindRosesModel" "shares" "[I", Cond.methodLink RX7 62 yX7_num, Cond.instanceMethod yX7_num, Cond.selects RX7 yX7_num yX7_num, Cond.initialized RX7, Cond.code yX7_num cX7_num 2 (some .int), Cond.fieldLink RX7 7 "WindRosesModel" "s" "[J", Cond.methodLink RX7 95 yX7_calmShare, Cond.instanceMethod yX7_calmShare, Cond.selects RX7 yX7_calmShare yX7_calmShare, Cond.code yX7_calmShare cX7_calmShare 3 (some .int), Cond.methodLink RX7 71 yX7_hoursOf, Cond.instanceMethod yX7_hoursOf, Cond.selects RX7 yX7_hoursOf yX7_hoursOf, Cond.code yX7_hoursOf cX7_hoursOf 2 (some .int), Cond.methodLink RX7 65 yX7_looks, Cond.instanceMethod yX7_looks, Cond.selects RX7 yX7_looks yX7_looks, Cond.code yX7_looks cX7_looks 6 (some .int), Cond.fieldLink RX7 23 "WindRosesModel" "parts" "[I", Cond.methodLink RX7 55 yX7_at, Cond.instanceMethod yX7_at, Cond.selects RX7 yX7_at yX7_at, Cond.code yX7_at cX7_at 5 (some .int)]
def wsX7_needs_r2 : List Cond := [Cond.constantLong RX7 53 (16383), Cond.methodLink RX7 49 yX7_cellOf, Cond.static yX7_cellOf, Cond.code yX7_cellOf cX7_cellOf 3 (some .int), Cond.methodLink RX7 58 yX7_kindOf, Cond.instanceMethod yX7_kindOf, Cond.selects RX7 yX7_kindOf yX7_kindOf, Cond.code yX7_kindOf cX7_kindOf 2 (some .int), Cond.methodLink RX7 68 yX7_calmOf, Cond.instanceMethod yX7_calmOf, Cond.selects RX7 yX7_calmOf yX7_calmOf, Cond.code yX7_calmOf cX7_calmOf 2 (some .int), Cond.methodLink RX7 98 yX7_finds, Cond.instanceMethod yX7_finds, Cond.selects RX7 yX7_finds yX7_finds, Cond.code yX7_finds cX7_finds 5 none, Cond.methodLink RX7 74 yX7_ahead, Cond.instanceMethod yX7_ahead, Cond.selects RX7 yX7_ahead yX7_ahead, Cond.code yX7_ahead cX7_ahead 7 (some .int), Cond.methodLink RX7 102 yX7_petalOf, Cond.instanceMethod yX7_petalOf, Cond.selects RX7 yX7_petalOf yX7_petalOf, Cond.code yX7_petalOf cX7_petalOf 3 (some .int)]
def wsX7_needs : List Cond := .code yX7_needs cX7_needs 4 (some .int) :: ((wsX7_needs_r1 ++ wsX7_needs_r2) ++ wsX70)
def wsX7_isTooMuch_r1 : List Cond := [Cond.fieldLink RX7 7 "WindRosesModel" "s" "[J", Cond.methodLink RX7 105 yX7_needs, Cond.instanceMethod yX7_needs, Cond.selects RX7 yX7_needs yX7_needs, Cond.initialized RX7, Cond.code yX7_needs cX7_needs 4 (some .int), Cond.fieldLink RX7 26 "WindRosesModel" "shares" "[I", Cond.methodLink RX7 62 yX7_num, Cond.instanceMethod yX7_num, Cond.selects RX7 yX7_num yX7_num, Cond.code yX7_num cX7_num 2 (some .int), Cond.methodLink RX7 95 yX7_calmShare, Cond.instanceMethod yX7_calmShare, Cond.selects RX7 yX7_calmShare yX7_calmShare, Cond.code yX7_calmShare cX7_calmShare 3 (some .int), Cond.methodLink RX7 71 yX7_hoursOf, Cond.instanceMethod yX7_hoursOf, Cond.selects RX7 yX7_hoursOf yX7_hoursOf, Cond.code yX7_hoursOf cX7_hoursOf 2 (some .int), Cond.methodLink RX7 65 yX7_looks, Cond.instanceMethod yX7_looks, Cond.selects RX7 yX7_looks yX7_looks, Cond.code yX7_looks cX7_looks 6 (some .int), Cond.fieldLink RX7 23 "WindRosesModel" "parts" "[I"]
def wsX7_isTooMuch_r2 : List Cond := [Cond.methodLink RX7 55 yX7_at, Cond.instanceMethod yX7_at, Cond.selects RX7 yX7_at yX7_at, Cond.code yX7_at cX7_at 5 (some .int), Cond.constantLong RX7 53 (16383), Cond.methodLink RX7 49 yX7_cellOf, Cond.static yX7_cellOf, Cond.code yX7_cellOf cX7_cellOf 3 (some .int), Cond.methodLink RX7 58 yX7_kindOf, Cond.instanceMethod yX7_kindOf, Cond.selects RX7 yX7_kindOf yX7_kindOf, Cond.code yX7_kindOf cX7_kindOf 2 (some .int), Cond.methodLink RX7 68 yX7_calmOf, Cond.instanceMethod yX7_calmOf, Cond.selects RX7 yX7_calmOf yX7_calmOf, Cond.code yX7_calmOf cX7_calmOf 2 (some .int), Cond.methodLink RX7 98 yX7_finds, Cond.instanceMethod yX7_finds, Cond.selects RX7 yX7_finds yX7_finds, Cond.code yX7_finds cX7_finds 5 none, Cond.methodLink RX7 74 yX7_ahead, Cond.instanceMethod yX7_ahead, Cond.selects RX7 yX7_ahead yX7_ahead, Cond.code yX7_ahead cX7_ahead 7 (some .int)]
def wsX7_isTooMuch_r3 : List Cond := [Cond.methodLink RX7 102 yX7_petalOf, Cond.instanceMethod yX7_petalOf, Cond.selects RX7 yX7_petalOf yX7_petalOf, Cond.code yX7_petalOf cX7_petalOf 3 (some .int)]
def wsX7_isTooMuch : List Cond := .code yX7_isTooMuch cX7_isTooMuch 3 (some .boolean) :: ((wsX7_isTooMuch_r1 ++ (wsX7_isTooMuch_r2 ++ wsX7_isTooMuch_r3)) ++ wsX70)
def wsX7_engrave_r1 : List Cond := [Cond.fieldLink RX7 7 "WindRosesModel" "s" "[J", Cond.fieldLink RX7 26 "WindRosesModel" "shares" "[I", Cond.methodLink RX7 85 yX7_roseOf, Cond.static yX7_roseOf, Cond.initialized RX7, Cond.code yX7_roseOf cX7_roseOf 2 (some .int), Cond.methodLink RX7 78 yX7_isFour, Cond.static yX7_isFour, Cond.code yX7_isFour cX7_isFour 1 (some .boolean), Cond.methodLink RX7 41 yX7_in, Cond.static yX7_in, Cond.code yX7_in cX7_in 3 (some .boolean), Cond.methodLink RX7 71 yX7_hoursOf, Cond.instanceMethod yX7_hoursOf, Cond.selects RX7 yX7_hoursOf yX7_hoursOf, Cond.code yX7_hoursOf cX7_hoursOf 2 (some .int), Cond.methodLink RX7 65 yX7_looks, Cond.instanceMethod yX7_looks, Cond.selects RX7 yX7_looks yX7_looks, Cond.code yX7_looks cX7_looks 6 (some .int), Cond.fieldLink RX7 23 "WindRosesModel" "parts" "[I", Cond.methodLink RX7 55 yX7_at, Cond.instanceMethod yX7_at, Cond.selects RX7 yX7_at yX7_at]
def wsX7_engrave_r2 : List Cond := [Cond.code yX7_at cX7_at 5 (some .int), Cond.constantLong RX7 53 (16383), Cond.methodLink RX7 49 yX7_cellOf, Cond.static yX7_cellOf, Cond.code yX7_cellOf cX7_cellOf 3 (some .int), Cond.methodLink RX7 58 yX7_kindOf, Cond.instanceMethod yX7_kindOf, Cond.selects RX7 yX7_kindOf yX7_kindOf, Cond.code yX7_kindOf cX7_kindOf 2 (some .int), Cond.methodLink RX7 68 yX7_calmOf, Cond.instanceMethod yX7_calmOf, Cond.selects RX7 yX7_calmOf yX7_calmOf, Cond.code yX7_calmOf cX7_calmOf 2 (some .int), Cond.methodLink RX7 62 yX7_num, Cond.instanceMethod yX7_num, Cond.selects RX7 yX7_num yX7_num, Cond.code yX7_num cX7_num 2 (some .int), Cond.methodLink RX7 108 yX7_isTooMuch, Cond.instanceMethod yX7_isTooMuch, Cond.selects RX7 yX7_isTooMuch yX7_isTooMuch, Cond.code yX7_isTooMuch cX7_isTooMuch 3 (some .boolean), Cond.methodLink RX7 105 yX7_needs, Cond.instanceMethod yX7_needs, Cond.selects RX7 yX7_needs yX7_needs]
def wsX7_engrave_r3 : List Cond := [Cond.code yX7_needs cX7_needs 4 (some .int), Cond.methodLink RX7 95 yX7_calmShare, Cond.instanceMethod yX7_calmShare, Cond.selects RX7 yX7_calmShare yX7_calmShare, Cond.code yX7_calmShare cX7_calmShare 3 (some .int), Cond.methodLink RX7 98 yX7_finds, Cond.instanceMethod yX7_finds, Cond.selects RX7 yX7_finds yX7_finds, Cond.code yX7_finds cX7_finds 5 none, Cond.methodLink RX7 74 yX7_ahead, Cond.instanceMethod yX7_ahead, Cond.selects RX7 yX7_ahead yX7_ahead, Cond.code yX7_ahead cX7_ahead 7 (some .int), Cond.methodLink RX7 102 yX7_petalOf, Cond.instanceMethod yX7_petalOf, Cond.selects RX7 yX7_petalOf yX7_petalOf, Cond.code yX7_petalOf cX7_petalOf 3 (some .int), Cond.methodLink RX7 111 yX7_differs, Cond.instanceMethod yX7_differs, Cond.selects RX7 yX7_differs yX7_differs, Cond.code yX7_differs cX7_differs 4 (some .int), Cond.methodLink RX7 88 yX7_remembers, Cond.instanceMethod yX7_remembers, Cond.selects RX7 yX7_remembers yX7_remembers]
def wsX7_engrave_r4 : List Cond := [Cond.code yX7_remembers cX7_remembers 2 none, Cond.fieldLink RX7 45 "WindRosesModel" "known" "I", Cond.fieldLink RX7 13 "WindRosesModel" "past" "[J"]
def wsX7_engrave : List Cond := .code yX7_engrave cX7_engrave 6 (some .int) :: ((wsX7_engrave_r1 ++ (wsX7_engrave_r2 ++ (wsX7_engrave_r3 ++ wsX7_engrave_r4))) ++ wsX70)
def wsX7_petals : List Cond := .code yX7_petals cX7_petals 4 (some .int) :: ([.methodLink RX7 102 yX7_petalOf, .instanceMethod yX7_petalOf, .selects RX7 yX7_petalOf yX7_petalOf, .initialized RX7, .code yX7_petalOf cX7_petalOf 3 (some .int), .methodLink RX7 62 yX7_num, .instanceMethod yX7_num, .selects RX7 yX7_num yX7_num, .code yX7_num cX7_num 2 (some .int), .fieldLink RX7 7 "WindRosesModel" "s" "[J"] ++ wsX70)
def wsX7_renew_r1 : List Cond := [Cond.fieldLink RX7 7 "WindRosesModel" "s" "[J", Cond.methodLink RX7 85 yX7_roseOf, Cond.static yX7_roseOf, Cond.initialized RX7, Cond.code yX7_roseOf cX7_roseOf 2 (some .int), Cond.methodLink RX7 78 yX7_isFour, Cond.static yX7_isFour, Cond.code yX7_isFour cX7_isFour 1 (some .boolean), Cond.methodLink RX7 41 yX7_in, Cond.static yX7_in, Cond.code yX7_in cX7_in 3 (some .boolean), Cond.methodLink RX7 62 yX7_num, Cond.instanceMethod yX7_num, Cond.selects RX7 yX7_num yX7_num, Cond.code yX7_num cX7_num 2 (some .int), Cond.methodLink RX7 114 yX7_petals, Cond.instanceMethod yX7_petals, Cond.selects RX7 yX7_petals yX7_petals, Cond.code yX7_petals cX7_petals 4 (some .int), Cond.methodLink RX7 102 yX7_petalOf, Cond.instanceMethod yX7_petalOf, Cond.selects RX7 yX7_petalOf yX7_petalOf, Cond.code yX7_petalOf cX7_petalOf 3 (some .int), Cond.methodLink RX7 88 yX7_remembers]
def wsX7_renew_r2 : List Cond := [Cond.instanceMethod yX7_remembers, Cond.selects RX7 yX7_remembers yX7_remembers, Cond.code yX7_remembers cX7_remembers 2 none, Cond.fieldLink RX7 45 "WindRosesModel" "known" "I", Cond.fieldLink RX7 13 "WindRosesModel" "past" "[J"]
def wsX7_renew : List Cond := .code yX7_renew cX7_renew 6 (some .int) :: ((wsX7_renew_r1 ++ wsX7_renew_r2) ++ wsX70)
def wsX7_type : List Cond := .code yX7_type cX7_type 2 (some .int) :: ([.fieldLink RX7 117 "WindRosesModel" "length" "I", .fieldLink RX7 19 "WindRosesModel" "text" "[I"] ++ wsX70)
def wsX7_clearText : List Cond := .code yX7_clearText cX7_clearText 2 (some .int) :: ([.fieldLink RX7 117 "WindRosesModel" "length" "I"] ++ wsX70)
def wsX7_sign : List Cond := .code yX7_sign cX7_sign 2 (some .int) :: ([.fieldLink RX7 117 "WindRosesModel" "length" "I", .fieldLink RX7 19 "WindRosesModel" "text" "[I"] ++ wsX70)
def wsX7_digit : List Cond := .code yX7_digit cX7_digit 2 (some .int) :: ([.methodLink RX7 120 yX7_sign, .instanceMethod yX7_sign, .selects RX7 yX7_sign yX7_sign, .initialized RX7, .code yX7_sign cX7_sign 2 (some .int), .fieldLink RX7 117 "WindRosesModel" "length" "I", .fieldLink RX7 19 "WindRosesModel" "text" "[I", .methodLink RX7 41 yX7_in, .static yX7_in, .code yX7_in cX7_in 3 (some .boolean)] ++ wsX70)
def wsX7_numberEnd : List Cond := .code yX7_numberEnd cX7_numberEnd 5 (some .int) :: ([.methodLink RX7 123 yX7_digit, .instanceMethod yX7_digit, .selects RX7 yX7_digit yX7_digit, .initialized RX7, .code yX7_digit cX7_digit 2 (some .int), .methodLink RX7 120 yX7_sign, .instanceMethod yX7_sign, .selects RX7 yX7_sign yX7_sign, .code yX7_sign cX7_sign 2 (some .int), .fieldLink RX7 117 "WindRosesModel" "length" "I", .fieldLink RX7 19 "WindRosesModel" "text" "[I", .methodLink RX7 41 yX7_in, .static yX7_in, .code yX7_in cX7_in 3 (some .boolean)] ++ wsX70)
def wsX7_numberIn : List Cond := .code yX7_numberIn cX7_numberIn 3 (some .int) :: ([.methodLink RX7 123 yX7_digit, .instanceMethod yX7_digit, .selects RX7 yX7_digit yX7_digit, .initialized RX7, .code yX7_digit cX7_digit 2 (some .int), .methodLink RX7 120 yX7_sign, .instanceMethod yX7_sign, .selects RX7 yX7_sign yX7_sign, .code yX7_sign cX7_sign 2 (some .int), .fieldLink RX7 117 "WindRosesModel" "length" "I", .fieldLink RX7 19 "WindRosesModel" "text" "[I", .methodLink RX7 41 yX7_in, .static yX7_in, .code yX7_in cX7_in 3 (some .boolean)] ++ wsX70)
def wsX7_behind : List Cond := .code yX7_behind cX7_behind 3 (some .int) :: ([.methodLink RX7 120 yX7_sign, .instanceMethod yX7_sign, .selects RX7 yX7_sign yX7_sign, .initialized RX7, .code yX7_sign cX7_sign 2 (some .int), .fieldLink RX7 117 "WindRosesModel" "length" "I", .fieldLink RX7 19 "WindRosesModel" "text" "[I"] ++ wsX70)
def wsX7_headEnd : List Cond := .code yX7_headEnd cX7_headEnd 3 (some .int) :: ([.methodLink RX7 126 yX7_numberEnd, .instanceMethod yX7_numberEnd, .selects RX7 yX7_numberEnd yX7_numberEnd, .initialized RX7, .code yX7_numberEnd cX7_numberEnd 5 (some .int), .methodLink RX7 123 yX7_digit, .instanceMethod yX7_digit, .selects RX7 yX7_digit yX7_digit, .code yX7_digit cX7_digit 2 (some .int), .methodLink RX7 120 yX7_sign, .instanceMethod yX7_sign, .selects RX7 yX7_sign yX7_sign, .code yX7_sign cX7_sign 2 (some .int), .fieldLink RX7 117 "WindRosesModel" "length" "I", .fieldLink RX7 19 "WindRosesModel" "text" "[I", .methodLink RX7 41 yX7_in, .static yX7_in, .code yX7_in cX7_in 3 (some .boolean), .methodLink RX7 129 yX7_behind, .instanceMethod yX7_behind, .selects RX7 yX7_behind yX7_behind, .code yX7_behind cX7_behind 3 (some .int)] ++ wsX70)
def wsX7_windEnd : List Cond := .code yX7_windEnd cX7_windEnd 2 (some .int) :: ([.methodLink RX7 120 yX7_sign, .instanceMethod yX7_sign, .selects RX7 yX7_sign yX7_sign, .initialized RX7, .code yX7_sign cX7_sign 2 (some .int), .fieldLink RX7 117 "WindRosesModel" "length" "I", .fieldLink RX7 19 "WindRosesModel" "text" "[I", .methodLink RX7 126 yX7_numberEnd, .instanceMethod yX7_numberEnd, .selects RX7 yX7_numberEnd yX7_numberEnd, .code yX7_numberEnd cX7_numberEnd 5 (some .int), .methodLink RX7 123 yX7_digit, .instanceMethod yX7_digit, .selects RX7 yX7_digit yX7_digit, .code yX7_digit cX7_digit 2 (some .int), .methodLink RX7 41 yX7_in, .static yX7_in, .code yX7_in cX7_in 3 (some .boolean), .methodLink RX7 129 yX7_behind, .instanceMethod yX7_behind, .selects RX7 yX7_behind yX7_behind, .code yX7_behind cX7_behind 3 (some .int)] ++ wsX70)
def wsX7_itemEnd_r1 : List Cond := [Cond.methodLink RX7 132 yX7_headEnd, Cond.instanceMethod yX7_headEnd, Cond.selects RX7 yX7_headEnd yX7_headEnd, Cond.initialized RX7, Cond.code yX7_headEnd cX7_headEnd 3 (some .int), Cond.methodLink RX7 126 yX7_numberEnd, Cond.instanceMethod yX7_numberEnd, Cond.selects RX7 yX7_numberEnd yX7_numberEnd, Cond.code yX7_numberEnd cX7_numberEnd 5 (some .int), Cond.methodLink RX7 123 yX7_digit, Cond.instanceMethod yX7_digit, Cond.selects RX7 yX7_digit yX7_digit, Cond.code yX7_digit cX7_digit 2 (some .int), Cond.methodLink RX7 120 yX7_sign, Cond.instanceMethod yX7_sign, Cond.selects RX7 yX7_sign yX7_sign, Cond.code yX7_sign cX7_sign 2 (some .int), Cond.fieldLink RX7 117 "WindRosesModel" "length" "I", Cond.fieldLink RX7 19 "WindRosesModel" "text" "[I", Cond.methodLink RX7 41 yX7_in, Cond.static yX7_in, Cond.code yX7_in cX7_in 3 (some .boolean), Cond.methodLink RX7 129 yX7_behind, Cond.instanceMethod yX7_behind]
def wsX7_itemEnd_r2 : List Cond := [Cond.selects RX7 yX7_behind yX7_behind, Cond.code yX7_behind cX7_behind 3 (some .int), Cond.methodLink RX7 135 yX7_windEnd, Cond.instanceMethod yX7_windEnd, Cond.selects RX7 yX7_windEnd yX7_windEnd, Cond.code yX7_windEnd cX7_windEnd 2 (some .int)]
def wsX7_itemEnd : List Cond := .code yX7_itemEnd cX7_itemEnd 3 (some .int) :: ((wsX7_itemEnd_r1 ++ wsX7_itemEnd_r2) ++ wsX70)
def wsX7_faultAt_r1 : List Cond := [Cond.fieldLink RX7 117 "WindRosesModel" "length" "I", Cond.methodLink RX7 138 yX7_itemEnd, Cond.instanceMethod yX7_itemEnd, Cond.selects RX7 yX7_itemEnd yX7_itemEnd, Cond.initialized RX7, Cond.code yX7_itemEnd cX7_itemEnd 3 (some .int), Cond.methodLink RX7 132 yX7_headEnd, Cond.instanceMethod yX7_headEnd, Cond.selects RX7 yX7_headEnd yX7_headEnd, Cond.code yX7_headEnd cX7_headEnd 3 (some .int), Cond.methodLink RX7 126 yX7_numberEnd, Cond.instanceMethod yX7_numberEnd, Cond.selects RX7 yX7_numberEnd yX7_numberEnd, Cond.code yX7_numberEnd cX7_numberEnd 5 (some .int), Cond.methodLink RX7 123 yX7_digit, Cond.instanceMethod yX7_digit, Cond.selects RX7 yX7_digit yX7_digit, Cond.code yX7_digit cX7_digit 2 (some .int), Cond.methodLink RX7 120 yX7_sign, Cond.instanceMethod yX7_sign, Cond.selects RX7 yX7_sign yX7_sign, Cond.code yX7_sign cX7_sign 2 (some .int), Cond.fieldLink RX7 19 "WindRosesModel" "text" "[I", Cond.methodLink RX7 41 yX7_in]
def wsX7_faultAt_r2 : List Cond := [Cond.static yX7_in, Cond.code yX7_in cX7_in 3 (some .boolean), Cond.methodLink RX7 129 yX7_behind, Cond.instanceMethod yX7_behind, Cond.selects RX7 yX7_behind yX7_behind, Cond.code yX7_behind cX7_behind 3 (some .int), Cond.methodLink RX7 135 yX7_windEnd, Cond.instanceMethod yX7_windEnd, Cond.selects RX7 yX7_windEnd yX7_windEnd, Cond.code yX7_windEnd cX7_windEnd 2 (some .int)]
def wsX7_faultAt : List Cond := .code yX7_faultAt cX7_faultAt 4 (some .int) :: ((wsX7_faultAt_r1 ++ wsX7_faultAt_r2) ++ wsX70)
def wsX7_roseAt : List Cond := .code yX7_roseAt cX7_roseAt 2 (some .int) :: ([.methodLink RX7 123 yX7_digit, .instanceMethod yX7_digit, .selects RX7 yX7_digit yX7_digit, .initialized RX7, .code yX7_digit cX7_digit 2 (some .int), .methodLink RX7 120 yX7_sign, .instanceMethod yX7_sign, .selects RX7 yX7_sign yX7_sign, .code yX7_sign cX7_sign 2 (some .int), .fieldLink RX7 117 "WindRosesModel" "length" "I", .fieldLink RX7 19 "WindRosesModel" "text" "[I", .methodLink RX7 41 yX7_in, .static yX7_in, .code yX7_in cX7_in 3 (some .boolean)] ++ wsX70)
def wsX7_hoursAt_r1 : List Cond := [Cond.methodLink RX7 135 yX7_windEnd, Cond.instanceMethod yX7_windEnd, Cond.selects RX7 yX7_windEnd yX7_windEnd, Cond.initialized RX7, Cond.code yX7_windEnd cX7_windEnd 2 (some .int), Cond.methodLink RX7 120 yX7_sign, Cond.instanceMethod yX7_sign, Cond.selects RX7 yX7_sign yX7_sign, Cond.code yX7_sign cX7_sign 2 (some .int), Cond.fieldLink RX7 117 "WindRosesModel" "length" "I", Cond.fieldLink RX7 19 "WindRosesModel" "text" "[I", Cond.methodLink RX7 126 yX7_numberEnd, Cond.instanceMethod yX7_numberEnd, Cond.selects RX7 yX7_numberEnd yX7_numberEnd, Cond.code yX7_numberEnd cX7_numberEnd 5 (some .int), Cond.methodLink RX7 123 yX7_digit, Cond.instanceMethod yX7_digit, Cond.selects RX7 yX7_digit yX7_digit, Cond.code yX7_digit cX7_digit 2 (some .int), Cond.methodLink RX7 41 yX7_in, Cond.static yX7_in, Cond.code yX7_in cX7_in 3 (some .boolean), Cond.methodLink RX7 129 yX7_behind, Cond.instanceMethod yX7_behind]
def wsX7_hoursAt_r2 : List Cond := [Cond.selects RX7 yX7_behind yX7_behind, Cond.code yX7_behind cX7_behind 3 (some .int), Cond.methodLink RX7 138 yX7_itemEnd, Cond.instanceMethod yX7_itemEnd, Cond.selects RX7 yX7_itemEnd yX7_itemEnd, Cond.code yX7_itemEnd cX7_itemEnd 3 (some .int), Cond.methodLink RX7 132 yX7_headEnd, Cond.instanceMethod yX7_headEnd, Cond.selects RX7 yX7_headEnd yX7_headEnd, Cond.code yX7_headEnd cX7_headEnd 3 (some .int), Cond.methodLink RX7 141 yX7_numberIn, Cond.instanceMethod yX7_numberIn, Cond.selects RX7 yX7_numberIn yX7_numberIn, Cond.code yX7_numberIn cX7_numberIn 3 (some .int)]
def wsX7_hoursAt : List Cond := .code yX7_hoursAt cX7_hoursAt 3 (some .int) :: ((wsX7_hoursAt_r1 ++ wsX7_hoursAt_r2) ++ wsX70)
def wsX7_hoursOfText_r1 : List Cond := [Cond.fieldLink RX7 117 "WindRosesModel" "length" "I", Cond.methodLink RX7 144 yX7_roseAt, Cond.instanceMethod yX7_roseAt, Cond.selects RX7 yX7_roseAt yX7_roseAt, Cond.initialized RX7, Cond.code yX7_roseAt cX7_roseAt 2 (some .int), Cond.methodLink RX7 123 yX7_digit, Cond.instanceMethod yX7_digit, Cond.selects RX7 yX7_digit yX7_digit, Cond.code yX7_digit cX7_digit 2 (some .int), Cond.methodLink RX7 120 yX7_sign, Cond.instanceMethod yX7_sign, Cond.selects RX7 yX7_sign yX7_sign, Cond.code yX7_sign cX7_sign 2 (some .int), Cond.fieldLink RX7 19 "WindRosesModel" "text" "[I", Cond.methodLink RX7 41 yX7_in, Cond.static yX7_in, Cond.code yX7_in cX7_in 3 (some .boolean), Cond.methodLink RX7 147 yX7_hoursAt, Cond.instanceMethod yX7_hoursAt, Cond.selects RX7 yX7_hoursAt yX7_hoursAt, Cond.code yX7_hoursAt cX7_hoursAt 3 (some .int), Cond.methodLink RX7 135 yX7_windEnd, Cond.instanceMethod yX7_windEnd]
def wsX7_hoursOfText_r2 : List Cond := [Cond.selects RX7 yX7_windEnd yX7_windEnd, Cond.code yX7_windEnd cX7_windEnd 2 (some .int), Cond.methodLink RX7 126 yX7_numberEnd, Cond.instanceMethod yX7_numberEnd, Cond.selects RX7 yX7_numberEnd yX7_numberEnd, Cond.code yX7_numberEnd cX7_numberEnd 5 (some .int), Cond.methodLink RX7 129 yX7_behind, Cond.instanceMethod yX7_behind, Cond.selects RX7 yX7_behind yX7_behind, Cond.code yX7_behind cX7_behind 3 (some .int), Cond.methodLink RX7 138 yX7_itemEnd, Cond.instanceMethod yX7_itemEnd, Cond.selects RX7 yX7_itemEnd yX7_itemEnd, Cond.code yX7_itemEnd cX7_itemEnd 3 (some .int), Cond.methodLink RX7 132 yX7_headEnd, Cond.instanceMethod yX7_headEnd, Cond.selects RX7 yX7_headEnd yX7_headEnd, Cond.code yX7_headEnd cX7_headEnd 3 (some .int), Cond.methodLink RX7 141 yX7_numberIn, Cond.instanceMethod yX7_numberIn, Cond.selects RX7 yX7_numberIn yX7_numberIn, Cond.code yX7_numberIn cX7_numberIn 3 (some .int)]
def wsX7_hoursOfText : List Cond := .code yX7_hoursOfText cX7_hoursOfText 4 (some .int) :: ((wsX7_hoursOfText_r1 ++ wsX7_hoursOfText_r2) ++ wsX70)
def wsX7_logs_r1 : List Cond := [Cond.fieldLink RX7 7 "WindRosesModel" "s" "[J", Cond.methodLink RX7 144 yX7_roseAt, Cond.instanceMethod yX7_roseAt, Cond.selects RX7 yX7_roseAt yX7_roseAt, Cond.initialized RX7, Cond.code yX7_roseAt cX7_roseAt 2 (some .int), Cond.methodLink RX7 123 yX7_digit, Cond.instanceMethod yX7_digit, Cond.selects RX7 yX7_digit yX7_digit, Cond.code yX7_digit cX7_digit 2 (some .int), Cond.methodLink RX7 120 yX7_sign, Cond.instanceMethod yX7_sign, Cond.selects RX7 yX7_sign yX7_sign, Cond.code yX7_sign cX7_sign 2 (some .int), Cond.fieldLink RX7 117 "WindRosesModel" "length" "I", Cond.fieldLink RX7 19 "WindRosesModel" "text" "[I", Cond.methodLink RX7 41 yX7_in, Cond.static yX7_in, Cond.code yX7_in cX7_in 3 (some .boolean), Cond.methodLink RX7 147 yX7_hoursAt, Cond.instanceMethod yX7_hoursAt, Cond.selects RX7 yX7_hoursAt yX7_hoursAt, Cond.code yX7_hoursAt cX7_hoursAt 3 (some .int), Cond.methodLink RX7 135 yX7_windEnd]
def wsX7_logs_r2 : List Cond := [Cond.instanceMethod yX7_windEnd, Cond.selects RX7 yX7_windEnd yX7_windEnd, Cond.code yX7_windEnd cX7_windEnd 2 (some .int), Cond.methodLink RX7 126 yX7_numberEnd, Cond.instanceMethod yX7_numberEnd, Cond.selects RX7 yX7_numberEnd yX7_numberEnd, Cond.code yX7_numberEnd cX7_numberEnd 5 (some .int), Cond.methodLink RX7 129 yX7_behind, Cond.instanceMethod yX7_behind, Cond.selects RX7 yX7_behind yX7_behind, Cond.code yX7_behind cX7_behind 3 (some .int), Cond.methodLink RX7 138 yX7_itemEnd, Cond.instanceMethod yX7_itemEnd, Cond.selects RX7 yX7_itemEnd yX7_itemEnd, Cond.code yX7_itemEnd cX7_itemEnd 3 (some .int), Cond.methodLink RX7 132 yX7_headEnd, Cond.instanceMethod yX7_headEnd, Cond.selects RX7 yX7_headEnd yX7_headEnd, Cond.code yX7_headEnd cX7_headEnd 3 (some .int), Cond.methodLink RX7 141 yX7_numberIn, Cond.instanceMethod yX7_numberIn, Cond.selects RX7 yX7_numberIn yX7_numberIn, Cond.code yX7_numberIn cX7_numberIn 3 (some .int), Cond.methodLink RX7 55 yX7_at]
def wsX7_logs_r3 : List Cond := [Cond.instanceMethod yX7_at, Cond.selects RX7 yX7_at yX7_at, Cond.code yX7_at cX7_at 5 (some .int), Cond.constantLong RX7 53 (16383), Cond.methodLink RX7 49 yX7_cellOf, Cond.static yX7_cellOf, Cond.code yX7_cellOf cX7_cellOf 3 (some .int), Cond.methodLink RX7 91 yX7_puts, Cond.instanceMethod yX7_puts, Cond.selects RX7 yX7_puts yX7_puts, Cond.code yX7_puts cX7_puts 8 none]
def wsX7_logs : List Cond := .code yX7_logs cX7_logs 6 none :: ((wsX7_logs_r1 ++ (wsX7_logs_r2 ++ wsX7_logs_r3)) ++ wsX70)
def wsX7_logAll_r1 : List Cond := [Cond.fieldLink RX7 117 "WindRosesModel" "length" "I", Cond.methodLink RX7 150 yX7_faultAt, Cond.instanceMethod yX7_faultAt, Cond.selects RX7 yX7_faultAt yX7_faultAt, Cond.initialized RX7, Cond.code yX7_faultAt cX7_faultAt 4 (some .int), Cond.methodLink RX7 138 yX7_itemEnd, Cond.instanceMethod yX7_itemEnd, Cond.selects RX7 yX7_itemEnd yX7_itemEnd, Cond.code yX7_itemEnd cX7_itemEnd 3 (some .int), Cond.methodLink RX7 132 yX7_headEnd, Cond.instanceMethod yX7_headEnd, Cond.selects RX7 yX7_headEnd yX7_headEnd, Cond.code yX7_headEnd cX7_headEnd 3 (some .int), Cond.methodLink RX7 126 yX7_numberEnd, Cond.instanceMethod yX7_numberEnd, Cond.selects RX7 yX7_numberEnd yX7_numberEnd, Cond.code yX7_numberEnd cX7_numberEnd 5 (some .int), Cond.methodLink RX7 123 yX7_digit, Cond.instanceMethod yX7_digit, Cond.selects RX7 yX7_digit yX7_digit, Cond.code yX7_digit cX7_digit 2 (some .int), Cond.methodLink RX7 120 yX7_sign, Cond.instanceMethod yX7_sign]
def wsX7_logAll_r2 : List Cond := [Cond.selects RX7 yX7_sign yX7_sign, Cond.code yX7_sign cX7_sign 2 (some .int), Cond.fieldLink RX7 19 "WindRosesModel" "text" "[I", Cond.methodLink RX7 41 yX7_in, Cond.static yX7_in, Cond.code yX7_in cX7_in 3 (some .boolean), Cond.methodLink RX7 129 yX7_behind, Cond.instanceMethod yX7_behind, Cond.selects RX7 yX7_behind yX7_behind, Cond.code yX7_behind cX7_behind 3 (some .int), Cond.methodLink RX7 135 yX7_windEnd, Cond.instanceMethod yX7_windEnd, Cond.selects RX7 yX7_windEnd yX7_windEnd, Cond.code yX7_windEnd cX7_windEnd 2 (some .int), Cond.methodLink RX7 71 yX7_hoursOf, Cond.instanceMethod yX7_hoursOf, Cond.selects RX7 yX7_hoursOf yX7_hoursOf, Cond.code yX7_hoursOf cX7_hoursOf 2 (some .int), Cond.methodLink RX7 65 yX7_looks, Cond.instanceMethod yX7_looks, Cond.selects RX7 yX7_looks yX7_looks, Cond.code yX7_looks cX7_looks 6 (some .int), Cond.fieldLink RX7 23 "WindRosesModel" "parts" "[I", Cond.methodLink RX7 55 yX7_at]
def wsX7_logAll_r3 : List Cond := [Cond.instanceMethod yX7_at, Cond.selects RX7 yX7_at yX7_at, Cond.code yX7_at cX7_at 5 (some .int), Cond.fieldLink RX7 7 "WindRosesModel" "s" "[J", Cond.constantLong RX7 53 (16383), Cond.methodLink RX7 49 yX7_cellOf, Cond.static yX7_cellOf, Cond.code yX7_cellOf cX7_cellOf 3 (some .int), Cond.methodLink RX7 58 yX7_kindOf, Cond.instanceMethod yX7_kindOf, Cond.selects RX7 yX7_kindOf yX7_kindOf, Cond.code yX7_kindOf cX7_kindOf 2 (some .int), Cond.methodLink RX7 68 yX7_calmOf, Cond.instanceMethod yX7_calmOf, Cond.selects RX7 yX7_calmOf yX7_calmOf, Cond.code yX7_calmOf cX7_calmOf 2 (some .int), Cond.methodLink RX7 62 yX7_num, Cond.instanceMethod yX7_num, Cond.selects RX7 yX7_num yX7_num, Cond.code yX7_num cX7_num 2 (some .int), Cond.methodLink RX7 154 yX7_hoursOfText, Cond.instanceMethod yX7_hoursOfText, Cond.selects RX7 yX7_hoursOfText yX7_hoursOfText, Cond.code yX7_hoursOfText cX7_hoursOfText 4 (some .int)]
def wsX7_logAll_r4 : List Cond := [Cond.methodLink RX7 144 yX7_roseAt, Cond.instanceMethod yX7_roseAt, Cond.selects RX7 yX7_roseAt yX7_roseAt, Cond.code yX7_roseAt cX7_roseAt 2 (some .int), Cond.methodLink RX7 147 yX7_hoursAt, Cond.instanceMethod yX7_hoursAt, Cond.selects RX7 yX7_hoursAt yX7_hoursAt, Cond.code yX7_hoursAt cX7_hoursAt 3 (some .int), Cond.methodLink RX7 141 yX7_numberIn, Cond.instanceMethod yX7_numberIn, Cond.selects RX7 yX7_numberIn yX7_numberIn, Cond.code yX7_numberIn cX7_numberIn 3 (some .int), Cond.methodLink RX7 88 yX7_remembers, Cond.instanceMethod yX7_remembers, Cond.selects RX7 yX7_remembers yX7_remembers, Cond.code yX7_remembers cX7_remembers 2 none, Cond.fieldLink RX7 45 "WindRosesModel" "known" "I", Cond.fieldLink RX7 13 "WindRosesModel" "past" "[J", Cond.methodLink RX7 157 yX7_logs, Cond.instanceMethod yX7_logs, Cond.selects RX7 yX7_logs yX7_logs, Cond.code yX7_logs cX7_logs 6 none, Cond.methodLink RX7 91 yX7_puts, Cond.instanceMethod yX7_puts]
def wsX7_logAll_r5 : List Cond := [Cond.selects RX7 yX7_puts yX7_puts, Cond.code yX7_puts cX7_puts 8 none]
def wsX7_logAll : List Cond := .code yX7_logAll cX7_logAll 3 (some .int) :: ((wsX7_logAll_r1 ++ (wsX7_logAll_r2 ++ (wsX7_logAll_r3 ++ (wsX7_logAll_r4 ++ wsX7_logAll_r5)))) ++ wsX70)
def wsX7_allHours_r1 : List Cond := [Cond.methodLink RX7 71 yX7_hoursOf, Cond.instanceMethod yX7_hoursOf, Cond.selects RX7 yX7_hoursOf yX7_hoursOf, Cond.initialized RX7, Cond.code yX7_hoursOf cX7_hoursOf 2 (some .int), Cond.methodLink RX7 65 yX7_looks, Cond.instanceMethod yX7_looks, Cond.selects RX7 yX7_looks yX7_looks, Cond.code yX7_looks cX7_looks 6 (some .int), Cond.fieldLink RX7 23 "WindRosesModel" "parts" "[I", Cond.methodLink RX7 55 yX7_at, Cond.instanceMethod yX7_at, Cond.selects RX7 yX7_at yX7_at, Cond.code yX7_at cX7_at 5 (some .int), Cond.fieldLink RX7 7 "WindRosesModel" "s" "[J", Cond.constantLong RX7 53 (16383), Cond.methodLink RX7 49 yX7_cellOf, Cond.static yX7_cellOf, Cond.code yX7_cellOf cX7_cellOf 3 (some .int), Cond.methodLink RX7 58 yX7_kindOf, Cond.instanceMethod yX7_kindOf, Cond.selects RX7 yX7_kindOf yX7_kindOf, Cond.code yX7_kindOf cX7_kindOf 2 (some .int), Cond.methodLink RX7 68 yX7_calmOf]
def wsX7_allHours_r2 : List Cond := [Cond.instanceMethod yX7_calmOf, Cond.selects RX7 yX7_calmOf yX7_calmOf, Cond.code yX7_calmOf cX7_calmOf 2 (some .int), Cond.methodLink RX7 62 yX7_num, Cond.instanceMethod yX7_num, Cond.selects RX7 yX7_num yX7_num, Cond.code yX7_num cX7_num 2 (some .int)]
def wsX7_allHours : List Cond := .code yX7_allHours cX7_allHours 4 (some .int) :: ((wsX7_allHours_r1 ++ wsX7_allHours_r2) ++ wsX70)
def wsX7_undo : List Cond := .code yX7_undo cX7_undo 2 (some .int) :: ([.fieldLink RX7 45 "WindRosesModel" "known" "I", .fieldLink RX7 7 "WindRosesModel" "s" "[J", .fieldLink RX7 13 "WindRosesModel" "past" "[J"] ++ wsX70)
def wsX7_keep_r1 : List Cond := [Cond.fieldLink RX7 16 "WindRosesModel" "snap" "[J", Cond.fieldLink RX7 7 "WindRosesModel" "s" "[J", Cond.fieldLink RX7 160 "WindRosesModel" "isKept" "Z", Cond.methodLink RX7 164 yX7_allHours, Cond.instanceMethod yX7_allHours, Cond.selects RX7 yX7_allHours yX7_allHours, Cond.initialized RX7, Cond.code yX7_allHours cX7_allHours 4 (some .int), Cond.methodLink RX7 71 yX7_hoursOf, Cond.instanceMethod yX7_hoursOf, Cond.selects RX7 yX7_hoursOf yX7_hoursOf, Cond.code yX7_hoursOf cX7_hoursOf 2 (some .int), Cond.methodLink RX7 65 yX7_looks, Cond.instanceMethod yX7_looks, Cond.selects RX7 yX7_looks yX7_looks, Cond.code yX7_looks cX7_looks 6 (some .int), Cond.fieldLink RX7 23 "WindRosesModel" "parts" "[I", Cond.methodLink RX7 55 yX7_at, Cond.instanceMethod yX7_at, Cond.selects RX7 yX7_at yX7_at, Cond.code yX7_at cX7_at 5 (some .int), Cond.constantLong RX7 53 (16383), Cond.methodLink RX7 49 yX7_cellOf, Cond.static yX7_cellOf]
def wsX7_keep_r2 : List Cond := [Cond.code yX7_cellOf cX7_cellOf 3 (some .int), Cond.methodLink RX7 58 yX7_kindOf, Cond.instanceMethod yX7_kindOf, Cond.selects RX7 yX7_kindOf yX7_kindOf, Cond.code yX7_kindOf cX7_kindOf 2 (some .int), Cond.methodLink RX7 68 yX7_calmOf, Cond.instanceMethod yX7_calmOf, Cond.selects RX7 yX7_calmOf yX7_calmOf, Cond.code yX7_calmOf cX7_calmOf 2 (some .int), Cond.methodLink RX7 62 yX7_num, Cond.instanceMethod yX7_num, Cond.selects RX7 yX7_num yX7_num, Cond.code yX7_num cX7_num 2 (some .int)]
def wsX7_keep : List Cond := .code yX7_keep cX7_keep 2 (some .int) :: ((wsX7_keep_r1 ++ wsX7_keep_r2) ++ wsX70)
def wsX7_restore_r1 : List Cond := [Cond.fieldLink RX7 160 "WindRosesModel" "isKept" "Z", Cond.fieldLink RX7 7 "WindRosesModel" "s" "[J", Cond.fieldLink RX7 16 "WindRosesModel" "snap" "[J", Cond.methodLink RX7 88 yX7_remembers, Cond.instanceMethod yX7_remembers, Cond.selects RX7 yX7_remembers yX7_remembers, Cond.initialized RX7, Cond.code yX7_remembers cX7_remembers 2 none, Cond.fieldLink RX7 45 "WindRosesModel" "known" "I", Cond.fieldLink RX7 13 "WindRosesModel" "past" "[J", Cond.methodLink RX7 164 yX7_allHours, Cond.instanceMethod yX7_allHours, Cond.selects RX7 yX7_allHours yX7_allHours, Cond.code yX7_allHours cX7_allHours 4 (some .int), Cond.methodLink RX7 71 yX7_hoursOf, Cond.instanceMethod yX7_hoursOf, Cond.selects RX7 yX7_hoursOf yX7_hoursOf, Cond.code yX7_hoursOf cX7_hoursOf 2 (some .int), Cond.methodLink RX7 65 yX7_looks, Cond.instanceMethod yX7_looks, Cond.selects RX7 yX7_looks yX7_looks, Cond.code yX7_looks cX7_looks 6 (some .int), Cond.fieldLink RX7 23 "WindRosesModel" "parts" "[I", Cond.methodLink RX7 55 yX7_at]
def wsX7_restore_r2 : List Cond := [Cond.instanceMethod yX7_at, Cond.selects RX7 yX7_at yX7_at, Cond.code yX7_at cX7_at 5 (some .int), Cond.constantLong RX7 53 (16383), Cond.methodLink RX7 49 yX7_cellOf, Cond.static yX7_cellOf, Cond.code yX7_cellOf cX7_cellOf 3 (some .int), Cond.methodLink RX7 58 yX7_kindOf, Cond.instanceMethod yX7_kindOf, Cond.selects RX7 yX7_kindOf yX7_kindOf, Cond.code yX7_kindOf cX7_kindOf 2 (some .int), Cond.methodLink RX7 68 yX7_calmOf, Cond.instanceMethod yX7_calmOf, Cond.selects RX7 yX7_calmOf yX7_calmOf, Cond.code yX7_calmOf cX7_calmOf 2 (some .int), Cond.methodLink RX7 62 yX7_num, Cond.instanceMethod yX7_num, Cond.selects RX7 yX7_num yX7_num, Cond.code yX7_num cX7_num 2 (some .int)]
def wsX7_restore : List Cond := .code yX7_restore cX7_restore 2 (some .int) :: ((wsX7_restore_r1 ++ wsX7_restore_r2) ++ wsX70)
def wsX7_ofDirection : List Cond := .code yX7_ofDirection cX7_ofDirection 2 (some .int) :: ([.fieldLink RX7 23 "WindRosesModel" "parts" "[I"] ++ wsX70)
def wsX7_ofKind : List Cond := .code yX7_ofKind cX7_ofKind 4 (some .int) :: ([.fieldLink RX7 23 "WindRosesModel" "parts" "[I"] ++ wsX70)
def wsX7_greatestSpeed : List Cond := .code yX7_greatestSpeed cX7_greatestSpeed 5 (some .int) :: ([.methodLink RX7 55 yX7_at, .instanceMethod yX7_at, .selects RX7 yX7_at yX7_at, .initialized RX7, .code yX7_at cX7_at 5 (some .int), .fieldLink RX7 7 "WindRosesModel" "s" "[J", .constantLong RX7 53 (16383), .methodLink RX7 49 yX7_cellOf, .static yX7_cellOf, .code yX7_cellOf cX7_cellOf 3 (some .int)] ++ wsX70)
def wsX7_meanSpeed : List Cond := .code yX7_meanSpeed cX7_meanSpeed 6 (some .int) :: ([.methodLink RX7 65 yX7_looks, .instanceMethod yX7_looks, .selects RX7 yX7_looks yX7_looks, .initialized RX7, .code yX7_looks cX7_looks 6 (some .int), .fieldLink RX7 23 "WindRosesModel" "parts" "[I", .methodLink RX7 55 yX7_at, .instanceMethod yX7_at, .selects RX7 yX7_at yX7_at, .code yX7_at cX7_at 5 (some .int), .fieldLink RX7 7 "WindRosesModel" "s" "[J", .constantLong RX7 53 (16383), .methodLink RX7 49 yX7_cellOf, .static yX7_cellOf, .code yX7_cellOf cX7_cellOf 3 (some .int), .methodLink RX7 58 yX7_kindOf, .instanceMethod yX7_kindOf, .selects RX7 yX7_kindOf yX7_kindOf, .code yX7_kindOf cX7_kindOf 2 (some .int)] ++ wsX70)
def wsX7_prevailing : List Cond := .code yX7_prevailing cX7_prevailing 5 (some .int) :: ([.methodLink RX7 65 yX7_looks, .instanceMethod yX7_looks, .selects RX7 yX7_looks yX7_looks, .initialized RX7, .code yX7_looks cX7_looks 6 (some .int), .fieldLink RX7 23 "WindRosesModel" "parts" "[I", .methodLink RX7 55 yX7_at, .instanceMethod yX7_at, .selects RX7 yX7_at yX7_at, .code yX7_at cX7_at 5 (some .int), .fieldLink RX7 7 "WindRosesModel" "s" "[J", .constantLong RX7 53 (16383), .methodLink RX7 49 yX7_cellOf, .static yX7_cellOf, .code yX7_cellOf cX7_cellOf 3 (some .int), .methodLink RX7 58 yX7_kindOf, .instanceMethod yX7_kindOf, .selects RX7 yX7_kindOf yX7_kindOf, .code yX7_kindOf cX7_kindOf 2 (some .int), .methodLink RX7 167 yX7_ofDirection, .instanceMethod yX7_ofDirection, .selects RX7 yX7_ofDirection yX7_ofDirection, .code yX7_ofDirection cX7_ofDirection 2 (some .int)] ++ wsX70)
def wsX7_ofRose_r1 : List Cond := [Cond.methodLink RX7 65 yX7_looks, Cond.instanceMethod yX7_looks, Cond.selects RX7 yX7_looks yX7_looks, Cond.initialized RX7, Cond.code yX7_looks cX7_looks 6 (some .int), Cond.fieldLink RX7 23 "WindRosesModel" "parts" "[I", Cond.methodLink RX7 55 yX7_at, Cond.instanceMethod yX7_at, Cond.selects RX7 yX7_at yX7_at, Cond.code yX7_at cX7_at 5 (some .int), Cond.fieldLink RX7 7 "WindRosesModel" "s" "[J", Cond.constantLong RX7 53 (16383), Cond.methodLink RX7 49 yX7_cellOf, Cond.static yX7_cellOf, Cond.code yX7_cellOf cX7_cellOf 3 (some .int), Cond.methodLink RX7 58 yX7_kindOf, Cond.instanceMethod yX7_kindOf, Cond.selects RX7 yX7_kindOf yX7_kindOf, Cond.code yX7_kindOf cX7_kindOf 2 (some .int), Cond.methodLink RX7 68 yX7_calmOf, Cond.instanceMethod yX7_calmOf, Cond.selects RX7 yX7_calmOf yX7_calmOf, Cond.code yX7_calmOf cX7_calmOf 2 (some .int), Cond.methodLink RX7 62 yX7_num]
def wsX7_ofRose_r2 : List Cond := [Cond.instanceMethod yX7_num, Cond.selects RX7 yX7_num yX7_num, Cond.code yX7_num cX7_num 2 (some .int), Cond.methodLink RX7 95 yX7_calmShare, Cond.instanceMethod yX7_calmShare, Cond.selects RX7 yX7_calmShare yX7_calmShare, Cond.code yX7_calmShare cX7_calmShare 3 (some .int), Cond.methodLink RX7 71 yX7_hoursOf, Cond.instanceMethod yX7_hoursOf, Cond.selects RX7 yX7_hoursOf yX7_hoursOf, Cond.code yX7_hoursOf cX7_hoursOf 2 (some .int), Cond.methodLink RX7 170 yX7_greatestSpeed, Cond.instanceMethod yX7_greatestSpeed, Cond.selects RX7 yX7_greatestSpeed yX7_greatestSpeed, Cond.code yX7_greatestSpeed cX7_greatestSpeed 5 (some .int), Cond.methodLink RX7 173 yX7_meanSpeed, Cond.instanceMethod yX7_meanSpeed, Cond.selects RX7 yX7_meanSpeed yX7_meanSpeed, Cond.code yX7_meanSpeed cX7_meanSpeed 6 (some .int), Cond.methodLink RX7 176 yX7_ofKind, Cond.instanceMethod yX7_ofKind, Cond.selects RX7 yX7_ofKind yX7_ofKind, Cond.code yX7_ofKind cX7_ofKind 4 (some .int), Cond.methodLink RX7 179 yX7_prevailing]
def wsX7_ofRose_r3 : List Cond := [Cond.instanceMethod yX7_prevailing, Cond.selects RX7 yX7_prevailing yX7_prevailing, Cond.code yX7_prevailing cX7_prevailing 5 (some .int), Cond.methodLink RX7 167 yX7_ofDirection, Cond.instanceMethod yX7_ofDirection, Cond.selects RX7 yX7_ofDirection yX7_ofDirection, Cond.code yX7_ofDirection cX7_ofDirection 2 (some .int)]
def wsX7_ofRose : List Cond := .code yX7_ofRose cX7_ofRose 4 (some .int) :: ((wsX7_ofRose_r1 ++ (wsX7_ofRose_r2 ++ wsX7_ofRose_r3)) ++ wsX70)
def wsX7_rose_r1 : List Cond := [Cond.methodLink RX7 85 yX7_roseOf, Cond.static yX7_roseOf, Cond.initialized RX7, Cond.code yX7_roseOf cX7_roseOf 2 (some .int), Cond.methodLink RX7 78 yX7_isFour, Cond.static yX7_isFour, Cond.code yX7_isFour cX7_isFour 1 (some .boolean), Cond.methodLink RX7 41 yX7_in, Cond.static yX7_in, Cond.code yX7_in cX7_in 3 (some .boolean), Cond.methodLink RX7 182 yX7_ofRose, Cond.instanceMethod yX7_ofRose, Cond.selects RX7 yX7_ofRose yX7_ofRose, Cond.code yX7_ofRose cX7_ofRose 4 (some .int), Cond.methodLink RX7 65 yX7_looks, Cond.instanceMethod yX7_looks, Cond.selects RX7 yX7_looks yX7_looks, Cond.code yX7_looks cX7_looks 6 (some .int), Cond.fieldLink RX7 23 "WindRosesModel" "parts" "[I", Cond.methodLink RX7 55 yX7_at, Cond.instanceMethod yX7_at, Cond.selects RX7 yX7_at yX7_at, Cond.code yX7_at cX7_at 5 (some .int), Cond.fieldLink RX7 7 "WindRosesModel" "s" "[J"]
def wsX7_rose_r2 : List Cond := [Cond.constantLong RX7 53 (16383), Cond.methodLink RX7 49 yX7_cellOf, Cond.static yX7_cellOf, Cond.code yX7_cellOf cX7_cellOf 3 (some .int), Cond.methodLink RX7 58 yX7_kindOf, Cond.instanceMethod yX7_kindOf, Cond.selects RX7 yX7_kindOf yX7_kindOf, Cond.code yX7_kindOf cX7_kindOf 2 (some .int), Cond.methodLink RX7 68 yX7_calmOf, Cond.instanceMethod yX7_calmOf, Cond.selects RX7 yX7_calmOf yX7_calmOf, Cond.code yX7_calmOf cX7_calmOf 2 (some .int), Cond.methodLink RX7 62 yX7_num, Cond.instanceMethod yX7_num, Cond.selects RX7 yX7_num yX7_num, Cond.code yX7_num cX7_num 2 (some .int), Cond.methodLink RX7 95 yX7_calmShare, Cond.instanceMethod yX7_calmShare, Cond.selects RX7 yX7_calmShare yX7_calmShare, Cond.code yX7_calmShare cX7_calmShare 3 (some .int), Cond.methodLink RX7 71 yX7_hoursOf, Cond.instanceMethod yX7_hoursOf, Cond.selects RX7 yX7_hoursOf yX7_hoursOf, Cond.code yX7_hoursOf cX7_hoursOf 2 (some .int)]
def wsX7_rose_r3 : List Cond := [Cond.methodLink RX7 170 yX7_greatestSpeed, Cond.instanceMethod yX7_greatestSpeed, Cond.selects RX7 yX7_greatestSpeed yX7_greatestSpeed, Cond.code yX7_greatestSpeed cX7_greatestSpeed 5 (some .int), Cond.methodLink RX7 173 yX7_meanSpeed, Cond.instanceMethod yX7_meanSpeed, Cond.selects RX7 yX7_meanSpeed yX7_meanSpeed, Cond.code yX7_meanSpeed cX7_meanSpeed 6 (some .int), Cond.methodLink RX7 176 yX7_ofKind, Cond.instanceMethod yX7_ofKind, Cond.selects RX7 yX7_ofKind yX7_ofKind, Cond.code yX7_ofKind cX7_ofKind 4 (some .int), Cond.methodLink RX7 179 yX7_prevailing, Cond.instanceMethod yX7_prevailing, Cond.selects RX7 yX7_prevailing yX7_prevailing, Cond.code yX7_prevailing cX7_prevailing 5 (some .int), Cond.methodLink RX7 167 yX7_ofDirection, Cond.instanceMethod yX7_ofDirection, Cond.selects RX7 yX7_ofDirection yX7_ofDirection, Cond.code yX7_ofDirection cX7_ofDirection 2 (some .int)]
def wsX7_rose : List Cond := .code yX7_rose cX7_rose 5 (some .int) :: ((wsX7_rose_r1 ++ (wsX7_rose_r2 ++ wsX7_rose_r3)) ++ wsX70)
def wsX7_hours_r1 : List Cond := [Cond.fieldLink RX7 23 "WindRosesModel" "parts" "[I", Cond.methodLink RX7 85 yX7_roseOf, Cond.static yX7_roseOf, Cond.initialized RX7, Cond.code yX7_roseOf cX7_roseOf 2 (some .int), Cond.methodLink RX7 78 yX7_isFour, Cond.static yX7_isFour, Cond.code yX7_isFour cX7_isFour 1 (some .boolean), Cond.methodLink RX7 41 yX7_in, Cond.static yX7_in, Cond.code yX7_in cX7_in 3 (some .boolean), Cond.methodLink RX7 82 yX7_isDirection, Cond.static yX7_isDirection, Cond.code yX7_isDirection cX7_isDirection 1 (some .boolean), Cond.methodLink RX7 65 yX7_looks, Cond.instanceMethod yX7_looks, Cond.selects RX7 yX7_looks yX7_looks, Cond.code yX7_looks cX7_looks 6 (some .int), Cond.methodLink RX7 55 yX7_at, Cond.instanceMethod yX7_at, Cond.selects RX7 yX7_at yX7_at, Cond.code yX7_at cX7_at 5 (some .int), Cond.fieldLink RX7 7 "WindRosesModel" "s" "[J", Cond.constantLong RX7 53 (16383)]
def wsX7_hours_r2 : List Cond := [Cond.methodLink RX7 49 yX7_cellOf, Cond.static yX7_cellOf, Cond.code yX7_cellOf cX7_cellOf 3 (some .int), Cond.methodLink RX7 58 yX7_kindOf, Cond.instanceMethod yX7_kindOf, Cond.selects RX7 yX7_kindOf yX7_kindOf, Cond.code yX7_kindOf cX7_kindOf 2 (some .int), Cond.methodLink RX7 167 yX7_ofDirection, Cond.instanceMethod yX7_ofDirection, Cond.selects RX7 yX7_ofDirection yX7_ofDirection, Cond.code yX7_ofDirection cX7_ofDirection 2 (some .int)]
def wsX7_hours : List Cond := .code yX7_hours cX7_hours 7 (some .int) :: ((wsX7_hours_r1 ++ wsX7_hours_r2) ++ wsX70)
def wsX7_isPart : List Cond := .code yX7_isPart cX7_isPart 2 (some .boolean) :: ([.methodLink RX7 82 yX7_isDirection, .static yX7_isDirection, .initialized RX7, .code yX7_isDirection cX7_isDirection 1 (some .boolean), .methodLink RX7 41 yX7_in, .static yX7_in, .code yX7_in cX7_in 3 (some .boolean)])
def wsX7_share_r1 : List Cond := [Cond.fieldLink RX7 26 "WindRosesModel" "shares" "[I", Cond.methodLink RX7 85 yX7_roseOf, Cond.static yX7_roseOf, Cond.initialized RX7, Cond.code yX7_roseOf cX7_roseOf 2 (some .int), Cond.methodLink RX7 78 yX7_isFour, Cond.static yX7_isFour, Cond.code yX7_isFour cX7_isFour 1 (some .boolean), Cond.methodLink RX7 41 yX7_in, Cond.static yX7_in, Cond.code yX7_in cX7_in 3 (some .boolean), Cond.methodLink RX7 185 yX7_isPart, Cond.static yX7_isPart, Cond.code yX7_isPart cX7_isPart 2 (some .boolean), Cond.methodLink RX7 82 yX7_isDirection, Cond.static yX7_isDirection, Cond.code yX7_isDirection cX7_isDirection 1 (some .boolean), Cond.methodLink RX7 98 yX7_finds, Cond.instanceMethod yX7_finds, Cond.selects RX7 yX7_finds yX7_finds, Cond.code yX7_finds cX7_finds 5 none, Cond.fieldLink RX7 23 "WindRosesModel" "parts" "[I", Cond.methodLink RX7 65 yX7_looks, Cond.instanceMethod yX7_looks]
def wsX7_share_r2 : List Cond := [Cond.selects RX7 yX7_looks yX7_looks, Cond.code yX7_looks cX7_looks 6 (some .int), Cond.methodLink RX7 55 yX7_at, Cond.instanceMethod yX7_at, Cond.selects RX7 yX7_at yX7_at, Cond.code yX7_at cX7_at 5 (some .int), Cond.fieldLink RX7 7 "WindRosesModel" "s" "[J", Cond.constantLong RX7 53 (16383), Cond.methodLink RX7 49 yX7_cellOf, Cond.static yX7_cellOf, Cond.code yX7_cellOf cX7_cellOf 3 (some .int), Cond.methodLink RX7 58 yX7_kindOf, Cond.instanceMethod yX7_kindOf, Cond.selects RX7 yX7_kindOf yX7_kindOf, Cond.code yX7_kindOf cX7_kindOf 2 (some .int), Cond.methodLink RX7 74 yX7_ahead, Cond.instanceMethod yX7_ahead, Cond.selects RX7 yX7_ahead yX7_ahead, Cond.code yX7_ahead cX7_ahead 7 (some .int)]
def wsX7_share : List Cond := .code yX7_share cX7_share 6 (some .int) :: ((wsX7_share_r1 ++ wsX7_share_r2) ++ wsX70)
def wsX7_dealt_r1 : List Cond := [Cond.fieldLink RX7 26 "WindRosesModel" "shares" "[I", Cond.methodLink RX7 85 yX7_roseOf, Cond.static yX7_roseOf, Cond.initialized RX7, Cond.code yX7_roseOf cX7_roseOf 2 (some .int), Cond.methodLink RX7 78 yX7_isFour, Cond.static yX7_isFour, Cond.code yX7_isFour cX7_isFour 1 (some .boolean), Cond.methodLink RX7 41 yX7_in, Cond.static yX7_in, Cond.code yX7_in cX7_in 3 (some .boolean), Cond.methodLink RX7 185 yX7_isPart, Cond.static yX7_isPart, Cond.code yX7_isPart cX7_isPart 2 (some .boolean), Cond.methodLink RX7 82 yX7_isDirection, Cond.static yX7_isDirection, Cond.code yX7_isDirection cX7_isDirection 1 (some .boolean), Cond.methodLink RX7 189 yX7_deals, Cond.instanceMethod yX7_deals, Cond.selects RX7 yX7_deals yX7_deals, Cond.code yX7_deals cX7_deals 7 none, Cond.fieldLink RX7 23 "WindRosesModel" "parts" "[I", Cond.fieldLink RX7 29 "WindRosesModel" "others" "[I", Cond.methodLink RX7 65 yX7_looks]
def wsX7_dealt_r2 : List Cond := [Cond.instanceMethod yX7_looks, Cond.selects RX7 yX7_looks yX7_looks, Cond.code yX7_looks cX7_looks 6 (some .int), Cond.methodLink RX7 55 yX7_at, Cond.instanceMethod yX7_at, Cond.selects RX7 yX7_at yX7_at, Cond.code yX7_at cX7_at 5 (some .int), Cond.fieldLink RX7 7 "WindRosesModel" "s" "[J", Cond.constantLong RX7 53 (16383), Cond.methodLink RX7 49 yX7_cellOf, Cond.static yX7_cellOf, Cond.code yX7_cellOf cX7_cellOf 3 (some .int), Cond.methodLink RX7 58 yX7_kindOf, Cond.instanceMethod yX7_kindOf, Cond.selects RX7 yX7_kindOf yX7_kindOf, Cond.code yX7_kindOf cX7_kindOf 2 (some .int)]
def wsX7_dealt : List Cond := .code yX7_dealt cX7_dealt 6 (some .int) :: ((wsX7_dealt_r1 ++ wsX7_dealt_r2) ++ wsX70)
def wsX7_quarter_r1 : List Cond := [Cond.methodLink RX7 85 yX7_roseOf, Cond.static yX7_roseOf, Cond.initialized RX7, Cond.code yX7_roseOf cX7_roseOf 2 (some .int), Cond.methodLink RX7 78 yX7_isFour, Cond.static yX7_isFour, Cond.code yX7_isFour cX7_isFour 1 (some .boolean), Cond.methodLink RX7 41 yX7_in, Cond.static yX7_in, Cond.code yX7_in cX7_in 3 (some .boolean), Cond.methodLink RX7 65 yX7_looks, Cond.instanceMethod yX7_looks, Cond.selects RX7 yX7_looks yX7_looks, Cond.code yX7_looks cX7_looks 6 (some .int), Cond.fieldLink RX7 23 "WindRosesModel" "parts" "[I", Cond.methodLink RX7 55 yX7_at, Cond.instanceMethod yX7_at, Cond.selects RX7 yX7_at yX7_at, Cond.code yX7_at cX7_at 5 (some .int), Cond.fieldLink RX7 7 "WindRosesModel" "s" "[J", Cond.constantLong RX7 53 (16383), Cond.methodLink RX7 49 yX7_cellOf, Cond.static yX7_cellOf, Cond.code yX7_cellOf cX7_cellOf 3 (some .int)]
def wsX7_quarter_r2 : List Cond := [Cond.methodLink RX7 58 yX7_kindOf, Cond.instanceMethod yX7_kindOf, Cond.selects RX7 yX7_kindOf yX7_kindOf, Cond.code yX7_kindOf cX7_kindOf 2 (some .int), Cond.methodLink RX7 167 yX7_ofDirection, Cond.instanceMethod yX7_ofDirection, Cond.selects RX7 yX7_ofDirection yX7_ofDirection, Cond.code yX7_ofDirection cX7_ofDirection 2 (some .int)]
def wsX7_quarter : List Cond := .code yX7_quarter cX7_quarter 8 (some .int) :: ((wsX7_quarter_r1 ++ wsX7_quarter_r2) ++ wsX70)
def wsX7_excess_r1 : List Cond := [Cond.methodLink RX7 85 yX7_roseOf, Cond.static yX7_roseOf, Cond.initialized RX7, Cond.code yX7_roseOf cX7_roseOf 2 (some .int), Cond.methodLink RX7 78 yX7_isFour, Cond.static yX7_isFour, Cond.code yX7_isFour cX7_isFour 1 (some .boolean), Cond.methodLink RX7 41 yX7_in, Cond.static yX7_in, Cond.code yX7_in cX7_in 3 (some .boolean), Cond.methodLink RX7 82 yX7_isDirection, Cond.static yX7_isDirection, Cond.code yX7_isDirection cX7_isDirection 1 (some .boolean), Cond.methodLink RX7 65 yX7_looks, Cond.instanceMethod yX7_looks, Cond.selects RX7 yX7_looks yX7_looks, Cond.code yX7_looks cX7_looks 6 (some .int), Cond.fieldLink RX7 23 "WindRosesModel" "parts" "[I", Cond.methodLink RX7 55 yX7_at, Cond.instanceMethod yX7_at, Cond.selects RX7 yX7_at yX7_at, Cond.code yX7_at cX7_at 5 (some .int), Cond.fieldLink RX7 7 "WindRosesModel" "s" "[J", Cond.constantLong RX7 53 (16383)]
def wsX7_excess_r2 : List Cond := [Cond.methodLink RX7 49 yX7_cellOf, Cond.static yX7_cellOf, Cond.code yX7_cellOf cX7_cellOf 3 (some .int), Cond.methodLink RX7 58 yX7_kindOf, Cond.instanceMethod yX7_kindOf, Cond.selects RX7 yX7_kindOf yX7_kindOf, Cond.code yX7_kindOf cX7_kindOf 2 (some .int), Cond.methodLink RX7 167 yX7_ofDirection, Cond.instanceMethod yX7_ofDirection, Cond.selects RX7 yX7_ofDirection yX7_ofDirection, Cond.code yX7_ofDirection cX7_ofDirection 2 (some .int)]
def wsX7_excess : List Cond := .code yX7_excess cX7_excess 7 (some .int) :: ((wsX7_excess_r1 ++ wsX7_excess_r2) ++ wsX70)
def wsX7_unlike_r1 : List Cond := [Cond.fieldLink RX7 29 "WindRosesModel" "others" "[I", Cond.fieldLink RX7 26 "WindRosesModel" "shares" "[I", Cond.methodLink RX7 78 yX7_isFour, Cond.static yX7_isFour, Cond.initialized RX7, Cond.code yX7_isFour cX7_isFour 1 (some .boolean), Cond.methodLink RX7 41 yX7_in, Cond.static yX7_in, Cond.code yX7_in cX7_in 3 (some .boolean), Cond.methodLink RX7 98 yX7_finds, Cond.instanceMethod yX7_finds, Cond.selects RX7 yX7_finds yX7_finds, Cond.code yX7_finds cX7_finds 5 none, Cond.fieldLink RX7 23 "WindRosesModel" "parts" "[I", Cond.methodLink RX7 65 yX7_looks, Cond.instanceMethod yX7_looks, Cond.selects RX7 yX7_looks yX7_looks, Cond.code yX7_looks cX7_looks 6 (some .int), Cond.methodLink RX7 55 yX7_at, Cond.instanceMethod yX7_at, Cond.selects RX7 yX7_at yX7_at, Cond.code yX7_at cX7_at 5 (some .int), Cond.fieldLink RX7 7 "WindRosesModel" "s" "[J", Cond.constantLong RX7 53 (16383)]
def wsX7_unlike_r2 : List Cond := [Cond.methodLink RX7 49 yX7_cellOf, Cond.static yX7_cellOf, Cond.code yX7_cellOf cX7_cellOf 3 (some .int), Cond.methodLink RX7 58 yX7_kindOf, Cond.instanceMethod yX7_kindOf, Cond.selects RX7 yX7_kindOf yX7_kindOf, Cond.code yX7_kindOf cX7_kindOf 2 (some .int), Cond.methodLink RX7 74 yX7_ahead, Cond.instanceMethod yX7_ahead, Cond.selects RX7 yX7_ahead yX7_ahead, Cond.code yX7_ahead cX7_ahead 7 (some .int)]
def wsX7_unlike : List Cond := .code yX7_unlike cX7_unlike 6 (some .int) :: ((wsX7_unlike_r1 ++ wsX7_unlike_r2) ++ wsX70)
def wsX7_seasonOf_r1 : List Cond := [Cond.methodLink RX7 78 yX7_isFour, Cond.static yX7_isFour, Cond.initialized RX7, Cond.code yX7_isFour cX7_isFour 1 (some .boolean), Cond.methodLink RX7 41 yX7_in, Cond.static yX7_in, Cond.code yX7_in cX7_in 3 (some .boolean), Cond.methodLink RX7 65 yX7_looks, Cond.instanceMethod yX7_looks, Cond.selects RX7 yX7_looks yX7_looks, Cond.code yX7_looks cX7_looks 6 (some .int), Cond.fieldLink RX7 23 "WindRosesModel" "parts" "[I", Cond.methodLink RX7 55 yX7_at, Cond.instanceMethod yX7_at, Cond.selects RX7 yX7_at yX7_at, Cond.code yX7_at cX7_at 5 (some .int), Cond.fieldLink RX7 7 "WindRosesModel" "s" "[J", Cond.constantLong RX7 53 (16383), Cond.methodLink RX7 49 yX7_cellOf, Cond.static yX7_cellOf, Cond.code yX7_cellOf cX7_cellOf 3 (some .int), Cond.methodLink RX7 58 yX7_kindOf, Cond.instanceMethod yX7_kindOf, Cond.selects RX7 yX7_kindOf yX7_kindOf]
def wsX7_seasonOf_r2 : List Cond := [Cond.code yX7_kindOf cX7_kindOf 2 (some .int), Cond.methodLink RX7 176 yX7_ofKind, Cond.instanceMethod yX7_ofKind, Cond.selects RX7 yX7_ofKind yX7_ofKind, Cond.code yX7_ofKind cX7_ofKind 4 (some .int)]
def wsX7_seasonOf : List Cond := .code yX7_seasonOf cX7_seasonOf 8 (some .int) :: ((wsX7_seasonOf_r1 ++ wsX7_seasonOf_r2) ++ wsX70)
def wsX7_longest : List Cond := .code yX7_longest cX7_longest 4 (some .int) :: ([.methodLink RX7 102 yX7_petalOf, .instanceMethod yX7_petalOf, .selects RX7 yX7_petalOf yX7_petalOf, .initialized RX7, .code yX7_petalOf cX7_petalOf 3 (some .int), .methodLink RX7 62 yX7_num, .instanceMethod yX7_num, .selects RX7 yX7_num yX7_num, .code yX7_num cX7_num 2 (some .int), .fieldLink RX7 7 "WindRosesModel" "s" "[J"] ++ wsX70)
def wsX7_plate_r1 : List Cond := [Cond.methodLink RX7 85 yX7_roseOf, Cond.static yX7_roseOf, Cond.initialized RX7, Cond.code yX7_roseOf cX7_roseOf 2 (some .int), Cond.methodLink RX7 78 yX7_isFour, Cond.static yX7_isFour, Cond.code yX7_isFour cX7_isFour 1 (some .boolean), Cond.methodLink RX7 41 yX7_in, Cond.static yX7_in, Cond.code yX7_in cX7_in 3 (some .boolean), Cond.methodLink RX7 62 yX7_num, Cond.instanceMethod yX7_num, Cond.selects RX7 yX7_num yX7_num, Cond.code yX7_num cX7_num 2 (some .int), Cond.fieldLink RX7 7 "WindRosesModel" "s" "[J", Cond.methodLink RX7 114 yX7_petals, Cond.instanceMethod yX7_petals, Cond.selects RX7 yX7_petals yX7_petals, Cond.code yX7_petals cX7_petals 4 (some .int), Cond.methodLink RX7 102 yX7_petalOf, Cond.instanceMethod yX7_petalOf, Cond.selects RX7 yX7_petalOf yX7_petalOf, Cond.code yX7_petalOf cX7_petalOf 3 (some .int), Cond.methodLink RX7 192 yX7_longest]
def wsX7_plate_r2 : List Cond := [Cond.instanceMethod yX7_longest, Cond.selects RX7 yX7_longest yX7_longest, Cond.code yX7_longest cX7_longest 4 (some .int), Cond.methodLink RX7 195 yX7_farOff, Cond.instanceMethod yX7_farOff, Cond.selects RX7 yX7_farOff yX7_farOff, Cond.code yX7_farOff cX7_farOff 5 (some .int), Cond.fieldLink RX7 26 "WindRosesModel" "shares" "[I", Cond.methodLink RX7 95 yX7_calmShare, Cond.instanceMethod yX7_calmShare, Cond.selects RX7 yX7_calmShare yX7_calmShare, Cond.code yX7_calmShare cX7_calmShare 3 (some .int), Cond.methodLink RX7 71 yX7_hoursOf, Cond.instanceMethod yX7_hoursOf, Cond.selects RX7 yX7_hoursOf yX7_hoursOf, Cond.code yX7_hoursOf cX7_hoursOf 2 (some .int), Cond.methodLink RX7 65 yX7_looks, Cond.instanceMethod yX7_looks, Cond.selects RX7 yX7_looks yX7_looks, Cond.code yX7_looks cX7_looks 6 (some .int), Cond.fieldLink RX7 23 "WindRosesModel" "parts" "[I", Cond.methodLink RX7 55 yX7_at, Cond.instanceMethod yX7_at, Cond.selects RX7 yX7_at yX7_at]
def wsX7_plate_r3 : List Cond := [Cond.code yX7_at cX7_at 5 (some .int), Cond.constantLong RX7 53 (16383), Cond.methodLink RX7 49 yX7_cellOf, Cond.static yX7_cellOf, Cond.code yX7_cellOf cX7_cellOf 3 (some .int), Cond.methodLink RX7 58 yX7_kindOf, Cond.instanceMethod yX7_kindOf, Cond.selects RX7 yX7_kindOf yX7_kindOf, Cond.code yX7_kindOf cX7_kindOf 2 (some .int), Cond.methodLink RX7 68 yX7_calmOf, Cond.instanceMethod yX7_calmOf, Cond.selects RX7 yX7_calmOf yX7_calmOf, Cond.code yX7_calmOf cX7_calmOf 2 (some .int), Cond.methodLink RX7 98 yX7_finds, Cond.instanceMethod yX7_finds, Cond.selects RX7 yX7_finds yX7_finds, Cond.code yX7_finds cX7_finds 5 none, Cond.methodLink RX7 74 yX7_ahead, Cond.instanceMethod yX7_ahead, Cond.selects RX7 yX7_ahead yX7_ahead, Cond.code yX7_ahead cX7_ahead 7 (some .int), Cond.methodLink RX7 105 yX7_needs, Cond.instanceMethod yX7_needs, Cond.selects RX7 yX7_needs yX7_needs]
def wsX7_plate_r4 : List Cond := [Cond.code yX7_needs cX7_needs 4 (some .int)]
def wsX7_plate : List Cond := .code yX7_plate cX7_plate 5 (some .int) :: ((wsX7_plate_r1 ++ (wsX7_plate_r2 ++ (wsX7_plate_r3 ++ wsX7_plate_r4))) ++ wsX70)
def wsX7_petal_r1 : List Cond := [Cond.methodLink RX7 85 yX7_roseOf, Cond.static yX7_roseOf, Cond.initialized RX7, Cond.code yX7_roseOf cX7_roseOf 2 (some .int), Cond.methodLink RX7 78 yX7_isFour, Cond.static yX7_isFour, Cond.code yX7_isFour cX7_isFour 1 (some .boolean), Cond.methodLink RX7 41 yX7_in, Cond.static yX7_in, Cond.code yX7_in cX7_in 3 (some .boolean), Cond.methodLink RX7 185 yX7_isPart, Cond.static yX7_isPart, Cond.code yX7_isPart cX7_isPart 2 (some .boolean), Cond.methodLink RX7 82 yX7_isDirection, Cond.static yX7_isDirection, Cond.code yX7_isDirection cX7_isDirection 1 (some .boolean), Cond.methodLink RX7 102 yX7_petalOf, Cond.instanceMethod yX7_petalOf, Cond.selects RX7 yX7_petalOf yX7_petalOf, Cond.code yX7_petalOf cX7_petalOf 3 (some .int), Cond.methodLink RX7 62 yX7_num, Cond.instanceMethod yX7_num, Cond.selects RX7 yX7_num yX7_num, Cond.code yX7_num cX7_num 2 (some .int)]
def wsX7_petal_r2 : List Cond := [Cond.fieldLink RX7 7 "WindRosesModel" "s" "[J"]
def wsX7_petal : List Cond := .code yX7_petal cX7_petal 6 (some .int) :: ((wsX7_petal_r1 ++ wsX7_petal_r2) ++ wsX70)
def wsX7_reasonOf_r1 : List Cond := [Cond.methodLink RX7 71 yX7_hoursOf, Cond.instanceMethod yX7_hoursOf, Cond.selects RX7 yX7_hoursOf yX7_hoursOf, Cond.initialized RX7, Cond.code yX7_hoursOf cX7_hoursOf 2 (some .int), Cond.methodLink RX7 65 yX7_looks, Cond.instanceMethod yX7_looks, Cond.selects RX7 yX7_looks yX7_looks, Cond.code yX7_looks cX7_looks 6 (some .int), Cond.fieldLink RX7 23 "WindRosesModel" "parts" "[I", Cond.methodLink RX7 55 yX7_at, Cond.instanceMethod yX7_at, Cond.selects RX7 yX7_at yX7_at, Cond.code yX7_at cX7_at 5 (some .int), Cond.fieldLink RX7 7 "WindRosesModel" "s" "[J", Cond.constantLong RX7 53 (16383), Cond.methodLink RX7 49 yX7_cellOf, Cond.static yX7_cellOf, Cond.code yX7_cellOf cX7_cellOf 3 (some .int), Cond.methodLink RX7 58 yX7_kindOf, Cond.instanceMethod yX7_kindOf, Cond.selects RX7 yX7_kindOf yX7_kindOf, Cond.code yX7_kindOf cX7_kindOf 2 (some .int), Cond.methodLink RX7 68 yX7_calmOf]
def wsX7_reasonOf_r2 : List Cond := [Cond.instanceMethod yX7_calmOf, Cond.selects RX7 yX7_calmOf yX7_calmOf, Cond.code yX7_calmOf cX7_calmOf 2 (some .int), Cond.methodLink RX7 62 yX7_num, Cond.instanceMethod yX7_num, Cond.selects RX7 yX7_num yX7_num, Cond.code yX7_num cX7_num 2 (some .int), Cond.methodLink RX7 111 yX7_differs, Cond.instanceMethod yX7_differs, Cond.selects RX7 yX7_differs yX7_differs, Cond.code yX7_differs cX7_differs 4 (some .int), Cond.fieldLink RX7 26 "WindRosesModel" "shares" "[I", Cond.methodLink RX7 95 yX7_calmShare, Cond.instanceMethod yX7_calmShare, Cond.selects RX7 yX7_calmShare yX7_calmShare, Cond.code yX7_calmShare cX7_calmShare 3 (some .int), Cond.methodLink RX7 98 yX7_finds, Cond.instanceMethod yX7_finds, Cond.selects RX7 yX7_finds yX7_finds, Cond.code yX7_finds cX7_finds 5 none, Cond.methodLink RX7 74 yX7_ahead, Cond.instanceMethod yX7_ahead, Cond.selects RX7 yX7_ahead yX7_ahead, Cond.code yX7_ahead cX7_ahead 7 (some .int)]
def wsX7_reasonOf_r3 : List Cond := [Cond.methodLink RX7 102 yX7_petalOf, Cond.instanceMethod yX7_petalOf, Cond.selects RX7 yX7_petalOf yX7_petalOf, Cond.code yX7_petalOf cX7_petalOf 3 (some .int), Cond.methodLink RX7 108 yX7_isTooMuch, Cond.instanceMethod yX7_isTooMuch, Cond.selects RX7 yX7_isTooMuch yX7_isTooMuch, Cond.code yX7_isTooMuch cX7_isTooMuch 3 (some .boolean), Cond.methodLink RX7 105 yX7_needs, Cond.instanceMethod yX7_needs, Cond.selects RX7 yX7_needs yX7_needs, Cond.code yX7_needs cX7_needs 4 (some .int)]
def wsX7_reasonOf : List Cond := .code yX7_reasonOf cX7_reasonOf 2 (some .int) :: ((wsX7_reasonOf_r1 ++ (wsX7_reasonOf_r2 ++ wsX7_reasonOf_r3)) ++ wsX70)
def wsX7_reason_r1 : List Cond := [Cond.methodLink RX7 85 yX7_roseOf, Cond.static yX7_roseOf, Cond.initialized RX7, Cond.code yX7_roseOf cX7_roseOf 2 (some .int), Cond.methodLink RX7 78 yX7_isFour, Cond.static yX7_isFour, Cond.code yX7_isFour cX7_isFour 1 (some .boolean), Cond.methodLink RX7 41 yX7_in, Cond.static yX7_in, Cond.code yX7_in cX7_in 3 (some .boolean), Cond.methodLink RX7 198 yX7_reasonOf, Cond.instanceMethod yX7_reasonOf, Cond.selects RX7 yX7_reasonOf yX7_reasonOf, Cond.code yX7_reasonOf cX7_reasonOf 2 (some .int), Cond.methodLink RX7 71 yX7_hoursOf, Cond.instanceMethod yX7_hoursOf, Cond.selects RX7 yX7_hoursOf yX7_hoursOf, Cond.code yX7_hoursOf cX7_hoursOf 2 (some .int), Cond.methodLink RX7 65 yX7_looks, Cond.instanceMethod yX7_looks, Cond.selects RX7 yX7_looks yX7_looks, Cond.code yX7_looks cX7_looks 6 (some .int), Cond.fieldLink RX7 23 "WindRosesModel" "parts" "[I", Cond.methodLink RX7 55 yX7_at]
def wsX7_reason_r2 : List Cond := [Cond.instanceMethod yX7_at, Cond.selects RX7 yX7_at yX7_at, Cond.code yX7_at cX7_at 5 (some .int), Cond.fieldLink RX7 7 "WindRosesModel" "s" "[J", Cond.constantLong RX7 53 (16383), Cond.methodLink RX7 49 yX7_cellOf, Cond.static yX7_cellOf, Cond.code yX7_cellOf cX7_cellOf 3 (some .int), Cond.methodLink RX7 58 yX7_kindOf, Cond.instanceMethod yX7_kindOf, Cond.selects RX7 yX7_kindOf yX7_kindOf, Cond.code yX7_kindOf cX7_kindOf 2 (some .int), Cond.methodLink RX7 68 yX7_calmOf, Cond.instanceMethod yX7_calmOf, Cond.selects RX7 yX7_calmOf yX7_calmOf, Cond.code yX7_calmOf cX7_calmOf 2 (some .int), Cond.methodLink RX7 62 yX7_num, Cond.instanceMethod yX7_num, Cond.selects RX7 yX7_num yX7_num, Cond.code yX7_num cX7_num 2 (some .int), Cond.methodLink RX7 111 yX7_differs, Cond.instanceMethod yX7_differs, Cond.selects RX7 yX7_differs yX7_differs, Cond.code yX7_differs cX7_differs 4 (some .int)]
def wsX7_reason_r3 : List Cond := [Cond.fieldLink RX7 26 "WindRosesModel" "shares" "[I", Cond.methodLink RX7 95 yX7_calmShare, Cond.instanceMethod yX7_calmShare, Cond.selects RX7 yX7_calmShare yX7_calmShare, Cond.code yX7_calmShare cX7_calmShare 3 (some .int), Cond.methodLink RX7 98 yX7_finds, Cond.instanceMethod yX7_finds, Cond.selects RX7 yX7_finds yX7_finds, Cond.code yX7_finds cX7_finds 5 none, Cond.methodLink RX7 74 yX7_ahead, Cond.instanceMethod yX7_ahead, Cond.selects RX7 yX7_ahead yX7_ahead, Cond.code yX7_ahead cX7_ahead 7 (some .int), Cond.methodLink RX7 102 yX7_petalOf, Cond.instanceMethod yX7_petalOf, Cond.selects RX7 yX7_petalOf yX7_petalOf, Cond.code yX7_petalOf cX7_petalOf 3 (some .int), Cond.methodLink RX7 108 yX7_isTooMuch, Cond.instanceMethod yX7_isTooMuch, Cond.selects RX7 yX7_isTooMuch yX7_isTooMuch, Cond.code yX7_isTooMuch cX7_isTooMuch 3 (some .boolean), Cond.methodLink RX7 105 yX7_needs, Cond.instanceMethod yX7_needs, Cond.selects RX7 yX7_needs yX7_needs]
def wsX7_reason_r4 : List Cond := [Cond.code yX7_needs cX7_needs 4 (some .int)]
def wsX7_reason : List Cond := .code yX7_reason cX7_reason 4 (some .int) :: ((wsX7_reason_r1 ++ (wsX7_reason_r2 ++ (wsX7_reason_r3 ++ wsX7_reason_r4))) ++ wsX70)
def wsX7_nextPlate_r1 : List Cond := [Cond.methodLink RX7 198 yX7_reasonOf, Cond.instanceMethod yX7_reasonOf, Cond.selects RX7 yX7_reasonOf yX7_reasonOf, Cond.initialized RX7, Cond.code yX7_reasonOf cX7_reasonOf 2 (some .int), Cond.methodLink RX7 71 yX7_hoursOf, Cond.instanceMethod yX7_hoursOf, Cond.selects RX7 yX7_hoursOf yX7_hoursOf, Cond.code yX7_hoursOf cX7_hoursOf 2 (some .int), Cond.methodLink RX7 65 yX7_looks, Cond.instanceMethod yX7_looks, Cond.selects RX7 yX7_looks yX7_looks, Cond.code yX7_looks cX7_looks 6 (some .int), Cond.fieldLink RX7 23 "WindRosesModel" "parts" "[I", Cond.methodLink RX7 55 yX7_at, Cond.instanceMethod yX7_at, Cond.selects RX7 yX7_at yX7_at, Cond.code yX7_at cX7_at 5 (some .int), Cond.fieldLink RX7 7 "WindRosesModel" "s" "[J", Cond.constantLong RX7 53 (16383), Cond.methodLink RX7 49 yX7_cellOf, Cond.static yX7_cellOf, Cond.code yX7_cellOf cX7_cellOf 3 (some .int), Cond.methodLink RX7 58 yX7_kindOf]
def wsX7_nextPlate_r2 : List Cond := [Cond.instanceMethod yX7_kindOf, Cond.selects RX7 yX7_kindOf yX7_kindOf, Cond.code yX7_kindOf cX7_kindOf 2 (some .int), Cond.methodLink RX7 68 yX7_calmOf, Cond.instanceMethod yX7_calmOf, Cond.selects RX7 yX7_calmOf yX7_calmOf, Cond.code yX7_calmOf cX7_calmOf 2 (some .int), Cond.methodLink RX7 62 yX7_num, Cond.instanceMethod yX7_num, Cond.selects RX7 yX7_num yX7_num, Cond.code yX7_num cX7_num 2 (some .int), Cond.methodLink RX7 111 yX7_differs, Cond.instanceMethod yX7_differs, Cond.selects RX7 yX7_differs yX7_differs, Cond.code yX7_differs cX7_differs 4 (some .int), Cond.fieldLink RX7 26 "WindRosesModel" "shares" "[I", Cond.methodLink RX7 95 yX7_calmShare, Cond.instanceMethod yX7_calmShare, Cond.selects RX7 yX7_calmShare yX7_calmShare, Cond.code yX7_calmShare cX7_calmShare 3 (some .int), Cond.methodLink RX7 98 yX7_finds, Cond.instanceMethod yX7_finds, Cond.selects RX7 yX7_finds yX7_finds, Cond.code yX7_finds cX7_finds 5 none]
def wsX7_nextPlate_r3 : List Cond := [Cond.methodLink RX7 74 yX7_ahead, Cond.instanceMethod yX7_ahead, Cond.selects RX7 yX7_ahead yX7_ahead, Cond.code yX7_ahead cX7_ahead 7 (some .int), Cond.methodLink RX7 102 yX7_petalOf, Cond.instanceMethod yX7_petalOf, Cond.selects RX7 yX7_petalOf yX7_petalOf, Cond.code yX7_petalOf cX7_petalOf 3 (some .int), Cond.methodLink RX7 108 yX7_isTooMuch, Cond.instanceMethod yX7_isTooMuch, Cond.selects RX7 yX7_isTooMuch yX7_isTooMuch, Cond.code yX7_isTooMuch cX7_isTooMuch 3 (some .boolean), Cond.methodLink RX7 105 yX7_needs, Cond.instanceMethod yX7_needs, Cond.selects RX7 yX7_needs yX7_needs, Cond.code yX7_needs cX7_needs 4 (some .int), Cond.methodLink RX7 195 yX7_farOff, Cond.instanceMethod yX7_farOff, Cond.selects RX7 yX7_farOff yX7_farOff, Cond.code yX7_farOff cX7_farOff 5 (some .int)]
def wsX7_nextPlate : List Cond := .code yX7_nextPlate cX7_nextPlate 5 (some .int) :: ((wsX7_nextPlate_r1 ++ (wsX7_nextPlate_r2 ++ wsX7_nextPlate_r3)) ++ wsX70)
def wsX7_ofPlates_r1 : List Cond := [Cond.methodLink RX7 62 yX7_num, Cond.instanceMethod yX7_num, Cond.selects RX7 yX7_num yX7_num, Cond.initialized RX7, Cond.code yX7_num cX7_num 2 (some .int), Cond.fieldLink RX7 7 "WindRosesModel" "s" "[J", Cond.methodLink RX7 111 yX7_differs, Cond.instanceMethod yX7_differs, Cond.selects RX7 yX7_differs yX7_differs, Cond.code yX7_differs cX7_differs 4 (some .int), Cond.fieldLink RX7 26 "WindRosesModel" "shares" "[I", Cond.methodLink RX7 95 yX7_calmShare, Cond.instanceMethod yX7_calmShare, Cond.selects RX7 yX7_calmShare yX7_calmShare, Cond.code yX7_calmShare cX7_calmShare 3 (some .int), Cond.methodLink RX7 71 yX7_hoursOf, Cond.instanceMethod yX7_hoursOf, Cond.selects RX7 yX7_hoursOf yX7_hoursOf, Cond.code yX7_hoursOf cX7_hoursOf 2 (some .int), Cond.methodLink RX7 65 yX7_looks, Cond.instanceMethod yX7_looks, Cond.selects RX7 yX7_looks yX7_looks, Cond.code yX7_looks cX7_looks 6 (some .int), Cond.fieldLink RX7 23 "WindRosesModel" "parts" "[I"]
def wsX7_ofPlates_r2 : List Cond := [Cond.methodLink RX7 55 yX7_at, Cond.instanceMethod yX7_at, Cond.selects RX7 yX7_at yX7_at, Cond.code yX7_at cX7_at 5 (some .int), Cond.constantLong RX7 53 (16383), Cond.methodLink RX7 49 yX7_cellOf, Cond.static yX7_cellOf, Cond.code yX7_cellOf cX7_cellOf 3 (some .int), Cond.methodLink RX7 58 yX7_kindOf, Cond.instanceMethod yX7_kindOf, Cond.selects RX7 yX7_kindOf yX7_kindOf, Cond.code yX7_kindOf cX7_kindOf 2 (some .int), Cond.methodLink RX7 68 yX7_calmOf, Cond.instanceMethod yX7_calmOf, Cond.selects RX7 yX7_calmOf yX7_calmOf, Cond.code yX7_calmOf cX7_calmOf 2 (some .int), Cond.methodLink RX7 98 yX7_finds, Cond.instanceMethod yX7_finds, Cond.selects RX7 yX7_finds yX7_finds, Cond.code yX7_finds cX7_finds 5 none, Cond.methodLink RX7 74 yX7_ahead, Cond.instanceMethod yX7_ahead, Cond.selects RX7 yX7_ahead yX7_ahead, Cond.code yX7_ahead cX7_ahead 7 (some .int)]
def wsX7_ofPlates_r3 : List Cond := [Cond.methodLink RX7 102 yX7_petalOf, Cond.instanceMethod yX7_petalOf, Cond.selects RX7 yX7_petalOf yX7_petalOf, Cond.code yX7_petalOf cX7_petalOf 3 (some .int)]
def wsX7_ofPlates : List Cond := .code yX7_ofPlates cX7_ofPlates 4 (some .int) :: ((wsX7_ofPlates_r1 ++ (wsX7_ofPlates_r2 ++ wsX7_ofPlates_r3)) ++ wsX70)
def wsX7_count_r1 : List Cond := [Cond.fieldLink RX7 45 "WindRosesModel" "known" "I", Cond.fieldLink RX7 117 "WindRosesModel" "length" "I", Cond.methodLink RX7 164 yX7_allHours, Cond.instanceMethod yX7_allHours, Cond.selects RX7 yX7_allHours yX7_allHours, Cond.initialized RX7, Cond.code yX7_allHours cX7_allHours 4 (some .int), Cond.methodLink RX7 71 yX7_hoursOf, Cond.instanceMethod yX7_hoursOf, Cond.selects RX7 yX7_hoursOf yX7_hoursOf, Cond.code yX7_hoursOf cX7_hoursOf 2 (some .int), Cond.methodLink RX7 65 yX7_looks, Cond.instanceMethod yX7_looks, Cond.selects RX7 yX7_looks yX7_looks, Cond.code yX7_looks cX7_looks 6 (some .int), Cond.fieldLink RX7 23 "WindRosesModel" "parts" "[I", Cond.methodLink RX7 55 yX7_at, Cond.instanceMethod yX7_at, Cond.selects RX7 yX7_at yX7_at, Cond.code yX7_at cX7_at 5 (some .int), Cond.fieldLink RX7 7 "WindRosesModel" "s" "[J", Cond.constantLong RX7 53 (16383), Cond.methodLink RX7 49 yX7_cellOf, Cond.static yX7_cellOf]
def wsX7_count_r2 : List Cond := [Cond.code yX7_cellOf cX7_cellOf 3 (some .int), Cond.methodLink RX7 58 yX7_kindOf, Cond.instanceMethod yX7_kindOf, Cond.selects RX7 yX7_kindOf yX7_kindOf, Cond.code yX7_kindOf cX7_kindOf 2 (some .int), Cond.methodLink RX7 68 yX7_calmOf, Cond.instanceMethod yX7_calmOf, Cond.selects RX7 yX7_calmOf yX7_calmOf, Cond.code yX7_calmOf cX7_calmOf 2 (some .int), Cond.methodLink RX7 62 yX7_num, Cond.instanceMethod yX7_num, Cond.selects RX7 yX7_num yX7_num, Cond.code yX7_num cX7_num 2 (some .int), Cond.methodLink RX7 201 yX7_ofPlates, Cond.instanceMethod yX7_ofPlates, Cond.selects RX7 yX7_ofPlates yX7_ofPlates, Cond.code yX7_ofPlates cX7_ofPlates 4 (some .int), Cond.methodLink RX7 111 yX7_differs, Cond.instanceMethod yX7_differs, Cond.selects RX7 yX7_differs yX7_differs, Cond.code yX7_differs cX7_differs 4 (some .int), Cond.fieldLink RX7 26 "WindRosesModel" "shares" "[I", Cond.methodLink RX7 95 yX7_calmShare, Cond.instanceMethod yX7_calmShare]
def wsX7_count_r3 : List Cond := [Cond.selects RX7 yX7_calmShare yX7_calmShare, Cond.code yX7_calmShare cX7_calmShare 3 (some .int), Cond.methodLink RX7 98 yX7_finds, Cond.instanceMethod yX7_finds, Cond.selects RX7 yX7_finds yX7_finds, Cond.code yX7_finds cX7_finds 5 none, Cond.methodLink RX7 74 yX7_ahead, Cond.instanceMethod yX7_ahead, Cond.selects RX7 yX7_ahead yX7_ahead, Cond.code yX7_ahead cX7_ahead 7 (some .int), Cond.methodLink RX7 102 yX7_petalOf, Cond.instanceMethod yX7_petalOf, Cond.selects RX7 yX7_petalOf yX7_petalOf, Cond.code yX7_petalOf cX7_petalOf 3 (some .int)]
def wsX7_count : List Cond := .code yX7_count cX7_count 2 (some .int) :: ((wsX7_count_r1 ++ (wsX7_count_r2 ++ wsX7_count_r3)) ++ wsX70)
def wsJ9_abs_0f7a4 : List Cond := .code yJ9_abs_0f7a4 cJ9_abs_0f7a4 1 (some .int) :: ([])
def wsJ9_max_7cf53 : List Cond := .code yJ9_max_7cf53 cJ9_max_7cf53 2 (some .int) :: ([])
abbrev vwCl : List vw_C := [(RX0, TX0, 2), (RX1, TX1, 4), (RX2, TX2, 3), (RX3, TX3, 7), (RX4, TX4, 4), (RX5, TX5, 2), (RX6, TX6, 9), (RX7, TX7, 11)]
end
section
/-! THE V-LAYER: pure judgments over the kit's rows. Ints are zI of an Int, arrays functions Int → Int -/
def zI (z : Int) : Int32 := Int32.ofInt z
def zL (z : Int) : Int64 := Int64.ofInt z
def ia (g : Int → Int) : Nat → Int32 := fun j => zI (g (j : Int))
def la (g : Int → Int) : Nat → Int64 := fun j => zL (g (j : Int))
def upz (g : Int → Int) (i v : Int) : Int → Int := fun j => if j = i then v else g j
theorem upz_eq (g : Int → Int) (i v : Int) : upz g i v i = v := if_pos rfl
theorem upz_ne (g : Int → Int) (i v : Int) {j : Int} (h : j ≠ i) : upz g i v j = g j := if_neg h
theorem zI_toInt {z : Int} (h1 : -2147483648 ≤ z) (h2 : z < 2147483648) : (zI z).toInt = z := Int32.toInt_ofInt_of_le h1 h2
theorem zL_toInt {z : Int} (h1 : -9223372036854775808 ≤ z) (h2 : z < 9223372036854775808) : (zL z).toInt = z := Int64.toInt_ofInt_of_le h1 h2
theorem zI_of (x : Int32) : x = zI x.toInt := (Int32.ofInt_toInt x).symm
theorem zI_rng (x : Int32) : -2147483648 ≤ x.toInt ∧ x.toInt < 2147483648 := ⟨x.le_toInt, x.toInt_lt⟩
theorem zI_add (a b : Int) : zI a + zI b = zI (a + b) := Int32.toBitVec.inj (by simp [zI, BitVec.ofInt_add])
theorem zI_neg (a : Int) : -zI a = zI (-a) := Int32.neg_ofInt
theorem zI_sub (a b : Int) : zI a - zI b = zI (a - b) := by
  rw [Int32.sub_eq_add_neg, zI_neg, zI_add, Int.sub_eq_add_neg]
theorem zI_mul (a b : Int) : zI a * zI b = zI (a * b) := Int32.toBitVec.inj (by simp [zI, BitVec.ofInt_mul])
theorem zL_add (a b : Int) : zL a + zL b = zL (a + b) := Int64.toBitVec.inj (by simp [zL, BitVec.ofInt_add])
theorem zL_mul (a b : Int) : zL a * zL b = zL (a * b) := Int64.toBitVec.inj (by simp [zL, BitVec.ofInt_mul])
theorem zL_i (a : Int) : (zL a).toInt32 = zI a := Int64.toInt32_ofInt
theorem zI_l {a : Int} (h1 : -2147483648 ≤ a) (h2 : a < 2147483648) : (zI a).toInt64 = zL a := by
  apply Int64.toInt.inj
  rw [Int32.toInt_toInt64, zI_toInt h1 h2, zL_toInt (by omega) (by omega)]
theorem zI_le {a b : Int} (h : -2147483648 ≤ a ∧ a < 2147483648 ∧ -2147483648 ≤ b ∧ b < 2147483648) : zI a ≤ zI b ↔ a ≤ b := by
  rw [Int32.le_iff_toInt_le, zI_toInt h.1 h.2.1, zI_toInt h.2.2.1 h.2.2.2]
theorem zI_lt {a b : Int} (h : -2147483648 ≤ a ∧ a < 2147483648 ∧ -2147483648 ≤ b ∧ b < 2147483648) : zI a < zI b ↔ a < b := by
  rw [Int32.lt_iff_toInt_lt, zI_toInt h.1 h.2.1, zI_toInt h.2.2.1 h.2.2.2]
theorem zI_eq {a b : Int} (h : -2147483648 ≤ a ∧ a < 2147483648 ∧ -2147483648 ≤ b ∧ b < 2147483648) : zI a = zI b ↔ a = b := by
  rw [← Int32.toInt_inj, zI_toInt h.1 h.2.1, zI_toInt h.2.2.1 h.2.2.2]
theorem zI_0 : zI 0 = 0 := by decide +kernel
theorem zI_clamp {a : Int} (h1 : 0 ≤ a) (h2 : a < 2147483648) : (zI a).toNatClampNeg = a.toNat := Int32.toNatClampNeg_ofInt_of_le (by omega) h2
theorem zI_in {a : Int} {n : Nat} (hn : n ≤ 2147483648) (h : 0 ≤ a ∧ a < (n : Int)) : vp_in (zI a) n := by
  rw [vp_in_iff, zI_toInt (by omega) (by omega)]
  exact h
theorem ia_at {g : Int → Int} {a : Int} (h1 : 0 ≤ a) (h2 : a < 2147483648) : ia g (zI a).toNatClampNeg = zI (g a) := by
  show zI (g (((zI a).toNatClampNeg : Nat) : Int)) = _
  rw [zI_clamp h1 h2, Int.toNat_of_nonneg h1]
theorem la_at {g : Int → Int} {a : Int} (h1 : 0 ≤ a) (h2 : a < 2147483648) : la g (zI a).toNatClampNeg = zL (g a) := by
  show zL (g (((zI a).toNatClampNeg : Nat) : Int)) = _
  rw [zI_clamp h1 h2, Int.toNat_of_nonneg h1]
theorem ia_upd {g : Int → Int} {a v : Int} (h1 : 0 ≤ a) (h2 : a < 2147483648) : upd (ia g) (zI a).toNatClampNeg (zI v) = ia (upz g a v) := by
  funext j
  rw [zI_clamp h1 h2]
  by_cases h : j = a.toNat
  · have h' : (j : Int) = a := by omega
    simp only [upd, ia, upz, if_pos h, if_pos h']
  · have h' : ¬ (j : Int) = a := by omega
    simp [upd, ia, upz, h, h']
theorem la_upd {g : Int → Int} {a v : Int} (h1 : 0 ≤ a) (h2 : a < 2147483648) : vp_updL (la g) (zI a).toNatClampNeg (zL v) = la (upz g a v) := by
  funext j
  rw [zI_clamp h1 h2]
  by_cases h : j = a.toNat
  · have h' : (j : Int) = a := by omega
    simp only [vp_updL, la, upz, if_pos h, if_pos h']
  · have h' : ¬ (j : Int) = a := by omega
    simp [vp_updL, la, upz, h, h']
theorem zI_div {a b : Int} (ha : 0 ≤ a ∧ a < 2147483648) (hb : 0 < b ∧ b < 2147483648) : zI a / zI b = zI (a / b) := by
  have h3 : 0 ≤ a / b := Int.ediv_nonneg ha.1 (by omega)
  have h4 : a / b ≤ a := Int.ediv_le_self _ ha.1
  apply Int32.toInt.inj
  rw [Int32.toInt_div, zI_toInt (by omega) ha.2, zI_toInt (by omega) hb.2, zI_toInt (by omega) (by omega), Int.tdiv_eq_ediv_of_nonneg ha.1]
  rw [Int.bmod_eq_of_le (by omega) (by omega)]
theorem zI_rem {a b : Int} (ha : 0 ≤ a ∧ a < 2147483648) (hb : 0 < b ∧ b < 2147483648) : zI a - zI a / zI b * zI b = zI (a % b) := by
  rw [zI_div ha hb, zI_mul, zI_sub]
  congr 1
  have := Int.emod_def a b
  rw [this, Int.mul_comm]
theorem zI_ne0 {b : Int} (hb : b ≠ 0 ∧ -2147483648 ≤ b ∧ b < 2147483648) : ¬ zI b = 0 := by
  rw [← zI_0, zI_eq ⟨hb.2.1, hb.2.2, by omega, by omega⟩]
  exact hb.1
/-! ### locals by place -/
def lvl : Nat → List (Option Value) → List (Nat × Value)
  | _, [] => []
  | i, none :: t => lvl (i + 1) t
  | i, some v :: t => (i, v) :: lvl (i + 1) t
theorem lvl_mem : ∀ (lo : List (Option Value)) (i : Nat) (q : Nat × Value), q ∈ lvl i lo ↔ ∃ k : Nat, lo[k]? = some (some q.2) ∧ q.1 = i + k
  | [], i, q => by simp [lvl]
  | none :: t, i, q => by
    rw [lvl, lvl_mem t (i + 1) q]
    constructor
    · rintro ⟨k, h1, h2⟩
      exact ⟨k + 1, by simpa using h1, by omega⟩
    · rintro ⟨k, h1, h2⟩
      cases k with
      | zero => simp at h1
      | succ k => exact ⟨k, by simpa using h1, by omega⟩
  | some v :: t, i, q => by
    rw [lvl, List.mem_cons, lvl_mem t (i + 1) q]
    constructor
    · rintro (h | ⟨k, h1, h2⟩)
      · exact ⟨0, by rw [h]; rfl, by rw [h]; rfl⟩
      · exact ⟨k + 1, by simpa using h1, by omega⟩
    · rintro ⟨k, h1, h2⟩
      cases k with
      | zero =>
        left
        simp at h1
        obtain ⟨a, b⟩ := q
        simp at h2 h1 ⊢
        exact ⟨h2, h1.symm⟩
      | succ k => exact Or.inr ⟨k, by simpa using h1, by omega⟩
theorem lvl_at {ls : Array Slot} {nL : Nat} {lo : List (Option Value)} (h : lv_has ls nL (lvl 0 lo)) {i : Nat} {v : Value} (hk : lo[i]? = some (some v)) : ls[i]? = some (.val v) :=
  h.2.2 (i, v) ((lvl_mem lo 0 (i, v)).mpr ⟨i, hk, (Nat.zero_add i).symm⟩)
/-- no long stands just ahead of the place -/
def okst (lo : List (Option Value)) : Nat → Bool
  | 0 => true
  | j + 1 => match lo[j]? with
    | some (some w) => w.category != 2
    | _ => true
theorem lvl_put {ls : Array Slot} {nL i : Nat} {lo : List (Option Value)} {v : Value} (ho : okst lo i = true)
    (h : lv_has ls nL ((i, v) :: (lvl 0 lo).filter (fun q => !(q.1 == i) && !(q.1 + 1 == i && q.2.category == 2)))) : lv_has ls nL (lvl 0 (lo.set i (some v))) := by
  refine ⟨h.1, h.2.1, fun q hq => h.2.2 q ?_⟩
  obtain ⟨k, h1, h2⟩ := (lvl_mem _ 0 q).mp hq
  obtain ⟨a, b⟩ := q
  simp only [Nat.zero_add] at h2
  subst h2
  by_cases hk : a = i
  · subst hk
    rw [List.getElem?_set] at h1
    simp at h1
    rw [← h1.2]
    exact List.mem_cons_self
  · rw [List.getElem?_set_ne (Ne.symm hk)] at h1
    refine List.mem_cons_of_mem _ (List.mem_filter.mpr ⟨(lvl_mem lo 0 (a, b)).mpr ⟨a, h1, (Nat.zero_add a).symm⟩, ?_⟩)
    simp only [Bool.and_eq_true, Bool.not_eq_true', beq_eq_false_iff_ne, ne_eq, Bool.and_eq_false_iff]
    refine ⟨hk, ?_⟩
    by_cases hj : a + 1 = i
    · subst hj
      right
      simp only [okst, h1] at ho
      simpa using ho
    · exact Or.inl hj
theorem lvl_put2 {ls : Array Slot} {nL i : Nat} {lo : List (Option Value)} {v : Value} (ho : okst lo i = true)
    (h : lv_has ls nL ((i, v) :: (lvl 0 lo).filter (fun q => !(q.1 == i) && (!(q.1 == i + 1) && !(q.1 + 1 == i && q.2.category == 2))))) : lv_has ls nL (lvl 0 ((lo.set i (some v)).set (i + 1) none)) := by
  refine ⟨h.1, h.2.1, fun q hq => h.2.2 q ?_⟩
  obtain ⟨k, h1, h2⟩ := (lvl_mem _ 0 q).mp hq
  obtain ⟨a, b⟩ := q
  simp only [Nat.zero_add] at h2
  subst h2
  by_cases hk2 : a = i + 1
  · subst hk2
    rw [List.getElem?_set] at h1
    simp at h1
  · rw [List.getElem?_set_ne (Ne.symm hk2)] at h1
    by_cases hk : a = i
    · subst hk
      rw [List.getElem?_set] at h1
      simp at h1
      rw [← h1.2]
      exact List.mem_cons_self
    · rw [List.getElem?_set_ne (Ne.symm hk)] at h1
      refine List.mem_cons_of_mem _ (List.mem_filter.mpr ⟨(lvl_mem lo 0 (a, b)).mpr ⟨a, h1, (Nat.zero_add a).symm⟩, ?_⟩)
      simp only [Bool.and_eq_true, Bool.not_eq_true', beq_eq_false_iff_ne, ne_eq, Bool.and_eq_false_iff]
      refine ⟨hk, hk2, ?_⟩
      by_cases hj : a + 1 = i
      · subst hj
        right
        simp only [okst, h1] at ho
        simpa using ho
      · exact Or.inl hj
/-! ### the judgment -/
abbrev Gx : Type := va_G × ClassId × ClassId × ClassId × ClassId
/-- code, locals, own class, words, room, launch, the tables' numbers -/
abbrev Sx : Type := ByteArray × Nat × String × List Cond × Room × Launch × Gx
abbrev Cx : Type := Program × Env × State × MethodId × Array Value × List Frame × Method × Code × (State → Prop) × (Nat → Prop)
def tysOf (G : Gx) : List (ClassId × FieldType) := [(G.2.1, .int), (G.2.2.1, .long), (G.2.2.2.1, .boolean), (G.2.2.2.2, .char)]
def aI (G : Gx) (N : Nat) (g : Int → Int) : va_E := .inl (G.2.1, N, .inl (ia g))
def aJ (G : Gx) (N : Nat) (g : Int → Int) : va_E := .inl (G.2.2.1, N, .inr (.inl (la g)))
def aZ (G : Gx) (N : Nat) (g : Int → Int) : va_E := .inl (G.2.2.2.1, N, .inl (ia g))
def aC (G : Gx) (N : Nat) (g : Int → Int) : va_E := .inl (G.2.2.2.2, N, .inl (ia g))
/-- the private members of nest mates that are called -/
def NW (U : State) : Prop := va_Nw (.methodLinkNest RX3 63 yX6_roseOf RX6) U ∧ va_Nw (.methodLinkNest RX3 80 yX6_isBetween RX6) U ∧ va_Nw (.methodLinkNest RX4 45 yX6_partOf RX6) U ∧ va_Nw (.methodLinkNest RX5 23 yX6_isBetween RX6) U
theorem NW.warm {s U : State} (hW : s.WarmedH U.vm) (h : NW s) : NW U := ⟨h.1.warmM hW, h.2.1.warmM hW, h.2.2.1.warmM hW, h.2.2.2.warmM hW⟩
theorem NW.same {u U : State} (e : u.vm = U.vm) (h : NW u) : NW U := ⟨va_Nw.same rfl e h.1, va_Nw.same rfl e h.2.1, va_Nw.same rfl e h.2.2.1, va_Nw.same rfl e h.2.2.2⟩
/-- what is fixed in a walk -/
def Fx (X : Cx) (Y : Sx) : Prop := match X, Y with
  | (p, _, s, m, args, _, _, c, _, A), (cc, nL, own, Ts, _, _, G) =>
    p.tables.exec = Jvm.exec ∧ c.code = cc ∧ c.maxLocals = nL ∧ s.vm.findClass own = some m.cls ∧ (∀ w ∈ Ts, w.before args s = true) ∧ va_K G.1 vwCl (tysOf G) s ∧ NW s ∧ (∀ q : Nat, s.heap.size ≤ q → A q)
/-- from locals lo, stack st and cells ws at pc the walk comes to its end -/
def V (X : Cx) (Y : Sx) (k n pc : Nat) (lo : List (Option Value)) (st : List Value) (ws : va_W) : Prop := match X, Y with
  | (p, e, s, m, args, below, meth, c, Q, A), (_, nL, _, _, R, l, G) =>
    ∀ (H : Heap) (locs : List Loc) (ls : Array Slot), lv_has ls nL (lvl 0 lo) → va_P G.1 vwCl ws H → va_D A ws → va_S A s.heap H locs → W p l e R s m args below meth c H locs k n Q (F0 m pc ls st)
/-- a contract: on the cells wc, with As, the method returns r, the cells (at their addresses) being w' then, and P r w' -/
def Ct (l : Launch) (G : Gx) (y : MethodName) (words : List Cond) (rm : Room) (As : List Value) (wc : va_W) (P : Option Value → va_W → Prop) : Prop :=
  rm.cells = 0 ∧ rm.slots = 0 ∧ ∀ sz : Nat, Met l y words rm (va_Pc As (fun U => U.heap.size = sz ∧ va_P G.1 vwCl wc U.heap ∧ (va_K G.1 vwCl (tysOf G) U ∧ NW U) ∧ va_D (fun _ => True) wc))
    (fun _ st oc t => (∃ (r : Option Value) (w' : va_W), oc = .returned r ∧ P r w' ∧ w'.map Prod.fst = wc.map Prod.fst ∧ va_P G.1 vwCl w' t.heap) ∧ va_F (va_A wc sz) st t) 0 0 (va_A wc sz)
/-- where the walk may return -/
def Rt (X : Cx) (Y : Sx) (ret : Option FieldType) (wc : va_W) (P : Option Value → va_W → Prop) : Prop := match X, Y with
  | (_, _, s, _, args, below, meth, _, Q, A), (_, _, _, _, _, _, G) =>
    meth.sig.returnType = ret ∧ meth.locks = false ∧
    Q = MQ below (fun _ st oc t => (∃ (r : Option Value) (w' : va_W), oc = .returned r ∧ P r w' ∧ w'.map Prod.fst = wc.map Prod.fst ∧ va_P G.1 vwCl w' t.heap) ∧ va_F A st t) args s 0 0 A
theorem Ct.intro {l : Launch} {G : Gx} {y : MethodName} {words ws' : List Cond} {rm : Room} {As : List Value} {wc : va_W} {P : Option Value → va_W → Prop} {cc : ByteArray} {maxL : Nat} {ret : Option FieldType} {lo0 : List (Option Value)}
    (hy : plainName y.cls = true) (hw : words = Cond.code y cc maxL ret :: ws') (h0 : rm.cells = 0 ∧ rm.slots = 0) (hn : (lg_sl As).length ≤ maxL) (hlo : lv_args 0 As = lvl 0 lo0)
    (body : ∀ X : Cx, Fx X (cc, maxL, y.cls, words, rm, l, G) → Rt X (cc, maxL, y.cls, words, rm, l, G) ret wc P → V X (cc, maxL, y.cls, words, rm, l, G) 0 0 0 lo0 [] wc) : Ct l G y words rm As wc P := by
  refine ⟨h0.1, h0.2, fun sz => ?_⟩
  refine Met.ofW (cc := cc) (maxL := maxL) (ret := ret) hy hw ?_
  intro p e s m args below meth c s₁ B hml hv
  obtain ⟨rfl, hsz, hP, ⟨hK, hN⟩, hD0⟩ := hv
  have hx := B.exec
  have hb := B.bytes
  have hr := B.returns
  have hts := atoms_spec (ws := words) B.pre
  have hown : s.vm.findClass y.cls = some m.cls := findClass_of_methodNamed B.named
  have hlocks := B.notSynchronized
  subst hsz
  have hD := hD0.self (sz := s.heap.size)
  generalize hAe : va_A wc s.heap.size = A at hD ⊢
  have hA : ∀ q : Nat, s.heap.size ≤ q → A q := fun q h => by rw [← hAe]; exact Or.inr h
  have hS : va_S A s.heap s.heap [] := va_S.rf
  have hl := lv_entry As (n := maxL) hn
  rw [lg_entry_eq]
  generalize (lg_sl As ++ List.replicate (maxL - (lg_sl As).length) Slot.unset).toArray = ls at hl ⊢
  rw [hlo] at hl
  exact body (p, e, s, m, As.toArray, below, meth, c, _, A) ⟨hx, hb, hml, hown, hts, hK, hN, hA⟩ ⟨hr, hlocks, rfl⟩ s.heap [] ls hl hP hD hS
section VR
variable {X : Cx} {Y : Sx} {k n pc q : Nat} {lo lo' : List (Option Value)} {st : List Value} {ws ws' : va_W}
theorem V.eq {pc' : Nat} {st' : List Value} (h1 : pc = pc') (h2 : lo = lo') (h3 : st = st') (h4 : ws = ws') (kk : V X Y k n pc' lo' st' ws') : V X Y k n pc lo st ws := by
  subst h1; subst h2; subst h3; subst h4; exact kk
theorem V.iload_n (F : Fx X Y) {j : Fin 4} {i : Nat} {x : Int32} (d : decode Y.1 pc = .ok (.iload_n j, 1)) (hq : pc + 1 = q) (hi : (j : Nat) = i) (hl : lo[i]? = some (some (.int x))) (kk : V X Y k n q lo (.int x :: st) ws) : V X Y k n pc lo st ws := by
  subst hq
  obtain ⟨p, e, s, m, args, below, meth, c, Q, A⟩ := X
  obtain ⟨cc, nL, own, Ts, R, l, G⟩ := Y
  obtain ⟨hx, hb, hml, hown, hts, hK, hN, hA⟩ := F
  intro H locs ls hls hP hD hS
  exact lv_iload_n hx hb d hi (lvl_at hls hl) (kk H locs ls hls hP hD hS)
theorem V.iload (F : Fx X Y) {i : Nat} {x : Int32} (d : decode Y.1 pc = .ok (.iload i, 2)) (hq : pc + 2 = q) (hl : lo[i]? = some (some (.int x))) (kk : V X Y k n q lo (.int x :: st) ws) : V X Y k n pc lo st ws := by
  subst hq
  obtain ⟨p, e, s, m, args, below, meth, c, Q, A⟩ := X
  obtain ⟨cc, nL, own, Ts, R, l, G⟩ := Y
  obtain ⟨hx, hb, hml, hown, hts, hK, hN, hA⟩ := F
  intro H locs ls hls hP hD hS
  exact lv_iload hx hb d (lvl_at hls hl) (kk H locs ls hls hP hD hS)
theorem V.aload_n (F : Fx X Y) {j : Fin 4} {i : Nat} {x : Nat} (d : decode Y.1 pc = .ok (.aload_n j, 1)) (hq : pc + 1 = q) (hi : (j : Nat) = i) (hl : lo[i]? = some (some (.ref x))) (kk : V X Y k n q lo (.ref x :: st) ws) : V X Y k n pc lo st ws := by
  subst hq
  obtain ⟨p, e, s, m, args, below, meth, c, Q, A⟩ := X
  obtain ⟨cc, nL, own, Ts, R, l, G⟩ := Y
  obtain ⟨hx, hb, hml, hown, hts, hK, hN, hA⟩ := F
  intro H locs ls hls hP hD hS
  exact lv_aload_n hx hb d hi (lvl_at hls hl) (kk H locs ls hls hP hD hS)
theorem V.aload (F : Fx X Y) {i : Nat} {x : Nat} (d : decode Y.1 pc = .ok (.aload i, 2)) (hq : pc + 2 = q) (hl : lo[i]? = some (some (.ref x))) (kk : V X Y k n q lo (.ref x :: st) ws) : V X Y k n pc lo st ws := by
  subst hq
  obtain ⟨p, e, s, m, args, below, meth, c, Q, A⟩ := X
  obtain ⟨cc, nL, own, Ts, R, l, G⟩ := Y
  obtain ⟨hx, hb, hml, hown, hts, hK, hN, hA⟩ := F
  intro H locs ls hls hP hD hS
  exact lv_aload hx hb d (lvl_at hls hl) (kk H locs ls hls hP hD hS)
theorem V.lload_n (F : Fx X Y) {j : Fin 4} {i : Nat} {x : Int64} (d : decode Y.1 pc = .ok (.lload_n j, 1)) (hq : pc + 1 = q) (hi : (j : Nat) = i) (hl : lo[i]? = some (some (.long x))) (kk : V X Y k n q lo (.long x :: st) ws) : V X Y k n pc lo st ws := by
  subst hq
  obtain ⟨p, e, s, m, args, below, meth, c, Q, A⟩ := X
  obtain ⟨cc, nL, own, Ts, R, l, G⟩ := Y
  obtain ⟨hx, hb, hml, hown, hts, hK, hN, hA⟩ := F
  intro H locs ls hls hP hD hS
  exact lv_lload_n hx hb d hi (lvl_at hls hl) (kk H locs ls hls hP hD hS)
theorem V.lload (F : Fx X Y) {i : Nat} {x : Int64} (d : decode Y.1 pc = .ok (.lload i, 2)) (hq : pc + 2 = q) (hl : lo[i]? = some (some (.long x))) (kk : V X Y k n q lo (.long x :: st) ws) : V X Y k n pc lo st ws := by
  subst hq
  obtain ⟨p, e, s, m, args, below, meth, c, Q, A⟩ := X
  obtain ⟨cc, nL, own, Ts, R, l, G⟩ := Y
  obtain ⟨hx, hb, hml, hown, hts, hK, hN, hA⟩ := F
  intro H locs ls hls hP hD hS
  exact lv_lload hx hb d (lvl_at hls hl) (kk H locs ls hls hP hD hS)
theorem V.istore_n (F : Fx X Y) {j : Fin 4} {i : Nat} {x : Int32} (d : decode Y.1 pc = .ok (.istore_n j, 1)) (hq : pc + 1 = q) (hi : (j : Nat) = i) (hn : i < Y.2.1) (ho : okst lo i = true) (hlo : lo.set i (some (.int x)) = lo') (kk : V X Y k n q lo' st ws) : V X Y k n pc lo (.int x :: st) ws := by
  subst hq
  obtain ⟨p, e, s, m, args, below, meth, c, Q, A⟩ := X
  obtain ⟨cc, nL, own, Ts, R, l, G⟩ := Y
  obtain ⟨hx, hb, hml, hown, hts, hK, hN, hA⟩ := F
  intro H locs ls hls hP hD hS
  subst hlo; exact lv_istore_n hx hb d hi hls hn rfl (fun ls hls => kk H locs ls (lvl_put ho hls) hP hD hS)
theorem V.astore_n (F : Fx X Y) {j : Fin 4} {i : Nat} {x : Nat} (d : decode Y.1 pc = .ok (.astore_n j, 1)) (hq : pc + 1 = q) (hi : (j : Nat) = i) (hn : i < Y.2.1) (ho : okst lo i = true) (hlo : lo.set i (some (.ref x)) = lo') (kk : V X Y k n q lo' st ws) : V X Y k n pc lo (.ref x :: st) ws := by
  subst hq
  obtain ⟨p, e, s, m, args, below, meth, c, Q, A⟩ := X
  obtain ⟨cc, nL, own, Ts, R, l, G⟩ := Y
  obtain ⟨hx, hb, hml, hown, hts, hK, hN, hA⟩ := F
  intro H locs ls hls hP hD hS
  subst hlo; exact lv_astore_n hx hb d hi hls hn rfl (fun ls hls => kk H locs ls (lvl_put ho hls) hP hD hS)
theorem V.istore (F : Fx X Y) {i : Nat} {x : Int32} (d : decode Y.1 pc = .ok (.istore i, 2)) (hq : pc + 2 = q) (hn : i < Y.2.1) (ho : okst lo i = true) (hlo : lo.set i (some (.int x)) = lo') (kk : V X Y k n q lo' st ws) : V X Y k n pc lo (.int x :: st) ws := by
  subst hq
  obtain ⟨p, e, s, m, args, below, meth, c, Q, A⟩ := X
  obtain ⟨cc, nL, own, Ts, R, l, G⟩ := Y
  obtain ⟨hx, hb, hml, hown, hts, hK, hN, hA⟩ := F
  intro H locs ls hls hP hD hS
  subst hlo; exact lv_istore hx hb d hls hn rfl (fun ls hls => kk H locs ls (lvl_put ho hls) hP hD hS)
theorem V.lstore (F : Fx X Y) {i : Nat} {x : Int64} (d : decode Y.1 pc = .ok (.lstore i, 2)) (hq : pc + 2 = q) (hn : i + 1 < Y.2.1) (ho : okst lo i = true) (hlo : (lo.set i (some (.long x))).set (i + 1) none = lo') (kk : V X Y k n q lo' st ws) : V X Y k n pc lo (.long x :: st) ws := by
  subst hq
  obtain ⟨p, e, s, m, args, below, meth, c, Q, A⟩ := X
  obtain ⟨cc, nL, own, Ts, R, l, G⟩ := Y
  obtain ⟨hx, hb, hml, hown, hts, hK, hN, hA⟩ := F
  intro H locs ls hls hP hD hS
  subst hlo; exact lv_lstore hx hb d hls hn rfl (fun ls hls => kk H locs ls (lvl_put2 ho hls) hP hD hS)
theorem lvl_place {lo : List (Option Value)} {i : Nat} {v : Value} (h : lo[i]? = some (some v)) : ∃ j : Nat, (lvl 0 lo)[j]? = some (i, v) :=
  List.getElem?_of_mem ((lvl_mem lo 0 (i, v)).mpr ⟨i, h, (Nat.zero_add i).symm⟩)
theorem V.iinc (F : Fx X Y) {i : Nat} {z a : Int} (d : decode Y.1 pc = .ok (.iinc i z, 3)) (hq : pc + 3 = q) (hl : lo[i]? = some (some (.int (zI a)))) (hn : i < Y.2.1) (ho : okst lo i = true) (hlo : lo.set i (some (.int (zI (a + z)))) = lo') (kk : V X Y k n q lo' st ws) : V X Y k n pc lo st ws := by
  subst hq
  obtain ⟨p, e, s, m, args, below, meth, c, Q, A⟩ := X
  obtain ⟨cc, nL, own, Ts, R, l, G⟩ := Y
  obtain ⟨hx, hb, hml, hown, hts, hK, hN, hA⟩ := F
  intro H locs ls hls hP hD hS
  subst hlo; obtain ⟨j, hj⟩ := lvl_place hl; exact lv_iinc hx hb d hls hj (zI_add a z) hn rfl (fun ls hls => kk H locs ls (lvl_put ho hls) hP hD hS)
theorem V.iconst (F : Fx X Y) {z : Int} (d : decode Y.1 pc = .ok (.iconst z, 1)) (hq : pc + 1 = q) (kk : V X Y k n q lo (.int (zI z) :: st) ws) : V X Y k n pc lo st ws := by
  subst hq
  obtain ⟨p, e, s, m, args, below, meth, c, Q, A⟩ := X
  obtain ⟨cc, nL, own, Ts, R, l, G⟩ := Y
  obtain ⟨hx, hb, hml, hown, hts, hK, hN, hA⟩ := F
  intro H locs ls hls hP hD hS
  exact lv_iconst hx hb d rfl (kk H locs ls hls hP hD hS)
theorem V.bipush (F : Fx X Y) {z : Int} (d : decode Y.1 pc = .ok (.bipush z, 2)) (hq : pc + 2 = q) (hz : -128 ≤ z ∧ z ≤ 127) (kk : V X Y k n q lo (.int (zI z) :: st) ws) : V X Y k n pc lo st ws := by
  subst hq
  obtain ⟨p, e, s, m, args, below, meth, c, Q, A⟩ := X
  obtain ⟨cc, nL, own, Ts, R, l, G⟩ := Y
  obtain ⟨hx, hb, hml, hown, hts, hK, hN, hA⟩ := F
  intro H locs ls hls hP hD hS
  exact lv_bipush hx hb d (Int8.toInt32_ofInt hz.1 hz.2) (kk H locs ls hls hP hD hS)
theorem V.sipush (F : Fx X Y) {z : Int} (d : decode Y.1 pc = .ok (.sipush z, 3)) (hq : pc + 3 = q) (hz : -32768 ≤ z ∧ z ≤ 32767) (kk : V X Y k n q lo (.int (zI z) :: st) ws) : V X Y k n pc lo st ws := by
  subst hq
  obtain ⟨p, e, s, m, args, below, meth, c, Q, A⟩ := X
  obtain ⟨cc, nL, own, Ts, R, l, G⟩ := Y
  obtain ⟨hx, hb, hml, hown, hts, hK, hN, hA⟩ := F
  intro H locs ls hls hP hD hS
  exact lv_sipush hx hb d (Int16.toInt32_ofInt hz.1 hz.2) (kk H locs ls hls hP hD hS)
theorem V.ldc (F : Fx X Y) {idx : Nat} {v : Int32} {z : Int} (d : decode Y.1 pc = .ok (.ldc idx, 2)) (hq : pc + 2 = q) (hw : Cond.constant Y.2.2.1 idx v ∈ Y.2.2.2.1) (hz : v = zI z) (kk : V X Y k n q lo (.int (zI z) :: st) ws) : V X Y k n pc lo st ws := by
  subst hq
  obtain ⟨p, e, s, m, args, below, meth, c, Q, A⟩ := X
  obtain ⟨cc, nL, own, Ts, R, l, G⟩ := Y
  obtain ⟨hx, hb, hml, hown, hts, hK, hN, hA⟩ := F
  intro H locs ls hls hP hD hS
  subst hz; exact lv_ldc hx hb hown (hts _ hw) d (kk H locs ls hls hP hD hS)
theorem V.ldc2 (F : Fx X Y) {idx : Nat} {v : Int64} {z : Int} (d : decode Y.1 pc = .ok (.ldc2_w idx, 3)) (hq : pc + 3 = q) (hw : Cond.constantLong Y.2.2.1 idx v ∈ Y.2.2.2.1) (hz : v = zL z) (kk : V X Y k n q lo (.long (zL z) :: st) ws) : V X Y k n pc lo st ws := by
  subst hq
  obtain ⟨p, e, s, m, args, below, meth, c, Q, A⟩ := X
  obtain ⟨cc, nL, own, Ts, R, l, G⟩ := Y
  obtain ⟨hx, hb, hml, hown, hts, hK, hN, hA⟩ := F
  intro H locs ls hls hP hD hS
  subst hz; exact lv_ldc2 hx hb hown (hts _ hw) d (kk H locs ls hls hP hD hS)
theorem V.lconst (F : Fx X Y) {j : Fin 2} {z : Int} (d : decode Y.1 pc = .ok (.lconst j, 1)) (hq : pc + 1 = q) (hz : Int64.ofNat (j : Nat) = zL z) (kk : V X Y k n q lo (.long (zL z) :: st) ws) : V X Y k n pc lo st ws := by
  subst hq
  obtain ⟨p, e, s, m, args, below, meth, c, Q, A⟩ := X
  obtain ⟨cc, nL, own, Ts, R, l, G⟩ := Y
  obtain ⟨hx, hb, hml, hown, hts, hK, hN, hA⟩ := F
  intro H locs ls hls hP hD hS
  exact lv_lconst hx hb d hz (kk H locs ls hls hP hD hS)
theorem V.iadd (F : Fx X Y) {a b : Int} (d : decode Y.1 pc = .ok (.iadd, 1)) (hq : pc + 1 = q) (kk : V X Y k n q lo (.int (zI (a + b)) :: st) ws) : V X Y k n pc lo (.int (zI b) :: .int (zI a) :: st) ws := by
  subst hq
  obtain ⟨p, e, s, m, args, below, meth, c, Q, A⟩ := X
  obtain ⟨cc, nL, own, Ts, R, l, G⟩ := Y
  obtain ⟨hx, hb, hml, hown, hts, hK, hN, hA⟩ := F
  intro H locs ls hls hP hD hS
  refine lv_iadd hx hb d ?_; rw [zI_add]; exact kk H locs ls hls hP hD hS
theorem V.isub (F : Fx X Y) {a b : Int} (d : decode Y.1 pc = .ok (.isub, 1)) (hq : pc + 1 = q) (kk : V X Y k n q lo (.int (zI (a - b)) :: st) ws) : V X Y k n pc lo (.int (zI b) :: .int (zI a) :: st) ws := by
  subst hq
  obtain ⟨p, e, s, m, args, below, meth, c, Q, A⟩ := X
  obtain ⟨cc, nL, own, Ts, R, l, G⟩ := Y
  obtain ⟨hx, hb, hml, hown, hts, hK, hN, hA⟩ := F
  intro H locs ls hls hP hD hS
  refine lv_isub hx hb d ?_; rw [zI_sub]; exact kk H locs ls hls hP hD hS
theorem V.imul (F : Fx X Y) {a b : Int} (d : decode Y.1 pc = .ok (.imul, 1)) (hq : pc + 1 = q) (kk : V X Y k n q lo (.int (zI (a * b)) :: st) ws) : V X Y k n pc lo (.int (zI b) :: .int (zI a) :: st) ws := by
  subst hq
  obtain ⟨p, e, s, m, args, below, meth, c, Q, A⟩ := X
  obtain ⟨cc, nL, own, Ts, R, l, G⟩ := Y
  obtain ⟨hx, hb, hml, hown, hts, hK, hN, hA⟩ := F
  intro H locs ls hls hP hD hS
  refine lv_imul hx hb d ?_; rw [zI_mul]; exact kk H locs ls hls hP hD hS
theorem V.ineg (F : Fx X Y) {a : Int} (d : decode Y.1 pc = .ok (.ineg, 1)) (hq : pc + 1 = q) (kk : V X Y k n q lo (.int (zI (-a)) :: st) ws) : V X Y k n pc lo (.int (zI a) :: st) ws := by
  subst hq
  obtain ⟨p, e, s, m, args, below, meth, c, Q, A⟩ := X
  obtain ⟨cc, nL, own, Ts, R, l, G⟩ := Y
  obtain ⟨hx, hb, hml, hown, hts, hK, hN, hA⟩ := F
  intro H locs ls hls hP hD hS
  refine lv_ineg hx hb d ?_; rw [zI_neg]; exact kk H locs ls hls hP hD hS
theorem V.idiv (F : Fx X Y) {a b : Int} (d : decode Y.1 pc = .ok (.idiv, 1)) (hq : pc + 1 = q) (rg : (0 ≤ a ∧ a < 2147483648) ∧ (0 < b ∧ b < 2147483648)) (kk : V X Y k n q lo (.int (zI (a / b)) :: st) ws) : V X Y k n pc lo (.int (zI b) :: .int (zI a) :: st) ws := by
  subst hq
  obtain ⟨p, e, s, m, args, below, meth, c, Q, A⟩ := X
  obtain ⟨cc, nL, own, Ts, R, l, G⟩ := Y
  obtain ⟨hx, hb, hml, hown, hts, hK, hN, hA⟩ := F
  intro H locs ls hls hP hD hS
  refine lv_idiv hx hb d (zI_ne0 ⟨by omega, by omega, by omega⟩) ?_; rw [zI_div rg.1 rg.2]; exact kk H locs ls hls hP hD hS
theorem V.irem (F : Fx X Y) {a b : Int} (d : decode Y.1 pc = .ok (.irem, 1)) (hq : pc + 1 = q) (rg : (0 ≤ a ∧ a < 2147483648) ∧ (0 < b ∧ b < 2147483648)) (kk : V X Y k n q lo (.int (zI (a % b)) :: st) ws) : V X Y k n pc lo (.int (zI b) :: .int (zI a) :: st) ws := by
  subst hq
  obtain ⟨p, e, s, m, args, below, meth, c, Q, A⟩ := X
  obtain ⟨cc, nL, own, Ts, R, l, G⟩ := Y
  obtain ⟨hx, hb, hml, hown, hts, hK, hN, hA⟩ := F
  intro H locs ls hls hP hD hS
  refine lv_irem hx hb d (zI_ne0 ⟨by omega, by omega, by omega⟩) ?_; rw [zI_rem rg.1 rg.2]; exact kk H locs ls hls hP hD hS
theorem V.iremR (F : Fx X Y) {x y : Int32} (d : decode Y.1 pc = .ok (.irem, 1)) (hq : pc + 1 = q) (hy : ¬ y = 0) (kk : V X Y k n q lo (.int (x - x / y * y) :: st) ws) : V X Y k n pc lo (.int y :: .int x :: st) ws := by
  subst hq
  obtain ⟨p, e, s, m, args, below, meth, c, Q, A⟩ := X
  obtain ⟨cc, nL, own, Ts, R, l, G⟩ := Y
  obtain ⟨hx, hb, hml, hown, hts, hK, hN, hA⟩ := F
  intro H locs ls hls hP hD hS
  exact lv_irem hx hb d hy (kk H locs ls hls hP hD hS)
theorem V.ixorR (F : Fx X Y) {x y : Int32} (d : decode Y.1 pc = .ok (.ixor, 1)) (hq : pc + 1 = q) (kk : V X Y k n q lo (.int (x ^^^ y) :: st) ws) : V X Y k n pc lo (.int y :: .int x :: st) ws := by
  subst hq
  obtain ⟨p, e, s, m, args, below, meth, c, Q, A⟩ := X
  obtain ⟨cc, nL, own, Ts, R, l, G⟩ := Y
  obtain ⟨hx, hb, hml, hown, hts, hK, hN, hA⟩ := F
  intro H locs ls hls hP hD hS
  exact lv_ixor hx hb d (kk H locs ls hls hP hD hS)
theorem V.iandR (F : Fx X Y) {x y : Int32} (d : decode Y.1 pc = .ok (.iand, 1)) (hq : pc + 1 = q) (kk : V X Y k n q lo (.int (x &&& y) :: st) ws) : V X Y k n pc lo (.int y :: .int x :: st) ws := by
  subst hq
  obtain ⟨p, e, s, m, args, below, meth, c, Q, A⟩ := X
  obtain ⟨cc, nL, own, Ts, R, l, G⟩ := Y
  obtain ⟨hx, hb, hml, hown, hts, hK, hN, hA⟩ := F
  intro H locs ls hls hP hD hS
  exact lv_iand hx hb d (kk H locs ls hls hP hD hS)
theorem V.i2l (F : Fx X Y) {a : Int} (d : decode Y.1 pc = .ok (.i2l, 1)) (hq : pc + 1 = q) (rg : -2147483648 ≤ a ∧ a < 2147483648) (kk : V X Y k n q lo (.long (zL a) :: st) ws) : V X Y k n pc lo (.int (zI a) :: st) ws := by
  subst hq
  obtain ⟨p, e, s, m, args, below, meth, c, Q, A⟩ := X
  obtain ⟨cc, nL, own, Ts, R, l, G⟩ := Y
  obtain ⟨hx, hb, hml, hown, hts, hK, hN, hA⟩ := F
  intro H locs ls hls hP hD hS
  exact lv_i2l hx hb d (zI_l rg.1 rg.2) (kk H locs ls hls hP hD hS)
theorem V.l2i (F : Fx X Y) {a : Int} (d : decode Y.1 pc = .ok (.l2i, 1)) (hq : pc + 1 = q) (kk : V X Y k n q lo (.int (zI a) :: st) ws) : V X Y k n pc lo (.long (zL a) :: st) ws := by
  subst hq
  obtain ⟨p, e, s, m, args, below, meth, c, Q, A⟩ := X
  obtain ⟨cc, nL, own, Ts, R, l, G⟩ := Y
  obtain ⟨hx, hb, hml, hown, hts, hK, hN, hA⟩ := F
  intro H locs ls hls hP hD hS
  exact lv_l2i hx hb d (zL_i a) (kk H locs ls hls hP hD hS)
theorem V.i2cR (F : Fx X Y) {x v : Int32} (d : decode Y.1 pc = .ok (.i2c, 1)) (hq : pc + 1 = q) (hv : (x.toUInt32 % 65536).toInt32 = v) (kk : V X Y k n q lo (.int v :: st) ws) : V X Y k n pc lo (.int x :: st) ws := by
  subst hq
  obtain ⟨p, e, s, m, args, below, meth, c, Q, A⟩ := X
  obtain ⟨cc, nL, own, Ts, R, l, G⟩ := Y
  obtain ⟨hx, hb, hml, hown, hts, hK, hN, hA⟩ := F
  intro H locs ls hls hP hD hS
  exact lv_i2c hx hb d hv (kk H locs ls hls hP hD hS)
theorem V.ladd (F : Fx X Y) {a b : Int} (d : decode Y.1 pc = .ok (.ladd, 1)) (hq : pc + 1 = q) (kk : V X Y k n q lo (.long (zL (a + b)) :: st) ws) : V X Y k n pc lo (.long (zL b) :: .long (zL a) :: st) ws := by
  subst hq
  obtain ⟨p, e, s, m, args, below, meth, c, Q, A⟩ := X
  obtain ⟨cc, nL, own, Ts, R, l, G⟩ := Y
  obtain ⟨hx, hb, hml, hown, hts, hK, hN, hA⟩ := F
  intro H locs ls hls hP hD hS
  refine lv_ladd hx hb d ?_; rw [zL_add]; exact kk H locs ls hls hP hD hS
theorem V.lshrR (F : Fx X Y) {x v : Int64} {y : Int32} (d : decode Y.1 pc = .ok (.lshr, 1)) (hq : pc + 1 = q) (hv : x >>> (y.toInt64 &&& 63) = v) (kk : V X Y k n q lo (.long v :: st) ws) : V X Y k n pc lo (.int y :: .long x :: st) ws := by
  subst hq
  obtain ⟨p, e, s, m, args, below, meth, c, Q, A⟩ := X
  obtain ⟨cc, nL, own, Ts, R, l, G⟩ := Y
  obtain ⟨hx, hb, hml, hown, hts, hK, hN, hA⟩ := F
  intro H locs ls hls hP hD hS
  exact lv_lshr hx hb d hv (kk H locs ls hls hP hD hS)
theorem V.lshlR (F : Fx X Y) {x v : Int64} {y : Int32} (d : decode Y.1 pc = .ok (.lshl, 1)) (hq : pc + 1 = q) (hv : x <<< (y.toInt64 &&& 63) = v) (kk : V X Y k n q lo (.long v :: st) ws) : V X Y k n pc lo (.int y :: .long x :: st) ws := by
  subst hq
  obtain ⟨p, e, s, m, args, below, meth, c, Q, A⟩ := X
  obtain ⟨cc, nL, own, Ts, R, l, G⟩ := Y
  obtain ⟨hx, hb, hml, hown, hts, hK, hN, hA⟩ := F
  intro H locs ls hls hP hD hS
  exact lv_lshl hx hb d hv (kk H locs ls hls hP hD hS)
theorem V.landR (F : Fx X Y) {x y v : Int64} (d : decode Y.1 pc = .ok (.land, 1)) (hq : pc + 1 = q) (hv : x &&& y = v) (kk : V X Y k n q lo (.long v :: st) ws) : V X Y k n pc lo (.long y :: .long x :: st) ws := by
  subst hq
  obtain ⟨p, e, s, m, args, below, meth, c, Q, A⟩ := X
  obtain ⟨cc, nL, own, Ts, R, l, G⟩ := Y
  obtain ⟨hx, hb, hml, hown, hts, hK, hN, hA⟩ := F
  intro H locs ls hls hP hD hS
  subst hv; exact lv_land hx hb d (kk H locs ls hls hP hD hS)
theorem V.lcmp (F : Fx X Y) {a b : Int} (d : decode Y.1 pc = .ok (.lcmp, 1)) (hq : pc + 1 = q) (rg : -9223372036854775808 ≤ a ∧ a < 9223372036854775808 ∧ -9223372036854775808 ≤ b ∧ b < 9223372036854775808) (kk : ∀ c : Int, -1 ≤ c → c ≤ 1 → (c < 0 ↔ a < b) → (0 < c ↔ b < a) → V X Y k n q lo (.int (zI c) :: st) ws) : V X Y k n pc lo (.long (zL b) :: .long (zL a) :: st) ws := by
  subst hq
  obtain ⟨p, e, s, m, args, below, meth, c, Q, A⟩ := X
  obtain ⟨cc, nL, own, Ts, R, l, G⟩ := Y
  obtain ⟨hx, hb, hml, hown, hts, hK, hN, hA⟩ := F
  intro H locs ls hls hP hD hS
  refine W.lcmp hx hb d ?_
  have e1 : zL b < zL a ↔ b < a := by rw [Int64.lt_iff_toInt_lt, zL_toInt rg.1 rg.2.1, zL_toInt rg.2.2.1 rg.2.2.2]
  have e2 : zL a = zL b ↔ a = b := by rw [← Int64.toInt_inj, zL_toInt rg.1 rg.2.1, zL_toInt rg.2.2.1 rg.2.2.2]
  have e3 : zL a < zL b ↔ a < b := by rw [Int64.lt_iff_toInt_lt, zL_toInt rg.1 rg.2.1, zL_toInt rg.2.2.1 rg.2.2.2]
  by_cases h1 : b < a
  · have e : lg_cmp (zL a) (zL b) = zI 1 := by simp only [lg_cmp, e1, h1, if_true]; first | rfl | decide
    rw [e]; exact kk 1 (by omega) (by omega) (by omega) (by omega) H locs ls hls hP hD hS
  · by_cases h2 : a = b
    · have e : lg_cmp (zL a) (zL b) = zI 0 := by subst h2; unfold lg_cmp; rw [if_neg (by first | exact fun z => absurd (e1.mp z) (Int.lt_irrefl _) | exact fun z => absurd (e3.mp z) (Int.lt_irrefl _))]; first | (rw [if_pos rfl]; exact zI_0.symm) | (rw [if_neg (by first | exact fun z => absurd (e1.mp z) (Int.lt_irrefl _) | exact fun z => absurd (e3.mp z) (Int.lt_irrefl _))]; exact zI_0.symm)
      rw [e]; exact kk 0 (by omega) (by omega) (by omega) (by omega) H locs ls hls hP hD hS
    · have e : lg_cmp (zL a) (zL b) = zI (-1) := by simp only [lg_cmp, e1, e2, h1, h2, if_true, if_false]; first | rfl | (show (0 : Int32) = zI 0; exact zI_0.symm) | (show (-1 : Int32) = zI (-1); decide +kernel) | decide +kernel
      rw [e]; exact kk (-1) (by omega) (by omega) (by omega) (by omega) H locs ls hls hP hD hS
theorem V.icmp_eq (F : Fx X Y) {a b : Int} {off : Int} {tgt : Nat} (d : decode Y.1 pc = .ok (.if_icmp .eq off, 3)) (hq : pc + 3 = q) (ht : (pc : Int) + off = (tgt : Int)) (rg : -2147483648 ≤ a ∧ a < 2147483648 ∧ -2147483648 ≤ b ∧ b < 2147483648) (kt : a = b → V X Y k n tgt lo st ws) (kf : a ≠ b → V X Y k n q lo st ws) : V X Y k n pc lo (.int (zI b) :: .int (zI a) :: st) ws := by
  subst hq
  obtain ⟨p, e, s, m, args, below, meth, c, Q, A⟩ := X
  obtain ⟨cc, nL, own, Ts, R, l, G⟩ := Y
  obtain ⟨hx, hb, hml, hown, hts, hK, hN, hA⟩ := F
  intro H locs ls hls hP hD hS
  exact lv_icmp_eq hx hb d ht (fun h => kt ((zI_eq rg).mp h) H locs ls hls hP hD hS) (fun h => kf (fun e => h ((zI_eq rg).mpr e)) H locs ls hls hP hD hS)
theorem V.icmp_ne (F : Fx X Y) {a b : Int} {off : Int} {tgt : Nat} (d : decode Y.1 pc = .ok (.if_icmp .ne off, 3)) (hq : pc + 3 = q) (ht : (pc : Int) + off = (tgt : Int)) (rg : -2147483648 ≤ a ∧ a < 2147483648 ∧ -2147483648 ≤ b ∧ b < 2147483648) (kt : a ≠ b → V X Y k n tgt lo st ws) (kf : a = b → V X Y k n q lo st ws) : V X Y k n pc lo (.int (zI b) :: .int (zI a) :: st) ws := by
  subst hq
  obtain ⟨p, e, s, m, args, below, meth, c, Q, A⟩ := X
  obtain ⟨cc, nL, own, Ts, R, l, G⟩ := Y
  obtain ⟨hx, hb, hml, hown, hts, hK, hN, hA⟩ := F
  intro H locs ls hls hP hD hS
  exact lv_icmp_ne hx hb d ht (fun h => kt (fun e => h ((zI_eq rg).mpr e)) H locs ls hls hP hD hS) (fun h => kf ((zI_eq rg).mp (h)) H locs ls hls hP hD hS)
theorem V.icmp_lt (F : Fx X Y) {a b : Int} {off : Int} {tgt : Nat} (d : decode Y.1 pc = .ok (.if_icmp .lt off, 3)) (hq : pc + 3 = q) (ht : (pc : Int) + off = (tgt : Int)) (rg : -2147483648 ≤ a ∧ a < 2147483648 ∧ -2147483648 ≤ b ∧ b < 2147483648) (kt : a < b → V X Y k n tgt lo st ws) (kf : b ≤ a → V X Y k n q lo st ws) : V X Y k n pc lo (.int (zI b) :: .int (zI a) :: st) ws := by
  subst hq
  obtain ⟨p, e, s, m, args, below, meth, c, Q, A⟩ := X
  obtain ⟨cc, nL, own, Ts, R, l, G⟩ := Y
  obtain ⟨hx, hb, hml, hown, hts, hK, hN, hA⟩ := F
  intro H locs ls hls hP hD hS
  exact lv_icmp_lt hx hb d ht (fun h => kt ((zI_lt rg).mp h) H locs ls hls hP hD hS) (fun h => kf (Int.not_lt.mp (fun e => h ((zI_lt rg).mpr e))) H locs ls hls hP hD hS)
theorem V.icmp_ge (F : Fx X Y) {a b : Int} {off : Int} {tgt : Nat} (d : decode Y.1 pc = .ok (.if_icmp .ge off, 3)) (hq : pc + 3 = q) (ht : (pc : Int) + off = (tgt : Int)) (rg : -2147483648 ≤ a ∧ a < 2147483648 ∧ -2147483648 ≤ b ∧ b < 2147483648) (kt : b ≤ a → V X Y k n tgt lo st ws) (kf : a < b → V X Y k n q lo st ws) : V X Y k n pc lo (.int (zI b) :: .int (zI a) :: st) ws := by
  subst hq
  obtain ⟨p, e, s, m, args, below, meth, c, Q, A⟩ := X
  obtain ⟨cc, nL, own, Ts, R, l, G⟩ := Y
  obtain ⟨hx, hb, hml, hown, hts, hK, hN, hA⟩ := F
  intro H locs ls hls hP hD hS
  exact lv_icmp_ge hx hb d ht (fun h => kt ((zI_le ⟨rg.2.2.1, rg.2.2.2, rg.1, rg.2.1⟩).mp h) H locs ls hls hP hD hS) (fun h => kf (Int.not_le.mp (fun e => h ((zI_le ⟨rg.2.2.1, rg.2.2.2, rg.1, rg.2.1⟩).mpr e))) H locs ls hls hP hD hS)
theorem V.icmp_gt (F : Fx X Y) {a b : Int} {off : Int} {tgt : Nat} (d : decode Y.1 pc = .ok (.if_icmp .gt off, 3)) (hq : pc + 3 = q) (ht : (pc : Int) + off = (tgt : Int)) (rg : -2147483648 ≤ a ∧ a < 2147483648 ∧ -2147483648 ≤ b ∧ b < 2147483648) (kt : b < a → V X Y k n tgt lo st ws) (kf : a ≤ b → V X Y k n q lo st ws) : V X Y k n pc lo (.int (zI b) :: .int (zI a) :: st) ws := by
  subst hq
  obtain ⟨p, e, s, m, args, below, meth, c, Q, A⟩ := X
  obtain ⟨cc, nL, own, Ts, R, l, G⟩ := Y
  obtain ⟨hx, hb, hml, hown, hts, hK, hN, hA⟩ := F
  intro H locs ls hls hP hD hS
  exact lv_icmp_gt hx hb d ht (fun h => kt ((zI_lt ⟨rg.2.2.1, rg.2.2.2, rg.1, rg.2.1⟩).mp h) H locs ls hls hP hD hS) (fun h => kf (Int.not_lt.mp (fun e => h ((zI_lt ⟨rg.2.2.1, rg.2.2.2, rg.1, rg.2.1⟩).mpr e))) H locs ls hls hP hD hS)
theorem V.icmp_le (F : Fx X Y) {a b : Int} {off : Int} {tgt : Nat} (d : decode Y.1 pc = .ok (.if_icmp .le off, 3)) (hq : pc + 3 = q) (ht : (pc : Int) + off = (tgt : Int)) (rg : -2147483648 ≤ a ∧ a < 2147483648 ∧ -2147483648 ≤ b ∧ b < 2147483648) (kt : a ≤ b → V X Y k n tgt lo st ws) (kf : b < a → V X Y k n q lo st ws) : V X Y k n pc lo (.int (zI b) :: .int (zI a) :: st) ws := by
  subst hq
  obtain ⟨p, e, s, m, args, below, meth, c, Q, A⟩ := X
  obtain ⟨cc, nL, own, Ts, R, l, G⟩ := Y
  obtain ⟨hx, hb, hml, hown, hts, hK, hN, hA⟩ := F
  intro H locs ls hls hP hD hS
  exact lv_icmp_le hx hb d ht (fun h => kt ((zI_le rg).mp h) H locs ls hls hP hD hS) (fun h => kf (Int.not_le.mp (fun e => h ((zI_le rg).mpr e))) H locs ls hls hP hD hS)
theorem V.if_eq (F : Fx X Y) {a : Int} {off : Int} {tgt : Nat} (d : decode Y.1 pc = .ok (.ifCond .eq off, 3)) (hq : pc + 3 = q) (ht : (pc : Int) + off = (tgt : Int)) (rg : -2147483648 ≤ a ∧ a < 2147483648) (kt : a = 0 → V X Y k n tgt lo st ws) (kf : a ≠ 0 → V X Y k n q lo st ws) : V X Y k n pc lo (.int (zI a) :: st) ws := by
  subst hq
  obtain ⟨p, e, s, m, args, below, meth, c, Q, A⟩ := X
  obtain ⟨cc, nL, own, Ts, R, l, G⟩ := Y
  obtain ⟨hx, hb, hml, hown, hts, hK, hN, hA⟩ := F
  intro H locs ls hls hP hD hS
  exact lv_if_eq hx hb d ht (fun h => kt ((zI_eq (a := a) (b := 0) ⟨rg.1, rg.2, by omega, by omega⟩).mp (by rw [zI_0]; exact h)) H locs ls hls hP hD hS) (fun h => kf (fun e => h (by rw [← zI_0]; exact (zI_eq (a := a) (b := 0) ⟨rg.1, rg.2, by omega, by omega⟩).mpr e)) H locs ls hls hP hD hS)
theorem V.if_ne (F : Fx X Y) {a : Int} {off : Int} {tgt : Nat} (d : decode Y.1 pc = .ok (.ifCond .ne off, 3)) (hq : pc + 3 = q) (ht : (pc : Int) + off = (tgt : Int)) (rg : -2147483648 ≤ a ∧ a < 2147483648) (kt : a ≠ 0 → V X Y k n tgt lo st ws) (kf : a = 0 → V X Y k n q lo st ws) : V X Y k n pc lo (.int (zI a) :: st) ws := by
  subst hq
  obtain ⟨p, e, s, m, args, below, meth, c, Q, A⟩ := X
  obtain ⟨cc, nL, own, Ts, R, l, G⟩ := Y
  obtain ⟨hx, hb, hml, hown, hts, hK, hN, hA⟩ := F
  intro H locs ls hls hP hD hS
  exact lv_if_ne hx hb d ht (fun h => kt (fun e => h (by rw [← zI_0]; exact (zI_eq (a := a) (b := 0) ⟨rg.1, rg.2, by omega, by omega⟩).mpr e)) H locs ls hls hP hD hS) (fun h => kf ((zI_eq (a := a) (b := 0) ⟨rg.1, rg.2, by omega, by omega⟩).mp (by rw [zI_0]; exact h)) H locs ls hls hP hD hS)
theorem V.if_lt (F : Fx X Y) {a : Int} {off : Int} {tgt : Nat} (d : decode Y.1 pc = .ok (.ifCond .lt off, 3)) (hq : pc + 3 = q) (ht : (pc : Int) + off = (tgt : Int)) (rg : -2147483648 ≤ a ∧ a < 2147483648) (kt : a < 0 → V X Y k n tgt lo st ws) (kf : 0 ≤ a → V X Y k n q lo st ws) : V X Y k n pc lo (.int (zI a) :: st) ws := by
  subst hq
  obtain ⟨p, e, s, m, args, below, meth, c, Q, A⟩ := X
  obtain ⟨cc, nL, own, Ts, R, l, G⟩ := Y
  obtain ⟨hx, hb, hml, hown, hts, hK, hN, hA⟩ := F
  intro H locs ls hls hP hD hS
  exact lv_if_lt hx hb d ht (fun h => kt ((zI_lt (a := a) (b := 0) ⟨rg.1, rg.2, by omega, by omega⟩).mp (by rw [zI_0]; exact h)) H locs ls hls hP hD hS) (fun h => kf (Int.not_lt.mp (fun e => h (by rw [← zI_0]; exact (zI_lt (a := a) (b := 0) ⟨rg.1, rg.2, by omega, by omega⟩).mpr e))) H locs ls hls hP hD hS)
theorem V.if_ge (F : Fx X Y) {a : Int} {off : Int} {tgt : Nat} (d : decode Y.1 pc = .ok (.ifCond .ge off, 3)) (hq : pc + 3 = q) (ht : (pc : Int) + off = (tgt : Int)) (rg : -2147483648 ≤ a ∧ a < 2147483648) (kt : 0 ≤ a → V X Y k n tgt lo st ws) (kf : a < 0 → V X Y k n q lo st ws) : V X Y k n pc lo (.int (zI a) :: st) ws := by
  subst hq
  obtain ⟨p, e, s, m, args, below, meth, c, Q, A⟩ := X
  obtain ⟨cc, nL, own, Ts, R, l, G⟩ := Y
  obtain ⟨hx, hb, hml, hown, hts, hK, hN, hA⟩ := F
  intro H locs ls hls hP hD hS
  exact lv_if_ge hx hb d ht (fun h => kt ((zI_le (a := 0) (b := a) ⟨by omega, by omega, rg.1, rg.2⟩).mp (by rw [zI_0]; exact h)) H locs ls hls hP hD hS) (fun h => kf (Int.not_le.mp (fun e => h (by rw [← zI_0]; exact (zI_le (a := 0) (b := a) ⟨by omega, by omega, rg.1, rg.2⟩).mpr e))) H locs ls hls hP hD hS)
theorem V.if_gt (F : Fx X Y) {a : Int} {off : Int} {tgt : Nat} (d : decode Y.1 pc = .ok (.ifCond .gt off, 3)) (hq : pc + 3 = q) (ht : (pc : Int) + off = (tgt : Int)) (rg : -2147483648 ≤ a ∧ a < 2147483648) (kt : 0 < a → V X Y k n tgt lo st ws) (kf : a ≤ 0 → V X Y k n q lo st ws) : V X Y k n pc lo (.int (zI a) :: st) ws := by
  subst hq
  obtain ⟨p, e, s, m, args, below, meth, c, Q, A⟩ := X
  obtain ⟨cc, nL, own, Ts, R, l, G⟩ := Y
  obtain ⟨hx, hb, hml, hown, hts, hK, hN, hA⟩ := F
  intro H locs ls hls hP hD hS
  exact lv_if_gt hx hb d ht (fun h => kt ((zI_lt (a := 0) (b := a) ⟨by omega, by omega, rg.1, rg.2⟩).mp (by rw [zI_0]; exact h)) H locs ls hls hP hD hS) (fun h => kf (Int.not_lt.mp (fun e => h (by rw [← zI_0]; exact (zI_lt (a := 0) (b := a) ⟨by omega, by omega, rg.1, rg.2⟩).mpr e))) H locs ls hls hP hD hS)
theorem V.if_le (F : Fx X Y) {a : Int} {off : Int} {tgt : Nat} (d : decode Y.1 pc = .ok (.ifCond .le off, 3)) (hq : pc + 3 = q) (ht : (pc : Int) + off = (tgt : Int)) (rg : -2147483648 ≤ a ∧ a < 2147483648) (kt : a ≤ 0 → V X Y k n tgt lo st ws) (kf : 0 < a → V X Y k n q lo st ws) : V X Y k n pc lo (.int (zI a) :: st) ws := by
  subst hq
  obtain ⟨p, e, s, m, args, below, meth, c, Q, A⟩ := X
  obtain ⟨cc, nL, own, Ts, R, l, G⟩ := Y
  obtain ⟨hx, hb, hml, hown, hts, hK, hN, hA⟩ := F
  intro H locs ls hls hP hD hS
  exact lv_if_le hx hb d ht (fun h => kt ((zI_le (a := a) (b := 0) ⟨rg.1, rg.2, by omega, by omega⟩).mp (by rw [zI_0]; exact h)) H locs ls hls hP hD hS) (fun h => kf (Int.not_le.mp (fun e => h (by rw [← zI_0]; exact (zI_le (a := a) (b := 0) ⟨rg.1, rg.2, by omega, by omega⟩).mpr e))) H locs ls hls hP hD hS)
theorem V.if_geR (F : Fx X Y) {x : Int32} {off : Int} {tgt : Nat} (d : decode Y.1 pc = .ok (.ifCond .ge off, 3)) (hq : pc + 3 = q) (ht : (pc : Int) + off = (tgt : Int)) (kt : 0 ≤ x → V X Y k n tgt lo st ws) (kf : ¬ 0 ≤ x → V X Y k n q lo st ws) : V X Y k n pc lo (.int x :: st) ws := by
  subst hq
  obtain ⟨p, e, s, m, args, below, meth, c, Q, A⟩ := X
  obtain ⟨cc, nL, own, Ts, R, l, G⟩ := Y
  obtain ⟨hx, hb, hml, hown, hts, hK, hN, hA⟩ := F
  intro H locs ls hls hP hD hS
  exact lv_if_ge hx hb d ht (fun h => kt h H locs ls hls hP hD hS) (fun h => kf h H locs ls hls hP hD hS)
theorem V.goto (F : Fx X Y) {off : Int} {tgt : Nat} (d : decode Y.1 pc = .ok (.goto off, 3)) (ht : (pc : Int) + off = (tgt : Int)) (kk : V X Y k n tgt lo st ws) : V X Y k n pc lo st ws := by
  obtain ⟨p, e, s, m, args, below, meth, c, Q, A⟩ := X
  obtain ⟨cc, nL, own, Ts, R, l, G⟩ := Y
  obtain ⟨hx, hb, hml, hown, hts, hK, hN, hA⟩ := F
  intro H locs ls hls hP hD hS
  exact lv_goto hx hb d ht (kk H locs ls hls hP hD hS)
theorem V.tswIn (F : Fx X Y) {dflt lo_ hi : Int} {offs : Array Int} {len : Nat} {a off : Int} {tgt : Nat} (d : decode Y.1 pc = .ok (.tableswitch dflt lo_ hi offs, len)) (rg : -2147483648 ≤ a ∧ a < 2147483648) (h1 : lo_ ≤ a) (h2 : a ≤ hi) (ho : offs[(a - lo_).toNat]? = some off) (ht : (pc : Int) + off = (tgt : Int)) (kk : V X Y k n tgt lo st ws) : V X Y k n pc lo (.int (zI a) :: st) ws := by
  obtain ⟨p, e, s, m, args, below, meth, c, Q, A⟩ := X
  obtain ⟨cc, nL, own, Ts, R, l, G⟩ := Y
  obtain ⟨hx, hb, hml, hown, hts, hK, hN, hA⟩ := F
  intro H locs ls hls hP hD hS
  refine lv_tableIn hx hb d (by rw [zI_toInt rg.1 rg.2]; omega) (by rw [zI_toInt rg.1 rg.2]; omega) (by rw [zI_toInt rg.1 rg.2]; exact ho) ht (kk H locs ls hls hP hD hS)
theorem V.tswOut (F : Fx X Y) {dflt lo_ hi : Int} {offs : Array Int} {len : Nat} {a : Int} {tgt : Nat} (d : decode Y.1 pc = .ok (.tableswitch dflt lo_ hi offs, len)) (rg : -2147483648 ≤ a ∧ a < 2147483648) (h1 : a < lo_ ∨ hi < a) (ht : (pc : Int) + dflt = (tgt : Int)) (kk : V X Y k n tgt lo st ws) : V X Y k n pc lo (.int (zI a) :: st) ws := by
  obtain ⟨p, e, s, m, args, below, meth, c, Q, A⟩ := X
  obtain ⟨cc, nL, own, Ts, R, l, G⟩ := Y
  obtain ⟨hx, hb, hml, hown, hts, hK, hN, hA⟩ := F
  intro H locs ls hls hP hD hS
  refine lv_tableOut hx hb d (by rw [zI_toInt rg.1 rg.2]; exact h1) ht (kk H locs ls hls hP hD hS)
theorem V.dup (F : Fx X Y) {v : Value} (d : decode Y.1 pc = .ok (.dup, 1)) (hq : pc + 1 = q) (hc : v.category = 1) (kk : V X Y k n q lo (v :: v :: st) ws) : V X Y k n pc lo (v :: st) ws := by
  subst hq
  obtain ⟨p, e, s, m, args, below, meth, c, Q, A⟩ := X
  obtain ⟨cc, nL, own, Ts, R, l, G⟩ := Y
  obtain ⟨hx, hb, hml, hown, hts, hK, hN, hA⟩ := F
  intro H locs ls hls hP hD hS
  exact lv_dup hx hb d hc (kk H locs ls hls hP hD hS)
theorem V.dup2 (F : Fx X Y) {v w : Value} (d : decode Y.1 pc = .ok (.dup2, 1)) (hq : pc + 1 = q) (hv : v.category = 1) (hw : w.category = 1) (kk : V X Y k n q lo (v :: w :: v :: w :: st) ws) : V X Y k n pc lo (v :: w :: st) ws := by
  subst hq
  obtain ⟨p, e, s, m, args, below, meth, c, Q, A⟩ := X
  obtain ⟨cc, nL, own, Ts, R, l, G⟩ := Y
  obtain ⟨hx, hb, hml, hown, hts, hK, hN, hA⟩ := F
  intro H locs ls hls hP hD hS
  exact lv_dup2_11 hx hb d hv hw (kk H locs ls hls hP hD hS)
theorem V.iald (F : Fx X Y) (q0 : Nat) {a N : Nat} {g : Int → Int} {i : Int} (d : decode Y.1 pc = .ok (.iaload, 1)) (hq : pc + 1 = q) (he : ws[q0]? = some (a, aI Y.2.2.2.2.2.2 N g)) (hsz : N ≤ 2147483648) (rg : 0 ≤ i ∧ i < (N : Int)) (kk : V X Y k n q lo (.int (zI (g i)) :: st) ws) : V X Y k n pc lo (.int (zI i) :: .ref a :: st) ws := by
  subst hq
  obtain ⟨p, e, s, m, args, below, meth, c, Q, A⟩ := X
  obtain ⟨cc, nL, own, Ts, R, l, G⟩ := Y
  obtain ⟨hx, hb, hml, hown, hts, hK, hN, hA⟩ := F
  intro H locs ls hls hP hD hS
  refine va_iald hx hb hK hP q0 0 he rfl (zI_in hsz rg) d ?_; rw [ia_at rg.1 (by omega)]; exact kk H locs ls hls hP hD hS
theorem V.lald (F : Fx X Y) (q0 : Nat) {a N : Nat} {g : Int → Int} {i : Int} (d : decode Y.1 pc = .ok (.laload, 1)) (hq : pc + 1 = q) (he : ws[q0]? = some (a, aJ Y.2.2.2.2.2.2 N g)) (hsz : N ≤ 2147483648) (rg : 0 ≤ i ∧ i < (N : Int)) (kk : V X Y k n q lo (.long (zL (g i)) :: st) ws) : V X Y k n pc lo (.int (zI i) :: .ref a :: st) ws := by
  subst hq
  obtain ⟨p, e, s, m, args, below, meth, c, Q, A⟩ := X
  obtain ⟨cc, nL, own, Ts, R, l, G⟩ := Y
  obtain ⟨hx, hb, hml, hown, hts, hK, hN, hA⟩ := F
  intro H locs ls hls hP hD hS
  refine va_lald hx hb hK hP q0 1 he rfl (zI_in hsz rg) d ?_; rw [la_at rg.1 (by omega)]; exact kk H locs ls hls hP hD hS
theorem V.zald (F : Fx X Y) (q0 : Nat) {a N : Nat} {g : Int → Int} {i : Int} (d : decode Y.1 pc = .ok (.baload, 1)) (hq : pc + 1 = q) (he : ws[q0]? = some (a, aZ Y.2.2.2.2.2.2 N g)) (hsz : N ≤ 2147483648) (rg : 0 ≤ i ∧ i < (N : Int)) (kk : V X Y k n q lo (.int (zI (g i)) :: st) ws) : V X Y k n pc lo (.int (zI i) :: .ref a :: st) ws := by
  subst hq
  obtain ⟨p, e, s, m, args, below, meth, c, Q, A⟩ := X
  obtain ⟨cc, nL, own, Ts, R, l, G⟩ := Y
  obtain ⟨hx, hb, hml, hown, hts, hK, hN, hA⟩ := F
  intro H locs ls hls hP hD hS
  refine va_zald hx hb hK hP q0 2 he rfl (zI_in hsz rg) d ?_; rw [ia_at rg.1 (by omega)]; exact kk H locs ls hls hP hD hS
theorem V.cald (F : Fx X Y) (q0 : Nat) {a N : Nat} {g : Int → Int} {i : Int} (d : decode Y.1 pc = .ok (.caload, 1)) (hq : pc + 1 = q) (he : ws[q0]? = some (a, aC Y.2.2.2.2.2.2 N g)) (hsz : N ≤ 2147483648) (rg : 0 ≤ i ∧ i < (N : Int)) (kk : V X Y k n q lo (.int (zI (g i)) :: st) ws) : V X Y k n pc lo (.int (zI i) :: .ref a :: st) ws := by
  subst hq
  obtain ⟨p, e, s, m, args, below, meth, c, Q, A⟩ := X
  obtain ⟨cc, nL, own, Ts, R, l, G⟩ := Y
  obtain ⟨hx, hb, hml, hown, hts, hK, hN, hA⟩ := F
  intro H locs ls hls hP hD hS
  refine va_cald hx hb hK hP q0 3 he rfl (zI_in hsz rg) d ?_; rw [ia_at rg.1 (by omega)]; exact kk H locs ls hls hP hD hS
theorem V.iast (F : Fx X Y) (q0 : Nat) {a N : Nat} {g : Int → Int} {i v : Int} (d : decode Y.1 pc = .ok (.iastore, 1)) (hq : pc + 1 = q) (he : ws[q0]? = some (a, aI Y.2.2.2.2.2.2 N g)) (hsz : N ≤ 2147483648) (rg : 0 ≤ i ∧ i < (N : Int))  (hws : ws.set q0 (a, aI Y.2.2.2.2.2.2 N (upz g i v)) = ws') (kk : V X Y k n q lo st ws') : V X Y k n pc lo (.int (zI v) :: .int (zI i) :: .ref a :: st) ws := by
  subst hq
  obtain ⟨p, e, s, m, args, below, meth, c, Q, A⟩ := X
  obtain ⟨cc, nL, own, Ts, R, l, G⟩ := Y
  obtain ⟨hx, hb, hml, hown, hts, hK, hN, hA⟩ := F
  intro H locs ls hls hP hD hS
  subst hws
  refine va_iast hx hb hK hP hD hS q0 0 he rfl (zI_in hsz rg) d (fun H locs hP hD hS => ?_); rw [ia_upd rg.1 (by omega)] at hP hD; exact kk H locs ls hls hP hD hS
theorem V.last (F : Fx X Y) (q0 : Nat) {a N : Nat} {g : Int → Int} {i v : Int} (d : decode Y.1 pc = .ok (.lastore, 1)) (hq : pc + 1 = q) (he : ws[q0]? = some (a, aJ Y.2.2.2.2.2.2 N g)) (hsz : N ≤ 2147483648) (rg : 0 ≤ i ∧ i < (N : Int))  (hws : ws.set q0 (a, aJ Y.2.2.2.2.2.2 N (upz g i v)) = ws') (kk : V X Y k n q lo st ws') : V X Y k n pc lo (.long (zL v) :: .int (zI i) :: .ref a :: st) ws := by
  subst hq
  obtain ⟨p, e, s, m, args, below, meth, c, Q, A⟩ := X
  obtain ⟨cc, nL, own, Ts, R, l, G⟩ := Y
  obtain ⟨hx, hb, hml, hown, hts, hK, hN, hA⟩ := F
  intro H locs ls hls hP hD hS
  subst hws
  refine va_last hx hb hK hP hD hS q0 1 he rfl (zI_in hsz rg) d (fun H locs hP hD hS => ?_); rw [la_upd rg.1 (by omega)] at hP hD; exact kk H locs ls hls hP hD hS
theorem V.zast (F : Fx X Y) (q0 : Nat) {a N : Nat} {g : Int → Int} {i v : Int} (d : decode Y.1 pc = .ok (.bastore, 1)) (hq : pc + 1 = q) (he : ws[q0]? = some (a, aZ Y.2.2.2.2.2.2 N g)) (hsz : N ≤ 2147483648) (rg : 0 ≤ i ∧ i < (N : Int)) (hv : v = 0 ∨ v = 1) (hws : ws.set q0 (a, aZ Y.2.2.2.2.2.2 N (upz g i v)) = ws') (kk : V X Y k n q lo st ws') : V X Y k n pc lo (.int (zI v) :: .int (zI i) :: .ref a :: st) ws := by
  subst hq
  obtain ⟨p, e, s, m, args, below, meth, c, Q, A⟩ := X
  obtain ⟨cc, nL, own, Ts, R, l, G⟩ := Y
  obtain ⟨hx, hb, hml, hown, hts, hK, hN, hA⟩ := F
  intro H locs ls hls hP hD hS
  subst hws
  have e9 : vp_nar .boolean (zI v) = zI v := by rcases hv with rfl | rfl <;> decide +kernel
  refine va_zast hx hb hK hP hD hS q0 2 he rfl (zI_in hsz rg) d (fun H locs hP hD hS => ?_); rw [e9] at hP hD; rw [ia_upd rg.1 (by omega)] at hP hD; exact kk H locs ls hls hP hD hS
theorem V.cast (F : Fx X Y) (q0 : Nat) {a N : Nat} {g : Int → Int} {i v : Int} (d : decode Y.1 pc = .ok (.castore, 1)) (hq : pc + 1 = q) (he : ws[q0]? = some (a, aC Y.2.2.2.2.2.2 N g)) (hsz : N ≤ 2147483648) (rg : 0 ≤ i ∧ i < (N : Int)) (hv : vp_nar .char (zI v) = zI v) (hws : ws.set q0 (a, aC Y.2.2.2.2.2.2 N (upz g i v)) = ws') (kk : V X Y k n q lo st ws') : V X Y k n pc lo (.int (zI v) :: .int (zI i) :: .ref a :: st) ws := by
  subst hq
  obtain ⟨p, e, s, m, args, below, meth, c, Q, A⟩ := X
  obtain ⟨cc, nL, own, Ts, R, l, G⟩ := Y
  obtain ⟨hx, hb, hml, hown, hts, hK, hN, hA⟩ := F
  intro H locs ls hls hP hD hS
  subst hws
  have e9 := hv
  refine va_cast hx hb hK hP hD hS q0 3 he rfl (zI_in hsz rg) d (fun H locs hP hD hS => ?_); rw [e9] at hP hD; rw [ia_upd rg.1 (by omega)] at hP hD; exact kk H locs ls hls hP hD hS
theorem V.get (F : Fx X Y) (q0 j : Nat) {a ci N idx : Nat} {fs : List Value} {C : String} {T : u_T} {v : Value} (d : decode Y.1 pc = .ok (.getfield idx, 3)) (hq : pc + 3 = q) (he : ws[q0]? = some (a, .inr (ci, fs))) (hc : vwCl[ci]? = some (C, T, N)) (hin : ∀ w ∈ u_ws C T N, w ∈ Y.2.2.2.1) (hj : j < N) (hw : Cond.fieldLink Y.2.2.1 idx (T j).1 (T j).2.1 (T j).2.2.1 ∈ Y.2.2.2.1) (hv : fs[j]? = some v) (kk : V X Y k n q lo (v :: st) ws) : V X Y k n pc lo (.ref a :: st) ws := by
  subst hq
  obtain ⟨p, e, s, m, args, below, meth, c, Q, A⟩ := X
  obtain ⟨cc, nL, own, Ts, R, l, G⟩ := Y
  obtain ⟨hx, hb, hml, hown, hts, hK, hN, hA⟩ := F
  intro H locs ls hls hP hD hS
  exact va_get hx hb hts hin hown hK hP q0 he hc j hj (hts _ hw) (fun _ h9 => h9) hv d (kk H locs ls hls hP hD hS)
theorem V.put (F : Fx X Y) (q0 j : Nat) {a ci N idx : Nat} {fs : List Value} {C : String} {T : u_T} {v : Value} {ty : FieldType} (d : decode Y.1 pc = .ok (.putfield idx, 3)) (hq : pc + 3 = q) (he : ws[q0]? = some (a, .inr (ci, fs))) (hc : vwCl[ci]? = some (C, T, N)) (hin : ∀ w ∈ u_ws C T N, w ∈ Y.2.2.2.1) (ty0 : Nat → FieldType) (hty : ∀ k, k < N → parseFieldDescriptor (T k).2.2.1 = some (ty0 k)) (hnm : ∀ a, a < N → ∀ b, b < N → a ≠ b → (T a).2.1 ≠ (T b).2.1) (hj : j < N) (hw : Cond.fieldLink Y.2.2.1 idx (T j).1 (T j).2.1 (T j).2.2.1 ∈ Y.2.2.2.1) (hfin : (T j).2.2.2 = false) (hd : ty0 j = ty) (hn : narrow ty v = v) (hfit : fits ty v = true) (hl : j < fs.length) (hws : ws.set q0 (a, .inr (ci, fs.set j v)) = ws') (kk : V X Y k n q lo st ws') : V X Y k n pc lo (v :: .ref a :: st) ws := by
  subst hq
  obtain ⟨p, e, s, m, args, below, meth, c, Q, A⟩ := X
  obtain ⟨cc, nL, own, Ts, R, l, G⟩ := Y
  obtain ⟨hx, hb, hml, hown, hts, hK, hN, hA⟩ := F
  intro H locs ls hls hP hD hS
  subst hws; subst hd; exact va_put hx hb hts hin ty0 hty hnm hown hK hP hD hS q0 he hc j hj (hts _ hw) (fun _ h9 => h9) hfin (hty j hj) hn hfit hl d (fun H locs hP hD hS => kk H locs ls hls hP hD hS)
theorem V.iret {wc : va_W} {P : Option Value → va_W → Prop} (F : Fx X Y) (T : Rt X Y (some .int) wc P) {v : Int32} (d : decode Y.1 pc = .ok (.ireturn, 1)) (hP' : P (some (.int v)) ws) (ha : ws.map Prod.fst = wc.map Prod.fst) : V X Y 0 0 pc lo [.int v] ws := by
  obtain ⟨p, e, s, m, args, below, meth, c, Q, A⟩ := X
  obtain ⟨cc, nL, own, Ts, R, l, G⟩ := Y
  obtain ⟨hx, hb, hml, hown, hts, hK, hN, hA⟩ := F
  obtain ⟨hr, hlocks, hQ⟩ := T
  subst hQ
  intro H locs ls hls hP hD hS
  exact W.iret hx hb hr (fun t ht hW => ⟨⟨_, ws, rfl, hP', ha, by rw [ht]; exact hP⟩, hS.F ht⟩) hS.2.2 d hlocks
theorem V.zret {wc : va_W} {P : Option Value → va_W → Prop} (F : Fx X Y) (T : Rt X Y (some .boolean) wc P) {v : Int} (hv : v = 0 ∨ v = 1) (d : decode Y.1 pc = .ok (.ireturn, 1)) (hP' : P (some (.int (zI v))) ws) (ha : ws.map Prod.fst = wc.map Prod.fst) : V X Y 0 0 pc lo [.int (zI v)] ws := by
  obtain ⟨p, e, s, m, args, below, meth, c, Q, A⟩ := X
  obtain ⟨cc, nL, own, Ts, R, l, G⟩ := Y
  obtain ⟨hx, hb, hml, hown, hts, hK, hN, hA⟩ := F
  obtain ⟨hr, hlocks, hQ⟩ := T
  subst hQ
  intro H locs ls hls hP hD hS
  exact W.zret hx hb hr (by rcases hv with rfl | rfl <;> decide +kernel) (fun t ht hW => ⟨⟨_, ws, rfl, hP', ha, by rw [ht]; exact hP⟩, hS.F ht⟩) hS.2.2 d hlocks
theorem V.vret {wc : va_W} {P : Option Value → va_W → Prop} (F : Fx X Y) (T : Rt X Y none wc P) (d : decode Y.1 pc = .ok (.return_, 1)) (hP' : P none ws) (ha : ws.map Prod.fst = wc.map Prod.fst) : V X Y 0 0 pc lo [] ws := by
  obtain ⟨p, e, s, m, args, below, meth, c, Q, A⟩ := X
  obtain ⟨cc, nL, own, Ts, R, l, G⟩ := Y
  obtain ⟨hx, hb, hml, hown, hts, hK, hN, hA⟩ := F
  obtain ⟨hr, hlocks, hQ⟩ := T
  subst hQ
  intro H locs ls hls hP hD hS
  exact W.vret hx hb hr (fun t ht hW => ⟨⟨_, ws, rfl, hP', ha, by rw [ht]; exact hP⟩, hS.F ht⟩) hS.2.2 d hlocks
def putAt : va_W → List Nat → va_W → va_W
  | ws, i :: is, w :: wc => putAt (ws.set i w) is wc
  | ws, _, _ => ws
theorem putAt_get : ∀ (is : List Nat) (ws w' : va_W), is.length = w'.length → ∀ (k : Nat) (x : Nat × va_E), (putAt ws is w')[k]? = some x → (∃ j : Nat, is[j]? = some k ∧ w'[j]? = some x) ∨ (k ∉ is ∧ ws[k]? = some x)
  | [], ws, w', _, k, x, h => by
    right
    cases w' <;> exact ⟨List.not_mem_nil, h⟩
  | i :: is, ws, [], hl, k, x, h => by simp at hl
  | i :: is, ws, w :: wc, hl, k, x, h => by
    rcases putAt_get is (ws.set i w) wc (by simpa using hl) k x h with ⟨j, h1, h2⟩ | ⟨h1, h2⟩
    · exact Or.inl ⟨j + 1, by simpa using h1, by simpa using h2⟩
    · by_cases hk : k = i
      · subst hk
        rw [List.getElem?_set] at h2
        simp at h2
        exact Or.inl ⟨0, rfl, by rw [← h2.2]; rfl⟩
      · rw [List.getElem?_set_ne (Ne.symm hk)] at h2
        exact Or.inr ⟨by rw [List.mem_cons]; exact fun z => z.elim hk h1, h2⟩
theorem putAt_fst : ∀ (is : List Nat) (ws w' : va_W), (∀ (j i : Nat) (x : Nat × va_E), is[j]? = some i → w'[j]? = some x → (ws.map Prod.fst)[i]? = some x.1) → (putAt ws is w').map Prod.fst = ws.map Prod.fst
  | [], ws, w', _ => by cases w' <;> rfl
  | i :: is, ws, [], _ => rfl
  | i :: is, ws, w :: wc, h => by
    have h0 : (ws.map Prod.fst)[i]? = some w.1 := h 0 i w rfl rfl
    have e : (ws.set i w).map Prod.fst = ws.map Prod.fst := by
      rw [List.map_set]
      apply List.ext_getElem?
      intro k
      by_cases hk : i = k
      · subst hk
        have hl := (List.getElem?_eq_some_iff.mp h0).1
        rw [List.getElem?_set_self hl, h0]
      · rw [List.getElem?_set_ne hk]
    rw [putAt, putAt_fst is (ws.set i w) wc (fun j i' x h1 h2 => by rw [e]; exact h (j + 1) i' x (by simpa using h1) (by simpa using h2)), e]
theorem va_D.addr {A : Nat → Prop} {ws ws' : va_W} (e : ws'.map Prod.fst = ws.map Prod.fst) (h : va_D A ws) : va_D A ws' := by
  have key : ∀ (k : Nat) (x : Nat × va_E), ws'[k]? = some x → ∃ y : Nat × va_E, ws[k]? = some y ∧ y.1 = x.1 := by
    intro k x hx
    have h1 : (ws'.map Prod.fst)[k]? = some x.1 := by rw [List.getElem?_map, hx]; rfl
    rw [e, List.getElem?_map] at h1
    cases hy : ws[k]? with
    | none => rw [hy] at h1; cases h1
    | some y => rw [hy] at h1; exact ⟨y, rfl, Option.some.inj h1⟩
  refine ⟨fun i j x y hx hy hxy => ?_, fun k x hx => ?_⟩
  · obtain ⟨x', h1, h2⟩ := key i x hx
    obtain ⟨y', h3, h4⟩ := key j y hy
    exact h.1 i j x' y' h1 h3 (h2.trans (hxy.trans h4.symm))
  · obtain ⟨x', h1, h2⟩ := key k x hx
    rw [← h2]; exact h.2 k x' h1
theorem putAt_join {A0 : Nat → Prop} {D : va_G} {cl : List vw_C} {ws wc w' : va_W} {H H1 : Heap} (hP : va_P D cl ws H) (hD : va_D A0 ws) (isC : List Nat) (hC : isC.map (fun i => ws[i]?) = wc.map some) (hw : w'.map Prod.fst = wc.map Prod.fst)
    (hk : ∀ q : Nat, q < H.size → ¬ va_A wc H.size q → H1[q]? = H[q]?) (hP1 : va_P D cl w' H1) : va_P D cl (putAt ws isC w') H1 ∧ va_D A0 (putAt ws isC w') := by
  have hl1 : isC.length = wc.length := by have := congrArg List.length hC; simpa using this
  have hl2 : w'.length = wc.length := by have := congrArg List.length hw; simpa using this
  have at' : ∀ (j i : Nat), isC[j]? = some i → ∃ x, wc[j]? = some x ∧ ws[i]? = some x := by
    intro j i hj
    have h1 : (isC.map (fun i => ws[i]?))[j]? = some ws[i]? := by rw [List.getElem?_map, hj]; rfl
    rw [hC, List.getElem?_map] at h1
    cases hx : wc[j]? with
    | none => rw [hx] at h1; cases h1
    | some x => rw [hx] at h1; exact ⟨x, rfl, (Option.some.inj h1).symm⟩
  refine ⟨fun k x hx => ?_, va_D.addr (putAt_fst isC ws w' (fun j i x h1 h2 => ?_)) hD⟩
  · rcases putAt_get isC ws w' (hl1.trans hl2.symm) k x hx with ⟨j, h1, h2⟩ | ⟨h1, h2⟩
    · exact hP1 j x h2
    · have hlt := (hP k x h2).lt
      refine (hP k x h2).kept (hk x.1 hlt (fun hA => ?_))
      rcases hA with ⟨j, e, hj⟩ | hA
      · have hjl : j < isC.length := by rw [hl1]; exact (List.getElem?_eq_some_iff.mp hj).1
        obtain ⟨i, hi⟩ : ∃ i, isC[j]? = some i := ⟨isC[j], List.getElem?_eq_getElem hjl⟩
        obtain ⟨z, hz1, hz2⟩ := at' j i hi
        rw [hj] at hz1
        have hz3 := Option.some.inj hz1
        have hki := hD.1 k i x z h2 hz2 (by rw [← hz3])
        subst hki
        exact h1 (List.mem_of_getElem? hi)
      · omega
  · obtain ⟨z, hz1, hz2⟩ := at' j i h1
    have e1 : (w'.map Prod.fst)[j]? = some x.1 := by rw [List.getElem?_map, h2]; rfl
    rw [hw, List.getElem?_map, hz1] at e1
    rw [List.getElem?_map, hz2]
    exact e1
theorem W.callG {p : Program} {l : Launch} {e : Env} {R : Room} {s : State} {m : MethodId} {args : Array Value} {below : List Frame} {meth : Method} {c : Code} {H : Heap} {locs : List Loc} {cells slots : Nat} {Q : State → Prop} {pc : Nat} {ls : Array Slot} {rest st0 : List Value} {A0 : Nat → Prop} {H0 : Heap} {mc ms : Nat} {wc : va_W} {B : Option Value → va_W → State → Prop} {sz : Nat}
    (hr : va_Run p l e R s m args below meth c H locs cells slots mc ms (F0 m pc ls st0) rest (fun st oc t => (∃ (r : Option Value) (w' : va_W), oc = .returned r ∧ B r w' t) ∧ va_F (va_A wc sz) st t) (va_A wc sz)) (hsz : H.size = sz) (hS : va_S A0 H0 H locs) (hA : ∀ q, va_A wc H.size q → A0 q)
    (kk : ∀ (r : Option Value) (w' : va_W) (t : State) (H1 : Heap) (locs1 : List Loc), t.heap = H1 → B r w' t → H.size ≤ H1.size → (∀ q : Nat, q < H.size → ¬ va_A wc H.size q → H1[q]? = H[q]?) → va_S A0 H0 H1 locs1 → W p l e R s m args below meth c H1 locs1 (cells + mc) (slots + ms) Q (F0 m (pc + 3) ls (r.toList ++ rest))) : W p l e R s m args below meth c H locs cells slots Q (F0 m pc ls st0) := by
  subst hsz
  intro T hT X
  obtain ⟨v, st₀, t, T', L, h0, X', hL, e1, e2, ⟨⟨r, w', hv, hb⟩, hz, hk⟩, st⟩ := hr T hT X
  cases hv
  rw [h0] at hz hk
  obtain ⟨t2, a1, b1⟩ := kk v w' t T'.heap (locs ++ L) e1.symm hb (by rw [e1]; exact hz) (fun q h1 h2 => by rw [e1]; exact hk q h1 h2)
    ⟨Nat.le_trans hS.1 (by rw [e1]; exact hz), fun q h1 h2 => by rw [e1, hk q (Nat.lt_of_lt_of_le h1 hS.1) (fun z => h2 (hA q z))]; exact hS.2.1 q h1 h2, fun q hq => by
      rcases List.mem_append.mp hq with h | h
      · exact hS.2.2 q h
      · exact hA _ (hL q h)⟩ T' rfl X'
  exact ⟨t2, st t2 a1, b1⟩
theorem blindG {G : Gx} {As : List Value} {wc : va_W} {sz : Nat} : FrameBlind (va_Pc As (fun U => U.heap.size = sz ∧ va_P G.1 vwCl wc U.heap ∧ (va_K G.1 vwCl (tysOf G) U ∧ NW U) ∧ va_D (fun _ => True) wc)) := fun a U g mk q => by
  obtain ⟨q0, q1, qP, ⟨qK, qN⟩, qD⟩ := q
  exact ⟨q0, q1, qP, ⟨va_K.moved (u := U) (U := U.calling g mk a) (Vm.Alike.refl U.vm) qK, NW.same (u := U) (U := U.calling g mk a) rfl qN⟩, qD⟩
/-- what every call asks of the state -/
theorem preG {s : State} {H : Heap} {G : Gx} {As : List Value} {wc ws : va_W} {A0 : Nat → Prop} (hK : va_K G.1 vwCl (tysOf G) s) (hN : NW s) (hP : va_P G.1 vwCl ws H) (hD : va_D A0 ws) (isC : List Nat) (hnd : va_nd isC = true) (hC : isC.map (fun i => ws[i]?) = wc.map some) :
    ∀ U : State, U.heap = H → s.WarmedH U.vm → va_Pc As (fun U => U.heap.size = H.size ∧ va_P G.1 vwCl wc U.heap ∧ (va_K G.1 vwCl (tysOf G) U ∧ NW U) ∧ va_D (fun _ => True) wc) As.toArray U := fun U hU hW =>
  ⟨rfl, by rw [hU], by
    rw [hU]
    intro k x hx
    have h1 : (isC.map (fun i => ws[i]?))[k]? = some (some x) := by rw [hC, List.getElem?_map, hx]; rfl
    rw [List.getElem?_map] at h1
    cases hi : isC[k]? with
    | none => rw [hi] at h1; cases h1
    | some i => rw [hi] at h1; exact hP i x (Option.some.inj h1), ⟨va_K.moved hW.alike hK, hN.warm hW⟩, (hD.sub isC hnd hC).weaken (fun _ _ _ _ => trivial)⟩
abbrev ydOk (y : MethodName) (n : Nat) : Prop := y.cls ≠ "java/lang/invoke/MethodHandle" ∧ y.cls ≠ "java/lang/invoke/VarHandle" ∧ (parseMethodDescriptor y.desc).map (fun d => d.parameters.length) = some n
theorem V.callV {y : MethodName} {bytes : ByteArray} {maxL n' idx a ci N : Nat} {ret : Option FieldType} {wsy wsy' : List Cond} {rm : Room} {As st0 : List Value} {wc : va_W} {P : Option Value → va_W → Prop} {C : String} {T : u_T} {fs : List Value} (F : Fx X Y) (isC : List Nat) (q0 : Nat) (d : decode Y.1 pc = .ok (.invokevirtual idx, 3)) (hq : pc + 3 = q)
    (hC : Ct Y.2.2.2.2.2.1 Y.2.2.2.2.2.2 y wsy rm (.ref a :: As) wc P) (hG : GoodIn Y.2.2.2.1 (wsV Y.2.2.1 idx C y wsy)) (hwy : wsy = Cond.code y bytes maxL ret :: wsy') (hy : y.cls = C) (hd : ydOk y n') (hR : rm.frames + 1 ≤ Y.2.2.2.2.1.frames ∧ 8 + (maxL + 11) + rm.locals ≤ Y.2.2.2.2.1.locals)
    (hcl : vwCl[ci]? = some (C, T, N)) (hn : As.length = n') (hst : st0 = As.reverse ++ .ref a :: st) (he : ws[q0]? = some (a, .inr (ci, fs))) (hcat : (st.map fun v => v.category).sum ≤ 8) (hcells : isC.map (fun i => ws[i]?) = wc.map some) (hnd : va_nd isC = true) (hkn : k ≤ Y.2.2.2.2.1.cells ∧ n ≤ Y.2.2.2.2.1.slots)
    (kk : ∀ r w', P r w' → w'.map Prod.fst = wc.map Prod.fst → V X Y k n q lo (r.toList ++ st) (putAt ws isC w')) : V X Y k n pc lo st0 ws := by
  subst hq
  subst hst
  obtain ⟨p, e, s, m, args, below, meth, c, Q, A⟩ := X
  obtain ⟨cc, nL, own, Ts, R, l, G⟩ := Y
  obtain ⟨hx, hb, hml, hown, hts, hK, hN, hA⟩ := F
  intro H locs ls hls hP hD hS
  have hFc := va_free (wc := wc) hD hS hA isC hcells
  refine W.callG (B := fun r w' t => P r w' ∧ w'.map Prod.fst = wc.map Prod.fst ∧ va_P G.1 vwCl w' t.heap) (va_runV (As := As) (rest := st) ⟨hx, hb, hml, hown, hts⟩ (hC.2.2 H.size) (cwV n' hts hG hwy hC.1 hC.2.1 ⟨hy, hd⟩ hR) ⟨blindG, va_recv hK hP hcl he, preG hK hN hP hD isC hnd hcells⟩ rfl hn hls.1 rfl (lv_room hcat) d hkn) rfl hS hFc ?_
  rintro r w' t H1 locs1 ht ⟨hPr, hw, hP1⟩ hz hk hS1
  rw [ht] at hP1
  obtain ⟨hP2, hD2⟩ := putAt_join hP hD isC hcells hw hk hP1
  exact kk r w' hPr hw H1 locs1 ls hls hP2 hD2 hS1
theorem V.callS {y : MethodName} {bytes : ByteArray} {maxL n' idx : Nat} {ret : Option FieldType} {wsy wsy' : List Cond} {rm : Room} {As st0 : List Value} {wc : va_W} {P : Option Value → va_W → Prop} (F : Fx X Y) (isC : List Nat) (d : decode Y.1 pc = .ok (.invokestatic idx, 3)) (hq : pc + 3 = q)
    (hC : Ct Y.2.2.2.2.2.1 Y.2.2.2.2.2.2 y wsy rm As wc P) (hG : GoodIn Y.2.2.2.1 (va_wsS Y.2.2.1 idx y wsy)) (hwy : wsy = Cond.code y bytes maxL ret :: wsy') (hd : ydOk y n') (hR : rm.frames + 1 ≤ Y.2.2.2.2.1.frames ∧ 8 + (maxL + 11) + rm.locals ≤ Y.2.2.2.2.1.locals)
    (hn : As.length = n') (hst : st0 = As.reverse ++ st) (hcat : (st.map fun v => v.category).sum ≤ 8) (hcells : isC.map (fun i => ws[i]?) = wc.map some) (hnd : va_nd isC = true) (hkn : k ≤ Y.2.2.2.2.1.cells ∧ n ≤ Y.2.2.2.2.1.slots)
    (kk : ∀ r w', P r w' → w'.map Prod.fst = wc.map Prod.fst → V X Y k n q lo (r.toList ++ st) (putAt ws isC w')) : V X Y k n pc lo st0 ws := by
  subst hq
  subst hst
  obtain ⟨p, e, s, m, args, below, meth, c, Q, A⟩ := X
  obtain ⟨cc, nL, own, Ts, R, l, G⟩ := Y
  obtain ⟨hx, hb, hml, hown, hts, hK, hN, hA⟩ := F
  intro H locs ls hls hP hD hS
  have hFc := va_free (wc := wc) hD hS hA isC hcells
  refine W.callG (B := fun r w' t => P r w' ∧ w'.map Prod.fst = wc.map Prod.fst ∧ va_P G.1 vwCl w' t.heap) (va_runS (As := As) (rest := st) ⟨hx, hb, hml, hown, hts⟩ (hC.2.2 H.size) (va_cwS n' hts hG hwy hC.1 hC.2.1 hd hR) ⟨blindG, preG hK hN hP hD isC hnd hcells⟩ rfl hn hls.1 rfl (lv_room hcat) d hkn) rfl hS hFc ?_
  rintro r w' t H1 locs1 ht ⟨hPr, hw, hP1⟩ hz hk hS1
  rw [ht] at hP1
  obtain ⟨hP2, hD2⟩ := putAt_join hP hD isC hcells hw hk hP1
  exact kk r w' hPr hw H1 locs1 ls hls hP2 hD2 hS1
theorem V.callSN {y : MethodName} {host : String} {bytes : ByteArray} {maxL n' idx : Nat} {ret : Option FieldType} {wsy wsy' : List Cond} {rm : Room} {As st0 : List Value} {wc : va_W} {P : Option Value → va_W → Prop} (F : Fx X Y) (isC : List Nat) (d : decode Y.1 pc = .ok (.invokestatic idx, 3)) (hq : pc + 3 = q)
    (hC : Ct Y.2.2.2.2.2.1 Y.2.2.2.2.2.2 y wsy rm As wc P) (hG : GoodIn Y.2.2.2.1 wsy) (hwy : wsy = Cond.code y bytes maxL ret :: wsy') (hd : ydOk y n') (hR : rm.frames + 1 ≤ Y.2.2.2.2.1.frames ∧ 8 + (maxL + 11) + rm.locals ≤ Y.2.2.2.2.1.locals)
    (hnest : ∀ U, NW U → va_Nw (.methodLinkNest Y.2.2.1 idx y host) U) (hini : Cond.initialized y.cls ∈ Y.2.2.2.1) (hstat : Cond.static y ∈ Y.2.2.2.1)
    (hn : As.length = n') (hst : st0 = As.reverse ++ st) (hcat : (st.map fun v => v.category).sum ≤ 8) (hcells : isC.map (fun i => ws[i]?) = wc.map some) (hnd : va_nd isC = true) (hkn : k ≤ Y.2.2.2.2.1.cells ∧ n ≤ Y.2.2.2.2.1.slots)
    (kk : ∀ r w', P r w' → w'.map Prod.fst = wc.map Prod.fst → V X Y k n q lo (r.toList ++ st) (putAt ws isC w')) : V X Y k n pc lo st0 ws := by
  subst hq
  subst hst
  obtain ⟨p, e, s, m, args, below, meth, c, Q, A⟩ := X
  obtain ⟨cc, nL, own, Ts, R, l, G⟩ := Y
  obtain ⟨hx, hb, hml, hown, hts, hK, hN, hA⟩ := F
  intro H locs ls hls hP hD hS
  have hFc := va_free (wc := wc) hD hS hA isC hcells
  refine W.callG (B := fun r w' t => P r w' ∧ w'.map Prod.fst = wc.map Prod.fst ∧ va_P G.1 vwCl w' t.heap) (va_runSN (As := As) (rest := st) ⟨hx, hb, hml, hown, hts⟩ (hC.2.2 H.size) ⟨va_cnB n' hts hG hwy hC.1 hC.2.1 (hnest s hN) (hts _ hini) hd hR, hts _ hstat, trivial⟩ ⟨blindG, preG hK hN hP hD isC hnd hcells⟩ rfl hn hls.1 rfl (lv_room hcat) d hkn) rfl hS hFc ?_
  rintro r w' t H1 locs1 ht ⟨hPr, hw, hP1⟩ hz hk hS1
  rw [ht] at hP1
  obtain ⟨hP2, hD2⟩ := putAt_join hP hD isC hcells hw hk hP1
  exact kk r w' hPr hw H1 locs1 ls hls hP2 hD2 hS1
/-- a contract whose answer and world are told outright -/
def Fn (r : Option Value) (w : va_W) : Option Value → va_W → Prop := fun r' w' => r' = r ∧ w' = w
theorem kkf {r : Option Value} {wc wc' : va_W} {st st' : List Value} {isC : List Nat} (hst' : r.toList ++ st = st') (hws' : putAt ws isC wc' = ws') (kk : V X Y k n q lo st' ws') : ∀ r' w', Fn r wc' r' w' → w'.map Prod.fst = wc.map Prod.fst → V X Y k n q lo (r'.toList ++ st) (putAt ws isC w') := by
  rintro r' w' ⟨rfl, rfl⟩ -
  subst hst'; subst hws'
  exact kk
theorem V.mmax {a b : Int} {idx : Nat} (F : Fx X Y) (d : decode Y.1 pc = .ok (.invokestatic idx, 3)) (hq : pc + 3 = q) (w1 : Cond.methodLink Y.2.2.1 idx Lib.Math.max.name ∈ Y.2.2.2.1) (w2 : Cond.static Lib.Math.max.name ∈ Y.2.2.2.1) (w3 : Cond.initialized "java/lang/Math" ∈ Y.2.2.2.1) (w4 : Cond.code Lib.Math.max.name Lib.Math.max.code 2 (some .int) ∈ Y.2.2.2.1)
    (hfr : 1 ≤ Y.2.2.2.2.1.frames) (hlo : (st.map fun v => v.category).sum + 13 ≤ Y.2.2.2.2.1.locals) (hkn : k ≤ Y.2.2.2.2.1.cells ∧ n ≤ Y.2.2.2.2.1.slots) (rg : -2147483648 ≤ a ∧ a < 2147483648 ∧ -2147483648 ≤ b ∧ b < 2147483648)
    (kk : V X Y k n q lo (.int (zI (if a < b then b else a)) :: st) ws) : V X Y k n pc lo (.int (zI b) :: .int (zI a) :: st) ws := by
  subst hq
  obtain ⟨p, e, s, m, args, below, meth, c, Q, A⟩ := X
  obtain ⟨cc, nL, own, Ts, R, l, G⟩ := Y
  obtain ⟨hx, hb, hml, hown, hts, hK, hN, hA⟩ := F
  intro H locs ls hls hP hD hS
  refine va_mmax hx hb (hml.trans hls.1.symm) hown (hts _ w1) (hts _ w2) (hts _ w3) (hts _ w4) hfr hlo hkn.1 hkn.2 d ?_
  have e : (if zI a < zI b then zI b else zI a) = zI (if a < b then b else a) := by
    by_cases h : a < b
    · rw [if_pos h, if_pos ((zI_lt rg).mpr h)]
    · rw [if_neg h, if_neg (fun z => h ((zI_lt rg).mp z))]
  rw [e]
  exact kk H locs ls hls hP hD hS
theorem V.mabs {a : Int} {idx : Nat} (F : Fx X Y) (d : decode Y.1 pc = .ok (.invokestatic idx, 3)) (hq : pc + 3 = q) (w1 : Cond.methodLink Y.2.2.1 idx Lib.Math.abs.name ∈ Y.2.2.2.1) (w2 : Cond.static Lib.Math.abs.name ∈ Y.2.2.2.1) (w3 : Cond.initialized "java/lang/Math" ∈ Y.2.2.2.1) (w4 : Cond.code Lib.Math.abs.name Lib.Math.abs.code 1 (some .int) ∈ Y.2.2.2.1)
    (hfr : 1 ≤ Y.2.2.2.2.1.frames) (hlo : (st.map fun v => v.category).sum + 13 ≤ Y.2.2.2.2.1.locals) (hkn : k ≤ Y.2.2.2.2.1.cells ∧ n ≤ Y.2.2.2.2.1.slots) (rg : -2147483648 ≤ a ∧ a < 2147483648)
    (kk : V X Y k n q lo (.int (zI (if 0 ≤ a then a else -a)) :: st) ws) : V X Y k n pc lo (.int (zI a) :: st) ws := by
  subst hq
  obtain ⟨p, e, s, m, args, below, meth, c, Q, A⟩ := X
  obtain ⟨cc, nL, own, Ts, R, l, G⟩ := Y
  obtain ⟨hx, hb, hml, hown, hts, hK, hN, hA⟩ := F
  intro H locs ls hls hP hD hS
  refine va_mabs hx hb (hml.trans hls.1.symm) hown (hts _ w1) (hts _ w2) (hts _ w3) (hts _ w4) hfr hlo hkn.1 hkn.2 d ?_
  have e : (if 0 ≤ zI a then zI a else 0 - zI a) = zI (if 0 ≤ a then a else -a) := by
    have e1 : (0 : Int32) ≤ zI a ↔ 0 ≤ a := by rw [← zI_0]; exact zI_le ⟨by omega, by omega, rg.1, rg.2⟩
    by_cases h : 0 ≤ a
    · rw [if_pos h, if_pos (e1.mpr h)]
    · rw [if_neg h, if_neg (fun z => h (e1.mp z)), ← zI_0, zI_sub]
      congr 1; omega
  rw [e]
  exact kk H locs ls hls hP hD hS
/-- a stretch of one row copied into another -/
def cpz (f g : Int → Int) (sp dp n : Int) : Int → Int := fun j => if dp ≤ j ∧ j < dp + n then f (sp + (j - dp)) else g j
theorem ia_cpy {f g : Int → Int} {sp dp n : Int} (h1 : 0 ≤ sp) (h2 : 0 ≤ dp) (h3 : 0 ≤ n) : va_cpy (ia f) (ia g) sp.toNat dp.toNat n.toNat = ia (cpz f g sp dp n) := by
  funext j
  simp only [va_cpy, ia, cpz]
  by_cases h : dp.toNat ≤ j ∧ j < dp.toNat + n.toNat
  · rw [if_pos h, if_pos (by omega)]
    congr 2; omega
  · rw [if_neg h, if_neg (by omega)]
theorem V.copyi (F : Fx X Y) (q0 q1 : Nat) {a a0 n0 n1 idx : Nat} {f g : Int → Int} {sp dp nn : Int} (d : decode Y.1 pc = .ok (.invokestatic idx, 3)) (hq : pc + 3 = q) (w1 : Cond.methodLink Y.2.2.1 idx arraycopyName ∈ Y.2.2.2.1) (w2 : Cond.native arraycopyName ∈ Y.2.2.2.1) (w3 : Cond.static arraycopyName ∈ Y.2.2.2.1) (w4 : Cond.initialized "java/lang/System" ∈ Y.2.2.2.1)
    (he0 : ws[q0]? = some (a0, aI Y.2.2.2.2.2.2 n0 f)) (he1 : ws[q1]? = some (a, aI Y.2.2.2.2.2.2 n1 g)) (rg : (0 ≤ sp ∧ 0 ≤ dp ∧ 0 ≤ nn) ∧ (sp + nn ≤ (n0 : Int) ∧ dp + nn ≤ (n1 : Int)) ∧ ((n0 : Int) < 2147483648 ∧ (n1 : Int) < 2147483648))
    (hfr : 1 ≤ Y.2.2.2.2.1.frames) (hlo : (st.map fun v => v.category).sum + (nativeFrameWords "java/lang/System" "arraycopy" 5 + 11) ≤ Y.2.2.2.2.1.locals) (hws : ws.set q1 (a, aI Y.2.2.2.2.2.2 n1 (cpz f g sp dp nn)) = ws')
    (kk : V X Y k n q lo st ws') : V X Y k n pc lo (.int (zI nn) :: .int (zI dp) :: .ref a :: .int (zI sp) :: .ref a0 :: st) ws := by
  subst hq
  subst hws
  obtain ⟨p, e, s, m, args, below, meth, c, Q, A⟩ := X
  obtain ⟨cc, nL, own, Ts, R, l, G⟩ := Y
  obtain ⟨hx, hb, hml, hown, hts, hK, hN, hA⟩ := F
  obtain ⟨⟨g1, g2, g3⟩, ⟨g4, g5⟩, g6, g7⟩ := rg
  intro H locs ls hls hP hD hS
  have nn0 : ∀ z : Int, 0 ≤ z → z < 2147483648 → ¬ zI z < 0 := by
    intro z hz1 hz2
    rw [← zI_0, zI_lt ⟨by omega, hz2, by omega, by omega⟩]; omega
  have c1 := zI_clamp g1 (show sp < 2147483648 by omega)
  have c2 := zI_clamp g2 (show dp < 2147483648 by omega)
  have c3 := zI_clamp g3 (show nn < 2147483648 by omega)
  refine va_copyi hx hb (hml.trans hls.1.symm) hown (hts _ w1) (hts _ w2) (hts _ w3) (hts _ w4) hK hP hD hS q0 q1 0 0 he0 he1 rfl rfl rfl (nn0 sp g1 (by omega)) (nn0 dp g2 (by omega)) (nn0 nn g3 (by omega)) (by rw [c1, c3]; omega) (by rw [c2, c3]; omega) (fun _ _ => rfl) hfr hlo d (fun H1 locs1 hP hD hS => ?_)
  rw [c1, c2, c3, ia_cpy g1 g2 g3] at hP hD
  exact kk H1 locs1 ls hls hP hD hS
end VR
end
