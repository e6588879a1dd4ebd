section
-- ===== PART A: goes FIRST, ahead of the names: the tables' words, and 'selects' of the private methods out of them =====
/-- a private method of a class that the tables say can be made, by its rows of tables_1 -/
def lw_okq (q : MethodName × Nat) : Prop := (q.1.cls ≠ "java/lang/invoke/MethodHandle" ∧ q.1.cls ≠ "java/lang/invoke/VarHandle") ∧ Cond.instantiable q.1.cls q.2 ∈ tables_1 ∧ Cond.privateMethod q.1 ∈ tables_1 ∧ Cond.instanceMethod q.1 ∈ tables_1
theorem lw_p0 : lw_okq (⟨"BookedDetours$History", "dropOldest", "()V"⟩, 2) := ⟨⟨by decide +kernel, by decide +kernel⟩, List.mem_of_getElem? (i := 229) (by decide +kernel), List.mem_of_getElem? (i := 282) (by decide +kernel), List.mem_of_getElem? (i := 283) (by decide +kernel)⟩
theorem lw_p1 : lw_okq (⟨"BookedDetours", "tryToBook", "(IIII)I"⟩, 6) := ⟨⟨by decide +kernel, by decide +kernel⟩, List.mem_of_getElem? (i := 11) (by decide +kernel), List.mem_of_getElem? (i := 315) (by decide +kernel), List.mem_of_getElem? (i := 316) (by decide +kernel)⟩
theorem lw_p2 : lw_okq (⟨"BookedDetours", "errorOf", "(IIII)I"⟩, 6) := ⟨⟨by decide +kernel, by decide +kernel⟩, List.mem_of_getElem? (i := 11) (by decide +kernel), List.mem_of_getElem? (i := 319) (by decide +kernel), List.mem_of_getElem? (i := 320) (by decide +kernel)⟩
theorem lw_p3 : lw_okq (⟨"BookedDetours$Search", "lay", "(LBookedDetours$Row;III)V"⟩, 9) := ⟨⟨by decide +kernel, by decide +kernel⟩, List.mem_of_getElem? (i := 168) (by decide +kernel), List.mem_of_getElem? (i := 355) (by decide +kernel), List.mem_of_getElem? (i := 356) (by decide +kernel)⟩
theorem lw_p4 : lw_okq (⟨"BookedDetours$Timetable", "begin", "(LBookedDetours$Day;)V"⟩, 10) := ⟨⟨by decide +kernel, by decide +kernel⟩, List.mem_of_getElem? (i := 117) (by decide +kernel), List.mem_of_getElem? (i := 371) (by decide +kernel), List.mem_of_getElem? (i := 372) (by decide +kernel)⟩
theorem lw_p5 : lw_okq (⟨"BookedDetours$Timetable", "step", "(LBookedDetours$Day;I)Z"⟩, 10) := ⟨⟨by decide +kernel, by decide +kernel⟩, List.mem_of_getElem? (i := 117) (by decide +kernel), List.mem_of_getElem? (i := 386) (by decide +kernel), List.mem_of_getElem? (i := 387) (by decide +kernel)⟩
theorem lw_p6 : lw_okq (⟨"BookedDetours$Timetable", "latestByDetour", "(LBookedDetours$Day;I)I"⟩, 10) := ⟨⟨by decide +kernel, by decide +kernel⟩, List.mem_of_getElem? (i := 117) (by decide +kernel), List.mem_of_getElem? (i := 406) (by decide +kernel), List.mem_of_getElem? (i := 407) (by decide +kernel)⟩
theorem lw_p7 : lw_okq (⟨"BookedDetours$Search", "takeWay", "(III)V"⟩, 9) := ⟨⟨by decide +kernel, by decide +kernel⟩, List.mem_of_getElem? (i := 168) (by decide +kernel), List.mem_of_getElem? (i := 410) (by decide +kernel), List.mem_of_getElem? (i := 411) (by decide +kernel)⟩
theorem lw_p8 : lw_okq (⟨"BookedDetours$Day", "endAtFirst", "()V"⟩, 15) := ⟨⟨by decide +kernel, by decide +kernel⟩, List.mem_of_getElem? (i := 19) (by decide +kernel), List.mem_of_getElem? (i := 430) (by decide +kernel), List.mem_of_getElem? (i := 431) (by decide +kernel)⟩
theorem lw_p9 : lw_okq (⟨"BookedDetours$Day", "make", "(II)V"⟩, 15) := ⟨⟨by decide +kernel, by decide +kernel⟩, List.mem_of_getElem? (i := 19) (by decide +kernel), List.mem_of_getElem? (i := 452) (by decide +kernel), List.mem_of_getElem? (i := 453) (by decide +kernel)⟩
theorem lw_p10 : lw_okq (⟨"BookedDetours", "overOf", "(LBookedDetours$Day;)I"⟩, 6) := ⟨⟨by decide +kernel, by decide +kernel⟩, List.mem_of_getElem? (i := 11) (by decide +kernel), List.mem_of_getElem? (i := 501) (by decide +kernel), List.mem_of_getElem? (i := 502) (by decide +kernel)⟩
theorem lw_p11 : lw_okq (⟨"BookedDetoursModel", "refusesBook", "(IIII)I"⟩, 26) := ⟨⟨by decide +kernel, by decide +kernel⟩, List.mem_of_getElem? (i := 557) (by decide +kernel), List.mem_of_getElem? (i := 647) (by decide +kernel), List.mem_of_getElem? (i := 648) (by decide +kernel)⟩
theorem lw_p12 : lw_okq (⟨"BookedDetoursModel", "refuses", "(IIII)I"⟩, 26) := ⟨⟨by decide +kernel, by decide +kernel⟩, List.mem_of_getElem? (i := 557) (by decide +kernel), List.mem_of_getElem? (i := 651) (by decide +kernel), List.mem_of_getElem? (i := 652) (by decide +kernel)⟩
theorem lw_p13 : lw_okq (⟨"BookedDetoursModel", "isStop", "(I)Z"⟩, 26) := ⟨⟨by decide +kernel, by decide +kernel⟩, List.mem_of_getElem? (i := 557) (by decide +kernel), List.mem_of_getElem? (i := 655) (by decide +kernel), List.mem_of_getElem? (i := 656) (by decide +kernel)⟩
theorem lw_p14 : lw_okq (⟨"BookedDetoursModel", "laysRide", "(IIII)I"⟩, 26) := ⟨⟨by decide +kernel, by decide +kernel⟩, List.mem_of_getElem? (i := 557) (by decide +kernel), List.mem_of_getElem? (i := 662) (by decide +kernel), List.mem_of_getElem? (i := 663) (by decide +kernel)⟩
theorem lw_p15 : lw_okq (⟨"BookedDetoursModel", "lay", "(III)V"⟩, 26) := ⟨⟨by decide +kernel, by decide +kernel⟩, List.mem_of_getElem? (i := 557) (by decide +kernel), List.mem_of_getElem? (i := 666) (by decide +kernel), List.mem_of_getElem? (i := 667) (by decide +kernel)⟩
def lw_privs_1 : List (MethodName × Nat) := [(⟨"BookedDetours$History", "dropOldest", "()V"⟩, 2), (⟨"BookedDetours", "tryToBook", "(IIII)I"⟩, 6), (⟨"BookedDetours", "errorOf", "(IIII)I"⟩, 6), (⟨"BookedDetours$Search", "lay", "(LBookedDetours$Row;III)V"⟩, 9), (⟨"BookedDetours$Timetable", "begin", "(LBookedDetours$Day;)V"⟩, 10), (⟨"BookedDetours$Timetable", "step", "(LBookedDetours$Day;I)Z"⟩, 10), (⟨"BookedDetours$Timetable", "latestByDetour", "(LBookedDetours$Day;I)I"⟩, 10), (⟨"BookedDetours$Search", "takeWay", "(III)V"⟩, 9), (⟨"BookedDetours$Day", "endAtFirst", "()V"⟩, 15), (⟨"BookedDetours$Day", "make", "(II)V"⟩, 15), (⟨"BookedDetours", "overOf", "(LBookedDetours$Day;)I"⟩, 6), (⟨"BookedDetoursModel", "refusesBook", "(IIII)I"⟩, 26), (⟨"BookedDetoursModel", "refuses", "(IIII)I"⟩, 26), (⟨"BookedDetoursModel", "isStop", "(I)Z"⟩, 26), (⟨"BookedDetoursModel", "laysRide", "(IIII)I"⟩, 26), (⟨"BookedDetoursModel", "lay", "(III)V"⟩, 26)]
theorem lw_r1 : ∀ q ∈ lw_privs_1, lw_okq q := List.forall_mem_cons.mpr ⟨lw_p0, List.forall_mem_cons.mpr ⟨lw_p1, List.forall_mem_cons.mpr ⟨lw_p2, List.forall_mem_cons.mpr ⟨lw_p3, List.forall_mem_cons.mpr ⟨lw_p4, List.forall_mem_cons.mpr ⟨lw_p5, List.forall_mem_cons.mpr ⟨lw_p6, List.forall_mem_cons.mpr ⟨lw_p7, List.forall_mem_cons.mpr ⟨lw_p8, List.forall_mem_cons.mpr ⟨lw_p9, List.forall_mem_cons.mpr ⟨lw_p10, List.forall_mem_cons.mpr ⟨lw_p11, List.forall_mem_cons.mpr ⟨lw_p12, List.forall_mem_cons.mpr ⟨lw_p13, List.forall_mem_cons.mpr ⟨lw_p14, List.forall_mem_cons.mpr ⟨lw_p15, fun _ h => absurd h List.not_mem_nil⟩⟩⟩⟩⟩⟩⟩⟩⟩⟩⟩⟩⟩⟩⟩⟩
theorem lw_p16 : lw_okq (⟨"BookedDetoursModel", "findsWay", "(I)Z"⟩, 26) := ⟨⟨by decide +kernel, by decide +kernel⟩, List.mem_of_getElem? (i := 557) (by decide +kernel), List.mem_of_getElem? (i := 670) (by decide +kernel), List.mem_of_getElem? (i := 671) (by decide +kernel)⟩
theorem lw_p17 : lw_okq (⟨"BookedDetoursModel", "leaving", "()I"⟩, 26) := ⟨⟨by decide +kernel, by decide +kernel⟩, List.mem_of_getElem? (i := 557) (by decide +kernel), List.mem_of_getElem? (i := 674) (by decide +kernel), List.mem_of_getElem? (i := 675) (by decide +kernel)⟩
theorem lw_p18 : lw_okq (⟨"BookedDetoursModel", "isOnWay", "()Z"⟩, 26) := ⟨⟨by decide +kernel, by decide +kernel⟩, List.mem_of_getElem? (i := 557) (by decide +kernel), List.mem_of_getElem? (i := 678) (by decide +kernel), List.mem_of_getElem? (i := 679) (by decide +kernel)⟩
theorem lw_p19 : lw_okq (⟨"BookedDetoursModel", "laysWay", "(III)V"⟩, 26) := ⟨⟨by decide +kernel, by decide +kernel⟩, List.mem_of_getElem? (i := 557) (by decide +kernel), List.mem_of_getElem? (i := 682) (by decide +kernel), List.mem_of_getElem? (i := 683) (by decide +kernel)⟩
theorem lw_p20 : lw_okq (⟨"BookedDetoursModel", "drives", "(I)V"⟩, 26) := ⟨⟨by decide +kernel, by decide +kernel⟩, List.mem_of_getElem? (i := 557) (by decide +kernel), List.mem_of_getElem? (i := 686) (by decide +kernel), List.mem_of_getElem? (i := 687) (by decide +kernel)⟩
theorem lw_p21 : lw_okq (⟨"BookedDetoursModel", "aboardNow", "()I"⟩, 26) := ⟨⟨by decide +kernel, by decide +kernel⟩, List.mem_of_getElem? (i := 557) (by decide +kernel), List.mem_of_getElem? (i := 690) (by decide +kernel), List.mem_of_getElem? (i := 691) (by decide +kernel)⟩
theorem lw_p22 : lw_okq (⟨"BookedDetoursModel", "of", "(II)I"⟩, 26) := ⟨⟨by decide +kernel, by decide +kernel⟩, List.mem_of_getElem? (i := 557) (by decide +kernel), List.mem_of_getElem? (i := 694) (by decide +kernel), List.mem_of_getElem? (i := 695) (by decide +kernel)⟩
theorem lw_p23 : lw_okq (⟨"BookedDetoursModel", "stopOf", "(I)I"⟩, 26) := ⟨⟨by decide +kernel, by decide +kernel⟩, List.mem_of_getElem? (i := 557) (by decide +kernel), List.mem_of_getElem? (i := 698) (by decide +kernel), List.mem_of_getElem? (i := 699) (by decide +kernel)⟩
theorem lw_p24 : lw_okq (⟨"BookedDetoursModel", "drive", "(II)I"⟩, 26) := ⟨⟨by decide +kernel, by decide +kernel⟩, List.mem_of_getElem? (i := 557) (by decide +kernel), List.mem_of_getElem? (i := 702) (by decide +kernel), List.mem_of_getElem? (i := 703) (by decide +kernel)⟩
theorem lw_p25 : lw_okq (⟨"BookedDetoursModel", "isInTime", "(II)Z"⟩, 26) := ⟨⟨by decide +kernel, by decide +kernel⟩, List.mem_of_getElem? (i := 557) (by decide +kernel), List.mem_of_getElem? (i := 709) (by decide +kernel), List.mem_of_getElem? (i := 710) (by decide +kernel)⟩
theorem lw_p26 : lw_okq (⟨"BookedDetoursModel", "placeOf", "(I)I"⟩, 26) := ⟨⟨by decide +kernel, by decide +kernel⟩, List.mem_of_getElem? (i := 557) (by decide +kernel), List.mem_of_getElem? (i := 713) (by decide +kernel), List.mem_of_getElem? (i := 714) (by decide +kernel)⟩
theorem lw_p27 : lw_okq (⟨"BookedDetoursModel", "straight", "(I)I"⟩, 26) := ⟨⟨by decide +kernel, by decide +kernel⟩, List.mem_of_getElem? (i := 557) (by decide +kernel), List.mem_of_getElem? (i := 717) (by decide +kernel), List.mem_of_getElem? (i := 718) (by decide +kernel)⟩
theorem lw_p28 : lw_okq (⟨"BookedDetoursModel", "records", "()V"⟩, 26) := ⟨⟨by decide +kernel, by decide +kernel⟩, List.mem_of_getElem? (i := 557) (by decide +kernel), List.mem_of_getElem? (i := 721) (by decide +kernel), List.mem_of_getElem? (i := 722) (by decide +kernel)⟩
theorem lw_p29 : lw_okq (⟨"BookedDetoursModel", "books", "()I"⟩, 26) := ⟨⟨by decide +kernel, by decide +kernel⟩, List.mem_of_getElem? (i := 557) (by decide +kernel), List.mem_of_getElem? (i := 725) (by decide +kernel), List.mem_of_getElem? (i := 726) (by decide +kernel)⟩
theorem lw_p30 : lw_okq (⟨"BookedDetoursModel", "isRide", "(I)Z"⟩, 26) := ⟨⟨by decide +kernel, by decide +kernel⟩, List.mem_of_getElem? (i := 557) (by decide +kernel), List.mem_of_getElem? (i := 741) (by decide +kernel), List.mem_of_getElem? (i := 742) (by decide +kernel)⟩
theorem lw_p31 : lw_okq (⟨"BookedDetoursModel", "cancels", "(I)V"⟩, 26) := ⟨⟨by decide +kernel, by decide +kernel⟩, List.mem_of_getElem? (i := 557) (by decide +kernel), List.mem_of_getElem? (i := 745) (by decide +kernel), List.mem_of_getElem? (i := 746) (by decide +kernel)⟩
def lw_privs_2 : List (MethodName × Nat) := [(⟨"BookedDetoursModel", "findsWay", "(I)Z"⟩, 26), (⟨"BookedDetoursModel", "leaving", "()I"⟩, 26), (⟨"BookedDetoursModel", "isOnWay", "()Z"⟩, 26), (⟨"BookedDetoursModel", "laysWay", "(III)V"⟩, 26), (⟨"BookedDetoursModel", "drives", "(I)V"⟩, 26), (⟨"BookedDetoursModel", "aboardNow", "()I"⟩, 26), (⟨"BookedDetoursModel", "of", "(II)I"⟩, 26), (⟨"BookedDetoursModel", "stopOf", "(I)I"⟩, 26), (⟨"BookedDetoursModel", "drive", "(II)I"⟩, 26), (⟨"BookedDetoursModel", "isInTime", "(II)Z"⟩, 26), (⟨"BookedDetoursModel", "placeOf", "(I)I"⟩, 26), (⟨"BookedDetoursModel", "straight", "(I)I"⟩, 26), (⟨"BookedDetoursModel", "records", "()V"⟩, 26), (⟨"BookedDetoursModel", "books", "()I"⟩, 26), (⟨"BookedDetoursModel", "isRide", "(I)Z"⟩, 26), (⟨"BookedDetoursModel", "cancels", "(I)V"⟩, 26)]
theorem lw_r2 : ∀ q ∈ lw_privs_2, lw_okq q := List.forall_mem_cons.mpr ⟨lw_p16, List.forall_mem_cons.mpr ⟨lw_p17, List.forall_mem_cons.mpr ⟨lw_p18, List.forall_mem_cons.mpr ⟨lw_p19, List.forall_mem_cons.mpr ⟨lw_p20, List.forall_mem_cons.mpr ⟨lw_p21, List.forall_mem_cons.mpr ⟨lw_p22, List.forall_mem_cons.mpr ⟨lw_p23, List.forall_mem_cons.mpr ⟨lw_p24, List.forall_mem_cons.mpr ⟨lw_p25, List.forall_mem_cons.mpr ⟨lw_p26, List.forall_mem_cons.mpr ⟨lw_p27, List.forall_mem_cons.mpr ⟨lw_p28, List.forall_mem_cons.mpr ⟨lw_p29, List.forall_mem_cons.mpr ⟨lw_p30, List.forall_mem_cons.mpr ⟨lw_p31, fun _ h => absurd h List.not_mem_nil⟩⟩⟩⟩⟩⟩⟩⟩⟩⟩⟩⟩⟩⟩⟩⟩
theorem lw_p32 : lw_okq (⟨"BookedDetoursModel", "leaves", "(I)V"⟩, 26) := ⟨⟨by decide +kernel, by decide +kernel⟩, List.mem_of_getElem? (i := 557) (by decide +kernel), List.mem_of_getElem? (i := 749) (by decide +kernel), List.mem_of_getElem? (i := 750) (by decide +kernel)⟩
theorem lw_p33 : lw_okq (⟨"BookedDetoursModel", "drivesRoute", "()V"⟩, 26) := ⟨⟨by decide +kernel, by decide +kernel⟩, List.mem_of_getElem? (i := 557) (by decide +kernel), List.mem_of_getElem? (i := 761) (by decide +kernel), List.mem_of_getElem? (i := 762) (by decide +kernel)⟩
theorem lw_p34 : lw_okq (⟨"BookedDetoursModel", "laysRoute", "()V"⟩, 26) := ⟨⟨by decide +kernel, by decide +kernel⟩, List.mem_of_getElem? (i := 557) (by decide +kernel), List.mem_of_getElem? (i := 765) (by decide +kernel), List.mem_of_getElem? (i := 766) (by decide +kernel)⟩
theorem lw_p35 : lw_okq (⟨"BookedDetoursModel", "visits", "()V"⟩, 26) := ⟨⟨by decide +kernel, by decide +kernel⟩, List.mem_of_getElem? (i := 557) (by decide +kernel), List.mem_of_getElem? (i := 769) (by decide +kernel), List.mem_of_getElem? (i := 770) (by decide +kernel)⟩
theorem lw_p36 : lw_okq (⟨"BookedDetoursModel", "reads", "()I"⟩, 26) := ⟨⟨by decide +kernel, by decide +kernel⟩, List.mem_of_getElem? (i := 557) (by decide +kernel), List.mem_of_getElem? (i := 786) (by decide +kernel), List.mem_of_getElem? (i := 787) (by decide +kernel)⟩
theorem lw_p37 : lw_okq (⟨"BookedDetoursModel", "readsBooking", "()V"⟩, 26) := ⟨⟨by decide +kernel, by decide +kernel⟩, List.mem_of_getElem? (i := 557) (by decide +kernel), List.mem_of_getElem? (i := 790) (by decide +kernel), List.mem_of_getElem? (i := 791) (by decide +kernel)⟩
theorem lw_p38 : lw_okq (⟨"BookedDetoursModel", "number", "(I)I"⟩, 26) := ⟨⟨by decide +kernel, by decide +kernel⟩, List.mem_of_getElem? (i := 557) (by decide +kernel), List.mem_of_getElem? (i := 794) (by decide +kernel), List.mem_of_getElem? (i := 795) (by decide +kernel)⟩
theorem lw_p39 : lw_okq (⟨"BookedDetoursModel", "sign", "()I"⟩, 26) := ⟨⟨by decide +kernel, by decide +kernel⟩, List.mem_of_getElem? (i := 557) (by decide +kernel), List.mem_of_getElem? (i := 798) (by decide +kernel), List.mem_of_getElem? (i := 799) (by decide +kernel)⟩
theorem lw_p40 : lw_okq (⟨"BookedDetoursModel", "wants", "(I)V"⟩, 26) := ⟨⟨by decide +kernel, by decide +kernel⟩, List.mem_of_getElem? (i := 557) (by decide +kernel), List.mem_of_getElem? (i := 802) (by decide +kernel), List.mem_of_getElem? (i := 803) (by decide +kernel)⟩
theorem lw_p41 : lw_okq (⟨"BookedDetoursModel", "timeOf", "(IZ)I"⟩, 26) := ⟨⟨by decide +kernel, by decide +kernel⟩, List.mem_of_getElem? (i := 557) (by decide +kernel), List.mem_of_getElem? (i := 814) (by decide +kernel), List.mem_of_getElem? (i := 815) (by decide +kernel)⟩
theorem lw_p42 : lw_okq (⟨"BookedDetoursModel", "standing", "(I)I"⟩, 26) := ⟨⟨by decide +kernel, by decide +kernel⟩, List.mem_of_getElem? (i := 557) (by decide +kernel), List.mem_of_getElem? (i := 830) (by decide +kernel), List.mem_of_getElem? (i := 831) (by decide +kernel)⟩
theorem lw_p43 : lw_okq (⟨"BookedDetoursModel", "waiting", "()I"⟩, 26) := ⟨⟨by decide +kernel, by decide +kernel⟩, List.mem_of_getElem? (i := 557) (by decide +kernel), List.mem_of_getElem? (i := 834) (by decide +kernel), List.mem_of_getElem? (i := 835) (by decide +kernel)⟩
theorem lw_p44 : lw_okq (⟨"BookedDetoursModel", "putAside", "()V"⟩, 26) := ⟨⟨by decide +kernel, by decide +kernel⟩, List.mem_of_getElem? (i := 557) (by decide +kernel), List.mem_of_getElem? (i := 854) (by decide +kernel), List.mem_of_getElem? (i := 855) (by decide +kernel)⟩
theorem lw_p45 : lw_okq (⟨"BookedDetoursModel", "takeBack", "()V"⟩, 26) := ⟨⟨by decide +kernel, by decide +kernel⟩, List.mem_of_getElem? (i := 557) (by decide +kernel), List.mem_of_getElem? (i := 858) (by decide +kernel), List.mem_of_getElem? (i := 859) (by decide +kernel)⟩
def lw_privs_3 : List (MethodName × Nat) := [(⟨"BookedDetoursModel", "leaves", "(I)V"⟩, 26), (⟨"BookedDetoursModel", "drivesRoute", "()V"⟩, 26), (⟨"BookedDetoursModel", "laysRoute", "()V"⟩, 26), (⟨"BookedDetoursModel", "visits", "()V"⟩, 26), (⟨"BookedDetoursModel", "reads", "()I"⟩, 26), (⟨"BookedDetoursModel", "readsBooking", "()V"⟩, 26), (⟨"BookedDetoursModel", "number", "(I)I"⟩, 26), (⟨"BookedDetoursModel", "sign", "()I"⟩, 26), (⟨"BookedDetoursModel", "wants", "(I)V"⟩, 26), (⟨"BookedDetoursModel", "timeOf", "(IZ)I"⟩, 26), (⟨"BookedDetoursModel", "standing", "(I)I"⟩, 26), (⟨"BookedDetoursModel", "waiting", "()I"⟩, 26), (⟨"BookedDetoursModel", "putAside", "()V"⟩, 26), (⟨"BookedDetoursModel", "takeBack", "()V"⟩, 26)]
theorem lw_r3 : ∀ q ∈ lw_privs_3, lw_okq q := List.forall_mem_cons.mpr ⟨lw_p32, List.forall_mem_cons.mpr ⟨lw_p33, List.forall_mem_cons.mpr ⟨lw_p34, List.forall_mem_cons.mpr ⟨lw_p35, List.forall_mem_cons.mpr ⟨lw_p36, List.forall_mem_cons.mpr ⟨lw_p37, List.forall_mem_cons.mpr ⟨lw_p38, List.forall_mem_cons.mpr ⟨lw_p39, List.forall_mem_cons.mpr ⟨lw_p40, List.forall_mem_cons.mpr ⟨lw_p41, List.forall_mem_cons.mpr ⟨lw_p42, List.forall_mem_cons.mpr ⟨lw_p43, List.forall_mem_cons.mpr ⟨lw_p44, List.forall_mem_cons.mpr ⟨lw_p45, fun _ h => absurd h List.not_mem_nil⟩⟩⟩⟩⟩⟩⟩⟩⟩⟩⟩⟩⟩⟩
def lw_privs : List (MethodName × Nat) := lw_privs_1 ++ (lw_privs_2 ++ (lw_privs_3))
def lw_tbl : List Cond := k2_sels lw_privs ++ tables_1
theorem lw_privs_ok : ∀ q ∈ lw_privs, lw_okq q := by
  show ∀ q ∈ lw_privs_1 ++ (lw_privs_2 ++ (lw_privs_3)), lw_okq q
  exact List.forall_mem_append.mpr ⟨lw_r1, List.forall_mem_append.mpr ⟨lw_r2, lw_r3⟩⟩
end
section
/-! ===== BEGIN words of one list among another's, by their places ===== -/
theorem goodIn_r {big : List Cond} (ws : List Cond) (ps : List Nat) (hp : ws = ps.filterMap (fun i => big[i]?)) (h : ws.all goodWord = true) : GoodIn big ws := by
  intro w hw
  have h1 := List.all_eq_true.mp h w hw
  rw [hp] at hw
  obtain ⟨i, -, hi⟩ := List.mem_filterMap.mp hw
  have hm : w ∈ big := by first | exact List.mem_of_getElem? hi | exact List.getElem?_mem hi
  exact ⟨hm, good_of_word h1⟩
theorem goodIn_app {big a b : List Cond} (ha : GoodIn big a) (hb : GoodIn big b) : GoodIn big (a ++ b) := fun w h => (List.mem_append.mp h).elim (ha w) (hb w)
theorem goodIn_ca {big a b : List Cond} {c : Cond} (ha : GoodIn big (c :: a)) (hb : GoodIn big b) : GoodIn big (c :: (a ++ b)) := fun w h => (List.mem_cons.mp h).elim (fun e => ha w (List.mem_cons.mpr (Or.inl e))) (fun h => (List.mem_append.mp h).elim (fun h => ha w (List.mem_cons.mpr (Or.inr h))) (hb w))
theorem goodIn_sub {big ws : List Cond} (hm : ∀ w ∈ ws, w ∈ big) (h : ws.all goodWord = true) : GoodIn big ws := fun w hw => ⟨hm w hw, good_of_word (List.all_eq_true.mp h w hw)⟩
/-! ===== END ===== -/

/-! ===== BEGIN printed: names, fields, word lists, decode rows ===== -/
def RX0 : String := "BookedDetours$Day"
def TX0 : u_T := fun k => match k with
  | 0 => ("BookedDetours$Day", "settings", "LBookedDetours$Row;", true)
  | 1 => ("BookedDetours$Day", "xs", "LBookedDetours$Row;", true)
  | 2 => ("BookedDetours$Day", "ys", "LBookedDetours$Row;", true)
  | 3 => ("BookedDetours$Day", "froms", "LBookedDetours$Row;", true)
  | 4 => ("BookedDetours$Day", "tos", "LBookedDetours$Row;", true)
  | 5 => ("BookedDetours$Day", "waits", "LBookedDetours$Row;", true)
  | 6 => ("BookedDetours$Day", "bys", "LBookedDetours$Row;", true)
  | 7 => ("BookedDetours$Day", "straights", "LBookedDetours$Row;", true)
  | 8 => ("BookedDetours$Day", "stands", "LBookedDetours$Row;", true)
  | 9 => ("BookedDetours$Day", "picks", "LBookedDetours$Row;", true)
  | 10 => ("BookedDetours$Day", "downs", "LBookedDetours$Row;", true)
  | 11 => ("BookedDetours$Day", "route", "LBookedDetours$Row;", true)
  | 12 => ("BookedDetours$Day", "now", "I", false)
  | 13 => ("BookedDetours$Day", "busStop", "I", false)
  | _ => ("BookedDetours$Day", "busFree", "I", false)
def tyX0 : Nat → FieldType := fun k => match k with
  | 0 => .object "BookedDetours$Row"
  | 1 => .object "BookedDetours$Row"
  | 2 => .object "BookedDetours$Row"
  | 3 => .object "BookedDetours$Row"
  | 4 => .object "BookedDetours$Row"
  | 5 => .object "BookedDetours$Row"
  | 6 => .object "BookedDetours$Row"
  | 7 => .object "BookedDetours$Row"
  | 8 => .object "BookedDetours$Row"
  | 9 => .object "BookedDetours$Row"
  | 10 => .object "BookedDetours$Row"
  | 11 => .object "BookedDetours$Row"
  | 12 => .int
  | 13 => .int
  | _ => .int
abbrev wsX00 : List Cond := u_ws RX0 TX0 15
theorem nmX0 : ∀ a, a < 15 → ∀ b, b < 15 → a ≠ b → (TX0 a).2.1 ≠ (TX0 b).2.1 := by decide +kernel
theorem tyX0_ok : ∀ k, k < 15 → parseFieldDescriptor (TX0 k).2.2.1 = some (tyX0 k) := by decide +kernel
abbrev cX0_init : ByteArray := prog_2_method_1_code
def yX0_init : MethodName := ⟨RX0, "<init>", "()V"⟩
abbrev cX0_copy : ByteArray := prog_2_method_2_code
def yX0_copy : MethodName := ⟨RX0, "copy", "(LBookedDetours$Day;)V"⟩
abbrev cX0_hasStop : ByteArray := prog_2_method_3_code
def yX0_hasStop : MethodName := ⟨RX0, "hasStop", "(I)Z"⟩
abbrev cX0_hasRide : ByteArray := prog_2_method_4_code
def yX0_hasRide : MethodName := ⟨RX0, "hasRide", "(I)Z"⟩
abbrev cX0_ridesThatStand : ByteArray := prog_2_method_5_code
def yX0_ridesThatStand : MethodName := ⟨RX0, "ridesThatStand", "(I)I"⟩
abbrev cX0_minutes : ByteArray := prog_2_method_6_code
def yX0_minutes : MethodName := ⟨RX0, "minutes", "(II)I"⟩
abbrev cX0_stopOf : ByteArray := prog_2_method_7_code
def yX0_stopOf : MethodName := ⟨RX0, "stopOf", "(I)I"⟩
abbrev cX0_isOnItsWay : ByteArray := prog_2_method_8_code
def yX0_isOnItsWay : MethodName := ⟨RX0, "isOnItsWay", "()Z"⟩
abbrev cX0_addRide : ByteArray := prog_2_method_9_code
def yX0_addRide : MethodName := ⟨RX0, "addRide", "(IIII)I"⟩
abbrev cX0_beReady : ByteArray := prog_2_method_10_code
def yX0_beReady : MethodName := ⟨RX0, "beReady", "()V"⟩
abbrev cX0_leaveOut : ByteArray := prog_2_method_11_code
def yX0_leaveOut : MethodName := ⟨RX0, "leaveOut", "(II)V"⟩
abbrev cX0_endAtFirst : ByteArray := prog_2_method_12_code
def yX0_endAtFirst : MethodName := ⟨RX0, "endAtFirst", "()V"⟩
abbrev cX0_carryOut : ByteArray := prog_2_method_13_code
def yX0_carryOut : MethodName := ⟨RX0, "carryOut", "(LBookedDetours$Timetable;)I"⟩
abbrev cX0_make : ByteArray := prog_2_method_14_code
def yX0_make : MethodName := ⟨RX0, "make", "(II)V"⟩
def RX1 : String := "BookedDetours$History"
def TX1 : u_T := fun k => match k with
  | 0 => ("BookedDetours$History", "days", "[LBookedDetours$Day;", true)
  | _ => ("BookedDetours$History", "length", "I", false)
def tyX1 : Nat → FieldType := fun k => match k with
  | 0 => .array (.object "BookedDetours$Day")
  | _ => .int
abbrev wsX10 : List Cond := u_ws RX1 TX1 2
theorem nmX1 : ∀ a, a < 2 → ∀ b, b < 2 → a ≠ b → (TX1 a).2.1 ≠ (TX1 b).2.1 := by decide +kernel
theorem tyX1_ok : ∀ k, k < 2 → parseFieldDescriptor (TX1 k).2.2.1 = some (tyX1 k) := by decide +kernel
abbrev cX1_init : ByteArray := prog_3_method_1_code
def yX1_init : MethodName := ⟨RX1, "<init>", "()V"⟩
abbrev cX1_add : ByteArray := prog_3_method_2_code
def yX1_add : MethodName := ⟨RX1, "add", "(LBookedDetours$Day;)V"⟩
abbrev cX1_dropOldest : ByteArray := prog_3_method_3_code
def yX1_dropOldest : MethodName := ⟨RX1, "dropOldest", "()V"⟩
abbrev cX1_takeLatest : ByteArray := prog_3_method_4_code
def yX1_takeLatest : MethodName := ⟨RX1, "takeLatest", "(LBookedDetours$Day;)Z"⟩
def RX2 : String := "BookedDetours$Pad"
def TX2 : u_T := fun k => match k with
  | 0 => ("BookedDetours$Pad", "signs", "LBookedDetours$Row;", true)
  | _ => ("BookedDetours$Pad", "numbers", "LBookedDetours$Row;", true)
def tyX2 : Nat → FieldType := fun k => match k with
  | 0 => .object "BookedDetours$Row"
  | _ => .object "BookedDetours$Row"
abbrev wsX20 : List Cond := u_ws RX2 TX2 2
theorem nmX2 : ∀ a, a < 2 → ∀ b, b < 2 → a ≠ b → (TX2 a).2.1 ≠ (TX2 b).2.1 := by decide +kernel
theorem tyX2_ok : ∀ k, k < 2 → parseFieldDescriptor (TX2 k).2.2.1 = some (tyX2 k) := by decide +kernel
abbrev cX2_init : ByteArray := prog_4_method_1_code
def yX2_init : MethodName := ⟨RX2, "<init>", "()V"⟩
abbrev cX2_signsIn : ByteArray := prog_4_method_2_code
def yX2_signsIn : MethodName := ⟨RX2, "signsIn", "(J)I"⟩
abbrev cX2_append : ByteArray := prog_4_method_3_code
def yX2_append : MethodName := ⟨RX2, "append", "(JI)V"⟩
abbrev cX2_findFault : ByteArray := prog_4_method_4_code
def yX2_findFault : MethodName := ⟨RX2, "findFault", "()I"⟩
abbrev cX2_withDigit : ByteArray := prog_4_method_5_code
def yX2_withDigit : MethodName := ⟨RX2, "withDigit", "(II)I"⟩
abbrev cX2_mostIn : ByteArray := prog_4_method_6_code
def yX2_mostIn : MethodName := ⟨RX2, "mostIn", "(I)I"⟩
abbrev cX2_endOf : ByteArray := prog_4_method_7_code
def yX2_endOf : MethodName := ⟨RX2, "endOf", "(I)C"⟩
def RX3 : String := "BookedDetours$Row"
def TX3 : u_T := fun k => match k with
  | 0 => ("BookedDetours$Row", "cells", "[I", true)
  | _ => ("BookedDetours$Row", "length", "I", false)
def tyX3 : Nat → FieldType := fun k => match k with
  | 0 => .array .int
  | _ => .int
abbrev wsX30 : List Cond := u_ws RX3 TX3 2
theorem nmX3 : ∀ a, a < 2 → ∀ b, b < 2 → a ≠ b → (TX3 a).2.1 ≠ (TX3 b).2.1 := by decide +kernel
theorem tyX3_ok : ∀ k, k < 2 → parseFieldDescriptor (TX3 k).2.2.1 = some (tyX3 k) := by decide +kernel
abbrev cX3_init : ByteArray := prog_5_method_1_code
def yX3_init : MethodName := ⟨RX3, "<init>", "(I)V"⟩
abbrev cX3_length : ByteArray := prog_5_method_2_code
def yX3_length : MethodName := ⟨RX3, "length", "()I"⟩
abbrev cX3_at : ByteArray := prog_5_method_3_code
def yX3_at : MethodName := ⟨RX3, "at", "(I)I"⟩
abbrev cX3_change : ByteArray := prog_5_method_4_code
def yX3_change : MethodName := ⟨RX3, "change", "(II)V"⟩
abbrev cX3_add : ByteArray := prog_5_method_5_code
def yX3_add : MethodName := ⟨RX3, "add", "(I)V"⟩
abbrev cX3_insert : ByteArray := prog_5_method_6_code
def yX3_insert : MethodName := ⟨RX3, "insert", "(II)V"⟩
abbrev cX3_remove : ByteArray := prog_5_method_7_code
def yX3_remove : MethodName := ⟨RX3, "remove", "(I)V"⟩
abbrev cX3_clear : ByteArray := prog_5_method_8_code
def yX3_clear : MethodName := ⟨RX3, "clear", "()V"⟩
abbrev cX3_copy : ByteArray := prog_5_method_9_code
def yX3_copy : MethodName := ⟨RX3, "copy", "(LBookedDetours$Row;)V"⟩
def RX4 : String := "BookedDetours$Search"
def TX4 : u_T := fun k => match k with
  | 0 => ("BookedDetours$Search", "day", "LBookedDetours$Day;", true)
  | 1 => ("BookedDetours$Search", "table", "LBookedDetours$Timetable;", true)
  | 2 => ("BookedDetours$Search", "ways", "I", false)
  | 3 => ("BookedDetours$Search", "over", "I", false)
  | 4 => ("BookedDetours$Search", "pickTime", "I", false)
  | 5 => ("BookedDetours$Search", "downTime", "I", false)
  | 6 => ("BookedDetours$Search", "earliestDown", "I", false)
  | 7 => ("BookedDetours$Search", "pickPlace", "I", false)
  | _ => ("BookedDetours$Search", "downPlace", "I", false)
def tyX4 : Nat → FieldType := fun k => match k with
  | 0 => .object "BookedDetours$Day"
  | 1 => .object "BookedDetours$Timetable"
  | 2 => .int
  | 3 => .int
  | 4 => .int
  | 5 => .int
  | 6 => .int
  | 7 => .int
  | _ => .int
abbrev wsX40 : List Cond := u_ws RX4 TX4 9
theorem nmX4 : ∀ a, a < 9 → ∀ b, b < 9 → a ≠ b → (TX4 a).2.1 ≠ (TX4 b).2.1 := by decide +kernel
theorem tyX4_ok : ∀ k, k < 9 → parseFieldDescriptor (TX4 k).2.2.1 = some (tyX4 k) := by decide +kernel
abbrev cX4_init : ByteArray := prog_6_method_1_code
def yX4_init : MethodName := ⟨RX4, "<init>", "()V"⟩
abbrev cX4_find : ByteArray := prog_6_method_2_code
def yX4_find : MethodName := ⟨RX4, "find", "(LBookedDetours$Day;IIII)Z"⟩
abbrev cX4_takeWay : ByteArray := prog_6_method_3_code
def yX4_takeWay : MethodName := ⟨RX4, "takeWay", "(III)V"⟩
abbrev cX4_lay : ByteArray := prog_6_method_4_code
def yX4_lay : MethodName := ⟨RX4, "lay", "(LBookedDetours$Row;III)V"⟩
def RX5 : String := "BookedDetours$Timetable"
def TX5 : u_T := fun k => match k with
  | 0 => ("BookedDetours$Timetable", "times", "LBookedDetours$Row;", true)
  | 1 => ("BookedDetours$Timetable", "loads", "LBookedDetours$Row;", true)
  | 2 => ("BookedDetours$Timetable", "delays", "LBookedDetours$Row;", true)
  | 3 => ("BookedDetours$Timetable", "picks", "LBookedDetours$Row;", true)
  | 4 => ("BookedDetours$Timetable", "downs", "LBookedDetours$Row;", true)
  | 5 => ("BookedDetours$Timetable", "stop", "I", false)
  | 6 => ("BookedDetours$Timetable", "free", "I", false)
  | 7 => ("BookedDetours$Timetable", "aboard", "I", false)
  | 8 => ("BookedDetours$Timetable", "driving", "I", false)
  | _ => ("BookedDetours$Timetable", "waiting", "I", false)
def tyX5 : Nat → FieldType := fun k => match k with
  | 0 => .object "BookedDetours$Row"
  | 1 => .object "BookedDetours$Row"
  | 2 => .object "BookedDetours$Row"
  | 3 => .object "BookedDetours$Row"
  | 4 => .object "BookedDetours$Row"
  | 5 => .int
  | 6 => .int
  | 7 => .int
  | 8 => .int
  | _ => .int
abbrev wsX50 : List Cond := u_ws RX5 TX5 10
theorem nmX5 : ∀ a, a < 10 → ∀ b, b < 10 → a ≠ b → (TX5 a).2.1 ≠ (TX5 b).2.1 := by decide +kernel
theorem tyX5_ok : ∀ k, k < 10 → parseFieldDescriptor (TX5 k).2.2.1 = some (tyX5 k) := by decide +kernel
abbrev cX5_init : ByteArray := prog_7_method_1_code
def yX5_init : MethodName := ⟨RX5, "<init>", "()V"⟩
abbrev cX5_follow : ByteArray := prog_7_method_2_code
def yX5_follow : MethodName := ⟨RX5, "follow", "(LBookedDetours$Day;)V"⟩
abbrev cX5_keepsAll : ByteArray := prog_7_method_3_code
def yX5_keepsAll : MethodName := ⟨RX5, "keepsAll", "(LBookedDetours$Day;)Z"⟩
abbrev cX5_begin : ByteArray := prog_7_method_4_code
def yX5_begin : MethodName := ⟨RX5, "begin", "(LBookedDetours$Day;)V"⟩
abbrev cX5_step : ByteArray := prog_7_method_5_code
def yX5_step : MethodName := ⟨RX5, "step", "(LBookedDetours$Day;I)Z"⟩
abbrev cX5_latestByDetour : ByteArray := prog_7_method_6_code
def yX5_latestByDetour : MethodName := ⟨RX5, "latestByDetour", "(LBookedDetours$Day;I)I"⟩
def RX6 : String := "BookedDetours"
def TX6 : u_T := fun k => match k with
  | 0 => ("BookedDetours", "day", "LBookedDetours$Day;", true)
  | 1 => ("BookedDetours", "table", "LBookedDetours$Timetable;", true)
  | 2 => ("BookedDetours", "search", "LBookedDetours$Search;", true)
  | 3 => ("BookedDetours", "pad", "LBookedDetours$Pad;", true)
  | 4 => ("BookedDetours", "history", "LBookedDetours$History;", true)
  | _ => ("BookedDetours", "slots", "[LBookedDetours$Day;", true)
def tyX6 : Nat → FieldType := fun k => match k with
  | 0 => .object "BookedDetours$Day"
  | 1 => .object "BookedDetours$Timetable"
  | 2 => .object "BookedDetours$Search"
  | 3 => .object "BookedDetours$Pad"
  | 4 => .object "BookedDetours$History"
  | _ => .array (.object "BookedDetours$Day")
abbrev wsX60 : List Cond := u_ws RX6 TX6 6
theorem nmX6 : ∀ a, a < 6 → ∀ b, b < 6 → a ≠ b → (TX6 a).2.1 ≠ (TX6 b).2.1 := by decide +kernel
theorem tyX6_ok : ∀ k, k < 6 → parseFieldDescriptor (TX6 k).2.2.1 = some (tyX6 k) := by decide +kernel
abbrev cX6_init : ByteArray := prog_1_method_1_code
def yX6_init : MethodName := ⟨RX6, "<init>", "()V"⟩
abbrev cX6_set : ByteArray := prog_1_method_2_code
def yX6_set : MethodName := ⟨RX6, "set", "(II)I"⟩
abbrev cX6_stop : ByteArray := prog_1_method_3_code
def yX6_stop : MethodName := ⟨RX6, "stop", "(II)I"⟩
abbrev cX6_book : ByteArray := prog_1_method_4_code
def yX6_book : MethodName := ⟨RX6, "book", "(IIII)I"⟩
abbrev cX6_cancel : ByteArray := prog_1_method_5_code
def yX6_cancel : MethodName := ⟨RX6, "cancel", "(I)I"⟩
abbrev cX6_pass : ByteArray := prog_1_method_6_code
def yX6_pass : MethodName := ⟨RX6, "pass", "(I)I"⟩
abbrev cX6_miss : ByteArray := prog_1_method_7_code
def yX6_miss : MethodName := ⟨RX6, "miss", "(I)I"⟩
abbrev cX6_bookAll : ByteArray := prog_1_method_8_code
def yX6_bookAll : MethodName := ⟨RX6, "bookAll", "()I"⟩
abbrev cX6_ride : ByteArray := prog_1_method_9_code
def yX6_ride : MethodName := ⟨RX6, "ride", "(II)I"⟩
abbrev cX6_visit : ByteArray := prog_1_method_10_code
def yX6_visit : MethodName := ⟨RX6, "visit", "(II)I"⟩
abbrev cX6_coordinate : ByteArray := prog_1_method_11_code
def yX6_coordinate : MethodName := ⟨RX6, "coordinate", "(II)I"⟩
abbrev cX6_count : ByteArray := prog_1_method_12_code
def yX6_count : MethodName := ⟨RX6, "count", "(I)I"⟩
abbrev cX6_ifBooked : ByteArray := prog_1_method_13_code
def yX6_ifBooked : MethodName := ⟨RX6, "ifBooked", "(IIIII)I"⟩
abbrev cX6_earliestBy : ByteArray := prog_1_method_14_code
def yX6_earliestBy : MethodName := ⟨RX6, "earliestBy", "(III)I"⟩
abbrev cX6_spare : ByteArray := prog_1_method_15_code
def yX6_spare : MethodName := ⟨RX6, "spare", "(I)I"⟩
abbrev cX6_dearest : ByteArray := prog_1_method_16_code
def yX6_dearest : MethodName := ⟨RX6, "dearest", "(I)I"⟩
abbrev cX6_put : ByteArray := prog_1_method_17_code
def yX6_put : MethodName := ⟨RX6, "put", "(J)I"⟩
abbrev cX6_wipe : ByteArray := prog_1_method_18_code
def yX6_wipe : MethodName := ⟨RX6, "wipe", "()I"⟩
abbrev cX6_fault : ByteArray := prog_1_method_19_code
def yX6_fault : MethodName := ⟨RX6, "fault", "()I"⟩
abbrev cX6_undo : ByteArray := prog_1_method_20_code
def yX6_undo : MethodName := ⟨RX6, "undo", "()I"⟩
abbrev cX6_save : ByteArray := prog_1_method_21_code
def yX6_save : MethodName := ⟨RX6, "save", "(I)I"⟩
abbrev cX6_restore : ByteArray := prog_1_method_22_code
def yX6_restore : MethodName := ⟨RX6, "restore", "(I)I"⟩
abbrev cX6_leastOf : ByteArray := prog_1_method_23_code
def yX6_leastOf : MethodName := ⟨RX6, "leastOf", "(I)I"⟩
abbrev cX6_mostOf : ByteArray := prog_1_method_24_code
def yX6_mostOf : MethodName := ⟨RX6, "mostOf", "(I)I"⟩
abbrev cX6_rideOf : ByteArray := prog_1_method_25_code
def yX6_rideOf : MethodName := ⟨RX6, "rideOf", "(I)I"⟩
abbrev cX6_setsDown : ByteArray := prog_1_method_26_code
def yX6_setsDown : MethodName := ⟨RX6, "setsDown", "(I)Z"⟩
abbrev cX6_pickUp : ByteArray := prog_1_method_27_code
def yX6_pickUp : MethodName := ⟨RX6, "pickUp", "(I)I"⟩
abbrev cX6_setDown : ByteArray := prog_1_method_28_code
def yX6_setDown : MethodName := ⟨RX6, "setDown", "(I)I"⟩
abbrev cX6_errorOf : ByteArray := prog_1_method_29_code
def yX6_errorOf : MethodName := ⟨RX6, "errorOf", "(IIII)I"⟩
abbrev cX6_tryToBook : ByteArray := prog_1_method_30_code
def yX6_tryToBook : MethodName := ⟨RX6, "tryToBook", "(IIII)I"⟩
abbrev cX6_overOf : ByteArray := prog_1_method_31_code
def yX6_overOf : MethodName := ⟨RX6, "overOf", "(LBookedDetours$Day;)I"⟩
def RX7 : String := "BookedDetoursModel"
def TX7 : u_T := fun k => match k with
  | 0 => ("BookedDetoursModel", "thrown", "I", false)
  | 1 => ("BookedDetoursModel", "s", "[I", true)
  | 2 => ("BookedDetoursModel", "aside", "[I", true)
  | 3 => ("BookedDetoursModel", "undos", "[I", true)
  | 4 => ("BookedDetoursModel", "undoMany", "I", false)
  | 5 => ("BookedDetoursModel", "slots", "[I", true)
  | 6 => ("BookedDetoursModel", "hasSlot", "[Z", true)
  | 7 => ("BookedDetoursModel", "pad", "[I", true)
  | 8 => ("BookedDetoursModel", "length", "I", false)
  | 9 => ("BookedDetoursModel", "way", "[I", true)
  | 10 => ("BookedDetoursModel", "wayMany", "I", false)
  | 11 => ("BookedDetoursModel", "times", "[I", true)
  | 12 => ("BookedDetoursModel", "waits", "[I", true)
  | 13 => ("BookedDetoursModel", "aboards", "[I", true)
  | 14 => ("BookedDetoursModel", "driven", "I", false)
  | 15 => ("BookedDetoursModel", "over", "I", false)
  | 16 => ("BookedDetoursModel", "isKept", "Z", false)
  | 17 => ("BookedDetoursModel", "bestPick", "I", false)
  | 18 => ("BookedDetoursModel", "bestSet", "I", false)
  | 19 => ("BookedDetoursModel", "bestOver", "I", false)
  | 20 => ("BookedDetoursModel", "wayCount", "I", false)
  | 21 => ("BookedDetoursModel", "leastDown", "I", false)
  | 22 => ("BookedDetoursModel", "at", "I", false)
  | 23 => ("BookedDetoursModel", "isWell", "Z", false)
  | 24 => ("BookedDetoursModel", "told", "[I", true)
  | _ => ("BookedDetoursModel", "toldMany", "I", false)
def tyX7 : Nat → FieldType := fun k => match k with
  | 0 => .int
  | 1 => .array .int
  | 2 => .array .int
  | 3 => .array .int
  | 4 => .int
  | 5 => .array .int
  | 6 => .array .boolean
  | 7 => .array .int
  | 8 => .int
  | 9 => .array .int
  | 10 => .int
  | 11 => .array .int
  | 12 => .array .int
  | 13 => .array .int
  | 14 => .int
  | 15 => .int
  | 16 => .boolean
  | 17 => .int
  | 18 => .int
  | 19 => .int
  | 20 => .int
  | 21 => .int
  | 22 => .int
  | 23 => .boolean
  | 24 => .array .int
  | _ => .int
abbrev wsX70 : List Cond := u_ws RX7 TX7 26
theorem nmX7 : ∀ a, a < 26 → ∀ b, b < 26 → a ≠ b → (TX7 a).2.1 ≠ (TX7 b).2.1 := by decide +kernel
theorem tyX7_ok : ∀ k, k < 26 → parseFieldDescriptor (TX7 k).2.2.1 = some (tyX7 k) := by decide +kernel
abbrev cX7_init : ByteArray := prog_9_method_1_code
def yX7_init : MethodName := ⟨RX7, "<init>", "()V"⟩
abbrev cX7_in : ByteArray := prog_9_method_3_code
def yX7_in : MethodName := ⟨RX7, "in", "(III)Z"⟩
abbrev cX7_isStop : ByteArray := prog_9_method_4_code
def yX7_isStop : MethodName := ⟨RX7, "isStop", "(I)Z"⟩
abbrev cX7_isRide : ByteArray := prog_9_method_5_code
def yX7_isRide : MethodName := ⟨RX7, "isRide", "(I)Z"⟩
abbrev cX7_of : ByteArray := prog_9_method_6_code
def yX7_of : MethodName := ⟨RX7, "of", "(II)I"⟩
abbrev cX7_lay : ByteArray := prog_9_method_7_code
def yX7_lay : MethodName := ⟨RX7, "lay", "(III)V"⟩
abbrev cX7_records : ByteArray := prog_9_method_8_code
def yX7_records : MethodName := ⟨RX7, "records", "()V"⟩
abbrev cX7_putAside : ByteArray := prog_9_method_9_code
def yX7_putAside : MethodName := ⟨RX7, "putAside", "()V"⟩
abbrev cX7_takeBack : ByteArray := prog_9_method_10_code
def yX7_takeBack : MethodName := ⟨RX7, "takeBack", "()V"⟩
abbrev cX7_apart : ByteArray := prog_9_method_11_code
def yX7_apart : MethodName := ⟨RX7, "apart", "(II)I"⟩
abbrev cX7_drive : ByteArray := prog_9_method_12_code
def yX7_drive : MethodName := ⟨RX7, "drive", "(II)I"⟩
abbrev cX7_stopOf : ByteArray := prog_9_method_13_code
def yX7_stopOf : MethodName := ⟨RX7, "stopOf", "(I)I"⟩
abbrev cX7_straight : ByteArray := prog_9_method_14_code
def yX7_straight : MethodName := ⟨RX7, "straight", "(I)I"⟩
abbrev cX7_aboardNow : ByteArray := prog_9_method_15_code
def yX7_aboardNow : MethodName := ⟨RX7, "aboardNow", "()I"⟩
abbrev cX7_placeOf : ByteArray := prog_9_method_16_code
def yX7_placeOf : MethodName := ⟨RX7, "placeOf", "(I)I"⟩
abbrev cX7_drives : ByteArray := prog_9_method_17_code
def yX7_drives : MethodName := ⟨RX7, "drives", "(I)V"⟩
abbrev cX7_isInTime : ByteArray := prog_9_method_18_code
def yX7_isInTime : MethodName := ⟨RX7, "isInTime", "(II)Z"⟩
abbrev cX7_laysRoute : ByteArray := prog_9_method_19_code
def yX7_laysRoute : MethodName := ⟨RX7, "laysRoute", "()V"⟩
abbrev cX7_drivesRoute : ByteArray := prog_9_method_20_code
def yX7_drivesRoute : MethodName := ⟨RX7, "drivesRoute", "()V"⟩
abbrev cX7_isOnWay : ByteArray := prog_9_method_21_code
def yX7_isOnWay : MethodName := ⟨RX7, "isOnWay", "()Z"⟩
abbrev cX7_leaving : ByteArray := prog_9_method_22_code
def yX7_leaving : MethodName := ⟨RX7, "leaving", "()I"⟩
abbrev cX7_laysWay : ByteArray := prog_9_method_23_code
def yX7_laysWay : MethodName := ⟨RX7, "laysWay", "(III)V"⟩
abbrev cX7_laysRide : ByteArray := prog_9_method_24_code
def yX7_laysRide : MethodName := ⟨RX7, "laysRide", "(IIII)I"⟩
abbrev cX7_findsWay : ByteArray := prog_9_method_25_code
def yX7_findsWay : MethodName := ⟨RX7, "findsWay", "(I)Z"⟩
abbrev cX7_refuses : ByteArray := prog_9_method_26_code
def yX7_refuses : MethodName := ⟨RX7, "refuses", "(IIII)I"⟩
abbrev cX7_refusesBook : ByteArray := prog_9_method_27_code
def yX7_refusesBook : MethodName := ⟨RX7, "refusesBook", "(IIII)I"⟩
abbrev cX7_books : ByteArray := prog_9_method_28_code
def yX7_books : MethodName := ⟨RX7, "books", "()I"⟩
abbrev cX7_book : ByteArray := prog_9_method_29_code
def yX7_book : MethodName := ⟨RX7, "book", "(IIII)I"⟩
abbrev cX7_set : ByteArray := prog_9_method_30_code
def yX7_set : MethodName := ⟨RX7, "set", "(II)I"⟩
abbrev cX7_stop : ByteArray := prog_9_method_31_code
def yX7_stop : MethodName := ⟨RX7, "stop", "(II)I"⟩
abbrev cX7_leaves : ByteArray := prog_9_method_32_code
def yX7_leaves : MethodName := ⟨RX7, "leaves", "(I)V"⟩
abbrev cX7_cancels : ByteArray := prog_9_method_33_code
def yX7_cancels : MethodName := ⟨RX7, "cancels", "(I)V"⟩
abbrev cX7_cancel : ByteArray := prog_9_method_34_code
def yX7_cancel : MethodName := ⟨RX7, "cancel", "(I)I"⟩
abbrev cX7_miss : ByteArray := prog_9_method_35_code
def yX7_miss : MethodName := ⟨RX7, "miss", "(I)I"⟩
abbrev cX7_visits : ByteArray := prog_9_method_36_code
def yX7_visits : MethodName := ⟨RX7, "visits", "()V"⟩
abbrev cX7_pass : ByteArray := prog_9_method_37_code
def yX7_pass : MethodName := ⟨RX7, "pass", "(I)I"⟩
abbrev cX7_put : ByteArray := prog_9_method_38_code
def yX7_put : MethodName := ⟨RX7, "put", "(J)I"⟩
abbrev cX7_wipe : ByteArray := prog_9_method_39_code
def yX7_wipe : MethodName := ⟨RX7, "wipe", "()I"⟩
abbrev cX7_sign : ByteArray := prog_9_method_40_code
def yX7_sign : MethodName := ⟨RX7, "sign", "()I"⟩
abbrev cX7_wants : ByteArray := prog_9_method_41_code
def yX7_wants : MethodName := ⟨RX7, "wants", "(I)V"⟩
abbrev cX7_number : ByteArray := prog_9_method_42_code
def yX7_number : MethodName := ⟨RX7, "number", "(I)I"⟩
abbrev cX7_readsBooking : ByteArray := prog_9_method_43_code
def yX7_readsBooking : MethodName := ⟨RX7, "readsBooking", "()V"⟩
abbrev cX7_reads : ByteArray := prog_9_method_44_code
def yX7_reads : MethodName := ⟨RX7, "reads", "()I"⟩
abbrev cX7_fault : ByteArray := prog_9_method_45_code
def yX7_fault : MethodName := ⟨RX7, "fault", "()I"⟩
abbrev cX7_bookAll : ByteArray := prog_9_method_46_code
def yX7_bookAll : MethodName := ⟨RX7, "bookAll", "()I"⟩
abbrev cX7_timeOf : ByteArray := prog_9_method_47_code
def yX7_timeOf : MethodName := ⟨RX7, "timeOf", "(IZ)I"⟩
abbrev cX7_ride : ByteArray := prog_9_method_48_code
def yX7_ride : MethodName := ⟨RX7, "ride", "(II)I"⟩
abbrev cX7_visit : ByteArray := prog_9_method_49_code
def yX7_visit : MethodName := ⟨RX7, "visit", "(II)I"⟩
abbrev cX7_coordinate : ByteArray := prog_9_method_50_code
def yX7_coordinate : MethodName := ⟨RX7, "coordinate", "(II)I"⟩
abbrev cX7_standing : ByteArray := prog_9_method_51_code
def yX7_standing : MethodName := ⟨RX7, "standing", "(I)I"⟩
abbrev cX7_waiting : ByteArray := prog_9_method_52_code
def yX7_waiting : MethodName := ⟨RX7, "waiting", "()I"⟩
abbrev cX7_count : ByteArray := prog_9_method_53_code
def yX7_count : MethodName := ⟨RX7, "count", "(I)I"⟩
abbrev cX7_ifBooked : ByteArray := prog_9_method_54_code
def yX7_ifBooked : MethodName := ⟨RX7, "ifBooked", "(IIIII)I"⟩
abbrev cX7_earliestBy : ByteArray := prog_9_method_55_code
def yX7_earliestBy : MethodName := ⟨RX7, "earliestBy", "(III)I"⟩
abbrev cX7_spare : ByteArray := prog_9_method_56_code
def yX7_spare : MethodName := ⟨RX7, "spare", "(I)I"⟩
abbrev cX7_dearest : ByteArray := prog_9_method_57_code
def yX7_dearest : MethodName := ⟨RX7, "dearest", "(I)I"⟩
abbrev cX7_undo : ByteArray := prog_9_method_58_code
def yX7_undo : MethodName := ⟨RX7, "undo", "()I"⟩
abbrev cX7_save : ByteArray := prog_9_method_59_code
def yX7_save : MethodName := ⟨RX7, "save", "(I)I"⟩
abbrev cX7_restore : ByteArray := prog_9_method_60_code
def yX7_restore : MethodName := ⟨RX7, "restore", "(I)I"⟩
def RJ9 : String := "java/lang/Math"
def TJ9 : u_T := fun k => match k with
  | _ => ("", "", "", false)
def tyJ9 : Nat → FieldType := fun k => match k with
  | _ => .int
abbrev wsJ90 : List Cond := u_ws RJ9 TJ9 0
theorem nmJ9 : ∀ a, a < 0 → ∀ b, b < 0 → a ≠ b → (TJ9 a).2.1 ≠ (TJ9 b).2.1 := by decide +kernel
theorem tyJ9_ok : ∀ k, k < 0 → parseFieldDescriptor (TJ9 k).2.2.1 = some (tyJ9 k) := by decide +kernel
abbrev cJ9_abs_0f7a4 : ByteArray := prog_10_method_59_code
def yJ9_abs_0f7a4 : MethodName := ⟨RJ9, "abs", "(I)I"⟩
abbrev cJ9_max_7cf53 : ByteArray := prog_10_method_65_code
def yJ9_max_7cf53 : MethodName := ⟨RJ9, "max", "(II)I"⟩
abbrev cJ9_min_7cf53 : ByteArray := prog_10_method_69_code
def yJ9_min_7cf53 : MethodName := ⟨RJ9, "min", "(II)I"⟩
def RL : String := "BookedDetoursLaw"
abbrev cL_law : ByteArray := code
def yL_law : MethodName := ⟨RL, "law", "([I)Z"⟩
def wsX3_init : List Cond := .code yX3_init cX3_init 2 none :: ([.methodLink RX3 1 objectInit, .instanceMethod objectInit, .code objectInit ⟨#[0xb1]⟩ 1 none, .methodLink RX3 7 Lib.Math.max.name, .static Lib.Math.max.name, .initialized "java/lang/Math", .code Lib.Math.max.name Lib.Math.max.code 2 (some .int), .arrayClass .int, .fieldLink RX3 13 "BookedDetours$Row" "cells" "[I"] ++ wsX30)
def wsX3_insert : List Cond := .code yX3_insert cX3_insert 4 none :: ([.fieldLink RX3 19 "BookedDetours$Row" "length" "I", .fieldLink RX3 13 "BookedDetours$Row" "cells" "[I"] ++ wsX30)
def wsX3_add : List Cond := .code yX3_add cX3_add 2 none :: ([.fieldLink RX3 19 "BookedDetours$Row" "length" "I", .methodLink RX3 23 yX3_insert, .instanceMethod yX3_insert, .selects RX3 yX3_insert yX3_insert, .initialized RX3, .code yX3_insert cX3_insert 4 none, .fieldLink RX3 13 "BookedDetours$Row" "cells" "[I"] ++ wsX30)
def wsX0_init_r1 : List Cond := [Cond.methodLink RX0 3 objectInit, Cond.instanceMethod objectInit, Cond.code objectInit ⟨#[0xb1]⟩ 1 none, Cond.classLink RX0 9 RX3, Cond.instantiable RX3 2, Cond.initialized RX3, Cond.fieldLink RX0 14 "BookedDetours$Day" "settings" "LBookedDetours$Row;", Cond.fieldLink RX0 20 "BookedDetours$Day" "xs" "LBookedDetours$Row;", Cond.fieldLink RX0 23 "BookedDetours$Day" "ys" "LBookedDetours$Row;", Cond.fieldLink RX0 26 "BookedDetours$Day" "froms" "LBookedDetours$Row;", Cond.fieldLink RX0 29 "BookedDetours$Day" "tos" "LBookedDetours$Row;", Cond.fieldLink RX0 32 "BookedDetours$Day" "waits" "LBookedDetours$Row;", Cond.fieldLink RX0 35 "BookedDetours$Day" "bys" "LBookedDetours$Row;", Cond.fieldLink RX0 38 "BookedDetours$Day" "straights" "LBookedDetours$Row;", Cond.fieldLink RX0 41 "BookedDetours$Day" "stands" "LBookedDetours$Row;", Cond.fieldLink RX0 44 "BookedDetours$Day" "picks" "LBookedDetours$Row;", Cond.fieldLink RX0 47 "BookedDetours$Day" "downs" "LBookedDetours$Row;", Cond.fieldLink RX0 50 "BookedDetours$Day" "route" "LBookedDetours$Row;", Cond.methodLink RX0 11 yX3_init, Cond.instanceMethod yX3_init, Cond.code yX3_init cX3_init 2 none, Cond.methodLink RX3 1 objectInit, Cond.methodLink RX3 7 Lib.Math.max.name, Cond.static Lib.Math.max.name]
def wsX0_init_r2 : List Cond := [Cond.initialized "java/lang/Math", Cond.code Lib.Math.max.name Lib.Math.max.code 2 (some .int), Cond.arrayClass .int, Cond.fieldLink RX3 13 "BookedDetours$Row" "cells" "[I", Cond.methodLink RX0 53 yX3_add, Cond.instanceMethod yX3_add, Cond.selects RX3 yX3_add yX3_add, Cond.code yX3_add cX3_add 2 none, Cond.fieldLink RX3 19 "BookedDetours$Row" "length" "I", Cond.methodLink RX3 23 yX3_insert, Cond.instanceMethod yX3_insert, Cond.selects RX3 yX3_insert yX3_insert, Cond.code yX3_insert cX3_insert 4 none]
def wsX0_init : List Cond := .code yX0_init cX0_init 1 none :: ((wsX0_init_r1 ++ wsX0_init_r2) ++ wsX30 ++ wsX00)
def wsX3_copy : List Cond := .code yX3_copy cX3_copy 3 none :: ([.fieldLink RX3 19 "BookedDetours$Row" "length" "I", .fieldLink RX3 13 "BookedDetours$Row" "cells" "[I", .methodLink RX3 27 Lib.Math.min.name, .static Lib.Math.min.name, .initialized "java/lang/Math", .code Lib.Math.min.name Lib.Math.min.code 2 (some .int)] ++ wsX30)
def wsX0_copy_r1 : List Cond := [Cond.fieldLink RX0 14 "BookedDetours$Day" "settings" "LBookedDetours$Row;", Cond.fieldLink RX0 20 "BookedDetours$Day" "xs" "LBookedDetours$Row;", Cond.fieldLink RX0 23 "BookedDetours$Day" "ys" "LBookedDetours$Row;", Cond.fieldLink RX0 26 "BookedDetours$Day" "froms" "LBookedDetours$Row;", Cond.fieldLink RX0 29 "BookedDetours$Day" "tos" "LBookedDetours$Row;", Cond.fieldLink RX0 32 "BookedDetours$Day" "waits" "LBookedDetours$Row;", Cond.fieldLink RX0 35 "BookedDetours$Day" "bys" "LBookedDetours$Row;", Cond.fieldLink RX0 38 "BookedDetours$Day" "straights" "LBookedDetours$Row;", Cond.fieldLink RX0 41 "BookedDetours$Day" "stands" "LBookedDetours$Row;", Cond.fieldLink RX0 44 "BookedDetours$Day" "picks" "LBookedDetours$Row;", Cond.fieldLink RX0 47 "BookedDetours$Day" "downs" "LBookedDetours$Row;", Cond.fieldLink RX0 50 "BookedDetours$Day" "route" "LBookedDetours$Row;", Cond.fieldLink RX0 60 "BookedDetours$Day" "now" "I", Cond.fieldLink RX0 64 "BookedDetours$Day" "busStop" "I", Cond.fieldLink RX0 67 "BookedDetours$Day" "busFree" "I", Cond.methodLink RX0 56 yX3_copy, Cond.instanceMethod yX3_copy, Cond.selects RX3 yX3_copy yX3_copy, Cond.initialized RX3, Cond.code yX3_copy cX3_copy 3 none, Cond.fieldLink RX3 19 "BookedDetours$Row" "length" "I", Cond.fieldLink RX3 13 "BookedDetours$Row" "cells" "[I", Cond.methodLink RX3 27 Lib.Math.min.name, Cond.static Lib.Math.min.name]
def wsX0_copy_r2 : List Cond := [Cond.initialized "java/lang/Math", Cond.code Lib.Math.min.name Lib.Math.min.code 2 (some .int)]
def wsX0_copy : List Cond := .code yX0_copy cX0_copy 2 none :: ((wsX0_copy_r1 ++ wsX0_copy_r2) ++ wsX00 ++ wsX30)
def wsX3_length : List Cond := .code yX3_length cX3_length 1 (some .int) :: ([.fieldLink RX3 19 "BookedDetours$Row" "length" "I"] ++ wsX30)
def wsX0_hasStop : List Cond := .code yX0_hasStop cX0_hasStop 2 (some .boolean) :: ([.fieldLink RX0 20 "BookedDetours$Day" "xs" "LBookedDetours$Row;", .methodLink RX0 70 yX3_length, .instanceMethod yX3_length, .selects RX3 yX3_length yX3_length, .initialized RX3, .code yX3_length cX3_length 1 (some .int), .fieldLink RX3 19 "BookedDetours$Row" "length" "I"] ++ wsX00 ++ wsX30)
def wsX0_hasRide : List Cond := .code yX0_hasRide cX0_hasRide 2 (some .boolean) :: ([.fieldLink RX0 41 "BookedDetours$Day" "stands" "LBookedDetours$Row;", .methodLink RX0 70 yX3_length, .instanceMethod yX3_length, .selects RX3 yX3_length yX3_length, .initialized RX3, .code yX3_length cX3_length 1 (some .int), .fieldLink RX3 19 "BookedDetours$Row" "length" "I"] ++ wsX00 ++ wsX30)
def wsX3_at : List Cond := .code yX3_at cX3_at 2 (some .int) :: ([.fieldLink RX3 19 "BookedDetours$Row" "length" "I", .fieldLink RX3 13 "BookedDetours$Row" "cells" "[I"] ++ wsX30)
def wsX0_ridesThatStand : List Cond := .code yX0_ridesThatStand cX0_ridesThatStand 4 (some .int) :: ([.fieldLink RX0 41 "BookedDetours$Day" "stands" "LBookedDetours$Row;", .methodLink RX0 70 yX3_length, .instanceMethod yX3_length, .selects RX3 yX3_length yX3_length, .initialized RX3, .code yX3_length cX3_length 1 (some .int), .fieldLink RX3 19 "BookedDetours$Row" "length" "I", .methodLink RX0 74 yX3_at, .instanceMethod yX3_at, .selects RX3 yX3_at yX3_at, .code yX3_at cX3_at 2 (some .int), .fieldLink RX3 13 "BookedDetours$Row" "cells" "[I"] ++ wsX00 ++ wsX30)
def wsX0_minutes : List Cond := .code yX0_minutes cX0_minutes 3 (some .int) :: ([.fieldLink RX0 20 "BookedDetours$Day" "xs" "LBookedDetours$Row;", .methodLink RX0 78 Lib.Math.abs.name, .static Lib.Math.abs.name, .initialized "java/lang/Math", .code Lib.Math.abs.name Lib.Math.abs.code 1 (some .int), .fieldLink RX0 23 "BookedDetours$Day" "ys" "LBookedDetours$Row;", .methodLink RX0 74 yX3_at, .instanceMethod yX3_at, .selects RX3 yX3_at yX3_at, .initialized RX3, .code yX3_at cX3_at 2 (some .int), .fieldLink RX3 19 "BookedDetours$Row" "length" "I", .fieldLink RX3 13 "BookedDetours$Row" "cells" "[I"] ++ wsX00 ++ wsX30)
def wsX6_rideOf : List Cond := .code yX6_rideOf cX6_rideOf 1 (some .int) :: ([])
def wsX6_setsDown : List Cond := .code yX6_setsDown cX6_setsDown 1 (some .boolean) :: ([])
def wsX0_stopOf : List Cond := .code yX0_stopOf cX0_stopOf 3 (some .int) :: ([.fieldLink RX0 29 "BookedDetours$Day" "tos" "LBookedDetours$Row;", .fieldLink RX0 26 "BookedDetours$Day" "froms" "LBookedDetours$Row;", .static yX6_rideOf, .initialized RX6, .code yX6_rideOf cX6_rideOf 1 (some .int), .static yX6_setsDown, .code yX6_setsDown cX6_setsDown 1 (some .boolean), .methodLink RX0 74 yX3_at, .instanceMethod yX3_at, .selects RX3 yX3_at yX3_at, .initialized RX3, .code yX3_at cX3_at 2 (some .int), .fieldLink RX3 19 "BookedDetours$Row" "length" "I", .fieldLink RX3 13 "BookedDetours$Row" "cells" "[I"] ++ wsX00 ++ wsX30)
def wsX0_isOnItsWay : List Cond := .code yX0_isOnItsWay cX0_isOnItsWay 1 (some .boolean) :: ([.fieldLink RX0 50 "BookedDetours$Day" "route" "LBookedDetours$Row;", .fieldLink RX0 60 "BookedDetours$Day" "now" "I", .fieldLink RX0 67 "BookedDetours$Day" "busFree" "I", .methodLink RX0 70 yX3_length, .instanceMethod yX3_length, .selects RX3 yX3_length yX3_length, .initialized RX3, .code yX3_length cX3_length 1 (some .int), .fieldLink RX3 19 "BookedDetours$Row" "length" "I"] ++ wsX00 ++ wsX30)
def wsX0_addRide_r1 : List Cond := [Cond.fieldLink RX0 26 "BookedDetours$Day" "froms" "LBookedDetours$Row;", Cond.fieldLink RX0 29 "BookedDetours$Day" "tos" "LBookedDetours$Row;", Cond.fieldLink RX0 32 "BookedDetours$Day" "waits" "LBookedDetours$Row;", Cond.fieldLink RX0 35 "BookedDetours$Day" "bys" "LBookedDetours$Row;", Cond.fieldLink RX0 38 "BookedDetours$Day" "straights" "LBookedDetours$Row;", Cond.fieldLink RX0 41 "BookedDetours$Day" "stands" "LBookedDetours$Row;", Cond.fieldLink RX0 44 "BookedDetours$Day" "picks" "LBookedDetours$Row;", Cond.fieldLink RX0 47 "BookedDetours$Day" "downs" "LBookedDetours$Row;", Cond.methodLink RX0 53 yX3_add, Cond.instanceMethod yX3_add, Cond.selects RX3 yX3_add yX3_add, Cond.initialized RX3, Cond.code yX3_add cX3_add 2 none, Cond.fieldLink RX3 19 "BookedDetours$Row" "length" "I", Cond.methodLink RX3 23 yX3_insert, Cond.instanceMethod yX3_insert, Cond.selects RX3 yX3_insert yX3_insert, Cond.code yX3_insert cX3_insert 4 none, Cond.fieldLink RX3 13 "BookedDetours$Row" "cells" "[I", Cond.methodLink RX0 90 yX0_minutes, Cond.instanceMethod yX0_minutes, Cond.selects RX0 yX0_minutes yX0_minutes, Cond.initialized RX0, Cond.code yX0_minutes cX0_minutes 3 (some .int)]
def wsX0_addRide_r2 : List Cond := [Cond.fieldLink RX0 20 "BookedDetours$Day" "xs" "LBookedDetours$Row;", Cond.methodLink RX0 78 Lib.Math.abs.name, Cond.static Lib.Math.abs.name, Cond.initialized "java/lang/Math", Cond.code Lib.Math.abs.name Lib.Math.abs.code 1 (some .int), Cond.fieldLink RX0 23 "BookedDetours$Day" "ys" "LBookedDetours$Row;", Cond.methodLink RX0 74 yX3_at, Cond.instanceMethod yX3_at, Cond.selects RX3 yX3_at yX3_at, Cond.code yX3_at cX3_at 2 (some .int), Cond.methodLink RX0 70 yX3_length, Cond.instanceMethod yX3_length, Cond.selects RX3 yX3_length yX3_length, Cond.code yX3_length cX3_length 1 (some .int)]
def wsX0_addRide : List Cond := .code yX0_addRide cX0_addRide 5 (some .int) :: ((wsX0_addRide_r1 ++ wsX0_addRide_r2) ++ wsX00 ++ wsX30)
def wsX0_beReady : List Cond := .code yX0_beReady cX0_beReady 1 none :: ([.fieldLink RX0 50 "BookedDetours$Day" "route" "LBookedDetours$Row;", .fieldLink RX0 67 "BookedDetours$Day" "busFree" "I", .fieldLink RX0 60 "BookedDetours$Day" "now" "I", .methodLink RX0 94 Lib.Math.max.name, .static Lib.Math.max.name, .initialized "java/lang/Math", .code Lib.Math.max.name Lib.Math.max.code 2 (some .int), .methodLink RX0 70 yX3_length, .instanceMethod yX3_length, .selects RX3 yX3_length yX3_length, .initialized RX3, .code yX3_length cX3_length 1 (some .int), .fieldLink RX3 19 "BookedDetours$Row" "length" "I"] ++ wsX00 ++ wsX30)
def wsX0_endAtFirst_r1 : List Cond := [Cond.fieldLink RX0 50 "BookedDetours$Day" "route" "LBookedDetours$Row;", Cond.fieldLink RX0 67 "BookedDetours$Day" "busFree" "I", Cond.fieldLink RX0 64 "BookedDetours$Day" "busStop" "I", Cond.fieldLink RX0 60 "BookedDetours$Day" "now" "I", Cond.methodLink RX0 94 Lib.Math.max.name, Cond.static Lib.Math.max.name, Cond.initialized "java/lang/Math", Cond.code Lib.Math.max.name Lib.Math.max.code 2 (some .int), Cond.methodLink RX0 74 yX3_at, Cond.instanceMethod yX3_at, Cond.selects RX3 yX3_at yX3_at, Cond.initialized RX3, Cond.code yX3_at cX3_at 2 (some .int), Cond.fieldLink RX3 19 "BookedDetours$Row" "length" "I", Cond.fieldLink RX3 13 "BookedDetours$Row" "cells" "[I", Cond.methodLink RX0 111 yX0_stopOf, Cond.instanceMethod yX0_stopOf, Cond.selects RX0 yX0_stopOf yX0_stopOf, Cond.initialized RX0, Cond.code yX0_stopOf cX0_stopOf 3 (some .int), Cond.fieldLink RX0 29 "BookedDetours$Day" "tos" "LBookedDetours$Row;", Cond.fieldLink RX0 26 "BookedDetours$Day" "froms" "LBookedDetours$Row;", Cond.static yX6_rideOf, Cond.initialized RX6]
def wsX0_endAtFirst_r2 : List Cond := [Cond.code yX6_rideOf cX6_rideOf 1 (some .int), Cond.static yX6_setsDown, Cond.code yX6_setsDown cX6_setsDown 1 (some .boolean), Cond.methodLink RX0 90 yX0_minutes, Cond.instanceMethod yX0_minutes, Cond.selects RX0 yX0_minutes yX0_minutes, Cond.code yX0_minutes cX0_minutes 3 (some .int), Cond.fieldLink RX0 20 "BookedDetours$Day" "xs" "LBookedDetours$Row;", Cond.methodLink RX0 78 Lib.Math.abs.name, Cond.static Lib.Math.abs.name, Cond.code Lib.Math.abs.name Lib.Math.abs.code 1 (some .int), Cond.fieldLink RX0 23 "BookedDetours$Day" "ys" "LBookedDetours$Row;"]
def wsX0_endAtFirst : List Cond := .code yX0_endAtFirst cX0_endAtFirst 2 none :: ((wsX0_endAtFirst_r1 ++ wsX0_endAtFirst_r2) ++ wsX00 ++ wsX30)
def wsX3_remove : List Cond := .code yX3_remove cX3_remove 3 none :: ([.fieldLink RX3 19 "BookedDetours$Row" "length" "I", .fieldLink RX3 13 "BookedDetours$Row" "cells" "[I"] ++ wsX30)
def wsX3_change : List Cond := .code yX3_change cX3_change 3 none :: ([.fieldLink RX3 19 "BookedDetours$Row" "length" "I", .fieldLink RX3 13 "BookedDetours$Row" "cells" "[I"] ++ wsX30)
def wsX0_leaveOut_r1 : List Cond := [Cond.fieldLink RX0 50 "BookedDetours$Day" "route" "LBookedDetours$Row;", Cond.fieldLink RX0 41 "BookedDetours$Day" "stands" "LBookedDetours$Row;", Cond.methodLink RX0 97 yX0_isOnItsWay, Cond.instanceMethod yX0_isOnItsWay, Cond.selects RX0 yX0_isOnItsWay yX0_isOnItsWay, Cond.initialized RX0, Cond.code yX0_isOnItsWay cX0_isOnItsWay 1 (some .boolean), Cond.fieldLink RX0 60 "BookedDetours$Day" "now" "I", Cond.fieldLink RX0 67 "BookedDetours$Day" "busFree" "I", Cond.methodLink RX0 70 yX3_length, Cond.instanceMethod yX3_length, Cond.selects RX3 yX3_length yX3_length, Cond.initialized RX3, Cond.code yX3_length cX3_length 1 (some .int), Cond.fieldLink RX3 19 "BookedDetours$Row" "length" "I", Cond.methodLink RX0 74 yX3_at, Cond.instanceMethod yX3_at, Cond.selects RX3 yX3_at yX3_at, Cond.code yX3_at cX3_at 2 (some .int), Cond.fieldLink RX3 13 "BookedDetours$Row" "cells" "[I", Cond.static yX6_rideOf, Cond.initialized RX6, Cond.code yX6_rideOf cX6_rideOf 1 (some .int), Cond.methodLink RX0 101 yX0_endAtFirst]
def wsX0_leaveOut_r2 : List Cond := [Cond.instanceMethod yX0_endAtFirst, Cond.selects RX0 yX0_endAtFirst yX0_endAtFirst, Cond.code yX0_endAtFirst cX0_endAtFirst 2 none, Cond.fieldLink RX0 64 "BookedDetours$Day" "busStop" "I", Cond.methodLink RX0 94 Lib.Math.max.name, Cond.static Lib.Math.max.name, Cond.initialized "java/lang/Math", Cond.code Lib.Math.max.name Lib.Math.max.code 2 (some .int), Cond.methodLink RX0 111 yX0_stopOf, Cond.instanceMethod yX0_stopOf, Cond.selects RX0 yX0_stopOf yX0_stopOf, Cond.code yX0_stopOf cX0_stopOf 3 (some .int), Cond.fieldLink RX0 29 "BookedDetours$Day" "tos" "LBookedDetours$Row;", Cond.fieldLink RX0 26 "BookedDetours$Day" "froms" "LBookedDetours$Row;", Cond.static yX6_setsDown, Cond.code yX6_setsDown cX6_setsDown 1 (some .boolean), Cond.methodLink RX0 90 yX0_minutes, Cond.instanceMethod yX0_minutes, Cond.selects RX0 yX0_minutes yX0_minutes, Cond.code yX0_minutes cX0_minutes 3 (some .int), Cond.fieldLink RX0 20 "BookedDetours$Day" "xs" "LBookedDetours$Row;", Cond.methodLink RX0 78 Lib.Math.abs.name, Cond.static Lib.Math.abs.name, Cond.code Lib.Math.abs.name Lib.Math.abs.code 1 (some .int)]
def wsX0_leaveOut_r3 : List Cond := [Cond.fieldLink RX0 23 "BookedDetours$Day" "ys" "LBookedDetours$Row;", Cond.methodLink RX0 104 yX3_remove, Cond.instanceMethod yX3_remove, Cond.selects RX3 yX3_remove yX3_remove, Cond.code yX3_remove cX3_remove 3 none, Cond.methodLink RX0 107 yX3_change, Cond.instanceMethod yX3_change, Cond.selects RX3 yX3_change yX3_change, Cond.code yX3_change cX3_change 3 none]
def wsX0_leaveOut : List Cond := .code yX0_leaveOut cX0_leaveOut 4 none :: ((wsX0_leaveOut_r1 ++ (wsX0_leaveOut_r2 ++ wsX0_leaveOut_r3)) ++ wsX00 ++ wsX30)
def wsX0_make_r1 : List Cond := [Cond.fieldLink RX0 64 "BookedDetours$Day" "busStop" "I", Cond.fieldLink RX0 14 "BookedDetours$Day" "settings" "LBookedDetours$Row;", Cond.fieldLink RX0 67 "BookedDetours$Day" "busFree" "I", Cond.fieldLink RX0 47 "BookedDetours$Day" "downs" "LBookedDetours$Row;", Cond.fieldLink RX0 41 "BookedDetours$Day" "stands" "LBookedDetours$Row;", Cond.fieldLink RX0 44 "BookedDetours$Day" "picks" "LBookedDetours$Row;", Cond.static yX6_rideOf, Cond.initialized RX6, Cond.code yX6_rideOf cX6_rideOf 1 (some .int), Cond.methodLink RX0 111 yX0_stopOf, Cond.instanceMethod yX0_stopOf, Cond.selects RX0 yX0_stopOf yX0_stopOf, Cond.initialized RX0, Cond.code yX0_stopOf cX0_stopOf 3 (some .int), Cond.fieldLink RX0 29 "BookedDetours$Day" "tos" "LBookedDetours$Row;", Cond.fieldLink RX0 26 "BookedDetours$Day" "froms" "LBookedDetours$Row;", Cond.static yX6_setsDown, Cond.code yX6_setsDown cX6_setsDown 1 (some .boolean), Cond.methodLink RX0 74 yX3_at, Cond.instanceMethod yX3_at, Cond.selects RX3 yX3_at yX3_at, Cond.initialized RX3, Cond.code yX3_at cX3_at 2 (some .int), Cond.fieldLink RX3 19 "BookedDetours$Row" "length" "I"]
def wsX0_make_r2 : List Cond := [Cond.fieldLink RX3 13 "BookedDetours$Row" "cells" "[I", Cond.methodLink RX0 107 yX3_change, Cond.instanceMethod yX3_change, Cond.selects RX3 yX3_change yX3_change, Cond.code yX3_change cX3_change 3 none]
def wsX0_make : List Cond := .code yX0_make cX0_make 4 none :: ((wsX0_make_r1 ++ wsX0_make_r2) ++ wsX00 ++ wsX30)
def wsX0_carryOut_r1 : List Cond := [Cond.fieldLink RX0 50 "BookedDetours$Day" "route" "LBookedDetours$Row;", Cond.fieldLink RX0 114 "BookedDetours$Timetable" "times" "LBookedDetours$Row;", Cond.fieldLink RX0 60 "BookedDetours$Day" "now" "I", Cond.methodLink RX0 70 yX3_length, Cond.instanceMethod yX3_length, Cond.selects RX3 yX3_length yX3_length, Cond.initialized RX3, Cond.code yX3_length cX3_length 1 (some .int), Cond.fieldLink RX3 19 "BookedDetours$Row" "length" "I", Cond.methodLink RX0 74 yX3_at, Cond.instanceMethod yX3_at, Cond.selects RX3 yX3_at yX3_at, Cond.code yX3_at cX3_at 2 (some .int), Cond.fieldLink RX3 13 "BookedDetours$Row" "cells" "[I", Cond.methodLink RX0 119 yX0_make, Cond.instanceMethod yX0_make, Cond.selects RX0 yX0_make yX0_make, Cond.initialized RX0, Cond.code yX0_make cX0_make 4 none, Cond.fieldLink RX0 64 "BookedDetours$Day" "busStop" "I", Cond.fieldLink RX0 14 "BookedDetours$Day" "settings" "LBookedDetours$Row;", Cond.fieldLink RX0 67 "BookedDetours$Day" "busFree" "I", Cond.fieldLink RX0 47 "BookedDetours$Day" "downs" "LBookedDetours$Row;", Cond.fieldLink RX0 41 "BookedDetours$Day" "stands" "LBookedDetours$Row;"]
def wsX0_carryOut_r2 : List Cond := [Cond.fieldLink RX0 44 "BookedDetours$Day" "picks" "LBookedDetours$Row;", Cond.static yX6_rideOf, Cond.initialized RX6, Cond.code yX6_rideOf cX6_rideOf 1 (some .int), Cond.methodLink RX0 111 yX0_stopOf, Cond.instanceMethod yX0_stopOf, Cond.selects RX0 yX0_stopOf yX0_stopOf, Cond.code yX0_stopOf cX0_stopOf 3 (some .int), Cond.fieldLink RX0 29 "BookedDetours$Day" "tos" "LBookedDetours$Row;", Cond.fieldLink RX0 26 "BookedDetours$Day" "froms" "LBookedDetours$Row;", Cond.static yX6_setsDown, Cond.code yX6_setsDown cX6_setsDown 1 (some .boolean), Cond.methodLink RX0 107 yX3_change, Cond.instanceMethod yX3_change, Cond.selects RX3 yX3_change yX3_change, Cond.code yX3_change cX3_change 3 none, Cond.methodLink RX0 104 yX3_remove, Cond.instanceMethod yX3_remove, Cond.selects RX3 yX3_remove yX3_remove, Cond.code yX3_remove cX3_remove 3 none]
def wsX0_carryOut : List Cond := .code yX0_carryOut cX0_carryOut 5 (some .int) :: ((wsX0_carryOut_r1 ++ wsX0_carryOut_r2) ++ wsX00 ++ wsX50 ++ wsX30)
def wsX1_init : List Cond := .code yX1_init cX1_init 1 none :: ([.methodLink RX1 3 objectInit, .instanceMethod objectInit, .code objectInit ⟨#[0xb1]⟩ 1 none, .classLink RX1 9 RX0, .fieldLink RX1 11 "BookedDetours$History" "days" "[LBookedDetours$Day;"] ++ wsX10)
def wsX1_dropOldest : List Cond := .code yX1_dropOldest cX1_dropOldest 3 none :: ([.fieldLink RX1 11 "BookedDetours$History" "days" "[LBookedDetours$Day;", .fieldLink RX1 17 "BookedDetours$History" "length" "I"] ++ wsX10)
def wsX1_add_r1 : List Cond := [Cond.fieldLink RX1 17 "BookedDetours$History" "length" "I", Cond.fieldLink RX1 11 "BookedDetours$History" "days" "[LBookedDetours$Day;", Cond.classLink RX1 9 RX0, Cond.instantiable RX0 15, Cond.initialized RX0, Cond.methodLink RX1 21 yX1_dropOldest, Cond.instanceMethod yX1_dropOldest, Cond.selects RX1 yX1_dropOldest yX1_dropOldest, Cond.initialized RX1, Cond.code yX1_dropOldest cX1_dropOldest 3 none, Cond.methodLink RX1 24 yX0_init, Cond.instanceMethod yX0_init, Cond.code yX0_init cX0_init 1 none, Cond.methodLink RX0 3 objectInit, Cond.instanceMethod objectInit, Cond.code objectInit ⟨#[0xb1]⟩ 1 none, Cond.classLink RX0 9 RX3, Cond.instantiable RX3 2, Cond.initialized RX3, Cond.fieldLink RX0 14 "BookedDetours$Day" "settings" "LBookedDetours$Row;", Cond.fieldLink RX0 20 "BookedDetours$Day" "xs" "LBookedDetours$Row;", Cond.fieldLink RX0 23 "BookedDetours$Day" "ys" "LBookedDetours$Row;", Cond.fieldLink RX0 26 "BookedDetours$Day" "froms" "LBookedDetours$Row;", Cond.fieldLink RX0 29 "BookedDetours$Day" "tos" "LBookedDetours$Row;"]
def wsX1_add_r2 : List Cond := [Cond.fieldLink RX0 32 "BookedDetours$Day" "waits" "LBookedDetours$Row;", Cond.fieldLink RX0 35 "BookedDetours$Day" "bys" "LBookedDetours$Row;", Cond.fieldLink RX0 38 "BookedDetours$Day" "straights" "LBookedDetours$Row;", Cond.fieldLink RX0 41 "BookedDetours$Day" "stands" "LBookedDetours$Row;", Cond.fieldLink RX0 44 "BookedDetours$Day" "picks" "LBookedDetours$Row;", Cond.fieldLink RX0 47 "BookedDetours$Day" "downs" "LBookedDetours$Row;", Cond.fieldLink RX0 50 "BookedDetours$Day" "route" "LBookedDetours$Row;", Cond.methodLink RX0 11 yX3_init, Cond.instanceMethod yX3_init, Cond.code yX3_init cX3_init 2 none, Cond.methodLink RX3 1 objectInit, Cond.methodLink RX3 7 Lib.Math.max.name, Cond.static Lib.Math.max.name, Cond.initialized "java/lang/Math", Cond.code Lib.Math.max.name Lib.Math.max.code 2 (some .int), Cond.arrayClass .int, Cond.fieldLink RX3 13 "BookedDetours$Row" "cells" "[I", Cond.methodLink RX0 53 yX3_add, Cond.instanceMethod yX3_add, Cond.selects RX3 yX3_add yX3_add, Cond.code yX3_add cX3_add 2 none, Cond.fieldLink RX3 19 "BookedDetours$Row" "length" "I", Cond.methodLink RX3 23 yX3_insert, Cond.instanceMethod yX3_insert]
def wsX1_add_r3 : List Cond := [Cond.selects RX3 yX3_insert yX3_insert, Cond.code yX3_insert cX3_insert 4 none, Cond.methodLink RX1 25 yX0_copy, Cond.instanceMethod yX0_copy, Cond.selects RX0 yX0_copy yX0_copy, Cond.code yX0_copy cX0_copy 2 none, Cond.fieldLink RX0 60 "BookedDetours$Day" "now" "I", Cond.fieldLink RX0 64 "BookedDetours$Day" "busStop" "I", Cond.fieldLink RX0 67 "BookedDetours$Day" "busFree" "I", Cond.methodLink RX0 56 yX3_copy, Cond.instanceMethod yX3_copy, Cond.selects RX3 yX3_copy yX3_copy, Cond.code yX3_copy cX3_copy 3 none, Cond.methodLink RX3 27 Lib.Math.min.name, Cond.static Lib.Math.min.name, Cond.code Lib.Math.min.name Lib.Math.min.code 2 (some .int)]
def wsX1_add : List Cond := .code yX1_add cX1_add 3 none :: ((wsX1_add_r1 ++ (wsX1_add_r2 ++ wsX1_add_r3)) ++ wsX10 ++ wsX00 ++ wsX30)
def wsX1_takeLatest_r1 : List Cond := [Cond.fieldLink RX1 17 "BookedDetours$History" "length" "I", Cond.fieldLink RX1 11 "BookedDetours$History" "days" "[LBookedDetours$Day;", Cond.methodLink RX1 25 yX0_copy, Cond.instanceMethod yX0_copy, Cond.selects RX0 yX0_copy yX0_copy, Cond.initialized RX0, Cond.code yX0_copy cX0_copy 2 none, Cond.fieldLink RX0 14 "BookedDetours$Day" "settings" "LBookedDetours$Row;", Cond.fieldLink RX0 20 "BookedDetours$Day" "xs" "LBookedDetours$Row;", Cond.fieldLink RX0 23 "BookedDetours$Day" "ys" "LBookedDetours$Row;", Cond.fieldLink RX0 26 "BookedDetours$Day" "froms" "LBookedDetours$Row;", Cond.fieldLink RX0 29 "BookedDetours$Day" "tos" "LBookedDetours$Row;", Cond.fieldLink RX0 32 "BookedDetours$Day" "waits" "LBookedDetours$Row;", Cond.fieldLink RX0 35 "BookedDetours$Day" "bys" "LBookedDetours$Row;", Cond.fieldLink RX0 38 "BookedDetours$Day" "straights" "LBookedDetours$Row;", Cond.fieldLink RX0 41 "BookedDetours$Day" "stands" "LBookedDetours$Row;", Cond.fieldLink RX0 44 "BookedDetours$Day" "picks" "LBookedDetours$Row;", Cond.fieldLink RX0 47 "BookedDetours$Day" "downs" "LBookedDetours$Row;", Cond.fieldLink RX0 50 "BookedDetours$Day" "route" "LBookedDetours$Row;", Cond.fieldLink RX0 60 "BookedDetours$Day" "now" "I", Cond.fieldLink RX0 64 "BookedDetours$Day" "busStop" "I", Cond.fieldLink RX0 67 "BookedDetours$Day" "busFree" "I", Cond.methodLink RX0 56 yX3_copy, Cond.instanceMethod yX3_copy]
def wsX1_takeLatest_r2 : List Cond := [Cond.selects RX3 yX3_copy yX3_copy, Cond.initialized RX3, Cond.code yX3_copy cX3_copy 3 none, Cond.fieldLink RX3 19 "BookedDetours$Row" "length" "I", Cond.fieldLink RX3 13 "BookedDetours$Row" "cells" "[I", Cond.methodLink RX3 27 Lib.Math.min.name, Cond.static Lib.Math.min.name, Cond.initialized "java/lang/Math", Cond.code Lib.Math.min.name Lib.Math.min.code 2 (some .int)]
def wsX1_takeLatest : List Cond := .code yX1_takeLatest cX1_takeLatest 3 (some .boolean) :: ((wsX1_takeLatest_r1 ++ wsX1_takeLatest_r2) ++ wsX10 ++ wsX00 ++ wsX30)
def wsX2_init : List Cond := .code yX2_init cX2_init 1 none :: ([.methodLink RX2 3 objectInit, .instanceMethod objectInit, .code objectInit ⟨#[0xb1]⟩ 1 none, .classLink RX2 9 RX3, .instantiable RX3 2, .initialized RX3, .fieldLink RX2 14 "BookedDetours$Pad" "signs" "LBookedDetours$Row;", .fieldLink RX2 20 "BookedDetours$Pad" "numbers" "LBookedDetours$Row;", .methodLink RX2 11 yX3_init, .instanceMethod yX3_init, .code yX3_init cX3_init 2 none, .methodLink RX3 1 objectInit, .methodLink RX3 7 Lib.Math.max.name, .static Lib.Math.max.name, .initialized "java/lang/Math", .code Lib.Math.max.name Lib.Math.max.code 2 (some .int), .arrayClass .int, .fieldLink RX3 13 "BookedDetours$Row" "cells" "[I"] ++ wsX30 ++ wsX20)
def wsX2_signsIn : List Cond := .code yX2_signsIn cX2_signsIn 5 (some .int) :: ([])
def wsX2_append : List Cond := .code yX2_append cX2_append 5 none :: ([.fieldLink RX2 14 "BookedDetours$Pad" "signs" "LBookedDetours$Row;", .methodLink RX2 23 yX3_add, .instanceMethod yX3_add, .selects RX3 yX3_add yX3_add, .initialized RX3, .code yX3_add cX3_add 2 none, .fieldLink RX3 19 "BookedDetours$Row" "length" "I", .methodLink RX3 23 yX3_insert, .instanceMethod yX3_insert, .selects RX3 yX3_insert yX3_insert, .code yX3_insert cX3_insert 4 none, .fieldLink RX3 13 "BookedDetours$Row" "cells" "[I"] ++ wsX20 ++ wsX30)
def wsX3_clear : List Cond := .code yX3_clear cX3_clear 1 none :: ([.fieldLink RX3 19 "BookedDetours$Row" "length" "I"] ++ wsX30)
def wsX2_withDigit : List Cond := .code yX2_withDigit cX2_withDigit 2 (some .int) :: ([])
def wsX2_mostIn : List Cond := .code yX2_mostIn cX2_mostIn 1 (some .int) :: ([])
def wsX2_endOf : List Cond := .code yX2_endOf cX2_endOf 1 (some .char) :: ([])
def wsX2_findFault_r1 : List Cond := [Cond.fieldLink RX2 20 "BookedDetours$Pad" "numbers" "LBookedDetours$Row;", Cond.fieldLink RX2 14 "BookedDetours$Pad" "signs" "LBookedDetours$Row;", Cond.methodLink RX2 26 yX3_clear, Cond.instanceMethod yX3_clear, Cond.selects RX3 yX3_clear yX3_clear, Cond.initialized RX3, Cond.code yX3_clear cX3_clear 1 none, Cond.fieldLink RX3 19 "BookedDetours$Row" "length" "I", Cond.methodLink RX2 29 yX3_length, Cond.instanceMethod yX3_length, Cond.selects RX3 yX3_length yX3_length, Cond.code yX3_length cX3_length 1 (some .int), Cond.methodLink RX2 33 yX3_at, Cond.instanceMethod yX3_at, Cond.selects RX3 yX3_at yX3_at, Cond.code yX3_at cX3_at 2 (some .int), Cond.fieldLink RX3 13 "BookedDetours$Row" "cells" "[I", Cond.methodLink RX2 37 yX2_withDigit, Cond.static yX2_withDigit, Cond.initialized RX2, Cond.code yX2_withDigit cX2_withDigit 2 (some .int), Cond.methodLink RX2 41 yX2_mostIn, Cond.static yX2_mostIn, Cond.code yX2_mostIn cX2_mostIn 1 (some .int)]
def wsX2_findFault_r2 : List Cond := [Cond.methodLink RX2 44 yX2_endOf, Cond.static yX2_endOf, Cond.code yX2_endOf cX2_endOf 1 (some .char), Cond.methodLink RX2 23 yX3_add, Cond.instanceMethod yX3_add, Cond.selects RX3 yX3_add yX3_add, Cond.code yX3_add cX3_add 2 none, Cond.methodLink RX3 23 yX3_insert, Cond.instanceMethod yX3_insert, Cond.selects RX3 yX3_insert yX3_insert, Cond.code yX3_insert cX3_insert 4 none]
def wsX2_findFault : List Cond := .code yX2_findFault cX2_findFault 5 (some .int) :: ((wsX2_findFault_r1 ++ wsX2_findFault_r2) ++ wsX20 ++ wsX30)
def wsX5_init : List Cond := .code yX5_init cX5_init 1 none :: ([.methodLink RX5 3 objectInit, .instanceMethod objectInit, .code objectInit ⟨#[0xb1]⟩ 1 none, .classLink RX5 9 RX3, .instantiable RX3 2, .initialized RX3, .fieldLink RX5 14 "BookedDetours$Timetable" "times" "LBookedDetours$Row;", .fieldLink RX5 20 "BookedDetours$Timetable" "loads" "LBookedDetours$Row;", .fieldLink RX5 23 "BookedDetours$Timetable" "delays" "LBookedDetours$Row;", .fieldLink RX5 26 "BookedDetours$Timetable" "picks" "LBookedDetours$Row;", .fieldLink RX5 29 "BookedDetours$Timetable" "downs" "LBookedDetours$Row;", .methodLink RX5 11 yX3_init, .instanceMethod yX3_init, .code yX3_init cX3_init 2 none, .methodLink RX3 1 objectInit, .methodLink RX3 7 Lib.Math.max.name, .static Lib.Math.max.name, .initialized "java/lang/Math", .code Lib.Math.max.name Lib.Math.max.code 2 (some .int), .arrayClass .int, .fieldLink RX3 13 "BookedDetours$Row" "cells" "[I"] ++ wsX30 ++ wsX50)
def wsX4_init_r1 : List Cond := [Cond.methodLink RX4 1 objectInit, Cond.instanceMethod objectInit, Cond.code objectInit ⟨#[0xb1]⟩ 1 none, Cond.classLink RX4 7 RX0, Cond.instantiable RX0 15, Cond.initialized RX0, Cond.fieldLink RX4 10 "BookedDetours$Search" "day" "LBookedDetours$Day;", Cond.classLink RX4 16 RX5, Cond.instantiable RX5 10, Cond.initialized RX5, Cond.fieldLink RX4 19 "BookedDetours$Search" "table" "LBookedDetours$Timetable;", Cond.methodLink RX4 9 yX0_init, Cond.instanceMethod yX0_init, Cond.code yX0_init cX0_init 1 none, Cond.methodLink RX0 3 objectInit, Cond.classLink RX0 9 RX3, Cond.instantiable RX3 2, Cond.initialized RX3, Cond.fieldLink RX0 14 "BookedDetours$Day" "settings" "LBookedDetours$Row;", Cond.fieldLink RX0 20 "BookedDetours$Day" "xs" "LBookedDetours$Row;", Cond.fieldLink RX0 23 "BookedDetours$Day" "ys" "LBookedDetours$Row;", Cond.fieldLink RX0 26 "BookedDetours$Day" "froms" "LBookedDetours$Row;", Cond.fieldLink RX0 29 "BookedDetours$Day" "tos" "LBookedDetours$Row;", Cond.fieldLink RX0 32 "BookedDetours$Day" "waits" "LBookedDetours$Row;"]
def wsX4_init_r2 : List Cond := [Cond.fieldLink RX0 35 "BookedDetours$Day" "bys" "LBookedDetours$Row;", Cond.fieldLink RX0 38 "BookedDetours$Day" "straights" "LBookedDetours$Row;", Cond.fieldLink RX0 41 "BookedDetours$Day" "stands" "LBookedDetours$Row;", Cond.fieldLink RX0 44 "BookedDetours$Day" "picks" "LBookedDetours$Row;", Cond.fieldLink RX0 47 "BookedDetours$Day" "downs" "LBookedDetours$Row;", Cond.fieldLink RX0 50 "BookedDetours$Day" "route" "LBookedDetours$Row;", Cond.methodLink RX0 11 yX3_init, Cond.instanceMethod yX3_init, Cond.code yX3_init cX3_init 2 none, Cond.methodLink RX3 1 objectInit, Cond.methodLink RX3 7 Lib.Math.max.name, Cond.static Lib.Math.max.name, Cond.initialized "java/lang/Math", Cond.code Lib.Math.max.name Lib.Math.max.code 2 (some .int), Cond.arrayClass .int, Cond.fieldLink RX3 13 "BookedDetours$Row" "cells" "[I", Cond.methodLink RX0 53 yX3_add, Cond.instanceMethod yX3_add, Cond.selects RX3 yX3_add yX3_add, Cond.code yX3_add cX3_add 2 none, Cond.fieldLink RX3 19 "BookedDetours$Row" "length" "I", Cond.methodLink RX3 23 yX3_insert, Cond.instanceMethod yX3_insert, Cond.selects RX3 yX3_insert yX3_insert]
def wsX4_init_r3 : List Cond := [Cond.code yX3_insert cX3_insert 4 none, Cond.instanceMethod yX5_init, Cond.code yX5_init cX5_init 1 none, Cond.methodLink RX5 3 objectInit, Cond.classLink RX5 9 RX3, Cond.fieldLink RX5 14 "BookedDetours$Timetable" "times" "LBookedDetours$Row;", Cond.fieldLink RX5 20 "BookedDetours$Timetable" "loads" "LBookedDetours$Row;", Cond.fieldLink RX5 23 "BookedDetours$Timetable" "delays" "LBookedDetours$Row;", Cond.fieldLink RX5 26 "BookedDetours$Timetable" "picks" "LBookedDetours$Row;", Cond.fieldLink RX5 29 "BookedDetours$Timetable" "downs" "LBookedDetours$Row;", Cond.methodLink RX5 11 yX3_init]
def wsX4_init : List Cond := .code yX4_init cX4_init 1 none :: ((wsX4_init_r1 ++ (wsX4_init_r2 ++ wsX4_init_r3)) ++ wsX00 ++ wsX40 ++ wsX50 ++ wsX30)
def wsX6_pickUp : List Cond := .code yX6_pickUp cX6_pickUp 1 (some .int) :: ([])
def wsX6_setDown : List Cond := .code yX6_setDown cX6_setDown 1 (some .int) :: ([])
def wsX4_lay : List Cond := .code yX4_lay cX4_lay 5 none :: ([.fieldLink RX4 10 "BookedDetours$Search" "day" "LBookedDetours$Day;", .fieldLink RX4 38 "BookedDetours$Day" "route" "LBookedDetours$Row;", .methodLink RX4 101 yX3_copy, .instanceMethod yX3_copy, .selects RX3 yX3_copy yX3_copy, .initialized RX3, .code yX3_copy cX3_copy 3 none, .fieldLink RX3 19 "BookedDetours$Row" "length" "I", .fieldLink RX3 13 "BookedDetours$Row" "cells" "[I", .methodLink RX3 27 Lib.Math.min.name, .static Lib.Math.min.name, .initialized "java/lang/Math", .code Lib.Math.min.name Lib.Math.min.code 2 (some .int), .static yX6_pickUp, .initialized RX6, .code yX6_pickUp cX6_pickUp 1 (some .int), .methodLink RX4 109 yX3_insert, .instanceMethod yX3_insert, .selects RX3 yX3_insert yX3_insert, .code yX3_insert cX3_insert 4 none, .static yX6_setDown, .code yX6_setDown cX6_setDown 1 (some .int)] ++ wsX40 ++ wsX00 ++ wsX30)
def wsX5_begin_r1 : List Cond := [Cond.fieldLink RX5 14 "BookedDetours$Timetable" "times" "LBookedDetours$Row;", Cond.fieldLink RX5 20 "BookedDetours$Timetable" "loads" "LBookedDetours$Row;", Cond.fieldLink RX5 23 "BookedDetours$Timetable" "delays" "LBookedDetours$Row;", Cond.fieldLink RX5 26 "BookedDetours$Timetable" "picks" "LBookedDetours$Row;", Cond.fieldLink RX5 56 "BookedDetours$Day" "picks" "LBookedDetours$Row;", Cond.fieldLink RX5 29 "BookedDetours$Timetable" "downs" "LBookedDetours$Row;", Cond.fieldLink RX5 61 "BookedDetours$Day" "downs" "LBookedDetours$Row;", Cond.fieldLink RX5 62 "BookedDetours$Day" "busStop" "I", Cond.fieldLink RX5 66 "BookedDetours$Timetable" "stop" "I", Cond.fieldLink RX5 69 "BookedDetours$Day" "busFree" "I", Cond.fieldLink RX5 72 "BookedDetours$Timetable" "free" "I", Cond.fieldLink RX5 78 "BookedDetours$Timetable" "aboard" "I", Cond.fieldLink RX5 81 "BookedDetours$Timetable" "driving" "I", Cond.fieldLink RX5 84 "BookedDetours$Timetable" "waiting" "I", Cond.methodLink RX5 53 yX3_clear, Cond.instanceMethod yX3_clear, Cond.selects RX3 yX3_clear yX3_clear, Cond.initialized RX3, Cond.code yX3_clear cX3_clear 1 none, Cond.fieldLink RX3 19 "BookedDetours$Row" "length" "I", Cond.methodLink RX5 57 yX3_copy, Cond.instanceMethod yX3_copy, Cond.selects RX3 yX3_copy yX3_copy, Cond.code yX3_copy cX3_copy 3 none]
def wsX5_begin_r2 : List Cond := [Cond.fieldLink RX3 13 "BookedDetours$Row" "cells" "[I", Cond.methodLink RX3 27 Lib.Math.min.name, Cond.static Lib.Math.min.name, Cond.initialized "java/lang/Math", Cond.code Lib.Math.min.name Lib.Math.min.code 2 (some .int), Cond.methodLink RX5 75 yX0_ridesThatStand, Cond.instanceMethod yX0_ridesThatStand, Cond.selects RX0 yX0_ridesThatStand yX0_ridesThatStand, Cond.initialized RX0, Cond.code yX0_ridesThatStand cX0_ridesThatStand 4 (some .int), Cond.fieldLink RX0 41 "BookedDetours$Day" "stands" "LBookedDetours$Row;", Cond.methodLink RX0 70 yX3_length, Cond.instanceMethod yX3_length, Cond.selects RX3 yX3_length yX3_length, Cond.code yX3_length cX3_length 1 (some .int), Cond.methodLink RX0 74 yX3_at, Cond.instanceMethod yX3_at, Cond.selects RX3 yX3_at yX3_at, Cond.code yX3_at cX3_at 2 (some .int)]
def wsX5_begin : List Cond := .code yX5_begin cX5_begin 2 none :: ((wsX5_begin_r1 ++ wsX5_begin_r2) ++ wsX50 ++ wsX00 ++ wsX30)
def wsX5_latestByDetour : List Cond := .code yX5_latestByDetour cX5_latestByDetour 4 (some .int) :: ([.fieldLink RX5 26 "BookedDetours$Timetable" "picks" "LBookedDetours$Row;", .fieldLink RX5 109 "BookedDetours$Day" "settings" "LBookedDetours$Row;", .fieldLink RX5 126 "BookedDetours$Day" "straights" "LBookedDetours$Row;", .methodLink RX5 45 yX3_at, .instanceMethod yX3_at, .selects RX3 yX3_at yX3_at, .initialized RX3, .code yX3_at cX3_at 2 (some .int), .fieldLink RX3 19 "BookedDetours$Row" "length" "I", .fieldLink RX3 13 "BookedDetours$Row" "cells" "[I"] ++ wsX50 ++ wsX00 ++ wsX30)
def wsX5_step_r1 : List Cond := [Cond.fieldLink RX5 66 "BookedDetours$Timetable" "stop" "I", Cond.fieldLink RX5 72 "BookedDetours$Timetable" "free" "I", Cond.fieldLink RX5 101 "BookedDetours$Day" "waits" "LBookedDetours$Row;", Cond.methodLink RX5 104 Lib.Math.max.name, Cond.static Lib.Math.max.name, Cond.initialized "java/lang/Math", Cond.code Lib.Math.max.name Lib.Math.max.code 2 (some .int), Cond.fieldLink RX5 109 "BookedDetours$Day" "settings" "LBookedDetours$Row;", Cond.fieldLink RX5 78 "BookedDetours$Timetable" "aboard" "I", Cond.fieldLink RX5 81 "BookedDetours$Timetable" "driving" "I", Cond.fieldLink RX5 84 "BookedDetours$Timetable" "waiting" "I", Cond.fieldLink RX5 14 "BookedDetours$Timetable" "times" "LBookedDetours$Row;", Cond.fieldLink RX5 20 "BookedDetours$Timetable" "loads" "LBookedDetours$Row;", Cond.fieldLink RX5 23 "BookedDetours$Timetable" "delays" "LBookedDetours$Row;", Cond.fieldLink RX5 26 "BookedDetours$Timetable" "picks" "LBookedDetours$Row;", Cond.fieldLink RX5 29 "BookedDetours$Timetable" "downs" "LBookedDetours$Row;", Cond.fieldLink RX5 119 "BookedDetours$Day" "bys" "LBookedDetours$Row;", Cond.static yX6_rideOf, Cond.initialized RX6, Cond.code yX6_rideOf cX6_rideOf 1 (some .int), Cond.static yX6_setsDown, Cond.code yX6_setsDown cX6_setsDown 1 (some .boolean), Cond.methodLink RX5 94 yX0_stopOf, Cond.instanceMethod yX0_stopOf]
def wsX5_step_r2 : List Cond := [Cond.selects RX0 yX0_stopOf yX0_stopOf, Cond.initialized RX0, Cond.code yX0_stopOf cX0_stopOf 3 (some .int), Cond.fieldLink RX0 29 "BookedDetours$Day" "tos" "LBookedDetours$Row;", Cond.fieldLink RX0 26 "BookedDetours$Day" "froms" "LBookedDetours$Row;", Cond.methodLink RX0 74 yX3_at, Cond.instanceMethod yX3_at, Cond.selects RX3 yX3_at yX3_at, Cond.initialized RX3, Cond.code yX3_at cX3_at 2 (some .int), Cond.fieldLink RX3 19 "BookedDetours$Row" "length" "I", Cond.fieldLink RX3 13 "BookedDetours$Row" "cells" "[I", Cond.methodLink RX5 97 yX0_minutes, Cond.instanceMethod yX0_minutes, Cond.selects RX0 yX0_minutes yX0_minutes, Cond.code yX0_minutes cX0_minutes 3 (some .int), Cond.fieldLink RX0 20 "BookedDetours$Day" "xs" "LBookedDetours$Row;", Cond.methodLink RX0 78 Lib.Math.abs.name, Cond.static Lib.Math.abs.name, Cond.code Lib.Math.abs.name Lib.Math.abs.code 1 (some .int), Cond.fieldLink RX0 23 "BookedDetours$Day" "ys" "LBookedDetours$Row;", Cond.methodLink RX5 45 yX3_at, Cond.methodLink RX5 112 yX3_add, Cond.instanceMethod yX3_add]
def wsX5_step_r3 : List Cond := [Cond.selects RX3 yX3_add yX3_add, Cond.code yX3_add cX3_add 2 none, Cond.methodLink RX3 23 yX3_insert, Cond.instanceMethod yX3_insert, Cond.selects RX3 yX3_insert yX3_insert, Cond.code yX3_insert cX3_insert 4 none, Cond.methodLink RX5 115 yX3_change, Cond.instanceMethod yX3_change, Cond.selects RX3 yX3_change yX3_change, Cond.code yX3_change cX3_change 3 none, Cond.methodLink RX5 122 yX5_latestByDetour, Cond.instanceMethod yX5_latestByDetour, Cond.selects RX5 yX5_latestByDetour yX5_latestByDetour, Cond.initialized RX5, Cond.code yX5_latestByDetour cX5_latestByDetour 4 (some .int), Cond.fieldLink RX5 126 "BookedDetours$Day" "straights" "LBookedDetours$Row;"]
def wsX5_step : List Cond := .code yX5_step cX5_step 9 (some .boolean) :: ((wsX5_step_r1 ++ (wsX5_step_r2 ++ wsX5_step_r3)) ++ wsX50 ++ wsX00 ++ wsX30)
def wsX5_keepsAll_r1 : List Cond := [Cond.fieldLink RX5 36 "BookedDetours$Day" "route" "LBookedDetours$Row;", Cond.methodLink RX5 32 yX5_begin, Cond.instanceMethod yX5_begin, Cond.selects RX5 yX5_begin yX5_begin, Cond.initialized RX5, Cond.code yX5_begin cX5_begin 2 none, Cond.fieldLink RX5 14 "BookedDetours$Timetable" "times" "LBookedDetours$Row;", Cond.fieldLink RX5 20 "BookedDetours$Timetable" "loads" "LBookedDetours$Row;", Cond.fieldLink RX5 23 "BookedDetours$Timetable" "delays" "LBookedDetours$Row;", Cond.fieldLink RX5 26 "BookedDetours$Timetable" "picks" "LBookedDetours$Row;", Cond.fieldLink RX5 56 "BookedDetours$Day" "picks" "LBookedDetours$Row;", Cond.fieldLink RX5 29 "BookedDetours$Timetable" "downs" "LBookedDetours$Row;", Cond.fieldLink RX5 61 "BookedDetours$Day" "downs" "LBookedDetours$Row;", Cond.fieldLink RX5 62 "BookedDetours$Day" "busStop" "I", Cond.fieldLink RX5 66 "BookedDetours$Timetable" "stop" "I", Cond.fieldLink RX5 69 "BookedDetours$Day" "busFree" "I", Cond.fieldLink RX5 72 "BookedDetours$Timetable" "free" "I", Cond.fieldLink RX5 78 "BookedDetours$Timetable" "aboard" "I", Cond.fieldLink RX5 81 "BookedDetours$Timetable" "driving" "I", Cond.fieldLink RX5 84 "BookedDetours$Timetable" "waiting" "I", Cond.methodLink RX5 53 yX3_clear, Cond.instanceMethod yX3_clear, Cond.selects RX3 yX3_clear yX3_clear, Cond.initialized RX3]
def wsX5_keepsAll_r2 : List Cond := [Cond.code yX3_clear cX3_clear 1 none, Cond.fieldLink RX3 19 "BookedDetours$Row" "length" "I", Cond.methodLink RX5 57 yX3_copy, Cond.instanceMethod yX3_copy, Cond.selects RX3 yX3_copy yX3_copy, Cond.code yX3_copy cX3_copy 3 none, Cond.fieldLink RX3 13 "BookedDetours$Row" "cells" "[I", Cond.methodLink RX3 27 Lib.Math.min.name, Cond.static Lib.Math.min.name, Cond.initialized "java/lang/Math", Cond.code Lib.Math.min.name Lib.Math.min.code 2 (some .int), Cond.methodLink RX5 75 yX0_ridesThatStand, Cond.instanceMethod yX0_ridesThatStand, Cond.selects RX0 yX0_ridesThatStand yX0_ridesThatStand, Cond.initialized RX0, Cond.code yX0_ridesThatStand cX0_ridesThatStand 4 (some .int), Cond.fieldLink RX0 41 "BookedDetours$Day" "stands" "LBookedDetours$Row;", Cond.methodLink RX0 70 yX3_length, Cond.instanceMethod yX3_length, Cond.selects RX3 yX3_length yX3_length, Cond.code yX3_length cX3_length 1 (some .int), Cond.methodLink RX0 74 yX3_at, Cond.instanceMethod yX3_at, Cond.selects RX3 yX3_at yX3_at]
def wsX5_keepsAll_r3 : List Cond := [Cond.code yX3_at cX3_at 2 (some .int), Cond.methodLink RX5 41 yX3_length, Cond.methodLink RX5 45 yX3_at, Cond.methodLink RX5 49 yX5_step, Cond.instanceMethod yX5_step, Cond.selects RX5 yX5_step yX5_step, Cond.code yX5_step cX5_step 9 (some .boolean), Cond.fieldLink RX5 101 "BookedDetours$Day" "waits" "LBookedDetours$Row;", Cond.methodLink RX5 104 Lib.Math.max.name, Cond.static Lib.Math.max.name, Cond.code Lib.Math.max.name Lib.Math.max.code 2 (some .int), Cond.fieldLink RX5 109 "BookedDetours$Day" "settings" "LBookedDetours$Row;", Cond.fieldLink RX5 119 "BookedDetours$Day" "bys" "LBookedDetours$Row;", Cond.static yX6_rideOf, Cond.initialized RX6, Cond.code yX6_rideOf cX6_rideOf 1 (some .int), Cond.static yX6_setsDown, Cond.code yX6_setsDown cX6_setsDown 1 (some .boolean), Cond.methodLink RX5 94 yX0_stopOf, Cond.instanceMethod yX0_stopOf, Cond.selects RX0 yX0_stopOf yX0_stopOf, Cond.code yX0_stopOf cX0_stopOf 3 (some .int), Cond.fieldLink RX0 29 "BookedDetours$Day" "tos" "LBookedDetours$Row;", Cond.fieldLink RX0 26 "BookedDetours$Day" "froms" "LBookedDetours$Row;"]
def wsX5_keepsAll_r4 : List Cond := [Cond.methodLink RX5 97 yX0_minutes, Cond.instanceMethod yX0_minutes, Cond.selects RX0 yX0_minutes yX0_minutes, Cond.code yX0_minutes cX0_minutes 3 (some .int), Cond.fieldLink RX0 20 "BookedDetours$Day" "xs" "LBookedDetours$Row;", Cond.methodLink RX0 78 Lib.Math.abs.name, Cond.static Lib.Math.abs.name, Cond.code Lib.Math.abs.name Lib.Math.abs.code 1 (some .int), Cond.fieldLink RX0 23 "BookedDetours$Day" "ys" "LBookedDetours$Row;", Cond.methodLink RX5 112 yX3_add, Cond.instanceMethod yX3_add, Cond.selects RX3 yX3_add yX3_add, Cond.code yX3_add cX3_add 2 none, Cond.methodLink RX3 23 yX3_insert, Cond.instanceMethod yX3_insert, Cond.selects RX3 yX3_insert yX3_insert, Cond.code yX3_insert cX3_insert 4 none, Cond.methodLink RX5 115 yX3_change, Cond.instanceMethod yX3_change, Cond.selects RX3 yX3_change yX3_change, Cond.code yX3_change cX3_change 3 none, Cond.methodLink RX5 122 yX5_latestByDetour, Cond.instanceMethod yX5_latestByDetour, Cond.selects RX5 yX5_latestByDetour yX5_latestByDetour]
def wsX5_keepsAll_r5 : List Cond := [Cond.code yX5_latestByDetour cX5_latestByDetour 4 (some .int), Cond.fieldLink RX5 126 "BookedDetours$Day" "straights" "LBookedDetours$Row;"]
def wsX5_keepsAll : List Cond := .code yX5_keepsAll cX5_keepsAll 3 (some .boolean) :: ((wsX5_keepsAll_r1 ++ (wsX5_keepsAll_r2 ++ (wsX5_keepsAll_r3 ++ (wsX5_keepsAll_r4 ++ wsX5_keepsAll_r5)))) ++ wsX00 ++ wsX50 ++ wsX30)
def wsX4_takeWay : List Cond := .code yX4_takeWay cX4_takeWay 5 none :: ([.fieldLink RX4 19 "BookedDetours$Search" "table" "LBookedDetours$Timetable;", .fieldLink RX4 70 "BookedDetours$Timetable" "downs" "LBookedDetours$Row;", .fieldLink RX4 34 "BookedDetours$Search" "ways" "I", .fieldLink RX4 77 "BookedDetours$Search" "earliestDown" "I", .methodLink RX4 80 Lib.Math.min.name, .static Lib.Math.min.name, .initialized "java/lang/Math", .code Lib.Math.min.name Lib.Math.min.code 2 (some .int), .fieldLink RX4 86 "BookedDetours$Timetable" "free" "I", .fieldLink RX4 89 "BookedDetours$Search" "over" "I", .fieldLink RX4 64 "BookedDetours$Search" "pickPlace" "I", .fieldLink RX4 67 "BookedDetours$Search" "downPlace" "I", .fieldLink RX4 92 "BookedDetours$Timetable" "picks" "LBookedDetours$Row;", .fieldLink RX4 95 "BookedDetours$Search" "pickTime" "I", .fieldLink RX4 98 "BookedDetours$Search" "downTime" "I", .methodLink RX4 73 yX3_at, .instanceMethod yX3_at, .selects RX3 yX3_at yX3_at, .initialized RX3, .code yX3_at cX3_at 2 (some .int), .fieldLink RX3 19 "BookedDetours$Row" "length" "I", .fieldLink RX3 13 "BookedDetours$Row" "cells" "[I"] ++ wsX40 ++ wsX50 ++ wsX30)
def wsX4_find_r1 : List Cond := [Cond.fieldLink RX4 10 "BookedDetours$Search" "day" "LBookedDetours$Day;", Cond.fieldLink RX4 34 "BookedDetours$Search" "ways" "I", Cond.fieldLink RX4 38 "BookedDetours$Day" "route" "LBookedDetours$Row;", Cond.fieldLink RX4 19 "BookedDetours$Search" "table" "LBookedDetours$Timetable;", Cond.fieldLink RX4 64 "BookedDetours$Search" "pickPlace" "I", Cond.fieldLink RX4 67 "BookedDetours$Search" "downPlace" "I", Cond.methodLink RX4 23 yX0_copy, Cond.instanceMethod yX0_copy, Cond.selects RX0 yX0_copy yX0_copy, Cond.initialized RX0, Cond.code yX0_copy cX0_copy 2 none, Cond.fieldLink RX0 14 "BookedDetours$Day" "settings" "LBookedDetours$Row;", Cond.fieldLink RX0 20 "BookedDetours$Day" "xs" "LBookedDetours$Row;", Cond.fieldLink RX0 23 "BookedDetours$Day" "ys" "LBookedDetours$Row;", Cond.fieldLink RX0 26 "BookedDetours$Day" "froms" "LBookedDetours$Row;", Cond.fieldLink RX0 29 "BookedDetours$Day" "tos" "LBookedDetours$Row;", Cond.fieldLink RX0 32 "BookedDetours$Day" "waits" "LBookedDetours$Row;", Cond.fieldLink RX0 35 "BookedDetours$Day" "bys" "LBookedDetours$Row;", Cond.fieldLink RX0 38 "BookedDetours$Day" "straights" "LBookedDetours$Row;", Cond.fieldLink RX0 41 "BookedDetours$Day" "stands" "LBookedDetours$Row;", Cond.fieldLink RX0 44 "BookedDetours$Day" "picks" "LBookedDetours$Row;", Cond.fieldLink RX0 47 "BookedDetours$Day" "downs" "LBookedDetours$Row;", Cond.fieldLink RX0 50 "BookedDetours$Day" "route" "LBookedDetours$Row;", Cond.fieldLink RX0 60 "BookedDetours$Day" "now" "I"]
def wsX4_find_r2 : List Cond := [Cond.fieldLink RX0 64 "BookedDetours$Day" "busStop" "I", Cond.fieldLink RX0 67 "BookedDetours$Day" "busFree" "I", Cond.methodLink RX0 56 yX3_copy, Cond.instanceMethod yX3_copy, Cond.selects RX3 yX3_copy yX3_copy, Cond.initialized RX3, Cond.code yX3_copy cX3_copy 3 none, Cond.fieldLink RX3 19 "BookedDetours$Row" "length" "I", Cond.fieldLink RX3 13 "BookedDetours$Row" "cells" "[I", Cond.methodLink RX3 27 Lib.Math.min.name, Cond.static Lib.Math.min.name, Cond.initialized "java/lang/Math", Cond.code Lib.Math.min.name Lib.Math.min.code 2 (some .int), Cond.methodLink RX4 27 yX0_beReady, Cond.instanceMethod yX0_beReady, Cond.selects RX0 yX0_beReady yX0_beReady, Cond.code yX0_beReady cX0_beReady 1 none, Cond.methodLink RX0 94 Lib.Math.max.name, Cond.static Lib.Math.max.name, Cond.code Lib.Math.max.name Lib.Math.max.code 2 (some .int), Cond.methodLink RX0 70 yX3_length, Cond.instanceMethod yX3_length, Cond.selects RX3 yX3_length yX3_length, Cond.code yX3_length cX3_length 1 (some .int)]
def wsX4_find_r3 : List Cond := [Cond.methodLink RX4 30 yX0_addRide, Cond.instanceMethod yX0_addRide, Cond.selects RX0 yX0_addRide yX0_addRide, Cond.code yX0_addRide cX0_addRide 5 (some .int), Cond.methodLink RX0 53 yX3_add, Cond.instanceMethod yX3_add, Cond.selects RX3 yX3_add yX3_add, Cond.code yX3_add cX3_add 2 none, Cond.methodLink RX3 23 yX3_insert, Cond.instanceMethod yX3_insert, Cond.selects RX3 yX3_insert yX3_insert, Cond.code yX3_insert cX3_insert 4 none, Cond.methodLink RX0 90 yX0_minutes, Cond.instanceMethod yX0_minutes, Cond.selects RX0 yX0_minutes yX0_minutes, Cond.code yX0_minutes cX0_minutes 3 (some .int), Cond.methodLink RX0 78 Lib.Math.abs.name, Cond.static Lib.Math.abs.name, Cond.code Lib.Math.abs.name Lib.Math.abs.code 1 (some .int), Cond.methodLink RX0 74 yX3_at, Cond.instanceMethod yX3_at, Cond.selects RX3 yX3_at yX3_at, Cond.code yX3_at cX3_at 2 (some .int), Cond.methodLink RX4 42 yX3_length]
def wsX4_find_r4 : List Cond := [Cond.methodLink RX4 48 yX0_isOnItsWay, Cond.instanceMethod yX0_isOnItsWay, Cond.selects RX0 yX0_isOnItsWay yX0_isOnItsWay, Cond.code yX0_isOnItsWay cX0_isOnItsWay 1 (some .boolean), Cond.methodLink RX4 52 yX4_lay, Cond.instanceMethod yX4_lay, Cond.selects RX4 yX4_lay yX4_lay, Cond.initialized RX4, Cond.code yX4_lay cX4_lay 5 none, Cond.methodLink RX4 101 yX3_copy, Cond.static yX6_pickUp, Cond.initialized RX6, Cond.code yX6_pickUp cX6_pickUp 1 (some .int), Cond.methodLink RX4 109 yX3_insert, Cond.static yX6_setDown, Cond.code yX6_setDown cX6_setDown 1 (some .int), Cond.methodLink RX4 56 yX5_keepsAll, Cond.instanceMethod yX5_keepsAll, Cond.selects RX5 yX5_keepsAll yX5_keepsAll, Cond.initialized RX5, Cond.code yX5_keepsAll cX5_keepsAll 3 (some .boolean), Cond.fieldLink RX5 36 "BookedDetours$Day" "route" "LBookedDetours$Row;", Cond.methodLink RX5 32 yX5_begin, Cond.instanceMethod yX5_begin]
def wsX4_find_r5 : List Cond := [Cond.selects RX5 yX5_begin yX5_begin, Cond.code yX5_begin cX5_begin 2 none, Cond.fieldLink RX5 14 "BookedDetours$Timetable" "times" "LBookedDetours$Row;", Cond.fieldLink RX5 20 "BookedDetours$Timetable" "loads" "LBookedDetours$Row;", Cond.fieldLink RX5 23 "BookedDetours$Timetable" "delays" "LBookedDetours$Row;", Cond.fieldLink RX5 26 "BookedDetours$Timetable" "picks" "LBookedDetours$Row;", Cond.fieldLink RX5 56 "BookedDetours$Day" "picks" "LBookedDetours$Row;", Cond.fieldLink RX5 29 "BookedDetours$Timetable" "downs" "LBookedDetours$Row;", Cond.fieldLink RX5 61 "BookedDetours$Day" "downs" "LBookedDetours$Row;", Cond.fieldLink RX5 62 "BookedDetours$Day" "busStop" "I", Cond.fieldLink RX5 66 "BookedDetours$Timetable" "stop" "I", Cond.fieldLink RX5 69 "BookedDetours$Day" "busFree" "I", Cond.fieldLink RX5 72 "BookedDetours$Timetable" "free" "I", Cond.fieldLink RX5 78 "BookedDetours$Timetable" "aboard" "I", Cond.fieldLink RX5 81 "BookedDetours$Timetable" "driving" "I", Cond.fieldLink RX5 84 "BookedDetours$Timetable" "waiting" "I", Cond.methodLink RX5 53 yX3_clear, Cond.instanceMethod yX3_clear, Cond.selects RX3 yX3_clear yX3_clear, Cond.code yX3_clear cX3_clear 1 none, Cond.methodLink RX5 57 yX3_copy, Cond.methodLink RX5 75 yX0_ridesThatStand, Cond.instanceMethod yX0_ridesThatStand, Cond.selects RX0 yX0_ridesThatStand yX0_ridesThatStand]
def wsX4_find_r6 : List Cond := [Cond.code yX0_ridesThatStand cX0_ridesThatStand 4 (some .int), Cond.methodLink RX5 41 yX3_length, Cond.methodLink RX5 45 yX3_at, Cond.methodLink RX5 49 yX5_step, Cond.instanceMethod yX5_step, Cond.selects RX5 yX5_step yX5_step, Cond.code yX5_step cX5_step 9 (some .boolean), Cond.fieldLink RX5 101 "BookedDetours$Day" "waits" "LBookedDetours$Row;", Cond.methodLink RX5 104 Lib.Math.max.name, Cond.fieldLink RX5 109 "BookedDetours$Day" "settings" "LBookedDetours$Row;", Cond.fieldLink RX5 119 "BookedDetours$Day" "bys" "LBookedDetours$Row;", Cond.static yX6_rideOf, Cond.code yX6_rideOf cX6_rideOf 1 (some .int), Cond.static yX6_setsDown, Cond.code yX6_setsDown cX6_setsDown 1 (some .boolean), Cond.methodLink RX5 94 yX0_stopOf, Cond.instanceMethod yX0_stopOf, Cond.selects RX0 yX0_stopOf yX0_stopOf, Cond.code yX0_stopOf cX0_stopOf 3 (some .int), Cond.methodLink RX5 97 yX0_minutes, Cond.methodLink RX5 112 yX3_add, Cond.methodLink RX5 115 yX3_change, Cond.instanceMethod yX3_change, Cond.selects RX3 yX3_change yX3_change]
def wsX4_find_r7 : List Cond := [Cond.code yX3_change cX3_change 3 none, Cond.methodLink RX5 122 yX5_latestByDetour, Cond.instanceMethod yX5_latestByDetour, Cond.selects RX5 yX5_latestByDetour yX5_latestByDetour, Cond.code yX5_latestByDetour cX5_latestByDetour 4 (some .int), Cond.fieldLink RX5 126 "BookedDetours$Day" "straights" "LBookedDetours$Row;", Cond.methodLink RX4 60 yX4_takeWay, Cond.instanceMethod yX4_takeWay, Cond.selects RX4 yX4_takeWay yX4_takeWay, Cond.code yX4_takeWay cX4_takeWay 5 none, Cond.fieldLink RX4 70 "BookedDetours$Timetable" "downs" "LBookedDetours$Row;", Cond.fieldLink RX4 77 "BookedDetours$Search" "earliestDown" "I", Cond.methodLink RX4 80 Lib.Math.min.name, Cond.fieldLink RX4 86 "BookedDetours$Timetable" "free" "I", Cond.fieldLink RX4 89 "BookedDetours$Search" "over" "I", Cond.fieldLink RX4 92 "BookedDetours$Timetable" "picks" "LBookedDetours$Row;", Cond.fieldLink RX4 95 "BookedDetours$Search" "pickTime" "I", Cond.fieldLink RX4 98 "BookedDetours$Search" "downTime" "I", Cond.methodLink RX4 73 yX3_at]
def wsX4_find : List Cond := .code yX4_find cX4_find 10 (some .boolean) :: ((wsX4_find_r1 ++ (wsX4_find_r2 ++ (wsX4_find_r3 ++ (wsX4_find_r4 ++ (wsX4_find_r5 ++ (wsX4_find_r6 ++ wsX4_find_r7)))))) ++ wsX40 ++ wsX00 ++ wsX30 ++ wsX50)
def wsX5_follow_r1 : List Cond := [Cond.fieldLink RX5 36 "BookedDetours$Day" "route" "LBookedDetours$Row;", Cond.methodLink RX5 32 yX5_begin, Cond.instanceMethod yX5_begin, Cond.selects RX5 yX5_begin yX5_begin, Cond.initialized RX5, Cond.code yX5_begin cX5_begin 2 none, Cond.fieldLink RX5 14 "BookedDetours$Timetable" "times" "LBookedDetours$Row;", Cond.fieldLink RX5 20 "BookedDetours$Timetable" "loads" "LBookedDetours$Row;", Cond.fieldLink RX5 23 "BookedDetours$Timetable" "delays" "LBookedDetours$Row;", Cond.fieldLink RX5 26 "BookedDetours$Timetable" "picks" "LBookedDetours$Row;", Cond.fieldLink RX5 56 "BookedDetours$Day" "picks" "LBookedDetours$Row;", Cond.fieldLink RX5 29 "BookedDetours$Timetable" "downs" "LBookedDetours$Row;", Cond.fieldLink RX5 61 "BookedDetours$Day" "downs" "LBookedDetours$Row;", Cond.fieldLink RX5 62 "BookedDetours$Day" "busStop" "I", Cond.fieldLink RX5 66 "BookedDetours$Timetable" "stop" "I", Cond.fieldLink RX5 69 "BookedDetours$Day" "busFree" "I", Cond.fieldLink RX5 72 "BookedDetours$Timetable" "free" "I", Cond.fieldLink RX5 78 "BookedDetours$Timetable" "aboard" "I", Cond.fieldLink RX5 81 "BookedDetours$Timetable" "driving" "I", Cond.fieldLink RX5 84 "BookedDetours$Timetable" "waiting" "I", Cond.methodLink RX5 53 yX3_clear, Cond.instanceMethod yX3_clear, Cond.selects RX3 yX3_clear yX3_clear, Cond.initialized RX3]
def wsX5_follow_r2 : List Cond := [Cond.code yX3_clear cX3_clear 1 none, Cond.fieldLink RX3 19 "BookedDetours$Row" "length" "I", Cond.methodLink RX5 57 yX3_copy, Cond.instanceMethod yX3_copy, Cond.selects RX3 yX3_copy yX3_copy, Cond.code yX3_copy cX3_copy 3 none, Cond.fieldLink RX3 13 "BookedDetours$Row" "cells" "[I", Cond.methodLink RX3 27 Lib.Math.min.name, Cond.static Lib.Math.min.name, Cond.initialized "java/lang/Math", Cond.code Lib.Math.min.name Lib.Math.min.code 2 (some .int), Cond.methodLink RX5 75 yX0_ridesThatStand, Cond.instanceMethod yX0_ridesThatStand, Cond.selects RX0 yX0_ridesThatStand yX0_ridesThatStand, Cond.initialized RX0, Cond.code yX0_ridesThatStand cX0_ridesThatStand 4 (some .int), Cond.fieldLink RX0 41 "BookedDetours$Day" "stands" "LBookedDetours$Row;", Cond.methodLink RX0 70 yX3_length, Cond.instanceMethod yX3_length, Cond.selects RX3 yX3_length yX3_length, Cond.code yX3_length cX3_length 1 (some .int), Cond.methodLink RX0 74 yX3_at, Cond.instanceMethod yX3_at, Cond.selects RX3 yX3_at yX3_at]
def wsX5_follow_r3 : List Cond := [Cond.code yX3_at cX3_at 2 (some .int), Cond.methodLink RX5 41 yX3_length, Cond.methodLink RX5 45 yX3_at, Cond.methodLink RX5 49 yX5_step, Cond.instanceMethod yX5_step, Cond.selects RX5 yX5_step yX5_step, Cond.code yX5_step cX5_step 9 (some .boolean), Cond.fieldLink RX5 101 "BookedDetours$Day" "waits" "LBookedDetours$Row;", Cond.methodLink RX5 104 Lib.Math.max.name, Cond.static Lib.Math.max.name, Cond.code Lib.Math.max.name Lib.Math.max.code 2 (some .int), Cond.fieldLink RX5 109 "BookedDetours$Day" "settings" "LBookedDetours$Row;", Cond.fieldLink RX5 119 "BookedDetours$Day" "bys" "LBookedDetours$Row;", Cond.static yX6_rideOf, Cond.initialized RX6, Cond.code yX6_rideOf cX6_rideOf 1 (some .int), Cond.static yX6_setsDown, Cond.code yX6_setsDown cX6_setsDown 1 (some .boolean), Cond.methodLink RX5 94 yX0_stopOf, Cond.instanceMethod yX0_stopOf, Cond.selects RX0 yX0_stopOf yX0_stopOf, Cond.code yX0_stopOf cX0_stopOf 3 (some .int), Cond.fieldLink RX0 29 "BookedDetours$Day" "tos" "LBookedDetours$Row;", Cond.fieldLink RX0 26 "BookedDetours$Day" "froms" "LBookedDetours$Row;"]
def wsX5_follow_r4 : List Cond := [Cond.methodLink RX5 97 yX0_minutes, Cond.instanceMethod yX0_minutes, Cond.selects RX0 yX0_minutes yX0_minutes, Cond.code yX0_minutes cX0_minutes 3 (some .int), Cond.fieldLink RX0 20 "BookedDetours$Day" "xs" "LBookedDetours$Row;", Cond.methodLink RX0 78 Lib.Math.abs.name, Cond.static Lib.Math.abs.name, Cond.code Lib.Math.abs.name Lib.Math.abs.code 1 (some .int), Cond.fieldLink RX0 23 "BookedDetours$Day" "ys" "LBookedDetours$Row;", Cond.methodLink RX5 112 yX3_add, Cond.instanceMethod yX3_add, Cond.selects RX3 yX3_add yX3_add, Cond.code yX3_add cX3_add 2 none, Cond.methodLink RX3 23 yX3_insert, Cond.instanceMethod yX3_insert, Cond.selects RX3 yX3_insert yX3_insert, Cond.code yX3_insert cX3_insert 4 none, Cond.methodLink RX5 115 yX3_change, Cond.instanceMethod yX3_change, Cond.selects RX3 yX3_change yX3_change, Cond.code yX3_change cX3_change 3 none, Cond.methodLink RX5 122 yX5_latestByDetour, Cond.instanceMethod yX5_latestByDetour, Cond.selects RX5 yX5_latestByDetour yX5_latestByDetour]
def wsX5_follow_r5 : List Cond := [Cond.code yX5_latestByDetour cX5_latestByDetour 4 (some .int), Cond.fieldLink RX5 126 "BookedDetours$Day" "straights" "LBookedDetours$Row;"]
def wsX5_follow : List Cond := .code yX5_follow cX5_follow 3 none :: ((wsX5_follow_r1 ++ (wsX5_follow_r2 ++ (wsX5_follow_r3 ++ (wsX5_follow_r4 ++ wsX5_follow_r5)))) ++ wsX00 ++ wsX50 ++ wsX30)
def wsX6_init_r1 : List Cond := [Cond.methodLink RX6 3 objectInit, Cond.instanceMethod objectInit, Cond.code objectInit ⟨#[0xb1]⟩ 1 none, Cond.classLink RX6 9 RX0, Cond.instantiable RX0 15, Cond.initialized RX0, Cond.fieldLink RX6 12 "BookedDetours" "day" "LBookedDetours$Day;", Cond.classLink RX6 16 RX5, Cond.instantiable RX5 10, Cond.initialized RX5, Cond.fieldLink RX6 19 "BookedDetours" "table" "LBookedDetours$Timetable;", Cond.classLink RX6 23 RX4, Cond.instantiable RX4 9, Cond.initialized RX4, Cond.fieldLink RX6 26 "BookedDetours" "search" "LBookedDetours$Search;", Cond.classLink RX6 30 RX2, Cond.instantiable RX2 2, Cond.initialized RX2, Cond.fieldLink RX6 33 "BookedDetours" "pad" "LBookedDetours$Pad;", Cond.classLink RX6 37 RX1, Cond.instantiable RX1 2, Cond.initialized RX1, Cond.fieldLink RX6 40 "BookedDetours" "history" "LBookedDetours$History;", Cond.fieldLink RX6 44 "BookedDetours" "slots" "[LBookedDetours$Day;"]
def wsX6_init_r2 : List Cond := [Cond.methodLink RX6 11 yX0_init, Cond.instanceMethod yX0_init, Cond.code yX0_init cX0_init 1 none, Cond.methodLink RX0 3 objectInit, Cond.classLink RX0 9 RX3, Cond.instantiable RX3 2, Cond.initialized RX3, Cond.fieldLink RX0 14 "BookedDetours$Day" "settings" "LBookedDetours$Row;", Cond.fieldLink RX0 20 "BookedDetours$Day" "xs" "LBookedDetours$Row;", Cond.fieldLink RX0 23 "BookedDetours$Day" "ys" "LBookedDetours$Row;", Cond.fieldLink RX0 26 "BookedDetours$Day" "froms" "LBookedDetours$Row;", Cond.fieldLink RX0 29 "BookedDetours$Day" "tos" "LBookedDetours$Row;", Cond.fieldLink RX0 32 "BookedDetours$Day" "waits" "LBookedDetours$Row;", Cond.fieldLink RX0 35 "BookedDetours$Day" "bys" "LBookedDetours$Row;", Cond.fieldLink RX0 38 "BookedDetours$Day" "straights" "LBookedDetours$Row;", Cond.fieldLink RX0 41 "BookedDetours$Day" "stands" "LBookedDetours$Row;", Cond.fieldLink RX0 44 "BookedDetours$Day" "picks" "LBookedDetours$Row;", Cond.fieldLink RX0 47 "BookedDetours$Day" "downs" "LBookedDetours$Row;", Cond.fieldLink RX0 50 "BookedDetours$Day" "route" "LBookedDetours$Row;", Cond.methodLink RX0 11 yX3_init, Cond.instanceMethod yX3_init, Cond.code yX3_init cX3_init 2 none, Cond.methodLink RX3 1 objectInit, Cond.methodLink RX3 7 Lib.Math.max.name]
def wsX6_init_r3 : List Cond := [Cond.static Lib.Math.max.name, Cond.initialized "java/lang/Math", Cond.code Lib.Math.max.name Lib.Math.max.code 2 (some .int), Cond.arrayClass .int, Cond.fieldLink RX3 13 "BookedDetours$Row" "cells" "[I", Cond.methodLink RX0 53 yX3_add, Cond.instanceMethod yX3_add, Cond.selects RX3 yX3_add yX3_add, Cond.code yX3_add cX3_add 2 none, Cond.fieldLink RX3 19 "BookedDetours$Row" "length" "I", Cond.methodLink RX3 23 yX3_insert, Cond.instanceMethod yX3_insert, Cond.selects RX3 yX3_insert yX3_insert, Cond.code yX3_insert cX3_insert 4 none, Cond.instanceMethod yX5_init, Cond.code yX5_init cX5_init 1 none, Cond.methodLink RX5 3 objectInit, Cond.classLink RX5 9 RX3, Cond.fieldLink RX5 14 "BookedDetours$Timetable" "times" "LBookedDetours$Row;", Cond.fieldLink RX5 20 "BookedDetours$Timetable" "loads" "LBookedDetours$Row;", Cond.fieldLink RX5 23 "BookedDetours$Timetable" "delays" "LBookedDetours$Row;", Cond.fieldLink RX5 26 "BookedDetours$Timetable" "picks" "LBookedDetours$Row;", Cond.fieldLink RX5 29 "BookedDetours$Timetable" "downs" "LBookedDetours$Row;", Cond.methodLink RX5 11 yX3_init]
def wsX6_init_r4 : List Cond := [Cond.instanceMethod yX4_init, Cond.code yX4_init cX4_init 1 none, Cond.methodLink RX4 1 objectInit, Cond.classLink RX4 7 RX0, Cond.fieldLink RX4 10 "BookedDetours$Search" "day" "LBookedDetours$Day;", Cond.classLink RX4 16 RX5, Cond.fieldLink RX4 19 "BookedDetours$Search" "table" "LBookedDetours$Timetable;", Cond.methodLink RX4 9 yX0_init, Cond.instanceMethod yX2_init, Cond.code yX2_init cX2_init 1 none, Cond.methodLink RX2 3 objectInit, Cond.classLink RX2 9 RX3, Cond.fieldLink RX2 14 "BookedDetours$Pad" "signs" "LBookedDetours$Row;", Cond.fieldLink RX2 20 "BookedDetours$Pad" "numbers" "LBookedDetours$Row;", Cond.methodLink RX2 11 yX3_init, Cond.instanceMethod yX1_init, Cond.code yX1_init cX1_init 1 none, Cond.methodLink RX1 3 objectInit, Cond.classLink RX1 9 RX0, Cond.fieldLink RX1 11 "BookedDetours$History" "days" "[LBookedDetours$Day;"]
def wsX6_init : List Cond := .code yX6_init cX6_init 1 none :: ((wsX6_init_r1 ++ (wsX6_init_r2 ++ (wsX6_init_r3 ++ wsX6_init_r4))) ++ wsX00 ++ wsX60 ++ wsX50 ++ wsX40 ++ wsX20 ++ wsX10 ++ wsX30)
def wsX6_leastOf : List Cond := .code yX6_leastOf cX6_leastOf 1 (some .int) :: ([])
def wsX6_mostOf : List Cond := .code yX6_mostOf cX6_mostOf 1 (some .int) :: ([])
def wsX6_set_r1 : List Cond := [Cond.fieldLink RX6 12 "BookedDetours" "day" "LBookedDetours$Day;", Cond.fieldLink RX6 55 "BookedDetours$Day" "route" "LBookedDetours$Row;", Cond.fieldLink RX6 40 "BookedDetours" "history" "LBookedDetours$History;", Cond.fieldLink RX6 69 "BookedDetours$Day" "settings" "LBookedDetours$Row;", Cond.methodLink RX6 48 yX6_leastOf, Cond.static yX6_leastOf, Cond.initialized RX6, Cond.code yX6_leastOf cX6_leastOf 1 (some .int), Cond.methodLink RX6 52 yX6_mostOf, Cond.static yX6_mostOf, Cond.code yX6_mostOf cX6_mostOf 1 (some .int), Cond.methodLink RX6 59 yX3_length, Cond.instanceMethod yX3_length, Cond.selects RX3 yX3_length yX3_length, Cond.initialized RX3, Cond.code yX3_length cX3_length 1 (some .int), Cond.fieldLink RX3 19 "BookedDetours$Row" "length" "I", Cond.methodLink RX6 65 yX1_add, Cond.instanceMethod yX1_add, Cond.selects RX1 yX1_add yX1_add, Cond.initialized RX1, Cond.code yX1_add cX1_add 3 none, Cond.fieldLink RX1 17 "BookedDetours$History" "length" "I", Cond.fieldLink RX1 11 "BookedDetours$History" "days" "[LBookedDetours$Day;"]
def wsX6_set_r2 : List Cond := [Cond.classLink RX1 9 RX0, Cond.instantiable RX0 15, Cond.initialized RX0, Cond.methodLink RX1 21 yX1_dropOldest, Cond.instanceMethod yX1_dropOldest, Cond.selects RX1 yX1_dropOldest yX1_dropOldest, Cond.code yX1_dropOldest cX1_dropOldest 3 none, Cond.methodLink RX1 24 yX0_init, Cond.instanceMethod yX0_init, Cond.code yX0_init cX0_init 1 none, Cond.methodLink RX0 3 objectInit, Cond.instanceMethod objectInit, Cond.code objectInit ⟨#[0xb1]⟩ 1 none, Cond.classLink RX0 9 RX3, Cond.instantiable RX3 2, Cond.fieldLink RX0 14 "BookedDetours$Day" "settings" "LBookedDetours$Row;", Cond.fieldLink RX0 20 "BookedDetours$Day" "xs" "LBookedDetours$Row;", Cond.fieldLink RX0 23 "BookedDetours$Day" "ys" "LBookedDetours$Row;", Cond.fieldLink RX0 26 "BookedDetours$Day" "froms" "LBookedDetours$Row;", Cond.fieldLink RX0 29 "BookedDetours$Day" "tos" "LBookedDetours$Row;", Cond.fieldLink RX0 32 "BookedDetours$Day" "waits" "LBookedDetours$Row;", Cond.fieldLink RX0 35 "BookedDetours$Day" "bys" "LBookedDetours$Row;", Cond.fieldLink RX0 38 "BookedDetours$Day" "straights" "LBookedDetours$Row;", Cond.fieldLink RX0 41 "BookedDetours$Day" "stands" "LBookedDetours$Row;"]
def wsX6_set_r3 : List Cond := [Cond.fieldLink RX0 44 "BookedDetours$Day" "picks" "LBookedDetours$Row;", Cond.fieldLink RX0 47 "BookedDetours$Day" "downs" "LBookedDetours$Row;", Cond.fieldLink RX0 50 "BookedDetours$Day" "route" "LBookedDetours$Row;", Cond.methodLink RX0 11 yX3_init, Cond.instanceMethod yX3_init, Cond.code yX3_init cX3_init 2 none, Cond.methodLink RX3 1 objectInit, Cond.methodLink RX3 7 Lib.Math.max.name, Cond.static Lib.Math.max.name, Cond.initialized "java/lang/Math", Cond.code Lib.Math.max.name Lib.Math.max.code 2 (some .int), Cond.arrayClass .int, Cond.fieldLink RX3 13 "BookedDetours$Row" "cells" "[I", Cond.methodLink RX0 53 yX3_add, Cond.instanceMethod yX3_add, Cond.selects RX3 yX3_add yX3_add, Cond.code yX3_add cX3_add 2 none, Cond.methodLink RX3 23 yX3_insert, Cond.instanceMethod yX3_insert, Cond.selects RX3 yX3_insert yX3_insert, Cond.code yX3_insert cX3_insert 4 none, Cond.methodLink RX1 25 yX0_copy, Cond.instanceMethod yX0_copy, Cond.selects RX0 yX0_copy yX0_copy]
def wsX6_set_r4 : List Cond := [Cond.code yX0_copy cX0_copy 2 none, Cond.fieldLink RX0 60 "BookedDetours$Day" "now" "I", Cond.fieldLink RX0 64 "BookedDetours$Day" "busStop" "I", Cond.fieldLink RX0 67 "BookedDetours$Day" "busFree" "I", Cond.methodLink RX0 56 yX3_copy, Cond.instanceMethod yX3_copy, Cond.selects RX3 yX3_copy yX3_copy, Cond.code yX3_copy cX3_copy 3 none, Cond.methodLink RX3 27 Lib.Math.min.name, Cond.static Lib.Math.min.name, Cond.code Lib.Math.min.name Lib.Math.min.code 2 (some .int), Cond.methodLink RX6 72 yX3_at, Cond.instanceMethod yX3_at, Cond.selects RX3 yX3_at yX3_at, Cond.code yX3_at cX3_at 2 (some .int), Cond.methodLink RX6 75 yX3_change, Cond.instanceMethod yX3_change, Cond.selects RX3 yX3_change yX3_change, Cond.code yX3_change cX3_change 3 none]
def wsX6_set : List Cond := .code yX6_set cX6_set 4 (some .int) :: ((wsX6_set_r1 ++ (wsX6_set_r2 ++ (wsX6_set_r3 ++ wsX6_set_r4))) ++ wsX60 ++ wsX00 ++ wsX30 ++ wsX10)
def wsX6_stop_r1 : List Cond := [Cond.fieldLink RX6 12 "BookedDetours" "day" "LBookedDetours$Day;", Cond.fieldLink RX6 79 "BookedDetours$Day" "xs" "LBookedDetours$Row;", Cond.fieldLink RX6 40 "BookedDetours" "history" "LBookedDetours$History;", Cond.fieldLink RX6 85 "BookedDetours$Day" "ys" "LBookedDetours$Row;", Cond.methodLink RX6 59 yX3_length, Cond.instanceMethod yX3_length, Cond.selects RX3 yX3_length yX3_length, Cond.initialized RX3, Cond.code yX3_length cX3_length 1 (some .int), Cond.fieldLink RX3 19 "BookedDetours$Row" "length" "I", Cond.methodLink RX6 65 yX1_add, Cond.instanceMethod yX1_add, Cond.selects RX1 yX1_add yX1_add, Cond.initialized RX1, Cond.code yX1_add cX1_add 3 none, Cond.fieldLink RX1 17 "BookedDetours$History" "length" "I", Cond.fieldLink RX1 11 "BookedDetours$History" "days" "[LBookedDetours$Day;", Cond.classLink RX1 9 RX0, Cond.instantiable RX0 15, Cond.initialized RX0, Cond.methodLink RX1 21 yX1_dropOldest, Cond.instanceMethod yX1_dropOldest, Cond.selects RX1 yX1_dropOldest yX1_dropOldest, Cond.code yX1_dropOldest cX1_dropOldest 3 none]
def wsX6_stop_r2 : List Cond := [Cond.methodLink RX1 24 yX0_init, Cond.instanceMethod yX0_init, Cond.code yX0_init cX0_init 1 none, Cond.methodLink RX0 3 objectInit, Cond.instanceMethod objectInit, Cond.code objectInit ⟨#[0xb1]⟩ 1 none, Cond.classLink RX0 9 RX3, Cond.instantiable RX3 2, Cond.fieldLink RX0 14 "BookedDetours$Day" "settings" "LBookedDetours$Row;", Cond.fieldLink RX0 20 "BookedDetours$Day" "xs" "LBookedDetours$Row;", Cond.fieldLink RX0 23 "BookedDetours$Day" "ys" "LBookedDetours$Row;", Cond.fieldLink RX0 26 "BookedDetours$Day" "froms" "LBookedDetours$Row;", Cond.fieldLink RX0 29 "BookedDetours$Day" "tos" "LBookedDetours$Row;", Cond.fieldLink RX0 32 "BookedDetours$Day" "waits" "LBookedDetours$Row;", Cond.fieldLink RX0 35 "BookedDetours$Day" "bys" "LBookedDetours$Row;", Cond.fieldLink RX0 38 "BookedDetours$Day" "straights" "LBookedDetours$Row;", Cond.fieldLink RX0 41 "BookedDetours$Day" "stands" "LBookedDetours$Row;", Cond.fieldLink RX0 44 "BookedDetours$Day" "picks" "LBookedDetours$Row;", Cond.fieldLink RX0 47 "BookedDetours$Day" "downs" "LBookedDetours$Row;", Cond.fieldLink RX0 50 "BookedDetours$Day" "route" "LBookedDetours$Row;", Cond.methodLink RX0 11 yX3_init, Cond.instanceMethod yX3_init, Cond.code yX3_init cX3_init 2 none, Cond.methodLink RX3 1 objectInit]
def wsX6_stop_r3 : List Cond := [Cond.methodLink RX3 7 Lib.Math.max.name, Cond.static Lib.Math.max.name, Cond.initialized "java/lang/Math", Cond.code Lib.Math.max.name Lib.Math.max.code 2 (some .int), Cond.arrayClass .int, Cond.fieldLink RX3 13 "BookedDetours$Row" "cells" "[I", Cond.methodLink RX0 53 yX3_add, Cond.instanceMethod yX3_add, Cond.selects RX3 yX3_add yX3_add, Cond.code yX3_add cX3_add 2 none, Cond.methodLink RX3 23 yX3_insert, Cond.instanceMethod yX3_insert, Cond.selects RX3 yX3_insert yX3_insert, Cond.code yX3_insert cX3_insert 4 none, Cond.methodLink RX1 25 yX0_copy, Cond.instanceMethod yX0_copy, Cond.selects RX0 yX0_copy yX0_copy, Cond.code yX0_copy cX0_copy 2 none, Cond.fieldLink RX0 60 "BookedDetours$Day" "now" "I", Cond.fieldLink RX0 64 "BookedDetours$Day" "busStop" "I", Cond.fieldLink RX0 67 "BookedDetours$Day" "busFree" "I", Cond.methodLink RX0 56 yX3_copy, Cond.instanceMethod yX3_copy, Cond.selects RX3 yX3_copy yX3_copy]
def wsX6_stop_r4 : List Cond := [Cond.code yX3_copy cX3_copy 3 none, Cond.methodLink RX3 27 Lib.Math.min.name, Cond.static Lib.Math.min.name, Cond.code Lib.Math.min.name Lib.Math.min.code 2 (some .int), Cond.methodLink RX6 82 yX3_add]
def wsX6_stop : List Cond := .code yX6_stop cX6_stop 3 (some .int) :: ((wsX6_stop_r1 ++ (wsX6_stop_r2 ++ (wsX6_stop_r3 ++ wsX6_stop_r4))) ++ wsX60 ++ wsX00 ++ wsX30 ++ wsX10)
def wsX6_errorOf : List Cond := .code yX6_errorOf cX6_errorOf 5 (some .int) :: ([.fieldLink RX6 12 "BookedDetours" "day" "LBookedDetours$Day;", .methodLink RX6 168 yX0_hasStop, .instanceMethod yX0_hasStop, .selects RX0 yX0_hasStop yX0_hasStop, .initialized RX0, .code yX0_hasStop cX0_hasStop 2 (some .boolean), .fieldLink RX0 20 "BookedDetours$Day" "xs" "LBookedDetours$Row;", .methodLink RX0 70 yX3_length, .instanceMethod yX3_length, .selects RX3 yX3_length yX3_length, .initialized RX3, .code yX3_length cX3_length 1 (some .int), .fieldLink RX3 19 "BookedDetours$Row" "length" "I"] ++ wsX60 ++ wsX00 ++ wsX30)
def wsX6_tryToBook_r1 : List Cond := [Cond.fieldLink RX6 12 "BookedDetours" "day" "LBookedDetours$Day;", Cond.fieldLink RX6 100 "BookedDetours$Day" "stands" "LBookedDetours$Row;", Cond.fieldLink RX6 26 "BookedDetours" "search" "LBookedDetours$Search;", Cond.methodLink RX6 186 yX6_errorOf, Cond.instanceMethod yX6_errorOf, Cond.selects RX6 yX6_errorOf yX6_errorOf, Cond.initialized RX6, Cond.code yX6_errorOf cX6_errorOf 5 (some .int), Cond.methodLink RX6 168 yX0_hasStop, Cond.instanceMethod yX0_hasStop, Cond.selects RX0 yX0_hasStop yX0_hasStop, Cond.initialized RX0, Cond.code yX0_hasStop cX0_hasStop 2 (some .boolean), Cond.fieldLink RX0 20 "BookedDetours$Day" "xs" "LBookedDetours$Row;", Cond.methodLink RX0 70 yX3_length, Cond.instanceMethod yX3_length, Cond.selects RX3 yX3_length yX3_length, Cond.initialized RX3, Cond.code yX3_length cX3_length 1 (some .int), Cond.fieldLink RX3 19 "BookedDetours$Row" "length" "I", Cond.methodLink RX6 59 yX3_length, Cond.methodLink RX6 189 yX4_find, Cond.instanceMethod yX4_find, Cond.selects RX4 yX4_find yX4_find]
def wsX6_tryToBook_r2 : List Cond := [Cond.initialized RX4, Cond.code yX4_find cX4_find 10 (some .boolean), Cond.fieldLink RX4 10 "BookedDetours$Search" "day" "LBookedDetours$Day;", Cond.fieldLink RX4 34 "BookedDetours$Search" "ways" "I", Cond.fieldLink RX4 38 "BookedDetours$Day" "route" "LBookedDetours$Row;", Cond.fieldLink RX4 19 "BookedDetours$Search" "table" "LBookedDetours$Timetable;", Cond.fieldLink RX4 64 "BookedDetours$Search" "pickPlace" "I", Cond.fieldLink RX4 67 "BookedDetours$Search" "downPlace" "I", Cond.methodLink RX4 23 yX0_copy, Cond.instanceMethod yX0_copy, Cond.selects RX0 yX0_copy yX0_copy, Cond.code yX0_copy cX0_copy 2 none, Cond.fieldLink RX0 14 "BookedDetours$Day" "settings" "LBookedDetours$Row;", Cond.fieldLink RX0 23 "BookedDetours$Day" "ys" "LBookedDetours$Row;", Cond.fieldLink RX0 26 "BookedDetours$Day" "froms" "LBookedDetours$Row;", Cond.fieldLink RX0 29 "BookedDetours$Day" "tos" "LBookedDetours$Row;", Cond.fieldLink RX0 32 "BookedDetours$Day" "waits" "LBookedDetours$Row;", Cond.fieldLink RX0 35 "BookedDetours$Day" "bys" "LBookedDetours$Row;", Cond.fieldLink RX0 38 "BookedDetours$Day" "straights" "LBookedDetours$Row;", Cond.fieldLink RX0 41 "BookedDetours$Day" "stands" "LBookedDetours$Row;", Cond.fieldLink RX0 44 "BookedDetours$Day" "picks" "LBookedDetours$Row;", Cond.fieldLink RX0 47 "BookedDetours$Day" "downs" "LBookedDetours$Row;", Cond.fieldLink RX0 50 "BookedDetours$Day" "route" "LBookedDetours$Row;", Cond.fieldLink RX0 60 "BookedDetours$Day" "now" "I"]
def wsX6_tryToBook_r3 : List Cond := [Cond.fieldLink RX0 64 "BookedDetours$Day" "busStop" "I", Cond.fieldLink RX0 67 "BookedDetours$Day" "busFree" "I", Cond.methodLink RX0 56 yX3_copy, Cond.instanceMethod yX3_copy, Cond.selects RX3 yX3_copy yX3_copy, Cond.code yX3_copy cX3_copy 3 none, Cond.fieldLink RX3 13 "BookedDetours$Row" "cells" "[I", Cond.methodLink RX3 27 Lib.Math.min.name, Cond.static Lib.Math.min.name, Cond.initialized "java/lang/Math", Cond.code Lib.Math.min.name Lib.Math.min.code 2 (some .int), Cond.methodLink RX4 27 yX0_beReady, Cond.instanceMethod yX0_beReady, Cond.selects RX0 yX0_beReady yX0_beReady, Cond.code yX0_beReady cX0_beReady 1 none, Cond.methodLink RX0 94 Lib.Math.max.name, Cond.static Lib.Math.max.name, Cond.code Lib.Math.max.name Lib.Math.max.code 2 (some .int), Cond.methodLink RX4 30 yX0_addRide, Cond.instanceMethod yX0_addRide, Cond.selects RX0 yX0_addRide yX0_addRide, Cond.code yX0_addRide cX0_addRide 5 (some .int), Cond.methodLink RX0 53 yX3_add, Cond.instanceMethod yX3_add]
def wsX6_tryToBook_r4 : List Cond := [Cond.selects RX3 yX3_add yX3_add, Cond.code yX3_add cX3_add 2 none, Cond.methodLink RX3 23 yX3_insert, Cond.instanceMethod yX3_insert, Cond.selects RX3 yX3_insert yX3_insert, Cond.code yX3_insert cX3_insert 4 none, Cond.methodLink RX0 90 yX0_minutes, Cond.instanceMethod yX0_minutes, Cond.selects RX0 yX0_minutes yX0_minutes, Cond.code yX0_minutes cX0_minutes 3 (some .int), Cond.methodLink RX0 78 Lib.Math.abs.name, Cond.static Lib.Math.abs.name, Cond.code Lib.Math.abs.name Lib.Math.abs.code 1 (some .int), Cond.methodLink RX0 74 yX3_at, Cond.instanceMethod yX3_at, Cond.selects RX3 yX3_at yX3_at, Cond.code yX3_at cX3_at 2 (some .int), Cond.methodLink RX4 42 yX3_length, Cond.methodLink RX4 48 yX0_isOnItsWay, Cond.instanceMethod yX0_isOnItsWay, Cond.selects RX0 yX0_isOnItsWay yX0_isOnItsWay, Cond.code yX0_isOnItsWay cX0_isOnItsWay 1 (some .boolean), Cond.methodLink RX4 52 yX4_lay, Cond.instanceMethod yX4_lay]
def wsX6_tryToBook_r5 : List Cond := [Cond.selects RX4 yX4_lay yX4_lay, Cond.code yX4_lay cX4_lay 5 none, Cond.methodLink RX4 101 yX3_copy, Cond.static yX6_pickUp, Cond.code yX6_pickUp cX6_pickUp 1 (some .int), Cond.methodLink RX4 109 yX3_insert, Cond.static yX6_setDown, Cond.code yX6_setDown cX6_setDown 1 (some .int), Cond.methodLink RX4 56 yX5_keepsAll, Cond.instanceMethod yX5_keepsAll, Cond.selects RX5 yX5_keepsAll yX5_keepsAll, Cond.initialized RX5, Cond.code yX5_keepsAll cX5_keepsAll 3 (some .boolean), Cond.fieldLink RX5 36 "BookedDetours$Day" "route" "LBookedDetours$Row;", Cond.methodLink RX5 32 yX5_begin, Cond.instanceMethod yX5_begin, Cond.selects RX5 yX5_begin yX5_begin, Cond.code yX5_begin cX5_begin 2 none, Cond.fieldLink RX5 14 "BookedDetours$Timetable" "times" "LBookedDetours$Row;", Cond.fieldLink RX5 20 "BookedDetours$Timetable" "loads" "LBookedDetours$Row;", Cond.fieldLink RX5 23 "BookedDetours$Timetable" "delays" "LBookedDetours$Row;", Cond.fieldLink RX5 26 "BookedDetours$Timetable" "picks" "LBookedDetours$Row;", Cond.fieldLink RX5 56 "BookedDetours$Day" "picks" "LBookedDetours$Row;", Cond.fieldLink RX5 29 "BookedDetours$Timetable" "downs" "LBookedDetours$Row;"]
def wsX6_tryToBook_r6 : List Cond := [Cond.fieldLink RX5 61 "BookedDetours$Day" "downs" "LBookedDetours$Row;", Cond.fieldLink RX5 62 "BookedDetours$Day" "busStop" "I", Cond.fieldLink RX5 66 "BookedDetours$Timetable" "stop" "I", Cond.fieldLink RX5 69 "BookedDetours$Day" "busFree" "I", Cond.fieldLink RX5 72 "BookedDetours$Timetable" "free" "I", Cond.fieldLink RX5 78 "BookedDetours$Timetable" "aboard" "I", Cond.fieldLink RX5 81 "BookedDetours$Timetable" "driving" "I", Cond.fieldLink RX5 84 "BookedDetours$Timetable" "waiting" "I", Cond.methodLink RX5 53 yX3_clear, Cond.instanceMethod yX3_clear, Cond.selects RX3 yX3_clear yX3_clear, Cond.code yX3_clear cX3_clear 1 none, Cond.methodLink RX5 57 yX3_copy, Cond.methodLink RX5 75 yX0_ridesThatStand, Cond.instanceMethod yX0_ridesThatStand, Cond.selects RX0 yX0_ridesThatStand yX0_ridesThatStand, Cond.code yX0_ridesThatStand cX0_ridesThatStand 4 (some .int), Cond.methodLink RX5 41 yX3_length, Cond.methodLink RX5 45 yX3_at, Cond.methodLink RX5 49 yX5_step, Cond.instanceMethod yX5_step, Cond.selects RX5 yX5_step yX5_step, Cond.code yX5_step cX5_step 9 (some .boolean), Cond.fieldLink RX5 101 "BookedDetours$Day" "waits" "LBookedDetours$Row;"]
def wsX6_tryToBook_r7 : List Cond := [Cond.methodLink RX5 104 Lib.Math.max.name, Cond.fieldLink RX5 109 "BookedDetours$Day" "settings" "LBookedDetours$Row;", Cond.fieldLink RX5 119 "BookedDetours$Day" "bys" "LBookedDetours$Row;", Cond.static yX6_rideOf, Cond.code yX6_rideOf cX6_rideOf 1 (some .int), Cond.static yX6_setsDown, Cond.code yX6_setsDown cX6_setsDown 1 (some .boolean), Cond.methodLink RX5 94 yX0_stopOf, Cond.instanceMethod yX0_stopOf, Cond.selects RX0 yX0_stopOf yX0_stopOf, Cond.code yX0_stopOf cX0_stopOf 3 (some .int), Cond.methodLink RX5 97 yX0_minutes, Cond.methodLink RX5 112 yX3_add, Cond.methodLink RX5 115 yX3_change, Cond.instanceMethod yX3_change, Cond.selects RX3 yX3_change yX3_change, Cond.code yX3_change cX3_change 3 none, Cond.methodLink RX5 122 yX5_latestByDetour, Cond.instanceMethod yX5_latestByDetour, Cond.selects RX5 yX5_latestByDetour yX5_latestByDetour, Cond.code yX5_latestByDetour cX5_latestByDetour 4 (some .int), Cond.fieldLink RX5 126 "BookedDetours$Day" "straights" "LBookedDetours$Row;", Cond.methodLink RX4 60 yX4_takeWay, Cond.instanceMethod yX4_takeWay]
def wsX6_tryToBook_r8 : List Cond := [Cond.selects RX4 yX4_takeWay yX4_takeWay, Cond.code yX4_takeWay cX4_takeWay 5 none, Cond.fieldLink RX4 70 "BookedDetours$Timetable" "downs" "LBookedDetours$Row;", Cond.fieldLink RX4 77 "BookedDetours$Search" "earliestDown" "I", Cond.methodLink RX4 80 Lib.Math.min.name, Cond.fieldLink RX4 86 "BookedDetours$Timetable" "free" "I", Cond.fieldLink RX4 89 "BookedDetours$Search" "over" "I", Cond.fieldLink RX4 92 "BookedDetours$Timetable" "picks" "LBookedDetours$Row;", Cond.fieldLink RX4 95 "BookedDetours$Search" "pickTime" "I", Cond.fieldLink RX4 98 "BookedDetours$Search" "downTime" "I", Cond.methodLink RX4 73 yX3_at]
def wsX6_tryToBook : List Cond := .code yX6_tryToBook cX6_tryToBook 6 (some .int) :: ((wsX6_tryToBook_r1 ++ (wsX6_tryToBook_r2 ++ (wsX6_tryToBook_r3 ++ (wsX6_tryToBook_r4 ++ (wsX6_tryToBook_r5 ++ (wsX6_tryToBook_r6 ++ (wsX6_tryToBook_r7 ++ wsX6_tryToBook_r8))))))) ++ wsX60 ++ wsX00 ++ wsX30 ++ wsX40 ++ wsX50)
def wsX6_book_r1 : List Cond := [Cond.fieldLink RX6 40 "BookedDetours" "history" "LBookedDetours$History;", Cond.fieldLink RX6 12 "BookedDetours" "day" "LBookedDetours$Day;", Cond.fieldLink RX6 26 "BookedDetours" "search" "LBookedDetours$Search;", Cond.fieldLink RX6 92 "BookedDetours$Search" "day" "LBookedDetours$Day;", Cond.methodLink RX6 88 yX6_tryToBook, Cond.instanceMethod yX6_tryToBook, Cond.selects RX6 yX6_tryToBook yX6_tryToBook, Cond.initialized RX6, Cond.code yX6_tryToBook cX6_tryToBook 6 (some .int), Cond.fieldLink RX6 100 "BookedDetours$Day" "stands" "LBookedDetours$Row;", Cond.methodLink RX6 186 yX6_errorOf, Cond.instanceMethod yX6_errorOf, Cond.selects RX6 yX6_errorOf yX6_errorOf, Cond.code yX6_errorOf cX6_errorOf 5 (some .int), Cond.methodLink RX6 168 yX0_hasStop, Cond.instanceMethod yX0_hasStop, Cond.selects RX0 yX0_hasStop yX0_hasStop, Cond.initialized RX0, Cond.code yX0_hasStop cX0_hasStop 2 (some .boolean), Cond.fieldLink RX0 20 "BookedDetours$Day" "xs" "LBookedDetours$Row;", Cond.methodLink RX0 70 yX3_length, Cond.instanceMethod yX3_length, Cond.selects RX3 yX3_length yX3_length, Cond.initialized RX3]
def wsX6_book_r2 : List Cond := [Cond.code yX3_length cX3_length 1 (some .int), Cond.fieldLink RX3 19 "BookedDetours$Row" "length" "I", Cond.methodLink RX6 59 yX3_length, Cond.methodLink RX6 189 yX4_find, Cond.instanceMethod yX4_find, Cond.selects RX4 yX4_find yX4_find, Cond.initialized RX4, Cond.code yX4_find cX4_find 10 (some .boolean), Cond.fieldLink RX4 10 "BookedDetours$Search" "day" "LBookedDetours$Day;", Cond.fieldLink RX4 34 "BookedDetours$Search" "ways" "I", Cond.fieldLink RX4 38 "BookedDetours$Day" "route" "LBookedDetours$Row;", Cond.fieldLink RX4 19 "BookedDetours$Search" "table" "LBookedDetours$Timetable;", Cond.fieldLink RX4 64 "BookedDetours$Search" "pickPlace" "I", Cond.fieldLink RX4 67 "BookedDetours$Search" "downPlace" "I", Cond.methodLink RX4 23 yX0_copy, Cond.instanceMethod yX0_copy, Cond.selects RX0 yX0_copy yX0_copy, Cond.code yX0_copy cX0_copy 2 none, Cond.fieldLink RX0 14 "BookedDetours$Day" "settings" "LBookedDetours$Row;", Cond.fieldLink RX0 23 "BookedDetours$Day" "ys" "LBookedDetours$Row;", Cond.fieldLink RX0 26 "BookedDetours$Day" "froms" "LBookedDetours$Row;", Cond.fieldLink RX0 29 "BookedDetours$Day" "tos" "LBookedDetours$Row;", Cond.fieldLink RX0 32 "BookedDetours$Day" "waits" "LBookedDetours$Row;", Cond.fieldLink RX0 35 "BookedDetours$Day" "bys" "LBookedDetours$Row;"]
def wsX6_book_r3 : List Cond := [Cond.fieldLink RX0 38 "BookedDetours$Day" "straights" "LBookedDetours$Row;", Cond.fieldLink RX0 41 "BookedDetours$Day" "stands" "LBookedDetours$Row;", Cond.fieldLink RX0 44 "BookedDetours$Day" "picks" "LBookedDetours$Row;", Cond.fieldLink RX0 47 "BookedDetours$Day" "downs" "LBookedDetours$Row;", Cond.fieldLink RX0 50 "BookedDetours$Day" "route" "LBookedDetours$Row;", Cond.fieldLink RX0 60 "BookedDetours$Day" "now" "I", Cond.fieldLink RX0 64 "BookedDetours$Day" "busStop" "I", Cond.fieldLink RX0 67 "BookedDetours$Day" "busFree" "I", Cond.methodLink RX0 56 yX3_copy, Cond.instanceMethod yX3_copy, Cond.selects RX3 yX3_copy yX3_copy, Cond.code yX3_copy cX3_copy 3 none, Cond.fieldLink RX3 13 "BookedDetours$Row" "cells" "[I", Cond.methodLink RX3 27 Lib.Math.min.name, Cond.static Lib.Math.min.name, Cond.initialized "java/lang/Math", Cond.code Lib.Math.min.name Lib.Math.min.code 2 (some .int), Cond.methodLink RX4 27 yX0_beReady, Cond.instanceMethod yX0_beReady, Cond.selects RX0 yX0_beReady yX0_beReady, Cond.code yX0_beReady cX0_beReady 1 none, Cond.methodLink RX0 94 Lib.Math.max.name, Cond.static Lib.Math.max.name, Cond.code Lib.Math.max.name Lib.Math.max.code 2 (some .int)]
def wsX6_book_r4 : List Cond := [Cond.methodLink RX4 30 yX0_addRide, Cond.instanceMethod yX0_addRide, Cond.selects RX0 yX0_addRide yX0_addRide, Cond.code yX0_addRide cX0_addRide 5 (some .int), Cond.methodLink RX0 53 yX3_add, Cond.instanceMethod yX3_add, Cond.selects RX3 yX3_add yX3_add, Cond.code yX3_add cX3_add 2 none, Cond.methodLink RX3 23 yX3_insert, Cond.instanceMethod yX3_insert, Cond.selects RX3 yX3_insert yX3_insert, Cond.code yX3_insert cX3_insert 4 none, Cond.methodLink RX0 90 yX0_minutes, Cond.instanceMethod yX0_minutes, Cond.selects RX0 yX0_minutes yX0_minutes, Cond.code yX0_minutes cX0_minutes 3 (some .int), Cond.methodLink RX0 78 Lib.Math.abs.name, Cond.static Lib.Math.abs.name, Cond.code Lib.Math.abs.name Lib.Math.abs.code 1 (some .int), Cond.methodLink RX0 74 yX3_at, Cond.instanceMethod yX3_at, Cond.selects RX3 yX3_at yX3_at, Cond.code yX3_at cX3_at 2 (some .int), Cond.methodLink RX4 42 yX3_length]
def wsX6_book_r5 : List Cond := [Cond.methodLink RX4 48 yX0_isOnItsWay, Cond.instanceMethod yX0_isOnItsWay, Cond.selects RX0 yX0_isOnItsWay yX0_isOnItsWay, Cond.code yX0_isOnItsWay cX0_isOnItsWay 1 (some .boolean), Cond.methodLink RX4 52 yX4_lay, Cond.instanceMethod yX4_lay, Cond.selects RX4 yX4_lay yX4_lay, Cond.code yX4_lay cX4_lay 5 none, Cond.methodLink RX4 101 yX3_copy, Cond.static yX6_pickUp, Cond.code yX6_pickUp cX6_pickUp 1 (some .int), Cond.methodLink RX4 109 yX3_insert, Cond.static yX6_setDown, Cond.code yX6_setDown cX6_setDown 1 (some .int), Cond.methodLink RX4 56 yX5_keepsAll, Cond.instanceMethod yX5_keepsAll, Cond.selects RX5 yX5_keepsAll yX5_keepsAll, Cond.initialized RX5, Cond.code yX5_keepsAll cX5_keepsAll 3 (some .boolean), Cond.fieldLink RX5 36 "BookedDetours$Day" "route" "LBookedDetours$Row;", Cond.methodLink RX5 32 yX5_begin, Cond.instanceMethod yX5_begin, Cond.selects RX5 yX5_begin yX5_begin, Cond.code yX5_begin cX5_begin 2 none]
def wsX6_book_r6 : List Cond := [Cond.fieldLink RX5 14 "BookedDetours$Timetable" "times" "LBookedDetours$Row;", Cond.fieldLink RX5 20 "BookedDetours$Timetable" "loads" "LBookedDetours$Row;", Cond.fieldLink RX5 23 "BookedDetours$Timetable" "delays" "LBookedDetours$Row;", Cond.fieldLink RX5 26 "BookedDetours$Timetable" "picks" "LBookedDetours$Row;", Cond.fieldLink RX5 56 "BookedDetours$Day" "picks" "LBookedDetours$Row;", Cond.fieldLink RX5 29 "BookedDetours$Timetable" "downs" "LBookedDetours$Row;", Cond.fieldLink RX5 61 "BookedDetours$Day" "downs" "LBookedDetours$Row;", Cond.fieldLink RX5 62 "BookedDetours$Day" "busStop" "I", Cond.fieldLink RX5 66 "BookedDetours$Timetable" "stop" "I", Cond.fieldLink RX5 69 "BookedDetours$Day" "busFree" "I", Cond.fieldLink RX5 72 "BookedDetours$Timetable" "free" "I", Cond.fieldLink RX5 78 "BookedDetours$Timetable" "aboard" "I", Cond.fieldLink RX5 81 "BookedDetours$Timetable" "driving" "I", Cond.fieldLink RX5 84 "BookedDetours$Timetable" "waiting" "I", Cond.methodLink RX5 53 yX3_clear, Cond.instanceMethod yX3_clear, Cond.selects RX3 yX3_clear yX3_clear, Cond.code yX3_clear cX3_clear 1 none, Cond.methodLink RX5 57 yX3_copy, Cond.methodLink RX5 75 yX0_ridesThatStand, Cond.instanceMethod yX0_ridesThatStand, Cond.selects RX0 yX0_ridesThatStand yX0_ridesThatStand, Cond.code yX0_ridesThatStand cX0_ridesThatStand 4 (some .int), Cond.methodLink RX5 41 yX3_length]
def wsX6_book_r7 : List Cond := [Cond.methodLink RX5 45 yX3_at, Cond.methodLink RX5 49 yX5_step, Cond.instanceMethod yX5_step, Cond.selects RX5 yX5_step yX5_step, Cond.code yX5_step cX5_step 9 (some .boolean), Cond.fieldLink RX5 101 "BookedDetours$Day" "waits" "LBookedDetours$Row;", Cond.methodLink RX5 104 Lib.Math.max.name, Cond.fieldLink RX5 109 "BookedDetours$Day" "settings" "LBookedDetours$Row;", Cond.fieldLink RX5 119 "BookedDetours$Day" "bys" "LBookedDetours$Row;", Cond.static yX6_rideOf, Cond.code yX6_rideOf cX6_rideOf 1 (some .int), Cond.static yX6_setsDown, Cond.code yX6_setsDown cX6_setsDown 1 (some .boolean), Cond.methodLink RX5 94 yX0_stopOf, Cond.instanceMethod yX0_stopOf, Cond.selects RX0 yX0_stopOf yX0_stopOf, Cond.code yX0_stopOf cX0_stopOf 3 (some .int), Cond.methodLink RX5 97 yX0_minutes, Cond.methodLink RX5 112 yX3_add, Cond.methodLink RX5 115 yX3_change, Cond.instanceMethod yX3_change, Cond.selects RX3 yX3_change yX3_change, Cond.code yX3_change cX3_change 3 none, Cond.methodLink RX5 122 yX5_latestByDetour]
def wsX6_book_r8 : List Cond := [Cond.instanceMethod yX5_latestByDetour, Cond.selects RX5 yX5_latestByDetour yX5_latestByDetour, Cond.code yX5_latestByDetour cX5_latestByDetour 4 (some .int), Cond.fieldLink RX5 126 "BookedDetours$Day" "straights" "LBookedDetours$Row;", Cond.methodLink RX4 60 yX4_takeWay, Cond.instanceMethod yX4_takeWay, Cond.selects RX4 yX4_takeWay yX4_takeWay, Cond.code yX4_takeWay cX4_takeWay 5 none, Cond.fieldLink RX4 70 "BookedDetours$Timetable" "downs" "LBookedDetours$Row;", Cond.fieldLink RX4 77 "BookedDetours$Search" "earliestDown" "I", Cond.methodLink RX4 80 Lib.Math.min.name, Cond.fieldLink RX4 86 "BookedDetours$Timetable" "free" "I", Cond.fieldLink RX4 89 "BookedDetours$Search" "over" "I", Cond.fieldLink RX4 92 "BookedDetours$Timetable" "picks" "LBookedDetours$Row;", Cond.fieldLink RX4 95 "BookedDetours$Search" "pickTime" "I", Cond.fieldLink RX4 98 "BookedDetours$Search" "downTime" "I", Cond.methodLink RX4 73 yX3_at, Cond.methodLink RX6 65 yX1_add, Cond.instanceMethod yX1_add, Cond.selects RX1 yX1_add yX1_add, Cond.initialized RX1, Cond.code yX1_add cX1_add 3 none, Cond.fieldLink RX1 17 "BookedDetours$History" "length" "I", Cond.fieldLink RX1 11 "BookedDetours$History" "days" "[LBookedDetours$Day;"]
def wsX6_book_r9 : List Cond := [Cond.classLink RX1 9 RX0, Cond.instantiable RX0 15, Cond.methodLink RX1 21 yX1_dropOldest, Cond.instanceMethod yX1_dropOldest, Cond.selects RX1 yX1_dropOldest yX1_dropOldest, Cond.code yX1_dropOldest cX1_dropOldest 3 none, Cond.methodLink RX1 24 yX0_init, Cond.instanceMethod yX0_init, Cond.code yX0_init cX0_init 1 none, Cond.methodLink RX0 3 objectInit, Cond.instanceMethod objectInit, Cond.code objectInit ⟨#[0xb1]⟩ 1 none, Cond.classLink RX0 9 RX3, Cond.instantiable RX3 2, Cond.methodLink RX0 11 yX3_init, Cond.instanceMethod yX3_init, Cond.code yX3_init cX3_init 2 none, Cond.methodLink RX3 1 objectInit, Cond.methodLink RX3 7 Lib.Math.max.name, Cond.arrayClass .int, Cond.methodLink RX1 25 yX0_copy, Cond.methodLink RX6 93 yX0_copy]
def wsX6_book : List Cond := .code yX6_book cX6_book 6 (some .int) :: ((wsX6_book_r1 ++ (wsX6_book_r2 ++ (wsX6_book_r3 ++ (wsX6_book_r4 ++ (wsX6_book_r5 ++ (wsX6_book_r6 ++ (wsX6_book_r7 ++ (wsX6_book_r8 ++ wsX6_book_r9)))))))) ++ wsX60 ++ wsX40 ++ wsX00 ++ wsX30 ++ wsX50 ++ wsX10)
def wsX6_cancel_r1 : List Cond := [Cond.fieldLink RX6 12 "BookedDetours" "day" "LBookedDetours$Day;", Cond.fieldLink RX6 100 "BookedDetours$Day" "stands" "LBookedDetours$Row;", Cond.fieldLink RX6 40 "BookedDetours" "history" "LBookedDetours$History;", Cond.fieldLink RX6 55 "BookedDetours$Day" "route" "LBookedDetours$Row;", Cond.methodLink RX6 96 yX0_hasRide, Cond.instanceMethod yX0_hasRide, Cond.selects RX0 yX0_hasRide yX0_hasRide, Cond.initialized RX0, Cond.code yX0_hasRide cX0_hasRide 2 (some .boolean), Cond.fieldLink RX0 41 "BookedDetours$Day" "stands" "LBookedDetours$Row;", Cond.methodLink RX0 70 yX3_length, Cond.instanceMethod yX3_length, Cond.selects RX3 yX3_length yX3_length, Cond.initialized RX3, Cond.code yX3_length cX3_length 1 (some .int), Cond.fieldLink RX3 19 "BookedDetours$Row" "length" "I", Cond.methodLink RX6 72 yX3_at, Cond.instanceMethod yX3_at, Cond.selects RX3 yX3_at yX3_at, Cond.code yX3_at cX3_at 2 (some .int), Cond.fieldLink RX3 13 "BookedDetours$Row" "cells" "[I", Cond.methodLink RX6 65 yX1_add, Cond.instanceMethod yX1_add, Cond.selects RX1 yX1_add yX1_add]
def wsX6_cancel_r2 : List Cond := [Cond.initialized RX1, Cond.code yX1_add cX1_add 3 none, Cond.fieldLink RX1 17 "BookedDetours$History" "length" "I", Cond.fieldLink RX1 11 "BookedDetours$History" "days" "[LBookedDetours$Day;", Cond.classLink RX1 9 RX0, Cond.instantiable RX0 15, Cond.methodLink RX1 21 yX1_dropOldest, Cond.instanceMethod yX1_dropOldest, Cond.selects RX1 yX1_dropOldest yX1_dropOldest, Cond.code yX1_dropOldest cX1_dropOldest 3 none, Cond.methodLink RX1 24 yX0_init, Cond.instanceMethod yX0_init, Cond.code yX0_init cX0_init 1 none, Cond.methodLink RX0 3 objectInit, Cond.instanceMethod objectInit, Cond.code objectInit ⟨#[0xb1]⟩ 1 none, Cond.classLink RX0 9 RX3, Cond.instantiable RX3 2, Cond.fieldLink RX0 14 "BookedDetours$Day" "settings" "LBookedDetours$Row;", Cond.fieldLink RX0 20 "BookedDetours$Day" "xs" "LBookedDetours$Row;", Cond.fieldLink RX0 23 "BookedDetours$Day" "ys" "LBookedDetours$Row;", Cond.fieldLink RX0 26 "BookedDetours$Day" "froms" "LBookedDetours$Row;", Cond.fieldLink RX0 29 "BookedDetours$Day" "tos" "LBookedDetours$Row;", Cond.fieldLink RX0 32 "BookedDetours$Day" "waits" "LBookedDetours$Row;"]
def wsX6_cancel_r3 : List Cond := [Cond.fieldLink RX0 35 "BookedDetours$Day" "bys" "LBookedDetours$Row;", Cond.fieldLink RX0 38 "BookedDetours$Day" "straights" "LBookedDetours$Row;", Cond.fieldLink RX0 44 "BookedDetours$Day" "picks" "LBookedDetours$Row;", Cond.fieldLink RX0 47 "BookedDetours$Day" "downs" "LBookedDetours$Row;", Cond.fieldLink RX0 50 "BookedDetours$Day" "route" "LBookedDetours$Row;", Cond.methodLink RX0 11 yX3_init, Cond.instanceMethod yX3_init, Cond.code yX3_init cX3_init 2 none, Cond.methodLink RX3 1 objectInit, Cond.methodLink RX3 7 Lib.Math.max.name, Cond.static Lib.Math.max.name, Cond.initialized "java/lang/Math", Cond.code Lib.Math.max.name Lib.Math.max.code 2 (some .int), Cond.arrayClass .int, Cond.methodLink RX0 53 yX3_add, Cond.instanceMethod yX3_add, Cond.selects RX3 yX3_add yX3_add, Cond.code yX3_add cX3_add 2 none, Cond.methodLink RX3 23 yX3_insert, Cond.instanceMethod yX3_insert, Cond.selects RX3 yX3_insert yX3_insert, Cond.code yX3_insert cX3_insert 4 none, Cond.methodLink RX1 25 yX0_copy, Cond.instanceMethod yX0_copy]
def wsX6_cancel_r4 : List Cond := [Cond.selects RX0 yX0_copy yX0_copy, Cond.code yX0_copy cX0_copy 2 none, Cond.fieldLink RX0 60 "BookedDetours$Day" "now" "I", Cond.fieldLink RX0 64 "BookedDetours$Day" "busStop" "I", Cond.fieldLink RX0 67 "BookedDetours$Day" "busFree" "I", Cond.methodLink RX0 56 yX3_copy, Cond.instanceMethod yX3_copy, Cond.selects RX3 yX3_copy yX3_copy, Cond.code yX3_copy cX3_copy 3 none, Cond.methodLink RX3 27 Lib.Math.min.name, Cond.static Lib.Math.min.name, Cond.code Lib.Math.min.name Lib.Math.min.code 2 (some .int), Cond.methodLink RX6 103 yX0_leaveOut, Cond.instanceMethod yX0_leaveOut, Cond.selects RX0 yX0_leaveOut yX0_leaveOut, Cond.code yX0_leaveOut cX0_leaveOut 4 none, Cond.methodLink RX0 97 yX0_isOnItsWay, Cond.instanceMethod yX0_isOnItsWay, Cond.selects RX0 yX0_isOnItsWay yX0_isOnItsWay, Cond.code yX0_isOnItsWay cX0_isOnItsWay 1 (some .boolean), Cond.methodLink RX0 74 yX3_at, Cond.static yX6_rideOf, Cond.initialized RX6, Cond.code yX6_rideOf cX6_rideOf 1 (some .int)]
def wsX6_cancel_r5 : List Cond := [Cond.methodLink RX0 101 yX0_endAtFirst, Cond.instanceMethod yX0_endAtFirst, Cond.selects RX0 yX0_endAtFirst yX0_endAtFirst, Cond.code yX0_endAtFirst cX0_endAtFirst 2 none, Cond.methodLink RX0 94 Lib.Math.max.name, Cond.methodLink RX0 111 yX0_stopOf, Cond.instanceMethod yX0_stopOf, Cond.selects RX0 yX0_stopOf yX0_stopOf, Cond.code yX0_stopOf cX0_stopOf 3 (some .int), Cond.static yX6_setsDown, Cond.code yX6_setsDown cX6_setsDown 1 (some .boolean), Cond.methodLink RX0 90 yX0_minutes, Cond.instanceMethod yX0_minutes, Cond.selects RX0 yX0_minutes yX0_minutes, Cond.code yX0_minutes cX0_minutes 3 (some .int), Cond.methodLink RX0 78 Lib.Math.abs.name, Cond.static Lib.Math.abs.name, Cond.code Lib.Math.abs.name Lib.Math.abs.code 1 (some .int), Cond.methodLink RX0 104 yX3_remove, Cond.instanceMethod yX3_remove, Cond.selects RX3 yX3_remove yX3_remove, Cond.code yX3_remove cX3_remove 3 none, Cond.methodLink RX0 107 yX3_change, Cond.instanceMethod yX3_change]
def wsX6_cancel_r6 : List Cond := [Cond.selects RX3 yX3_change yX3_change, Cond.code yX3_change cX3_change 3 none, Cond.methodLink RX6 59 yX3_length]
def wsX6_cancel : List Cond := .code yX6_cancel cX6_cancel 2 (some .int) :: ((wsX6_cancel_r1 ++ (wsX6_cancel_r2 ++ (wsX6_cancel_r3 ++ (wsX6_cancel_r4 ++ (wsX6_cancel_r5 ++ wsX6_cancel_r6))))) ++ wsX60 ++ wsX00 ++ wsX30 ++ wsX10)
def wsX6_pass_r1 : List Cond := [Cond.fieldLink RX6 12 "BookedDetours" "day" "LBookedDetours$Day;", Cond.fieldLink RX6 106 "BookedDetours$Day" "now" "I", Cond.fieldLink RX6 40 "BookedDetours" "history" "LBookedDetours$History;", Cond.fieldLink RX6 19 "BookedDetours" "table" "LBookedDetours$Timetable;", Cond.methodLink RX6 65 yX1_add, Cond.instanceMethod yX1_add, Cond.selects RX1 yX1_add yX1_add, Cond.initialized RX1, Cond.code yX1_add cX1_add 3 none, Cond.fieldLink RX1 17 "BookedDetours$History" "length" "I", Cond.fieldLink RX1 11 "BookedDetours$History" "days" "[LBookedDetours$Day;", Cond.classLink RX1 9 RX0, Cond.instantiable RX0 15, Cond.initialized RX0, Cond.methodLink RX1 21 yX1_dropOldest, Cond.instanceMethod yX1_dropOldest, Cond.selects RX1 yX1_dropOldest yX1_dropOldest, Cond.code yX1_dropOldest cX1_dropOldest 3 none, Cond.methodLink RX1 24 yX0_init, Cond.instanceMethod yX0_init, Cond.code yX0_init cX0_init 1 none, Cond.methodLink RX0 3 objectInit, Cond.instanceMethod objectInit, Cond.code objectInit ⟨#[0xb1]⟩ 1 none]
def wsX6_pass_r2 : List Cond := [Cond.classLink RX0 9 RX3, Cond.instantiable RX3 2, Cond.initialized RX3, Cond.fieldLink RX0 14 "BookedDetours$Day" "settings" "LBookedDetours$Row;", Cond.fieldLink RX0 20 "BookedDetours$Day" "xs" "LBookedDetours$Row;", Cond.fieldLink RX0 23 "BookedDetours$Day" "ys" "LBookedDetours$Row;", Cond.fieldLink RX0 26 "BookedDetours$Day" "froms" "LBookedDetours$Row;", Cond.fieldLink RX0 29 "BookedDetours$Day" "tos" "LBookedDetours$Row;", Cond.fieldLink RX0 32 "BookedDetours$Day" "waits" "LBookedDetours$Row;", Cond.fieldLink RX0 35 "BookedDetours$Day" "bys" "LBookedDetours$Row;", Cond.fieldLink RX0 38 "BookedDetours$Day" "straights" "LBookedDetours$Row;", Cond.fieldLink RX0 41 "BookedDetours$Day" "stands" "LBookedDetours$Row;", Cond.fieldLink RX0 44 "BookedDetours$Day" "picks" "LBookedDetours$Row;", Cond.fieldLink RX0 47 "BookedDetours$Day" "downs" "LBookedDetours$Row;", Cond.fieldLink RX0 50 "BookedDetours$Day" "route" "LBookedDetours$Row;", Cond.methodLink RX0 11 yX3_init, Cond.instanceMethod yX3_init, Cond.code yX3_init cX3_init 2 none, Cond.methodLink RX3 1 objectInit, Cond.methodLink RX3 7 Lib.Math.max.name, Cond.static Lib.Math.max.name, Cond.initialized "java/lang/Math", Cond.code Lib.Math.max.name Lib.Math.max.code 2 (some .int), Cond.arrayClass .int]
def wsX6_pass_r3 : List Cond := [Cond.fieldLink RX3 13 "BookedDetours$Row" "cells" "[I", Cond.methodLink RX0 53 yX3_add, Cond.instanceMethod yX3_add, Cond.selects RX3 yX3_add yX3_add, Cond.code yX3_add cX3_add 2 none, Cond.fieldLink RX3 19 "BookedDetours$Row" "length" "I", Cond.methodLink RX3 23 yX3_insert, Cond.instanceMethod yX3_insert, Cond.selects RX3 yX3_insert yX3_insert, Cond.code yX3_insert cX3_insert 4 none, Cond.methodLink RX1 25 yX0_copy, Cond.instanceMethod yX0_copy, Cond.selects RX0 yX0_copy yX0_copy, Cond.code yX0_copy cX0_copy 2 none, Cond.fieldLink RX0 60 "BookedDetours$Day" "now" "I", Cond.fieldLink RX0 64 "BookedDetours$Day" "busStop" "I", Cond.fieldLink RX0 67 "BookedDetours$Day" "busFree" "I", Cond.methodLink RX0 56 yX3_copy, Cond.instanceMethod yX3_copy, Cond.selects RX3 yX3_copy yX3_copy, Cond.code yX3_copy cX3_copy 3 none, Cond.methodLink RX3 27 Lib.Math.min.name, Cond.static Lib.Math.min.name, Cond.code Lib.Math.min.name Lib.Math.min.code 2 (some .int)]
def wsX6_pass_r4 : List Cond := [Cond.methodLink RX6 110 yX5_follow, Cond.instanceMethod yX5_follow, Cond.selects RX5 yX5_follow yX5_follow, Cond.initialized RX5, Cond.code yX5_follow cX5_follow 3 none, Cond.fieldLink RX5 36 "BookedDetours$Day" "route" "LBookedDetours$Row;", Cond.methodLink RX5 32 yX5_begin, Cond.instanceMethod yX5_begin, Cond.selects RX5 yX5_begin yX5_begin, Cond.code yX5_begin cX5_begin 2 none, Cond.fieldLink RX5 14 "BookedDetours$Timetable" "times" "LBookedDetours$Row;", Cond.fieldLink RX5 20 "BookedDetours$Timetable" "loads" "LBookedDetours$Row;", Cond.fieldLink RX5 23 "BookedDetours$Timetable" "delays" "LBookedDetours$Row;", Cond.fieldLink RX5 26 "BookedDetours$Timetable" "picks" "LBookedDetours$Row;", Cond.fieldLink RX5 56 "BookedDetours$Day" "picks" "LBookedDetours$Row;", Cond.fieldLink RX5 29 "BookedDetours$Timetable" "downs" "LBookedDetours$Row;", Cond.fieldLink RX5 61 "BookedDetours$Day" "downs" "LBookedDetours$Row;", Cond.fieldLink RX5 62 "BookedDetours$Day" "busStop" "I", Cond.fieldLink RX5 66 "BookedDetours$Timetable" "stop" "I", Cond.fieldLink RX5 69 "BookedDetours$Day" "busFree" "I", Cond.fieldLink RX5 72 "BookedDetours$Timetable" "free" "I", Cond.fieldLink RX5 78 "BookedDetours$Timetable" "aboard" "I", Cond.fieldLink RX5 81 "BookedDetours$Timetable" "driving" "I", Cond.fieldLink RX5 84 "BookedDetours$Timetable" "waiting" "I"]
def wsX6_pass_r5 : List Cond := [Cond.methodLink RX5 53 yX3_clear, Cond.instanceMethod yX3_clear, Cond.selects RX3 yX3_clear yX3_clear, Cond.code yX3_clear cX3_clear 1 none, Cond.methodLink RX5 57 yX3_copy, Cond.methodLink RX5 75 yX0_ridesThatStand, Cond.instanceMethod yX0_ridesThatStand, Cond.selects RX0 yX0_ridesThatStand yX0_ridesThatStand, Cond.code yX0_ridesThatStand cX0_ridesThatStand 4 (some .int), Cond.methodLink RX0 70 yX3_length, Cond.instanceMethod yX3_length, Cond.selects RX3 yX3_length yX3_length, Cond.code yX3_length cX3_length 1 (some .int), Cond.methodLink RX0 74 yX3_at, Cond.instanceMethod yX3_at, Cond.selects RX3 yX3_at yX3_at, Cond.code yX3_at cX3_at 2 (some .int), Cond.methodLink RX5 41 yX3_length, Cond.methodLink RX5 45 yX3_at, Cond.methodLink RX5 49 yX5_step, Cond.instanceMethod yX5_step, Cond.selects RX5 yX5_step yX5_step, Cond.code yX5_step cX5_step 9 (some .boolean), Cond.fieldLink RX5 101 "BookedDetours$Day" "waits" "LBookedDetours$Row;"]
def wsX6_pass_r6 : List Cond := [Cond.methodLink RX5 104 Lib.Math.max.name, Cond.fieldLink RX5 109 "BookedDetours$Day" "settings" "LBookedDetours$Row;", Cond.fieldLink RX5 119 "BookedDetours$Day" "bys" "LBookedDetours$Row;", Cond.static yX6_rideOf, Cond.initialized RX6, Cond.code yX6_rideOf cX6_rideOf 1 (some .int), Cond.static yX6_setsDown, Cond.code yX6_setsDown cX6_setsDown 1 (some .boolean), Cond.methodLink RX5 94 yX0_stopOf, Cond.instanceMethod yX0_stopOf, Cond.selects RX0 yX0_stopOf yX0_stopOf, Cond.code yX0_stopOf cX0_stopOf 3 (some .int), Cond.methodLink RX5 97 yX0_minutes, Cond.instanceMethod yX0_minutes, Cond.selects RX0 yX0_minutes yX0_minutes, Cond.code yX0_minutes cX0_minutes 3 (some .int), Cond.methodLink RX0 78 Lib.Math.abs.name, Cond.static Lib.Math.abs.name, Cond.code Lib.Math.abs.name Lib.Math.abs.code 1 (some .int), Cond.methodLink RX5 112 yX3_add, Cond.methodLink RX5 115 yX3_change, Cond.instanceMethod yX3_change, Cond.selects RX3 yX3_change yX3_change, Cond.code yX3_change cX3_change 3 none]
def wsX6_pass_r7 : List Cond := [Cond.methodLink RX5 122 yX5_latestByDetour, Cond.instanceMethod yX5_latestByDetour, Cond.selects RX5 yX5_latestByDetour yX5_latestByDetour, Cond.code yX5_latestByDetour cX5_latestByDetour 4 (some .int), Cond.fieldLink RX5 126 "BookedDetours$Day" "straights" "LBookedDetours$Row;", Cond.methodLink RX6 113 yX0_carryOut, Cond.instanceMethod yX0_carryOut, Cond.selects RX0 yX0_carryOut yX0_carryOut, Cond.code yX0_carryOut cX0_carryOut 5 (some .int), Cond.fieldLink RX0 114 "BookedDetours$Timetable" "times" "LBookedDetours$Row;", Cond.methodLink RX0 119 yX0_make, Cond.instanceMethod yX0_make, Cond.selects RX0 yX0_make yX0_make, Cond.code yX0_make cX0_make 4 none, Cond.methodLink RX0 111 yX0_stopOf, Cond.methodLink RX0 107 yX3_change, Cond.methodLink RX0 104 yX3_remove, Cond.instanceMethod yX3_remove, Cond.selects RX3 yX3_remove yX3_remove, Cond.code yX3_remove cX3_remove 3 none]
def wsX6_pass : List Cond := .code yX6_pass cX6_pass 2 (some .int) :: ((wsX6_pass_r1 ++ (wsX6_pass_r2 ++ (wsX6_pass_r3 ++ (wsX6_pass_r4 ++ (wsX6_pass_r5 ++ (wsX6_pass_r6 ++ wsX6_pass_r7)))))) ++ wsX60 ++ wsX00 ++ wsX10 ++ wsX30 ++ wsX50)
def wsX6_miss_r1 : List Cond := [Cond.fieldLink RX6 12 "BookedDetours" "day" "LBookedDetours$Day;", Cond.fieldLink RX6 100 "BookedDetours$Day" "stands" "LBookedDetours$Row;", Cond.fieldLink RX6 40 "BookedDetours" "history" "LBookedDetours$History;", Cond.fieldLink RX6 55 "BookedDetours$Day" "route" "LBookedDetours$Row;", Cond.methodLink RX6 96 yX0_hasRide, Cond.instanceMethod yX0_hasRide, Cond.selects RX0 yX0_hasRide yX0_hasRide, Cond.initialized RX0, Cond.code yX0_hasRide cX0_hasRide 2 (some .boolean), Cond.fieldLink RX0 41 "BookedDetours$Day" "stands" "LBookedDetours$Row;", Cond.methodLink RX0 70 yX3_length, Cond.instanceMethod yX3_length, Cond.selects RX3 yX3_length yX3_length, Cond.initialized RX3, Cond.code yX3_length cX3_length 1 (some .int), Cond.fieldLink RX3 19 "BookedDetours$Row" "length" "I", Cond.methodLink RX6 72 yX3_at, Cond.instanceMethod yX3_at, Cond.selects RX3 yX3_at yX3_at, Cond.code yX3_at cX3_at 2 (some .int), Cond.fieldLink RX3 13 "BookedDetours$Row" "cells" "[I", Cond.methodLink RX6 65 yX1_add, Cond.instanceMethod yX1_add, Cond.selects RX1 yX1_add yX1_add]
def wsX6_miss_r2 : List Cond := [Cond.initialized RX1, Cond.code yX1_add cX1_add 3 none, Cond.fieldLink RX1 17 "BookedDetours$History" "length" "I", Cond.fieldLink RX1 11 "BookedDetours$History" "days" "[LBookedDetours$Day;", Cond.classLink RX1 9 RX0, Cond.instantiable RX0 15, Cond.methodLink RX1 21 yX1_dropOldest, Cond.instanceMethod yX1_dropOldest, Cond.selects RX1 yX1_dropOldest yX1_dropOldest, Cond.code yX1_dropOldest cX1_dropOldest 3 none, Cond.methodLink RX1 24 yX0_init, Cond.instanceMethod yX0_init, Cond.code yX0_init cX0_init 1 none, Cond.methodLink RX0 3 objectInit, Cond.instanceMethod objectInit, Cond.code objectInit ⟨#[0xb1]⟩ 1 none, Cond.classLink RX0 9 RX3, Cond.instantiable RX3 2, Cond.fieldLink RX0 14 "BookedDetours$Day" "settings" "LBookedDetours$Row;", Cond.fieldLink RX0 20 "BookedDetours$Day" "xs" "LBookedDetours$Row;", Cond.fieldLink RX0 23 "BookedDetours$Day" "ys" "LBookedDetours$Row;", Cond.fieldLink RX0 26 "BookedDetours$Day" "froms" "LBookedDetours$Row;", Cond.fieldLink RX0 29 "BookedDetours$Day" "tos" "LBookedDetours$Row;", Cond.fieldLink RX0 32 "BookedDetours$Day" "waits" "LBookedDetours$Row;"]
def wsX6_miss_r3 : List Cond := [Cond.fieldLink RX0 35 "BookedDetours$Day" "bys" "LBookedDetours$Row;", Cond.fieldLink RX0 38 "BookedDetours$Day" "straights" "LBookedDetours$Row;", Cond.fieldLink RX0 44 "BookedDetours$Day" "picks" "LBookedDetours$Row;", Cond.fieldLink RX0 47 "BookedDetours$Day" "downs" "LBookedDetours$Row;", Cond.fieldLink RX0 50 "BookedDetours$Day" "route" "LBookedDetours$Row;", Cond.methodLink RX0 11 yX3_init, Cond.instanceMethod yX3_init, Cond.code yX3_init cX3_init 2 none, Cond.methodLink RX3 1 objectInit, Cond.methodLink RX3 7 Lib.Math.max.name, Cond.static Lib.Math.max.name, Cond.initialized "java/lang/Math", Cond.code Lib.Math.max.name Lib.Math.max.code 2 (some .int), Cond.arrayClass .int, Cond.methodLink RX0 53 yX3_add, Cond.instanceMethod yX3_add, Cond.selects RX3 yX3_add yX3_add, Cond.code yX3_add cX3_add 2 none, Cond.methodLink RX3 23 yX3_insert, Cond.instanceMethod yX3_insert, Cond.selects RX3 yX3_insert yX3_insert, Cond.code yX3_insert cX3_insert 4 none, Cond.methodLink RX1 25 yX0_copy, Cond.instanceMethod yX0_copy]
def wsX6_miss_r4 : List Cond := [Cond.selects RX0 yX0_copy yX0_copy, Cond.code yX0_copy cX0_copy 2 none, Cond.fieldLink RX0 60 "BookedDetours$Day" "now" "I", Cond.fieldLink RX0 64 "BookedDetours$Day" "busStop" "I", Cond.fieldLink RX0 67 "BookedDetours$Day" "busFree" "I", Cond.methodLink RX0 56 yX3_copy, Cond.instanceMethod yX3_copy, Cond.selects RX3 yX3_copy yX3_copy, Cond.code yX3_copy cX3_copy 3 none, Cond.methodLink RX3 27 Lib.Math.min.name, Cond.static Lib.Math.min.name, Cond.code Lib.Math.min.name Lib.Math.min.code 2 (some .int), Cond.methodLink RX6 103 yX0_leaveOut, Cond.instanceMethod yX0_leaveOut, Cond.selects RX0 yX0_leaveOut yX0_leaveOut, Cond.code yX0_leaveOut cX0_leaveOut 4 none, Cond.methodLink RX0 97 yX0_isOnItsWay, Cond.instanceMethod yX0_isOnItsWay, Cond.selects RX0 yX0_isOnItsWay yX0_isOnItsWay, Cond.code yX0_isOnItsWay cX0_isOnItsWay 1 (some .boolean), Cond.methodLink RX0 74 yX3_at, Cond.static yX6_rideOf, Cond.initialized RX6, Cond.code yX6_rideOf cX6_rideOf 1 (some .int)]
def wsX6_miss_r5 : List Cond := [Cond.methodLink RX0 101 yX0_endAtFirst, Cond.instanceMethod yX0_endAtFirst, Cond.selects RX0 yX0_endAtFirst yX0_endAtFirst, Cond.code yX0_endAtFirst cX0_endAtFirst 2 none, Cond.methodLink RX0 94 Lib.Math.max.name, Cond.methodLink RX0 111 yX0_stopOf, Cond.instanceMethod yX0_stopOf, Cond.selects RX0 yX0_stopOf yX0_stopOf, Cond.code yX0_stopOf cX0_stopOf 3 (some .int), Cond.static yX6_setsDown, Cond.code yX6_setsDown cX6_setsDown 1 (some .boolean), Cond.methodLink RX0 90 yX0_minutes, Cond.instanceMethod yX0_minutes, Cond.selects RX0 yX0_minutes yX0_minutes, Cond.code yX0_minutes cX0_minutes 3 (some .int), Cond.methodLink RX0 78 Lib.Math.abs.name, Cond.static Lib.Math.abs.name, Cond.code Lib.Math.abs.name Lib.Math.abs.code 1 (some .int), Cond.methodLink RX0 104 yX3_remove, Cond.instanceMethod yX3_remove, Cond.selects RX3 yX3_remove yX3_remove, Cond.code yX3_remove cX3_remove 3 none, Cond.methodLink RX0 107 yX3_change, Cond.instanceMethod yX3_change]
def wsX6_miss_r6 : List Cond := [Cond.selects RX3 yX3_change yX3_change, Cond.code yX3_change cX3_change 3 none, Cond.methodLink RX6 59 yX3_length]
def wsX6_miss : List Cond := .code yX6_miss cX6_miss 2 (some .int) :: ((wsX6_miss_r1 ++ (wsX6_miss_r2 ++ (wsX6_miss_r3 ++ (wsX6_miss_r4 ++ (wsX6_miss_r5 ++ wsX6_miss_r6))))) ++ wsX60 ++ wsX00 ++ wsX30 ++ wsX10)
def wsX6_bookAll_r1 : List Cond := [Cond.fieldLink RX6 33 "BookedDetours" "pad" "LBookedDetours$Pad;", Cond.fieldLink RX6 40 "BookedDetours" "history" "LBookedDetours$History;", Cond.fieldLink RX6 12 "BookedDetours" "day" "LBookedDetours$Day;", Cond.fieldLink RX6 120 "BookedDetours$Pad" "numbers" "LBookedDetours$Row;", Cond.fieldLink RX6 26 "BookedDetours" "search" "LBookedDetours$Search;", Cond.fieldLink RX6 92 "BookedDetours$Search" "day" "LBookedDetours$Day;", Cond.fieldLink RX6 123 "BookedDetours$Pad" "signs" "LBookedDetours$Row;", Cond.methodLink RX6 117 yX2_findFault, Cond.instanceMethod yX2_findFault, Cond.selects RX2 yX2_findFault yX2_findFault, Cond.initialized RX2, Cond.code yX2_findFault cX2_findFault 5 (some .int), Cond.fieldLink RX2 20 "BookedDetours$Pad" "numbers" "LBookedDetours$Row;", Cond.fieldLink RX2 14 "BookedDetours$Pad" "signs" "LBookedDetours$Row;", Cond.methodLink RX2 26 yX3_clear, Cond.instanceMethod yX3_clear, Cond.selects RX3 yX3_clear yX3_clear, Cond.initialized RX3, Cond.code yX3_clear cX3_clear 1 none, Cond.fieldLink RX3 19 "BookedDetours$Row" "length" "I", Cond.methodLink RX2 29 yX3_length, Cond.instanceMethod yX3_length, Cond.selects RX3 yX3_length yX3_length, Cond.code yX3_length cX3_length 1 (some .int)]
def wsX6_bookAll_r2 : List Cond := [Cond.methodLink RX2 33 yX3_at, Cond.instanceMethod yX3_at, Cond.selects RX3 yX3_at yX3_at, Cond.code yX3_at cX3_at 2 (some .int), Cond.fieldLink RX3 13 "BookedDetours$Row" "cells" "[I", Cond.methodLink RX2 37 yX2_withDigit, Cond.static yX2_withDigit, Cond.code yX2_withDigit cX2_withDigit 2 (some .int), Cond.methodLink RX2 41 yX2_mostIn, Cond.static yX2_mostIn, Cond.code yX2_mostIn cX2_mostIn 1 (some .int), Cond.methodLink RX2 44 yX2_endOf, Cond.static yX2_endOf, Cond.code yX2_endOf cX2_endOf 1 (some .char), Cond.methodLink RX2 23 yX3_add, Cond.instanceMethod yX3_add, Cond.selects RX3 yX3_add yX3_add, Cond.code yX3_add cX3_add 2 none, Cond.methodLink RX3 23 yX3_insert, Cond.instanceMethod yX3_insert, Cond.selects RX3 yX3_insert yX3_insert, Cond.code yX3_insert cX3_insert 4 none, Cond.methodLink RX6 65 yX1_add, Cond.instanceMethod yX1_add]
def wsX6_bookAll_r3 : List Cond := [Cond.selects RX1 yX1_add yX1_add, Cond.initialized RX1, Cond.code yX1_add cX1_add 3 none, Cond.fieldLink RX1 17 "BookedDetours$History" "length" "I", Cond.fieldLink RX1 11 "BookedDetours$History" "days" "[LBookedDetours$Day;", Cond.classLink RX1 9 RX0, Cond.instantiable RX0 15, Cond.initialized RX0, Cond.methodLink RX1 21 yX1_dropOldest, Cond.instanceMethod yX1_dropOldest, Cond.selects RX1 yX1_dropOldest yX1_dropOldest, Cond.code yX1_dropOldest cX1_dropOldest 3 none, Cond.methodLink RX1 24 yX0_init, Cond.instanceMethod yX0_init, Cond.code yX0_init cX0_init 1 none, Cond.methodLink RX0 3 objectInit, Cond.instanceMethod objectInit, Cond.code objectInit ⟨#[0xb1]⟩ 1 none, Cond.classLink RX0 9 RX3, Cond.instantiable RX3 2, Cond.fieldLink RX0 14 "BookedDetours$Day" "settings" "LBookedDetours$Row;", Cond.fieldLink RX0 20 "BookedDetours$Day" "xs" "LBookedDetours$Row;", Cond.fieldLink RX0 23 "BookedDetours$Day" "ys" "LBookedDetours$Row;", Cond.fieldLink RX0 26 "BookedDetours$Day" "froms" "LBookedDetours$Row;"]
def wsX6_bookAll_r4 : List Cond := [Cond.fieldLink RX0 29 "BookedDetours$Day" "tos" "LBookedDetours$Row;", Cond.fieldLink RX0 32 "BookedDetours$Day" "waits" "LBookedDetours$Row;", Cond.fieldLink RX0 35 "BookedDetours$Day" "bys" "LBookedDetours$Row;", Cond.fieldLink RX0 38 "BookedDetours$Day" "straights" "LBookedDetours$Row;", Cond.fieldLink RX0 41 "BookedDetours$Day" "stands" "LBookedDetours$Row;", Cond.fieldLink RX0 44 "BookedDetours$Day" "picks" "LBookedDetours$Row;", Cond.fieldLink RX0 47 "BookedDetours$Day" "downs" "LBookedDetours$Row;", Cond.fieldLink RX0 50 "BookedDetours$Day" "route" "LBookedDetours$Row;", Cond.methodLink RX0 11 yX3_init, Cond.instanceMethod yX3_init, Cond.code yX3_init cX3_init 2 none, Cond.methodLink RX3 1 objectInit, Cond.methodLink RX3 7 Lib.Math.max.name, Cond.static Lib.Math.max.name, Cond.initialized "java/lang/Math", Cond.code Lib.Math.max.name Lib.Math.max.code 2 (some .int), Cond.arrayClass .int, Cond.methodLink RX0 53 yX3_add, Cond.methodLink RX1 25 yX0_copy, Cond.instanceMethod yX0_copy, Cond.selects RX0 yX0_copy yX0_copy, Cond.code yX0_copy cX0_copy 2 none, Cond.fieldLink RX0 60 "BookedDetours$Day" "now" "I", Cond.fieldLink RX0 64 "BookedDetours$Day" "busStop" "I"]
def wsX6_bookAll_r5 : List Cond := [Cond.fieldLink RX0 67 "BookedDetours$Day" "busFree" "I", Cond.methodLink RX0 56 yX3_copy, Cond.instanceMethod yX3_copy, Cond.selects RX3 yX3_copy yX3_copy, Cond.code yX3_copy cX3_copy 3 none, Cond.methodLink RX3 27 Lib.Math.min.name, Cond.static Lib.Math.min.name, Cond.code Lib.Math.min.name Lib.Math.min.code 2 (some .int), Cond.methodLink RX6 59 yX3_length, Cond.methodLink RX6 72 yX3_at, Cond.methodLink RX6 88 yX6_tryToBook, Cond.instanceMethod yX6_tryToBook, Cond.selects RX6 yX6_tryToBook yX6_tryToBook, Cond.initialized RX6, Cond.code yX6_tryToBook cX6_tryToBook 6 (some .int), Cond.fieldLink RX6 100 "BookedDetours$Day" "stands" "LBookedDetours$Row;", Cond.methodLink RX6 186 yX6_errorOf, Cond.instanceMethod yX6_errorOf, Cond.selects RX6 yX6_errorOf yX6_errorOf, Cond.code yX6_errorOf cX6_errorOf 5 (some .int), Cond.methodLink RX6 168 yX0_hasStop, Cond.instanceMethod yX0_hasStop, Cond.selects RX0 yX0_hasStop yX0_hasStop, Cond.code yX0_hasStop cX0_hasStop 2 (some .boolean)]
def wsX6_bookAll_r6 : List Cond := [Cond.methodLink RX0 70 yX3_length, Cond.methodLink RX6 189 yX4_find, Cond.instanceMethod yX4_find, Cond.selects RX4 yX4_find yX4_find, Cond.initialized RX4, Cond.code yX4_find cX4_find 10 (some .boolean), Cond.fieldLink RX4 10 "BookedDetours$Search" "day" "LBookedDetours$Day;", Cond.fieldLink RX4 34 "BookedDetours$Search" "ways" "I", Cond.fieldLink RX4 38 "BookedDetours$Day" "route" "LBookedDetours$Row;", Cond.fieldLink RX4 19 "BookedDetours$Search" "table" "LBookedDetours$Timetable;", Cond.fieldLink RX4 64 "BookedDetours$Search" "pickPlace" "I", Cond.fieldLink RX4 67 "BookedDetours$Search" "downPlace" "I", Cond.methodLink RX4 23 yX0_copy, Cond.methodLink RX4 27 yX0_beReady, Cond.instanceMethod yX0_beReady, Cond.selects RX0 yX0_beReady yX0_beReady, Cond.code yX0_beReady cX0_beReady 1 none, Cond.methodLink RX0 94 Lib.Math.max.name, Cond.methodLink RX4 30 yX0_addRide, Cond.instanceMethod yX0_addRide, Cond.selects RX0 yX0_addRide yX0_addRide, Cond.code yX0_addRide cX0_addRide 5 (some .int), Cond.methodLink RX0 90 yX0_minutes, Cond.instanceMethod yX0_minutes]
def wsX6_bookAll_r7 : List Cond := [Cond.selects RX0 yX0_minutes yX0_minutes, Cond.code yX0_minutes cX0_minutes 3 (some .int), Cond.methodLink RX0 78 Lib.Math.abs.name, Cond.static Lib.Math.abs.name, Cond.code Lib.Math.abs.name Lib.Math.abs.code 1 (some .int), Cond.methodLink RX0 74 yX3_at, Cond.methodLink RX4 42 yX3_length, Cond.methodLink RX4 48 yX0_isOnItsWay, Cond.instanceMethod yX0_isOnItsWay, Cond.selects RX0 yX0_isOnItsWay yX0_isOnItsWay, Cond.code yX0_isOnItsWay cX0_isOnItsWay 1 (some .boolean), Cond.methodLink RX4 52 yX4_lay, Cond.instanceMethod yX4_lay, Cond.selects RX4 yX4_lay yX4_lay, Cond.code yX4_lay cX4_lay 5 none, Cond.methodLink RX4 101 yX3_copy, Cond.static yX6_pickUp, Cond.code yX6_pickUp cX6_pickUp 1 (some .int), Cond.methodLink RX4 109 yX3_insert, Cond.static yX6_setDown, Cond.code yX6_setDown cX6_setDown 1 (some .int), Cond.methodLink RX4 56 yX5_keepsAll, Cond.instanceMethod yX5_keepsAll, Cond.selects RX5 yX5_keepsAll yX5_keepsAll]
def wsX6_bookAll_r8 : List Cond := [Cond.initialized RX5, Cond.code yX5_keepsAll cX5_keepsAll 3 (some .boolean), Cond.fieldLink RX5 36 "BookedDetours$Day" "route" "LBookedDetours$Row;", Cond.methodLink RX5 32 yX5_begin, Cond.instanceMethod yX5_begin, Cond.selects RX5 yX5_begin yX5_begin, Cond.code yX5_begin cX5_begin 2 none, Cond.fieldLink RX5 14 "BookedDetours$Timetable" "times" "LBookedDetours$Row;", Cond.fieldLink RX5 20 "BookedDetours$Timetable" "loads" "LBookedDetours$Row;", Cond.fieldLink RX5 23 "BookedDetours$Timetable" "delays" "LBookedDetours$Row;", Cond.fieldLink RX5 26 "BookedDetours$Timetable" "picks" "LBookedDetours$Row;", Cond.fieldLink RX5 56 "BookedDetours$Day" "picks" "LBookedDetours$Row;", Cond.fieldLink RX5 29 "BookedDetours$Timetable" "downs" "LBookedDetours$Row;", Cond.fieldLink RX5 61 "BookedDetours$Day" "downs" "LBookedDetours$Row;", Cond.fieldLink RX5 62 "BookedDetours$Day" "busStop" "I", Cond.fieldLink RX5 66 "BookedDetours$Timetable" "stop" "I", Cond.fieldLink RX5 69 "BookedDetours$Day" "busFree" "I", Cond.fieldLink RX5 72 "BookedDetours$Timetable" "free" "I", Cond.fieldLink RX5 78 "BookedDetours$Timetable" "aboard" "I", Cond.fieldLink RX5 81 "BookedDetours$Timetable" "driving" "I", Cond.fieldLink RX5 84 "BookedDetours$Timetable" "waiting" "I", Cond.methodLink RX5 53 yX3_clear, Cond.methodLink RX5 57 yX3_copy, Cond.methodLink RX5 75 yX0_ridesThatStand]
def wsX6_bookAll_r9 : List Cond := [Cond.instanceMethod yX0_ridesThatStand, Cond.selects RX0 yX0_ridesThatStand yX0_ridesThatStand, Cond.code yX0_ridesThatStand cX0_ridesThatStand 4 (some .int), Cond.methodLink RX5 41 yX3_length, Cond.methodLink RX5 45 yX3_at, Cond.methodLink RX5 49 yX5_step, Cond.instanceMethod yX5_step, Cond.selects RX5 yX5_step yX5_step, Cond.code yX5_step cX5_step 9 (some .boolean), Cond.fieldLink RX5 101 "BookedDetours$Day" "waits" "LBookedDetours$Row;", Cond.methodLink RX5 104 Lib.Math.max.name, Cond.fieldLink RX5 109 "BookedDetours$Day" "settings" "LBookedDetours$Row;", Cond.fieldLink RX5 119 "BookedDetours$Day" "bys" "LBookedDetours$Row;", Cond.static yX6_rideOf, Cond.code yX6_rideOf cX6_rideOf 1 (some .int), Cond.static yX6_setsDown, Cond.code yX6_setsDown cX6_setsDown 1 (some .boolean), Cond.methodLink RX5 94 yX0_stopOf, Cond.instanceMethod yX0_stopOf, Cond.selects RX0 yX0_stopOf yX0_stopOf, Cond.code yX0_stopOf cX0_stopOf 3 (some .int), Cond.methodLink RX5 97 yX0_minutes, Cond.methodLink RX5 112 yX3_add, Cond.methodLink RX5 115 yX3_change]
def wsX6_bookAll_r10 : List Cond := [Cond.instanceMethod yX3_change, Cond.selects RX3 yX3_change yX3_change, Cond.code yX3_change cX3_change 3 none, Cond.methodLink RX5 122 yX5_latestByDetour, Cond.instanceMethod yX5_latestByDetour, Cond.selects RX5 yX5_latestByDetour yX5_latestByDetour, Cond.code yX5_latestByDetour cX5_latestByDetour 4 (some .int), Cond.fieldLink RX5 126 "BookedDetours$Day" "straights" "LBookedDetours$Row;", Cond.methodLink RX4 60 yX4_takeWay, Cond.instanceMethod yX4_takeWay, Cond.selects RX4 yX4_takeWay yX4_takeWay, Cond.code yX4_takeWay cX4_takeWay 5 none, Cond.fieldLink RX4 70 "BookedDetours$Timetable" "downs" "LBookedDetours$Row;", Cond.fieldLink RX4 77 "BookedDetours$Search" "earliestDown" "I", Cond.methodLink RX4 80 Lib.Math.min.name, Cond.fieldLink RX4 86 "BookedDetours$Timetable" "free" "I", Cond.fieldLink RX4 89 "BookedDetours$Search" "over" "I", Cond.fieldLink RX4 92 "BookedDetours$Timetable" "picks" "LBookedDetours$Row;", Cond.fieldLink RX4 95 "BookedDetours$Search" "pickTime" "I", Cond.fieldLink RX4 98 "BookedDetours$Search" "downTime" "I", Cond.methodLink RX4 73 yX3_at, Cond.methodLink RX6 93 yX0_copy, Cond.methodLink RX6 126 yX3_clear]
def wsX6_bookAll : List Cond := .code yX6_bookAll cX6_bookAll 4 (some .int) :: ((wsX6_bookAll_r1 ++ (wsX6_bookAll_r2 ++ (wsX6_bookAll_r3 ++ (wsX6_bookAll_r4 ++ (wsX6_bookAll_r5 ++ (wsX6_bookAll_r6 ++ (wsX6_bookAll_r7 ++ (wsX6_bookAll_r8 ++ (wsX6_bookAll_r9 ++ wsX6_bookAll_r10))))))))) ++ wsX60 ++ wsX20 ++ wsX40 ++ wsX30 ++ wsX10 ++ wsX00 ++ wsX50)
def wsX6_ride_r1 : List Cond := [Cond.fieldLink RX6 12 "BookedDetours" "day" "LBookedDetours$Day;", Cond.fieldLink RX6 129 "BookedDetours$Day" "froms" "LBookedDetours$Row;", Cond.fieldLink RX6 132 "BookedDetours$Day" "tos" "LBookedDetours$Row;", Cond.fieldLink RX6 135 "BookedDetours$Day" "waits" "LBookedDetours$Row;", Cond.fieldLink RX6 138 "BookedDetours$Day" "bys" "LBookedDetours$Row;", Cond.fieldLink RX6 100 "BookedDetours$Day" "stands" "LBookedDetours$Row;", Cond.fieldLink RX6 19 "BookedDetours" "table" "LBookedDetours$Timetable;", Cond.fieldLink RX6 141 "BookedDetours$Timetable" "picks" "LBookedDetours$Row;", Cond.fieldLink RX6 144 "BookedDetours$Timetable" "downs" "LBookedDetours$Row;", Cond.fieldLink RX6 147 "BookedDetours$Day" "straights" "LBookedDetours$Row;", Cond.methodLink RX6 96 yX0_hasRide, Cond.instanceMethod yX0_hasRide, Cond.selects RX0 yX0_hasRide yX0_hasRide, Cond.initialized RX0, Cond.code yX0_hasRide cX0_hasRide 2 (some .boolean), Cond.fieldLink RX0 41 "BookedDetours$Day" "stands" "LBookedDetours$Row;", Cond.methodLink RX0 70 yX3_length, Cond.instanceMethod yX3_length, Cond.selects RX3 yX3_length yX3_length, Cond.initialized RX3, Cond.code yX3_length cX3_length 1 (some .int), Cond.fieldLink RX3 19 "BookedDetours$Row" "length" "I", Cond.methodLink RX6 72 yX3_at, Cond.instanceMethod yX3_at]
def wsX6_ride_r2 : List Cond := [Cond.selects RX3 yX3_at yX3_at, Cond.code yX3_at cX3_at 2 (some .int), Cond.fieldLink RX3 13 "BookedDetours$Row" "cells" "[I", Cond.methodLink RX6 110 yX5_follow, Cond.instanceMethod yX5_follow, Cond.selects RX5 yX5_follow yX5_follow, Cond.initialized RX5, Cond.code yX5_follow cX5_follow 3 none, Cond.fieldLink RX5 36 "BookedDetours$Day" "route" "LBookedDetours$Row;", Cond.methodLink RX5 32 yX5_begin, Cond.instanceMethod yX5_begin, Cond.selects RX5 yX5_begin yX5_begin, Cond.code yX5_begin cX5_begin 2 none, Cond.fieldLink RX5 14 "BookedDetours$Timetable" "times" "LBookedDetours$Row;", Cond.fieldLink RX5 20 "BookedDetours$Timetable" "loads" "LBookedDetours$Row;", Cond.fieldLink RX5 23 "BookedDetours$Timetable" "delays" "LBookedDetours$Row;", Cond.fieldLink RX5 26 "BookedDetours$Timetable" "picks" "LBookedDetours$Row;", Cond.fieldLink RX5 56 "BookedDetours$Day" "picks" "LBookedDetours$Row;", Cond.fieldLink RX5 29 "BookedDetours$Timetable" "downs" "LBookedDetours$Row;", Cond.fieldLink RX5 61 "BookedDetours$Day" "downs" "LBookedDetours$Row;", Cond.fieldLink RX5 62 "BookedDetours$Day" "busStop" "I", Cond.fieldLink RX5 66 "BookedDetours$Timetable" "stop" "I", Cond.fieldLink RX5 69 "BookedDetours$Day" "busFree" "I", Cond.fieldLink RX5 72 "BookedDetours$Timetable" "free" "I"]
def wsX6_ride_r3 : List Cond := [Cond.fieldLink RX5 78 "BookedDetours$Timetable" "aboard" "I", Cond.fieldLink RX5 81 "BookedDetours$Timetable" "driving" "I", Cond.fieldLink RX5 84 "BookedDetours$Timetable" "waiting" "I", Cond.methodLink RX5 53 yX3_clear, Cond.instanceMethod yX3_clear, Cond.selects RX3 yX3_clear yX3_clear, Cond.code yX3_clear cX3_clear 1 none, Cond.methodLink RX5 57 yX3_copy, Cond.instanceMethod yX3_copy, Cond.selects RX3 yX3_copy yX3_copy, Cond.code yX3_copy cX3_copy 3 none, Cond.methodLink RX3 27 Lib.Math.min.name, Cond.static Lib.Math.min.name, Cond.initialized "java/lang/Math", Cond.code Lib.Math.min.name Lib.Math.min.code 2 (some .int), Cond.methodLink RX5 75 yX0_ridesThatStand, Cond.instanceMethod yX0_ridesThatStand, Cond.selects RX0 yX0_ridesThatStand yX0_ridesThatStand, Cond.code yX0_ridesThatStand cX0_ridesThatStand 4 (some .int), Cond.methodLink RX0 74 yX3_at, Cond.methodLink RX5 41 yX3_length, Cond.methodLink RX5 45 yX3_at, Cond.methodLink RX5 49 yX5_step, Cond.instanceMethod yX5_step]
def wsX6_ride_r4 : List Cond := [Cond.selects RX5 yX5_step yX5_step, Cond.code yX5_step cX5_step 9 (some .boolean), Cond.fieldLink RX5 101 "BookedDetours$Day" "waits" "LBookedDetours$Row;", Cond.methodLink RX5 104 Lib.Math.max.name, Cond.static Lib.Math.max.name, Cond.code Lib.Math.max.name Lib.Math.max.code 2 (some .int), Cond.fieldLink RX5 109 "BookedDetours$Day" "settings" "LBookedDetours$Row;", Cond.fieldLink RX5 119 "BookedDetours$Day" "bys" "LBookedDetours$Row;", Cond.static yX6_rideOf, Cond.initialized RX6, Cond.code yX6_rideOf cX6_rideOf 1 (some .int), Cond.static yX6_setsDown, Cond.code yX6_setsDown cX6_setsDown 1 (some .boolean), Cond.methodLink RX5 94 yX0_stopOf, Cond.instanceMethod yX0_stopOf, Cond.selects RX0 yX0_stopOf yX0_stopOf, Cond.code yX0_stopOf cX0_stopOf 3 (some .int), Cond.fieldLink RX0 29 "BookedDetours$Day" "tos" "LBookedDetours$Row;", Cond.fieldLink RX0 26 "BookedDetours$Day" "froms" "LBookedDetours$Row;", Cond.methodLink RX5 97 yX0_minutes, Cond.instanceMethod yX0_minutes, Cond.selects RX0 yX0_minutes yX0_minutes, Cond.code yX0_minutes cX0_minutes 3 (some .int), Cond.fieldLink RX0 20 "BookedDetours$Day" "xs" "LBookedDetours$Row;"]
def wsX6_ride_r5 : List Cond := [Cond.methodLink RX0 78 Lib.Math.abs.name, Cond.static Lib.Math.abs.name, Cond.code Lib.Math.abs.name Lib.Math.abs.code 1 (some .int), Cond.fieldLink RX0 23 "BookedDetours$Day" "ys" "LBookedDetours$Row;", Cond.methodLink RX5 112 yX3_add, Cond.instanceMethod yX3_add, Cond.selects RX3 yX3_add yX3_add, Cond.code yX3_add cX3_add 2 none, Cond.methodLink RX3 23 yX3_insert, Cond.instanceMethod yX3_insert, Cond.selects RX3 yX3_insert yX3_insert, Cond.code yX3_insert cX3_insert 4 none, Cond.methodLink RX5 115 yX3_change, Cond.instanceMethod yX3_change, Cond.selects RX3 yX3_change yX3_change, Cond.code yX3_change cX3_change 3 none, Cond.methodLink RX5 122 yX5_latestByDetour, Cond.instanceMethod yX5_latestByDetour, Cond.selects RX5 yX5_latestByDetour yX5_latestByDetour, Cond.code yX5_latestByDetour cX5_latestByDetour 4 (some .int), Cond.fieldLink RX5 126 "BookedDetours$Day" "straights" "LBookedDetours$Row;"]
def wsX6_ride : List Cond := .code yX6_ride cX6_ride 3 (some .int) :: ((wsX6_ride_r1 ++ (wsX6_ride_r2 ++ (wsX6_ride_r3 ++ (wsX6_ride_r4 ++ wsX6_ride_r5)))) ++ wsX60 ++ wsX00 ++ wsX50 ++ wsX30)
def wsX6_visit_r1 : List Cond := [Cond.fieldLink RX6 12 "BookedDetours" "day" "LBookedDetours$Day;", Cond.fieldLink RX6 55 "BookedDetours$Day" "route" "LBookedDetours$Row;", Cond.fieldLink RX6 19 "BookedDetours" "table" "LBookedDetours$Timetable;", Cond.fieldLink RX6 159 "BookedDetours$Timetable" "times" "LBookedDetours$Row;", Cond.fieldLink RX6 162 "BookedDetours$Timetable" "loads" "LBookedDetours$Row;", Cond.fieldLink RX6 165 "BookedDetours$Timetable" "delays" "LBookedDetours$Row;", Cond.methodLink RX6 59 yX3_length, Cond.instanceMethod yX3_length, Cond.selects RX3 yX3_length yX3_length, Cond.initialized RX3, Cond.code yX3_length cX3_length 1 (some .int), Cond.fieldLink RX3 19 "BookedDetours$Row" "length" "I", Cond.methodLink RX6 110 yX5_follow, Cond.instanceMethod yX5_follow, Cond.selects RX5 yX5_follow yX5_follow, Cond.initialized RX5, Cond.code yX5_follow cX5_follow 3 none, Cond.fieldLink RX5 36 "BookedDetours$Day" "route" "LBookedDetours$Row;", Cond.methodLink RX5 32 yX5_begin, Cond.instanceMethod yX5_begin, Cond.selects RX5 yX5_begin yX5_begin, Cond.code yX5_begin cX5_begin 2 none, Cond.fieldLink RX5 14 "BookedDetours$Timetable" "times" "LBookedDetours$Row;", Cond.fieldLink RX5 20 "BookedDetours$Timetable" "loads" "LBookedDetours$Row;"]
def wsX6_visit_r2 : List Cond := [Cond.fieldLink RX5 23 "BookedDetours$Timetable" "delays" "LBookedDetours$Row;", Cond.fieldLink RX5 26 "BookedDetours$Timetable" "picks" "LBookedDetours$Row;", Cond.fieldLink RX5 56 "BookedDetours$Day" "picks" "LBookedDetours$Row;", Cond.fieldLink RX5 29 "BookedDetours$Timetable" "downs" "LBookedDetours$Row;", Cond.fieldLink RX5 61 "BookedDetours$Day" "downs" "LBookedDetours$Row;", Cond.fieldLink RX5 62 "BookedDetours$Day" "busStop" "I", Cond.fieldLink RX5 66 "BookedDetours$Timetable" "stop" "I", Cond.fieldLink RX5 69 "BookedDetours$Day" "busFree" "I", Cond.fieldLink RX5 72 "BookedDetours$Timetable" "free" "I", Cond.fieldLink RX5 78 "BookedDetours$Timetable" "aboard" "I", Cond.fieldLink RX5 81 "BookedDetours$Timetable" "driving" "I", Cond.fieldLink RX5 84 "BookedDetours$Timetable" "waiting" "I", Cond.methodLink RX5 53 yX3_clear, Cond.instanceMethod yX3_clear, Cond.selects RX3 yX3_clear yX3_clear, Cond.code yX3_clear cX3_clear 1 none, Cond.methodLink RX5 57 yX3_copy, Cond.instanceMethod yX3_copy, Cond.selects RX3 yX3_copy yX3_copy, Cond.code yX3_copy cX3_copy 3 none, Cond.fieldLink RX3 13 "BookedDetours$Row" "cells" "[I", Cond.methodLink RX3 27 Lib.Math.min.name, Cond.static Lib.Math.min.name, Cond.initialized "java/lang/Math"]
def wsX6_visit_r3 : List Cond := [Cond.code Lib.Math.min.name Lib.Math.min.code 2 (some .int), Cond.methodLink RX5 75 yX0_ridesThatStand, Cond.instanceMethod yX0_ridesThatStand, Cond.selects RX0 yX0_ridesThatStand yX0_ridesThatStand, Cond.initialized RX0, Cond.code yX0_ridesThatStand cX0_ridesThatStand 4 (some .int), Cond.fieldLink RX0 41 "BookedDetours$Day" "stands" "LBookedDetours$Row;", Cond.methodLink RX0 70 yX3_length, Cond.methodLink RX0 74 yX3_at, Cond.instanceMethod yX3_at, Cond.selects RX3 yX3_at yX3_at, Cond.code yX3_at cX3_at 2 (some .int), Cond.methodLink RX5 41 yX3_length, Cond.methodLink RX5 45 yX3_at, Cond.methodLink RX5 49 yX5_step, Cond.instanceMethod yX5_step, Cond.selects RX5 yX5_step yX5_step, Cond.code yX5_step cX5_step 9 (some .boolean), Cond.fieldLink RX5 101 "BookedDetours$Day" "waits" "LBookedDetours$Row;", Cond.methodLink RX5 104 Lib.Math.max.name, Cond.static Lib.Math.max.name, Cond.code Lib.Math.max.name Lib.Math.max.code 2 (some .int), Cond.fieldLink RX5 109 "BookedDetours$Day" "settings" "LBookedDetours$Row;", Cond.fieldLink RX5 119 "BookedDetours$Day" "bys" "LBookedDetours$Row;"]
def wsX6_visit_r4 : List Cond := [Cond.static yX6_rideOf, Cond.initialized RX6, Cond.code yX6_rideOf cX6_rideOf 1 (some .int), Cond.static yX6_setsDown, Cond.code yX6_setsDown cX6_setsDown 1 (some .boolean), Cond.methodLink RX5 94 yX0_stopOf, Cond.instanceMethod yX0_stopOf, Cond.selects RX0 yX0_stopOf yX0_stopOf, Cond.code yX0_stopOf cX0_stopOf 3 (some .int), Cond.fieldLink RX0 29 "BookedDetours$Day" "tos" "LBookedDetours$Row;", Cond.fieldLink RX0 26 "BookedDetours$Day" "froms" "LBookedDetours$Row;", Cond.methodLink RX5 97 yX0_minutes, Cond.instanceMethod yX0_minutes, Cond.selects RX0 yX0_minutes yX0_minutes, Cond.code yX0_minutes cX0_minutes 3 (some .int), Cond.fieldLink RX0 20 "BookedDetours$Day" "xs" "LBookedDetours$Row;", Cond.methodLink RX0 78 Lib.Math.abs.name, Cond.static Lib.Math.abs.name, Cond.code Lib.Math.abs.name Lib.Math.abs.code 1 (some .int), Cond.fieldLink RX0 23 "BookedDetours$Day" "ys" "LBookedDetours$Row;", Cond.methodLink RX5 112 yX3_add, Cond.instanceMethod yX3_add, Cond.selects RX3 yX3_add yX3_add, Cond.code yX3_add cX3_add 2 none]
def wsX6_visit_r5 : List Cond := [Cond.methodLink RX3 23 yX3_insert, Cond.instanceMethod yX3_insert, Cond.selects RX3 yX3_insert yX3_insert, Cond.code yX3_insert cX3_insert 4 none, Cond.methodLink RX5 115 yX3_change, Cond.instanceMethod yX3_change, Cond.selects RX3 yX3_change yX3_change, Cond.code yX3_change cX3_change 3 none, Cond.methodLink RX5 122 yX5_latestByDetour, Cond.instanceMethod yX5_latestByDetour, Cond.selects RX5 yX5_latestByDetour yX5_latestByDetour, Cond.code yX5_latestByDetour cX5_latestByDetour 4 (some .int), Cond.fieldLink RX5 126 "BookedDetours$Day" "straights" "LBookedDetours$Row;", Cond.methodLink RX6 72 yX3_at, Cond.methodLink RX6 150 yX6_rideOf, Cond.methodLink RX6 153 yX6_setsDown, Cond.methodLink RX6 156 yX0_stopOf]
def wsX6_visit : List Cond := .code yX6_visit cX6_visit 4 (some .int) :: ((wsX6_visit_r1 ++ (wsX6_visit_r2 ++ (wsX6_visit_r3 ++ (wsX6_visit_r4 ++ wsX6_visit_r5)))) ++ wsX60 ++ wsX00 ++ wsX50 ++ wsX30)
def wsX6_coordinate : List Cond := .code yX6_coordinate cX6_coordinate 3 (some .int) :: ([.fieldLink RX6 12 "BookedDetours" "day" "LBookedDetours$Day;", .fieldLink RX6 79 "BookedDetours$Day" "xs" "LBookedDetours$Row;", .fieldLink RX6 85 "BookedDetours$Day" "ys" "LBookedDetours$Row;", .methodLink RX6 168 yX0_hasStop, .instanceMethod yX0_hasStop, .selects RX0 yX0_hasStop yX0_hasStop, .initialized RX0, .code yX0_hasStop cX0_hasStop 2 (some .boolean), .fieldLink RX0 20 "BookedDetours$Day" "xs" "LBookedDetours$Row;", .methodLink RX0 70 yX3_length, .instanceMethod yX3_length, .selects RX3 yX3_length yX3_length, .initialized RX3, .code yX3_length cX3_length 1 (some .int), .fieldLink RX3 19 "BookedDetours$Row" "length" "I", .methodLink RX6 72 yX3_at, .instanceMethod yX3_at, .selects RX3 yX3_at yX3_at, .code yX3_at cX3_at 2 (some .int), .fieldLink RX3 13 "BookedDetours$Row" "cells" "[I"] ++ wsX60 ++ wsX00 ++ wsX30)
def wsX6_overOf_r1 : List Cond := [Cond.fieldLink RX6 19 "BookedDetours" "table" "LBookedDetours$Timetable;", Cond.fieldLink RX6 220 "BookedDetours$Timetable" "free" "I", Cond.methodLink RX6 110 yX5_follow, Cond.instanceMethod yX5_follow, Cond.selects RX5 yX5_follow yX5_follow, Cond.initialized RX5, Cond.code yX5_follow cX5_follow 3 none, Cond.fieldLink RX5 36 "BookedDetours$Day" "route" "LBookedDetours$Row;", Cond.methodLink RX5 32 yX5_begin, Cond.instanceMethod yX5_begin, Cond.selects RX5 yX5_begin yX5_begin, Cond.code yX5_begin cX5_begin 2 none, Cond.fieldLink RX5 14 "BookedDetours$Timetable" "times" "LBookedDetours$Row;", Cond.fieldLink RX5 20 "BookedDetours$Timetable" "loads" "LBookedDetours$Row;", Cond.fieldLink RX5 23 "BookedDetours$Timetable" "delays" "LBookedDetours$Row;", Cond.fieldLink RX5 26 "BookedDetours$Timetable" "picks" "LBookedDetours$Row;", Cond.fieldLink RX5 56 "BookedDetours$Day" "picks" "LBookedDetours$Row;", Cond.fieldLink RX5 29 "BookedDetours$Timetable" "downs" "LBookedDetours$Row;", Cond.fieldLink RX5 61 "BookedDetours$Day" "downs" "LBookedDetours$Row;", Cond.fieldLink RX5 62 "BookedDetours$Day" "busStop" "I", Cond.fieldLink RX5 66 "BookedDetours$Timetable" "stop" "I", Cond.fieldLink RX5 69 "BookedDetours$Day" "busFree" "I", Cond.fieldLink RX5 72 "BookedDetours$Timetable" "free" "I", Cond.fieldLink RX5 78 "BookedDetours$Timetable" "aboard" "I"]
def wsX6_overOf_r2 : List Cond := [Cond.fieldLink RX5 81 "BookedDetours$Timetable" "driving" "I", Cond.fieldLink RX5 84 "BookedDetours$Timetable" "waiting" "I", Cond.methodLink RX5 53 yX3_clear, Cond.instanceMethod yX3_clear, Cond.selects RX3 yX3_clear yX3_clear, Cond.initialized RX3, Cond.code yX3_clear cX3_clear 1 none, Cond.fieldLink RX3 19 "BookedDetours$Row" "length" "I", Cond.methodLink RX5 57 yX3_copy, Cond.instanceMethod yX3_copy, Cond.selects RX3 yX3_copy yX3_copy, Cond.code yX3_copy cX3_copy 3 none, Cond.fieldLink RX3 13 "BookedDetours$Row" "cells" "[I", Cond.methodLink RX3 27 Lib.Math.min.name, Cond.static Lib.Math.min.name, Cond.initialized "java/lang/Math", Cond.code Lib.Math.min.name Lib.Math.min.code 2 (some .int), Cond.methodLink RX5 75 yX0_ridesThatStand, Cond.instanceMethod yX0_ridesThatStand, Cond.selects RX0 yX0_ridesThatStand yX0_ridesThatStand, Cond.initialized RX0, Cond.code yX0_ridesThatStand cX0_ridesThatStand 4 (some .int), Cond.fieldLink RX0 41 "BookedDetours$Day" "stands" "LBookedDetours$Row;", Cond.methodLink RX0 70 yX3_length]
def wsX6_overOf_r3 : List Cond := [Cond.instanceMethod yX3_length, Cond.selects RX3 yX3_length yX3_length, Cond.code yX3_length cX3_length 1 (some .int), Cond.methodLink RX0 74 yX3_at, Cond.instanceMethod yX3_at, Cond.selects RX3 yX3_at yX3_at, Cond.code yX3_at cX3_at 2 (some .int), Cond.methodLink RX5 41 yX3_length, Cond.methodLink RX5 45 yX3_at, Cond.methodLink RX5 49 yX5_step, Cond.instanceMethod yX5_step, Cond.selects RX5 yX5_step yX5_step, Cond.code yX5_step cX5_step 9 (some .boolean), Cond.fieldLink RX5 101 "BookedDetours$Day" "waits" "LBookedDetours$Row;", Cond.methodLink RX5 104 Lib.Math.max.name, Cond.static Lib.Math.max.name, Cond.code Lib.Math.max.name Lib.Math.max.code 2 (some .int), Cond.fieldLink RX5 109 "BookedDetours$Day" "settings" "LBookedDetours$Row;", Cond.fieldLink RX5 119 "BookedDetours$Day" "bys" "LBookedDetours$Row;", Cond.static yX6_rideOf, Cond.initialized RX6, Cond.code yX6_rideOf cX6_rideOf 1 (some .int), Cond.static yX6_setsDown, Cond.code yX6_setsDown cX6_setsDown 1 (some .boolean)]
def wsX6_overOf_r4 : List Cond := [Cond.methodLink RX5 94 yX0_stopOf, Cond.instanceMethod yX0_stopOf, Cond.selects RX0 yX0_stopOf yX0_stopOf, Cond.code yX0_stopOf cX0_stopOf 3 (some .int), Cond.fieldLink RX0 29 "BookedDetours$Day" "tos" "LBookedDetours$Row;", Cond.fieldLink RX0 26 "BookedDetours$Day" "froms" "LBookedDetours$Row;", Cond.methodLink RX5 97 yX0_minutes, Cond.instanceMethod yX0_minutes, Cond.selects RX0 yX0_minutes yX0_minutes, Cond.code yX0_minutes cX0_minutes 3 (some .int), Cond.fieldLink RX0 20 "BookedDetours$Day" "xs" "LBookedDetours$Row;", Cond.methodLink RX0 78 Lib.Math.abs.name, Cond.static Lib.Math.abs.name, Cond.code Lib.Math.abs.name Lib.Math.abs.code 1 (some .int), Cond.fieldLink RX0 23 "BookedDetours$Day" "ys" "LBookedDetours$Row;", Cond.methodLink RX5 112 yX3_add, Cond.instanceMethod yX3_add, Cond.selects RX3 yX3_add yX3_add, Cond.code yX3_add cX3_add 2 none, Cond.methodLink RX3 23 yX3_insert, Cond.instanceMethod yX3_insert, Cond.selects RX3 yX3_insert yX3_insert, Cond.code yX3_insert cX3_insert 4 none, Cond.methodLink RX5 115 yX3_change]
def wsX6_overOf_r5 : List Cond := [Cond.instanceMethod yX3_change, Cond.selects RX3 yX3_change yX3_change, Cond.code yX3_change cX3_change 3 none, Cond.methodLink RX5 122 yX5_latestByDetour, Cond.instanceMethod yX5_latestByDetour, Cond.selects RX5 yX5_latestByDetour yX5_latestByDetour, Cond.code yX5_latestByDetour cX5_latestByDetour 4 (some .int), Cond.fieldLink RX5 126 "BookedDetours$Day" "straights" "LBookedDetours$Row;"]
def wsX6_overOf : List Cond := .code yX6_overOf cX6_overOf 2 (some .int) :: ((wsX6_overOf_r1 ++ (wsX6_overOf_r2 ++ (wsX6_overOf_r3 ++ (wsX6_overOf_r4 ++ wsX6_overOf_r5)))) ++ wsX60 ++ wsX50 ++ wsX00 ++ wsX30)
def wsX6_count_r1 : List Cond := [Cond.fieldLink RX6 12 "BookedDetours" "day" "LBookedDetours$Day;", Cond.fieldLink RX6 79 "BookedDetours$Day" "xs" "LBookedDetours$Row;", Cond.fieldLink RX6 100 "BookedDetours$Day" "stands" "LBookedDetours$Row;", Cond.fieldLink RX6 55 "BookedDetours$Day" "route" "LBookedDetours$Row;", Cond.fieldLink RX6 106 "BookedDetours$Day" "now" "I", Cond.fieldLink RX6 19 "BookedDetours" "table" "LBookedDetours$Timetable;", Cond.fieldLink RX6 178 "BookedDetours$Timetable" "driving" "I", Cond.fieldLink RX6 181 "BookedDetours$Timetable" "waiting" "I", Cond.fieldLink RX6 69 "BookedDetours$Day" "settings" "LBookedDetours$Row;", Cond.fieldLink RX6 33 "BookedDetours" "pad" "LBookedDetours$Pad;", Cond.fieldLink RX6 123 "BookedDetours$Pad" "signs" "LBookedDetours$Row;", Cond.fieldLink RX6 40 "BookedDetours" "history" "LBookedDetours$History;", Cond.fieldLink RX6 184 "BookedDetours$History" "length" "I", Cond.methodLink RX6 59 yX3_length, Cond.instanceMethod yX3_length, Cond.selects RX3 yX3_length yX3_length, Cond.initialized RX3, Cond.code yX3_length cX3_length 1 (some .int), Cond.fieldLink RX3 19 "BookedDetours$Row" "length" "I", Cond.methodLink RX6 171 yX6_overOf, Cond.instanceMethod yX6_overOf, Cond.selects RX6 yX6_overOf yX6_overOf, Cond.initialized RX6, Cond.code yX6_overOf cX6_overOf 2 (some .int)]
def wsX6_count_r2 : List Cond := [Cond.fieldLink RX6 220 "BookedDetours$Timetable" "free" "I", Cond.methodLink RX6 110 yX5_follow, Cond.instanceMethod yX5_follow, Cond.selects RX5 yX5_follow yX5_follow, Cond.initialized RX5, Cond.code yX5_follow cX5_follow 3 none, Cond.fieldLink RX5 36 "BookedDetours$Day" "route" "LBookedDetours$Row;", Cond.methodLink RX5 32 yX5_begin, Cond.instanceMethod yX5_begin, Cond.selects RX5 yX5_begin yX5_begin, Cond.code yX5_begin cX5_begin 2 none, Cond.fieldLink RX5 14 "BookedDetours$Timetable" "times" "LBookedDetours$Row;", Cond.fieldLink RX5 20 "BookedDetours$Timetable" "loads" "LBookedDetours$Row;", Cond.fieldLink RX5 23 "BookedDetours$Timetable" "delays" "LBookedDetours$Row;", Cond.fieldLink RX5 26 "BookedDetours$Timetable" "picks" "LBookedDetours$Row;", Cond.fieldLink RX5 56 "BookedDetours$Day" "picks" "LBookedDetours$Row;", Cond.fieldLink RX5 29 "BookedDetours$Timetable" "downs" "LBookedDetours$Row;", Cond.fieldLink RX5 61 "BookedDetours$Day" "downs" "LBookedDetours$Row;", Cond.fieldLink RX5 62 "BookedDetours$Day" "busStop" "I", Cond.fieldLink RX5 66 "BookedDetours$Timetable" "stop" "I", Cond.fieldLink RX5 69 "BookedDetours$Day" "busFree" "I", Cond.fieldLink RX5 72 "BookedDetours$Timetable" "free" "I", Cond.fieldLink RX5 78 "BookedDetours$Timetable" "aboard" "I", Cond.fieldLink RX5 81 "BookedDetours$Timetable" "driving" "I"]
def wsX6_count_r3 : List Cond := [Cond.fieldLink RX5 84 "BookedDetours$Timetable" "waiting" "I", Cond.methodLink RX5 53 yX3_clear, Cond.instanceMethod yX3_clear, Cond.selects RX3 yX3_clear yX3_clear, Cond.code yX3_clear cX3_clear 1 none, Cond.methodLink RX5 57 yX3_copy, Cond.instanceMethod yX3_copy, Cond.selects RX3 yX3_copy yX3_copy, Cond.code yX3_copy cX3_copy 3 none, Cond.fieldLink RX3 13 "BookedDetours$Row" "cells" "[I", Cond.methodLink RX3 27 Lib.Math.min.name, Cond.static Lib.Math.min.name, Cond.initialized "java/lang/Math", Cond.code Lib.Math.min.name Lib.Math.min.code 2 (some .int), Cond.methodLink RX5 75 yX0_ridesThatStand, Cond.instanceMethod yX0_ridesThatStand, Cond.selects RX0 yX0_ridesThatStand yX0_ridesThatStand, Cond.initialized RX0, Cond.code yX0_ridesThatStand cX0_ridesThatStand 4 (some .int), Cond.fieldLink RX0 41 "BookedDetours$Day" "stands" "LBookedDetours$Row;", Cond.methodLink RX0 70 yX3_length, Cond.methodLink RX0 74 yX3_at, Cond.instanceMethod yX3_at, Cond.selects RX3 yX3_at yX3_at]
def wsX6_count_r4 : List Cond := [Cond.code yX3_at cX3_at 2 (some .int), Cond.methodLink RX5 41 yX3_length, Cond.methodLink RX5 45 yX3_at, Cond.methodLink RX5 49 yX5_step, Cond.instanceMethod yX5_step, Cond.selects RX5 yX5_step yX5_step, Cond.code yX5_step cX5_step 9 (some .boolean), Cond.fieldLink RX5 101 "BookedDetours$Day" "waits" "LBookedDetours$Row;", Cond.methodLink RX5 104 Lib.Math.max.name, Cond.static Lib.Math.max.name, Cond.code Lib.Math.max.name Lib.Math.max.code 2 (some .int), Cond.fieldLink RX5 109 "BookedDetours$Day" "settings" "LBookedDetours$Row;", Cond.fieldLink RX5 119 "BookedDetours$Day" "bys" "LBookedDetours$Row;", Cond.static yX6_rideOf, Cond.code yX6_rideOf cX6_rideOf 1 (some .int), Cond.static yX6_setsDown, Cond.code yX6_setsDown cX6_setsDown 1 (some .boolean), Cond.methodLink RX5 94 yX0_stopOf, Cond.instanceMethod yX0_stopOf, Cond.selects RX0 yX0_stopOf yX0_stopOf, Cond.code yX0_stopOf cX0_stopOf 3 (some .int), Cond.fieldLink RX0 29 "BookedDetours$Day" "tos" "LBookedDetours$Row;", Cond.fieldLink RX0 26 "BookedDetours$Day" "froms" "LBookedDetours$Row;", Cond.methodLink RX5 97 yX0_minutes]
def wsX6_count_r5 : List Cond := [Cond.instanceMethod yX0_minutes, Cond.selects RX0 yX0_minutes yX0_minutes, Cond.code yX0_minutes cX0_minutes 3 (some .int), Cond.fieldLink RX0 20 "BookedDetours$Day" "xs" "LBookedDetours$Row;", Cond.methodLink RX0 78 Lib.Math.abs.name, Cond.static Lib.Math.abs.name, Cond.code Lib.Math.abs.name Lib.Math.abs.code 1 (some .int), Cond.fieldLink RX0 23 "BookedDetours$Day" "ys" "LBookedDetours$Row;", Cond.methodLink RX5 112 yX3_add, Cond.instanceMethod yX3_add, Cond.selects RX3 yX3_add yX3_add, Cond.code yX3_add cX3_add 2 none, Cond.methodLink RX3 23 yX3_insert, Cond.instanceMethod yX3_insert, Cond.selects RX3 yX3_insert yX3_insert, Cond.code yX3_insert cX3_insert 4 none, Cond.methodLink RX5 115 yX3_change, Cond.instanceMethod yX3_change, Cond.selects RX3 yX3_change yX3_change, Cond.code yX3_change cX3_change 3 none, Cond.methodLink RX5 122 yX5_latestByDetour, Cond.instanceMethod yX5_latestByDetour, Cond.selects RX5 yX5_latestByDetour yX5_latestByDetour, Cond.code yX5_latestByDetour cX5_latestByDetour 4 (some .int)]
def wsX6_count_r6 : List Cond := [Cond.fieldLink RX5 126 "BookedDetours$Day" "straights" "LBookedDetours$Row;", Cond.methodLink RX6 175 yX0_ridesThatStand, Cond.methodLink RX6 72 yX3_at]
def wsX6_count : List Cond := .code yX6_count cX6_count 2 (some .int) :: ((wsX6_count_r1 ++ (wsX6_count_r2 ++ (wsX6_count_r3 ++ (wsX6_count_r4 ++ (wsX6_count_r5 ++ wsX6_count_r6))))) ++ wsX60 ++ wsX00 ++ wsX50 ++ wsX20 ++ wsX10 ++ wsX30)
def wsX6_ifBooked_r1 : List Cond := [Cond.fieldLink RX6 26 "BookedDetours" "search" "LBookedDetours$Search;", Cond.fieldLink RX6 12 "BookedDetours" "day" "LBookedDetours$Day;", Cond.fieldLink RX6 193 "BookedDetours$Search" "ways" "I", Cond.fieldLink RX6 196 "BookedDetours$Search" "over" "I", Cond.fieldLink RX6 199 "BookedDetours$Search" "pickTime" "I", Cond.fieldLink RX6 202 "BookedDetours$Search" "downTime" "I", Cond.methodLink RX6 186 yX6_errorOf, Cond.instanceMethod yX6_errorOf, Cond.selects RX6 yX6_errorOf yX6_errorOf, Cond.initialized RX6, Cond.code yX6_errorOf cX6_errorOf 5 (some .int), Cond.methodLink RX6 168 yX0_hasStop, Cond.instanceMethod yX0_hasStop, Cond.selects RX0 yX0_hasStop yX0_hasStop, Cond.initialized RX0, Cond.code yX0_hasStop cX0_hasStop 2 (some .boolean), Cond.fieldLink RX0 20 "BookedDetours$Day" "xs" "LBookedDetours$Row;", Cond.methodLink RX0 70 yX3_length, Cond.instanceMethod yX3_length, Cond.selects RX3 yX3_length yX3_length, Cond.initialized RX3, Cond.code yX3_length cX3_length 1 (some .int), Cond.fieldLink RX3 19 "BookedDetours$Row" "length" "I", Cond.methodLink RX6 189 yX4_find]
def wsX6_ifBooked_r2 : List Cond := [Cond.instanceMethod yX4_find, Cond.selects RX4 yX4_find yX4_find, Cond.initialized RX4, Cond.code yX4_find cX4_find 10 (some .boolean), Cond.fieldLink RX4 10 "BookedDetours$Search" "day" "LBookedDetours$Day;", Cond.fieldLink RX4 34 "BookedDetours$Search" "ways" "I", Cond.fieldLink RX4 38 "BookedDetours$Day" "route" "LBookedDetours$Row;", Cond.fieldLink RX4 19 "BookedDetours$Search" "table" "LBookedDetours$Timetable;", Cond.fieldLink RX4 64 "BookedDetours$Search" "pickPlace" "I", Cond.fieldLink RX4 67 "BookedDetours$Search" "downPlace" "I", Cond.methodLink RX4 23 yX0_copy, Cond.instanceMethod yX0_copy, Cond.selects RX0 yX0_copy yX0_copy, Cond.code yX0_copy cX0_copy 2 none, Cond.fieldLink RX0 14 "BookedDetours$Day" "settings" "LBookedDetours$Row;", Cond.fieldLink RX0 23 "BookedDetours$Day" "ys" "LBookedDetours$Row;", Cond.fieldLink RX0 26 "BookedDetours$Day" "froms" "LBookedDetours$Row;", Cond.fieldLink RX0 29 "BookedDetours$Day" "tos" "LBookedDetours$Row;", Cond.fieldLink RX0 32 "BookedDetours$Day" "waits" "LBookedDetours$Row;", Cond.fieldLink RX0 35 "BookedDetours$Day" "bys" "LBookedDetours$Row;", Cond.fieldLink RX0 38 "BookedDetours$Day" "straights" "LBookedDetours$Row;", Cond.fieldLink RX0 41 "BookedDetours$Day" "stands" "LBookedDetours$Row;", Cond.fieldLink RX0 44 "BookedDetours$Day" "picks" "LBookedDetours$Row;", Cond.fieldLink RX0 47 "BookedDetours$Day" "downs" "LBookedDetours$Row;"]
def wsX6_ifBooked_r3 : List Cond := [Cond.fieldLink RX0 50 "BookedDetours$Day" "route" "LBookedDetours$Row;", Cond.fieldLink RX0 60 "BookedDetours$Day" "now" "I", Cond.fieldLink RX0 64 "BookedDetours$Day" "busStop" "I", Cond.fieldLink RX0 67 "BookedDetours$Day" "busFree" "I", Cond.methodLink RX0 56 yX3_copy, Cond.instanceMethod yX3_copy, Cond.selects RX3 yX3_copy yX3_copy, Cond.code yX3_copy cX3_copy 3 none, Cond.fieldLink RX3 13 "BookedDetours$Row" "cells" "[I", Cond.methodLink RX3 27 Lib.Math.min.name, Cond.static Lib.Math.min.name, Cond.initialized "java/lang/Math", Cond.code Lib.Math.min.name Lib.Math.min.code 2 (some .int), Cond.methodLink RX4 27 yX0_beReady, Cond.instanceMethod yX0_beReady, Cond.selects RX0 yX0_beReady yX0_beReady, Cond.code yX0_beReady cX0_beReady 1 none, Cond.methodLink RX0 94 Lib.Math.max.name, Cond.static Lib.Math.max.name, Cond.code Lib.Math.max.name Lib.Math.max.code 2 (some .int), Cond.methodLink RX4 30 yX0_addRide, Cond.instanceMethod yX0_addRide, Cond.selects RX0 yX0_addRide yX0_addRide, Cond.code yX0_addRide cX0_addRide 5 (some .int)]
def wsX6_ifBooked_r4 : List Cond := [Cond.methodLink RX0 53 yX3_add, Cond.instanceMethod yX3_add, Cond.selects RX3 yX3_add yX3_add, Cond.code yX3_add cX3_add 2 none, Cond.methodLink RX3 23 yX3_insert, Cond.instanceMethod yX3_insert, Cond.selects RX3 yX3_insert yX3_insert, Cond.code yX3_insert cX3_insert 4 none, Cond.methodLink RX0 90 yX0_minutes, Cond.instanceMethod yX0_minutes, Cond.selects RX0 yX0_minutes yX0_minutes, Cond.code yX0_minutes cX0_minutes 3 (some .int), Cond.methodLink RX0 78 Lib.Math.abs.name, Cond.static Lib.Math.abs.name, Cond.code Lib.Math.abs.name Lib.Math.abs.code 1 (some .int), Cond.methodLink RX0 74 yX3_at, Cond.instanceMethod yX3_at, Cond.selects RX3 yX3_at yX3_at, Cond.code yX3_at cX3_at 2 (some .int), Cond.methodLink RX4 42 yX3_length, Cond.methodLink RX4 48 yX0_isOnItsWay, Cond.instanceMethod yX0_isOnItsWay, Cond.selects RX0 yX0_isOnItsWay yX0_isOnItsWay, Cond.code yX0_isOnItsWay cX0_isOnItsWay 1 (some .boolean)]
def wsX6_ifBooked_r5 : List Cond := [Cond.methodLink RX4 52 yX4_lay, Cond.instanceMethod yX4_lay, Cond.selects RX4 yX4_lay yX4_lay, Cond.code yX4_lay cX4_lay 5 none, Cond.methodLink RX4 101 yX3_copy, Cond.static yX6_pickUp, Cond.code yX6_pickUp cX6_pickUp 1 (some .int), Cond.methodLink RX4 109 yX3_insert, Cond.static yX6_setDown, Cond.code yX6_setDown cX6_setDown 1 (some .int), Cond.methodLink RX4 56 yX5_keepsAll, Cond.instanceMethod yX5_keepsAll, Cond.selects RX5 yX5_keepsAll yX5_keepsAll, Cond.initialized RX5, Cond.code yX5_keepsAll cX5_keepsAll 3 (some .boolean), Cond.fieldLink RX5 36 "BookedDetours$Day" "route" "LBookedDetours$Row;", Cond.methodLink RX5 32 yX5_begin, Cond.instanceMethod yX5_begin, Cond.selects RX5 yX5_begin yX5_begin, Cond.code yX5_begin cX5_begin 2 none, Cond.fieldLink RX5 14 "BookedDetours$Timetable" "times" "LBookedDetours$Row;", Cond.fieldLink RX5 20 "BookedDetours$Timetable" "loads" "LBookedDetours$Row;", Cond.fieldLink RX5 23 "BookedDetours$Timetable" "delays" "LBookedDetours$Row;", Cond.fieldLink RX5 26 "BookedDetours$Timetable" "picks" "LBookedDetours$Row;"]
def wsX6_ifBooked_r6 : List Cond := [Cond.fieldLink RX5 56 "BookedDetours$Day" "picks" "LBookedDetours$Row;", Cond.fieldLink RX5 29 "BookedDetours$Timetable" "downs" "LBookedDetours$Row;", Cond.fieldLink RX5 61 "BookedDetours$Day" "downs" "LBookedDetours$Row;", Cond.fieldLink RX5 62 "BookedDetours$Day" "busStop" "I", Cond.fieldLink RX5 66 "BookedDetours$Timetable" "stop" "I", Cond.fieldLink RX5 69 "BookedDetours$Day" "busFree" "I", Cond.fieldLink RX5 72 "BookedDetours$Timetable" "free" "I", Cond.fieldLink RX5 78 "BookedDetours$Timetable" "aboard" "I", Cond.fieldLink RX5 81 "BookedDetours$Timetable" "driving" "I", Cond.fieldLink RX5 84 "BookedDetours$Timetable" "waiting" "I", Cond.methodLink RX5 53 yX3_clear, Cond.instanceMethod yX3_clear, Cond.selects RX3 yX3_clear yX3_clear, Cond.code yX3_clear cX3_clear 1 none, Cond.methodLink RX5 57 yX3_copy, Cond.methodLink RX5 75 yX0_ridesThatStand, Cond.instanceMethod yX0_ridesThatStand, Cond.selects RX0 yX0_ridesThatStand yX0_ridesThatStand, Cond.code yX0_ridesThatStand cX0_ridesThatStand 4 (some .int), Cond.methodLink RX5 41 yX3_length, Cond.methodLink RX5 45 yX3_at, Cond.methodLink RX5 49 yX5_step, Cond.instanceMethod yX5_step, Cond.selects RX5 yX5_step yX5_step]
def wsX6_ifBooked_r7 : List Cond := [Cond.code yX5_step cX5_step 9 (some .boolean), Cond.fieldLink RX5 101 "BookedDetours$Day" "waits" "LBookedDetours$Row;", Cond.methodLink RX5 104 Lib.Math.max.name, Cond.fieldLink RX5 109 "BookedDetours$Day" "settings" "LBookedDetours$Row;", Cond.fieldLink RX5 119 "BookedDetours$Day" "bys" "LBookedDetours$Row;", Cond.static yX6_rideOf, Cond.code yX6_rideOf cX6_rideOf 1 (some .int), Cond.static yX6_setsDown, Cond.code yX6_setsDown cX6_setsDown 1 (some .boolean), Cond.methodLink RX5 94 yX0_stopOf, Cond.instanceMethod yX0_stopOf, Cond.selects RX0 yX0_stopOf yX0_stopOf, Cond.code yX0_stopOf cX0_stopOf 3 (some .int), Cond.methodLink RX5 97 yX0_minutes, Cond.methodLink RX5 112 yX3_add, Cond.methodLink RX5 115 yX3_change, Cond.instanceMethod yX3_change, Cond.selects RX3 yX3_change yX3_change, Cond.code yX3_change cX3_change 3 none, Cond.methodLink RX5 122 yX5_latestByDetour, Cond.instanceMethod yX5_latestByDetour, Cond.selects RX5 yX5_latestByDetour yX5_latestByDetour, Cond.code yX5_latestByDetour cX5_latestByDetour 4 (some .int), Cond.fieldLink RX5 126 "BookedDetours$Day" "straights" "LBookedDetours$Row;"]
def wsX6_ifBooked_r8 : List Cond := [Cond.methodLink RX4 60 yX4_takeWay, Cond.instanceMethod yX4_takeWay, Cond.selects RX4 yX4_takeWay yX4_takeWay, Cond.code yX4_takeWay cX4_takeWay 5 none, Cond.fieldLink RX4 70 "BookedDetours$Timetable" "downs" "LBookedDetours$Row;", Cond.fieldLink RX4 77 "BookedDetours$Search" "earliestDown" "I", Cond.methodLink RX4 80 Lib.Math.min.name, Cond.fieldLink RX4 86 "BookedDetours$Timetable" "free" "I", Cond.fieldLink RX4 89 "BookedDetours$Search" "over" "I", Cond.fieldLink RX4 92 "BookedDetours$Timetable" "picks" "LBookedDetours$Row;", Cond.fieldLink RX4 95 "BookedDetours$Search" "pickTime" "I", Cond.fieldLink RX4 98 "BookedDetours$Search" "downTime" "I", Cond.methodLink RX4 73 yX3_at, Cond.methodLink RX6 171 yX6_overOf, Cond.instanceMethod yX6_overOf, Cond.selects RX6 yX6_overOf yX6_overOf, Cond.code yX6_overOf cX6_overOf 2 (some .int), Cond.fieldLink RX6 19 "BookedDetours" "table" "LBookedDetours$Timetable;", Cond.fieldLink RX6 220 "BookedDetours$Timetable" "free" "I", Cond.methodLink RX6 110 yX5_follow, Cond.instanceMethod yX5_follow, Cond.selects RX5 yX5_follow yX5_follow, Cond.code yX5_follow cX5_follow 3 none]
def wsX6_ifBooked : List Cond := .code yX6_ifBooked cX6_ifBooked 8 (some .int) :: ((wsX6_ifBooked_r1 ++ (wsX6_ifBooked_r2 ++ (wsX6_ifBooked_r3 ++ (wsX6_ifBooked_r4 ++ (wsX6_ifBooked_r5 ++ (wsX6_ifBooked_r6 ++ (wsX6_ifBooked_r7 ++ wsX6_ifBooked_r8))))))) ++ wsX60 ++ wsX40 ++ wsX00 ++ wsX30 ++ wsX50)
def wsX6_earliestBy_r1 : List Cond := [Cond.fieldLink RX6 26 "BookedDetours" "search" "LBookedDetours$Search;", Cond.fieldLink RX6 12 "BookedDetours" "day" "LBookedDetours$Day;", Cond.fieldLink RX6 205 "BookedDetours$Search" "earliestDown" "I", Cond.methodLink RX6 186 yX6_errorOf, Cond.instanceMethod yX6_errorOf, Cond.selects RX6 yX6_errorOf yX6_errorOf, Cond.initialized RX6, Cond.code yX6_errorOf cX6_errorOf 5 (some .int), Cond.methodLink RX6 168 yX0_hasStop, Cond.instanceMethod yX0_hasStop, Cond.selects RX0 yX0_hasStop yX0_hasStop, Cond.initialized RX0, Cond.code yX0_hasStop cX0_hasStop 2 (some .boolean), Cond.fieldLink RX0 20 "BookedDetours$Day" "xs" "LBookedDetours$Row;", Cond.methodLink RX0 70 yX3_length, Cond.instanceMethod yX3_length, Cond.selects RX3 yX3_length yX3_length, Cond.initialized RX3, Cond.code yX3_length cX3_length 1 (some .int), Cond.fieldLink RX3 19 "BookedDetours$Row" "length" "I", Cond.methodLink RX6 189 yX4_find, Cond.instanceMethod yX4_find, Cond.selects RX4 yX4_find yX4_find, Cond.initialized RX4]
def wsX6_earliestBy_r2 : List Cond := [Cond.code yX4_find cX4_find 10 (some .boolean), Cond.fieldLink RX4 10 "BookedDetours$Search" "day" "LBookedDetours$Day;", Cond.fieldLink RX4 34 "BookedDetours$Search" "ways" "I", Cond.fieldLink RX4 38 "BookedDetours$Day" "route" "LBookedDetours$Row;", Cond.fieldLink RX4 19 "BookedDetours$Search" "table" "LBookedDetours$Timetable;", Cond.fieldLink RX4 64 "BookedDetours$Search" "pickPlace" "I", Cond.fieldLink RX4 67 "BookedDetours$Search" "downPlace" "I", Cond.methodLink RX4 23 yX0_copy, Cond.instanceMethod yX0_copy, Cond.selects RX0 yX0_copy yX0_copy, Cond.code yX0_copy cX0_copy 2 none, Cond.fieldLink RX0 14 "BookedDetours$Day" "settings" "LBookedDetours$Row;", Cond.fieldLink RX0 23 "BookedDetours$Day" "ys" "LBookedDetours$Row;", Cond.fieldLink RX0 26 "BookedDetours$Day" "froms" "LBookedDetours$Row;", Cond.fieldLink RX0 29 "BookedDetours$Day" "tos" "LBookedDetours$Row;", Cond.fieldLink RX0 32 "BookedDetours$Day" "waits" "LBookedDetours$Row;", Cond.fieldLink RX0 35 "BookedDetours$Day" "bys" "LBookedDetours$Row;", Cond.fieldLink RX0 38 "BookedDetours$Day" "straights" "LBookedDetours$Row;", Cond.fieldLink RX0 41 "BookedDetours$Day" "stands" "LBookedDetours$Row;", Cond.fieldLink RX0 44 "BookedDetours$Day" "picks" "LBookedDetours$Row;", Cond.fieldLink RX0 47 "BookedDetours$Day" "downs" "LBookedDetours$Row;", Cond.fieldLink RX0 50 "BookedDetours$Day" "route" "LBookedDetours$Row;", Cond.fieldLink RX0 60 "BookedDetours$Day" "now" "I", Cond.fieldLink RX0 64 "BookedDetours$Day" "busStop" "I"]
def wsX6_earliestBy_r3 : List Cond := [Cond.fieldLink RX0 67 "BookedDetours$Day" "busFree" "I", Cond.methodLink RX0 56 yX3_copy, Cond.instanceMethod yX3_copy, Cond.selects RX3 yX3_copy yX3_copy, Cond.code yX3_copy cX3_copy 3 none, Cond.fieldLink RX3 13 "BookedDetours$Row" "cells" "[I", Cond.methodLink RX3 27 Lib.Math.min.name, Cond.static Lib.Math.min.name, Cond.initialized "java/lang/Math", Cond.code Lib.Math.min.name Lib.Math.min.code 2 (some .int), Cond.methodLink RX4 27 yX0_beReady, Cond.instanceMethod yX0_beReady, Cond.selects RX0 yX0_beReady yX0_beReady, Cond.code yX0_beReady cX0_beReady 1 none, Cond.methodLink RX0 94 Lib.Math.max.name, Cond.static Lib.Math.max.name, Cond.code Lib.Math.max.name Lib.Math.max.code 2 (some .int), Cond.methodLink RX4 30 yX0_addRide, Cond.instanceMethod yX0_addRide, Cond.selects RX0 yX0_addRide yX0_addRide, Cond.code yX0_addRide cX0_addRide 5 (some .int), Cond.methodLink RX0 53 yX3_add, Cond.instanceMethod yX3_add, Cond.selects RX3 yX3_add yX3_add]
def wsX6_earliestBy_r4 : List Cond := [Cond.code yX3_add cX3_add 2 none, Cond.methodLink RX3 23 yX3_insert, Cond.instanceMethod yX3_insert, Cond.selects RX3 yX3_insert yX3_insert, Cond.code yX3_insert cX3_insert 4 none, Cond.methodLink RX0 90 yX0_minutes, Cond.instanceMethod yX0_minutes, Cond.selects RX0 yX0_minutes yX0_minutes, Cond.code yX0_minutes cX0_minutes 3 (some .int), Cond.methodLink RX0 78 Lib.Math.abs.name, Cond.static Lib.Math.abs.name, Cond.code Lib.Math.abs.name Lib.Math.abs.code 1 (some .int), Cond.methodLink RX0 74 yX3_at, Cond.instanceMethod yX3_at, Cond.selects RX3 yX3_at yX3_at, Cond.code yX3_at cX3_at 2 (some .int), Cond.methodLink RX4 42 yX3_length, Cond.methodLink RX4 48 yX0_isOnItsWay, Cond.instanceMethod yX0_isOnItsWay, Cond.selects RX0 yX0_isOnItsWay yX0_isOnItsWay, Cond.code yX0_isOnItsWay cX0_isOnItsWay 1 (some .boolean), Cond.methodLink RX4 52 yX4_lay, Cond.instanceMethod yX4_lay, Cond.selects RX4 yX4_lay yX4_lay]
def wsX6_earliestBy_r5 : List Cond := [Cond.code yX4_lay cX4_lay 5 none, Cond.methodLink RX4 101 yX3_copy, Cond.static yX6_pickUp, Cond.code yX6_pickUp cX6_pickUp 1 (some .int), Cond.methodLink RX4 109 yX3_insert, Cond.static yX6_setDown, Cond.code yX6_setDown cX6_setDown 1 (some .int), Cond.methodLink RX4 56 yX5_keepsAll, Cond.instanceMethod yX5_keepsAll, Cond.selects RX5 yX5_keepsAll yX5_keepsAll, Cond.initialized RX5, Cond.code yX5_keepsAll cX5_keepsAll 3 (some .boolean), Cond.fieldLink RX5 36 "BookedDetours$Day" "route" "LBookedDetours$Row;", Cond.methodLink RX5 32 yX5_begin, Cond.instanceMethod yX5_begin, Cond.selects RX5 yX5_begin yX5_begin, Cond.code yX5_begin cX5_begin 2 none, Cond.fieldLink RX5 14 "BookedDetours$Timetable" "times" "LBookedDetours$Row;", Cond.fieldLink RX5 20 "BookedDetours$Timetable" "loads" "LBookedDetours$Row;", Cond.fieldLink RX5 23 "BookedDetours$Timetable" "delays" "LBookedDetours$Row;", Cond.fieldLink RX5 26 "BookedDetours$Timetable" "picks" "LBookedDetours$Row;", Cond.fieldLink RX5 56 "BookedDetours$Day" "picks" "LBookedDetours$Row;", Cond.fieldLink RX5 29 "BookedDetours$Timetable" "downs" "LBookedDetours$Row;", Cond.fieldLink RX5 61 "BookedDetours$Day" "downs" "LBookedDetours$Row;"]
def wsX6_earliestBy_r6 : List Cond := [Cond.fieldLink RX5 62 "BookedDetours$Day" "busStop" "I", Cond.fieldLink RX5 66 "BookedDetours$Timetable" "stop" "I", Cond.fieldLink RX5 69 "BookedDetours$Day" "busFree" "I", Cond.fieldLink RX5 72 "BookedDetours$Timetable" "free" "I", Cond.fieldLink RX5 78 "BookedDetours$Timetable" "aboard" "I", Cond.fieldLink RX5 81 "BookedDetours$Timetable" "driving" "I", Cond.fieldLink RX5 84 "BookedDetours$Timetable" "waiting" "I", Cond.methodLink RX5 53 yX3_clear, Cond.instanceMethod yX3_clear, Cond.selects RX3 yX3_clear yX3_clear, Cond.code yX3_clear cX3_clear 1 none, Cond.methodLink RX5 57 yX3_copy, Cond.methodLink RX5 75 yX0_ridesThatStand, Cond.instanceMethod yX0_ridesThatStand, Cond.selects RX0 yX0_ridesThatStand yX0_ridesThatStand, Cond.code yX0_ridesThatStand cX0_ridesThatStand 4 (some .int), Cond.methodLink RX5 41 yX3_length, Cond.methodLink RX5 45 yX3_at, Cond.methodLink RX5 49 yX5_step, Cond.instanceMethod yX5_step, Cond.selects RX5 yX5_step yX5_step, Cond.code yX5_step cX5_step 9 (some .boolean), Cond.fieldLink RX5 101 "BookedDetours$Day" "waits" "LBookedDetours$Row;", Cond.methodLink RX5 104 Lib.Math.max.name]
def wsX6_earliestBy_r7 : List Cond := [Cond.fieldLink RX5 109 "BookedDetours$Day" "settings" "LBookedDetours$Row;", Cond.fieldLink RX5 119 "BookedDetours$Day" "bys" "LBookedDetours$Row;", Cond.static yX6_rideOf, Cond.code yX6_rideOf cX6_rideOf 1 (some .int), Cond.static yX6_setsDown, Cond.code yX6_setsDown cX6_setsDown 1 (some .boolean), Cond.methodLink RX5 94 yX0_stopOf, Cond.instanceMethod yX0_stopOf, Cond.selects RX0 yX0_stopOf yX0_stopOf, Cond.code yX0_stopOf cX0_stopOf 3 (some .int), Cond.methodLink RX5 97 yX0_minutes, Cond.methodLink RX5 112 yX3_add, Cond.methodLink RX5 115 yX3_change, Cond.instanceMethod yX3_change, Cond.selects RX3 yX3_change yX3_change, Cond.code yX3_change cX3_change 3 none, Cond.methodLink RX5 122 yX5_latestByDetour, Cond.instanceMethod yX5_latestByDetour, Cond.selects RX5 yX5_latestByDetour yX5_latestByDetour, Cond.code yX5_latestByDetour cX5_latestByDetour 4 (some .int), Cond.fieldLink RX5 126 "BookedDetours$Day" "straights" "LBookedDetours$Row;", Cond.methodLink RX4 60 yX4_takeWay, Cond.instanceMethod yX4_takeWay, Cond.selects RX4 yX4_takeWay yX4_takeWay]
def wsX6_earliestBy_r8 : List Cond := [Cond.code yX4_takeWay cX4_takeWay 5 none, Cond.fieldLink RX4 70 "BookedDetours$Timetable" "downs" "LBookedDetours$Row;", Cond.fieldLink RX4 77 "BookedDetours$Search" "earliestDown" "I", Cond.methodLink RX4 80 Lib.Math.min.name, Cond.fieldLink RX4 86 "BookedDetours$Timetable" "free" "I", Cond.fieldLink RX4 89 "BookedDetours$Search" "over" "I", Cond.fieldLink RX4 92 "BookedDetours$Timetable" "picks" "LBookedDetours$Row;", Cond.fieldLink RX4 95 "BookedDetours$Search" "pickTime" "I", Cond.fieldLink RX4 98 "BookedDetours$Search" "downTime" "I", Cond.methodLink RX4 73 yX3_at]
def wsX6_earliestBy : List Cond := .code yX6_earliestBy cX6_earliestBy 5 (some .int) :: ((wsX6_earliestBy_r1 ++ (wsX6_earliestBy_r2 ++ (wsX6_earliestBy_r3 ++ (wsX6_earliestBy_r4 ++ (wsX6_earliestBy_r5 ++ (wsX6_earliestBy_r6 ++ (wsX6_earliestBy_r7 ++ wsX6_earliestBy_r8))))))) ++ wsX60 ++ wsX40 ++ wsX00 ++ wsX30 ++ wsX50)
def wsX6_spare_r1 : List Cond := [Cond.fieldLink RX6 12 "BookedDetours" "day" "LBookedDetours$Day;", Cond.fieldLink RX6 100 "BookedDetours$Day" "stands" "LBookedDetours$Row;", Cond.fieldLink RX6 19 "BookedDetours" "table" "LBookedDetours$Timetable;", Cond.fieldLink RX6 138 "BookedDetours$Day" "bys" "LBookedDetours$Row;", Cond.fieldLink RX6 144 "BookedDetours$Timetable" "downs" "LBookedDetours$Row;", Cond.methodLink RX6 96 yX0_hasRide, Cond.instanceMethod yX0_hasRide, Cond.selects RX0 yX0_hasRide yX0_hasRide, Cond.initialized RX0, Cond.code yX0_hasRide cX0_hasRide 2 (some .boolean), Cond.fieldLink RX0 41 "BookedDetours$Day" "stands" "LBookedDetours$Row;", Cond.methodLink RX0 70 yX3_length, Cond.instanceMethod yX3_length, Cond.selects RX3 yX3_length yX3_length, Cond.initialized RX3, Cond.code yX3_length cX3_length 1 (some .int), Cond.fieldLink RX3 19 "BookedDetours$Row" "length" "I", Cond.methodLink RX6 72 yX3_at, Cond.instanceMethod yX3_at, Cond.selects RX3 yX3_at yX3_at, Cond.code yX3_at cX3_at 2 (some .int), Cond.fieldLink RX3 13 "BookedDetours$Row" "cells" "[I", Cond.methodLink RX6 110 yX5_follow, Cond.instanceMethod yX5_follow]
def wsX6_spare_r2 : List Cond := [Cond.selects RX5 yX5_follow yX5_follow, Cond.initialized RX5, Cond.code yX5_follow cX5_follow 3 none, Cond.fieldLink RX5 36 "BookedDetours$Day" "route" "LBookedDetours$Row;", Cond.methodLink RX5 32 yX5_begin, Cond.instanceMethod yX5_begin, Cond.selects RX5 yX5_begin yX5_begin, Cond.code yX5_begin cX5_begin 2 none, Cond.fieldLink RX5 14 "BookedDetours$Timetable" "times" "LBookedDetours$Row;", Cond.fieldLink RX5 20 "BookedDetours$Timetable" "loads" "LBookedDetours$Row;", Cond.fieldLink RX5 23 "BookedDetours$Timetable" "delays" "LBookedDetours$Row;", Cond.fieldLink RX5 26 "BookedDetours$Timetable" "picks" "LBookedDetours$Row;", Cond.fieldLink RX5 56 "BookedDetours$Day" "picks" "LBookedDetours$Row;", Cond.fieldLink RX5 29 "BookedDetours$Timetable" "downs" "LBookedDetours$Row;", Cond.fieldLink RX5 61 "BookedDetours$Day" "downs" "LBookedDetours$Row;", Cond.fieldLink RX5 62 "BookedDetours$Day" "busStop" "I", Cond.fieldLink RX5 66 "BookedDetours$Timetable" "stop" "I", Cond.fieldLink RX5 69 "BookedDetours$Day" "busFree" "I", Cond.fieldLink RX5 72 "BookedDetours$Timetable" "free" "I", Cond.fieldLink RX5 78 "BookedDetours$Timetable" "aboard" "I", Cond.fieldLink RX5 81 "BookedDetours$Timetable" "driving" "I", Cond.fieldLink RX5 84 "BookedDetours$Timetable" "waiting" "I", Cond.methodLink RX5 53 yX3_clear, Cond.instanceMethod yX3_clear]
def wsX6_spare_r3 : List Cond := [Cond.selects RX3 yX3_clear yX3_clear, Cond.code yX3_clear cX3_clear 1 none, Cond.methodLink RX5 57 yX3_copy, Cond.instanceMethod yX3_copy, Cond.selects RX3 yX3_copy yX3_copy, Cond.code yX3_copy cX3_copy 3 none, Cond.methodLink RX3 27 Lib.Math.min.name, Cond.static Lib.Math.min.name, Cond.initialized "java/lang/Math", Cond.code Lib.Math.min.name Lib.Math.min.code 2 (some .int), Cond.methodLink RX5 75 yX0_ridesThatStand, Cond.instanceMethod yX0_ridesThatStand, Cond.selects RX0 yX0_ridesThatStand yX0_ridesThatStand, Cond.code yX0_ridesThatStand cX0_ridesThatStand 4 (some .int), Cond.methodLink RX0 74 yX3_at, Cond.methodLink RX5 41 yX3_length, Cond.methodLink RX5 45 yX3_at, Cond.methodLink RX5 49 yX5_step, Cond.instanceMethod yX5_step, Cond.selects RX5 yX5_step yX5_step, Cond.code yX5_step cX5_step 9 (some .boolean), Cond.fieldLink RX5 101 "BookedDetours$Day" "waits" "LBookedDetours$Row;", Cond.methodLink RX5 104 Lib.Math.max.name, Cond.static Lib.Math.max.name]
def wsX6_spare_r4 : List Cond := [Cond.code Lib.Math.max.name Lib.Math.max.code 2 (some .int), Cond.fieldLink RX5 109 "BookedDetours$Day" "settings" "LBookedDetours$Row;", Cond.fieldLink RX5 119 "BookedDetours$Day" "bys" "LBookedDetours$Row;", Cond.static yX6_rideOf, Cond.initialized RX6, Cond.code yX6_rideOf cX6_rideOf 1 (some .int), Cond.static yX6_setsDown, Cond.code yX6_setsDown cX6_setsDown 1 (some .boolean), Cond.methodLink RX5 94 yX0_stopOf, Cond.instanceMethod yX0_stopOf, Cond.selects RX0 yX0_stopOf yX0_stopOf, Cond.code yX0_stopOf cX0_stopOf 3 (some .int), Cond.fieldLink RX0 29 "BookedDetours$Day" "tos" "LBookedDetours$Row;", Cond.fieldLink RX0 26 "BookedDetours$Day" "froms" "LBookedDetours$Row;", Cond.methodLink RX5 97 yX0_minutes, Cond.instanceMethod yX0_minutes, Cond.selects RX0 yX0_minutes yX0_minutes, Cond.code yX0_minutes cX0_minutes 3 (some .int), Cond.fieldLink RX0 20 "BookedDetours$Day" "xs" "LBookedDetours$Row;", Cond.methodLink RX0 78 Lib.Math.abs.name, Cond.static Lib.Math.abs.name, Cond.code Lib.Math.abs.name Lib.Math.abs.code 1 (some .int), Cond.fieldLink RX0 23 "BookedDetours$Day" "ys" "LBookedDetours$Row;", Cond.methodLink RX5 112 yX3_add]
def wsX6_spare_r5 : List Cond := [Cond.instanceMethod yX3_add, Cond.selects RX3 yX3_add yX3_add, Cond.code yX3_add cX3_add 2 none, Cond.methodLink RX3 23 yX3_insert, Cond.instanceMethod yX3_insert, Cond.selects RX3 yX3_insert yX3_insert, Cond.code yX3_insert cX3_insert 4 none, Cond.methodLink RX5 115 yX3_change, Cond.instanceMethod yX3_change, Cond.selects RX3 yX3_change yX3_change, Cond.code yX3_change cX3_change 3 none, Cond.methodLink RX5 122 yX5_latestByDetour, Cond.instanceMethod yX5_latestByDetour, Cond.selects RX5 yX5_latestByDetour yX5_latestByDetour, Cond.code yX5_latestByDetour cX5_latestByDetour 4 (some .int), Cond.fieldLink RX5 126 "BookedDetours$Day" "straights" "LBookedDetours$Row;"]
def wsX6_spare : List Cond := .code yX6_spare cX6_spare 3 (some .int) :: ((wsX6_spare_r1 ++ (wsX6_spare_r2 ++ (wsX6_spare_r3 ++ (wsX6_spare_r4 ++ wsX6_spare_r5)))) ++ wsX60 ++ wsX00 ++ wsX50 ++ wsX30)
def wsX6_dearest_r1 : List Cond := [Cond.fieldLink RX6 12 "BookedDetours" "day" "LBookedDetours$Day;", Cond.fieldLink RX6 100 "BookedDetours$Day" "stands" "LBookedDetours$Row;", Cond.fieldLink RX6 26 "BookedDetours" "search" "LBookedDetours$Search;", Cond.fieldLink RX6 92 "BookedDetours$Search" "day" "LBookedDetours$Day;", Cond.methodLink RX6 171 yX6_overOf, Cond.instanceMethod yX6_overOf, Cond.selects RX6 yX6_overOf yX6_overOf, Cond.initialized RX6, Cond.code yX6_overOf cX6_overOf 2 (some .int), Cond.fieldLink RX6 19 "BookedDetours" "table" "LBookedDetours$Timetable;", Cond.fieldLink RX6 220 "BookedDetours$Timetable" "free" "I", Cond.methodLink RX6 110 yX5_follow, Cond.instanceMethod yX5_follow, Cond.selects RX5 yX5_follow yX5_follow, Cond.initialized RX5, Cond.code yX5_follow cX5_follow 3 none, Cond.fieldLink RX5 36 "BookedDetours$Day" "route" "LBookedDetours$Row;", Cond.methodLink RX5 32 yX5_begin, Cond.instanceMethod yX5_begin, Cond.selects RX5 yX5_begin yX5_begin, Cond.code yX5_begin cX5_begin 2 none, Cond.fieldLink RX5 14 "BookedDetours$Timetable" "times" "LBookedDetours$Row;", Cond.fieldLink RX5 20 "BookedDetours$Timetable" "loads" "LBookedDetours$Row;", Cond.fieldLink RX5 23 "BookedDetours$Timetable" "delays" "LBookedDetours$Row;"]
def wsX6_dearest_r2 : List Cond := [Cond.fieldLink RX5 26 "BookedDetours$Timetable" "picks" "LBookedDetours$Row;", Cond.fieldLink RX5 56 "BookedDetours$Day" "picks" "LBookedDetours$Row;", Cond.fieldLink RX5 29 "BookedDetours$Timetable" "downs" "LBookedDetours$Row;", Cond.fieldLink RX5 61 "BookedDetours$Day" "downs" "LBookedDetours$Row;", Cond.fieldLink RX5 62 "BookedDetours$Day" "busStop" "I", Cond.fieldLink RX5 66 "BookedDetours$Timetable" "stop" "I", Cond.fieldLink RX5 69 "BookedDetours$Day" "busFree" "I", Cond.fieldLink RX5 72 "BookedDetours$Timetable" "free" "I", Cond.fieldLink RX5 78 "BookedDetours$Timetable" "aboard" "I", Cond.fieldLink RX5 81 "BookedDetours$Timetable" "driving" "I", Cond.fieldLink RX5 84 "BookedDetours$Timetable" "waiting" "I", Cond.methodLink RX5 53 yX3_clear, Cond.instanceMethod yX3_clear, Cond.selects RX3 yX3_clear yX3_clear, Cond.initialized RX3, Cond.code yX3_clear cX3_clear 1 none, Cond.fieldLink RX3 19 "BookedDetours$Row" "length" "I", Cond.methodLink RX5 57 yX3_copy, Cond.instanceMethod yX3_copy, Cond.selects RX3 yX3_copy yX3_copy, Cond.code yX3_copy cX3_copy 3 none, Cond.fieldLink RX3 13 "BookedDetours$Row" "cells" "[I", Cond.methodLink RX3 27 Lib.Math.min.name, Cond.static Lib.Math.min.name]
def wsX6_dearest_r3 : List Cond := [Cond.initialized "java/lang/Math", Cond.code Lib.Math.min.name Lib.Math.min.code 2 (some .int), Cond.methodLink RX5 75 yX0_ridesThatStand, Cond.instanceMethod yX0_ridesThatStand, Cond.selects RX0 yX0_ridesThatStand yX0_ridesThatStand, Cond.initialized RX0, Cond.code yX0_ridesThatStand cX0_ridesThatStand 4 (some .int), Cond.fieldLink RX0 41 "BookedDetours$Day" "stands" "LBookedDetours$Row;", Cond.methodLink RX0 70 yX3_length, Cond.instanceMethod yX3_length, Cond.selects RX3 yX3_length yX3_length, Cond.code yX3_length cX3_length 1 (some .int), Cond.methodLink RX0 74 yX3_at, Cond.instanceMethod yX3_at, Cond.selects RX3 yX3_at yX3_at, Cond.code yX3_at cX3_at 2 (some .int), Cond.methodLink RX5 41 yX3_length, Cond.methodLink RX5 45 yX3_at, Cond.methodLink RX5 49 yX5_step, Cond.instanceMethod yX5_step, Cond.selects RX5 yX5_step yX5_step, Cond.code yX5_step cX5_step 9 (some .boolean), Cond.fieldLink RX5 101 "BookedDetours$Day" "waits" "LBookedDetours$Row;", Cond.methodLink RX5 104 Lib.Math.max.name]
def wsX6_dearest_r4 : List Cond := [Cond.static Lib.Math.max.name, Cond.code Lib.Math.max.name Lib.Math.max.code 2 (some .int), Cond.fieldLink RX5 109 "BookedDetours$Day" "settings" "LBookedDetours$Row;", Cond.fieldLink RX5 119 "BookedDetours$Day" "bys" "LBookedDetours$Row;", Cond.static yX6_rideOf, Cond.code yX6_rideOf cX6_rideOf 1 (some .int), Cond.static yX6_setsDown, Cond.code yX6_setsDown cX6_setsDown 1 (some .boolean), Cond.methodLink RX5 94 yX0_stopOf, Cond.instanceMethod yX0_stopOf, Cond.selects RX0 yX0_stopOf yX0_stopOf, Cond.code yX0_stopOf cX0_stopOf 3 (some .int), Cond.fieldLink RX0 29 "BookedDetours$Day" "tos" "LBookedDetours$Row;", Cond.fieldLink RX0 26 "BookedDetours$Day" "froms" "LBookedDetours$Row;", Cond.methodLink RX5 97 yX0_minutes, Cond.instanceMethod yX0_minutes, Cond.selects RX0 yX0_minutes yX0_minutes, Cond.code yX0_minutes cX0_minutes 3 (some .int), Cond.fieldLink RX0 20 "BookedDetours$Day" "xs" "LBookedDetours$Row;", Cond.methodLink RX0 78 Lib.Math.abs.name, Cond.static Lib.Math.abs.name, Cond.code Lib.Math.abs.name Lib.Math.abs.code 1 (some .int), Cond.fieldLink RX0 23 "BookedDetours$Day" "ys" "LBookedDetours$Row;", Cond.methodLink RX5 112 yX3_add]
def wsX6_dearest_r5 : List Cond := [Cond.instanceMethod yX3_add, Cond.selects RX3 yX3_add yX3_add, Cond.code yX3_add cX3_add 2 none, Cond.methodLink RX3 23 yX3_insert, Cond.instanceMethod yX3_insert, Cond.selects RX3 yX3_insert yX3_insert, Cond.code yX3_insert cX3_insert 4 none, Cond.methodLink RX5 115 yX3_change, Cond.instanceMethod yX3_change, Cond.selects RX3 yX3_change yX3_change, Cond.code yX3_change cX3_change 3 none, Cond.methodLink RX5 122 yX5_latestByDetour, Cond.instanceMethod yX5_latestByDetour, Cond.selects RX5 yX5_latestByDetour yX5_latestByDetour, Cond.code yX5_latestByDetour cX5_latestByDetour 4 (some .int), Cond.fieldLink RX5 126 "BookedDetours$Day" "straights" "LBookedDetours$Row;", Cond.methodLink RX6 59 yX3_length, Cond.methodLink RX6 72 yX3_at, Cond.methodLink RX6 93 yX0_copy, Cond.instanceMethod yX0_copy, Cond.selects RX0 yX0_copy yX0_copy, Cond.code yX0_copy cX0_copy 2 none, Cond.fieldLink RX0 14 "BookedDetours$Day" "settings" "LBookedDetours$Row;", Cond.fieldLink RX0 32 "BookedDetours$Day" "waits" "LBookedDetours$Row;"]
def wsX6_dearest_r6 : List Cond := [Cond.fieldLink RX0 35 "BookedDetours$Day" "bys" "LBookedDetours$Row;", Cond.fieldLink RX0 38 "BookedDetours$Day" "straights" "LBookedDetours$Row;", Cond.fieldLink RX0 44 "BookedDetours$Day" "picks" "LBookedDetours$Row;", Cond.fieldLink RX0 47 "BookedDetours$Day" "downs" "LBookedDetours$Row;", Cond.fieldLink RX0 50 "BookedDetours$Day" "route" "LBookedDetours$Row;", Cond.fieldLink RX0 60 "BookedDetours$Day" "now" "I", Cond.fieldLink RX0 64 "BookedDetours$Day" "busStop" "I", Cond.fieldLink RX0 67 "BookedDetours$Day" "busFree" "I", Cond.methodLink RX0 56 yX3_copy, Cond.methodLink RX6 103 yX0_leaveOut, Cond.instanceMethod yX0_leaveOut, Cond.selects RX0 yX0_leaveOut yX0_leaveOut, Cond.code yX0_leaveOut cX0_leaveOut 4 none, Cond.methodLink RX0 97 yX0_isOnItsWay, Cond.instanceMethod yX0_isOnItsWay, Cond.selects RX0 yX0_isOnItsWay yX0_isOnItsWay, Cond.code yX0_isOnItsWay cX0_isOnItsWay 1 (some .boolean), Cond.methodLink RX0 101 yX0_endAtFirst, Cond.instanceMethod yX0_endAtFirst, Cond.selects RX0 yX0_endAtFirst yX0_endAtFirst, Cond.code yX0_endAtFirst cX0_endAtFirst 2 none, Cond.methodLink RX0 94 Lib.Math.max.name, Cond.methodLink RX0 111 yX0_stopOf, Cond.methodLink RX0 90 yX0_minutes]
def wsX6_dearest_r7 : List Cond := [Cond.methodLink RX0 104 yX3_remove, Cond.instanceMethod yX3_remove, Cond.selects RX3 yX3_remove yX3_remove, Cond.code yX3_remove cX3_remove 3 none, Cond.methodLink RX0 107 yX3_change]
def wsX6_dearest : List Cond := .code yX6_dearest cX6_dearest 7 (some .int) :: ((wsX6_dearest_r1 ++ (wsX6_dearest_r2 ++ (wsX6_dearest_r3 ++ (wsX6_dearest_r4 ++ (wsX6_dearest_r5 ++ (wsX6_dearest_r6 ++ wsX6_dearest_r7)))))) ++ wsX60 ++ wsX00 ++ wsX40 ++ wsX50 ++ wsX30)
def wsX6_put_r1 : List Cond := [Cond.fieldLink RX6 33 "BookedDetours" "pad" "LBookedDetours$Pad;", Cond.fieldLink RX6 123 "BookedDetours$Pad" "signs" "LBookedDetours$Row;", Cond.methodLink RX6 208 yX2_signsIn, Cond.static yX2_signsIn, Cond.initialized RX2, Cond.code yX2_signsIn cX2_signsIn 5 (some .int), Cond.methodLink RX6 59 yX3_length, Cond.instanceMethod yX3_length, Cond.selects RX3 yX3_length yX3_length, Cond.initialized RX3, Cond.code yX3_length cX3_length 1 (some .int), Cond.fieldLink RX3 19 "BookedDetours$Row" "length" "I", Cond.methodLink RX6 212 yX2_append, Cond.instanceMethod yX2_append, Cond.selects RX2 yX2_append yX2_append, Cond.code yX2_append cX2_append 5 none, Cond.fieldLink RX2 14 "BookedDetours$Pad" "signs" "LBookedDetours$Row;", Cond.methodLink RX2 23 yX3_add, Cond.instanceMethod yX3_add, Cond.selects RX3 yX3_add yX3_add, Cond.code yX3_add cX3_add 2 none, Cond.methodLink RX3 23 yX3_insert, Cond.instanceMethod yX3_insert, Cond.selects RX3 yX3_insert yX3_insert]
def wsX6_put_r2 : List Cond := [Cond.code yX3_insert cX3_insert 4 none, Cond.fieldLink RX3 13 "BookedDetours$Row" "cells" "[I"]
def wsX6_put : List Cond := .code yX6_put cX6_put 4 (some .int) :: ((wsX6_put_r1 ++ wsX6_put_r2) ++ wsX60 ++ wsX20 ++ wsX30)
def wsX6_wipe : List Cond := .code yX6_wipe cX6_wipe 2 (some .int) :: ([.fieldLink RX6 33 "BookedDetours" "pad" "LBookedDetours$Pad;", .fieldLink RX6 123 "BookedDetours$Pad" "signs" "LBookedDetours$Row;", .methodLink RX6 59 yX3_length, .instanceMethod yX3_length, .selects RX3 yX3_length yX3_length, .initialized RX3, .code yX3_length cX3_length 1 (some .int), .fieldLink RX3 19 "BookedDetours$Row" "length" "I", .methodLink RX6 126 yX3_clear, .instanceMethod yX3_clear, .selects RX3 yX3_clear yX3_clear, .code yX3_clear cX3_clear 1 none] ++ wsX60 ++ wsX20 ++ wsX30)
def wsX6_fault_r1 : List Cond := [Cond.fieldLink RX6 33 "BookedDetours" "pad" "LBookedDetours$Pad;", Cond.methodLink RX6 117 yX2_findFault, Cond.instanceMethod yX2_findFault, Cond.selects RX2 yX2_findFault yX2_findFault, Cond.initialized RX2, Cond.code yX2_findFault cX2_findFault 5 (some .int), Cond.fieldLink RX2 20 "BookedDetours$Pad" "numbers" "LBookedDetours$Row;", Cond.fieldLink RX2 14 "BookedDetours$Pad" "signs" "LBookedDetours$Row;", Cond.methodLink RX2 26 yX3_clear, Cond.instanceMethod yX3_clear, Cond.selects RX3 yX3_clear yX3_clear, Cond.initialized RX3, Cond.code yX3_clear cX3_clear 1 none, Cond.fieldLink RX3 19 "BookedDetours$Row" "length" "I", Cond.methodLink RX2 29 yX3_length, Cond.instanceMethod yX3_length, Cond.selects RX3 yX3_length yX3_length, Cond.code yX3_length cX3_length 1 (some .int), Cond.methodLink RX2 33 yX3_at, Cond.instanceMethod yX3_at, Cond.selects RX3 yX3_at yX3_at, Cond.code yX3_at cX3_at 2 (some .int), Cond.fieldLink RX3 13 "BookedDetours$Row" "cells" "[I", Cond.methodLink RX2 37 yX2_withDigit]
def wsX6_fault_r2 : List Cond := [Cond.static yX2_withDigit, Cond.code yX2_withDigit cX2_withDigit 2 (some .int), Cond.methodLink RX2 41 yX2_mostIn, Cond.static yX2_mostIn, Cond.code yX2_mostIn cX2_mostIn 1 (some .int), Cond.methodLink RX2 44 yX2_endOf, Cond.static yX2_endOf, Cond.code yX2_endOf cX2_endOf 1 (some .char), Cond.methodLink RX2 23 yX3_add, Cond.instanceMethod yX3_add, Cond.selects RX3 yX3_add yX3_add, Cond.code yX3_add cX3_add 2 none, Cond.methodLink RX3 23 yX3_insert, Cond.instanceMethod yX3_insert, Cond.selects RX3 yX3_insert yX3_insert, Cond.code yX3_insert cX3_insert 4 none]
def wsX6_fault : List Cond := .code yX6_fault cX6_fault 1 (some .int) :: ((wsX6_fault_r1 ++ wsX6_fault_r2) ++ wsX60 ++ wsX20 ++ wsX30)
def wsX6_undo_r1 : List Cond := [Cond.fieldLink RX6 40 "BookedDetours" "history" "LBookedDetours$History;", Cond.fieldLink RX6 12 "BookedDetours" "day" "LBookedDetours$Day;", Cond.fieldLink RX6 184 "BookedDetours$History" "length" "I", Cond.methodLink RX6 216 yX1_takeLatest, Cond.instanceMethod yX1_takeLatest, Cond.selects RX1 yX1_takeLatest yX1_takeLatest, Cond.initialized RX1, Cond.code yX1_takeLatest cX1_takeLatest 3 (some .boolean), Cond.fieldLink RX1 17 "BookedDetours$History" "length" "I", Cond.fieldLink RX1 11 "BookedDetours$History" "days" "[LBookedDetours$Day;", Cond.methodLink RX1 25 yX0_copy, Cond.instanceMethod yX0_copy, Cond.selects RX0 yX0_copy yX0_copy, Cond.initialized RX0, Cond.code yX0_copy cX0_copy 2 none, Cond.fieldLink RX0 14 "BookedDetours$Day" "settings" "LBookedDetours$Row;", Cond.fieldLink RX0 20 "BookedDetours$Day" "xs" "LBookedDetours$Row;", Cond.fieldLink RX0 23 "BookedDetours$Day" "ys" "LBookedDetours$Row;", Cond.fieldLink RX0 26 "BookedDetours$Day" "froms" "LBookedDetours$Row;", Cond.fieldLink RX0 29 "BookedDetours$Day" "tos" "LBookedDetours$Row;", Cond.fieldLink RX0 32 "BookedDetours$Day" "waits" "LBookedDetours$Row;", Cond.fieldLink RX0 35 "BookedDetours$Day" "bys" "LBookedDetours$Row;", Cond.fieldLink RX0 38 "BookedDetours$Day" "straights" "LBookedDetours$Row;", Cond.fieldLink RX0 41 "BookedDetours$Day" "stands" "LBookedDetours$Row;"]
def wsX6_undo_r2 : List Cond := [Cond.fieldLink RX0 44 "BookedDetours$Day" "picks" "LBookedDetours$Row;", Cond.fieldLink RX0 47 "BookedDetours$Day" "downs" "LBookedDetours$Row;", Cond.fieldLink RX0 50 "BookedDetours$Day" "route" "LBookedDetours$Row;", Cond.fieldLink RX0 60 "BookedDetours$Day" "now" "I", Cond.fieldLink RX0 64 "BookedDetours$Day" "busStop" "I", Cond.fieldLink RX0 67 "BookedDetours$Day" "busFree" "I", Cond.methodLink RX0 56 yX3_copy, Cond.instanceMethod yX3_copy, Cond.selects RX3 yX3_copy yX3_copy, Cond.initialized RX3, Cond.code yX3_copy cX3_copy 3 none, Cond.fieldLink RX3 19 "BookedDetours$Row" "length" "I", Cond.fieldLink RX3 13 "BookedDetours$Row" "cells" "[I", Cond.methodLink RX3 27 Lib.Math.min.name, Cond.static Lib.Math.min.name, Cond.initialized "java/lang/Math", Cond.code Lib.Math.min.name Lib.Math.min.code 2 (some .int)]
def wsX6_undo : List Cond := .code yX6_undo cX6_undo 1 (some .int) :: ((wsX6_undo_r1 ++ wsX6_undo_r2) ++ wsX60 ++ wsX10 ++ wsX00 ++ wsX30)
def wsX6_save_r1 : List Cond := [Cond.fieldLink RX6 44 "BookedDetours" "slots" "[LBookedDetours$Day;", Cond.classLink RX6 9 RX0, Cond.instantiable RX0 15, Cond.initialized RX0, Cond.fieldLink RX6 12 "BookedDetours" "day" "LBookedDetours$Day;", Cond.fieldLink RX6 100 "BookedDetours$Day" "stands" "LBookedDetours$Row;", Cond.methodLink RX6 11 yX0_init, Cond.instanceMethod yX0_init, Cond.code yX0_init cX0_init 1 none, Cond.methodLink RX0 3 objectInit, Cond.instanceMethod objectInit, Cond.code objectInit ⟨#[0xb1]⟩ 1 none, Cond.classLink RX0 9 RX3, Cond.instantiable RX3 2, Cond.initialized RX3, Cond.fieldLink RX0 14 "BookedDetours$Day" "settings" "LBookedDetours$Row;", Cond.fieldLink RX0 20 "BookedDetours$Day" "xs" "LBookedDetours$Row;", Cond.fieldLink RX0 23 "BookedDetours$Day" "ys" "LBookedDetours$Row;", Cond.fieldLink RX0 26 "BookedDetours$Day" "froms" "LBookedDetours$Row;", Cond.fieldLink RX0 29 "BookedDetours$Day" "tos" "LBookedDetours$Row;", Cond.fieldLink RX0 32 "BookedDetours$Day" "waits" "LBookedDetours$Row;", Cond.fieldLink RX0 35 "BookedDetours$Day" "bys" "LBookedDetours$Row;", Cond.fieldLink RX0 38 "BookedDetours$Day" "straights" "LBookedDetours$Row;", Cond.fieldLink RX0 41 "BookedDetours$Day" "stands" "LBookedDetours$Row;"]
def wsX6_save_r2 : List Cond := [Cond.fieldLink RX0 44 "BookedDetours$Day" "picks" "LBookedDetours$Row;", Cond.fieldLink RX0 47 "BookedDetours$Day" "downs" "LBookedDetours$Row;", Cond.fieldLink RX0 50 "BookedDetours$Day" "route" "LBookedDetours$Row;", Cond.methodLink RX0 11 yX3_init, Cond.instanceMethod yX3_init, Cond.code yX3_init cX3_init 2 none, Cond.methodLink RX3 1 objectInit, Cond.methodLink RX3 7 Lib.Math.max.name, Cond.static Lib.Math.max.name, Cond.initialized "java/lang/Math", Cond.code Lib.Math.max.name Lib.Math.max.code 2 (some .int), Cond.arrayClass .int, Cond.fieldLink RX3 13 "BookedDetours$Row" "cells" "[I", Cond.methodLink RX0 53 yX3_add, Cond.instanceMethod yX3_add, Cond.selects RX3 yX3_add yX3_add, Cond.code yX3_add cX3_add 2 none, Cond.fieldLink RX3 19 "BookedDetours$Row" "length" "I", Cond.methodLink RX3 23 yX3_insert, Cond.instanceMethod yX3_insert, Cond.selects RX3 yX3_insert yX3_insert, Cond.code yX3_insert cX3_insert 4 none, Cond.methodLink RX6 93 yX0_copy, Cond.instanceMethod yX0_copy]
def wsX6_save_r3 : List Cond := [Cond.selects RX0 yX0_copy yX0_copy, Cond.code yX0_copy cX0_copy 2 none, Cond.fieldLink RX0 60 "BookedDetours$Day" "now" "I", Cond.fieldLink RX0 64 "BookedDetours$Day" "busStop" "I", Cond.fieldLink RX0 67 "BookedDetours$Day" "busFree" "I", Cond.methodLink RX0 56 yX3_copy, Cond.instanceMethod yX3_copy, Cond.selects RX3 yX3_copy yX3_copy, Cond.code yX3_copy cX3_copy 3 none, Cond.methodLink RX3 27 Lib.Math.min.name, Cond.static Lib.Math.min.name, Cond.code Lib.Math.min.name Lib.Math.min.code 2 (some .int), Cond.methodLink RX6 59 yX3_length, Cond.instanceMethod yX3_length, Cond.selects RX3 yX3_length yX3_length, Cond.code yX3_length cX3_length 1 (some .int)]
def wsX6_save : List Cond := .code yX6_save cX6_save 3 (some .int) :: ((wsX6_save_r1 ++ (wsX6_save_r2 ++ wsX6_save_r3)) ++ wsX60 ++ wsX00 ++ wsX30)
def wsX6_restore_r1 : List Cond := [Cond.fieldLink RX6 44 "BookedDetours" "slots" "[LBookedDetours$Day;", Cond.fieldLink RX6 40 "BookedDetours" "history" "LBookedDetours$History;", Cond.fieldLink RX6 12 "BookedDetours" "day" "LBookedDetours$Day;", Cond.fieldLink RX6 100 "BookedDetours$Day" "stands" "LBookedDetours$Row;", Cond.methodLink RX6 65 yX1_add, Cond.instanceMethod yX1_add, Cond.selects RX1 yX1_add yX1_add, Cond.initialized RX1, Cond.code yX1_add cX1_add 3 none, Cond.fieldLink RX1 17 "BookedDetours$History" "length" "I", Cond.fieldLink RX1 11 "BookedDetours$History" "days" "[LBookedDetours$Day;", Cond.classLink RX1 9 RX0, Cond.instantiable RX0 15, Cond.initialized RX0, Cond.methodLink RX1 21 yX1_dropOldest, Cond.instanceMethod yX1_dropOldest, Cond.selects RX1 yX1_dropOldest yX1_dropOldest, Cond.code yX1_dropOldest cX1_dropOldest 3 none, Cond.methodLink RX1 24 yX0_init, Cond.instanceMethod yX0_init, Cond.code yX0_init cX0_init 1 none, Cond.methodLink RX0 3 objectInit, Cond.instanceMethod objectInit, Cond.code objectInit ⟨#[0xb1]⟩ 1 none]
def wsX6_restore_r2 : List Cond := [Cond.classLink RX0 9 RX3, Cond.instantiable RX3 2, Cond.initialized RX3, Cond.fieldLink RX0 14 "BookedDetours$Day" "settings" "LBookedDetours$Row;", Cond.fieldLink RX0 20 "BookedDetours$Day" "xs" "LBookedDetours$Row;", Cond.fieldLink RX0 23 "BookedDetours$Day" "ys" "LBookedDetours$Row;", Cond.fieldLink RX0 26 "BookedDetours$Day" "froms" "LBookedDetours$Row;", Cond.fieldLink RX0 29 "BookedDetours$Day" "tos" "LBookedDetours$Row;", Cond.fieldLink RX0 32 "BookedDetours$Day" "waits" "LBookedDetours$Row;", Cond.fieldLink RX0 35 "BookedDetours$Day" "bys" "LBookedDetours$Row;", Cond.fieldLink RX0 38 "BookedDetours$Day" "straights" "LBookedDetours$Row;", Cond.fieldLink RX0 41 "BookedDetours$Day" "stands" "LBookedDetours$Row;", Cond.fieldLink RX0 44 "BookedDetours$Day" "picks" "LBookedDetours$Row;", Cond.fieldLink RX0 47 "BookedDetours$Day" "downs" "LBookedDetours$Row;", Cond.fieldLink RX0 50 "BookedDetours$Day" "route" "LBookedDetours$Row;", Cond.methodLink RX0 11 yX3_init, Cond.instanceMethod yX3_init, Cond.code yX3_init cX3_init 2 none, Cond.methodLink RX3 1 objectInit, Cond.methodLink RX3 7 Lib.Math.max.name, Cond.static Lib.Math.max.name, Cond.initialized "java/lang/Math", Cond.code Lib.Math.max.name Lib.Math.max.code 2 (some .int), Cond.arrayClass .int]
def wsX6_restore_r3 : List Cond := [Cond.fieldLink RX3 13 "BookedDetours$Row" "cells" "[I", Cond.methodLink RX0 53 yX3_add, Cond.instanceMethod yX3_add, Cond.selects RX3 yX3_add yX3_add, Cond.code yX3_add cX3_add 2 none, Cond.fieldLink RX3 19 "BookedDetours$Row" "length" "I", Cond.methodLink RX3 23 yX3_insert, Cond.instanceMethod yX3_insert, Cond.selects RX3 yX3_insert yX3_insert, Cond.code yX3_insert cX3_insert 4 none, Cond.methodLink RX1 25 yX0_copy, Cond.instanceMethod yX0_copy, Cond.selects RX0 yX0_copy yX0_copy, Cond.code yX0_copy cX0_copy 2 none, Cond.fieldLink RX0 60 "BookedDetours$Day" "now" "I", Cond.fieldLink RX0 64 "BookedDetours$Day" "busStop" "I", Cond.fieldLink RX0 67 "BookedDetours$Day" "busFree" "I", Cond.methodLink RX0 56 yX3_copy, Cond.instanceMethod yX3_copy, Cond.selects RX3 yX3_copy yX3_copy, Cond.code yX3_copy cX3_copy 3 none, Cond.methodLink RX3 27 Lib.Math.min.name, Cond.static Lib.Math.min.name, Cond.code Lib.Math.min.name Lib.Math.min.code 2 (some .int)]
def wsX6_restore_r4 : List Cond := [Cond.methodLink RX6 93 yX0_copy, Cond.methodLink RX6 59 yX3_length, Cond.instanceMethod yX3_length, Cond.selects RX3 yX3_length yX3_length, Cond.code yX3_length cX3_length 1 (some .int)]
def wsX6_restore : List Cond := .code yX6_restore cX6_restore 3 (some .int) :: ((wsX6_restore_r1 ++ (wsX6_restore_r2 ++ (wsX6_restore_r3 ++ wsX6_restore_r4))) ++ wsX60 ++ wsX00 ++ wsX10 ++ wsX30)
def wsX7_init : List Cond := .code yX7_init cX7_init 1 none :: ([.methodLink RX7 1 objectInit, .instanceMethod objectInit, .code objectInit ⟨#[0xb1]⟩ 1 none, .arrayClass .int, .fieldLink RX7 7 "BookedDetoursModel" "s" "[I", .fieldLink RX7 13 "BookedDetoursModel" "aside" "[I", .fieldLink RX7 16 "BookedDetoursModel" "undos" "[I", .fieldLink RX7 19 "BookedDetoursModel" "slots" "[I", .arrayClass .boolean, .fieldLink RX7 22 "BookedDetoursModel" "hasSlot" "[Z", .fieldLink RX7 26 "BookedDetoursModel" "pad" "[I", .fieldLink RX7 29 "BookedDetoursModel" "way" "[I", .fieldLink RX7 32 "BookedDetoursModel" "times" "[I", .fieldLink RX7 35 "BookedDetoursModel" "waits" "[I", .fieldLink RX7 38 "BookedDetoursModel" "aboards" "[I", .fieldLink RX7 41 "BookedDetoursModel" "told" "[I", .fieldLink RX7 44 "BookedDetoursModel" "thrown" "I"] ++ wsX70)
def wsX7_in : List Cond := .code yX7_in cX7_in 3 (some .boolean) :: ([])
def wsX7_isStop : List Cond := .code yX7_isStop cX7_isStop 2 (some .boolean) :: ([.fieldLink RX7 7 "BookedDetoursModel" "s" "[I", .methodLink RX7 48 yX7_in, .static yX7_in, .initialized RX7, .code yX7_in cX7_in 3 (some .boolean)] ++ wsX70)
def wsX7_isRide : List Cond := .code yX7_isRide cX7_isRide 2 (some .boolean) :: ([.fieldLink RX7 7 "BookedDetoursModel" "s" "[I", .methodLink RX7 48 yX7_in, .static yX7_in, .initialized RX7, .code yX7_in cX7_in 3 (some .boolean)] ++ wsX70)
def wsX7_of : List Cond := .code yX7_of cX7_of 3 (some .int) :: ([.fieldLink RX7 7 "BookedDetoursModel" "s" "[I"] ++ wsX70)
def wsX7_lay : List Cond := .code yX7_lay cX7_lay 4 none :: ([.fieldLink RX7 7 "BookedDetoursModel" "s" "[I"] ++ wsX70)
def wsX7_records : List Cond := .code yX7_records cX7_records 2 none :: ([.fieldLink RX7 52 "BookedDetoursModel" "undoMany" "I", .fieldLink RX7 16 "BookedDetoursModel" "undos" "[I", .fieldLink RX7 7 "BookedDetoursModel" "s" "[I"] ++ wsX70)
def wsX7_putAside : List Cond := .code yX7_putAside cX7_putAside 2 none :: ([.fieldLink RX7 13 "BookedDetoursModel" "aside" "[I", .fieldLink RX7 7 "BookedDetoursModel" "s" "[I"] ++ wsX70)
def wsX7_takeBack : List Cond := .code yX7_takeBack cX7_takeBack 2 none :: ([.fieldLink RX7 7 "BookedDetoursModel" "s" "[I", .fieldLink RX7 13 "BookedDetoursModel" "aside" "[I"] ++ wsX70)
def wsX7_apart : List Cond := .code yX7_apart cX7_apart 2 (some .int) :: ([])
def wsX7_drive : List Cond := .code yX7_drive cX7_drive 3 (some .int) :: ([.fieldLink RX7 7 "BookedDetoursModel" "s" "[I", .methodLink RX7 55 yX7_apart, .static yX7_apart, .initialized RX7, .code yX7_apart cX7_apart 2 (some .int)] ++ wsX70)
def wsX7_stopOf : List Cond := .code yX7_stopOf cX7_stopOf 2 (some .int) :: ([.methodLink RX7 59 yX7_of, .instanceMethod yX7_of, .selects RX7 yX7_of yX7_of, .initialized RX7, .code yX7_of cX7_of 3 (some .int), .fieldLink RX7 7 "BookedDetoursModel" "s" "[I"] ++ wsX70)
def wsX7_straight : List Cond := .code yX7_straight cX7_straight 2 (some .int) :: ([.methodLink RX7 59 yX7_of, .instanceMethod yX7_of, .selects RX7 yX7_of yX7_of, .initialized RX7, .code yX7_of cX7_of 3 (some .int), .fieldLink RX7 7 "BookedDetoursModel" "s" "[I", .methodLink RX7 62 yX7_drive, .instanceMethod yX7_drive, .selects RX7 yX7_drive yX7_drive, .code yX7_drive cX7_drive 3 (some .int), .methodLink RX7 55 yX7_apart, .static yX7_apart, .code yX7_apart cX7_apart 2 (some .int)] ++ wsX70)
def wsX7_aboardNow : List Cond := .code yX7_aboardNow cX7_aboardNow 3 (some .int) :: ([.fieldLink RX7 7 "BookedDetoursModel" "s" "[I", .methodLink RX7 59 yX7_of, .instanceMethod yX7_of, .selects RX7 yX7_of yX7_of, .initialized RX7, .code yX7_of cX7_of 3 (some .int)] ++ wsX70)
def wsX7_placeOf : List Cond := .code yX7_placeOf cX7_placeOf 3 (some .int) :: ([.fieldLink RX7 65 "BookedDetoursModel" "wayMany" "I", .fieldLink RX7 29 "BookedDetoursModel" "way" "[I"] ++ wsX70)
def wsX7_isInTime : List Cond := .code yX7_isInTime cX7_isInTime 5 (some .boolean) :: ([.fieldLink RX7 32 "BookedDetoursModel" "times" "[I", .fieldLink RX7 7 "BookedDetoursModel" "s" "[I", .methodLink RX7 90 yX7_placeOf, .instanceMethod yX7_placeOf, .selects RX7 yX7_placeOf yX7_placeOf, .initialized RX7, .code yX7_placeOf cX7_placeOf 3 (some .int), .fieldLink RX7 65 "BookedDetoursModel" "wayMany" "I", .fieldLink RX7 29 "BookedDetoursModel" "way" "[I", .methodLink RX7 59 yX7_of, .instanceMethod yX7_of, .selects RX7 yX7_of yX7_of, .code yX7_of cX7_of 3 (some .int), .methodLink RX7 93 yX7_straight, .instanceMethod yX7_straight, .selects RX7 yX7_straight yX7_straight, .code yX7_straight cX7_straight 2 (some .int), .methodLink RX7 62 yX7_drive, .instanceMethod yX7_drive, .selects RX7 yX7_drive yX7_drive, .code yX7_drive cX7_drive 3 (some .int), .methodLink RX7 55 yX7_apart, .static yX7_apart, .code yX7_apart cX7_apart 2 (some .int)] ++ wsX70)
def wsX7_drives_r1 : List Cond := [Cond.fieldLink RX7 7 "BookedDetoursModel" "s" "[I", Cond.fieldLink RX7 72 "BookedDetoursModel" "driven" "I", Cond.fieldLink RX7 75 "BookedDetoursModel" "isKept" "Z", Cond.fieldLink RX7 65 "BookedDetoursModel" "wayMany" "I", Cond.fieldLink RX7 29 "BookedDetoursModel" "way" "[I", Cond.fieldLink RX7 35 "BookedDetoursModel" "waits" "[I", Cond.fieldLink RX7 32 "BookedDetoursModel" "times" "[I", Cond.fieldLink RX7 38 "BookedDetoursModel" "aboards" "[I", Cond.fieldLink RX7 87 "BookedDetoursModel" "over" "I", Cond.methodLink RX7 68 yX7_aboardNow, Cond.instanceMethod yX7_aboardNow, Cond.selects RX7 yX7_aboardNow yX7_aboardNow, Cond.initialized RX7, Cond.code yX7_aboardNow cX7_aboardNow 3 (some .int), Cond.methodLink RX7 59 yX7_of, Cond.instanceMethod yX7_of, Cond.selects RX7 yX7_of yX7_of, Cond.code yX7_of cX7_of 3 (some .int), Cond.methodLink RX7 79 yX7_stopOf, Cond.instanceMethod yX7_stopOf, Cond.selects RX7 yX7_stopOf yX7_stopOf, Cond.code yX7_stopOf cX7_stopOf 2 (some .int), Cond.methodLink RX7 62 yX7_drive, Cond.instanceMethod yX7_drive]
def wsX7_drives_r2 : List Cond := [Cond.selects RX7 yX7_drive yX7_drive, Cond.code yX7_drive cX7_drive 3 (some .int), Cond.methodLink RX7 55 yX7_apart, Cond.static yX7_apart, Cond.code yX7_apart cX7_apart 2 (some .int), Cond.methodLink RX7 83 yX7_isInTime, Cond.instanceMethod yX7_isInTime, Cond.selects RX7 yX7_isInTime yX7_isInTime, Cond.code yX7_isInTime cX7_isInTime 5 (some .boolean), Cond.methodLink RX7 90 yX7_placeOf, Cond.instanceMethod yX7_placeOf, Cond.selects RX7 yX7_placeOf yX7_placeOf, Cond.code yX7_placeOf cX7_placeOf 3 (some .int), Cond.methodLink RX7 93 yX7_straight, Cond.instanceMethod yX7_straight, Cond.selects RX7 yX7_straight yX7_straight, Cond.code yX7_straight cX7_straight 2 (some .int)]
def wsX7_drives : List Cond := .code yX7_drives cX7_drives 8 none :: ((wsX7_drives_r1 ++ wsX7_drives_r2) ++ wsX70)
def wsX7_laysRoute : List Cond := .code yX7_laysRoute cX7_laysRoute 2 none :: ([.fieldLink RX7 7 "BookedDetoursModel" "s" "[I", .fieldLink RX7 65 "BookedDetoursModel" "wayMany" "I", .fieldLink RX7 29 "BookedDetoursModel" "way" "[I"] ++ wsX70)
def wsX7_drivesRoute_r1 : List Cond := [Cond.fieldLink RX7 7 "BookedDetoursModel" "s" "[I", Cond.methodLink RX7 96 yX7_laysRoute, Cond.instanceMethod yX7_laysRoute, Cond.selects RX7 yX7_laysRoute yX7_laysRoute, Cond.initialized RX7, Cond.code yX7_laysRoute cX7_laysRoute 2 none, Cond.fieldLink RX7 65 "BookedDetoursModel" "wayMany" "I", Cond.fieldLink RX7 29 "BookedDetoursModel" "way" "[I", Cond.methodLink RX7 99 yX7_drives, Cond.instanceMethod yX7_drives, Cond.selects RX7 yX7_drives yX7_drives, Cond.code yX7_drives cX7_drives 8 none, Cond.fieldLink RX7 72 "BookedDetoursModel" "driven" "I", Cond.fieldLink RX7 75 "BookedDetoursModel" "isKept" "Z", Cond.fieldLink RX7 35 "BookedDetoursModel" "waits" "[I", Cond.fieldLink RX7 32 "BookedDetoursModel" "times" "[I", Cond.fieldLink RX7 38 "BookedDetoursModel" "aboards" "[I", Cond.fieldLink RX7 87 "BookedDetoursModel" "over" "I", Cond.methodLink RX7 68 yX7_aboardNow, Cond.instanceMethod yX7_aboardNow, Cond.selects RX7 yX7_aboardNow yX7_aboardNow, Cond.code yX7_aboardNow cX7_aboardNow 3 (some .int), Cond.methodLink RX7 59 yX7_of, Cond.instanceMethod yX7_of]
def wsX7_drivesRoute_r2 : List Cond := [Cond.selects RX7 yX7_of yX7_of, Cond.code yX7_of cX7_of 3 (some .int), Cond.methodLink RX7 79 yX7_stopOf, Cond.instanceMethod yX7_stopOf, Cond.selects RX7 yX7_stopOf yX7_stopOf, Cond.code yX7_stopOf cX7_stopOf 2 (some .int), Cond.methodLink RX7 62 yX7_drive, Cond.instanceMethod yX7_drive, Cond.selects RX7 yX7_drive yX7_drive, Cond.code yX7_drive cX7_drive 3 (some .int), Cond.methodLink RX7 55 yX7_apart, Cond.static yX7_apart, Cond.code yX7_apart cX7_apart 2 (some .int), Cond.methodLink RX7 83 yX7_isInTime, Cond.instanceMethod yX7_isInTime, Cond.selects RX7 yX7_isInTime yX7_isInTime, Cond.code yX7_isInTime cX7_isInTime 5 (some .boolean), Cond.methodLink RX7 90 yX7_placeOf, Cond.instanceMethod yX7_placeOf, Cond.selects RX7 yX7_placeOf yX7_placeOf, Cond.code yX7_placeOf cX7_placeOf 3 (some .int), Cond.methodLink RX7 93 yX7_straight, Cond.instanceMethod yX7_straight, Cond.selects RX7 yX7_straight yX7_straight]
def wsX7_drivesRoute_r3 : List Cond := [Cond.code yX7_straight cX7_straight 2 (some .int)]
def wsX7_drivesRoute : List Cond := .code yX7_drivesRoute cX7_drivesRoute 1 none :: ((wsX7_drivesRoute_r1 ++ (wsX7_drivesRoute_r2 ++ wsX7_drivesRoute_r3)) ++ wsX70)
def wsX7_isOnWay : List Cond := .code yX7_isOnWay cX7_isOnWay 1 (some .boolean) :: ([.fieldLink RX7 7 "BookedDetoursModel" "s" "[I"] ++ wsX70)
def wsX7_leaving : List Cond := .code yX7_leaving cX7_leaving 1 (some .int) :: ([.fieldLink RX7 7 "BookedDetoursModel" "s" "[I"] ++ wsX70)
def wsX7_laysWay : List Cond := .code yX7_laysWay cX7_laysWay 6 none :: ([.fieldLink RX7 65 "BookedDetoursModel" "wayMany" "I", .fieldLink RX7 7 "BookedDetoursModel" "s" "[I", .fieldLink RX7 29 "BookedDetoursModel" "way" "[I"] ++ wsX70)
def wsX7_laysRide : List Cond := .code yX7_laysRide cX7_laysRide 6 (some .int) :: ([.fieldLink RX7 7 "BookedDetoursModel" "s" "[I", .methodLink RX7 103 yX7_lay, .instanceMethod yX7_lay, .selects RX7 yX7_lay yX7_lay, .initialized RX7, .code yX7_lay cX7_lay 4 none] ++ wsX70)
def wsX7_findsWay_r1 : List Cond := [Cond.fieldLink RX7 107 "BookedDetoursModel" "wayCount" "I", Cond.fieldLink RX7 110 "BookedDetoursModel" "bestOver" "I", Cond.fieldLink RX7 113 "BookedDetoursModel" "leastDown" "I", Cond.fieldLink RX7 7 "BookedDetoursModel" "s" "[I", Cond.fieldLink RX7 75 "BookedDetoursModel" "isKept" "Z", Cond.fieldLink RX7 32 "BookedDetoursModel" "times" "[I", Cond.fieldLink RX7 87 "BookedDetoursModel" "over" "I", Cond.fieldLink RX7 126 "BookedDetoursModel" "bestPick" "I", Cond.fieldLink RX7 129 "BookedDetoursModel" "bestSet" "I", Cond.methodLink RX7 116 yX7_leaving, Cond.instanceMethod yX7_leaving, Cond.selects RX7 yX7_leaving yX7_leaving, Cond.initialized RX7, Cond.code yX7_leaving cX7_leaving 1 (some .int), Cond.methodLink RX7 119 yX7_isOnWay, Cond.instanceMethod yX7_isOnWay, Cond.selects RX7 yX7_isOnWay yX7_isOnWay, Cond.code yX7_isOnWay cX7_isOnWay 1 (some .boolean), Cond.methodLink RX7 123 yX7_laysWay, Cond.instanceMethod yX7_laysWay, Cond.selects RX7 yX7_laysWay yX7_laysWay, Cond.code yX7_laysWay cX7_laysWay 6 none, Cond.fieldLink RX7 65 "BookedDetoursModel" "wayMany" "I", Cond.fieldLink RX7 29 "BookedDetoursModel" "way" "[I"]
def wsX7_findsWay_r2 : List Cond := [Cond.methodLink RX7 99 yX7_drives, Cond.instanceMethod yX7_drives, Cond.selects RX7 yX7_drives yX7_drives, Cond.code yX7_drives cX7_drives 8 none, Cond.fieldLink RX7 72 "BookedDetoursModel" "driven" "I", Cond.fieldLink RX7 35 "BookedDetoursModel" "waits" "[I", Cond.fieldLink RX7 38 "BookedDetoursModel" "aboards" "[I", Cond.methodLink RX7 68 yX7_aboardNow, Cond.instanceMethod yX7_aboardNow, Cond.selects RX7 yX7_aboardNow yX7_aboardNow, Cond.code yX7_aboardNow cX7_aboardNow 3 (some .int), Cond.methodLink RX7 59 yX7_of, Cond.instanceMethod yX7_of, Cond.selects RX7 yX7_of yX7_of, Cond.code yX7_of cX7_of 3 (some .int), Cond.methodLink RX7 79 yX7_stopOf, Cond.instanceMethod yX7_stopOf, Cond.selects RX7 yX7_stopOf yX7_stopOf, Cond.code yX7_stopOf cX7_stopOf 2 (some .int), Cond.methodLink RX7 62 yX7_drive, Cond.instanceMethod yX7_drive, Cond.selects RX7 yX7_drive yX7_drive, Cond.code yX7_drive cX7_drive 3 (some .int), Cond.methodLink RX7 55 yX7_apart]
def wsX7_findsWay_r3 : List Cond := [Cond.static yX7_apart, Cond.code yX7_apart cX7_apart 2 (some .int), Cond.methodLink RX7 83 yX7_isInTime, Cond.instanceMethod yX7_isInTime, Cond.selects RX7 yX7_isInTime yX7_isInTime, Cond.code yX7_isInTime cX7_isInTime 5 (some .boolean), Cond.methodLink RX7 90 yX7_placeOf, Cond.instanceMethod yX7_placeOf, Cond.selects RX7 yX7_placeOf yX7_placeOf, Cond.code yX7_placeOf cX7_placeOf 3 (some .int), Cond.methodLink RX7 93 yX7_straight, Cond.instanceMethod yX7_straight, Cond.selects RX7 yX7_straight yX7_straight, Cond.code yX7_straight cX7_straight 2 (some .int)]
def wsX7_findsWay : List Cond := .code yX7_findsWay cX7_findsWay 5 (some .boolean) :: ((wsX7_findsWay_r1 ++ (wsX7_findsWay_r2 ++ wsX7_findsWay_r3)) ++ wsX70)
def wsX7_refuses : List Cond := .code yX7_refuses cX7_refuses 5 (some .int) :: ([.methodLink RX7 132 yX7_isStop, .instanceMethod yX7_isStop, .selects RX7 yX7_isStop yX7_isStop, .initialized RX7, .code yX7_isStop cX7_isStop 2 (some .boolean), .fieldLink RX7 7 "BookedDetoursModel" "s" "[I", .methodLink RX7 48 yX7_in, .static yX7_in, .code yX7_in cX7_in 3 (some .boolean)] ++ wsX70)
def wsX7_refusesBook_r1 : List Cond := [Cond.fieldLink RX7 7 "BookedDetoursModel" "s" "[I", Cond.methodLink RX7 136 yX7_refuses, Cond.instanceMethod yX7_refuses, Cond.selects RX7 yX7_refuses yX7_refuses, Cond.initialized RX7, Cond.code yX7_refuses cX7_refuses 5 (some .int), Cond.methodLink RX7 132 yX7_isStop, Cond.instanceMethod yX7_isStop, Cond.selects RX7 yX7_isStop yX7_isStop, Cond.code yX7_isStop cX7_isStop 2 (some .boolean), Cond.methodLink RX7 48 yX7_in, Cond.static yX7_in, Cond.code yX7_in cX7_in 3 (some .boolean), Cond.methodLink RX7 140 yX7_laysRide, Cond.instanceMethod yX7_laysRide, Cond.selects RX7 yX7_laysRide yX7_laysRide, Cond.code yX7_laysRide cX7_laysRide 6 (some .int), Cond.methodLink RX7 103 yX7_lay, Cond.instanceMethod yX7_lay, Cond.selects RX7 yX7_lay yX7_lay, Cond.code yX7_lay cX7_lay 4 none, Cond.methodLink RX7 143 yX7_findsWay, Cond.instanceMethod yX7_findsWay, Cond.selects RX7 yX7_findsWay yX7_findsWay]
def wsX7_refusesBook_r2 : List Cond := [Cond.code yX7_findsWay cX7_findsWay 5 (some .boolean), Cond.fieldLink RX7 107 "BookedDetoursModel" "wayCount" "I", Cond.fieldLink RX7 110 "BookedDetoursModel" "bestOver" "I", Cond.fieldLink RX7 113 "BookedDetoursModel" "leastDown" "I", Cond.fieldLink RX7 75 "BookedDetoursModel" "isKept" "Z", Cond.fieldLink RX7 32 "BookedDetoursModel" "times" "[I", Cond.fieldLink RX7 87 "BookedDetoursModel" "over" "I", Cond.fieldLink RX7 126 "BookedDetoursModel" "bestPick" "I", Cond.fieldLink RX7 129 "BookedDetoursModel" "bestSet" "I", Cond.methodLink RX7 116 yX7_leaving, Cond.instanceMethod yX7_leaving, Cond.selects RX7 yX7_leaving yX7_leaving, Cond.code yX7_leaving cX7_leaving 1 (some .int), Cond.methodLink RX7 119 yX7_isOnWay, Cond.instanceMethod yX7_isOnWay, Cond.selects RX7 yX7_isOnWay yX7_isOnWay, Cond.code yX7_isOnWay cX7_isOnWay 1 (some .boolean), Cond.methodLink RX7 123 yX7_laysWay, Cond.instanceMethod yX7_laysWay, Cond.selects RX7 yX7_laysWay yX7_laysWay, Cond.code yX7_laysWay cX7_laysWay 6 none, Cond.fieldLink RX7 65 "BookedDetoursModel" "wayMany" "I", Cond.fieldLink RX7 29 "BookedDetoursModel" "way" "[I", Cond.methodLink RX7 99 yX7_drives]
def wsX7_refusesBook_r3 : List Cond := [Cond.instanceMethod yX7_drives, Cond.selects RX7 yX7_drives yX7_drives, Cond.code yX7_drives cX7_drives 8 none, Cond.fieldLink RX7 72 "BookedDetoursModel" "driven" "I", Cond.fieldLink RX7 35 "BookedDetoursModel" "waits" "[I", Cond.fieldLink RX7 38 "BookedDetoursModel" "aboards" "[I", Cond.methodLink RX7 68 yX7_aboardNow, Cond.instanceMethod yX7_aboardNow, Cond.selects RX7 yX7_aboardNow yX7_aboardNow, Cond.code yX7_aboardNow cX7_aboardNow 3 (some .int), Cond.methodLink RX7 59 yX7_of, Cond.instanceMethod yX7_of, Cond.selects RX7 yX7_of yX7_of, Cond.code yX7_of cX7_of 3 (some .int), Cond.methodLink RX7 79 yX7_stopOf, Cond.instanceMethod yX7_stopOf, Cond.selects RX7 yX7_stopOf yX7_stopOf, Cond.code yX7_stopOf cX7_stopOf 2 (some .int), Cond.methodLink RX7 62 yX7_drive, Cond.instanceMethod yX7_drive, Cond.selects RX7 yX7_drive yX7_drive, Cond.code yX7_drive cX7_drive 3 (some .int), Cond.methodLink RX7 55 yX7_apart, Cond.static yX7_apart]
def wsX7_refusesBook_r4 : List Cond := [Cond.code yX7_apart cX7_apart 2 (some .int), Cond.methodLink RX7 83 yX7_isInTime, Cond.instanceMethod yX7_isInTime, Cond.selects RX7 yX7_isInTime yX7_isInTime, Cond.code yX7_isInTime cX7_isInTime 5 (some .boolean), Cond.methodLink RX7 90 yX7_placeOf, Cond.instanceMethod yX7_placeOf, Cond.selects RX7 yX7_placeOf yX7_placeOf, Cond.code yX7_placeOf cX7_placeOf 3 (some .int), Cond.methodLink RX7 93 yX7_straight, Cond.instanceMethod yX7_straight, Cond.selects RX7 yX7_straight yX7_straight, Cond.code yX7_straight cX7_straight 2 (some .int)]
def wsX7_refusesBook : List Cond := .code yX7_refusesBook cX7_refusesBook 6 (some .int) :: ((wsX7_refusesBook_r1 ++ (wsX7_refusesBook_r2 ++ (wsX7_refusesBook_r3 ++ wsX7_refusesBook_r4))) ++ wsX70)
def wsX7_books : List Cond := .code yX7_books cX7_books 2 (some .int) :: ([.fieldLink RX7 7 "BookedDetoursModel" "s" "[I", .fieldLink RX7 126 "BookedDetoursModel" "bestPick" "I", .fieldLink RX7 129 "BookedDetoursModel" "bestSet" "I", .fieldLink RX7 65 "BookedDetoursModel" "wayMany" "I", .fieldLink RX7 29 "BookedDetoursModel" "way" "[I", .methodLink RX7 123 yX7_laysWay, .instanceMethod yX7_laysWay, .selects RX7 yX7_laysWay yX7_laysWay, .initialized RX7, .code yX7_laysWay cX7_laysWay 6 none, .methodLink RX7 116 yX7_leaving, .instanceMethod yX7_leaving, .selects RX7 yX7_leaving yX7_leaving, .code yX7_leaving cX7_leaving 1 (some .int)] ++ wsX70)
def wsX7_book_r1 : List Cond := [Cond.fieldLink RX7 44 "BookedDetoursModel" "thrown" "I", Cond.methodLink RX7 146 yX7_refusesBook, Cond.instanceMethod yX7_refusesBook, Cond.selects RX7 yX7_refusesBook yX7_refusesBook, Cond.initialized RX7, Cond.code yX7_refusesBook cX7_refusesBook 6 (some .int), Cond.fieldLink RX7 7 "BookedDetoursModel" "s" "[I", Cond.methodLink RX7 136 yX7_refuses, Cond.instanceMethod yX7_refuses, Cond.selects RX7 yX7_refuses yX7_refuses, Cond.code yX7_refuses cX7_refuses 5 (some .int), Cond.methodLink RX7 132 yX7_isStop, Cond.instanceMethod yX7_isStop, Cond.selects RX7 yX7_isStop yX7_isStop, Cond.code yX7_isStop cX7_isStop 2 (some .boolean), Cond.methodLink RX7 48 yX7_in, Cond.static yX7_in, Cond.code yX7_in cX7_in 3 (some .boolean), Cond.methodLink RX7 140 yX7_laysRide, Cond.instanceMethod yX7_laysRide, Cond.selects RX7 yX7_laysRide yX7_laysRide, Cond.code yX7_laysRide cX7_laysRide 6 (some .int), Cond.methodLink RX7 103 yX7_lay, Cond.instanceMethod yX7_lay]
def wsX7_book_r2 : List Cond := [Cond.selects RX7 yX7_lay yX7_lay, Cond.code yX7_lay cX7_lay 4 none, Cond.methodLink RX7 143 yX7_findsWay, Cond.instanceMethod yX7_findsWay, Cond.selects RX7 yX7_findsWay yX7_findsWay, Cond.code yX7_findsWay cX7_findsWay 5 (some .boolean), Cond.fieldLink RX7 107 "BookedDetoursModel" "wayCount" "I", Cond.fieldLink RX7 110 "BookedDetoursModel" "bestOver" "I", Cond.fieldLink RX7 113 "BookedDetoursModel" "leastDown" "I", Cond.fieldLink RX7 75 "BookedDetoursModel" "isKept" "Z", Cond.fieldLink RX7 32 "BookedDetoursModel" "times" "[I", Cond.fieldLink RX7 87 "BookedDetoursModel" "over" "I", Cond.fieldLink RX7 126 "BookedDetoursModel" "bestPick" "I", Cond.fieldLink RX7 129 "BookedDetoursModel" "bestSet" "I", Cond.methodLink RX7 116 yX7_leaving, Cond.instanceMethod yX7_leaving, Cond.selects RX7 yX7_leaving yX7_leaving, Cond.code yX7_leaving cX7_leaving 1 (some .int), Cond.methodLink RX7 119 yX7_isOnWay, Cond.instanceMethod yX7_isOnWay, Cond.selects RX7 yX7_isOnWay yX7_isOnWay, Cond.code yX7_isOnWay cX7_isOnWay 1 (some .boolean), Cond.methodLink RX7 123 yX7_laysWay, Cond.instanceMethod yX7_laysWay]
def wsX7_book_r3 : List Cond := [Cond.selects RX7 yX7_laysWay yX7_laysWay, Cond.code yX7_laysWay cX7_laysWay 6 none, Cond.fieldLink RX7 65 "BookedDetoursModel" "wayMany" "I", Cond.fieldLink RX7 29 "BookedDetoursModel" "way" "[I", Cond.methodLink RX7 99 yX7_drives, Cond.instanceMethod yX7_drives, Cond.selects RX7 yX7_drives yX7_drives, Cond.code yX7_drives cX7_drives 8 none, Cond.fieldLink RX7 72 "BookedDetoursModel" "driven" "I", Cond.fieldLink RX7 35 "BookedDetoursModel" "waits" "[I", Cond.fieldLink RX7 38 "BookedDetoursModel" "aboards" "[I", Cond.methodLink RX7 68 yX7_aboardNow, Cond.instanceMethod yX7_aboardNow, Cond.selects RX7 yX7_aboardNow yX7_aboardNow, Cond.code yX7_aboardNow cX7_aboardNow 3 (some .int), Cond.methodLink RX7 59 yX7_of, Cond.instanceMethod yX7_of, Cond.selects RX7 yX7_of yX7_of, Cond.code yX7_of cX7_of 3 (some .int), Cond.methodLink RX7 79 yX7_stopOf, Cond.instanceMethod yX7_stopOf, Cond.selects RX7 yX7_stopOf yX7_stopOf, Cond.code yX7_stopOf cX7_stopOf 2 (some .int), Cond.methodLink RX7 62 yX7_drive]
def wsX7_book_r4 : List Cond := [Cond.instanceMethod yX7_drive, Cond.selects RX7 yX7_drive yX7_drive, Cond.code yX7_drive cX7_drive 3 (some .int), Cond.methodLink RX7 55 yX7_apart, Cond.static yX7_apart, Cond.code yX7_apart cX7_apart 2 (some .int), Cond.methodLink RX7 83 yX7_isInTime, Cond.instanceMethod yX7_isInTime, Cond.selects RX7 yX7_isInTime yX7_isInTime, Cond.code yX7_isInTime cX7_isInTime 5 (some .boolean), Cond.methodLink RX7 90 yX7_placeOf, Cond.instanceMethod yX7_placeOf, Cond.selects RX7 yX7_placeOf yX7_placeOf, Cond.code yX7_placeOf cX7_placeOf 3 (some .int), Cond.methodLink RX7 93 yX7_straight, Cond.instanceMethod yX7_straight, Cond.selects RX7 yX7_straight yX7_straight, Cond.code yX7_straight cX7_straight 2 (some .int), Cond.methodLink RX7 149 yX7_records, Cond.instanceMethod yX7_records, Cond.selects RX7 yX7_records yX7_records, Cond.code yX7_records cX7_records 2 none, Cond.fieldLink RX7 52 "BookedDetoursModel" "undoMany" "I", Cond.fieldLink RX7 16 "BookedDetoursModel" "undos" "[I"]
def wsX7_book_r5 : List Cond := [Cond.methodLink RX7 152 yX7_books, Cond.instanceMethod yX7_books, Cond.selects RX7 yX7_books yX7_books, Cond.code yX7_books cX7_books 2 (some .int)]
def wsX7_book : List Cond := .code yX7_book cX7_book 6 (some .int) :: ((wsX7_book_r1 ++ (wsX7_book_r2 ++ (wsX7_book_r3 ++ (wsX7_book_r4 ++ wsX7_book_r5)))) ++ wsX70)
def wsX7_set : List Cond := .code yX7_set cX7_set 5 (some .int) :: ([.fieldLink RX7 44 "BookedDetoursModel" "thrown" "I", .fieldLink RX7 7 "BookedDetoursModel" "s" "[I", .methodLink RX7 48 yX7_in, .static yX7_in, .initialized RX7, .code yX7_in cX7_in 3 (some .boolean), .methodLink RX7 149 yX7_records, .instanceMethod yX7_records, .selects RX7 yX7_records yX7_records, .code yX7_records cX7_records 2 none, .fieldLink RX7 52 "BookedDetoursModel" "undoMany" "I", .fieldLink RX7 16 "BookedDetoursModel" "undos" "[I"] ++ wsX70)
def wsX7_stop : List Cond := .code yX7_stop cX7_stop 3 (some .int) :: ([.fieldLink RX7 44 "BookedDetoursModel" "thrown" "I", .fieldLink RX7 7 "BookedDetoursModel" "s" "[I", .methodLink RX7 48 yX7_in, .static yX7_in, .initialized RX7, .code yX7_in cX7_in 3 (some .boolean), .methodLink RX7 149 yX7_records, .instanceMethod yX7_records, .selects RX7 yX7_records yX7_records, .code yX7_records cX7_records 2 none, .fieldLink RX7 52 "BookedDetoursModel" "undoMany" "I", .fieldLink RX7 16 "BookedDetoursModel" "undos" "[I"] ++ wsX70)
def wsX7_leaves : List Cond := .code yX7_leaves cX7_leaves 4 none :: ([.fieldLink RX7 7 "BookedDetoursModel" "s" "[I", .methodLink RX7 119 yX7_isOnWay, .instanceMethod yX7_isOnWay, .selects RX7 yX7_isOnWay yX7_isOnWay, .initialized RX7, .code yX7_isOnWay cX7_isOnWay 1 (some .boolean), .methodLink RX7 79 yX7_stopOf, .instanceMethod yX7_stopOf, .selects RX7 yX7_stopOf yX7_stopOf, .code yX7_stopOf cX7_stopOf 2 (some .int), .methodLink RX7 59 yX7_of, .instanceMethod yX7_of, .selects RX7 yX7_of yX7_of, .code yX7_of cX7_of 3 (some .int), .methodLink RX7 62 yX7_drive, .instanceMethod yX7_drive, .selects RX7 yX7_drive yX7_drive, .code yX7_drive cX7_drive 3 (some .int), .methodLink RX7 55 yX7_apart, .static yX7_apart, .code yX7_apart cX7_apart 2 (some .int)] ++ wsX70)
def wsX7_cancels_r1 : List Cond := [Cond.methodLink RX7 155 yX7_leaves, Cond.instanceMethod yX7_leaves, Cond.selects RX7 yX7_leaves yX7_leaves, Cond.initialized RX7, Cond.code yX7_leaves cX7_leaves 4 none, Cond.fieldLink RX7 7 "BookedDetoursModel" "s" "[I", Cond.methodLink RX7 119 yX7_isOnWay, Cond.instanceMethod yX7_isOnWay, Cond.selects RX7 yX7_isOnWay yX7_isOnWay, Cond.code yX7_isOnWay cX7_isOnWay 1 (some .boolean), Cond.methodLink RX7 79 yX7_stopOf, Cond.instanceMethod yX7_stopOf, Cond.selects RX7 yX7_stopOf yX7_stopOf, Cond.code yX7_stopOf cX7_stopOf 2 (some .int), Cond.methodLink RX7 59 yX7_of, Cond.instanceMethod yX7_of, Cond.selects RX7 yX7_of yX7_of, Cond.code yX7_of cX7_of 3 (some .int), Cond.methodLink RX7 62 yX7_drive, Cond.instanceMethod yX7_drive, Cond.selects RX7 yX7_drive yX7_drive, Cond.code yX7_drive cX7_drive 3 (some .int), Cond.methodLink RX7 55 yX7_apart, Cond.static yX7_apart]
def wsX7_cancels_r2 : List Cond := [Cond.code yX7_apart cX7_apart 2 (some .int), Cond.methodLink RX7 103 yX7_lay, Cond.instanceMethod yX7_lay, Cond.selects RX7 yX7_lay yX7_lay, Cond.code yX7_lay cX7_lay 4 none]
def wsX7_cancels : List Cond := .code yX7_cancels cX7_cancels 2 none :: ((wsX7_cancels_r1 ++ wsX7_cancels_r2) ++ wsX70)
def wsX7_cancel_r1 : List Cond := [Cond.fieldLink RX7 44 "BookedDetoursModel" "thrown" "I", Cond.fieldLink RX7 7 "BookedDetoursModel" "s" "[I", Cond.methodLink RX7 158 yX7_isRide, Cond.instanceMethod yX7_isRide, Cond.selects RX7 yX7_isRide yX7_isRide, Cond.initialized RX7, Cond.code yX7_isRide cX7_isRide 2 (some .boolean), Cond.methodLink RX7 48 yX7_in, Cond.static yX7_in, Cond.code yX7_in cX7_in 3 (some .boolean), Cond.methodLink RX7 59 yX7_of, Cond.instanceMethod yX7_of, Cond.selects RX7 yX7_of yX7_of, Cond.code yX7_of cX7_of 3 (some .int), Cond.methodLink RX7 149 yX7_records, Cond.instanceMethod yX7_records, Cond.selects RX7 yX7_records yX7_records, Cond.code yX7_records cX7_records 2 none, Cond.fieldLink RX7 52 "BookedDetoursModel" "undoMany" "I", Cond.fieldLink RX7 16 "BookedDetoursModel" "undos" "[I", Cond.methodLink RX7 161 yX7_cancels, Cond.instanceMethod yX7_cancels, Cond.selects RX7 yX7_cancels yX7_cancels, Cond.code yX7_cancels cX7_cancels 2 none]
def wsX7_cancel_r2 : List Cond := [Cond.methodLink RX7 155 yX7_leaves, Cond.instanceMethod yX7_leaves, Cond.selects RX7 yX7_leaves yX7_leaves, Cond.code yX7_leaves cX7_leaves 4 none, Cond.methodLink RX7 119 yX7_isOnWay, Cond.instanceMethod yX7_isOnWay, Cond.selects RX7 yX7_isOnWay yX7_isOnWay, Cond.code yX7_isOnWay cX7_isOnWay 1 (some .boolean), Cond.methodLink RX7 79 yX7_stopOf, Cond.instanceMethod yX7_stopOf, Cond.selects RX7 yX7_stopOf yX7_stopOf, Cond.code yX7_stopOf cX7_stopOf 2 (some .int), Cond.methodLink RX7 62 yX7_drive, Cond.instanceMethod yX7_drive, Cond.selects RX7 yX7_drive yX7_drive, Cond.code yX7_drive cX7_drive 3 (some .int), Cond.methodLink RX7 55 yX7_apart, Cond.static yX7_apart, Cond.code yX7_apart cX7_apart 2 (some .int), Cond.methodLink RX7 103 yX7_lay, Cond.instanceMethod yX7_lay, Cond.selects RX7 yX7_lay yX7_lay, Cond.code yX7_lay cX7_lay 4 none]
def wsX7_cancel : List Cond := .code yX7_cancel cX7_cancel 2 (some .int) :: ((wsX7_cancel_r1 ++ wsX7_cancel_r2) ++ wsX70)
def wsX7_miss_r1 : List Cond := [Cond.fieldLink RX7 44 "BookedDetoursModel" "thrown" "I", Cond.fieldLink RX7 7 "BookedDetoursModel" "s" "[I", Cond.methodLink RX7 158 yX7_isRide, Cond.instanceMethod yX7_isRide, Cond.selects RX7 yX7_isRide yX7_isRide, Cond.initialized RX7, Cond.code yX7_isRide cX7_isRide 2 (some .boolean), Cond.methodLink RX7 48 yX7_in, Cond.static yX7_in, Cond.code yX7_in cX7_in 3 (some .boolean), Cond.methodLink RX7 59 yX7_of, Cond.instanceMethod yX7_of, Cond.selects RX7 yX7_of yX7_of, Cond.code yX7_of cX7_of 3 (some .int), Cond.methodLink RX7 149 yX7_records, Cond.instanceMethod yX7_records, Cond.selects RX7 yX7_records yX7_records, Cond.code yX7_records cX7_records 2 none, Cond.fieldLink RX7 52 "BookedDetoursModel" "undoMany" "I", Cond.fieldLink RX7 16 "BookedDetoursModel" "undos" "[I", Cond.methodLink RX7 155 yX7_leaves, Cond.instanceMethod yX7_leaves, Cond.selects RX7 yX7_leaves yX7_leaves, Cond.code yX7_leaves cX7_leaves 4 none]
def wsX7_miss_r2 : List Cond := [Cond.methodLink RX7 119 yX7_isOnWay, Cond.instanceMethod yX7_isOnWay, Cond.selects RX7 yX7_isOnWay yX7_isOnWay, Cond.code yX7_isOnWay cX7_isOnWay 1 (some .boolean), Cond.methodLink RX7 79 yX7_stopOf, Cond.instanceMethod yX7_stopOf, Cond.selects RX7 yX7_stopOf yX7_stopOf, Cond.code yX7_stopOf cX7_stopOf 2 (some .int), Cond.methodLink RX7 62 yX7_drive, Cond.instanceMethod yX7_drive, Cond.selects RX7 yX7_drive yX7_drive, Cond.code yX7_drive cX7_drive 3 (some .int), Cond.methodLink RX7 55 yX7_apart, Cond.static yX7_apart, Cond.code yX7_apart cX7_apart 2 (some .int), Cond.methodLink RX7 103 yX7_lay, Cond.instanceMethod yX7_lay, Cond.selects RX7 yX7_lay yX7_lay, Cond.code yX7_lay cX7_lay 4 none]
def wsX7_miss : List Cond := .code yX7_miss cX7_miss 2 (some .int) :: ((wsX7_miss_r1 ++ wsX7_miss_r2) ++ wsX70)
def wsX7_visits : List Cond := .code yX7_visits cX7_visits 4 none :: ([.fieldLink RX7 7 "BookedDetoursModel" "s" "[I", .fieldLink RX7 32 "BookedDetoursModel" "times" "[I", .methodLink RX7 103 yX7_lay, .instanceMethod yX7_lay, .selects RX7 yX7_lay yX7_lay, .initialized RX7, .code yX7_lay cX7_lay 4 none, .methodLink RX7 79 yX7_stopOf, .instanceMethod yX7_stopOf, .selects RX7 yX7_stopOf yX7_stopOf, .code yX7_stopOf cX7_stopOf 2 (some .int), .methodLink RX7 59 yX7_of, .instanceMethod yX7_of, .selects RX7 yX7_of yX7_of, .code yX7_of cX7_of 3 (some .int)] ++ wsX70)
def wsX7_pass_r1 : List Cond := [Cond.fieldLink RX7 44 "BookedDetoursModel" "thrown" "I", Cond.fieldLink RX7 7 "BookedDetoursModel" "s" "[I", Cond.fieldLink RX7 32 "BookedDetoursModel" "times" "[I", Cond.methodLink RX7 149 yX7_records, Cond.instanceMethod yX7_records, Cond.selects RX7 yX7_records yX7_records, Cond.initialized RX7, Cond.code yX7_records cX7_records 2 none, Cond.fieldLink RX7 52 "BookedDetoursModel" "undoMany" "I", Cond.fieldLink RX7 16 "BookedDetoursModel" "undos" "[I", Cond.methodLink RX7 164 yX7_drivesRoute, Cond.instanceMethod yX7_drivesRoute, Cond.selects RX7 yX7_drivesRoute yX7_drivesRoute, Cond.code yX7_drivesRoute cX7_drivesRoute 1 none, Cond.methodLink RX7 96 yX7_laysRoute, Cond.instanceMethod yX7_laysRoute, Cond.selects RX7 yX7_laysRoute yX7_laysRoute, Cond.code yX7_laysRoute cX7_laysRoute 2 none, Cond.fieldLink RX7 65 "BookedDetoursModel" "wayMany" "I", Cond.fieldLink RX7 29 "BookedDetoursModel" "way" "[I", Cond.methodLink RX7 99 yX7_drives, Cond.instanceMethod yX7_drives, Cond.selects RX7 yX7_drives yX7_drives, Cond.code yX7_drives cX7_drives 8 none]
def wsX7_pass_r2 : List Cond := [Cond.fieldLink RX7 72 "BookedDetoursModel" "driven" "I", Cond.fieldLink RX7 75 "BookedDetoursModel" "isKept" "Z", Cond.fieldLink RX7 35 "BookedDetoursModel" "waits" "[I", Cond.fieldLink RX7 38 "BookedDetoursModel" "aboards" "[I", Cond.fieldLink RX7 87 "BookedDetoursModel" "over" "I", Cond.methodLink RX7 68 yX7_aboardNow, Cond.instanceMethod yX7_aboardNow, Cond.selects RX7 yX7_aboardNow yX7_aboardNow, Cond.code yX7_aboardNow cX7_aboardNow 3 (some .int), Cond.methodLink RX7 59 yX7_of, Cond.instanceMethod yX7_of, Cond.selects RX7 yX7_of yX7_of, Cond.code yX7_of cX7_of 3 (some .int), Cond.methodLink RX7 79 yX7_stopOf, Cond.instanceMethod yX7_stopOf, Cond.selects RX7 yX7_stopOf yX7_stopOf, Cond.code yX7_stopOf cX7_stopOf 2 (some .int), Cond.methodLink RX7 62 yX7_drive, Cond.instanceMethod yX7_drive, Cond.selects RX7 yX7_drive yX7_drive, Cond.code yX7_drive cX7_drive 3 (some .int), Cond.methodLink RX7 55 yX7_apart, Cond.static yX7_apart, Cond.code yX7_apart cX7_apart 2 (some .int)]
def wsX7_pass_r3 : List Cond := [Cond.methodLink RX7 83 yX7_isInTime, Cond.instanceMethod yX7_isInTime, Cond.selects RX7 yX7_isInTime yX7_isInTime, Cond.code yX7_isInTime cX7_isInTime 5 (some .boolean), Cond.methodLink RX7 90 yX7_placeOf, Cond.instanceMethod yX7_placeOf, Cond.selects RX7 yX7_placeOf yX7_placeOf, Cond.code yX7_placeOf cX7_placeOf 3 (some .int), Cond.methodLink RX7 93 yX7_straight, Cond.instanceMethod yX7_straight, Cond.selects RX7 yX7_straight yX7_straight, Cond.code yX7_straight cX7_straight 2 (some .int), Cond.methodLink RX7 167 yX7_visits, Cond.instanceMethod yX7_visits, Cond.selects RX7 yX7_visits yX7_visits, Cond.code yX7_visits cX7_visits 4 none, Cond.methodLink RX7 103 yX7_lay, Cond.instanceMethod yX7_lay, Cond.selects RX7 yX7_lay yX7_lay, Cond.code yX7_lay cX7_lay 4 none]
def wsX7_pass : List Cond := .code yX7_pass cX7_pass 3 (some .int) :: ((wsX7_pass_r1 ++ (wsX7_pass_r2 ++ wsX7_pass_r3)) ++ wsX70)
def wsX7_put : List Cond := .code yX7_put cX7_put 8 (some .int) :: ([.fieldLink RX7 44 "BookedDetoursModel" "thrown" "I", .constantLong RX7 170 (255), .fieldLink RX7 172 "BookedDetoursModel" "length" "I", .fieldLink RX7 26 "BookedDetoursModel" "pad" "[I", .methodLink RX7 48 yX7_in, .static yX7_in, .initialized RX7, .code yX7_in cX7_in 3 (some .boolean)] ++ wsX70)
def wsX7_wipe : List Cond := .code yX7_wipe cX7_wipe 2 (some .int) :: ([.fieldLink RX7 44 "BookedDetoursModel" "thrown" "I", .fieldLink RX7 172 "BookedDetoursModel" "length" "I"] ++ wsX70)
def wsX7_sign : List Cond := .code yX7_sign cX7_sign 1 (some .int) :: ([.fieldLink RX7 175 "BookedDetoursModel" "at" "I", .fieldLink RX7 172 "BookedDetoursModel" "length" "I", .fieldLink RX7 26 "BookedDetoursModel" "pad" "[I"] ++ wsX70)
def wsX7_wants : List Cond := .code yX7_wants cX7_wants 2 none :: ([.fieldLink RX7 178 "BookedDetoursModel" "isWell" "Z", .fieldLink RX7 175 "BookedDetoursModel" "at" "I", .methodLink RX7 181 yX7_sign, .instanceMethod yX7_sign, .selects RX7 yX7_sign yX7_sign, .initialized RX7, .code yX7_sign cX7_sign 1 (some .int), .fieldLink RX7 172 "BookedDetoursModel" "length" "I", .fieldLink RX7 26 "BookedDetoursModel" "pad" "[I"] ++ wsX70)
def wsX7_number : List Cond := .code yX7_number cX7_number 3 (some .int) :: ([.fieldLink RX7 178 "BookedDetoursModel" "isWell" "Z", .fieldLink RX7 175 "BookedDetoursModel" "at" "I", .methodLink RX7 181 yX7_sign, .instanceMethod yX7_sign, .selects RX7 yX7_sign yX7_sign, .initialized RX7, .code yX7_sign cX7_sign 1 (some .int), .fieldLink RX7 172 "BookedDetoursModel" "length" "I", .fieldLink RX7 26 "BookedDetoursModel" "pad" "[I", .methodLink RX7 48 yX7_in, .static yX7_in, .code yX7_in cX7_in 3 (some .boolean)] ++ wsX70)
def wsX7_readsBooking : List Cond := .code yX7_readsBooking cX7_readsBooking 5 none :: ([.fieldLink RX7 178 "BookedDetoursModel" "isWell" "Z", .fieldLink RX7 41 "BookedDetoursModel" "told" "[I", .fieldLink RX7 190 "BookedDetoursModel" "toldMany" "I", .methodLink RX7 184 yX7_number, .instanceMethod yX7_number, .selects RX7 yX7_number yX7_number, .initialized RX7, .code yX7_number cX7_number 3 (some .int), .fieldLink RX7 175 "BookedDetoursModel" "at" "I", .methodLink RX7 181 yX7_sign, .instanceMethod yX7_sign, .selects RX7 yX7_sign yX7_sign, .code yX7_sign cX7_sign 1 (some .int), .fieldLink RX7 172 "BookedDetoursModel" "length" "I", .fieldLink RX7 26 "BookedDetoursModel" "pad" "[I", .methodLink RX7 48 yX7_in, .static yX7_in, .code yX7_in cX7_in 3 (some .boolean), .methodLink RX7 187 yX7_wants, .instanceMethod yX7_wants, .selects RX7 yX7_wants yX7_wants, .code yX7_wants cX7_wants 2 none] ++ wsX70)
def wsX7_reads_r1 : List Cond := [Cond.fieldLink RX7 175 "BookedDetoursModel" "at" "I", Cond.fieldLink RX7 178 "BookedDetoursModel" "isWell" "Z", Cond.fieldLink RX7 190 "BookedDetoursModel" "toldMany" "I", Cond.fieldLink RX7 172 "BookedDetoursModel" "length" "I", Cond.methodLink RX7 193 yX7_readsBooking, Cond.instanceMethod yX7_readsBooking, Cond.selects RX7 yX7_readsBooking yX7_readsBooking, Cond.initialized RX7, Cond.code yX7_readsBooking cX7_readsBooking 5 none, Cond.fieldLink RX7 41 "BookedDetoursModel" "told" "[I", Cond.methodLink RX7 184 yX7_number, Cond.instanceMethod yX7_number, Cond.selects RX7 yX7_number yX7_number, Cond.code yX7_number cX7_number 3 (some .int), Cond.methodLink RX7 181 yX7_sign, Cond.instanceMethod yX7_sign, Cond.selects RX7 yX7_sign yX7_sign, Cond.code yX7_sign cX7_sign 1 (some .int), Cond.fieldLink RX7 26 "BookedDetoursModel" "pad" "[I", Cond.methodLink RX7 48 yX7_in, Cond.static yX7_in, Cond.code yX7_in cX7_in 3 (some .boolean), Cond.methodLink RX7 187 yX7_wants, Cond.instanceMethod yX7_wants]
def wsX7_reads_r2 : List Cond := [Cond.selects RX7 yX7_wants yX7_wants, Cond.code yX7_wants cX7_wants 2 none]
def wsX7_reads : List Cond := .code yX7_reads cX7_reads 1 (some .int) :: ((wsX7_reads_r1 ++ wsX7_reads_r2) ++ wsX70)
def wsX7_fault_r1 : List Cond := [Cond.fieldLink RX7 44 "BookedDetoursModel" "thrown" "I", Cond.methodLink RX7 196 yX7_reads, Cond.instanceMethod yX7_reads, Cond.selects RX7 yX7_reads yX7_reads, Cond.initialized RX7, Cond.code yX7_reads cX7_reads 1 (some .int), Cond.fieldLink RX7 175 "BookedDetoursModel" "at" "I", Cond.fieldLink RX7 178 "BookedDetoursModel" "isWell" "Z", Cond.fieldLink RX7 190 "BookedDetoursModel" "toldMany" "I", Cond.fieldLink RX7 172 "BookedDetoursModel" "length" "I", Cond.methodLink RX7 193 yX7_readsBooking, Cond.instanceMethod yX7_readsBooking, Cond.selects RX7 yX7_readsBooking yX7_readsBooking, Cond.code yX7_readsBooking cX7_readsBooking 5 none, Cond.fieldLink RX7 41 "BookedDetoursModel" "told" "[I", Cond.methodLink RX7 184 yX7_number, Cond.instanceMethod yX7_number, Cond.selects RX7 yX7_number yX7_number, Cond.code yX7_number cX7_number 3 (some .int), Cond.methodLink RX7 181 yX7_sign, Cond.instanceMethod yX7_sign, Cond.selects RX7 yX7_sign yX7_sign, Cond.code yX7_sign cX7_sign 1 (some .int), Cond.fieldLink RX7 26 "BookedDetoursModel" "pad" "[I"]
def wsX7_fault_r2 : List Cond := [Cond.methodLink RX7 48 yX7_in, Cond.static yX7_in, Cond.code yX7_in cX7_in 3 (some .boolean), Cond.methodLink RX7 187 yX7_wants, Cond.instanceMethod yX7_wants, Cond.selects RX7 yX7_wants yX7_wants, Cond.code yX7_wants cX7_wants 2 none]
def wsX7_fault : List Cond := .code yX7_fault cX7_fault 1 (some .int) :: ((wsX7_fault_r1 ++ wsX7_fault_r2) ++ wsX70)
def wsX7_bookAll_r1 : List Cond := [Cond.fieldLink RX7 44 "BookedDetoursModel" "thrown" "I", Cond.fieldLink RX7 172 "BookedDetoursModel" "length" "I", Cond.fieldLink RX7 190 "BookedDetoursModel" "toldMany" "I", Cond.fieldLink RX7 41 "BookedDetoursModel" "told" "[I", Cond.methodLink RX7 196 yX7_reads, Cond.instanceMethod yX7_reads, Cond.selects RX7 yX7_reads yX7_reads, Cond.initialized RX7, Cond.code yX7_reads cX7_reads 1 (some .int), Cond.fieldLink RX7 175 "BookedDetoursModel" "at" "I", Cond.fieldLink RX7 178 "BookedDetoursModel" "isWell" "Z", Cond.methodLink RX7 193 yX7_readsBooking, Cond.instanceMethod yX7_readsBooking, Cond.selects RX7 yX7_readsBooking yX7_readsBooking, Cond.code yX7_readsBooking cX7_readsBooking 5 none, Cond.methodLink RX7 184 yX7_number, Cond.instanceMethod yX7_number, Cond.selects RX7 yX7_number yX7_number, Cond.code yX7_number cX7_number 3 (some .int), Cond.methodLink RX7 181 yX7_sign, Cond.instanceMethod yX7_sign, Cond.selects RX7 yX7_sign yX7_sign, Cond.code yX7_sign cX7_sign 1 (some .int), Cond.fieldLink RX7 26 "BookedDetoursModel" "pad" "[I"]
def wsX7_bookAll_r2 : List Cond := [Cond.methodLink RX7 48 yX7_in, Cond.static yX7_in, Cond.code yX7_in cX7_in 3 (some .boolean), Cond.methodLink RX7 187 yX7_wants, Cond.instanceMethod yX7_wants, Cond.selects RX7 yX7_wants yX7_wants, Cond.code yX7_wants cX7_wants 2 none, Cond.methodLink RX7 149 yX7_records, Cond.instanceMethod yX7_records, Cond.selects RX7 yX7_records yX7_records, Cond.code yX7_records cX7_records 2 none, Cond.fieldLink RX7 52 "BookedDetoursModel" "undoMany" "I", Cond.fieldLink RX7 16 "BookedDetoursModel" "undos" "[I", Cond.fieldLink RX7 7 "BookedDetoursModel" "s" "[I", Cond.methodLink RX7 146 yX7_refusesBook, Cond.instanceMethod yX7_refusesBook, Cond.selects RX7 yX7_refusesBook yX7_refusesBook, Cond.code yX7_refusesBook cX7_refusesBook 6 (some .int), Cond.methodLink RX7 136 yX7_refuses, Cond.instanceMethod yX7_refuses, Cond.selects RX7 yX7_refuses yX7_refuses, Cond.code yX7_refuses cX7_refuses 5 (some .int), Cond.methodLink RX7 132 yX7_isStop, Cond.instanceMethod yX7_isStop]
def wsX7_bookAll_r3 : List Cond := [Cond.selects RX7 yX7_isStop yX7_isStop, Cond.code yX7_isStop cX7_isStop 2 (some .boolean), Cond.methodLink RX7 140 yX7_laysRide, Cond.instanceMethod yX7_laysRide, Cond.selects RX7 yX7_laysRide yX7_laysRide, Cond.code yX7_laysRide cX7_laysRide 6 (some .int), Cond.methodLink RX7 103 yX7_lay, Cond.instanceMethod yX7_lay, Cond.selects RX7 yX7_lay yX7_lay, Cond.code yX7_lay cX7_lay 4 none, Cond.methodLink RX7 143 yX7_findsWay, Cond.instanceMethod yX7_findsWay, Cond.selects RX7 yX7_findsWay yX7_findsWay, Cond.code yX7_findsWay cX7_findsWay 5 (some .boolean), Cond.fieldLink RX7 107 "BookedDetoursModel" "wayCount" "I", Cond.fieldLink RX7 110 "BookedDetoursModel" "bestOver" "I", Cond.fieldLink RX7 113 "BookedDetoursModel" "leastDown" "I", Cond.fieldLink RX7 75 "BookedDetoursModel" "isKept" "Z", Cond.fieldLink RX7 32 "BookedDetoursModel" "times" "[I", Cond.fieldLink RX7 87 "BookedDetoursModel" "over" "I", Cond.fieldLink RX7 126 "BookedDetoursModel" "bestPick" "I", Cond.fieldLink RX7 129 "BookedDetoursModel" "bestSet" "I", Cond.methodLink RX7 116 yX7_leaving, Cond.instanceMethod yX7_leaving]
def wsX7_bookAll_r4 : List Cond := [Cond.selects RX7 yX7_leaving yX7_leaving, Cond.code yX7_leaving cX7_leaving 1 (some .int), Cond.methodLink RX7 119 yX7_isOnWay, Cond.instanceMethod yX7_isOnWay, Cond.selects RX7 yX7_isOnWay yX7_isOnWay, Cond.code yX7_isOnWay cX7_isOnWay 1 (some .boolean), Cond.methodLink RX7 123 yX7_laysWay, Cond.instanceMethod yX7_laysWay, Cond.selects RX7 yX7_laysWay yX7_laysWay, Cond.code yX7_laysWay cX7_laysWay 6 none, Cond.fieldLink RX7 65 "BookedDetoursModel" "wayMany" "I", Cond.fieldLink RX7 29 "BookedDetoursModel" "way" "[I", Cond.methodLink RX7 99 yX7_drives, Cond.instanceMethod yX7_drives, Cond.selects RX7 yX7_drives yX7_drives, Cond.code yX7_drives cX7_drives 8 none, Cond.fieldLink RX7 72 "BookedDetoursModel" "driven" "I", Cond.fieldLink RX7 35 "BookedDetoursModel" "waits" "[I", Cond.fieldLink RX7 38 "BookedDetoursModel" "aboards" "[I", Cond.methodLink RX7 68 yX7_aboardNow, Cond.instanceMethod yX7_aboardNow, Cond.selects RX7 yX7_aboardNow yX7_aboardNow, Cond.code yX7_aboardNow cX7_aboardNow 3 (some .int), Cond.methodLink RX7 59 yX7_of]
def wsX7_bookAll_r5 : List Cond := [Cond.instanceMethod yX7_of, Cond.selects RX7 yX7_of yX7_of, Cond.code yX7_of cX7_of 3 (some .int), Cond.methodLink RX7 79 yX7_stopOf, Cond.instanceMethod yX7_stopOf, Cond.selects RX7 yX7_stopOf yX7_stopOf, Cond.code yX7_stopOf cX7_stopOf 2 (some .int), Cond.methodLink RX7 62 yX7_drive, Cond.instanceMethod yX7_drive, Cond.selects RX7 yX7_drive yX7_drive, Cond.code yX7_drive cX7_drive 3 (some .int), Cond.methodLink RX7 55 yX7_apart, Cond.static yX7_apart, Cond.code yX7_apart cX7_apart 2 (some .int), Cond.methodLink RX7 83 yX7_isInTime, Cond.instanceMethod yX7_isInTime, Cond.selects RX7 yX7_isInTime yX7_isInTime, Cond.code yX7_isInTime cX7_isInTime 5 (some .boolean), Cond.methodLink RX7 90 yX7_placeOf, Cond.instanceMethod yX7_placeOf, Cond.selects RX7 yX7_placeOf yX7_placeOf, Cond.code yX7_placeOf cX7_placeOf 3 (some .int), Cond.methodLink RX7 93 yX7_straight, Cond.instanceMethod yX7_straight]
def wsX7_bookAll_r6 : List Cond := [Cond.selects RX7 yX7_straight yX7_straight, Cond.code yX7_straight cX7_straight 2 (some .int), Cond.methodLink RX7 152 yX7_books, Cond.instanceMethod yX7_books, Cond.selects RX7 yX7_books yX7_books, Cond.code yX7_books cX7_books 2 (some .int)]
def wsX7_bookAll : List Cond := .code yX7_bookAll cX7_bookAll 2 (some .int) :: ((wsX7_bookAll_r1 ++ (wsX7_bookAll_r2 ++ (wsX7_bookAll_r3 ++ (wsX7_bookAll_r4 ++ (wsX7_bookAll_r5 ++ wsX7_bookAll_r6))))) ++ wsX70)
def wsX7_timeOf_r1 : List Cond := [Cond.fieldLink RX7 32 "BookedDetoursModel" "times" "[I", Cond.methodLink RX7 164 yX7_drivesRoute, Cond.instanceMethod yX7_drivesRoute, Cond.selects RX7 yX7_drivesRoute yX7_drivesRoute, Cond.initialized RX7, Cond.code yX7_drivesRoute cX7_drivesRoute 1 none, Cond.fieldLink RX7 7 "BookedDetoursModel" "s" "[I", Cond.methodLink RX7 96 yX7_laysRoute, Cond.instanceMethod yX7_laysRoute, Cond.selects RX7 yX7_laysRoute yX7_laysRoute, Cond.code yX7_laysRoute cX7_laysRoute 2 none, Cond.fieldLink RX7 65 "BookedDetoursModel" "wayMany" "I", Cond.fieldLink RX7 29 "BookedDetoursModel" "way" "[I", Cond.methodLink RX7 99 yX7_drives, Cond.instanceMethod yX7_drives, Cond.selects RX7 yX7_drives yX7_drives, Cond.code yX7_drives cX7_drives 8 none, Cond.fieldLink RX7 72 "BookedDetoursModel" "driven" "I", Cond.fieldLink RX7 75 "BookedDetoursModel" "isKept" "Z", Cond.fieldLink RX7 35 "BookedDetoursModel" "waits" "[I", Cond.fieldLink RX7 38 "BookedDetoursModel" "aboards" "[I", Cond.fieldLink RX7 87 "BookedDetoursModel" "over" "I", Cond.methodLink RX7 68 yX7_aboardNow, Cond.instanceMethod yX7_aboardNow]
def wsX7_timeOf_r2 : List Cond := [Cond.selects RX7 yX7_aboardNow yX7_aboardNow, Cond.code yX7_aboardNow cX7_aboardNow 3 (some .int), Cond.methodLink RX7 59 yX7_of, Cond.instanceMethod yX7_of, Cond.selects RX7 yX7_of yX7_of, Cond.code yX7_of cX7_of 3 (some .int), Cond.methodLink RX7 79 yX7_stopOf, Cond.instanceMethod yX7_stopOf, Cond.selects RX7 yX7_stopOf yX7_stopOf, Cond.code yX7_stopOf cX7_stopOf 2 (some .int), Cond.methodLink RX7 62 yX7_drive, Cond.instanceMethod yX7_drive, Cond.selects RX7 yX7_drive yX7_drive, Cond.code yX7_drive cX7_drive 3 (some .int), Cond.methodLink RX7 55 yX7_apart, Cond.static yX7_apart, Cond.code yX7_apart cX7_apart 2 (some .int), Cond.methodLink RX7 83 yX7_isInTime, Cond.instanceMethod yX7_isInTime, Cond.selects RX7 yX7_isInTime yX7_isInTime, Cond.code yX7_isInTime cX7_isInTime 5 (some .boolean), Cond.methodLink RX7 90 yX7_placeOf, Cond.instanceMethod yX7_placeOf, Cond.selects RX7 yX7_placeOf yX7_placeOf]
def wsX7_timeOf_r3 : List Cond := [Cond.code yX7_placeOf cX7_placeOf 3 (some .int), Cond.methodLink RX7 93 yX7_straight, Cond.instanceMethod yX7_straight, Cond.selects RX7 yX7_straight yX7_straight, Cond.code yX7_straight cX7_straight 2 (some .int)]
def wsX7_timeOf : List Cond := .code yX7_timeOf cX7_timeOf 4 (some .int) :: ((wsX7_timeOf_r1 ++ (wsX7_timeOf_r2 ++ wsX7_timeOf_r3)) ++ wsX70)
def wsX7_ride_r1 : List Cond := [Cond.fieldLink RX7 44 "BookedDetoursModel" "thrown" "I", Cond.methodLink RX7 158 yX7_isRide, Cond.instanceMethod yX7_isRide, Cond.selects RX7 yX7_isRide yX7_isRide, Cond.initialized RX7, Cond.code yX7_isRide cX7_isRide 2 (some .boolean), Cond.fieldLink RX7 7 "BookedDetoursModel" "s" "[I", Cond.methodLink RX7 48 yX7_in, Cond.static yX7_in, Cond.code yX7_in cX7_in 3 (some .boolean), Cond.methodLink RX7 199 yX7_timeOf, Cond.instanceMethod yX7_timeOf, Cond.selects RX7 yX7_timeOf yX7_timeOf, Cond.code yX7_timeOf cX7_timeOf 4 (some .int), Cond.fieldLink RX7 32 "BookedDetoursModel" "times" "[I", Cond.methodLink RX7 164 yX7_drivesRoute, Cond.instanceMethod yX7_drivesRoute, Cond.selects RX7 yX7_drivesRoute yX7_drivesRoute, Cond.code yX7_drivesRoute cX7_drivesRoute 1 none, Cond.methodLink RX7 96 yX7_laysRoute, Cond.instanceMethod yX7_laysRoute, Cond.selects RX7 yX7_laysRoute yX7_laysRoute, Cond.code yX7_laysRoute cX7_laysRoute 2 none, Cond.fieldLink RX7 65 "BookedDetoursModel" "wayMany" "I"]
def wsX7_ride_r2 : List Cond := [Cond.fieldLink RX7 29 "BookedDetoursModel" "way" "[I", Cond.methodLink RX7 99 yX7_drives, Cond.instanceMethod yX7_drives, Cond.selects RX7 yX7_drives yX7_drives, Cond.code yX7_drives cX7_drives 8 none, Cond.fieldLink RX7 72 "BookedDetoursModel" "driven" "I", Cond.fieldLink RX7 75 "BookedDetoursModel" "isKept" "Z", Cond.fieldLink RX7 35 "BookedDetoursModel" "waits" "[I", Cond.fieldLink RX7 38 "BookedDetoursModel" "aboards" "[I", Cond.fieldLink RX7 87 "BookedDetoursModel" "over" "I", Cond.methodLink RX7 68 yX7_aboardNow, Cond.instanceMethod yX7_aboardNow, Cond.selects RX7 yX7_aboardNow yX7_aboardNow, Cond.code yX7_aboardNow cX7_aboardNow 3 (some .int), Cond.methodLink RX7 59 yX7_of, Cond.instanceMethod yX7_of, Cond.selects RX7 yX7_of yX7_of, Cond.code yX7_of cX7_of 3 (some .int), Cond.methodLink RX7 79 yX7_stopOf, Cond.instanceMethod yX7_stopOf, Cond.selects RX7 yX7_stopOf yX7_stopOf, Cond.code yX7_stopOf cX7_stopOf 2 (some .int), Cond.methodLink RX7 62 yX7_drive, Cond.instanceMethod yX7_drive]
def wsX7_ride_r3 : List Cond := [Cond.selects RX7 yX7_drive yX7_drive, Cond.code yX7_drive cX7_drive 3 (some .int), Cond.methodLink RX7 55 yX7_apart, Cond.static yX7_apart, Cond.code yX7_apart cX7_apart 2 (some .int), Cond.methodLink RX7 83 yX7_isInTime, Cond.instanceMethod yX7_isInTime, Cond.selects RX7 yX7_isInTime yX7_isInTime, Cond.code yX7_isInTime cX7_isInTime 5 (some .boolean), Cond.methodLink RX7 90 yX7_placeOf, Cond.instanceMethod yX7_placeOf, Cond.selects RX7 yX7_placeOf yX7_placeOf, Cond.code yX7_placeOf cX7_placeOf 3 (some .int), Cond.methodLink RX7 93 yX7_straight, Cond.instanceMethod yX7_straight, Cond.selects RX7 yX7_straight yX7_straight, Cond.code yX7_straight cX7_straight 2 (some .int)]
def wsX7_ride : List Cond := .code yX7_ride cX7_ride 3 (some .int) :: ((wsX7_ride_r1 ++ (wsX7_ride_r2 ++ wsX7_ride_r3)) ++ wsX70)
def wsX7_visit_r1 : List Cond := [Cond.fieldLink RX7 44 "BookedDetoursModel" "thrown" "I", Cond.fieldLink RX7 7 "BookedDetoursModel" "s" "[I", Cond.fieldLink RX7 29 "BookedDetoursModel" "way" "[I", Cond.fieldLink RX7 32 "BookedDetoursModel" "times" "[I", Cond.fieldLink RX7 38 "BookedDetoursModel" "aboards" "[I", Cond.fieldLink RX7 35 "BookedDetoursModel" "waits" "[I", Cond.methodLink RX7 48 yX7_in, Cond.static yX7_in, Cond.initialized RX7, Cond.code yX7_in cX7_in 3 (some .boolean), Cond.methodLink RX7 164 yX7_drivesRoute, Cond.instanceMethod yX7_drivesRoute, Cond.selects RX7 yX7_drivesRoute yX7_drivesRoute, Cond.code yX7_drivesRoute cX7_drivesRoute 1 none, Cond.methodLink RX7 96 yX7_laysRoute, Cond.instanceMethod yX7_laysRoute, Cond.selects RX7 yX7_laysRoute yX7_laysRoute, Cond.code yX7_laysRoute cX7_laysRoute 2 none, Cond.fieldLink RX7 65 "BookedDetoursModel" "wayMany" "I", Cond.methodLink RX7 99 yX7_drives, Cond.instanceMethod yX7_drives, Cond.selects RX7 yX7_drives yX7_drives, Cond.code yX7_drives cX7_drives 8 none, Cond.fieldLink RX7 72 "BookedDetoursModel" "driven" "I"]
def wsX7_visit_r2 : List Cond := [Cond.fieldLink RX7 75 "BookedDetoursModel" "isKept" "Z", Cond.fieldLink RX7 87 "BookedDetoursModel" "over" "I", Cond.methodLink RX7 68 yX7_aboardNow, Cond.instanceMethod yX7_aboardNow, Cond.selects RX7 yX7_aboardNow yX7_aboardNow, Cond.code yX7_aboardNow cX7_aboardNow 3 (some .int), Cond.methodLink RX7 59 yX7_of, Cond.instanceMethod yX7_of, Cond.selects RX7 yX7_of yX7_of, Cond.code yX7_of cX7_of 3 (some .int), Cond.methodLink RX7 79 yX7_stopOf, Cond.instanceMethod yX7_stopOf, Cond.selects RX7 yX7_stopOf yX7_stopOf, Cond.code yX7_stopOf cX7_stopOf 2 (some .int), Cond.methodLink RX7 62 yX7_drive, Cond.instanceMethod yX7_drive, Cond.selects RX7 yX7_drive yX7_drive, Cond.code yX7_drive cX7_drive 3 (some .int), Cond.methodLink RX7 55 yX7_apart, Cond.static yX7_apart, Cond.code yX7_apart cX7_apart 2 (some .int), Cond.methodLink RX7 83 yX7_isInTime, Cond.instanceMethod yX7_isInTime, Cond.selects RX7 yX7_isInTime yX7_isInTime]
def wsX7_visit_r3 : List Cond := [Cond.code yX7_isInTime cX7_isInTime 5 (some .boolean), Cond.methodLink RX7 90 yX7_placeOf, Cond.instanceMethod yX7_placeOf, Cond.selects RX7 yX7_placeOf yX7_placeOf, Cond.code yX7_placeOf cX7_placeOf 3 (some .int), Cond.methodLink RX7 93 yX7_straight, Cond.instanceMethod yX7_straight, Cond.selects RX7 yX7_straight yX7_straight, Cond.code yX7_straight cX7_straight 2 (some .int)]
def wsX7_visit : List Cond := .code yX7_visit cX7_visit 3 (some .int) :: ((wsX7_visit_r1 ++ (wsX7_visit_r2 ++ wsX7_visit_r3)) ++ wsX70)
def wsX7_coordinate : List Cond := .code yX7_coordinate cX7_coordinate 3 (some .int) :: ([.fieldLink RX7 44 "BookedDetoursModel" "thrown" "I", .fieldLink RX7 7 "BookedDetoursModel" "s" "[I", .methodLink RX7 132 yX7_isStop, .instanceMethod yX7_isStop, .selects RX7 yX7_isStop yX7_isStop, .initialized RX7, .code yX7_isStop cX7_isStop 2 (some .boolean), .methodLink RX7 48 yX7_in, .static yX7_in, .code yX7_in cX7_in 3 (some .boolean)] ++ wsX70)
def wsX7_standing : List Cond := .code yX7_standing cX7_standing 4 (some .int) :: ([.fieldLink RX7 7 "BookedDetoursModel" "s" "[I", .methodLink RX7 59 yX7_of, .instanceMethod yX7_of, .selects RX7 yX7_of yX7_of, .initialized RX7, .code yX7_of cX7_of 3 (some .int)] ++ wsX70)
def wsX7_waiting : List Cond := .code yX7_waiting cX7_waiting 3 (some .int) :: ([.fieldLink RX7 65 "BookedDetoursModel" "wayMany" "I", .fieldLink RX7 35 "BookedDetoursModel" "waits" "[I"] ++ wsX70)
def wsX7_count_r1 : List Cond := [Cond.fieldLink RX7 44 "BookedDetoursModel" "thrown" "I", Cond.fieldLink RX7 7 "BookedDetoursModel" "s" "[I", Cond.fieldLink RX7 87 "BookedDetoursModel" "over" "I", Cond.fieldLink RX7 72 "BookedDetoursModel" "driven" "I", Cond.fieldLink RX7 172 "BookedDetoursModel" "length" "I", Cond.fieldLink RX7 52 "BookedDetoursModel" "undoMany" "I", Cond.methodLink RX7 164 yX7_drivesRoute, Cond.instanceMethod yX7_drivesRoute, Cond.selects RX7 yX7_drivesRoute yX7_drivesRoute, Cond.initialized RX7, Cond.code yX7_drivesRoute cX7_drivesRoute 1 none, Cond.methodLink RX7 96 yX7_laysRoute, Cond.instanceMethod yX7_laysRoute, Cond.selects RX7 yX7_laysRoute yX7_laysRoute, Cond.code yX7_laysRoute cX7_laysRoute 2 none, Cond.fieldLink RX7 65 "BookedDetoursModel" "wayMany" "I", Cond.fieldLink RX7 29 "BookedDetoursModel" "way" "[I", Cond.methodLink RX7 99 yX7_drives, Cond.instanceMethod yX7_drives, Cond.selects RX7 yX7_drives yX7_drives, Cond.code yX7_drives cX7_drives 8 none, Cond.fieldLink RX7 75 "BookedDetoursModel" "isKept" "Z", Cond.fieldLink RX7 35 "BookedDetoursModel" "waits" "[I", Cond.fieldLink RX7 32 "BookedDetoursModel" "times" "[I"]
def wsX7_count_r2 : List Cond := [Cond.fieldLink RX7 38 "BookedDetoursModel" "aboards" "[I", Cond.methodLink RX7 68 yX7_aboardNow, Cond.instanceMethod yX7_aboardNow, Cond.selects RX7 yX7_aboardNow yX7_aboardNow, Cond.code yX7_aboardNow cX7_aboardNow 3 (some .int), Cond.methodLink RX7 59 yX7_of, Cond.instanceMethod yX7_of, Cond.selects RX7 yX7_of yX7_of, Cond.code yX7_of cX7_of 3 (some .int), Cond.methodLink RX7 79 yX7_stopOf, Cond.instanceMethod yX7_stopOf, Cond.selects RX7 yX7_stopOf yX7_stopOf, Cond.code yX7_stopOf cX7_stopOf 2 (some .int), Cond.methodLink RX7 62 yX7_drive, Cond.instanceMethod yX7_drive, Cond.selects RX7 yX7_drive yX7_drive, Cond.code yX7_drive cX7_drive 3 (some .int), Cond.methodLink RX7 55 yX7_apart, Cond.static yX7_apart, Cond.code yX7_apart cX7_apart 2 (some .int), Cond.methodLink RX7 83 yX7_isInTime, Cond.instanceMethod yX7_isInTime, Cond.selects RX7 yX7_isInTime yX7_isInTime, Cond.code yX7_isInTime cX7_isInTime 5 (some .boolean)]
def wsX7_count_r3 : List Cond := [Cond.methodLink RX7 90 yX7_placeOf, Cond.instanceMethod yX7_placeOf, Cond.selects RX7 yX7_placeOf yX7_placeOf, Cond.code yX7_placeOf cX7_placeOf 3 (some .int), Cond.methodLink RX7 93 yX7_straight, Cond.instanceMethod yX7_straight, Cond.selects RX7 yX7_straight yX7_straight, Cond.code yX7_straight cX7_straight 2 (some .int), Cond.methodLink RX7 203 yX7_standing, Cond.instanceMethod yX7_standing, Cond.selects RX7 yX7_standing yX7_standing, Cond.code yX7_standing cX7_standing 4 (some .int), Cond.methodLink RX7 206 yX7_waiting, Cond.instanceMethod yX7_waiting, Cond.selects RX7 yX7_waiting yX7_waiting, Cond.code yX7_waiting cX7_waiting 3 (some .int), Cond.methodLink RX7 48 yX7_in, Cond.static yX7_in, Cond.code yX7_in cX7_in 3 (some .boolean)]
def wsX7_count : List Cond := .code yX7_count cX7_count 2 (some .int) :: ((wsX7_count_r1 ++ (wsX7_count_r2 ++ wsX7_count_r3)) ++ wsX70)
def wsX7_ifBooked_r1 : List Cond := [Cond.fieldLink RX7 44 "BookedDetoursModel" "thrown" "I", Cond.fieldLink RX7 87 "BookedDetoursModel" "over" "I", Cond.fieldLink RX7 126 "BookedDetoursModel" "bestPick" "I", Cond.fieldLink RX7 129 "BookedDetoursModel" "bestSet" "I", Cond.fieldLink RX7 32 "BookedDetoursModel" "times" "[I", Cond.fieldLink RX7 107 "BookedDetoursModel" "wayCount" "I", Cond.methodLink RX7 136 yX7_refuses, Cond.instanceMethod yX7_refuses, Cond.selects RX7 yX7_refuses yX7_refuses, Cond.initialized RX7, Cond.code yX7_refuses cX7_refuses 5 (some .int), Cond.methodLink RX7 132 yX7_isStop, Cond.instanceMethod yX7_isStop, Cond.selects RX7 yX7_isStop yX7_isStop, Cond.code yX7_isStop cX7_isStop 2 (some .boolean), Cond.fieldLink RX7 7 "BookedDetoursModel" "s" "[I", Cond.methodLink RX7 48 yX7_in, Cond.static yX7_in, Cond.code yX7_in cX7_in 3 (some .boolean), Cond.methodLink RX7 164 yX7_drivesRoute, Cond.instanceMethod yX7_drivesRoute, Cond.selects RX7 yX7_drivesRoute yX7_drivesRoute, Cond.code yX7_drivesRoute cX7_drivesRoute 1 none, Cond.methodLink RX7 96 yX7_laysRoute]
def wsX7_ifBooked_r2 : List Cond := [Cond.instanceMethod yX7_laysRoute, Cond.selects RX7 yX7_laysRoute yX7_laysRoute, Cond.code yX7_laysRoute cX7_laysRoute 2 none, Cond.fieldLink RX7 65 "BookedDetoursModel" "wayMany" "I", Cond.fieldLink RX7 29 "BookedDetoursModel" "way" "[I", Cond.methodLink RX7 99 yX7_drives, Cond.instanceMethod yX7_drives, Cond.selects RX7 yX7_drives yX7_drives, Cond.code yX7_drives cX7_drives 8 none, Cond.fieldLink RX7 72 "BookedDetoursModel" "driven" "I", Cond.fieldLink RX7 75 "BookedDetoursModel" "isKept" "Z", Cond.fieldLink RX7 35 "BookedDetoursModel" "waits" "[I", Cond.fieldLink RX7 38 "BookedDetoursModel" "aboards" "[I", Cond.methodLink RX7 68 yX7_aboardNow, Cond.instanceMethod yX7_aboardNow, Cond.selects RX7 yX7_aboardNow yX7_aboardNow, Cond.code yX7_aboardNow cX7_aboardNow 3 (some .int), Cond.methodLink RX7 59 yX7_of, Cond.instanceMethod yX7_of, Cond.selects RX7 yX7_of yX7_of, Cond.code yX7_of cX7_of 3 (some .int), Cond.methodLink RX7 79 yX7_stopOf, Cond.instanceMethod yX7_stopOf, Cond.selects RX7 yX7_stopOf yX7_stopOf]
def wsX7_ifBooked_r3 : List Cond := [Cond.code yX7_stopOf cX7_stopOf 2 (some .int), Cond.methodLink RX7 62 yX7_drive, Cond.instanceMethod yX7_drive, Cond.selects RX7 yX7_drive yX7_drive, Cond.code yX7_drive cX7_drive 3 (some .int), Cond.methodLink RX7 55 yX7_apart, Cond.static yX7_apart, Cond.code yX7_apart cX7_apart 2 (some .int), Cond.methodLink RX7 83 yX7_isInTime, Cond.instanceMethod yX7_isInTime, Cond.selects RX7 yX7_isInTime yX7_isInTime, Cond.code yX7_isInTime cX7_isInTime 5 (some .boolean), Cond.methodLink RX7 90 yX7_placeOf, Cond.instanceMethod yX7_placeOf, Cond.selects RX7 yX7_placeOf yX7_placeOf, Cond.code yX7_placeOf cX7_placeOf 3 (some .int), Cond.methodLink RX7 93 yX7_straight, Cond.instanceMethod yX7_straight, Cond.selects RX7 yX7_straight yX7_straight, Cond.code yX7_straight cX7_straight 2 (some .int), Cond.methodLink RX7 140 yX7_laysRide, Cond.instanceMethod yX7_laysRide, Cond.selects RX7 yX7_laysRide yX7_laysRide, Cond.code yX7_laysRide cX7_laysRide 6 (some .int)]
def wsX7_ifBooked_r4 : List Cond := [Cond.methodLink RX7 103 yX7_lay, Cond.instanceMethod yX7_lay, Cond.selects RX7 yX7_lay yX7_lay, Cond.code yX7_lay cX7_lay 4 none, Cond.methodLink RX7 143 yX7_findsWay, Cond.instanceMethod yX7_findsWay, Cond.selects RX7 yX7_findsWay yX7_findsWay, Cond.code yX7_findsWay cX7_findsWay 5 (some .boolean), Cond.fieldLink RX7 110 "BookedDetoursModel" "bestOver" "I", Cond.fieldLink RX7 113 "BookedDetoursModel" "leastDown" "I", Cond.methodLink RX7 116 yX7_leaving, Cond.instanceMethod yX7_leaving, Cond.selects RX7 yX7_leaving yX7_leaving, Cond.code yX7_leaving cX7_leaving 1 (some .int), Cond.methodLink RX7 119 yX7_isOnWay, Cond.instanceMethod yX7_isOnWay, Cond.selects RX7 yX7_isOnWay yX7_isOnWay, Cond.code yX7_isOnWay cX7_isOnWay 1 (some .boolean), Cond.methodLink RX7 123 yX7_laysWay, Cond.instanceMethod yX7_laysWay, Cond.selects RX7 yX7_laysWay yX7_laysWay, Cond.code yX7_laysWay cX7_laysWay 6 none]
def wsX7_ifBooked : List Cond := .code yX7_ifBooked cX7_ifBooked 9 (some .int) :: ((wsX7_ifBooked_r1 ++ (wsX7_ifBooked_r2 ++ (wsX7_ifBooked_r3 ++ wsX7_ifBooked_r4))) ++ wsX70)
def wsX7_earliestBy_r1 : List Cond := [Cond.fieldLink RX7 44 "BookedDetoursModel" "thrown" "I", Cond.fieldLink RX7 113 "BookedDetoursModel" "leastDown" "I", Cond.methodLink RX7 136 yX7_refuses, Cond.instanceMethod yX7_refuses, Cond.selects RX7 yX7_refuses yX7_refuses, Cond.initialized RX7, Cond.code yX7_refuses cX7_refuses 5 (some .int), Cond.methodLink RX7 132 yX7_isStop, Cond.instanceMethod yX7_isStop, Cond.selects RX7 yX7_isStop yX7_isStop, Cond.code yX7_isStop cX7_isStop 2 (some .boolean), Cond.fieldLink RX7 7 "BookedDetoursModel" "s" "[I", Cond.methodLink RX7 48 yX7_in, Cond.static yX7_in, Cond.code yX7_in cX7_in 3 (some .boolean), Cond.methodLink RX7 140 yX7_laysRide, Cond.instanceMethod yX7_laysRide, Cond.selects RX7 yX7_laysRide yX7_laysRide, Cond.code yX7_laysRide cX7_laysRide 6 (some .int), Cond.methodLink RX7 103 yX7_lay, Cond.instanceMethod yX7_lay, Cond.selects RX7 yX7_lay yX7_lay, Cond.code yX7_lay cX7_lay 4 none, Cond.methodLink RX7 143 yX7_findsWay]
def wsX7_earliestBy_r2 : List Cond := [Cond.instanceMethod yX7_findsWay, Cond.selects RX7 yX7_findsWay yX7_findsWay, Cond.code yX7_findsWay cX7_findsWay 5 (some .boolean), Cond.fieldLink RX7 107 "BookedDetoursModel" "wayCount" "I", Cond.fieldLink RX7 110 "BookedDetoursModel" "bestOver" "I", Cond.fieldLink RX7 75 "BookedDetoursModel" "isKept" "Z", Cond.fieldLink RX7 32 "BookedDetoursModel" "times" "[I", Cond.fieldLink RX7 87 "BookedDetoursModel" "over" "I", Cond.fieldLink RX7 126 "BookedDetoursModel" "bestPick" "I", Cond.fieldLink RX7 129 "BookedDetoursModel" "bestSet" "I", Cond.methodLink RX7 116 yX7_leaving, Cond.instanceMethod yX7_leaving, Cond.selects RX7 yX7_leaving yX7_leaving, Cond.code yX7_leaving cX7_leaving 1 (some .int), Cond.methodLink RX7 119 yX7_isOnWay, Cond.instanceMethod yX7_isOnWay, Cond.selects RX7 yX7_isOnWay yX7_isOnWay, Cond.code yX7_isOnWay cX7_isOnWay 1 (some .boolean), Cond.methodLink RX7 123 yX7_laysWay, Cond.instanceMethod yX7_laysWay, Cond.selects RX7 yX7_laysWay yX7_laysWay, Cond.code yX7_laysWay cX7_laysWay 6 none, Cond.fieldLink RX7 65 "BookedDetoursModel" "wayMany" "I", Cond.fieldLink RX7 29 "BookedDetoursModel" "way" "[I"]
def wsX7_earliestBy_r3 : List Cond := [Cond.methodLink RX7 99 yX7_drives, Cond.instanceMethod yX7_drives, Cond.selects RX7 yX7_drives yX7_drives, Cond.code yX7_drives cX7_drives 8 none, Cond.fieldLink RX7 72 "BookedDetoursModel" "driven" "I", Cond.fieldLink RX7 35 "BookedDetoursModel" "waits" "[I", Cond.fieldLink RX7 38 "BookedDetoursModel" "aboards" "[I", Cond.methodLink RX7 68 yX7_aboardNow, Cond.instanceMethod yX7_aboardNow, Cond.selects RX7 yX7_aboardNow yX7_aboardNow, Cond.code yX7_aboardNow cX7_aboardNow 3 (some .int), Cond.methodLink RX7 59 yX7_of, Cond.instanceMethod yX7_of, Cond.selects RX7 yX7_of yX7_of, Cond.code yX7_of cX7_of 3 (some .int), Cond.methodLink RX7 79 yX7_stopOf, Cond.instanceMethod yX7_stopOf, Cond.selects RX7 yX7_stopOf yX7_stopOf, Cond.code yX7_stopOf cX7_stopOf 2 (some .int), Cond.methodLink RX7 62 yX7_drive, Cond.instanceMethod yX7_drive, Cond.selects RX7 yX7_drive yX7_drive, Cond.code yX7_drive cX7_drive 3 (some .int), Cond.methodLink RX7 55 yX7_apart]
def wsX7_earliestBy_r4 : List Cond := [Cond.static yX7_apart, Cond.code yX7_apart cX7_apart 2 (some .int), Cond.methodLink RX7 83 yX7_isInTime, Cond.instanceMethod yX7_isInTime, Cond.selects RX7 yX7_isInTime yX7_isInTime, Cond.code yX7_isInTime cX7_isInTime 5 (some .boolean), Cond.methodLink RX7 90 yX7_placeOf, Cond.instanceMethod yX7_placeOf, Cond.selects RX7 yX7_placeOf yX7_placeOf, Cond.code yX7_placeOf cX7_placeOf 3 (some .int), Cond.methodLink RX7 93 yX7_straight, Cond.instanceMethod yX7_straight, Cond.selects RX7 yX7_straight yX7_straight, Cond.code yX7_straight cX7_straight 2 (some .int)]
def wsX7_earliestBy : List Cond := .code yX7_earliestBy cX7_earliestBy 5 (some .int) :: ((wsX7_earliestBy_r1 ++ (wsX7_earliestBy_r2 ++ (wsX7_earliestBy_r3 ++ wsX7_earliestBy_r4))) ++ wsX70)
def wsX7_spare_r1 : List Cond := [Cond.fieldLink RX7 44 "BookedDetoursModel" "thrown" "I", Cond.methodLink RX7 158 yX7_isRide, Cond.instanceMethod yX7_isRide, Cond.selects RX7 yX7_isRide yX7_isRide, Cond.initialized RX7, Cond.code yX7_isRide cX7_isRide 2 (some .boolean), Cond.fieldLink RX7 7 "BookedDetoursModel" "s" "[I", Cond.methodLink RX7 48 yX7_in, Cond.static yX7_in, Cond.code yX7_in cX7_in 3 (some .boolean), Cond.methodLink RX7 59 yX7_of, Cond.instanceMethod yX7_of, Cond.selects RX7 yX7_of yX7_of, Cond.code yX7_of cX7_of 3 (some .int), Cond.methodLink RX7 199 yX7_timeOf, Cond.instanceMethod yX7_timeOf, Cond.selects RX7 yX7_timeOf yX7_timeOf, Cond.code yX7_timeOf cX7_timeOf 4 (some .int), Cond.fieldLink RX7 32 "BookedDetoursModel" "times" "[I", Cond.methodLink RX7 164 yX7_drivesRoute, Cond.instanceMethod yX7_drivesRoute, Cond.selects RX7 yX7_drivesRoute yX7_drivesRoute, Cond.code yX7_drivesRoute cX7_drivesRoute 1 none, Cond.methodLink RX7 96 yX7_laysRoute]
def wsX7_spare_r2 : List Cond := [Cond.instanceMethod yX7_laysRoute, Cond.selects RX7 yX7_laysRoute yX7_laysRoute, Cond.code yX7_laysRoute cX7_laysRoute 2 none, Cond.fieldLink RX7 65 "BookedDetoursModel" "wayMany" "I", Cond.fieldLink RX7 29 "BookedDetoursModel" "way" "[I", Cond.methodLink RX7 99 yX7_drives, Cond.instanceMethod yX7_drives, Cond.selects RX7 yX7_drives yX7_drives, Cond.code yX7_drives cX7_drives 8 none, Cond.fieldLink RX7 72 "BookedDetoursModel" "driven" "I", Cond.fieldLink RX7 75 "BookedDetoursModel" "isKept" "Z", Cond.fieldLink RX7 35 "BookedDetoursModel" "waits" "[I", Cond.fieldLink RX7 38 "BookedDetoursModel" "aboards" "[I", Cond.fieldLink RX7 87 "BookedDetoursModel" "over" "I", Cond.methodLink RX7 68 yX7_aboardNow, Cond.instanceMethod yX7_aboardNow, Cond.selects RX7 yX7_aboardNow yX7_aboardNow, Cond.code yX7_aboardNow cX7_aboardNow 3 (some .int), Cond.methodLink RX7 79 yX7_stopOf, Cond.instanceMethod yX7_stopOf, Cond.selects RX7 yX7_stopOf yX7_stopOf, Cond.code yX7_stopOf cX7_stopOf 2 (some .int), Cond.methodLink RX7 62 yX7_drive, Cond.instanceMethod yX7_drive]
def wsX7_spare_r3 : List Cond := [Cond.selects RX7 yX7_drive yX7_drive, Cond.code yX7_drive cX7_drive 3 (some .int), Cond.methodLink RX7 55 yX7_apart, Cond.static yX7_apart, Cond.code yX7_apart cX7_apart 2 (some .int), Cond.methodLink RX7 83 yX7_isInTime, Cond.instanceMethod yX7_isInTime, Cond.selects RX7 yX7_isInTime yX7_isInTime, Cond.code yX7_isInTime cX7_isInTime 5 (some .boolean), Cond.methodLink RX7 90 yX7_placeOf, Cond.instanceMethod yX7_placeOf, Cond.selects RX7 yX7_placeOf yX7_placeOf, Cond.code yX7_placeOf cX7_placeOf 3 (some .int), Cond.methodLink RX7 93 yX7_straight, Cond.instanceMethod yX7_straight, Cond.selects RX7 yX7_straight yX7_straight, Cond.code yX7_straight cX7_straight 2 (some .int)]
def wsX7_spare : List Cond := .code yX7_spare cX7_spare 2 (some .int) :: ((wsX7_spare_r1 ++ (wsX7_spare_r2 ++ wsX7_spare_r3)) ++ wsX70)
def wsX7_dearest_r1 : List Cond := [Cond.fieldLink RX7 44 "BookedDetoursModel" "thrown" "I", Cond.fieldLink RX7 87 "BookedDetoursModel" "over" "I", Cond.fieldLink RX7 7 "BookedDetoursModel" "s" "[I", Cond.methodLink RX7 48 yX7_in, Cond.static yX7_in, Cond.initialized RX7, Cond.code yX7_in cX7_in 3 (some .boolean), Cond.methodLink RX7 164 yX7_drivesRoute, Cond.instanceMethod yX7_drivesRoute, Cond.selects RX7 yX7_drivesRoute yX7_drivesRoute, Cond.code yX7_drivesRoute cX7_drivesRoute 1 none, Cond.methodLink RX7 96 yX7_laysRoute, Cond.instanceMethod yX7_laysRoute, Cond.selects RX7 yX7_laysRoute yX7_laysRoute, Cond.code yX7_laysRoute cX7_laysRoute 2 none, Cond.fieldLink RX7 65 "BookedDetoursModel" "wayMany" "I", Cond.fieldLink RX7 29 "BookedDetoursModel" "way" "[I", Cond.methodLink RX7 99 yX7_drives, Cond.instanceMethod yX7_drives, Cond.selects RX7 yX7_drives yX7_drives, Cond.code yX7_drives cX7_drives 8 none, Cond.fieldLink RX7 72 "BookedDetoursModel" "driven" "I", Cond.fieldLink RX7 75 "BookedDetoursModel" "isKept" "Z", Cond.fieldLink RX7 35 "BookedDetoursModel" "waits" "[I"]
def wsX7_dearest_r2 : List Cond := [Cond.fieldLink RX7 32 "BookedDetoursModel" "times" "[I", Cond.fieldLink RX7 38 "BookedDetoursModel" "aboards" "[I", Cond.methodLink RX7 68 yX7_aboardNow, Cond.instanceMethod yX7_aboardNow, Cond.selects RX7 yX7_aboardNow yX7_aboardNow, Cond.code yX7_aboardNow cX7_aboardNow 3 (some .int), Cond.methodLink RX7 59 yX7_of, Cond.instanceMethod yX7_of, Cond.selects RX7 yX7_of yX7_of, Cond.code yX7_of cX7_of 3 (some .int), Cond.methodLink RX7 79 yX7_stopOf, Cond.instanceMethod yX7_stopOf, Cond.selects RX7 yX7_stopOf yX7_stopOf, Cond.code yX7_stopOf cX7_stopOf 2 (some .int), Cond.methodLink RX7 62 yX7_drive, Cond.instanceMethod yX7_drive, Cond.selects RX7 yX7_drive yX7_drive, Cond.code yX7_drive cX7_drive 3 (some .int), Cond.methodLink RX7 55 yX7_apart, Cond.static yX7_apart, Cond.code yX7_apart cX7_apart 2 (some .int), Cond.methodLink RX7 83 yX7_isInTime, Cond.instanceMethod yX7_isInTime, Cond.selects RX7 yX7_isInTime yX7_isInTime]
def wsX7_dearest_r3 : List Cond := [Cond.code yX7_isInTime cX7_isInTime 5 (some .boolean), Cond.methodLink RX7 90 yX7_placeOf, Cond.instanceMethod yX7_placeOf, Cond.selects RX7 yX7_placeOf yX7_placeOf, Cond.code yX7_placeOf cX7_placeOf 3 (some .int), Cond.methodLink RX7 93 yX7_straight, Cond.instanceMethod yX7_straight, Cond.selects RX7 yX7_straight yX7_straight, Cond.code yX7_straight cX7_straight 2 (some .int), Cond.methodLink RX7 209 yX7_putAside, Cond.instanceMethod yX7_putAside, Cond.selects RX7 yX7_putAside yX7_putAside, Cond.code yX7_putAside cX7_putAside 2 none, Cond.fieldLink RX7 13 "BookedDetoursModel" "aside" "[I", Cond.methodLink RX7 161 yX7_cancels, Cond.instanceMethod yX7_cancels, Cond.selects RX7 yX7_cancels yX7_cancels, Cond.code yX7_cancels cX7_cancels 2 none, Cond.methodLink RX7 155 yX7_leaves, Cond.instanceMethod yX7_leaves, Cond.selects RX7 yX7_leaves yX7_leaves, Cond.code yX7_leaves cX7_leaves 4 none, Cond.methodLink RX7 119 yX7_isOnWay, Cond.instanceMethod yX7_isOnWay]
def wsX7_dearest_r4 : List Cond := [Cond.selects RX7 yX7_isOnWay yX7_isOnWay, Cond.code yX7_isOnWay cX7_isOnWay 1 (some .boolean), Cond.methodLink RX7 103 yX7_lay, Cond.instanceMethod yX7_lay, Cond.selects RX7 yX7_lay yX7_lay, Cond.code yX7_lay cX7_lay 4 none, Cond.methodLink RX7 212 yX7_takeBack, Cond.instanceMethod yX7_takeBack, Cond.selects RX7 yX7_takeBack yX7_takeBack, Cond.code yX7_takeBack cX7_takeBack 2 none]
def wsX7_dearest : List Cond := .code yX7_dearest cX7_dearest 7 (some .int) :: ((wsX7_dearest_r1 ++ (wsX7_dearest_r2 ++ (wsX7_dearest_r3 ++ wsX7_dearest_r4))) ++ wsX70)
def wsX7_undo : List Cond := .code yX7_undo cX7_undo 2 (some .int) :: ([.fieldLink RX7 44 "BookedDetoursModel" "thrown" "I", .fieldLink RX7 52 "BookedDetoursModel" "undoMany" "I", .fieldLink RX7 7 "BookedDetoursModel" "s" "[I", .fieldLink RX7 16 "BookedDetoursModel" "undos" "[I"] ++ wsX70)
def wsX7_save : List Cond := .code yX7_save cX7_save 3 (some .int) :: ([.fieldLink RX7 44 "BookedDetoursModel" "thrown" "I", .fieldLink RX7 19 "BookedDetoursModel" "slots" "[I", .fieldLink RX7 7 "BookedDetoursModel" "s" "[I", .fieldLink RX7 22 "BookedDetoursModel" "hasSlot" "[Z", .methodLink RX7 48 yX7_in, .static yX7_in, .initialized RX7, .code yX7_in cX7_in 3 (some .boolean)] ++ wsX70)
def wsX7_restore : List Cond := .code yX7_restore cX7_restore 3 (some .int) :: ([.fieldLink RX7 44 "BookedDetoursModel" "thrown" "I", .fieldLink RX7 22 "BookedDetoursModel" "hasSlot" "[Z", .fieldLink RX7 7 "BookedDetoursModel" "s" "[I", .fieldLink RX7 19 "BookedDetoursModel" "slots" "[I", .methodLink RX7 48 yX7_in, .static yX7_in, .initialized RX7, .code yX7_in cX7_in 3 (some .boolean), .methodLink RX7 149 yX7_records, .instanceMethod yX7_records, .selects RX7 yX7_records yX7_records, .code yX7_records cX7_records 2 none, .fieldLink RX7 52 "BookedDetoursModel" "undoMany" "I", .fieldLink RX7 16 "BookedDetoursModel" "undos" "[I"] ++ wsX70)
def wsJ9_abs_0f7a4 : List Cond := .code yJ9_abs_0f7a4 cJ9_abs_0f7a4 1 (some .int) :: ([])
def wsJ9_max_7cf53 : List Cond := .code yJ9_max_7cf53 cJ9_max_7cf53 2 (some .int) :: ([])
def wsJ9_min_7cf53 : List Cond := .code yJ9_min_7cf53 cJ9_min_7cf53 2 (some .int) :: ([])
def wsL_law_r1 : List Cond := [Cond.classLink RL 7 RX6, Cond.instantiable RX6 6, Cond.initialized RX6, Cond.classLink RL 10 RX7, Cond.instantiable RX7 26, Cond.initialized RX7, Cond.constantLong RL 79 (4294967295), Cond.methodLink RL 9 yX6_init, Cond.instanceMethod yX6_init, Cond.code yX6_init cX6_init 1 none, Cond.methodLink RX6 3 objectInit, Cond.instanceMethod objectInit, Cond.code objectInit ⟨#[0xb1]⟩ 1 none, Cond.classLink RX6 9 RX0, Cond.instantiable RX0 15, Cond.initialized RX0, Cond.fieldLink RX6 12 "BookedDetours" "day" "LBookedDetours$Day;", Cond.classLink RX6 16 RX5, Cond.instantiable RX5 10, Cond.initialized RX5, Cond.fieldLink RX6 19 "BookedDetours" "table" "LBookedDetours$Timetable;", Cond.classLink RX6 23 RX4, Cond.instantiable RX4 9, Cond.initialized RX4]
def wsL_law_r2 : List Cond := [Cond.fieldLink RX6 26 "BookedDetours" "search" "LBookedDetours$Search;", Cond.classLink RX6 30 RX2, Cond.instantiable RX2 2, Cond.initialized RX2, Cond.fieldLink RX6 33 "BookedDetours" "pad" "LBookedDetours$Pad;", Cond.classLink RX6 37 RX1, Cond.instantiable RX1 2, Cond.initialized RX1, Cond.fieldLink RX6 40 "BookedDetours" "history" "LBookedDetours$History;", Cond.fieldLink RX6 44 "BookedDetours" "slots" "[LBookedDetours$Day;", Cond.methodLink RX6 11 yX0_init, Cond.instanceMethod yX0_init, Cond.code yX0_init cX0_init 1 none, Cond.methodLink RX0 3 objectInit, Cond.classLink RX0 9 RX3, Cond.instantiable RX3 2, Cond.initialized RX3, Cond.fieldLink RX0 14 "BookedDetours$Day" "settings" "LBookedDetours$Row;", Cond.fieldLink RX0 20 "BookedDetours$Day" "xs" "LBookedDetours$Row;", Cond.fieldLink RX0 23 "BookedDetours$Day" "ys" "LBookedDetours$Row;", Cond.fieldLink RX0 26 "BookedDetours$Day" "froms" "LBookedDetours$Row;", Cond.fieldLink RX0 29 "BookedDetours$Day" "tos" "LBookedDetours$Row;", Cond.fieldLink RX0 32 "BookedDetours$Day" "waits" "LBookedDetours$Row;", Cond.fieldLink RX0 35 "BookedDetours$Day" "bys" "LBookedDetours$Row;"]
def wsL_law_r3 : List Cond := [Cond.fieldLink RX0 38 "BookedDetours$Day" "straights" "LBookedDetours$Row;", Cond.fieldLink RX0 41 "BookedDetours$Day" "stands" "LBookedDetours$Row;", Cond.fieldLink RX0 44 "BookedDetours$Day" "picks" "LBookedDetours$Row;", Cond.fieldLink RX0 47 "BookedDetours$Day" "downs" "LBookedDetours$Row;", Cond.fieldLink RX0 50 "BookedDetours$Day" "route" "LBookedDetours$Row;", Cond.methodLink RX0 11 yX3_init, Cond.instanceMethod yX3_init, Cond.code yX3_init cX3_init 2 none, Cond.methodLink RX3 1 objectInit, Cond.methodLink RX3 7 Lib.Math.max.name, Cond.static Lib.Math.max.name, Cond.initialized "java/lang/Math", Cond.code Lib.Math.max.name Lib.Math.max.code 2 (some .int), Cond.arrayClass .int, Cond.fieldLink RX3 13 "BookedDetours$Row" "cells" "[I", Cond.methodLink RX0 53 yX3_add, Cond.instanceMethod yX3_add, Cond.selects RX3 yX3_add yX3_add, Cond.code yX3_add cX3_add 2 none, Cond.fieldLink RX3 19 "BookedDetours$Row" "length" "I", Cond.methodLink RX3 23 yX3_insert, Cond.instanceMethod yX3_insert, Cond.selects RX3 yX3_insert yX3_insert, Cond.code yX3_insert cX3_insert 4 none]
def wsL_law_r4 : List Cond := [Cond.instanceMethod yX5_init, Cond.code yX5_init cX5_init 1 none, Cond.methodLink RX5 3 objectInit, Cond.classLink RX5 9 RX3, Cond.fieldLink RX5 14 "BookedDetours$Timetable" "times" "LBookedDetours$Row;", Cond.fieldLink RX5 20 "BookedDetours$Timetable" "loads" "LBookedDetours$Row;", Cond.fieldLink RX5 23 "BookedDetours$Timetable" "delays" "LBookedDetours$Row;", Cond.fieldLink RX5 26 "BookedDetours$Timetable" "picks" "LBookedDetours$Row;", Cond.fieldLink RX5 29 "BookedDetours$Timetable" "downs" "LBookedDetours$Row;", Cond.methodLink RX5 11 yX3_init, Cond.instanceMethod yX4_init, Cond.code yX4_init cX4_init 1 none, Cond.methodLink RX4 1 objectInit, Cond.classLink RX4 7 RX0, Cond.fieldLink RX4 10 "BookedDetours$Search" "day" "LBookedDetours$Day;", Cond.classLink RX4 16 RX5, Cond.fieldLink RX4 19 "BookedDetours$Search" "table" "LBookedDetours$Timetable;", Cond.methodLink RX4 9 yX0_init, Cond.instanceMethod yX2_init, Cond.code yX2_init cX2_init 1 none, Cond.methodLink RX2 3 objectInit, Cond.classLink RX2 9 RX3, Cond.fieldLink RX2 14 "BookedDetours$Pad" "signs" "LBookedDetours$Row;", Cond.fieldLink RX2 20 "BookedDetours$Pad" "numbers" "LBookedDetours$Row;"]
def wsL_law_r5 : List Cond := [Cond.methodLink RX2 11 yX3_init, Cond.instanceMethod yX1_init, Cond.code yX1_init cX1_init 1 none, Cond.methodLink RX1 3 objectInit, Cond.classLink RX1 9 RX0, Cond.fieldLink RX1 11 "BookedDetours$History" "days" "[LBookedDetours$Day;", Cond.methodLink RL 12 yX7_init, Cond.instanceMethod yX7_init, Cond.code yX7_init cX7_init 1 none, Cond.methodLink RX7 1 objectInit, Cond.fieldLink RX7 7 "BookedDetoursModel" "s" "[I", Cond.fieldLink RX7 13 "BookedDetoursModel" "aside" "[I", Cond.fieldLink RX7 16 "BookedDetoursModel" "undos" "[I", Cond.fieldLink RX7 19 "BookedDetoursModel" "slots" "[I", Cond.arrayClass .boolean, Cond.fieldLink RX7 22 "BookedDetoursModel" "hasSlot" "[Z", Cond.fieldLink RX7 26 "BookedDetoursModel" "pad" "[I", Cond.fieldLink RX7 29 "BookedDetoursModel" "way" "[I", Cond.fieldLink RX7 32 "BookedDetoursModel" "times" "[I", Cond.fieldLink RX7 35 "BookedDetoursModel" "waits" "[I", Cond.fieldLink RX7 38 "BookedDetoursModel" "aboards" "[I", Cond.fieldLink RX7 41 "BookedDetoursModel" "told" "[I", Cond.fieldLink RX7 44 "BookedDetoursModel" "thrown" "I", Cond.methodLink RL 13 yX6_set]
def wsL_law_r6 : List Cond := [Cond.instanceMethod yX6_set, Cond.selects RX6 yX6_set yX6_set, Cond.code yX6_set cX6_set 4 (some .int), Cond.fieldLink RX6 55 "BookedDetours$Day" "route" "LBookedDetours$Row;", Cond.fieldLink RX6 69 "BookedDetours$Day" "settings" "LBookedDetours$Row;", Cond.methodLink RX6 48 yX6_leastOf, Cond.static yX6_leastOf, Cond.code yX6_leastOf cX6_leastOf 1 (some .int), Cond.methodLink RX6 52 yX6_mostOf, Cond.static yX6_mostOf, Cond.code yX6_mostOf cX6_mostOf 1 (some .int), Cond.methodLink RX6 59 yX3_length, Cond.instanceMethod yX3_length, Cond.selects RX3 yX3_length yX3_length, Cond.code yX3_length cX3_length 1 (some .int), Cond.methodLink RX6 65 yX1_add, Cond.instanceMethod yX1_add, Cond.selects RX1 yX1_add yX1_add, Cond.code yX1_add cX1_add 3 none, Cond.fieldLink RX1 17 "BookedDetours$History" "length" "I", Cond.methodLink RX1 21 yX1_dropOldest, Cond.instanceMethod yX1_dropOldest, Cond.selects RX1 yX1_dropOldest yX1_dropOldest, Cond.code yX1_dropOldest cX1_dropOldest 3 none]
def wsL_law_r7 : List Cond := [Cond.methodLink RX1 24 yX0_init, Cond.methodLink RX1 25 yX0_copy, Cond.instanceMethod yX0_copy, Cond.selects RX0 yX0_copy yX0_copy, Cond.code yX0_copy cX0_copy 2 none, Cond.fieldLink RX0 60 "BookedDetours$Day" "now" "I", Cond.fieldLink RX0 64 "BookedDetours$Day" "busStop" "I", Cond.fieldLink RX0 67 "BookedDetours$Day" "busFree" "I", Cond.methodLink RX0 56 yX3_copy, Cond.instanceMethod yX3_copy, Cond.selects RX3 yX3_copy yX3_copy, Cond.code yX3_copy cX3_copy 3 none, Cond.methodLink RX3 27 Lib.Math.min.name, Cond.static Lib.Math.min.name, Cond.code Lib.Math.min.name Lib.Math.min.code 2 (some .int), Cond.methodLink RX6 72 yX3_at, Cond.instanceMethod yX3_at, Cond.selects RX3 yX3_at yX3_at, Cond.code yX3_at cX3_at 2 (some .int), Cond.methodLink RX6 75 yX3_change, Cond.instanceMethod yX3_change, Cond.selects RX3 yX3_change yX3_change, Cond.code yX3_change cX3_change 3 none, Cond.methodLink RL 17 yX7_set]
def wsL_law_r8 : List Cond := [Cond.instanceMethod yX7_set, Cond.selects RX7 yX7_set yX7_set, Cond.code yX7_set cX7_set 5 (some .int), Cond.methodLink RX7 48 yX7_in, Cond.static yX7_in, Cond.code yX7_in cX7_in 3 (some .boolean), Cond.methodLink RX7 149 yX7_records, Cond.instanceMethod yX7_records, Cond.selects RX7 yX7_records yX7_records, Cond.code yX7_records cX7_records 2 none, Cond.fieldLink RX7 52 "BookedDetoursModel" "undoMany" "I", Cond.methodLink RL 18 yX6_stop, Cond.instanceMethod yX6_stop, Cond.selects RX6 yX6_stop yX6_stop, Cond.code yX6_stop cX6_stop 3 (some .int), Cond.fieldLink RX6 79 "BookedDetours$Day" "xs" "LBookedDetours$Row;", Cond.fieldLink RX6 85 "BookedDetours$Day" "ys" "LBookedDetours$Row;", Cond.methodLink RX6 82 yX3_add, Cond.methodLink RL 21 yX7_stop, Cond.instanceMethod yX7_stop, Cond.selects RX7 yX7_stop yX7_stop, Cond.code yX7_stop cX7_stop 3 (some .int), Cond.methodLink RL 22 yX6_book, Cond.instanceMethod yX6_book]
def wsL_law_r9 : List Cond := [Cond.selects RX6 yX6_book yX6_book, Cond.code yX6_book cX6_book 6 (some .int), Cond.fieldLink RX6 92 "BookedDetours$Search" "day" "LBookedDetours$Day;", Cond.methodLink RX6 88 yX6_tryToBook, Cond.instanceMethod yX6_tryToBook, Cond.selects RX6 yX6_tryToBook yX6_tryToBook, Cond.code yX6_tryToBook cX6_tryToBook 6 (some .int), Cond.fieldLink RX6 100 "BookedDetours$Day" "stands" "LBookedDetours$Row;", Cond.methodLink RX6 186 yX6_errorOf, Cond.instanceMethod yX6_errorOf, Cond.selects RX6 yX6_errorOf yX6_errorOf, Cond.code yX6_errorOf cX6_errorOf 5 (some .int), Cond.methodLink RX6 168 yX0_hasStop, Cond.instanceMethod yX0_hasStop, Cond.selects RX0 yX0_hasStop yX0_hasStop, Cond.code yX0_hasStop cX0_hasStop 2 (some .boolean), Cond.methodLink RX0 70 yX3_length, Cond.methodLink RX6 189 yX4_find, Cond.instanceMethod yX4_find, Cond.selects RX4 yX4_find yX4_find, Cond.code yX4_find cX4_find 10 (some .boolean), Cond.fieldLink RX4 34 "BookedDetours$Search" "ways" "I", Cond.fieldLink RX4 38 "BookedDetours$Day" "route" "LBookedDetours$Row;", Cond.fieldLink RX4 64 "BookedDetours$Search" "pickPlace" "I"]
def wsL_law_r10 : List Cond := [Cond.fieldLink RX4 67 "BookedDetours$Search" "downPlace" "I", Cond.methodLink RX4 23 yX0_copy, Cond.methodLink RX4 27 yX0_beReady, Cond.instanceMethod yX0_beReady, Cond.selects RX0 yX0_beReady yX0_beReady, Cond.code yX0_beReady cX0_beReady 1 none, Cond.methodLink RX0 94 Lib.Math.max.name, Cond.methodLink RX4 30 yX0_addRide, Cond.instanceMethod yX0_addRide, Cond.selects RX0 yX0_addRide yX0_addRide, Cond.code yX0_addRide cX0_addRide 5 (some .int), Cond.methodLink RX0 90 yX0_minutes, Cond.instanceMethod yX0_minutes, Cond.selects RX0 yX0_minutes yX0_minutes, Cond.code yX0_minutes cX0_minutes 3 (some .int), Cond.methodLink RX0 78 Lib.Math.abs.name, Cond.static Lib.Math.abs.name, Cond.code Lib.Math.abs.name Lib.Math.abs.code 1 (some .int), Cond.methodLink RX0 74 yX3_at, Cond.methodLink RX4 42 yX3_length, Cond.methodLink RX4 48 yX0_isOnItsWay, Cond.instanceMethod yX0_isOnItsWay, Cond.selects RX0 yX0_isOnItsWay yX0_isOnItsWay, Cond.code yX0_isOnItsWay cX0_isOnItsWay 1 (some .boolean)]
def wsL_law_r11 : List Cond := [Cond.methodLink RX4 52 yX4_lay, Cond.instanceMethod yX4_lay, Cond.selects RX4 yX4_lay yX4_lay, Cond.code yX4_lay cX4_lay 5 none, Cond.methodLink RX4 101 yX3_copy, Cond.static yX6_pickUp, Cond.code yX6_pickUp cX6_pickUp 1 (some .int), Cond.methodLink RX4 109 yX3_insert, Cond.static yX6_setDown, Cond.code yX6_setDown cX6_setDown 1 (some .int), Cond.methodLink RX4 56 yX5_keepsAll, Cond.instanceMethod yX5_keepsAll, Cond.selects RX5 yX5_keepsAll yX5_keepsAll, Cond.code yX5_keepsAll cX5_keepsAll 3 (some .boolean), Cond.fieldLink RX5 36 "BookedDetours$Day" "route" "LBookedDetours$Row;", Cond.methodLink RX5 32 yX5_begin, Cond.instanceMethod yX5_begin, Cond.selects RX5 yX5_begin yX5_begin, Cond.code yX5_begin cX5_begin 2 none, Cond.fieldLink RX5 56 "BookedDetours$Day" "picks" "LBookedDetours$Row;", Cond.fieldLink RX5 61 "BookedDetours$Day" "downs" "LBookedDetours$Row;", Cond.fieldLink RX5 62 "BookedDetours$Day" "busStop" "I", Cond.fieldLink RX5 66 "BookedDetours$Timetable" "stop" "I", Cond.fieldLink RX5 69 "BookedDetours$Day" "busFree" "I"]
def wsL_law_r12 : List Cond := [Cond.fieldLink RX5 72 "BookedDetours$Timetable" "free" "I", Cond.fieldLink RX5 78 "BookedDetours$Timetable" "aboard" "I", Cond.fieldLink RX5 81 "BookedDetours$Timetable" "driving" "I", Cond.fieldLink RX5 84 "BookedDetours$Timetable" "waiting" "I", Cond.methodLink RX5 53 yX3_clear, Cond.instanceMethod yX3_clear, Cond.selects RX3 yX3_clear yX3_clear, Cond.code yX3_clear cX3_clear 1 none, Cond.methodLink RX5 57 yX3_copy, Cond.methodLink RX5 75 yX0_ridesThatStand, Cond.instanceMethod yX0_ridesThatStand, Cond.selects RX0 yX0_ridesThatStand yX0_ridesThatStand, Cond.code yX0_ridesThatStand cX0_ridesThatStand 4 (some .int), Cond.methodLink RX5 41 yX3_length, Cond.methodLink RX5 45 yX3_at, Cond.methodLink RX5 49 yX5_step, Cond.instanceMethod yX5_step, Cond.selects RX5 yX5_step yX5_step, Cond.code yX5_step cX5_step 9 (some .boolean), Cond.fieldLink RX5 101 "BookedDetours$Day" "waits" "LBookedDetours$Row;", Cond.methodLink RX5 104 Lib.Math.max.name, Cond.fieldLink RX5 109 "BookedDetours$Day" "settings" "LBookedDetours$Row;", Cond.fieldLink RX5 119 "BookedDetours$Day" "bys" "LBookedDetours$Row;", Cond.static yX6_rideOf]
def wsL_law_r13 : List Cond := [Cond.code yX6_rideOf cX6_rideOf 1 (some .int), Cond.static yX6_setsDown, Cond.code yX6_setsDown cX6_setsDown 1 (some .boolean), Cond.methodLink RX5 94 yX0_stopOf, Cond.instanceMethod yX0_stopOf, Cond.selects RX0 yX0_stopOf yX0_stopOf, Cond.code yX0_stopOf cX0_stopOf 3 (some .int), Cond.methodLink RX5 97 yX0_minutes, Cond.methodLink RX5 112 yX3_add, Cond.methodLink RX5 115 yX3_change, Cond.methodLink RX5 122 yX5_latestByDetour, Cond.instanceMethod yX5_latestByDetour, Cond.selects RX5 yX5_latestByDetour yX5_latestByDetour, Cond.code yX5_latestByDetour cX5_latestByDetour 4 (some .int), Cond.fieldLink RX5 126 "BookedDetours$Day" "straights" "LBookedDetours$Row;", Cond.methodLink RX4 60 yX4_takeWay, Cond.instanceMethod yX4_takeWay, Cond.selects RX4 yX4_takeWay yX4_takeWay, Cond.code yX4_takeWay cX4_takeWay 5 none, Cond.fieldLink RX4 70 "BookedDetours$Timetable" "downs" "LBookedDetours$Row;", Cond.fieldLink RX4 77 "BookedDetours$Search" "earliestDown" "I", Cond.methodLink RX4 80 Lib.Math.min.name, Cond.fieldLink RX4 86 "BookedDetours$Timetable" "free" "I", Cond.fieldLink RX4 89 "BookedDetours$Search" "over" "I"]
def wsL_law_r14 : List Cond := [Cond.fieldLink RX4 92 "BookedDetours$Timetable" "picks" "LBookedDetours$Row;", Cond.fieldLink RX4 95 "BookedDetours$Search" "pickTime" "I", Cond.fieldLink RX4 98 "BookedDetours$Search" "downTime" "I", Cond.methodLink RX4 73 yX3_at, Cond.methodLink RX6 93 yX0_copy, Cond.methodLink RL 26 yX7_book, Cond.instanceMethod yX7_book, Cond.selects RX7 yX7_book yX7_book, Cond.code yX7_book cX7_book 6 (some .int), Cond.methodLink RX7 146 yX7_refusesBook, Cond.instanceMethod yX7_refusesBook, Cond.selects RX7 yX7_refusesBook yX7_refusesBook, Cond.code yX7_refusesBook cX7_refusesBook 6 (some .int), Cond.methodLink RX7 136 yX7_refuses, Cond.instanceMethod yX7_refuses, Cond.selects RX7 yX7_refuses yX7_refuses, Cond.code yX7_refuses cX7_refuses 5 (some .int), Cond.methodLink RX7 132 yX7_isStop, Cond.instanceMethod yX7_isStop, Cond.selects RX7 yX7_isStop yX7_isStop, Cond.code yX7_isStop cX7_isStop 2 (some .boolean), Cond.methodLink RX7 140 yX7_laysRide, Cond.instanceMethod yX7_laysRide, Cond.selects RX7 yX7_laysRide yX7_laysRide]
def wsL_law_r15 : List Cond := [Cond.code yX7_laysRide cX7_laysRide 6 (some .int), Cond.methodLink RX7 103 yX7_lay, Cond.instanceMethod yX7_lay, Cond.selects RX7 yX7_lay yX7_lay, Cond.code yX7_lay cX7_lay 4 none, Cond.methodLink RX7 143 yX7_findsWay, Cond.instanceMethod yX7_findsWay, Cond.selects RX7 yX7_findsWay yX7_findsWay, Cond.code yX7_findsWay cX7_findsWay 5 (some .boolean), Cond.fieldLink RX7 107 "BookedDetoursModel" "wayCount" "I", Cond.fieldLink RX7 110 "BookedDetoursModel" "bestOver" "I", Cond.fieldLink RX7 113 "BookedDetoursModel" "leastDown" "I", Cond.fieldLink RX7 75 "BookedDetoursModel" "isKept" "Z", Cond.fieldLink RX7 87 "BookedDetoursModel" "over" "I", Cond.fieldLink RX7 126 "BookedDetoursModel" "bestPick" "I", Cond.fieldLink RX7 129 "BookedDetoursModel" "bestSet" "I", Cond.methodLink RX7 116 yX7_leaving, Cond.instanceMethod yX7_leaving, Cond.selects RX7 yX7_leaving yX7_leaving, Cond.code yX7_leaving cX7_leaving 1 (some .int), Cond.methodLink RX7 119 yX7_isOnWay, Cond.instanceMethod yX7_isOnWay, Cond.selects RX7 yX7_isOnWay yX7_isOnWay, Cond.code yX7_isOnWay cX7_isOnWay 1 (some .boolean)]
def wsL_law_r16 : List Cond := [Cond.methodLink RX7 123 yX7_laysWay, Cond.instanceMethod yX7_laysWay, Cond.selects RX7 yX7_laysWay yX7_laysWay, Cond.code yX7_laysWay cX7_laysWay 6 none, Cond.fieldLink RX7 65 "BookedDetoursModel" "wayMany" "I", Cond.methodLink RX7 99 yX7_drives, Cond.instanceMethod yX7_drives, Cond.selects RX7 yX7_drives yX7_drives, Cond.code yX7_drives cX7_drives 8 none, Cond.fieldLink RX7 72 "BookedDetoursModel" "driven" "I", Cond.methodLink RX7 68 yX7_aboardNow, Cond.instanceMethod yX7_aboardNow, Cond.selects RX7 yX7_aboardNow yX7_aboardNow, Cond.code yX7_aboardNow cX7_aboardNow 3 (some .int), Cond.methodLink RX7 59 yX7_of, Cond.instanceMethod yX7_of, Cond.selects RX7 yX7_of yX7_of, Cond.code yX7_of cX7_of 3 (some .int), Cond.methodLink RX7 79 yX7_stopOf, Cond.instanceMethod yX7_stopOf, Cond.selects RX7 yX7_stopOf yX7_stopOf, Cond.code yX7_stopOf cX7_stopOf 2 (some .int), Cond.methodLink RX7 62 yX7_drive, Cond.instanceMethod yX7_drive]
def wsL_law_r17 : List Cond := [Cond.selects RX7 yX7_drive yX7_drive, Cond.code yX7_drive cX7_drive 3 (some .int), Cond.methodLink RX7 55 yX7_apart, Cond.static yX7_apart, Cond.code yX7_apart cX7_apart 2 (some .int), Cond.methodLink RX7 83 yX7_isInTime, Cond.instanceMethod yX7_isInTime, Cond.selects RX7 yX7_isInTime yX7_isInTime, Cond.code yX7_isInTime cX7_isInTime 5 (some .boolean), Cond.methodLink RX7 90 yX7_placeOf, Cond.instanceMethod yX7_placeOf, Cond.selects RX7 yX7_placeOf yX7_placeOf, Cond.code yX7_placeOf cX7_placeOf 3 (some .int), Cond.methodLink RX7 93 yX7_straight, Cond.instanceMethod yX7_straight, Cond.selects RX7 yX7_straight yX7_straight, Cond.code yX7_straight cX7_straight 2 (some .int), Cond.methodLink RX7 152 yX7_books, Cond.instanceMethod yX7_books, Cond.selects RX7 yX7_books yX7_books, Cond.code yX7_books cX7_books 2 (some .int), Cond.methodLink RL 27 yX6_cancel, Cond.instanceMethod yX6_cancel, Cond.selects RX6 yX6_cancel yX6_cancel]
def wsL_law_r18 : List Cond := [Cond.code yX6_cancel cX6_cancel 2 (some .int), Cond.methodLink RX6 96 yX0_hasRide, Cond.instanceMethod yX0_hasRide, Cond.selects RX0 yX0_hasRide yX0_hasRide, Cond.code yX0_hasRide cX0_hasRide 2 (some .boolean), Cond.methodLink RX6 103 yX0_leaveOut, Cond.instanceMethod yX0_leaveOut, Cond.selects RX0 yX0_leaveOut yX0_leaveOut, Cond.code yX0_leaveOut cX0_leaveOut 4 none, Cond.methodLink RX0 97 yX0_isOnItsWay, Cond.methodLink RX0 101 yX0_endAtFirst, Cond.instanceMethod yX0_endAtFirst, Cond.selects RX0 yX0_endAtFirst yX0_endAtFirst, Cond.code yX0_endAtFirst cX0_endAtFirst 2 none, Cond.methodLink RX0 111 yX0_stopOf, Cond.methodLink RX0 104 yX3_remove, Cond.instanceMethod yX3_remove, Cond.selects RX3 yX3_remove yX3_remove, Cond.code yX3_remove cX3_remove 3 none, Cond.methodLink RX0 107 yX3_change, Cond.methodLink RL 31 yX7_cancel, Cond.instanceMethod yX7_cancel, Cond.selects RX7 yX7_cancel yX7_cancel, Cond.code yX7_cancel cX7_cancel 2 (some .int)]
def wsL_law_r19 : List Cond := [Cond.methodLink RX7 158 yX7_isRide, Cond.instanceMethod yX7_isRide, Cond.selects RX7 yX7_isRide yX7_isRide, Cond.code yX7_isRide cX7_isRide 2 (some .boolean), Cond.methodLink RX7 161 yX7_cancels, Cond.instanceMethod yX7_cancels, Cond.selects RX7 yX7_cancels yX7_cancels, Cond.code yX7_cancels cX7_cancels 2 none, Cond.methodLink RX7 155 yX7_leaves, Cond.instanceMethod yX7_leaves, Cond.selects RX7 yX7_leaves yX7_leaves, Cond.code yX7_leaves cX7_leaves 4 none, Cond.methodLink RL 32 yX6_pass, Cond.instanceMethod yX6_pass, Cond.selects RX6 yX6_pass yX6_pass, Cond.code yX6_pass cX6_pass 2 (some .int), Cond.fieldLink RX6 106 "BookedDetours$Day" "now" "I", Cond.methodLink RX6 110 yX5_follow, Cond.instanceMethod yX5_follow, Cond.selects RX5 yX5_follow yX5_follow, Cond.code yX5_follow cX5_follow 3 none, Cond.methodLink RX6 113 yX0_carryOut, Cond.instanceMethod yX0_carryOut, Cond.selects RX0 yX0_carryOut yX0_carryOut]
def wsL_law_r20 : List Cond := [Cond.code yX0_carryOut cX0_carryOut 5 (some .int), Cond.fieldLink RX0 114 "BookedDetours$Timetable" "times" "LBookedDetours$Row;", Cond.methodLink RX0 119 yX0_make, Cond.instanceMethod yX0_make, Cond.selects RX0 yX0_make yX0_make, Cond.code yX0_make cX0_make 4 none, Cond.methodLink RL 35 yX7_pass, Cond.instanceMethod yX7_pass, Cond.selects RX7 yX7_pass yX7_pass, Cond.code yX7_pass cX7_pass 3 (some .int), Cond.methodLink RX7 164 yX7_drivesRoute, Cond.instanceMethod yX7_drivesRoute, Cond.selects RX7 yX7_drivesRoute yX7_drivesRoute, Cond.code yX7_drivesRoute cX7_drivesRoute 1 none, Cond.methodLink RX7 96 yX7_laysRoute, Cond.instanceMethod yX7_laysRoute, Cond.selects RX7 yX7_laysRoute yX7_laysRoute, Cond.code yX7_laysRoute cX7_laysRoute 2 none, Cond.methodLink RX7 167 yX7_visits, Cond.instanceMethod yX7_visits, Cond.selects RX7 yX7_visits yX7_visits, Cond.code yX7_visits cX7_visits 4 none, Cond.methodLink RL 36 yX6_miss, Cond.instanceMethod yX6_miss]
def wsL_law_r21 : List Cond := [Cond.selects RX6 yX6_miss yX6_miss, Cond.code yX6_miss cX6_miss 2 (some .int), Cond.methodLink RL 39 yX7_miss, Cond.instanceMethod yX7_miss, Cond.selects RX7 yX7_miss yX7_miss, Cond.code yX7_miss cX7_miss 2 (some .int), Cond.methodLink RL 40 yX6_bookAll, Cond.instanceMethod yX6_bookAll, Cond.selects RX6 yX6_bookAll yX6_bookAll, Cond.code yX6_bookAll cX6_bookAll 4 (some .int), Cond.fieldLink RX6 120 "BookedDetours$Pad" "numbers" "LBookedDetours$Row;", Cond.fieldLink RX6 123 "BookedDetours$Pad" "signs" "LBookedDetours$Row;", Cond.methodLink RX6 117 yX2_findFault, Cond.instanceMethod yX2_findFault, Cond.selects RX2 yX2_findFault yX2_findFault, Cond.code yX2_findFault cX2_findFault 5 (some .int), Cond.methodLink RX2 26 yX3_clear, Cond.methodLink RX2 29 yX3_length, Cond.methodLink RX2 33 yX3_at, Cond.methodLink RX2 37 yX2_withDigit, Cond.static yX2_withDigit, Cond.code yX2_withDigit cX2_withDigit 2 (some .int), Cond.methodLink RX2 41 yX2_mostIn, Cond.static yX2_mostIn]
def wsL_law_r22 : List Cond := [Cond.code yX2_mostIn cX2_mostIn 1 (some .int), Cond.methodLink RX2 44 yX2_endOf, Cond.static yX2_endOf, Cond.code yX2_endOf cX2_endOf 1 (some .char), Cond.methodLink RX2 23 yX3_add, Cond.methodLink RX6 126 yX3_clear, Cond.methodLink RL 44 yX7_bookAll, Cond.instanceMethod yX7_bookAll, Cond.selects RX7 yX7_bookAll yX7_bookAll, Cond.code yX7_bookAll cX7_bookAll 2 (some .int), Cond.fieldLink RX7 172 "BookedDetoursModel" "length" "I", Cond.fieldLink RX7 190 "BookedDetoursModel" "toldMany" "I", Cond.methodLink RX7 196 yX7_reads, Cond.instanceMethod yX7_reads, Cond.selects RX7 yX7_reads yX7_reads, Cond.code yX7_reads cX7_reads 1 (some .int), Cond.fieldLink RX7 175 "BookedDetoursModel" "at" "I", Cond.fieldLink RX7 178 "BookedDetoursModel" "isWell" "Z", Cond.methodLink RX7 193 yX7_readsBooking, Cond.instanceMethod yX7_readsBooking, Cond.selects RX7 yX7_readsBooking yX7_readsBooking, Cond.code yX7_readsBooking cX7_readsBooking 5 none, Cond.methodLink RX7 184 yX7_number, Cond.instanceMethod yX7_number]
def wsL_law_r23 : List Cond := [Cond.selects RX7 yX7_number yX7_number, Cond.code yX7_number cX7_number 3 (some .int), Cond.methodLink RX7 181 yX7_sign, Cond.instanceMethod yX7_sign, Cond.selects RX7 yX7_sign yX7_sign, Cond.code yX7_sign cX7_sign 1 (some .int), Cond.methodLink RX7 187 yX7_wants, Cond.instanceMethod yX7_wants, Cond.selects RX7 yX7_wants yX7_wants, Cond.code yX7_wants cX7_wants 2 none, Cond.methodLink RL 45 yX6_ride, Cond.instanceMethod yX6_ride, Cond.selects RX6 yX6_ride yX6_ride, Cond.code yX6_ride cX6_ride 3 (some .int), Cond.fieldLink RX6 129 "BookedDetours$Day" "froms" "LBookedDetours$Row;", Cond.fieldLink RX6 132 "BookedDetours$Day" "tos" "LBookedDetours$Row;", Cond.fieldLink RX6 135 "BookedDetours$Day" "waits" "LBookedDetours$Row;", Cond.fieldLink RX6 138 "BookedDetours$Day" "bys" "LBookedDetours$Row;", Cond.fieldLink RX6 141 "BookedDetours$Timetable" "picks" "LBookedDetours$Row;", Cond.fieldLink RX6 144 "BookedDetours$Timetable" "downs" "LBookedDetours$Row;", Cond.fieldLink RX6 147 "BookedDetours$Day" "straights" "LBookedDetours$Row;", Cond.methodLink RL 48 yX7_ride, Cond.instanceMethod yX7_ride, Cond.selects RX7 yX7_ride yX7_ride]
def wsL_law_r24 : List Cond := [Cond.code yX7_ride cX7_ride 3 (some .int), Cond.methodLink RX7 199 yX7_timeOf, Cond.instanceMethod yX7_timeOf, Cond.selects RX7 yX7_timeOf yX7_timeOf, Cond.code yX7_timeOf cX7_timeOf 4 (some .int), Cond.methodLink RL 49 yX6_visit, Cond.instanceMethod yX6_visit, Cond.selects RX6 yX6_visit yX6_visit, Cond.code yX6_visit cX6_visit 4 (some .int), Cond.fieldLink RX6 159 "BookedDetours$Timetable" "times" "LBookedDetours$Row;", Cond.fieldLink RX6 162 "BookedDetours$Timetable" "loads" "LBookedDetours$Row;", Cond.fieldLink RX6 165 "BookedDetours$Timetable" "delays" "LBookedDetours$Row;", Cond.methodLink RX6 150 yX6_rideOf, Cond.methodLink RX6 153 yX6_setsDown, Cond.methodLink RX6 156 yX0_stopOf, Cond.methodLink RL 52 yX7_visit, Cond.instanceMethod yX7_visit, Cond.selects RX7 yX7_visit yX7_visit, Cond.code yX7_visit cX7_visit 3 (some .int), Cond.methodLink RL 53 yX6_coordinate, Cond.instanceMethod yX6_coordinate, Cond.selects RX6 yX6_coordinate yX6_coordinate, Cond.code yX6_coordinate cX6_coordinate 3 (some .int), Cond.methodLink RL 56 yX7_coordinate]
def wsL_law_r25 : List Cond := [Cond.instanceMethod yX7_coordinate, Cond.selects RX7 yX7_coordinate yX7_coordinate, Cond.code yX7_coordinate cX7_coordinate 3 (some .int), Cond.methodLink RL 57 yX6_count, Cond.instanceMethod yX6_count, Cond.selects RX6 yX6_count yX6_count, Cond.code yX6_count cX6_count 2 (some .int), Cond.fieldLink RX6 178 "BookedDetours$Timetable" "driving" "I", Cond.fieldLink RX6 181 "BookedDetours$Timetable" "waiting" "I", Cond.fieldLink RX6 184 "BookedDetours$History" "length" "I", Cond.methodLink RX6 171 yX6_overOf, Cond.instanceMethod yX6_overOf, Cond.selects RX6 yX6_overOf yX6_overOf, Cond.code yX6_overOf cX6_overOf 2 (some .int), Cond.fieldLink RX6 220 "BookedDetours$Timetable" "free" "I", Cond.methodLink RX6 175 yX0_ridesThatStand, Cond.methodLink RL 60 yX7_count, Cond.instanceMethod yX7_count, Cond.selects RX7 yX7_count yX7_count, Cond.code yX7_count cX7_count 2 (some .int), Cond.methodLink RX7 203 yX7_standing, Cond.instanceMethod yX7_standing, Cond.selects RX7 yX7_standing yX7_standing, Cond.code yX7_standing cX7_standing 4 (some .int)]
def wsL_law_r26 : List Cond := [Cond.methodLink RX7 206 yX7_waiting, Cond.instanceMethod yX7_waiting, Cond.selects RX7 yX7_waiting yX7_waiting, Cond.code yX7_waiting cX7_waiting 3 (some .int), Cond.methodLink RL 61 yX6_ifBooked, Cond.instanceMethod yX6_ifBooked, Cond.selects RX6 yX6_ifBooked yX6_ifBooked, Cond.code yX6_ifBooked cX6_ifBooked 8 (some .int), Cond.fieldLink RX6 193 "BookedDetours$Search" "ways" "I", Cond.fieldLink RX6 196 "BookedDetours$Search" "over" "I", Cond.fieldLink RX6 199 "BookedDetours$Search" "pickTime" "I", Cond.fieldLink RX6 202 "BookedDetours$Search" "downTime" "I", Cond.methodLink RL 65 yX7_ifBooked, Cond.instanceMethod yX7_ifBooked, Cond.selects RX7 yX7_ifBooked yX7_ifBooked, Cond.code yX7_ifBooked cX7_ifBooked 9 (some .int), Cond.methodLink RL 66 yX6_earliestBy, Cond.instanceMethod yX6_earliestBy, Cond.selects RX6 yX6_earliestBy yX6_earliestBy, Cond.code yX6_earliestBy cX6_earliestBy 5 (some .int), Cond.fieldLink RX6 205 "BookedDetours$Search" "earliestDown" "I", Cond.methodLink RL 70 yX7_earliestBy, Cond.instanceMethod yX7_earliestBy, Cond.selects RX7 yX7_earliestBy yX7_earliestBy]
def wsL_law_r27 : List Cond := [Cond.code yX7_earliestBy cX7_earliestBy 5 (some .int), Cond.methodLink RL 71 yX6_spare, Cond.instanceMethod yX6_spare, Cond.selects RX6 yX6_spare yX6_spare, Cond.code yX6_spare cX6_spare 3 (some .int), Cond.methodLink RL 74 yX7_spare, Cond.instanceMethod yX7_spare, Cond.selects RX7 yX7_spare yX7_spare, Cond.code yX7_spare cX7_spare 2 (some .int), Cond.methodLink RL 75 yX6_dearest, Cond.instanceMethod yX6_dearest, Cond.selects RX6 yX6_dearest yX6_dearest, Cond.code yX6_dearest cX6_dearest 7 (some .int), Cond.methodLink RL 78 yX7_dearest, Cond.instanceMethod yX7_dearest, Cond.selects RX7 yX7_dearest yX7_dearest, Cond.code yX7_dearest cX7_dearest 7 (some .int), Cond.methodLink RX7 209 yX7_putAside, Cond.instanceMethod yX7_putAside, Cond.selects RX7 yX7_putAside yX7_putAside, Cond.code yX7_putAside cX7_putAside 2 none, Cond.methodLink RX7 212 yX7_takeBack, Cond.instanceMethod yX7_takeBack, Cond.selects RX7 yX7_takeBack yX7_takeBack]
def wsL_law_r28 : List Cond := [Cond.code yX7_takeBack cX7_takeBack 2 none, Cond.methodLink RL 81 yX6_put, Cond.instanceMethod yX6_put, Cond.selects RX6 yX6_put yX6_put, Cond.code yX6_put cX6_put 4 (some .int), Cond.methodLink RX6 208 yX2_signsIn, Cond.static yX2_signsIn, Cond.code yX2_signsIn cX2_signsIn 5 (some .int), Cond.methodLink RX6 212 yX2_append, Cond.instanceMethod yX2_append, Cond.selects RX2 yX2_append yX2_append, Cond.code yX2_append cX2_append 5 none, Cond.methodLink RL 85 yX7_put, Cond.instanceMethod yX7_put, Cond.selects RX7 yX7_put yX7_put, Cond.code yX7_put cX7_put 8 (some .int), Cond.constantLong RX7 170 (255), Cond.methodLink RL 86 yX6_wipe, Cond.instanceMethod yX6_wipe, Cond.selects RX6 yX6_wipe yX6_wipe, Cond.code yX6_wipe cX6_wipe 2 (some .int), Cond.methodLink RL 89 yX7_wipe, Cond.instanceMethod yX7_wipe, Cond.selects RX7 yX7_wipe yX7_wipe]
def wsL_law_r29 : List Cond := [Cond.code yX7_wipe cX7_wipe 2 (some .int), Cond.methodLink RL 90 yX6_fault, Cond.instanceMethod yX6_fault, Cond.selects RX6 yX6_fault yX6_fault, Cond.code yX6_fault cX6_fault 1 (some .int), Cond.methodLink RL 93 yX7_fault, Cond.instanceMethod yX7_fault, Cond.selects RX7 yX7_fault yX7_fault, Cond.code yX7_fault cX7_fault 1 (some .int), Cond.methodLink RL 94 yX6_undo, Cond.instanceMethod yX6_undo, Cond.selects RX6 yX6_undo yX6_undo, Cond.code yX6_undo cX6_undo 1 (some .int), Cond.methodLink RX6 216 yX1_takeLatest, Cond.instanceMethod yX1_takeLatest, Cond.selects RX1 yX1_takeLatest yX1_takeLatest, Cond.code yX1_takeLatest cX1_takeLatest 3 (some .boolean), Cond.methodLink RL 97 yX7_undo, Cond.instanceMethod yX7_undo, Cond.selects RX7 yX7_undo yX7_undo, Cond.code yX7_undo cX7_undo 2 (some .int), Cond.methodLink RL 98 yX6_save, Cond.instanceMethod yX6_save, Cond.selects RX6 yX6_save yX6_save]
def wsL_law_r30 : List Cond := [Cond.code yX6_save cX6_save 3 (some .int), Cond.methodLink RL 101 yX7_save, Cond.instanceMethod yX7_save, Cond.selects RX7 yX7_save yX7_save, Cond.code yX7_save cX7_save 3 (some .int), Cond.methodLink RL 102 yX6_restore, Cond.instanceMethod yX6_restore, Cond.selects RX6 yX6_restore yX6_restore, Cond.code yX6_restore cX6_restore 3 (some .int), Cond.methodLink RL 105 yX7_restore, Cond.instanceMethod yX7_restore, Cond.selects RX7 yX7_restore yX7_restore, Cond.code yX7_restore cX7_restore 3 (some .int)]
def wsL_law : List Cond := (wsL_law_r1 ++ (wsL_law_r2 ++ (wsL_law_r3 ++ (wsL_law_r4 ++ (wsL_law_r5 ++ (wsL_law_r6 ++ (wsL_law_r7 ++ (wsL_law_r8 ++ (wsL_law_r9 ++ (wsL_law_r10 ++ (wsL_law_r11 ++ (wsL_law_r12 ++ (wsL_law_r13 ++ (wsL_law_r14 ++ (wsL_law_r15 ++ (wsL_law_r16 ++ (wsL_law_r17 ++ (wsL_law_r18 ++ (wsL_law_r19 ++ (wsL_law_r20 ++ (wsL_law_r21 ++ (wsL_law_r22 ++ (wsL_law_r23 ++ (wsL_law_r24 ++ (wsL_law_r25 ++ (wsL_law_r26 ++ (wsL_law_r27 ++ (wsL_law_r28 ++ (wsL_law_r29 ++ wsL_law_r30))))))))))))))))))))))))))))) ++ wsX60 ++ wsX70 ++ wsX00 ++ wsX50 ++ wsX40 ++ wsX20 ++ wsX10 ++ wsX30 ++ ([] : List Cond)
abbrev vwCl : List vw_C := [(RX0, TX0, 15), (RX1, TX1, 2), (RX2, TX2, 2), (RX3, TX3, 2), (RX4, TX4, 9), (RX5, TX5, 10), (RX6, TX6, 6), (RX7, TX7, 26)]
end
section
/-! ===== a judgement over worlds that are lists of blocks: the machine's own things in one name Z ===== -/
/-- launch, class numbers, the classes of int[], boolean[], Day[] -/
abbrev yG : Type := Launch × va_G × ClassId × ClassId × ClassId
abbrev yZ : Type := Program × Launch × Env × State × MethodId × Array Value × List Frame × Method × Code × (State → Prop) × va_G × List (ClassId × FieldType) × (Nat → Prop) × Nat
def yTy (g : yG) : List (ClassId × FieldType) := [(g.2.2.1, .int), (g.2.2.2.1, .boolean), (g.2.2.2.2, .object RX0)]
/-- the links to private members of nest mates -/
def yN : List Cond := [.methodLinkNest RX6 18 yX5_init RX6, .methodLinkNest RX6 25 yX4_init RX6, .methodLinkNest RX6 32 yX2_init RX6, .methodLinkNest RX6 39 yX1_init RX6, .methodLinkNest RX0 83 yX6_rideOf RX6, .methodLinkNest RX0 86 yX6_setsDown RX6, .methodLinkNest RX4 104 yX6_pickUp RX6, .methodLinkNest RX4 113 yX6_setDown RX6, .methodLinkNest RX4 18 yX5_init RX6, .methodLinkNest RX5 87 yX6_rideOf RX6, .methodLinkNest RX5 90 yX6_setsDown RX6]
theorem yN_form : ∀ w ∈ yN, ∃ a i x h, w = Cond.methodLinkNest a i x h := by
  intro w h
  simp only [yN, List.mem_cons, List.not_mem_nil, or_false] at h
  rcases h with h | h | h | h | h | h | h | h | h | h | h <;> exact ⟨_, _, _, _, h⟩
def yNw (U : State) : Prop := ∀ w ∈ yN, va_Nw w U
theorem yNw.warm {s U : State} (h : yNw s) (hW : s.WarmedH U.vm) : yNw U := fun w hw => by
  obtain ⟨a, i, x, q, rfl⟩ := yN_form w hw
  exact va_Nw.warmM hW (h _ hw)
theorem yNw.same {u U : State} (h : yNw u) (e : u.vm = U.vm) : yNw U := fun w hw => by
  obtain ⟨a, i, x, q, rfl⟩ := yN_form w hw
  exact va_Nw.same rfl e (h _ hw)
def yC : yZ → yG → ByteArray → Nat → List Cond → String → Prop
  | (p, l, _, s, m, args, _, meth, c, _, D, tys, A, nL'), g, cc, nL, Ts, own => l = g.1 ∧ D = g.2.1 ∧ tys = yTy g ∧ nL' = nL ∧ p.tables.exec = Jvm.exec ∧ c.code = cc ∧ c.maxLocals = nL ∧ s.vm.findClass own = some m.cls ∧ (∀ w ∈ Ts, w.before args s = true) ∧ meth.locks = false ∧ va_K D vwCl tys s ∧ yNw s ∧ (∀ q, s.heap.size ≤ q → A q)
def yJ : yZ → Room → Nat → Nat → List va_W → Nat → List (Nat × Value) → List Value → Prop
  | (p, l, e, s, m, args, below, meth, c, Q, D, _, A, nL), R, k, n, L, pc, lv, st => ∀ (H : Heap) (locs : List Loc) (ls : Array Slot), va_P D vwCl L.flatten H → va_D A L.flatten → va_S A s.heap H locs → lv_has ls nL lv → W p l e R s m args below meth c H locs k n Q (F0 m pc ls st)
def yIn : yZ → Prop
  | (_, _, _, _, _, _, _, meth, _, _, _, _, _, _) => meth.name = "<init>"
/-- a method's start and end -/
def yPre (g : yG) (As : List Value) (B : List va_W) (sz : Nat) : Array Value → State → Prop := va_Pc As (fun U => U.heap.size = sz ∧ va_P g.2.1 vwCl B.flatten U.heap ∧ (va_K g.2.1 vwCl (yTy g) U ∧ yNw U) ∧ va_D (fun _ => True) B.flatten)
def yB (g : yG) (B : List va_W) (sz : Nat) (w : List va_W) (t : State) : Prop := va_P g.2.1 vwCl w.flatten t.heap ∧ va_D (va_A B.flatten sz) w.flatten
def yM (g : yG) (y : MethodName) (ws : List Cond) (rm : Room) (As : List Value) (B : List va_W) (post : Int32 → List va_W → Prop) (mc ms : Nat) : Prop := ∀ sz, Met g.1 y ws rm (yPre g As B sz) (va_Qi post (yB g B sz) (va_A B.flatten sz)) mc ms (va_A B.flatten sz)
def yMv (g : yG) (y : MethodName) (ws : List Cond) (rm : Room) (As : List Value) (B : List va_W) (post : List va_W → Prop) (mc ms : Nat) : Prop := ∀ sz, Met g.1 y ws rm (yPre g As B sz) (va_Qv post (yB g B sz) (va_A B.flatten sz)) mc ms (va_A B.flatten sz)
/-- what a return needs -/
def yRi (Z : yZ) (R : Room) (cc : ByteArray) (ty : FieldType) (post : Int32 → List va_W → Prop) (mc ms : Nat) : Prop := ∀ (pc : Nat), decode cc pc = .ok (.ireturn, 1) → ∀ (r : Int32) (L : List va_W) (lv : List (Nat × Value)) (k n : Nat), narrow ty (.int r) = .int r → k ≤ mc → n ≤ ms → post r L → yJ Z R k n L pc lv [.int r]
def yRv (Z : yZ) (R : Room) (cc : ByteArray) (post : List va_W → Prop) (mc ms : Nat) : Prop := ∀ (pc : Nat), decode cc pc = .ok (.return_, 1) → ∀ (L : List va_W) (lv : List (Nat × Value)) (k n : Nat), k ≤ mc → n ≤ ms → post L → yJ Z R k n L pc lv []
theorem yM.conv {g : yG} {y : MethodName} {ws : List Cond} {rm : Room} {As : List Value} {B B' : List va_W} {post post' : Int32 → List va_W → Prop} {mc ms : Nat} (h : yM g y ws rm As B post mc ms) (hB : B'.flatten = B.flatten) (hp : ∀ r w, post r w → ∃ w', w'.flatten = w.flatten ∧ post' r w') : yM g y ws rm As B' post' mc ms := by
  intro sz p e ha hf hc s m args below hfr happ hpre hk
  unfold yPre at hpre
  rw [hB] at hpre
  obtain ⟨n, o, h1, h2, h3, ⟨⟨r, u, a1, a2, a3⟩, a4⟩, h5⟩ := h sz p e ha hf hc s m args below hfr happ hpre hk
  obtain ⟨u', b1, b2⟩ := hp r u a2
  refine ⟨n, o, h1, h2, h3, ⟨⟨r, u', a1, b2, ?_⟩, by rw [hB]; exact a4⟩, by rw [hB]; exact h5⟩
  unfold yB at a3 ⊢
  rw [b1, hB]
  exact a3
theorem yMv.conv {g : yG} {y : MethodName} {ws : List Cond} {rm : Room} {As : List Value} {B B' : List va_W} {post post' : List va_W → Prop} {mc ms : Nat} (h : yMv g y ws rm As B post mc ms) (hB : B'.flatten = B.flatten) (hp : ∀ w, post w → ∃ w', w'.flatten = w.flatten ∧ post' w') : yMv g y ws rm As B' post' mc ms := by
  intro sz p e ha hf hc s m args below hfr happ hpre hk
  unfold yPre at hpre
  rw [hB] at hpre
  obtain ⟨n, o, h1, h2, h3, ⟨⟨u, a1, a2, a3⟩, a4⟩, h5⟩ := h sz p e ha hf hc s m args below hfr happ hpre hk
  obtain ⟨u', b1, b2⟩ := hp u a2
  refine ⟨n, o, h1, h2, h3, ⟨⟨u', a1, b2, ?_⟩, by rw [hB]; exact a4⟩, by rw [hB]; exact h5⟩
  unfold yB at a3 ⊢
  rw [b1, hB]
  exact a3
theorem y_entryI {g : yG} {y : MethodName} {ws ws' : List Cond} {rm : Room} {As : List Value} {B : List va_W} {post : Int32 → List va_W → Prop} {mc ms : Nat} {cc : ByteArray} {maxL : Nat} {ty : FieldType} (hy : plainName y.cls = true) (hw : ws = Cond.code y cc maxL (some ty) :: ws') (ha : (lg_sl As).length ≤ maxL) (body : ∀ Z, yC Z g cc maxL ws y.cls → yRi Z rm cc ty post mc ms → yJ Z rm 0 0 B 0 (lv_args 0 As) []) : yM g y ws rm As B post mc ms := by
  intro sz
  refine Met.ofW (cc := cc) (maxL := maxL) (ret := some ty) hy hw ?_
  intro p e s m args below meth c s₁ BL hml hv
  obtain ⟨rfl, hsz, hP, ⟨hK, hN⟩, hD0⟩ := hv
  subst hsz
  have hl := lv_entry As ha
  rw [lg_entry_eq]
  refine body (p, g.1, e, s, m, As.toArray, below, meth, c, MQ below (va_Qi post (yB g B s.heap.size) (va_A B.flatten s.heap.size)) As.toArray s mc ms (va_A B.flatten s.heap.size), g.2.1, yTy g, va_A B.flatten s.heap.size, maxL) ⟨rfl, rfl, rfl, rfl, BL.exec, BL.bytes, hml, findClass_of_methodNamed BL.named, atoms_spec (ws := ws) BL.pre, BL.notSynchronized, hK, hN, fun q h => Or.inr h⟩ ?_ s.heap [] _ hP hD0.self va_S.rf hl
  intro pc hdg r L lv k n hnr hk hn hp H locs ls hP hD hS _
  refine W.widen hk hn ?_
  exact W.zret (v := r) BL.exec BL.bytes BL.returns hnr (fun t ht _ => ⟨⟨r, L, rfl, hp, by rw [ht]; exact hP, hD⟩, hS.F ht⟩) hS.2.2 hdg BL.notSynchronized
theorem y_entryV {g : yG} {y : MethodName} {ws ws' : List Cond} {rm : Room} {As : List Value} {B : List va_W} {post : List va_W → Prop} {mc ms : Nat} {cc : ByteArray} {maxL : Nat} (hy : plainName y.cls = true) (hw : ws = Cond.code y cc maxL none :: ws') (ha : (lg_sl As).length ≤ maxL) (body : ∀ Z, yC Z g cc maxL ws y.cls → (y.name = "<init>" → yIn Z) → yRv Z rm cc post mc ms → yJ Z rm 0 0 B 0 (lv_args 0 As) []) : yMv g y ws rm As B post mc ms := by
  intro sz
  refine Met.ofW (cc := cc) (maxL := maxL) (ret := none) hy hw ?_
  intro p e s m args below meth c s₁ BL hml hv
  obtain ⟨rfl, hsz, hP, ⟨hK, hN⟩, hD0⟩ := hv
  subst hsz
  have hl := lv_entry As ha
  rw [lg_entry_eq]
  refine body (p, g.1, e, s, m, As.toArray, below, meth, c, MQ below (va_Qv post (yB g B s.heap.size) (va_A B.flatten s.heap.size)) As.toArray s mc ms (va_A B.flatten s.heap.size), g.2.1, yTy g, va_A B.flatten s.heap.size, maxL) ⟨rfl, rfl, rfl, rfl, BL.exec, BL.bytes, hml, findClass_of_methodNamed BL.named, atoms_spec (ws := ws) BL.pre, BL.notSynchronized, hK, hN, fun q h => Or.inr h⟩ (fun h => (name_of_methodNamed BL.named BL.method).1.trans h) ?_ s.heap [] _ hP hD0.self va_S.rf hl
  intro pc hdg L lv k n hk hn hp H locs ls hP hD hS _
  refine W.widen hk hn ?_
  exact W.vret BL.exec BL.bytes BL.returns (fun t ht _ => ⟨⟨L, rfl, hp, by rw [ht]; exact hP, hD⟩, hS.F ht⟩) hS.2.2 hdg BL.notSynchronized
theorem y_iconst {Z : yZ} {g : yG} {R : Room} {k n : Nat} {L : List va_W} {lv : List (Nat × Value)} {st : List Value} {cc : ByteArray} {nL : Nat} {Ts : List Cond} {own : String} {pc : Nat} {z : Int} {v : Int32} (C : yC Z g cc nL Ts own) (hdg : decode cc pc = .ok (.iconst z, 1)) (hv : Int32.ofInt z = v) (K : yJ Z R k n L (pc + 1) lv (.int v :: st)) : yJ Z R k n L pc lv (st) := by
  obtain ⟨p, l, e, s, m, args, below, meth, c, Q, D, tys, A, nL'⟩ := Z
  obtain ⟨rfl, rfl, rfl, rfl, hx, hb, hml, hown, hts, hlk, hK, hN, hA⟩ := C
  intro H locs ls hP hD hS hl
  exact lv_iconst hx hb hdg hv (K H locs ls hP hD hS hl)
theorem y_bipush {Z : yZ} {g : yG} {R : Room} {k n : Nat} {L : List va_W} {lv : List (Nat × Value)} {st : List Value} {cc : ByteArray} {nL : Nat} {Ts : List Cond} {own : String} {pc : Nat} {z : Int} {v : Int32} (C : yC Z g cc nL Ts own) (hdg : decode cc pc = .ok (.bipush z, 2)) (hv : (Int8.ofInt z).toInt32 = v) (K : yJ Z R k n L (pc + 2) lv (.int v :: st)) : yJ Z R k n L pc lv (st) := by
  obtain ⟨p, l, e, s, m, args, below, meth, c, Q, D, tys, A, nL'⟩ := Z
  obtain ⟨rfl, rfl, rfl, rfl, hx, hb, hml, hown, hts, hlk, hK, hN, hA⟩ := C
  intro H locs ls hP hD hS hl
  exact lv_bipush hx hb hdg hv (K H locs ls hP hD hS hl)
theorem y_sipush {Z : yZ} {g : yG} {R : Room} {k n : Nat} {L : List va_W} {lv : List (Nat × Value)} {st : List Value} {cc : ByteArray} {nL : Nat} {Ts : List Cond} {own : String} {pc : Nat} {z : Int} {v : Int32} (C : yC Z g cc nL Ts own) (hdg : decode cc pc = .ok (.sipush z, 3)) (hv : (Int16.ofInt z).toInt32 = v) (K : yJ Z R k n L (pc + 3) lv (.int v :: st)) : yJ Z R k n L pc lv (st) := by
  obtain ⟨p, l, e, s, m, args, below, meth, c, Q, D, tys, A, nL'⟩ := Z
  obtain ⟨rfl, rfl, rfl, rfl, hx, hb, hml, hown, hts, hlk, hK, hN, hA⟩ := C
  intro H locs ls hP hD hS hl
  exact lv_sipush hx hb hdg hv (K H locs ls hP hD hS hl)
theorem y_lconst {Z : yZ} {g : yG} {R : Room} {k n : Nat} {L : List va_W} {lv : List (Nat × Value)} {st : List Value} {cc : ByteArray} {nL : Nat} {Ts : List Cond} {own : String} {pc : Nat} {z : Fin 2} {v : Int64} (C : yC Z g cc nL Ts own) (hdg : decode cc pc = .ok (.lconst z, 1)) (hv : Int64.ofNat (z : Nat) = v) (K : yJ Z R k n L (pc + 1) lv (.long v :: st)) : yJ Z R k n L pc lv (st) := by
  obtain ⟨p, l, e, s, m, args, below, meth, c, Q, D, tys, A, nL'⟩ := Z
  obtain ⟨rfl, rfl, rfl, rfl, hx, hb, hml, hown, hts, hlk, hK, hN, hA⟩ := C
  intro H locs ls hP hD hS hl
  exact lv_lconst hx hb hdg hv (K H locs ls hP hD hS hl)
theorem y_iload_n {Z : yZ} {g : yG} {R : Room} {k n : Nat} {L : List va_W} {lv : List (Nat × Value)} {st : List Value} {cc : ByteArray} {nL : Nat} {Ts : List Cond} {own : String} {pc : Nat} {q : Fin 4} {i : Nat} {x : Int32} (C : yC Z g cc nL Ts own) (hdg : decode cc pc = .ok (.iload_n q, 1)) (j : Nat) (hq : (q : Nat) = i) (hj : lv[j]? = some (i, .int x)) (K : yJ Z R k n L (pc + 1) lv (.int x :: st)) : yJ Z R k n L pc lv (st) := by
  obtain ⟨p, l, e, s, m, args, below, meth, c, Q, D, tys, A, nL'⟩ := Z
  obtain ⟨rfl, rfl, rfl, rfl, hx, hb, hml, hown, hts, hlk, hK, hN, hA⟩ := C
  intro H locs ls hP hD hS hl
  exact lv_iload_n hx hb hdg hq (lv_at hl j hj) (K H locs ls hP hD hS hl)
theorem y_iload {Z : yZ} {g : yG} {R : Room} {k n : Nat} {L : List va_W} {lv : List (Nat × Value)} {st : List Value} {cc : ByteArray} {nL : Nat} {Ts : List Cond} {own : String} {pc : Nat} {i : Nat} {x : Int32} (C : yC Z g cc nL Ts own) (hdg : decode cc pc = .ok (.iload i, 2)) (j : Nat) (hj : lv[j]? = some (i, .int x)) (K : yJ Z R k n L (pc + 2) lv (.int x :: st)) : yJ Z R k n L pc lv (st) := by
  obtain ⟨p, l, e, s, m, args, below, meth, c, Q, D, tys, A, nL'⟩ := Z
  obtain ⟨rfl, rfl, rfl, rfl, hx, hb, hml, hown, hts, hlk, hK, hN, hA⟩ := C
  intro H locs ls hP hD hS hl
  exact lv_iload hx hb hdg (lv_at hl j hj) (K H locs ls hP hD hS hl)
theorem y_lload_n {Z : yZ} {g : yG} {R : Room} {k n : Nat} {L : List va_W} {lv : List (Nat × Value)} {st : List Value} {cc : ByteArray} {nL : Nat} {Ts : List Cond} {own : String} {pc : Nat} {q : Fin 4} {i : Nat} {x : Int64} (C : yC Z g cc nL Ts own) (hdg : decode cc pc = .ok (.lload_n q, 1)) (j : Nat) (hq : (q : Nat) = i) (hj : lv[j]? = some (i, .long x)) (K : yJ Z R k n L (pc + 1) lv (.long x :: st)) : yJ Z R k n L pc lv (st) := by
  obtain ⟨p, l, e, s, m, args, below, meth, c, Q, D, tys, A, nL'⟩ := Z
  obtain ⟨rfl, rfl, rfl, rfl, hx, hb, hml, hown, hts, hlk, hK, hN, hA⟩ := C
  intro H locs ls hP hD hS hl
  exact lv_lload_n hx hb hdg hq (lv_at hl j hj) (K H locs ls hP hD hS hl)
theorem y_lload {Z : yZ} {g : yG} {R : Room} {k n : Nat} {L : List va_W} {lv : List (Nat × Value)} {st : List Value} {cc : ByteArray} {nL : Nat} {Ts : List Cond} {own : String} {pc : Nat} {i : Nat} {x : Int64} (C : yC Z g cc nL Ts own) (hdg : decode cc pc = .ok (.lload i, 2)) (j : Nat) (hj : lv[j]? = some (i, .long x)) (K : yJ Z R k n L (pc + 2) lv (.long x :: st)) : yJ Z R k n L pc lv (st) := by
  obtain ⟨p, l, e, s, m, args, below, meth, c, Q, D, tys, A, nL'⟩ := Z
  obtain ⟨rfl, rfl, rfl, rfl, hx, hb, hml, hown, hts, hlk, hK, hN, hA⟩ := C
  intro H locs ls hP hD hS hl
  exact lv_lload hx hb hdg (lv_at hl j hj) (K H locs ls hP hD hS hl)
theorem y_aload_n {Z : yZ} {g : yG} {R : Room} {k n : Nat} {L : List va_W} {lv : List (Nat × Value)} {st : List Value} {cc : ByteArray} {nL : Nat} {Ts : List Cond} {own : String} {pc : Nat} {q : Fin 4} {i : Nat} {x : Nat} (C : yC Z g cc nL Ts own) (hdg : decode cc pc = .ok (.aload_n q, 1)) (j : Nat) (hq : (q : Nat) = i) (hj : lv[j]? = some (i, .ref x)) (K : yJ Z R k n L (pc + 1) lv (.ref x :: st)) : yJ Z R k n L pc lv (st) := by
  obtain ⟨p, l, e, s, m, args, below, meth, c, Q, D, tys, A, nL'⟩ := Z
  obtain ⟨rfl, rfl, rfl, rfl, hx, hb, hml, hown, hts, hlk, hK, hN, hA⟩ := C
  intro H locs ls hP hD hS hl
  exact lv_aload_n hx hb hdg hq (lv_at hl j hj) (K H locs ls hP hD hS hl)
theorem y_aload {Z : yZ} {g : yG} {R : Room} {k n : Nat} {L : List va_W} {lv : List (Nat × Value)} {st : List Value} {cc : ByteArray} {nL : Nat} {Ts : List Cond} {own : String} {pc : Nat} {i : Nat} {x : Nat} (C : yC Z g cc nL Ts own) (hdg : decode cc pc = .ok (.aload i, 2)) (j : Nat) (hj : lv[j]? = some (i, .ref x)) (K : yJ Z R k n L (pc + 2) lv (.ref x :: st)) : yJ Z R k n L pc lv (st) := by
  obtain ⟨p, l, e, s, m, args, below, meth, c, Q, D, tys, A, nL'⟩ := Z
  obtain ⟨rfl, rfl, rfl, rfl, hx, hb, hml, hown, hts, hlk, hK, hN, hA⟩ := C
  intro H locs ls hP hD hS hl
  exact lv_aload hx hb hdg (lv_at hl j hj) (K H locs ls hP hD hS hl)
theorem y_istore_n {Z : yZ} {g : yG} {R : Room} {k n : Nat} {L : List va_W} {lv : List (Nat × Value)} {st : List Value} {cc : ByteArray} {nL : Nat} {Ts : List Cond} {own : String} {pc : Nat} {q : Fin 4} {i : Nat} {x : Int32} {lv' : List (Nat × Value)} (C : yC Z g cc nL Ts own) (hdg : decode cc pc = .ok (.istore_n q, 1)) (hq : (q : Nat) = i) (hn : i < nL) (hl' : (i, Value.int x) :: lv.filter (fun q => !(q.1 == i) && !(q.1 + 1 == i && q.2.category == 2)) = lv') (K : yJ Z R k n L (pc + 1) lv' (st)) : yJ Z R k n L pc lv (.int x :: st) := by
  obtain ⟨p, l, e, s, m, args, below, meth, c, Q, D, tys, A, nL'⟩ := Z
  obtain ⟨rfl, rfl, rfl, rfl, hx, hb, hml, hown, hts, hlk, hK, hN, hA⟩ := C
  intro H locs ls hP hD hS hl
  exact lv_istore_n hx hb hdg hq hl hn hl' (fun ls' hl' => K H locs ls' hP hD hS hl')
theorem y_istore {Z : yZ} {g : yG} {R : Room} {k n : Nat} {L : List va_W} {lv : List (Nat × Value)} {st : List Value} {cc : ByteArray} {nL : Nat} {Ts : List Cond} {own : String} {pc : Nat} {i : Nat} {x : Int32} {lv' : List (Nat × Value)} (C : yC Z g cc nL Ts own) (hdg : decode cc pc = .ok (.istore i, 2)) (hn : i < nL) (hl' : (i, Value.int x) :: lv.filter (fun q => !(q.1 == i) && !(q.1 + 1 == i && q.2.category == 2)) = lv') (K : yJ Z R k n L (pc + 2) lv' (st)) : yJ Z R k n L pc lv (.int x :: st) := by
  obtain ⟨p, l, e, s, m, args, below, meth, c, Q, D, tys, A, nL'⟩ := Z
  obtain ⟨rfl, rfl, rfl, rfl, hx, hb, hml, hown, hts, hlk, hK, hN, hA⟩ := C
  intro H locs ls hP hD hS hl
  exact lv_istore hx hb hdg hl hn hl' (fun ls' hl' => K H locs ls' hP hD hS hl')
theorem y_astore_n {Z : yZ} {g : yG} {R : Room} {k n : Nat} {L : List va_W} {lv : List (Nat × Value)} {st : List Value} {cc : ByteArray} {nL : Nat} {Ts : List Cond} {own : String} {pc : Nat} {q : Fin 4} {i : Nat} {x : Nat} {lv' : List (Nat × Value)} (C : yC Z g cc nL Ts own) (hdg : decode cc pc = .ok (.astore_n q, 1)) (hq : (q : Nat) = i) (hn : i < nL) (hl' : (i, Value.ref x) :: lv.filter (fun q => !(q.1 == i) && !(q.1 + 1 == i && q.2.category == 2)) = lv') (K : yJ Z R k n L (pc + 1) lv' (st)) : yJ Z R k n L pc lv (.ref x :: st) := by
  obtain ⟨p, l, e, s, m, args, below, meth, c, Q, D, tys, A, nL'⟩ := Z
  obtain ⟨rfl, rfl, rfl, rfl, hx, hb, hml, hown, hts, hlk, hK, hN, hA⟩ := C
  intro H locs ls hP hD hS hl
  exact lv_astore_n hx hb hdg hq hl hn hl' (fun ls' hl' => K H locs ls' hP hD hS hl')
theorem y_astore {Z : yZ} {g : yG} {R : Room} {k n : Nat} {L : List va_W} {lv : List (Nat × Value)} {st : List Value} {cc : ByteArray} {nL : Nat} {Ts : List Cond} {own : String} {pc : Nat} {i : Nat} {x : Nat} {lv' : List (Nat × Value)} (C : yC Z g cc nL Ts own) (hdg : decode cc pc = .ok (.astore i, 2)) (hn : i < nL) (hl' : (i, Value.ref x) :: lv.filter (fun q => !(q.1 == i) && !(q.1 + 1 == i && q.2.category == 2)) = lv') (K : yJ Z R k n L (pc + 2) lv' (st)) : yJ Z R k n L pc lv (.ref x :: st) := by
  obtain ⟨p, l, e, s, m, args, below, meth, c, Q, D, tys, A, nL'⟩ := Z
  obtain ⟨rfl, rfl, rfl, rfl, hx, hb, hml, hown, hts, hlk, hK, hN, hA⟩ := C
  intro H locs ls hP hD hS hl
  exact lv_astore hx hb hdg hl hn hl' (fun ls' hl' => K H locs ls' hP hD hS hl')
theorem y_lstore {Z : yZ} {g : yG} {R : Room} {k n : Nat} {L : List va_W} {lv : List (Nat × Value)} {st : List Value} {cc : ByteArray} {nL : Nat} {Ts : List Cond} {own : String} {pc : Nat} {i : Nat} {x : Int64} {lv' : List (Nat × Value)} (C : yC Z g cc nL Ts own) (hdg : decode cc pc = .ok (.lstore i, 2)) (hn : i + 1 < nL) (hl' : (i, Value.long x) :: lv.filter (fun q => !(q.1 == i) && (!(q.1 == i + 1) && !(q.1 + 1 == i && q.2.category == 2))) = lv') (K : yJ Z R k n L (pc + 2) lv' (st)) : yJ Z R k n L pc lv (.long x :: st) := by
  obtain ⟨p, l, e, s, m, args, below, meth, c, Q, D, tys, A, nL'⟩ := Z
  obtain ⟨rfl, rfl, rfl, rfl, hx, hb, hml, hown, hts, hlk, hK, hN, hA⟩ := C
  intro H locs ls hP hD hS hl
  exact lv_lstore hx hb hdg hl hn hl' (fun ls' hl' => K H locs ls' hP hD hS hl')
theorem y_iinc {Z : yZ} {g : yG} {R : Room} {k n : Nat} {L : List va_W} {lv : List (Nat × Value)} {st : List Value} {cc : ByteArray} {nL : Nat} {Ts : List Cond} {own : String} {pc : Nat} {i : Nat} {z : Int} {x v : Int32} {lv' : List (Nat × Value)} (C : yC Z g cc nL Ts own) (hdg : decode cc pc = .ok (.iinc i z, 3)) (j : Nat) (hj : lv[j]? = some (i, .int x)) (hv : x + Int32.ofInt z = v) (hn : i < nL) (hl' : (i, Value.int v) :: lv.filter (fun q => !(q.1 == i) && !(q.1 + 1 == i && q.2.category == 2)) = lv') (K : yJ Z R k n L (pc + 3) lv' (st)) : yJ Z R k n L pc lv (st) := by
  obtain ⟨p, l, e, s, m, args, below, meth, c, Q, D, tys, A, nL'⟩ := Z
  obtain ⟨rfl, rfl, rfl, rfl, hx, hb, hml, hown, hts, hlk, hK, hN, hA⟩ := C
  intro H locs ls hP hD hS hl
  exact lv_iinc hx hb hdg hl hj hv hn hl' (fun ls' hl' => K H locs ls' hP hD hS hl')
theorem y_dup {Z : yZ} {g : yG} {R : Room} {k n : Nat} {L : List va_W} {lv : List (Nat × Value)} {st : List Value} {cc : ByteArray} {nL : Nat} {Ts : List Cond} {own : String} {pc : Nat} {v : Value} (C : yC Z g cc nL Ts own) (hdg : decode cc pc = .ok (.dup, 1)) (hv : v.category = 1) (K : yJ Z R k n L (pc + 1) lv (v :: v :: st)) : yJ Z R k n L pc lv (v :: st) := by
  obtain ⟨p, l, e, s, m, args, below, meth, c, Q, D, tys, A, nL'⟩ := Z
  obtain ⟨rfl, rfl, rfl, rfl, hx, hb, hml, hown, hts, hlk, hK, hN, hA⟩ := C
  intro H locs ls hP hD hS hl
  exact lv_dup hx hb hdg hv (K H locs ls hP hD hS hl)
theorem y_pop {Z : yZ} {g : yG} {R : Room} {k n : Nat} {L : List va_W} {lv : List (Nat × Value)} {st : List Value} {cc : ByteArray} {nL : Nat} {Ts : List Cond} {own : String} {pc : Nat} {v : Value} (C : yC Z g cc nL Ts own) (hdg : decode cc pc = .ok (.pop, 1)) (hv : v.category = 1) (K : yJ Z R k n L (pc + 1) lv (st)) : yJ Z R k n L pc lv (v :: st) := by
  obtain ⟨p, l, e, s, m, args, below, meth, c, Q, D, tys, A, nL'⟩ := Z
  obtain ⟨rfl, rfl, rfl, rfl, hx, hb, hml, hown, hts, hlk, hK, hN, hA⟩ := C
  intro H locs ls hP hD hS hl
  exact lv_pop hx hb hdg hv (K H locs ls hP hD hS hl)
theorem y_iadd {Z : yZ} {g : yG} {R : Room} {k n : Nat} {L : List va_W} {lv : List (Nat × Value)} {st : List Value} {cc : ByteArray} {nL : Nat} {Ts : List Cond} {own : String} {pc : Nat} {x y : Int32} (C : yC Z g cc nL Ts own) (hdg : decode cc pc = .ok (.iadd, 1))  (K : yJ Z R k n L (pc + 1) lv (.int (x + y) :: st)) : yJ Z R k n L pc lv (.int y :: .int x :: st) := by
  obtain ⟨p, l, e, s, m, args, below, meth, c, Q, D, tys, A, nL'⟩ := Z
  obtain ⟨rfl, rfl, rfl, rfl, hx, hb, hml, hown, hts, hlk, hK, hN, hA⟩ := C
  intro H locs ls hP hD hS hl
  exact lv_iadd hx hb hdg (K H locs ls hP hD hS hl)
theorem y_isub {Z : yZ} {g : yG} {R : Room} {k n : Nat} {L : List va_W} {lv : List (Nat × Value)} {st : List Value} {cc : ByteArray} {nL : Nat} {Ts : List Cond} {own : String} {pc : Nat} {x y : Int32} (C : yC Z g cc nL Ts own) (hdg : decode cc pc = .ok (.isub, 1))  (K : yJ Z R k n L (pc + 1) lv (.int (x - y) :: st)) : yJ Z R k n L pc lv (.int y :: .int x :: st) := by
  obtain ⟨p, l, e, s, m, args, below, meth, c, Q, D, tys, A, nL'⟩ := Z
  obtain ⟨rfl, rfl, rfl, rfl, hx, hb, hml, hown, hts, hlk, hK, hN, hA⟩ := C
  intro H locs ls hP hD hS hl
  exact lv_isub hx hb hdg (K H locs ls hP hD hS hl)
theorem y_imul {Z : yZ} {g : yG} {R : Room} {k n : Nat} {L : List va_W} {lv : List (Nat × Value)} {st : List Value} {cc : ByteArray} {nL : Nat} {Ts : List Cond} {own : String} {pc : Nat} {x y : Int32} (C : yC Z g cc nL Ts own) (hdg : decode cc pc = .ok (.imul, 1))  (K : yJ Z R k n L (pc + 1) lv (.int (x * y) :: st)) : yJ Z R k n L pc lv (.int y :: .int x :: st) := by
  obtain ⟨p, l, e, s, m, args, below, meth, c, Q, D, tys, A, nL'⟩ := Z
  obtain ⟨rfl, rfl, rfl, rfl, hx, hb, hml, hown, hts, hlk, hK, hN, hA⟩ := C
  intro H locs ls hP hD hS hl
  exact lv_imul hx hb hdg (K H locs ls hP hD hS hl)
theorem y_iand {Z : yZ} {g : yG} {R : Room} {k n : Nat} {L : List va_W} {lv : List (Nat × Value)} {st : List Value} {cc : ByteArray} {nL : Nat} {Ts : List Cond} {own : String} {pc : Nat} {x y : Int32} (C : yC Z g cc nL Ts own) (hdg : decode cc pc = .ok (.iand, 1))  (K : yJ Z R k n L (pc + 1) lv (.int (x &&& y) :: st)) : yJ Z R k n L pc lv (.int y :: .int x :: st) := by
  obtain ⟨p, l, e, s, m, args, below, meth, c, Q, D, tys, A, nL'⟩ := Z
  obtain ⟨rfl, rfl, rfl, rfl, hx, hb, hml, hown, hts, hlk, hK, hN, hA⟩ := C
  intro H locs ls hP hD hS hl
  exact lv_iand hx hb hdg (K H locs ls hP hD hS hl)
theorem y_ishr {Z : yZ} {g : yG} {R : Room} {k n : Nat} {L : List va_W} {lv : List (Nat × Value)} {st : List Value} {cc : ByteArray} {nL : Nat} {Ts : List Cond} {own : String} {pc : Nat} {x y : Int32} (C : yC Z g cc nL Ts own) (hdg : decode cc pc = .ok (.ishr, 1))  (K : yJ Z R k n L (pc + 1) lv (.int (x >>> (y &&& 31)) :: st)) : yJ Z R k n L pc lv (.int y :: .int x :: st) := by
  obtain ⟨p, l, e, s, m, args, below, meth, c, Q, D, tys, A, nL'⟩ := Z
  obtain ⟨rfl, rfl, rfl, rfl, hx, hb, hml, hown, hts, hlk, hK, hN, hA⟩ := C
  intro H locs ls hP hD hS hl
  exact lv_ishr hx hb hdg (K H locs ls hP hD hS hl)
theorem y_idiv {Z : yZ} {g : yG} {R : Room} {k n : Nat} {L : List va_W} {lv : List (Nat × Value)} {st : List Value} {cc : ByteArray} {nL : Nat} {Ts : List Cond} {own : String} {pc : Nat} {x y : Int32} (C : yC Z g cc nL Ts own) (hdg : decode cc pc = .ok (.idiv, 1)) (hne : ¬ y = 0) (K : yJ Z R k n L (pc + 1) lv (.int (x / y) :: st)) : yJ Z R k n L pc lv (.int y :: .int x :: st) := by
  obtain ⟨p, l, e, s, m, args, below, meth, c, Q, D, tys, A, nL'⟩ := Z
  obtain ⟨rfl, rfl, rfl, rfl, hx, hb, hml, hown, hts, hlk, hK, hN, hA⟩ := C
  intro H locs ls hP hD hS hl
  exact lv_idiv hx hb hdg hne (K H locs ls hP hD hS hl)
theorem y_irem {Z : yZ} {g : yG} {R : Room} {k n : Nat} {L : List va_W} {lv : List (Nat × Value)} {st : List Value} {cc : ByteArray} {nL : Nat} {Ts : List Cond} {own : String} {pc : Nat} {x y : Int32} (C : yC Z g cc nL Ts own) (hdg : decode cc pc = .ok (.irem, 1)) (hne : ¬ y = 0) (K : yJ Z R k n L (pc + 1) lv (.int (x - x / y * y) :: st)) : yJ Z R k n L pc lv (.int y :: .int x :: st) := by
  obtain ⟨p, l, e, s, m, args, below, meth, c, Q, D, tys, A, nL'⟩ := Z
  obtain ⟨rfl, rfl, rfl, rfl, hx, hb, hml, hown, hts, hlk, hK, hN, hA⟩ := C
  intro H locs ls hP hD hS hl
  exact lv_irem hx hb hdg hne (K H locs ls hP hD hS hl)
theorem y_land {Z : yZ} {g : yG} {R : Room} {k n : Nat} {L : List va_W} {lv : List (Nat × Value)} {st : List Value} {cc : ByteArray} {nL : Nat} {Ts : List Cond} {own : String} {pc : Nat} {x y : Int64} (C : yC Z g cc nL Ts own) (hdg : decode cc pc = .ok (.land, 1))  (K : yJ Z R k n L (pc + 1) lv (.long (x &&& y) :: st)) : yJ Z R k n L pc lv (.long y :: .long x :: st) := by
  obtain ⟨p, l, e, s, m, args, below, meth, c, Q, D, tys, A, nL'⟩ := Z
  obtain ⟨rfl, rfl, rfl, rfl, hx, hb, hml, hown, hts, hlk, hK, hN, hA⟩ := C
  intro H locs ls hP hD hS hl
  exact lv_land hx hb hdg (K H locs ls hP hD hS hl)
theorem y_lor {Z : yZ} {g : yG} {R : Room} {k n : Nat} {L : List va_W} {lv : List (Nat × Value)} {st : List Value} {cc : ByteArray} {nL : Nat} {Ts : List Cond} {own : String} {pc : Nat} {x y : Int64} (C : yC Z g cc nL Ts own) (hdg : decode cc pc = .ok (.lor, 1))  (K : yJ Z R k n L (pc + 1) lv (.long (x ||| y) :: st)) : yJ Z R k n L pc lv (.long y :: .long x :: st) := by
  obtain ⟨p, l, e, s, m, args, below, meth, c, Q, D, tys, A, nL'⟩ := Z
  obtain ⟨rfl, rfl, rfl, rfl, hx, hb, hml, hown, hts, hlk, hK, hN, hA⟩ := C
  intro H locs ls hP hD hS hl
  exact lv_lor hx hb hdg (K H locs ls hP hD hS hl)
theorem y_lushr {Z : yZ} {g : yG} {R : Room} {k n : Nat} {L : List va_W} {lv : List (Nat × Value)} {st : List Value} {cc : ByteArray} {nL : Nat} {Ts : List Cond} {own : String} {pc : Nat} {x v : Int64} {y : Int32} (C : yC Z g cc nL Ts own) (hdg : decode cc pc = .ok (.lushr, 1)) (hv : (x.toUInt64 >>> (y.toInt64.toUInt64 &&& Int64.toUInt64 63)).toInt64 = v) (K : yJ Z R k n L (pc + 1) lv (.long v :: st)) : yJ Z R k n L pc lv (.int y :: .long x :: st) := by
  obtain ⟨p, l, e, s, m, args, below, meth, c, Q, D, tys, A, nL'⟩ := Z
  obtain ⟨rfl, rfl, rfl, rfl, hx, hb, hml, hown, hts, hlk, hK, hN, hA⟩ := C
  intro H locs ls hP hD hS hl
  exact lv_lushr hx hb hdg hv (K H locs ls hP hD hS hl)
theorem y_lshl {Z : yZ} {g : yG} {R : Room} {k n : Nat} {L : List va_W} {lv : List (Nat × Value)} {st : List Value} {cc : ByteArray} {nL : Nat} {Ts : List Cond} {own : String} {pc : Nat} {x v : Int64} {y : Int32} (C : yC Z g cc nL Ts own) (hdg : decode cc pc = .ok (.lshl, 1)) (hv : x <<< (y.toInt64 &&& 63) = v) (K : yJ Z R k n L (pc + 1) lv (.long v :: st)) : yJ Z R k n L pc lv (.int y :: .long x :: st) := by
  obtain ⟨p, l, e, s, m, args, below, meth, c, Q, D, tys, A, nL'⟩ := Z
  obtain ⟨rfl, rfl, rfl, rfl, hx, hb, hml, hown, hts, hlk, hK, hN, hA⟩ := C
  intro H locs ls hP hD hS hl
  exact lv_lshl hx hb hdg hv (K H locs ls hP hD hS hl)
theorem y_l2i {Z : yZ} {g : yG} {R : Room} {k n : Nat} {L : List va_W} {lv : List (Nat × Value)} {st : List Value} {cc : ByteArray} {nL : Nat} {Ts : List Cond} {own : String} {pc : Nat} {x : Int64} {v : Int32} (C : yC Z g cc nL Ts own) (hdg : decode cc pc = .ok (.l2i, 1)) (hv : x.toInt32 = v) (K : yJ Z R k n L (pc + 1) lv (.int v :: st)) : yJ Z R k n L pc lv (.long x :: st) := by
  obtain ⟨p, l, e, s, m, args, below, meth, c, Q, D, tys, A, nL'⟩ := Z
  obtain ⟨rfl, rfl, rfl, rfl, hx, hb, hml, hown, hts, hlk, hK, hN, hA⟩ := C
  intro H locs ls hP hD hS hl
  exact lv_l2i hx hb hdg hv (K H locs ls hP hD hS hl)
theorem y_i2l {Z : yZ} {g : yG} {R : Room} {k n : Nat} {L : List va_W} {lv : List (Nat × Value)} {st : List Value} {cc : ByteArray} {nL : Nat} {Ts : List Cond} {own : String} {pc : Nat} {x : Int32} {v : Int64} (C : yC Z g cc nL Ts own) (hdg : decode cc pc = .ok (.i2l, 1)) (hv : x.toInt64 = v) (K : yJ Z R k n L (pc + 1) lv (.long v :: st)) : yJ Z R k n L pc lv (.int x :: st) := by
  obtain ⟨p, l, e, s, m, args, below, meth, c, Q, D, tys, A, nL'⟩ := Z
  obtain ⟨rfl, rfl, rfl, rfl, hx, hb, hml, hown, hts, hlk, hK, hN, hA⟩ := C
  intro H locs ls hP hD hS hl
  exact lv_i2l hx hb hdg hv (K H locs ls hP hD hS hl)
theorem y_lcmp {Z : yZ} {g : yG} {R : Room} {k n : Nat} {L : List va_W} {lv : List (Nat × Value)} {st : List Value} {cc : ByteArray} {nL : Nat} {Ts : List Cond} {own : String} {pc : Nat} {x y : Int64} (C : yC Z g cc nL Ts own) (hdg : decode cc pc = .ok (.lcmp, 1))  (K : yJ Z R k n L (pc + 1) lv (.int (lg_cmp x y) :: st)) : yJ Z R k n L pc lv (.long y :: .long x :: st) := by
  obtain ⟨p, l, e, s, m, args, below, meth, c, Q, D, tys, A, nL'⟩ := Z
  obtain ⟨rfl, rfl, rfl, rfl, hx, hb, hml, hown, hts, hlk, hK, hN, hA⟩ := C
  intro H locs ls hP hD hS hl
  exact W.lcmp hx hb hdg (K H locs ls hP hD hS hl)
theorem y_goto {Z : yZ} {g : yG} {R : Room} {k n : Nat} {L : List va_W} {lv : List (Nat × Value)} {st : List Value} {cc : ByteArray} {nL : Nat} {Ts : List Cond} {own : String} {pc : Nat}  {off : Int} {tgt : Nat} (C : yC Z g cc nL Ts own) (hdg : decode cc pc = .ok (.goto off, 3)) (ht : (pc : Int) + off = (tgt : Int)) (K : yJ Z R k n L tgt lv st) : yJ Z R k n L pc lv (st) := by
  obtain ⟨p, l, e, s, m, args, below, meth, c, Q, D, tys, A, nL'⟩ := Z
  obtain ⟨rfl, rfl, rfl, rfl, hx, hb, hml, hown, hts, hlk, hK, hN, hA⟩ := C
  intro H locs ls hP hD hS hl
  exact lv_goto hx hb hdg ht (K H locs ls hP hD hS hl)
theorem y_icmp_eq {Z : yZ} {g : yG} {R : Room} {k n : Nat} {L : List va_W} {lv : List (Nat × Value)} {st : List Value} {cc : ByteArray} {nL : Nat} {Ts : List Cond} {own : String} {pc : Nat} {x y : Int32} {P F : Prop} {off : Int} {tgt : Nat} (C : yC Z g cc nL Ts own) (hdg : decode cc pc = .ok (.if_icmp .eq off, 3)) (ht : (pc : Int) + off = (tgt : Int)) (h : if x = y then P else F) (KT : x = y → P → yJ Z R k n L tgt lv st) (KF : ¬ x = y → F → yJ Z R k n L (pc + 3) lv st) : yJ Z R k n L pc lv (.int y :: .int x :: st) := by
  obtain ⟨p, l, e, s, m, args, below, meth, c, Q, D, tys, A, nL'⟩ := Z
  obtain ⟨rfl, rfl, rfl, rfl, hx, hb, hml, hown, hts, hlk, hK, hN, hA⟩ := C
  intro H locs ls hP hD hS hl
  exact lv_icmp_eq hx hb hdg ht (fun c => KT c (by rw [if_pos c] at h; exact h) H locs ls hP hD hS hl) (fun c => KF c (by rw [if_neg c] at h; exact h) H locs ls hP hD hS hl)
theorem y_icmp_ne {Z : yZ} {g : yG} {R : Room} {k n : Nat} {L : List va_W} {lv : List (Nat × Value)} {st : List Value} {cc : ByteArray} {nL : Nat} {Ts : List Cond} {own : String} {pc : Nat} {x y : Int32} {P F : Prop} {off : Int} {tgt : Nat} (C : yC Z g cc nL Ts own) (hdg : decode cc pc = .ok (.if_icmp .ne off, 3)) (ht : (pc : Int) + off = (tgt : Int)) (h : if x = y then P else F) (KT : ¬ x = y → F → yJ Z R k n L tgt lv st) (KF : x = y → P → yJ Z R k n L (pc + 3) lv st) : yJ Z R k n L pc lv (.int y :: .int x :: st) := by
  obtain ⟨p, l, e, s, m, args, below, meth, c, Q, D, tys, A, nL'⟩ := Z
  obtain ⟨rfl, rfl, rfl, rfl, hx, hb, hml, hown, hts, hlk, hK, hN, hA⟩ := C
  intro H locs ls hP hD hS hl
  exact lv_icmp_ne hx hb hdg ht (fun c => KT c (by rw [if_neg c] at h; exact h) H locs ls hP hD hS hl) (fun c => KF c (by rw [if_pos c] at h; exact h) H locs ls hP hD hS hl)
theorem y_icmp_lt {Z : yZ} {g : yG} {R : Room} {k n : Nat} {L : List va_W} {lv : List (Nat × Value)} {st : List Value} {cc : ByteArray} {nL : Nat} {Ts : List Cond} {own : String} {pc : Nat} {x y : Int32} {P F : Prop} {off : Int} {tgt : Nat} (C : yC Z g cc nL Ts own) (hdg : decode cc pc = .ok (.if_icmp .lt off, 3)) (ht : (pc : Int) + off = (tgt : Int)) (h : if x < y then P else F) (KT : x < y → P → yJ Z R k n L tgt lv st) (KF : ¬ x < y → F → yJ Z R k n L (pc + 3) lv st) : yJ Z R k n L pc lv (.int y :: .int x :: st) := by
  obtain ⟨p, l, e, s, m, args, below, meth, c, Q, D, tys, A, nL'⟩ := Z
  obtain ⟨rfl, rfl, rfl, rfl, hx, hb, hml, hown, hts, hlk, hK, hN, hA⟩ := C
  intro H locs ls hP hD hS hl
  exact lv_icmp_lt hx hb hdg ht (fun c => KT c (by rw [if_pos c] at h; exact h) H locs ls hP hD hS hl) (fun c => KF c (by rw [if_neg c] at h; exact h) H locs ls hP hD hS hl)
theorem y_icmp_ge {Z : yZ} {g : yG} {R : Room} {k n : Nat} {L : List va_W} {lv : List (Nat × Value)} {st : List Value} {cc : ByteArray} {nL : Nat} {Ts : List Cond} {own : String} {pc : Nat} {x y : Int32} {P F : Prop} {off : Int} {tgt : Nat} (C : yC Z g cc nL Ts own) (hdg : decode cc pc = .ok (.if_icmp .ge off, 3)) (ht : (pc : Int) + off = (tgt : Int)) (h : if y ≤ x then P else F) (KT : y ≤ x → P → yJ Z R k n L tgt lv st) (KF : ¬ y ≤ x → F → yJ Z R k n L (pc + 3) lv st) : yJ Z R k n L pc lv (.int y :: .int x :: st) := by
  obtain ⟨p, l, e, s, m, args, below, meth, c, Q, D, tys, A, nL'⟩ := Z
  obtain ⟨rfl, rfl, rfl, rfl, hx, hb, hml, hown, hts, hlk, hK, hN, hA⟩ := C
  intro H locs ls hP hD hS hl
  exact lv_icmp_ge hx hb hdg ht (fun c => KT c (by rw [if_pos c] at h; exact h) H locs ls hP hD hS hl) (fun c => KF c (by rw [if_neg c] at h; exact h) H locs ls hP hD hS hl)
theorem y_icmp_gt {Z : yZ} {g : yG} {R : Room} {k n : Nat} {L : List va_W} {lv : List (Nat × Value)} {st : List Value} {cc : ByteArray} {nL : Nat} {Ts : List Cond} {own : String} {pc : Nat} {x y : Int32} {P F : Prop} {off : Int} {tgt : Nat} (C : yC Z g cc nL Ts own) (hdg : decode cc pc = .ok (.if_icmp .gt off, 3)) (ht : (pc : Int) + off = (tgt : Int)) (h : if y < x then P else F) (KT : y < x → P → yJ Z R k n L tgt lv st) (KF : ¬ y < x → F → yJ Z R k n L (pc + 3) lv st) : yJ Z R k n L pc lv (.int y :: .int x :: st) := by
  obtain ⟨p, l, e, s, m, args, below, meth, c, Q, D, tys, A, nL'⟩ := Z
  obtain ⟨rfl, rfl, rfl, rfl, hx, hb, hml, hown, hts, hlk, hK, hN, hA⟩ := C
  intro H locs ls hP hD hS hl
  exact lv_icmp_gt hx hb hdg ht (fun c => KT c (by rw [if_pos c] at h; exact h) H locs ls hP hD hS hl) (fun c => KF c (by rw [if_neg c] at h; exact h) H locs ls hP hD hS hl)
theorem y_icmp_le {Z : yZ} {g : yG} {R : Room} {k n : Nat} {L : List va_W} {lv : List (Nat × Value)} {st : List Value} {cc : ByteArray} {nL : Nat} {Ts : List Cond} {own : String} {pc : Nat} {x y : Int32} {P F : Prop} {off : Int} {tgt : Nat} (C : yC Z g cc nL Ts own) (hdg : decode cc pc = .ok (.if_icmp .le off, 3)) (ht : (pc : Int) + off = (tgt : Int)) (h : if x ≤ y then P else F) (KT : x ≤ y → P → yJ Z R k n L tgt lv st) (KF : ¬ x ≤ y → F → yJ Z R k n L (pc + 3) lv st) : yJ Z R k n L pc lv (.int y :: .int x :: st) := by
  obtain ⟨p, l, e, s, m, args, below, meth, c, Q, D, tys, A, nL'⟩ := Z
  obtain ⟨rfl, rfl, rfl, rfl, hx, hb, hml, hown, hts, hlk, hK, hN, hA⟩ := C
  intro H locs ls hP hD hS hl
  exact lv_icmp_le hx hb hdg ht (fun c => KT c (by rw [if_pos c] at h; exact h) H locs ls hP hD hS hl) (fun c => KF c (by rw [if_neg c] at h; exact h) H locs ls hP hD hS hl)
theorem y_if_eq {Z : yZ} {g : yG} {R : Room} {k n : Nat} {L : List va_W} {lv : List (Nat × Value)} {st : List Value} {cc : ByteArray} {nL : Nat} {Ts : List Cond} {own : String} {pc : Nat} {x : Int32} {P F : Prop} {off : Int} {tgt : Nat} (C : yC Z g cc nL Ts own) (hdg : decode cc pc = .ok (.ifCond .eq off, 3)) (ht : (pc : Int) + off = (tgt : Int)) (h : if x = 0 then P else F) (KT : x = 0 → P → yJ Z R k n L tgt lv st) (KF : ¬ x = 0 → F → yJ Z R k n L (pc + 3) lv st) : yJ Z R k n L pc lv (.int x :: st) := by
  obtain ⟨p, l, e, s, m, args, below, meth, c, Q, D, tys, A, nL'⟩ := Z
  obtain ⟨rfl, rfl, rfl, rfl, hx, hb, hml, hown, hts, hlk, hK, hN, hA⟩ := C
  intro H locs ls hP hD hS hl
  exact lv_if_eq hx hb hdg ht (fun c => KT c (by rw [if_pos c] at h; exact h) H locs ls hP hD hS hl) (fun c => KF c (by rw [if_neg c] at h; exact h) H locs ls hP hD hS hl)
theorem y_if_ne {Z : yZ} {g : yG} {R : Room} {k n : Nat} {L : List va_W} {lv : List (Nat × Value)} {st : List Value} {cc : ByteArray} {nL : Nat} {Ts : List Cond} {own : String} {pc : Nat} {x : Int32} {P F : Prop} {off : Int} {tgt : Nat} (C : yC Z g cc nL Ts own) (hdg : decode cc pc = .ok (.ifCond .ne off, 3)) (ht : (pc : Int) + off = (tgt : Int)) (h : if x = 0 then P else F) (KT : ¬ x = 0 → F → yJ Z R k n L tgt lv st) (KF : x = 0 → P → yJ Z R k n L (pc + 3) lv st) : yJ Z R k n L pc lv (.int x :: st) := by
  obtain ⟨p, l, e, s, m, args, below, meth, c, Q, D, tys, A, nL'⟩ := Z
  obtain ⟨rfl, rfl, rfl, rfl, hx, hb, hml, hown, hts, hlk, hK, hN, hA⟩ := C
  intro H locs ls hP hD hS hl
  exact lv_if_ne hx hb hdg ht (fun c => KT c (by rw [if_neg c] at h; exact h) H locs ls hP hD hS hl) (fun c => KF c (by rw [if_pos c] at h; exact h) H locs ls hP hD hS hl)
theorem y_if_lt {Z : yZ} {g : yG} {R : Room} {k n : Nat} {L : List va_W} {lv : List (Nat × Value)} {st : List Value} {cc : ByteArray} {nL : Nat} {Ts : List Cond} {own : String} {pc : Nat} {x : Int32} {P F : Prop} {off : Int} {tgt : Nat} (C : yC Z g cc nL Ts own) (hdg : decode cc pc = .ok (.ifCond .lt off, 3)) (ht : (pc : Int) + off = (tgt : Int)) (h : if x < 0 then P else F) (KT : x < 0 → P → yJ Z R k n L tgt lv st) (KF : ¬ x < 0 → F → yJ Z R k n L (pc + 3) lv st) : yJ Z R k n L pc lv (.int x :: st) := by
  obtain ⟨p, l, e, s, m, args, below, meth, c, Q, D, tys, A, nL'⟩ := Z
  obtain ⟨rfl, rfl, rfl, rfl, hx, hb, hml, hown, hts, hlk, hK, hN, hA⟩ := C
  intro H locs ls hP hD hS hl
  exact lv_if_lt hx hb hdg ht (fun c => KT c (by rw [if_pos c] at h; exact h) H locs ls hP hD hS hl) (fun c => KF c (by rw [if_neg c] at h; exact h) H locs ls hP hD hS hl)
theorem y_if_ge {Z : yZ} {g : yG} {R : Room} {k n : Nat} {L : List va_W} {lv : List (Nat × Value)} {st : List Value} {cc : ByteArray} {nL : Nat} {Ts : List Cond} {own : String} {pc : Nat} {x : Int32} {P F : Prop} {off : Int} {tgt : Nat} (C : yC Z g cc nL Ts own) (hdg : decode cc pc = .ok (.ifCond .ge off, 3)) (ht : (pc : Int) + off = (tgt : Int)) (h : if 0 ≤ x then P else F) (KT : 0 ≤ x → P → yJ Z R k n L tgt lv st) (KF : ¬ 0 ≤ x → F → yJ Z R k n L (pc + 3) lv st) : yJ Z R k n L pc lv (.int x :: st) := by
  obtain ⟨p, l, e, s, m, args, below, meth, c, Q, D, tys, A, nL'⟩ := Z
  obtain ⟨rfl, rfl, rfl, rfl, hx, hb, hml, hown, hts, hlk, hK, hN, hA⟩ := C
  intro H locs ls hP hD hS hl
  exact lv_if_ge hx hb hdg ht (fun c => KT c (by rw [if_pos c] at h; exact h) H locs ls hP hD hS hl) (fun c => KF c (by rw [if_neg c] at h; exact h) H locs ls hP hD hS hl)
theorem y_if_gt {Z : yZ} {g : yG} {R : Room} {k n : Nat} {L : List va_W} {lv : List (Nat × Value)} {st : List Value} {cc : ByteArray} {nL : Nat} {Ts : List Cond} {own : String} {pc : Nat} {x : Int32} {P F : Prop} {off : Int} {tgt : Nat} (C : yC Z g cc nL Ts own) (hdg : decode cc pc = .ok (.ifCond .gt off, 3)) (ht : (pc : Int) + off = (tgt : Int)) (h : if 0 < x then P else F) (KT : 0 < x → P → yJ Z R k n L tgt lv st) (KF : ¬ 0 < x → F → yJ Z R k n L (pc + 3) lv st) : yJ Z R k n L pc lv (.int x :: st) := by
  obtain ⟨p, l, e, s, m, args, below, meth, c, Q, D, tys, A, nL'⟩ := Z
  obtain ⟨rfl, rfl, rfl, rfl, hx, hb, hml, hown, hts, hlk, hK, hN, hA⟩ := C
  intro H locs ls hP hD hS hl
  exact lv_if_gt hx hb hdg ht (fun c => KT c (by rw [if_pos c] at h; exact h) H locs ls hP hD hS hl) (fun c => KF c (by rw [if_neg c] at h; exact h) H locs ls hP hD hS hl)
theorem y_if_le {Z : yZ} {g : yG} {R : Room} {k n : Nat} {L : List va_W} {lv : List (Nat × Value)} {st : List Value} {cc : ByteArray} {nL : Nat} {Ts : List Cond} {own : String} {pc : Nat} {x : Int32} {P F : Prop} {off : Int} {tgt : Nat} (C : yC Z g cc nL Ts own) (hdg : decode cc pc = .ok (.ifCond .le off, 3)) (ht : (pc : Int) + off = (tgt : Int)) (h : if x ≤ 0 then P else F) (KT : x ≤ 0 → P → yJ Z R k n L tgt lv st) (KF : ¬ x ≤ 0 → F → yJ Z R k n L (pc + 3) lv st) : yJ Z R k n L pc lv (.int x :: st) := by
  obtain ⟨p, l, e, s, m, args, below, meth, c, Q, D, tys, A, nL'⟩ := Z
  obtain ⟨rfl, rfl, rfl, rfl, hx, hb, hml, hown, hts, hlk, hK, hN, hA⟩ := C
  intro H locs ls hP hD hS hl
  exact lv_if_le hx hb hdg ht (fun c => KT c (by rw [if_pos c] at h; exact h) H locs ls hP hD hS hl) (fun c => KF c (by rw [if_neg c] at h; exact h) H locs ls hP hD hS hl)
theorem y_get {Z : yZ} {g : yG} {R : Room} {k n : Nat} {L : List va_W} {lv : List (Nat × Value)} {st : List Value} {cc : ByteArray} {nL : Nat} {Ts : List Cond} {own : String} {pc : Nat} {Cn : String} {T : u_T} {N ci index a : Nat} {fs : List Value} {v : Value} (C : yC Z g cc nL Ts own) (hdg : decode cc pc = .ok (.getfield index, 3)) (hin : ∀ w ∈ u_ws Cn T N, w ∈ Ts) (q0 : Nat) (he : L.flatten[q0]? = some (a, .inr (ci, fs))) (hc : vwCl[ci]? = some (Cn, T, N)) (j : Nat) (hj : j < N) (hlink : Cond.fieldLink own index (T j).1 (T j).2.1 (T j).2.2.1 ∈ Ts) (hv : fs[j]? = some v) (K : yJ Z R k n L (pc + 3) lv (v :: st)) : yJ Z R k n L pc lv (.ref a :: st) := by
  obtain ⟨p, l, e, s, m, args, below, meth, c, Q, D, tys, A, nL'⟩ := Z
  obtain ⟨rfl, rfl, rfl, rfl, hx, hb, hml, hown, hts, hlk, hK, hN, hA⟩ := C
  intro H locs ls hP hD hS hl
  exact va_get hx hb hts hin hown hK hP q0 he hc j hj (hts _ hlink) (fun _ h => h) hv hdg (K H locs ls hP hD hS hl)
theorem y_put {Z : yZ} {g : yG} {R : Room} {k n : Nat} {L : List va_W} {lv : List (Nat × Value)} {st : List Value} {cc : ByteArray} {nL : Nat} {Ts : List Cond} {own : String} {pc : Nat} {Cn : String} {T : u_T} {N ci index a : Nat} {fs : List Value} {v : Value} {ty0 : Nat → FieldType} {L1 : List va_W} (C : yC Z g cc nL Ts own) (hdg : decode cc pc = .ok (.putfield index, 3)) (hin : ∀ w ∈ u_ws Cn T N, w ∈ Ts) (q0 : Nat) (he : L.flatten[q0]? = some (a, .inr (ci, fs))) (hc : vwCl[ci]? = some (Cn, T, N)) (j : Nat) (hj : j < N) (hlink : Cond.fieldLink own index (T j).1 (T j).2.1 (T j).2.2.1 ∈ Ts) (hty : ∀ k, k < N → parseFieldDescriptor (T k).2.2.1 = some (ty0 k)) (hnm : ∀ a, a < N → ∀ b, b < N → a ≠ b → (T a).2.1 ≠ (T b).2.1) (hfin : (T j).2.2.2 = false) (hn : narrow (ty0 j) v = v) (hfit : fits (ty0 j) v = true) (hlen : j < fs.length) (hL : L.flatten.set q0 (a, .inr (ci, fs.set j v)) = L1.flatten) (K : yJ Z R k n L1 (pc + 3) lv st) : yJ Z R k n L pc lv (v :: .ref a :: st) := by
  obtain ⟨p, l, e, s, m, args, below, meth, c, Q, D, tys, A, nL'⟩ := Z
  obtain ⟨rfl, rfl, rfl, rfl, hx, hb, hml, hown, hts, hlk, hK, hN, hA⟩ := C
  intro H locs ls hP hD hS hl
  exact va_put hx hb hts hin ty0 hty hnm hown hK hP hD hS q0 he hc j hj (hts _ hlink) (fun _ h => h) hfin (hty j hj) hn hfit hlen hdg (fun H1 locs1 hP1 hD1 hS1 => K H1 locs1 ls (hL ▸ hP1) (hL ▸ hD1) hS1 hl)
theorem y_putF {Z : yZ} {g : yG} {R : Room} {k n : Nat} {L : List va_W} {lv : List (Nat × Value)} {st : List Value} {cc : ByteArray} {nL : Nat} {Ts : List Cond} {own : String} {pc : Nat} {Cn : String} {T : u_T} {N ci index a : Nat} {fs : List Value} {v : Value} {ty0 : Nat → FieldType} {L1 : List va_W} (C : yC Z g cc nL Ts own) (hdg : decode cc pc = .ok (.putfield index, 3)) (hin : ∀ w ∈ u_ws Cn T N, w ∈ Ts) (q0 : Nat) (he : L.flatten[q0]? = some (a, .inr (ci, fs))) (hc : vwCl[ci]? = some (Cn, T, N)) (j : Nat) (hj : j < N) (hlink : Cond.fieldLink own index (T j).1 (T j).2.1 (T j).2.2.1 ∈ Ts) (hty : ∀ k, k < N → parseFieldDescriptor (T k).2.2.1 = some (ty0 k)) (hnm : ∀ a, a < N → ∀ b, b < N → a ≠ b → (T a).2.1 ≠ (T b).2.1) (hfin : (T j).2.2.2 = true) (hI : yIn Z) (hdecl : (T j).1 = own) (hn : narrow (ty0 j) v = v) (hfit : fits (ty0 j) v = true) (hlen : j < fs.length) (hL : L.flatten.set q0 (a, .inr (ci, fs.set j v)) = L1.flatten) (K : yJ Z R k n L1 (pc + 3) lv st) : yJ Z R k n L pc lv (v :: .ref a :: st) := by
  obtain ⟨p, l, e, s, m, args, below, meth, c, Q, D, tys, A, nL'⟩ := Z
  obtain ⟨rfl, rfl, rfl, rfl, hx, hb, hml, hown, hts, hlk, hK, hN, hA⟩ := C
  intro H locs ls hP hD hS hl
  exact va_putF hx hb hts hin ty0 hty hnm hown hK hP hD hS q0 he hc j hj (hts _ hlink) (fun _ h => h) hfin hI hdecl (hty j hj) hn hfit hlen hdg (fun H1 locs1 hP1 hD1 hS1 => K H1 locs1 ls (hL ▸ hP1) (hL ▸ hD1) hS1 hl)
theorem y_alen {Z : yZ} {g : yG} {R : Room} {k n : Nat} {L : List va_W} {lv : List (Nat × Value)} {st : List Value} {cc : ByteArray} {nL : Nat} {Ts : List Cond} {own : String} {pc : Nat} {a N : Nat} {f : Nat → Int32} {v : Int32} (C : yC Z g cc nL Ts own) (hdg : decode cc pc = .ok (.arraylength, 1)) (q0 : Nat) (he : L.flatten[q0]? = some (a, .inl (g.2.2.1, N, .inl f))) (hv : Int32.ofNat N = v) (K : yJ Z R k n L (pc + 1) lv (.int v :: st)) : yJ Z R k n L pc lv (.ref a :: st) := by
  obtain ⟨p, l, e, s, m, args, below, meth, c, Q, D, tys, A, nL'⟩ := Z
  obtain ⟨rfl, rfl, rfl, rfl, hx, hb, hml, hown, hts, hlk, hK, hN, hA⟩ := C
  intro H locs ls hP hD hS hl
  exact va_alen hx hb hK hP q0 0 he (show (yTy g)[0]? = some (g.2.2.1, .int) from rfl) hv hdg (K H locs ls hP hD hS hl)
theorem y_alenO {Z : yZ} {g : yG} {R : Room} {k n : Nat} {L : List va_W} {lv : List (Nat × Value)} {st : List Value} {cc : ByteArray} {nL : Nat} {Ts : List Cond} {own : String} {pc : Nat} {a N : Nat} {f : Nat → Option Nat} {v : Int32} (C : yC Z g cc nL Ts own) (hdg : decode cc pc = .ok (.arraylength, 1)) (q0 : Nat) (he : L.flatten[q0]? = some (a, .inl (g.2.2.2.2, N, .inr (.inr (.inr (.inr f)))))) (hv : Int32.ofNat N = v) (K : yJ Z R k n L (pc + 1) lv (.int v :: st)) : yJ Z R k n L pc lv (.ref a :: st) := by
  obtain ⟨p, l, e, s, m, args, below, meth, c, Q, D, tys, A, nL'⟩ := Z
  obtain ⟨rfl, rfl, rfl, rfl, hx, hb, hml, hown, hts, hlk, hK, hN, hA⟩ := C
  intro H locs ls hP hD hS hl
  exact va_alen hx hb hK hP q0 2 he (show (yTy g)[2]? = some (g.2.2.2.2, .object RX0) from rfl) hv hdg (K H locs ls hP hD hS hl)
theorem y_iald {Z : yZ} {g : yG} {R : Room} {k n : Nat} {L : List va_W} {lv : List (Nat × Value)} {st : List Value} {cc : ByteArray} {nL : Nat} {Ts : List Cond} {own : String} {pc : Nat} {a N : Nat} {f : Nat → Int32} {i : Int32} (C : yC Z g cc nL Ts own) (hdg : decode cc pc = .ok (.iaload, 1)) (q0 : Nat) (he : L.flatten[q0]? = some (a, .inl (g.2.2.1, N, .inl f))) (hin : vp_in i N) (K : yJ Z R k n L (pc + 1) lv (.int (f i.toNatClampNeg) :: st)) : yJ Z R k n L pc lv (.int i :: .ref a :: st) := by
  obtain ⟨p, l, e, s, m, args, below, meth, c, Q, D, tys, A, nL'⟩ := Z
  obtain ⟨rfl, rfl, rfl, rfl, hx, hb, hml, hown, hts, hlk, hK, hN, hA⟩ := C
  intro H locs ls hP hD hS hl
  exact va_iald hx hb hK hP q0 0 he (show (yTy g)[0]? = some (g.2.2.1, .int) from rfl) hin hdg (K H locs ls hP hD hS hl)
theorem y_zald {Z : yZ} {g : yG} {R : Room} {k n : Nat} {L : List va_W} {lv : List (Nat × Value)} {st : List Value} {cc : ByteArray} {nL : Nat} {Ts : List Cond} {own : String} {pc : Nat} {a N : Nat} {f : Nat → Int32} {i : Int32} (C : yC Z g cc nL Ts own) (hdg : decode cc pc = .ok (.baload, 1)) (q0 : Nat) (he : L.flatten[q0]? = some (a, .inl (g.2.2.2.1, N, .inl f))) (hin : vp_in i N) (K : yJ Z R k n L (pc + 1) lv (.int (f i.toNatClampNeg) :: st)) : yJ Z R k n L pc lv (.int i :: .ref a :: st) := by
  obtain ⟨p, l, e, s, m, args, below, meth, c, Q, D, tys, A, nL'⟩ := Z
  obtain ⟨rfl, rfl, rfl, rfl, hx, hb, hml, hown, hts, hlk, hK, hN, hA⟩ := C
  intro H locs ls hP hD hS hl
  exact va_zald hx hb hK hP q0 1 he (show (yTy g)[1]? = some (g.2.2.2.1, .boolean) from rfl) hin hdg (K H locs ls hP hD hS hl)
theorem y_aald {Z : yZ} {g : yG} {R : Room} {k n : Nat} {L : List va_W} {lv : List (Nat × Value)} {st : List Value} {cc : ByteArray} {nL : Nat} {Ts : List Cond} {own : String} {pc : Nat} {a N : Nat} {f : Nat → Option Nat} {i : Int32} (C : yC Z g cc nL Ts own) (hdg : decode cc pc = .ok (.aaload, 1)) (q0 : Nat) (he : L.flatten[q0]? = some (a, .inl (g.2.2.2.2, N, .inr (.inr (.inr (.inr f)))))) (hin : vp_in i N) (K : yJ Z R k n L (pc + 1) lv (va_rf (f i.toNatClampNeg) :: st)) : yJ Z R k n L pc lv (.int i :: .ref a :: st) := by
  obtain ⟨p, l, e, s, m, args, below, meth, c, Q, D, tys, A, nL'⟩ := Z
  obtain ⟨rfl, rfl, rfl, rfl, hx, hb, hml, hown, hts, hlk, hK, hN, hA⟩ := C
  intro H locs ls hP hD hS hl
  exact va_aldq hx hb hK hP q0 2 he (show (yTy g)[2]? = some (g.2.2.2.2, .object RX0) from rfl) hin hdg (K H locs ls hP hD hS hl)
theorem y_iast {Z : yZ} {g : yG} {R : Room} {k n : Nat} {L : List va_W} {lv : List (Nat × Value)} {st : List Value} {cc : ByteArray} {nL : Nat} {Ts : List Cond} {own : String} {pc : Nat} {a N : Nat} {f : Nat → Int32} {i x : Int32} {L1 : List va_W} (C : yC Z g cc nL Ts own) (hdg : decode cc pc = .ok (.iastore, 1)) (q0 : Nat) (he : L.flatten[q0]? = some (a, .inl (g.2.2.1, N, .inl f))) (hin : vp_in i N) (hL : L.flatten.set q0 (a, .inl (g.2.2.1, N, .inl (upd f i.toNatClampNeg x))) = L1.flatten) (K : yJ Z R k n L1 (pc + 1) lv st) : yJ Z R k n L pc lv (.int x :: .int i :: .ref a :: st) := by
  obtain ⟨p, l, e, s, m, args, below, meth, c, Q, D, tys, A, nL'⟩ := Z
  obtain ⟨rfl, rfl, rfl, rfl, hx, hb, hml, hown, hts, hlk, hK, hN, hA⟩ := C
  intro H locs ls hP hD hS hl
  exact va_iast hx hb hK hP hD hS q0 0 he (show (yTy g)[0]? = some (g.2.2.1, .int) from rfl) hin hdg (fun H1 locs1 hP1 hD1 hS1 => K H1 locs1 ls (hL ▸ hP1) (hL ▸ hD1) hS1 hl)
theorem y_zast {Z : yZ} {g : yG} {R : Room} {k n : Nat} {L : List va_W} {lv : List (Nat × Value)} {st : List Value} {cc : ByteArray} {nL : Nat} {Ts : List Cond} {own : String} {pc : Nat} {a N : Nat} {f : Nat → Int32} {i x : Int32} {L1 : List va_W} (C : yC Z g cc nL Ts own) (hdg : decode cc pc = .ok (.bastore, 1)) (q0 : Nat) (he : L.flatten[q0]? = some (a, .inl (g.2.2.2.1, N, .inl f))) (hin : vp_in i N) (hL : L.flatten.set q0 (a, .inl (g.2.2.2.1, N, .inl (upd f i.toNatClampNeg (vp_nar .boolean x)))) = L1.flatten) (K : yJ Z R k n L1 (pc + 1) lv st) : yJ Z R k n L pc lv (.int x :: .int i :: .ref a :: st) := by
  obtain ⟨p, l, e, s, m, args, below, meth, c, Q, D, tys, A, nL'⟩ := Z
  obtain ⟨rfl, rfl, rfl, rfl, hx, hb, hml, hown, hts, hlk, hK, hN, hA⟩ := C
  intro H locs ls hP hD hS hl
  exact va_zast hx hb hK hP hD hS q0 1 he (show (yTy g)[1]? = some (g.2.2.2.1, .boolean) from rfl) hin hdg (fun H1 locs1 hP1 hD1 hS1 => K H1 locs1 ls (hL ▸ hP1) (hL ▸ hD1) hS1 hl)
theorem y_aast {Z : yZ} {g : yG} {R : Room} {k n : Nat} {L : List va_W} {lv : List (Nat × Value)} {st : List Value} {cc : ByteArray} {nL : Nat} {Ts : List Cond} {own : String} {pc : Nat} {a N v ci : Nat} {f : Nat → Option Nat} {vs : List Value} {i : Int32} {L1 : List va_W} (C : yC Z g cc nL Ts own) (hdg : decode cc pc = .ok (.aastore, 1)) (q0 qk : Nat) (he : L.flatten[q0]? = some (a, .inl (g.2.2.2.2, N, .inr (.inr (.inr (.inr f)))))) (hv : L.flatten[qk]? = some (v, .inr (0, vs))) (hin : vp_in i N) (hL : L.flatten.set q0 (a, .inl (g.2.2.2.2, N, .inr (.inr (.inr (.inr (va_up f i.toNatClampNeg (some v))))))) = L1.flatten) (K : yJ Z R k n L1 (pc + 1) lv st) : yJ Z R k n L pc lv (.ref v :: .int i :: .ref a :: st) := by
  obtain ⟨p, l, e, s, m, args, below, meth, c, Q, D, tys, A, nL'⟩ := Z
  obtain ⟨rfl, rfl, rfl, rfl, hx, hb, hml, hown, hts, hlk, hK, hN, hA⟩ := C
  intro H locs ls hP hD hS hl
  exact va_astq hx hb hK hP hD hS q0 2 qk 0 he (show (yTy g)[2]? = some (g.2.2.2.2, .object RX0) from rfl) hv (show vwCl[0]? = some (RX0, TX0, 15) from rfl) hin hdg (fun H1 locs1 hP1 hD1 hS1 => K H1 locs1 ls (hL ▸ hP1) (hL ▸ hD1) hS1 hl)
theorem y_sub {Z : yZ} {R : Room} {k n : Nat} {L : List va_W} {lv : List (Nat × Value)} {st : List Value} {pc : Nat} {lv' : List (Nat × Value)} (ks : List Nat) (hl' : lv_pick lv ks = lv') (K : yJ Z R k n L pc lv' st) : yJ Z R k n L pc lv st := by
  obtain ⟨p, l, e, s, m, args, below, meth, c, Q, D, tys, A, nL'⟩ := Z
  intro H locs ls hP hD hS hl
  exact K H locs ls hP hD hS (lv_sub hl ks hl')
theorem y_fact {Z : yZ} {R : Room} {k n : Nat} {L : List va_W} {lv : List (Nat × Value)} {st : List Value} {pc : Nat} {F : Prop} (h : ∀ A, va_D A L.flatten → F) (K : F → yJ Z R k n L pc lv st) : yJ Z R k n L pc lv st := by
  obtain ⟨p, l, e, s, m, args, below, meth, c, Q, D, tys, A, nL'⟩ := Z
  intro H locs ls hP hD hS hl
  exact K (h A hD) H locs ls hP hD hS hl
theorem y_world {Z : yZ} {R : Room} {k n : Nat} {L : List va_W} {lv : List (Nat × Value)} {st : List Value} {pc : Nat} {L1 : List va_W} (h : L.flatten = L1.flatten) (K : yJ Z R k n L1 pc lv st) : yJ Z R k n L pc lv st := by
  obtain ⟨p, l, e, s, m, args, below, meth, c, Q, D, tys, A, nL'⟩ := Z
  intro H locs ls hP hD hS hl
  exact K H locs ls (h ▸ hP) (h ▸ hD) hS hl
theorem yP_perm {D : va_G} {ws ws' : va_W} {H : Heap} (h : va_P D vwCl ws H) (hp : ws.Perm ws') : va_P D vwCl ws' H := by
  intro k q hk
  obtain ⟨i, hi⟩ := List.getElem?_of_mem (hp.mem_iff.mpr (List.mem_of_getElem? hk))
  exact h i q hi
theorem yD_iff {A : Nat → Prop} {ws : va_W} : va_D A ws ↔ (ws.map Prod.fst).Nodup ∧ ∀ q ∈ ws, A q.1 := by
  constructor
  · rintro ⟨h1, h2⟩
    refine ⟨?_, fun q hq => ?_⟩
    · rw [List.nodup_iff_pairwise_ne, List.pairwise_iff_getElem]
      intro i j hi hj hij e
      rw [List.length_map] at hi hj
      rw [List.getElem_map, List.getElem_map] at e
      have := h1 i j ws[i] ws[j] (List.getElem?_eq_getElem hi) (List.getElem?_eq_getElem hj) e
      omega
    · obtain ⟨i, hi⟩ := List.getElem?_of_mem hq
      exact h2 i q hi
  · rintro ⟨h1, h2⟩
    refine ⟨fun i j p q hi hj e => ?_, fun k q hk => h2 q (List.mem_of_getElem? hk)⟩
    rw [List.nodup_iff_pairwise_ne, List.pairwise_iff_getElem] at h1
    obtain ⟨hi', ei⟩ := List.getElem?_eq_some_iff.mp hi
    obtain ⟨hj', ej⟩ := List.getElem?_eq_some_iff.mp hj
    rcases Nat.lt_trichotomy i j with h | h | h
    · exact absurd (by rw [List.getElem_map, List.getElem_map, ei, ej]; exact e) (h1 i j (by rw [List.length_map]; exact hi') (by rw [List.length_map]; exact hj') h)
    · exact h
    · exact absurd (by rw [List.getElem_map, List.getElem_map, ei, ej]; exact e.symm) (h1 j i (by rw [List.length_map]; exact hj') (by rw [List.length_map]; exact hi') h)
theorem yD_perm {A : Nat → Prop} {ws ws' : va_W} (h : va_D A ws) (hp : ws.Perm ws') : va_D A ws' := by
  rw [yD_iff] at h ⊢
  exact ⟨(hp.map Prod.fst).nodup_iff.mp h.1, fun q hq => h.2 q (hp.mem_iff.mpr hq)⟩
theorem yD_app {A : Nat → Prop} {w1 w2 : va_W} (h : va_D A (w1 ++ w2)) : va_D A w1 ∧ va_D A w2 ∧ ∀ p ∈ w1, ∀ q ∈ w2, p.1 ≠ q.1 := by
  rw [yD_iff] at h
  obtain ⟨h1, h2⟩ := h
  rw [List.map_append, List.nodup_append] at h1
  obtain ⟨a, b, c⟩ := h1
  exact ⟨yD_iff.mpr ⟨a, fun q hq => h2 q (List.mem_append_left _ hq)⟩, yD_iff.mpr ⟨b, fun q hq => h2 q (List.mem_append_right _ hq)⟩, fun p hp q hq => c p.1 (List.mem_map_of_mem hp) q.1 (List.mem_map_of_mem hq)⟩
theorem yD_mk {A : Nat → Prop} {w1 w2 : va_W} (h1 : va_D A w1) (h2 : va_D A w2) (h : ∀ p ∈ w1, ∀ q ∈ w2, p.1 ≠ q.1) : va_D A (w1 ++ w2) := by
  rw [yD_iff] at h1 h2 ⊢
  refine ⟨?_, fun q hq => (List.mem_append.mp hq).elim (h1.2 q) (h2.2 q)⟩
  rw [List.map_append, List.nodup_append]
  refine ⟨h1.1, h2.1, fun a ha b hb => ?_⟩
  obtain ⟨p, hp, rfl⟩ := List.mem_map.mp ha
  obtain ⟨q, hq, rfl⟩ := List.mem_map.mp hb
  exact h p hp q hq
/-- blocks by their places -/
def yPick (L : List va_W) (is : List Nat) : List va_W := is.map (fun i => L.getD i [])
theorem yPick_range (L : List va_W) : yPick L (List.range L.length) = L := by
  apply List.ext_getElem
  · simp [yPick]
  · intro i h1 h2
    simp [yPick, h2]
theorem y_permOf (L : List va_W) (is js : List Nat) (h : (is ++ js).isPerm (List.range L.length) = true) : L.flatten.Perm ((yPick L is).flatten ++ (yPick L js).flatten) := by
  have h1 : (is ++ js).Perm (List.range L.length) := List.isPerm_iff.mp h
  have h2 : ((is ++ js).map (fun i => L.getD i [])).Perm ((List.range L.length).map (fun i => L.getD i [])) := h1.map _
  have h3 := h2.flatten
  rw [show (List.range L.length).map (fun i => L.getD i []) = L from yPick_range L] at h3
  rw [List.map_append, List.flatten_append] at h3
  exact h3.symm
end
section
/-! ===== calls over blocks ===== -/
theorem y_split {D : va_G} {A : Nat → Prop} {L B : List va_W} {H : Heap} {is js : List Nat} (hperm : (is ++ js).isPerm (List.range L.length) = true) (hpick : yPick L is = B) (hP : va_P D vwCl L.flatten H) (hD : va_D A L.flatten) : va_P D vwCl B.flatten H ∧ va_D A B.flatten ∧ va_P D vwCl (yPick L js).flatten H ∧ va_D A (yPick L js).flatten ∧ ∀ p ∈ B.flatten, ∀ q ∈ (yPick L js).flatten, p.1 ≠ q.1 := by
  have hp := y_permOf L is js hperm
  rw [hpick] at hp
  have hP' := yP_perm hP hp
  have hD' := yD_perm hD hp
  obtain ⟨d1, d2, d3⟩ := yD_app hD'
  refine ⟨fun k q hk => ?_, d1, fun k q hk => ?_, d2, d3⟩
  · obtain ⟨i, hi⟩ := List.getElem?_of_mem (List.mem_append_left (yPick L js).flatten (List.mem_of_getElem? hk))
    exact hP' i q hi
  · obtain ⟨i, hi⟩ := List.getElem?_of_mem (List.mem_append_right B.flatten (List.mem_of_getElem? hk))
    exact hP' i q hi
theorem y_freeOf {A : Nat → Prop} {B : List va_W} {H0 H : Heap} {locs : List Loc} (hDB : va_D A B.flatten) (hS : va_S A H0 H locs) (hA : ∀ q, H0.size ≤ q → A q) : ∀ q, va_A B.flatten H.size q → A q := by
  rintro q (⟨k, e, h⟩ | h)
  · exact hDB.2 k (q, e) h
  · exact hA q (Nat.le_trans hS.1 h)
theorem y_back {D : va_G} {A : Nat → Prop} {L B L1 w : List va_W} {H H1 : Heap} {is js : List Nat} (hperm : (is ++ js).isPerm (List.range L.length) = true) (hPf : va_P D vwCl (yPick L js).flatten H) (hDf : va_D A (yPick L js).flatten) (hdis : ∀ p ∈ B.flatten, ∀ q ∈ (yPick L js).flatten, p.1 ≠ q.1) (hfree : ∀ q, va_A B.flatten H.size q → A q) (hk : ∀ q : Nat, q < H.size → ¬ va_A B.flatten H.size q → H1[q]? = H[q]?) (hPw : va_P D vwCl w.flatten H1) (hDw : va_D (va_A B.flatten H.size) w.flatten) (h1 : yPick L1 is = w) (h2 : yPick L1 js = yPick L js) (h3 : L1.length = L.length) : va_P D vwCl L1.flatten H1 ∧ va_D A L1.flatten := by
  have hp := y_permOf L1 is js (by rw [h3]; exact hperm)
  rw [h1, h2] at hp
  have out : ∀ q ∈ (yPick L js).flatten, q.1 < H.size ∧ ¬ va_A B.flatten H.size q.1 := by
    intro q hq
    obtain ⟨i, hi⟩ := List.getElem?_of_mem hq
    have hl := (hPf i q hi).lt
    refine ⟨hl, ?_⟩
    rintro (⟨k, e, h⟩ | h)
    · exact hdis (q.1, e) (List.mem_of_getElem? h) q hq rfl
    · omega
  have hPf1 : va_P D vwCl (yPick L js).flatten H1 := hPf.kept (fun k q hq => hk q.1 (out q (List.mem_of_getElem? hq)).1 (out q (List.mem_of_getElem? hq)).2)
  have hDw' : va_D A w.flatten := hDw.weaken (fun k q _ h => hfree q.1 h)
  refine ⟨yP_perm (va_P.app hPw hPf1) hp.symm, yD_perm (yD_mk hDw' hDf ?_) hp.symm⟩
  intro p hp q hq e
  obtain ⟨i, hi⟩ := List.getElem?_of_mem hp
  exact (out q hq).2 (by rw [← e]; exact hDw.2 i p hi)
def yRecv (B : List va_W) (b : Nat) (Cn : String) : Prop := ∀ (D : va_G) (A : Nat → Prop) (H : Heap), va_P D vwCl B.flatten H → va_D A B.flatten → ∃ (q0 ci : Nat) (fs : List Value) (q : vw_C), B.flatten[q0]? = some (b, .inr (ci, fs)) ∧ vwCl[ci]? = some q ∧ q.1 = Cn
theorem yRecv.of {B : List va_W} {b ci q0 : Nat} {fs : List Value} {q : vw_C} (h : B.flatten[q0]? = some (b, .inr (ci, fs))) (hc : vwCl[ci]? = some q) : yRecv B b q.1 := fun _ _ _ _ _ => ⟨q0, ci, fs, q, h, hc, rfl⟩
theorem yPre_blind (g : yG) (As : List Value) (B : List va_W) (sz : Nat) : FrameBlind (yPre g As B sz) := by
  rintro a U f mk ⟨q0, q1, qP, ⟨qK, qN⟩, qD⟩
  exact ⟨q0, q1, qP, ⟨va_K.moved (u := U) (U := U.calling f mk a) (Vm.Alike.refl U.vm) qK, qN.same rfl⟩, qD⟩
theorem y_callV {Z : yZ} {g : yG} {R : Room} {k n : Nat} {L : List va_W} {lv : List (Nat × Value)} {st : List Value} {cc : ByteArray} {nL : Nat} {Ts : List Cond} {own : String} {pc : Nat} {index mc ms maxL b : Nat} {Cn : String} {y : MethodName} {bytes : ByteArray} {ret : Option FieldType} {ws ws' : List Cond} {rm : Room} {B : List va_W} {nA nB : Nat} {As rest : List Value} {post : Int32 → List va_W → Prop} (C : yC Z g cc nL Ts own) (hdg : decode cc pc = .ok (.invokevirtual index, 3)) (hM : yM g y ws rm (.ref b :: As) B post mc ms) (hst : st = As.reverse ++ .ref b :: rest) (hw : ws = Cond.code y bytes maxL ret :: ws') (hrc : rm.cells = mc) (hrs : rm.slots = ms) (hR : rm.frames + 1 ≤ R.frames ∧ 8 + (maxL + 11) + rm.locals ≤ R.locals) (hG : GoodIn Ts (wsV own index Cn y ws)) (hd : y.cls = Cn ∧ y.cls ≠ "java/lang/invoke/MethodHandle" ∧ y.cls ≠ "java/lang/invoke/VarHandle" ∧ (parseMethodDescriptor y.desc).map (fun d => d.parameters.length) = some nA) (hnA : As.length = nA) (hrecv : yRecv B b Cn) (hcat : (rest.map fun v => v.category).sum ≤ 8) (hf : k + mc ≤ R.cells ∧ n + ms ≤ R.slots) (is js : List Nat) (hnB : L.length = nB) (hperm : (is ++ js).isPerm (List.range nB) = true) (hpick : yPick L is = B) (K : ∀ r w, post r w → ∃ L1, (yPick L1 is = w ∧ yPick L1 js = yPick L js ∧ L1.length = L.length) ∧ yJ Z R (k + mc) (n + ms) L1 (pc + 3) lv (.int r :: rest)) : yJ Z R k n L pc lv st := by
  obtain ⟨p, l, e, s, m, args, below, meth, c, Q, D, tys, A, nL'⟩ := Z
  obtain ⟨rfl, rfl, rfl, rfl, hx, hb, hml, hown, hts, hlk, hK, hN, hA⟩ := C
  intro H locs ls hP hD hS hl
  subst hnA hnB
  obtain ⟨hPB, hDB, hPf, hDf, hdis⟩ := y_split hperm hpick hP hD
  obtain ⟨q0, ci, fs, q, e1, e2, e3⟩ := hrecv _ _ _ hPB hDB
  have hrc' := va_recv hK hPB e2 e1
  rw [e3] at hrc'
  refine va_calli (va_runV (As := As) (rest := rest) ⟨hx, hb, hml, hown, hts⟩ (hM H.size) (cwV As.length hts hG hw hrc hrs hd hR) ⟨yPre_blind _ _ _ _, hrc', fun U hU hW => ⟨rfl, by rw [hU], by rw [hU]; exact hPB, ⟨va_K.moved hW.alike hK, hN.warm hW⟩, hDB.weaken (fun _ _ _ _ => trivial)⟩⟩ rfl rfl hl.1 hst (lv_room hcat) hdg hf) hS (fun q _ h => y_freeOf hDB hS hA q h) (y_freeOf hDB hS hA) (fun r w t H1 locs1 ht hvm hw' hB hz1 hk1 hS1 => ?_)
  obtain ⟨L1, ⟨h1, h2, h3⟩, KK⟩ := K r w hw'
  obtain ⟨hPw, hDw⟩ := hB
  rw [ht] at hPw
  obtain ⟨hP1, hD1⟩ := y_back hperm hPf hDf hdis (y_freeOf hDB hS hA) hk1 hPw hDw h1 h2 h3
  exact KK H1 locs1 ls hP1 hD1 hS1 hl
theorem y_callVv {Z : yZ} {g : yG} {R : Room} {k n : Nat} {L : List va_W} {lv : List (Nat × Value)} {st : List Value} {cc : ByteArray} {nL : Nat} {Ts : List Cond} {own : String} {pc : Nat} {index mc ms maxL b : Nat} {Cn : String} {y : MethodName} {bytes : ByteArray} {ret : Option FieldType} {ws ws' : List Cond} {rm : Room} {B : List va_W} {nA nB : Nat} {As rest : List Value} {post : List va_W → Prop} (C : yC Z g cc nL Ts own) (hdg : decode cc pc = .ok (.invokevirtual index, 3)) (hM : yMv g y ws rm (.ref b :: As) B post mc ms) (hst : st = As.reverse ++ .ref b :: rest) (hw : ws = Cond.code y bytes maxL ret :: ws') (hrc : rm.cells = mc) (hrs : rm.slots = ms) (hR : rm.frames + 1 ≤ R.frames ∧ 8 + (maxL + 11) + rm.locals ≤ R.locals) (hG : GoodIn Ts (wsV own index Cn y ws)) (hd : y.cls = Cn ∧ y.cls ≠ "java/lang/invoke/MethodHandle" ∧ y.cls ≠ "java/lang/invoke/VarHandle" ∧ (parseMethodDescriptor y.desc).map (fun d => d.parameters.length) = some nA) (hnA : As.length = nA) (hrecv : yRecv B b Cn) (hcat : (rest.map fun v => v.category).sum ≤ 8) (hf : k + mc ≤ R.cells ∧ n + ms ≤ R.slots) (is js : List Nat) (hnB : L.length = nB) (hperm : (is ++ js).isPerm (List.range nB) = true) (hpick : yPick L is = B) (K : ∀ w, post w → ∃ L1, (yPick L1 is = w ∧ yPick L1 js = yPick L js ∧ L1.length = L.length) ∧ yJ Z R (k + mc) (n + ms) L1 (pc + 3) lv rest) : yJ Z R k n L pc lv st := by
  obtain ⟨p, l, e, s, m, args, below, meth, c, Q, D, tys, A, nL'⟩ := Z
  obtain ⟨rfl, rfl, rfl, rfl, hx, hb, hml, hown, hts, hlk, hK, hN, hA⟩ := C
  intro H locs ls hP hD hS hl
  subst hnA hnB
  obtain ⟨hPB, hDB, hPf, hDf, hdis⟩ := y_split hperm hpick hP hD
  obtain ⟨q0, ci, fs, q, e1, e2, e3⟩ := hrecv _ _ _ hPB hDB
  have hrc' := va_recv hK hPB e2 e1
  rw [e3] at hrc'
  refine va_callv (va_runV (As := As) (rest := rest) ⟨hx, hb, hml, hown, hts⟩ (hM H.size) (cwV As.length hts hG hw hrc hrs hd hR) ⟨yPre_blind _ _ _ _, hrc', fun U hU hW => ⟨rfl, by rw [hU], by rw [hU]; exact hPB, ⟨va_K.moved hW.alike hK, hN.warm hW⟩, hDB.weaken (fun _ _ _ _ => trivial)⟩⟩ rfl rfl hl.1 hst (lv_room hcat) hdg hf) hS (fun q _ h => y_freeOf hDB hS hA q h) (y_freeOf hDB hS hA) (fun w t H1 locs1 ht hvm hw' hB hz1 hk1 hS1 => ?_)
  obtain ⟨L1, ⟨h1, h2, h3⟩, KK⟩ := K w hw'
  obtain ⟨hPw, hDw⟩ := hB
  rw [ht] at hPw
  obtain ⟨hP1, hD1⟩ := y_back hperm hPf hDf hdis (y_freeOf hDB hS hA) hk1 hPw hDw h1 h2 h3
  exact KK H1 locs1 ls hP1 hD1 hS1 hl
theorem y_callS {Z : yZ} {g : yG} {R : Room} {k n : Nat} {L : List va_W} {lv : List (Nat × Value)} {st : List Value} {cc : ByteArray} {nL : Nat} {Ts : List Cond} {own : String} {pc : Nat} {index mc ms maxL : Nat} {y : MethodName} {bytes : ByteArray} {ret : Option FieldType} {ws ws' : List Cond} {rm : Room} {B : List va_W} {nA nB : Nat} {As rest : List Value} {post : Int32 → List va_W → Prop} (C : yC Z g cc nL Ts own) (hdg : decode cc pc = .ok (.invokestatic index, 3)) (hM : yM g y ws rm (As) B post mc ms) (hst : st = As.reverse ++ rest) (hw : ws = Cond.code y bytes maxL ret :: ws') (hrc : rm.cells = mc) (hrs : rm.slots = ms) (hR : rm.frames + 1 ≤ R.frames ∧ 8 + (maxL + 11) + rm.locals ≤ R.locals) (hG : GoodIn Ts (wsS own index y ws)) (hd : y.cls = own ∧ y.cls ≠ "java/lang/invoke/MethodHandle" ∧ y.cls ≠ "java/lang/invoke/VarHandle" ∧ (parseMethodDescriptor y.desc).map (fun d => d.parameters.length) = some nA) (hnA : As.length = nA) (hcat : (rest.map fun v => v.category).sum ≤ 8) (hf : k + mc ≤ R.cells ∧ n + ms ≤ R.slots) (is js : List Nat) (hnB : L.length = nB) (hperm : (is ++ js).isPerm (List.range nB) = true) (hpick : yPick L is = B) (K : ∀ r w, post r w → ∃ L1, (yPick L1 is = w ∧ yPick L1 js = yPick L js ∧ L1.length = L.length) ∧ yJ Z R (k + mc) (n + ms) L1 (pc + 3) lv (.int r :: rest)) : yJ Z R k n L pc lv st := by
  obtain ⟨p, l, e, s, m, args, below, meth, c, Q, D, tys, A, nL'⟩ := Z
  obtain ⟨rfl, rfl, rfl, rfl, hx, hb, hml, hown, hts, hlk, hK, hN, hA⟩ := C
  intro H locs ls hP hD hS hl
  subst hnA hnB
  obtain ⟨hPB, hDB, hPf, hDf, hdis⟩ := y_split hperm hpick hP hD
  refine va_calli (va_runS (As := As) (rest := rest) ⟨hx, hb, hml, hown, hts⟩ (hM H.size) (cwS As.length hts hG hw hrc hrs hd hR) ⟨yPre_blind _ _ _ _, fun U hU hW => ⟨rfl, by rw [hU], by rw [hU]; exact hPB, ⟨va_K.moved hW.alike hK, hN.warm hW⟩, hDB.weaken (fun _ _ _ _ => trivial)⟩⟩ rfl rfl hl.1 hst (lv_room hcat) hdg hf) hS (fun q _ h => y_freeOf hDB hS hA q h) (y_freeOf hDB hS hA) (fun r w t H1 locs1 ht hvm hw' hB hz1 hk1 hS1 => ?_)
  obtain ⟨L1, ⟨h1, h2, h3⟩, KK⟩ := K r w hw'
  obtain ⟨hPw, hDw⟩ := hB
  rw [ht] at hPw
  obtain ⟨hP1, hD1⟩ := y_back hperm hPf hDf hdis (y_freeOf hDB hS hA) hk1 hPw hDw h1 h2 h3
  exact KK H1 locs1 ls hP1 hD1 hS1 hl
theorem y_callSN {Z : yZ} {g : yG} {R : Room} {k n : Nat} {L : List va_W} {lv : List (Nat × Value)} {st : List Value} {cc : ByteArray} {nL : Nat} {Ts : List Cond} {own : String} {pc : Nat} {index mc ms maxL : Nat} {y : MethodName} {bytes : ByteArray} {ret : Option FieldType} {ws ws' : List Cond} {rm : Room} {B : List va_W} {nA nB : Nat} {As rest : List Value} {post : Int32 → List va_W → Prop} (C : yC Z g cc nL Ts own) (hdg : decode cc pc = .ok (.invokestatic index, 3)) (hM : yM g y ws rm (As) B post mc ms) (hst : st = As.reverse ++ rest) (hw : ws = Cond.code y bytes maxL ret :: ws') (hrc : rm.cells = mc) (hrs : rm.slots = ms) (hR : rm.frames + 1 ≤ R.frames ∧ 8 + (maxL + 11) + rm.locals ≤ R.locals) {host : String} (hG : GoodIn Ts ws) (hlink : Cond.methodLinkNest own index y host ∈ yN) (hini : Cond.initialized y.cls ∈ Ts) (hstt : Cond.static y ∈ Ts) (hd : y.cls ≠ "java/lang/invoke/MethodHandle" ∧ y.cls ≠ "java/lang/invoke/VarHandle" ∧ (parseMethodDescriptor y.desc).map (fun d => d.parameters.length) = some nA) (hnA : As.length = nA) (hcat : (rest.map fun v => v.category).sum ≤ 8) (hf : k + mc ≤ R.cells ∧ n + ms ≤ R.slots) (is js : List Nat) (hnB : L.length = nB) (hperm : (is ++ js).isPerm (List.range nB) = true) (hpick : yPick L is = B) (K : ∀ r w, post r w → ∃ L1, (yPick L1 is = w ∧ yPick L1 js = yPick L js ∧ L1.length = L.length) ∧ yJ Z R (k + mc) (n + ms) L1 (pc + 3) lv (.int r :: rest)) : yJ Z R k n L pc lv st := by
  obtain ⟨p, l, e, s, m, args, below, meth, c, Q, D, tys, A, nL'⟩ := Z
  obtain ⟨rfl, rfl, rfl, rfl, hx, hb, hml, hown, hts, hlk, hK, hN, hA⟩ := C
  intro H locs ls hP hD hS hl
  subst hnA hnB
  obtain ⟨hPB, hDB, hPf, hDf, hdis⟩ := y_split hperm hpick hP hD
  refine va_calli (va_runSN (As := As) (rest := rest) ⟨hx, hb, hml, hown, hts⟩ (hM H.size) ⟨va_cnB As.length hts hG hw hrc hrs (hN _ hlink) (hts _ hini) hd hR, hts _ hstt, trivial⟩ ⟨yPre_blind _ _ _ _, fun U hU hW => ⟨rfl, by rw [hU], by rw [hU]; exact hPB, ⟨va_K.moved hW.alike hK, hN.warm hW⟩, hDB.weaken (fun _ _ _ _ => trivial)⟩⟩ rfl rfl hl.1 hst (lv_room hcat) hdg hf) hS (fun q _ h => y_freeOf hDB hS hA q h) (y_freeOf hDB hS hA) (fun r w t H1 locs1 ht hvm hw' hB hz1 hk1 hS1 => ?_)
  obtain ⟨L1, ⟨h1, h2, h3⟩, KK⟩ := K r w hw'
  obtain ⟨hPw, hDw⟩ := hB
  rw [ht] at hPw
  obtain ⟨hP1, hD1⟩ := y_back hperm hPf hDf hdis (y_freeOf hDB hS hA) hk1 hPw hDw h1 h2 h3
  exact KK H1 locs1 ls hP1 hD1 hS1 hl
theorem y_callI {Z : yZ} {g : yG} {R : Room} {k n : Nat} {L : List va_W} {lv : List (Nat × Value)} {st : List Value} {cc : ByteArray} {nL : Nat} {Ts : List Cond} {own : String} {pc : Nat} {index mc ms maxL b : Nat} {y : MethodName} {bytes : ByteArray} {ws ws' : List Cond} {rm : Room} {B : List va_W} {nA nB : Nat} {As rest : List Value} {post : List va_W → Prop} (C : yC Z g cc nL Ts own) (hdg : decode cc pc = .ok (.invokespecial index, 3)) (hM : yMv g y ws rm (.ref b :: As) B post mc ms) (hst : st = As.reverse ++ .ref b :: rest) (hw : ws = Cond.code y bytes maxL none :: ws') (hrc : rm.cells = mc) (hrs : rm.slots = ms) (hR : rm.frames + 1 ≤ R.frames ∧ 8 + (maxL + 11) + rm.locals ≤ R.locals) (hG : GoodIn Ts ws) (hlink : Cond.methodLink own index y ∈ Ts) (hini : Cond.initialized y.cls ∈ Ts) (hinm : Cond.instanceMethod y ∈ Ts) (hy1 : y.name = "<init>") (hd : y.cls ≠ "java/lang/invoke/MethodHandle" ∧ y.cls ≠ "java/lang/invoke/VarHandle" ∧ (parseMethodDescriptor y.desc).map (fun d => d.parameters.length) = some nA) (hnA : As.length = nA) (hcat : (rest.map fun v => v.category).sum ≤ 8) (hf : k + mc ≤ R.cells ∧ n + ms ≤ R.slots) (is js : List Nat) (hnB : L.length = nB) (hperm : (is ++ js).isPerm (List.range nB) = true) (hpick : yPick L is = B) (K : ∀ w, post w → ∃ L1, (yPick L1 is = w ∧ yPick L1 js = yPick L js ∧ L1.length = L.length) ∧ yJ Z R (k + mc) (n + ms) L1 (pc + 3) lv rest) : yJ Z R k n L pc lv st := by
  obtain ⟨p, l, e, s, m, args, below, meth, c, Q, D, tys, A, nL'⟩ := Z
  obtain ⟨rfl, rfl, rfl, rfl, hx, hb, hml, hown, hts, hlk, hK, hN, hA⟩ := C
  intro H locs ls hP hD hS hl
  subst hnA hnB
  obtain ⟨hPB, hDB, hPf, hDf, hdis⟩ := y_split hperm hpick hP hD
  refine va_callv (va_runI (As := As) (rest := rest) ⟨hx, hb, hml, hown, hts⟩ (hM H.size) (cwI As.length hts hG hw hrc hrs (hts _ hini) (hts _ hlink) (hts _ hinm) hy1 hd hR) ⟨yPre_blind _ _ _ _, fun U hU hW => ⟨rfl, by rw [hU], by rw [hU]; exact hPB, ⟨va_K.moved hW.alike hK, hN.warm hW⟩, hDB.weaken (fun _ _ _ _ => trivial)⟩⟩ rfl rfl hl.1 hst (lv_room hcat) hdg hf) hS (fun q _ h => y_freeOf hDB hS hA q h) (y_freeOf hDB hS hA) (fun w t H1 locs1 ht hvm hw' hB hz1 hk1 hS1 => ?_)
  obtain ⟨L1, ⟨h1, h2, h3⟩, KK⟩ := K w hw'
  obtain ⟨hPw, hDw⟩ := hB
  rw [ht] at hPw
  obtain ⟨hP1, hD1⟩ := y_back hperm hPf hDf hdis (y_freeOf hDB hS hA) hk1 hPw hDw h1 h2 h3
  exact KK H1 locs1 ls hP1 hD1 hS1 hl
theorem y_callIN {Z : yZ} {g : yG} {R : Room} {k n : Nat} {L : List va_W} {lv : List (Nat × Value)} {st : List Value} {cc : ByteArray} {nL : Nat} {Ts : List Cond} {own : String} {pc : Nat} {index mc ms maxL b : Nat} {y : MethodName} {bytes : ByteArray} {ws ws' : List Cond} {rm : Room} {B : List va_W} {nA nB : Nat} {As rest : List Value} {post : List va_W → Prop} (C : yC Z g cc nL Ts own) (hdg : decode cc pc = .ok (.invokespecial index, 3)) (hM : yMv g y ws rm (.ref b :: As) B post mc ms) (hst : st = As.reverse ++ .ref b :: rest) (hw : ws = Cond.code y bytes maxL none :: ws') (hrc : rm.cells = mc) (hrs : rm.slots = ms) (hR : rm.frames + 1 ≤ R.frames ∧ 8 + (maxL + 11) + rm.locals ≤ R.locals) {host : String} (hG : GoodIn Ts ws) (hlink : Cond.methodLinkNest own index y host ∈ yN) (hini : Cond.initialized y.cls ∈ Ts) (hinm : Cond.instanceMethod y ∈ Ts) (hy1 : y.name = "<init>") (hd : y.cls ≠ "java/lang/invoke/MethodHandle" ∧ y.cls ≠ "java/lang/invoke/VarHandle" ∧ (parseMethodDescriptor y.desc).map (fun d => d.parameters.length) = some nA) (hnA : As.length = nA) (hcat : (rest.map fun v => v.category).sum ≤ 8) (hf : k + mc ≤ R.cells ∧ n + ms ≤ R.slots) (is js : List Nat) (hnB : L.length = nB) (hperm : (is ++ js).isPerm (List.range nB) = true) (hpick : yPick L is = B) (K : ∀ w, post w → ∃ L1, (yPick L1 is = w ∧ yPick L1 js = yPick L js ∧ L1.length = L.length) ∧ yJ Z R (k + mc) (n + ms) L1 (pc + 3) lv rest) : yJ Z R k n L pc lv st := by
  obtain ⟨p, l, e, s, m, args, below, meth, c, Q, D, tys, A, nL'⟩ := Z
  obtain ⟨rfl, rfl, rfl, rfl, hx, hb, hml, hown, hts, hlk, hK, hN, hA⟩ := C
  intro H locs ls hP hD hS hl
  subst hnA hnB
  obtain ⟨hPB, hDB, hPf, hDf, hdis⟩ := y_split hperm hpick hP hD
  refine va_callv (va_runIN (As := As) (rest := rest) ⟨hx, hb, hml, hown, hts⟩ (hM H.size) ⟨va_cnB As.length hts hG hw hrc hrs (hN _ hlink) (hts _ hini) hd hR, hy1, hts _ hinm⟩ ⟨yPre_blind _ _ _ _, fun U hU hW => ⟨rfl, by rw [hU], by rw [hU]; exact hPB, ⟨va_K.moved hW.alike hK, hN.warm hW⟩, hDB.weaken (fun _ _ _ _ => trivial)⟩⟩ rfl rfl hl.1 hst (lv_room hcat) hdg hf) hS (fun q _ h => y_freeOf hDB hS hA q h) (y_freeOf hDB hS hA) (fun w t H1 locs1 ht hvm hw' hB hz1 hk1 hS1 => ?_)
  obtain ⟨L1, ⟨h1, h2, h3⟩, KK⟩ := K w hw'
  obtain ⟨hPw, hDw⟩ := hB
  rw [ht] at hPw
  obtain ⟨hP1, hD1⟩ := y_back hperm hPf hDf hdis (y_freeOf hDB hS hA) hk1 hPw hDw h1 h2 h3
  exact KK H1 locs1 ls hP1 hD1 hS1 hl
theorem y_mmax {Z : yZ} {g : yG} {R : Room} {k n : Nat} {L : List va_W} {lv : List (Nat × Value)} {st : List Value} {cc : ByteArray} {nL : Nat} {Ts : List Cond} {own : String} {pc : Nat} {index : Nat} {x y : Int32} (C : yC Z g cc nL Ts own) (hdg : decode cc pc = .ok (.invokestatic index, 3)) (hlink : Cond.methodLink own index Lib.Math.max.name ∈ Ts) (hstat : Cond.static Lib.Math.max.name ∈ Ts) (hini : Cond.initialized "java/lang/Math" ∈ Ts) (hcode : Cond.code Lib.Math.max.name Lib.Math.max.code 2 (some .int) ∈ Ts) (hfr : 1 ≤ R.frames) (hlo : (st.map fun v => v.category).sum + 13 ≤ R.locals) (hc : k ≤ R.cells) (hs : n ≤ R.slots) (K : yJ Z R k n L (pc + 3) lv (.int (if x < y then y else x) :: st)) : yJ Z R k n L pc lv (.int y :: .int x :: st) := by
  obtain ⟨p, l, e, s, m, args, below, meth, c, Q, D, tys, A, nL'⟩ := Z
  obtain ⟨rfl, rfl, rfl, rfl, hx, hb, hml, hown, hts, hlk, hK, hN, hA⟩ := C
  intro H locs ls hP hD hS hl
  exact va_mmax hx hb (hml.trans hl.1.symm) hown (hts _ hlink) (hts _ hstat) (hts _ hini) (hts _ hcode) hfr hlo hc hs hdg (K H locs ls hP hD hS hl)
theorem y_mmin {Z : yZ} {g : yG} {R : Room} {k n : Nat} {L : List va_W} {lv : List (Nat × Value)} {st : List Value} {cc : ByteArray} {nL : Nat} {Ts : List Cond} {own : String} {pc : Nat} {index : Nat} {x y : Int32} (C : yC Z g cc nL Ts own) (hdg : decode cc pc = .ok (.invokestatic index, 3)) (hlink : Cond.methodLink own index Lib.Math.min.name ∈ Ts) (hstat : Cond.static Lib.Math.min.name ∈ Ts) (hini : Cond.initialized "java/lang/Math" ∈ Ts) (hcode : Cond.code Lib.Math.min.name Lib.Math.min.code 2 (some .int) ∈ Ts) (hfr : 1 ≤ R.frames) (hlo : (st.map fun v => v.category).sum + 13 ≤ R.locals) (hc : k ≤ R.cells) (hs : n ≤ R.slots) (K : yJ Z R k n L (pc + 3) lv (.int (if y < x then y else x) :: st)) : yJ Z R k n L pc lv (.int y :: .int x :: st) := by
  obtain ⟨p, l, e, s, m, args, below, meth, c, Q, D, tys, A, nL'⟩ := Z
  obtain ⟨rfl, rfl, rfl, rfl, hx, hb, hml, hown, hts, hlk, hK, hN, hA⟩ := C
  intro H locs ls hP hD hS hl
  exact va_mmin hx hb (hml.trans hl.1.symm) hown (hts _ hlink) (hts _ hstat) (hts _ hini) (hts _ hcode) hfr hlo hc hs hdg (K H locs ls hP hD hS hl)
theorem y_mabs {Z : yZ} {g : yG} {R : Room} {k n : Nat} {L : List va_W} {lv : List (Nat × Value)} {st : List Value} {cc : ByteArray} {nL : Nat} {Ts : List Cond} {own : String} {pc : Nat} {index : Nat} {x : Int32} (C : yC Z g cc nL Ts own) (hdg : decode cc pc = .ok (.invokestatic index, 3)) (hlink : Cond.methodLink own index Lib.Math.abs.name ∈ Ts) (hstat : Cond.static Lib.Math.abs.name ∈ Ts) (hini : Cond.initialized "java/lang/Math" ∈ Ts) (hcode : Cond.code Lib.Math.abs.name Lib.Math.abs.code 1 (some .int) ∈ Ts) (hfr : 1 ≤ R.frames) (hlo : (st.map fun v => v.category).sum + 13 ≤ R.locals) (hc : k ≤ R.cells) (hs : n ≤ R.slots) (K : yJ Z R k n L (pc + 3) lv (.int (if 0 ≤ x then x else 0 - x) :: st)) : yJ Z R k n L pc lv (.int x :: st) := by
  obtain ⟨p, l, e, s, m, args, below, meth, c, Q, D, tys, A, nL'⟩ := Z
  obtain ⟨rfl, rfl, rfl, rfl, hx, hb, hml, hown, hts, hlk, hK, hN, hA⟩ := C
  intro H locs ls hP hD hS hl
  exact va_mabs hx hb (hml.trans hl.1.symm) hown (hts _ hlink) (hts _ hstat) (hts _ hini) (hts _ hcode) hfr hlo hc hs hdg (K H locs ls hP hD hS hl)
theorem y_objInit {Z : yZ} {g : yG} {R : Room} {k n : Nat} {L : List va_W} {lv : List (Nat × Value)} {st : List Value} {cc : ByteArray} {nL : Nat} {Ts : List Cond} {own : String} {pc : Nat} {index a : Nat} (C : yC Z g cc nL Ts own) (hdg : decode cc pc = .ok (.invokespecial index, 3)) (hlink : Cond.methodLink own index Lib.objectInit ∈ Ts) (hinst : Cond.instanceMethod Lib.objectInit ∈ Ts) (hcode : Cond.code Lib.objectInit ⟨#[0xb1]⟩ 1 none ∈ Ts) (hfr : 1 ≤ R.frames) (hlo : (st.map fun v => v.category).sum + 12 ≤ R.locals) (K : yJ Z R k n L (pc + 3) lv st) : yJ Z R k n L pc lv (.ref a :: st) := by
  obtain ⟨p, l, e, s, m, args, below, meth, c, Q, D, tys, A, nL'⟩ := Z
  obtain ⟨rfl, rfl, rfl, rfl, hx, hb, hml, hown, hts, hlk, hK, hN, hA⟩ := C
  intro H locs ls hP hD hS hl
  refine W.objInit hx hb hown (hts _ hlink) (hts _ hinst) (hts _ hcode) rfl (by rw [hml]; exact hl.1) rfl hdg hfr (by show 2 * 0 + _ + 12 ≤ _; omega) ?_
  exact K H locs ls hP hD hS hl
theorem y_ifnonnull {Z : yZ} {g : yG} {R : Room} {k n : Nat} {L : List va_W} {lv : List (Nat × Value)} {st : List Value} {cc : ByteArray} {nL : Nat} {Ts : List Cond} {own : String} {pc : Nat} {a : Nat} {off : Int} {tgt : Nat} (C : yC Z g cc nL Ts own) (hdg : decode cc pc = .ok (.ifnonnull off, 3)) (ht : (pc : Int) + off = (tgt : Int)) (K : yJ Z R k n L tgt lv st) : yJ Z R k n L pc lv (.ref a :: st) := by
  obtain ⟨p, l, e, s, m, args, below, meth, c, Q, D, tys, A, nL'⟩ := Z
  obtain ⟨rfl, rfl, rfl, rfl, hx, hb, hml, hown, hts, hlk, hK, hN, hA⟩ := C
  intro H locs ls hP hD hS hl
  exact lv_ifnonnull hx hb hdg ht (K H locs ls hP hD hS hl)
theorem y_ifnonnullN {Z : yZ} {g : yG} {R : Room} {k n : Nat} {L : List va_W} {lv : List (Nat × Value)} {st : List Value} {cc : ByteArray} {nL : Nat} {Ts : List Cond} {own : String} {pc : Nat} {off : Int} (C : yC Z g cc nL Ts own) (hdg : decode cc pc = .ok (.ifnonnull off, 3)) (K : yJ Z R k n L (pc + 3) lv st) : yJ Z R k n L pc lv (.null :: st) := by
  obtain ⟨p, l, e, s, m, args, below, meth, c, Q, D, tys, A, nL'⟩ := Z
  obtain ⟨rfl, rfl, rfl, rfl, hx, hb, hml, hown, hts, hlk, hK, hN, hA⟩ := C
  intro H locs ls hP hD hS hl
  exact lv_ifnonnullN hx hb hdg (K H locs ls hP hD hS hl)
theorem y_tabIn {Z : yZ} {g : yG} {R : Room} {k n : Nat} {L : List va_W} {lv : List (Nat × Value)} {st : List Value} {cc : ByteArray} {nL : Nat} {Ts : List Cond} {own : String} {pc : Nat} {dflt lo hi : Int} {offs : Array Int} {len : Nat} {x v : Int32} {off : Int} {tgt : Nat} (C : yC Z g cc nL Ts own) (hdg : decode cc pc = .ok (.tableswitch dflt lo hi offs, len)) (hxv : x = v) (h1 : ¬ v.toInt < lo) (h2 : ¬ hi < v.toInt) (ho : offs[(v.toInt - lo).toNat]? = some off) (ht : (pc : Int) + off = (tgt : Int)) (K : yJ Z R k n L tgt lv st) : yJ Z R k n L pc lv (.int x :: st) := by
  subst hxv
  obtain ⟨p, l, e, s, m, args, below, meth, c, Q, D, tys, A, nL'⟩ := Z
  obtain ⟨rfl, rfl, rfl, rfl, hx, hb, hml, hown, hts, hlk, hK, hN, hA⟩ := C
  intro H locs ls hP hD hS hl
  exact lv_tableIn hx hb hdg h1 h2 ho ht (K H locs ls hP hD hS hl)
theorem y_tabOut {Z : yZ} {g : yG} {R : Room} {k n : Nat} {L : List va_W} {lv : List (Nat × Value)} {st : List Value} {cc : ByteArray} {nL : Nat} {Ts : List Cond} {own : String} {pc : Nat} {dflt lo hi : Int} {offs : Array Int} {len : Nat} {x : Int32} {tgt : Nat} (C : yC Z g cc nL Ts own) (hdg : decode cc pc = .ok (.tableswitch dflt lo hi offs, len)) (h : x.toInt < lo ∨ hi < x.toInt) (ht : (pc : Int) + dflt = (tgt : Int)) (K : yJ Z R k n L tgt lv st) : yJ Z R k n L pc lv (.int x :: st) := by
  obtain ⟨p, l, e, s, m, args, below, meth, c, Q, D, tys, A, nL'⟩ := Z
  obtain ⟨rfl, rfl, rfl, rfl, hx, hb, hml, hown, hts, hlk, hK, hN, hA⟩ := C
  intro H locs ls hP hD hS hl
  exact lv_tableOut hx hb hdg h ht (K H locs ls hP hD hS hl)
theorem y_ldc2 {Z : yZ} {g : yG} {R : Room} {k n : Nat} {L : List va_W} {lv : List (Nat × Value)} {st : List Value} {cc : ByteArray} {nL : Nat} {Ts : List Cond} {own : String} {pc : Nat} {index : Nat} {v : Int64} (C : yC Z g cc nL Ts own) (hdg : decode cc pc = .ok (.ldc2_w index, 3)) (hc : Cond.constantLong own index v ∈ Ts) (K : yJ Z R k n L (pc + 3) lv (.long v :: st)) : yJ Z R k n L pc lv st := by
  obtain ⟨p, l, e, s, m, args, below, meth, c, Q, D, tys, A, nL'⟩ := Z
  obtain ⟨rfl, rfl, rfl, rfl, hx, hb, hml, hown, hts, hlk, hK, hN, hA⟩ := C
  intro H locs ls hP hD hS hl
  exact lv_ldc2 hx hb hown (hts _ hc) hdg (K H locs ls hP hD hS hl)
theorem y_if {P F G : Prop} {c : Prop} [Decidable c] (h : if c then P else F) (KT : c → P → G) (KF : ¬ c → F → G) : G := by
  by_cases hc : c
  · rw [if_pos hc] at h
    exact KT hc h
  · rw [if_neg hc] at h
    exact KF hc h
theorem y_e {α : Type} {X a b : α} {c : Prop} [Decidable c] (e : X = if c then a else b) : if c then X = a else X = b := by
  by_cases h : c
  · rw [if_pos h] at e ⊢
    exact e
  · rw [if_neg h] at e ⊢
    exact e
theorem y_same {c P : Prop} [Decidable c] (h : P) : if c then P else P := by
  by_cases hc : c
  · rw [if_pos hc]; exact h
  · rw [if_neg hc]; exact h
theorem y_widen {Z : yZ} {R : Room} {k n k' n' : Nat} {L : List va_W} {lv : List (Nat × Value)} {st : List Value} {pc : Nat} (h1 : k ≤ k') (h2 : n ≤ n') (K : yJ Z R k' n' L pc lv st) : yJ Z R k n L pc lv st := by
  obtain ⟨p, l, e, s, m, args, below, meth, c, Q, D, tys, A, nL'⟩ := Z
  intro H locs ls hP hD hS hl
  exact W.widen h1 h2 (K H locs ls hP hD hS hl)
/-- a value with a name -/
def yl {α : Sort _} {β : Sort _} (e : α) (b : α → β) : β := b e
theorem y_letP {α : Sort _} {e z : α} {b : α → Prop} (h : yl e b) (hz : z = e) : b z := by subst hz; exact h
theorem y_letF {α β : Sort _} {X : β} {e z : α} {b : α → β} (h : X = yl e b) (hz : z = e) : X = b z := by subst hz; exact h
theorem y_topi {Z : yZ} {R : Room} {k n : Nat} {L : List va_W} {lv : List (Nat × Value)} {st : List Value} {pc : Nat} {x : Int32} (K : ∀ z : Int32, z = x → yJ Z R k n L pc lv (.int z :: st)) : yJ Z R k n L pc lv (.int x :: st) := K x rfl
end
section
/-! ===== what the cells hold: rows as lists (what lies behind a list's end is hidden), days, timetables, the reference ===== -/
def rowf (xs : List Int32) (g : Nat → Int32) : Nat → Int32 := fun j => xs.getD j (g j)
/-- a Row of room cap that holds xs; where xs is too long there is no such world -/
def rowW (cI : ClassId) (r a cap : Nat) (xs : List Int32) (g : Nat → Int32) : va_W := if xs.length ≤ cap then [(r, .inr (3, [.ref a, .int (nI xs.length)])), (a, .inl (cI, cap, .inl (rowf xs g)))] else [(r, .inr (3, [])), (r, .inr (3, []))]
theorem rowW_len {cI : ClassId} {r a cap : Nat} {xs : List Int32} {g : Nat → Int32} {A : Nat → Prop} (h : va_D A (rowW cI r a cap xs g)) : xs.length ≤ cap := by
  unfold rowW at h
  split at h
  · assumption
  · exact absurd (h.1 0 1 _ _ rfl rfl rfl) (by decide)
theorem rowW_pos {cI : ClassId} {r a cap : Nat} {xs : List Int32} {g : Nat → Int32} (h : xs.length ≤ cap) : rowW cI r a cap xs g = [(r, .inr (3, [.ref a, .int (nI xs.length)])), (a, .inl (cI, cap, .inl (rowf xs g)))] := if_pos h
theorem rowW_recv {cI : ClassId} {r a cap : Nat} {xs : List Int32} {g : Nat → Int32} {B : List va_W} (hB : ∃ B', B = rowW cI r a cap xs g :: B') : yRecv B r RX3 := by
  obtain ⟨B', rfl⟩ := hB
  intro D A H _ hD
  have hl : xs.length ≤ cap := rowW_len (yD_app hD).1
  refine ⟨0, 3, [.ref a, .int (nI xs.length)], (RX3, TX3, 2), ?_, rfl, rfl⟩
  rw [List.flatten_cons, rowW_pos hl]
  rfl
/-- rows and numbers -/
abbrev RV : Type := (Nat → List Int32) × (Nat → Int32)
def rvR (v : RV) (k : Nat) (xs : List Int32) : RV := (fun j => if j = k then xs else v.1 j, v.2)
def rvI (v : RV) (k : Nat) (x : Int32) : RV := (v.1, fun j => if j = k then x else v.2 j)
def gs (G : Nat → Nat → Int32) (k : Nat) (g : Nat → Int32) : Nat → Nat → Int32 := fun j => if j = k then g else G j
def dayC (A : Nat → Nat) (d : RV) : va_W := [(A 0, .inr (0, [.ref (A 1), .ref (A 3), .ref (A 5), .ref (A 7), .ref (A 9), .ref (A 11), .ref (A 13), .ref (A 15), .ref (A 17), .ref (A 19), .ref (A 21), .ref (A 23), .int (d.2 0), .int (d.2 1), .int (d.2 2)]))]
def dayR (g : yG) (A : Nat → Nat) (d : RV) (G : Nat → Nat → Int32) : List va_W := [rowW g.2.2.1 (A 1) (A 2) 3 (d.1 0) (G 0), rowW g.2.2.1 (A 3) (A 4) 12 (d.1 1) (G 1), rowW g.2.2.1 (A 5) (A 6) 12 (d.1 2) (G 2), rowW g.2.2.1 (A 7) (A 8) 17 (d.1 3) (G 3), rowW g.2.2.1 (A 9) (A 10) 17 (d.1 4) (G 4), rowW g.2.2.1 (A 11) (A 12) 17 (d.1 5) (G 5), rowW g.2.2.1 (A 13) (A 14) 17 (d.1 6) (G 6), rowW g.2.2.1 (A 15) (A 16) 17 (d.1 7) (G 7), rowW g.2.2.1 (A 17) (A 18) 17 (d.1 8) (G 8), rowW g.2.2.1 (A 19) (A 20) 17 (d.1 9) (G 9), rowW g.2.2.1 (A 21) (A 22) 17 (d.1 10) (G 10), rowW g.2.2.1 (A 23) (A 24) 34 (d.1 11) (G 11)]
def tabC (A : Nat → Nat) (d : RV) : va_W := [(A 0, .inr (5, [.ref (A 1), .ref (A 3), .ref (A 5), .ref (A 7), .ref (A 9), .int (d.2 0), .int (d.2 1), .int (d.2 2), .int (d.2 3), .int (d.2 4)]))]
def tabR (g : yG) (A : Nat → Nat) (d : RV) (G : Nat → Nat → Int32) : List va_W := [rowW g.2.2.1 (A 1) (A 2) 34 (d.1 0) (G 0), rowW g.2.2.1 (A 3) (A 4) 34 (d.1 1) (G 1), rowW g.2.2.1 (A 5) (A 6) 34 (d.1 2) (G 2), rowW g.2.2.1 (A 7) (A 8) 17 (d.1 3) (G 3), rowW g.2.2.1 (A 9) (A 10) 17 (d.1 4) (G 4)]
def padC (A : Nat → Nat) (d : RV) : va_W := [(A 0, .inr (2, [.ref (A 1), .ref (A 3)]))]
def padR (g : yG) (A : Nat → Nat) (d : RV) (G : Nat → Nat → Int32) : List va_W := [rowW g.2.2.1 (A 1) (A 2) 60 (d.1 0) (G 0), rowW g.2.2.1 (A 3) (A 4) 31 (d.1 1) (G 1)]
/-- a Search: its own cell; its day at a, its table at t -/
def seaC (s a t : Nat) (d : RV) : va_W := [(s, .inr (4, [.ref a, .ref t, .int (d.2 0), .int (d.2 1), .int (d.2 2), .int (d.2 3), .int (d.2 4), .int (d.2 5), .int (d.2 6)]))]
/-- the reference: numbers by field, arrays by field -/
abbrev MV : Type := (Nat → Int32) × (Nat → Nat → Int32)
def mI (v : MV) (k : Nat) (x : Int32) : MV := (fun j => if j = k then x else v.1 j, v.2)
def mA (v : MV) (k : Nat) (i : Nat) (x : Int32) : MV := (v.1, fun j => if j = k then upd (v.2 k) i x else v.2 j)
def modW (g : yG) (A : Nat → Nat) (d : MV) : va_W := [(A 0, .inr (7, [.int (d.1 0), .ref (A 1), .ref (A 2), .ref (A 3), .int (d.1 4), .ref (A 4), .ref (A 5), .ref (A 6), .int (d.1 8), .ref (A 7), .int (d.1 10), .ref (A 8), .ref (A 9), .ref (A 10), .int (d.1 14), .int (d.1 15), .int (d.1 16), .int (d.1 17), .int (d.1 18), .int (d.1 19), .int (d.1 20), .int (d.1 21), .int (d.1 22), .int (d.1 23), .ref (A 11), .int (d.1 25)])), (A 1, .inl (g.2.2.1, 186, .inl (d.2 1))), (A 2, .inl (g.2.2.1, 186, .inl (d.2 2))), (A 3, .inl (g.2.2.1, 1116, .inl (d.2 3))), (A 4, .inl (g.2.2.1, 372, .inl (d.2 5))), (A 5, .inl (g.2.2.2.1, 2, .inl (d.2 6))), (A 6, .inl (g.2.2.1, 60, .inl (d.2 7))), (A 7, .inl (g.2.2.1, 36, .inl (d.2 9))), (A 8, .inl (g.2.2.1, 36, .inl (d.2 11))), (A 9, .inl (g.2.2.1, 36, .inl (d.2 12))), (A 10, .inl (g.2.2.1, 36, .inl (d.2 13))), (A 11, .inl (g.2.2.1, 64, .inl (d.2 24)))]
/-! ===== what the Row's methods do to a list ===== -/
def rAt (xs : List Int32) (p : Int32) : Int32 := if p < 0 then 0 else xs.getD p.toNatClampNeg 0
def rLen (xs : List Int32) : Int32 := nI xs.length
def rSet (xs : List Int32) (p v : Int32) : List Int32 := if p < 0 then xs else xs.set p.toNatClampNeg v
def rIns (cap : Nat) (xs : List Int32) (p v : Int32) : List Int32 := if p < 0 ∨ xs.length < p.toNatClampNeg ∨ cap ≤ xs.length then xs else xs.take p.toNatClampNeg ++ v :: xs.drop p.toNatClampNeg
def rAdd (cap : Nat) (xs : List Int32) (v : Int32) : List Int32 := if cap ≤ xs.length then xs else xs ++ [v]
def rDel (xs : List Int32) (p : Int32) : List Int32 := if p < 0 then xs else xs.eraseIdx p.toNatClampNeg
def rCopy (cap : Nat) (xs : List Int32) : List Int32 := xs.take cap
theorem rvR_eq (v : RV) (k : Nat) (xs : List Int32) : (rvR v k xs).1 k = xs := if_pos rfl
theorem rvR_ne {v : RV} {k : Nat} {xs : List Int32} {j : Nat} (h : j ≠ k) : (rvR v k xs).1 j = v.1 j := if_neg h
theorem gs_eq (G : Nat → Nat → Int32) (k : Nat) (h : Nat → Int32) : gs G k h k = h := if_pos rfl
theorem gs_ne {G : Nat → Nat → Int32} {k : Nat} {h : Nat → Int32} {j : Nat} (hj : j ≠ k) : gs G k h j = G j := if_neg hj
theorem rvI_eq (v : RV) (k : Nat) (x : Int32) : (rvI v k x).2 k = x := if_pos rfl
theorem rvI_ne {v : RV} {k : Nat} {x : Int32} {j : Nat} (h : j ≠ k) : (rvI v k x).2 j = v.2 j := if_neg h
theorem dayC_R (A : Nat → Nat) (d : RV) (k : Nat) (y : List Int32) : dayC A (rvR d k y) = dayC A d := rfl
theorem tabC_R (A : Nat → Nat) (d : RV) (k : Nat) (y : List Int32) : tabC A (rvR d k y) = tabC A d := rfl
theorem padC_R (A : Nat → Nat) (d : RV) (k : Nat) (y : List Int32) : padC A (rvR d k y) = padC A d := rfl
theorem dayR_R0 (g : yG) (A : Nat → Nat) (d : RV) (G : Nat → Nat → Int32) (y : List Int32) (h : Nat → Int32) : dayR g A (rvR d 0 y) (gs G 0 h) = [rowW g.2.2.1 (A 1) (A 2) 3 y h, rowW g.2.2.1 (A 3) (A 4) 12 (d.1 1) (G 1), rowW g.2.2.1 (A 5) (A 6) 12 (d.1 2) (G 2), rowW g.2.2.1 (A 7) (A 8) 17 (d.1 3) (G 3), rowW g.2.2.1 (A 9) (A 10) 17 (d.1 4) (G 4), rowW g.2.2.1 (A 11) (A 12) 17 (d.1 5) (G 5), rowW g.2.2.1 (A 13) (A 14) 17 (d.1 6) (G 6), rowW g.2.2.1 (A 15) (A 16) 17 (d.1 7) (G 7), rowW g.2.2.1 (A 17) (A 18) 17 (d.1 8) (G 8), rowW g.2.2.1 (A 19) (A 20) 17 (d.1 9) (G 9), rowW g.2.2.1 (A 21) (A 22) 17 (d.1 10) (G 10), rowW g.2.2.1 (A 23) (A 24) 34 (d.1 11) (G 11)] := by
  unfold dayR
  rw [rvR_eq, gs_eq, rvR_ne (show 1 ≠ 0 by decide), gs_ne (show 1 ≠ 0 by decide), rvR_ne (show 2 ≠ 0 by decide), gs_ne (show 2 ≠ 0 by decide), rvR_ne (show 3 ≠ 0 by decide), gs_ne (show 3 ≠ 0 by decide), rvR_ne (show 4 ≠ 0 by decide), gs_ne (show 4 ≠ 0 by decide), rvR_ne (show 5 ≠ 0 by decide), gs_ne (show 5 ≠ 0 by decide), rvR_ne (show 6 ≠ 0 by decide), gs_ne (show 6 ≠ 0 by decide), rvR_ne (show 7 ≠ 0 by decide), gs_ne (show 7 ≠ 0 by decide), rvR_ne (show 8 ≠ 0 by decide), gs_ne (show 8 ≠ 0 by decide), rvR_ne (show 9 ≠ 0 by decide), gs_ne (show 9 ≠ 0 by decide), rvR_ne (show 10 ≠ 0 by decide), gs_ne (show 10 ≠ 0 by decide), rvR_ne (show 11 ≠ 0 by decide), gs_ne (show 11 ≠ 0 by decide)]
theorem dayR_R1 (g : yG) (A : Nat → Nat) (d : RV) (G : Nat → Nat → Int32) (y : List Int32) (h : Nat → Int32) : dayR g A (rvR d 1 y) (gs G 1 h) = [rowW g.2.2.1 (A 1) (A 2) 3 (d.1 0) (G 0), rowW g.2.2.1 (A 3) (A 4) 12 y h, rowW g.2.2.1 (A 5) (A 6) 12 (d.1 2) (G 2), rowW g.2.2.1 (A 7) (A 8) 17 (d.1 3) (G 3), rowW g.2.2.1 (A 9) (A 10) 17 (d.1 4) (G 4), rowW g.2.2.1 (A 11) (A 12) 17 (d.1 5) (G 5), rowW g.2.2.1 (A 13) (A 14) 17 (d.1 6) (G 6), rowW g.2.2.1 (A 15) (A 16) 17 (d.1 7) (G 7), rowW g.2.2.1 (A 17) (A 18) 17 (d.1 8) (G 8), rowW g.2.2.1 (A 19) (A 20) 17 (d.1 9) (G 9), rowW g.2.2.1 (A 21) (A 22) 17 (d.1 10) (G 10), rowW g.2.2.1 (A 23) (A 24) 34 (d.1 11) (G 11)] := by
  unfold dayR
  rw [rvR_eq, gs_eq, rvR_ne (show 0 ≠ 1 by decide), gs_ne (show 0 ≠ 1 by decide), rvR_ne (show 2 ≠ 1 by decide), gs_ne (show 2 ≠ 1 by decide), rvR_ne (show 3 ≠ 1 by decide), gs_ne (show 3 ≠ 1 by decide), rvR_ne (show 4 ≠ 1 by decide), gs_ne (show 4 ≠ 1 by decide), rvR_ne (show 5 ≠ 1 by decide), gs_ne (show 5 ≠ 1 by decide), rvR_ne (show 6 ≠ 1 by decide), gs_ne (show 6 ≠ 1 by decide), rvR_ne (show 7 ≠ 1 by decide), gs_ne (show 7 ≠ 1 by decide), rvR_ne (show 8 ≠ 1 by decide), gs_ne (show 8 ≠ 1 by decide), rvR_ne (show 9 ≠ 1 by decide), gs_ne (show 9 ≠ 1 by decide), rvR_ne (show 10 ≠ 1 by decide), gs_ne (show 10 ≠ 1 by decide), rvR_ne (show 11 ≠ 1 by decide), gs_ne (show 11 ≠ 1 by decide)]
theorem dayR_R2 (g : yG) (A : Nat → Nat) (d : RV) (G : Nat → Nat → Int32) (y : List Int32) (h : Nat → Int32) : dayR g A (rvR d 2 y) (gs G 2 h) = [rowW g.2.2.1 (A 1) (A 2) 3 (d.1 0) (G 0), rowW g.2.2.1 (A 3) (A 4) 12 (d.1 1) (G 1), rowW g.2.2.1 (A 5) (A 6) 12 y h, rowW g.2.2.1 (A 7) (A 8) 17 (d.1 3) (G 3), rowW g.2.2.1 (A 9) (A 10) 17 (d.1 4) (G 4), rowW g.2.2.1 (A 11) (A 12) 17 (d.1 5) (G 5), rowW g.2.2.1 (A 13) (A 14) 17 (d.1 6) (G 6), rowW g.2.2.1 (A 15) (A 16) 17 (d.1 7) (G 7), rowW g.2.2.1 (A 17) (A 18) 17 (d.1 8) (G 8), rowW g.2.2.1 (A 19) (A 20) 17 (d.1 9) (G 9), rowW g.2.2.1 (A 21) (A 22) 17 (d.1 10) (G 10), rowW g.2.2.1 (A 23) (A 24) 34 (d.1 11) (G 11)] := by
  unfold dayR
  rw [rvR_eq, gs_eq, rvR_ne (show 0 ≠ 2 by decide), gs_ne (show 0 ≠ 2 by decide), rvR_ne (show 1 ≠ 2 by decide), gs_ne (show 1 ≠ 2 by decide), rvR_ne (show 3 ≠ 2 by decide), gs_ne (show 3 ≠ 2 by decide), rvR_ne (show 4 ≠ 2 by decide), gs_ne (show 4 ≠ 2 by decide), rvR_ne (show 5 ≠ 2 by decide), gs_ne (show 5 ≠ 2 by decide), rvR_ne (show 6 ≠ 2 by decide), gs_ne (show 6 ≠ 2 by decide), rvR_ne (show 7 ≠ 2 by decide), gs_ne (show 7 ≠ 2 by decide), rvR_ne (show 8 ≠ 2 by decide), gs_ne (show 8 ≠ 2 by decide), rvR_ne (show 9 ≠ 2 by decide), gs_ne (show 9 ≠ 2 by decide), rvR_ne (show 10 ≠ 2 by decide), gs_ne (show 10 ≠ 2 by decide), rvR_ne (show 11 ≠ 2 by decide), gs_ne (show 11 ≠ 2 by decide)]
theorem dayR_R3 (g : yG) (A : Nat → Nat) (d : RV) (G : Nat → Nat → Int32) (y : List Int32) (h : Nat → Int32) : dayR g A (rvR d 3 y) (gs G 3 h) = [rowW g.2.2.1 (A 1) (A 2) 3 (d.1 0) (G 0), rowW g.2.2.1 (A 3) (A 4) 12 (d.1 1) (G 1), rowW g.2.2.1 (A 5) (A 6) 12 (d.1 2) (G 2), rowW g.2.2.1 (A 7) (A 8) 17 y h, rowW g.2.2.1 (A 9) (A 10) 17 (d.1 4) (G 4), rowW g.2.2.1 (A 11) (A 12) 17 (d.1 5) (G 5), rowW g.2.2.1 (A 13) (A 14) 17 (d.1 6) (G 6), rowW g.2.2.1 (A 15) (A 16) 17 (d.1 7) (G 7), rowW g.2.2.1 (A 17) (A 18) 17 (d.1 8) (G 8), rowW g.2.2.1 (A 19) (A 20) 17 (d.1 9) (G 9), rowW g.2.2.1 (A 21) (A 22) 17 (d.1 10) (G 10), rowW g.2.2.1 (A 23) (A 24) 34 (d.1 11) (G 11)] := by
  unfold dayR
  rw [rvR_eq, gs_eq, rvR_ne (show 0 ≠ 3 by decide), gs_ne (show 0 ≠ 3 by decide), rvR_ne (show 1 ≠ 3 by decide), gs_ne (show 1 ≠ 3 by decide), rvR_ne (show 2 ≠ 3 by decide), gs_ne (show 2 ≠ 3 by decide), rvR_ne (show 4 ≠ 3 by decide), gs_ne (show 4 ≠ 3 by decide), rvR_ne (show 5 ≠ 3 by decide), gs_ne (show 5 ≠ 3 by decide), rvR_ne (show 6 ≠ 3 by decide), gs_ne (show 6 ≠ 3 by decide), rvR_ne (show 7 ≠ 3 by decide), gs_ne (show 7 ≠ 3 by decide), rvR_ne (show 8 ≠ 3 by decide), gs_ne (show 8 ≠ 3 by decide), rvR_ne (show 9 ≠ 3 by decide), gs_ne (show 9 ≠ 3 by decide), rvR_ne (show 10 ≠ 3 by decide), gs_ne (show 10 ≠ 3 by decide), rvR_ne (show 11 ≠ 3 by decide), gs_ne (show 11 ≠ 3 by decide)]
theorem dayR_R4 (g : yG) (A : Nat → Nat) (d : RV) (G : Nat → Nat → Int32) (y : List Int32) (h : Nat → Int32) : dayR g A (rvR d 4 y) (gs G 4 h) = [rowW g.2.2.1 (A 1) (A 2) 3 (d.1 0) (G 0), rowW g.2.2.1 (A 3) (A 4) 12 (d.1 1) (G 1), rowW g.2.2.1 (A 5) (A 6) 12 (d.1 2) (G 2), rowW g.2.2.1 (A 7) (A 8) 17 (d.1 3) (G 3), rowW g.2.2.1 (A 9) (A 10) 17 y h, rowW g.2.2.1 (A 11) (A 12) 17 (d.1 5) (G 5), rowW g.2.2.1 (A 13) (A 14) 17 (d.1 6) (G 6), rowW g.2.2.1 (A 15) (A 16) 17 (d.1 7) (G 7), rowW g.2.2.1 (A 17) (A 18) 17 (d.1 8) (G 8), rowW g.2.2.1 (A 19) (A 20) 17 (d.1 9) (G 9), rowW g.2.2.1 (A 21) (A 22) 17 (d.1 10) (G 10), rowW g.2.2.1 (A 23) (A 24) 34 (d.1 11) (G 11)] := by
  unfold dayR
  rw [rvR_eq, gs_eq, rvR_ne (show 0 ≠ 4 by decide), gs_ne (show 0 ≠ 4 by decide), rvR_ne (show 1 ≠ 4 by decide), gs_ne (show 1 ≠ 4 by decide), rvR_ne (show 2 ≠ 4 by decide), gs_ne (show 2 ≠ 4 by decide), rvR_ne (show 3 ≠ 4 by decide), gs_ne (show 3 ≠ 4 by decide), rvR_ne (show 5 ≠ 4 by decide), gs_ne (show 5 ≠ 4 by decide), rvR_ne (show 6 ≠ 4 by decide), gs_ne (show 6 ≠ 4 by decide), rvR_ne (show 7 ≠ 4 by decide), gs_ne (show 7 ≠ 4 by decide), rvR_ne (show 8 ≠ 4 by decide), gs_ne (show 8 ≠ 4 by decide), rvR_ne (show 9 ≠ 4 by decide), gs_ne (show 9 ≠ 4 by decide), rvR_ne (show 10 ≠ 4 by decide), gs_ne (show 10 ≠ 4 by decide), rvR_ne (show 11 ≠ 4 by decide), gs_ne (show 11 ≠ 4 by decide)]
theorem dayR_R5 (g : yG) (A : Nat → Nat) (d : RV) (G : Nat → Nat → Int32) (y : List Int32) (h : Nat → Int32) : dayR g A (rvR d 5 y) (gs G 5 h) = [rowW g.2.2.1 (A 1) (A 2) 3 (d.1 0) (G 0), rowW g.2.2.1 (A 3) (A 4) 12 (d.1 1) (G 1), rowW g.2.2.1 (A 5) (A 6) 12 (d.1 2) (G 2), rowW g.2.2.1 (A 7) (A 8) 17 (d.1 3) (G 3), rowW g.2.2.1 (A 9) (A 10) 17 (d.1 4) (G 4), rowW g.2.2.1 (A 11) (A 12) 17 y h, rowW g.2.2.1 (A 13) (A 14) 17 (d.1 6) (G 6), rowW g.2.2.1 (A 15) (A 16) 17 (d.1 7) (G 7), rowW g.2.2.1 (A 17) (A 18) 17 (d.1 8) (G 8), rowW g.2.2.1 (A 19) (A 20) 17 (d.1 9) (G 9), rowW g.2.2.1 (A 21) (A 22) 17 (d.1 10) (G 10), rowW g.2.2.1 (A 23) (A 24) 34 (d.1 11) (G 11)] := by
  unfold dayR
  rw [rvR_eq, gs_eq, rvR_ne (show 0 ≠ 5 by decide), gs_ne (show 0 ≠ 5 by decide), rvR_ne (show 1 ≠ 5 by decide), gs_ne (show 1 ≠ 5 by decide), rvR_ne (show 2 ≠ 5 by decide), gs_ne (show 2 ≠ 5 by decide), rvR_ne (show 3 ≠ 5 by decide), gs_ne (show 3 ≠ 5 by decide), rvR_ne (show 4 ≠ 5 by decide), gs_ne (show 4 ≠ 5 by decide), rvR_ne (show 6 ≠ 5 by decide), gs_ne (show 6 ≠ 5 by decide), rvR_ne (show 7 ≠ 5 by decide), gs_ne (show 7 ≠ 5 by decide), rvR_ne (show 8 ≠ 5 by decide), gs_ne (show 8 ≠ 5 by decide), rvR_ne (show 9 ≠ 5 by decide), gs_ne (show 9 ≠ 5 by decide), rvR_ne (show 10 ≠ 5 by decide), gs_ne (show 10 ≠ 5 by decide), rvR_ne (show 11 ≠ 5 by decide), gs_ne (show 11 ≠ 5 by decide)]
theorem dayR_R6 (g : yG) (A : Nat → Nat) (d : RV) (G : Nat → Nat → Int32) (y : List Int32) (h : Nat → Int32) : dayR g A (rvR d 6 y) (gs G 6 h) = [rowW g.2.2.1 (A 1) (A 2) 3 (d.1 0) (G 0), rowW g.2.2.1 (A 3) (A 4) 12 (d.1 1) (G 1), rowW g.2.2.1 (A 5) (A 6) 12 (d.1 2) (G 2), rowW g.2.2.1 (A 7) (A 8) 17 (d.1 3) (G 3), rowW g.2.2.1 (A 9) (A 10) 17 (d.1 4) (G 4), rowW g.2.2.1 (A 11) (A 12) 17 (d.1 5) (G 5), rowW g.2.2.1 (A 13) (A 14) 17 y h, rowW g.2.2.1 (A 15) (A 16) 17 (d.1 7) (G 7), rowW g.2.2.1 (A 17) (A 18) 17 (d.1 8) (G 8), rowW g.2.2.1 (A 19) (A 20) 17 (d.1 9) (G 9), rowW g.2.2.1 (A 21) (A 22) 17 (d.1 10) (G 10), rowW g.2.2.1 (A 23) (A 24) 34 (d.1 11) (G 11)] := by
  unfold dayR
  rw [rvR_eq, gs_eq, rvR_ne (show 0 ≠ 6 by decide), gs_ne (show 0 ≠ 6 by decide), rvR_ne (show 1 ≠ 6 by decide), gs_ne (show 1 ≠ 6 by decide), rvR_ne (show 2 ≠ 6 by decide), gs_ne (show 2 ≠ 6 by decide), rvR_ne (show 3 ≠ 6 by decide), gs_ne (show 3 ≠ 6 by decide), rvR_ne (show 4 ≠ 6 by decide), gs_ne (show 4 ≠ 6 by decide), rvR_ne (show 5 ≠ 6 by decide), gs_ne (show 5 ≠ 6 by decide), rvR_ne (show 7 ≠ 6 by decide), gs_ne (show 7 ≠ 6 by decide), rvR_ne (show 8 ≠ 6 by decide), gs_ne (show 8 ≠ 6 by decide), rvR_ne (show 9 ≠ 6 by decide), gs_ne (show 9 ≠ 6 by decide), rvR_ne (show 10 ≠ 6 by decide), gs_ne (show 10 ≠ 6 by decide), rvR_ne (show 11 ≠ 6 by decide), gs_ne (show 11 ≠ 6 by decide)]
theorem dayR_R7 (g : yG) (A : Nat → Nat) (d : RV) (G : Nat → Nat → Int32) (y : List Int32) (h : Nat → Int32) : dayR g A (rvR d 7 y) (gs G 7 h) = [rowW g.2.2.1 (A 1) (A 2) 3 (d.1 0) (G 0), rowW g.2.2.1 (A 3) (A 4) 12 (d.1 1) (G 1), rowW g.2.2.1 (A 5) (A 6) 12 (d.1 2) (G 2), rowW g.2.2.1 (A 7) (A 8) 17 (d.1 3) (G 3), rowW g.2.2.1 (A 9) (A 10) 17 (d.1 4) (G 4), rowW g.2.2.1 (A 11) (A 12) 17 (d.1 5) (G 5), rowW g.2.2.1 (A 13) (A 14) 17 (d.1 6) (G 6), rowW g.2.2.1 (A 15) (A 16) 17 y h, rowW g.2.2.1 (A 17) (A 18) 17 (d.1 8) (G 8), rowW g.2.2.1 (A 19) (A 20) 17 (d.1 9) (G 9), rowW g.2.2.1 (A 21) (A 22) 17 (d.1 10) (G 10), rowW g.2.2.1 (A 23) (A 24) 34 (d.1 11) (G 11)] := by
  unfold dayR
  rw [rvR_eq, gs_eq, rvR_ne (show 0 ≠ 7 by decide), gs_ne (show 0 ≠ 7 by decide), rvR_ne (show 1 ≠ 7 by decide), gs_ne (show 1 ≠ 7 by decide), rvR_ne (show 2 ≠ 7 by decide), gs_ne (show 2 ≠ 7 by decide), rvR_ne (show 3 ≠ 7 by decide), gs_ne (show 3 ≠ 7 by decide), rvR_ne (show 4 ≠ 7 by decide), gs_ne (show 4 ≠ 7 by decide), rvR_ne (show 5 ≠ 7 by decide), gs_ne (show 5 ≠ 7 by decide), rvR_ne (show 6 ≠ 7 by decide), gs_ne (show 6 ≠ 7 by decide), rvR_ne (show 8 ≠ 7 by decide), gs_ne (show 8 ≠ 7 by decide), rvR_ne (show 9 ≠ 7 by decide), gs_ne (show 9 ≠ 7 by decide), rvR_ne (show 10 ≠ 7 by decide), gs_ne (show 10 ≠ 7 by decide), rvR_ne (show 11 ≠ 7 by decide), gs_ne (show 11 ≠ 7 by decide)]
theorem dayR_R8 (g : yG) (A : Nat → Nat) (d : RV) (G : Nat → Nat → Int32) (y : List Int32) (h : Nat → Int32) : dayR g A (rvR d 8 y) (gs G 8 h) = [rowW g.2.2.1 (A 1) (A 2) 3 (d.1 0) (G 0), rowW g.2.2.1 (A 3) (A 4) 12 (d.1 1) (G 1), rowW g.2.2.1 (A 5) (A 6) 12 (d.1 2) (G 2), rowW g.2.2.1 (A 7) (A 8) 17 (d.1 3) (G 3), rowW g.2.2.1 (A 9) (A 10) 17 (d.1 4) (G 4), rowW g.2.2.1 (A 11) (A 12) 17 (d.1 5) (G 5), rowW g.2.2.1 (A 13) (A 14) 17 (d.1 6) (G 6), rowW g.2.2.1 (A 15) (A 16) 17 (d.1 7) (G 7), rowW g.2.2.1 (A 17) (A 18) 17 y h, rowW g.2.2.1 (A 19) (A 20) 17 (d.1 9) (G 9), rowW g.2.2.1 (A 21) (A 22) 17 (d.1 10) (G 10), rowW g.2.2.1 (A 23) (A 24) 34 (d.1 11) (G 11)] := by
  unfold dayR
  rw [rvR_eq, gs_eq, rvR_ne (show 0 ≠ 8 by decide), gs_ne (show 0 ≠ 8 by decide), rvR_ne (show 1 ≠ 8 by decide), gs_ne (show 1 ≠ 8 by decide), rvR_ne (show 2 ≠ 8 by decide), gs_ne (show 2 ≠ 8 by decide), rvR_ne (show 3 ≠ 8 by decide), gs_ne (show 3 ≠ 8 by decide), rvR_ne (show 4 ≠ 8 by decide), gs_ne (show 4 ≠ 8 by decide), rvR_ne (show 5 ≠ 8 by decide), gs_ne (show 5 ≠ 8 by decide), rvR_ne (show 6 ≠ 8 by decide), gs_ne (show 6 ≠ 8 by decide), rvR_ne (show 7 ≠ 8 by decide), gs_ne (show 7 ≠ 8 by decide), rvR_ne (show 9 ≠ 8 by decide), gs_ne (show 9 ≠ 8 by decide), rvR_ne (show 10 ≠ 8 by decide), gs_ne (show 10 ≠ 8 by decide), rvR_ne (show 11 ≠ 8 by decide), gs_ne (show 11 ≠ 8 by decide)]
theorem dayR_R9 (g : yG) (A : Nat → Nat) (d : RV) (G : Nat → Nat → Int32) (y : List Int32) (h : Nat → Int32) : dayR g A (rvR d 9 y) (gs G 9 h) = [rowW g.2.2.1 (A 1) (A 2) 3 (d.1 0) (G 0), rowW g.2.2.1 (A 3) (A 4) 12 (d.1 1) (G 1), rowW g.2.2.1 (A 5) (A 6) 12 (d.1 2) (G 2), rowW g.2.2.1 (A 7) (A 8) 17 (d.1 3) (G 3), rowW g.2.2.1 (A 9) (A 10) 17 (d.1 4) (G 4), rowW g.2.2.1 (A 11) (A 12) 17 (d.1 5) (G 5), rowW g.2.2.1 (A 13) (A 14) 17 (d.1 6) (G 6), rowW g.2.2.1 (A 15) (A 16) 17 (d.1 7) (G 7), rowW g.2.2.1 (A 17) (A 18) 17 (d.1 8) (G 8), rowW g.2.2.1 (A 19) (A 20) 17 y h, rowW g.2.2.1 (A 21) (A 22) 17 (d.1 10) (G 10), rowW g.2.2.1 (A 23) (A 24) 34 (d.1 11) (G 11)] := by
  unfold dayR
  rw [rvR_eq, gs_eq, rvR_ne (show 0 ≠ 9 by decide), gs_ne (show 0 ≠ 9 by decide), rvR_ne (show 1 ≠ 9 by decide), gs_ne (show 1 ≠ 9 by decide), rvR_ne (show 2 ≠ 9 by decide), gs_ne (show 2 ≠ 9 by decide), rvR_ne (show 3 ≠ 9 by decide), gs_ne (show 3 ≠ 9 by decide), rvR_ne (show 4 ≠ 9 by decide), gs_ne (show 4 ≠ 9 by decide), rvR_ne (show 5 ≠ 9 by decide), gs_ne (show 5 ≠ 9 by decide), rvR_ne (show 6 ≠ 9 by decide), gs_ne (show 6 ≠ 9 by decide), rvR_ne (show 7 ≠ 9 by decide), gs_ne (show 7 ≠ 9 by decide), rvR_ne (show 8 ≠ 9 by decide), gs_ne (show 8 ≠ 9 by decide), rvR_ne (show 10 ≠ 9 by decide), gs_ne (show 10 ≠ 9 by decide), rvR_ne (show 11 ≠ 9 by decide), gs_ne (show 11 ≠ 9 by decide)]
theorem dayR_R10 (g : yG) (A : Nat → Nat) (d : RV) (G : Nat → Nat → Int32) (y : List Int32) (h : Nat → Int32) : dayR g A (rvR d 10 y) (gs G 10 h) = [rowW g.2.2.1 (A 1) (A 2) 3 (d.1 0) (G 0), rowW g.2.2.1 (A 3) (A 4) 12 (d.1 1) (G 1), rowW g.2.2.1 (A 5) (A 6) 12 (d.1 2) (G 2), rowW g.2.2.1 (A 7) (A 8) 17 (d.1 3) (G 3), rowW g.2.2.1 (A 9) (A 10) 17 (d.1 4) (G 4), rowW g.2.2.1 (A 11) (A 12) 17 (d.1 5) (G 5), rowW g.2.2.1 (A 13) (A 14) 17 (d.1 6) (G 6), rowW g.2.2.1 (A 15) (A 16) 17 (d.1 7) (G 7), rowW g.2.2.1 (A 17) (A 18) 17 (d.1 8) (G 8), rowW g.2.2.1 (A 19) (A 20) 17 (d.1 9) (G 9), rowW g.2.2.1 (A 21) (A 22) 17 y h, rowW g.2.2.1 (A 23) (A 24) 34 (d.1 11) (G 11)] := by
  unfold dayR
  rw [rvR_eq, gs_eq, rvR_ne (show 0 ≠ 10 by decide), gs_ne (show 0 ≠ 10 by decide), rvR_ne (show 1 ≠ 10 by decide), gs_ne (show 1 ≠ 10 by decide), rvR_ne (show 2 ≠ 10 by decide), gs_ne (show 2 ≠ 10 by decide), rvR_ne (show 3 ≠ 10 by decide), gs_ne (show 3 ≠ 10 by decide), rvR_ne (show 4 ≠ 10 by decide), gs_ne (show 4 ≠ 10 by decide), rvR_ne (show 5 ≠ 10 by decide), gs_ne (show 5 ≠ 10 by decide), rvR_ne (show 6 ≠ 10 by decide), gs_ne (show 6 ≠ 10 by decide), rvR_ne (show 7 ≠ 10 by decide), gs_ne (show 7 ≠ 10 by decide), rvR_ne (show 8 ≠ 10 by decide), gs_ne (show 8 ≠ 10 by decide), rvR_ne (show 9 ≠ 10 by decide), gs_ne (show 9 ≠ 10 by decide), rvR_ne (show 11 ≠ 10 by decide), gs_ne (show 11 ≠ 10 by decide)]
theorem dayR_R11 (g : yG) (A : Nat → Nat) (d : RV) (G : Nat → Nat → Int32) (y : List Int32) (h : Nat → Int32) : dayR g A (rvR d 11 y) (gs G 11 h) = [rowW g.2.2.1 (A 1) (A 2) 3 (d.1 0) (G 0), rowW g.2.2.1 (A 3) (A 4) 12 (d.1 1) (G 1), rowW g.2.2.1 (A 5) (A 6) 12 (d.1 2) (G 2), rowW g.2.2.1 (A 7) (A 8) 17 (d.1 3) (G 3), rowW g.2.2.1 (A 9) (A 10) 17 (d.1 4) (G 4), rowW g.2.2.1 (A 11) (A 12) 17 (d.1 5) (G 5), rowW g.2.2.1 (A 13) (A 14) 17 (d.1 6) (G 6), rowW g.2.2.1 (A 15) (A 16) 17 (d.1 7) (G 7), rowW g.2.2.1 (A 17) (A 18) 17 (d.1 8) (G 8), rowW g.2.2.1 (A 19) (A 20) 17 (d.1 9) (G 9), rowW g.2.2.1 (A 21) (A 22) 17 (d.1 10) (G 10), rowW g.2.2.1 (A 23) (A 24) 34 y h] := by
  unfold dayR
  rw [rvR_eq, gs_eq, rvR_ne (show 0 ≠ 11 by decide), gs_ne (show 0 ≠ 11 by decide), rvR_ne (show 1 ≠ 11 by decide), gs_ne (show 1 ≠ 11 by decide), rvR_ne (show 2 ≠ 11 by decide), gs_ne (show 2 ≠ 11 by decide), rvR_ne (show 3 ≠ 11 by decide), gs_ne (show 3 ≠ 11 by decide), rvR_ne (show 4 ≠ 11 by decide), gs_ne (show 4 ≠ 11 by decide), rvR_ne (show 5 ≠ 11 by decide), gs_ne (show 5 ≠ 11 by decide), rvR_ne (show 6 ≠ 11 by decide), gs_ne (show 6 ≠ 11 by decide), rvR_ne (show 7 ≠ 11 by decide), gs_ne (show 7 ≠ 11 by decide), rvR_ne (show 8 ≠ 11 by decide), gs_ne (show 8 ≠ 11 by decide), rvR_ne (show 9 ≠ 11 by decide), gs_ne (show 9 ≠ 11 by decide), rvR_ne (show 10 ≠ 11 by decide), gs_ne (show 10 ≠ 11 by decide)]
theorem tabR_R0 (g : yG) (A : Nat → Nat) (d : RV) (G : Nat → Nat → Int32) (y : List Int32) (h : Nat → Int32) : tabR g A (rvR d 0 y) (gs G 0 h) = [rowW g.2.2.1 (A 1) (A 2) 34 y h, rowW g.2.2.1 (A 3) (A 4) 34 (d.1 1) (G 1), rowW g.2.2.1 (A 5) (A 6) 34 (d.1 2) (G 2), rowW g.2.2.1 (A 7) (A 8) 17 (d.1 3) (G 3), rowW g.2.2.1 (A 9) (A 10) 17 (d.1 4) (G 4)] := by
  unfold tabR
  rw [rvR_eq, gs_eq, rvR_ne (show 1 ≠ 0 by decide), gs_ne (show 1 ≠ 0 by decide), rvR_ne (show 2 ≠ 0 by decide), gs_ne (show 2 ≠ 0 by decide), rvR_ne (show 3 ≠ 0 by decide), gs_ne (show 3 ≠ 0 by decide), rvR_ne (show 4 ≠ 0 by decide), gs_ne (show 4 ≠ 0 by decide)]
theorem tabR_R1 (g : yG) (A : Nat → Nat) (d : RV) (G : Nat → Nat → Int32) (y : List Int32) (h : Nat → Int32) : tabR g A (rvR d 1 y) (gs G 1 h) = [rowW g.2.2.1 (A 1) (A 2) 34 (d.1 0) (G 0), rowW g.2.2.1 (A 3) (A 4) 34 y h, rowW g.2.2.1 (A 5) (A 6) 34 (d.1 2) (G 2), rowW g.2.2.1 (A 7) (A 8) 17 (d.1 3) (G 3), rowW g.2.2.1 (A 9) (A 10) 17 (d.1 4) (G 4)] := by
  unfold tabR
  rw [rvR_eq, gs_eq, rvR_ne (show 0 ≠ 1 by decide), gs_ne (show 0 ≠ 1 by decide), rvR_ne (show 2 ≠ 1 by decide), gs_ne (show 2 ≠ 1 by decide), rvR_ne (show 3 ≠ 1 by decide), gs_ne (show 3 ≠ 1 by decide), rvR_ne (show 4 ≠ 1 by decide), gs_ne (show 4 ≠ 1 by decide)]
theorem tabR_R2 (g : yG) (A : Nat → Nat) (d : RV) (G : Nat → Nat → Int32) (y : List Int32) (h : Nat → Int32) : tabR g A (rvR d 2 y) (gs G 2 h) = [rowW g.2.2.1 (A 1) (A 2) 34 (d.1 0) (G 0), rowW g.2.2.1 (A 3) (A 4) 34 (d.1 1) (G 1), rowW g.2.2.1 (A 5) (A 6) 34 y h, rowW g.2.2.1 (A 7) (A 8) 17 (d.1 3) (G 3), rowW g.2.2.1 (A 9) (A 10) 17 (d.1 4) (G 4)] := by
  unfold tabR
  rw [rvR_eq, gs_eq, rvR_ne (show 0 ≠ 2 by decide), gs_ne (show 0 ≠ 2 by decide), rvR_ne (show 1 ≠ 2 by decide), gs_ne (show 1 ≠ 2 by decide), rvR_ne (show 3 ≠ 2 by decide), gs_ne (show 3 ≠ 2 by decide), rvR_ne (show 4 ≠ 2 by decide), gs_ne (show 4 ≠ 2 by decide)]
theorem tabR_R3 (g : yG) (A : Nat → Nat) (d : RV) (G : Nat → Nat → Int32) (y : List Int32) (h : Nat → Int32) : tabR g A (rvR d 3 y) (gs G 3 h) = [rowW g.2.2.1 (A 1) (A 2) 34 (d.1 0) (G 0), rowW g.2.2.1 (A 3) (A 4) 34 (d.1 1) (G 1), rowW g.2.2.1 (A 5) (A 6) 34 (d.1 2) (G 2), rowW g.2.2.1 (A 7) (A 8) 17 y h, rowW g.2.2.1 (A 9) (A 10) 17 (d.1 4) (G 4)] := by
  unfold tabR
  rw [rvR_eq, gs_eq, rvR_ne (show 0 ≠ 3 by decide), gs_ne (show 0 ≠ 3 by decide), rvR_ne (show 1 ≠ 3 by decide), gs_ne (show 1 ≠ 3 by decide), rvR_ne (show 2 ≠ 3 by decide), gs_ne (show 2 ≠ 3 by decide), rvR_ne (show 4 ≠ 3 by decide), gs_ne (show 4 ≠ 3 by decide)]
theorem tabR_R4 (g : yG) (A : Nat → Nat) (d : RV) (G : Nat → Nat → Int32) (y : List Int32) (h : Nat → Int32) : tabR g A (rvR d 4 y) (gs G 4 h) = [rowW g.2.2.1 (A 1) (A 2) 34 (d.1 0) (G 0), rowW g.2.2.1 (A 3) (A 4) 34 (d.1 1) (G 1), rowW g.2.2.1 (A 5) (A 6) 34 (d.1 2) (G 2), rowW g.2.2.1 (A 7) (A 8) 17 (d.1 3) (G 3), rowW g.2.2.1 (A 9) (A 10) 17 y h] := by
  unfold tabR
  rw [rvR_eq, gs_eq, rvR_ne (show 0 ≠ 4 by decide), gs_ne (show 0 ≠ 4 by decide), rvR_ne (show 1 ≠ 4 by decide), gs_ne (show 1 ≠ 4 by decide), rvR_ne (show 2 ≠ 4 by decide), gs_ne (show 2 ≠ 4 by decide), rvR_ne (show 3 ≠ 4 by decide), gs_ne (show 3 ≠ 4 by decide)]
theorem padR_R0 (g : yG) (A : Nat → Nat) (d : RV) (G : Nat → Nat → Int32) (y : List Int32) (h : Nat → Int32) : padR g A (rvR d 0 y) (gs G 0 h) = [rowW g.2.2.1 (A 1) (A 2) 60 y h, rowW g.2.2.1 (A 3) (A 4) 31 (d.1 1) (G 1)] := by
  unfold padR
  rw [rvR_eq, gs_eq, rvR_ne (show 1 ≠ 0 by decide), gs_ne (show 1 ≠ 0 by decide)]
theorem padR_R1 (g : yG) (A : Nat → Nat) (d : RV) (G : Nat → Nat → Int32) (y : List Int32) (h : Nat → Int32) : padR g A (rvR d 1 y) (gs G 1 h) = [rowW g.2.2.1 (A 1) (A 2) 60 (d.1 0) (G 0), rowW g.2.2.1 (A 3) (A 4) 31 y h] := by
  unfold padR
  rw [rvR_eq, gs_eq, rvR_ne (show 0 ≠ 1 by decide), gs_ne (show 0 ≠ 1 by decide)]
end
section
theorem sh_0 (g : yG) (r0 a0 N0 : Nat) (n0 : Int32) (f0 : Nat → Int32) : ([[(r0, .inr (3, [.ref a0, .int n0]))], [(a0, .inl (g.2.2.1, N0, .inl f0))]] : List va_W).flatten[0]? = some (r0, .inr (3, [.ref a0, .int n0])) := rfl
theorem sh_1 (g : yG) (r0 a0 N0 : Nat) (n0 : Int32) (f0 : Nat → Int32) (r1 a1 N1 : Nat) (n1 : Int32) (f1 : Nat → Int32) : ([[(r0, .inr (3, [.ref a0, .int n0]))], [(a0, .inl (g.2.2.1, N0, .inl f0))], [(r1, .inr (3, [.ref a1, .int n1]))], [(a1, .inl (g.2.2.1, N1, .inl f1))]] : List va_W).flatten[0]? = some (r0, .inr (3, [.ref a0, .int n0])) := rfl
theorem sh_2 (g : yG) (r0 a0 N0 : Nat) (n0 : Int32) (f0 : Nat → Int32) (r1 a1 N1 : Nat) (n1 : Int32) (f1 : Nat → Int32) : ([[(r0, .inr (3, [.ref a0, .int n0]))], [(a0, .inl (g.2.2.1, N0, .inl f0))], [(r1, .inr (3, [.ref a1, .int n1]))], [(a1, .inl (g.2.2.1, N1, .inl f1))]] : List va_W).flatten[2]? = some (r1, .inr (3, [.ref a1, .int n1])) := rfl
end
section
def wp_X3_length_0 (N : Nat) (n : Int32) (f : Nat → Int32)  (K : Int32 → Prop)   : Prop := (K n)
def PO_X3_length (N : Nat) (n : Int32) (f : Nat → Int32) (K : Int32 → Prop)   : Prop := wp_X3_length_0 N n f  K  
def wp_X3_at_0 (N : Nat) (n : Int32) (f : Nat → Int32) (p : Int32)  (K : Int32 → Prop)   : Prop := (if p < 0 then (K (0 : Int32)) else (if n ≤ p then (K (0 : Int32)) else (if (nI N) ≤ p then (K (0 : Int32)) else (vp_in p N ∧ (K (f p.toNatClampNeg))))))
def PO_X3_at (N : Nat) (n : Int32) (f : Nat → Int32) (p : Int32) (K : Int32 → Prop)   : Prop := wp_X3_at_0 N n f p  K  
def wp_X3_change_0 (N : Nat) (p : Int32) (v : Int32)  (K : Int32 → (Nat → Int32) → Prop) (n : Int32) (f : Nat → Int32)  : Prop := (if p < 0 then (K n f) else (if n ≤ p then (K n f) else (if (nI N) ≤ p then (K n f) else (vp_in p N ∧ (K n (upd f p.toNatClampNeg v))))))
def PO_X3_change (N : Nat) (p : Int32) (v : Int32) (K : Int32 → (Nat → Int32) → Prop) (n : Int32) (f : Nat → Int32)  : Prop := wp_X3_change_0 N p v  K n f 
def wp_X3_insert_37 (N : Nat) (p : Int32) (v : Int32) (X37 : Int32 → (Nat → Int32) → Int32 → Prop) (K : Int32 → (Nat → Int32) → Prop) (n : Int32) (f : Nat → Int32) (x3 : Int32) : Prop := (if x3 ≤ p then (vp_in p N ∧ (K (n + (1 : Int32)) (upd f p.toNatClampNeg v))) else (vp_in (x3 - (1 : Int32)) N ∧ (vp_in x3 N ∧ (X37 n (upd f x3.toNatClampNeg (f (x3 - (1 : Int32)).toNatClampNeg)) (x3 + (-1 : Int32))))))
def wp_X3_insert_0 (N : Nat) (p : Int32) (v : Int32) (X37 : Int32 → (Nat → Int32) → Int32 → Prop) (K : Int32 → (Nat → Int32) → Prop) (n : Int32) (f : Nat → Int32)  : Prop := (if p < 0 then (K n f) else (if n < p then (K n f) else (if n < 0 then (K n f) else (if n < (nI N) then (X37 n f n) else (K n f)))))
def PO_X3_insert (N : Nat) (p : Int32) (v : Int32) (K : Int32 → (Nat → Int32) → Prop) (n : Int32) (f : Nat → Int32)  : Prop := ∃ (I37 : Nat → Int32 → (Nat → Int32) → Int32 → Prop), (∀ (w0 : Nat) (n : Int32) (f : Nat → Int32) (x3 : Int32), I37 w0 n f x3 → wp_X3_insert_37 N p v (fun (n9 : Int32) (f9 : Nat → Int32) (x39 : Int32) => ∃ w9, w9 < w0 ∧ I37 w9 n9 f9 x39) K n f x3) ∧ wp_X3_insert_0 N p v (fun (n9 : Int32) (f9 : Nat → Int32) (x39 : Int32) => ∃ w9, I37 w9 n9 f9 x39) K n f 
def wp_X3_remove_29 (N : Nat) (p : Int32) (X29 : Int32 → (Nat → Int32) → Int32 → Prop) (K : Int32 → (Nat → Int32) → Prop) (n : Int32) (f : Nat → Int32) (x2 : Int32) : Prop := (if n ≤ x2 then (K (n - (1 : Int32)) f) else (vp_in x2 N ∧ (vp_in (x2 - (1 : Int32)) N ∧ (X29 n (upd f (x2 - (1 : Int32)).toNatClampNeg (f x2.toNatClampNeg)) (x2 + (1 : Int32))))))
def wp_X3_remove_0 (N : Nat) (p : Int32) (X29 : Int32 → (Nat → Int32) → Int32 → Prop) (K : Int32 → (Nat → Int32) → Prop) (n : Int32) (f : Nat → Int32)  : Prop := (if p < 0 then (K n f) else (if n ≤ p then (K n f) else (if n ≤ (nI N) then (X29 n f (p + (1 : Int32))) else (K n f))))
def PO_X3_remove (N : Nat) (p : Int32) (K : Int32 → (Nat → Int32) → Prop) (n : Int32) (f : Nat → Int32)  : Prop := ∃ (I29 : Nat → Int32 → (Nat → Int32) → Int32 → Prop), (∀ (w0 : Nat) (n : Int32) (f : Nat → Int32) (x2 : Int32), I29 w0 n f x2 → wp_X3_remove_29 N p (fun (n9 : Int32) (f9 : Nat → Int32) (x29 : Int32) => ∃ w9, w9 < w0 ∧ I29 w9 n9 f9 x29) K n f x2) ∧ wp_X3_remove_0 N p (fun (n9 : Int32) (f9 : Nat → Int32) (x29 : Int32) => ∃ w9, I29 w9 n9 f9 x29) K n f 
def wp_X3_clear_0 (N : Nat)  (K : Int32 → (Nat → Int32) → Prop) (n : Int32) (f : Nat → Int32)  : Prop := (K (0 : Int32) f)
def PO_X3_clear (N : Nat) (K : Int32 → (Nat → Int32) → Prop) (n : Int32) (f : Nat → Int32)  : Prop := wp_X3_clear_0 N  K n f 
def wp_X3_copy_26 (N : Nat) (M : Nat) (m : Int32) (u : Nat → Int32) (X26 : Int32 → (Nat → Int32) → Int32 → Prop) (K : Int32 → (Nat → Int32) → Prop) (n : Int32) (f : Nat → Int32) (x2 : Int32) : Prop := (if n ≤ x2 then (K n f) else (vp_in x2 M ∧ (vp_in x2 N ∧ (X26 n (upd f x2.toNatClampNeg (u x2.toNatClampNeg)) (x2 + (1 : Int32))))))
def wp_X3_copy_0 (N : Nat) (M : Nat) (m : Int32) (u : Nat → Int32) (X26 : Int32 → (Nat → Int32) → Int32 → Prop) (K : Int32 → (Nat → Int32) → Prop) (n : Int32) (f : Nat → Int32)  : Prop := (yl (if (nI N) < (nI M) then (nI N) else (nI M)) (fun m1 => (yl (if m1 < m then m1 else m) (fun m2 => (X26 m2 f (0 : Int32))))))
def PO_X3_copy (N : Nat) (M : Nat) (m : Int32) (u : Nat → Int32) (K : Int32 → (Nat → Int32) → Prop) (n : Int32) (f : Nat → Int32)  : Prop := ∃ (I26 : Nat → Int32 → (Nat → Int32) → Int32 → Prop), (∀ (w0 : Nat) (n : Int32) (f : Nat → Int32) (x2 : Int32), I26 w0 n f x2 → wp_X3_copy_26 N M m u (fun (n9 : Int32) (f9 : Nat → Int32) (x29 : Int32) => ∃ w9, w9 < w0 ∧ I26 w9 n9 f9 x29) K n f x2) ∧ wp_X3_copy_0 N M m u (fun (n9 : Int32) (f9 : Nat → Int32) (x29 : Int32) => ∃ w9, I26 w9 n9 f9 x29) K n f 
end
section
theorem dX3_length_0 : decode cX3_length 0 = .ok (.aload_n 0, 1) := by decide +kernel
theorem dX3_length_1 : decode cX3_length 1 = .ok (.getfield 19, 3) := by decide +kernel
theorem dX3_length_4 : decode cX3_length 4 = .ok (.ireturn, 1) := by decide +kernel
theorem kX3_length_1 : Cond.fieldLink RX3 19 "BookedDetours$Row" "length" "I" ∈ wsX3_length := List.mem_of_getElem? (i := 1) (by decide +kernel)
theorem hX3_length_X3 : ∀ w ∈ u_ws RX3 TX3 2, w ∈ wsX3_length := fun _ h => List.mem_cons_of_mem _ (List.mem_append_right _ h)
set_option maxHeartbeats 4000000 in
set_option maxRecDepth 100000 in
theorem t_X3_length (g : yG) (r a N : Nat) (n : Int32) (f : Nat → Int32)  {post : Int32 → List va_W → Prop} {K : Int32 → Prop} (hK : ∀ (r0 : Int32), K r0 → post r0 ([[(r, .inr (3, [.ref a, .int n]))], [(a, .inl (g.2.2.1, N, .inl f))]] : List va_W)) (hPO : PO_X3_length N n f K  ) : yM g yX3_length wsX3_length ({ frames := 0, cells := 0, slots := 0, locals := 0 } : Room) [.ref r] ([[(r, .inr (3, [.ref a, .int n]))], [(a, .inl (g.2.2.1, N, .inl f))]] : List va_W) post 0 0 := by
  refine y_entryI (cc := cX3_length) (maxL := 1) (by decide +kernel) rfl (Nat.le_of_ble_eq_true rfl) (fun Z C HR => ?_)
  have C : yC Z g cX3_length 1 wsX3_length RX3 := C
  have h := hPO
  unfold PO_X3_length wp_X3_length_0 at h
  show yJ Z _ 0 0 _ 0 [(0, .ref r)] []
  refine y_aload_n C dX3_length_0 0 rfl rfl ?_
  refine y_get (Cn := RX3) (T := TX3) (N := 2) (v := .int n) C dX3_length_1 hX3_length_X3 0 (sh_0 g r a N n f) rfl 1 (Nat.le_of_ble_eq_true rfl) kX3_length_1 rfl ?_
  exact HR 4 dX3_length_4 n _ _ _ _ (rfl) (Nat.le_of_ble_eq_true rfl) (Nat.le_of_ble_eq_true rfl) (hK _  h)
theorem dX3_at_0 : decode cX3_at 0 = .ok (.iload_n 1, 1) := by decide +kernel
theorem dX3_at_1 : decode cX3_at 1 = .ok (.ifCond .lt 29, 3) := by decide +kernel
theorem dX3_at_4 : decode cX3_at 4 = .ok (.iload_n 1, 1) := by decide +kernel
theorem dX3_at_5 : decode cX3_at 5 = .ok (.aload_n 0, 1) := by decide +kernel
theorem dX3_at_6 : decode cX3_at 6 = .ok (.getfield 19, 3) := by decide +kernel
theorem dX3_at_9 : decode cX3_at 9 = .ok (.if_icmp .ge 21, 3) := by decide +kernel
theorem dX3_at_12 : decode cX3_at 12 = .ok (.iload_n 1, 1) := by decide +kernel
theorem dX3_at_13 : decode cX3_at 13 = .ok (.aload_n 0, 1) := by decide +kernel
theorem dX3_at_14 : decode cX3_at 14 = .ok (.getfield 13, 3) := by decide +kernel
theorem dX3_at_17 : decode cX3_at 17 = .ok (.arraylength, 1) := by decide +kernel
theorem dX3_at_18 : decode cX3_at 18 = .ok (.if_icmp .ge 12, 3) := by decide +kernel
theorem dX3_at_21 : decode cX3_at 21 = .ok (.aload_n 0, 1) := by decide +kernel
theorem dX3_at_22 : decode cX3_at 22 = .ok (.getfield 13, 3) := by decide +kernel
theorem dX3_at_25 : decode cX3_at 25 = .ok (.iload_n 1, 1) := by decide +kernel
theorem dX3_at_26 : decode cX3_at 26 = .ok (.iaload, 1) := by decide +kernel
theorem dX3_at_27 : decode cX3_at 27 = .ok (.goto 4, 3) := by decide +kernel
theorem dX3_at_30 : decode cX3_at 30 = .ok (.iconst 0, 1) := by decide +kernel
theorem dX3_at_31 : decode cX3_at 31 = .ok (.ireturn, 1) := by decide +kernel
theorem kX3_at_1 : Cond.fieldLink RX3 19 "BookedDetours$Row" "length" "I" ∈ wsX3_at := List.mem_of_getElem? (i := 1) (by decide +kernel)
theorem kX3_at_2 : Cond.fieldLink RX3 13 "BookedDetours$Row" "cells" "[I" ∈ wsX3_at := List.mem_of_getElem? (i := 2) (by decide +kernel)
theorem hX3_at_X3 : ∀ w ∈ u_ws RX3 TX3 2, w ∈ wsX3_at := fun _ h => List.mem_cons_of_mem _ (List.mem_append_right _ h)
set_option maxHeartbeats 4000000 in
set_option maxRecDepth 100000 in
theorem t_X3_at (g : yG) (r a N : Nat) (n : Int32) (f : Nat → Int32) (p : Int32) {post : Int32 → List va_W → Prop} {K : Int32 → Prop} (hK : ∀ (r0 : Int32), K r0 → post r0 ([[(r, .inr (3, [.ref a, .int n]))], [(a, .inl (g.2.2.1, N, .inl f))]] : List va_W)) (hPO : PO_X3_at N n f p K  ) : yM g yX3_at wsX3_at ({ frames := 0, cells := 0, slots := 0, locals := 0 } : Room) [.ref r, .int p] ([[(r, .inr (3, [.ref a, .int n]))], [(a, .inl (g.2.2.1, N, .inl f))]] : List va_W) post 0 0 := by
  refine y_entryI (cc := cX3_at) (maxL := 2) (by decide +kernel) rfl (Nat.le_of_ble_eq_true rfl) (fun Z C HR => ?_)
  have C : yC Z g cX3_at 2 wsX3_at RX3 := C
  have h := hPO
  unfold PO_X3_at wp_X3_at_0 at h
  show yJ Z _ 0 0 _ 0 [(0, .ref r), (1, .int p)] []
  refine y_iload_n C dX3_at_0 1 rfl rfl ?_
  refine y_if_lt (tgt := 30) C dX3_at_1 rfl h (fun c1 h => ?_) (fun c1 h => ?_)
  · refine y_iconst (v := 0) C dX3_at_30 (by decide) ?_
    exact HR 31 dX3_at_31 (0 : Int32) _ _ _ _ (rfl) (Nat.le_of_ble_eq_true rfl) (Nat.le_of_ble_eq_true rfl) (hK _  h)
  · refine y_iload_n C dX3_at_4 1 rfl rfl ?_
    refine y_aload_n C dX3_at_5 0 rfl rfl ?_
    refine y_get (Cn := RX3) (T := TX3) (N := 2) (v := .int n) C dX3_at_6 hX3_at_X3 0 (sh_0 g r a N n f) rfl 1 (Nat.le_of_ble_eq_true rfl) kX3_at_1 rfl ?_
    refine y_icmp_ge (tgt := 30) C dX3_at_9 rfl h (fun c9 h => ?_) (fun c9 h => ?_)
    · refine y_iconst (v := 0) C dX3_at_30 (by decide) ?_
      exact HR 31 dX3_at_31 (0 : Int32) _ _ _ _ (rfl) (Nat.le_of_ble_eq_true rfl) (Nat.le_of_ble_eq_true rfl) (hK _  h)
    · refine y_iload_n C dX3_at_12 1 rfl rfl ?_
      refine y_aload_n C dX3_at_13 0 rfl rfl ?_
      refine y_get (Cn := RX3) (T := TX3) (N := 2) (v := .ref a) C dX3_at_14 hX3_at_X3 0 (sh_0 g r a N n f) rfl 0 (Nat.le_of_ble_eq_true rfl) kX3_at_2 rfl ?_
      refine y_alen (N := N) (v := nI N) C dX3_at_17 1 rfl rfl ?_
      refine y_icmp_ge (tgt := 30) C dX3_at_18 rfl h (fun c18 h => ?_) (fun c18 h => ?_)
      · refine y_iconst (v := 0) C dX3_at_30 (by decide) ?_
        exact HR 31 dX3_at_31 (0 : Int32) _ _ _ _ (rfl) (Nat.le_of_ble_eq_true rfl) (Nat.le_of_ble_eq_true rfl) (hK _  h)
      · refine y_aload_n C dX3_at_21 0 rfl rfl ?_
        refine y_get (Cn := RX3) (T := TX3) (N := 2) (v := .ref a) C dX3_at_22 hX3_at_X3 0 (sh_0 g r a N n f) rfl 0 (Nat.le_of_ble_eq_true rfl) kX3_at_2 rfl ?_
        refine y_iload_n C dX3_at_25 1 rfl rfl ?_
        obtain ⟨hb1, h⟩ := h
        refine y_iald (N := N) (f := f) C dX3_at_26 1 rfl hb1 ?_
        refine y_goto (tgt := 31) C dX3_at_27 rfl ?_
        exact HR 31 dX3_at_31 (f p.toNatClampNeg) _ _ _ _ (rfl) (Nat.le_of_ble_eq_true rfl) (Nat.le_of_ble_eq_true rfl) (hK _  h)
theorem dX3_change_0 : decode cX3_change 0 = .ok (.iload_n 1, 1) := by decide +kernel
theorem dX3_change_1 : decode cX3_change 1 = .ok (.ifCond .lt 27, 3) := by decide +kernel
theorem dX3_change_4 : decode cX3_change 4 = .ok (.iload_n 1, 1) := by decide +kernel
theorem dX3_change_5 : decode cX3_change 5 = .ok (.aload_n 0, 1) := by decide +kernel
theorem dX3_change_6 : decode cX3_change 6 = .ok (.getfield 19, 3) := by decide +kernel
theorem dX3_change_9 : decode cX3_change 9 = .ok (.if_icmp .ge 19, 3) := by decide +kernel
theorem dX3_change_12 : decode cX3_change 12 = .ok (.iload_n 1, 1) := by decide +kernel
theorem dX3_change_13 : decode cX3_change 13 = .ok (.aload_n 0, 1) := by decide +kernel
theorem dX3_change_14 : decode cX3_change 14 = .ok (.getfield 13, 3) := by decide +kernel
theorem dX3_change_17 : decode cX3_change 17 = .ok (.arraylength, 1) := by decide +kernel
theorem dX3_change_18 : decode cX3_change 18 = .ok (.if_icmp .ge 10, 3) := by decide +kernel
theorem dX3_change_21 : decode cX3_change 21 = .ok (.aload_n 0, 1) := by decide +kernel
theorem dX3_change_22 : decode cX3_change 22 = .ok (.getfield 13, 3) := by decide +kernel
theorem dX3_change_25 : decode cX3_change 25 = .ok (.iload_n 1, 1) := by decide +kernel
theorem dX3_change_26 : decode cX3_change 26 = .ok (.iload_n 2, 1) := by decide +kernel
theorem dX3_change_27 : decode cX3_change 27 = .ok (.iastore, 1) := by decide +kernel
theorem dX3_change_28 : decode cX3_change 28 = .ok (.return_, 1) := by decide +kernel
theorem kX3_change_1 : Cond.fieldLink RX3 19 "BookedDetours$Row" "length" "I" ∈ wsX3_change := List.mem_of_getElem? (i := 1) (by decide +kernel)
theorem kX3_change_2 : Cond.fieldLink RX3 13 "BookedDetours$Row" "cells" "[I" ∈ wsX3_change := List.mem_of_getElem? (i := 2) (by decide +kernel)
theorem hX3_change_X3 : ∀ w ∈ u_ws RX3 TX3 2, w ∈ wsX3_change := fun _ h => List.mem_cons_of_mem _ (List.mem_append_right _ h)
set_option maxHeartbeats 4000000 in
set_option maxRecDepth 100000 in
theorem t_X3_change (g : yG) (r a N : Nat) (n : Int32) (f : Nat → Int32) (p : Int32) (v : Int32) {post : List va_W → Prop} {K : Int32 → (Nat → Int32) → Prop} (hK : ∀ (n : Int32) (f : Nat → Int32), K n f → post ([[(r, .inr (3, [.ref a, .int n]))], [(a, .inl (g.2.2.1, N, .inl f))]] : List va_W)) (hPO : PO_X3_change N p v K n f ) : yMv g yX3_change wsX3_change ({ frames := 0, cells := 0, slots := 0, locals := 0 } : Room) [.ref r, .int p, .int v] ([[(r, .inr (3, [.ref a, .int n]))], [(a, .inl (g.2.2.1, N, .inl f))]] : List va_W) post 0 0 := by
  refine y_entryV (cc := cX3_change) (maxL := 3) (by decide +kernel) rfl (Nat.le_of_ble_eq_true rfl) (fun Z C _ HR => ?_)
  have C : yC Z g cX3_change 3 wsX3_change RX3 := C
  have h := hPO
  unfold PO_X3_change wp_X3_change_0 at h
  show yJ Z _ 0 0 _ 0 [(0, .ref r), (1, .int p), (2, .int v)] []
  refine y_iload_n C dX3_change_0 1 rfl rfl ?_
  refine y_if_lt (tgt := 28) C dX3_change_1 rfl h (fun c1 h => ?_) (fun c1 h => ?_)
  · exact HR 28 dX3_change_28 _ _ _ _ (Nat.le_of_ble_eq_true rfl) (Nat.le_of_ble_eq_true rfl) (hK _ _  h)
  · refine y_iload_n C dX3_change_4 1 rfl rfl ?_
    refine y_aload_n C dX3_change_5 0 rfl rfl ?_
    refine y_get (Cn := RX3) (T := TX3) (N := 2) (v := .int n) C dX3_change_6 hX3_change_X3 0 (sh_0 g r a N n f) rfl 1 (Nat.le_of_ble_eq_true rfl) kX3_change_1 rfl ?_
    refine y_icmp_ge (tgt := 28) C dX3_change_9 rfl h (fun c9 h => ?_) (fun c9 h => ?_)
    · exact HR 28 dX3_change_28 _ _ _ _ (Nat.le_of_ble_eq_true rfl) (Nat.le_of_ble_eq_true rfl) (hK _ _  h)
    · refine y_iload_n C dX3_change_12 1 rfl rfl ?_
      refine y_aload_n C dX3_change_13 0 rfl rfl ?_
      refine y_get (Cn := RX3) (T := TX3) (N := 2) (v := .ref a) C dX3_change_14 hX3_change_X3 0 (sh_0 g r a N n f) rfl 0 (Nat.le_of_ble_eq_true rfl) kX3_change_2 rfl ?_
      refine y_alen (N := N) (v := nI N) C dX3_change_17 1 rfl rfl ?_
      refine y_icmp_ge (tgt := 28) C dX3_change_18 rfl h (fun c18 h => ?_) (fun c18 h => ?_)
      · exact HR 28 dX3_change_28 _ _ _ _ (Nat.le_of_ble_eq_true rfl) (Nat.le_of_ble_eq_true rfl) (hK _ _  h)
      · refine y_aload_n C dX3_change_21 0 rfl rfl ?_
        refine y_get (Cn := RX3) (T := TX3) (N := 2) (v := .ref a) C dX3_change_22 hX3_change_X3 0 (sh_0 g r a N n f) rfl 0 (Nat.le_of_ble_eq_true rfl) kX3_change_2 rfl ?_
        refine y_iload_n C dX3_change_25 1 rfl rfl ?_
        refine y_iload_n C dX3_change_26 2 rfl rfl ?_
        obtain ⟨hb1, h⟩ := h
        refine y_iast (N := N) (f := f) (L1 := ([[(r, .inr (3, [.ref a, .int n]))], [(a, .inl (g.2.2.1, N, .inl (upd f p.toNatClampNeg v)))]] : List va_W)) C dX3_change_27 1 rfl hb1 rfl ?_
        exact HR 28 dX3_change_28 _ _ _ _ (Nat.le_of_ble_eq_true rfl) (Nat.le_of_ble_eq_true rfl) (hK _ _  h)
theorem dX3_insert_0 : decode cX3_insert 0 = .ok (.iload_n 1, 1) := by decide +kernel
theorem dX3_insert_1 : decode cX3_insert 1 = .ok (.ifCond .lt 30, 3) := by decide +kernel
theorem dX3_insert_4 : decode cX3_insert 4 = .ok (.iload_n 1, 1) := by decide +kernel
theorem dX3_insert_5 : decode cX3_insert 5 = .ok (.aload_n 0, 1) := by decide +kernel
theorem dX3_insert_6 : decode cX3_insert 6 = .ok (.getfield 19, 3) := by decide +kernel
theorem dX3_insert_9 : decode cX3_insert 9 = .ok (.if_icmp .gt 22, 3) := by decide +kernel
theorem dX3_insert_12 : decode cX3_insert 12 = .ok (.aload_n 0, 1) := by decide +kernel
theorem dX3_insert_13 : decode cX3_insert 13 = .ok (.getfield 19, 3) := by decide +kernel
theorem dX3_insert_16 : decode cX3_insert 16 = .ok (.ifCond .lt 15, 3) := by decide +kernel
theorem dX3_insert_19 : decode cX3_insert 19 = .ok (.aload_n 0, 1) := by decide +kernel
theorem dX3_insert_20 : decode cX3_insert 20 = .ok (.getfield 19, 3) := by decide +kernel
theorem dX3_insert_23 : decode cX3_insert 23 = .ok (.aload_n 0, 1) := by decide +kernel
theorem dX3_insert_24 : decode cX3_insert 24 = .ok (.getfield 13, 3) := by decide +kernel
theorem dX3_insert_27 : decode cX3_insert 27 = .ok (.arraylength, 1) := by decide +kernel
theorem dX3_insert_28 : decode cX3_insert 28 = .ok (.if_icmp .lt 4, 3) := by decide +kernel
theorem dX3_insert_31 : decode cX3_insert 31 = .ok (.return_, 1) := by decide +kernel
theorem dX3_insert_32 : decode cX3_insert 32 = .ok (.aload_n 0, 1) := by decide +kernel
theorem dX3_insert_33 : decode cX3_insert 33 = .ok (.getfield 19, 3) := by decide +kernel
theorem dX3_insert_36 : decode cX3_insert 36 = .ok (.istore_n 3, 1) := by decide +kernel
theorem dX3_insert_37 : decode cX3_insert 37 = .ok (.iload_n 3, 1) := by decide +kernel
theorem dX3_insert_38 : decode cX3_insert 38 = .ok (.iload_n 1, 1) := by decide +kernel
theorem dX3_insert_39 : decode cX3_insert 39 = .ok (.if_icmp .le 23, 3) := by decide +kernel
theorem dX3_insert_42 : decode cX3_insert 42 = .ok (.aload_n 0, 1) := by decide +kernel
theorem dX3_insert_43 : decode cX3_insert 43 = .ok (.getfield 13, 3) := by decide +kernel
theorem dX3_insert_46 : decode cX3_insert 46 = .ok (.iload_n 3, 1) := by decide +kernel
theorem dX3_insert_47 : decode cX3_insert 47 = .ok (.aload_n 0, 1) := by decide +kernel
theorem dX3_insert_48 : decode cX3_insert 48 = .ok (.getfield 13, 3) := by decide +kernel
theorem dX3_insert_51 : decode cX3_insert 51 = .ok (.iload_n 3, 1) := by decide +kernel
theorem dX3_insert_52 : decode cX3_insert 52 = .ok (.iconst 1, 1) := by decide +kernel
theorem dX3_insert_53 : decode cX3_insert 53 = .ok (.isub, 1) := by decide +kernel
theorem dX3_insert_54 : decode cX3_insert 54 = .ok (.iaload, 1) := by decide +kernel
theorem dX3_insert_55 : decode cX3_insert 55 = .ok (.iastore, 1) := by decide +kernel
theorem dX3_insert_56 : decode cX3_insert 56 = .ok (.iinc 3 (-1), 3) := by decide +kernel
theorem dX3_insert_59 : decode cX3_insert 59 = .ok (.goto (-22), 3) := by decide +kernel
theorem dX3_insert_62 : decode cX3_insert 62 = .ok (.aload_n 0, 1) := by decide +kernel
theorem dX3_insert_63 : decode cX3_insert 63 = .ok (.getfield 13, 3) := by decide +kernel
theorem dX3_insert_66 : decode cX3_insert 66 = .ok (.iload_n 1, 1) := by decide +kernel
theorem dX3_insert_67 : decode cX3_insert 67 = .ok (.iload_n 2, 1) := by decide +kernel
theorem dX3_insert_68 : decode cX3_insert 68 = .ok (.iastore, 1) := by decide +kernel
theorem dX3_insert_69 : decode cX3_insert 69 = .ok (.aload_n 0, 1) := by decide +kernel
theorem dX3_insert_70 : decode cX3_insert 70 = .ok (.dup, 1) := by decide +kernel
theorem dX3_insert_71 : decode cX3_insert 71 = .ok (.getfield 19, 3) := by decide +kernel
theorem dX3_insert_74 : decode cX3_insert 74 = .ok (.iconst 1, 1) := by decide +kernel
theorem dX3_insert_75 : decode cX3_insert 75 = .ok (.iadd, 1) := by decide +kernel
theorem dX3_insert_76 : decode cX3_insert 76 = .ok (.putfield 19, 3) := by decide +kernel
theorem dX3_insert_79 : decode cX3_insert 79 = .ok (.return_, 1) := by decide +kernel
theorem kX3_insert_2 : Cond.fieldLink RX3 13 "BookedDetours$Row" "cells" "[I" ∈ wsX3_insert := List.mem_of_getElem? (i := 2) (by decide +kernel)
theorem kX3_insert_1 : Cond.fieldLink RX3 19 "BookedDetours$Row" "length" "I" ∈ wsX3_insert := List.mem_of_getElem? (i := 1) (by decide +kernel)
theorem hX3_insert_X3 : ∀ w ∈ u_ws RX3 TX3 2, w ∈ wsX3_insert := fun _ h => List.mem_cons_of_mem _ (List.mem_append_right _ h)
set_option maxHeartbeats 4000000 in
set_option maxRecDepth 100000 in
theorem w_X3_insert_37 {Z : yZ} (g : yG) (r a N : Nat) (p : Int32) (v : Int32) (C : yC Z g cX3_insert 4 wsX3_insert RX3) {post : List va_W → Prop} (HR : yRv Z ({ frames := 0, cells := 0, slots := 0, locals := 0 } : Room) cX3_insert post 0 0) {X37 : Int32 → (Nat → Int32) → Int32 → Prop} (hX37 : ∀ (n : Int32) (f : Nat → Int32) (x3 : Int32), X37 n f x3 → yJ Z ({ frames := 0, cells := 0, slots := 0, locals := 0 } : Room) 0 0 ([[(r, .inr (3, [.ref a, .int n]))], [(a, .inl (g.2.2.1, N, .inl f))]] : List va_W) 37 [(0, .ref r), (1, .int p), (2, .int v), (3, .int x3)] []) {K : Int32 → (Nat → Int32) → Prop} (hK : ∀ (n : Int32) (f : Nat → Int32), K n f → post ([[(r, .inr (3, [.ref a, .int n]))], [(a, .inl (g.2.2.1, N, .inl f))]] : List va_W)) (n : Int32) (f : Nat → Int32) (x3 : Int32) (h : wp_X3_insert_37 N p v X37 K n f x3) : yJ Z ({ frames := 0, cells := 0, slots := 0, locals := 0 } : Room) 0 0 ([[(r, .inr (3, [.ref a, .int n]))], [(a, .inl (g.2.2.1, N, .inl f))]] : List va_W) 37 [(0, .ref r), (1, .int p), (2, .int v), (3, .int x3)] [] := by
  unfold wp_X3_insert_37 at h
  refine y_iload_n C dX3_insert_37 3 rfl rfl ?_
  refine y_iload_n C dX3_insert_38 1 rfl rfl ?_
  refine y_icmp_le (tgt := 62) C dX3_insert_39 rfl h (fun c39 h => ?_) (fun c39 h => ?_)
  · refine y_aload_n C dX3_insert_62 0 rfl rfl ?_
    refine y_get (Cn := RX3) (T := TX3) (N := 2) (v := .ref a) C dX3_insert_63 hX3_insert_X3 0 (sh_0 g r a N n f) rfl 0 (Nat.le_of_ble_eq_true rfl) kX3_insert_2 rfl ?_
    refine y_iload_n C dX3_insert_66 1 rfl rfl ?_
    refine y_iload_n C dX3_insert_67 2 rfl rfl ?_
    obtain ⟨hb1, h⟩ := h
    refine y_iast (N := N) (f := f) (L1 := ([[(r, .inr (3, [.ref a, .int n]))], [(a, .inl (g.2.2.1, N, .inl (upd f p.toNatClampNeg v)))]] : List va_W)) C dX3_insert_68 1 rfl hb1 rfl ?_
    refine y_aload_n C dX3_insert_69 0 rfl rfl ?_
    refine y_dup C dX3_insert_70 rfl ?_
    refine y_get (Cn := RX3) (T := TX3) (N := 2) (v := .int n) C dX3_insert_71 hX3_insert_X3 0 (sh_0 g r a N n (upd f p.toNatClampNeg v)) rfl 1 (Nat.le_of_ble_eq_true rfl) kX3_insert_1 rfl ?_
    refine y_iconst (v := 1) C dX3_insert_74 (by decide) ?_
    refine y_iadd C dX3_insert_75 ?_
    refine y_put (Cn := RX3) (T := TX3) (N := 2) (v := .int (n + (1 : Int32))) (ty0 := tyX3) (L1 := ([[(r, .inr (3, [.ref a, .int (n + (1 : Int32))]))], [(a, .inl (g.2.2.1, N, .inl (upd f p.toNatClampNeg v)))]] : List va_W)) C dX3_insert_76 hX3_insert_X3 0 (sh_0 g r a N n (upd f p.toNatClampNeg v)) rfl 1 (Nat.le_of_ble_eq_true rfl) kX3_insert_1 tyX3_ok nmX3 rfl rfl rfl (Nat.le_of_ble_eq_true rfl) rfl ?_
    exact HR 79 dX3_insert_79 _ _ _ _ (Nat.le_of_ble_eq_true rfl) (Nat.le_of_ble_eq_true rfl) (hK _ _  h)
  · refine y_aload_n C dX3_insert_42 0 rfl rfl ?_
    refine y_get (Cn := RX3) (T := TX3) (N := 2) (v := .ref a) C dX3_insert_43 hX3_insert_X3 0 (sh_0 g r a N n f) rfl 0 (Nat.le_of_ble_eq_true rfl) kX3_insert_2 rfl ?_
    refine y_iload_n C dX3_insert_46 3 rfl rfl ?_
    refine y_aload_n C dX3_insert_47 0 rfl rfl ?_
    refine y_get (Cn := RX3) (T := TX3) (N := 2) (v := .ref a) C dX3_insert_48 hX3_insert_X3 0 (sh_0 g r a N n f) rfl 0 (Nat.le_of_ble_eq_true rfl) kX3_insert_2 rfl ?_
    refine y_iload_n C dX3_insert_51 3 rfl rfl ?_
    refine y_iconst (v := 1) C dX3_insert_52 (by decide) ?_
    refine y_isub C dX3_insert_53 ?_
    obtain ⟨hb2, h⟩ := h
    refine y_iald (N := N) (f := f) C dX3_insert_54 1 rfl hb2 ?_
    obtain ⟨hb3, h⟩ := h
    refine y_iast (N := N) (f := f) (L1 := ([[(r, .inr (3, [.ref a, .int n]))], [(a, .inl (g.2.2.1, N, .inl (upd f x3.toNatClampNeg (f (x3 - (1 : Int32)).toNatClampNeg))))]] : List va_W)) C dX3_insert_55 1 rfl hb3 rfl ?_
    refine y_iinc (v := (x3 + (-1 : Int32))) (lv' := [(3, .int (x3 + (-1 : Int32))), (0, .ref r), (1, .int p), (2, .int v)]) C dX3_insert_56 3 rfl rfl (Nat.le_of_ble_eq_true rfl) rfl ?_
    refine y_goto (tgt := 37) C dX3_insert_59 rfl ?_
    refine y_sub (lv' := [(0, .ref r), (1, .int p), (2, .int v), (3, .int (x3 + (-1 : Int32)))]) [1, 2, 3, 0] rfl ?_
    exact hX37 _ _ _ h
set_option maxHeartbeats 4000000 in
set_option maxRecDepth 100000 in
theorem l_X3_insert {Z : yZ} (g : yG) (r a N : Nat) (p : Int32) (v : Int32) (C : yC Z g cX3_insert 4 wsX3_insert RX3) {post : List va_W → Prop} (HR : yRv Z ({ frames := 0, cells := 0, slots := 0, locals := 0 } : Room) cX3_insert post 0 0) {K : Int32 → (Nat → Int32) → Prop} (hK : ∀ (n : Int32) (f : Nat → Int32), K n f → post ([[(r, .inr (3, [.ref a, .int n]))], [(a, .inl (g.2.2.1, N, .inl f))]] : List va_W)) {I37 : Nat → Int32 → (Nat → Int32) → Int32 → Prop} (o37 : ∀ (w0 : Nat) (n : Int32) (f : Nat → Int32) (x3 : Int32), I37 w0 n f x3 → wp_X3_insert_37 N p v (fun (n9 : Int32) (f9 : Nat → Int32) (x39 : Int32) => ∃ w9, w9 < w0 ∧ I37 w9 n9 f9 x39) K n f x3) : ∀ w0 : Nat, (∀ (n : Int32) (f : Nat → Int32) (x3 : Int32), I37 w0 n f x3 → yJ Z ({ frames := 0, cells := 0, slots := 0, locals := 0 } : Room) 0 0 ([[(r, .inr (3, [.ref a, .int n]))], [(a, .inl (g.2.2.1, N, .inl f))]] : List va_W) 37 [(0, .ref r), (1, .int p), (2, .int v), (3, .int x3)] []) := by
  intro w0
  induction w0 using Nat.strongRecOn with
  | _ w0 ih =>
    exact fun n f x3 hi => w_X3_insert_37 g r a N p v C HR (fun n f x3 hq => by obtain ⟨w9, hlt, hi⟩ := hq; exact (ih w9 hlt) n f x3 hi) hK n f x3 (o37 w0 n f x3 hi)
set_option maxHeartbeats 4000000 in
set_option maxRecDepth 100000 in
theorem t_X3_insert (g : yG) (r a N : Nat) (n : Int32) (f : Nat → Int32) (p : Int32) (v : Int32) {post : List va_W → Prop} {K : Int32 → (Nat → Int32) → Prop} (hK : ∀ (n : Int32) (f : Nat → Int32), K n f → post ([[(r, .inr (3, [.ref a, .int n]))], [(a, .inl (g.2.2.1, N, .inl f))]] : List va_W)) (hPO : PO_X3_insert N p v K n f ) : yMv g yX3_insert wsX3_insert ({ frames := 0, cells := 0, slots := 0, locals := 0 } : Room) [.ref r, .int p, .int v] ([[(r, .inr (3, [.ref a, .int n]))], [(a, .inl (g.2.2.1, N, .inl f))]] : List va_W) post 0 0 := by
  refine y_entryV (cc := cX3_insert) (maxL := 4) (by decide +kernel) rfl (Nat.le_of_ble_eq_true rfl) (fun Z C _ HR => ?_)
  have C : yC Z g cX3_insert 4 wsX3_insert RX3 := C
  obtain ⟨I37, o37, h⟩ := hPO
  have hX37 : ∀ (n : Int32) (f : Nat → Int32) (x3 : Int32), (fun (n9 : Int32) (f9 : Nat → Int32) (x39 : Int32) => ∃ w9, I37 w9 n9 f9 x39) n f x3 → yJ Z ({ frames := 0, cells := 0, slots := 0, locals := 0 } : Room) 0 0 ([[(r, .inr (3, [.ref a, .int n]))], [(a, .inl (g.2.2.1, N, .inl f))]] : List va_W) 37 [(0, .ref r), (1, .int p), (2, .int v), (3, .int x3)] [] := by
    intro n f x3 hq
    obtain ⟨w9, hi⟩ := hq
    exact (l_X3_insert g r a N p v C HR hK o37 w9) n f x3 hi
  unfold wp_X3_insert_0 at h
  show yJ Z _ 0 0 _ 0 [(0, .ref r), (1, .int p), (2, .int v)] []
  refine y_iload_n C dX3_insert_0 1 rfl rfl ?_
  refine y_if_lt (tgt := 31) C dX3_insert_1 rfl h (fun c1 h => ?_) (fun c1 h => ?_)
  · exact HR 31 dX3_insert_31 _ _ _ _ (Nat.le_of_ble_eq_true rfl) (Nat.le_of_ble_eq_true rfl) (hK _ _  h)
  · refine y_iload_n C dX3_insert_4 1 rfl rfl ?_
    refine y_aload_n C dX3_insert_5 0 rfl rfl ?_
    refine y_get (Cn := RX3) (T := TX3) (N := 2) (v := .int n) C dX3_insert_6 hX3_insert_X3 0 (sh_0 g r a N n f) rfl 1 (Nat.le_of_ble_eq_true rfl) kX3_insert_1 rfl ?_
    refine y_icmp_gt (tgt := 31) C dX3_insert_9 rfl h (fun c9 h => ?_) (fun c9 h => ?_)
    · exact HR 31 dX3_insert_31 _ _ _ _ (Nat.le_of_ble_eq_true rfl) (Nat.le_of_ble_eq_true rfl) (hK _ _  h)
    · refine y_aload_n C dX3_insert_12 0 rfl rfl ?_
      refine y_get (Cn := RX3) (T := TX3) (N := 2) (v := .int n) C dX3_insert_13 hX3_insert_X3 0 (sh_0 g r a N n f) rfl 1 (Nat.le_of_ble_eq_true rfl) kX3_insert_1 rfl ?_
      refine y_if_lt (tgt := 31) C dX3_insert_16 rfl h (fun c16 h => ?_) (fun c16 h => ?_)
      · exact HR 31 dX3_insert_31 _ _ _ _ (Nat.le_of_ble_eq_true rfl) (Nat.le_of_ble_eq_true rfl) (hK _ _  h)
      · refine y_aload_n C dX3_insert_19 0 rfl rfl ?_
        refine y_get (Cn := RX3) (T := TX3) (N := 2) (v := .int n) C dX3_insert_20 hX3_insert_X3 0 (sh_0 g r a N n f) rfl 1 (Nat.le_of_ble_eq_true rfl) kX3_insert_1 rfl ?_
        refine y_aload_n C dX3_insert_23 0 rfl rfl ?_
        refine y_get (Cn := RX3) (T := TX3) (N := 2) (v := .ref a) C dX3_insert_24 hX3_insert_X3 0 (sh_0 g r a N n f) rfl 0 (Nat.le_of_ble_eq_true rfl) kX3_insert_2 rfl ?_
        refine y_alen (N := N) (v := nI N) C dX3_insert_27 1 rfl rfl ?_
        refine y_icmp_lt (tgt := 32) C dX3_insert_28 rfl h (fun c28 h => ?_) (fun c28 h => ?_)
        · refine y_aload_n C dX3_insert_32 0 rfl rfl ?_
          refine y_get (Cn := RX3) (T := TX3) (N := 2) (v := .int n) C dX3_insert_33 hX3_insert_X3 0 (sh_0 g r a N n f) rfl 1 (Nat.le_of_ble_eq_true rfl) kX3_insert_1 rfl ?_
          refine y_istore_n (lv' := [(3, .int n), (0, .ref r), (1, .int p), (2, .int v)]) C dX3_insert_36 rfl (Nat.le_of_ble_eq_true rfl) rfl ?_
          refine y_sub (lv' := [(0, .ref r), (1, .int p), (2, .int v), (3, .int n)]) [1, 2, 3, 0] rfl ?_
          exact hX37 _ _ _ h
        · exact HR 31 dX3_insert_31 _ _ _ _ (Nat.le_of_ble_eq_true rfl) (Nat.le_of_ble_eq_true rfl) (hK _ _  h)
theorem dX3_remove_0 : decode cX3_remove 0 = .ok (.iload_n 1, 1) := by decide +kernel
theorem dX3_remove_1 : decode cX3_remove 1 = .ok (.ifCond .lt 23, 3) := by decide +kernel
theorem dX3_remove_4 : decode cX3_remove 4 = .ok (.iload_n 1, 1) := by decide +kernel
theorem dX3_remove_5 : decode cX3_remove 5 = .ok (.aload_n 0, 1) := by decide +kernel
theorem dX3_remove_6 : decode cX3_remove 6 = .ok (.getfield 19, 3) := by decide +kernel
theorem dX3_remove_9 : decode cX3_remove 9 = .ok (.if_icmp .ge 15, 3) := by decide +kernel
theorem dX3_remove_12 : decode cX3_remove 12 = .ok (.aload_n 0, 1) := by decide +kernel
theorem dX3_remove_13 : decode cX3_remove 13 = .ok (.getfield 19, 3) := by decide +kernel
theorem dX3_remove_16 : decode cX3_remove 16 = .ok (.aload_n 0, 1) := by decide +kernel
theorem dX3_remove_17 : decode cX3_remove 17 = .ok (.getfield 13, 3) := by decide +kernel
theorem dX3_remove_20 : decode cX3_remove 20 = .ok (.arraylength, 1) := by decide +kernel
theorem dX3_remove_21 : decode cX3_remove 21 = .ok (.if_icmp .le 4, 3) := by decide +kernel
theorem dX3_remove_24 : decode cX3_remove 24 = .ok (.return_, 1) := by decide +kernel
theorem dX3_remove_25 : decode cX3_remove 25 = .ok (.iload_n 1, 1) := by decide +kernel
theorem dX3_remove_26 : decode cX3_remove 26 = .ok (.iconst 1, 1) := by decide +kernel
theorem dX3_remove_27 : decode cX3_remove 27 = .ok (.iadd, 1) := by decide +kernel
theorem dX3_remove_28 : decode cX3_remove 28 = .ok (.istore_n 2, 1) := by decide +kernel
theorem dX3_remove_29 : decode cX3_remove 29 = .ok (.iload_n 2, 1) := by decide +kernel
theorem dX3_remove_30 : decode cX3_remove 30 = .ok (.aload_n 0, 1) := by decide +kernel
theorem dX3_remove_31 : decode cX3_remove 31 = .ok (.getfield 19, 3) := by decide +kernel
theorem dX3_remove_34 : decode cX3_remove 34 = .ok (.if_icmp .ge 23, 3) := by decide +kernel
theorem dX3_remove_37 : decode cX3_remove 37 = .ok (.aload_n 0, 1) := by decide +kernel
theorem dX3_remove_38 : decode cX3_remove 38 = .ok (.getfield 13, 3) := by decide +kernel
theorem dX3_remove_41 : decode cX3_remove 41 = .ok (.iload_n 2, 1) := by decide +kernel
theorem dX3_remove_42 : decode cX3_remove 42 = .ok (.iconst 1, 1) := by decide +kernel
theorem dX3_remove_43 : decode cX3_remove 43 = .ok (.isub, 1) := by decide +kernel
theorem dX3_remove_44 : decode cX3_remove 44 = .ok (.aload_n 0, 1) := by decide +kernel
theorem dX3_remove_45 : decode cX3_remove 45 = .ok (.getfield 13, 3) := by decide +kernel
theorem dX3_remove_48 : decode cX3_remove 48 = .ok (.iload_n 2, 1) := by decide +kernel
theorem dX3_remove_49 : decode cX3_remove 49 = .ok (.iaload, 1) := by decide +kernel
theorem dX3_remove_50 : decode cX3_remove 50 = .ok (.iastore, 1) := by decide +kernel
theorem dX3_remove_51 : decode cX3_remove 51 = .ok (.iinc 2 1, 3) := by decide +kernel
theorem dX3_remove_54 : decode cX3_remove 54 = .ok (.goto (-25), 3) := by decide +kernel
theorem dX3_remove_57 : decode cX3_remove 57 = .ok (.aload_n 0, 1) := by decide +kernel
theorem dX3_remove_58 : decode cX3_remove 58 = .ok (.dup, 1) := by decide +kernel
theorem dX3_remove_59 : decode cX3_remove 59 = .ok (.getfield 19, 3) := by decide +kernel
theorem dX3_remove_62 : decode cX3_remove 62 = .ok (.iconst 1, 1) := by decide +kernel
theorem dX3_remove_63 : decode cX3_remove 63 = .ok (.isub, 1) := by decide +kernel
theorem dX3_remove_64 : decode cX3_remove 64 = .ok (.putfield 19, 3) := by decide +kernel
theorem dX3_remove_67 : decode cX3_remove 67 = .ok (.return_, 1) := by decide +kernel
theorem kX3_remove_1 : Cond.fieldLink RX3 19 "BookedDetours$Row" "length" "I" ∈ wsX3_remove := List.mem_of_getElem? (i := 1) (by decide +kernel)
theorem kX3_remove_2 : Cond.fieldLink RX3 13 "BookedDetours$Row" "cells" "[I" ∈ wsX3_remove := List.mem_of_getElem? (i := 2) (by decide +kernel)
theorem hX3_remove_X3 : ∀ w ∈ u_ws RX3 TX3 2, w ∈ wsX3_remove := fun _ h => List.mem_cons_of_mem _ (List.mem_append_right _ h)
set_option maxHeartbeats 4000000 in
set_option maxRecDepth 100000 in
theorem w_X3_remove_29 {Z : yZ} (g : yG) (r a N : Nat) (p : Int32) (C : yC Z g cX3_remove 3 wsX3_remove RX3) {post : List va_W → Prop} (HR : yRv Z ({ frames := 0, cells := 0, slots := 0, locals := 0 } : Room) cX3_remove post 0 0) {X29 : Int32 → (Nat → Int32) → Int32 → Prop} (hX29 : ∀ (n : Int32) (f : Nat → Int32) (x2 : Int32), X29 n f x2 → yJ Z ({ frames := 0, cells := 0, slots := 0, locals := 0 } : Room) 0 0 ([[(r, .inr (3, [.ref a, .int n]))], [(a, .inl (g.2.2.1, N, .inl f))]] : List va_W) 29 [(0, .ref r), (2, .int x2)] []) {K : Int32 → (Nat → Int32) → Prop} (hK : ∀ (n : Int32) (f : Nat → Int32), K n f → post ([[(r, .inr (3, [.ref a, .int n]))], [(a, .inl (g.2.2.1, N, .inl f))]] : List va_W)) (n : Int32) (f : Nat → Int32) (x2 : Int32) (h : wp_X3_remove_29 N p X29 K n f x2) : yJ Z ({ frames := 0, cells := 0, slots := 0, locals := 0 } : Room) 0 0 ([[(r, .inr (3, [.ref a, .int n]))], [(a, .inl (g.2.2.1, N, .inl f))]] : List va_W) 29 [(0, .ref r), (2, .int x2)] [] := by
  unfold wp_X3_remove_29 at h
  refine y_iload_n C dX3_remove_29 1 rfl rfl ?_
  refine y_aload_n C dX3_remove_30 0 rfl rfl ?_
  refine y_get (Cn := RX3) (T := TX3) (N := 2) (v := .int n) C dX3_remove_31 hX3_remove_X3 0 (sh_0 g r a N n f) rfl 1 (Nat.le_of_ble_eq_true rfl) kX3_remove_1 rfl ?_
  refine y_icmp_ge (tgt := 57) C dX3_remove_34 rfl h (fun c34 h => ?_) (fun c34 h => ?_)
  · refine y_aload_n C dX3_remove_57 0 rfl rfl ?_
    refine y_dup C dX3_remove_58 rfl ?_
    refine y_get (Cn := RX3) (T := TX3) (N := 2) (v := .int n) C dX3_remove_59 hX3_remove_X3 0 (sh_0 g r a N n f) rfl 1 (Nat.le_of_ble_eq_true rfl) kX3_remove_1 rfl ?_
    refine y_iconst (v := 1) C dX3_remove_62 (by decide) ?_
    refine y_isub C dX3_remove_63 ?_
    refine y_put (Cn := RX3) (T := TX3) (N := 2) (v := .int (n - (1 : Int32))) (ty0 := tyX3) (L1 := ([[(r, .inr (3, [.ref a, .int (n - (1 : Int32))]))], [(a, .inl (g.2.2.1, N, .inl f))]] : List va_W)) C dX3_remove_64 hX3_remove_X3 0 (sh_0 g r a N n f) rfl 1 (Nat.le_of_ble_eq_true rfl) kX3_remove_1 tyX3_ok nmX3 rfl rfl rfl (Nat.le_of_ble_eq_true rfl) rfl ?_
    exact HR 67 dX3_remove_67 _ _ _ _ (Nat.le_of_ble_eq_true rfl) (Nat.le_of_ble_eq_true rfl) (hK _ _  h)
  · refine y_aload_n C dX3_remove_37 0 rfl rfl ?_
    refine y_get (Cn := RX3) (T := TX3) (N := 2) (v := .ref a) C dX3_remove_38 hX3_remove_X3 0 (sh_0 g r a N n f) rfl 0 (Nat.le_of_ble_eq_true rfl) kX3_remove_2 rfl ?_
    refine y_iload_n C dX3_remove_41 1 rfl rfl ?_
    refine y_iconst (v := 1) C dX3_remove_42 (by decide) ?_
    refine y_isub C dX3_remove_43 ?_
    refine y_aload_n C dX3_remove_44 0 rfl rfl ?_
    refine y_get (Cn := RX3) (T := TX3) (N := 2) (v := .ref a) C dX3_remove_45 hX3_remove_X3 0 (sh_0 g r a N n f) rfl 0 (Nat.le_of_ble_eq_true rfl) kX3_remove_2 rfl ?_
    refine y_iload_n C dX3_remove_48 1 rfl rfl ?_
    obtain ⟨hb1, h⟩ := h
    refine y_iald (N := N) (f := f) C dX3_remove_49 1 rfl hb1 ?_
    obtain ⟨hb2, h⟩ := h
    refine y_iast (N := N) (f := f) (L1 := ([[(r, .inr (3, [.ref a, .int n]))], [(a, .inl (g.2.2.1, N, .inl (upd f (x2 - (1 : Int32)).toNatClampNeg (f x2.toNatClampNeg))))]] : List va_W)) C dX3_remove_50 1 rfl hb2 rfl ?_
    refine y_iinc (v := (x2 + (1 : Int32))) (lv' := [(2, .int (x2 + (1 : Int32))), (0, .ref r)]) C dX3_remove_51 1 rfl rfl (Nat.le_of_ble_eq_true rfl) rfl ?_
    refine y_goto (tgt := 29) C dX3_remove_54 rfl ?_
    refine y_sub (lv' := [(0, .ref r), (2, .int (x2 + (1 : Int32)))]) [1, 0] rfl ?_
    exact hX29 _ _ _ h
set_option maxHeartbeats 4000000 in
set_option maxRecDepth 100000 in
theorem l_X3_remove {Z : yZ} (g : yG) (r a N : Nat) (p : Int32) (C : yC Z g cX3_remove 3 wsX3_remove RX3) {post : List va_W → Prop} (HR : yRv Z ({ frames := 0, cells := 0, slots := 0, locals := 0 } : Room) cX3_remove post 0 0) {K : Int32 → (Nat → Int32) → Prop} (hK : ∀ (n : Int32) (f : Nat → Int32), K n f → post ([[(r, .inr (3, [.ref a, .int n]))], [(a, .inl (g.2.2.1, N, .inl f))]] : List va_W)) {I29 : Nat → Int32 → (Nat → Int32) → Int32 → Prop} (o29 : ∀ (w0 : Nat) (n : Int32) (f : Nat → Int32) (x2 : Int32), I29 w0 n f x2 → wp_X3_remove_29 N p (fun (n9 : Int32) (f9 : Nat → Int32) (x29 : Int32) => ∃ w9, w9 < w0 ∧ I29 w9 n9 f9 x29) K n f x2) : ∀ w0 : Nat, (∀ (n : Int32) (f : Nat → Int32) (x2 : Int32), I29 w0 n f x2 → yJ Z ({ frames := 0, cells := 0, slots := 0, locals := 0 } : Room) 0 0 ([[(r, .inr (3, [.ref a, .int n]))], [(a, .inl (g.2.2.1, N, .inl f))]] : List va_W) 29 [(0, .ref r), (2, .int x2)] []) := by
  intro w0
  induction w0 using Nat.strongRecOn with
  | _ w0 ih =>
    exact fun n f x2 hi => w_X3_remove_29 g r a N p C HR (fun n f x2 hq => by obtain ⟨w9, hlt, hi⟩ := hq; exact (ih w9 hlt) n f x2 hi) hK n f x2 (o29 w0 n f x2 hi)
set_option maxHeartbeats 4000000 in
set_option maxRecDepth 100000 in
theorem t_X3_remove (g : yG) (r a N : Nat) (n : Int32) (f : Nat → Int32) (p : Int32) {post : List va_W → Prop} {K : Int32 → (Nat → Int32) → Prop} (hK : ∀ (n : Int32) (f : Nat → Int32), K n f → post ([[(r, .inr (3, [.ref a, .int n]))], [(a, .inl (g.2.2.1, N, .inl f))]] : List va_W)) (hPO : PO_X3_remove N p K n f ) : yMv g yX3_remove wsX3_remove ({ frames := 0, cells := 0, slots := 0, locals := 0 } : Room) [.ref r, .int p] ([[(r, .inr (3, [.ref a, .int n]))], [(a, .inl (g.2.2.1, N, .inl f))]] : List va_W) post 0 0 := by
  refine y_entryV (cc := cX3_remove) (maxL := 3) (by decide +kernel) rfl (Nat.le_of_ble_eq_true rfl) (fun Z C _ HR => ?_)
  have C : yC Z g cX3_remove 3 wsX3_remove RX3 := C
  obtain ⟨I29, o29, h⟩ := hPO
  have hX29 : ∀ (n : Int32) (f : Nat → Int32) (x2 : Int32), (fun (n9 : Int32) (f9 : Nat → Int32) (x29 : Int32) => ∃ w9, I29 w9 n9 f9 x29) n f x2 → yJ Z ({ frames := 0, cells := 0, slots := 0, locals := 0 } : Room) 0 0 ([[(r, .inr (3, [.ref a, .int n]))], [(a, .inl (g.2.2.1, N, .inl f))]] : List va_W) 29 [(0, .ref r), (2, .int x2)] [] := by
    intro n f x2 hq
    obtain ⟨w9, hi⟩ := hq
    exact (l_X3_remove g r a N p C HR hK o29 w9) n f x2 hi
  unfold wp_X3_remove_0 at h
  show yJ Z _ 0 0 _ 0 [(0, .ref r), (1, .int p)] []
  refine y_iload_n C dX3_remove_0 1 rfl rfl ?_
  refine y_if_lt (tgt := 24) C dX3_remove_1 rfl h (fun c1 h => ?_) (fun c1 h => ?_)
  · exact HR 24 dX3_remove_24 _ _ _ _ (Nat.le_of_ble_eq_true rfl) (Nat.le_of_ble_eq_true rfl) (hK _ _  h)
  · refine y_iload_n C dX3_remove_4 1 rfl rfl ?_
    refine y_aload_n C dX3_remove_5 0 rfl rfl ?_
    refine y_get (Cn := RX3) (T := TX3) (N := 2) (v := .int n) C dX3_remove_6 hX3_remove_X3 0 (sh_0 g r a N n f) rfl 1 (Nat.le_of_ble_eq_true rfl) kX3_remove_1 rfl ?_
    refine y_icmp_ge (tgt := 24) C dX3_remove_9 rfl h (fun c9 h => ?_) (fun c9 h => ?_)
    · exact HR 24 dX3_remove_24 _ _ _ _ (Nat.le_of_ble_eq_true rfl) (Nat.le_of_ble_eq_true rfl) (hK _ _  h)
    · refine y_aload_n C dX3_remove_12 0 rfl rfl ?_
      refine y_get (Cn := RX3) (T := TX3) (N := 2) (v := .int n) C dX3_remove_13 hX3_remove_X3 0 (sh_0 g r a N n f) rfl 1 (Nat.le_of_ble_eq_true rfl) kX3_remove_1 rfl ?_
      refine y_aload_n C dX3_remove_16 0 rfl rfl ?_
      refine y_get (Cn := RX3) (T := TX3) (N := 2) (v := .ref a) C dX3_remove_17 hX3_remove_X3 0 (sh_0 g r a N n f) rfl 0 (Nat.le_of_ble_eq_true rfl) kX3_remove_2 rfl ?_
      refine y_alen (N := N) (v := nI N) C dX3_remove_20 1 rfl rfl ?_
      refine y_icmp_le (tgt := 25) C dX3_remove_21 rfl h (fun c21 h => ?_) (fun c21 h => ?_)
      · refine y_iload_n C dX3_remove_25 1 rfl rfl ?_
        refine y_iconst (v := 1) C dX3_remove_26 (by decide) ?_
        refine y_iadd C dX3_remove_27 ?_
        refine y_istore_n (lv' := [(2, .int (p + (1 : Int32))), (0, .ref r), (1, .int p)]) C dX3_remove_28 rfl (Nat.le_of_ble_eq_true rfl) rfl ?_
        refine y_sub (lv' := [(0, .ref r), (2, .int (p + (1 : Int32)))]) [1, 0] rfl ?_
        exact hX29 _ _ _ h
      · exact HR 24 dX3_remove_24 _ _ _ _ (Nat.le_of_ble_eq_true rfl) (Nat.le_of_ble_eq_true rfl) (hK _ _  h)
theorem dX3_clear_0 : decode cX3_clear 0 = .ok (.aload_n 0, 1) := by decide +kernel
theorem dX3_clear_1 : decode cX3_clear 1 = .ok (.iconst 0, 1) := by decide +kernel
theorem dX3_clear_2 : decode cX3_clear 2 = .ok (.putfield 19, 3) := by decide +kernel
theorem dX3_clear_5 : decode cX3_clear 5 = .ok (.return_, 1) := by decide +kernel
theorem kX3_clear_1 : Cond.fieldLink RX3 19 "BookedDetours$Row" "length" "I" ∈ wsX3_clear := List.mem_of_getElem? (i := 1) (by decide +kernel)
theorem hX3_clear_X3 : ∀ w ∈ u_ws RX3 TX3 2, w ∈ wsX3_clear := fun _ h => List.mem_cons_of_mem _ (List.mem_append_right _ h)
set_option maxHeartbeats 4000000 in
set_option maxRecDepth 100000 in
theorem t_X3_clear (g : yG) (r a N : Nat) (n : Int32) (f : Nat → Int32)  {post : List va_W → Prop} {K : Int32 → (Nat → Int32) → Prop} (hK : ∀ (n : Int32) (f : Nat → Int32), K n f → post ([[(r, .inr (3, [.ref a, .int n]))], [(a, .inl (g.2.2.1, N, .inl f))]] : List va_W)) (hPO : PO_X3_clear N K n f ) : yMv g yX3_clear wsX3_clear ({ frames := 0, cells := 0, slots := 0, locals := 0 } : Room) [.ref r] ([[(r, .inr (3, [.ref a, .int n]))], [(a, .inl (g.2.2.1, N, .inl f))]] : List va_W) post 0 0 := by
  refine y_entryV (cc := cX3_clear) (maxL := 1) (by decide +kernel) rfl (Nat.le_of_ble_eq_true rfl) (fun Z C _ HR => ?_)
  have C : yC Z g cX3_clear 1 wsX3_clear RX3 := C
  have h := hPO
  unfold PO_X3_clear wp_X3_clear_0 at h
  show yJ Z _ 0 0 _ 0 [(0, .ref r)] []
  refine y_aload_n C dX3_clear_0 0 rfl rfl ?_
  refine y_iconst (v := 0) C dX3_clear_1 (by decide) ?_
  refine y_put (Cn := RX3) (T := TX3) (N := 2) (v := .int (0 : Int32)) (ty0 := tyX3) (L1 := ([[(r, .inr (3, [.ref a, .int (0 : Int32)]))], [(a, .inl (g.2.2.1, N, .inl f))]] : List va_W)) C dX3_clear_2 hX3_clear_X3 0 (sh_0 g r a N n f) rfl 1 (Nat.le_of_ble_eq_true rfl) kX3_clear_1 tyX3_ok nmX3 rfl rfl rfl (Nat.le_of_ble_eq_true rfl) rfl ?_
  exact HR 5 dX3_clear_5 _ _ _ _ (Nat.le_of_ble_eq_true rfl) (Nat.le_of_ble_eq_true rfl) (hK _ _  h)
theorem dX3_copy_0 : decode cX3_copy 0 = .ok (.aload_n 0, 1) := by decide +kernel
theorem dX3_copy_1 : decode cX3_copy 1 = .ok (.aload_n 1, 1) := by decide +kernel
theorem dX3_copy_2 : decode cX3_copy 2 = .ok (.getfield 19, 3) := by decide +kernel
theorem dX3_copy_5 : decode cX3_copy 5 = .ok (.aload_n 1, 1) := by decide +kernel
theorem dX3_copy_6 : decode cX3_copy 6 = .ok (.getfield 13, 3) := by decide +kernel
theorem dX3_copy_9 : decode cX3_copy 9 = .ok (.arraylength, 1) := by decide +kernel
theorem dX3_copy_10 : decode cX3_copy 10 = .ok (.aload_n 0, 1) := by decide +kernel
theorem dX3_copy_11 : decode cX3_copy 11 = .ok (.getfield 13, 3) := by decide +kernel
theorem dX3_copy_14 : decode cX3_copy 14 = .ok (.arraylength, 1) := by decide +kernel
theorem dX3_copy_15 : decode cX3_copy 15 = .ok (.invokestatic 27, 3) := by decide +kernel
theorem dX3_copy_18 : decode cX3_copy 18 = .ok (.invokestatic 27, 3) := by decide +kernel
theorem dX3_copy_21 : decode cX3_copy 21 = .ok (.putfield 19, 3) := by decide +kernel
theorem dX3_copy_24 : decode cX3_copy 24 = .ok (.iconst 0, 1) := by decide +kernel
theorem dX3_copy_25 : decode cX3_copy 25 = .ok (.istore_n 2, 1) := by decide +kernel
theorem dX3_copy_26 : decode cX3_copy 26 = .ok (.iload_n 2, 1) := by decide +kernel
theorem dX3_copy_27 : decode cX3_copy 27 = .ok (.aload_n 0, 1) := by decide +kernel
theorem dX3_copy_28 : decode cX3_copy 28 = .ok (.getfield 19, 3) := by decide +kernel
theorem dX3_copy_31 : decode cX3_copy 31 = .ok (.if_icmp .ge 21, 3) := by decide +kernel
theorem dX3_copy_34 : decode cX3_copy 34 = .ok (.aload_n 0, 1) := by decide +kernel
theorem dX3_copy_35 : decode cX3_copy 35 = .ok (.getfield 13, 3) := by decide +kernel
theorem dX3_copy_38 : decode cX3_copy 38 = .ok (.iload_n 2, 1) := by decide +kernel
theorem dX3_copy_39 : decode cX3_copy 39 = .ok (.aload_n 1, 1) := by decide +kernel
theorem dX3_copy_40 : decode cX3_copy 40 = .ok (.getfield 13, 3) := by decide +kernel
theorem dX3_copy_43 : decode cX3_copy 43 = .ok (.iload_n 2, 1) := by decide +kernel
theorem dX3_copy_44 : decode cX3_copy 44 = .ok (.iaload, 1) := by decide +kernel
theorem dX3_copy_45 : decode cX3_copy 45 = .ok (.iastore, 1) := by decide +kernel
theorem dX3_copy_46 : decode cX3_copy 46 = .ok (.iinc 2 1, 3) := by decide +kernel
theorem dX3_copy_49 : decode cX3_copy 49 = .ok (.goto (-23), 3) := by decide +kernel
theorem dX3_copy_52 : decode cX3_copy 52 = .ok (.return_, 1) := by decide +kernel
theorem kX3_copy_1 : Cond.fieldLink RX3 19 "BookedDetours$Row" "length" "I" ∈ wsX3_copy := List.mem_of_getElem? (i := 1) (by decide +kernel)
theorem kX3_copy_2 : Cond.fieldLink RX3 13 "BookedDetours$Row" "cells" "[I" ∈ wsX3_copy := List.mem_of_getElem? (i := 2) (by decide +kernel)
theorem kX3_copy_3 : Cond.methodLink RX3 27 Lib.Math.min.name ∈ wsX3_copy := List.mem_of_getElem? (i := 3) (by decide +kernel)
theorem kX3_copy_4 : Cond.static Lib.Math.min.name ∈ wsX3_copy := List.mem_of_getElem? (i := 4) (by decide +kernel)
theorem kX3_copy_5 : Cond.initialized "java/lang/Math" ∈ wsX3_copy := List.mem_of_getElem? (i := 5) (by decide +kernel)
theorem kX3_copy_6 : Cond.code Lib.Math.min.name Lib.Math.min.code 2 (some .int) ∈ wsX3_copy := List.mem_of_getElem? (i := 6) (by decide +kernel)
theorem hX3_copy_X3 : ∀ w ∈ u_ws RX3 TX3 2, w ∈ wsX3_copy := fun _ h => List.mem_cons_of_mem _ (List.mem_append_right _ h)
set_option maxHeartbeats 4000000 in
set_option maxRecDepth 100000 in
theorem w_X3_copy_26 {Z : yZ} (g : yG) (r a N : Nat) (q b M : Nat) (m : Int32) (u : Nat → Int32) (C : yC Z g cX3_copy 3 wsX3_copy RX3) {post : List va_W → Prop} (HR : yRv Z ({ frames := 1, cells := 0, slots := 0, locals := 21 } : Room) cX3_copy post 0 0) {X26 : Int32 → (Nat → Int32) → Int32 → Prop} (hX26 : ∀ (n : Int32) (f : Nat → Int32) (x2 : Int32), X26 n f x2 → yJ Z ({ frames := 1, cells := 0, slots := 0, locals := 21 } : Room) 0 0 ([[(r, .inr (3, [.ref a, .int n]))], [(a, .inl (g.2.2.1, N, .inl f))], [(q, .inr (3, [.ref b, .int m]))], [(b, .inl (g.2.2.1, M, .inl u))]] : List va_W) 26 [(0, .ref r), (1, .ref q), (2, .int x2)] []) {K : Int32 → (Nat → Int32) → Prop} (hK : ∀ (n : Int32) (f : Nat → Int32), K n f → post ([[(r, .inr (3, [.ref a, .int n]))], [(a, .inl (g.2.2.1, N, .inl f))], [(q, .inr (3, [.ref b, .int m]))], [(b, .inl (g.2.2.1, M, .inl u))]] : List va_W)) (n : Int32) (f : Nat → Int32) (x2 : Int32) (h : wp_X3_copy_26 N M m u X26 K n f x2) : yJ Z ({ frames := 1, cells := 0, slots := 0, locals := 21 } : Room) 0 0 ([[(r, .inr (3, [.ref a, .int n]))], [(a, .inl (g.2.2.1, N, .inl f))], [(q, .inr (3, [.ref b, .int m]))], [(b, .inl (g.2.2.1, M, .inl u))]] : List va_W) 26 [(0, .ref r), (1, .ref q), (2, .int x2)] [] := by
  unfold wp_X3_copy_26 at h
  refine y_iload_n C dX3_copy_26 2 rfl rfl ?_
  refine y_aload_n C dX3_copy_27 0 rfl rfl ?_
  refine y_get (Cn := RX3) (T := TX3) (N := 2) (v := .int n) C dX3_copy_28 hX3_copy_X3 0 (sh_1 g r a N n f q b M m u) rfl 1 (Nat.le_of_ble_eq_true rfl) kX3_copy_1 rfl ?_
  refine y_icmp_ge (tgt := 52) C dX3_copy_31 rfl h (fun c31 h => ?_) (fun c31 h => ?_)
  · exact HR 52 dX3_copy_52 _ _ _ _ (Nat.le_of_ble_eq_true rfl) (Nat.le_of_ble_eq_true rfl) (hK _ _  h)
  · refine y_aload_n C dX3_copy_34 0 rfl rfl ?_
    refine y_get (Cn := RX3) (T := TX3) (N := 2) (v := .ref a) C dX3_copy_35 hX3_copy_X3 0 (sh_1 g r a N n f q b M m u) rfl 0 (Nat.le_of_ble_eq_true rfl) kX3_copy_2 rfl ?_
    refine y_iload_n C dX3_copy_38 2 rfl rfl ?_
    refine y_aload_n C dX3_copy_39 1 rfl rfl ?_
    refine y_get (Cn := RX3) (T := TX3) (N := 2) (v := .ref b) C dX3_copy_40 hX3_copy_X3 2 (sh_2 g r a N n f q b M m u) rfl 0 (Nat.le_of_ble_eq_true rfl) kX3_copy_2 rfl ?_
    refine y_iload_n C dX3_copy_43 2 rfl rfl ?_
    obtain ⟨hb1, h⟩ := h
    refine y_iald (N := M) (f := u) C dX3_copy_44 3 rfl hb1 ?_
    obtain ⟨hb2, h⟩ := h
    refine y_iast (N := N) (f := f) (L1 := ([[(r, .inr (3, [.ref a, .int n]))], [(a, .inl (g.2.2.1, N, .inl (upd f x2.toNatClampNeg (u x2.toNatClampNeg))))], [(q, .inr (3, [.ref b, .int m]))], [(b, .inl (g.2.2.1, M, .inl u))]] : List va_W)) C dX3_copy_45 1 rfl hb2 rfl ?_
    refine y_iinc (v := (x2 + (1 : Int32))) (lv' := [(2, .int (x2 + (1 : Int32))), (0, .ref r), (1, .ref q)]) C dX3_copy_46 2 rfl rfl (Nat.le_of_ble_eq_true rfl) rfl ?_
    refine y_goto (tgt := 26) C dX3_copy_49 rfl ?_
    refine y_sub (lv' := [(0, .ref r), (1, .ref q), (2, .int (x2 + (1 : Int32)))]) [1, 2, 0] rfl ?_
    exact hX26 _ _ _ h
set_option maxHeartbeats 4000000 in
set_option maxRecDepth 100000 in
theorem l_X3_copy {Z : yZ} (g : yG) (r a N : Nat) (q b M : Nat) (m : Int32) (u : Nat → Int32) (C : yC Z g cX3_copy 3 wsX3_copy RX3) {post : List va_W → Prop} (HR : yRv Z ({ frames := 1, cells := 0, slots := 0, locals := 21 } : Room) cX3_copy post 0 0) {K : Int32 → (Nat → Int32) → Prop} (hK : ∀ (n : Int32) (f : Nat → Int32), K n f → post ([[(r, .inr (3, [.ref a, .int n]))], [(a, .inl (g.2.2.1, N, .inl f))], [(q, .inr (3, [.ref b, .int m]))], [(b, .inl (g.2.2.1, M, .inl u))]] : List va_W)) {I26 : Nat → Int32 → (Nat → Int32) → Int32 → Prop} (o26 : ∀ (w0 : Nat) (n : Int32) (f : Nat → Int32) (x2 : Int32), I26 w0 n f x2 → wp_X3_copy_26 N M m u (fun (n9 : Int32) (f9 : Nat → Int32) (x29 : Int32) => ∃ w9, w9 < w0 ∧ I26 w9 n9 f9 x29) K n f x2) : ∀ w0 : Nat, (∀ (n : Int32) (f : Nat → Int32) (x2 : Int32), I26 w0 n f x2 → yJ Z ({ frames := 1, cells := 0, slots := 0, locals := 21 } : Room) 0 0 ([[(r, .inr (3, [.ref a, .int n]))], [(a, .inl (g.2.2.1, N, .inl f))], [(q, .inr (3, [.ref b, .int m]))], [(b, .inl (g.2.2.1, M, .inl u))]] : List va_W) 26 [(0, .ref r), (1, .ref q), (2, .int x2)] []) := by
  intro w0
  induction w0 using Nat.strongRecOn with
  | _ w0 ih =>
    exact fun n f x2 hi => w_X3_copy_26 g r a N q b M m u C HR (fun n f x2 hq => by obtain ⟨w9, hlt, hi⟩ := hq; exact (ih w9 hlt) n f x2 hi) hK n f x2 (o26 w0 n f x2 hi)
set_option maxHeartbeats 4000000 in
set_option maxRecDepth 100000 in
theorem t_X3_copy (g : yG) (r a N : Nat) (n : Int32) (f : Nat → Int32) (q b M : Nat) (m : Int32) (u : Nat → Int32)  {post : List va_W → Prop} {K : Int32 → (Nat → Int32) → Prop} (hK : ∀ (n : Int32) (f : Nat → Int32), K n f → post ([[(r, .inr (3, [.ref a, .int n]))], [(a, .inl (g.2.2.1, N, .inl f))], [(q, .inr (3, [.ref b, .int m]))], [(b, .inl (g.2.2.1, M, .inl u))]] : List va_W)) (hPO : PO_X3_copy N M m u K n f ) : yMv g yX3_copy wsX3_copy ({ frames := 1, cells := 0, slots := 0, locals := 21 } : Room) [.ref r, .ref q] ([[(r, .inr (3, [.ref a, .int n]))], [(a, .inl (g.2.2.1, N, .inl f))], [(q, .inr (3, [.ref b, .int m]))], [(b, .inl (g.2.2.1, M, .inl u))]] : List va_W) post 0 0 := by
  refine y_entryV (cc := cX3_copy) (maxL := 3) (by decide +kernel) rfl (Nat.le_of_ble_eq_true rfl) (fun Z C _ HR => ?_)
  have C : yC Z g cX3_copy 3 wsX3_copy RX3 := C
  obtain ⟨I26, o26, h⟩ := hPO
  have hX26 : ∀ (n : Int32) (f : Nat → Int32) (x2 : Int32), (fun (n9 : Int32) (f9 : Nat → Int32) (x29 : Int32) => ∃ w9, I26 w9 n9 f9 x29) n f x2 → yJ Z ({ frames := 1, cells := 0, slots := 0, locals := 21 } : Room) 0 0 ([[(r, .inr (3, [.ref a, .int n]))], [(a, .inl (g.2.2.1, N, .inl f))], [(q, .inr (3, [.ref b, .int m]))], [(b, .inl (g.2.2.1, M, .inl u))]] : List va_W) 26 [(0, .ref r), (1, .ref q), (2, .int x2)] [] := by
    intro n f x2 hq
    obtain ⟨w9, hi⟩ := hq
    exact (l_X3_copy g r a N q b M m u C HR hK o26 w9) n f x2 hi
  unfold wp_X3_copy_0 at h
  show yJ Z _ 0 0 _ 0 [(0, .ref r), (1, .ref q)] []
  refine y_aload_n C dX3_copy_0 0 rfl rfl ?_
  refine y_aload_n C dX3_copy_1 1 rfl rfl ?_
  refine y_get (Cn := RX3) (T := TX3) (N := 2) (v := .int m) C dX3_copy_2 hX3_copy_X3 2 (sh_2 g r a N n f q b M m u) rfl 1 (Nat.le_of_ble_eq_true rfl) kX3_copy_1 rfl ?_
  refine y_aload_n C dX3_copy_5 1 rfl rfl ?_
  refine y_get (Cn := RX3) (T := TX3) (N := 2) (v := .ref b) C dX3_copy_6 hX3_copy_X3 2 (sh_2 g r a N n f q b M m u) rfl 0 (Nat.le_of_ble_eq_true rfl) kX3_copy_2 rfl ?_
  refine y_alen (N := M) (v := nI M) C dX3_copy_9 3 rfl rfl ?_
  refine y_aload_n C dX3_copy_10 0 rfl rfl ?_
  refine y_get (Cn := RX3) (T := TX3) (N := 2) (v := .ref a) C dX3_copy_11 hX3_copy_X3 0 (sh_1 g r a N n f q b M m u) rfl 0 (Nat.le_of_ble_eq_true rfl) kX3_copy_2 rfl ?_
  refine y_alen (N := N) (v := nI N) C dX3_copy_14 1 rfl rfl ?_
  refine y_mmin C dX3_copy_15 kX3_copy_3 kX3_copy_4 kX3_copy_5 kX3_copy_6 (Nat.le_of_ble_eq_true rfl) (Nat.le_of_ble_eq_true rfl) (Nat.le_of_ble_eq_true rfl) (Nat.le_of_ble_eq_true rfl) ?_
  refine y_topi (fun m1 em1 => ?_)
  have h := y_letP h em1
  refine y_mmin C dX3_copy_18 kX3_copy_3 kX3_copy_4 kX3_copy_5 kX3_copy_6 (Nat.le_of_ble_eq_true rfl) (Nat.le_of_ble_eq_true rfl) (Nat.le_of_ble_eq_true rfl) (Nat.le_of_ble_eq_true rfl) ?_
  refine y_topi (fun m2 em2 => ?_)
  have h := y_letP h em2
  refine y_put (Cn := RX3) (T := TX3) (N := 2) (v := .int m2) (ty0 := tyX3) (L1 := ([[(r, .inr (3, [.ref a, .int m2]))], [(a, .inl (g.2.2.1, N, .inl f))], [(q, .inr (3, [.ref b, .int m]))], [(b, .inl (g.2.2.1, M, .inl u))]] : List va_W)) C dX3_copy_21 hX3_copy_X3 0 (sh_1 g r a N n f q b M m u) rfl 1 (Nat.le_of_ble_eq_true rfl) kX3_copy_1 tyX3_ok nmX3 rfl rfl rfl (Nat.le_of_ble_eq_true rfl) rfl ?_
  refine y_iconst (v := 0) C dX3_copy_24 (by decide) ?_
  refine y_istore_n (lv' := [(2, .int (0 : Int32)), (0, .ref r), (1, .ref q)]) C dX3_copy_25 rfl (Nat.le_of_ble_eq_true rfl) rfl ?_
  refine y_sub (lv' := [(0, .ref r), (1, .ref q), (2, .int (0 : Int32))]) [1, 2, 0] rfl ?_
  exact hX26 _ _ _ h
end
section
/-! ===== the Row's methods, pure ===== -/
theorem rowf_lt {xs : List Int32} {h : Nat → Int32} {q : Nat} (hq : q < xs.length) : rowf xs h q = xs[q] := by
  simp [rowf, List.getD, hq]
theorem rowf_self {ys : List Int32} {f : Nat → Int32} (h : ∀ q (hq : q < ys.length), f q = ys[q]) : rowf ys f = f := by
  funext q
  by_cases hq : q < ys.length
  · rw [rowf_lt hq, h q hq]
  · simp [rowf, List.getD, Nat.not_lt.mp hq]
def rowOk (cap : Nat) (ys : List Int32) (n : Int32) (f : Nat → Int32) : Prop := ys.length ≤ cap ∧ n = nI ys.length ∧ ∀ q (hq : q < ys.length), f q = ys[q]
theorem rAt_nI {xs : List Int32} {j : Nat} (h : j < 2147483648) : rAt xs (nI j) = xs.getD j 0 := by
  unfold rAt
  rw [if_neg (nI_pos h), nI_clamp h]
theorem p_X3_length {cap : Nat} {xs : List Int32} {h : Nat → Int32} : PO_X3_length cap (nI xs.length) (rowf xs h) (fun r => r = rLen xs) := rfl
theorem p_X3_at {cap : Nat} {xs : List Int32} {h : Nat → Int32} {p : Int32} (hl : xs.length ≤ cap) (hc : cap < 2147483648) : PO_X3_at cap (nI xs.length) (rowf xs h) p (fun r => r = rAt xs p) := by
  unfold PO_X3_at wp_X3_at_0
  by_cases h0 : p < 0
  · rw [if_pos h0]; unfold rAt; rw [if_pos h0]
  · rw [if_neg h0]
    obtain ⟨j, hj, rfl⟩ := nI_of h0
    rw [rAt_nI hj]
    have e1 : nI xs.length ≤ nI j ↔ xs.length ≤ j := nI_leI (by omega) hj
    have e2 : nI cap ≤ nI j ↔ cap ≤ j := nI_leI hc hj
    by_cases h1 : xs.length ≤ j
    · rw [if_pos (e1.mpr h1)]; simp [List.getD, h1]
    · rw [if_neg (fun q => h1 (e1.mp q)), if_neg (fun q => absurd (e2.mp q) (by omega))]
      have h1 : j < xs.length := by omega
      refine ⟨vp_in_nI (by omega) hc, ?_⟩
      rw [nI_clamp hj, rowf_lt h1]
      simp [List.getD, h1]
theorem p_X3_change {cap : Nat} {xs : List Int32} {h : Nat → Int32} {p v : Int32} (hl : xs.length ≤ cap) (hc : cap < 2147483648) : PO_X3_change cap p v (rowOk cap (rSet xs p v)) (nI xs.length) (rowf xs h) := by
  unfold PO_X3_change wp_X3_change_0
  have base : rowOk cap xs (nI xs.length) (rowf xs h) := ⟨hl, rfl, fun q hq => rowf_lt hq⟩
  by_cases h0 : p < 0
  · rw [if_pos h0]; unfold rSet; rw [if_pos h0]; exact base
  · rw [if_neg h0]
    obtain ⟨j, hj, rfl⟩ := nI_of h0
    have e1 : nI xs.length ≤ nI j ↔ xs.length ≤ j := nI_leI (by omega) hj
    have e2 : nI cap ≤ nI j ↔ cap ≤ j := nI_leI hc hj
    unfold rSet
    rw [if_neg h0, nI_clamp hj]
    by_cases h1 : xs.length ≤ j
    · rw [if_pos (e1.mpr h1), List.set_eq_of_length_le h1]; exact base
    · rw [if_neg (fun q => h1 (e1.mp q)), if_neg (fun q => absurd (e2.mp q) (by omega))]
      refine ⟨vp_in_nI (by omega) hc, by simpa using hl, by simp, fun q hq => ?_⟩
      have hq' : q < xs.length := by simpa using hq
      by_cases e : q = j
      · subst e; simp [upd]
      · rw [show upd (rowf xs h) j v q = rowf xs h q from if_neg e, rowf_lt hq', List.getElem_set_ne (fun z => e z.symm)]
theorem p_X3_insert {cap : Nat} {xs : List Int32} {h : Nat → Int32} {p v : Int32} (hl : xs.length ≤ cap) (hc : cap < 2147483648) : PO_X3_insert cap p v (rowOk cap (rIns cap xs p v)) (nI xs.length) (rowf xs h) := by
  have base : rowOk cap xs (nI xs.length) (rowf xs h) := ⟨hl, rfl, fun q hq => rowf_lt hq⟩
  refine ⟨fun w n f x => ∃ j, p = nI j ∧ n = nI xs.length ∧ x = nI w ∧ j ≤ w ∧ w ≤ xs.length ∧ xs.length < cap ∧ (∀ q, q ≤ w → f q = rowf xs h q) ∧ (∀ q, w < q → q ≤ xs.length → f q = rowf xs h (q - 1)), ?_, ?_⟩
  · rintro w n f x ⟨j, rfl, rfl, rfl, h1, h2, h3, h4, h5⟩
    have hj : j < 2147483648 := by omega
    have hw : w < 2147483648 := by omega
    unfold wp_X3_insert_37
    by_cases c : w ≤ j
    · rw [if_pos ((nI_leI hw hj).mpr c)]
      have e : w = j := by omega
      subst e
      refine ⟨vp_in_nI (by omega) hc, ?_⟩
      have er : rIns cap xs (nI w) v = xs.take w ++ v :: xs.drop w := by
        unfold rIns
        rw [if_neg, nI_clamp hj]
        rw [nI_clamp hj]
        rintro (q | q | q)
        · exact nI_pos hj q
        · omega
        · omega
      have el : (rIns cap xs (nI w) v).length = xs.length + 1 := by rw [er]; simp; omega
      refine ⟨by rw [el]; omega, by rw [el]; exact nI_1 _, fun q hq => ?_⟩
      rw [nI_clamp hj]
      have hq' : q < xs.length + 1 := by rw [el] at hq; exact hq
      rcases Nat.lt_trichotomy q w with c1 | c1 | c1
      · rw [show upd f w v q = f q from if_neg (by omega), h4 q (by omega), rowf_lt (by omega)]
        simp only [er]
        rw [List.getElem_append_left (by simp; omega), List.getElem_take]
      · subst c1
        rw [show upd f q v q = v from if_pos rfl]
        simp only [er]
        rw [List.getElem_append_right (by simp; omega)]
        simp [Nat.min_eq_left h2]
      · rw [show upd f w v q = f q from if_neg (by omega), h5 q c1 (by omega), rowf_lt (by omega)]
        simp only [er]
        rw [List.getElem_append_right (by simp; omega)]
        simp only [List.length_take, Nat.min_eq_left h2]
        obtain ⟨k, rfl⟩ : ∃ k, q = w + (k + 1) := ⟨q - w - 1, by omega⟩
        simp only [Nat.add_sub_cancel_left, List.getElem_cons_succ, List.getElem_drop]
        congr 1
    · rw [if_neg (fun z => c ((nI_leI hw hj).mp z))]
      have em : nI w - 1 = nI (w - 1) := by
        obtain ⟨k, rfl⟩ : ∃ k, w = k + 1 := ⟨w - 1, by omega⟩
        rw [nI_pred]; rfl
      have em2 : nI w + (-1) = nI (w - 1) := by
        obtain ⟨k, rfl⟩ : ∃ k, w = k + 1 := ⟨w - 1, by omega⟩
        rw [pk_m1]; rfl
      rw [em, em2]
      refine ⟨vp_in_nI (by omega) hc, vp_in_nI (by omega) hc, w - 1, by omega, j, rfl, rfl, rfl, by omega, by omega, h3, ?_, ?_⟩
      · intro q hq
        rw [nI_clamp hw, show upd f w _ q = f q from if_neg (by omega)]
        exact h4 q (by omega)
      · intro q hq1 hq2
        rw [nI_clamp hw, nI_clamp (by omega)]
        by_cases e : q = w
        · subst e
          rw [show upd f q (f (q - 1)) q = f (q - 1) from if_pos rfl]
          exact h4 _ (by omega)
        · rw [show upd f w _ q = f q from if_neg e]
          exact h5 q (by omega) hq2
  · unfold wp_X3_insert_0
    by_cases h0 : p < 0
    · rw [if_pos h0]; unfold rIns; rw [if_pos (Or.inl h0)]; exact base
    · rw [if_neg h0]
      obtain ⟨j, hj, rfl⟩ := nI_of h0
      have e1 : nI xs.length < nI j ↔ xs.length < j := nI_ltI (by omega) hj
      have e2 : nI xs.length < nI cap ↔ xs.length < cap := nI_ltI (by omega) hc
      by_cases h1 : xs.length < j
      · rw [if_pos (e1.mpr h1)]; unfold rIns; rw [if_pos (Or.inr (Or.inl (by rw [nI_clamp hj]; exact h1)))]; exact base
      · rw [if_neg (fun q => h1 (e1.mp q)), if_neg (nI_pos (by omega))]
        by_cases h2 : xs.length < cap
        · rw [if_pos (e2.mpr h2)]
          exact ⟨xs.length, j, rfl, rfl, rfl, by omega, Nat.le_refl _, h2, fun q _ => rfl, fun q c1 c2 => absurd c2 (by omega)⟩
        · rw [if_neg (fun q => h2 (e2.mp q))]; unfold rIns; rw [if_pos (Or.inr (Or.inr (by omega)))]; exact base
theorem p_X3_remove {cap : Nat} {xs : List Int32} {h : Nat → Int32} {p : Int32} (hl : xs.length ≤ cap) (hc : cap < 2147483648) : PO_X3_remove cap p (rowOk cap (rDel xs p)) (nI xs.length) (rowf xs h) := by
  have base : rowOk cap xs (nI xs.length) (rowf xs h) := ⟨hl, rfl, fun q hq => rowf_lt hq⟩
  refine ⟨fun w n f x => ∃ j i, p = nI j ∧ n = nI xs.length ∧ x = nI i ∧ w = xs.length - i ∧ j < i ∧ i ≤ xs.length ∧ (∀ q, q < j → f q = rowf xs h q) ∧ (∀ q, j ≤ q → q + 1 < i → f q = rowf xs h (q + 1)) ∧ (∀ q, i ≤ q + 1 → f q = rowf xs h q), ?_, ?_⟩
  · rintro w n f x ⟨j, i, rfl, rfl, rfl, rfl, h1, h2, h3, h4, h5⟩
    have hj : j < 2147483648 := by omega
    have hi : i < 2147483648 := by omega
    unfold wp_X3_remove_29
    by_cases c : xs.length ≤ i
    · rw [if_pos ((nI_leI (by omega) hi).mpr c)]
      have e : i = xs.length := by omega
      subst e
      have er : rDel xs (nI j) = xs.eraseIdx j := by
        unfold rDel
        rw [if_neg (nI_pos hj), nI_clamp hj]
      have el : (rDel xs (nI j)).length = xs.length - 1 := by rw [er]; exact List.length_eraseIdx_of_lt (by omega)
      refine ⟨by rw [el]; omega, ?_, fun q hq => ?_⟩
      · rw [el]
        obtain ⟨k, hk⟩ : ∃ k, xs.length = k + 1 := ⟨xs.length - 1, by omega⟩
        rw [hk, nI_pred]; rfl
      · have hq' : q < xs.length - 1 := by rw [el] at hq; exact hq
        simp only [er, List.getElem_eraseIdx]
        by_cases c1 : q < j
        · rw [dif_pos c1, h3 q c1, rowf_lt (by omega)]
        · rw [dif_neg c1, h4 q (by omega) (by omega), rowf_lt (by omega)]
    · rw [if_neg (fun z => c ((nI_leI (by omega) hi).mp z))]
      have em : nI i - 1 = nI (i - 1) := by
        obtain ⟨k, rfl⟩ : ∃ k, i = k + 1 := ⟨i - 1, by omega⟩
        rw [nI_pred]; rfl
      rw [em, nI_1]
      refine ⟨vp_in_nI (by omega) hc, vp_in_nI (by omega) hc, xs.length - (i + 1), by omega, j, i + 1, rfl, rfl, rfl, rfl, by omega, by omega, ?_, ?_, ?_⟩
      · intro q hq
        rw [nI_clamp (by omega), show upd f (i - 1) _ q = f q from if_neg (by omega)]
        exact h3 q hq
      · intro q hq1 hq2
        rw [nI_clamp (by omega), nI_clamp hi]
        by_cases e : q = i - 1
        · subst e
          rw [show upd f (i - 1) (f i) (i - 1) = f i from if_pos rfl, h5 i (by omega)]
          congr 1; omega
        · rw [show upd f (i - 1) _ q = f q from if_neg e]
          exact h4 q hq1 (by omega)
      · intro q hq
        rw [nI_clamp (by omega), show upd f (i - 1) _ q = f q from if_neg (by omega)]
        exact h5 q (by omega)
  · unfold wp_X3_remove_0
    by_cases h0 : p < 0
    · rw [if_pos h0]; unfold rDel; rw [if_pos h0]; exact base
    · rw [if_neg h0]
      obtain ⟨j, hj, rfl⟩ := nI_of h0
      have e1 : nI xs.length ≤ nI j ↔ xs.length ≤ j := nI_leI (by omega) hj
      have e2 : nI xs.length ≤ nI cap ↔ xs.length ≤ cap := nI_leI (by omega) hc
      by_cases h1 : xs.length ≤ j
      · rw [if_pos (e1.mpr h1)]; unfold rDel; rw [if_neg h0, nI_clamp hj, List.eraseIdx_of_length_le h1]; exact base
      · rw [if_neg (fun q => h1 (e1.mp q)), if_pos (e2.mpr hl), nI_1]
        exact ⟨xs.length - (j + 1), j, j + 1, rfl, rfl, rfl, rfl, by omega, by omega, fun q _ => rfl, fun q c1 c2 => absurd c2 (by omega), fun q _ => rfl⟩
theorem p_X3_clear {cap : Nat} {xs : List Int32} {h : Nat → Int32} : PO_X3_clear cap (rowOk cap []) (nI xs.length) (rowf xs h) := ⟨Nat.zero_le _, rfl, fun q hq => absurd hq (Nat.not_lt_zero _)⟩
theorem p_X3_copy {cap cap' : Nat} {xs ys : List Int32} {h h' : Nat → Int32} (hc : cap < 2147483648) (hy : ys.length ≤ cap') (hc' : cap' < 2147483648) : PO_X3_copy cap cap' (nI ys.length) (rowf ys h') (rowOk cap (rCopy cap ys)) (nI xs.length) (rowf xs h) := by
  have el : (rCopy cap ys).length = min cap ys.length := by simp [rCopy]
  refine ⟨fun w n f x => ∃ i, n = nI (rCopy cap ys).length ∧ x = nI i ∧ w = (rCopy cap ys).length - i ∧ i ≤ (rCopy cap ys).length ∧ ∀ q (hq : q < i), f q = rowf ys h' q, ?_, ?_⟩
  · rintro w n f x ⟨i, rfl, rfl, rfl, h1, h2⟩
    unfold wp_X3_copy_26
    have hi : i < 2147483648 := by omega
    by_cases c : (rCopy cap ys).length ≤ i
    · rw [if_pos ((nI_leI (by omega) hi).mpr c)]
      have e : i = (rCopy cap ys).length := by omega
      refine ⟨by omega, rfl, fun q hq => ?_⟩
      rw [h2 q (by omega), rowf_lt (by omega)]
      simp [rCopy]
    · rw [if_neg (fun z => c ((nI_leI (by omega) hi).mp z)), nI_clamp hi, nI_1]
      refine ⟨vp_in_nI (by omega) hc', vp_in_nI (by omega) hc, _, ?_, i + 1, rfl, rfl, rfl, by omega, fun q hq => ?_⟩
      · omega
      · by_cases e : q = i
        · subst e; exact if_pos rfl
        · rw [show upd f i _ q = f q from if_neg e]; exact h2 q (by omega)
  · unfold wp_X3_copy_0
    refine ⟨_, 0, ?_, rfl, rfl, Nat.zero_le _, fun q hq => absurd hq (Nat.not_lt_zero _)⟩
    rw [el]
    by_cases c : cap < cap'
    · rw [if_pos ((nI_ltI hc hc').mpr c)]
      by_cases c2 : cap < ys.length
      · rw [if_pos ((nI_ltI hc (by omega)).mpr c2), Nat.min_eq_left (by omega)]
      · rw [if_neg (fun z => c2 ((nI_ltI hc (by omega)).mp z)), Nat.min_eq_right (by omega)]
    · rw [if_neg (fun z => c ((nI_ltI hc hc').mp z))]
      by_cases c2 : cap' < ys.length
      · omega
      · rw [if_neg (fun z => c2 ((nI_ltI hc' (by omega)).mp z)), Nat.min_eq_right (by omega)]
end
section
/-! ===== the Row's contracts over lists ===== -/
theorem yMv_void {g : yG} {y : MethodName} {ws : List Cond} {rm : Room} {As : List Value} {B : List va_W} {post : List va_W → Prop} {mc ms : Nat} (hB : ∀ A, ¬ va_D A B.flatten) : yMv g y ws rm As B post mc ms := by
  intro sz p e ha hf hc s m args below hfr happ hpre hk
  obtain ⟨-, -, -, -, hD⟩ := hpre
  exact absurd hD (hB _)
theorem yM_void {g : yG} {y : MethodName} {ws : List Cond} {rm : Room} {As : List Value} {B : List va_W} {post : Int32 → List va_W → Prop} {mc ms : Nat} (hB : ∀ A, ¬ va_D A B.flatten) : yM g y ws rm As B post mc ms := by
  intro sz p e ha hf hc s m args below hfr happ hpre hk
  obtain ⟨-, -, -, -, hD⟩ := hpre
  exact absurd hD (hB _)
theorem row_void {cI : ClassId} {r a cap : Nat} {xs : List Int32} {h : Nat → Int32} (hl : ¬ xs.length ≤ cap) (Bs : List va_W) : ∀ A, ¬ va_D A ([] ++ ([rowW cI r a cap xs h] ++ Bs) : List va_W).flatten := fun A hD => hl (rowW_len (yD_app hD).1)
theorem row_flat {cI : ClassId} {r a cap : Nat} {xs : List Int32} {h : Nat → Int32} (hl : xs.length ≤ cap) (Bs : List va_W) : ([] ++ ([rowW cI r a cap xs h] ++ Bs) : List va_W).flatten = ([[(r, .inr (3, [.ref a, .int (nI xs.length)]))], [(a, .inl (cI, cap, .inl (rowf xs h)))]] ++ Bs : List va_W).flatten := by
  rw [List.nil_append, List.singleton_append, List.flatten_cons, rowW_pos hl]
  rfl
theorem rowOk_flat {cI : ClassId} {r a cap : Nat} {ys : List Int32} {n : Int32} {f : Nat → Int32} (h : rowOk cap ys n f) (Bs : List va_W) : ([] ++ ([rowW cI r a cap ys f] ++ Bs) : List va_W).flatten = ([[(r, .inr (3, [.ref a, .int n]))], [(a, .inl (cI, cap, .inl f))]] ++ Bs : List va_W).flatten := by
  obtain ⟨h1, h2, h3⟩ := h
  rw [row_flat h1, rowf_self h3, h2]
section ROWC
variable (g : yG) (r a cap : Nat) (xs : List Int32) (h : Nat → Int32)
theorem c_X3_length (hc : cap < 2147483648) : yM g yX3_length wsX3_length ({ frames := 0, cells := 0, slots := 0, locals := 0 } : Room) [.ref r] ([] ++ [rowW g.2.2.1 r a cap xs h] : List va_W) (fun r' w => r' = rLen xs ∧ w = ([] ++ [rowW g.2.2.1 r a cap xs h] : List va_W)) 0 0 := by
  by_cases hl : xs.length ≤ cap
  · refine yM.conv (t_X3_length g r a cap (nI xs.length) (rowf xs h) (post := fun r' w => r' = rLen xs ∧ w = [[(r, .inr (3, [.ref a, .int (nI xs.length)]))], [(a, .inl (g.2.2.1, cap, .inl (rowf xs h)))]]) (fun r' hr => ⟨hr, rfl⟩) p_X3_length) (row_flat hl []) ?_
    rintro r' w ⟨h1, rfl⟩
    exact ⟨_, row_flat hl [], h1, rfl⟩
  · exact yM_void (row_void hl [])
theorem c_X3_at (p : Int32) (hc : cap < 2147483648) : yM g yX3_at wsX3_at ({ frames := 0, cells := 0, slots := 0, locals := 0 } : Room) [.ref r, .int p] ([] ++ [rowW g.2.2.1 r a cap xs h] : List va_W) (fun r' w => r' = rAt xs p ∧ w = ([] ++ [rowW g.2.2.1 r a cap xs h] : List va_W)) 0 0 := by
  by_cases hl : xs.length ≤ cap
  · refine yM.conv (t_X3_at g r a cap (nI xs.length) (rowf xs h) p (post := fun r' w => r' = rAt xs p ∧ w = [[(r, .inr (3, [.ref a, .int (nI xs.length)]))], [(a, .inl (g.2.2.1, cap, .inl (rowf xs h)))]]) (fun r' hr => ⟨hr, rfl⟩) (p_X3_at hl hc)) (row_flat hl []) ?_
    rintro r' w ⟨h1, rfl⟩
    exact ⟨_, row_flat hl [], h1, rfl⟩
  · exact yM_void (row_void hl [])
theorem row_mut {y : MethodName} {ws : List Cond} {rm : Room} {As : List Value} {ys : List Int32} (t : xs.length ≤ cap → yMv g y ws rm As ([[(r, .inr (3, [.ref a, .int (nI xs.length)]))], [(a, .inl (g.2.2.1, cap, .inl (rowf xs h)))]] : List va_W) (fun w => ∃ n f, rowOk cap ys n f ∧ w = [[(r, .inr (3, [.ref a, .int n]))], [(a, .inl (g.2.2.1, cap, .inl f))]]) 0 0) : yMv g y ws rm As ([] ++ [rowW g.2.2.1 r a cap xs h] : List va_W) (fun w => ∃ (ys' : List Int32) (h' : Nat → Int32), ys' = ys ∧ w = ([] ++ [rowW g.2.2.1 r a cap ys' h'] : List va_W)) 0 0 := by
  by_cases hl : xs.length ≤ cap
  · refine yMv.conv (t hl) (row_flat hl []) ?_
    rintro w ⟨n, f, hk, rfl⟩
    exact ⟨_, rowOk_flat hk [], ys, f, rfl, rfl⟩
  · exact yMv_void (row_void hl [])
theorem c_X3_change (p v : Int32) (hc : cap < 2147483648) : yMv g yX3_change wsX3_change ({ frames := 0, cells := 0, slots := 0, locals := 0 } : Room) [.ref r, .int p, .int v] ([] ++ [rowW g.2.2.1 r a cap xs h] : List va_W) (fun w => ∃ (ys' : List Int32) (h' : Nat → Int32), ys' = (rSet xs p v) ∧ w = ([] ++ [rowW g.2.2.1 r a cap ys' h'] : List va_W)) 0 0 :=
  row_mut g r a cap xs h (fun hl => t_X3_change g r a cap (nI xs.length) (rowf xs h) p v (fun n f hk => ⟨n, f, hk, rfl⟩) (p_X3_change hl hc))
theorem c_X3_insert (p v : Int32) (hc : cap < 2147483648) : yMv g yX3_insert wsX3_insert ({ frames := 0, cells := 0, slots := 0, locals := 0 } : Room) [.ref r, .int p, .int v] ([] ++ [rowW g.2.2.1 r a cap xs h] : List va_W) (fun w => ∃ (ys' : List Int32) (h' : Nat → Int32), ys' = (rIns cap xs p v) ∧ w = ([] ++ [rowW g.2.2.1 r a cap ys' h'] : List va_W)) 0 0 :=
  row_mut g r a cap xs h (fun hl => t_X3_insert g r a cap (nI xs.length) (rowf xs h) p v (fun n f hk => ⟨n, f, hk, rfl⟩) (p_X3_insert hl hc))
theorem c_X3_remove (p : Int32) (hc : cap < 2147483648) : yMv g yX3_remove wsX3_remove ({ frames := 0, cells := 0, slots := 0, locals := 0 } : Room) [.ref r, .int p] ([] ++ [rowW g.2.2.1 r a cap xs h] : List va_W) (fun w => ∃ (ys' : List Int32) (h' : Nat → Int32), ys' = (rDel xs p) ∧ w = ([] ++ [rowW g.2.2.1 r a cap ys' h'] : List va_W)) 0 0 :=
  row_mut g r a cap xs h (fun hl => t_X3_remove g r a cap (nI xs.length) (rowf xs h) p (fun n f hk => ⟨n, f, hk, rfl⟩) (p_X3_remove hl hc))
theorem c_X3_clear (hc : cap < 2147483648) : yMv g yX3_clear wsX3_clear ({ frames := 0, cells := 0, slots := 0, locals := 0 } : Room) [.ref r] ([] ++ [rowW g.2.2.1 r a cap xs h] : List va_W) (fun w => ∃ (ys' : List Int32) (h' : Nat → Int32), ys' = [] ∧ w = ([] ++ [rowW g.2.2.1 r a cap ys' h'] : List va_W)) 0 0 :=
  row_mut g r a cap xs h (fun hl => t_X3_clear g r a cap (nI xs.length) (rowf xs h) (fun n f hk => ⟨n, f, hk, rfl⟩) p_X3_clear)
theorem c_X3_copy (q b cap' : Nat) (ys : List Int32) (h' : Nat → Int32) (hc : cap < 2147483648) (hc' : cap' < 2147483648) : yMv g yX3_copy wsX3_copy ({ frames := 1, cells := 0, slots := 0, locals := 21 } : Room) [.ref r, .ref q] ([] ++ ([rowW g.2.2.1 r a cap xs h] ++ [rowW g.2.2.1 q b cap' ys h']) : List va_W) (fun w => ∃ (ys' : List Int32) (h2 : Nat → Int32), ys' = (rCopy cap ys) ∧ w = ([] ++ ([rowW g.2.2.1 r a cap ys' h2] ++ [rowW g.2.2.1 q b cap' ys h']) : List va_W)) 0 0 := by
  by_cases hl : xs.length ≤ cap
  · by_cases hy : ys.length ≤ cap'
    · have e : ∀ X : List va_W, (X ++ [rowW g.2.2.1 q b cap' ys h'] : List va_W).flatten = (X ++ [[(q, .inr (3, [.ref b, .int (nI ys.length)]))], [(b, .inl (g.2.2.1, cap', .inl (rowf ys h')))]] : List va_W).flatten := by
        intro X
        rw [List.flatten_append, List.flatten_append, List.flatten_singleton, rowW_pos hy]
        rfl
      refine yMv.conv (t_X3_copy g r a cap (nI xs.length) (rowf xs h) q b cap' (nI ys.length) (rowf ys h') (post := fun w => ∃ n f, rowOk cap (rCopy cap ys) n f ∧ w = [[(r, .inr (3, [.ref a, .int n]))], [(a, .inl (g.2.2.1, cap, .inl f))], [(q, .inr (3, [.ref b, .int (nI ys.length)]))], [(b, .inl (g.2.2.1, cap', .inl (rowf ys h')))]]) (fun n f hk => ⟨n, f, hk, rfl⟩) (p_X3_copy hc hy hc')) ?_ ?_
      · rw [row_flat hl, e]; rfl
      · rintro w ⟨n, f, hk, rfl⟩
        refine ⟨_, ?_, rCopy cap ys, f, rfl, rfl⟩
        rw [rowOk_flat hk, e]; rfl
    · exact yMv_void (fun A hD => hy (rowW_len (yD_app (yD_app hD).2.1).1))
  · exact yMv_void (row_void hl _)
end ROWC
theorem rIns_add {cap : Nat} {xs : List Int32} {v : Int32} (hl : xs.length ≤ cap) (hc : cap < 2147483648) : rIns cap xs (nI xs.length) v = rAdd cap xs v := by
  unfold rIns rAdd
  rw [nI_clamp (by omega)]
  by_cases h : cap ≤ xs.length
  · rw [if_pos (Or.inr (Or.inr h)), if_pos h]
  · rw [if_neg h, if_neg]
    · simp
    · rintro (q | q | q)
      · exact nI_pos (by omega) q
      · omega
      · omega
theorem ggX3_add_X3_insert : GoodIn wsX3_add wsX3_insert := goodIn_r _ [6, 1, 7, 8, 9] (by decide +kernel) (by decide +kernel)
theorem gX3_add_X3_insert : GoodIn wsX3_add (wsV RX3 23 RX3 yX3_insert wsX3_insert) := goodIn_app (goodIn_of _ (by decide +kernel)) ggX3_add_X3_insert
theorem dX3_add_0 : decode cX3_add 0 = .ok (.aload_n 0, 1) := by decide +kernel
theorem dX3_add_1 : decode cX3_add 1 = .ok (.aload_n 0, 1) := by decide +kernel
theorem dX3_add_2 : decode cX3_add 2 = .ok (.getfield 19, 3) := by decide +kernel
theorem dX3_add_5 : decode cX3_add 5 = .ok (.iload_n 1, 1) := by decide +kernel
theorem dX3_add_6 : decode cX3_add 6 = .ok (.invokevirtual 23, 3) := by decide +kernel
theorem dX3_add_9 : decode cX3_add 9 = .ok (.return_, 1) := by decide +kernel
theorem kX3_add_1 : Cond.fieldLink RX3 19 "BookedDetours$Row" "length" "I" ∈ wsX3_add := List.mem_of_getElem? (i := 1) (by decide +kernel)
theorem hX3_add_X3 : ∀ w ∈ u_ws RX3 TX3 2, w ∈ wsX3_add := fun _ h => List.mem_cons_of_mem _ (List.mem_append_right _ h)
set_option maxHeartbeats 4000000 in
set_option maxRecDepth 100000 in
theorem c_X3_add (g : yG) (r a cap : Nat) (xs : List Int32) (h : Nat → Int32) (v : Int32) (hc : cap < 2147483648) : yMv g yX3_add wsX3_add ({ frames := 1, cells := 0, slots := 0, locals := 23 } : Room) [.ref r, .int v] ([] ++ [rowW g.2.2.1 r a cap xs h] : List va_W) (fun w => ∃ (ys' : List Int32) (h' : Nat → Int32), ys' = (rAdd cap xs v) ∧ w = ([] ++ [rowW g.2.2.1 r a cap ys' h'] : List va_W)) 0 0 := by
  refine y_entryV (cc := cX3_add) (maxL := 2) (by decide +kernel) rfl (Nat.le_of_ble_eq_true rfl) (fun Z C _ HR => ?_)
  have C : yC Z g cX3_add 2 wsX3_add RX3 := C
  refine y_fact (F := xs.length ≤ cap) (fun A hD => rowW_len (yD_app hD).1) (fun hl => ?_)
  show yJ Z _ 0 0 _ 0 [(0, .ref r), (1, .int v)] []
  refine y_world (row_flat hl []) ?_
  refine y_aload_n C dX3_add_0 0 rfl rfl ?_
  refine y_aload_n C dX3_add_1 0 rfl rfl ?_
  refine y_get (Cn := RX3) (T := TX3) (N := 2) (ci := 3) (v := .int (nI xs.length)) C dX3_add_2 hX3_add_X3 0 rfl rfl 1 (Nat.le_of_ble_eq_true rfl) kX3_add_1 rfl ?_
  refine y_iload_n C dX3_add_5 1 rfl rfl ?_
  refine y_world (L1 := ([] ++ [rowW g.2.2.1 r a cap xs h] : List va_W)) (row_flat hl []).symm ?_
  refine y_callVv (As := [.int (nI xs.length), .int v]) (rest := []) C dX3_add_6 (c_X3_insert g r a cap xs h (nI xs.length) v hc) rfl rfl rfl rfl ⟨Nat.le_of_ble_eq_true rfl, Nat.le_of_ble_eq_true rfl⟩ gX3_add_X3_insert (nA := 2) (by decide +kernel) rfl (rowW_recv ⟨_, rfl⟩) (Nat.le_of_ble_eq_true rfl) ⟨Nat.le_of_ble_eq_true rfl, Nat.le_of_ble_eq_true rfl⟩ [0] [] (nB := 1) rfl (by decide +kernel) rfl (fun w hw => ?_)
  obtain ⟨ys, h', hy, rfl⟩ := hw
  refine ⟨([] ++ [rowW g.2.2.1 r a cap ys h'] : List va_W), ⟨rfl, rfl, rfl⟩, ?_⟩
  exact HR 9 dX3_add_9 _ _ _ _ (Nat.le_of_ble_eq_true rfl) (Nat.le_of_ble_eq_true rfl) ⟨ys, h', by rw [hy, rIns_add hl hc], rfl⟩
theorem yM_fact {g : yG} {y : MethodName} {ws : List Cond} {rm : Room} {As : List Value} {B : List va_W} {post : Int32 → List va_W → Prop} {mc ms : Nat} {F : Prop} (hF : ∀ A, va_D A B.flatten → F) (K : F → yM g y ws rm As B post mc ms) : yM g y ws rm As B post mc ms := by
  intro sz p e ha hf hc s m args below hfr happ hpre hk
  have hpre' := hpre
  obtain ⟨-, -, -, -, hD⟩ := hpre
  exact K (hF _ hD) sz p e ha hf hc s m args below hfr happ hpre' hk
theorem yMv_fact {g : yG} {y : MethodName} {ws : List Cond} {rm : Room} {As : List Value} {B : List va_W} {post : List va_W → Prop} {mc ms : Nat} {F : Prop} (hF : ∀ A, va_D A B.flatten → F) (K : F → yMv g y ws rm As B post mc ms) : yMv g y ws rm As B post mc ms := by
  intro sz p e ha hf hc s m args below hfr happ hpre hk
  have hpre' := hpre
  obtain ⟨-, -, -, -, hD⟩ := hpre
  exact K (hF _ hD) sz p e ha hf hc s m args below hfr happ hpre' hk
theorem row_mem {cI : ClassId} {r a cap : Nat} {xs : List Int32} {h : Nat → Int32} {B : List va_W} {A : Nat → Prop} (hm : rowW cI r a cap xs h ∈ B) (hD : va_D A B.flatten) : xs.length ≤ cap := by
  obtain ⟨B1, B2, rfl⟩ := List.append_of_mem hm
  rw [List.flatten_append, List.flatten_cons] at hD
  exact rowW_len (yD_app (yD_app hD).2.1).1
def dayLen (d : RV) : Prop := (d.1 0).length ≤ 3 ∧ (d.1 1).length ≤ 12 ∧ (d.1 2).length ≤ 12 ∧ (d.1 3).length ≤ 17 ∧ (d.1 4).length ≤ 17 ∧ (d.1 5).length ≤ 17 ∧ (d.1 6).length ≤ 17 ∧ (d.1 7).length ≤ 17 ∧ (d.1 8).length ≤ 17 ∧ (d.1 9).length ≤ 17 ∧ (d.1 10).length ≤ 17 ∧ (d.1 11).length ≤ 34
def tabLen (d : RV) : Prop := (d.1 0).length ≤ 34 ∧ (d.1 1).length ≤ 34 ∧ (d.1 2).length ≤ 34 ∧ (d.1 3).length ≤ 17 ∧ (d.1 4).length ≤ 17
def padLen (d : RV) : Prop := (d.1 0).length ≤ 60 ∧ (d.1 1).length ≤ 31
theorem dayLen_of {g : yG} {A : Nat → Nat} {d : RV} {G : Nat → Nat → Int32} {B : List va_W} {A0 : Nat → Prop} (hm : ∀ x ∈ dayR g A d G, x ∈ B) (hD : va_D A0 B.flatten) : dayLen d :=
  ⟨row_mem (hm _ (List.mem_of_getElem? (i := 0) rfl)) hD, row_mem (hm _ (List.mem_of_getElem? (i := 1) rfl)) hD, row_mem (hm _ (List.mem_of_getElem? (i := 2) rfl)) hD, row_mem (hm _ (List.mem_of_getElem? (i := 3) rfl)) hD, row_mem (hm _ (List.mem_of_getElem? (i := 4) rfl)) hD, row_mem (hm _ (List.mem_of_getElem? (i := 5) rfl)) hD, row_mem (hm _ (List.mem_of_getElem? (i := 6) rfl)) hD, row_mem (hm _ (List.mem_of_getElem? (i := 7) rfl)) hD, row_mem (hm _ (List.mem_of_getElem? (i := 8) rfl)) hD, row_mem (hm _ (List.mem_of_getElem? (i := 9) rfl)) hD, row_mem (hm _ (List.mem_of_getElem? (i := 10) rfl)) hD, row_mem (hm _ (List.mem_of_getElem? (i := 11) rfl)) hD⟩
theorem tabLen_of {g : yG} {A : Nat → Nat} {d : RV} {G : Nat → Nat → Int32} {B : List va_W} {A0 : Nat → Prop} (hm : ∀ x ∈ tabR g A d G, x ∈ B) (hD : va_D A0 B.flatten) : tabLen d :=
  ⟨row_mem (hm _ (List.mem_of_getElem? (i := 0) rfl)) hD, row_mem (hm _ (List.mem_of_getElem? (i := 1) rfl)) hD, row_mem (hm _ (List.mem_of_getElem? (i := 2) rfl)) hD, row_mem (hm _ (List.mem_of_getElem? (i := 3) rfl)) hD, row_mem (hm _ (List.mem_of_getElem? (i := 4) rfl)) hD⟩
theorem padLen_of {g : yG} {A : Nat → Nat} {d : RV} {G : Nat → Nat → Int32} {B : List va_W} {A0 : Nat → Prop} (hm : ∀ x ∈ padR g A d G, x ∈ B) (hD : va_D A0 B.flatten) : padLen d :=
  ⟨row_mem (hm _ (List.mem_of_getElem? (i := 0) rfl)) hD, row_mem (hm _ (List.mem_of_getElem? (i := 1) rfl)) hD⟩
end
section
def f_X6_leastOf  (s : Int32) : Int32 := (if s = 0 then (1 : Int32) else (0 : Int32))
def f_X6_mostOf  (s : Int32) : Int32 := (if s = 0 then (8 : Int32) else (if s = (1 : Int32) then (60 : Int32) else (5 : Int32)))
def f_X6_rideOf  (v : Int32) : Int32 := (v >>> ((1 : Int32) &&& 31))
def f_X6_setsDown  (v : Int32) : Int32 := (if (v &&& (1 : Int32)) = (1 : Int32) then (1 : Int32) else (0 : Int32))
def f_X6_pickUp  (v : Int32) : Int32 := ((2 : Int32) * v)
def f_X6_setDown  (v : Int32) : Int32 := (((2 : Int32) * v) + (1 : Int32))
def f_X2_withDigit  (nu : Int32) (di : Int32) : Int32 := (if nu = (-6 : Int32) then di else (if nu = 0 then (-3 : Int32) else ((nu * (10 : Int32)) + di)))
def f_X2_mostIn  (pa : Int32) : Int32 := (if (2 : Int32) ≤ pa then (if pa = (2 : Int32) then (600 : Int32) else (900 : Int32)) else (11 : Int32))
def f_X2_endOf  (pa : Int32) : Int32 := (if pa = 0 then (62 : Int32) else (if pa = (1 : Int32) then (64 : Int32) else (if pa = (2 : Int32) then (45 : Int32) else (59 : Int32))))
def f_X0_hasStop (d : RV) (i : Int32) : Int32 := (if i < 0 then (0 : Int32) else (yl (rLen (d.1 1)) (fun r1 => (if r1 ≤ i then (0 : Int32) else (1 : Int32)))))
def f_X0_hasRide (d : RV) (i : Int32) : Int32 := (if i < 0 then (0 : Int32) else (yl (rLen (d.1 8)) (fun r1 => (if r1 ≤ i then (0 : Int32) else (1 : Int32)))))
def wp_X0_ridesThatStand_4 (d : RV) (how : Int32) (X4 : Int32 → Int32 → Prop) (K : Int32 → Prop)  (x2 : Int32) (x3 : Int32) : Prop := (yl (rLen (d.1 8)) (fun r1 => (if r1 ≤ x3 then (K x2) else (yl (rAt (d.1 8) x3) (fun r2 => (if r2 = how then (X4 (x2 + (1 : Int32)) (x3 + (1 : Int32))) else (X4 x2 (x3 + (1 : Int32)))))))))
def wp_X0_ridesThatStand_0 (d : RV) (how : Int32) (X4 : Int32 → Int32 → Prop) (K : Int32 → Prop)   : Prop := (X4 (0 : Int32) (0 : Int32))
def PO_X0_ridesThatStand (d : RV) (how : Int32) (K : Int32 → Prop)   : Prop := ∃ (I4 : Nat → Int32 → Int32 → Prop), (∀ (w0 : Nat) (x2 : Int32) (x3 : Int32), I4 w0 x2 x3 → wp_X0_ridesThatStand_4 d how (fun (x29 : Int32) (x39 : Int32) => ∃ w9, w9 < w0 ∧ I4 w9 x29 x39) K x2 x3) ∧ wp_X0_ridesThatStand_0 d how (fun (x29 : Int32) (x39 : Int32) => ∃ w9, I4 w9 x29 x39) K  
end
section
/-! ===== days, pure ===== -/
/-- how many of a row are such a number -/
def cntOf (xs : List Int32) (how : Int32) : Nat := xs.countP (fun x => decide (x = how))
def nStand (xs : List Int32) (how : Int32) : Int32 := nI (cntOf xs how)
theorem rAt_lt {xs : List Int32} {i : Nat} (h : i < xs.length) (hb : i < 2147483648) : rAt xs (nI i) = xs[i] := by
  rw [rAt_nI hb]; simp [List.getD, h]
theorem cntOf_take_succ {xs : List Int32} {how : Int32} {i : Nat} (h : i < xs.length) : cntOf (xs.take (i + 1)) how = cntOf (xs.take i) how + if xs[i] = how then 1 else 0 := by
  unfold cntOf
  rw [List.take_succ_eq_append_getElem h, List.countP_append]
  simp [List.countP_cons]
/-- a row of a day is not long: ownership says so -/
def lenOk (d : RV) : Prop := ∀ k, (d.1 k).length < 2147483648
theorem p_X0_ridesThatStand {d : RV} {how : Int32} (hl : (d.1 8).length < 2147483648) : PO_X0_ridesThatStand d how (fun r => r = nStand (d.1 8) how) := by
  refine ⟨fun w x2 x3 => ∃ i, x3 = nI i ∧ i ≤ (d.1 8).length ∧ w = (d.1 8).length - i ∧ x2 = nI (cntOf ((d.1 8).take i) how), ?_, ?_⟩
  · rintro w x2 x3 ⟨i, rfl, h1, rfl, rfl⟩
    unfold wp_X0_ridesThatStand_4 rLen
    simp only [yl]
    by_cases c : (d.1 8).length ≤ i
    · rw [if_pos ((nI_leI hl (by omega)).mpr c)]
      show _ = nI _
      rw [List.take_of_length_le c]
    · rw [if_neg (fun z => c ((nI_leI hl (by omega)).mp z)), rAt_lt (by omega) (by omega), nI_1, nI_1]
      by_cases e : (d.1 8)[i] = how
      · rw [if_pos e]
        refine ⟨_, by omega, i + 1, rfl, by omega, rfl, ?_⟩
        rw [cntOf_take_succ (by omega), if_pos e]
      · rw [if_neg e]
        refine ⟨_, by omega, i + 1, rfl, by omega, rfl, ?_⟩
        rw [cntOf_take_succ (by omega), if_neg e]; rfl
  · exact ⟨_, 0, rfl, Nat.zero_le _, rfl, by simp [cntOf, nI]⟩
end
section
def f_X0_minutes (d : RV) (i : Int32) (j : Int32) : Int32 := (yl (rAt (d.1 1) i) (fun r1 => (yl (rAt (d.1 1) j) (fun r2 => (yl (if 0 ≤ (r1 - r2) then (r1 - r2) else 0 - (r1 - r2)) (fun m3 => (yl (rAt (d.1 2) i) (fun r4 => (yl (rAt (d.1 2) j) (fun r5 => (yl (if 0 ≤ (r4 - r5) then (r4 - r5) else 0 - (r4 - r5)) (fun m6 => (m3 + m6)))))))))))))
def f_X0_stopOf (d : RV) (v : Int32) : Int32 := (yl (f_X6_rideOf v) (fun r1 => (yl (f_X6_setsDown v) (fun r2 => (if r2 = 0 then (yl (rAt (d.1 3) r1) (fun r3 => r3)) else (yl (rAt (d.1 4) r1) (fun r4 => r4)))))))
def f_X0_isOnItsWay (d : RV)  : Int32 := (yl (rLen (d.1 11)) (fun r1 => (if r1 ≤ 0 then (0 : Int32) else (if (d.2 0) ≤ (d.2 2) then (0 : Int32) else (1 : Int32)))))
def f_X0_addRide (d : RV) (fr : Int32) (to : Int32) (wa : Int32) (bt : Int32) : Int32 × RV := (yl (rvR d 3 (rAdd 17 (d.1 3) fr)) (fun d4 => (yl (rvR d4 4 (rAdd 17 (d4.1 4) to)) (fun d9 => (yl (rvR d9 5 (rAdd 17 (d9.1 5) wa)) (fun d14 => (yl (rvR d14 6 (rAdd 17 (d14.1 6) bt)) (fun d19 => (yl (f_X0_minutes d19 fr to) (fun r21 => (yl (rvR d19 7 (rAdd 17 (d19.1 7) r21)) (fun d25 => (yl (rvR d25 8 (rAdd 17 (d25.1 8) (0 : Int32))) (fun d30 => (yl (rvR d30 9 (rAdd 17 (d30.1 9) (-6 : Int32))) (fun d35 => (yl (rvR d35 10 (rAdd 17 (d35.1 10) (-6 : Int32))) (fun d40 => (yl (rLen (d40.1 8)) (fun r42 => ((r42 - (1 : Int32)), d40)))))))))))))))))))))
def f_X0_beReady (d : RV)  : RV := (yl (rLen (d.1 11)) (fun r1 => (if r1 = 0 then (yl (if (d.2 2) < (d.2 0) then (d.2 0) else (d.2 2)) (fun m2 => (yl (rvI d 2 m2) (fun d3 => d3)))) else d)))
def f_X0_endAtFirst (d : RV)  : RV := (yl (rAt (d.1 11) (0 : Int32)) (fun r1 => (yl (f_X0_stopOf d r1) (fun r2 => (yl (f_X0_minutes d (d.2 1) r2) (fun r3 => (yl (if ((d.2 2) + r3) < (d.2 0) then (d.2 0) else ((d.2 2) + r3)) (fun m4 => (yl (rvI d 2 m4) (fun d5 => (yl (rvI d5 1 r2) (fun d6 => d6))))))))))))
def wp_X0_leaveOut_36 (ri : Int32) (how : Int32) (X36 : RV → Int32 → Prop) (K : RV → Prop) (d : RV) (x3 : Int32) : Prop := (if x3 < 0 then (yl (rvR d 8 (rSet (d.1 8) ri how)) (fun d4 => (K d4))) else (yl (rAt (d.1 11) x3) (fun r6 => (yl (f_X6_rideOf r6) (fun r7 => (if r7 = ri then (yl (rvR d 11 (rDel (d.1 11) x3)) (fun d11 => (X36 d11 (x3 + (-1 : Int32))))) else (X36 d (x3 + (-1 : Int32)))))))))
def wp_X0_leaveOut_0 (ri : Int32) (how : Int32) (X36 : RV → Int32 → Prop) (K : RV → Prop) (d : RV)  : Prop := (yl (f_X0_isOnItsWay d) (fun r1 => (if r1 = 0 then (yl (rLen (d.1 11)) (fun r2 => (X36 d (r2 - (1 : Int32))))) else (yl (rAt (d.1 11) (0 : Int32)) (fun r3 => (yl (f_X6_rideOf r3) (fun r4 => (if r4 = ri then (yl (f_X0_endAtFirst d) (fun d6 => (yl (rLen (d6.1 11)) (fun r9 => (X36 d6 (r9 - (1 : Int32))))))) else (yl (rLen (d.1 11)) (fun r5 => (X36 d (r5 - (1 : Int32)))))))))))))
def PO_X0_leaveOut (ri : Int32) (how : Int32) (K : RV → Prop) (d : RV)  : Prop := ∃ (I36 : Nat → RV → Int32 → Prop), (∀ (w0 : Nat) (d : RV) (x3 : Int32), I36 w0 d x3 → wp_X0_leaveOut_36 ri how (fun (d9 : RV) (x39 : Int32) => ∃ w9, w9 < w0 ∧ I36 w9 d9 x39) K d x3) ∧ wp_X0_leaveOut_0 ri how (fun (d9 : RV) (x39 : Int32) => ∃ w9, I36 w9 d9 x39) K d 
def f_X0_make (d : RV) (v : Int32) (ti : Int32) : RV := (yl (f_X6_rideOf v) (fun r1 => (yl (f_X0_stopOf d v) (fun r2 => (yl (rvI d 1 r2) (fun d3 => (yl (rAt (d3.1 0) (2 : Int32)) (fun r4 => (yl (rvI d3 2 (ti + r4)) (fun d5 => (yl (f_X6_setsDown v) (fun r6 => (if r6 = 0 then (yl (rvR d5 9 (rSet (d5.1 9) r1 ti)) (fun d10 => (yl (rvR d10 8 (rSet (d10.1 8) r1 (1 : Int32))) (fun d15 => d15)))) else (yl (rvR d5 10 (rSet (d5.1 10) r1 ti)) (fun d20 => (yl (rvR d20 8 (rSet (d20.1 8) r1 (2 : Int32))) (fun d25 => d25)))))))))))))))))
def wp_X0_carryOut_10 (t : RV) (X10 : RV → Int32 → Int32 → Prop) (K : Int32 → RV → Prop) (d : RV) (x2 : Int32) (x3 : Int32) : Prop := (if x2 ≤ x3 then (K x2 d) else (yl (rAt (t.1 0) x3) (fun r1 => (if r1 < (d.2 0) then (yl (rAt (d.1 11) (0 : Int32)) (fun r2 => (yl (f_X0_make d r2 r1) (fun d3 => (yl (rvR d3 11 (rDel (d3.1 11) (0 : Int32))) (fun d9 => (X10 d9 x2 (x3 + (1 : Int32))))))))) else (K x3 d)))))
def wp_X0_carryOut_0 (t : RV) (X10 : RV → Int32 → Int32 → Prop) (K : Int32 → RV → Prop) (d : RV)  : Prop := (yl (rLen (d.1 11)) (fun r1 => (X10 d r1 (0 : Int32))))
def PO_X0_carryOut (t : RV) (K : Int32 → RV → Prop) (d : RV)  : Prop := ∃ (I10 : Nat → RV → Int32 → Int32 → Prop), (∀ (w0 : Nat) (d : RV) (x2 : Int32) (x3 : Int32), I10 w0 d x2 x3 → wp_X0_carryOut_10 t (fun (d9 : RV) (x29 : Int32) (x39 : Int32) => ∃ w9, w9 < w0 ∧ I10 w9 d9 x29 x39) K d x2 x3) ∧ wp_X0_carryOut_0 t (fun (d9 : RV) (x29 : Int32) (x39 : Int32) => ∃ w9, I10 w9 d9 x29 x39) K d 
def f_X0_copy (d : RV) (o : RV)  : RV := (yl (rvR d 0 (rCopy 3 (o.1 0))) (fun d4 => (yl (rvR d4 1 (rCopy 12 (o.1 1))) (fun d9 => (yl (rvR d9 2 (rCopy 12 (o.1 2))) (fun d14 => (yl (rvR d14 3 (rCopy 17 (o.1 3))) (fun d19 => (yl (rvR d19 4 (rCopy 17 (o.1 4))) (fun d24 => (yl (rvR d24 5 (rCopy 17 (o.1 5))) (fun d29 => (yl (rvR d29 6 (rCopy 17 (o.1 6))) (fun d34 => (yl (rvR d34 7 (rCopy 17 (o.1 7))) (fun d39 => (yl (rvR d39 8 (rCopy 17 (o.1 8))) (fun d44 => (yl (rvR d44 9 (rCopy 17 (o.1 9))) (fun d49 => (yl (rvR d49 10 (rCopy 17 (o.1 10))) (fun d54 => (yl (rvR d54 11 (rCopy 34 (o.1 11))) (fun d59 => (yl (rvI d59 0 (o.2 0)) (fun d61 => (yl (rvI d61 1 (o.2 1)) (fun d62 => (yl (rvI d62 2 (o.2 2)) (fun d63 => d63))))))))))))))))))))))))))))))
def f_X5_begin (t : RV) (d : RV)  : RV := (yl (rvR t 0 ([])) (fun t4 => (yl (rvR t4 1 ([])) (fun t9 => (yl (rvR t9 2 ([])) (fun t14 => (yl (rvR t14 3 (rCopy 17 (d.1 9))) (fun t19 => (yl (rvR t19 4 (rCopy 17 (d.1 10))) (fun t24 => (yl (rvI t24 0 (d.2 1)) (fun t26 => (yl (rvI t26 1 (d.2 2)) (fun t27 => (yl (nStand (d.1 8) (1 : Int32)) (fun r28 => (yl (rvI t27 2 r28) (fun t29 => (yl (rvI t29 3 (0 : Int32)) (fun t30 => (yl (rvI t30 4 (0 : Int32)) (fun t31 => t31))))))))))))))))))))))
def f_X5_latestByDetour (t : RV) (d : RV) (ri : Int32) : Int32 := (yl (rAt (t.1 3) ri) (fun r1 => (yl (rAt (d.1 0) (2 : Int32)) (fun r2 => (yl (rAt (d.1 7) ri) (fun r3 => (yl (rAt (d.1 0) (1 : Int32)) (fun r4 => (((r1 + r2) + r3) + r4)))))))))
def f_X5_step (t : RV) (d : RV) (v : Int32) : Int32 × RV := (yl (f_X6_rideOf v) (fun r1 => (yl (f_X6_setsDown v) (fun r2 => (yl (f_X0_stopOf d v) (fun r3 => (yl (f_X0_minutes d (t.2 0) r3) (fun r4 => (if r2 = 0 then (yl (rAt (d.1 5) r1) (fun r5 => (yl (if ((t.2 1) + r4) < r5 then r5 else ((t.2 1) + r4)) (fun m6 => (yl (rvI t 0 r3) (fun t7 => (yl (rAt (d.1 0) (2 : Int32)) (fun r8 => (yl (rvI t7 1 (m6 + r8)) (fun t9 => (yl (rvI t9 2 ((t9.2 2) + (1 : Int32))) (fun t10 => (yl (rvI t10 3 ((t10.2 3) + r4)) (fun t11 => (yl (rvI t11 4 ((t11.2 4) + (m6 - ((t.2 1) + r4)))) (fun t12 => (yl (rvR t12 0 (rAdd 34 (t12.1 0) m6)) (fun t16 => (yl (rvR t16 1 (rAdd 34 (t16.1 1) (t16.2 2))) (fun t21 => (yl (rvR t21 2 (rAdd 34 (t21.1 2) (m6 - ((t.2 1) + r4)))) (fun t26 => (yl (rvR t26 3 (rSet (t26.1 3) r1 m6)) (fun t31 => (yl (rAt (d.1 0) (0 : Int32)) (fun r33 => (if r33 < (t31.2 2) then ((0 : Int32), t31) else ((1 : Int32), t31)))))))))))))))))))))))))))) else (yl (rvI t 0 r3) (fun t34 => (yl (rAt (d.1 0) (2 : Int32)) (fun r35 => (yl (rvI t34 1 (((t.2 1) + r4) + r35)) (fun t36 => (yl (rvI t36 2 ((t36.2 2) + (-1 : Int32))) (fun t37 => (yl (rvI t37 3 ((t37.2 3) + r4)) (fun t38 => (yl (rvI t38 4 ((t38.2 4) + (((t.2 1) + r4) - ((t.2 1) + r4)))) (fun t39 => (yl (rvR t39 0 (rAdd 34 (t39.1 0) ((t.2 1) + r4))) (fun t43 => (yl (rvR t43 1 (rAdd 34 (t43.1 1) (t43.2 2))) (fun t48 => (yl (rvR t48 2 (rAdd 34 (t48.1 2) (((t.2 1) + r4) - ((t.2 1) + r4)))) (fun t53 => (yl (rvR t53 4 (rSet (t53.1 4) r1 ((t.2 1) + r4))) (fun t58 => (yl (rAt (d.1 6) r1) (fun r60 => (if r60 < ((t.2 1) + r4) then ((0 : Int32), t58) else (yl (f_X5_latestByDetour t58 d r1) (fun r61 => (if r61 < ((t.2 1) + r4) then ((0 : Int32), t58) else ((1 : Int32), t58))))))))))))))))))))))))))))))))))))
def wp_X5_follow_7 (d : RV) (X7 : RV → Int32 → Prop) (K : RV → Prop) (t : RV) (x2 : Int32) : Prop := (yl (rLen (d.1 11)) (fun r1 => (if r1 ≤ x2 then (K t) else (yl (rAt (d.1 11) x2) (fun r2 => (yl ((f_X5_step t d r2).1) (fun r6 => (yl ((f_X5_step t d r2).2) (fun t3 => (X7 t3 (x2 + (1 : Int32))))))))))))
def wp_X5_follow_0 (d : RV) (X7 : RV → Int32 → Prop) (K : RV → Prop) (t : RV)  : Prop := (yl (f_X5_begin t d) (fun t1 => (X7 t1 (0 : Int32))))
def PO_X5_follow (d : RV) (K : RV → Prop) (t : RV)  : Prop := ∃ (I7 : Nat → RV → Int32 → Prop), (∀ (w0 : Nat) (t : RV) (x2 : Int32), I7 w0 t x2 → wp_X5_follow_7 d (fun (t9 : RV) (x29 : Int32) => ∃ w9, w9 < w0 ∧ I7 w9 t9 x29) K t x2) ∧ wp_X5_follow_0 d (fun (t9 : RV) (x29 : Int32) => ∃ w9, I7 w9 t9 x29) K t 
def wp_X5_keepsAll_7 (d : RV) (X7 : RV → Int32 → Prop) (K : Int32 → RV → Prop) (t : RV) (x2 : Int32) : Prop := (yl (rLen (d.1 11)) (fun r1 => (if r1 ≤ x2 then (K (1 : Int32) t) else (yl (rAt (d.1 11) x2) (fun r2 => (yl ((f_X5_step t d r2).1) (fun r6 => (yl ((f_X5_step t d r2).2) (fun t3 => (if r6 = 0 then (K (0 : Int32) t3) else (X7 t3 (x2 + (1 : Int32)))))))))))))
def wp_X5_keepsAll_0 (d : RV) (X7 : RV → Int32 → Prop) (K : Int32 → RV → Prop) (t : RV)  : Prop := (yl (f_X5_begin t d) (fun t1 => (X7 t1 (0 : Int32))))
def PO_X5_keepsAll (d : RV) (K : Int32 → RV → Prop) (t : RV)  : Prop := ∃ (I7 : Nat → RV → Int32 → Prop), (∀ (w0 : Nat) (t : RV) (x2 : Int32), I7 w0 t x2 → wp_X5_keepsAll_7 d (fun (t9 : RV) (x29 : Int32) => ∃ w9, w9 < w0 ∧ I7 w9 t9 x29) K t x2) ∧ wp_X5_keepsAll_0 d (fun (t9 : RV) (x29 : Int32) => ∃ w9, I7 w9 t9 x29) K t 
end
section
/-! ===== days and timetables: what their loops compute ===== -/
theorem rvR_self (v : RV) (k : Nat) : rvR v k (v.1 k) = v := by
  obtain ⟨a, b⟩ := v
  unfold rvR
  congr 1
  funext j
  by_cases h : j = k
  · subst h; simp
  · simp [h]
theorem rvR_rvR (v : RV) (k : Nat) (a b : List Int32) : rvR (rvR v k a) k b = rvR v k b := by
  unfold rvR
  congr 1
  funext j
  by_cases h : j = k
  · simp [h]
  · simp [h]
theorem f_endAtFirst_1 (d : RV) : (f_X0_endAtFirst d).1 = d.1 := by
  simp [f_X0_endAtFirst, yl, rvI]
/-- the day of which a ride's visits are taken: a bus on its way to one of them goes there -/
def fBase (d : RV) (ri : Int32) : RV := if f_X0_isOnItsWay d = 0 then d else if f_X6_rideOf (rAt (d.1 11) 0) = ri then f_X0_endAtFirst d else d
theorem fBase_1 (d : RV) (ri : Int32) : (fBase d ri).1 = d.1 := by
  unfold fBase
  split
  · rfl
  · split
    · exact f_endAtFirst_1 d
    · rfl
def fOff (xs : List Int32) (ri : Int32) : List Int32 := xs.filter (fun v => decide (¬ f_X6_rideOf v = ri))
theorem fOff_cons (v : Int32) (l : List Int32) (ri : Int32) : fOff (v :: l) ri = if f_X6_rideOf v = ri then fOff l ri else v :: fOff l ri := by
  unfold fOff
  rw [List.filter_cons]
  by_cases h : f_X6_rideOf v = ri
  · rw [if_pos h, if_neg (by simp [h])]
  · rw [if_neg h, if_pos (by simp [h])]
def fLeave (d : RV) (ri how : Int32) : RV := rvR (rvR (fBase d ri) 11 (fOff (d.1 11) ri)) 8 (rSet (d.1 8) ri how)
theorem nI_sub1 (k : Nat) : nI (k + 1) - 1 = nI k := nI_pred k
theorem i32_m1 (x : Int32) : x + (-1) = x - 1 := by rw [Int32.sub_eq_add_neg]
theorem p_X0_leaveOut {d : RV} {ri how : Int32} (hl : (d.1 11).length < 2147483648) : PO_X0_leaveOut ri how (fun d1 => d1 = fLeave d ri how) d := by
  have hb : (fBase d ri).1 = d.1 := fBase_1 d ri
  refine ⟨fun w d' x => ∃ i, i ≤ (d.1 11).length ∧ x = nI i - 1 ∧ w = i ∧ d' = rvR (fBase d ri) 11 ((d.1 11).take i ++ fOff ((d.1 11).drop i) ri), ?_, ?_⟩
  · rintro w d' x ⟨i, h1, rfl, rfl, rfl⟩
    unfold wp_X0_leaveOut_36
    simp only [yl]
    cases w with
    | zero =>
      rw [if_pos (by decide)]
      show _ = fLeave d ri how
      unfold fLeave
      rw [rvR_ne (by decide), hb]
      simp
    | succ k =>
      have hk : k < (d.1 11).length := h1
      rw [nI_sub1, if_neg (nI_pos (by omega)), rvR_eq, rvR_rvR, i32_m1]
      have e : rAt ((d.1 11).take (k + 1) ++ fOff ((d.1 11).drop (k + 1)) ri) (nI k) = (d.1 11)[k] := by
        rw [rAt_lt (by simp; omega) (by omega), List.getElem_append_left (by simp; omega), List.getElem_take]
      rw [e]
      have e2 : (d.1 11).take (k + 1) = (d.1 11).take k ++ [(d.1 11)[k]] := List.take_succ_eq_append_getElem hk
      have e3 : (d.1 11).drop k = (d.1 11)[k] :: (d.1 11).drop (k + 1) := List.drop_eq_getElem_cons hk
      by_cases c : f_X6_rideOf (d.1 11)[k] = ri
      · rw [if_pos c]
        refine ⟨k, by omega, k, by omega, rfl, rfl, ?_⟩
        congr 1
        unfold rDel
        rw [if_neg (nI_pos (by omega)), nI_clamp (by omega), e3, fOff_cons, if_pos c, e2]
        rw [List.append_assoc, List.eraseIdx_append_of_length_le (by simp; omega), List.length_take, Nat.min_eq_left (by omega), Nat.sub_self]
        rfl
      · rw [if_neg c]
        refine ⟨k, by omega, k, by omega, rfl, rfl, ?_⟩
        rw [e3, fOff_cons, if_neg c, e2, List.append_assoc]
        rfl
  · unfold wp_X0_leaveOut_0
    simp only [yl]
    have key : ∀ d0 : RV, d0 = fBase d ri → ∃ w9, ∃ i, i ≤ (d.1 11).length ∧ rLen (d0.1 11) - 1 = nI i - 1 ∧ w9 = i ∧ d0 = rvR (fBase d ri) 11 ((d.1 11).take i ++ fOff ((d.1 11).drop i) ri) := by
      rintro d0 rfl
      refine ⟨_, (d.1 11).length, Nat.le_refl _, by rw [hb]; rfl, rfl, ?_⟩
      have : (d.1 11).take (d.1 11).length ++ fOff ((d.1 11).drop (d.1 11).length) ri = (fBase d ri).1 11 := by rw [hb]; simp [fOff]
      rw [this, rvR_self]
    by_cases c : f_X0_isOnItsWay d = 0
    · rw [if_pos c]; exact key d (by unfold fBase; rw [if_pos c])
    · rw [if_neg c]
      by_cases c2 : f_X6_rideOf (rAt (d.1 11) 0) = ri
      · rw [if_pos c2]; exact key _ (by unfold fBase; rw [if_neg c, if_pos c2])
      · rw [if_neg c2]; exact key d (by unfold fBase; rw [if_neg c, if_neg c2])
/-- one visit is made: the first one leaves the route -/
def fDo (t d : RV) (m : Nat) : RV := rvR (f_X0_make d (rAt (d.1 11) 0) (rAt (t.1 0) (nI m))) 11 (rDel ((f_X0_make d (rAt (d.1 11) 0) (rAt (t.1 0) (nI m))).1 11) 0)
def fCarryN (t : RV) : Nat → Nat → RV → Nat × RV
  | 0, m, d => (m, d)
  | n + 1, m, d => if rAt (t.1 0) (nI m) < d.2 0 then fCarryN t n (m + 1) (fDo t d m) else (m, d)
def fCarry (t d : RV) : Nat × RV := fCarryN t (d.1 11).length 0 d
theorem p_X0_carryOut {t d : RV} (hl : (d.1 11).length < 2147483648) : PO_X0_carryOut t (fun r d1 => r = nI (fCarry t d).1 ∧ d1 = (fCarry t d).2) d := by
  refine ⟨fun w d' x2 x3 => ∃ m, m ≤ (d.1 11).length ∧ x3 = nI m ∧ x2 = nI (d.1 11).length ∧ w = (d.1 11).length - m ∧ fCarryN t ((d.1 11).length - m) m d' = fCarry t d, ?_, ?_⟩
  · rintro w d' x2 x3 ⟨m, h1, rfl, rfl, rfl, h2⟩
    unfold wp_X0_carryOut_10
    unfold yl
    by_cases c : (d.1 11).length ≤ m
    · rw [if_pos ((nI_leI hl (by omega)).mpr c)]
      have e : m = (d.1 11).length := by omega
      subst e
      rw [Nat.sub_self] at h2
      rw [← h2]
      exact ⟨rfl, rfl⟩
    · rw [if_neg (fun z => c ((nI_leI hl (by omega)).mp z))]
      obtain ⟨n, hn⟩ : ∃ n, (d.1 11).length - m = n + 1 := ⟨(d.1 11).length - m - 1, by omega⟩
      rw [hn] at h2
      unfold fCarryN at h2
      by_cases c2 : rAt (t.1 0) (nI m) < d'.2 0
      · rw [if_pos c2] at h2 ⊢
        refine ⟨_, ?_, m + 1, by omega, nI_1 m, rfl, rfl, ?_⟩
        · omega
        · rw [show (d.1 11).length - (m + 1) = n by omega]
          exact h2
      · rw [if_neg c2] at h2 ⊢
        rw [← h2]
        exact ⟨rfl, rfl⟩
  · exact ⟨_, 0, Nat.zero_le _, rfl, rfl, rfl, rfl⟩
def fFollow (t d : RV) : RV := (d.1 11).foldl (fun t v => (f_X5_step t d v).2) (f_X5_begin t d)
theorem p_X5_follow {t d : RV} (hl : (d.1 11).length < 2147483648) : PO_X5_follow d (fun t1 => t1 = fFollow t d) t := by
  refine ⟨fun w t' x => ∃ i, i ≤ (d.1 11).length ∧ x = nI i ∧ w = (d.1 11).length - i ∧ ((d.1 11).drop i).foldl (fun t v => (f_X5_step t d v).2) t' = fFollow t d, ?_, ?_⟩
  · rintro w t' x ⟨i, h1, rfl, rfl, h2⟩
    unfold wp_X5_follow_7 rLen
    simp only [yl]
    by_cases c : (d.1 11).length ≤ i
    · rw [if_pos ((nI_leI hl (by omega)).mpr c)]
      rw [List.drop_of_length_le c] at h2
      exact h2
    · rw [if_neg (fun z => c ((nI_leI hl (by omega)).mp z)), rAt_lt (by omega) (by omega)]
      rw [List.drop_eq_getElem_cons (by omega)] at h2
      refine ⟨_, ?_, i + 1, by omega, nI_1 i, rfl, h2⟩
      omega
  · exact ⟨_, 0, Nat.zero_le _, rfl, rfl, rfl⟩
def fKeepsL (d : RV) : List Int32 → RV → Int32 × RV
  | [], t => (1, t)
  | v :: l, t => if (f_X5_step t d v).1 = 0 then (0, (f_X5_step t d v).2) else fKeepsL d l (f_X5_step t d v).2
def fKeeps (t d : RV) : Int32 × RV := fKeepsL d (d.1 11) (f_X5_begin t d)
theorem p_X5_keepsAll {t d : RV} (hl : (d.1 11).length < 2147483648) : PO_X5_keepsAll d (fun r t1 => r = (fKeeps t d).1 ∧ t1 = (fKeeps t d).2) t := by
  refine ⟨fun w t' x => ∃ i, i ≤ (d.1 11).length ∧ x = nI i ∧ w = (d.1 11).length - i ∧ fKeepsL d ((d.1 11).drop i) t' = fKeeps t d, ?_, ?_⟩
  · rintro w t' x ⟨i, h1, rfl, rfl, h2⟩
    unfold wp_X5_keepsAll_7 rLen
    simp only [yl]
    by_cases c : (d.1 11).length ≤ i
    · rw [if_pos ((nI_leI hl (by omega)).mpr c)]
      rw [List.drop_of_length_le c] at h2
      rw [← h2]
      exact ⟨rfl, rfl⟩
    · rw [if_neg (fun z => c ((nI_leI hl (by omega)).mp z)), rAt_lt (by omega) (by omega)]
      rw [List.drop_eq_getElem_cons (by omega)] at h2
      unfold fKeepsL at h2
      by_cases c2 : (f_X5_step t' d (d.1 11)[i]).1 = 0
      · rw [if_pos c2] at h2 ⊢
        rw [← h2]
        exact ⟨rfl, rfl⟩
      · rw [if_neg c2] at h2 ⊢
        refine ⟨_, ?_, i + 1, by omega, nI_1 i, rfl, h2⟩
        omega
  · exact ⟨_, 0, Nat.zero_le _, rfl, rfl, rfl⟩
end
section
theorem sh_3 (g : yG) (A0 : Nat → Nat) (d0 : RV) (G0 : Nat → Nat → Int32) : ([dayC A0 d0] ++ dayR g A0 d0 G0 : List va_W).flatten[0]? = some (A0 0, .inr (0, [.ref (A0 1), .ref (A0 3), .ref (A0 5), .ref (A0 7), .ref (A0 9), .ref (A0 11), .ref (A0 13), .ref (A0 15), .ref (A0 17), .ref (A0 19), .ref (A0 21), .ref (A0 23), .int (d0.2 0), .int (d0.2 1), .int (d0.2 2)])) := rfl
theorem sh_4 (g : yG) (A0 : Nat → Nat) (d0 : RV) (G0 : Nat → Nat → Int32) : yPick ([dayC A0 d0] ++ dayR g A0 d0 G0 : List va_W) [2] = ([] ++ [rowW g.2.2.1 (A0 3) (A0 4) 12 (d0.1 1) (G0 1)] : List va_W) := rfl
theorem sh_5 (g : yG) (A0 : Nat → Nat) (d0 : RV) (G0 : Nat → Nat → Int32) : yPick ([dayC A0 d0] ++ dayR g A0 d0 G0 : List va_W) [9] = ([] ++ [rowW g.2.2.1 (A0 17) (A0 18) 17 (d0.1 8) (G0 8)] : List va_W) := rfl
theorem sh_6 (g : yG) (A0 : Nat → Nat) (d0 : RV) (G0 : Nat → Nat → Int32) : yPick ([dayC A0 d0] ++ dayR g A0 d0 G0 : List va_W) [3] = ([] ++ [rowW g.2.2.1 (A0 5) (A0 6) 12 (d0.1 2) (G0 2)] : List va_W) := rfl
theorem sh_7 (g : yG) (A0 : Nat → Nat) (d0 : RV) (G0 : Nat → Nat → Int32) : yPick ([dayC A0 d0] ++ dayR g A0 d0 G0 : List va_W) [] = ([] : List va_W) := rfl
theorem sh_8 (g : yG) (A0 : Nat → Nat) (d0 : RV) (G0 : Nat → Nat → Int32) : yPick ([dayC A0 d0] ++ dayR g A0 d0 G0 : List va_W) [4] = ([] ++ [rowW g.2.2.1 (A0 7) (A0 8) 17 (d0.1 3) (G0 3)] : List va_W) := rfl
theorem sh_9 (g : yG) (A0 : Nat → Nat) (d0 : RV) (G0 : Nat → Nat → Int32) : yPick ([dayC A0 d0] ++ dayR g A0 d0 G0 : List va_W) [5] = ([] ++ [rowW g.2.2.1 (A0 9) (A0 10) 17 (d0.1 4) (G0 4)] : List va_W) := rfl
theorem sh_10 (g : yG) (A0 : Nat → Nat) (d0 : RV) (G0 : Nat → Nat → Int32) : yPick ([dayC A0 d0] ++ dayR g A0 d0 G0 : List va_W) [12] = ([] ++ [rowW g.2.2.1 (A0 23) (A0 24) 34 (d0.1 11) (G0 11)] : List va_W) := rfl
theorem sh_11 (g : yG) (A0 : Nat → Nat) (d0 : RV) (G0 : Nat → Nat → Int32) (y0 : List Int32) (h0 : Nat → Int32) (n0 : RV) (k0 : Nat → Nat → Int32) (q0 : n0 = rvR d0 3 y0) (p0 : k0 = gs G0 3 h0) : yPick ([dayC A0 n0] ++ dayR g A0 n0 k0 : List va_W) [4] = ([] ++ [rowW g.2.2.1 (A0 7) (A0 8) 17 y0 h0] : List va_W) ∧ yPick ([dayC A0 n0] ++ dayR g A0 n0 k0 : List va_W) [0, 1, 2, 3, 5, 6, 7, 8, 9, 10, 11, 12] = yPick ([dayC A0 d0] ++ dayR g A0 d0 G0 : List va_W) [0, 1, 2, 3, 5, 6, 7, 8, 9, 10, 11, 12] ∧ ([dayC A0 n0] ++ dayR g A0 n0 k0 : List va_W).length = ([dayC A0 d0] ++ dayR g A0 d0 G0 : List va_W).length := by
  subst q0 p0; rw [dayC_R, dayR_R3]; exact ⟨rfl, Eq.trans (b := ([dayC A0 d0, rowW g.2.2.1 (A0 1) (A0 2) 3 (d0.1 0) (G0 0), rowW g.2.2.1 (A0 3) (A0 4) 12 (d0.1 1) (G0 1), rowW g.2.2.1 (A0 5) (A0 6) 12 (d0.1 2) (G0 2), rowW g.2.2.1 (A0 9) (A0 10) 17 (d0.1 4) (G0 4), rowW g.2.2.1 (A0 11) (A0 12) 17 (d0.1 5) (G0 5), rowW g.2.2.1 (A0 13) (A0 14) 17 (d0.1 6) (G0 6), rowW g.2.2.1 (A0 15) (A0 16) 17 (d0.1 7) (G0 7), rowW g.2.2.1 (A0 17) (A0 18) 17 (d0.1 8) (G0 8), rowW g.2.2.1 (A0 19) (A0 20) 17 (d0.1 9) (G0 9), rowW g.2.2.1 (A0 21) (A0 22) 17 (d0.1 10) (G0 10), rowW g.2.2.1 (A0 23) (A0 24) 34 (d0.1 11) (G0 11)] : List va_W)) rfl rfl, rfl⟩
theorem sh_12 (g : yG) (A0 : Nat → Nat) (d0 : RV) (G0 : Nat → Nat → Int32) (y0 : List Int32) (h0 : Nat → Int32) (n0 : RV) (k0 : Nat → Nat → Int32) (q0 : n0 = rvR d0 4 y0) (p0 : k0 = gs G0 4 h0) : yPick ([dayC A0 n0] ++ dayR g A0 n0 k0 : List va_W) [5] = ([] ++ [rowW g.2.2.1 (A0 9) (A0 10) 17 y0 h0] : List va_W) ∧ yPick ([dayC A0 n0] ++ dayR g A0 n0 k0 : List va_W) [0, 1, 2, 3, 4, 6, 7, 8, 9, 10, 11, 12] = yPick ([dayC A0 d0] ++ dayR g A0 d0 G0 : List va_W) [0, 1, 2, 3, 4, 6, 7, 8, 9, 10, 11, 12] ∧ ([dayC A0 n0] ++ dayR g A0 n0 k0 : List va_W).length = ([dayC A0 d0] ++ dayR g A0 d0 G0 : List va_W).length := by
  subst q0 p0; rw [dayC_R, dayR_R4]; exact ⟨rfl, Eq.trans (b := ([dayC A0 d0, rowW g.2.2.1 (A0 1) (A0 2) 3 (d0.1 0) (G0 0), rowW g.2.2.1 (A0 3) (A0 4) 12 (d0.1 1) (G0 1), rowW g.2.2.1 (A0 5) (A0 6) 12 (d0.1 2) (G0 2), rowW g.2.2.1 (A0 7) (A0 8) 17 (d0.1 3) (G0 3), rowW g.2.2.1 (A0 11) (A0 12) 17 (d0.1 5) (G0 5), rowW g.2.2.1 (A0 13) (A0 14) 17 (d0.1 6) (G0 6), rowW g.2.2.1 (A0 15) (A0 16) 17 (d0.1 7) (G0 7), rowW g.2.2.1 (A0 17) (A0 18) 17 (d0.1 8) (G0 8), rowW g.2.2.1 (A0 19) (A0 20) 17 (d0.1 9) (G0 9), rowW g.2.2.1 (A0 21) (A0 22) 17 (d0.1 10) (G0 10), rowW g.2.2.1 (A0 23) (A0 24) 34 (d0.1 11) (G0 11)] : List va_W)) rfl rfl, rfl⟩
theorem sh_13 (g : yG) (A0 : Nat → Nat) (d0 : RV) (G0 : Nat → Nat → Int32) : yPick ([dayC A0 d0] ++ dayR g A0 d0 G0 : List va_W) [6] = ([] ++ [rowW g.2.2.1 (A0 11) (A0 12) 17 (d0.1 5) (G0 5)] : List va_W) := rfl
theorem sh_14 (g : yG) (A0 : Nat → Nat) (d0 : RV) (G0 : Nat → Nat → Int32) (y0 : List Int32) (h0 : Nat → Int32) (n0 : RV) (k0 : Nat → Nat → Int32) (q0 : n0 = rvR d0 5 y0) (p0 : k0 = gs G0 5 h0) : yPick ([dayC A0 n0] ++ dayR g A0 n0 k0 : List va_W) [6] = ([] ++ [rowW g.2.2.1 (A0 11) (A0 12) 17 y0 h0] : List va_W) ∧ yPick ([dayC A0 n0] ++ dayR g A0 n0 k0 : List va_W) [0, 1, 2, 3, 4, 5, 7, 8, 9, 10, 11, 12] = yPick ([dayC A0 d0] ++ dayR g A0 d0 G0 : List va_W) [0, 1, 2, 3, 4, 5, 7, 8, 9, 10, 11, 12] ∧ ([dayC A0 n0] ++ dayR g A0 n0 k0 : List va_W).length = ([dayC A0 d0] ++ dayR g A0 d0 G0 : List va_W).length := by
  subst q0 p0; rw [dayC_R, dayR_R5]; exact ⟨rfl, Eq.trans (b := ([dayC A0 d0, rowW g.2.2.1 (A0 1) (A0 2) 3 (d0.1 0) (G0 0), rowW g.2.2.1 (A0 3) (A0 4) 12 (d0.1 1) (G0 1), rowW g.2.2.1 (A0 5) (A0 6) 12 (d0.1 2) (G0 2), rowW g.2.2.1 (A0 7) (A0 8) 17 (d0.1 3) (G0 3), rowW g.2.2.1 (A0 9) (A0 10) 17 (d0.1 4) (G0 4), rowW g.2.2.1 (A0 13) (A0 14) 17 (d0.1 6) (G0 6), rowW g.2.2.1 (A0 15) (A0 16) 17 (d0.1 7) (G0 7), rowW g.2.2.1 (A0 17) (A0 18) 17 (d0.1 8) (G0 8), rowW g.2.2.1 (A0 19) (A0 20) 17 (d0.1 9) (G0 9), rowW g.2.2.1 (A0 21) (A0 22) 17 (d0.1 10) (G0 10), rowW g.2.2.1 (A0 23) (A0 24) 34 (d0.1 11) (G0 11)] : List va_W)) rfl rfl, rfl⟩
theorem sh_15 (g : yG) (A0 : Nat → Nat) (d0 : RV) (G0 : Nat → Nat → Int32) : yPick ([dayC A0 d0] ++ dayR g A0 d0 G0 : List va_W) [7] = ([] ++ [rowW g.2.2.1 (A0 13) (A0 14) 17 (d0.1 6) (G0 6)] : List va_W) := rfl
theorem sh_16 (g : yG) (A0 : Nat → Nat) (d0 : RV) (G0 : Nat → Nat → Int32) (y0 : List Int32) (h0 : Nat → Int32) (n0 : RV) (k0 : Nat → Nat → Int32) (q0 : n0 = rvR d0 6 y0) (p0 : k0 = gs G0 6 h0) : yPick ([dayC A0 n0] ++ dayR g A0 n0 k0 : List va_W) [7] = ([] ++ [rowW g.2.2.1 (A0 13) (A0 14) 17 y0 h0] : List va_W) ∧ yPick ([dayC A0 n0] ++ dayR g A0 n0 k0 : List va_W) [0, 1, 2, 3, 4, 5, 6, 8, 9, 10, 11, 12] = yPick ([dayC A0 d0] ++ dayR g A0 d0 G0 : List va_W) [0, 1, 2, 3, 4, 5, 6, 8, 9, 10, 11, 12] ∧ ([dayC A0 n0] ++ dayR g A0 n0 k0 : List va_W).length = ([dayC A0 d0] ++ dayR g A0 d0 G0 : List va_W).length := by
  subst q0 p0; rw [dayC_R, dayR_R6]; exact ⟨rfl, Eq.trans (b := ([dayC A0 d0, rowW g.2.2.1 (A0 1) (A0 2) 3 (d0.1 0) (G0 0), rowW g.2.2.1 (A0 3) (A0 4) 12 (d0.1 1) (G0 1), rowW g.2.2.1 (A0 5) (A0 6) 12 (d0.1 2) (G0 2), rowW g.2.2.1 (A0 7) (A0 8) 17 (d0.1 3) (G0 3), rowW g.2.2.1 (A0 9) (A0 10) 17 (d0.1 4) (G0 4), rowW g.2.2.1 (A0 11) (A0 12) 17 (d0.1 5) (G0 5), rowW g.2.2.1 (A0 15) (A0 16) 17 (d0.1 7) (G0 7), rowW g.2.2.1 (A0 17) (A0 18) 17 (d0.1 8) (G0 8), rowW g.2.2.1 (A0 19) (A0 20) 17 (d0.1 9) (G0 9), rowW g.2.2.1 (A0 21) (A0 22) 17 (d0.1 10) (G0 10), rowW g.2.2.1 (A0 23) (A0 24) 34 (d0.1 11) (G0 11)] : List va_W)) rfl rfl, rfl⟩
theorem sh_17 (g : yG) (A0 : Nat → Nat) (d0 : RV) (G0 : Nat → Nat → Int32) : yPick ([dayC A0 d0] ++ dayR g A0 d0 G0 : List va_W) [0, 1, 2, 3, 4, 5, 6, 7, 8, 9, 10, 11, 12] = ([dayC A0 d0] ++ dayR g A0 d0 G0 : List va_W) := rfl
theorem sh_18 (g : yG) (A0 : Nat → Nat) (d0 : RV) (G0 : Nat → Nat → Int32) : yRecv ([dayC A0 d0] ++ dayR g A0 d0 G0 : List va_W) (A0 0) RX0 := yRecv.of (q0 := 0) (ci := 0) rfl rfl
theorem sh_19 (g : yG) (A0 : Nat → Nat) (d0 : RV) (G0 : Nat → Nat → Int32) : yPick ([dayC A0 d0] ++ dayR g A0 d0 G0 : List va_W) [8] = ([] ++ [rowW g.2.2.1 (A0 15) (A0 16) 17 (d0.1 7) (G0 7)] : List va_W) := rfl
theorem sh_20 (g : yG) (A0 : Nat → Nat) (d0 : RV) (G0 : Nat → Nat → Int32) (y0 : List Int32) (h0 : Nat → Int32) (n0 : RV) (k0 : Nat → Nat → Int32) (q0 : n0 = rvR d0 7 y0) (p0 : k0 = gs G0 7 h0) : yPick ([dayC A0 n0] ++ dayR g A0 n0 k0 : List va_W) [8] = ([] ++ [rowW g.2.2.1 (A0 15) (A0 16) 17 y0 h0] : List va_W) ∧ yPick ([dayC A0 n0] ++ dayR g A0 n0 k0 : List va_W) [0, 1, 2, 3, 4, 5, 6, 7, 9, 10, 11, 12] = yPick ([dayC A0 d0] ++ dayR g A0 d0 G0 : List va_W) [0, 1, 2, 3, 4, 5, 6, 7, 9, 10, 11, 12] ∧ ([dayC A0 n0] ++ dayR g A0 n0 k0 : List va_W).length = ([dayC A0 d0] ++ dayR g A0 d0 G0 : List va_W).length := by
  subst q0 p0; rw [dayC_R, dayR_R7]; exact ⟨rfl, Eq.trans (b := ([dayC A0 d0, rowW g.2.2.1 (A0 1) (A0 2) 3 (d0.1 0) (G0 0), rowW g.2.2.1 (A0 3) (A0 4) 12 (d0.1 1) (G0 1), rowW g.2.2.1 (A0 5) (A0 6) 12 (d0.1 2) (G0 2), rowW g.2.2.1 (A0 7) (A0 8) 17 (d0.1 3) (G0 3), rowW g.2.2.1 (A0 9) (A0 10) 17 (d0.1 4) (G0 4), rowW g.2.2.1 (A0 11) (A0 12) 17 (d0.1 5) (G0 5), rowW g.2.2.1 (A0 13) (A0 14) 17 (d0.1 6) (G0 6), rowW g.2.2.1 (A0 17) (A0 18) 17 (d0.1 8) (G0 8), rowW g.2.2.1 (A0 19) (A0 20) 17 (d0.1 9) (G0 9), rowW g.2.2.1 (A0 21) (A0 22) 17 (d0.1 10) (G0 10), rowW g.2.2.1 (A0 23) (A0 24) 34 (d0.1 11) (G0 11)] : List va_W)) rfl rfl, rfl⟩
theorem sh_21 (g : yG) (A0 : Nat → Nat) (d0 : RV) (G0 : Nat → Nat → Int32) (y0 : List Int32) (h0 : Nat → Int32) (n0 : RV) (k0 : Nat → Nat → Int32) (q0 : n0 = rvR d0 8 y0) (p0 : k0 = gs G0 8 h0) : yPick ([dayC A0 n0] ++ dayR g A0 n0 k0 : List va_W) [9] = ([] ++ [rowW g.2.2.1 (A0 17) (A0 18) 17 y0 h0] : List va_W) ∧ yPick ([dayC A0 n0] ++ dayR g A0 n0 k0 : List va_W) [0, 1, 2, 3, 4, 5, 6, 7, 8, 10, 11, 12] = yPick ([dayC A0 d0] ++ dayR g A0 d0 G0 : List va_W) [0, 1, 2, 3, 4, 5, 6, 7, 8, 10, 11, 12] ∧ ([dayC A0 n0] ++ dayR g A0 n0 k0 : List va_W).length = ([dayC A0 d0] ++ dayR g A0 d0 G0 : List va_W).length := by
  subst q0 p0; rw [dayC_R, dayR_R8]; exact ⟨rfl, Eq.trans (b := ([dayC A0 d0, rowW g.2.2.1 (A0 1) (A0 2) 3 (d0.1 0) (G0 0), rowW g.2.2.1 (A0 3) (A0 4) 12 (d0.1 1) (G0 1), rowW g.2.2.1 (A0 5) (A0 6) 12 (d0.1 2) (G0 2), rowW g.2.2.1 (A0 7) (A0 8) 17 (d0.1 3) (G0 3), rowW g.2.2.1 (A0 9) (A0 10) 17 (d0.1 4) (G0 4), rowW g.2.2.1 (A0 11) (A0 12) 17 (d0.1 5) (G0 5), rowW g.2.2.1 (A0 13) (A0 14) 17 (d0.1 6) (G0 6), rowW g.2.2.1 (A0 15) (A0 16) 17 (d0.1 7) (G0 7), rowW g.2.2.1 (A0 19) (A0 20) 17 (d0.1 9) (G0 9), rowW g.2.2.1 (A0 21) (A0 22) 17 (d0.1 10) (G0 10), rowW g.2.2.1 (A0 23) (A0 24) 34 (d0.1 11) (G0 11)] : List va_W)) rfl rfl, rfl⟩
theorem sh_22 (g : yG) (A0 : Nat → Nat) (d0 : RV) (G0 : Nat → Nat → Int32) : yPick ([dayC A0 d0] ++ dayR g A0 d0 G0 : List va_W) [10] = ([] ++ [rowW g.2.2.1 (A0 19) (A0 20) 17 (d0.1 9) (G0 9)] : List va_W) := rfl
theorem sh_23 (g : yG) (A0 : Nat → Nat) (d0 : RV) (G0 : Nat → Nat → Int32) (y0 : List Int32) (h0 : Nat → Int32) (n0 : RV) (k0 : Nat → Nat → Int32) (q0 : n0 = rvR d0 9 y0) (p0 : k0 = gs G0 9 h0) : yPick ([dayC A0 n0] ++ dayR g A0 n0 k0 : List va_W) [10] = ([] ++ [rowW g.2.2.1 (A0 19) (A0 20) 17 y0 h0] : List va_W) ∧ yPick ([dayC A0 n0] ++ dayR g A0 n0 k0 : List va_W) [0, 1, 2, 3, 4, 5, 6, 7, 8, 9, 11, 12] = yPick ([dayC A0 d0] ++ dayR g A0 d0 G0 : List va_W) [0, 1, 2, 3, 4, 5, 6, 7, 8, 9, 11, 12] ∧ ([dayC A0 n0] ++ dayR g A0 n0 k0 : List va_W).length = ([dayC A0 d0] ++ dayR g A0 d0 G0 : List va_W).length := by
  subst q0 p0; rw [dayC_R, dayR_R9]; exact ⟨rfl, Eq.trans (b := ([dayC A0 d0, rowW g.2.2.1 (A0 1) (A0 2) 3 (d0.1 0) (G0 0), rowW g.2.2.1 (A0 3) (A0 4) 12 (d0.1 1) (G0 1), rowW g.2.2.1 (A0 5) (A0 6) 12 (d0.1 2) (G0 2), rowW g.2.2.1 (A0 7) (A0 8) 17 (d0.1 3) (G0 3), rowW g.2.2.1 (A0 9) (A0 10) 17 (d0.1 4) (G0 4), rowW g.2.2.1 (A0 11) (A0 12) 17 (d0.1 5) (G0 5), rowW g.2.2.1 (A0 13) (A0 14) 17 (d0.1 6) (G0 6), rowW g.2.2.1 (A0 15) (A0 16) 17 (d0.1 7) (G0 7), rowW g.2.2.1 (A0 17) (A0 18) 17 (d0.1 8) (G0 8), rowW g.2.2.1 (A0 21) (A0 22) 17 (d0.1 10) (G0 10), rowW g.2.2.1 (A0 23) (A0 24) 34 (d0.1 11) (G0 11)] : List va_W)) rfl rfl, rfl⟩
theorem sh_24 (g : yG) (A0 : Nat → Nat) (d0 : RV) (G0 : Nat → Nat → Int32) : yPick ([dayC A0 d0] ++ dayR g A0 d0 G0 : List va_W) [11] = ([] ++ [rowW g.2.2.1 (A0 21) (A0 22) 17 (d0.1 10) (G0 10)] : List va_W) := rfl
theorem sh_25 (g : yG) (A0 : Nat → Nat) (d0 : RV) (G0 : Nat → Nat → Int32) (y0 : List Int32) (h0 : Nat → Int32) (n0 : RV) (k0 : Nat → Nat → Int32) (q0 : n0 = rvR d0 10 y0) (p0 : k0 = gs G0 10 h0) : yPick ([dayC A0 n0] ++ dayR g A0 n0 k0 : List va_W) [11] = ([] ++ [rowW g.2.2.1 (A0 21) (A0 22) 17 y0 h0] : List va_W) ∧ yPick ([dayC A0 n0] ++ dayR g A0 n0 k0 : List va_W) [0, 1, 2, 3, 4, 5, 6, 7, 8, 9, 10, 12] = yPick ([dayC A0 d0] ++ dayR g A0 d0 G0 : List va_W) [0, 1, 2, 3, 4, 5, 6, 7, 8, 9, 10, 12] ∧ ([dayC A0 n0] ++ dayR g A0 n0 k0 : List va_W).length = ([dayC A0 d0] ++ dayR g A0 d0 G0 : List va_W).length := by
  subst q0 p0; rw [dayC_R, dayR_R10]; exact ⟨rfl, Eq.trans (b := ([dayC A0 d0, rowW g.2.2.1 (A0 1) (A0 2) 3 (d0.1 0) (G0 0), rowW g.2.2.1 (A0 3) (A0 4) 12 (d0.1 1) (G0 1), rowW g.2.2.1 (A0 5) (A0 6) 12 (d0.1 2) (G0 2), rowW g.2.2.1 (A0 7) (A0 8) 17 (d0.1 3) (G0 3), rowW g.2.2.1 (A0 9) (A0 10) 17 (d0.1 4) (G0 4), rowW g.2.2.1 (A0 11) (A0 12) 17 (d0.1 5) (G0 5), rowW g.2.2.1 (A0 13) (A0 14) 17 (d0.1 6) (G0 6), rowW g.2.2.1 (A0 15) (A0 16) 17 (d0.1 7) (G0 7), rowW g.2.2.1 (A0 17) (A0 18) 17 (d0.1 8) (G0 8), rowW g.2.2.1 (A0 19) (A0 20) 17 (d0.1 9) (G0 9), rowW g.2.2.1 (A0 23) (A0 24) 34 (d0.1 11) (G0 11)] : List va_W)) rfl rfl, rfl⟩
theorem sh_26 (g : yG) (A0 : Nat → Nat) (d0 : RV) (G0 : Nat → Nat → Int32) (v : Int32) (e0 : RV) (h : e0 = rvI d0 2 v) : ([dayC A0 d0] ++ dayR g A0 d0 G0 : List va_W).flatten.set 0 (A0 0, .inr (0, [.ref (A0 1), .ref (A0 3), .ref (A0 5), .ref (A0 7), .ref (A0 9), .ref (A0 11), .ref (A0 13), .ref (A0 15), .ref (A0 17), .ref (A0 19), .ref (A0 21), .ref (A0 23), .int (d0.2 0), .int (d0.2 1), .int (d0.2 2)].set 14 (.int v))) = ([dayC A0 e0] ++ dayR g A0 e0 G0 : List va_W).flatten := by subst h; rfl
theorem sh_27 (g : yG) (A0 : Nat → Nat) (d0 : RV) (G0 : Nat → Nat → Int32) (v : Int32) (e0 : RV) (h : e0 = rvI d0 1 v) : ([dayC A0 d0] ++ dayR g A0 d0 G0 : List va_W).flatten.set 0 (A0 0, .inr (0, [.ref (A0 1), .ref (A0 3), .ref (A0 5), .ref (A0 7), .ref (A0 9), .ref (A0 11), .ref (A0 13), .ref (A0 15), .ref (A0 17), .ref (A0 19), .ref (A0 21), .ref (A0 23), .int (d0.2 0), .int (d0.2 1), .int (d0.2 2)].set 13 (.int v))) = ([dayC A0 e0] ++ dayR g A0 e0 G0 : List va_W).flatten := by subst h; rfl
theorem sh_28 (g : yG) (A0 : Nat → Nat) (d0 : RV) (G0 : Nat → Nat → Int32) (y0 : List Int32) (h0 : Nat → Int32) (n0 : RV) (k0 : Nat → Nat → Int32) (q0 : n0 = rvR d0 11 y0) (p0 : k0 = gs G0 11 h0) : yPick ([dayC A0 n0] ++ dayR g A0 n0 k0 : List va_W) [12] = ([] ++ [rowW g.2.2.1 (A0 23) (A0 24) 34 y0 h0] : List va_W) ∧ yPick ([dayC A0 n0] ++ dayR g A0 n0 k0 : List va_W) [0, 1, 2, 3, 4, 5, 6, 7, 8, 9, 10, 11] = yPick ([dayC A0 d0] ++ dayR g A0 d0 G0 : List va_W) [0, 1, 2, 3, 4, 5, 6, 7, 8, 9, 10, 11] ∧ ([dayC A0 n0] ++ dayR g A0 n0 k0 : List va_W).length = ([dayC A0 d0] ++ dayR g A0 d0 G0 : List va_W).length := by
  subst q0 p0; rw [dayC_R, dayR_R11]; exact ⟨rfl, Eq.trans (b := ([dayC A0 d0, rowW g.2.2.1 (A0 1) (A0 2) 3 (d0.1 0) (G0 0), rowW g.2.2.1 (A0 3) (A0 4) 12 (d0.1 1) (G0 1), rowW g.2.2.1 (A0 5) (A0 6) 12 (d0.1 2) (G0 2), rowW g.2.2.1 (A0 7) (A0 8) 17 (d0.1 3) (G0 3), rowW g.2.2.1 (A0 9) (A0 10) 17 (d0.1 4) (G0 4), rowW g.2.2.1 (A0 11) (A0 12) 17 (d0.1 5) (G0 5), rowW g.2.2.1 (A0 13) (A0 14) 17 (d0.1 6) (G0 6), rowW g.2.2.1 (A0 15) (A0 16) 17 (d0.1 7) (G0 7), rowW g.2.2.1 (A0 17) (A0 18) 17 (d0.1 8) (G0 8), rowW g.2.2.1 (A0 19) (A0 20) 17 (d0.1 9) (G0 9), rowW g.2.2.1 (A0 21) (A0 22) 17 (d0.1 10) (G0 10)] : List va_W)) rfl rfl, rfl⟩
theorem sh_29 (g : yG) (A0 : Nat → Nat) (d0 : RV) (G0 : Nat → Nat → Int32) (n0 : RV) (k0 : Nat → Nat → Int32) : yPick ([dayC A0 n0] ++ dayR g A0 n0 k0 : List va_W) [0, 1, 2, 3, 4, 5, 6, 7, 8, 9, 10, 11, 12] = ([dayC A0 n0] ++ dayR g A0 n0 k0 : List va_W) ∧ yPick ([dayC A0 n0] ++ dayR g A0 n0 k0 : List va_W) [] = yPick ([dayC A0 d0] ++ dayR g A0 d0 G0 : List va_W) [] ∧ ([dayC A0 n0] ++ dayR g A0 n0 k0 : List va_W).length = ([dayC A0 d0] ++ dayR g A0 d0 G0 : List va_W).length := by
  skip; exact ⟨rfl, Eq.trans (b := ([] : List va_W)) rfl rfl, rfl⟩
theorem sh_30 (g : yG) (A0 : Nat → Nat) (d0 : RV) (G0 : Nat → Nat → Int32) : yPick ([dayC A0 d0] ++ dayR g A0 d0 G0 : List va_W) [1] = ([] ++ [rowW g.2.2.1 (A0 1) (A0 2) 3 (d0.1 0) (G0 0)] : List va_W) := rfl
theorem sh_31 (g : yG) (A0 : Nat → Nat) (d0 : RV) (G0 : Nat → Nat → Int32) (A1 : Nat → Nat) (d1 : RV) (G1 : Nat → Nat → Int32) : ([dayC A0 d0, tabC A1 d1] ++ (dayR g A0 d0 G0 ++ tabR g A1 d1 G1) : List va_W).flatten[1]? = some (A1 0, .inr (5, [.ref (A1 1), .ref (A1 3), .ref (A1 5), .ref (A1 7), .ref (A1 9), .int (d1.2 0), .int (d1.2 1), .int (d1.2 2), .int (d1.2 3), .int (d1.2 4)])) := rfl
theorem sh_32 (g : yG) (A0 : Nat → Nat) (d0 : RV) (G0 : Nat → Nat → Int32) (A1 : Nat → Nat) (d1 : RV) (G1 : Nat → Nat → Int32) : yPick ([dayC A0 d0, tabC A1 d1] ++ (dayR g A0 d0 G0 ++ tabR g A1 d1 G1) : List va_W) [14] = ([] ++ [rowW g.2.2.1 (A1 1) (A1 2) 34 (d1.1 0) (G1 0)] : List va_W) := rfl
theorem sh_33 (g : yG) (A0 : Nat → Nat) (d0 : RV) (G0 : Nat → Nat → Int32) (A1 : Nat → Nat) (d1 : RV) (G1 : Nat → Nat → Int32) : ([dayC A0 d0, tabC A1 d1] ++ (dayR g A0 d0 G0 ++ tabR g A1 d1 G1) : List va_W).flatten[0]? = some (A0 0, .inr (0, [.ref (A0 1), .ref (A0 3), .ref (A0 5), .ref (A0 7), .ref (A0 9), .ref (A0 11), .ref (A0 13), .ref (A0 15), .ref (A0 17), .ref (A0 19), .ref (A0 21), .ref (A0 23), .int (d0.2 0), .int (d0.2 1), .int (d0.2 2)])) := rfl
theorem sh_34 (g : yG) (A0 : Nat → Nat) (d0 : RV) (G0 : Nat → Nat → Int32) (A1 : Nat → Nat) (d1 : RV) (G1 : Nat → Nat → Int32) : yPick ([dayC A0 d0, tabC A1 d1] ++ (dayR g A0 d0 G0 ++ tabR g A1 d1 G1) : List va_W) [13] = ([] ++ [rowW g.2.2.1 (A0 23) (A0 24) 34 (d0.1 11) (G0 11)] : List va_W) := rfl
theorem sh_35 (g : yG) (A0 : Nat → Nat) (d0 : RV) (G0 : Nat → Nat → Int32) (A1 : Nat → Nat) (d1 : RV) (G1 : Nat → Nat → Int32) : yPick ([dayC A0 d0, tabC A1 d1] ++ (dayR g A0 d0 G0 ++ tabR g A1 d1 G1) : List va_W) [0, 2, 3, 4, 5, 6, 7, 8, 9, 10, 11, 12, 13] = ([dayC A0 d0] ++ dayR g A0 d0 G0 : List va_W) := rfl
theorem sh_36 (g : yG) (A0 : Nat → Nat) (d0 : RV) (G0 : Nat → Nat → Int32) (A1 : Nat → Nat) (d1 : RV) (G1 : Nat → Nat → Int32) (n0 : RV) (k0 : Nat → Nat → Int32) : yPick ([dayC A0 n0, tabC A1 d1] ++ (dayR g A0 n0 k0 ++ tabR g A1 d1 G1) : List va_W) [0, 2, 3, 4, 5, 6, 7, 8, 9, 10, 11, 12, 13] = ([dayC A0 n0] ++ dayR g A0 n0 k0 : List va_W) ∧ yPick ([dayC A0 n0, tabC A1 d1] ++ (dayR g A0 n0 k0 ++ tabR g A1 d1 G1) : List va_W) [1, 14, 15, 16, 17, 18] = yPick ([dayC A0 d0, tabC A1 d1] ++ (dayR g A0 d0 G0 ++ tabR g A1 d1 G1) : List va_W) [1, 14, 15, 16, 17, 18] ∧ ([dayC A0 n0, tabC A1 d1] ++ (dayR g A0 n0 k0 ++ tabR g A1 d1 G1) : List va_W).length = ([dayC A0 d0, tabC A1 d1] ++ (dayR g A0 d0 G0 ++ tabR g A1 d1 G1) : List va_W).length := by
  skip; exact ⟨rfl, Eq.trans (b := ([tabC A1 d1, rowW g.2.2.1 (A1 1) (A1 2) 34 (d1.1 0) (G1 0), rowW g.2.2.1 (A1 3) (A1 4) 34 (d1.1 1) (G1 1), rowW g.2.2.1 (A1 5) (A1 6) 34 (d1.1 2) (G1 2), rowW g.2.2.1 (A1 7) (A1 8) 17 (d1.1 3) (G1 3), rowW g.2.2.1 (A1 9) (A1 10) 17 (d1.1 4) (G1 4)] : List va_W)) rfl rfl, rfl⟩
theorem sh_37 (g : yG) (A0 : Nat → Nat) (d0 : RV) (G0 : Nat → Nat → Int32) (A1 : Nat → Nat) (d1 : RV) (G1 : Nat → Nat → Int32) (y0 : List Int32) (h0 : Nat → Int32) (n0 : RV) (k0 : Nat → Nat → Int32) (q0 : n0 = rvR d0 11 y0) (p0 : k0 = gs G0 11 h0) : yPick ([dayC A0 n0, tabC A1 d1] ++ (dayR g A0 n0 k0 ++ tabR g A1 d1 G1) : List va_W) [13] = ([] ++ [rowW g.2.2.1 (A0 23) (A0 24) 34 y0 h0] : List va_W) ∧ yPick ([dayC A0 n0, tabC A1 d1] ++ (dayR g A0 n0 k0 ++ tabR g A1 d1 G1) : List va_W) [0, 1, 2, 3, 4, 5, 6, 7, 8, 9, 10, 11, 12, 14, 15, 16, 17, 18] = yPick ([dayC A0 d0, tabC A1 d1] ++ (dayR g A0 d0 G0 ++ tabR g A1 d1 G1) : List va_W) [0, 1, 2, 3, 4, 5, 6, 7, 8, 9, 10, 11, 12, 14, 15, 16, 17, 18] ∧ ([dayC A0 n0, tabC A1 d1] ++ (dayR g A0 n0 k0 ++ tabR g A1 d1 G1) : List va_W).length = ([dayC A0 d0, tabC A1 d1] ++ (dayR g A0 d0 G0 ++ tabR g A1 d1 G1) : List va_W).length := by
  subst q0 p0; rw [dayC_R, dayR_R11]; exact ⟨rfl, Eq.trans (b := ([dayC A0 d0, tabC A1 d1, rowW g.2.2.1 (A0 1) (A0 2) 3 (d0.1 0) (G0 0), rowW g.2.2.1 (A0 3) (A0 4) 12 (d0.1 1) (G0 1), rowW g.2.2.1 (A0 5) (A0 6) 12 (d0.1 2) (G0 2), rowW g.2.2.1 (A0 7) (A0 8) 17 (d0.1 3) (G0 3), rowW g.2.2.1 (A0 9) (A0 10) 17 (d0.1 4) (G0 4), rowW g.2.2.1 (A0 11) (A0 12) 17 (d0.1 5) (G0 5), rowW g.2.2.1 (A0 13) (A0 14) 17 (d0.1 6) (G0 6), rowW g.2.2.1 (A0 15) (A0 16) 17 (d0.1 7) (G0 7), rowW g.2.2.1 (A0 17) (A0 18) 17 (d0.1 8) (G0 8), rowW g.2.2.1 (A0 19) (A0 20) 17 (d0.1 9) (G0 9), rowW g.2.2.1 (A0 21) (A0 22) 17 (d0.1 10) (G0 10), rowW g.2.2.1 (A1 1) (A1 2) 34 (d1.1 0) (G1 0), rowW g.2.2.1 (A1 3) (A1 4) 34 (d1.1 1) (G1 1), rowW g.2.2.1 (A1 5) (A1 6) 34 (d1.1 2) (G1 2), rowW g.2.2.1 (A1 7) (A1 8) 17 (d1.1 3) (G1 3), rowW g.2.2.1 (A1 9) (A1 10) 17 (d1.1 4) (G1 4)] : List va_W)) rfl rfl, rfl⟩
theorem sh_38 (g : yG) (A0 : Nat → Nat) (d0 : RV) (G0 : Nat → Nat → Int32) (A1 : Nat → Nat) (d1 : RV) (G1 : Nat → Nat → Int32) : ([dayC A0 d0, dayC A1 d1] ++ (dayR g A0 d0 G0 ++ dayR g A1 d1 G1) : List va_W).flatten[0]? = some (A0 0, .inr (0, [.ref (A0 1), .ref (A0 3), .ref (A0 5), .ref (A0 7), .ref (A0 9), .ref (A0 11), .ref (A0 13), .ref (A0 15), .ref (A0 17), .ref (A0 19), .ref (A0 21), .ref (A0 23), .int (d0.2 0), .int (d0.2 1), .int (d0.2 2)])) := rfl
theorem sh_39 (g : yG) (A0 : Nat → Nat) (d0 : RV) (G0 : Nat → Nat → Int32) (A1 : Nat → Nat) (d1 : RV) (G1 : Nat → Nat → Int32) : ([dayC A0 d0, dayC A1 d1] ++ (dayR g A0 d0 G0 ++ dayR g A1 d1 G1) : List va_W).flatten[1]? = some (A1 0, .inr (0, [.ref (A1 1), .ref (A1 3), .ref (A1 5), .ref (A1 7), .ref (A1 9), .ref (A1 11), .ref (A1 13), .ref (A1 15), .ref (A1 17), .ref (A1 19), .ref (A1 21), .ref (A1 23), .int (d1.2 0), .int (d1.2 1), .int (d1.2 2)])) := rfl
theorem sh_40 (g : yG) (A0 : Nat → Nat) (d0 : RV) (G0 : Nat → Nat → Int32) (A1 : Nat → Nat) (d1 : RV) (G1 : Nat → Nat → Int32) : yPick ([dayC A0 d0, dayC A1 d1] ++ (dayR g A0 d0 G0 ++ dayR g A1 d1 G1) : List va_W) [2, 14] = ([] ++ ([rowW g.2.2.1 (A0 1) (A0 2) 3 (d0.1 0) (G0 0)] ++ [rowW g.2.2.1 (A1 1) (A1 2) 3 (d1.1 0) (G1 0)]) : List va_W) := rfl
theorem sh_41 (g : yG) (A0 : Nat → Nat) (d0 : RV) (G0 : Nat → Nat → Int32) (A1 : Nat → Nat) (d1 : RV) (G1 : Nat → Nat → Int32) (y0 : List Int32) (h0 : Nat → Int32) (n0 : RV) (k0 : Nat → Nat → Int32) (q0 : n0 = rvR d0 0 y0) (p0 : k0 = gs G0 0 h0) : yPick ([dayC A0 n0, dayC A1 d1] ++ (dayR g A0 n0 k0 ++ dayR g A1 d1 G1) : List va_W) [2, 14] = ([] ++ ([rowW g.2.2.1 (A0 1) (A0 2) 3 y0 h0] ++ [rowW g.2.2.1 (A1 1) (A1 2) 3 (d1.1 0) (G1 0)]) : List va_W) ∧ yPick ([dayC A0 n0, dayC A1 d1] ++ (dayR g A0 n0 k0 ++ dayR g A1 d1 G1) : List va_W) [0, 1, 3, 4, 5, 6, 7, 8, 9, 10, 11, 12, 13, 15, 16, 17, 18, 19, 20, 21, 22, 23, 24, 25] = yPick ([dayC A0 d0, dayC A1 d1] ++ (dayR g A0 d0 G0 ++ dayR g A1 d1 G1) : List va_W) [0, 1, 3, 4, 5, 6, 7, 8, 9, 10, 11, 12, 13, 15, 16, 17, 18, 19, 20, 21, 22, 23, 24, 25] ∧ ([dayC A0 n0, dayC A1 d1] ++ (dayR g A0 n0 k0 ++ dayR g A1 d1 G1) : List va_W).length = ([dayC A0 d0, dayC A1 d1] ++ (dayR g A0 d0 G0 ++ dayR g A1 d1 G1) : List va_W).length := by
  subst q0 p0; rw [dayC_R, dayR_R0]; exact ⟨rfl, Eq.trans (b := ([dayC A0 d0, dayC A1 d1, rowW g.2.2.1 (A0 3) (A0 4) 12 (d0.1 1) (G0 1), rowW g.2.2.1 (A0 5) (A0 6) 12 (d0.1 2) (G0 2), rowW g.2.2.1 (A0 7) (A0 8) 17 (d0.1 3) (G0 3), rowW g.2.2.1 (A0 9) (A0 10) 17 (d0.1 4) (G0 4), rowW g.2.2.1 (A0 11) (A0 12) 17 (d0.1 5) (G0 5), rowW g.2.2.1 (A0 13) (A0 14) 17 (d0.1 6) (G0 6), rowW g.2.2.1 (A0 15) (A0 16) 17 (d0.1 7) (G0 7), rowW g.2.2.1 (A0 17) (A0 18) 17 (d0.1 8) (G0 8), rowW g.2.2.1 (A0 19) (A0 20) 17 (d0.1 9) (G0 9), rowW g.2.2.1 (A0 21) (A0 22) 17 (d0.1 10) (G0 10), rowW g.2.2.1 (A0 23) (A0 24) 34 (d0.1 11) (G0 11), rowW g.2.2.1 (A1 3) (A1 4) 12 (d1.1 1) (G1 1), rowW g.2.2.1 (A1 5) (A1 6) 12 (d1.1 2) (G1 2), rowW g.2.2.1 (A1 7) (A1 8) 17 (d1.1 3) (G1 3), rowW g.2.2.1 (A1 9) (A1 10) 17 (d1.1 4) (G1 4), rowW g.2.2.1 (A1 11) (A1 12) 17 (d1.1 5) (G1 5), rowW g.2.2.1 (A1 13) (A1 14) 17 (d1.1 6) (G1 6), rowW g.2.2.1 (A1 15) (A1 16) 17 (d1.1 7) (G1 7), rowW g.2.2.1 (A1 17) (A1 18) 17 (d1.1 8) (G1 8), rowW g.2.2.1 (A1 19) (A1 20) 17 (d1.1 9) (G1 9), rowW g.2.2.1 (A1 21) (A1 22) 17 (d1.1 10) (G1 10), rowW g.2.2.1 (A1 23) (A1 24) 34 (d1.1 11) (G1 11)] : List va_W)) rfl rfl, rfl⟩
theorem sh_42 (g : yG) (A0 : Nat → Nat) (d0 : RV) (G0 : Nat → Nat → Int32) (A1 : Nat → Nat) (d1 : RV) (G1 : Nat → Nat → Int32) : yPick ([dayC A0 d0, dayC A1 d1] ++ (dayR g A0 d0 G0 ++ dayR g A1 d1 G1) : List va_W) [3, 15] = ([] ++ ([rowW g.2.2.1 (A0 3) (A0 4) 12 (d0.1 1) (G0 1)] ++ [rowW g.2.2.1 (A1 3) (A1 4) 12 (d1.1 1) (G1 1)]) : List va_W) := rfl
theorem sh_43 (g : yG) (A0 : Nat → Nat) (d0 : RV) (G0 : Nat → Nat → Int32) (A1 : Nat → Nat) (d1 : RV) (G1 : Nat → Nat → Int32) (y0 : List Int32) (h0 : Nat → Int32) (n0 : RV) (k0 : Nat → Nat → Int32) (q0 : n0 = rvR d0 1 y0) (p0 : k0 = gs G0 1 h0) : yPick ([dayC A0 n0, dayC A1 d1] ++ (dayR g A0 n0 k0 ++ dayR g A1 d1 G1) : List va_W) [3, 15] = ([] ++ ([rowW g.2.2.1 (A0 3) (A0 4) 12 y0 h0] ++ [rowW g.2.2.1 (A1 3) (A1 4) 12 (d1.1 1) (G1 1)]) : List va_W) ∧ yPick ([dayC A0 n0, dayC A1 d1] ++ (dayR g A0 n0 k0 ++ dayR g A1 d1 G1) : List va_W) [0, 1, 2, 4, 5, 6, 7, 8, 9, 10, 11, 12, 13, 14, 16, 17, 18, 19, 20, 21, 22, 23, 24, 25] = yPick ([dayC A0 d0, dayC A1 d1] ++ (dayR g A0 d0 G0 ++ dayR g A1 d1 G1) : List va_W) [0, 1, 2, 4, 5, 6, 7, 8, 9, 10, 11, 12, 13, 14, 16, 17, 18, 19, 20, 21, 22, 23, 24, 25] ∧ ([dayC A0 n0, dayC A1 d1] ++ (dayR g A0 n0 k0 ++ dayR g A1 d1 G1) : List va_W).length = ([dayC A0 d0, dayC A1 d1] ++ (dayR g A0 d0 G0 ++ dayR g A1 d1 G1) : List va_W).length := by
  subst q0 p0; rw [dayC_R, dayR_R1]; exact ⟨rfl, Eq.trans (b := ([dayC A0 d0, dayC A1 d1, rowW g.2.2.1 (A0 1) (A0 2) 3 (d0.1 0) (G0 0), rowW g.2.2.1 (A0 5) (A0 6) 12 (d0.1 2) (G0 2), rowW g.2.2.1 (A0 7) (A0 8) 17 (d0.1 3) (G0 3), rowW g.2.2.1 (A0 9) (A0 10) 17 (d0.1 4) (G0 4), rowW g.2.2.1 (A0 11) (A0 12) 17 (d0.1 5) (G0 5), rowW g.2.2.1 (A0 13) (A0 14) 17 (d0.1 6) (G0 6), rowW g.2.2.1 (A0 15) (A0 16) 17 (d0.1 7) (G0 7), rowW g.2.2.1 (A0 17) (A0 18) 17 (d0.1 8) (G0 8), rowW g.2.2.1 (A0 19) (A0 20) 17 (d0.1 9) (G0 9), rowW g.2.2.1 (A0 21) (A0 22) 17 (d0.1 10) (G0 10), rowW g.2.2.1 (A0 23) (A0 24) 34 (d0.1 11) (G0 11), rowW g.2.2.1 (A1 1) (A1 2) 3 (d1.1 0) (G1 0), rowW g.2.2.1 (A1 5) (A1 6) 12 (d1.1 2) (G1 2), rowW g.2.2.1 (A1 7) (A1 8) 17 (d1.1 3) (G1 3), rowW g.2.2.1 (A1 9) (A1 10) 17 (d1.1 4) (G1 4), rowW g.2.2.1 (A1 11) (A1 12) 17 (d1.1 5) (G1 5), rowW g.2.2.1 (A1 13) (A1 14) 17 (d1.1 6) (G1 6), rowW g.2.2.1 (A1 15) (A1 16) 17 (d1.1 7) (G1 7), rowW g.2.2.1 (A1 17) (A1 18) 17 (d1.1 8) (G1 8), rowW g.2.2.1 (A1 19) (A1 20) 17 (d1.1 9) (G1 9), rowW g.2.2.1 (A1 21) (A1 22) 17 (d1.1 10) (G1 10), rowW g.2.2.1 (A1 23) (A1 24) 34 (d1.1 11) (G1 11)] : List va_W)) rfl rfl, rfl⟩
theorem sh_44 (g : yG) (A0 : Nat → Nat) (d0 : RV) (G0 : Nat → Nat → Int32) (A1 : Nat → Nat) (d1 : RV) (G1 : Nat → Nat → Int32) : yPick ([dayC A0 d0, dayC A1 d1] ++ (dayR g A0 d0 G0 ++ dayR g A1 d1 G1) : List va_W) [4, 16] = ([] ++ ([rowW g.2.2.1 (A0 5) (A0 6) 12 (d0.1 2) (G0 2)] ++ [rowW g.2.2.1 (A1 5) (A1 6) 12 (d1.1 2) (G1 2)]) : List va_W) := rfl
theorem sh_45 (g : yG) (A0 : Nat → Nat) (d0 : RV) (G0 : Nat → Nat → Int32) (A1 : Nat → Nat) (d1 : RV) (G1 : Nat → Nat → Int32) (y0 : List Int32) (h0 : Nat → Int32) (n0 : RV) (k0 : Nat → Nat → Int32) (q0 : n0 = rvR d0 2 y0) (p0 : k0 = gs G0 2 h0) : yPick ([dayC A0 n0, dayC A1 d1] ++ (dayR g A0 n0 k0 ++ dayR g A1 d1 G1) : List va_W) [4, 16] = ([] ++ ([rowW g.2.2.1 (A0 5) (A0 6) 12 y0 h0] ++ [rowW g.2.2.1 (A1 5) (A1 6) 12 (d1.1 2) (G1 2)]) : List va_W) ∧ yPick ([dayC A0 n0, dayC A1 d1] ++ (dayR g A0 n0 k0 ++ dayR g A1 d1 G1) : List va_W) [0, 1, 2, 3, 5, 6, 7, 8, 9, 10, 11, 12, 13, 14, 15, 17, 18, 19, 20, 21, 22, 23, 24, 25] = yPick ([dayC A0 d0, dayC A1 d1] ++ (dayR g A0 d0 G0 ++ dayR g A1 d1 G1) : List va_W) [0, 1, 2, 3, 5, 6, 7, 8, 9, 10, 11, 12, 13, 14, 15, 17, 18, 19, 20, 21, 22, 23, 24, 25] ∧ ([dayC A0 n0, dayC A1 d1] ++ (dayR g A0 n0 k0 ++ dayR g A1 d1 G1) : List va_W).length = ([dayC A0 d0, dayC A1 d1] ++ (dayR g A0 d0 G0 ++ dayR g A1 d1 G1) : List va_W).length := by
  subst q0 p0; rw [dayC_R, dayR_R2]; exact ⟨rfl, Eq.trans (b := ([dayC A0 d0, dayC A1 d1, rowW g.2.2.1 (A0 1) (A0 2) 3 (d0.1 0) (G0 0), rowW g.2.2.1 (A0 3) (A0 4) 12 (d0.1 1) (G0 1), rowW g.2.2.1 (A0 7) (A0 8) 17 (d0.1 3) (G0 3), rowW g.2.2.1 (A0 9) (A0 10) 17 (d0.1 4) (G0 4), rowW g.2.2.1 (A0 11) (A0 12) 17 (d0.1 5) (G0 5), rowW g.2.2.1 (A0 13) (A0 14) 17 (d0.1 6) (G0 6), rowW g.2.2.1 (A0 15) (A0 16) 17 (d0.1 7) (G0 7), rowW g.2.2.1 (A0 17) (A0 18) 17 (d0.1 8) (G0 8), rowW g.2.2.1 (A0 19) (A0 20) 17 (d0.1 9) (G0 9), rowW g.2.2.1 (A0 21) (A0 22) 17 (d0.1 10) (G0 10), rowW g.2.2.1 (A0 23) (A0 24) 34 (d0.1 11) (G0 11), rowW g.2.2.1 (A1 1) (A1 2) 3 (d1.1 0) (G1 0), rowW g.2.2.1 (A1 3) (A1 4) 12 (d1.1 1) (G1 1), rowW g.2.2.1 (A1 7) (A1 8) 17 (d1.1 3) (G1 3), rowW g.2.2.1 (A1 9) (A1 10) 17 (d1.1 4) (G1 4), rowW g.2.2.1 (A1 11) (A1 12) 17 (d1.1 5) (G1 5), rowW g.2.2.1 (A1 13) (A1 14) 17 (d1.1 6) (G1 6), rowW g.2.2.1 (A1 15) (A1 16) 17 (d1.1 7) (G1 7), rowW g.2.2.1 (A1 17) (A1 18) 17 (d1.1 8) (G1 8), rowW g.2.2.1 (A1 19) (A1 20) 17 (d1.1 9) (G1 9), rowW g.2.2.1 (A1 21) (A1 22) 17 (d1.1 10) (G1 10), rowW g.2.2.1 (A1 23) (A1 24) 34 (d1.1 11) (G1 11)] : List va_W)) rfl rfl, rfl⟩
theorem sh_46 (g : yG) (A0 : Nat → Nat) (d0 : RV) (G0 : Nat → Nat → Int32) (A1 : Nat → Nat) (d1 : RV) (G1 : Nat → Nat → Int32) : yPick ([dayC A0 d0, dayC A1 d1] ++ (dayR g A0 d0 G0 ++ dayR g A1 d1 G1) : List va_W) [5, 17] = ([] ++ ([rowW g.2.2.1 (A0 7) (A0 8) 17 (d0.1 3) (G0 3)] ++ [rowW g.2.2.1 (A1 7) (A1 8) 17 (d1.1 3) (G1 3)]) : List va_W) := rfl
theorem sh_47 (g : yG) (A0 : Nat → Nat) (d0 : RV) (G0 : Nat → Nat → Int32) (A1 : Nat → Nat) (d1 : RV) (G1 : Nat → Nat → Int32) (y0 : List Int32) (h0 : Nat → Int32) (n0 : RV) (k0 : Nat → Nat → Int32) (q0 : n0 = rvR d0 3 y0) (p0 : k0 = gs G0 3 h0) : yPick ([dayC A0 n0, dayC A1 d1] ++ (dayR g A0 n0 k0 ++ dayR g A1 d1 G1) : List va_W) [5, 17] = ([] ++ ([rowW g.2.2.1 (A0 7) (A0 8) 17 y0 h0] ++ [rowW g.2.2.1 (A1 7) (A1 8) 17 (d1.1 3) (G1 3)]) : List va_W) ∧ yPick ([dayC A0 n0, dayC A1 d1] ++ (dayR g A0 n0 k0 ++ dayR g A1 d1 G1) : List va_W) [0, 1, 2, 3, 4, 6, 7, 8, 9, 10, 11, 12, 13, 14, 15, 16, 18, 19, 20, 21, 22, 23, 24, 25] = yPick ([dayC A0 d0, dayC A1 d1] ++ (dayR g A0 d0 G0 ++ dayR g A1 d1 G1) : List va_W) [0, 1, 2, 3, 4, 6, 7, 8, 9, 10, 11, 12, 13, 14, 15, 16, 18, 19, 20, 21, 22, 23, 24, 25] ∧ ([dayC A0 n0, dayC A1 d1] ++ (dayR g A0 n0 k0 ++ dayR g A1 d1 G1) : List va_W).length = ([dayC A0 d0, dayC A1 d1] ++ (dayR g A0 d0 G0 ++ dayR g A1 d1 G1) : List va_W).length := by
  subst q0 p0; rw [dayC_R, dayR_R3]; exact ⟨rfl, Eq.trans (b := ([dayC A0 d0, dayC A1 d1, rowW g.2.2.1 (A0 1) (A0 2) 3 (d0.1 0) (G0 0), rowW g.2.2.1 (A0 3) (A0 4) 12 (d0.1 1) (G0 1), rowW g.2.2.1 (A0 5) (A0 6) 12 (d0.1 2) (G0 2), rowW g.2.2.1 (A0 9) (A0 10) 17 (d0.1 4) (G0 4), rowW g.2.2.1 (A0 11) (A0 12) 17 (d0.1 5) (G0 5), rowW g.2.2.1 (A0 13) (A0 14) 17 (d0.1 6) (G0 6), rowW g.2.2.1 (A0 15) (A0 16) 17 (d0.1 7) (G0 7), rowW g.2.2.1 (A0 17) (A0 18) 17 (d0.1 8) (G0 8), rowW g.2.2.1 (A0 19) (A0 20) 17 (d0.1 9) (G0 9), rowW g.2.2.1 (A0 21) (A0 22) 17 (d0.1 10) (G0 10), rowW g.2.2.1 (A0 23) (A0 24) 34 (d0.1 11) (G0 11), rowW g.2.2.1 (A1 1) (A1 2) 3 (d1.1 0) (G1 0), rowW g.2.2.1 (A1 3) (A1 4) 12 (d1.1 1) (G1 1), rowW g.2.2.1 (A1 5) (A1 6) 12 (d1.1 2) (G1 2), rowW g.2.2.1 (A1 9) (A1 10) 17 (d1.1 4) (G1 4), rowW g.2.2.1 (A1 11) (A1 12) 17 (d1.1 5) (G1 5), rowW g.2.2.1 (A1 13) (A1 14) 17 (d1.1 6) (G1 6), rowW g.2.2.1 (A1 15) (A1 16) 17 (d1.1 7) (G1 7), rowW g.2.2.1 (A1 17) (A1 18) 17 (d1.1 8) (G1 8), rowW g.2.2.1 (A1 19) (A1 20) 17 (d1.1 9) (G1 9), rowW g.2.2.1 (A1 21) (A1 22) 17 (d1.1 10) (G1 10), rowW g.2.2.1 (A1 23) (A1 24) 34 (d1.1 11) (G1 11)] : List va_W)) rfl rfl, rfl⟩
theorem sh_48 (g : yG) (A0 : Nat → Nat) (d0 : RV) (G0 : Nat → Nat → Int32) (A1 : Nat → Nat) (d1 : RV) (G1 : Nat → Nat → Int32) : yPick ([dayC A0 d0, dayC A1 d1] ++ (dayR g A0 d0 G0 ++ dayR g A1 d1 G1) : List va_W) [6, 18] = ([] ++ ([rowW g.2.2.1 (A0 9) (A0 10) 17 (d0.1 4) (G0 4)] ++ [rowW g.2.2.1 (A1 9) (A1 10) 17 (d1.1 4) (G1 4)]) : List va_W) := rfl
theorem sh_49 (g : yG) (A0 : Nat → Nat) (d0 : RV) (G0 : Nat → Nat → Int32) (A1 : Nat → Nat) (d1 : RV) (G1 : Nat → Nat → Int32) (y0 : List Int32) (h0 : Nat → Int32) (n0 : RV) (k0 : Nat → Nat → Int32) (q0 : n0 = rvR d0 4 y0) (p0 : k0 = gs G0 4 h0) : yPick ([dayC A0 n0, dayC A1 d1] ++ (dayR g A0 n0 k0 ++ dayR g A1 d1 G1) : List va_W) [6, 18] = ([] ++ ([rowW g.2.2.1 (A0 9) (A0 10) 17 y0 h0] ++ [rowW g.2.2.1 (A1 9) (A1 10) 17 (d1.1 4) (G1 4)]) : List va_W) ∧ yPick ([dayC A0 n0, dayC A1 d1] ++ (dayR g A0 n0 k0 ++ dayR g A1 d1 G1) : List va_W) [0, 1, 2, 3, 4, 5, 7, 8, 9, 10, 11, 12, 13, 14, 15, 16, 17, 19, 20, 21, 22, 23, 24, 25] = yPick ([dayC A0 d0, dayC A1 d1] ++ (dayR g A0 d0 G0 ++ dayR g A1 d1 G1) : List va_W) [0, 1, 2, 3, 4, 5, 7, 8, 9, 10, 11, 12, 13, 14, 15, 16, 17, 19, 20, 21, 22, 23, 24, 25] ∧ ([dayC A0 n0, dayC A1 d1] ++ (dayR g A0 n0 k0 ++ dayR g A1 d1 G1) : List va_W).length = ([dayC A0 d0, dayC A1 d1] ++ (dayR g A0 d0 G0 ++ dayR g A1 d1 G1) : List va_W).length := by
  subst q0 p0; rw [dayC_R, dayR_R4]; exact ⟨rfl, Eq.trans (b := ([dayC A0 d0, dayC A1 d1, rowW g.2.2.1 (A0 1) (A0 2) 3 (d0.1 0) (G0 0), rowW g.2.2.1 (A0 3) (A0 4) 12 (d0.1 1) (G0 1), rowW g.2.2.1 (A0 5) (A0 6) 12 (d0.1 2) (G0 2), rowW g.2.2.1 (A0 7) (A0 8) 17 (d0.1 3) (G0 3), rowW g.2.2.1 (A0 11) (A0 12) 17 (d0.1 5) (G0 5), rowW g.2.2.1 (A0 13) (A0 14) 17 (d0.1 6) (G0 6), rowW g.2.2.1 (A0 15) (A0 16) 17 (d0.1 7) (G0 7), rowW g.2.2.1 (A0 17) (A0 18) 17 (d0.1 8) (G0 8), rowW g.2.2.1 (A0 19) (A0 20) 17 (d0.1 9) (G0 9), rowW g.2.2.1 (A0 21) (A0 22) 17 (d0.1 10) (G0 10), rowW g.2.2.1 (A0 23) (A0 24) 34 (d0.1 11) (G0 11), rowW g.2.2.1 (A1 1) (A1 2) 3 (d1.1 0) (G1 0), rowW g.2.2.1 (A1 3) (A1 4) 12 (d1.1 1) (G1 1), rowW g.2.2.1 (A1 5) (A1 6) 12 (d1.1 2) (G1 2), rowW g.2.2.1 (A1 7) (A1 8) 17 (d1.1 3) (G1 3), rowW g.2.2.1 (A1 11) (A1 12) 17 (d1.1 5) (G1 5), rowW g.2.2.1 (A1 13) (A1 14) 17 (d1.1 6) (G1 6), rowW g.2.2.1 (A1 15) (A1 16) 17 (d1.1 7) (G1 7), rowW g.2.2.1 (A1 17) (A1 18) 17 (d1.1 8) (G1 8), rowW g.2.2.1 (A1 19) (A1 20) 17 (d1.1 9) (G1 9), rowW g.2.2.1 (A1 21) (A1 22) 17 (d1.1 10) (G1 10), rowW g.2.2.1 (A1 23) (A1 24) 34 (d1.1 11) (G1 11)] : List va_W)) rfl rfl, rfl⟩
theorem sh_50 (g : yG) (A0 : Nat → Nat) (d0 : RV) (G0 : Nat → Nat → Int32) (A1 : Nat → Nat) (d1 : RV) (G1 : Nat → Nat → Int32) : yPick ([dayC A0 d0, dayC A1 d1] ++ (dayR g A0 d0 G0 ++ dayR g A1 d1 G1) : List va_W) [7, 19] = ([] ++ ([rowW g.2.2.1 (A0 11) (A0 12) 17 (d0.1 5) (G0 5)] ++ [rowW g.2.2.1 (A1 11) (A1 12) 17 (d1.1 5) (G1 5)]) : List va_W) := rfl
theorem sh_51 (g : yG) (A0 : Nat → Nat) (d0 : RV) (G0 : Nat → Nat → Int32) (A1 : Nat → Nat) (d1 : RV) (G1 : Nat → Nat → Int32) (y0 : List Int32) (h0 : Nat → Int32) (n0 : RV) (k0 : Nat → Nat → Int32) (q0 : n0 = rvR d0 5 y0) (p0 : k0 = gs G0 5 h0) : yPick ([dayC A0 n0, dayC A1 d1] ++ (dayR g A0 n0 k0 ++ dayR g A1 d1 G1) : List va_W) [7, 19] = ([] ++ ([rowW g.2.2.1 (A0 11) (A0 12) 17 y0 h0] ++ [rowW g.2.2.1 (A1 11) (A1 12) 17 (d1.1 5) (G1 5)]) : List va_W) ∧ yPick ([dayC A0 n0, dayC A1 d1] ++ (dayR g A0 n0 k0 ++ dayR g A1 d1 G1) : List va_W) [0, 1, 2, 3, 4, 5, 6, 8, 9, 10, 11, 12, 13, 14, 15, 16, 17, 18, 20, 21, 22, 23, 24, 25] = yPick ([dayC A0 d0, dayC A1 d1] ++ (dayR g A0 d0 G0 ++ dayR g A1 d1 G1) : List va_W) [0, 1, 2, 3, 4, 5, 6, 8, 9, 10, 11, 12, 13, 14, 15, 16, 17, 18, 20, 21, 22, 23, 24, 25] ∧ ([dayC A0 n0, dayC A1 d1] ++ (dayR g A0 n0 k0 ++ dayR g A1 d1 G1) : List va_W).length = ([dayC A0 d0, dayC A1 d1] ++ (dayR g A0 d0 G0 ++ dayR g A1 d1 G1) : List va_W).length := by
  subst q0 p0; rw [dayC_R, dayR_R5]; exact ⟨rfl, Eq.trans (b := ([dayC A0 d0, dayC A1 d1, rowW g.2.2.1 (A0 1) (A0 2) 3 (d0.1 0) (G0 0), rowW g.2.2.1 (A0 3) (A0 4) 12 (d0.1 1) (G0 1), rowW g.2.2.1 (A0 5) (A0 6) 12 (d0.1 2) (G0 2), rowW g.2.2.1 (A0 7) (A0 8) 17 (d0.1 3) (G0 3), rowW g.2.2.1 (A0 9) (A0 10) 17 (d0.1 4) (G0 4), rowW g.2.2.1 (A0 13) (A0 14) 17 (d0.1 6) (G0 6), rowW g.2.2.1 (A0 15) (A0 16) 17 (d0.1 7) (G0 7), rowW g.2.2.1 (A0 17) (A0 18) 17 (d0.1 8) (G0 8), rowW g.2.2.1 (A0 19) (A0 20) 17 (d0.1 9) (G0 9), rowW g.2.2.1 (A0 21) (A0 22) 17 (d0.1 10) (G0 10), rowW g.2.2.1 (A0 23) (A0 24) 34 (d0.1 11) (G0 11), rowW g.2.2.1 (A1 1) (A1 2) 3 (d1.1 0) (G1 0), rowW g.2.2.1 (A1 3) (A1 4) 12 (d1.1 1) (G1 1), rowW g.2.2.1 (A1 5) (A1 6) 12 (d1.1 2) (G1 2), rowW g.2.2.1 (A1 7) (A1 8) 17 (d1.1 3) (G1 3), rowW g.2.2.1 (A1 9) (A1 10) 17 (d1.1 4) (G1 4), rowW g.2.2.1 (A1 13) (A1 14) 17 (d1.1 6) (G1 6), rowW g.2.2.1 (A1 15) (A1 16) 17 (d1.1 7) (G1 7), rowW g.2.2.1 (A1 17) (A1 18) 17 (d1.1 8) (G1 8), rowW g.2.2.1 (A1 19) (A1 20) 17 (d1.1 9) (G1 9), rowW g.2.2.1 (A1 21) (A1 22) 17 (d1.1 10) (G1 10), rowW g.2.2.1 (A1 23) (A1 24) 34 (d1.1 11) (G1 11)] : List va_W)) rfl rfl, rfl⟩
theorem sh_52 (g : yG) (A0 : Nat → Nat) (d0 : RV) (G0 : Nat → Nat → Int32) (A1 : Nat → Nat) (d1 : RV) (G1 : Nat → Nat → Int32) : yPick ([dayC A0 d0, dayC A1 d1] ++ (dayR g A0 d0 G0 ++ dayR g A1 d1 G1) : List va_W) [8, 20] = ([] ++ ([rowW g.2.2.1 (A0 13) (A0 14) 17 (d0.1 6) (G0 6)] ++ [rowW g.2.2.1 (A1 13) (A1 14) 17 (d1.1 6) (G1 6)]) : List va_W) := rfl
theorem sh_53 (g : yG) (A0 : Nat → Nat) (d0 : RV) (G0 : Nat → Nat → Int32) (A1 : Nat → Nat) (d1 : RV) (G1 : Nat → Nat → Int32) (y0 : List Int32) (h0 : Nat → Int32) (n0 : RV) (k0 : Nat → Nat → Int32) (q0 : n0 = rvR d0 6 y0) (p0 : k0 = gs G0 6 h0) : yPick ([dayC A0 n0, dayC A1 d1] ++ (dayR g A0 n0 k0 ++ dayR g A1 d1 G1) : List va_W) [8, 20] = ([] ++ ([rowW g.2.2.1 (A0 13) (A0 14) 17 y0 h0] ++ [rowW g.2.2.1 (A1 13) (A1 14) 17 (d1.1 6) (G1 6)]) : List va_W) ∧ yPick ([dayC A0 n0, dayC A1 d1] ++ (dayR g A0 n0 k0 ++ dayR g A1 d1 G1) : List va_W) [0, 1, 2, 3, 4, 5, 6, 7, 9, 10, 11, 12, 13, 14, 15, 16, 17, 18, 19, 21, 22, 23, 24, 25] = yPick ([dayC A0 d0, dayC A1 d1] ++ (dayR g A0 d0 G0 ++ dayR g A1 d1 G1) : List va_W) [0, 1, 2, 3, 4, 5, 6, 7, 9, 10, 11, 12, 13, 14, 15, 16, 17, 18, 19, 21, 22, 23, 24, 25] ∧ ([dayC A0 n0, dayC A1 d1] ++ (dayR g A0 n0 k0 ++ dayR g A1 d1 G1) : List va_W).length = ([dayC A0 d0, dayC A1 d1] ++ (dayR g A0 d0 G0 ++ dayR g A1 d1 G1) : List va_W).length := by
  subst q0 p0; rw [dayC_R, dayR_R6]; exact ⟨rfl, Eq.trans (b := ([dayC A0 d0, dayC A1 d1, rowW g.2.2.1 (A0 1) (A0 2) 3 (d0.1 0) (G0 0), rowW g.2.2.1 (A0 3) (A0 4) 12 (d0.1 1) (G0 1), rowW g.2.2.1 (A0 5) (A0 6) 12 (d0.1 2) (G0 2), rowW g.2.2.1 (A0 7) (A0 8) 17 (d0.1 3) (G0 3), rowW g.2.2.1 (A0 9) (A0 10) 17 (d0.1 4) (G0 4), rowW g.2.2.1 (A0 11) (A0 12) 17 (d0.1 5) (G0 5), rowW g.2.2.1 (A0 15) (A0 16) 17 (d0.1 7) (G0 7), rowW g.2.2.1 (A0 17) (A0 18) 17 (d0.1 8) (G0 8), rowW g.2.2.1 (A0 19) (A0 20) 17 (d0.1 9) (G0 9), rowW g.2.2.1 (A0 21) (A0 22) 17 (d0.1 10) (G0 10), rowW g.2.2.1 (A0 23) (A0 24) 34 (d0.1 11) (G0 11), rowW g.2.2.1 (A1 1) (A1 2) 3 (d1.1 0) (G1 0), rowW g.2.2.1 (A1 3) (A1 4) 12 (d1.1 1) (G1 1), rowW g.2.2.1 (A1 5) (A1 6) 12 (d1.1 2) (G1 2), rowW g.2.2.1 (A1 7) (A1 8) 17 (d1.1 3) (G1 3), rowW g.2.2.1 (A1 9) (A1 10) 17 (d1.1 4) (G1 4), rowW g.2.2.1 (A1 11) (A1 12) 17 (d1.1 5) (G1 5), rowW g.2.2.1 (A1 15) (A1 16) 17 (d1.1 7) (G1 7), rowW g.2.2.1 (A1 17) (A1 18) 17 (d1.1 8) (G1 8), rowW g.2.2.1 (A1 19) (A1 20) 17 (d1.1 9) (G1 9), rowW g.2.2.1 (A1 21) (A1 22) 17 (d1.1 10) (G1 10), rowW g.2.2.1 (A1 23) (A1 24) 34 (d1.1 11) (G1 11)] : List va_W)) rfl rfl, rfl⟩
theorem sh_54 (g : yG) (A0 : Nat → Nat) (d0 : RV) (G0 : Nat → Nat → Int32) (A1 : Nat → Nat) (d1 : RV) (G1 : Nat → Nat → Int32) : yPick ([dayC A0 d0, dayC A1 d1] ++ (dayR g A0 d0 G0 ++ dayR g A1 d1 G1) : List va_W) [9, 21] = ([] ++ ([rowW g.2.2.1 (A0 15) (A0 16) 17 (d0.1 7) (G0 7)] ++ [rowW g.2.2.1 (A1 15) (A1 16) 17 (d1.1 7) (G1 7)]) : List va_W) := rfl
theorem sh_55 (g : yG) (A0 : Nat → Nat) (d0 : RV) (G0 : Nat → Nat → Int32) (A1 : Nat → Nat) (d1 : RV) (G1 : Nat → Nat → Int32) (y0 : List Int32) (h0 : Nat → Int32) (n0 : RV) (k0 : Nat → Nat → Int32) (q0 : n0 = rvR d0 7 y0) (p0 : k0 = gs G0 7 h0) : yPick ([dayC A0 n0, dayC A1 d1] ++ (dayR g A0 n0 k0 ++ dayR g A1 d1 G1) : List va_W) [9, 21] = ([] ++ ([rowW g.2.2.1 (A0 15) (A0 16) 17 y0 h0] ++ [rowW g.2.2.1 (A1 15) (A1 16) 17 (d1.1 7) (G1 7)]) : List va_W) ∧ yPick ([dayC A0 n0, dayC A1 d1] ++ (dayR g A0 n0 k0 ++ dayR g A1 d1 G1) : List va_W) [0, 1, 2, 3, 4, 5, 6, 7, 8, 10, 11, 12, 13, 14, 15, 16, 17, 18, 19, 20, 22, 23, 24, 25] = yPick ([dayC A0 d0, dayC A1 d1] ++ (dayR g A0 d0 G0 ++ dayR g A1 d1 G1) : List va_W) [0, 1, 2, 3, 4, 5, 6, 7, 8, 10, 11, 12, 13, 14, 15, 16, 17, 18, 19, 20, 22, 23, 24, 25] ∧ ([dayC A0 n0, dayC A1 d1] ++ (dayR g A0 n0 k0 ++ dayR g A1 d1 G1) : List va_W).length = ([dayC A0 d0, dayC A1 d1] ++ (dayR g A0 d0 G0 ++ dayR g A1 d1 G1) : List va_W).length := by
  subst q0 p0; rw [dayC_R, dayR_R7]; exact ⟨rfl, Eq.trans (b := ([dayC A0 d0, dayC A1 d1, rowW g.2.2.1 (A0 1) (A0 2) 3 (d0.1 0) (G0 0), rowW g.2.2.1 (A0 3) (A0 4) 12 (d0.1 1) (G0 1), rowW g.2.2.1 (A0 5) (A0 6) 12 (d0.1 2) (G0 2), rowW g.2.2.1 (A0 7) (A0 8) 17 (d0.1 3) (G0 3), rowW g.2.2.1 (A0 9) (A0 10) 17 (d0.1 4) (G0 4), rowW g.2.2.1 (A0 11) (A0 12) 17 (d0.1 5) (G0 5), rowW g.2.2.1 (A0 13) (A0 14) 17 (d0.1 6) (G0 6), rowW g.2.2.1 (A0 17) (A0 18) 17 (d0.1 8) (G0 8), rowW g.2.2.1 (A0 19) (A0 20) 17 (d0.1 9) (G0 9), rowW g.2.2.1 (A0 21) (A0 22) 17 (d0.1 10) (G0 10), rowW g.2.2.1 (A0 23) (A0 24) 34 (d0.1 11) (G0 11), rowW g.2.2.1 (A1 1) (A1 2) 3 (d1.1 0) (G1 0), rowW g.2.2.1 (A1 3) (A1 4) 12 (d1.1 1) (G1 1), rowW g.2.2.1 (A1 5) (A1 6) 12 (d1.1 2) (G1 2), rowW g.2.2.1 (A1 7) (A1 8) 17 (d1.1 3) (G1 3), rowW g.2.2.1 (A1 9) (A1 10) 17 (d1.1 4) (G1 4), rowW g.2.2.1 (A1 11) (A1 12) 17 (d1.1 5) (G1 5), rowW g.2.2.1 (A1 13) (A1 14) 17 (d1.1 6) (G1 6), rowW g.2.2.1 (A1 17) (A1 18) 17 (d1.1 8) (G1 8), rowW g.2.2.1 (A1 19) (A1 20) 17 (d1.1 9) (G1 9), rowW g.2.2.1 (A1 21) (A1 22) 17 (d1.1 10) (G1 10), rowW g.2.2.1 (A1 23) (A1 24) 34 (d1.1 11) (G1 11)] : List va_W)) rfl rfl, rfl⟩
theorem sh_56 (g : yG) (A0 : Nat → Nat) (d0 : RV) (G0 : Nat → Nat → Int32) (A1 : Nat → Nat) (d1 : RV) (G1 : Nat → Nat → Int32) : yPick ([dayC A0 d0, dayC A1 d1] ++ (dayR g A0 d0 G0 ++ dayR g A1 d1 G1) : List va_W) [10, 22] = ([] ++ ([rowW g.2.2.1 (A0 17) (A0 18) 17 (d0.1 8) (G0 8)] ++ [rowW g.2.2.1 (A1 17) (A1 18) 17 (d1.1 8) (G1 8)]) : List va_W) := rfl
theorem sh_57 (g : yG) (A0 : Nat → Nat) (d0 : RV) (G0 : Nat → Nat → Int32) (A1 : Nat → Nat) (d1 : RV) (G1 : Nat → Nat → Int32) (y0 : List Int32) (h0 : Nat → Int32) (n0 : RV) (k0 : Nat → Nat → Int32) (q0 : n0 = rvR d0 8 y0) (p0 : k0 = gs G0 8 h0) : yPick ([dayC A0 n0, dayC A1 d1] ++ (dayR g A0 n0 k0 ++ dayR g A1 d1 G1) : List va_W) [10, 22] = ([] ++ ([rowW g.2.2.1 (A0 17) (A0 18) 17 y0 h0] ++ [rowW g.2.2.1 (A1 17) (A1 18) 17 (d1.1 8) (G1 8)]) : List va_W) ∧ yPick ([dayC A0 n0, dayC A1 d1] ++ (dayR g A0 n0 k0 ++ dayR g A1 d1 G1) : List va_W) [0, 1, 2, 3, 4, 5, 6, 7, 8, 9, 11, 12, 13, 14, 15, 16, 17, 18, 19, 20, 21, 23, 24, 25] = yPick ([dayC A0 d0, dayC A1 d1] ++ (dayR g A0 d0 G0 ++ dayR g A1 d1 G1) : List va_W) [0, 1, 2, 3, 4, 5, 6, 7, 8, 9, 11, 12, 13, 14, 15, 16, 17, 18, 19, 20, 21, 23, 24, 25] ∧ ([dayC A0 n0, dayC A1 d1] ++ (dayR g A0 n0 k0 ++ dayR g A1 d1 G1) : List va_W).length = ([dayC A0 d0, dayC A1 d1] ++ (dayR g A0 d0 G0 ++ dayR g A1 d1 G1) : List va_W).length := by
  subst q0 p0; rw [dayC_R, dayR_R8]; exact ⟨rfl, Eq.trans (b := ([dayC A0 d0, dayC A1 d1, rowW g.2.2.1 (A0 1) (A0 2) 3 (d0.1 0) (G0 0), rowW g.2.2.1 (A0 3) (A0 4) 12 (d0.1 1) (G0 1), rowW g.2.2.1 (A0 5) (A0 6) 12 (d0.1 2) (G0 2), rowW g.2.2.1 (A0 7) (A0 8) 17 (d0.1 3) (G0 3), rowW g.2.2.1 (A0 9) (A0 10) 17 (d0.1 4) (G0 4), rowW g.2.2.1 (A0 11) (A0 12) 17 (d0.1 5) (G0 5), rowW g.2.2.1 (A0 13) (A0 14) 17 (d0.1 6) (G0 6), rowW g.2.2.1 (A0 15) (A0 16) 17 (d0.1 7) (G0 7), rowW g.2.2.1 (A0 19) (A0 20) 17 (d0.1 9) (G0 9), rowW g.2.2.1 (A0 21) (A0 22) 17 (d0.1 10) (G0 10), rowW g.2.2.1 (A0 23) (A0 24) 34 (d0.1 11) (G0 11), rowW g.2.2.1 (A1 1) (A1 2) 3 (d1.1 0) (G1 0), rowW g.2.2.1 (A1 3) (A1 4) 12 (d1.1 1) (G1 1), rowW g.2.2.1 (A1 5) (A1 6) 12 (d1.1 2) (G1 2), rowW g.2.2.1 (A1 7) (A1 8) 17 (d1.1 3) (G1 3), rowW g.2.2.1 (A1 9) (A1 10) 17 (d1.1 4) (G1 4), rowW g.2.2.1 (A1 11) (A1 12) 17 (d1.1 5) (G1 5), rowW g.2.2.1 (A1 13) (A1 14) 17 (d1.1 6) (G1 6), rowW g.2.2.1 (A1 15) (A1 16) 17 (d1.1 7) (G1 7), rowW g.2.2.1 (A1 19) (A1 20) 17 (d1.1 9) (G1 9), rowW g.2.2.1 (A1 21) (A1 22) 17 (d1.1 10) (G1 10), rowW g.2.2.1 (A1 23) (A1 24) 34 (d1.1 11) (G1 11)] : List va_W)) rfl rfl, rfl⟩
theorem sh_58 (g : yG) (A0 : Nat → Nat) (d0 : RV) (G0 : Nat → Nat → Int32) (A1 : Nat → Nat) (d1 : RV) (G1 : Nat → Nat → Int32) : yPick ([dayC A0 d0, dayC A1 d1] ++ (dayR g A0 d0 G0 ++ dayR g A1 d1 G1) : List va_W) [11, 23] = ([] ++ ([rowW g.2.2.1 (A0 19) (A0 20) 17 (d0.1 9) (G0 9)] ++ [rowW g.2.2.1 (A1 19) (A1 20) 17 (d1.1 9) (G1 9)]) : List va_W) := rfl
theorem sh_59 (g : yG) (A0 : Nat → Nat) (d0 : RV) (G0 : Nat → Nat → Int32) (A1 : Nat → Nat) (d1 : RV) (G1 : Nat → Nat → Int32) (y0 : List Int32) (h0 : Nat → Int32) (n0 : RV) (k0 : Nat → Nat → Int32) (q0 : n0 = rvR d0 9 y0) (p0 : k0 = gs G0 9 h0) : yPick ([dayC A0 n0, dayC A1 d1] ++ (dayR g A0 n0 k0 ++ dayR g A1 d1 G1) : List va_W) [11, 23] = ([] ++ ([rowW g.2.2.1 (A0 19) (A0 20) 17 y0 h0] ++ [rowW g.2.2.1 (A1 19) (A1 20) 17 (d1.1 9) (G1 9)]) : List va_W) ∧ yPick ([dayC A0 n0, dayC A1 d1] ++ (dayR g A0 n0 k0 ++ dayR g A1 d1 G1) : List va_W) [0, 1, 2, 3, 4, 5, 6, 7, 8, 9, 10, 12, 13, 14, 15, 16, 17, 18, 19, 20, 21, 22, 24, 25] = yPick ([dayC A0 d0, dayC A1 d1] ++ (dayR g A0 d0 G0 ++ dayR g A1 d1 G1) : List va_W) [0, 1, 2, 3, 4, 5, 6, 7, 8, 9, 10, 12, 13, 14, 15, 16, 17, 18, 19, 20, 21, 22, 24, 25] ∧ ([dayC A0 n0, dayC A1 d1] ++ (dayR g A0 n0 k0 ++ dayR g A1 d1 G1) : List va_W).length = ([dayC A0 d0, dayC A1 d1] ++ (dayR g A0 d0 G0 ++ dayR g A1 d1 G1) : List va_W).length := by
  subst q0 p0; rw [dayC_R, dayR_R9]; exact ⟨rfl, Eq.trans (b := ([dayC A0 d0, dayC A1 d1, rowW g.2.2.1 (A0 1) (A0 2) 3 (d0.1 0) (G0 0), rowW g.2.2.1 (A0 3) (A0 4) 12 (d0.1 1) (G0 1), rowW g.2.2.1 (A0 5) (A0 6) 12 (d0.1 2) (G0 2), rowW g.2.2.1 (A0 7) (A0 8) 17 (d0.1 3) (G0 3), rowW g.2.2.1 (A0 9) (A0 10) 17 (d0.1 4) (G0 4), rowW g.2.2.1 (A0 11) (A0 12) 17 (d0.1 5) (G0 5), rowW g.2.2.1 (A0 13) (A0 14) 17 (d0.1 6) (G0 6), rowW g.2.2.1 (A0 15) (A0 16) 17 (d0.1 7) (G0 7), rowW g.2.2.1 (A0 17) (A0 18) 17 (d0.1 8) (G0 8), rowW g.2.2.1 (A0 21) (A0 22) 17 (d0.1 10) (G0 10), rowW g.2.2.1 (A0 23) (A0 24) 34 (d0.1 11) (G0 11), rowW g.2.2.1 (A1 1) (A1 2) 3 (d1.1 0) (G1 0), rowW g.2.2.1 (A1 3) (A1 4) 12 (d1.1 1) (G1 1), rowW g.2.2.1 (A1 5) (A1 6) 12 (d1.1 2) (G1 2), rowW g.2.2.1 (A1 7) (A1 8) 17 (d1.1 3) (G1 3), rowW g.2.2.1 (A1 9) (A1 10) 17 (d1.1 4) (G1 4), rowW g.2.2.1 (A1 11) (A1 12) 17 (d1.1 5) (G1 5), rowW g.2.2.1 (A1 13) (A1 14) 17 (d1.1 6) (G1 6), rowW g.2.2.1 (A1 15) (A1 16) 17 (d1.1 7) (G1 7), rowW g.2.2.1 (A1 17) (A1 18) 17 (d1.1 8) (G1 8), rowW g.2.2.1 (A1 21) (A1 22) 17 (d1.1 10) (G1 10), rowW g.2.2.1 (A1 23) (A1 24) 34 (d1.1 11) (G1 11)] : List va_W)) rfl rfl, rfl⟩
theorem sh_60 (g : yG) (A0 : Nat → Nat) (d0 : RV) (G0 : Nat → Nat → Int32) (A1 : Nat → Nat) (d1 : RV) (G1 : Nat → Nat → Int32) : yPick ([dayC A0 d0, dayC A1 d1] ++ (dayR g A0 d0 G0 ++ dayR g A1 d1 G1) : List va_W) [12, 24] = ([] ++ ([rowW g.2.2.1 (A0 21) (A0 22) 17 (d0.1 10) (G0 10)] ++ [rowW g.2.2.1 (A1 21) (A1 22) 17 (d1.1 10) (G1 10)]) : List va_W) := rfl
theorem sh_61 (g : yG) (A0 : Nat → Nat) (d0 : RV) (G0 : Nat → Nat → Int32) (A1 : Nat → Nat) (d1 : RV) (G1 : Nat → Nat → Int32) (y0 : List Int32) (h0 : Nat → Int32) (n0 : RV) (k0 : Nat → Nat → Int32) (q0 : n0 = rvR d0 10 y0) (p0 : k0 = gs G0 10 h0) : yPick ([dayC A0 n0, dayC A1 d1] ++ (dayR g A0 n0 k0 ++ dayR g A1 d1 G1) : List va_W) [12, 24] = ([] ++ ([rowW g.2.2.1 (A0 21) (A0 22) 17 y0 h0] ++ [rowW g.2.2.1 (A1 21) (A1 22) 17 (d1.1 10) (G1 10)]) : List va_W) ∧ yPick ([dayC A0 n0, dayC A1 d1] ++ (dayR g A0 n0 k0 ++ dayR g A1 d1 G1) : List va_W) [0, 1, 2, 3, 4, 5, 6, 7, 8, 9, 10, 11, 13, 14, 15, 16, 17, 18, 19, 20, 21, 22, 23, 25] = yPick ([dayC A0 d0, dayC A1 d1] ++ (dayR g A0 d0 G0 ++ dayR g A1 d1 G1) : List va_W) [0, 1, 2, 3, 4, 5, 6, 7, 8, 9, 10, 11, 13, 14, 15, 16, 17, 18, 19, 20, 21, 22, 23, 25] ∧ ([dayC A0 n0, dayC A1 d1] ++ (dayR g A0 n0 k0 ++ dayR g A1 d1 G1) : List va_W).length = ([dayC A0 d0, dayC A1 d1] ++ (dayR g A0 d0 G0 ++ dayR g A1 d1 G1) : List va_W).length := by
  subst q0 p0; rw [dayC_R, dayR_R10]; exact ⟨rfl, Eq.trans (b := ([dayC A0 d0, dayC A1 d1, rowW g.2.2.1 (A0 1) (A0 2) 3 (d0.1 0) (G0 0), rowW g.2.2.1 (A0 3) (A0 4) 12 (d0.1 1) (G0 1), rowW g.2.2.1 (A0 5) (A0 6) 12 (d0.1 2) (G0 2), rowW g.2.2.1 (A0 7) (A0 8) 17 (d0.1 3) (G0 3), rowW g.2.2.1 (A0 9) (A0 10) 17 (d0.1 4) (G0 4), rowW g.2.2.1 (A0 11) (A0 12) 17 (d0.1 5) (G0 5), rowW g.2.2.1 (A0 13) (A0 14) 17 (d0.1 6) (G0 6), rowW g.2.2.1 (A0 15) (A0 16) 17 (d0.1 7) (G0 7), rowW g.2.2.1 (A0 17) (A0 18) 17 (d0.1 8) (G0 8), rowW g.2.2.1 (A0 19) (A0 20) 17 (d0.1 9) (G0 9), rowW g.2.2.1 (A0 23) (A0 24) 34 (d0.1 11) (G0 11), rowW g.2.2.1 (A1 1) (A1 2) 3 (d1.1 0) (G1 0), rowW g.2.2.1 (A1 3) (A1 4) 12 (d1.1 1) (G1 1), rowW g.2.2.1 (A1 5) (A1 6) 12 (d1.1 2) (G1 2), rowW g.2.2.1 (A1 7) (A1 8) 17 (d1.1 3) (G1 3), rowW g.2.2.1 (A1 9) (A1 10) 17 (d1.1 4) (G1 4), rowW g.2.2.1 (A1 11) (A1 12) 17 (d1.1 5) (G1 5), rowW g.2.2.1 (A1 13) (A1 14) 17 (d1.1 6) (G1 6), rowW g.2.2.1 (A1 15) (A1 16) 17 (d1.1 7) (G1 7), rowW g.2.2.1 (A1 17) (A1 18) 17 (d1.1 8) (G1 8), rowW g.2.2.1 (A1 19) (A1 20) 17 (d1.1 9) (G1 9), rowW g.2.2.1 (A1 23) (A1 24) 34 (d1.1 11) (G1 11)] : List va_W)) rfl rfl, rfl⟩
theorem sh_62 (g : yG) (A0 : Nat → Nat) (d0 : RV) (G0 : Nat → Nat → Int32) (A1 : Nat → Nat) (d1 : RV) (G1 : Nat → Nat → Int32) : yPick ([dayC A0 d0, dayC A1 d1] ++ (dayR g A0 d0 G0 ++ dayR g A1 d1 G1) : List va_W) [13, 25] = ([] ++ ([rowW g.2.2.1 (A0 23) (A0 24) 34 (d0.1 11) (G0 11)] ++ [rowW g.2.2.1 (A1 23) (A1 24) 34 (d1.1 11) (G1 11)]) : List va_W) := rfl
theorem sh_63 (g : yG) (A0 : Nat → Nat) (d0 : RV) (G0 : Nat → Nat → Int32) (A1 : Nat → Nat) (d1 : RV) (G1 : Nat → Nat → Int32) (y0 : List Int32) (h0 : Nat → Int32) (n0 : RV) (k0 : Nat → Nat → Int32) (q0 : n0 = rvR d0 11 y0) (p0 : k0 = gs G0 11 h0) : yPick ([dayC A0 n0, dayC A1 d1] ++ (dayR g A0 n0 k0 ++ dayR g A1 d1 G1) : List va_W) [13, 25] = ([] ++ ([rowW g.2.2.1 (A0 23) (A0 24) 34 y0 h0] ++ [rowW g.2.2.1 (A1 23) (A1 24) 34 (d1.1 11) (G1 11)]) : List va_W) ∧ yPick ([dayC A0 n0, dayC A1 d1] ++ (dayR g A0 n0 k0 ++ dayR g A1 d1 G1) : List va_W) [0, 1, 2, 3, 4, 5, 6, 7, 8, 9, 10, 11, 12, 14, 15, 16, 17, 18, 19, 20, 21, 22, 23, 24] = yPick ([dayC A0 d0, dayC A1 d1] ++ (dayR g A0 d0 G0 ++ dayR g A1 d1 G1) : List va_W) [0, 1, 2, 3, 4, 5, 6, 7, 8, 9, 10, 11, 12, 14, 15, 16, 17, 18, 19, 20, 21, 22, 23, 24] ∧ ([dayC A0 n0, dayC A1 d1] ++ (dayR g A0 n0 k0 ++ dayR g A1 d1 G1) : List va_W).length = ([dayC A0 d0, dayC A1 d1] ++ (dayR g A0 d0 G0 ++ dayR g A1 d1 G1) : List va_W).length := by
  subst q0 p0; rw [dayC_R, dayR_R11]; exact ⟨rfl, Eq.trans (b := ([dayC A0 d0, dayC A1 d1, rowW g.2.2.1 (A0 1) (A0 2) 3 (d0.1 0) (G0 0), rowW g.2.2.1 (A0 3) (A0 4) 12 (d0.1 1) (G0 1), rowW g.2.2.1 (A0 5) (A0 6) 12 (d0.1 2) (G0 2), rowW g.2.2.1 (A0 7) (A0 8) 17 (d0.1 3) (G0 3), rowW g.2.2.1 (A0 9) (A0 10) 17 (d0.1 4) (G0 4), rowW g.2.2.1 (A0 11) (A0 12) 17 (d0.1 5) (G0 5), rowW g.2.2.1 (A0 13) (A0 14) 17 (d0.1 6) (G0 6), rowW g.2.2.1 (A0 15) (A0 16) 17 (d0.1 7) (G0 7), rowW g.2.2.1 (A0 17) (A0 18) 17 (d0.1 8) (G0 8), rowW g.2.2.1 (A0 19) (A0 20) 17 (d0.1 9) (G0 9), rowW g.2.2.1 (A0 21) (A0 22) 17 (d0.1 10) (G0 10), rowW g.2.2.1 (A1 1) (A1 2) 3 (d1.1 0) (G1 0), rowW g.2.2.1 (A1 3) (A1 4) 12 (d1.1 1) (G1 1), rowW g.2.2.1 (A1 5) (A1 6) 12 (d1.1 2) (G1 2), rowW g.2.2.1 (A1 7) (A1 8) 17 (d1.1 3) (G1 3), rowW g.2.2.1 (A1 9) (A1 10) 17 (d1.1 4) (G1 4), rowW g.2.2.1 (A1 11) (A1 12) 17 (d1.1 5) (G1 5), rowW g.2.2.1 (A1 13) (A1 14) 17 (d1.1 6) (G1 6), rowW g.2.2.1 (A1 15) (A1 16) 17 (d1.1 7) (G1 7), rowW g.2.2.1 (A1 17) (A1 18) 17 (d1.1 8) (G1 8), rowW g.2.2.1 (A1 19) (A1 20) 17 (d1.1 9) (G1 9), rowW g.2.2.1 (A1 21) (A1 22) 17 (d1.1 10) (G1 10)] : List va_W)) rfl rfl, rfl⟩
theorem sh_64 (g : yG) (A0 : Nat → Nat) (d0 : RV) (G0 : Nat → Nat → Int32) (A1 : Nat → Nat) (d1 : RV) (G1 : Nat → Nat → Int32) (v : Int32) (e0 : RV) (h : e0 = rvI d0 0 v) : ([dayC A0 d0, dayC A1 d1] ++ (dayR g A0 d0 G0 ++ dayR g A1 d1 G1) : List va_W).flatten.set 0 (A0 0, .inr (0, [.ref (A0 1), .ref (A0 3), .ref (A0 5), .ref (A0 7), .ref (A0 9), .ref (A0 11), .ref (A0 13), .ref (A0 15), .ref (A0 17), .ref (A0 19), .ref (A0 21), .ref (A0 23), .int (d0.2 0), .int (d0.2 1), .int (d0.2 2)].set 12 (.int v))) = ([dayC A0 e0, dayC A1 d1] ++ (dayR g A0 e0 G0 ++ dayR g A1 d1 G1) : List va_W).flatten := by subst h; rfl
theorem sh_65 (g : yG) (A0 : Nat → Nat) (d0 : RV) (G0 : Nat → Nat → Int32) (A1 : Nat → Nat) (d1 : RV) (G1 : Nat → Nat → Int32) (v : Int32) (e0 : RV) (h : e0 = rvI d0 1 v) : ([dayC A0 d0, dayC A1 d1] ++ (dayR g A0 d0 G0 ++ dayR g A1 d1 G1) : List va_W).flatten.set 0 (A0 0, .inr (0, [.ref (A0 1), .ref (A0 3), .ref (A0 5), .ref (A0 7), .ref (A0 9), .ref (A0 11), .ref (A0 13), .ref (A0 15), .ref (A0 17), .ref (A0 19), .ref (A0 21), .ref (A0 23), .int (d0.2 0), .int (d0.2 1), .int (d0.2 2)].set 13 (.int v))) = ([dayC A0 e0, dayC A1 d1] ++ (dayR g A0 e0 G0 ++ dayR g A1 d1 G1) : List va_W).flatten := by subst h; rfl
theorem sh_66 (g : yG) (A0 : Nat → Nat) (d0 : RV) (G0 : Nat → Nat → Int32) (A1 : Nat → Nat) (d1 : RV) (G1 : Nat → Nat → Int32) (v : Int32) (e0 : RV) (h : e0 = rvI d0 2 v) : ([dayC A0 d0, dayC A1 d1] ++ (dayR g A0 d0 G0 ++ dayR g A1 d1 G1) : List va_W).flatten.set 0 (A0 0, .inr (0, [.ref (A0 1), .ref (A0 3), .ref (A0 5), .ref (A0 7), .ref (A0 9), .ref (A0 11), .ref (A0 13), .ref (A0 15), .ref (A0 17), .ref (A0 19), .ref (A0 21), .ref (A0 23), .int (d0.2 0), .int (d0.2 1), .int (d0.2 2)].set 14 (.int v))) = ([dayC A0 e0, dayC A1 d1] ++ (dayR g A0 e0 G0 ++ dayR g A1 d1 G1) : List va_W).flatten := by subst h; rfl
theorem sh_67 (g : yG) (A0 : Nat → Nat) (d0 : RV) (G0 : Nat → Nat → Int32) (A1 : Nat → Nat) (d1 : RV) (G1 : Nat → Nat → Int32) : ([tabC A0 d0, dayC A1 d1] ++ (tabR g A0 d0 G0 ++ dayR g A1 d1 G1) : List va_W).flatten[0]? = some (A0 0, .inr (5, [.ref (A0 1), .ref (A0 3), .ref (A0 5), .ref (A0 7), .ref (A0 9), .int (d0.2 0), .int (d0.2 1), .int (d0.2 2), .int (d0.2 3), .int (d0.2 4)])) := rfl
theorem sh_68 (g : yG) (A0 : Nat → Nat) (d0 : RV) (G0 : Nat → Nat → Int32) (A1 : Nat → Nat) (d1 : RV) (G1 : Nat → Nat → Int32) : yPick ([tabC A0 d0, dayC A1 d1] ++ (tabR g A0 d0 G0 ++ dayR g A1 d1 G1) : List va_W) [2] = ([] ++ [rowW g.2.2.1 (A0 1) (A0 2) 34 (d0.1 0) (G0 0)] : List va_W) := rfl
theorem sh_69 (g : yG) (A0 : Nat → Nat) (d0 : RV) (G0 : Nat → Nat → Int32) (A1 : Nat → Nat) (d1 : RV) (G1 : Nat → Nat → Int32) (y0 : List Int32) (h0 : Nat → Int32) (n0 : RV) (k0 : Nat → Nat → Int32) (q0 : n0 = rvR d0 0 y0) (p0 : k0 = gs G0 0 h0) : yPick ([tabC A0 n0, dayC A1 d1] ++ (tabR g A0 n0 k0 ++ dayR g A1 d1 G1) : List va_W) [2] = ([] ++ [rowW g.2.2.1 (A0 1) (A0 2) 34 y0 h0] : List va_W) ∧ yPick ([tabC A0 n0, dayC A1 d1] ++ (tabR g A0 n0 k0 ++ dayR g A1 d1 G1) : List va_W) [0, 1, 3, 4, 5, 6, 7, 8, 9, 10, 11, 12, 13, 14, 15, 16, 17, 18] = yPick ([tabC A0 d0, dayC A1 d1] ++ (tabR g A0 d0 G0 ++ dayR g A1 d1 G1) : List va_W) [0, 1, 3, 4, 5, 6, 7, 8, 9, 10, 11, 12, 13, 14, 15, 16, 17, 18] ∧ ([tabC A0 n0, dayC A1 d1] ++ (tabR g A0 n0 k0 ++ dayR g A1 d1 G1) : List va_W).length = ([tabC A0 d0, dayC A1 d1] ++ (tabR g A0 d0 G0 ++ dayR g A1 d1 G1) : List va_W).length := by
  subst q0 p0; rw [tabC_R, tabR_R0]; exact ⟨rfl, Eq.trans (b := ([tabC A0 d0, dayC A1 d1, rowW g.2.2.1 (A0 3) (A0 4) 34 (d0.1 1) (G0 1), rowW g.2.2.1 (A0 5) (A0 6) 34 (d0.1 2) (G0 2), rowW g.2.2.1 (A0 7) (A0 8) 17 (d0.1 3) (G0 3), rowW g.2.2.1 (A0 9) (A0 10) 17 (d0.1 4) (G0 4), rowW g.2.2.1 (A1 1) (A1 2) 3 (d1.1 0) (G1 0), rowW g.2.2.1 (A1 3) (A1 4) 12 (d1.1 1) (G1 1), rowW g.2.2.1 (A1 5) (A1 6) 12 (d1.1 2) (G1 2), rowW g.2.2.1 (A1 7) (A1 8) 17 (d1.1 3) (G1 3), rowW g.2.2.1 (A1 9) (A1 10) 17 (d1.1 4) (G1 4), rowW g.2.2.1 (A1 11) (A1 12) 17 (d1.1 5) (G1 5), rowW g.2.2.1 (A1 13) (A1 14) 17 (d1.1 6) (G1 6), rowW g.2.2.1 (A1 15) (A1 16) 17 (d1.1 7) (G1 7), rowW g.2.2.1 (A1 17) (A1 18) 17 (d1.1 8) (G1 8), rowW g.2.2.1 (A1 19) (A1 20) 17 (d1.1 9) (G1 9), rowW g.2.2.1 (A1 21) (A1 22) 17 (d1.1 10) (G1 10), rowW g.2.2.1 (A1 23) (A1 24) 34 (d1.1 11) (G1 11)] : List va_W)) rfl rfl, rfl⟩
theorem sh_70 (g : yG) (A0 : Nat → Nat) (d0 : RV) (G0 : Nat → Nat → Int32) (A1 : Nat → Nat) (d1 : RV) (G1 : Nat → Nat → Int32) : yPick ([tabC A0 d0, dayC A1 d1] ++ (tabR g A0 d0 G0 ++ dayR g A1 d1 G1) : List va_W) [3] = ([] ++ [rowW g.2.2.1 (A0 3) (A0 4) 34 (d0.1 1) (G0 1)] : List va_W) := rfl
theorem sh_71 (g : yG) (A0 : Nat → Nat) (d0 : RV) (G0 : Nat → Nat → Int32) (A1 : Nat → Nat) (d1 : RV) (G1 : Nat → Nat → Int32) (y0 : List Int32) (h0 : Nat → Int32) (n0 : RV) (k0 : Nat → Nat → Int32) (q0 : n0 = rvR d0 1 y0) (p0 : k0 = gs G0 1 h0) : yPick ([tabC A0 n0, dayC A1 d1] ++ (tabR g A0 n0 k0 ++ dayR g A1 d1 G1) : List va_W) [3] = ([] ++ [rowW g.2.2.1 (A0 3) (A0 4) 34 y0 h0] : List va_W) ∧ yPick ([tabC A0 n0, dayC A1 d1] ++ (tabR g A0 n0 k0 ++ dayR g A1 d1 G1) : List va_W) [0, 1, 2, 4, 5, 6, 7, 8, 9, 10, 11, 12, 13, 14, 15, 16, 17, 18] = yPick ([tabC A0 d0, dayC A1 d1] ++ (tabR g A0 d0 G0 ++ dayR g A1 d1 G1) : List va_W) [0, 1, 2, 4, 5, 6, 7, 8, 9, 10, 11, 12, 13, 14, 15, 16, 17, 18] ∧ ([tabC A0 n0, dayC A1 d1] ++ (tabR g A0 n0 k0 ++ dayR g A1 d1 G1) : List va_W).length = ([tabC A0 d0, dayC A1 d1] ++ (tabR g A0 d0 G0 ++ dayR g A1 d1 G1) : List va_W).length := by
  subst q0 p0; rw [tabC_R, tabR_R1]; exact ⟨rfl, Eq.trans (b := ([tabC A0 d0, dayC A1 d1, rowW g.2.2.1 (A0 1) (A0 2) 34 (d0.1 0) (G0 0), rowW g.2.2.1 (A0 5) (A0 6) 34 (d0.1 2) (G0 2), rowW g.2.2.1 (A0 7) (A0 8) 17 (d0.1 3) (G0 3), rowW g.2.2.1 (A0 9) (A0 10) 17 (d0.1 4) (G0 4), rowW g.2.2.1 (A1 1) (A1 2) 3 (d1.1 0) (G1 0), rowW g.2.2.1 (A1 3) (A1 4) 12 (d1.1 1) (G1 1), rowW g.2.2.1 (A1 5) (A1 6) 12 (d1.1 2) (G1 2), rowW g.2.2.1 (A1 7) (A1 8) 17 (d1.1 3) (G1 3), rowW g.2.2.1 (A1 9) (A1 10) 17 (d1.1 4) (G1 4), rowW g.2.2.1 (A1 11) (A1 12) 17 (d1.1 5) (G1 5), rowW g.2.2.1 (A1 13) (A1 14) 17 (d1.1 6) (G1 6), rowW g.2.2.1 (A1 15) (A1 16) 17 (d1.1 7) (G1 7), rowW g.2.2.1 (A1 17) (A1 18) 17 (d1.1 8) (G1 8), rowW g.2.2.1 (A1 19) (A1 20) 17 (d1.1 9) (G1 9), rowW g.2.2.1 (A1 21) (A1 22) 17 (d1.1 10) (G1 10), rowW g.2.2.1 (A1 23) (A1 24) 34 (d1.1 11) (G1 11)] : List va_W)) rfl rfl, rfl⟩
theorem sh_72 (g : yG) (A0 : Nat → Nat) (d0 : RV) (G0 : Nat → Nat → Int32) (A1 : Nat → Nat) (d1 : RV) (G1 : Nat → Nat → Int32) : yPick ([tabC A0 d0, dayC A1 d1] ++ (tabR g A0 d0 G0 ++ dayR g A1 d1 G1) : List va_W) [4] = ([] ++ [rowW g.2.2.1 (A0 5) (A0 6) 34 (d0.1 2) (G0 2)] : List va_W) := rfl
theorem sh_73 (g : yG) (A0 : Nat → Nat) (d0 : RV) (G0 : Nat → Nat → Int32) (A1 : Nat → Nat) (d1 : RV) (G1 : Nat → Nat → Int32) (y0 : List Int32) (h0 : Nat → Int32) (n0 : RV) (k0 : Nat → Nat → Int32) (q0 : n0 = rvR d0 2 y0) (p0 : k0 = gs G0 2 h0) : yPick ([tabC A0 n0, dayC A1 d1] ++ (tabR g A0 n0 k0 ++ dayR g A1 d1 G1) : List va_W) [4] = ([] ++ [rowW g.2.2.1 (A0 5) (A0 6) 34 y0 h0] : List va_W) ∧ yPick ([tabC A0 n0, dayC A1 d1] ++ (tabR g A0 n0 k0 ++ dayR g A1 d1 G1) : List va_W) [0, 1, 2, 3, 5, 6, 7, 8, 9, 10, 11, 12, 13, 14, 15, 16, 17, 18] = yPick ([tabC A0 d0, dayC A1 d1] ++ (tabR g A0 d0 G0 ++ dayR g A1 d1 G1) : List va_W) [0, 1, 2, 3, 5, 6, 7, 8, 9, 10, 11, 12, 13, 14, 15, 16, 17, 18] ∧ ([tabC A0 n0, dayC A1 d1] ++ (tabR g A0 n0 k0 ++ dayR g A1 d1 G1) : List va_W).length = ([tabC A0 d0, dayC A1 d1] ++ (tabR g A0 d0 G0 ++ dayR g A1 d1 G1) : List va_W).length := by
  subst q0 p0; rw [tabC_R, tabR_R2]; exact ⟨rfl, Eq.trans (b := ([tabC A0 d0, dayC A1 d1, rowW g.2.2.1 (A0 1) (A0 2) 34 (d0.1 0) (G0 0), rowW g.2.2.1 (A0 3) (A0 4) 34 (d0.1 1) (G0 1), rowW g.2.2.1 (A0 7) (A0 8) 17 (d0.1 3) (G0 3), rowW g.2.2.1 (A0 9) (A0 10) 17 (d0.1 4) (G0 4), rowW g.2.2.1 (A1 1) (A1 2) 3 (d1.1 0) (G1 0), rowW g.2.2.1 (A1 3) (A1 4) 12 (d1.1 1) (G1 1), rowW g.2.2.1 (A1 5) (A1 6) 12 (d1.1 2) (G1 2), rowW g.2.2.1 (A1 7) (A1 8) 17 (d1.1 3) (G1 3), rowW g.2.2.1 (A1 9) (A1 10) 17 (d1.1 4) (G1 4), rowW g.2.2.1 (A1 11) (A1 12) 17 (d1.1 5) (G1 5), rowW g.2.2.1 (A1 13) (A1 14) 17 (d1.1 6) (G1 6), rowW g.2.2.1 (A1 15) (A1 16) 17 (d1.1 7) (G1 7), rowW g.2.2.1 (A1 17) (A1 18) 17 (d1.1 8) (G1 8), rowW g.2.2.1 (A1 19) (A1 20) 17 (d1.1 9) (G1 9), rowW g.2.2.1 (A1 21) (A1 22) 17 (d1.1 10) (G1 10), rowW g.2.2.1 (A1 23) (A1 24) 34 (d1.1 11) (G1 11)] : List va_W)) rfl rfl, rfl⟩
theorem sh_74 (g : yG) (A0 : Nat → Nat) (d0 : RV) (G0 : Nat → Nat → Int32) (A1 : Nat → Nat) (d1 : RV) (G1 : Nat → Nat → Int32) : ([tabC A0 d0, dayC A1 d1] ++ (tabR g A0 d0 G0 ++ dayR g A1 d1 G1) : List va_W).flatten[1]? = some (A1 0, .inr (0, [.ref (A1 1), .ref (A1 3), .ref (A1 5), .ref (A1 7), .ref (A1 9), .ref (A1 11), .ref (A1 13), .ref (A1 15), .ref (A1 17), .ref (A1 19), .ref (A1 21), .ref (A1 23), .int (d1.2 0), .int (d1.2 1), .int (d1.2 2)])) := rfl
theorem sh_75 (g : yG) (A0 : Nat → Nat) (d0 : RV) (G0 : Nat → Nat → Int32) (A1 : Nat → Nat) (d1 : RV) (G1 : Nat → Nat → Int32) : yPick ([tabC A0 d0, dayC A1 d1] ++ (tabR g A0 d0 G0 ++ dayR g A1 d1 G1) : List va_W) [5, 16] = ([] ++ ([rowW g.2.2.1 (A0 7) (A0 8) 17 (d0.1 3) (G0 3)] ++ [rowW g.2.2.1 (A1 19) (A1 20) 17 (d1.1 9) (G1 9)]) : List va_W) := rfl
theorem sh_76 (g : yG) (A0 : Nat → Nat) (d0 : RV) (G0 : Nat → Nat → Int32) (A1 : Nat → Nat) (d1 : RV) (G1 : Nat → Nat → Int32) (y0 : List Int32) (h0 : Nat → Int32) (n0 : RV) (k0 : Nat → Nat → Int32) (q0 : n0 = rvR d0 3 y0) (p0 : k0 = gs G0 3 h0) : yPick ([tabC A0 n0, dayC A1 d1] ++ (tabR g A0 n0 k0 ++ dayR g A1 d1 G1) : List va_W) [5, 16] = ([] ++ ([rowW g.2.2.1 (A0 7) (A0 8) 17 y0 h0] ++ [rowW g.2.2.1 (A1 19) (A1 20) 17 (d1.1 9) (G1 9)]) : List va_W) ∧ yPick ([tabC A0 n0, dayC A1 d1] ++ (tabR g A0 n0 k0 ++ dayR g A1 d1 G1) : List va_W) [0, 1, 2, 3, 4, 6, 7, 8, 9, 10, 11, 12, 13, 14, 15, 17, 18] = yPick ([tabC A0 d0, dayC A1 d1] ++ (tabR g A0 d0 G0 ++ dayR g A1 d1 G1) : List va_W) [0, 1, 2, 3, 4, 6, 7, 8, 9, 10, 11, 12, 13, 14, 15, 17, 18] ∧ ([tabC A0 n0, dayC A1 d1] ++ (tabR g A0 n0 k0 ++ dayR g A1 d1 G1) : List va_W).length = ([tabC A0 d0, dayC A1 d1] ++ (tabR g A0 d0 G0 ++ dayR g A1 d1 G1) : List va_W).length := by
  subst q0 p0; rw [tabC_R, tabR_R3]; exact ⟨rfl, Eq.trans (b := ([tabC A0 d0, dayC A1 d1, rowW g.2.2.1 (A0 1) (A0 2) 34 (d0.1 0) (G0 0), rowW g.2.2.1 (A0 3) (A0 4) 34 (d0.1 1) (G0 1), rowW g.2.2.1 (A0 5) (A0 6) 34 (d0.1 2) (G0 2), rowW g.2.2.1 (A0 9) (A0 10) 17 (d0.1 4) (G0 4), rowW g.2.2.1 (A1 1) (A1 2) 3 (d1.1 0) (G1 0), rowW g.2.2.1 (A1 3) (A1 4) 12 (d1.1 1) (G1 1), rowW g.2.2.1 (A1 5) (A1 6) 12 (d1.1 2) (G1 2), rowW g.2.2.1 (A1 7) (A1 8) 17 (d1.1 3) (G1 3), rowW g.2.2.1 (A1 9) (A1 10) 17 (d1.1 4) (G1 4), rowW g.2.2.1 (A1 11) (A1 12) 17 (d1.1 5) (G1 5), rowW g.2.2.1 (A1 13) (A1 14) 17 (d1.1 6) (G1 6), rowW g.2.2.1 (A1 15) (A1 16) 17 (d1.1 7) (G1 7), rowW g.2.2.1 (A1 17) (A1 18) 17 (d1.1 8) (G1 8), rowW g.2.2.1 (A1 21) (A1 22) 17 (d1.1 10) (G1 10), rowW g.2.2.1 (A1 23) (A1 24) 34 (d1.1 11) (G1 11)] : List va_W)) rfl rfl, rfl⟩
theorem sh_77 (g : yG) (A0 : Nat → Nat) (d0 : RV) (G0 : Nat → Nat → Int32) (A1 : Nat → Nat) (d1 : RV) (G1 : Nat → Nat → Int32) : yPick ([tabC A0 d0, dayC A1 d1] ++ (tabR g A0 d0 G0 ++ dayR g A1 d1 G1) : List va_W) [6, 17] = ([] ++ ([rowW g.2.2.1 (A0 9) (A0 10) 17 (d0.1 4) (G0 4)] ++ [rowW g.2.2.1 (A1 21) (A1 22) 17 (d1.1 10) (G1 10)]) : List va_W) := rfl
theorem sh_78 (g : yG) (A0 : Nat → Nat) (d0 : RV) (G0 : Nat → Nat → Int32) (A1 : Nat → Nat) (d1 : RV) (G1 : Nat → Nat → Int32) (y0 : List Int32) (h0 : Nat → Int32) (n0 : RV) (k0 : Nat → Nat → Int32) (q0 : n0 = rvR d0 4 y0) (p0 : k0 = gs G0 4 h0) : yPick ([tabC A0 n0, dayC A1 d1] ++ (tabR g A0 n0 k0 ++ dayR g A1 d1 G1) : List va_W) [6, 17] = ([] ++ ([rowW g.2.2.1 (A0 9) (A0 10) 17 y0 h0] ++ [rowW g.2.2.1 (A1 21) (A1 22) 17 (d1.1 10) (G1 10)]) : List va_W) ∧ yPick ([tabC A0 n0, dayC A1 d1] ++ (tabR g A0 n0 k0 ++ dayR g A1 d1 G1) : List va_W) [0, 1, 2, 3, 4, 5, 7, 8, 9, 10, 11, 12, 13, 14, 15, 16, 18] = yPick ([tabC A0 d0, dayC A1 d1] ++ (tabR g A0 d0 G0 ++ dayR g A1 d1 G1) : List va_W) [0, 1, 2, 3, 4, 5, 7, 8, 9, 10, 11, 12, 13, 14, 15, 16, 18] ∧ ([tabC A0 n0, dayC A1 d1] ++ (tabR g A0 n0 k0 ++ dayR g A1 d1 G1) : List va_W).length = ([tabC A0 d0, dayC A1 d1] ++ (tabR g A0 d0 G0 ++ dayR g A1 d1 G1) : List va_W).length := by
  subst q0 p0; rw [tabC_R, tabR_R4]; exact ⟨rfl, Eq.trans (b := ([tabC A0 d0, dayC A1 d1, rowW g.2.2.1 (A0 1) (A0 2) 34 (d0.1 0) (G0 0), rowW g.2.2.1 (A0 3) (A0 4) 34 (d0.1 1) (G0 1), rowW g.2.2.1 (A0 5) (A0 6) 34 (d0.1 2) (G0 2), rowW g.2.2.1 (A0 7) (A0 8) 17 (d0.1 3) (G0 3), rowW g.2.2.1 (A1 1) (A1 2) 3 (d1.1 0) (G1 0), rowW g.2.2.1 (A1 3) (A1 4) 12 (d1.1 1) (G1 1), rowW g.2.2.1 (A1 5) (A1 6) 12 (d1.1 2) (G1 2), rowW g.2.2.1 (A1 7) (A1 8) 17 (d1.1 3) (G1 3), rowW g.2.2.1 (A1 9) (A1 10) 17 (d1.1 4) (G1 4), rowW g.2.2.1 (A1 11) (A1 12) 17 (d1.1 5) (G1 5), rowW g.2.2.1 (A1 13) (A1 14) 17 (d1.1 6) (G1 6), rowW g.2.2.1 (A1 15) (A1 16) 17 (d1.1 7) (G1 7), rowW g.2.2.1 (A1 17) (A1 18) 17 (d1.1 8) (G1 8), rowW g.2.2.1 (A1 19) (A1 20) 17 (d1.1 9) (G1 9), rowW g.2.2.1 (A1 23) (A1 24) 34 (d1.1 11) (G1 11)] : List va_W)) rfl rfl, rfl⟩
theorem sh_79 (g : yG) (A0 : Nat → Nat) (d0 : RV) (G0 : Nat → Nat → Int32) (A1 : Nat → Nat) (d1 : RV) (G1 : Nat → Nat → Int32) (v : Int32) (e0 : RV) (h : e0 = rvI d0 0 v) : ([tabC A0 d0, dayC A1 d1] ++ (tabR g A0 d0 G0 ++ dayR g A1 d1 G1) : List va_W).flatten.set 0 (A0 0, .inr (5, [.ref (A0 1), .ref (A0 3), .ref (A0 5), .ref (A0 7), .ref (A0 9), .int (d0.2 0), .int (d0.2 1), .int (d0.2 2), .int (d0.2 3), .int (d0.2 4)].set 5 (.int v))) = ([tabC A0 e0, dayC A1 d1] ++ (tabR g A0 e0 G0 ++ dayR g A1 d1 G1) : List va_W).flatten := by subst h; rfl
theorem sh_80 (g : yG) (A0 : Nat → Nat) (d0 : RV) (G0 : Nat → Nat → Int32) (A1 : Nat → Nat) (d1 : RV) (G1 : Nat → Nat → Int32) (v : Int32) (e0 : RV) (h : e0 = rvI d0 1 v) : ([tabC A0 d0, dayC A1 d1] ++ (tabR g A0 d0 G0 ++ dayR g A1 d1 G1) : List va_W).flatten.set 0 (A0 0, .inr (5, [.ref (A0 1), .ref (A0 3), .ref (A0 5), .ref (A0 7), .ref (A0 9), .int (d0.2 0), .int (d0.2 1), .int (d0.2 2), .int (d0.2 3), .int (d0.2 4)].set 6 (.int v))) = ([tabC A0 e0, dayC A1 d1] ++ (tabR g A0 e0 G0 ++ dayR g A1 d1 G1) : List va_W).flatten := by subst h; rfl
theorem sh_81 (g : yG) (A0 : Nat → Nat) (d0 : RV) (G0 : Nat → Nat → Int32) (A1 : Nat → Nat) (d1 : RV) (G1 : Nat → Nat → Int32) : yPick ([tabC A0 d0, dayC A1 d1] ++ (tabR g A0 d0 G0 ++ dayR g A1 d1 G1) : List va_W) [1, 7, 8, 9, 10, 11, 12, 13, 14, 15, 16, 17, 18] = ([dayC A1 d1] ++ dayR g A1 d1 G1 : List va_W) := rfl
theorem sh_82 (g : yG) (A0 : Nat → Nat) (d0 : RV) (G0 : Nat → Nat → Int32) (A1 : Nat → Nat) (d1 : RV) (G1 : Nat → Nat → Int32) (v : Int32) (e0 : RV) (h : e0 = rvI d0 2 v) : ([tabC A0 d0, dayC A1 d1] ++ (tabR g A0 d0 G0 ++ dayR g A1 d1 G1) : List va_W).flatten.set 0 (A0 0, .inr (5, [.ref (A0 1), .ref (A0 3), .ref (A0 5), .ref (A0 7), .ref (A0 9), .int (d0.2 0), .int (d0.2 1), .int (d0.2 2), .int (d0.2 3), .int (d0.2 4)].set 7 (.int v))) = ([tabC A0 e0, dayC A1 d1] ++ (tabR g A0 e0 G0 ++ dayR g A1 d1 G1) : List va_W).flatten := by subst h; rfl
theorem sh_83 (g : yG) (A0 : Nat → Nat) (d0 : RV) (G0 : Nat → Nat → Int32) (A1 : Nat → Nat) (d1 : RV) (G1 : Nat → Nat → Int32) (v : Int32) (e0 : RV) (h : e0 = rvI d0 3 v) : ([tabC A0 d0, dayC A1 d1] ++ (tabR g A0 d0 G0 ++ dayR g A1 d1 G1) : List va_W).flatten.set 0 (A0 0, .inr (5, [.ref (A0 1), .ref (A0 3), .ref (A0 5), .ref (A0 7), .ref (A0 9), .int (d0.2 0), .int (d0.2 1), .int (d0.2 2), .int (d0.2 3), .int (d0.2 4)].set 8 (.int v))) = ([tabC A0 e0, dayC A1 d1] ++ (tabR g A0 e0 G0 ++ dayR g A1 d1 G1) : List va_W).flatten := by subst h; rfl
theorem sh_84 (g : yG) (A0 : Nat → Nat) (d0 : RV) (G0 : Nat → Nat → Int32) (A1 : Nat → Nat) (d1 : RV) (G1 : Nat → Nat → Int32) (v : Int32) (e0 : RV) (h : e0 = rvI d0 4 v) : ([tabC A0 d0, dayC A1 d1] ++ (tabR g A0 d0 G0 ++ dayR g A1 d1 G1) : List va_W).flatten.set 0 (A0 0, .inr (5, [.ref (A0 1), .ref (A0 3), .ref (A0 5), .ref (A0 7), .ref (A0 9), .int (d0.2 0), .int (d0.2 1), .int (d0.2 2), .int (d0.2 3), .int (d0.2 4)].set 9 (.int v))) = ([tabC A0 e0, dayC A1 d1] ++ (tabR g A0 e0 G0 ++ dayR g A1 d1 G1) : List va_W).flatten := by subst h; rfl
theorem sh_85 (g : yG) (A0 : Nat → Nat) (d0 : RV) (G0 : Nat → Nat → Int32) (A1 : Nat → Nat) (d1 : RV) (G1 : Nat → Nat → Int32) : yPick ([tabC A0 d0, dayC A1 d1] ++ (tabR g A0 d0 G0 ++ dayR g A1 d1 G1) : List va_W) [5] = ([] ++ [rowW g.2.2.1 (A0 7) (A0 8) 17 (d0.1 3) (G0 3)] : List va_W) := rfl
theorem sh_86 (g : yG) (A0 : Nat → Nat) (d0 : RV) (G0 : Nat → Nat → Int32) (A1 : Nat → Nat) (d1 : RV) (G1 : Nat → Nat → Int32) : yPick ([tabC A0 d0, dayC A1 d1] ++ (tabR g A0 d0 G0 ++ dayR g A1 d1 G1) : List va_W) [7] = ([] ++ [rowW g.2.2.1 (A1 1) (A1 2) 3 (d1.1 0) (G1 0)] : List va_W) := rfl
theorem sh_87 (g : yG) (A0 : Nat → Nat) (d0 : RV) (G0 : Nat → Nat → Int32) (A1 : Nat → Nat) (d1 : RV) (G1 : Nat → Nat → Int32) : yPick ([tabC A0 d0, dayC A1 d1] ++ (tabR g A0 d0 G0 ++ dayR g A1 d1 G1) : List va_W) [14] = ([] ++ [rowW g.2.2.1 (A1 15) (A1 16) 17 (d1.1 7) (G1 7)] : List va_W) := rfl
theorem sh_88 (g : yG) (A0 : Nat → Nat) (d0 : RV) (G0 : Nat → Nat → Int32) (A1 : Nat → Nat) (d1 : RV) (G1 : Nat → Nat → Int32) : yPick ([tabC A0 d0, dayC A1 d1] ++ (tabR g A0 d0 G0 ++ dayR g A1 d1 G1) : List va_W) [] = ([] : List va_W) := rfl
theorem sh_89 (g : yG) (A0 : Nat → Nat) (d0 : RV) (G0 : Nat → Nat → Int32) (A1 : Nat → Nat) (d1 : RV) (G1 : Nat → Nat → Int32) : yPick ([tabC A0 d0, dayC A1 d1] ++ (tabR g A0 d0 G0 ++ dayR g A1 d1 G1) : List va_W) [12] = ([] ++ [rowW g.2.2.1 (A1 11) (A1 12) 17 (d1.1 5) (G1 5)] : List va_W) := rfl
theorem sh_90 (g : yG) (A0 : Nat → Nat) (d0 : RV) (G0 : Nat → Nat → Int32) (A1 : Nat → Nat) (d1 : RV) (G1 : Nat → Nat → Int32) (y0 : List Int32) (h0 : Nat → Int32) (n0 : RV) (k0 : Nat → Nat → Int32) (q0 : n0 = rvR d0 3 y0) (p0 : k0 = gs G0 3 h0) : yPick ([tabC A0 n0, dayC A1 d1] ++ (tabR g A0 n0 k0 ++ dayR g A1 d1 G1) : List va_W) [5] = ([] ++ [rowW g.2.2.1 (A0 7) (A0 8) 17 y0 h0] : List va_W) ∧ yPick ([tabC A0 n0, dayC A1 d1] ++ (tabR g A0 n0 k0 ++ dayR g A1 d1 G1) : List va_W) [0, 1, 2, 3, 4, 6, 7, 8, 9, 10, 11, 12, 13, 14, 15, 16, 17, 18] = yPick ([tabC A0 d0, dayC A1 d1] ++ (tabR g A0 d0 G0 ++ dayR g A1 d1 G1) : List va_W) [0, 1, 2, 3, 4, 6, 7, 8, 9, 10, 11, 12, 13, 14, 15, 16, 17, 18] ∧ ([tabC A0 n0, dayC A1 d1] ++ (tabR g A0 n0 k0 ++ dayR g A1 d1 G1) : List va_W).length = ([tabC A0 d0, dayC A1 d1] ++ (tabR g A0 d0 G0 ++ dayR g A1 d1 G1) : List va_W).length := by
  subst q0 p0; rw [tabC_R, tabR_R3]; exact ⟨rfl, Eq.trans (b := ([tabC A0 d0, dayC A1 d1, rowW g.2.2.1 (A0 1) (A0 2) 34 (d0.1 0) (G0 0), rowW g.2.2.1 (A0 3) (A0 4) 34 (d0.1 1) (G0 1), rowW g.2.2.1 (A0 5) (A0 6) 34 (d0.1 2) (G0 2), rowW g.2.2.1 (A0 9) (A0 10) 17 (d0.1 4) (G0 4), rowW g.2.2.1 (A1 1) (A1 2) 3 (d1.1 0) (G1 0), rowW g.2.2.1 (A1 3) (A1 4) 12 (d1.1 1) (G1 1), rowW g.2.2.1 (A1 5) (A1 6) 12 (d1.1 2) (G1 2), rowW g.2.2.1 (A1 7) (A1 8) 17 (d1.1 3) (G1 3), rowW g.2.2.1 (A1 9) (A1 10) 17 (d1.1 4) (G1 4), rowW g.2.2.1 (A1 11) (A1 12) 17 (d1.1 5) (G1 5), rowW g.2.2.1 (A1 13) (A1 14) 17 (d1.1 6) (G1 6), rowW g.2.2.1 (A1 15) (A1 16) 17 (d1.1 7) (G1 7), rowW g.2.2.1 (A1 17) (A1 18) 17 (d1.1 8) (G1 8), rowW g.2.2.1 (A1 19) (A1 20) 17 (d1.1 9) (G1 9), rowW g.2.2.1 (A1 21) (A1 22) 17 (d1.1 10) (G1 10), rowW g.2.2.1 (A1 23) (A1 24) 34 (d1.1 11) (G1 11)] : List va_W)) rfl rfl, rfl⟩
theorem sh_91 (g : yG) (A0 : Nat → Nat) (d0 : RV) (G0 : Nat → Nat → Int32) (A1 : Nat → Nat) (d1 : RV) (G1 : Nat → Nat → Int32) : yPick ([tabC A0 d0, dayC A1 d1] ++ (tabR g A0 d0 G0 ++ dayR g A1 d1 G1) : List va_W) [6] = ([] ++ [rowW g.2.2.1 (A0 9) (A0 10) 17 (d0.1 4) (G0 4)] : List va_W) := rfl
theorem sh_92 (g : yG) (A0 : Nat → Nat) (d0 : RV) (G0 : Nat → Nat → Int32) (A1 : Nat → Nat) (d1 : RV) (G1 : Nat → Nat → Int32) (y0 : List Int32) (h0 : Nat → Int32) (n0 : RV) (k0 : Nat → Nat → Int32) (q0 : n0 = rvR d0 4 y0) (p0 : k0 = gs G0 4 h0) : yPick ([tabC A0 n0, dayC A1 d1] ++ (tabR g A0 n0 k0 ++ dayR g A1 d1 G1) : List va_W) [6] = ([] ++ [rowW g.2.2.1 (A0 9) (A0 10) 17 y0 h0] : List va_W) ∧ yPick ([tabC A0 n0, dayC A1 d1] ++ (tabR g A0 n0 k0 ++ dayR g A1 d1 G1) : List va_W) [0, 1, 2, 3, 4, 5, 7, 8, 9, 10, 11, 12, 13, 14, 15, 16, 17, 18] = yPick ([tabC A0 d0, dayC A1 d1] ++ (tabR g A0 d0 G0 ++ dayR g A1 d1 G1) : List va_W) [0, 1, 2, 3, 4, 5, 7, 8, 9, 10, 11, 12, 13, 14, 15, 16, 17, 18] ∧ ([tabC A0 n0, dayC A1 d1] ++ (tabR g A0 n0 k0 ++ dayR g A1 d1 G1) : List va_W).length = ([tabC A0 d0, dayC A1 d1] ++ (tabR g A0 d0 G0 ++ dayR g A1 d1 G1) : List va_W).length := by
  subst q0 p0; rw [tabC_R, tabR_R4]; exact ⟨rfl, Eq.trans (b := ([tabC A0 d0, dayC A1 d1, rowW g.2.2.1 (A0 1) (A0 2) 34 (d0.1 0) (G0 0), rowW g.2.2.1 (A0 3) (A0 4) 34 (d0.1 1) (G0 1), rowW g.2.2.1 (A0 5) (A0 6) 34 (d0.1 2) (G0 2), rowW g.2.2.1 (A0 7) (A0 8) 17 (d0.1 3) (G0 3), rowW g.2.2.1 (A1 1) (A1 2) 3 (d1.1 0) (G1 0), rowW g.2.2.1 (A1 3) (A1 4) 12 (d1.1 1) (G1 1), rowW g.2.2.1 (A1 5) (A1 6) 12 (d1.1 2) (G1 2), rowW g.2.2.1 (A1 7) (A1 8) 17 (d1.1 3) (G1 3), rowW g.2.2.1 (A1 9) (A1 10) 17 (d1.1 4) (G1 4), rowW g.2.2.1 (A1 11) (A1 12) 17 (d1.1 5) (G1 5), rowW g.2.2.1 (A1 13) (A1 14) 17 (d1.1 6) (G1 6), rowW g.2.2.1 (A1 15) (A1 16) 17 (d1.1 7) (G1 7), rowW g.2.2.1 (A1 17) (A1 18) 17 (d1.1 8) (G1 8), rowW g.2.2.1 (A1 19) (A1 20) 17 (d1.1 9) (G1 9), rowW g.2.2.1 (A1 21) (A1 22) 17 (d1.1 10) (G1 10), rowW g.2.2.1 (A1 23) (A1 24) 34 (d1.1 11) (G1 11)] : List va_W)) rfl rfl, rfl⟩
theorem sh_93 (g : yG) (A0 : Nat → Nat) (d0 : RV) (G0 : Nat → Nat → Int32) (A1 : Nat → Nat) (d1 : RV) (G1 : Nat → Nat → Int32) : yPick ([tabC A0 d0, dayC A1 d1] ++ (tabR g A0 d0 G0 ++ dayR g A1 d1 G1) : List va_W) [13] = ([] ++ [rowW g.2.2.1 (A1 13) (A1 14) 17 (d1.1 6) (G1 6)] : List va_W) := rfl
theorem sh_94 (g : yG) (A0 : Nat → Nat) (d0 : RV) (G0 : Nat → Nat → Int32) (A1 : Nat → Nat) (d1 : RV) (G1 : Nat → Nat → Int32) : yPick ([tabC A0 d0, dayC A1 d1] ++ (tabR g A0 d0 G0 ++ dayR g A1 d1 G1) : List va_W) [0, 1, 2, 3, 4, 5, 6, 7, 8, 9, 10, 11, 12, 13, 14, 15, 16, 17, 18] = ([tabC A0 d0, dayC A1 d1] ++ (tabR g A0 d0 G0 ++ dayR g A1 d1 G1) : List va_W) := rfl
theorem sh_95 (g : yG) (A0 : Nat → Nat) (d0 : RV) (G0 : Nat → Nat → Int32) (A1 : Nat → Nat) (d1 : RV) (G1 : Nat → Nat → Int32) : yRecv ([tabC A0 d0, dayC A1 d1] ++ (tabR g A0 d0 G0 ++ dayR g A1 d1 G1) : List va_W) (A0 0) RX5 := yRecv.of (q0 := 0) (ci := 5) rfl rfl
theorem sh_96 (g : yG) (A0 : Nat → Nat) (d0 : RV) (G0 : Nat → Nat → Int32) (A1 : Nat → Nat) (d1 : RV) (G1 : Nat → Nat → Int32) : yPick ([tabC A0 d0, dayC A1 d1] ++ (tabR g A0 d0 G0 ++ dayR g A1 d1 G1) : List va_W) [18] = ([] ++ [rowW g.2.2.1 (A1 23) (A1 24) 34 (d1.1 11) (G1 11)] : List va_W) := rfl
theorem sh_97 (g : yG) (A0 : Nat → Nat) (d0 : RV) (G0 : Nat → Nat → Int32) (A1 : Nat → Nat) (d1 : RV) (G1 : Nat → Nat → Int32) (n0 : RV) (k0 : Nat → Nat → Int32) : yPick ([tabC A0 n0, dayC A1 d1] ++ (tabR g A0 n0 k0 ++ dayR g A1 d1 G1) : List va_W) [0, 1, 2, 3, 4, 5, 6, 7, 8, 9, 10, 11, 12, 13, 14, 15, 16, 17, 18] = ([tabC A0 n0, dayC A1 d1] ++ (tabR g A0 n0 k0 ++ dayR g A1 d1 G1) : List va_W) ∧ yPick ([tabC A0 n0, dayC A1 d1] ++ (tabR g A0 n0 k0 ++ dayR g A1 d1 G1) : List va_W) [] = yPick ([tabC A0 d0, dayC A1 d1] ++ (tabR g A0 d0 G0 ++ dayR g A1 d1 G1) : List va_W) [] ∧ ([tabC A0 n0, dayC A1 d1] ++ (tabR g A0 n0 k0 ++ dayR g A1 d1 G1) : List va_W).length = ([tabC A0 d0, dayC A1 d1] ++ (tabR g A0 d0 G0 ++ dayR g A1 d1 G1) : List va_W).length := by
  skip; exact ⟨rfl, Eq.trans (b := ([] : List va_W)) rfl rfl, rfl⟩
end
section
theorem dX6_leastOf_0 : decode cX6_leastOf 0 = .ok (.iload_n 0, 1) := by decide +kernel
theorem dX6_leastOf_1 : decode cX6_leastOf 1 = .ok (.ifCond .ne 7, 3) := by decide +kernel
theorem dX6_leastOf_4 : decode cX6_leastOf 4 = .ok (.iconst 1, 1) := by decide +kernel
theorem dX6_leastOf_5 : decode cX6_leastOf 5 = .ok (.goto 4, 3) := by decide +kernel
theorem dX6_leastOf_8 : decode cX6_leastOf 8 = .ok (.iconst 0, 1) := by decide +kernel
theorem dX6_leastOf_9 : decode cX6_leastOf 9 = .ok (.ireturn, 1) := by decide +kernel
set_option maxHeartbeats 4000000 in
set_option maxRecDepth 100000 in
theorem c_X6_leastOf (g : yG)  (s : Int32) : yM g yX6_leastOf wsX6_leastOf ({ frames := 0, cells := 0, slots := 0, locals := 0 } : Room) [.int s] ([] : List va_W) (fun r w => r = (f_X6_leastOf s) ∧ w = ([] : List va_W)) 0 0 := by
  refine y_entryI (cc := cX6_leastOf) (maxL := 1) (by decide +kernel) rfl (Nat.le_of_ble_eq_true rfl) (fun Z C HR => ?_)
  have C : yC Z g cX6_leastOf 1 wsX6_leastOf RX6 := C
  have h := f_X6_leastOf.eq_1 s
  show yJ Z _ 0 0 _ 0 [(0, .int s)] []
  refine y_iload_n C dX6_leastOf_0 0 rfl rfl ?_
  refine y_if_ne (tgt := 8) C dX6_leastOf_1 rfl (y_e h) (fun c1 h => ?_) (fun c1 h => ?_)
  · refine y_iconst (v := 0) C dX6_leastOf_8 (by decide) ?_
    exact HR 9 dX6_leastOf_9 (0 : Int32) _ _ _ _ (rfl) (Nat.le_of_ble_eq_true rfl) (Nat.le_of_ble_eq_true rfl) ⟨by rw [h], rfl⟩
  · refine y_iconst (v := 1) C dX6_leastOf_4 (by decide) ?_
    refine y_goto (tgt := 9) C dX6_leastOf_5 rfl ?_
    exact HR 9 dX6_leastOf_9 (1 : Int32) _ _ _ _ (rfl) (Nat.le_of_ble_eq_true rfl) (Nat.le_of_ble_eq_true rfl) ⟨by rw [h], rfl⟩
theorem dX6_mostOf_0 : decode cX6_mostOf 0 = .ok (.iload_n 0, 1) := by decide +kernel
theorem dX6_mostOf_1 : decode cX6_mostOf 1 = .ok (.ifCond .ne 8, 3) := by decide +kernel
theorem dX6_mostOf_4 : decode cX6_mostOf 4 = .ok (.bipush 8, 2) := by decide +kernel
theorem dX6_mostOf_6 : decode cX6_mostOf 6 = .ok (.goto 14, 3) := by decide +kernel
theorem dX6_mostOf_9 : decode cX6_mostOf 9 = .ok (.iload_n 0, 1) := by decide +kernel
theorem dX6_mostOf_10 : decode cX6_mostOf 10 = .ok (.iconst 1, 1) := by decide +kernel
theorem dX6_mostOf_11 : decode cX6_mostOf 11 = .ok (.if_icmp .ne 8, 3) := by decide +kernel
theorem dX6_mostOf_14 : decode cX6_mostOf 14 = .ok (.bipush 60, 2) := by decide +kernel
theorem dX6_mostOf_16 : decode cX6_mostOf 16 = .ok (.goto 4, 3) := by decide +kernel
theorem dX6_mostOf_19 : decode cX6_mostOf 19 = .ok (.iconst 5, 1) := by decide +kernel
theorem dX6_mostOf_20 : decode cX6_mostOf 20 = .ok (.ireturn, 1) := by decide +kernel
set_option maxHeartbeats 4000000 in
set_option maxRecDepth 100000 in
theorem c_X6_mostOf (g : yG)  (s : Int32) : yM g yX6_mostOf wsX6_mostOf ({ frames := 0, cells := 0, slots := 0, locals := 0 } : Room) [.int s] ([] : List va_W) (fun r w => r = (f_X6_mostOf s) ∧ w = ([] : List va_W)) 0 0 := by
  refine y_entryI (cc := cX6_mostOf) (maxL := 1) (by decide +kernel) rfl (Nat.le_of_ble_eq_true rfl) (fun Z C HR => ?_)
  have C : yC Z g cX6_mostOf 1 wsX6_mostOf RX6 := C
  have h := f_X6_mostOf.eq_1 s
  show yJ Z _ 0 0 _ 0 [(0, .int s)] []
  refine y_iload_n C dX6_mostOf_0 0 rfl rfl ?_
  refine y_if_ne (tgt := 9) C dX6_mostOf_1 rfl (y_e h) (fun c1 h => ?_) (fun c1 h => ?_)
  · refine y_iload_n C dX6_mostOf_9 0 rfl rfl ?_
    refine y_iconst (v := 1) C dX6_mostOf_10 (by decide) ?_
    refine y_icmp_ne (tgt := 19) C dX6_mostOf_11 rfl (y_e h) (fun c11 h => ?_) (fun c11 h => ?_)
    · refine y_iconst (v := 5) C dX6_mostOf_19 (by decide) ?_
      exact HR 20 dX6_mostOf_20 (5 : Int32) _ _ _ _ (rfl) (Nat.le_of_ble_eq_true rfl) (Nat.le_of_ble_eq_true rfl) ⟨by rw [h], rfl⟩
    · refine y_bipush (v := 60) C dX6_mostOf_14 (by decide) ?_
      refine y_goto (tgt := 20) C dX6_mostOf_16 rfl ?_
      exact HR 20 dX6_mostOf_20 (60 : Int32) _ _ _ _ (rfl) (Nat.le_of_ble_eq_true rfl) (Nat.le_of_ble_eq_true rfl) ⟨by rw [h], rfl⟩
  · refine y_bipush (v := 8) C dX6_mostOf_4 (by decide) ?_
    refine y_goto (tgt := 20) C dX6_mostOf_6 rfl ?_
    exact HR 20 dX6_mostOf_20 (8 : Int32) _ _ _ _ (rfl) (Nat.le_of_ble_eq_true rfl) (Nat.le_of_ble_eq_true rfl) ⟨by rw [h], rfl⟩
theorem dX6_rideOf_0 : decode cX6_rideOf 0 = .ok (.iload_n 0, 1) := by decide +kernel
theorem dX6_rideOf_1 : decode cX6_rideOf 1 = .ok (.iconst 1, 1) := by decide +kernel
theorem dX6_rideOf_2 : decode cX6_rideOf 2 = .ok (.ishr, 1) := by decide +kernel
theorem dX6_rideOf_3 : decode cX6_rideOf 3 = .ok (.ireturn, 1) := by decide +kernel
set_option maxHeartbeats 4000000 in
set_option maxRecDepth 100000 in
theorem c_X6_rideOf (g : yG)  (v : Int32) : yM g yX6_rideOf wsX6_rideOf ({ frames := 0, cells := 0, slots := 0, locals := 0 } : Room) [.int v] ([] : List va_W) (fun r w => r = (f_X6_rideOf v) ∧ w = ([] : List va_W)) 0 0 := by
  refine y_entryI (cc := cX6_rideOf) (maxL := 1) (by decide +kernel) rfl (Nat.le_of_ble_eq_true rfl) (fun Z C HR => ?_)
  have C : yC Z g cX6_rideOf 1 wsX6_rideOf RX6 := C
  have h := f_X6_rideOf.eq_1 v
  show yJ Z _ 0 0 _ 0 [(0, .int v)] []
  refine y_iload_n C dX6_rideOf_0 0 rfl rfl ?_
  refine y_iconst (v := 1) C dX6_rideOf_1 (by decide) ?_
  refine y_ishr C dX6_rideOf_2 ?_
  exact HR 3 dX6_rideOf_3 (v >>> ((1 : Int32) &&& 31)) _ _ _ _ (rfl) (Nat.le_of_ble_eq_true rfl) (Nat.le_of_ble_eq_true rfl) ⟨by rw [h], rfl⟩
theorem dX6_setsDown_0 : decode cX6_setsDown 0 = .ok (.iload_n 0, 1) := by decide +kernel
theorem dX6_setsDown_1 : decode cX6_setsDown 1 = .ok (.iconst 1, 1) := by decide +kernel
theorem dX6_setsDown_2 : decode cX6_setsDown 2 = .ok (.iand, 1) := by decide +kernel
theorem dX6_setsDown_3 : decode cX6_setsDown 3 = .ok (.iconst 1, 1) := by decide +kernel
theorem dX6_setsDown_4 : decode cX6_setsDown 4 = .ok (.if_icmp .ne 7, 3) := by decide +kernel
theorem dX6_setsDown_7 : decode cX6_setsDown 7 = .ok (.iconst 1, 1) := by decide +kernel
theorem dX6_setsDown_8 : decode cX6_setsDown 8 = .ok (.goto 4, 3) := by decide +kernel
theorem dX6_setsDown_11 : decode cX6_setsDown 11 = .ok (.iconst 0, 1) := by decide +kernel
theorem dX6_setsDown_12 : decode cX6_setsDown 12 = .ok (.ireturn, 1) := by decide +kernel
set_option maxHeartbeats 4000000 in
set_option maxRecDepth 100000 in
theorem c_X6_setsDown (g : yG)  (v : Int32) : yM g yX6_setsDown wsX6_setsDown ({ frames := 0, cells := 0, slots := 0, locals := 0 } : Room) [.int v] ([] : List va_W) (fun r w => r = (f_X6_setsDown v) ∧ w = ([] : List va_W)) 0 0 := by
  refine y_entryI (cc := cX6_setsDown) (maxL := 1) (by decide +kernel) rfl (Nat.le_of_ble_eq_true rfl) (fun Z C HR => ?_)
  have C : yC Z g cX6_setsDown 1 wsX6_setsDown RX6 := C
  have h := f_X6_setsDown.eq_1 v
  show yJ Z _ 0 0 _ 0 [(0, .int v)] []
  refine y_iload_n C dX6_setsDown_0 0 rfl rfl ?_
  refine y_iconst (v := 1) C dX6_setsDown_1 (by decide) ?_
  refine y_iand C dX6_setsDown_2 ?_
  refine y_iconst (v := 1) C dX6_setsDown_3 (by decide) ?_
  refine y_icmp_ne (tgt := 11) C dX6_setsDown_4 rfl (y_e h) (fun c4 h => ?_) (fun c4 h => ?_)
  · refine y_iconst (v := 0) C dX6_setsDown_11 (by decide) ?_
    exact HR 12 dX6_setsDown_12 (0 : Int32) _ _ _ _ (rfl) (Nat.le_of_ble_eq_true rfl) (Nat.le_of_ble_eq_true rfl) ⟨by rw [h], rfl⟩
  · refine y_iconst (v := 1) C dX6_setsDown_7 (by decide) ?_
    refine y_goto (tgt := 12) C dX6_setsDown_8 rfl ?_
    exact HR 12 dX6_setsDown_12 (1 : Int32) _ _ _ _ (rfl) (Nat.le_of_ble_eq_true rfl) (Nat.le_of_ble_eq_true rfl) ⟨by rw [h], rfl⟩
theorem dX6_pickUp_0 : decode cX6_pickUp 0 = .ok (.iconst 2, 1) := by decide +kernel
theorem dX6_pickUp_1 : decode cX6_pickUp 1 = .ok (.iload_n 0, 1) := by decide +kernel
theorem dX6_pickUp_2 : decode cX6_pickUp 2 = .ok (.imul, 1) := by decide +kernel
theorem dX6_pickUp_3 : decode cX6_pickUp 3 = .ok (.ireturn, 1) := by decide +kernel
set_option maxHeartbeats 4000000 in
set_option maxRecDepth 100000 in
theorem c_X6_pickUp (g : yG)  (v : Int32) : yM g yX6_pickUp wsX6_pickUp ({ frames := 0, cells := 0, slots := 0, locals := 0 } : Room) [.int v] ([] : List va_W) (fun r w => r = (f_X6_pickUp v) ∧ w = ([] : List va_W)) 0 0 := by
  refine y_entryI (cc := cX6_pickUp) (maxL := 1) (by decide +kernel) rfl (Nat.le_of_ble_eq_true rfl) (fun Z C HR => ?_)
  have C : yC Z g cX6_pickUp 1 wsX6_pickUp RX6 := C
  have h := f_X6_pickUp.eq_1 v
  show yJ Z _ 0 0 _ 0 [(0, .int v)] []
  refine y_iconst (v := 2) C dX6_pickUp_0 (by decide) ?_
  refine y_iload_n C dX6_pickUp_1 0 rfl rfl ?_
  refine y_imul C dX6_pickUp_2 ?_
  exact HR 3 dX6_pickUp_3 ((2 : Int32) * v) _ _ _ _ (rfl) (Nat.le_of_ble_eq_true rfl) (Nat.le_of_ble_eq_true rfl) ⟨by rw [h], rfl⟩
theorem dX6_setDown_0 : decode cX6_setDown 0 = .ok (.iconst 2, 1) := by decide +kernel
theorem dX6_setDown_1 : decode cX6_setDown 1 = .ok (.iload_n 0, 1) := by decide +kernel
theorem dX6_setDown_2 : decode cX6_setDown 2 = .ok (.imul, 1) := by decide +kernel
theorem dX6_setDown_3 : decode cX6_setDown 3 = .ok (.iconst 1, 1) := by decide +kernel
theorem dX6_setDown_4 : decode cX6_setDown 4 = .ok (.iadd, 1) := by decide +kernel
theorem dX6_setDown_5 : decode cX6_setDown 5 = .ok (.ireturn, 1) := by decide +kernel
set_option maxHeartbeats 4000000 in
set_option maxRecDepth 100000 in
theorem c_X6_setDown (g : yG)  (v : Int32) : yM g yX6_setDown wsX6_setDown ({ frames := 0, cells := 0, slots := 0, locals := 0 } : Room) [.int v] ([] : List va_W) (fun r w => r = (f_X6_setDown v) ∧ w = ([] : List va_W)) 0 0 := by
  refine y_entryI (cc := cX6_setDown) (maxL := 1) (by decide +kernel) rfl (Nat.le_of_ble_eq_true rfl) (fun Z C HR => ?_)
  have C : yC Z g cX6_setDown 1 wsX6_setDown RX6 := C
  have h := f_X6_setDown.eq_1 v
  show yJ Z _ 0 0 _ 0 [(0, .int v)] []
  refine y_iconst (v := 2) C dX6_setDown_0 (by decide) ?_
  refine y_iload_n C dX6_setDown_1 0 rfl rfl ?_
  refine y_imul C dX6_setDown_2 ?_
  refine y_iconst (v := 1) C dX6_setDown_3 (by decide) ?_
  refine y_iadd C dX6_setDown_4 ?_
  exact HR 5 dX6_setDown_5 (((2 : Int32) * v) + (1 : Int32)) _ _ _ _ (rfl) (Nat.le_of_ble_eq_true rfl) (Nat.le_of_ble_eq_true rfl) ⟨by rw [h], rfl⟩
theorem dX2_withDigit_0 : decode cX2_withDigit 0 = .ok (.iload_n 0, 1) := by decide +kernel
theorem dX2_withDigit_1 : decode cX2_withDigit 1 = .ok (.bipush (-6), 2) := by decide +kernel
theorem dX2_withDigit_3 : decode cX2_withDigit 3 = .ok (.if_icmp .ne 5, 3) := by decide +kernel
theorem dX2_withDigit_6 : decode cX2_withDigit 6 = .ok (.iload_n 1, 1) := by decide +kernel
theorem dX2_withDigit_7 : decode cX2_withDigit 7 = .ok (.ireturn, 1) := by decide +kernel
theorem dX2_withDigit_8 : decode cX2_withDigit 8 = .ok (.iload_n 0, 1) := by decide +kernel
theorem dX2_withDigit_9 : decode cX2_withDigit 9 = .ok (.ifCond .ne 8, 3) := by decide +kernel
theorem dX2_withDigit_12 : decode cX2_withDigit 12 = .ok (.bipush (-3), 2) := by decide +kernel
theorem dX2_withDigit_14 : decode cX2_withDigit 14 = .ok (.goto 9, 3) := by decide +kernel
theorem dX2_withDigit_17 : decode cX2_withDigit 17 = .ok (.iload_n 0, 1) := by decide +kernel
theorem dX2_withDigit_18 : decode cX2_withDigit 18 = .ok (.bipush 10, 2) := by decide +kernel
theorem dX2_withDigit_20 : decode cX2_withDigit 20 = .ok (.imul, 1) := by decide +kernel
theorem dX2_withDigit_21 : decode cX2_withDigit 21 = .ok (.iload_n 1, 1) := by decide +kernel
theorem dX2_withDigit_22 : decode cX2_withDigit 22 = .ok (.iadd, 1) := by decide +kernel
theorem dX2_withDigit_23 : decode cX2_withDigit 23 = .ok (.ireturn, 1) := by decide +kernel
set_option maxHeartbeats 4000000 in
set_option maxRecDepth 100000 in
theorem c_X2_withDigit (g : yG)  (nu : Int32) (di : Int32) : yM g yX2_withDigit wsX2_withDigit ({ frames := 0, cells := 0, slots := 0, locals := 0 } : Room) [.int nu, .int di] ([] : List va_W) (fun r w => r = (f_X2_withDigit nu di) ∧ w = ([] : List va_W)) 0 0 := by
  refine y_entryI (cc := cX2_withDigit) (maxL := 2) (by decide +kernel) rfl (Nat.le_of_ble_eq_true rfl) (fun Z C HR => ?_)
  have C : yC Z g cX2_withDigit 2 wsX2_withDigit RX2 := C
  have h := f_X2_withDigit.eq_1 nu di
  show yJ Z _ 0 0 _ 0 [(0, .int nu), (1, .int di)] []
  refine y_iload_n C dX2_withDigit_0 0 rfl rfl ?_
  refine y_bipush (v := -6) C dX2_withDigit_1 (by decide) ?_
  refine y_icmp_ne (tgt := 8) C dX2_withDigit_3 rfl (y_e h) (fun c3 h => ?_) (fun c3 h => ?_)
  · refine y_iload_n C dX2_withDigit_8 0 rfl rfl ?_
    refine y_if_ne (tgt := 17) C dX2_withDigit_9 rfl (y_e h) (fun c9 h => ?_) (fun c9 h => ?_)
    · refine y_iload_n C dX2_withDigit_17 0 rfl rfl ?_
      refine y_bipush (v := 10) C dX2_withDigit_18 (by decide) ?_
      refine y_imul C dX2_withDigit_20 ?_
      refine y_iload_n C dX2_withDigit_21 1 rfl rfl ?_
      refine y_iadd C dX2_withDigit_22 ?_
      exact HR 23 dX2_withDigit_23 ((nu * (10 : Int32)) + di) _ _ _ _ (rfl) (Nat.le_of_ble_eq_true rfl) (Nat.le_of_ble_eq_true rfl) ⟨by rw [h], rfl⟩
    · refine y_bipush (v := -3) C dX2_withDigit_12 (by decide) ?_
      refine y_goto (tgt := 23) C dX2_withDigit_14 rfl ?_
      exact HR 23 dX2_withDigit_23 (-3 : Int32) _ _ _ _ (rfl) (Nat.le_of_ble_eq_true rfl) (Nat.le_of_ble_eq_true rfl) ⟨by rw [h], rfl⟩
  · refine y_iload_n C dX2_withDigit_6 1 rfl rfl ?_
    exact HR 7 dX2_withDigit_7 di _ _ _ _ (rfl) (Nat.le_of_ble_eq_true rfl) (Nat.le_of_ble_eq_true rfl) ⟨by rw [h], rfl⟩
theorem dX2_mostIn_0 : decode cX2_mostIn 0 = .ok (.iload_n 0, 1) := by decide +kernel
theorem dX2_mostIn_1 : decode cX2_mostIn 1 = .ok (.iconst 2, 1) := by decide +kernel
theorem dX2_mostIn_2 : decode cX2_mostIn 2 = .ok (.if_icmp .ge 8, 3) := by decide +kernel
theorem dX2_mostIn_5 : decode cX2_mostIn 5 = .ok (.bipush 11, 2) := by decide +kernel
theorem dX2_mostIn_7 : decode cX2_mostIn 7 = .ok (.goto 17, 3) := by decide +kernel
theorem dX2_mostIn_10 : decode cX2_mostIn 10 = .ok (.iload_n 0, 1) := by decide +kernel
theorem dX2_mostIn_11 : decode cX2_mostIn 11 = .ok (.iconst 2, 1) := by decide +kernel
theorem dX2_mostIn_12 : decode cX2_mostIn 12 = .ok (.if_icmp .ne 9, 3) := by decide +kernel
theorem dX2_mostIn_15 : decode cX2_mostIn 15 = .ok (.sipush 600, 3) := by decide +kernel
theorem dX2_mostIn_18 : decode cX2_mostIn 18 = .ok (.goto 6, 3) := by decide +kernel
theorem dX2_mostIn_21 : decode cX2_mostIn 21 = .ok (.sipush 900, 3) := by decide +kernel
theorem dX2_mostIn_24 : decode cX2_mostIn 24 = .ok (.ireturn, 1) := by decide +kernel
set_option maxHeartbeats 4000000 in
set_option maxRecDepth 100000 in
theorem c_X2_mostIn (g : yG)  (pa : Int32) : yM g yX2_mostIn wsX2_mostIn ({ frames := 0, cells := 0, slots := 0, locals := 0 } : Room) [.int pa] ([] : List va_W) (fun r w => r = (f_X2_mostIn pa) ∧ w = ([] : List va_W)) 0 0 := by
  refine y_entryI (cc := cX2_mostIn) (maxL := 1) (by decide +kernel) rfl (Nat.le_of_ble_eq_true rfl) (fun Z C HR => ?_)
  have C : yC Z g cX2_mostIn 1 wsX2_mostIn RX2 := C
  have h := f_X2_mostIn.eq_1 pa
  show yJ Z _ 0 0 _ 0 [(0, .int pa)] []
  refine y_iload_n C dX2_mostIn_0 0 rfl rfl ?_
  refine y_iconst (v := 2) C dX2_mostIn_1 (by decide) ?_
  refine y_icmp_ge (tgt := 10) C dX2_mostIn_2 rfl (y_e h) (fun c2 h => ?_) (fun c2 h => ?_)
  · refine y_iload_n C dX2_mostIn_10 0 rfl rfl ?_
    refine y_iconst (v := 2) C dX2_mostIn_11 (by decide) ?_
    refine y_icmp_ne (tgt := 21) C dX2_mostIn_12 rfl (y_e h) (fun c12 h => ?_) (fun c12 h => ?_)
    · refine y_sipush (v := 900) C dX2_mostIn_21 (by decide) ?_
      exact HR 24 dX2_mostIn_24 (900 : Int32) _ _ _ _ (rfl) (Nat.le_of_ble_eq_true rfl) (Nat.le_of_ble_eq_true rfl) ⟨by rw [h], rfl⟩
    · refine y_sipush (v := 600) C dX2_mostIn_15 (by decide) ?_
      refine y_goto (tgt := 24) C dX2_mostIn_18 rfl ?_
      exact HR 24 dX2_mostIn_24 (600 : Int32) _ _ _ _ (rfl) (Nat.le_of_ble_eq_true rfl) (Nat.le_of_ble_eq_true rfl) ⟨by rw [h], rfl⟩
  · refine y_bipush (v := 11) C dX2_mostIn_5 (by decide) ?_
    refine y_goto (tgt := 24) C dX2_mostIn_7 rfl ?_
    exact HR 24 dX2_mostIn_24 (11 : Int32) _ _ _ _ (rfl) (Nat.le_of_ble_eq_true rfl) (Nat.le_of_ble_eq_true rfl) ⟨by rw [h], rfl⟩
theorem dX2_endOf_0 : decode cX2_endOf 0 = .ok (.iload_n 0, 1) := by decide +kernel
theorem dX2_endOf_1 : decode cX2_endOf 1 = .ok (.ifCond .ne 8, 3) := by decide +kernel
theorem dX2_endOf_4 : decode cX2_endOf 4 = .ok (.bipush 62, 2) := by decide +kernel
theorem dX2_endOf_6 : decode cX2_endOf 6 = .ok (.goto 25, 3) := by decide +kernel
theorem dX2_endOf_9 : decode cX2_endOf 9 = .ok (.iload_n 0, 1) := by decide +kernel
theorem dX2_endOf_10 : decode cX2_endOf 10 = .ok (.iconst 1, 1) := by decide +kernel
theorem dX2_endOf_11 : decode cX2_endOf 11 = .ok (.if_icmp .ne 8, 3) := by decide +kernel
theorem dX2_endOf_14 : decode cX2_endOf 14 = .ok (.bipush 64, 2) := by decide +kernel
theorem dX2_endOf_16 : decode cX2_endOf 16 = .ok (.goto 15, 3) := by decide +kernel
theorem dX2_endOf_19 : decode cX2_endOf 19 = .ok (.iload_n 0, 1) := by decide +kernel
theorem dX2_endOf_20 : decode cX2_endOf 20 = .ok (.iconst 2, 1) := by decide +kernel
theorem dX2_endOf_21 : decode cX2_endOf 21 = .ok (.if_icmp .ne 8, 3) := by decide +kernel
theorem dX2_endOf_24 : decode cX2_endOf 24 = .ok (.bipush 45, 2) := by decide +kernel
theorem dX2_endOf_26 : decode cX2_endOf 26 = .ok (.goto 5, 3) := by decide +kernel
theorem dX2_endOf_29 : decode cX2_endOf 29 = .ok (.bipush 59, 2) := by decide +kernel
theorem dX2_endOf_31 : decode cX2_endOf 31 = .ok (.ireturn, 1) := by decide +kernel
set_option maxHeartbeats 4000000 in
set_option maxRecDepth 100000 in
theorem c_X2_endOf (g : yG)  (pa : Int32) : yM g yX2_endOf wsX2_endOf ({ frames := 0, cells := 0, slots := 0, locals := 0 } : Room) [.int pa] ([] : List va_W) (fun r w => r = (f_X2_endOf pa) ∧ w = ([] : List va_W)) 0 0 := by
  refine y_entryI (cc := cX2_endOf) (maxL := 1) (by decide +kernel) rfl (Nat.le_of_ble_eq_true rfl) (fun Z C HR => ?_)
  have C : yC Z g cX2_endOf 1 wsX2_endOf RX2 := C
  have h := f_X2_endOf.eq_1 pa
  show yJ Z _ 0 0 _ 0 [(0, .int pa)] []
  refine y_iload_n C dX2_endOf_0 0 rfl rfl ?_
  refine y_if_ne (tgt := 9) C dX2_endOf_1 rfl (y_e h) (fun c1 h => ?_) (fun c1 h => ?_)
  · refine y_iload_n C dX2_endOf_9 0 rfl rfl ?_
    refine y_iconst (v := 1) C dX2_endOf_10 (by decide) ?_
    refine y_icmp_ne (tgt := 19) C dX2_endOf_11 rfl (y_e h) (fun c11 h => ?_) (fun c11 h => ?_)
    · refine y_iload_n C dX2_endOf_19 0 rfl rfl ?_
      refine y_iconst (v := 2) C dX2_endOf_20 (by decide) ?_
      refine y_icmp_ne (tgt := 29) C dX2_endOf_21 rfl (y_e h) (fun c21 h => ?_) (fun c21 h => ?_)
      · refine y_bipush (v := 59) C dX2_endOf_29 (by decide) ?_
        exact HR 31 dX2_endOf_31 (59 : Int32) _ _ _ _ (rfl) (Nat.le_of_ble_eq_true rfl) (Nat.le_of_ble_eq_true rfl) ⟨by rw [h], rfl⟩
      · refine y_bipush (v := 45) C dX2_endOf_24 (by decide) ?_
        refine y_goto (tgt := 31) C dX2_endOf_26 rfl ?_
        exact HR 31 dX2_endOf_31 (45 : Int32) _ _ _ _ (rfl) (Nat.le_of_ble_eq_true rfl) (Nat.le_of_ble_eq_true rfl) ⟨by rw [h], rfl⟩
    · refine y_bipush (v := 64) C dX2_endOf_14 (by decide) ?_
      refine y_goto (tgt := 31) C dX2_endOf_16 rfl ?_
      exact HR 31 dX2_endOf_31 (64 : Int32) _ _ _ _ (rfl) (Nat.le_of_ble_eq_true rfl) (Nat.le_of_ble_eq_true rfl) ⟨by rw [h], rfl⟩
  · refine y_bipush (v := 62) C dX2_endOf_4 (by decide) ?_
    refine y_goto (tgt := 31) C dX2_endOf_6 rfl ?_
    exact HR 31 dX2_endOf_31 (62 : Int32) _ _ _ _ (rfl) (Nat.le_of_ble_eq_true rfl) (Nat.le_of_ble_eq_true rfl) ⟨by rw [h], rfl⟩
end
section
theorem dX0_hasStop_0 : decode cX0_hasStop 0 = .ok (.iload_n 1, 1) := by decide +kernel
theorem dX0_hasStop_1 : decode cX0_hasStop 1 = .ok (.ifCond .lt 18, 3) := by decide +kernel
theorem dX0_hasStop_4 : decode cX0_hasStop 4 = .ok (.iload_n 1, 1) := by decide +kernel
theorem dX0_hasStop_5 : decode cX0_hasStop 5 = .ok (.aload_n 0, 1) := by decide +kernel
theorem dX0_hasStop_6 : decode cX0_hasStop 6 = .ok (.getfield 20, 3) := by decide +kernel
theorem dX0_hasStop_9 : decode cX0_hasStop 9 = .ok (.invokevirtual 70, 3) := by decide +kernel
theorem dX0_hasStop_12 : decode cX0_hasStop 12 = .ok (.if_icmp .ge 7, 3) := by decide +kernel
theorem dX0_hasStop_15 : decode cX0_hasStop 15 = .ok (.iconst 1, 1) := by decide +kernel
theorem dX0_hasStop_16 : decode cX0_hasStop 16 = .ok (.goto 4, 3) := by decide +kernel
theorem dX0_hasStop_19 : decode cX0_hasStop 19 = .ok (.iconst 0, 1) := by decide +kernel
theorem dX0_hasStop_20 : decode cX0_hasStop 20 = .ok (.ireturn, 1) := by decide +kernel
set_option maxRecDepth 20000 in
theorem ggX0_hasStop_X3_length : GoodIn wsX0_hasStop wsX3_length := goodIn_r _ [6, 7, 23, 24] (by decide +kernel) (by decide +kernel)
set_option maxRecDepth 20000 in
theorem gX0_hasStop_X3_length : GoodIn wsX0_hasStop (wsV RX0 70 RX3 yX3_length wsX3_length) := goodIn_app (goodIn_of _ (by decide +kernel)) ggX0_hasStop_X3_length
theorem kX0_hasStop_1 : Cond.fieldLink RX0 20 "BookedDetours$Day" "xs" "LBookedDetours$Row;" ∈ wsX0_hasStop := List.mem_of_getElem? (i := 1) (by decide +kernel)
theorem hX0_hasStop_X0 : ∀ w ∈ u_ws RX0 TX0 15, w ∈ wsX0_hasStop := fun _ h => List.mem_cons_of_mem _ (List.mem_append_left _ (List.mem_append_right _ h))
set_option maxHeartbeats 4000000 in
set_option maxRecDepth 100000 in
theorem c_X0_hasStop (g : yG) (A : Nat → Nat) (d : RV) (G : Nat → Nat → Int32) (i : Int32) : yM g yX0_hasStop wsX0_hasStop ({ frames := 1, cells := 0, slots := 0, locals := 20 } : Room) [.ref (A 0), .int i] ([dayC A d] ++ dayR g A d G : List va_W) (fun r w => r = (f_X0_hasStop d i) ∧ w = ([dayC A d] ++ dayR g A d G : List va_W)) 0 0 := by
  refine y_entryI (cc := cX0_hasStop) (maxL := 2) (by decide +kernel) rfl (Nat.le_of_ble_eq_true rfl) (fun Z C HR => ?_)
  have C : yC Z g cX0_hasStop 2 wsX0_hasStop RX0 := C
  have h := f_X0_hasStop.eq_1 d i
  show yJ Z _ 0 0 _ 0 [(0, .ref (A 0)), (1, .int i)] []
  refine y_iload_n C dX0_hasStop_0 1 rfl rfl ?_
  refine y_if_lt (tgt := 19) C dX0_hasStop_1 rfl (y_e h) (fun c1 h => ?_) (fun c1 h => ?_)
  · refine y_iconst (v := 0) C dX0_hasStop_19 (by decide) ?_
    exact HR 20 dX0_hasStop_20 (0 : Int32) _ _ _ _ (rfl) (Nat.le_of_ble_eq_true rfl) (Nat.le_of_ble_eq_true rfl) ⟨by rw [h], rfl⟩
  · refine y_iload_n C dX0_hasStop_4 1 rfl rfl ?_
    refine y_aload_n C dX0_hasStop_5 0 rfl rfl ?_
    refine y_get (Cn := RX0) (T := TX0) (N := 15) (v := .ref (A 3)) C dX0_hasStop_6 hX0_hasStop_X0 0 (sh_3 g A d G) rfl 1 (Nat.le_of_ble_eq_true rfl) kX0_hasStop_1 rfl ?_
    refine y_callV (As := []) (rest := [.int i]) C dX0_hasStop_9 (c_X3_length g (A 3) (A 4) 12 (d.1 1) (G 1) (by decide)) rfl rfl rfl rfl ⟨Nat.le_of_ble_eq_true rfl, Nat.le_of_ble_eq_true rfl⟩ gX0_hasStop_X3_length (nA := 0) (by decide +kernel) rfl (rowW_recv ⟨_, rfl⟩) (Nat.le_of_ble_eq_true rfl) ⟨Nat.le_of_ble_eq_true rfl, Nat.le_of_ble_eq_true rfl⟩ [2] [0, 1, 3, 4, 5, 6, 7, 8, 9, 10, 11, 12] (nB := 13) rfl (by decide +kernel) (sh_4 g A d G) (fun r1 w9 hw => ?_)
    obtain ⟨er1, rfl⟩ := hw
    have h := y_letF h er1
    refine ⟨([dayC A d] ++ dayR g A d G : List va_W), ⟨(sh_4 g A d G), rfl, rfl⟩, ?_⟩
    refine y_icmp_ge (tgt := 19) C dX0_hasStop_12 rfl (y_e h) (fun c12 h => ?_) (fun c12 h => ?_)
    · refine y_iconst (v := 0) C dX0_hasStop_19 (by decide) ?_
      exact HR 20 dX0_hasStop_20 (0 : Int32) _ _ _ _ (rfl) (Nat.le_of_ble_eq_true rfl) (Nat.le_of_ble_eq_true rfl) ⟨by rw [h], rfl⟩
    · refine y_iconst (v := 1) C dX0_hasStop_15 (by decide) ?_
      refine y_goto (tgt := 20) C dX0_hasStop_16 rfl ?_
      exact HR 20 dX0_hasStop_20 (1 : Int32) _ _ _ _ (rfl) (Nat.le_of_ble_eq_true rfl) (Nat.le_of_ble_eq_true rfl) ⟨by rw [h], rfl⟩
theorem dX0_hasRide_0 : decode cX0_hasRide 0 = .ok (.iload_n 1, 1) := by decide +kernel
theorem dX0_hasRide_1 : decode cX0_hasRide 1 = .ok (.ifCond .lt 18, 3) := by decide +kernel
theorem dX0_hasRide_4 : decode cX0_hasRide 4 = .ok (.iload_n 1, 1) := by decide +kernel
theorem dX0_hasRide_5 : decode cX0_hasRide 5 = .ok (.aload_n 0, 1) := by decide +kernel
theorem dX0_hasRide_6 : decode cX0_hasRide 6 = .ok (.getfield 41, 3) := by decide +kernel
theorem dX0_hasRide_9 : decode cX0_hasRide 9 = .ok (.invokevirtual 70, 3) := by decide +kernel
theorem dX0_hasRide_12 : decode cX0_hasRide 12 = .ok (.if_icmp .ge 7, 3) := by decide +kernel
theorem dX0_hasRide_15 : decode cX0_hasRide 15 = .ok (.iconst 1, 1) := by decide +kernel
theorem dX0_hasRide_16 : decode cX0_hasRide 16 = .ok (.goto 4, 3) := by decide +kernel
theorem dX0_hasRide_19 : decode cX0_hasRide 19 = .ok (.iconst 0, 1) := by decide +kernel
theorem dX0_hasRide_20 : decode cX0_hasRide 20 = .ok (.ireturn, 1) := by decide +kernel
set_option maxRecDepth 20000 in
theorem ggX0_hasRide_X3_length : GoodIn wsX0_hasRide wsX3_length := goodIn_r _ [6, 7, 23, 24] (by decide +kernel) (by decide +kernel)
set_option maxRecDepth 20000 in
theorem gX0_hasRide_X3_length : GoodIn wsX0_hasRide (wsV RX0 70 RX3 yX3_length wsX3_length) := goodIn_app (goodIn_of _ (by decide +kernel)) ggX0_hasRide_X3_length
theorem kX0_hasRide_1 : Cond.fieldLink RX0 41 "BookedDetours$Day" "stands" "LBookedDetours$Row;" ∈ wsX0_hasRide := List.mem_of_getElem? (i := 1) (by decide +kernel)
theorem hX0_hasRide_X0 : ∀ w ∈ u_ws RX0 TX0 15, w ∈ wsX0_hasRide := fun _ h => List.mem_cons_of_mem _ (List.mem_append_left _ (List.mem_append_right _ h))
set_option maxHeartbeats 4000000 in
set_option maxRecDepth 100000 in
theorem c_X0_hasRide (g : yG) (A : Nat → Nat) (d : RV) (G : Nat → Nat → Int32) (i : Int32) : yM g yX0_hasRide wsX0_hasRide ({ frames := 1, cells := 0, slots := 0, locals := 20 } : Room) [.ref (A 0), .int i] ([dayC A d] ++ dayR g A d G : List va_W) (fun r w => r = (f_X0_hasRide d i) ∧ w = ([dayC A d] ++ dayR g A d G : List va_W)) 0 0 := by
  refine y_entryI (cc := cX0_hasRide) (maxL := 2) (by decide +kernel) rfl (Nat.le_of_ble_eq_true rfl) (fun Z C HR => ?_)
  have C : yC Z g cX0_hasRide 2 wsX0_hasRide RX0 := C
  have h := f_X0_hasRide.eq_1 d i
  show yJ Z _ 0 0 _ 0 [(0, .ref (A 0)), (1, .int i)] []
  refine y_iload_n C dX0_hasRide_0 1 rfl rfl ?_
  refine y_if_lt (tgt := 19) C dX0_hasRide_1 rfl (y_e h) (fun c1 h => ?_) (fun c1 h => ?_)
  · refine y_iconst (v := 0) C dX0_hasRide_19 (by decide) ?_
    exact HR 20 dX0_hasRide_20 (0 : Int32) _ _ _ _ (rfl) (Nat.le_of_ble_eq_true rfl) (Nat.le_of_ble_eq_true rfl) ⟨by rw [h], rfl⟩
  · refine y_iload_n C dX0_hasRide_4 1 rfl rfl ?_
    refine y_aload_n C dX0_hasRide_5 0 rfl rfl ?_
    refine y_get (Cn := RX0) (T := TX0) (N := 15) (v := .ref (A 17)) C dX0_hasRide_6 hX0_hasRide_X0 0 (sh_3 g A d G) rfl 8 (Nat.le_of_ble_eq_true rfl) kX0_hasRide_1 rfl ?_
    refine y_callV (As := []) (rest := [.int i]) C dX0_hasRide_9 (c_X3_length g (A 17) (A 18) 17 (d.1 8) (G 8) (by decide)) rfl rfl rfl rfl ⟨Nat.le_of_ble_eq_true rfl, Nat.le_of_ble_eq_true rfl⟩ gX0_hasRide_X3_length (nA := 0) (by decide +kernel) rfl (rowW_recv ⟨_, rfl⟩) (Nat.le_of_ble_eq_true rfl) ⟨Nat.le_of_ble_eq_true rfl, Nat.le_of_ble_eq_true rfl⟩ [9] [0, 1, 2, 3, 4, 5, 6, 7, 8, 10, 11, 12] (nB := 13) rfl (by decide +kernel) (sh_5 g A d G) (fun r1 w9 hw => ?_)
    obtain ⟨er1, rfl⟩ := hw
    have h := y_letF h er1
    refine ⟨([dayC A d] ++ dayR g A d G : List va_W), ⟨(sh_5 g A d G), rfl, rfl⟩, ?_⟩
    refine y_icmp_ge (tgt := 19) C dX0_hasRide_12 rfl (y_e h) (fun c12 h => ?_) (fun c12 h => ?_)
    · refine y_iconst (v := 0) C dX0_hasRide_19 (by decide) ?_
      exact HR 20 dX0_hasRide_20 (0 : Int32) _ _ _ _ (rfl) (Nat.le_of_ble_eq_true rfl) (Nat.le_of_ble_eq_true rfl) ⟨by rw [h], rfl⟩
    · refine y_iconst (v := 1) C dX0_hasRide_15 (by decide) ?_
      refine y_goto (tgt := 20) C dX0_hasRide_16 rfl ?_
      exact HR 20 dX0_hasRide_20 (1 : Int32) _ _ _ _ (rfl) (Nat.le_of_ble_eq_true rfl) (Nat.le_of_ble_eq_true rfl) ⟨by rw [h], rfl⟩
theorem dX0_ridesThatStand_0 : decode cX0_ridesThatStand 0 = .ok (.iconst 0, 1) := by decide +kernel
theorem dX0_ridesThatStand_1 : decode cX0_ridesThatStand 1 = .ok (.istore_n 2, 1) := by decide +kernel
theorem dX0_ridesThatStand_2 : decode cX0_ridesThatStand 2 = .ok (.iconst 0, 1) := by decide +kernel
theorem dX0_ridesThatStand_3 : decode cX0_ridesThatStand 3 = .ok (.istore_n 3, 1) := by decide +kernel
theorem dX0_ridesThatStand_4 : decode cX0_ridesThatStand 4 = .ok (.iload_n 3, 1) := by decide +kernel
theorem dX0_ridesThatStand_5 : decode cX0_ridesThatStand 5 = .ok (.aload_n 0, 1) := by decide +kernel
theorem dX0_ridesThatStand_6 : decode cX0_ridesThatStand 6 = .ok (.getfield 41, 3) := by decide +kernel
theorem dX0_ridesThatStand_9 : decode cX0_ridesThatStand 9 = .ok (.invokevirtual 70, 3) := by decide +kernel
theorem dX0_ridesThatStand_12 : decode cX0_ridesThatStand 12 = .ok (.if_icmp .ge 24, 3) := by decide +kernel
theorem dX0_ridesThatStand_15 : decode cX0_ridesThatStand 15 = .ok (.aload_n 0, 1) := by decide +kernel
theorem dX0_ridesThatStand_16 : decode cX0_ridesThatStand 16 = .ok (.getfield 41, 3) := by decide +kernel
theorem dX0_ridesThatStand_19 : decode cX0_ridesThatStand 19 = .ok (.iload_n 3, 1) := by decide +kernel
theorem dX0_ridesThatStand_20 : decode cX0_ridesThatStand 20 = .ok (.invokevirtual 74, 3) := by decide +kernel
theorem dX0_ridesThatStand_23 : decode cX0_ridesThatStand 23 = .ok (.iload_n 1, 1) := by decide +kernel
theorem dX0_ridesThatStand_24 : decode cX0_ridesThatStand 24 = .ok (.if_icmp .ne 6, 3) := by decide +kernel
theorem dX0_ridesThatStand_27 : decode cX0_ridesThatStand 27 = .ok (.iinc 2 1, 3) := by decide +kernel
theorem dX0_ridesThatStand_30 : decode cX0_ridesThatStand 30 = .ok (.iinc 3 1, 3) := by decide +kernel
theorem dX0_ridesThatStand_33 : decode cX0_ridesThatStand 33 = .ok (.goto (-29), 3) := by decide +kernel
theorem dX0_ridesThatStand_36 : decode cX0_ridesThatStand 36 = .ok (.iload_n 2, 1) := by decide +kernel
theorem dX0_ridesThatStand_37 : decode cX0_ridesThatStand 37 = .ok (.ireturn, 1) := by decide +kernel
set_option maxRecDepth 20000 in
theorem ggX0_ridesThatStand_X3_length : GoodIn wsX0_ridesThatStand wsX3_length := goodIn_r _ [6, 7, 28, 29] (by decide +kernel) (by decide +kernel)
set_option maxRecDepth 20000 in
theorem gX0_ridesThatStand_X3_length : GoodIn wsX0_ridesThatStand (wsV RX0 70 RX3 yX3_length wsX3_length) := goodIn_app (goodIn_of _ (by decide +kernel)) ggX0_ridesThatStand_X3_length
set_option maxRecDepth 20000 in
theorem ggX0_ridesThatStand_X3_at : GoodIn wsX0_ridesThatStand wsX3_at := goodIn_r _ [11, 7, 12, 28, 29] (by decide +kernel) (by decide +kernel)
set_option maxRecDepth 20000 in
theorem gX0_ridesThatStand_X3_at : GoodIn wsX0_ridesThatStand (wsV RX0 74 RX3 yX3_at wsX3_at) := goodIn_app (goodIn_of _ (by decide +kernel)) ggX0_ridesThatStand_X3_at
theorem kX0_ridesThatStand_1 : Cond.fieldLink RX0 41 "BookedDetours$Day" "stands" "LBookedDetours$Row;" ∈ wsX0_ridesThatStand := List.mem_of_getElem? (i := 1) (by decide +kernel)
theorem hX0_ridesThatStand_X0 : ∀ w ∈ u_ws RX0 TX0 15, w ∈ wsX0_ridesThatStand := fun _ h => List.mem_cons_of_mem _ (List.mem_append_left _ (List.mem_append_right _ h))
set_option maxHeartbeats 4000000 in
set_option maxRecDepth 100000 in
theorem w_X0_ridesThatStand_4 {Z : yZ} (g : yG) (A : Nat → Nat) (d : RV) (G : Nat → Nat → Int32) (how : Int32) (C : yC Z g cX0_ridesThatStand 4 wsX0_ridesThatStand RX0) {post : Int32 → List va_W → Prop} (HR : yRi Z ({ frames := 1, cells := 0, slots := 0, locals := 21 } : Room) cX0_ridesThatStand .int post 0 0) {X4 : Int32 → Int32 → Prop} (hX4 : ∀ (x2 : Int32) (x3 : Int32), X4 x2 x3 → yJ Z ({ frames := 1, cells := 0, slots := 0, locals := 21 } : Room) 0 0 ([dayC A d] ++ dayR g A d G : List va_W) 4 [(0, .ref (A 0)), (1, .int how), (2, .int x2), (3, .int x3)] []) {K : Int32 → Prop} (hK : ∀ (r0 : Int32), K r0 → post r0 ([dayC A d] ++ dayR g A d G : List va_W)) (x2 : Int32) (x3 : Int32) (h : wp_X0_ridesThatStand_4 d how X4 K x2 x3) : yJ Z ({ frames := 1, cells := 0, slots := 0, locals := 21 } : Room) 0 0 ([dayC A d] ++ dayR g A d G : List va_W) 4 [(0, .ref (A 0)), (1, .int how), (2, .int x2), (3, .int x3)] [] := by
  unfold wp_X0_ridesThatStand_4 at h
  refine y_iload_n C dX0_ridesThatStand_4 3 rfl rfl ?_
  refine y_aload_n C dX0_ridesThatStand_5 0 rfl rfl ?_
  refine y_get (Cn := RX0) (T := TX0) (N := 15) (v := .ref (A 17)) C dX0_ridesThatStand_6 hX0_ridesThatStand_X0 0 (sh_3 g A d G) rfl 8 (Nat.le_of_ble_eq_true rfl) kX0_ridesThatStand_1 rfl ?_
  refine y_callV (As := []) (rest := [.int x3]) C dX0_ridesThatStand_9 (c_X3_length g (A 17) (A 18) 17 (d.1 8) (G 8) (by decide)) rfl rfl rfl rfl ⟨Nat.le_of_ble_eq_true rfl, Nat.le_of_ble_eq_true rfl⟩ gX0_ridesThatStand_X3_length (nA := 0) (by decide +kernel) rfl (rowW_recv ⟨_, rfl⟩) (Nat.le_of_ble_eq_true rfl) ⟨Nat.le_of_ble_eq_true rfl, Nat.le_of_ble_eq_true rfl⟩ [9] [0, 1, 2, 3, 4, 5, 6, 7, 8, 10, 11, 12] (nB := 13) rfl (by decide +kernel) (sh_5 g A d G) (fun r1 w9 hw => ?_)
  obtain ⟨er1, rfl⟩ := hw
  have h := y_letP h er1
  refine ⟨([dayC A d] ++ dayR g A d G : List va_W), ⟨(sh_5 g A d G), rfl, rfl⟩, ?_⟩
  refine y_icmp_ge (tgt := 36) C dX0_ridesThatStand_12 rfl h (fun c12 h => ?_) (fun c12 h => ?_)
  · refine y_iload_n C dX0_ridesThatStand_36 2 rfl rfl ?_
    exact HR 37 dX0_ridesThatStand_37 x2 _ _ _ _ (rfl) (Nat.le_of_ble_eq_true rfl) (Nat.le_of_ble_eq_true rfl) (hK _  h)
  · refine y_aload_n C dX0_ridesThatStand_15 0 rfl rfl ?_
    refine y_get (Cn := RX0) (T := TX0) (N := 15) (v := .ref (A 17)) C dX0_ridesThatStand_16 hX0_ridesThatStand_X0 0 (sh_3 g A d G) rfl 8 (Nat.le_of_ble_eq_true rfl) kX0_ridesThatStand_1 rfl ?_
    refine y_iload_n C dX0_ridesThatStand_19 3 rfl rfl ?_
    refine y_callV (As := [.int x3]) (rest := []) C dX0_ridesThatStand_20 (c_X3_at g (A 17) (A 18) 17 (d.1 8) (G 8) x3 (by decide)) rfl rfl rfl rfl ⟨Nat.le_of_ble_eq_true rfl, Nat.le_of_ble_eq_true rfl⟩ gX0_ridesThatStand_X3_at (nA := 1) (by decide +kernel) rfl (rowW_recv ⟨_, rfl⟩) (Nat.le_of_ble_eq_true rfl) ⟨Nat.le_of_ble_eq_true rfl, Nat.le_of_ble_eq_true rfl⟩ [9] [0, 1, 2, 3, 4, 5, 6, 7, 8, 10, 11, 12] (nB := 13) rfl (by decide +kernel) (sh_5 g A d G) (fun r2 w9 hw => ?_)
    obtain ⟨er2, rfl⟩ := hw
    have h := y_letP h er2
    refine ⟨([dayC A d] ++ dayR g A d G : List va_W), ⟨(sh_5 g A d G), rfl, rfl⟩, ?_⟩
    refine y_iload_n C dX0_ridesThatStand_23 1 rfl rfl ?_
    refine y_icmp_ne (tgt := 30) C dX0_ridesThatStand_24 rfl h (fun c24 h => ?_) (fun c24 h => ?_)
    · refine y_iinc (v := (x3 + (1 : Int32))) (lv' := [(3, .int (x3 + (1 : Int32))), (0, .ref (A 0)), (1, .int how), (2, .int x2)]) C dX0_ridesThatStand_30 3 rfl rfl (Nat.le_of_ble_eq_true rfl) rfl ?_
      refine y_goto (tgt := 4) C dX0_ridesThatStand_33 rfl ?_
      refine y_sub (lv' := [(0, .ref (A 0)), (1, .int how), (2, .int x2), (3, .int (x3 + (1 : Int32)))]) [1, 2, 3, 0] rfl ?_
      exact hX4 _ _ h
    · refine y_iinc (v := (x2 + (1 : Int32))) (lv' := [(2, .int (x2 + (1 : Int32))), (0, .ref (A 0)), (1, .int how), (3, .int x3)]) C dX0_ridesThatStand_27 2 rfl rfl (Nat.le_of_ble_eq_true rfl) rfl ?_
      refine y_iinc (v := (x3 + (1 : Int32))) (lv' := [(3, .int (x3 + (1 : Int32))), (2, .int (x2 + (1 : Int32))), (0, .ref (A 0)), (1, .int how)]) C dX0_ridesThatStand_30 3 rfl rfl (Nat.le_of_ble_eq_true rfl) rfl ?_
      refine y_goto (tgt := 4) C dX0_ridesThatStand_33 rfl ?_
      refine y_sub (lv' := [(0, .ref (A 0)), (1, .int how), (2, .int (x2 + (1 : Int32))), (3, .int (x3 + (1 : Int32)))]) [2, 3, 1, 0] rfl ?_
      exact hX4 _ _ h
set_option maxHeartbeats 4000000 in
set_option maxRecDepth 100000 in
theorem l_X0_ridesThatStand {Z : yZ} (g : yG) (A : Nat → Nat) (d : RV) (G : Nat → Nat → Int32) (how : Int32) (C : yC Z g cX0_ridesThatStand 4 wsX0_ridesThatStand RX0) {post : Int32 → List va_W → Prop} (HR : yRi Z ({ frames := 1, cells := 0, slots := 0, locals := 21 } : Room) cX0_ridesThatStand .int post 0 0) {K : Int32 → Prop} (hK : ∀ (r0 : Int32), K r0 → post r0 ([dayC A d] ++ dayR g A d G : List va_W)) {I4 : Nat → Int32 → Int32 → Prop} (o4 : ∀ (w0 : Nat) (x2 : Int32) (x3 : Int32), I4 w0 x2 x3 → wp_X0_ridesThatStand_4 d how (fun (x29 : Int32) (x39 : Int32) => ∃ w9, w9 < w0 ∧ I4 w9 x29 x39) K x2 x3) : ∀ w0 : Nat, (∀ (x2 : Int32) (x3 : Int32), I4 w0 x2 x3 → yJ Z ({ frames := 1, cells := 0, slots := 0, locals := 21 } : Room) 0 0 ([dayC A d] ++ dayR g A d G : List va_W) 4 [(0, .ref (A 0)), (1, .int how), (2, .int x2), (3, .int x3)] []) := by
  intro w0
  induction w0 using Nat.strongRecOn with
  | _ w0 ih =>
    exact fun x2 x3 hi => w_X0_ridesThatStand_4 g A d G how C HR (fun x2 x3 hq => by obtain ⟨w9, hlt, hi⟩ := hq; exact (ih w9 hlt) x2 x3 hi) hK x2 x3 (o4 w0 x2 x3 hi)
set_option maxHeartbeats 4000000 in
set_option maxRecDepth 100000 in
theorem t_X0_ridesThatStand (g : yG) (A : Nat → Nat) (d : RV) (G : Nat → Nat → Int32) (how : Int32) {post : Int32 → List va_W → Prop} {K : Int32 → Prop} (hK : ∀ (r0 : Int32), K r0 → post r0 ([dayC A d] ++ dayR g A d G : List va_W)) (hPO : PO_X0_ridesThatStand d how K  ) : yM g yX0_ridesThatStand wsX0_ridesThatStand ({ frames := 1, cells := 0, slots := 0, locals := 21 } : Room) [.ref (A 0), .int how] ([dayC A d] ++ dayR g A d G : List va_W) post 0 0 := by
  refine y_entryI (cc := cX0_ridesThatStand) (maxL := 4) (by decide +kernel) rfl (Nat.le_of_ble_eq_true rfl) (fun Z C HR => ?_)
  have C : yC Z g cX0_ridesThatStand 4 wsX0_ridesThatStand RX0 := C
  obtain ⟨I4, o4, h⟩ := hPO
  have hX4 : ∀ (x2 : Int32) (x3 : Int32), (fun (x29 : Int32) (x39 : Int32) => ∃ w9, I4 w9 x29 x39) x2 x3 → yJ Z ({ frames := 1, cells := 0, slots := 0, locals := 21 } : Room) 0 0 ([dayC A d] ++ dayR g A d G : List va_W) 4 [(0, .ref (A 0)), (1, .int how), (2, .int x2), (3, .int x3)] [] := by
    intro x2 x3 hq
    obtain ⟨w9, hi⟩ := hq
    exact (l_X0_ridesThatStand g A d G how C HR hK o4 w9) x2 x3 hi
  unfold wp_X0_ridesThatStand_0 at h
  show yJ Z _ 0 0 _ 0 [(0, .ref (A 0)), (1, .int how)] []
  refine y_iconst (v := 0) C dX0_ridesThatStand_0 (by decide) ?_
  refine y_istore_n (lv' := [(2, .int (0 : Int32)), (0, .ref (A 0)), (1, .int how)]) C dX0_ridesThatStand_1 rfl (Nat.le_of_ble_eq_true rfl) rfl ?_
  refine y_iconst (v := 0) C dX0_ridesThatStand_2 (by decide) ?_
  refine y_istore_n (lv' := [(3, .int (0 : Int32)), (2, .int (0 : Int32)), (0, .ref (A 0)), (1, .int how)]) C dX0_ridesThatStand_3 rfl (Nat.le_of_ble_eq_true rfl) rfl ?_
  refine y_sub (lv' := [(0, .ref (A 0)), (1, .int how), (2, .int (0 : Int32)), (3, .int (0 : Int32))]) [2, 3, 1, 0] rfl ?_
  exact hX4 _ _ h
set_option maxHeartbeats 4000000 in
set_option maxRecDepth 100000 in
theorem c_X0_ridesThatStand (g : yG) (A : Nat → Nat) (d : RV) (G : Nat → Nat → Int32) (how : Int32)  : yM g yX0_ridesThatStand wsX0_ridesThatStand ({ frames := 1, cells := 0, slots := 0, locals := 21 } : Room) [.ref (A 0), .int how] ([dayC A d] ++ dayR g A d G : List va_W) (fun r w => r = (nStand (d.1 8) how) ∧ w = ([dayC A d] ++ dayR g A d G : List va_W)) 0 0 :=
  yM_fact (F := dayLen d) (fun A9 hD => dayLen_of (g := g) (A := A) (G := G) (fun x hx => by simp only [List.mem_append, hx, true_or, or_true]) hD) (fun hF => t_X0_ridesThatStand g A d G how (K := (fun (r1 : Int32) => r1 = (nStand (d.1 8) how))) (fun r1 e0 => ⟨e0, rfl⟩) (p_X0_ridesThatStand (by have := hF.2.2.2.2.2.2.2.2.1; omega)))
theorem dX0_minutes_0 : decode cX0_minutes 0 = .ok (.aload_n 0, 1) := by decide +kernel
theorem dX0_minutes_1 : decode cX0_minutes 1 = .ok (.getfield 20, 3) := by decide +kernel
theorem dX0_minutes_4 : decode cX0_minutes 4 = .ok (.iload_n 1, 1) := by decide +kernel
theorem dX0_minutes_5 : decode cX0_minutes 5 = .ok (.invokevirtual 74, 3) := by decide +kernel
theorem dX0_minutes_8 : decode cX0_minutes 8 = .ok (.aload_n 0, 1) := by decide +kernel
theorem dX0_minutes_9 : decode cX0_minutes 9 = .ok (.getfield 20, 3) := by decide +kernel
theorem dX0_minutes_12 : decode cX0_minutes 12 = .ok (.iload_n 2, 1) := by decide +kernel
theorem dX0_minutes_13 : decode cX0_minutes 13 = .ok (.invokevirtual 74, 3) := by decide +kernel
theorem dX0_minutes_16 : decode cX0_minutes 16 = .ok (.isub, 1) := by decide +kernel
theorem dX0_minutes_17 : decode cX0_minutes 17 = .ok (.invokestatic 78, 3) := by decide +kernel
theorem dX0_minutes_20 : decode cX0_minutes 20 = .ok (.aload_n 0, 1) := by decide +kernel
theorem dX0_minutes_21 : decode cX0_minutes 21 = .ok (.getfield 23, 3) := by decide +kernel
theorem dX0_minutes_24 : decode cX0_minutes 24 = .ok (.iload_n 1, 1) := by decide +kernel
theorem dX0_minutes_25 : decode cX0_minutes 25 = .ok (.invokevirtual 74, 3) := by decide +kernel
theorem dX0_minutes_28 : decode cX0_minutes 28 = .ok (.aload_n 0, 1) := by decide +kernel
theorem dX0_minutes_29 : decode cX0_minutes 29 = .ok (.getfield 23, 3) := by decide +kernel
theorem dX0_minutes_32 : decode cX0_minutes 32 = .ok (.iload_n 2, 1) := by decide +kernel
theorem dX0_minutes_33 : decode cX0_minutes 33 = .ok (.invokevirtual 74, 3) := by decide +kernel
theorem dX0_minutes_36 : decode cX0_minutes 36 = .ok (.isub, 1) := by decide +kernel
theorem dX0_minutes_37 : decode cX0_minutes 37 = .ok (.invokestatic 78, 3) := by decide +kernel
theorem dX0_minutes_40 : decode cX0_minutes 40 = .ok (.iadd, 1) := by decide +kernel
theorem dX0_minutes_41 : decode cX0_minutes 41 = .ok (.ireturn, 1) := by decide +kernel
set_option maxRecDepth 20000 in
theorem ggX0_minutes_X3_at : GoodIn wsX0_minutes wsX3_at := goodIn_r _ [11, 12, 13, 29, 30] (by decide +kernel) (by decide +kernel)
set_option maxRecDepth 20000 in
theorem gX0_minutes_X3_at : GoodIn wsX0_minutes (wsV RX0 74 RX3 yX3_at wsX3_at) := goodIn_app (goodIn_of _ (by decide +kernel)) ggX0_minutes_X3_at
theorem kX0_minutes_1 : Cond.fieldLink RX0 20 "BookedDetours$Day" "xs" "LBookedDetours$Row;" ∈ wsX0_minutes := List.mem_of_getElem? (i := 1) (by decide +kernel)
theorem kX0_minutes_2 : Cond.methodLink RX0 78 Lib.Math.abs.name ∈ wsX0_minutes := List.mem_of_getElem? (i := 2) (by decide +kernel)
theorem kX0_minutes_3 : Cond.static Lib.Math.abs.name ∈ wsX0_minutes := List.mem_of_getElem? (i := 3) (by decide +kernel)
theorem kX0_minutes_4 : Cond.initialized "java/lang/Math" ∈ wsX0_minutes := List.mem_of_getElem? (i := 4) (by decide +kernel)
theorem kX0_minutes_5 : Cond.code Lib.Math.abs.name Lib.Math.abs.code 1 (some .int) ∈ wsX0_minutes := List.mem_of_getElem? (i := 5) (by decide +kernel)
theorem kX0_minutes_6 : Cond.fieldLink RX0 23 "BookedDetours$Day" "ys" "LBookedDetours$Row;" ∈ wsX0_minutes := List.mem_of_getElem? (i := 6) (by decide +kernel)
theorem hX0_minutes_X0 : ∀ w ∈ u_ws RX0 TX0 15, w ∈ wsX0_minutes := fun _ h => List.mem_cons_of_mem _ (List.mem_append_left _ (List.mem_append_right _ h))
set_option maxHeartbeats 4000000 in
set_option maxRecDepth 100000 in
theorem c_X0_minutes (g : yG) (A : Nat → Nat) (d : RV) (G : Nat → Nat → Int32) (i : Int32) (j : Int32) : yM g yX0_minutes wsX0_minutes ({ frames := 1, cells := 0, slots := 0, locals := 21 } : Room) [.ref (A 0), .int i, .int j] ([dayC A d] ++ dayR g A d G : List va_W) (fun r w => r = (f_X0_minutes d i j) ∧ w = ([dayC A d] ++ dayR g A d G : List va_W)) 0 0 := by
  refine y_entryI (cc := cX0_minutes) (maxL := 3) (by decide +kernel) rfl (Nat.le_of_ble_eq_true rfl) (fun Z C HR => ?_)
  have C : yC Z g cX0_minutes 3 wsX0_minutes RX0 := C
  have h := f_X0_minutes.eq_1 d i j
  show yJ Z _ 0 0 _ 0 [(0, .ref (A 0)), (1, .int i), (2, .int j)] []
  refine y_aload_n C dX0_minutes_0 0 rfl rfl ?_
  refine y_get (Cn := RX0) (T := TX0) (N := 15) (v := .ref (A 3)) C dX0_minutes_1 hX0_minutes_X0 0 (sh_3 g A d G) rfl 1 (Nat.le_of_ble_eq_true rfl) kX0_minutes_1 rfl ?_
  refine y_iload_n C dX0_minutes_4 1 rfl rfl ?_
  refine y_callV (As := [.int i]) (rest := []) C dX0_minutes_5 (c_X3_at g (A 3) (A 4) 12 (d.1 1) (G 1) i (by decide)) rfl rfl rfl rfl ⟨Nat.le_of_ble_eq_true rfl, Nat.le_of_ble_eq_true rfl⟩ gX0_minutes_X3_at (nA := 1) (by decide +kernel) rfl (rowW_recv ⟨_, rfl⟩) (Nat.le_of_ble_eq_true rfl) ⟨Nat.le_of_ble_eq_true rfl, Nat.le_of_ble_eq_true rfl⟩ [2] [0, 1, 3, 4, 5, 6, 7, 8, 9, 10, 11, 12] (nB := 13) rfl (by decide +kernel) (sh_4 g A d G) (fun r1 w9 hw => ?_)
  obtain ⟨er1, rfl⟩ := hw
  have h := y_letF h er1
  refine ⟨([dayC A d] ++ dayR g A d G : List va_W), ⟨(sh_4 g A d G), rfl, rfl⟩, ?_⟩
  refine y_aload_n C dX0_minutes_8 0 rfl rfl ?_
  refine y_get (Cn := RX0) (T := TX0) (N := 15) (v := .ref (A 3)) C dX0_minutes_9 hX0_minutes_X0 0 (sh_3 g A d G) rfl 1 (Nat.le_of_ble_eq_true rfl) kX0_minutes_1 rfl ?_
  refine y_iload_n C dX0_minutes_12 2 rfl rfl ?_
  refine y_callV (As := [.int j]) (rest := [.int r1]) C dX0_minutes_13 (c_X3_at g (A 3) (A 4) 12 (d.1 1) (G 1) j (by decide)) rfl rfl rfl rfl ⟨Nat.le_of_ble_eq_true rfl, Nat.le_of_ble_eq_true rfl⟩ gX0_minutes_X3_at (nA := 1) (by decide +kernel) rfl (rowW_recv ⟨_, rfl⟩) (Nat.le_of_ble_eq_true rfl) ⟨Nat.le_of_ble_eq_true rfl, Nat.le_of_ble_eq_true rfl⟩ [2] [0, 1, 3, 4, 5, 6, 7, 8, 9, 10, 11, 12] (nB := 13) rfl (by decide +kernel) (sh_4 g A d G) (fun r2 w9 hw => ?_)
  obtain ⟨er2, rfl⟩ := hw
  have h := y_letF h er2
  refine ⟨([dayC A d] ++ dayR g A d G : List va_W), ⟨(sh_4 g A d G), rfl, rfl⟩, ?_⟩
  refine y_isub C dX0_minutes_16 ?_
  refine y_mabs C dX0_minutes_17 kX0_minutes_2 kX0_minutes_3 kX0_minutes_4 kX0_minutes_5 (Nat.le_of_ble_eq_true rfl) (Nat.le_of_ble_eq_true rfl) (Nat.le_of_ble_eq_true rfl) (Nat.le_of_ble_eq_true rfl) ?_
  refine y_topi (fun m3 em3 => ?_)
  have h := y_letF h em3
  refine y_aload_n C dX0_minutes_20 0 rfl rfl ?_
  refine y_get (Cn := RX0) (T := TX0) (N := 15) (v := .ref (A 5)) C dX0_minutes_21 hX0_minutes_X0 0 (sh_3 g A d G) rfl 2 (Nat.le_of_ble_eq_true rfl) kX0_minutes_6 rfl ?_
  refine y_iload_n C dX0_minutes_24 1 rfl rfl ?_
  refine y_callV (As := [.int i]) (rest := [.int m3]) C dX0_minutes_25 (c_X3_at g (A 5) (A 6) 12 (d.1 2) (G 2) i (by decide)) rfl rfl rfl rfl ⟨Nat.le_of_ble_eq_true rfl, Nat.le_of_ble_eq_true rfl⟩ gX0_minutes_X3_at (nA := 1) (by decide +kernel) rfl (rowW_recv ⟨_, rfl⟩) (Nat.le_of_ble_eq_true rfl) ⟨Nat.le_of_ble_eq_true rfl, Nat.le_of_ble_eq_true rfl⟩ [3] [0, 1, 2, 4, 5, 6, 7, 8, 9, 10, 11, 12] (nB := 13) rfl (by decide +kernel) (sh_6 g A d G) (fun r4 w9 hw => ?_)
  obtain ⟨er4, rfl⟩ := hw
  have h := y_letF h er4
  refine ⟨([dayC A d] ++ dayR g A d G : List va_W), ⟨(sh_6 g A d G), rfl, rfl⟩, ?_⟩
  refine y_aload_n C dX0_minutes_28 0 rfl rfl ?_
  refine y_get (Cn := RX0) (T := TX0) (N := 15) (v := .ref (A 5)) C dX0_minutes_29 hX0_minutes_X0 0 (sh_3 g A d G) rfl 2 (Nat.le_of_ble_eq_true rfl) kX0_minutes_6 rfl ?_
  refine y_iload_n C dX0_minutes_32 2 rfl rfl ?_
  refine y_callV (As := [.int j]) (rest := [.int r4, .int m3]) C dX0_minutes_33 (c_X3_at g (A 5) (A 6) 12 (d.1 2) (G 2) j (by decide)) rfl rfl rfl rfl ⟨Nat.le_of_ble_eq_true rfl, Nat.le_of_ble_eq_true rfl⟩ gX0_minutes_X3_at (nA := 1) (by decide +kernel) rfl (rowW_recv ⟨_, rfl⟩) (Nat.le_of_ble_eq_true rfl) ⟨Nat.le_of_ble_eq_true rfl, Nat.le_of_ble_eq_true rfl⟩ [3] [0, 1, 2, 4, 5, 6, 7, 8, 9, 10, 11, 12] (nB := 13) rfl (by decide +kernel) (sh_6 g A d G) (fun r5 w9 hw => ?_)
  obtain ⟨er5, rfl⟩ := hw
  have h := y_letF h er5
  refine ⟨([dayC A d] ++ dayR g A d G : List va_W), ⟨(sh_6 g A d G), rfl, rfl⟩, ?_⟩
  refine y_isub C dX0_minutes_36 ?_
  refine y_mabs C dX0_minutes_37 kX0_minutes_2 kX0_minutes_3 kX0_minutes_4 kX0_minutes_5 (Nat.le_of_ble_eq_true rfl) (Nat.le_of_ble_eq_true rfl) (Nat.le_of_ble_eq_true rfl) (Nat.le_of_ble_eq_true rfl) ?_
  refine y_topi (fun m6 em6 => ?_)
  have h := y_letF h em6
  refine y_iadd C dX0_minutes_40 ?_
  exact HR 41 dX0_minutes_41 (m3 + m6) _ _ _ _ (rfl) (Nat.le_of_ble_eq_true rfl) (Nat.le_of_ble_eq_true rfl) ⟨by rw [h], rfl⟩
theorem dX0_stopOf_0 : decode cX0_stopOf 0 = .ok (.iload_n 1, 1) := by decide +kernel
theorem dX0_stopOf_1 : decode cX0_stopOf 1 = .ok (.invokestatic 83, 3) := by decide +kernel
theorem dX0_stopOf_4 : decode cX0_stopOf 4 = .ok (.istore_n 2, 1) := by decide +kernel
theorem dX0_stopOf_5 : decode cX0_stopOf 5 = .ok (.iload_n 1, 1) := by decide +kernel
theorem dX0_stopOf_6 : decode cX0_stopOf 6 = .ok (.invokestatic 86, 3) := by decide +kernel
theorem dX0_stopOf_9 : decode cX0_stopOf 9 = .ok (.ifCond .eq 14, 3) := by decide +kernel
theorem dX0_stopOf_12 : decode cX0_stopOf 12 = .ok (.aload_n 0, 1) := by decide +kernel
theorem dX0_stopOf_13 : decode cX0_stopOf 13 = .ok (.getfield 29, 3) := by decide +kernel
theorem dX0_stopOf_16 : decode cX0_stopOf 16 = .ok (.iload_n 2, 1) := by decide +kernel
theorem dX0_stopOf_17 : decode cX0_stopOf 17 = .ok (.invokevirtual 74, 3) := by decide +kernel
theorem dX0_stopOf_20 : decode cX0_stopOf 20 = .ok (.goto 11, 3) := by decide +kernel
theorem dX0_stopOf_23 : decode cX0_stopOf 23 = .ok (.aload_n 0, 1) := by decide +kernel
theorem dX0_stopOf_24 : decode cX0_stopOf 24 = .ok (.getfield 26, 3) := by decide +kernel
theorem dX0_stopOf_27 : decode cX0_stopOf 27 = .ok (.iload_n 2, 1) := by decide +kernel
theorem dX0_stopOf_28 : decode cX0_stopOf 28 = .ok (.invokevirtual 74, 3) := by decide +kernel
theorem dX0_stopOf_31 : decode cX0_stopOf 31 = .ok (.ireturn, 1) := by decide +kernel
set_option maxRecDepth 20000 in
theorem ggX0_stopOf_X6_rideOf : GoodIn wsX0_stopOf wsX6_rideOf := goodIn_r _ [5] (by decide +kernel) (by decide +kernel)
set_option maxRecDepth 20000 in
theorem gX0_stopOf_X6_rideOf_n83 : GoodIn wsX0_stopOf (wsX6_rideOf) := ggX0_stopOf_X6_rideOf
set_option maxRecDepth 20000 in
theorem ggX0_stopOf_X6_setsDown : GoodIn wsX0_stopOf wsX6_setsDown := goodIn_r _ [7] (by decide +kernel) (by decide +kernel)
set_option maxRecDepth 20000 in
theorem gX0_stopOf_X6_setsDown_n86 : GoodIn wsX0_stopOf (wsX6_setsDown) := ggX0_stopOf_X6_setsDown
set_option maxRecDepth 20000 in
theorem ggX0_stopOf_X3_at : GoodIn wsX0_stopOf wsX3_at := goodIn_r _ [12, 13, 14, 30, 31] (by decide +kernel) (by decide +kernel)
set_option maxRecDepth 20000 in
theorem gX0_stopOf_X3_at : GoodIn wsX0_stopOf (wsV RX0 74 RX3 yX3_at wsX3_at) := goodIn_app (goodIn_of _ (by decide +kernel)) ggX0_stopOf_X3_at
theorem kX0_stopOf_4 : Cond.initialized RX6 ∈ wsX0_stopOf := List.mem_of_getElem? (i := 4) (by decide +kernel)
theorem kX0_stopOf_3 : Cond.static yX6_rideOf ∈ wsX0_stopOf := List.mem_of_getElem? (i := 3) (by decide +kernel)
theorem kX0_stopOf_6 : Cond.static yX6_setsDown ∈ wsX0_stopOf := List.mem_of_getElem? (i := 6) (by decide +kernel)
theorem kX0_stopOf_2 : Cond.fieldLink RX0 26 "BookedDetours$Day" "froms" "LBookedDetours$Row;" ∈ wsX0_stopOf := List.mem_of_getElem? (i := 2) (by decide +kernel)
theorem kX0_stopOf_1 : Cond.fieldLink RX0 29 "BookedDetours$Day" "tos" "LBookedDetours$Row;" ∈ wsX0_stopOf := List.mem_of_getElem? (i := 1) (by decide +kernel)
theorem hX0_stopOf_X0 : ∀ w ∈ u_ws RX0 TX0 15, w ∈ wsX0_stopOf := fun _ h => List.mem_cons_of_mem _ (List.mem_append_left _ (List.mem_append_right _ h))
set_option maxHeartbeats 4000000 in
set_option maxRecDepth 100000 in
theorem c_X0_stopOf (g : yG) (A : Nat → Nat) (d : RV) (G : Nat → Nat → Int32) (v : Int32) : yM g yX0_stopOf wsX0_stopOf ({ frames := 1, cells := 0, slots := 0, locals := 21 } : Room) [.ref (A 0), .int v] ([dayC A d] ++ dayR g A d G : List va_W) (fun r w => r = (f_X0_stopOf d v) ∧ w = ([dayC A d] ++ dayR g A d G : List va_W)) 0 0 := by
  refine y_entryI (cc := cX0_stopOf) (maxL := 3) (by decide +kernel) rfl (Nat.le_of_ble_eq_true rfl) (fun Z C HR => ?_)
  have C : yC Z g cX0_stopOf 3 wsX0_stopOf RX0 := C
  have h := f_X0_stopOf.eq_1 d v
  show yJ Z _ 0 0 _ 0 [(0, .ref (A 0)), (1, .int v)] []
  refine y_iload_n C dX0_stopOf_0 1 rfl rfl ?_
  refine y_callSN (host := RX6) (As := [.int v]) (rest := []) C dX0_stopOf_1 (c_X6_rideOf g v) rfl rfl rfl rfl ⟨Nat.le_of_ble_eq_true rfl, Nat.le_of_ble_eq_true rfl⟩ gX0_stopOf_X6_rideOf_n83 (List.mem_of_getElem? (i := 4) rfl) kX0_stopOf_4 kX0_stopOf_3 (nA := 1) (by decide +kernel) rfl (Nat.le_of_ble_eq_true rfl) ⟨Nat.le_of_ble_eq_true rfl, Nat.le_of_ble_eq_true rfl⟩ [] [0, 1, 2, 3, 4, 5, 6, 7, 8, 9, 10, 11, 12] (nB := 13) rfl (by decide +kernel) (sh_7 g A d G) (fun r1 w9 hw => ?_)
  obtain ⟨er1, rfl⟩ := hw
  have h := y_letF h er1
  refine ⟨([dayC A d] ++ dayR g A d G : List va_W), ⟨(sh_7 g A d G), rfl, rfl⟩, ?_⟩
  refine y_istore_n (lv' := [(2, .int r1), (0, .ref (A 0)), (1, .int v)]) C dX0_stopOf_4 rfl (Nat.le_of_ble_eq_true rfl) rfl ?_
  refine y_iload_n C dX0_stopOf_5 2 rfl rfl ?_
  refine y_callSN (host := RX6) (As := [.int v]) (rest := []) C dX0_stopOf_6 (c_X6_setsDown g v) rfl rfl rfl rfl ⟨Nat.le_of_ble_eq_true rfl, Nat.le_of_ble_eq_true rfl⟩ gX0_stopOf_X6_setsDown_n86 (List.mem_of_getElem? (i := 5) rfl) kX0_stopOf_4 kX0_stopOf_6 (nA := 1) (by decide +kernel) rfl (Nat.le_of_ble_eq_true rfl) ⟨Nat.le_of_ble_eq_true rfl, Nat.le_of_ble_eq_true rfl⟩ [] [0, 1, 2, 3, 4, 5, 6, 7, 8, 9, 10, 11, 12] (nB := 13) rfl (by decide +kernel) (sh_7 g A d G) (fun r2 w9 hw => ?_)
  obtain ⟨er2, rfl⟩ := hw
  have h := y_letF h er2
  refine ⟨([dayC A d] ++ dayR g A d G : List va_W), ⟨(sh_7 g A d G), rfl, rfl⟩, ?_⟩
  refine y_if_eq (tgt := 23) C dX0_stopOf_9 rfl (y_e h) (fun c9 h => ?_) (fun c9 h => ?_)
  · refine y_aload_n C dX0_stopOf_23 1 rfl rfl ?_
    refine y_get (Cn := RX0) (T := TX0) (N := 15) (v := .ref (A 7)) C dX0_stopOf_24 hX0_stopOf_X0 0 (sh_3 g A d G) rfl 3 (Nat.le_of_ble_eq_true rfl) kX0_stopOf_2 rfl ?_
    refine y_iload_n C dX0_stopOf_27 0 rfl rfl ?_
    refine y_callV (As := [.int r1]) (rest := []) C dX0_stopOf_28 (c_X3_at g (A 7) (A 8) 17 (d.1 3) (G 3) r1 (by decide)) rfl rfl rfl rfl ⟨Nat.le_of_ble_eq_true rfl, Nat.le_of_ble_eq_true rfl⟩ gX0_stopOf_X3_at (nA := 1) (by decide +kernel) rfl (rowW_recv ⟨_, rfl⟩) (Nat.le_of_ble_eq_true rfl) ⟨Nat.le_of_ble_eq_true rfl, Nat.le_of_ble_eq_true rfl⟩ [4] [0, 1, 2, 3, 5, 6, 7, 8, 9, 10, 11, 12] (nB := 13) rfl (by decide +kernel) (sh_8 g A d G) (fun r3 w9 hw => ?_)
    obtain ⟨er3, rfl⟩ := hw
    have h := y_letF h er3
    refine ⟨([dayC A d] ++ dayR g A d G : List va_W), ⟨(sh_8 g A d G), rfl, rfl⟩, ?_⟩
    exact HR 31 dX0_stopOf_31 r3 _ _ _ _ (rfl) (Nat.le_of_ble_eq_true rfl) (Nat.le_of_ble_eq_true rfl) ⟨by rw [h], rfl⟩
  · refine y_aload_n C dX0_stopOf_12 1 rfl rfl ?_
    refine y_get (Cn := RX0) (T := TX0) (N := 15) (v := .ref (A 9)) C dX0_stopOf_13 hX0_stopOf_X0 0 (sh_3 g A d G) rfl 4 (Nat.le_of_ble_eq_true rfl) kX0_stopOf_1 rfl ?_
    refine y_iload_n C dX0_stopOf_16 0 rfl rfl ?_
    refine y_callV (As := [.int r1]) (rest := []) C dX0_stopOf_17 (c_X3_at g (A 9) (A 10) 17 (d.1 4) (G 4) r1 (by decide)) rfl rfl rfl rfl ⟨Nat.le_of_ble_eq_true rfl, Nat.le_of_ble_eq_true rfl⟩ gX0_stopOf_X3_at (nA := 1) (by decide +kernel) rfl (rowW_recv ⟨_, rfl⟩) (Nat.le_of_ble_eq_true rfl) ⟨Nat.le_of_ble_eq_true rfl, Nat.le_of_ble_eq_true rfl⟩ [5] [0, 1, 2, 3, 4, 6, 7, 8, 9, 10, 11, 12] (nB := 13) rfl (by decide +kernel) (sh_9 g A d G) (fun r4 w9 hw => ?_)
    obtain ⟨er4, rfl⟩ := hw
    have h := y_letF h er4
    refine ⟨([dayC A d] ++ dayR g A d G : List va_W), ⟨(sh_9 g A d G), rfl, rfl⟩, ?_⟩
    refine y_goto (tgt := 31) C dX0_stopOf_20 rfl ?_
    exact HR 31 dX0_stopOf_31 r4 _ _ _ _ (rfl) (Nat.le_of_ble_eq_true rfl) (Nat.le_of_ble_eq_true rfl) ⟨by rw [h], rfl⟩
theorem dX0_isOnItsWay_0 : decode cX0_isOnItsWay 0 = .ok (.aload_n 0, 1) := by decide +kernel
theorem dX0_isOnItsWay_1 : decode cX0_isOnItsWay 1 = .ok (.getfield 50, 3) := by decide +kernel
theorem dX0_isOnItsWay_4 : decode cX0_isOnItsWay 4 = .ok (.invokevirtual 70, 3) := by decide +kernel
theorem dX0_isOnItsWay_7 : decode cX0_isOnItsWay 7 = .ok (.ifCond .le 18, 3) := by decide +kernel
theorem dX0_isOnItsWay_10 : decode cX0_isOnItsWay 10 = .ok (.aload_n 0, 1) := by decide +kernel
theorem dX0_isOnItsWay_11 : decode cX0_isOnItsWay 11 = .ok (.getfield 60, 3) := by decide +kernel
theorem dX0_isOnItsWay_14 : decode cX0_isOnItsWay 14 = .ok (.aload_n 0, 1) := by decide +kernel
theorem dX0_isOnItsWay_15 : decode cX0_isOnItsWay 15 = .ok (.getfield 67, 3) := by decide +kernel
theorem dX0_isOnItsWay_18 : decode cX0_isOnItsWay 18 = .ok (.if_icmp .le 7, 3) := by decide +kernel
theorem dX0_isOnItsWay_21 : decode cX0_isOnItsWay 21 = .ok (.iconst 1, 1) := by decide +kernel
theorem dX0_isOnItsWay_22 : decode cX0_isOnItsWay 22 = .ok (.goto 4, 3) := by decide +kernel
theorem dX0_isOnItsWay_25 : decode cX0_isOnItsWay 25 = .ok (.iconst 0, 1) := by decide +kernel
theorem dX0_isOnItsWay_26 : decode cX0_isOnItsWay 26 = .ok (.ireturn, 1) := by decide +kernel
set_option maxRecDepth 20000 in
theorem ggX0_isOnItsWay_X3_length : GoodIn wsX0_isOnItsWay wsX3_length := goodIn_r _ [8, 9, 25, 26] (by decide +kernel) (by decide +kernel)
set_option maxRecDepth 20000 in
theorem gX0_isOnItsWay_X3_length : GoodIn wsX0_isOnItsWay (wsV RX0 70 RX3 yX3_length wsX3_length) := goodIn_app (goodIn_of _ (by decide +kernel)) ggX0_isOnItsWay_X3_length
theorem kX0_isOnItsWay_1 : Cond.fieldLink RX0 50 "BookedDetours$Day" "route" "LBookedDetours$Row;" ∈ wsX0_isOnItsWay := List.mem_of_getElem? (i := 1) (by decide +kernel)
theorem kX0_isOnItsWay_2 : Cond.fieldLink RX0 60 "BookedDetours$Day" "now" "I" ∈ wsX0_isOnItsWay := List.mem_of_getElem? (i := 2) (by decide +kernel)
theorem kX0_isOnItsWay_3 : Cond.fieldLink RX0 67 "BookedDetours$Day" "busFree" "I" ∈ wsX0_isOnItsWay := List.mem_of_getElem? (i := 3) (by decide +kernel)
theorem hX0_isOnItsWay_X0 : ∀ w ∈ u_ws RX0 TX0 15, w ∈ wsX0_isOnItsWay := fun _ h => List.mem_cons_of_mem _ (List.mem_append_left _ (List.mem_append_right _ h))
set_option maxHeartbeats 4000000 in
set_option maxRecDepth 100000 in
theorem c_X0_isOnItsWay (g : yG) (A : Nat → Nat) (d : RV) (G : Nat → Nat → Int32)  : yM g yX0_isOnItsWay wsX0_isOnItsWay ({ frames := 1, cells := 0, slots := 0, locals := 20 } : Room) [.ref (A 0)] ([dayC A d] ++ dayR g A d G : List va_W) (fun r w => r = (f_X0_isOnItsWay d) ∧ w = ([dayC A d] ++ dayR g A d G : List va_W)) 0 0 := by
  refine y_entryI (cc := cX0_isOnItsWay) (maxL := 1) (by decide +kernel) rfl (Nat.le_of_ble_eq_true rfl) (fun Z C HR => ?_)
  have C : yC Z g cX0_isOnItsWay 1 wsX0_isOnItsWay RX0 := C
  have h := f_X0_isOnItsWay.eq_1 d
  show yJ Z _ 0 0 _ 0 [(0, .ref (A 0))] []
  refine y_aload_n C dX0_isOnItsWay_0 0 rfl rfl ?_
  refine y_get (Cn := RX0) (T := TX0) (N := 15) (v := .ref (A 23)) C dX0_isOnItsWay_1 hX0_isOnItsWay_X0 0 (sh_3 g A d G) rfl 11 (Nat.le_of_ble_eq_true rfl) kX0_isOnItsWay_1 rfl ?_
  refine y_callV (As := []) (rest := []) C dX0_isOnItsWay_4 (c_X3_length g (A 23) (A 24) 34 (d.1 11) (G 11) (by decide)) rfl rfl rfl rfl ⟨Nat.le_of_ble_eq_true rfl, Nat.le_of_ble_eq_true rfl⟩ gX0_isOnItsWay_X3_length (nA := 0) (by decide +kernel) rfl (rowW_recv ⟨_, rfl⟩) (Nat.le_of_ble_eq_true rfl) ⟨Nat.le_of_ble_eq_true rfl, Nat.le_of_ble_eq_true rfl⟩ [12] [0, 1, 2, 3, 4, 5, 6, 7, 8, 9, 10, 11] (nB := 13) rfl (by decide +kernel) (sh_10 g A d G) (fun r1 w9 hw => ?_)
  obtain ⟨er1, rfl⟩ := hw
  have h := y_letF h er1
  refine ⟨([dayC A d] ++ dayR g A d G : List va_W), ⟨(sh_10 g A d G), rfl, rfl⟩, ?_⟩
  refine y_if_le (tgt := 25) C dX0_isOnItsWay_7 rfl (y_e h) (fun c7 h => ?_) (fun c7 h => ?_)
  · refine y_iconst (v := 0) C dX0_isOnItsWay_25 (by decide) ?_
    exact HR 26 dX0_isOnItsWay_26 (0 : Int32) _ _ _ _ (rfl) (Nat.le_of_ble_eq_true rfl) (Nat.le_of_ble_eq_true rfl) ⟨by rw [h], rfl⟩
  · refine y_aload_n C dX0_isOnItsWay_10 0 rfl rfl ?_
    refine y_get (Cn := RX0) (T := TX0) (N := 15) (v := .int (d.2 0)) C dX0_isOnItsWay_11 hX0_isOnItsWay_X0 0 (sh_3 g A d G) rfl 12 (Nat.le_of_ble_eq_true rfl) kX0_isOnItsWay_2 rfl ?_
    refine y_aload_n C dX0_isOnItsWay_14 0 rfl rfl ?_
    refine y_get (Cn := RX0) (T := TX0) (N := 15) (v := .int (d.2 2)) C dX0_isOnItsWay_15 hX0_isOnItsWay_X0 0 (sh_3 g A d G) rfl 14 (Nat.le_of_ble_eq_true rfl) kX0_isOnItsWay_3 rfl ?_
    refine y_icmp_le (tgt := 25) C dX0_isOnItsWay_18 rfl (y_e h) (fun c18 h => ?_) (fun c18 h => ?_)
    · refine y_iconst (v := 0) C dX0_isOnItsWay_25 (by decide) ?_
      exact HR 26 dX0_isOnItsWay_26 (0 : Int32) _ _ _ _ (rfl) (Nat.le_of_ble_eq_true rfl) (Nat.le_of_ble_eq_true rfl) ⟨by rw [h], rfl⟩
    · refine y_iconst (v := 1) C dX0_isOnItsWay_21 (by decide) ?_
      refine y_goto (tgt := 26) C dX0_isOnItsWay_22 rfl ?_
      exact HR 26 dX0_isOnItsWay_26 (1 : Int32) _ _ _ _ (rfl) (Nat.le_of_ble_eq_true rfl) (Nat.le_of_ble_eq_true rfl) ⟨by rw [h], rfl⟩
end
section
theorem dX0_beReady_0 : decode cX0_beReady 0 = .ok (.aload_n 0, 1) := by decide +kernel
theorem dX0_beReady_1 : decode cX0_beReady 1 = .ok (.getfield 50, 3) := by decide +kernel
theorem dX0_beReady_4 : decode cX0_beReady 4 = .ok (.invokevirtual 70, 3) := by decide +kernel
theorem dX0_beReady_7 : decode cX0_beReady 7 = .ok (.ifCond .ne 18, 3) := by decide +kernel
theorem dX0_beReady_10 : decode cX0_beReady 10 = .ok (.aload_n 0, 1) := by decide +kernel
theorem dX0_beReady_11 : decode cX0_beReady 11 = .ok (.aload_n 0, 1) := by decide +kernel
theorem dX0_beReady_12 : decode cX0_beReady 12 = .ok (.getfield 67, 3) := by decide +kernel
theorem dX0_beReady_15 : decode cX0_beReady 15 = .ok (.aload_n 0, 1) := by decide +kernel
theorem dX0_beReady_16 : decode cX0_beReady 16 = .ok (.getfield 60, 3) := by decide +kernel
theorem dX0_beReady_19 : decode cX0_beReady 19 = .ok (.invokestatic 94, 3) := by decide +kernel
theorem dX0_beReady_22 : decode cX0_beReady 22 = .ok (.putfield 67, 3) := by decide +kernel
theorem dX0_beReady_25 : decode cX0_beReady 25 = .ok (.return_, 1) := by decide +kernel
set_option maxRecDepth 20000 in
theorem ggX0_beReady_X3_length : GoodIn wsX0_beReady wsX3_length := goodIn_r _ [12, 13, 29, 30] (by decide +kernel) (by decide +kernel)
set_option maxRecDepth 20000 in
theorem gX0_beReady_X3_length : GoodIn wsX0_beReady (wsV RX0 70 RX3 yX3_length wsX3_length) := goodIn_app (goodIn_of _ (by decide +kernel)) ggX0_beReady_X3_length
theorem kX0_beReady_1 : Cond.fieldLink RX0 50 "BookedDetours$Day" "route" "LBookedDetours$Row;" ∈ wsX0_beReady := List.mem_of_getElem? (i := 1) (by decide +kernel)
theorem kX0_beReady_2 : Cond.fieldLink RX0 67 "BookedDetours$Day" "busFree" "I" ∈ wsX0_beReady := List.mem_of_getElem? (i := 2) (by decide +kernel)
theorem kX0_beReady_3 : Cond.fieldLink RX0 60 "BookedDetours$Day" "now" "I" ∈ wsX0_beReady := List.mem_of_getElem? (i := 3) (by decide +kernel)
theorem kX0_beReady_4 : Cond.methodLink RX0 94 Lib.Math.max.name ∈ wsX0_beReady := List.mem_of_getElem? (i := 4) (by decide +kernel)
theorem kX0_beReady_5 : Cond.static Lib.Math.max.name ∈ wsX0_beReady := List.mem_of_getElem? (i := 5) (by decide +kernel)
theorem kX0_beReady_6 : Cond.initialized "java/lang/Math" ∈ wsX0_beReady := List.mem_of_getElem? (i := 6) (by decide +kernel)
theorem kX0_beReady_7 : Cond.code Lib.Math.max.name Lib.Math.max.code 2 (some .int) ∈ wsX0_beReady := List.mem_of_getElem? (i := 7) (by decide +kernel)
theorem hX0_beReady_X0 : ∀ w ∈ u_ws RX0 TX0 15, w ∈ wsX0_beReady := fun _ h => List.mem_cons_of_mem _ (List.mem_append_left _ (List.mem_append_right _ h))
set_option maxHeartbeats 4000000 in
set_option maxRecDepth 100000 in
theorem c_X0_beReady (g : yG) (A : Nat → Nat) (d : RV) (G : Nat → Nat → Int32)  : yMv g yX0_beReady wsX0_beReady ({ frames := 1, cells := 0, slots := 0, locals := 21 } : Room) [.ref (A 0)] ([dayC A d] ++ dayR g A d G : List va_W) (fun w => ∃ d' : RV, ∃ G' : Nat → Nat → Int32, d' = (f_X0_beReady d) ∧ w = ([dayC A d'] ++ dayR g A d' G' : List va_W)) 0 0 := by
  refine y_entryV (cc := cX0_beReady) (maxL := 1) (by decide +kernel) rfl (Nat.le_of_ble_eq_true rfl) (fun Z C _ HR => ?_)
  have C : yC Z g cX0_beReady 1 wsX0_beReady RX0 := C
  have h := f_X0_beReady.eq_1 d
  show yJ Z _ 0 0 _ 0 [(0, .ref (A 0))] []
  refine y_aload_n C dX0_beReady_0 0 rfl rfl ?_
  refine y_get (Cn := RX0) (T := TX0) (N := 15) (v := .ref (A 23)) C dX0_beReady_1 hX0_beReady_X0 0 (sh_3 g A d G) rfl 11 (Nat.le_of_ble_eq_true rfl) kX0_beReady_1 rfl ?_
  refine y_callV (As := []) (rest := []) C dX0_beReady_4 (c_X3_length g (A 23) (A 24) 34 (d.1 11) (G 11) (by decide)) rfl rfl rfl rfl ⟨Nat.le_of_ble_eq_true rfl, Nat.le_of_ble_eq_true rfl⟩ gX0_beReady_X3_length (nA := 0) (by decide +kernel) rfl (rowW_recv ⟨_, rfl⟩) (Nat.le_of_ble_eq_true rfl) ⟨Nat.le_of_ble_eq_true rfl, Nat.le_of_ble_eq_true rfl⟩ [12] [0, 1, 2, 3, 4, 5, 6, 7, 8, 9, 10, 11] (nB := 13) rfl (by decide +kernel) (sh_10 g A d G) (fun r1 w9 hw => ?_)
  obtain ⟨er1, rfl⟩ := hw
  have h := y_letF h er1
  refine ⟨([dayC A d] ++ dayR g A d G : List va_W), ⟨(sh_10 g A d G), rfl, rfl⟩, ?_⟩
  refine y_if_ne (tgt := 25) C dX0_beReady_7 rfl (y_e h) (fun c7 h => ?_) (fun c7 h => ?_)
  · exact HR 25 dX0_beReady_25 _ _ _ _ (Nat.le_of_ble_eq_true rfl) (Nat.le_of_ble_eq_true rfl) ⟨d, G, by rw [h], rfl⟩
  · refine y_aload_n C dX0_beReady_10 0 rfl rfl ?_
    refine y_aload_n C dX0_beReady_11 0 rfl rfl ?_
    refine y_get (Cn := RX0) (T := TX0) (N := 15) (v := .int (d.2 2)) C dX0_beReady_12 hX0_beReady_X0 0 (sh_3 g A d G) rfl 14 (Nat.le_of_ble_eq_true rfl) kX0_beReady_2 rfl ?_
    refine y_aload_n C dX0_beReady_15 0 rfl rfl ?_
    refine y_get (Cn := RX0) (T := TX0) (N := 15) (v := .int (d.2 0)) C dX0_beReady_16 hX0_beReady_X0 0 (sh_3 g A d G) rfl 12 (Nat.le_of_ble_eq_true rfl) kX0_beReady_3 rfl ?_
    refine y_mmax C dX0_beReady_19 kX0_beReady_4 kX0_beReady_5 kX0_beReady_6 kX0_beReady_7 (Nat.le_of_ble_eq_true rfl) (Nat.le_of_ble_eq_true rfl) (Nat.le_of_ble_eq_true rfl) (Nat.le_of_ble_eq_true rfl) ?_
    refine y_topi (fun m2 em2 => ?_)
    have h := y_letF h em2
    obtain ⟨d3, ed3⟩ : ∃ z : RV, z = rvI d 2 m2 := ⟨_, rfl⟩
    have h := y_letF h ed3
    refine y_put (Cn := RX0) (T := TX0) (N := 15) (v := .int m2) (ty0 := tyX0) (L1 := ([dayC A d3] ++ dayR g A d3 G : List va_W)) C dX0_beReady_22 hX0_beReady_X0 0 (sh_3 g A d G) rfl 14 (Nat.le_of_ble_eq_true rfl) kX0_beReady_2 tyX0_ok nmX0 rfl rfl rfl (Nat.le_of_ble_eq_true rfl) (sh_26 g A d G m2 d3 ed3) ?_
    exact HR 25 dX0_beReady_25 _ _ _ _ (Nat.le_of_ble_eq_true rfl) (Nat.le_of_ble_eq_true rfl) ⟨d3, G, by rw [h], rfl⟩
theorem dX0_endAtFirst_0 : decode cX0_endAtFirst 0 = .ok (.aload_n 0, 1) := by decide +kernel
theorem dX0_endAtFirst_1 : decode cX0_endAtFirst 1 = .ok (.aload_n 0, 1) := by decide +kernel
theorem dX0_endAtFirst_2 : decode cX0_endAtFirst 2 = .ok (.getfield 50, 3) := by decide +kernel
theorem dX0_endAtFirst_5 : decode cX0_endAtFirst 5 = .ok (.iconst 0, 1) := by decide +kernel
theorem dX0_endAtFirst_6 : decode cX0_endAtFirst 6 = .ok (.invokevirtual 74, 3) := by decide +kernel
theorem dX0_endAtFirst_9 : decode cX0_endAtFirst 9 = .ok (.invokevirtual 111, 3) := by decide +kernel
theorem dX0_endAtFirst_12 : decode cX0_endAtFirst 12 = .ok (.istore_n 1, 1) := by decide +kernel
theorem dX0_endAtFirst_13 : decode cX0_endAtFirst 13 = .ok (.aload_n 0, 1) := by decide +kernel
theorem dX0_endAtFirst_14 : decode cX0_endAtFirst 14 = .ok (.aload_n 0, 1) := by decide +kernel
theorem dX0_endAtFirst_15 : decode cX0_endAtFirst 15 = .ok (.getfield 67, 3) := by decide +kernel
theorem dX0_endAtFirst_18 : decode cX0_endAtFirst 18 = .ok (.aload_n 0, 1) := by decide +kernel
theorem dX0_endAtFirst_19 : decode cX0_endAtFirst 19 = .ok (.aload_n 0, 1) := by decide +kernel
theorem dX0_endAtFirst_20 : decode cX0_endAtFirst 20 = .ok (.getfield 64, 3) := by decide +kernel
theorem dX0_endAtFirst_23 : decode cX0_endAtFirst 23 = .ok (.iload_n 1, 1) := by decide +kernel
theorem dX0_endAtFirst_24 : decode cX0_endAtFirst 24 = .ok (.invokevirtual 90, 3) := by decide +kernel
theorem dX0_endAtFirst_27 : decode cX0_endAtFirst 27 = .ok (.iadd, 1) := by decide +kernel
theorem dX0_endAtFirst_28 : decode cX0_endAtFirst 28 = .ok (.aload_n 0, 1) := by decide +kernel
theorem dX0_endAtFirst_29 : decode cX0_endAtFirst 29 = .ok (.getfield 60, 3) := by decide +kernel
theorem dX0_endAtFirst_32 : decode cX0_endAtFirst 32 = .ok (.invokestatic 94, 3) := by decide +kernel
theorem dX0_endAtFirst_35 : decode cX0_endAtFirst 35 = .ok (.putfield 67, 3) := by decide +kernel
theorem dX0_endAtFirst_38 : decode cX0_endAtFirst 38 = .ok (.aload_n 0, 1) := by decide +kernel
theorem dX0_endAtFirst_39 : decode cX0_endAtFirst 39 = .ok (.iload_n 1, 1) := by decide +kernel
theorem dX0_endAtFirst_40 : decode cX0_endAtFirst 40 = .ok (.putfield 64, 3) := by decide +kernel
theorem dX0_endAtFirst_43 : decode cX0_endAtFirst 43 = .ok (.return_, 1) := by decide +kernel
set_option maxRecDepth 20000 in
theorem ggX0_endAtFirst_X3_at : GoodIn wsX0_endAtFirst wsX3_at := goodIn_r _ [13, 14, 15, 52, 53] (by decide +kernel) (by decide +kernel)
set_option maxRecDepth 20000 in
theorem gX0_endAtFirst_X3_at : GoodIn wsX0_endAtFirst (wsV RX0 74 RX3 yX3_at wsX3_at) := goodIn_app (goodIn_of _ (by decide +kernel)) ggX0_endAtFirst_X3_at
set_option maxRecDepth 20000 in
theorem ggX0_endAtFirst_X0_stopOf : GoodIn wsX0_endAtFirst wsX0_stopOf := goodIn_r _ [20, 21, 22, 23, 24, 25, 26, 27, 9, 10, 11, 12, 13, 14, 15, 37, 38, 39, 40, 41, 42, 43, 44, 45, 46, 47, 48, 49, 50, 51, 52, 53] (by decide +kernel) (by decide +kernel)
set_option maxRecDepth 20000 in
theorem gX0_endAtFirst_X0_stopOf : GoodIn wsX0_endAtFirst (wsV RX0 111 RX0 yX0_stopOf wsX0_stopOf) := goodIn_app (goodIn_of _ (by decide +kernel)) ggX0_endAtFirst_X0_stopOf
set_option maxRecDepth 20000 in
theorem ggX0_endAtFirst_X0_minutes : GoodIn wsX0_endAtFirst wsX0_minutes := goodIn_r _ [31, 32, 33, 34, 7, 35, 36, 9, 10, 11, 12, 13, 14, 15, 37, 38, 39, 40, 41, 42, 43, 44, 45, 46, 47, 48, 49, 50, 51, 52, 53] (by decide +kernel) (by decide +kernel)
set_option maxRecDepth 20000 in
theorem gX0_endAtFirst_X0_minutes : GoodIn wsX0_endAtFirst (wsV RX0 90 RX0 yX0_minutes wsX0_minutes) := goodIn_app (goodIn_of _ (by decide +kernel)) ggX0_endAtFirst_X0_minutes
theorem kX0_endAtFirst_1 : Cond.fieldLink RX0 50 "BookedDetours$Day" "route" "LBookedDetours$Row;" ∈ wsX0_endAtFirst := List.mem_of_getElem? (i := 1) (by decide +kernel)
theorem kX0_endAtFirst_2 : Cond.fieldLink RX0 67 "BookedDetours$Day" "busFree" "I" ∈ wsX0_endAtFirst := List.mem_of_getElem? (i := 2) (by decide +kernel)
theorem kX0_endAtFirst_3 : Cond.fieldLink RX0 64 "BookedDetours$Day" "busStop" "I" ∈ wsX0_endAtFirst := List.mem_of_getElem? (i := 3) (by decide +kernel)
theorem kX0_endAtFirst_4 : Cond.fieldLink RX0 60 "BookedDetours$Day" "now" "I" ∈ wsX0_endAtFirst := List.mem_of_getElem? (i := 4) (by decide +kernel)
theorem kX0_endAtFirst_5 : Cond.methodLink RX0 94 Lib.Math.max.name ∈ wsX0_endAtFirst := List.mem_of_getElem? (i := 5) (by decide +kernel)
theorem kX0_endAtFirst_6 : Cond.static Lib.Math.max.name ∈ wsX0_endAtFirst := List.mem_of_getElem? (i := 6) (by decide +kernel)
theorem kX0_endAtFirst_7 : Cond.initialized "java/lang/Math" ∈ wsX0_endAtFirst := List.mem_of_getElem? (i := 7) (by decide +kernel)
theorem kX0_endAtFirst_8 : Cond.code Lib.Math.max.name Lib.Math.max.code 2 (some .int) ∈ wsX0_endAtFirst := List.mem_of_getElem? (i := 8) (by decide +kernel)
theorem hX0_endAtFirst_X0 : ∀ w ∈ u_ws RX0 TX0 15, w ∈ wsX0_endAtFirst := fun _ h => List.mem_cons_of_mem _ (List.mem_append_left _ (List.mem_append_right _ h))
set_option maxHeartbeats 4000000 in
set_option maxRecDepth 100000 in
theorem c_X0_endAtFirst (g : yG) (A : Nat → Nat) (d : RV) (G : Nat → Nat → Int32)  : yMv g yX0_endAtFirst wsX0_endAtFirst ({ frames := 2, cells := 0, slots := 0, locals := 43 } : Room) [.ref (A 0)] ([dayC A d] ++ dayR g A d G : List va_W) (fun w => ∃ d' : RV, ∃ G' : Nat → Nat → Int32, d' = (f_X0_endAtFirst d) ∧ w = ([dayC A d'] ++ dayR g A d' G' : List va_W)) 0 0 := by
  refine y_entryV (cc := cX0_endAtFirst) (maxL := 2) (by decide +kernel) rfl (Nat.le_of_ble_eq_true rfl) (fun Z C _ HR => ?_)
  have C : yC Z g cX0_endAtFirst 2 wsX0_endAtFirst RX0 := C
  have h := f_X0_endAtFirst.eq_1 d
  show yJ Z _ 0 0 _ 0 [(0, .ref (A 0))] []
  refine y_aload_n C dX0_endAtFirst_0 0 rfl rfl ?_
  refine y_aload_n C dX0_endAtFirst_1 0 rfl rfl ?_
  refine y_get (Cn := RX0) (T := TX0) (N := 15) (v := .ref (A 23)) C dX0_endAtFirst_2 hX0_endAtFirst_X0 0 (sh_3 g A d G) rfl 11 (Nat.le_of_ble_eq_true rfl) kX0_endAtFirst_1 rfl ?_
  refine y_iconst (v := 0) C dX0_endAtFirst_5 (by decide) ?_
  refine y_callV (As := [.int (0 : Int32)]) (rest := [.ref (A 0)]) C dX0_endAtFirst_6 (c_X3_at g (A 23) (A 24) 34 (d.1 11) (G 11) (0 : Int32) (by decide)) rfl rfl rfl rfl ⟨Nat.le_of_ble_eq_true rfl, Nat.le_of_ble_eq_true rfl⟩ gX0_endAtFirst_X3_at (nA := 1) (by decide +kernel) rfl (rowW_recv ⟨_, rfl⟩) (Nat.le_of_ble_eq_true rfl) ⟨Nat.le_of_ble_eq_true rfl, Nat.le_of_ble_eq_true rfl⟩ [12] [0, 1, 2, 3, 4, 5, 6, 7, 8, 9, 10, 11] (nB := 13) rfl (by decide +kernel) (sh_10 g A d G) (fun r1 w9 hw => ?_)
  obtain ⟨er1, rfl⟩ := hw
  have h := y_letF h er1
  refine ⟨([dayC A d] ++ dayR g A d G : List va_W), ⟨(sh_10 g A d G), rfl, rfl⟩, ?_⟩
  refine y_callV (As := [.int r1]) (rest := []) C dX0_endAtFirst_9 (c_X0_stopOf g A d G r1) rfl rfl rfl rfl ⟨Nat.le_of_ble_eq_true rfl, Nat.le_of_ble_eq_true rfl⟩ gX0_endAtFirst_X0_stopOf (nA := 1) (by decide +kernel) rfl (sh_18 g A d G) (Nat.le_of_ble_eq_true rfl) ⟨Nat.le_of_ble_eq_true rfl, Nat.le_of_ble_eq_true rfl⟩ [0, 1, 2, 3, 4, 5, 6, 7, 8, 9, 10, 11, 12] [] (nB := 13) rfl (by decide +kernel) (sh_17 g A d G) (fun r2 w9 hw => ?_)
  obtain ⟨er2, rfl⟩ := hw
  have h := y_letF h er2
  refine ⟨([dayC A d] ++ dayR g A d G : List va_W), ⟨(sh_17 g A d G), rfl, rfl⟩, ?_⟩
  refine y_istore_n (lv' := [(1, .int r2), (0, .ref (A 0))]) C dX0_endAtFirst_12 rfl (Nat.le_of_ble_eq_true rfl) rfl ?_
  refine y_aload_n C dX0_endAtFirst_13 1 rfl rfl ?_
  refine y_aload_n C dX0_endAtFirst_14 1 rfl rfl ?_
  refine y_get (Cn := RX0) (T := TX0) (N := 15) (v := .int (d.2 2)) C dX0_endAtFirst_15 hX0_endAtFirst_X0 0 (sh_3 g A d G) rfl 14 (Nat.le_of_ble_eq_true rfl) kX0_endAtFirst_2 rfl ?_
  refine y_aload_n C dX0_endAtFirst_18 1 rfl rfl ?_
  refine y_aload_n C dX0_endAtFirst_19 1 rfl rfl ?_
  refine y_get (Cn := RX0) (T := TX0) (N := 15) (v := .int (d.2 1)) C dX0_endAtFirst_20 hX0_endAtFirst_X0 0 (sh_3 g A d G) rfl 13 (Nat.le_of_ble_eq_true rfl) kX0_endAtFirst_3 rfl ?_
  refine y_iload_n C dX0_endAtFirst_23 0 rfl rfl ?_
  refine y_callV (As := [.int (d.2 1), .int r2]) (rest := [.int (d.2 2), .ref (A 0)]) C dX0_endAtFirst_24 (c_X0_minutes g A d G (d.2 1) r2) rfl rfl rfl rfl ⟨Nat.le_of_ble_eq_true rfl, Nat.le_of_ble_eq_true rfl⟩ gX0_endAtFirst_X0_minutes (nA := 2) (by decide +kernel) rfl (sh_18 g A d G) (Nat.le_of_ble_eq_true rfl) ⟨Nat.le_of_ble_eq_true rfl, Nat.le_of_ble_eq_true rfl⟩ [0, 1, 2, 3, 4, 5, 6, 7, 8, 9, 10, 11, 12] [] (nB := 13) rfl (by decide +kernel) (sh_17 g A d G) (fun r3 w9 hw => ?_)
  obtain ⟨er3, rfl⟩ := hw
  have h := y_letF h er3
  refine ⟨([dayC A d] ++ dayR g A d G : List va_W), ⟨(sh_17 g A d G), rfl, rfl⟩, ?_⟩
  refine y_iadd C dX0_endAtFirst_27 ?_
  refine y_aload_n C dX0_endAtFirst_28 1 rfl rfl ?_
  refine y_get (Cn := RX0) (T := TX0) (N := 15) (v := .int (d.2 0)) C dX0_endAtFirst_29 hX0_endAtFirst_X0 0 (sh_3 g A d G) rfl 12 (Nat.le_of_ble_eq_true rfl) kX0_endAtFirst_4 rfl ?_
  refine y_mmax C dX0_endAtFirst_32 kX0_endAtFirst_5 kX0_endAtFirst_6 kX0_endAtFirst_7 kX0_endAtFirst_8 (Nat.le_of_ble_eq_true rfl) (Nat.le_of_ble_eq_true rfl) (Nat.le_of_ble_eq_true rfl) (Nat.le_of_ble_eq_true rfl) ?_
  refine y_topi (fun m4 em4 => ?_)
  have h := y_letF h em4
  obtain ⟨d5, ed5⟩ : ∃ z : RV, z = rvI d 2 m4 := ⟨_, rfl⟩
  have h := y_letF h ed5
  refine y_put (Cn := RX0) (T := TX0) (N := 15) (v := .int m4) (ty0 := tyX0) (L1 := ([dayC A d5] ++ dayR g A d5 G : List va_W)) C dX0_endAtFirst_35 hX0_endAtFirst_X0 0 (sh_3 g A d G) rfl 14 (Nat.le_of_ble_eq_true rfl) kX0_endAtFirst_2 tyX0_ok nmX0 rfl rfl rfl (Nat.le_of_ble_eq_true rfl) (sh_26 g A d G m4 d5 ed5) ?_
  refine y_aload_n C dX0_endAtFirst_38 1 rfl rfl ?_
  refine y_iload_n C dX0_endAtFirst_39 0 rfl rfl ?_
  obtain ⟨d6, ed6⟩ : ∃ z : RV, z = rvI d5 1 r2 := ⟨_, rfl⟩
  have h := y_letF h ed6
  refine y_put (Cn := RX0) (T := TX0) (N := 15) (v := .int r2) (ty0 := tyX0) (L1 := ([dayC A d6] ++ dayR g A d6 G : List va_W)) C dX0_endAtFirst_40 hX0_endAtFirst_X0 0 (sh_3 g A d5 G) rfl 13 (Nat.le_of_ble_eq_true rfl) kX0_endAtFirst_3 tyX0_ok nmX0 rfl rfl rfl (Nat.le_of_ble_eq_true rfl) (sh_27 g A d5 G r2 d6 ed6) ?_
  exact HR 43 dX0_endAtFirst_43 _ _ _ _ (Nat.le_of_ble_eq_true rfl) (Nat.le_of_ble_eq_true rfl) ⟨d6, G, by rw [h], rfl⟩
end
section
theorem dX0_addRide_0 : decode cX0_addRide 0 = .ok (.aload_n 0, 1) := by decide +kernel
theorem dX0_addRide_1 : decode cX0_addRide 1 = .ok (.getfield 26, 3) := by decide +kernel
theorem dX0_addRide_4 : decode cX0_addRide 4 = .ok (.iload_n 1, 1) := by decide +kernel
theorem dX0_addRide_5 : decode cX0_addRide 5 = .ok (.invokevirtual 53, 3) := by decide +kernel
theorem dX0_addRide_8 : decode cX0_addRide 8 = .ok (.aload_n 0, 1) := by decide +kernel
theorem dX0_addRide_9 : decode cX0_addRide 9 = .ok (.getfield 29, 3) := by decide +kernel
theorem dX0_addRide_12 : decode cX0_addRide 12 = .ok (.iload_n 2, 1) := by decide +kernel
theorem dX0_addRide_13 : decode cX0_addRide 13 = .ok (.invokevirtual 53, 3) := by decide +kernel
theorem dX0_addRide_16 : decode cX0_addRide 16 = .ok (.aload_n 0, 1) := by decide +kernel
theorem dX0_addRide_17 : decode cX0_addRide 17 = .ok (.getfield 32, 3) := by decide +kernel
theorem dX0_addRide_20 : decode cX0_addRide 20 = .ok (.iload_n 3, 1) := by decide +kernel
theorem dX0_addRide_21 : decode cX0_addRide 21 = .ok (.invokevirtual 53, 3) := by decide +kernel
theorem dX0_addRide_24 : decode cX0_addRide 24 = .ok (.aload_n 0, 1) := by decide +kernel
theorem dX0_addRide_25 : decode cX0_addRide 25 = .ok (.getfield 35, 3) := by decide +kernel
theorem dX0_addRide_28 : decode cX0_addRide 28 = .ok (.iload 4, 2) := by decide +kernel
theorem dX0_addRide_30 : decode cX0_addRide 30 = .ok (.invokevirtual 53, 3) := by decide +kernel
theorem dX0_addRide_33 : decode cX0_addRide 33 = .ok (.aload_n 0, 1) := by decide +kernel
theorem dX0_addRide_34 : decode cX0_addRide 34 = .ok (.getfield 38, 3) := by decide +kernel
theorem dX0_addRide_37 : decode cX0_addRide 37 = .ok (.aload_n 0, 1) := by decide +kernel
theorem dX0_addRide_38 : decode cX0_addRide 38 = .ok (.iload_n 1, 1) := by decide +kernel
theorem dX0_addRide_39 : decode cX0_addRide 39 = .ok (.iload_n 2, 1) := by decide +kernel
theorem dX0_addRide_40 : decode cX0_addRide 40 = .ok (.invokevirtual 90, 3) := by decide +kernel
theorem dX0_addRide_43 : decode cX0_addRide 43 = .ok (.invokevirtual 53, 3) := by decide +kernel
theorem dX0_addRide_46 : decode cX0_addRide 46 = .ok (.aload_n 0, 1) := by decide +kernel
theorem dX0_addRide_47 : decode cX0_addRide 47 = .ok (.getfield 41, 3) := by decide +kernel
theorem dX0_addRide_50 : decode cX0_addRide 50 = .ok (.iconst 0, 1) := by decide +kernel
theorem dX0_addRide_51 : decode cX0_addRide 51 = .ok (.invokevirtual 53, 3) := by decide +kernel
theorem dX0_addRide_54 : decode cX0_addRide 54 = .ok (.aload_n 0, 1) := by decide +kernel
theorem dX0_addRide_55 : decode cX0_addRide 55 = .ok (.getfield 44, 3) := by decide +kernel
theorem dX0_addRide_58 : decode cX0_addRide 58 = .ok (.bipush (-6), 2) := by decide +kernel
theorem dX0_addRide_60 : decode cX0_addRide 60 = .ok (.invokevirtual 53, 3) := by decide +kernel
theorem dX0_addRide_63 : decode cX0_addRide 63 = .ok (.aload_n 0, 1) := by decide +kernel
theorem dX0_addRide_64 : decode cX0_addRide 64 = .ok (.getfield 47, 3) := by decide +kernel
theorem dX0_addRide_67 : decode cX0_addRide 67 = .ok (.bipush (-6), 2) := by decide +kernel
theorem dX0_addRide_69 : decode cX0_addRide 69 = .ok (.invokevirtual 53, 3) := by decide +kernel
theorem dX0_addRide_72 : decode cX0_addRide 72 = .ok (.aload_n 0, 1) := by decide +kernel
theorem dX0_addRide_73 : decode cX0_addRide 73 = .ok (.getfield 41, 3) := by decide +kernel
theorem dX0_addRide_76 : decode cX0_addRide 76 = .ok (.invokevirtual 70, 3) := by decide +kernel
theorem dX0_addRide_79 : decode cX0_addRide 79 = .ok (.iconst 1, 1) := by decide +kernel
theorem dX0_addRide_80 : decode cX0_addRide 80 = .ok (.isub, 1) := by decide +kernel
theorem dX0_addRide_81 : decode cX0_addRide 81 = .ok (.ireturn, 1) := by decide +kernel
set_option maxRecDepth 20000 in
theorem ggX0_addRide_X3_add : GoodIn wsX0_addRide wsX3_add := goodIn_r _ [13, 14, 15, 16, 17, 12, 18, 19, 54, 55] (by decide +kernel) (by decide +kernel)
set_option maxRecDepth 20000 in
theorem gX0_addRide_X3_add : GoodIn wsX0_addRide (wsV RX0 53 RX3 yX3_add wsX3_add) := goodIn_app (goodIn_of _ (by decide +kernel)) ggX0_addRide_X3_add
set_option maxRecDepth 20000 in
theorem ggX0_addRide_X0_minutes : GoodIn wsX0_addRide wsX0_minutes := goodIn_r _ [24, 25, 26, 27, 28, 29, 30, 31, 32, 33, 12, 34, 14, 19, 39, 40, 41, 42, 43, 44, 45, 46, 47, 48, 49, 50, 51, 52, 53, 54, 55] (by decide +kernel) (by decide +kernel)
set_option maxRecDepth 20000 in
theorem gX0_addRide_X0_minutes : GoodIn wsX0_addRide (wsV RX0 90 RX0 yX0_minutes wsX0_minutes) := goodIn_app (goodIn_of _ (by decide +kernel)) ggX0_addRide_X0_minutes
set_option maxRecDepth 20000 in
theorem ggX0_addRide_X3_length : GoodIn wsX0_addRide wsX3_length := goodIn_r _ [38, 14, 54, 55] (by decide +kernel) (by decide +kernel)
set_option maxRecDepth 20000 in
theorem gX0_addRide_X3_length : GoodIn wsX0_addRide (wsV RX0 70 RX3 yX3_length wsX3_length) := goodIn_app (goodIn_of _ (by decide +kernel)) ggX0_addRide_X3_length
theorem kX0_addRide_1 : Cond.fieldLink RX0 26 "BookedDetours$Day" "froms" "LBookedDetours$Row;" ∈ wsX0_addRide := List.mem_of_getElem? (i := 1) (by decide +kernel)
theorem kX0_addRide_2 : Cond.fieldLink RX0 29 "BookedDetours$Day" "tos" "LBookedDetours$Row;" ∈ wsX0_addRide := List.mem_of_getElem? (i := 2) (by decide +kernel)
theorem kX0_addRide_3 : Cond.fieldLink RX0 32 "BookedDetours$Day" "waits" "LBookedDetours$Row;" ∈ wsX0_addRide := List.mem_of_getElem? (i := 3) (by decide +kernel)
theorem kX0_addRide_4 : Cond.fieldLink RX0 35 "BookedDetours$Day" "bys" "LBookedDetours$Row;" ∈ wsX0_addRide := List.mem_of_getElem? (i := 4) (by decide +kernel)
theorem kX0_addRide_5 : Cond.fieldLink RX0 38 "BookedDetours$Day" "straights" "LBookedDetours$Row;" ∈ wsX0_addRide := List.mem_of_getElem? (i := 5) (by decide +kernel)
theorem kX0_addRide_6 : Cond.fieldLink RX0 41 "BookedDetours$Day" "stands" "LBookedDetours$Row;" ∈ wsX0_addRide := List.mem_of_getElem? (i := 6) (by decide +kernel)
theorem kX0_addRide_7 : Cond.fieldLink RX0 44 "BookedDetours$Day" "picks" "LBookedDetours$Row;" ∈ wsX0_addRide := List.mem_of_getElem? (i := 7) (by decide +kernel)
theorem kX0_addRide_8 : Cond.fieldLink RX0 47 "BookedDetours$Day" "downs" "LBookedDetours$Row;" ∈ wsX0_addRide := List.mem_of_getElem? (i := 8) (by decide +kernel)
theorem hX0_addRide_X0 : ∀ w ∈ u_ws RX0 TX0 15, w ∈ wsX0_addRide := fun _ h => List.mem_cons_of_mem _ (List.mem_append_left _ (List.mem_append_right _ h))
set_option maxHeartbeats 4000000 in
set_option maxRecDepth 100000 in
theorem c_X0_addRide (g : yG) (A : Nat → Nat) (d : RV) (G : Nat → Nat → Int32) (fr : Int32) (to : Int32) (wa : Int32) (bt : Int32) : yM g yX0_addRide wsX0_addRide ({ frames := 2, cells := 0, slots := 0, locals := 44 } : Room) [.ref (A 0), .int fr, .int to, .int wa, .int bt] ([dayC A d] ++ dayR g A d G : List va_W) (fun r w => r = (f_X0_addRide d fr to wa bt).1 ∧ ∃ d' : RV, ∃ G' : Nat → Nat → Int32, d' = (f_X0_addRide d fr to wa bt).2 ∧ w = ([dayC A d'] ++ dayR g A d' G' : List va_W)) 0 0 := by
  refine y_entryI (cc := cX0_addRide) (maxL := 5) (by decide +kernel) rfl (Nat.le_of_ble_eq_true rfl) (fun Z C HR => ?_)
  have C : yC Z g cX0_addRide 5 wsX0_addRide RX0 := C
  have h := f_X0_addRide.eq_1 d fr to wa bt
  show yJ Z _ 0 0 _ 0 [(0, .ref (A 0)), (1, .int fr), (2, .int to), (3, .int wa), (4, .int bt)] []
  refine y_aload_n C dX0_addRide_0 0 rfl rfl ?_
  refine y_get (Cn := RX0) (T := TX0) (N := 15) (v := .ref (A 7)) C dX0_addRide_1 hX0_addRide_X0 0 (sh_3 g A d G) rfl 3 (Nat.le_of_ble_eq_true rfl) kX0_addRide_1 rfl ?_
  refine y_iload_n C dX0_addRide_4 1 rfl rfl ?_
  refine y_callVv (As := [.int fr]) (rest := []) C dX0_addRide_5 (c_X3_add g (A 7) (A 8) 17 (d.1 3) (G 3) fr (by decide)) rfl rfl rfl rfl ⟨Nat.le_of_ble_eq_true rfl, Nat.le_of_ble_eq_true rfl⟩ gX0_addRide_X3_add (nA := 1) (by decide +kernel) rfl (rowW_recv ⟨_, rfl⟩) (Nat.le_of_ble_eq_true rfl) ⟨Nat.le_of_ble_eq_true rfl, Nat.le_of_ble_eq_true rfl⟩ [4] [0, 1, 2, 3, 5, 6, 7, 8, 9, 10, 11, 12] (nB := 13) rfl (by decide +kernel) (sh_8 g A d G) (fun w9 hw => ?_)
  obtain ⟨y1, G2, e3, rfl⟩ := hw
  obtain ⟨d4, ed4⟩ : ∃ z : RV, z = rvR d 3 y1 := ⟨_, rfl⟩
  obtain ⟨G5, eG5⟩ : ∃ z : Nat → Nat → Int32, z = gs G 3 G2 := ⟨_, rfl⟩
  have h := y_letF h (show d4 = rvR d 3 (rAdd 17 (d.1 3) fr) by rw [ed4, e3])
  refine ⟨([dayC A d4] ++ dayR g A d4 G5 : List va_W), (sh_11 g A d G y1 G2 d4 G5 ed4 eG5), ?_⟩
  refine y_aload_n C dX0_addRide_8 0 rfl rfl ?_
  refine y_get (Cn := RX0) (T := TX0) (N := 15) (v := .ref (A 9)) C dX0_addRide_9 hX0_addRide_X0 0 (sh_3 g A d4 G5) rfl 4 (Nat.le_of_ble_eq_true rfl) kX0_addRide_2 rfl ?_
  refine y_iload_n C dX0_addRide_12 2 rfl rfl ?_
  refine y_callVv (As := [.int to]) (rest := []) C dX0_addRide_13 (c_X3_add g (A 9) (A 10) 17 (d4.1 4) (G5 4) to (by decide)) rfl rfl rfl rfl ⟨Nat.le_of_ble_eq_true rfl, Nat.le_of_ble_eq_true rfl⟩ gX0_addRide_X3_add (nA := 1) (by decide +kernel) rfl (rowW_recv ⟨_, rfl⟩) (Nat.le_of_ble_eq_true rfl) ⟨Nat.le_of_ble_eq_true rfl, Nat.le_of_ble_eq_true rfl⟩ [5] [0, 1, 2, 3, 4, 6, 7, 8, 9, 10, 11, 12] (nB := 13) rfl (by decide +kernel) (sh_9 g A d4 G5) (fun w9 hw => ?_)
  obtain ⟨y6, G7, e8, rfl⟩ := hw
  obtain ⟨d9, ed9⟩ : ∃ z : RV, z = rvR d4 4 y6 := ⟨_, rfl⟩
  obtain ⟨G10, eG10⟩ : ∃ z : Nat → Nat → Int32, z = gs G5 4 G7 := ⟨_, rfl⟩
  have h := y_letF h (show d9 = rvR d4 4 (rAdd 17 (d4.1 4) to) by rw [ed9, e8])
  refine ⟨([dayC A d9] ++ dayR g A d9 G10 : List va_W), (sh_12 g A d4 G5 y6 G7 d9 G10 ed9 eG10), ?_⟩
  refine y_aload_n C dX0_addRide_16 0 rfl rfl ?_
  refine y_get (Cn := RX0) (T := TX0) (N := 15) (v := .ref (A 11)) C dX0_addRide_17 hX0_addRide_X0 0 (sh_3 g A d9 G10) rfl 5 (Nat.le_of_ble_eq_true rfl) kX0_addRide_3 rfl ?_
  refine y_iload_n C dX0_addRide_20 3 rfl rfl ?_
  refine y_callVv (As := [.int wa]) (rest := []) C dX0_addRide_21 (c_X3_add g (A 11) (A 12) 17 (d9.1 5) (G10 5) wa (by decide)) rfl rfl rfl rfl ⟨Nat.le_of_ble_eq_true rfl, Nat.le_of_ble_eq_true rfl⟩ gX0_addRide_X3_add (nA := 1) (by decide +kernel) rfl (rowW_recv ⟨_, rfl⟩) (Nat.le_of_ble_eq_true rfl) ⟨Nat.le_of_ble_eq_true rfl, Nat.le_of_ble_eq_true rfl⟩ [6] [0, 1, 2, 3, 4, 5, 7, 8, 9, 10, 11, 12] (nB := 13) rfl (by decide +kernel) (sh_13 g A d9 G10) (fun w9 hw => ?_)
  obtain ⟨y11, G12, e13, rfl⟩ := hw
  obtain ⟨d14, ed14⟩ : ∃ z : RV, z = rvR d9 5 y11 := ⟨_, rfl⟩
  obtain ⟨G15, eG15⟩ : ∃ z : Nat → Nat → Int32, z = gs G10 5 G12 := ⟨_, rfl⟩
  have h := y_letF h (show d14 = rvR d9 5 (rAdd 17 (d9.1 5) wa) by rw [ed14, e13])
  refine ⟨([dayC A d14] ++ dayR g A d14 G15 : List va_W), (sh_14 g A d9 G10 y11 G12 d14 G15 ed14 eG15), ?_⟩
  refine y_aload_n C dX0_addRide_24 0 rfl rfl ?_
  refine y_get (Cn := RX0) (T := TX0) (N := 15) (v := .ref (A 13)) C dX0_addRide_25 hX0_addRide_X0 0 (sh_3 g A d14 G15) rfl 6 (Nat.le_of_ble_eq_true rfl) kX0_addRide_4 rfl ?_
  refine y_iload C dX0_addRide_28 4 rfl ?_
  refine y_callVv (As := [.int bt]) (rest := []) C dX0_addRide_30 (c_X3_add g (A 13) (A 14) 17 (d14.1 6) (G15 6) bt (by decide)) rfl rfl rfl rfl ⟨Nat.le_of_ble_eq_true rfl, Nat.le_of_ble_eq_true rfl⟩ gX0_addRide_X3_add (nA := 1) (by decide +kernel) rfl (rowW_recv ⟨_, rfl⟩) (Nat.le_of_ble_eq_true rfl) ⟨Nat.le_of_ble_eq_true rfl, Nat.le_of_ble_eq_true rfl⟩ [7] [0, 1, 2, 3, 4, 5, 6, 8, 9, 10, 11, 12] (nB := 13) rfl (by decide +kernel) (sh_15 g A d14 G15) (fun w9 hw => ?_)
  obtain ⟨y16, G17, e18, rfl⟩ := hw
  obtain ⟨d19, ed19⟩ : ∃ z : RV, z = rvR d14 6 y16 := ⟨_, rfl⟩
  obtain ⟨G20, eG20⟩ : ∃ z : Nat → Nat → Int32, z = gs G15 6 G17 := ⟨_, rfl⟩
  have h := y_letF h (show d19 = rvR d14 6 (rAdd 17 (d14.1 6) bt) by rw [ed19, e18])
  refine ⟨([dayC A d19] ++ dayR g A d19 G20 : List va_W), (sh_16 g A d14 G15 y16 G17 d19 G20 ed19 eG20), ?_⟩
  refine y_aload_n C dX0_addRide_33 0 rfl rfl ?_
  refine y_get (Cn := RX0) (T := TX0) (N := 15) (v := .ref (A 15)) C dX0_addRide_34 hX0_addRide_X0 0 (sh_3 g A d19 G20) rfl 7 (Nat.le_of_ble_eq_true rfl) kX0_addRide_5 rfl ?_
  refine y_aload_n C dX0_addRide_37 0 rfl rfl ?_
  refine y_iload_n C dX0_addRide_38 1 rfl rfl ?_
  refine y_iload_n C dX0_addRide_39 2 rfl rfl ?_
  refine y_callV (As := [.int fr, .int to]) (rest := [.ref (A 15)]) C dX0_addRide_40 (c_X0_minutes g A d19 G20 fr to) rfl rfl rfl rfl ⟨Nat.le_of_ble_eq_true rfl, Nat.le_of_ble_eq_true rfl⟩ gX0_addRide_X0_minutes (nA := 2) (by decide +kernel) rfl (sh_18 g A d19 G20) (Nat.le_of_ble_eq_true rfl) ⟨Nat.le_of_ble_eq_true rfl, Nat.le_of_ble_eq_true rfl⟩ [0, 1, 2, 3, 4, 5, 6, 7, 8, 9, 10, 11, 12] [] (nB := 13) rfl (by decide +kernel) (sh_17 g A d19 G20) (fun r21 w9 hw => ?_)
  obtain ⟨er21, rfl⟩ := hw
  have h := y_letF h er21
  refine ⟨([dayC A d19] ++ dayR g A d19 G20 : List va_W), ⟨(sh_17 g A d19 G20), rfl, rfl⟩, ?_⟩
  refine y_callVv (As := [.int r21]) (rest := []) C dX0_addRide_43 (c_X3_add g (A 15) (A 16) 17 (d19.1 7) (G20 7) r21 (by decide)) rfl rfl rfl rfl ⟨Nat.le_of_ble_eq_true rfl, Nat.le_of_ble_eq_true rfl⟩ gX0_addRide_X3_add (nA := 1) (by decide +kernel) rfl (rowW_recv ⟨_, rfl⟩) (Nat.le_of_ble_eq_true rfl) ⟨Nat.le_of_ble_eq_true rfl, Nat.le_of_ble_eq_true rfl⟩ [8] [0, 1, 2, 3, 4, 5, 6, 7, 9, 10, 11, 12] (nB := 13) rfl (by decide +kernel) (sh_19 g A d19 G20) (fun w9 hw => ?_)
  obtain ⟨y22, G23, e24, rfl⟩ := hw
  obtain ⟨d25, ed25⟩ : ∃ z : RV, z = rvR d19 7 y22 := ⟨_, rfl⟩
  obtain ⟨G26, eG26⟩ : ∃ z : Nat → Nat → Int32, z = gs G20 7 G23 := ⟨_, rfl⟩
  have h := y_letF h (show d25 = rvR d19 7 (rAdd 17 (d19.1 7) r21) by rw [ed25, e24])
  refine ⟨([dayC A d25] ++ dayR g A d25 G26 : List va_W), (sh_20 g A d19 G20 y22 G23 d25 G26 ed25 eG26), ?_⟩
  refine y_aload_n C dX0_addRide_46 0 rfl rfl ?_
  refine y_get (Cn := RX0) (T := TX0) (N := 15) (v := .ref (A 17)) C dX0_addRide_47 hX0_addRide_X0 0 (sh_3 g A d25 G26) rfl 8 (Nat.le_of_ble_eq_true rfl) kX0_addRide_6 rfl ?_
  refine y_iconst (v := 0) C dX0_addRide_50 (by decide) ?_
  refine y_callVv (As := [.int (0 : Int32)]) (rest := []) C dX0_addRide_51 (c_X3_add g (A 17) (A 18) 17 (d25.1 8) (G26 8) (0 : Int32) (by decide)) rfl rfl rfl rfl ⟨Nat.le_of_ble_eq_true rfl, Nat.le_of_ble_eq_true rfl⟩ gX0_addRide_X3_add (nA := 1) (by decide +kernel) rfl (rowW_recv ⟨_, rfl⟩) (Nat.le_of_ble_eq_true rfl) ⟨Nat.le_of_ble_eq_true rfl, Nat.le_of_ble_eq_true rfl⟩ [9] [0, 1, 2, 3, 4, 5, 6, 7, 8, 10, 11, 12] (nB := 13) rfl (by decide +kernel) (sh_5 g A d25 G26) (fun w9 hw => ?_)
  obtain ⟨y27, G28, e29, rfl⟩ := hw
  obtain ⟨d30, ed30⟩ : ∃ z : RV, z = rvR d25 8 y27 := ⟨_, rfl⟩
  obtain ⟨G31, eG31⟩ : ∃ z : Nat → Nat → Int32, z = gs G26 8 G28 := ⟨_, rfl⟩
  have h := y_letF h (show d30 = rvR d25 8 (rAdd 17 (d25.1 8) (0 : Int32)) by rw [ed30, e29])
  refine ⟨([dayC A d30] ++ dayR g A d30 G31 : List va_W), (sh_21 g A d25 G26 y27 G28 d30 G31 ed30 eG31), ?_⟩
  refine y_aload_n C dX0_addRide_54 0 rfl rfl ?_
  refine y_get (Cn := RX0) (T := TX0) (N := 15) (v := .ref (A 19)) C dX0_addRide_55 hX0_addRide_X0 0 (sh_3 g A d30 G31) rfl 9 (Nat.le_of_ble_eq_true rfl) kX0_addRide_7 rfl ?_
  refine y_bipush (v := -6) C dX0_addRide_58 (by decide) ?_
  refine y_callVv (As := [.int (-6 : Int32)]) (rest := []) C dX0_addRide_60 (c_X3_add g (A 19) (A 20) 17 (d30.1 9) (G31 9) (-6 : Int32) (by decide)) rfl rfl rfl rfl ⟨Nat.le_of_ble_eq_true rfl, Nat.le_of_ble_eq_true rfl⟩ gX0_addRide_X3_add (nA := 1) (by decide +kernel) rfl (rowW_recv ⟨_, rfl⟩) (Nat.le_of_ble_eq_true rfl) ⟨Nat.le_of_ble_eq_true rfl, Nat.le_of_ble_eq_true rfl⟩ [10] [0, 1, 2, 3, 4, 5, 6, 7, 8, 9, 11, 12] (nB := 13) rfl (by decide +kernel) (sh_22 g A d30 G31) (fun w9 hw => ?_)
  obtain ⟨y32, G33, e34, rfl⟩ := hw
  obtain ⟨d35, ed35⟩ : ∃ z : RV, z = rvR d30 9 y32 := ⟨_, rfl⟩
  obtain ⟨G36, eG36⟩ : ∃ z : Nat → Nat → Int32, z = gs G31 9 G33 := ⟨_, rfl⟩
  have h := y_letF h (show d35 = rvR d30 9 (rAdd 17 (d30.1 9) (-6 : Int32)) by rw [ed35, e34])
  refine ⟨([dayC A d35] ++ dayR g A d35 G36 : List va_W), (sh_23 g A d30 G31 y32 G33 d35 G36 ed35 eG36), ?_⟩
  refine y_aload_n C dX0_addRide_63 0 rfl rfl ?_
  refine y_get (Cn := RX0) (T := TX0) (N := 15) (v := .ref (A 21)) C dX0_addRide_64 hX0_addRide_X0 0 (sh_3 g A d35 G36) rfl 10 (Nat.le_of_ble_eq_true rfl) kX0_addRide_8 rfl ?_
  refine y_bipush (v := -6) C dX0_addRide_67 (by decide) ?_
  refine y_callVv (As := [.int (-6 : Int32)]) (rest := []) C dX0_addRide_69 (c_X3_add g (A 21) (A 22) 17 (d35.1 10) (G36 10) (-6 : Int32) (by decide)) rfl rfl rfl rfl ⟨Nat.le_of_ble_eq_true rfl, Nat.le_of_ble_eq_true rfl⟩ gX0_addRide_X3_add (nA := 1) (by decide +kernel) rfl (rowW_recv ⟨_, rfl⟩) (Nat.le_of_ble_eq_true rfl) ⟨Nat.le_of_ble_eq_true rfl, Nat.le_of_ble_eq_true rfl⟩ [11] [0, 1, 2, 3, 4, 5, 6, 7, 8, 9, 10, 12] (nB := 13) rfl (by decide +kernel) (sh_24 g A d35 G36) (fun w9 hw => ?_)
  obtain ⟨y37, G38, e39, rfl⟩ := hw
  obtain ⟨d40, ed40⟩ : ∃ z : RV, z = rvR d35 10 y37 := ⟨_, rfl⟩
  obtain ⟨G41, eG41⟩ : ∃ z : Nat → Nat → Int32, z = gs G36 10 G38 := ⟨_, rfl⟩
  have h := y_letF h (show d40 = rvR d35 10 (rAdd 17 (d35.1 10) (-6 : Int32)) by rw [ed40, e39])
  refine ⟨([dayC A d40] ++ dayR g A d40 G41 : List va_W), (sh_25 g A d35 G36 y37 G38 d40 G41 ed40 eG41), ?_⟩
  refine y_aload_n C dX0_addRide_72 0 rfl rfl ?_
  refine y_get (Cn := RX0) (T := TX0) (N := 15) (v := .ref (A 17)) C dX0_addRide_73 hX0_addRide_X0 0 (sh_3 g A d40 G41) rfl 8 (Nat.le_of_ble_eq_true rfl) kX0_addRide_6 rfl ?_
  refine y_callV (As := []) (rest := []) C dX0_addRide_76 (c_X3_length g (A 17) (A 18) 17 (d40.1 8) (G41 8) (by decide)) rfl rfl rfl rfl ⟨Nat.le_of_ble_eq_true rfl, Nat.le_of_ble_eq_true rfl⟩ gX0_addRide_X3_length (nA := 0) (by decide +kernel) rfl (rowW_recv ⟨_, rfl⟩) (Nat.le_of_ble_eq_true rfl) ⟨Nat.le_of_ble_eq_true rfl, Nat.le_of_ble_eq_true rfl⟩ [9] [0, 1, 2, 3, 4, 5, 6, 7, 8, 10, 11, 12] (nB := 13) rfl (by decide +kernel) (sh_5 g A d40 G41) (fun r42 w9 hw => ?_)
  obtain ⟨er42, rfl⟩ := hw
  have h := y_letF h er42
  refine ⟨([dayC A d40] ++ dayR g A d40 G41 : List va_W), ⟨(sh_5 g A d40 G41), rfl, rfl⟩, ?_⟩
  refine y_iconst (v := 1) C dX0_addRide_79 (by decide) ?_
  refine y_isub C dX0_addRide_80 ?_
  exact HR 81 dX0_addRide_81 (r42 - (1 : Int32)) _ _ _ _ (rfl) (Nat.le_of_ble_eq_true rfl) (Nat.le_of_ble_eq_true rfl) ⟨by rw [h], d40, G41, by rw [h], rfl⟩
end
section
theorem dX0_leaveOut_0 : decode cX0_leaveOut 0 = .ok (.aload_n 0, 1) := by decide +kernel
theorem dX0_leaveOut_1 : decode cX0_leaveOut 1 = .ok (.invokevirtual 97, 3) := by decide +kernel
theorem dX0_leaveOut_4 : decode cX0_leaveOut 4 = .ok (.ifCond .eq 22, 3) := by decide +kernel
theorem dX0_leaveOut_7 : decode cX0_leaveOut 7 = .ok (.aload_n 0, 1) := by decide +kernel
theorem dX0_leaveOut_8 : decode cX0_leaveOut 8 = .ok (.getfield 50, 3) := by decide +kernel
theorem dX0_leaveOut_11 : decode cX0_leaveOut 11 = .ok (.iconst 0, 1) := by decide +kernel
theorem dX0_leaveOut_12 : decode cX0_leaveOut 12 = .ok (.invokevirtual 74, 3) := by decide +kernel
theorem dX0_leaveOut_15 : decode cX0_leaveOut 15 = .ok (.invokestatic 83, 3) := by decide +kernel
theorem dX0_leaveOut_18 : decode cX0_leaveOut 18 = .ok (.iload_n 1, 1) := by decide +kernel
theorem dX0_leaveOut_19 : decode cX0_leaveOut 19 = .ok (.if_icmp .ne 7, 3) := by decide +kernel
theorem dX0_leaveOut_22 : decode cX0_leaveOut 22 = .ok (.aload_n 0, 1) := by decide +kernel
theorem dX0_leaveOut_23 : decode cX0_leaveOut 23 = .ok (.invokevirtual 101, 3) := by decide +kernel
theorem dX0_leaveOut_26 : decode cX0_leaveOut 26 = .ok (.aload_n 0, 1) := by decide +kernel
theorem dX0_leaveOut_27 : decode cX0_leaveOut 27 = .ok (.getfield 50, 3) := by decide +kernel
theorem dX0_leaveOut_30 : decode cX0_leaveOut 30 = .ok (.invokevirtual 70, 3) := by decide +kernel
theorem dX0_leaveOut_33 : decode cX0_leaveOut 33 = .ok (.iconst 1, 1) := by decide +kernel
theorem dX0_leaveOut_34 : decode cX0_leaveOut 34 = .ok (.isub, 1) := by decide +kernel
theorem dX0_leaveOut_35 : decode cX0_leaveOut 35 = .ok (.istore_n 3, 1) := by decide +kernel
theorem dX0_leaveOut_36 : decode cX0_leaveOut 36 = .ok (.iload_n 3, 1) := by decide +kernel
theorem dX0_leaveOut_37 : decode cX0_leaveOut 37 = .ok (.ifCond .lt 32, 3) := by decide +kernel
theorem dX0_leaveOut_40 : decode cX0_leaveOut 40 = .ok (.aload_n 0, 1) := by decide +kernel
theorem dX0_leaveOut_41 : decode cX0_leaveOut 41 = .ok (.getfield 50, 3) := by decide +kernel
theorem dX0_leaveOut_44 : decode cX0_leaveOut 44 = .ok (.iload_n 3, 1) := by decide +kernel
theorem dX0_leaveOut_45 : decode cX0_leaveOut 45 = .ok (.invokevirtual 74, 3) := by decide +kernel
theorem dX0_leaveOut_48 : decode cX0_leaveOut 48 = .ok (.invokestatic 83, 3) := by decide +kernel
theorem dX0_leaveOut_51 : decode cX0_leaveOut 51 = .ok (.iload_n 1, 1) := by decide +kernel
theorem dX0_leaveOut_52 : decode cX0_leaveOut 52 = .ok (.if_icmp .ne 11, 3) := by decide +kernel
theorem dX0_leaveOut_55 : decode cX0_leaveOut 55 = .ok (.aload_n 0, 1) := by decide +kernel
theorem dX0_leaveOut_56 : decode cX0_leaveOut 56 = .ok (.getfield 50, 3) := by decide +kernel
theorem dX0_leaveOut_59 : decode cX0_leaveOut 59 = .ok (.iload_n 3, 1) := by decide +kernel
theorem dX0_leaveOut_60 : decode cX0_leaveOut 60 = .ok (.invokevirtual 104, 3) := by decide +kernel
theorem dX0_leaveOut_63 : decode cX0_leaveOut 63 = .ok (.iinc 3 (-1), 3) := by decide +kernel
theorem dX0_leaveOut_66 : decode cX0_leaveOut 66 = .ok (.goto (-30), 3) := by decide +kernel
theorem dX0_leaveOut_69 : decode cX0_leaveOut 69 = .ok (.aload_n 0, 1) := by decide +kernel
theorem dX0_leaveOut_70 : decode cX0_leaveOut 70 = .ok (.getfield 41, 3) := by decide +kernel
theorem dX0_leaveOut_73 : decode cX0_leaveOut 73 = .ok (.iload_n 1, 1) := by decide +kernel
theorem dX0_leaveOut_74 : decode cX0_leaveOut 74 = .ok (.iload_n 2, 1) := by decide +kernel
theorem dX0_leaveOut_75 : decode cX0_leaveOut 75 = .ok (.invokevirtual 107, 3) := by decide +kernel
theorem dX0_leaveOut_78 : decode cX0_leaveOut 78 = .ok (.return_, 1) := by decide +kernel
set_option maxRecDepth 20000 in
theorem ggX0_leaveOut_X3_change : GoodIn wsX0_leaveOut wsX3_change := goodIn_r _ [57, 15, 20, 73, 74] (by decide +kernel) (by decide +kernel)
set_option maxRecDepth 20000 in
theorem gX0_leaveOut_X3_change : GoodIn wsX0_leaveOut (wsV RX0 107 RX3 yX3_change wsX3_change) := goodIn_app (goodIn_of _ (by decide +kernel)) ggX0_leaveOut_X3_change
set_option maxRecDepth 20000 in
theorem ggX0_leaveOut_X3_at : GoodIn wsX0_leaveOut wsX3_at := goodIn_r _ [19, 15, 20, 73, 74] (by decide +kernel) (by decide +kernel)
set_option maxRecDepth 20000 in
theorem gX0_leaveOut_X3_at : GoodIn wsX0_leaveOut (wsV RX0 74 RX3 yX3_at wsX3_at) := goodIn_app (goodIn_of _ (by decide +kernel)) ggX0_leaveOut_X3_at
set_option maxRecDepth 20000 in
theorem ggX0_leaveOut_X6_rideOf : GoodIn wsX0_leaveOut wsX6_rideOf := goodIn_r _ [23] (by decide +kernel) (by decide +kernel)
set_option maxRecDepth 20000 in
theorem gX0_leaveOut_X6_rideOf_n83 : GoodIn wsX0_leaveOut (wsX6_rideOf) := ggX0_leaveOut_X6_rideOf
set_option maxRecDepth 20000 in
theorem ggX0_leaveOut_X3_remove : GoodIn wsX0_leaveOut wsX3_remove := goodIn_r _ [53, 15, 20, 73, 74] (by decide +kernel) (by decide +kernel)
set_option maxRecDepth 20000 in
theorem gX0_leaveOut_X3_remove : GoodIn wsX0_leaveOut (wsV RX0 104 RX3 yX3_remove wsX3_remove) := goodIn_app (goodIn_of _ (by decide +kernel)) ggX0_leaveOut_X3_remove
set_option maxRecDepth 20000 in
theorem ggX0_leaveOut_X0_isOnItsWay : GoodIn wsX0_leaveOut wsX0_isOnItsWay := goodIn_r _ [7, 1, 8, 9, 10, 11, 12, 13, 14, 15, 58, 59, 60, 61, 62, 63, 64, 65, 66, 67, 68, 69, 70, 71, 72, 73, 74] (by decide +kernel) (by decide +kernel)
set_option maxRecDepth 20000 in
theorem gX0_leaveOut_X0_isOnItsWay : GoodIn wsX0_leaveOut (wsV RX0 97 RX0 yX0_isOnItsWay wsX0_isOnItsWay) := goodIn_app (goodIn_of _ (by decide +kernel)) ggX0_leaveOut_X0_isOnItsWay
set_option maxRecDepth 20000 in
theorem ggX0_leaveOut_X3_length : GoodIn wsX0_leaveOut wsX3_length := goodIn_r _ [14, 15, 73, 74] (by decide +kernel) (by decide +kernel)
set_option maxRecDepth 20000 in
theorem gX0_leaveOut_X3_length : GoodIn wsX0_leaveOut (wsV RX0 70 RX3 yX3_length wsX3_length) := goodIn_app (goodIn_of _ (by decide +kernel)) ggX0_leaveOut_X3_length
set_option maxRecDepth 20000 in
theorem ggX0_leaveOut_X0_endAtFirst : GoodIn wsX0_leaveOut wsX0_endAtFirst := goodIn_r _ [27, 1, 9, 28, 8, 29, 30, 31, 32, 16, 17, 18, 13, 19, 15, 20, 33, 34, 35, 6, 36, 37, 38, 21, 22, 23, 39, 40, 41, 42, 43, 44, 45, 46, 47, 48, 49, 58, 59, 60, 61, 62, 63, 64, 65, 66, 67, 68, 69, 70, 71, 72, 73, 74] (by decide +kernel) (by decide +kernel)
set_option maxRecDepth 20000 in
theorem gX0_leaveOut_X0_endAtFirst : GoodIn wsX0_leaveOut (wsV RX0 101 RX0 yX0_endAtFirst wsX0_endAtFirst) := goodIn_app (goodIn_of _ (by decide +kernel)) ggX0_leaveOut_X0_endAtFirst
theorem kX0_leaveOut_2 : Cond.fieldLink RX0 41 "BookedDetours$Day" "stands" "LBookedDetours$Row;" ∈ wsX0_leaveOut := List.mem_of_getElem? (i := 2) (by decide +kernel)
theorem kX0_leaveOut_1 : Cond.fieldLink RX0 50 "BookedDetours$Day" "route" "LBookedDetours$Row;" ∈ wsX0_leaveOut := List.mem_of_getElem? (i := 1) (by decide +kernel)
theorem kX0_leaveOut_22 : Cond.initialized RX6 ∈ wsX0_leaveOut := List.mem_of_getElem? (i := 22) (by decide +kernel)
theorem kX0_leaveOut_21 : Cond.static yX6_rideOf ∈ wsX0_leaveOut := List.mem_of_getElem? (i := 21) (by decide +kernel)
theorem hX0_leaveOut_X0 : ∀ w ∈ u_ws RX0 TX0 15, w ∈ wsX0_leaveOut := fun _ h => List.mem_cons_of_mem _ (List.mem_append_left _ (List.mem_append_right _ h))
set_option maxHeartbeats 4000000 in
set_option maxRecDepth 100000 in
theorem w_X0_leaveOut_36 {Z : yZ} (g : yG) (A : Nat → Nat) (ri : Int32) (how : Int32) (C : yC Z g cX0_leaveOut 4 wsX0_leaveOut RX0) {post : List va_W → Prop} (HR : yRv Z ({ frames := 3, cells := 0, slots := 0, locals := 64 } : Room) cX0_leaveOut post 0 0) {X36 : RV → Int32 → Prop} (hX36 : ∀ (d : RV) (x3 : Int32) (G : Nat → Nat → Int32), X36 d x3 → yJ Z ({ frames := 3, cells := 0, slots := 0, locals := 64 } : Room) 0 0 ([dayC A d] ++ dayR g A d G : List va_W) 36 [(0, .ref (A 0)), (1, .int ri), (2, .int how), (3, .int x3)] []) {K : RV → Prop} (hK : ∀ (d : RV) (G : Nat → Nat → Int32), K d → post ([dayC A d] ++ dayR g A d G : List va_W)) (d : RV) (x3 : Int32) (G : Nat → Nat → Int32) (h : wp_X0_leaveOut_36 ri how X36 K d x3) : yJ Z ({ frames := 3, cells := 0, slots := 0, locals := 64 } : Room) 0 0 ([dayC A d] ++ dayR g A d G : List va_W) 36 [(0, .ref (A 0)), (1, .int ri), (2, .int how), (3, .int x3)] [] := by
  unfold wp_X0_leaveOut_36 at h
  refine y_iload_n C dX0_leaveOut_36 3 rfl rfl ?_
  refine y_if_lt (tgt := 69) C dX0_leaveOut_37 rfl h (fun c37 h => ?_) (fun c37 h => ?_)
  · refine y_aload_n C dX0_leaveOut_69 0 rfl rfl ?_
    refine y_get (Cn := RX0) (T := TX0) (N := 15) (v := .ref (A 17)) C dX0_leaveOut_70 hX0_leaveOut_X0 0 (sh_3 g A d G) rfl 8 (Nat.le_of_ble_eq_true rfl) kX0_leaveOut_2 rfl ?_
    refine y_iload_n C dX0_leaveOut_73 1 rfl rfl ?_
    refine y_iload_n C dX0_leaveOut_74 2 rfl rfl ?_
    refine y_callVv (As := [.int ri, .int how]) (rest := []) C dX0_leaveOut_75 (c_X3_change g (A 17) (A 18) 17 (d.1 8) (G 8) ri how (by decide)) rfl rfl rfl rfl ⟨Nat.le_of_ble_eq_true rfl, Nat.le_of_ble_eq_true rfl⟩ gX0_leaveOut_X3_change (nA := 2) (by decide +kernel) rfl (rowW_recv ⟨_, rfl⟩) (Nat.le_of_ble_eq_true rfl) ⟨Nat.le_of_ble_eq_true rfl, Nat.le_of_ble_eq_true rfl⟩ [9] [0, 1, 2, 3, 4, 5, 6, 7, 8, 10, 11, 12] (nB := 13) rfl (by decide +kernel) (sh_5 g A d G) (fun w9 hw => ?_)
    obtain ⟨y1, G2, e3, rfl⟩ := hw
    obtain ⟨d4, ed4⟩ : ∃ z : RV, z = rvR d 8 y1 := ⟨_, rfl⟩
    obtain ⟨G5, eG5⟩ : ∃ z : Nat → Nat → Int32, z = gs G 8 G2 := ⟨_, rfl⟩
    have h := y_letP h (show d4 = rvR d 8 (rSet (d.1 8) ri how) by rw [ed4, e3])
    refine ⟨([dayC A d4] ++ dayR g A d4 G5 : List va_W), (sh_21 g A d G y1 G2 d4 G5 ed4 eG5), ?_⟩
    exact HR 78 dX0_leaveOut_78 _ _ _ _ (Nat.le_of_ble_eq_true rfl) (Nat.le_of_ble_eq_true rfl) (hK _ _ h)
  · refine y_aload_n C dX0_leaveOut_40 0 rfl rfl ?_
    refine y_get (Cn := RX0) (T := TX0) (N := 15) (v := .ref (A 23)) C dX0_leaveOut_41 hX0_leaveOut_X0 0 (sh_3 g A d G) rfl 11 (Nat.le_of_ble_eq_true rfl) kX0_leaveOut_1 rfl ?_
    refine y_iload_n C dX0_leaveOut_44 3 rfl rfl ?_
    refine y_callV (As := [.int x3]) (rest := []) C dX0_leaveOut_45 (c_X3_at g (A 23) (A 24) 34 (d.1 11) (G 11) x3 (by decide)) rfl rfl rfl rfl ⟨Nat.le_of_ble_eq_true rfl, Nat.le_of_ble_eq_true rfl⟩ gX0_leaveOut_X3_at (nA := 1) (by decide +kernel) rfl (rowW_recv ⟨_, rfl⟩) (Nat.le_of_ble_eq_true rfl) ⟨Nat.le_of_ble_eq_true rfl, Nat.le_of_ble_eq_true rfl⟩ [12] [0, 1, 2, 3, 4, 5, 6, 7, 8, 9, 10, 11] (nB := 13) rfl (by decide +kernel) (sh_10 g A d G) (fun r6 w9 hw => ?_)
    obtain ⟨er6, rfl⟩ := hw
    have h := y_letP h er6
    refine ⟨([dayC A d] ++ dayR g A d G : List va_W), ⟨(sh_10 g A d G), rfl, rfl⟩, ?_⟩
    refine y_callSN (host := RX6) (As := [.int r6]) (rest := []) C dX0_leaveOut_48 (c_X6_rideOf g r6) rfl rfl rfl rfl ⟨Nat.le_of_ble_eq_true rfl, Nat.le_of_ble_eq_true rfl⟩ gX0_leaveOut_X6_rideOf_n83 (List.mem_of_getElem? (i := 4) rfl) kX0_leaveOut_22 kX0_leaveOut_21 (nA := 1) (by decide +kernel) rfl (Nat.le_of_ble_eq_true rfl) ⟨Nat.le_of_ble_eq_true rfl, Nat.le_of_ble_eq_true rfl⟩ [] [0, 1, 2, 3, 4, 5, 6, 7, 8, 9, 10, 11, 12] (nB := 13) rfl (by decide +kernel) (sh_7 g A d G) (fun r7 w9 hw => ?_)
    obtain ⟨er7, rfl⟩ := hw
    have h := y_letP h er7
    refine ⟨([dayC A d] ++ dayR g A d G : List va_W), ⟨(sh_7 g A d G), rfl, rfl⟩, ?_⟩
    refine y_iload_n C dX0_leaveOut_51 1 rfl rfl ?_
    refine y_icmp_ne (tgt := 63) C dX0_leaveOut_52 rfl h (fun c52 h => ?_) (fun c52 h => ?_)
    · refine y_iinc (v := (x3 + (-1 : Int32))) (lv' := [(3, .int (x3 + (-1 : Int32))), (0, .ref (A 0)), (1, .int ri), (2, .int how)]) C dX0_leaveOut_63 3 rfl rfl (Nat.le_of_ble_eq_true rfl) rfl ?_
      refine y_goto (tgt := 36) C dX0_leaveOut_66 rfl ?_
      refine y_sub (lv' := [(0, .ref (A 0)), (1, .int ri), (2, .int how), (3, .int (x3 + (-1 : Int32)))]) [1, 2, 3, 0] rfl ?_
      exact hX36 _ _ _ h
    · refine y_aload_n C dX0_leaveOut_55 0 rfl rfl ?_
      refine y_get (Cn := RX0) (T := TX0) (N := 15) (v := .ref (A 23)) C dX0_leaveOut_56 hX0_leaveOut_X0 0 (sh_3 g A d G) rfl 11 (Nat.le_of_ble_eq_true rfl) kX0_leaveOut_1 rfl ?_
      refine y_iload_n C dX0_leaveOut_59 3 rfl rfl ?_
      refine y_callVv (As := [.int x3]) (rest := []) C dX0_leaveOut_60 (c_X3_remove g (A 23) (A 24) 34 (d.1 11) (G 11) x3 (by decide)) rfl rfl rfl rfl ⟨Nat.le_of_ble_eq_true rfl, Nat.le_of_ble_eq_true rfl⟩ gX0_leaveOut_X3_remove (nA := 1) (by decide +kernel) rfl (rowW_recv ⟨_, rfl⟩) (Nat.le_of_ble_eq_true rfl) ⟨Nat.le_of_ble_eq_true rfl, Nat.le_of_ble_eq_true rfl⟩ [12] [0, 1, 2, 3, 4, 5, 6, 7, 8, 9, 10, 11] (nB := 13) rfl (by decide +kernel) (sh_10 g A d G) (fun w9 hw => ?_)
      obtain ⟨y8, G9, e10, rfl⟩ := hw
      obtain ⟨d11, ed11⟩ : ∃ z : RV, z = rvR d 11 y8 := ⟨_, rfl⟩
      obtain ⟨G12, eG12⟩ : ∃ z : Nat → Nat → Int32, z = gs G 11 G9 := ⟨_, rfl⟩
      have h := y_letP h (show d11 = rvR d 11 (rDel (d.1 11) x3) by rw [ed11, e10])
      refine ⟨([dayC A d11] ++ dayR g A d11 G12 : List va_W), (sh_28 g A d G y8 G9 d11 G12 ed11 eG12), ?_⟩
      refine y_iinc (v := (x3 + (-1 : Int32))) (lv' := [(3, .int (x3 + (-1 : Int32))), (0, .ref (A 0)), (1, .int ri), (2, .int how)]) C dX0_leaveOut_63 3 rfl rfl (Nat.le_of_ble_eq_true rfl) rfl ?_
      refine y_goto (tgt := 36) C dX0_leaveOut_66 rfl ?_
      refine y_sub (lv' := [(0, .ref (A 0)), (1, .int ri), (2, .int how), (3, .int (x3 + (-1 : Int32)))]) [1, 2, 3, 0] rfl ?_
      exact hX36 _ _ _ h
set_option maxHeartbeats 4000000 in
set_option maxRecDepth 100000 in
theorem l_X0_leaveOut {Z : yZ} (g : yG) (A : Nat → Nat) (ri : Int32) (how : Int32) (C : yC Z g cX0_leaveOut 4 wsX0_leaveOut RX0) {post : List va_W → Prop} (HR : yRv Z ({ frames := 3, cells := 0, slots := 0, locals := 64 } : Room) cX0_leaveOut post 0 0) {K : RV → Prop} (hK : ∀ (d : RV) (G : Nat → Nat → Int32), K d → post ([dayC A d] ++ dayR g A d G : List va_W)) {I36 : Nat → RV → Int32 → Prop} (o36 : ∀ (w0 : Nat) (d : RV) (x3 : Int32), I36 w0 d x3 → wp_X0_leaveOut_36 ri how (fun (d9 : RV) (x39 : Int32) => ∃ w9, w9 < w0 ∧ I36 w9 d9 x39) K d x3) : ∀ w0 : Nat, (∀ (d : RV) (x3 : Int32) (G : Nat → Nat → Int32), I36 w0 d x3 → yJ Z ({ frames := 3, cells := 0, slots := 0, locals := 64 } : Room) 0 0 ([dayC A d] ++ dayR g A d G : List va_W) 36 [(0, .ref (A 0)), (1, .int ri), (2, .int how), (3, .int x3)] []) := by
  intro w0
  induction w0 using Nat.strongRecOn with
  | _ w0 ih =>
    exact fun d x3 G hi => w_X0_leaveOut_36 g A ri how C HR (fun d x3 G hq => by obtain ⟨w9, hlt, hi⟩ := hq; exact (ih w9 hlt) d x3 G hi) hK d x3 G (o36 w0 d x3 hi)
set_option maxHeartbeats 4000000 in
set_option maxRecDepth 100000 in
theorem t_X0_leaveOut (g : yG) (A : Nat → Nat) (d : RV) (G : Nat → Nat → Int32) (ri : Int32) (how : Int32) {post : List va_W → Prop} {K : RV → Prop} (hK : ∀ (d : RV) (G : Nat → Nat → Int32), K d → post ([dayC A d] ++ dayR g A d G : List va_W)) (hPO : PO_X0_leaveOut ri how K d ) : yMv g yX0_leaveOut wsX0_leaveOut ({ frames := 3, cells := 0, slots := 0, locals := 64 } : Room) [.ref (A 0), .int ri, .int how] ([dayC A d] ++ dayR g A d G : List va_W) post 0 0 := by
  refine y_entryV (cc := cX0_leaveOut) (maxL := 4) (by decide +kernel) rfl (Nat.le_of_ble_eq_true rfl) (fun Z C _ HR => ?_)
  have C : yC Z g cX0_leaveOut 4 wsX0_leaveOut RX0 := C
  obtain ⟨I36, o36, h⟩ := hPO
  have hX36 : ∀ (d : RV) (x3 : Int32) (G : Nat → Nat → Int32), (fun (d9 : RV) (x39 : Int32) => ∃ w9, I36 w9 d9 x39) d x3 → yJ Z ({ frames := 3, cells := 0, slots := 0, locals := 64 } : Room) 0 0 ([dayC A d] ++ dayR g A d G : List va_W) 36 [(0, .ref (A 0)), (1, .int ri), (2, .int how), (3, .int x3)] [] := by
    intro d x3 G hq
    obtain ⟨w9, hi⟩ := hq
    exact (l_X0_leaveOut g A ri how C HR hK o36 w9) d x3 G hi
  unfold wp_X0_leaveOut_0 at h
  show yJ Z _ 0 0 _ 0 [(0, .ref (A 0)), (1, .int ri), (2, .int how)] []
  refine y_aload_n C dX0_leaveOut_0 0 rfl rfl ?_
  refine y_callV (As := []) (rest := []) C dX0_leaveOut_1 (c_X0_isOnItsWay g A d G) rfl rfl rfl rfl ⟨Nat.le_of_ble_eq_true rfl, Nat.le_of_ble_eq_true rfl⟩ gX0_leaveOut_X0_isOnItsWay (nA := 0) (by decide +kernel) rfl (sh_18 g A d G) (Nat.le_of_ble_eq_true rfl) ⟨Nat.le_of_ble_eq_true rfl, Nat.le_of_ble_eq_true rfl⟩ [0, 1, 2, 3, 4, 5, 6, 7, 8, 9, 10, 11, 12] [] (nB := 13) rfl (by decide +kernel) (sh_17 g A d G) (fun r1 w9 hw => ?_)
  obtain ⟨er1, rfl⟩ := hw
  have h := y_letP h er1
  refine ⟨([dayC A d] ++ dayR g A d G : List va_W), ⟨(sh_17 g A d G), rfl, rfl⟩, ?_⟩
  refine y_if_eq (tgt := 26) C dX0_leaveOut_4 rfl h (fun c4 h => ?_) (fun c4 h => ?_)
  · refine y_aload_n C dX0_leaveOut_26 0 rfl rfl ?_
    refine y_get (Cn := RX0) (T := TX0) (N := 15) (v := .ref (A 23)) C dX0_leaveOut_27 hX0_leaveOut_X0 0 (sh_3 g A d G) rfl 11 (Nat.le_of_ble_eq_true rfl) kX0_leaveOut_1 rfl ?_
    refine y_callV (As := []) (rest := []) C dX0_leaveOut_30 (c_X3_length g (A 23) (A 24) 34 (d.1 11) (G 11) (by decide)) rfl rfl rfl rfl ⟨Nat.le_of_ble_eq_true rfl, Nat.le_of_ble_eq_true rfl⟩ gX0_leaveOut_X3_length (nA := 0) (by decide +kernel) rfl (rowW_recv ⟨_, rfl⟩) (Nat.le_of_ble_eq_true rfl) ⟨Nat.le_of_ble_eq_true rfl, Nat.le_of_ble_eq_true rfl⟩ [12] [0, 1, 2, 3, 4, 5, 6, 7, 8, 9, 10, 11] (nB := 13) rfl (by decide +kernel) (sh_10 g A d G) (fun r2 w9 hw => ?_)
    obtain ⟨er2, rfl⟩ := hw
    have h := y_letP h er2
    refine ⟨([dayC A d] ++ dayR g A d G : List va_W), ⟨(sh_10 g A d G), rfl, rfl⟩, ?_⟩
    refine y_iconst (v := 1) C dX0_leaveOut_33 (by decide) ?_
    refine y_isub C dX0_leaveOut_34 ?_
    refine y_istore_n (lv' := [(3, .int (r2 - (1 : Int32))), (0, .ref (A 0)), (1, .int ri), (2, .int how)]) C dX0_leaveOut_35 rfl (Nat.le_of_ble_eq_true rfl) rfl ?_
    refine y_sub (lv' := [(0, .ref (A 0)), (1, .int ri), (2, .int how), (3, .int (r2 - (1 : Int32)))]) [1, 2, 3, 0] rfl ?_
    exact hX36 _ _ _ h
  · refine y_aload_n C dX0_leaveOut_7 0 rfl rfl ?_
    refine y_get (Cn := RX0) (T := TX0) (N := 15) (v := .ref (A 23)) C dX0_leaveOut_8 hX0_leaveOut_X0 0 (sh_3 g A d G) rfl 11 (Nat.le_of_ble_eq_true rfl) kX0_leaveOut_1 rfl ?_
    refine y_iconst (v := 0) C dX0_leaveOut_11 (by decide) ?_
    refine y_callV (As := [.int (0 : Int32)]) (rest := []) C dX0_leaveOut_12 (c_X3_at g (A 23) (A 24) 34 (d.1 11) (G 11) (0 : Int32) (by decide)) rfl rfl rfl rfl ⟨Nat.le_of_ble_eq_true rfl, Nat.le_of_ble_eq_true rfl⟩ gX0_leaveOut_X3_at (nA := 1) (by decide +kernel) rfl (rowW_recv ⟨_, rfl⟩) (Nat.le_of_ble_eq_true rfl) ⟨Nat.le_of_ble_eq_true rfl, Nat.le_of_ble_eq_true rfl⟩ [12] [0, 1, 2, 3, 4, 5, 6, 7, 8, 9, 10, 11] (nB := 13) rfl (by decide +kernel) (sh_10 g A d G) (fun r3 w9 hw => ?_)
    obtain ⟨er3, rfl⟩ := hw
    have h := y_letP h er3
    refine ⟨([dayC A d] ++ dayR g A d G : List va_W), ⟨(sh_10 g A d G), rfl, rfl⟩, ?_⟩
    refine y_callSN (host := RX6) (As := [.int r3]) (rest := []) C dX0_leaveOut_15 (c_X6_rideOf g r3) rfl rfl rfl rfl ⟨Nat.le_of_ble_eq_true rfl, Nat.le_of_ble_eq_true rfl⟩ gX0_leaveOut_X6_rideOf_n83 (List.mem_of_getElem? (i := 4) rfl) kX0_leaveOut_22 kX0_leaveOut_21 (nA := 1) (by decide +kernel) rfl (Nat.le_of_ble_eq_true rfl) ⟨Nat.le_of_ble_eq_true rfl, Nat.le_of_ble_eq_true rfl⟩ [] [0, 1, 2, 3, 4, 5, 6, 7, 8, 9, 10, 11, 12] (nB := 13) rfl (by decide +kernel) (sh_7 g A d G) (fun r4 w9 hw => ?_)
    obtain ⟨er4, rfl⟩ := hw
    have h := y_letP h er4
    refine ⟨([dayC A d] ++ dayR g A d G : List va_W), ⟨(sh_7 g A d G), rfl, rfl⟩, ?_⟩
    refine y_iload_n C dX0_leaveOut_18 1 rfl rfl ?_
    refine y_icmp_ne (tgt := 26) C dX0_leaveOut_19 rfl h (fun c19 h => ?_) (fun c19 h => ?_)
    · refine y_aload_n C dX0_leaveOut_26 0 rfl rfl ?_
      refine y_get (Cn := RX0) (T := TX0) (N := 15) (v := .ref (A 23)) C dX0_leaveOut_27 hX0_leaveOut_X0 0 (sh_3 g A d G) rfl 11 (Nat.le_of_ble_eq_true rfl) kX0_leaveOut_1 rfl ?_
      refine y_callV (As := []) (rest := []) C dX0_leaveOut_30 (c_X3_length g (A 23) (A 24) 34 (d.1 11) (G 11) (by decide)) rfl rfl rfl rfl ⟨Nat.le_of_ble_eq_true rfl, Nat.le_of_ble_eq_true rfl⟩ gX0_leaveOut_X3_length (nA := 0) (by decide +kernel) rfl (rowW_recv ⟨_, rfl⟩) (Nat.le_of_ble_eq_true rfl) ⟨Nat.le_of_ble_eq_true rfl, Nat.le_of_ble_eq_true rfl⟩ [12] [0, 1, 2, 3, 4, 5, 6, 7, 8, 9, 10, 11] (nB := 13) rfl (by decide +kernel) (sh_10 g A d G) (fun r5 w9 hw => ?_)
      obtain ⟨er5, rfl⟩ := hw
      have h := y_letP h er5
      refine ⟨([dayC A d] ++ dayR g A d G : List va_W), ⟨(sh_10 g A d G), rfl, rfl⟩, ?_⟩
      refine y_iconst (v := 1) C dX0_leaveOut_33 (by decide) ?_
      refine y_isub C dX0_leaveOut_34 ?_
      refine y_istore_n (lv' := [(3, .int (r5 - (1 : Int32))), (0, .ref (A 0)), (1, .int ri), (2, .int how)]) C dX0_leaveOut_35 rfl (Nat.le_of_ble_eq_true rfl) rfl ?_
      refine y_sub (lv' := [(0, .ref (A 0)), (1, .int ri), (2, .int how), (3, .int (r5 - (1 : Int32)))]) [1, 2, 3, 0] rfl ?_
      exact hX36 _ _ _ h
    · refine y_aload_n C dX0_leaveOut_22 0 rfl rfl ?_
      refine y_callVv (As := []) (rest := []) C dX0_leaveOut_23 (c_X0_endAtFirst g A d G) rfl rfl rfl rfl ⟨Nat.le_of_ble_eq_true rfl, Nat.le_of_ble_eq_true rfl⟩ gX0_leaveOut_X0_endAtFirst (nA := 0) (by decide +kernel) rfl (sh_18 g A d G) (Nat.le_of_ble_eq_true rfl) ⟨Nat.le_of_ble_eq_true rfl, Nat.le_of_ble_eq_true rfl⟩ [0, 1, 2, 3, 4, 5, 6, 7, 8, 9, 10, 11, 12] [] (nB := 13) rfl (by decide +kernel) (sh_17 g A d G) (fun w9 hw => ?_)
      obtain ⟨d6, G7, e8, rfl⟩ := hw
      have h := y_letP h e8
      refine ⟨([dayC A d6] ++ dayR g A d6 G7 : List va_W), (sh_29 g A d G d6 G7), ?_⟩
      refine y_aload_n C dX0_leaveOut_26 0 rfl rfl ?_
      refine y_get (Cn := RX0) (T := TX0) (N := 15) (v := .ref (A 23)) C dX0_leaveOut_27 hX0_leaveOut_X0 0 (sh_3 g A d6 G7) rfl 11 (Nat.le_of_ble_eq_true rfl) kX0_leaveOut_1 rfl ?_
      refine y_callV (As := []) (rest := []) C dX0_leaveOut_30 (c_X3_length g (A 23) (A 24) 34 (d6.1 11) (G7 11) (by decide)) rfl rfl rfl rfl ⟨Nat.le_of_ble_eq_true rfl, Nat.le_of_ble_eq_true rfl⟩ gX0_leaveOut_X3_length (nA := 0) (by decide +kernel) rfl (rowW_recv ⟨_, rfl⟩) (Nat.le_of_ble_eq_true rfl) ⟨Nat.le_of_ble_eq_true rfl, Nat.le_of_ble_eq_true rfl⟩ [12] [0, 1, 2, 3, 4, 5, 6, 7, 8, 9, 10, 11] (nB := 13) rfl (by decide +kernel) (sh_10 g A d6 G7) (fun r9 w9 hw => ?_)
      obtain ⟨er9, rfl⟩ := hw
      have h := y_letP h er9
      refine ⟨([dayC A d6] ++ dayR g A d6 G7 : List va_W), ⟨(sh_10 g A d6 G7), rfl, rfl⟩, ?_⟩
      refine y_iconst (v := 1) C dX0_leaveOut_33 (by decide) ?_
      refine y_isub C dX0_leaveOut_34 ?_
      refine y_istore_n (lv' := [(3, .int (r9 - (1 : Int32))), (0, .ref (A 0)), (1, .int ri), (2, .int how)]) C dX0_leaveOut_35 rfl (Nat.le_of_ble_eq_true rfl) rfl ?_
      refine y_sub (lv' := [(0, .ref (A 0)), (1, .int ri), (2, .int how), (3, .int (r9 - (1 : Int32)))]) [1, 2, 3, 0] rfl ?_
      exact hX36 _ _ _ h
set_option maxHeartbeats 4000000 in
set_option maxRecDepth 100000 in
theorem c_X0_leaveOut (g : yG) (A : Nat → Nat) (d : RV) (G : Nat → Nat → Int32) (ri : Int32) (how : Int32)  : yMv g yX0_leaveOut wsX0_leaveOut ({ frames := 3, cells := 0, slots := 0, locals := 64 } : Room) [.ref (A 0), .int ri, .int how] ([dayC A d] ++ dayR g A d G : List va_W) (fun w => ∃ d' : RV, ∃ G' : Nat → Nat → Int32, d' = (fLeave d ri how) ∧ w = ([dayC A d'] ++ dayR g A d' G' : List va_W)) 0 0 :=
  yMv_fact (F := dayLen d) (fun A9 hD => dayLen_of (g := g) (A := A) (G := G) (fun x hx => by simp only [List.mem_append, hx, true_or, or_true]) hD) (fun hF => t_X0_leaveOut g A d G ri how (K := (fun (d1 : RV) => d1 = (fLeave d ri how))) (fun d1 G1 e0 => ⟨d1, G1, e0, rfl⟩) (p_X0_leaveOut (by have := hF.2.2.2.2.2.2.2.2.2.2.2; omega)))
end
section
theorem dX0_make_0 : decode cX0_make 0 = .ok (.iload_n 1, 1) := by decide +kernel
theorem dX0_make_1 : decode cX0_make 1 = .ok (.invokestatic 83, 3) := by decide +kernel
theorem dX0_make_4 : decode cX0_make 4 = .ok (.istore_n 3, 1) := by decide +kernel
theorem dX0_make_5 : decode cX0_make 5 = .ok (.aload_n 0, 1) := by decide +kernel
theorem dX0_make_6 : decode cX0_make 6 = .ok (.aload_n 0, 1) := by decide +kernel
theorem dX0_make_7 : decode cX0_make 7 = .ok (.iload_n 1, 1) := by decide +kernel
theorem dX0_make_8 : decode cX0_make 8 = .ok (.invokevirtual 111, 3) := by decide +kernel
theorem dX0_make_11 : decode cX0_make 11 = .ok (.putfield 64, 3) := by decide +kernel
theorem dX0_make_14 : decode cX0_make 14 = .ok (.aload_n 0, 1) := by decide +kernel
theorem dX0_make_15 : decode cX0_make 15 = .ok (.iload_n 2, 1) := by decide +kernel
theorem dX0_make_16 : decode cX0_make 16 = .ok (.aload_n 0, 1) := by decide +kernel
theorem dX0_make_17 : decode cX0_make 17 = .ok (.getfield 14, 3) := by decide +kernel
theorem dX0_make_20 : decode cX0_make 20 = .ok (.iconst 2, 1) := by decide +kernel
theorem dX0_make_21 : decode cX0_make 21 = .ok (.invokevirtual 74, 3) := by decide +kernel
theorem dX0_make_24 : decode cX0_make 24 = .ok (.iadd, 1) := by decide +kernel
theorem dX0_make_25 : decode cX0_make 25 = .ok (.putfield 67, 3) := by decide +kernel
theorem dX0_make_28 : decode cX0_make 28 = .ok (.iload_n 1, 1) := by decide +kernel
theorem dX0_make_29 : decode cX0_make 29 = .ok (.invokestatic 86, 3) := by decide +kernel
theorem dX0_make_32 : decode cX0_make 32 = .ok (.ifCond .eq 24, 3) := by decide +kernel
theorem dX0_make_35 : decode cX0_make 35 = .ok (.aload_n 0, 1) := by decide +kernel
theorem dX0_make_36 : decode cX0_make 36 = .ok (.getfield 47, 3) := by decide +kernel
theorem dX0_make_39 : decode cX0_make 39 = .ok (.iload_n 3, 1) := by decide +kernel
theorem dX0_make_40 : decode cX0_make 40 = .ok (.iload_n 2, 1) := by decide +kernel
theorem dX0_make_41 : decode cX0_make 41 = .ok (.invokevirtual 107, 3) := by decide +kernel
theorem dX0_make_44 : decode cX0_make 44 = .ok (.aload_n 0, 1) := by decide +kernel
theorem dX0_make_45 : decode cX0_make 45 = .ok (.getfield 41, 3) := by decide +kernel
theorem dX0_make_48 : decode cX0_make 48 = .ok (.iload_n 3, 1) := by decide +kernel
theorem dX0_make_49 : decode cX0_make 49 = .ok (.iconst 2, 1) := by decide +kernel
theorem dX0_make_50 : decode cX0_make 50 = .ok (.invokevirtual 107, 3) := by decide +kernel
theorem dX0_make_53 : decode cX0_make 53 = .ok (.goto 21, 3) := by decide +kernel
theorem dX0_make_56 : decode cX0_make 56 = .ok (.aload_n 0, 1) := by decide +kernel
theorem dX0_make_57 : decode cX0_make 57 = .ok (.getfield 44, 3) := by decide +kernel
theorem dX0_make_60 : decode cX0_make 60 = .ok (.iload_n 3, 1) := by decide +kernel
theorem dX0_make_61 : decode cX0_make 61 = .ok (.iload_n 2, 1) := by decide +kernel
theorem dX0_make_62 : decode cX0_make 62 = .ok (.invokevirtual 107, 3) := by decide +kernel
theorem dX0_make_65 : decode cX0_make 65 = .ok (.aload_n 0, 1) := by decide +kernel
theorem dX0_make_66 : decode cX0_make 66 = .ok (.getfield 41, 3) := by decide +kernel
theorem dX0_make_69 : decode cX0_make 69 = .ok (.iload_n 3, 1) := by decide +kernel
theorem dX0_make_70 : decode cX0_make 70 = .ok (.iconst 1, 1) := by decide +kernel
theorem dX0_make_71 : decode cX0_make 71 = .ok (.invokevirtual 107, 3) := by decide +kernel
theorem dX0_make_74 : decode cX0_make 74 = .ok (.return_, 1) := by decide +kernel
set_option maxRecDepth 20000 in
theorem ggX0_make_X6_rideOf : GoodIn wsX0_make wsX6_rideOf := goodIn_r _ [9] (by decide +kernel) (by decide +kernel)
set_option maxRecDepth 20000 in
theorem gX0_make_X6_rideOf_n83 : GoodIn wsX0_make (wsX6_rideOf) := ggX0_make_X6_rideOf
set_option maxRecDepth 20000 in
theorem ggX0_make_X0_stopOf : GoodIn wsX0_make wsX0_stopOf := goodIn_r _ [14, 15, 16, 7, 8, 9, 17, 18, 19, 20, 21, 22, 23, 24, 25, 30, 31, 32, 33, 34, 35, 36, 37, 38, 39, 40, 41, 42, 43, 44, 45, 46] (by decide +kernel) (by decide +kernel)
set_option maxRecDepth 20000 in
theorem gX0_make_X0_stopOf : GoodIn wsX0_make (wsV RX0 111 RX0 yX0_stopOf wsX0_stopOf) := goodIn_app (goodIn_of _ (by decide +kernel)) ggX0_make_X0_stopOf
set_option maxRecDepth 20000 in
theorem ggX0_make_X3_at : GoodIn wsX0_make wsX3_at := goodIn_r _ [23, 24, 25, 45, 46] (by decide +kernel) (by decide +kernel)
set_option maxRecDepth 20000 in
theorem gX0_make_X3_at : GoodIn wsX0_make (wsV RX0 74 RX3 yX3_at wsX3_at) := goodIn_app (goodIn_of _ (by decide +kernel)) ggX0_make_X3_at
set_option maxRecDepth 20000 in
theorem ggX0_make_X6_setsDown : GoodIn wsX0_make wsX6_setsDown := goodIn_r _ [18] (by decide +kernel) (by decide +kernel)
set_option maxRecDepth 20000 in
theorem gX0_make_X6_setsDown_n86 : GoodIn wsX0_make (wsX6_setsDown) := ggX0_make_X6_setsDown
set_option maxRecDepth 20000 in
theorem ggX0_make_X3_change : GoodIn wsX0_make wsX3_change := goodIn_r _ [29, 24, 25, 45, 46] (by decide +kernel) (by decide +kernel)
set_option maxRecDepth 20000 in
theorem gX0_make_X3_change : GoodIn wsX0_make (wsV RX0 107 RX3 yX3_change wsX3_change) := goodIn_app (goodIn_of _ (by decide +kernel)) ggX0_make_X3_change
theorem kX0_make_8 : Cond.initialized RX6 ∈ wsX0_make := List.mem_of_getElem? (i := 8) (by decide +kernel)
theorem kX0_make_7 : Cond.static yX6_rideOf ∈ wsX0_make := List.mem_of_getElem? (i := 7) (by decide +kernel)
theorem kX0_make_1 : Cond.fieldLink RX0 64 "BookedDetours$Day" "busStop" "I" ∈ wsX0_make := List.mem_of_getElem? (i := 1) (by decide +kernel)
theorem kX0_make_2 : Cond.fieldLink RX0 14 "BookedDetours$Day" "settings" "LBookedDetours$Row;" ∈ wsX0_make := List.mem_of_getElem? (i := 2) (by decide +kernel)
theorem kX0_make_3 : Cond.fieldLink RX0 67 "BookedDetours$Day" "busFree" "I" ∈ wsX0_make := List.mem_of_getElem? (i := 3) (by decide +kernel)
theorem kX0_make_17 : Cond.static yX6_setsDown ∈ wsX0_make := List.mem_of_getElem? (i := 17) (by decide +kernel)
theorem kX0_make_6 : Cond.fieldLink RX0 44 "BookedDetours$Day" "picks" "LBookedDetours$Row;" ∈ wsX0_make := List.mem_of_getElem? (i := 6) (by decide +kernel)
theorem kX0_make_5 : Cond.fieldLink RX0 41 "BookedDetours$Day" "stands" "LBookedDetours$Row;" ∈ wsX0_make := List.mem_of_getElem? (i := 5) (by decide +kernel)
theorem kX0_make_4 : Cond.fieldLink RX0 47 "BookedDetours$Day" "downs" "LBookedDetours$Row;" ∈ wsX0_make := List.mem_of_getElem? (i := 4) (by decide +kernel)
theorem hX0_make_X0 : ∀ w ∈ u_ws RX0 TX0 15, w ∈ wsX0_make := fun _ h => List.mem_cons_of_mem _ (List.mem_append_left _ (List.mem_append_right _ h))
set_option maxHeartbeats 4000000 in
set_option maxRecDepth 100000 in
theorem c_X0_make (g : yG) (A : Nat → Nat) (d : RV) (G : Nat → Nat → Int32) (v : Int32) (ti : Int32) : yMv g yX0_make wsX0_make ({ frames := 2, cells := 0, slots := 0, locals := 43 } : Room) [.ref (A 0), .int v, .int ti] ([dayC A d] ++ dayR g A d G : List va_W) (fun w => ∃ d' : RV, ∃ G' : Nat → Nat → Int32, d' = (f_X0_make d v ti) ∧ w = ([dayC A d'] ++ dayR g A d' G' : List va_W)) 0 0 := by
  refine y_entryV (cc := cX0_make) (maxL := 4) (by decide +kernel) rfl (Nat.le_of_ble_eq_true rfl) (fun Z C _ HR => ?_)
  have C : yC Z g cX0_make 4 wsX0_make RX0 := C
  have h := f_X0_make.eq_1 d v ti
  show yJ Z _ 0 0 _ 0 [(0, .ref (A 0)), (1, .int v), (2, .int ti)] []
  refine y_iload_n C dX0_make_0 1 rfl rfl ?_
  refine y_callSN (host := RX6) (As := [.int v]) (rest := []) C dX0_make_1 (c_X6_rideOf g v) rfl rfl rfl rfl ⟨Nat.le_of_ble_eq_true rfl, Nat.le_of_ble_eq_true rfl⟩ gX0_make_X6_rideOf_n83 (List.mem_of_getElem? (i := 4) rfl) kX0_make_8 kX0_make_7 (nA := 1) (by decide +kernel) rfl (Nat.le_of_ble_eq_true rfl) ⟨Nat.le_of_ble_eq_true rfl, Nat.le_of_ble_eq_true rfl⟩ [] [0, 1, 2, 3, 4, 5, 6, 7, 8, 9, 10, 11, 12] (nB := 13) rfl (by decide +kernel) (sh_7 g A d G) (fun r1 w9 hw => ?_)
  obtain ⟨er1, rfl⟩ := hw
  have h := y_letF h er1
  refine ⟨([dayC A d] ++ dayR g A d G : List va_W), ⟨(sh_7 g A d G), rfl, rfl⟩, ?_⟩
  refine y_istore_n (lv' := [(3, .int r1), (0, .ref (A 0)), (1, .int v), (2, .int ti)]) C dX0_make_4 rfl (Nat.le_of_ble_eq_true rfl) rfl ?_
  refine y_aload_n C dX0_make_5 1 rfl rfl ?_
  refine y_aload_n C dX0_make_6 1 rfl rfl ?_
  refine y_iload_n C dX0_make_7 2 rfl rfl ?_
  refine y_callV (As := [.int v]) (rest := [.ref (A 0)]) C dX0_make_8 (c_X0_stopOf g A d G v) rfl rfl rfl rfl ⟨Nat.le_of_ble_eq_true rfl, Nat.le_of_ble_eq_true rfl⟩ gX0_make_X0_stopOf (nA := 1) (by decide +kernel) rfl (sh_18 g A d G) (Nat.le_of_ble_eq_true rfl) ⟨Nat.le_of_ble_eq_true rfl, Nat.le_of_ble_eq_true rfl⟩ [0, 1, 2, 3, 4, 5, 6, 7, 8, 9, 10, 11, 12] [] (nB := 13) rfl (by decide +kernel) (sh_17 g A d G) (fun r2 w9 hw => ?_)
  obtain ⟨er2, rfl⟩ := hw
  have h := y_letF h er2
  refine ⟨([dayC A d] ++ dayR g A d G : List va_W), ⟨(sh_17 g A d G), rfl, rfl⟩, ?_⟩
  obtain ⟨d3, ed3⟩ : ∃ z : RV, z = rvI d 1 r2 := ⟨_, rfl⟩
  have h := y_letF h ed3
  refine y_put (Cn := RX0) (T := TX0) (N := 15) (v := .int r2) (ty0 := tyX0) (L1 := ([dayC A d3] ++ dayR g A d3 G : List va_W)) C dX0_make_11 hX0_make_X0 0 (sh_3 g A d G) rfl 13 (Nat.le_of_ble_eq_true rfl) kX0_make_1 tyX0_ok nmX0 rfl rfl rfl (Nat.le_of_ble_eq_true rfl) (sh_27 g A d G r2 d3 ed3) ?_
  refine y_aload_n C dX0_make_14 1 rfl rfl ?_
  refine y_iload_n C dX0_make_15 3 rfl rfl ?_
  refine y_aload_n C dX0_make_16 1 rfl rfl ?_
  refine y_get (Cn := RX0) (T := TX0) (N := 15) (v := .ref (A 1)) C dX0_make_17 hX0_make_X0 0 (sh_3 g A d3 G) rfl 0 (Nat.le_of_ble_eq_true rfl) kX0_make_2 rfl ?_
  refine y_iconst (v := 2) C dX0_make_20 (by decide) ?_
  refine y_callV (As := [.int (2 : Int32)]) (rest := [.int ti, .ref (A 0)]) C dX0_make_21 (c_X3_at g (A 1) (A 2) 3 (d3.1 0) (G 0) (2 : Int32) (by decide)) rfl rfl rfl rfl ⟨Nat.le_of_ble_eq_true rfl, Nat.le_of_ble_eq_true rfl⟩ gX0_make_X3_at (nA := 1) (by decide +kernel) rfl (rowW_recv ⟨_, rfl⟩) (Nat.le_of_ble_eq_true rfl) ⟨Nat.le_of_ble_eq_true rfl, Nat.le_of_ble_eq_true rfl⟩ [1] [0, 2, 3, 4, 5, 6, 7, 8, 9, 10, 11, 12] (nB := 13) rfl (by decide +kernel) (sh_30 g A d3 G) (fun r4 w9 hw => ?_)
  obtain ⟨er4, rfl⟩ := hw
  have h := y_letF h er4
  refine ⟨([dayC A d3] ++ dayR g A d3 G : List va_W), ⟨(sh_30 g A d3 G), rfl, rfl⟩, ?_⟩
  refine y_iadd C dX0_make_24 ?_
  obtain ⟨d5, ed5⟩ : ∃ z : RV, z = rvI d3 2 (ti + r4) := ⟨_, rfl⟩
  have h := y_letF h ed5
  refine y_put (Cn := RX0) (T := TX0) (N := 15) (v := .int (ti + r4)) (ty0 := tyX0) (L1 := ([dayC A d5] ++ dayR g A d5 G : List va_W)) C dX0_make_25 hX0_make_X0 0 (sh_3 g A d3 G) rfl 14 (Nat.le_of_ble_eq_true rfl) kX0_make_3 tyX0_ok nmX0 rfl rfl rfl (Nat.le_of_ble_eq_true rfl) (sh_26 g A d3 G (ti + r4) d5 ed5) ?_
  refine y_iload_n C dX0_make_28 2 rfl rfl ?_
  refine y_callSN (host := RX6) (As := [.int v]) (rest := []) C dX0_make_29 (c_X6_setsDown g v) rfl rfl rfl rfl ⟨Nat.le_of_ble_eq_true rfl, Nat.le_of_ble_eq_true rfl⟩ gX0_make_X6_setsDown_n86 (List.mem_of_getElem? (i := 5) rfl) kX0_make_8 kX0_make_17 (nA := 1) (by decide +kernel) rfl (Nat.le_of_ble_eq_true rfl) ⟨Nat.le_of_ble_eq_true rfl, Nat.le_of_ble_eq_true rfl⟩ [] [0, 1, 2, 3, 4, 5, 6, 7, 8, 9, 10, 11, 12] (nB := 13) rfl (by decide +kernel) (sh_7 g A d5 G) (fun r6 w9 hw => ?_)
  obtain ⟨er6, rfl⟩ := hw
  have h := y_letF h er6
  refine ⟨([dayC A d5] ++ dayR g A d5 G : List va_W), ⟨(sh_7 g A d5 G), rfl, rfl⟩, ?_⟩
  refine y_if_eq (tgt := 56) C dX0_make_32 rfl (y_e h) (fun c32 h => ?_) (fun c32 h => ?_)
  · refine y_aload_n C dX0_make_56 1 rfl rfl ?_
    refine y_get (Cn := RX0) (T := TX0) (N := 15) (v := .ref (A 19)) C dX0_make_57 hX0_make_X0 0 (sh_3 g A d5 G) rfl 9 (Nat.le_of_ble_eq_true rfl) kX0_make_6 rfl ?_
    refine y_iload_n C dX0_make_60 0 rfl rfl ?_
    refine y_iload_n C dX0_make_61 3 rfl rfl ?_
    refine y_callVv (As := [.int r1, .int ti]) (rest := []) C dX0_make_62 (c_X3_change g (A 19) (A 20) 17 (d5.1 9) (G 9) r1 ti (by decide)) rfl rfl rfl rfl ⟨Nat.le_of_ble_eq_true rfl, Nat.le_of_ble_eq_true rfl⟩ gX0_make_X3_change (nA := 2) (by decide +kernel) rfl (rowW_recv ⟨_, rfl⟩) (Nat.le_of_ble_eq_true rfl) ⟨Nat.le_of_ble_eq_true rfl, Nat.le_of_ble_eq_true rfl⟩ [10] [0, 1, 2, 3, 4, 5, 6, 7, 8, 9, 11, 12] (nB := 13) rfl (by decide +kernel) (sh_22 g A d5 G) (fun w9 hw => ?_)
    obtain ⟨y7, G8, e9, rfl⟩ := hw
    obtain ⟨d10, ed10⟩ : ∃ z : RV, z = rvR d5 9 y7 := ⟨_, rfl⟩
    obtain ⟨G11, eG11⟩ : ∃ z : Nat → Nat → Int32, z = gs G 9 G8 := ⟨_, rfl⟩
    have h := y_letF h (show d10 = rvR d5 9 (rSet (d5.1 9) r1 ti) by rw [ed10, e9])
    refine ⟨([dayC A d10] ++ dayR g A d10 G11 : List va_W), (sh_23 g A d5 G y7 G8 d10 G11 ed10 eG11), ?_⟩
    refine y_aload_n C dX0_make_65 1 rfl rfl ?_
    refine y_get (Cn := RX0) (T := TX0) (N := 15) (v := .ref (A 17)) C dX0_make_66 hX0_make_X0 0 (sh_3 g A d10 G11) rfl 8 (Nat.le_of_ble_eq_true rfl) kX0_make_5 rfl ?_
    refine y_iload_n C dX0_make_69 0 rfl rfl ?_
    refine y_iconst (v := 1) C dX0_make_70 (by decide) ?_
    refine y_callVv (As := [.int r1, .int (1 : Int32)]) (rest := []) C dX0_make_71 (c_X3_change g (A 17) (A 18) 17 (d10.1 8) (G11 8) r1 (1 : Int32) (by decide)) rfl rfl rfl rfl ⟨Nat.le_of_ble_eq_true rfl, Nat.le_of_ble_eq_true rfl⟩ gX0_make_X3_change (nA := 2) (by decide +kernel) rfl (rowW_recv ⟨_, rfl⟩) (Nat.le_of_ble_eq_true rfl) ⟨Nat.le_of_ble_eq_true rfl, Nat.le_of_ble_eq_true rfl⟩ [9] [0, 1, 2, 3, 4, 5, 6, 7, 8, 10, 11, 12] (nB := 13) rfl (by decide +kernel) (sh_5 g A d10 G11) (fun w9 hw => ?_)
    obtain ⟨y12, G13, e14, rfl⟩ := hw
    obtain ⟨d15, ed15⟩ : ∃ z : RV, z = rvR d10 8 y12 := ⟨_, rfl⟩
    obtain ⟨G16, eG16⟩ : ∃ z : Nat → Nat → Int32, z = gs G11 8 G13 := ⟨_, rfl⟩
    have h := y_letF h (show d15 = rvR d10 8 (rSet (d10.1 8) r1 (1 : Int32)) by rw [ed15, e14])
    refine ⟨([dayC A d15] ++ dayR g A d15 G16 : List va_W), (sh_21 g A d10 G11 y12 G13 d15 G16 ed15 eG16), ?_⟩
    exact HR 74 dX0_make_74 _ _ _ _ (Nat.le_of_ble_eq_true rfl) (Nat.le_of_ble_eq_true rfl) ⟨d15, G16, by rw [h], rfl⟩
  · refine y_aload_n C dX0_make_35 1 rfl rfl ?_
    refine y_get (Cn := RX0) (T := TX0) (N := 15) (v := .ref (A 21)) C dX0_make_36 hX0_make_X0 0 (sh_3 g A d5 G) rfl 10 (Nat.le_of_ble_eq_true rfl) kX0_make_4 rfl ?_
    refine y_iload_n C dX0_make_39 0 rfl rfl ?_
    refine y_iload_n C dX0_make_40 3 rfl rfl ?_
    refine y_callVv (As := [.int r1, .int ti]) (rest := []) C dX0_make_41 (c_X3_change g (A 21) (A 22) 17 (d5.1 10) (G 10) r1 ti (by decide)) rfl rfl rfl rfl ⟨Nat.le_of_ble_eq_true rfl, Nat.le_of_ble_eq_true rfl⟩ gX0_make_X3_change (nA := 2) (by decide +kernel) rfl (rowW_recv ⟨_, rfl⟩) (Nat.le_of_ble_eq_true rfl) ⟨Nat.le_of_ble_eq_true rfl, Nat.le_of_ble_eq_true rfl⟩ [11] [0, 1, 2, 3, 4, 5, 6, 7, 8, 9, 10, 12] (nB := 13) rfl (by decide +kernel) (sh_24 g A d5 G) (fun w9 hw => ?_)
    obtain ⟨y17, G18, e19, rfl⟩ := hw
    obtain ⟨d20, ed20⟩ : ∃ z : RV, z = rvR d5 10 y17 := ⟨_, rfl⟩
    obtain ⟨G21, eG21⟩ : ∃ z : Nat → Nat → Int32, z = gs G 10 G18 := ⟨_, rfl⟩
    have h := y_letF h (show d20 = rvR d5 10 (rSet (d5.1 10) r1 ti) by rw [ed20, e19])
    refine ⟨([dayC A d20] ++ dayR g A d20 G21 : List va_W), (sh_25 g A d5 G y17 G18 d20 G21 ed20 eG21), ?_⟩
    refine y_aload_n C dX0_make_44 1 rfl rfl ?_
    refine y_get (Cn := RX0) (T := TX0) (N := 15) (v := .ref (A 17)) C dX0_make_45 hX0_make_X0 0 (sh_3 g A d20 G21) rfl 8 (Nat.le_of_ble_eq_true rfl) kX0_make_5 rfl ?_
    refine y_iload_n C dX0_make_48 0 rfl rfl ?_
    refine y_iconst (v := 2) C dX0_make_49 (by decide) ?_
    refine y_callVv (As := [.int r1, .int (2 : Int32)]) (rest := []) C dX0_make_50 (c_X3_change g (A 17) (A 18) 17 (d20.1 8) (G21 8) r1 (2 : Int32) (by decide)) rfl rfl rfl rfl ⟨Nat.le_of_ble_eq_true rfl, Nat.le_of_ble_eq_true rfl⟩ gX0_make_X3_change (nA := 2) (by decide +kernel) rfl (rowW_recv ⟨_, rfl⟩) (Nat.le_of_ble_eq_true rfl) ⟨Nat.le_of_ble_eq_true rfl, Nat.le_of_ble_eq_true rfl⟩ [9] [0, 1, 2, 3, 4, 5, 6, 7, 8, 10, 11, 12] (nB := 13) rfl (by decide +kernel) (sh_5 g A d20 G21) (fun w9 hw => ?_)
    obtain ⟨y22, G23, e24, rfl⟩ := hw
    obtain ⟨d25, ed25⟩ : ∃ z : RV, z = rvR d20 8 y22 := ⟨_, rfl⟩
    obtain ⟨G26, eG26⟩ : ∃ z : Nat → Nat → Int32, z = gs G21 8 G23 := ⟨_, rfl⟩
    have h := y_letF h (show d25 = rvR d20 8 (rSet (d20.1 8) r1 (2 : Int32)) by rw [ed25, e24])
    refine ⟨([dayC A d25] ++ dayR g A d25 G26 : List va_W), (sh_21 g A d20 G21 y22 G23 d25 G26 ed25 eG26), ?_⟩
    refine y_goto (tgt := 74) C dX0_make_53 rfl ?_
    exact HR 74 dX0_make_74 _ _ _ _ (Nat.le_of_ble_eq_true rfl) (Nat.le_of_ble_eq_true rfl) ⟨d25, G26, by rw [h], rfl⟩
theorem dX0_carryOut_0 : decode cX0_carryOut 0 = .ok (.aload_n 0, 1) := by decide +kernel
theorem dX0_carryOut_1 : decode cX0_carryOut 1 = .ok (.getfield 50, 3) := by decide +kernel
theorem dX0_carryOut_4 : decode cX0_carryOut 4 = .ok (.invokevirtual 70, 3) := by decide +kernel
theorem dX0_carryOut_7 : decode cX0_carryOut 7 = .ok (.istore_n 2, 1) := by decide +kernel
theorem dX0_carryOut_8 : decode cX0_carryOut 8 = .ok (.iconst 0, 1) := by decide +kernel
theorem dX0_carryOut_9 : decode cX0_carryOut 9 = .ok (.istore_n 3, 1) := by decide +kernel
theorem dX0_carryOut_10 : decode cX0_carryOut 10 = .ok (.iload_n 3, 1) := by decide +kernel
theorem dX0_carryOut_11 : decode cX0_carryOut 11 = .ok (.iload_n 2, 1) := by decide +kernel
theorem dX0_carryOut_12 : decode cX0_carryOut 12 = .ok (.if_icmp .ge 52, 3) := by decide +kernel
theorem dX0_carryOut_15 : decode cX0_carryOut 15 = .ok (.aload_n 1, 1) := by decide +kernel
theorem dX0_carryOut_16 : decode cX0_carryOut 16 = .ok (.getfield 114, 3) := by decide +kernel
theorem dX0_carryOut_19 : decode cX0_carryOut 19 = .ok (.iload_n 3, 1) := by decide +kernel
theorem dX0_carryOut_20 : decode cX0_carryOut 20 = .ok (.invokevirtual 74, 3) := by decide +kernel
theorem dX0_carryOut_23 : decode cX0_carryOut 23 = .ok (.istore 4, 2) := by decide +kernel
theorem dX0_carryOut_25 : decode cX0_carryOut 25 = .ok (.iload 4, 2) := by decide +kernel
theorem dX0_carryOut_27 : decode cX0_carryOut 27 = .ok (.aload_n 0, 1) := by decide +kernel
theorem dX0_carryOut_28 : decode cX0_carryOut 28 = .ok (.getfield 60, 3) := by decide +kernel
theorem dX0_carryOut_31 : decode cX0_carryOut 31 = .ok (.if_icmp .lt 5, 3) := by decide +kernel
theorem dX0_carryOut_34 : decode cX0_carryOut 34 = .ok (.iload_n 3, 1) := by decide +kernel
theorem dX0_carryOut_35 : decode cX0_carryOut 35 = .ok (.ireturn, 1) := by decide +kernel
theorem dX0_carryOut_36 : decode cX0_carryOut 36 = .ok (.aload_n 0, 1) := by decide +kernel
theorem dX0_carryOut_37 : decode cX0_carryOut 37 = .ok (.aload_n 0, 1) := by decide +kernel
theorem dX0_carryOut_38 : decode cX0_carryOut 38 = .ok (.getfield 50, 3) := by decide +kernel
theorem dX0_carryOut_41 : decode cX0_carryOut 41 = .ok (.iconst 0, 1) := by decide +kernel
theorem dX0_carryOut_42 : decode cX0_carryOut 42 = .ok (.invokevirtual 74, 3) := by decide +kernel
theorem dX0_carryOut_45 : decode cX0_carryOut 45 = .ok (.iload 4, 2) := by decide +kernel
theorem dX0_carryOut_47 : decode cX0_carryOut 47 = .ok (.invokevirtual 119, 3) := by decide +kernel
theorem dX0_carryOut_50 : decode cX0_carryOut 50 = .ok (.aload_n 0, 1) := by decide +kernel
theorem dX0_carryOut_51 : decode cX0_carryOut 51 = .ok (.getfield 50, 3) := by decide +kernel
theorem dX0_carryOut_54 : decode cX0_carryOut 54 = .ok (.iconst 0, 1) := by decide +kernel
theorem dX0_carryOut_55 : decode cX0_carryOut 55 = .ok (.invokevirtual 104, 3) := by decide +kernel
theorem dX0_carryOut_58 : decode cX0_carryOut 58 = .ok (.iinc 3 1, 3) := by decide +kernel
theorem dX0_carryOut_61 : decode cX0_carryOut 61 = .ok (.goto (-51), 3) := by decide +kernel
theorem dX0_carryOut_64 : decode cX0_carryOut 64 = .ok (.iload_n 2, 1) := by decide +kernel
theorem dX0_carryOut_65 : decode cX0_carryOut 65 = .ok (.ireturn, 1) := by decide +kernel
set_option maxRecDepth 20000 in
theorem ggX0_carryOut_X3_at : GoodIn wsX0_carryOut wsX3_at := goodIn_r _ [13, 9, 14, 70, 71] (by decide +kernel) (by decide +kernel)
set_option maxRecDepth 20000 in
theorem gX0_carryOut_X3_at : GoodIn wsX0_carryOut (wsV RX0 74 RX3 yX3_at wsX3_at) := goodIn_app (goodIn_of _ (by decide +kernel)) ggX0_carryOut_X3_at
set_option maxRecDepth 20000 in
theorem ggX0_carryOut_X0_make : GoodIn wsX0_carryOut wsX0_make := goodIn_r _ [19, 20, 21, 22, 23, 24, 25, 26, 27, 28, 29, 30, 31, 18, 32, 33, 34, 35, 36, 10, 11, 12, 7, 13, 9, 14, 37, 38, 39, 40, 45, 46, 47, 48, 49, 50, 51, 52, 53, 54, 55, 56, 57, 58, 59, 70, 71] (by decide +kernel) (by decide +kernel)
set_option maxRecDepth 20000 in
theorem gX0_carryOut_X0_make : GoodIn wsX0_carryOut (wsV RX0 119 RX0 yX0_make wsX0_make) := goodIn_app (goodIn_of _ (by decide +kernel)) ggX0_carryOut_X0_make
set_option maxRecDepth 20000 in
theorem ggX0_carryOut_X3_remove : GoodIn wsX0_carryOut wsX3_remove := goodIn_r _ [44, 9, 14, 70, 71] (by decide +kernel) (by decide +kernel)
set_option maxRecDepth 20000 in
theorem gX0_carryOut_X3_remove : GoodIn wsX0_carryOut (wsV RX0 104 RX3 yX3_remove wsX3_remove) := goodIn_app (goodIn_of _ (by decide +kernel)) ggX0_carryOut_X3_remove
set_option maxRecDepth 20000 in
theorem ggX0_carryOut_X3_length : GoodIn wsX0_carryOut wsX3_length := goodIn_r _ [8, 9, 70, 71] (by decide +kernel) (by decide +kernel)
set_option maxRecDepth 20000 in
theorem gX0_carryOut_X3_length : GoodIn wsX0_carryOut (wsV RX0 70 RX3 yX3_length wsX3_length) := goodIn_app (goodIn_of _ (by decide +kernel)) ggX0_carryOut_X3_length
theorem kX0_carryOut_2 : Cond.fieldLink RX0 114 "BookedDetours$Timetable" "times" "LBookedDetours$Row;" ∈ wsX0_carryOut := List.mem_of_getElem? (i := 2) (by decide +kernel)
theorem kX0_carryOut_3 : Cond.fieldLink RX0 60 "BookedDetours$Day" "now" "I" ∈ wsX0_carryOut := List.mem_of_getElem? (i := 3) (by decide +kernel)
theorem kX0_carryOut_1 : Cond.fieldLink RX0 50 "BookedDetours$Day" "route" "LBookedDetours$Row;" ∈ wsX0_carryOut := List.mem_of_getElem? (i := 1) (by decide +kernel)
theorem hX0_carryOut_X5 : ∀ w ∈ u_ws RX5 TX5 10, w ∈ wsX0_carryOut := fun _ h => List.mem_cons_of_mem _ (List.mem_append_left _ (List.mem_append_right _ h))
theorem hX0_carryOut_X0 : ∀ w ∈ u_ws RX0 TX0 15, w ∈ wsX0_carryOut := fun _ h => List.mem_cons_of_mem _ (List.mem_append_left _ (List.mem_append_left _ (List.mem_append_right _ h)))
set_option maxHeartbeats 4000000 in
set_option maxRecDepth 100000 in
theorem w_X0_carryOut_10 {Z : yZ} (g : yG) (A : Nat → Nat) (T : Nat → Nat) (t : RV) (GT : Nat → Nat → Int32) (C : yC Z g cX0_carryOut 5 wsX0_carryOut RX0) {post : Int32 → List va_W → Prop} (HR : yRi Z ({ frames := 3, cells := 0, slots := 0, locals := 66 } : Room) cX0_carryOut .int post 0 0) {X10 : RV → Int32 → Int32 → Prop} (hX10 : ∀ (d : RV) (x2 : Int32) (x3 : Int32) (G : Nat → Nat → Int32), X10 d x2 x3 → yJ Z ({ frames := 3, cells := 0, slots := 0, locals := 66 } : Room) 0 0 ([dayC A d, tabC T t] ++ (dayR g A d G ++ tabR g T t GT) : List va_W) 10 [(0, .ref (A 0)), (1, .ref (T 0)), (2, .int x2), (3, .int x3)] []) {K : Int32 → RV → Prop} (hK : ∀ (r0 : Int32) (d : RV) (G : Nat → Nat → Int32), K r0 d → post r0 ([dayC A d, tabC T t] ++ (dayR g A d G ++ tabR g T t GT) : List va_W)) (d : RV) (x2 : Int32) (x3 : Int32) (G : Nat → Nat → Int32) (h : wp_X0_carryOut_10 t X10 K d x2 x3) : yJ Z ({ frames := 3, cells := 0, slots := 0, locals := 66 } : Room) 0 0 ([dayC A d, tabC T t] ++ (dayR g A d G ++ tabR g T t GT) : List va_W) 10 [(0, .ref (A 0)), (1, .ref (T 0)), (2, .int x2), (3, .int x3)] [] := by
  unfold wp_X0_carryOut_10 at h
  refine y_iload_n C dX0_carryOut_10 3 rfl rfl ?_
  refine y_iload_n C dX0_carryOut_11 2 rfl rfl ?_
  refine y_icmp_ge (tgt := 64) C dX0_carryOut_12 rfl h (fun c12 h => ?_) (fun c12 h => ?_)
  · refine y_iload_n C dX0_carryOut_64 2 rfl rfl ?_
    exact HR 65 dX0_carryOut_65 x2 _ _ _ _ (rfl) (Nat.le_of_ble_eq_true rfl) (Nat.le_of_ble_eq_true rfl) (hK _ _ _ h)
  · refine y_aload_n C dX0_carryOut_15 1 rfl rfl ?_
    refine y_get (Cn := RX5) (T := TX5) (N := 10) (v := .ref (T 1)) C dX0_carryOut_16 hX0_carryOut_X5 1 (sh_31 g A d G T t GT) rfl 0 (Nat.le_of_ble_eq_true rfl) kX0_carryOut_2 rfl ?_
    refine y_iload_n C dX0_carryOut_19 3 rfl rfl ?_
    refine y_callV (As := [.int x3]) (rest := []) C dX0_carryOut_20 (c_X3_at g (T 1) (T 2) 34 (t.1 0) (GT 0) x3 (by decide)) rfl rfl rfl rfl ⟨Nat.le_of_ble_eq_true rfl, Nat.le_of_ble_eq_true rfl⟩ gX0_carryOut_X3_at (nA := 1) (by decide +kernel) rfl (rowW_recv ⟨_, rfl⟩) (Nat.le_of_ble_eq_true rfl) ⟨Nat.le_of_ble_eq_true rfl, Nat.le_of_ble_eq_true rfl⟩ [14] [0, 1, 2, 3, 4, 5, 6, 7, 8, 9, 10, 11, 12, 13, 15, 16, 17, 18] (nB := 19) rfl (by decide +kernel) (sh_32 g A d G T t GT) (fun r1 w9 hw => ?_)
    obtain ⟨er1, rfl⟩ := hw
    have h := y_letP h er1
    refine ⟨([dayC A d, tabC T t] ++ (dayR g A d G ++ tabR g T t GT) : List va_W), ⟨(sh_32 g A d G T t GT), rfl, rfl⟩, ?_⟩
    refine y_istore (lv' := [(4, .int r1), (0, .ref (A 0)), (1, .ref (T 0)), (2, .int x2), (3, .int x3)]) C dX0_carryOut_23 (Nat.le_of_ble_eq_true rfl) rfl ?_
    refine y_iload C dX0_carryOut_25 0 rfl ?_
    refine y_aload_n C dX0_carryOut_27 1 rfl rfl ?_
    refine y_get (Cn := RX0) (T := TX0) (N := 15) (v := .int (d.2 0)) C dX0_carryOut_28 hX0_carryOut_X0 0 (sh_33 g A d G T t GT) rfl 12 (Nat.le_of_ble_eq_true rfl) kX0_carryOut_3 rfl ?_
    refine y_icmp_lt (tgt := 36) C dX0_carryOut_31 rfl h (fun c31 h => ?_) (fun c31 h => ?_)
    · refine y_aload_n C dX0_carryOut_36 1 rfl rfl ?_
      refine y_aload_n C dX0_carryOut_37 1 rfl rfl ?_
      refine y_get (Cn := RX0) (T := TX0) (N := 15) (v := .ref (A 23)) C dX0_carryOut_38 hX0_carryOut_X0 0 (sh_33 g A d G T t GT) rfl 11 (Nat.le_of_ble_eq_true rfl) kX0_carryOut_1 rfl ?_
      refine y_iconst (v := 0) C dX0_carryOut_41 (by decide) ?_
      refine y_callV (As := [.int (0 : Int32)]) (rest := [.ref (A 0)]) C dX0_carryOut_42 (c_X3_at g (A 23) (A 24) 34 (d.1 11) (G 11) (0 : Int32) (by decide)) rfl rfl rfl rfl ⟨Nat.le_of_ble_eq_true rfl, Nat.le_of_ble_eq_true rfl⟩ gX0_carryOut_X3_at (nA := 1) (by decide +kernel) rfl (rowW_recv ⟨_, rfl⟩) (Nat.le_of_ble_eq_true rfl) ⟨Nat.le_of_ble_eq_true rfl, Nat.le_of_ble_eq_true rfl⟩ [13] [0, 1, 2, 3, 4, 5, 6, 7, 8, 9, 10, 11, 12, 14, 15, 16, 17, 18] (nB := 19) rfl (by decide +kernel) (sh_34 g A d G T t GT) (fun r2 w9 hw => ?_)
      obtain ⟨er2, rfl⟩ := hw
      have h := y_letP h er2
      refine ⟨([dayC A d, tabC T t] ++ (dayR g A d G ++ tabR g T t GT) : List va_W), ⟨(sh_34 g A d G T t GT), rfl, rfl⟩, ?_⟩
      refine y_iload C dX0_carryOut_45 0 rfl ?_
      refine y_callVv (As := [.int r2, .int r1]) (rest := []) C dX0_carryOut_47 (c_X0_make g A d G r2 r1) rfl rfl rfl rfl ⟨Nat.le_of_ble_eq_true rfl, Nat.le_of_ble_eq_true rfl⟩ gX0_carryOut_X0_make (nA := 2) (by decide +kernel) rfl (sh_18 g A d G) (Nat.le_of_ble_eq_true rfl) ⟨Nat.le_of_ble_eq_true rfl, Nat.le_of_ble_eq_true rfl⟩ [0, 2, 3, 4, 5, 6, 7, 8, 9, 10, 11, 12, 13] [1, 14, 15, 16, 17, 18] (nB := 19) rfl (by decide +kernel) (sh_35 g A d G T t GT) (fun w9 hw => ?_)
      obtain ⟨d3, G4, e5, rfl⟩ := hw
      have h := y_letP h e5
      refine ⟨([dayC A d3, tabC T t] ++ (dayR g A d3 G4 ++ tabR g T t GT) : List va_W), (sh_36 g A d G T t GT d3 G4), ?_⟩
      refine y_aload_n C dX0_carryOut_50 1 rfl rfl ?_
      refine y_get (Cn := RX0) (T := TX0) (N := 15) (v := .ref (A 23)) C dX0_carryOut_51 hX0_carryOut_X0 0 (sh_33 g A d3 G4 T t GT) rfl 11 (Nat.le_of_ble_eq_true rfl) kX0_carryOut_1 rfl ?_
      refine y_iconst (v := 0) C dX0_carryOut_54 (by decide) ?_
      refine y_callVv (As := [.int (0 : Int32)]) (rest := []) C dX0_carryOut_55 (c_X3_remove g (A 23) (A 24) 34 (d3.1 11) (G4 11) (0 : Int32) (by decide)) rfl rfl rfl rfl ⟨Nat.le_of_ble_eq_true rfl, Nat.le_of_ble_eq_true rfl⟩ gX0_carryOut_X3_remove (nA := 1) (by decide +kernel) rfl (rowW_recv ⟨_, rfl⟩) (Nat.le_of_ble_eq_true rfl) ⟨Nat.le_of_ble_eq_true rfl, Nat.le_of_ble_eq_true rfl⟩ [13] [0, 1, 2, 3, 4, 5, 6, 7, 8, 9, 10, 11, 12, 14, 15, 16, 17, 18] (nB := 19) rfl (by decide +kernel) (sh_34 g A d3 G4 T t GT) (fun w9 hw => ?_)
      obtain ⟨y6, G7, e8, rfl⟩ := hw
      obtain ⟨d9, ed9⟩ : ∃ z : RV, z = rvR d3 11 y6 := ⟨_, rfl⟩
      obtain ⟨G10, eG10⟩ : ∃ z : Nat → Nat → Int32, z = gs G4 11 G7 := ⟨_, rfl⟩
      have h := y_letP h (show d9 = rvR d3 11 (rDel (d3.1 11) (0 : Int32)) by rw [ed9, e8])
      refine ⟨([dayC A d9, tabC T t] ++ (dayR g A d9 G10 ++ tabR g T t GT) : List va_W), (sh_37 g A d3 G4 T t GT y6 G7 d9 G10 ed9 eG10), ?_⟩
      refine y_iinc (v := (x3 + (1 : Int32))) (lv' := [(3, .int (x3 + (1 : Int32))), (4, .int r1), (0, .ref (A 0)), (1, .ref (T 0)), (2, .int x2)]) C dX0_carryOut_58 4 rfl rfl (Nat.le_of_ble_eq_true rfl) rfl ?_
      refine y_goto (tgt := 10) C dX0_carryOut_61 rfl ?_
      refine y_sub (lv' := [(0, .ref (A 0)), (1, .ref (T 0)), (2, .int x2), (3, .int (x3 + (1 : Int32)))]) [2, 3, 4, 0] rfl ?_
      exact hX10 _ _ _ _ h
    · refine y_iload_n C dX0_carryOut_34 4 rfl rfl ?_
      exact HR 35 dX0_carryOut_35 x3 _ _ _ _ (rfl) (Nat.le_of_ble_eq_true rfl) (Nat.le_of_ble_eq_true rfl) (hK _ _ _ h)
set_option maxHeartbeats 4000000 in
set_option maxRecDepth 100000 in
theorem l_X0_carryOut {Z : yZ} (g : yG) (A : Nat → Nat) (T : Nat → Nat) (t : RV) (GT : Nat → Nat → Int32) (C : yC Z g cX0_carryOut 5 wsX0_carryOut RX0) {post : Int32 → List va_W → Prop} (HR : yRi Z ({ frames := 3, cells := 0, slots := 0, locals := 66 } : Room) cX0_carryOut .int post 0 0) {K : Int32 → RV → Prop} (hK : ∀ (r0 : Int32) (d : RV) (G : Nat → Nat → Int32), K r0 d → post r0 ([dayC A d, tabC T t] ++ (dayR g A d G ++ tabR g T t GT) : List va_W)) {I10 : Nat → RV → Int32 → Int32 → Prop} (o10 : ∀ (w0 : Nat) (d : RV) (x2 : Int32) (x3 : Int32), I10 w0 d x2 x3 → wp_X0_carryOut_10 t (fun (d9 : RV) (x29 : Int32) (x39 : Int32) => ∃ w9, w9 < w0 ∧ I10 w9 d9 x29 x39) K d x2 x3) : ∀ w0 : Nat, (∀ (d : RV) (x2 : Int32) (x3 : Int32) (G : Nat → Nat → Int32), I10 w0 d x2 x3 → yJ Z ({ frames := 3, cells := 0, slots := 0, locals := 66 } : Room) 0 0 ([dayC A d, tabC T t] ++ (dayR g A d G ++ tabR g T t GT) : List va_W) 10 [(0, .ref (A 0)), (1, .ref (T 0)), (2, .int x2), (3, .int x3)] []) := by
  intro w0
  induction w0 using Nat.strongRecOn with
  | _ w0 ih =>
    exact fun d x2 x3 G hi => w_X0_carryOut_10 g A T t GT C HR (fun d x2 x3 G hq => by obtain ⟨w9, hlt, hi⟩ := hq; exact (ih w9 hlt) d x2 x3 G hi) hK d x2 x3 G (o10 w0 d x2 x3 hi)
set_option maxHeartbeats 4000000 in
set_option maxRecDepth 100000 in
theorem t_X0_carryOut (g : yG) (A : Nat → Nat) (d : RV) (G : Nat → Nat → Int32) (T : Nat → Nat) (t : RV) (GT : Nat → Nat → Int32)  {post : Int32 → List va_W → Prop} {K : Int32 → RV → Prop} (hK : ∀ (r0 : Int32) (d : RV) (G : Nat → Nat → Int32), K r0 d → post r0 ([dayC A d, tabC T t] ++ (dayR g A d G ++ tabR g T t GT) : List va_W)) (hPO : PO_X0_carryOut t K d ) : yM g yX0_carryOut wsX0_carryOut ({ frames := 3, cells := 0, slots := 0, locals := 66 } : Room) [.ref (A 0), .ref (T 0)] ([dayC A d, tabC T t] ++ (dayR g A d G ++ tabR g T t GT) : List va_W) post 0 0 := by
  refine y_entryI (cc := cX0_carryOut) (maxL := 5) (by decide +kernel) rfl (Nat.le_of_ble_eq_true rfl) (fun Z C HR => ?_)
  have C : yC Z g cX0_carryOut 5 wsX0_carryOut RX0 := C
  obtain ⟨I10, o10, h⟩ := hPO
  have hX10 : ∀ (d : RV) (x2 : Int32) (x3 : Int32) (G : Nat → Nat → Int32), (fun (d9 : RV) (x29 : Int32) (x39 : Int32) => ∃ w9, I10 w9 d9 x29 x39) d x2 x3 → yJ Z ({ frames := 3, cells := 0, slots := 0, locals := 66 } : Room) 0 0 ([dayC A d, tabC T t] ++ (dayR g A d G ++ tabR g T t GT) : List va_W) 10 [(0, .ref (A 0)), (1, .ref (T 0)), (2, .int x2), (3, .int x3)] [] := by
    intro d x2 x3 G hq
    obtain ⟨w9, hi⟩ := hq
    exact (l_X0_carryOut g A T t GT C HR hK o10 w9) d x2 x3 G hi
  unfold wp_X0_carryOut_0 at h
  show yJ Z _ 0 0 _ 0 [(0, .ref (A 0)), (1, .ref (T 0))] []
  refine y_aload_n C dX0_carryOut_0 0 rfl rfl ?_
  refine y_get (Cn := RX0) (T := TX0) (N := 15) (v := .ref (A 23)) C dX0_carryOut_1 hX0_carryOut_X0 0 (sh_33 g A d G T t GT) rfl 11 (Nat.le_of_ble_eq_true rfl) kX0_carryOut_1 rfl ?_
  refine y_callV (As := []) (rest := []) C dX0_carryOut_4 (c_X3_length g (A 23) (A 24) 34 (d.1 11) (G 11) (by decide)) rfl rfl rfl rfl ⟨Nat.le_of_ble_eq_true rfl, Nat.le_of_ble_eq_true rfl⟩ gX0_carryOut_X3_length (nA := 0) (by decide +kernel) rfl (rowW_recv ⟨_, rfl⟩) (Nat.le_of_ble_eq_true rfl) ⟨Nat.le_of_ble_eq_true rfl, Nat.le_of_ble_eq_true rfl⟩ [13] [0, 1, 2, 3, 4, 5, 6, 7, 8, 9, 10, 11, 12, 14, 15, 16, 17, 18] (nB := 19) rfl (by decide +kernel) (sh_34 g A d G T t GT) (fun r1 w9 hw => ?_)
  obtain ⟨er1, rfl⟩ := hw
  have h := y_letP h er1
  refine ⟨([dayC A d, tabC T t] ++ (dayR g A d G ++ tabR g T t GT) : List va_W), ⟨(sh_34 g A d G T t GT), rfl, rfl⟩, ?_⟩
  refine y_istore_n (lv' := [(2, .int r1), (0, .ref (A 0)), (1, .ref (T 0))]) C dX0_carryOut_7 rfl (Nat.le_of_ble_eq_true rfl) rfl ?_
  refine y_iconst (v := 0) C dX0_carryOut_8 (by decide) ?_
  refine y_istore_n (lv' := [(3, .int (0 : Int32)), (2, .int r1), (0, .ref (A 0)), (1, .ref (T 0))]) C dX0_carryOut_9 rfl (Nat.le_of_ble_eq_true rfl) rfl ?_
  refine y_sub (lv' := [(0, .ref (A 0)), (1, .ref (T 0)), (2, .int r1), (3, .int (0 : Int32))]) [2, 3, 1, 0] rfl ?_
  exact hX10 _ _ _ _ h
set_option maxHeartbeats 4000000 in
set_option maxRecDepth 100000 in
theorem c_X0_carryOut (g : yG) (A : Nat → Nat) (d : RV) (G : Nat → Nat → Int32) (T : Nat → Nat) (t : RV) (GT : Nat → Nat → Int32)   : yM g yX0_carryOut wsX0_carryOut ({ frames := 3, cells := 0, slots := 0, locals := 66 } : Room) [.ref (A 0), .ref (T 0)] ([dayC A d, tabC T t] ++ (dayR g A d G ++ tabR g T t GT) : List va_W) (fun r w => r = (nI (fCarry t d).1) ∧ ∃ d' : RV, ∃ G' : Nat → Nat → Int32, d' = (fCarry t d).2 ∧ w = ([dayC A d', tabC T t] ++ (dayR g A d' G' ++ tabR g T t GT) : List va_W)) 0 0 :=
  yM_fact (F := dayLen d) (fun A9 hD => dayLen_of (g := g) (A := A) (G := G) (fun x hx => by simp only [List.mem_append, hx, true_or, or_true]) hD) (fun hF => t_X0_carryOut g A d G T t GT  (K := (fun (r1 : Int32) (d1 : RV) => r1 = (nI (fCarry t d).1) ∧ d1 = (fCarry t d).2)) (fun r1 d1 G1 hh => by obtain ⟨e0, e1⟩ := hh; exact ⟨e0, d1, G1, e1, rfl⟩) (p_X0_carryOut (by have := hF.2.2.2.2.2.2.2.2.2.2.2; omega)))
end
section
theorem dX0_copy_0 : decode cX0_copy 0 = .ok (.aload_n 0, 1) := by decide +kernel
theorem dX0_copy_1 : decode cX0_copy 1 = .ok (.getfield 14, 3) := by decide +kernel
theorem dX0_copy_4 : decode cX0_copy 4 = .ok (.aload_n 1, 1) := by decide +kernel
theorem dX0_copy_5 : decode cX0_copy 5 = .ok (.getfield 14, 3) := by decide +kernel
theorem dX0_copy_8 : decode cX0_copy 8 = .ok (.invokevirtual 56, 3) := by decide +kernel
theorem dX0_copy_11 : decode cX0_copy 11 = .ok (.aload_n 0, 1) := by decide +kernel
theorem dX0_copy_12 : decode cX0_copy 12 = .ok (.getfield 20, 3) := by decide +kernel
theorem dX0_copy_15 : decode cX0_copy 15 = .ok (.aload_n 1, 1) := by decide +kernel
theorem dX0_copy_16 : decode cX0_copy 16 = .ok (.getfield 20, 3) := by decide +kernel
theorem dX0_copy_19 : decode cX0_copy 19 = .ok (.invokevirtual 56, 3) := by decide +kernel
theorem dX0_copy_22 : decode cX0_copy 22 = .ok (.aload_n 0, 1) := by decide +kernel
theorem dX0_copy_23 : decode cX0_copy 23 = .ok (.getfield 23, 3) := by decide +kernel
theorem dX0_copy_26 : decode cX0_copy 26 = .ok (.aload_n 1, 1) := by decide +kernel
theorem dX0_copy_27 : decode cX0_copy 27 = .ok (.getfield 23, 3) := by decide +kernel
theorem dX0_copy_30 : decode cX0_copy 30 = .ok (.invokevirtual 56, 3) := by decide +kernel
theorem dX0_copy_33 : decode cX0_copy 33 = .ok (.aload_n 0, 1) := by decide +kernel
theorem dX0_copy_34 : decode cX0_copy 34 = .ok (.getfield 26, 3) := by decide +kernel
theorem dX0_copy_37 : decode cX0_copy 37 = .ok (.aload_n 1, 1) := by decide +kernel
theorem dX0_copy_38 : decode cX0_copy 38 = .ok (.getfield 26, 3) := by decide +kernel
theorem dX0_copy_41 : decode cX0_copy 41 = .ok (.invokevirtual 56, 3) := by decide +kernel
theorem dX0_copy_44 : decode cX0_copy 44 = .ok (.aload_n 0, 1) := by decide +kernel
theorem dX0_copy_45 : decode cX0_copy 45 = .ok (.getfield 29, 3) := by decide +kernel
theorem dX0_copy_48 : decode cX0_copy 48 = .ok (.aload_n 1, 1) := by decide +kernel
theorem dX0_copy_49 : decode cX0_copy 49 = .ok (.getfield 29, 3) := by decide +kernel
theorem dX0_copy_52 : decode cX0_copy 52 = .ok (.invokevirtual 56, 3) := by decide +kernel
theorem dX0_copy_55 : decode cX0_copy 55 = .ok (.aload_n 0, 1) := by decide +kernel
theorem dX0_copy_56 : decode cX0_copy 56 = .ok (.getfield 32, 3) := by decide +kernel
theorem dX0_copy_59 : decode cX0_copy 59 = .ok (.aload_n 1, 1) := by decide +kernel
theorem dX0_copy_60 : decode cX0_copy 60 = .ok (.getfield 32, 3) := by decide +kernel
theorem dX0_copy_63 : decode cX0_copy 63 = .ok (.invokevirtual 56, 3) := by decide +kernel
theorem dX0_copy_66 : decode cX0_copy 66 = .ok (.aload_n 0, 1) := by decide +kernel
theorem dX0_copy_67 : decode cX0_copy 67 = .ok (.getfield 35, 3) := by decide +kernel
theorem dX0_copy_70 : decode cX0_copy 70 = .ok (.aload_n 1, 1) := by decide +kernel
theorem dX0_copy_71 : decode cX0_copy 71 = .ok (.getfield 35, 3) := by decide +kernel
theorem dX0_copy_74 : decode cX0_copy 74 = .ok (.invokevirtual 56, 3) := by decide +kernel
theorem dX0_copy_77 : decode cX0_copy 77 = .ok (.aload_n 0, 1) := by decide +kernel
theorem dX0_copy_78 : decode cX0_copy 78 = .ok (.getfield 38, 3) := by decide +kernel
theorem dX0_copy_81 : decode cX0_copy 81 = .ok (.aload_n 1, 1) := by decide +kernel
theorem dX0_copy_82 : decode cX0_copy 82 = .ok (.getfield 38, 3) := by decide +kernel
theorem dX0_copy_85 : decode cX0_copy 85 = .ok (.invokevirtual 56, 3) := by decide +kernel
theorem dX0_copy_88 : decode cX0_copy 88 = .ok (.aload_n 0, 1) := by decide +kernel
theorem dX0_copy_89 : decode cX0_copy 89 = .ok (.getfield 41, 3) := by decide +kernel
theorem dX0_copy_92 : decode cX0_copy 92 = .ok (.aload_n 1, 1) := by decide +kernel
theorem dX0_copy_93 : decode cX0_copy 93 = .ok (.getfield 41, 3) := by decide +kernel
theorem dX0_copy_96 : decode cX0_copy 96 = .ok (.invokevirtual 56, 3) := by decide +kernel
theorem dX0_copy_99 : decode cX0_copy 99 = .ok (.aload_n 0, 1) := by decide +kernel
theorem dX0_copy_100 : decode cX0_copy 100 = .ok (.getfield 44, 3) := by decide +kernel
theorem dX0_copy_103 : decode cX0_copy 103 = .ok (.aload_n 1, 1) := by decide +kernel
theorem dX0_copy_104 : decode cX0_copy 104 = .ok (.getfield 44, 3) := by decide +kernel
theorem dX0_copy_107 : decode cX0_copy 107 = .ok (.invokevirtual 56, 3) := by decide +kernel
theorem dX0_copy_110 : decode cX0_copy 110 = .ok (.aload_n 0, 1) := by decide +kernel
theorem dX0_copy_111 : decode cX0_copy 111 = .ok (.getfield 47, 3) := by decide +kernel
theorem dX0_copy_114 : decode cX0_copy 114 = .ok (.aload_n 1, 1) := by decide +kernel
theorem dX0_copy_115 : decode cX0_copy 115 = .ok (.getfield 47, 3) := by decide +kernel
theorem dX0_copy_118 : decode cX0_copy 118 = .ok (.invokevirtual 56, 3) := by decide +kernel
theorem dX0_copy_121 : decode cX0_copy 121 = .ok (.aload_n 0, 1) := by decide +kernel
theorem dX0_copy_122 : decode cX0_copy 122 = .ok (.getfield 50, 3) := by decide +kernel
theorem dX0_copy_125 : decode cX0_copy 125 = .ok (.aload_n 1, 1) := by decide +kernel
theorem dX0_copy_126 : decode cX0_copy 126 = .ok (.getfield 50, 3) := by decide +kernel
theorem dX0_copy_129 : decode cX0_copy 129 = .ok (.invokevirtual 56, 3) := by decide +kernel
theorem dX0_copy_132 : decode cX0_copy 132 = .ok (.aload_n 0, 1) := by decide +kernel
theorem dX0_copy_133 : decode cX0_copy 133 = .ok (.aload_n 1, 1) := by decide +kernel
theorem dX0_copy_134 : decode cX0_copy 134 = .ok (.getfield 60, 3) := by decide +kernel
theorem dX0_copy_137 : decode cX0_copy 137 = .ok (.putfield 60, 3) := by decide +kernel
theorem dX0_copy_140 : decode cX0_copy 140 = .ok (.aload_n 0, 1) := by decide +kernel
theorem dX0_copy_141 : decode cX0_copy 141 = .ok (.aload_n 1, 1) := by decide +kernel
theorem dX0_copy_142 : decode cX0_copy 142 = .ok (.getfield 64, 3) := by decide +kernel
theorem dX0_copy_145 : decode cX0_copy 145 = .ok (.putfield 64, 3) := by decide +kernel
theorem dX0_copy_148 : decode cX0_copy 148 = .ok (.aload_n 0, 1) := by decide +kernel
theorem dX0_copy_149 : decode cX0_copy 149 = .ok (.aload_n 1, 1) := by decide +kernel
theorem dX0_copy_150 : decode cX0_copy 150 = .ok (.getfield 67, 3) := by decide +kernel
theorem dX0_copy_153 : decode cX0_copy 153 = .ok (.putfield 67, 3) := by decide +kernel
theorem dX0_copy_156 : decode cX0_copy 156 = .ok (.return_, 1) := by decide +kernel
set_option maxRecDepth 20000 in
theorem ggX0_copy_X3_copy : GoodIn wsX0_copy wsX3_copy := goodIn_r _ [20, 21, 22, 23, 24, 25, 26, 42, 43] (by decide +kernel) (by decide +kernel)
set_option maxRecDepth 20000 in
theorem gX0_copy_X3_copy : GoodIn wsX0_copy (wsV RX0 56 RX3 yX3_copy wsX3_copy) := goodIn_app (goodIn_of _ (by decide +kernel)) ggX0_copy_X3_copy
theorem kX0_copy_1 : Cond.fieldLink RX0 14 "BookedDetours$Day" "settings" "LBookedDetours$Row;" ∈ wsX0_copy := List.mem_of_getElem? (i := 1) (by decide +kernel)
theorem kX0_copy_2 : Cond.fieldLink RX0 20 "BookedDetours$Day" "xs" "LBookedDetours$Row;" ∈ wsX0_copy := List.mem_of_getElem? (i := 2) (by decide +kernel)
theorem kX0_copy_3 : Cond.fieldLink RX0 23 "BookedDetours$Day" "ys" "LBookedDetours$Row;" ∈ wsX0_copy := List.mem_of_getElem? (i := 3) (by decide +kernel)
theorem kX0_copy_4 : Cond.fieldLink RX0 26 "BookedDetours$Day" "froms" "LBookedDetours$Row;" ∈ wsX0_copy := List.mem_of_getElem? (i := 4) (by decide +kernel)
theorem kX0_copy_5 : Cond.fieldLink RX0 29 "BookedDetours$Day" "tos" "LBookedDetours$Row;" ∈ wsX0_copy := List.mem_of_getElem? (i := 5) (by decide +kernel)
theorem kX0_copy_6 : Cond.fieldLink RX0 32 "BookedDetours$Day" "waits" "LBookedDetours$Row;" ∈ wsX0_copy := List.mem_of_getElem? (i := 6) (by decide +kernel)
theorem kX0_copy_7 : Cond.fieldLink RX0 35 "BookedDetours$Day" "bys" "LBookedDetours$Row;" ∈ wsX0_copy := List.mem_of_getElem? (i := 7) (by decide +kernel)
theorem kX0_copy_8 : Cond.fieldLink RX0 38 "BookedDetours$Day" "straights" "LBookedDetours$Row;" ∈ wsX0_copy := List.mem_of_getElem? (i := 8) (by decide +kernel)
theorem kX0_copy_9 : Cond.fieldLink RX0 41 "BookedDetours$Day" "stands" "LBookedDetours$Row;" ∈ wsX0_copy := List.mem_of_getElem? (i := 9) (by decide +kernel)
theorem kX0_copy_10 : Cond.fieldLink RX0 44 "BookedDetours$Day" "picks" "LBookedDetours$Row;" ∈ wsX0_copy := List.mem_of_getElem? (i := 10) (by decide +kernel)
theorem kX0_copy_11 : Cond.fieldLink RX0 47 "BookedDetours$Day" "downs" "LBookedDetours$Row;" ∈ wsX0_copy := List.mem_of_getElem? (i := 11) (by decide +kernel)
theorem kX0_copy_12 : Cond.fieldLink RX0 50 "BookedDetours$Day" "route" "LBookedDetours$Row;" ∈ wsX0_copy := List.mem_of_getElem? (i := 12) (by decide +kernel)
theorem kX0_copy_13 : Cond.fieldLink RX0 60 "BookedDetours$Day" "now" "I" ∈ wsX0_copy := List.mem_of_getElem? (i := 13) (by decide +kernel)
theorem kX0_copy_14 : Cond.fieldLink RX0 64 "BookedDetours$Day" "busStop" "I" ∈ wsX0_copy := List.mem_of_getElem? (i := 14) (by decide +kernel)
theorem kX0_copy_15 : Cond.fieldLink RX0 67 "BookedDetours$Day" "busFree" "I" ∈ wsX0_copy := List.mem_of_getElem? (i := 15) (by decide +kernel)
theorem hX0_copy_X0 : ∀ w ∈ u_ws RX0 TX0 15, w ∈ wsX0_copy := fun _ h => List.mem_cons_of_mem _ (List.mem_append_left _ (List.mem_append_right _ h))
set_option maxHeartbeats 4000000 in
set_option maxRecDepth 100000 in
theorem c_X0_copy (g : yG) (A : Nat → Nat) (d : RV) (G : Nat → Nat → Int32) (B : Nat → Nat) (o : RV) (GB : Nat → Nat → Int32)  : yMv g yX0_copy wsX0_copy ({ frames := 2, cells := 0, slots := 0, locals := 43 } : Room) [.ref (A 0), .ref (B 0)] ([dayC A d, dayC B o] ++ (dayR g A d G ++ dayR g B o GB) : List va_W) (fun w => ∃ d' : RV, ∃ G' : Nat → Nat → Int32, d' = (f_X0_copy d o) ∧ w = ([dayC A d', dayC B o] ++ (dayR g A d' G' ++ dayR g B o GB) : List va_W)) 0 0 := by
  refine y_entryV (cc := cX0_copy) (maxL := 2) (by decide +kernel) rfl (Nat.le_of_ble_eq_true rfl) (fun Z C _ HR => ?_)
  have C : yC Z g cX0_copy 2 wsX0_copy RX0 := C
  have h := f_X0_copy.eq_1 d o
  show yJ Z _ 0 0 _ 0 [(0, .ref (A 0)), (1, .ref (B 0))] []
  refine y_aload_n C dX0_copy_0 0 rfl rfl ?_
  refine y_get (Cn := RX0) (T := TX0) (N := 15) (v := .ref (A 1)) C dX0_copy_1 hX0_copy_X0 0 (sh_38 g A d G B o GB) rfl 0 (Nat.le_of_ble_eq_true rfl) kX0_copy_1 rfl ?_
  refine y_aload_n C dX0_copy_4 1 rfl rfl ?_
  refine y_get (Cn := RX0) (T := TX0) (N := 15) (v := .ref (B 1)) C dX0_copy_5 hX0_copy_X0 1 (sh_39 g A d G B o GB) rfl 0 (Nat.le_of_ble_eq_true rfl) kX0_copy_1 rfl ?_
  refine y_callVv (As := [.ref (B 1)]) (rest := []) C dX0_copy_8 (c_X3_copy g (A 1) (A 2) 3 (d.1 0) (G 0) (B 1) (B 2) 3 (o.1 0) (GB 0) (by decide) (by decide)) rfl rfl rfl rfl ⟨Nat.le_of_ble_eq_true rfl, Nat.le_of_ble_eq_true rfl⟩ gX0_copy_X3_copy (nA := 1) (by decide +kernel) rfl (rowW_recv ⟨_, rfl⟩) (Nat.le_of_ble_eq_true rfl) ⟨Nat.le_of_ble_eq_true rfl, Nat.le_of_ble_eq_true rfl⟩ [2, 14] [0, 1, 3, 4, 5, 6, 7, 8, 9, 10, 11, 12, 13, 15, 16, 17, 18, 19, 20, 21, 22, 23, 24, 25] (nB := 26) rfl (by decide +kernel) (sh_40 g A d G B o GB) (fun w9 hw => ?_)
  obtain ⟨y1, G2, e3, rfl⟩ := hw
  obtain ⟨d4, ed4⟩ : ∃ z : RV, z = rvR d 0 y1 := ⟨_, rfl⟩
  obtain ⟨G5, eG5⟩ : ∃ z : Nat → Nat → Int32, z = gs G 0 G2 := ⟨_, rfl⟩
  have h := y_letF h (show d4 = rvR d 0 (rCopy 3 (o.1 0)) by rw [ed4, e3])
  refine ⟨([dayC A d4, dayC B o] ++ (dayR g A d4 G5 ++ dayR g B o GB) : List va_W), (sh_41 g A d G B o GB y1 G2 d4 G5 ed4 eG5), ?_⟩
  refine y_aload_n C dX0_copy_11 0 rfl rfl ?_
  refine y_get (Cn := RX0) (T := TX0) (N := 15) (v := .ref (A 3)) C dX0_copy_12 hX0_copy_X0 0 (sh_38 g A d4 G5 B o GB) rfl 1 (Nat.le_of_ble_eq_true rfl) kX0_copy_2 rfl ?_
  refine y_aload_n C dX0_copy_15 1 rfl rfl ?_
  refine y_get (Cn := RX0) (T := TX0) (N := 15) (v := .ref (B 3)) C dX0_copy_16 hX0_copy_X0 1 (sh_39 g A d4 G5 B o GB) rfl 1 (Nat.le_of_ble_eq_true rfl) kX0_copy_2 rfl ?_
  refine y_callVv (As := [.ref (B 3)]) (rest := []) C dX0_copy_19 (c_X3_copy g (A 3) (A 4) 12 (d4.1 1) (G5 1) (B 3) (B 4) 12 (o.1 1) (GB 1) (by decide) (by decide)) rfl rfl rfl rfl ⟨Nat.le_of_ble_eq_true rfl, Nat.le_of_ble_eq_true rfl⟩ gX0_copy_X3_copy (nA := 1) (by decide +kernel) rfl (rowW_recv ⟨_, rfl⟩) (Nat.le_of_ble_eq_true rfl) ⟨Nat.le_of_ble_eq_true rfl, Nat.le_of_ble_eq_true rfl⟩ [3, 15] [0, 1, 2, 4, 5, 6, 7, 8, 9, 10, 11, 12, 13, 14, 16, 17, 18, 19, 20, 21, 22, 23, 24, 25] (nB := 26) rfl (by decide +kernel) (sh_42 g A d4 G5 B o GB) (fun w9 hw => ?_)
  obtain ⟨y6, G7, e8, rfl⟩ := hw
  obtain ⟨d9, ed9⟩ : ∃ z : RV, z = rvR d4 1 y6 := ⟨_, rfl⟩
  obtain ⟨G10, eG10⟩ : ∃ z : Nat → Nat → Int32, z = gs G5 1 G7 := ⟨_, rfl⟩
  have h := y_letF h (show d9 = rvR d4 1 (rCopy 12 (o.1 1)) by rw [ed9, e8])
  refine ⟨([dayC A d9, dayC B o] ++ (dayR g A d9 G10 ++ dayR g B o GB) : List va_W), (sh_43 g A d4 G5 B o GB y6 G7 d9 G10 ed9 eG10), ?_⟩
  refine y_aload_n C dX0_copy_22 0 rfl rfl ?_
  refine y_get (Cn := RX0) (T := TX0) (N := 15) (v := .ref (A 5)) C dX0_copy_23 hX0_copy_X0 0 (sh_38 g A d9 G10 B o GB) rfl 2 (Nat.le_of_ble_eq_true rfl) kX0_copy_3 rfl ?_
  refine y_aload_n C dX0_copy_26 1 rfl rfl ?_
  refine y_get (Cn := RX0) (T := TX0) (N := 15) (v := .ref (B 5)) C dX0_copy_27 hX0_copy_X0 1 (sh_39 g A d9 G10 B o GB) rfl 2 (Nat.le_of_ble_eq_true rfl) kX0_copy_3 rfl ?_
  refine y_callVv (As := [.ref (B 5)]) (rest := []) C dX0_copy_30 (c_X3_copy g (A 5) (A 6) 12 (d9.1 2) (G10 2) (B 5) (B 6) 12 (o.1 2) (GB 2) (by decide) (by decide)) rfl rfl rfl rfl ⟨Nat.le_of_ble_eq_true rfl, Nat.le_of_ble_eq_true rfl⟩ gX0_copy_X3_copy (nA := 1) (by decide +kernel) rfl (rowW_recv ⟨_, rfl⟩) (Nat.le_of_ble_eq_true rfl) ⟨Nat.le_of_ble_eq_true rfl, Nat.le_of_ble_eq_true rfl⟩ [4, 16] [0, 1, 2, 3, 5, 6, 7, 8, 9, 10, 11, 12, 13, 14, 15, 17, 18, 19, 20, 21, 22, 23, 24, 25] (nB := 26) rfl (by decide +kernel) (sh_44 g A d9 G10 B o GB) (fun w9 hw => ?_)
  obtain ⟨y11, G12, e13, rfl⟩ := hw
  obtain ⟨d14, ed14⟩ : ∃ z : RV, z = rvR d9 2 y11 := ⟨_, rfl⟩
  obtain ⟨G15, eG15⟩ : ∃ z : Nat → Nat → Int32, z = gs G10 2 G12 := ⟨_, rfl⟩
  have h := y_letF h (show d14 = rvR d9 2 (rCopy 12 (o.1 2)) by rw [ed14, e13])
  refine ⟨([dayC A d14, dayC B o] ++ (dayR g A d14 G15 ++ dayR g B o GB) : List va_W), (sh_45 g A d9 G10 B o GB y11 G12 d14 G15 ed14 eG15), ?_⟩
  refine y_aload_n C dX0_copy_33 0 rfl rfl ?_
  refine y_get (Cn := RX0) (T := TX0) (N := 15) (v := .ref (A 7)) C dX0_copy_34 hX0_copy_X0 0 (sh_38 g A d14 G15 B o GB) rfl 3 (Nat.le_of_ble_eq_true rfl) kX0_copy_4 rfl ?_
  refine y_aload_n C dX0_copy_37 1 rfl rfl ?_
  refine y_get (Cn := RX0) (T := TX0) (N := 15) (v := .ref (B 7)) C dX0_copy_38 hX0_copy_X0 1 (sh_39 g A d14 G15 B o GB) rfl 3 (Nat.le_of_ble_eq_true rfl) kX0_copy_4 rfl ?_
  refine y_callVv (As := [.ref (B 7)]) (rest := []) C dX0_copy_41 (c_X3_copy g (A 7) (A 8) 17 (d14.1 3) (G15 3) (B 7) (B 8) 17 (o.1 3) (GB 3) (by decide) (by decide)) rfl rfl rfl rfl ⟨Nat.le_of_ble_eq_true rfl, Nat.le_of_ble_eq_true rfl⟩ gX0_copy_X3_copy (nA := 1) (by decide +kernel) rfl (rowW_recv ⟨_, rfl⟩) (Nat.le_of_ble_eq_true rfl) ⟨Nat.le_of_ble_eq_true rfl, Nat.le_of_ble_eq_true rfl⟩ [5, 17] [0, 1, 2, 3, 4, 6, 7, 8, 9, 10, 11, 12, 13, 14, 15, 16, 18, 19, 20, 21, 22, 23, 24, 25] (nB := 26) rfl (by decide +kernel) (sh_46 g A d14 G15 B o GB) (fun w9 hw => ?_)
  obtain ⟨y16, G17, e18, rfl⟩ := hw
  obtain ⟨d19, ed19⟩ : ∃ z : RV, z = rvR d14 3 y16 := ⟨_, rfl⟩
  obtain ⟨G20, eG20⟩ : ∃ z : Nat → Nat → Int32, z = gs G15 3 G17 := ⟨_, rfl⟩
  have h := y_letF h (show d19 = rvR d14 3 (rCopy 17 (o.1 3)) by rw [ed19, e18])
  refine ⟨([dayC A d19, dayC B o] ++ (dayR g A d19 G20 ++ dayR g B o GB) : List va_W), (sh_47 g A d14 G15 B o GB y16 G17 d19 G20 ed19 eG20), ?_⟩
  refine y_aload_n C dX0_copy_44 0 rfl rfl ?_
  refine y_get (Cn := RX0) (T := TX0) (N := 15) (v := .ref (A 9)) C dX0_copy_45 hX0_copy_X0 0 (sh_38 g A d19 G20 B o GB) rfl 4 (Nat.le_of_ble_eq_true rfl) kX0_copy_5 rfl ?_
  refine y_aload_n C dX0_copy_48 1 rfl rfl ?_
  refine y_get (Cn := RX0) (T := TX0) (N := 15) (v := .ref (B 9)) C dX0_copy_49 hX0_copy_X0 1 (sh_39 g A d19 G20 B o GB) rfl 4 (Nat.le_of_ble_eq_true rfl) kX0_copy_5 rfl ?_
  refine y_callVv (As := [.ref (B 9)]) (rest := []) C dX0_copy_52 (c_X3_copy g (A 9) (A 10) 17 (d19.1 4) (G20 4) (B 9) (B 10) 17 (o.1 4) (GB 4) (by decide) (by decide)) rfl rfl rfl rfl ⟨Nat.le_of_ble_eq_true rfl, Nat.le_of_ble_eq_true rfl⟩ gX0_copy_X3_copy (nA := 1) (by decide +kernel) rfl (rowW_recv ⟨_, rfl⟩) (Nat.le_of_ble_eq_true rfl) ⟨Nat.le_of_ble_eq_true rfl, Nat.le_of_ble_eq_true rfl⟩ [6, 18] [0, 1, 2, 3, 4, 5, 7, 8, 9, 10, 11, 12, 13, 14, 15, 16, 17, 19, 20, 21, 22, 23, 24, 25] (nB := 26) rfl (by decide +kernel) (sh_48 g A d19 G20 B o GB) (fun w9 hw => ?_)
  obtain ⟨y21, G22, e23, rfl⟩ := hw
  obtain ⟨d24, ed24⟩ : ∃ z : RV, z = rvR d19 4 y21 := ⟨_, rfl⟩
  obtain ⟨G25, eG25⟩ : ∃ z : Nat → Nat → Int32, z = gs G20 4 G22 := ⟨_, rfl⟩
  have h := y_letF h (show d24 = rvR d19 4 (rCopy 17 (o.1 4)) by rw [ed24, e23])
  refine ⟨([dayC A d24, dayC B o] ++ (dayR g A d24 G25 ++ dayR g B o GB) : List va_W), (sh_49 g A d19 G20 B o GB y21 G22 d24 G25 ed24 eG25), ?_⟩
  refine y_aload_n C dX0_copy_55 0 rfl rfl ?_
  refine y_get (Cn := RX0) (T := TX0) (N := 15) (v := .ref (A 11)) C dX0_copy_56 hX0_copy_X0 0 (sh_38 g A d24 G25 B o GB) rfl 5 (Nat.le_of_ble_eq_true rfl) kX0_copy_6 rfl ?_
  refine y_aload_n C dX0_copy_59 1 rfl rfl ?_
  refine y_get (Cn := RX0) (T := TX0) (N := 15) (v := .ref (B 11)) C dX0_copy_60 hX0_copy_X0 1 (sh_39 g A d24 G25 B o GB) rfl 5 (Nat.le_of_ble_eq_true rfl) kX0_copy_6 rfl ?_
  refine y_callVv (As := [.ref (B 11)]) (rest := []) C dX0_copy_63 (c_X3_copy g (A 11) (A 12) 17 (d24.1 5) (G25 5) (B 11) (B 12) 17 (o.1 5) (GB 5) (by decide) (by decide)) rfl rfl rfl rfl ⟨Nat.le_of_ble_eq_true rfl, Nat.le_of_ble_eq_true rfl⟩ gX0_copy_X3_copy (nA := 1) (by decide +kernel) rfl (rowW_recv ⟨_, rfl⟩) (Nat.le_of_ble_eq_true rfl) ⟨Nat.le_of_ble_eq_true rfl, Nat.le_of_ble_eq_true rfl⟩ [7, 19] [0, 1, 2, 3, 4, 5, 6, 8, 9, 10, 11, 12, 13, 14, 15, 16, 17, 18, 20, 21, 22, 23, 24, 25] (nB := 26) rfl (by decide +kernel) (sh_50 g A d24 G25 B o GB) (fun w9 hw => ?_)
  obtain ⟨y26, G27, e28, rfl⟩ := hw
  obtain ⟨d29, ed29⟩ : ∃ z : RV, z = rvR d24 5 y26 := ⟨_, rfl⟩
  obtain ⟨G30, eG30⟩ : ∃ z : Nat → Nat → Int32, z = gs G25 5 G27 := ⟨_, rfl⟩
  have h := y_letF h (show d29 = rvR d24 5 (rCopy 17 (o.1 5)) by rw [ed29, e28])
  refine ⟨([dayC A d29, dayC B o] ++ (dayR g A d29 G30 ++ dayR g B o GB) : List va_W), (sh_51 g A d24 G25 B o GB y26 G27 d29 G30 ed29 eG30), ?_⟩
  refine y_aload_n C dX0_copy_66 0 rfl rfl ?_
  refine y_get (Cn := RX0) (T := TX0) (N := 15) (v := .ref (A 13)) C dX0_copy_67 hX0_copy_X0 0 (sh_38 g A d29 G30 B o GB) rfl 6 (Nat.le_of_ble_eq_true rfl) kX0_copy_7 rfl ?_
  refine y_aload_n C dX0_copy_70 1 rfl rfl ?_
  refine y_get (Cn := RX0) (T := TX0) (N := 15) (v := .ref (B 13)) C dX0_copy_71 hX0_copy_X0 1 (sh_39 g A d29 G30 B o GB) rfl 6 (Nat.le_of_ble_eq_true rfl) kX0_copy_7 rfl ?_
  refine y_callVv (As := [.ref (B 13)]) (rest := []) C dX0_copy_74 (c_X3_copy g (A 13) (A 14) 17 (d29.1 6) (G30 6) (B 13) (B 14) 17 (o.1 6) (GB 6) (by decide) (by decide)) rfl rfl rfl rfl ⟨Nat.le_of_ble_eq_true rfl, Nat.le_of_ble_eq_true rfl⟩ gX0_copy_X3_copy (nA := 1) (by decide +kernel) rfl (rowW_recv ⟨_, rfl⟩) (Nat.le_of_ble_eq_true rfl) ⟨Nat.le_of_ble_eq_true rfl, Nat.le_of_ble_eq_true rfl⟩ [8, 20] [0, 1, 2, 3, 4, 5, 6, 7, 9, 10, 11, 12, 13, 14, 15, 16, 17, 18, 19, 21, 22, 23, 24, 25] (nB := 26) rfl (by decide +kernel) (sh_52 g A d29 G30 B o GB) (fun w9 hw => ?_)
  obtain ⟨y31, G32, e33, rfl⟩ := hw
  obtain ⟨d34, ed34⟩ : ∃ z : RV, z = rvR d29 6 y31 := ⟨_, rfl⟩
  obtain ⟨G35, eG35⟩ : ∃ z : Nat → Nat → Int32, z = gs G30 6 G32 := ⟨_, rfl⟩
  have h := y_letF h (show d34 = rvR d29 6 (rCopy 17 (o.1 6)) by rw [ed34, e33])
  refine ⟨([dayC A d34, dayC B o] ++ (dayR g A d34 G35 ++ dayR g B o GB) : List va_W), (sh_53 g A d29 G30 B o GB y31 G32 d34 G35 ed34 eG35), ?_⟩
  refine y_aload_n C dX0_copy_77 0 rfl rfl ?_
  refine y_get (Cn := RX0) (T := TX0) (N := 15) (v := .ref (A 15)) C dX0_copy_78 hX0_copy_X0 0 (sh_38 g A d34 G35 B o GB) rfl 7 (Nat.le_of_ble_eq_true rfl) kX0_copy_8 rfl ?_
  refine y_aload_n C dX0_copy_81 1 rfl rfl ?_
  refine y_get (Cn := RX0) (T := TX0) (N := 15) (v := .ref (B 15)) C dX0_copy_82 hX0_copy_X0 1 (sh_39 g A d34 G35 B o GB) rfl 7 (Nat.le_of_ble_eq_true rfl) kX0_copy_8 rfl ?_
  refine y_callVv (As := [.ref (B 15)]) (rest := []) C dX0_copy_85 (c_X3_copy g (A 15) (A 16) 17 (d34.1 7) (G35 7) (B 15) (B 16) 17 (o.1 7) (GB 7) (by decide) (by decide)) rfl rfl rfl rfl ⟨Nat.le_of_ble_eq_true rfl, Nat.le_of_ble_eq_true rfl⟩ gX0_copy_X3_copy (nA := 1) (by decide +kernel) rfl (rowW_recv ⟨_, rfl⟩) (Nat.le_of_ble_eq_true rfl) ⟨Nat.le_of_ble_eq_true rfl, Nat.le_of_ble_eq_true rfl⟩ [9, 21] [0, 1, 2, 3, 4, 5, 6, 7, 8, 10, 11, 12, 13, 14, 15, 16, 17, 18, 19, 20, 22, 23, 24, 25] (nB := 26) rfl (by decide +kernel) (sh_54 g A d34 G35 B o GB) (fun w9 hw => ?_)
  obtain ⟨y36, G37, e38, rfl⟩ := hw
  obtain ⟨d39, ed39⟩ : ∃ z : RV, z = rvR d34 7 y36 := ⟨_, rfl⟩
  obtain ⟨G40, eG40⟩ : ∃ z : Nat → Nat → Int32, z = gs G35 7 G37 := ⟨_, rfl⟩
  have h := y_letF h (show d39 = rvR d34 7 (rCopy 17 (o.1 7)) by rw [ed39, e38])
  refine ⟨([dayC A d39, dayC B o] ++ (dayR g A d39 G40 ++ dayR g B o GB) : List va_W), (sh_55 g A d34 G35 B o GB y36 G37 d39 G40 ed39 eG40), ?_⟩
  refine y_aload_n C dX0_copy_88 0 rfl rfl ?_
  refine y_get (Cn := RX0) (T := TX0) (N := 15) (v := .ref (A 17)) C dX0_copy_89 hX0_copy_X0 0 (sh_38 g A d39 G40 B o GB) rfl 8 (Nat.le_of_ble_eq_true rfl) kX0_copy_9 rfl ?_
  refine y_aload_n C dX0_copy_92 1 rfl rfl ?_
  refine y_get (Cn := RX0) (T := TX0) (N := 15) (v := .ref (B 17)) C dX0_copy_93 hX0_copy_X0 1 (sh_39 g A d39 G40 B o GB) rfl 8 (Nat.le_of_ble_eq_true rfl) kX0_copy_9 rfl ?_
  refine y_callVv (As := [.ref (B 17)]) (rest := []) C dX0_copy_96 (c_X3_copy g (A 17) (A 18) 17 (d39.1 8) (G40 8) (B 17) (B 18) 17 (o.1 8) (GB 8) (by decide) (by decide)) rfl rfl rfl rfl ⟨Nat.le_of_ble_eq_true rfl, Nat.le_of_ble_eq_true rfl⟩ gX0_copy_X3_copy (nA := 1) (by decide +kernel) rfl (rowW_recv ⟨_, rfl⟩) (Nat.le_of_ble_eq_true rfl) ⟨Nat.le_of_ble_eq_true rfl, Nat.le_of_ble_eq_true rfl⟩ [10, 22] [0, 1, 2, 3, 4, 5, 6, 7, 8, 9, 11, 12, 13, 14, 15, 16, 17, 18, 19, 20, 21, 23, 24, 25] (nB := 26) rfl (by decide +kernel) (sh_56 g A d39 G40 B o GB) (fun w9 hw => ?_)
  obtain ⟨y41, G42, e43, rfl⟩ := hw
  obtain ⟨d44, ed44⟩ : ∃ z : RV, z = rvR d39 8 y41 := ⟨_, rfl⟩
  obtain ⟨G45, eG45⟩ : ∃ z : Nat → Nat → Int32, z = gs G40 8 G42 := ⟨_, rfl⟩
  have h := y_letF h (show d44 = rvR d39 8 (rCopy 17 (o.1 8)) by rw [ed44, e43])
  refine ⟨([dayC A d44, dayC B o] ++ (dayR g A d44 G45 ++ dayR g B o GB) : List va_W), (sh_57 g A d39 G40 B o GB y41 G42 d44 G45 ed44 eG45), ?_⟩
  refine y_aload_n C dX0_copy_99 0 rfl rfl ?_
  refine y_get (Cn := RX0) (T := TX0) (N := 15) (v := .ref (A 19)) C dX0_copy_100 hX0_copy_X0 0 (sh_38 g A d44 G45 B o GB) rfl 9 (Nat.le_of_ble_eq_true rfl) kX0_copy_10 rfl ?_
  refine y_aload_n C dX0_copy_103 1 rfl rfl ?_
  refine y_get (Cn := RX0) (T := TX0) (N := 15) (v := .ref (B 19)) C dX0_copy_104 hX0_copy_X0 1 (sh_39 g A d44 G45 B o GB) rfl 9 (Nat.le_of_ble_eq_true rfl) kX0_copy_10 rfl ?_
  refine y_callVv (As := [.ref (B 19)]) (rest := []) C dX0_copy_107 (c_X3_copy g (A 19) (A 20) 17 (d44.1 9) (G45 9) (B 19) (B 20) 17 (o.1 9) (GB 9) (by decide) (by decide)) rfl rfl rfl rfl ⟨Nat.le_of_ble_eq_true rfl, Nat.le_of_ble_eq_true rfl⟩ gX0_copy_X3_copy (nA := 1) (by decide +kernel) rfl (rowW_recv ⟨_, rfl⟩) (Nat.le_of_ble_eq_true rfl) ⟨Nat.le_of_ble_eq_true rfl, Nat.le_of_ble_eq_true rfl⟩ [11, 23] [0, 1, 2, 3, 4, 5, 6, 7, 8, 9, 10, 12, 13, 14, 15, 16, 17, 18, 19, 20, 21, 22, 24, 25] (nB := 26) rfl (by decide +kernel) (sh_58 g A d44 G45 B o GB) (fun w9 hw => ?_)
  obtain ⟨y46, G47, e48, rfl⟩ := hw
  obtain ⟨d49, ed49⟩ : ∃ z : RV, z = rvR d44 9 y46 := ⟨_, rfl⟩
  obtain ⟨G50, eG50⟩ : ∃ z : Nat → Nat → Int32, z = gs G45 9 G47 := ⟨_, rfl⟩
  have h := y_letF h (show d49 = rvR d44 9 (rCopy 17 (o.1 9)) by rw [ed49, e48])
  refine ⟨([dayC A d49, dayC B o] ++ (dayR g A d49 G50 ++ dayR g B o GB) : List va_W), (sh_59 g A d44 G45 B o GB y46 G47 d49 G50 ed49 eG50), ?_⟩
  refine y_aload_n C dX0_copy_110 0 rfl rfl ?_
  refine y_get (Cn := RX0) (T := TX0) (N := 15) (v := .ref (A 21)) C dX0_copy_111 hX0_copy_X0 0 (sh_38 g A d49 G50 B o GB) rfl 10 (Nat.le_of_ble_eq_true rfl) kX0_copy_11 rfl ?_
  refine y_aload_n C dX0_copy_114 1 rfl rfl ?_
  refine y_get (Cn := RX0) (T := TX0) (N := 15) (v := .ref (B 21)) C dX0_copy_115 hX0_copy_X0 1 (sh_39 g A d49 G50 B o GB) rfl 10 (Nat.le_of_ble_eq_true rfl) kX0_copy_11 rfl ?_
  refine y_callVv (As := [.ref (B 21)]) (rest := []) C dX0_copy_118 (c_X3_copy g (A 21) (A 22) 17 (d49.1 10) (G50 10) (B 21) (B 22) 17 (o.1 10) (GB 10) (by decide) (by decide)) rfl rfl rfl rfl ⟨Nat.le_of_ble_eq_true rfl, Nat.le_of_ble_eq_true rfl⟩ gX0_copy_X3_copy (nA := 1) (by decide +kernel) rfl (rowW_recv ⟨_, rfl⟩) (Nat.le_of_ble_eq_true rfl) ⟨Nat.le_of_ble_eq_true rfl, Nat.le_of_ble_eq_true rfl⟩ [12, 24] [0, 1, 2, 3, 4, 5, 6, 7, 8, 9, 10, 11, 13, 14, 15, 16, 17, 18, 19, 20, 21, 22, 23, 25] (nB := 26) rfl (by decide +kernel) (sh_60 g A d49 G50 B o GB) (fun w9 hw => ?_)
  obtain ⟨y51, G52, e53, rfl⟩ := hw
  obtain ⟨d54, ed54⟩ : ∃ z : RV, z = rvR d49 10 y51 := ⟨_, rfl⟩
  obtain ⟨G55, eG55⟩ : ∃ z : Nat → Nat → Int32, z = gs G50 10 G52 := ⟨_, rfl⟩
  have h := y_letF h (show d54 = rvR d49 10 (rCopy 17 (o.1 10)) by rw [ed54, e53])
  refine ⟨([dayC A d54, dayC B o] ++ (dayR g A d54 G55 ++ dayR g B o GB) : List va_W), (sh_61 g A d49 G50 B o GB y51 G52 d54 G55 ed54 eG55), ?_⟩
  refine y_aload_n C dX0_copy_121 0 rfl rfl ?_
  refine y_get (Cn := RX0) (T := TX0) (N := 15) (v := .ref (A 23)) C dX0_copy_122 hX0_copy_X0 0 (sh_38 g A d54 G55 B o GB) rfl 11 (Nat.le_of_ble_eq_true rfl) kX0_copy_12 rfl ?_
  refine y_aload_n C dX0_copy_125 1 rfl rfl ?_
  refine y_get (Cn := RX0) (T := TX0) (N := 15) (v := .ref (B 23)) C dX0_copy_126 hX0_copy_X0 1 (sh_39 g A d54 G55 B o GB) rfl 11 (Nat.le_of_ble_eq_true rfl) kX0_copy_12 rfl ?_
  refine y_callVv (As := [.ref (B 23)]) (rest := []) C dX0_copy_129 (c_X3_copy g (A 23) (A 24) 34 (d54.1 11) (G55 11) (B 23) (B 24) 34 (o.1 11) (GB 11) (by decide) (by decide)) rfl rfl rfl rfl ⟨Nat.le_of_ble_eq_true rfl, Nat.le_of_ble_eq_true rfl⟩ gX0_copy_X3_copy (nA := 1) (by decide +kernel) rfl (rowW_recv ⟨_, rfl⟩) (Nat.le_of_ble_eq_true rfl) ⟨Nat.le_of_ble_eq_true rfl, Nat.le_of_ble_eq_true rfl⟩ [13, 25] [0, 1, 2, 3, 4, 5, 6, 7, 8, 9, 10, 11, 12, 14, 15, 16, 17, 18, 19, 20, 21, 22, 23, 24] (nB := 26) rfl (by decide +kernel) (sh_62 g A d54 G55 B o GB) (fun w9 hw => ?_)
  obtain ⟨y56, G57, e58, rfl⟩ := hw
  obtain ⟨d59, ed59⟩ : ∃ z : RV, z = rvR d54 11 y56 := ⟨_, rfl⟩
  obtain ⟨G60, eG60⟩ : ∃ z : Nat → Nat → Int32, z = gs G55 11 G57 := ⟨_, rfl⟩
  have h := y_letF h (show d59 = rvR d54 11 (rCopy 34 (o.1 11)) by rw [ed59, e58])
  refine ⟨([dayC A d59, dayC B o] ++ (dayR g A d59 G60 ++ dayR g B o GB) : List va_W), (sh_63 g A d54 G55 B o GB y56 G57 d59 G60 ed59 eG60), ?_⟩
  refine y_aload_n C dX0_copy_132 0 rfl rfl ?_
  refine y_aload_n C dX0_copy_133 1 rfl rfl ?_
  refine y_get (Cn := RX0) (T := TX0) (N := 15) (v := .int (o.2 0)) C dX0_copy_134 hX0_copy_X0 1 (sh_39 g A d59 G60 B o GB) rfl 12 (Nat.le_of_ble_eq_true rfl) kX0_copy_13 rfl ?_
  obtain ⟨d61, ed61⟩ : ∃ z : RV, z = rvI d59 0 (o.2 0) := ⟨_, rfl⟩
  have h := y_letF h ed61
  refine y_put (Cn := RX0) (T := TX0) (N := 15) (v := .int (o.2 0)) (ty0 := tyX0) (L1 := ([dayC A d61, dayC B o] ++ (dayR g A d61 G60 ++ dayR g B o GB) : List va_W)) C dX0_copy_137 hX0_copy_X0 0 (sh_38 g A d59 G60 B o GB) rfl 12 (Nat.le_of_ble_eq_true rfl) kX0_copy_13 tyX0_ok nmX0 rfl rfl rfl (Nat.le_of_ble_eq_true rfl) (sh_64 g A d59 G60 B o GB (o.2 0) d61 ed61) ?_
  refine y_aload_n C dX0_copy_140 0 rfl rfl ?_
  refine y_aload_n C dX0_copy_141 1 rfl rfl ?_
  refine y_get (Cn := RX0) (T := TX0) (N := 15) (v := .int (o.2 1)) C dX0_copy_142 hX0_copy_X0 1 (sh_39 g A d61 G60 B o GB) rfl 13 (Nat.le_of_ble_eq_true rfl) kX0_copy_14 rfl ?_
  obtain ⟨d62, ed62⟩ : ∃ z : RV, z = rvI d61 1 (o.2 1) := ⟨_, rfl⟩
  have h := y_letF h ed62
  refine y_put (Cn := RX0) (T := TX0) (N := 15) (v := .int (o.2 1)) (ty0 := tyX0) (L1 := ([dayC A d62, dayC B o] ++ (dayR g A d62 G60 ++ dayR g B o GB) : List va_W)) C dX0_copy_145 hX0_copy_X0 0 (sh_38 g A d61 G60 B o GB) rfl 13 (Nat.le_of_ble_eq_true rfl) kX0_copy_14 tyX0_ok nmX0 rfl rfl rfl (Nat.le_of_ble_eq_true rfl) (sh_65 g A d61 G60 B o GB (o.2 1) d62 ed62) ?_
  refine y_aload_n C dX0_copy_148 0 rfl rfl ?_
  refine y_aload_n C dX0_copy_149 1 rfl rfl ?_
  refine y_get (Cn := RX0) (T := TX0) (N := 15) (v := .int (o.2 2)) C dX0_copy_150 hX0_copy_X0 1 (sh_39 g A d62 G60 B o GB) rfl 14 (Nat.le_of_ble_eq_true rfl) kX0_copy_15 rfl ?_
  obtain ⟨d63, ed63⟩ : ∃ z : RV, z = rvI d62 2 (o.2 2) := ⟨_, rfl⟩
  have h := y_letF h ed63
  refine y_put (Cn := RX0) (T := TX0) (N := 15) (v := .int (o.2 2)) (ty0 := tyX0) (L1 := ([dayC A d63, dayC B o] ++ (dayR g A d63 G60 ++ dayR g B o GB) : List va_W)) C dX0_copy_153 hX0_copy_X0 0 (sh_38 g A d62 G60 B o GB) rfl 14 (Nat.le_of_ble_eq_true rfl) kX0_copy_15 tyX0_ok nmX0 rfl rfl rfl (Nat.le_of_ble_eq_true rfl) (sh_66 g A d62 G60 B o GB (o.2 2) d63 ed63) ?_
  exact HR 156 dX0_copy_156 _ _ _ _ (Nat.le_of_ble_eq_true rfl) (Nat.le_of_ble_eq_true rfl) ⟨d63, G60, by rw [h], rfl⟩
end
section
theorem dX5_begin_0 : decode cX5_begin 0 = .ok (.aload_n 0, 1) := by decide +kernel
theorem dX5_begin_1 : decode cX5_begin 1 = .ok (.getfield 14, 3) := by decide +kernel
theorem dX5_begin_4 : decode cX5_begin 4 = .ok (.invokevirtual 53, 3) := by decide +kernel
theorem dX5_begin_7 : decode cX5_begin 7 = .ok (.aload_n 0, 1) := by decide +kernel
theorem dX5_begin_8 : decode cX5_begin 8 = .ok (.getfield 20, 3) := by decide +kernel
theorem dX5_begin_11 : decode cX5_begin 11 = .ok (.invokevirtual 53, 3) := by decide +kernel
theorem dX5_begin_14 : decode cX5_begin 14 = .ok (.aload_n 0, 1) := by decide +kernel
theorem dX5_begin_15 : decode cX5_begin 15 = .ok (.getfield 23, 3) := by decide +kernel
theorem dX5_begin_18 : decode cX5_begin 18 = .ok (.invokevirtual 53, 3) := by decide +kernel
theorem dX5_begin_21 : decode cX5_begin 21 = .ok (.aload_n 0, 1) := by decide +kernel
theorem dX5_begin_22 : decode cX5_begin 22 = .ok (.getfield 26, 3) := by decide +kernel
theorem dX5_begin_25 : decode cX5_begin 25 = .ok (.aload_n 1, 1) := by decide +kernel
theorem dX5_begin_26 : decode cX5_begin 26 = .ok (.getfield 56, 3) := by decide +kernel
theorem dX5_begin_29 : decode cX5_begin 29 = .ok (.invokevirtual 57, 3) := by decide +kernel
theorem dX5_begin_32 : decode cX5_begin 32 = .ok (.aload_n 0, 1) := by decide +kernel
theorem dX5_begin_33 : decode cX5_begin 33 = .ok (.getfield 29, 3) := by decide +kernel
theorem dX5_begin_36 : decode cX5_begin 36 = .ok (.aload_n 1, 1) := by decide +kernel
theorem dX5_begin_37 : decode cX5_begin 37 = .ok (.getfield 61, 3) := by decide +kernel
theorem dX5_begin_40 : decode cX5_begin 40 = .ok (.invokevirtual 57, 3) := by decide +kernel
theorem dX5_begin_43 : decode cX5_begin 43 = .ok (.aload_n 0, 1) := by decide +kernel
theorem dX5_begin_44 : decode cX5_begin 44 = .ok (.aload_n 1, 1) := by decide +kernel
theorem dX5_begin_45 : decode cX5_begin 45 = .ok (.getfield 62, 3) := by decide +kernel
theorem dX5_begin_48 : decode cX5_begin 48 = .ok (.putfield 66, 3) := by decide +kernel
theorem dX5_begin_51 : decode cX5_begin 51 = .ok (.aload_n 0, 1) := by decide +kernel
theorem dX5_begin_52 : decode cX5_begin 52 = .ok (.aload_n 1, 1) := by decide +kernel
theorem dX5_begin_53 : decode cX5_begin 53 = .ok (.getfield 69, 3) := by decide +kernel
theorem dX5_begin_56 : decode cX5_begin 56 = .ok (.putfield 72, 3) := by decide +kernel
theorem dX5_begin_59 : decode cX5_begin 59 = .ok (.aload_n 0, 1) := by decide +kernel
theorem dX5_begin_60 : decode cX5_begin 60 = .ok (.aload_n 1, 1) := by decide +kernel
theorem dX5_begin_61 : decode cX5_begin 61 = .ok (.iconst 1, 1) := by decide +kernel
theorem dX5_begin_62 : decode cX5_begin 62 = .ok (.invokevirtual 75, 3) := by decide +kernel
theorem dX5_begin_65 : decode cX5_begin 65 = .ok (.putfield 78, 3) := by decide +kernel
theorem dX5_begin_68 : decode cX5_begin 68 = .ok (.aload_n 0, 1) := by decide +kernel
theorem dX5_begin_69 : decode cX5_begin 69 = .ok (.iconst 0, 1) := by decide +kernel
theorem dX5_begin_70 : decode cX5_begin 70 = .ok (.putfield 81, 3) := by decide +kernel
theorem dX5_begin_73 : decode cX5_begin 73 = .ok (.aload_n 0, 1) := by decide +kernel
theorem dX5_begin_74 : decode cX5_begin 74 = .ok (.iconst 0, 1) := by decide +kernel
theorem dX5_begin_75 : decode cX5_begin 75 = .ok (.putfield 84, 3) := by decide +kernel
theorem dX5_begin_78 : decode cX5_begin 78 = .ok (.return_, 1) := by decide +kernel
set_option maxRecDepth 20000 in
theorem ggX5_begin_X3_clear : GoodIn wsX5_begin wsX3_clear := goodIn_r _ [19, 20, 69, 70] (by decide +kernel) (by decide +kernel)
set_option maxRecDepth 20000 in
theorem gX5_begin_X3_clear : GoodIn wsX5_begin (wsV RX5 53 RX3 yX3_clear wsX3_clear) := goodIn_app (goodIn_of _ (by decide +kernel)) ggX5_begin_X3_clear
set_option maxRecDepth 20000 in
theorem ggX5_begin_X3_copy : GoodIn wsX5_begin wsX3_copy := goodIn_r _ [24, 20, 25, 26, 27, 28, 29, 69, 70] (by decide +kernel) (by decide +kernel)
set_option maxRecDepth 20000 in
theorem gX5_begin_X3_copy : GoodIn wsX5_begin (wsV RX5 57 RX3 yX3_copy wsX3_copy) := goodIn_app (goodIn_of _ (by decide +kernel)) ggX5_begin_X3_copy
set_option maxRecDepth 20000 in
theorem ggX5_begin_X0_ridesThatStand : GoodIn wsX5_begin wsX0_ridesThatStand := goodIn_r _ [34, 35, 36, 37, 38, 18, 39, 20, 40, 41, 42, 43, 25, 54, 55, 56, 57, 58, 59, 60, 61, 62, 63, 64, 65, 66, 67, 68, 69, 70] (by decide +kernel) (by decide +kernel)
set_option maxRecDepth 20000 in
theorem gX5_begin_X0_ridesThatStand : GoodIn wsX5_begin (wsV RX5 75 RX0 yX0_ridesThatStand wsX0_ridesThatStand) := goodIn_app (goodIn_of _ (by decide +kernel)) ggX5_begin_X0_ridesThatStand
theorem kX5_begin_1 : Cond.fieldLink RX5 14 "BookedDetours$Timetable" "times" "LBookedDetours$Row;" ∈ wsX5_begin := List.mem_of_getElem? (i := 1) (by decide +kernel)
theorem kX5_begin_2 : Cond.fieldLink RX5 20 "BookedDetours$Timetable" "loads" "LBookedDetours$Row;" ∈ wsX5_begin := List.mem_of_getElem? (i := 2) (by decide +kernel)
theorem kX5_begin_3 : Cond.fieldLink RX5 23 "BookedDetours$Timetable" "delays" "LBookedDetours$Row;" ∈ wsX5_begin := List.mem_of_getElem? (i := 3) (by decide +kernel)
theorem kX5_begin_4 : Cond.fieldLink RX5 26 "BookedDetours$Timetable" "picks" "LBookedDetours$Row;" ∈ wsX5_begin := List.mem_of_getElem? (i := 4) (by decide +kernel)
theorem kX5_begin_5 : Cond.fieldLink RX5 56 "BookedDetours$Day" "picks" "LBookedDetours$Row;" ∈ wsX5_begin := List.mem_of_getElem? (i := 5) (by decide +kernel)
theorem kX5_begin_6 : Cond.fieldLink RX5 29 "BookedDetours$Timetable" "downs" "LBookedDetours$Row;" ∈ wsX5_begin := List.mem_of_getElem? (i := 6) (by decide +kernel)
theorem kX5_begin_7 : Cond.fieldLink RX5 61 "BookedDetours$Day" "downs" "LBookedDetours$Row;" ∈ wsX5_begin := List.mem_of_getElem? (i := 7) (by decide +kernel)
theorem kX5_begin_8 : Cond.fieldLink RX5 62 "BookedDetours$Day" "busStop" "I" ∈ wsX5_begin := List.mem_of_getElem? (i := 8) (by decide +kernel)
theorem kX5_begin_9 : Cond.fieldLink RX5 66 "BookedDetours$Timetable" "stop" "I" ∈ wsX5_begin := List.mem_of_getElem? (i := 9) (by decide +kernel)
theorem kX5_begin_10 : Cond.fieldLink RX5 69 "BookedDetours$Day" "busFree" "I" ∈ wsX5_begin := List.mem_of_getElem? (i := 10) (by decide +kernel)
theorem kX5_begin_11 : Cond.fieldLink RX5 72 "BookedDetours$Timetable" "free" "I" ∈ wsX5_begin := List.mem_of_getElem? (i := 11) (by decide +kernel)
theorem kX5_begin_12 : Cond.fieldLink RX5 78 "BookedDetours$Timetable" "aboard" "I" ∈ wsX5_begin := List.mem_of_getElem? (i := 12) (by decide +kernel)
theorem kX5_begin_13 : Cond.fieldLink RX5 81 "BookedDetours$Timetable" "driving" "I" ∈ wsX5_begin := List.mem_of_getElem? (i := 13) (by decide +kernel)
theorem kX5_begin_14 : Cond.fieldLink RX5 84 "BookedDetours$Timetable" "waiting" "I" ∈ wsX5_begin := List.mem_of_getElem? (i := 14) (by decide +kernel)
theorem hX5_begin_X5 : ∀ w ∈ u_ws RX5 TX5 10, w ∈ wsX5_begin := fun _ h => List.mem_cons_of_mem _ (List.mem_append_left _ (List.mem_append_left _ (List.mem_append_right _ h)))
theorem hX5_begin_X0 : ∀ w ∈ u_ws RX0 TX0 15, w ∈ wsX5_begin := fun _ h => List.mem_cons_of_mem _ (List.mem_append_left _ (List.mem_append_right _ h))
set_option maxHeartbeats 4000000 in
set_option maxRecDepth 100000 in
theorem c_X5_begin (g : yG) (T : Nat → Nat) (t : RV) (GT : Nat → Nat → Int32) (A : Nat → Nat) (d : RV) (G : Nat → Nat → Int32)  : yMv g yX5_begin wsX5_begin ({ frames := 2, cells := 0, slots := 0, locals := 44 } : Room) [.ref (T 0), .ref (A 0)] ([tabC T t, dayC A d] ++ (tabR g T t GT ++ dayR g A d G) : List va_W) (fun w => ∃ t' : RV, ∃ GT' : Nat → Nat → Int32, t' = (f_X5_begin t d) ∧ w = ([tabC T t', dayC A d] ++ (tabR g T t' GT' ++ dayR g A d G) : List va_W)) 0 0 := by
  refine y_entryV (cc := cX5_begin) (maxL := 2) (by decide +kernel) rfl (Nat.le_of_ble_eq_true rfl) (fun Z C _ HR => ?_)
  have C : yC Z g cX5_begin 2 wsX5_begin RX5 := C
  have h := f_X5_begin.eq_1 t d
  show yJ Z _ 0 0 _ 0 [(0, .ref (T 0)), (1, .ref (A 0))] []
  refine y_aload_n C dX5_begin_0 0 rfl rfl ?_
  refine y_get (Cn := RX5) (T := TX5) (N := 10) (v := .ref (T 1)) C dX5_begin_1 hX5_begin_X5 0 (sh_67 g T t GT A d G) rfl 0 (Nat.le_of_ble_eq_true rfl) kX5_begin_1 rfl ?_
  refine y_callVv (As := []) (rest := []) C dX5_begin_4 (c_X3_clear g (T 1) (T 2) 34 (t.1 0) (GT 0) (by decide)) rfl rfl rfl rfl ⟨Nat.le_of_ble_eq_true rfl, Nat.le_of_ble_eq_true rfl⟩ gX5_begin_X3_clear (nA := 0) (by decide +kernel) rfl (rowW_recv ⟨_, rfl⟩) (Nat.le_of_ble_eq_true rfl) ⟨Nat.le_of_ble_eq_true rfl, Nat.le_of_ble_eq_true rfl⟩ [2] [0, 1, 3, 4, 5, 6, 7, 8, 9, 10, 11, 12, 13, 14, 15, 16, 17, 18] (nB := 19) rfl (by decide +kernel) (sh_68 g T t GT A d G) (fun w9 hw => ?_)
  obtain ⟨y1, G2, e3, rfl⟩ := hw
  obtain ⟨t4, et4⟩ : ∃ z : RV, z = rvR t 0 y1 := ⟨_, rfl⟩
  obtain ⟨G5, eG5⟩ : ∃ z : Nat → Nat → Int32, z = gs GT 0 G2 := ⟨_, rfl⟩
  have h := y_letF h (show t4 = rvR t 0 ([]) by rw [et4, e3])
  refine ⟨([tabC T t4, dayC A d] ++ (tabR g T t4 G5 ++ dayR g A d G) : List va_W), (sh_69 g T t GT A d G y1 G2 t4 G5 et4 eG5), ?_⟩
  refine y_aload_n C dX5_begin_7 0 rfl rfl ?_
  refine y_get (Cn := RX5) (T := TX5) (N := 10) (v := .ref (T 3)) C dX5_begin_8 hX5_begin_X5 0 (sh_67 g T t4 G5 A d G) rfl 1 (Nat.le_of_ble_eq_true rfl) kX5_begin_2 rfl ?_
  refine y_callVv (As := []) (rest := []) C dX5_begin_11 (c_X3_clear g (T 3) (T 4) 34 (t4.1 1) (G5 1) (by decide)) rfl rfl rfl rfl ⟨Nat.le_of_ble_eq_true rfl, Nat.le_of_ble_eq_true rfl⟩ gX5_begin_X3_clear (nA := 0) (by decide +kernel) rfl (rowW_recv ⟨_, rfl⟩) (Nat.le_of_ble_eq_true rfl) ⟨Nat.le_of_ble_eq_true rfl, Nat.le_of_ble_eq_true rfl⟩ [3] [0, 1, 2, 4, 5, 6, 7, 8, 9, 10, 11, 12, 13, 14, 15, 16, 17, 18] (nB := 19) rfl (by decide +kernel) (sh_70 g T t4 G5 A d G) (fun w9 hw => ?_)
  obtain ⟨y6, G7, e8, rfl⟩ := hw
  obtain ⟨t9, et9⟩ : ∃ z : RV, z = rvR t4 1 y6 := ⟨_, rfl⟩
  obtain ⟨G10, eG10⟩ : ∃ z : Nat → Nat → Int32, z = gs G5 1 G7 := ⟨_, rfl⟩
  have h := y_letF h (show t9 = rvR t4 1 ([]) by rw [et9, e8])
  refine ⟨([tabC T t9, dayC A d] ++ (tabR g T t9 G10 ++ dayR g A d G) : List va_W), (sh_71 g T t4 G5 A d G y6 G7 t9 G10 et9 eG10), ?_⟩
  refine y_aload_n C dX5_begin_14 0 rfl rfl ?_
  refine y_get (Cn := RX5) (T := TX5) (N := 10) (v := .ref (T 5)) C dX5_begin_15 hX5_begin_X5 0 (sh_67 g T t9 G10 A d G) rfl 2 (Nat.le_of_ble_eq_true rfl) kX5_begin_3 rfl ?_
  refine y_callVv (As := []) (rest := []) C dX5_begin_18 (c_X3_clear g (T 5) (T 6) 34 (t9.1 2) (G10 2) (by decide)) rfl rfl rfl rfl ⟨Nat.le_of_ble_eq_true rfl, Nat.le_of_ble_eq_true rfl⟩ gX5_begin_X3_clear (nA := 0) (by decide +kernel) rfl (rowW_recv ⟨_, rfl⟩) (Nat.le_of_ble_eq_true rfl) ⟨Nat.le_of_ble_eq_true rfl, Nat.le_of_ble_eq_true rfl⟩ [4] [0, 1, 2, 3, 5, 6, 7, 8, 9, 10, 11, 12, 13, 14, 15, 16, 17, 18] (nB := 19) rfl (by decide +kernel) (sh_72 g T t9 G10 A d G) (fun w9 hw => ?_)
  obtain ⟨y11, G12, e13, rfl⟩ := hw
  obtain ⟨t14, et14⟩ : ∃ z : RV, z = rvR t9 2 y11 := ⟨_, rfl⟩
  obtain ⟨G15, eG15⟩ : ∃ z : Nat → Nat → Int32, z = gs G10 2 G12 := ⟨_, rfl⟩
  have h := y_letF h (show t14 = rvR t9 2 ([]) by rw [et14, e13])
  refine ⟨([tabC T t14, dayC A d] ++ (tabR g T t14 G15 ++ dayR g A d G) : List va_W), (sh_73 g T t9 G10 A d G y11 G12 t14 G15 et14 eG15), ?_⟩
  refine y_aload_n C dX5_begin_21 0 rfl rfl ?_
  refine y_get (Cn := RX5) (T := TX5) (N := 10) (v := .ref (T 7)) C dX5_begin_22 hX5_begin_X5 0 (sh_67 g T t14 G15 A d G) rfl 3 (Nat.le_of_ble_eq_true rfl) kX5_begin_4 rfl ?_
  refine y_aload_n C dX5_begin_25 1 rfl rfl ?_
  refine y_get (Cn := RX0) (T := TX0) (N := 15) (v := .ref (A 19)) C dX5_begin_26 hX5_begin_X0 1 (sh_74 g T t14 G15 A d G) rfl 9 (Nat.le_of_ble_eq_true rfl) kX5_begin_5 rfl ?_
  refine y_callVv (As := [.ref (A 19)]) (rest := []) C dX5_begin_29 (c_X3_copy g (T 7) (T 8) 17 (t14.1 3) (G15 3) (A 19) (A 20) 17 (d.1 9) (G 9) (by decide) (by decide)) rfl rfl rfl rfl ⟨Nat.le_of_ble_eq_true rfl, Nat.le_of_ble_eq_true rfl⟩ gX5_begin_X3_copy (nA := 1) (by decide +kernel) rfl (rowW_recv ⟨_, rfl⟩) (Nat.le_of_ble_eq_true rfl) ⟨Nat.le_of_ble_eq_true rfl, Nat.le_of_ble_eq_true rfl⟩ [5, 16] [0, 1, 2, 3, 4, 6, 7, 8, 9, 10, 11, 12, 13, 14, 15, 17, 18] (nB := 19) rfl (by decide +kernel) (sh_75 g T t14 G15 A d G) (fun w9 hw => ?_)
  obtain ⟨y16, G17, e18, rfl⟩ := hw
  obtain ⟨t19, et19⟩ : ∃ z : RV, z = rvR t14 3 y16 := ⟨_, rfl⟩
  obtain ⟨G20, eG20⟩ : ∃ z : Nat → Nat → Int32, z = gs G15 3 G17 := ⟨_, rfl⟩
  have h := y_letF h (show t19 = rvR t14 3 (rCopy 17 (d.1 9)) by rw [et19, e18])
  refine ⟨([tabC T t19, dayC A d] ++ (tabR g T t19 G20 ++ dayR g A d G) : List va_W), (sh_76 g T t14 G15 A d G y16 G17 t19 G20 et19 eG20), ?_⟩
  refine y_aload_n C dX5_begin_32 0 rfl rfl ?_
  refine y_get (Cn := RX5) (T := TX5) (N := 10) (v := .ref (T 9)) C dX5_begin_33 hX5_begin_X5 0 (sh_67 g T t19 G20 A d G) rfl 4 (Nat.le_of_ble_eq_true rfl) kX5_begin_6 rfl ?_
  refine y_aload_n C dX5_begin_36 1 rfl rfl ?_
  refine y_get (Cn := RX0) (T := TX0) (N := 15) (v := .ref (A 21)) C dX5_begin_37 hX5_begin_X0 1 (sh_74 g T t19 G20 A d G) rfl 10 (Nat.le_of_ble_eq_true rfl) kX5_begin_7 rfl ?_
  refine y_callVv (As := [.ref (A 21)]) (rest := []) C dX5_begin_40 (c_X3_copy g (T 9) (T 10) 17 (t19.1 4) (G20 4) (A 21) (A 22) 17 (d.1 10) (G 10) (by decide) (by decide)) rfl rfl rfl rfl ⟨Nat.le_of_ble_eq_true rfl, Nat.le_of_ble_eq_true rfl⟩ gX5_begin_X3_copy (nA := 1) (by decide +kernel) rfl (rowW_recv ⟨_, rfl⟩) (Nat.le_of_ble_eq_true rfl) ⟨Nat.le_of_ble_eq_true rfl, Nat.le_of_ble_eq_true rfl⟩ [6, 17] [0, 1, 2, 3, 4, 5, 7, 8, 9, 10, 11, 12, 13, 14, 15, 16, 18] (nB := 19) rfl (by decide +kernel) (sh_77 g T t19 G20 A d G) (fun w9 hw => ?_)
  obtain ⟨y21, G22, e23, rfl⟩ := hw
  obtain ⟨t24, et24⟩ : ∃ z : RV, z = rvR t19 4 y21 := ⟨_, rfl⟩
  obtain ⟨G25, eG25⟩ : ∃ z : Nat → Nat → Int32, z = gs G20 4 G22 := ⟨_, rfl⟩
  have h := y_letF h (show t24 = rvR t19 4 (rCopy 17 (d.1 10)) by rw [et24, e23])
  refine ⟨([tabC T t24, dayC A d] ++ (tabR g T t24 G25 ++ dayR g A d G) : List va_W), (sh_78 g T t19 G20 A d G y21 G22 t24 G25 et24 eG25), ?_⟩
  refine y_aload_n C dX5_begin_43 0 rfl rfl ?_
  refine y_aload_n C dX5_begin_44 1 rfl rfl ?_
  refine y_get (Cn := RX0) (T := TX0) (N := 15) (v := .int (d.2 1)) C dX5_begin_45 hX5_begin_X0 1 (sh_74 g T t24 G25 A d G) rfl 13 (Nat.le_of_ble_eq_true rfl) kX5_begin_8 rfl ?_
  obtain ⟨t26, et26⟩ : ∃ z : RV, z = rvI t24 0 (d.2 1) := ⟨_, rfl⟩
  have h := y_letF h et26
  refine y_put (Cn := RX5) (T := TX5) (N := 10) (v := .int (d.2 1)) (ty0 := tyX5) (L1 := ([tabC T t26, dayC A d] ++ (tabR g T t26 G25 ++ dayR g A d G) : List va_W)) C dX5_begin_48 hX5_begin_X5 0 (sh_67 g T t24 G25 A d G) rfl 5 (Nat.le_of_ble_eq_true rfl) kX5_begin_9 tyX5_ok nmX5 rfl rfl rfl (Nat.le_of_ble_eq_true rfl) (sh_79 g T t24 G25 A d G (d.2 1) t26 et26) ?_
  refine y_aload_n C dX5_begin_51 0 rfl rfl ?_
  refine y_aload_n C dX5_begin_52 1 rfl rfl ?_
  refine y_get (Cn := RX0) (T := TX0) (N := 15) (v := .int (d.2 2)) C dX5_begin_53 hX5_begin_X0 1 (sh_74 g T t26 G25 A d G) rfl 14 (Nat.le_of_ble_eq_true rfl) kX5_begin_10 rfl ?_
  obtain ⟨t27, et27⟩ : ∃ z : RV, z = rvI t26 1 (d.2 2) := ⟨_, rfl⟩
  have h := y_letF h et27
  refine y_put (Cn := RX5) (T := TX5) (N := 10) (v := .int (d.2 2)) (ty0 := tyX5) (L1 := ([tabC T t27, dayC A d] ++ (tabR g T t27 G25 ++ dayR g A d G) : List va_W)) C dX5_begin_56 hX5_begin_X5 0 (sh_67 g T t26 G25 A d G) rfl 6 (Nat.le_of_ble_eq_true rfl) kX5_begin_11 tyX5_ok nmX5 rfl rfl rfl (Nat.le_of_ble_eq_true rfl) (sh_80 g T t26 G25 A d G (d.2 2) t27 et27) ?_
  refine y_aload_n C dX5_begin_59 0 rfl rfl ?_
  refine y_aload_n C dX5_begin_60 1 rfl rfl ?_
  refine y_iconst (v := 1) C dX5_begin_61 (by decide) ?_
  refine y_callV (As := [.int (1 : Int32)]) (rest := [.ref (T 0)]) C dX5_begin_62 (c_X0_ridesThatStand g A d G (1 : Int32)) rfl rfl rfl rfl ⟨Nat.le_of_ble_eq_true rfl, Nat.le_of_ble_eq_true rfl⟩ gX5_begin_X0_ridesThatStand (nA := 1) (by decide +kernel) rfl (sh_18 g A d G) (Nat.le_of_ble_eq_true rfl) ⟨Nat.le_of_ble_eq_true rfl, Nat.le_of_ble_eq_true rfl⟩ [1, 7, 8, 9, 10, 11, 12, 13, 14, 15, 16, 17, 18] [0, 2, 3, 4, 5, 6] (nB := 19) rfl (by decide +kernel) (sh_81 g T t27 G25 A d G) (fun r28 w9 hw => ?_)
  obtain ⟨er28, rfl⟩ := hw
  have h := y_letF h er28
  refine ⟨([tabC T t27, dayC A d] ++ (tabR g T t27 G25 ++ dayR g A d G) : List va_W), ⟨(sh_81 g T t27 G25 A d G), rfl, rfl⟩, ?_⟩
  obtain ⟨t29, et29⟩ : ∃ z : RV, z = rvI t27 2 r28 := ⟨_, rfl⟩
  have h := y_letF h et29
  refine y_put (Cn := RX5) (T := TX5) (N := 10) (v := .int r28) (ty0 := tyX5) (L1 := ([tabC T t29, dayC A d] ++ (tabR g T t29 G25 ++ dayR g A d G) : List va_W)) C dX5_begin_65 hX5_begin_X5 0 (sh_67 g T t27 G25 A d G) rfl 7 (Nat.le_of_ble_eq_true rfl) kX5_begin_12 tyX5_ok nmX5 rfl rfl rfl (Nat.le_of_ble_eq_true rfl) (sh_82 g T t27 G25 A d G r28 t29 et29) ?_
  refine y_aload_n C dX5_begin_68 0 rfl rfl ?_
  refine y_iconst (v := 0) C dX5_begin_69 (by decide) ?_
  obtain ⟨t30, et30⟩ : ∃ z : RV, z = rvI t29 3 (0 : Int32) := ⟨_, rfl⟩
  have h := y_letF h et30
  refine y_put (Cn := RX5) (T := TX5) (N := 10) (v := .int (0 : Int32)) (ty0 := tyX5) (L1 := ([tabC T t30, dayC A d] ++ (tabR g T t30 G25 ++ dayR g A d G) : List va_W)) C dX5_begin_70 hX5_begin_X5 0 (sh_67 g T t29 G25 A d G) rfl 8 (Nat.le_of_ble_eq_true rfl) kX5_begin_13 tyX5_ok nmX5 rfl rfl rfl (Nat.le_of_ble_eq_true rfl) (sh_83 g T t29 G25 A d G (0 : Int32) t30 et30) ?_
  refine y_aload_n C dX5_begin_73 0 rfl rfl ?_
  refine y_iconst (v := 0) C dX5_begin_74 (by decide) ?_
  obtain ⟨t31, et31⟩ : ∃ z : RV, z = rvI t30 4 (0 : Int32) := ⟨_, rfl⟩
  have h := y_letF h et31
  refine y_put (Cn := RX5) (T := TX5) (N := 10) (v := .int (0 : Int32)) (ty0 := tyX5) (L1 := ([tabC T t31, dayC A d] ++ (tabR g T t31 G25 ++ dayR g A d G) : List va_W)) C dX5_begin_75 hX5_begin_X5 0 (sh_67 g T t30 G25 A d G) rfl 9 (Nat.le_of_ble_eq_true rfl) kX5_begin_14 tyX5_ok nmX5 rfl rfl rfl (Nat.le_of_ble_eq_true rfl) (sh_84 g T t30 G25 A d G (0 : Int32) t31 et31) ?_
  exact HR 78 dX5_begin_78 _ _ _ _ (Nat.le_of_ble_eq_true rfl) (Nat.le_of_ble_eq_true rfl) ⟨t31, G25, by rw [h], rfl⟩
theorem dX5_latestByDetour_0 : decode cX5_latestByDetour 0 = .ok (.aload_n 0, 1) := by decide +kernel
theorem dX5_latestByDetour_1 : decode cX5_latestByDetour 1 = .ok (.getfield 26, 3) := by decide +kernel
theorem dX5_latestByDetour_4 : decode cX5_latestByDetour 4 = .ok (.iload_n 2, 1) := by decide +kernel
theorem dX5_latestByDetour_5 : decode cX5_latestByDetour 5 = .ok (.invokevirtual 45, 3) := by decide +kernel
theorem dX5_latestByDetour_8 : decode cX5_latestByDetour 8 = .ok (.aload_n 1, 1) := by decide +kernel
theorem dX5_latestByDetour_9 : decode cX5_latestByDetour 9 = .ok (.getfield 109, 3) := by decide +kernel
theorem dX5_latestByDetour_12 : decode cX5_latestByDetour 12 = .ok (.iconst 2, 1) := by decide +kernel
theorem dX5_latestByDetour_13 : decode cX5_latestByDetour 13 = .ok (.invokevirtual 45, 3) := by decide +kernel
theorem dX5_latestByDetour_16 : decode cX5_latestByDetour 16 = .ok (.iadd, 1) := by decide +kernel
theorem dX5_latestByDetour_17 : decode cX5_latestByDetour 17 = .ok (.istore_n 3, 1) := by decide +kernel
theorem dX5_latestByDetour_18 : decode cX5_latestByDetour 18 = .ok (.iload_n 3, 1) := by decide +kernel
theorem dX5_latestByDetour_19 : decode cX5_latestByDetour 19 = .ok (.aload_n 1, 1) := by decide +kernel
theorem dX5_latestByDetour_20 : decode cX5_latestByDetour 20 = .ok (.getfield 126, 3) := by decide +kernel
theorem dX5_latestByDetour_23 : decode cX5_latestByDetour 23 = .ok (.iload_n 2, 1) := by decide +kernel
theorem dX5_latestByDetour_24 : decode cX5_latestByDetour 24 = .ok (.invokevirtual 45, 3) := by decide +kernel
theorem dX5_latestByDetour_27 : decode cX5_latestByDetour 27 = .ok (.iadd, 1) := by decide +kernel
theorem dX5_latestByDetour_28 : decode cX5_latestByDetour 28 = .ok (.aload_n 1, 1) := by decide +kernel
theorem dX5_latestByDetour_29 : decode cX5_latestByDetour 29 = .ok (.getfield 109, 3) := by decide +kernel
theorem dX5_latestByDetour_32 : decode cX5_latestByDetour 32 = .ok (.iconst 1, 1) := by decide +kernel
theorem dX5_latestByDetour_33 : decode cX5_latestByDetour 33 = .ok (.invokevirtual 45, 3) := by decide +kernel
theorem dX5_latestByDetour_36 : decode cX5_latestByDetour 36 = .ok (.iadd, 1) := by decide +kernel
theorem dX5_latestByDetour_37 : decode cX5_latestByDetour 37 = .ok (.ireturn, 1) := by decide +kernel
set_option maxRecDepth 20000 in
theorem ggX5_latestByDetour_X3_at : GoodIn wsX5_latestByDetour wsX3_at := goodIn_r _ [8, 9, 10, 36, 37] (by decide +kernel) (by decide +kernel)
set_option maxRecDepth 20000 in
theorem gX5_latestByDetour_X3_at : GoodIn wsX5_latestByDetour (wsV RX5 45 RX3 yX3_at wsX3_at) := goodIn_app (goodIn_of _ (by decide +kernel)) ggX5_latestByDetour_X3_at
theorem kX5_latestByDetour_1 : Cond.fieldLink RX5 26 "BookedDetours$Timetable" "picks" "LBookedDetours$Row;" ∈ wsX5_latestByDetour := List.mem_of_getElem? (i := 1) (by decide +kernel)
theorem kX5_latestByDetour_2 : Cond.fieldLink RX5 109 "BookedDetours$Day" "settings" "LBookedDetours$Row;" ∈ wsX5_latestByDetour := List.mem_of_getElem? (i := 2) (by decide +kernel)
theorem kX5_latestByDetour_3 : Cond.fieldLink RX5 126 "BookedDetours$Day" "straights" "LBookedDetours$Row;" ∈ wsX5_latestByDetour := List.mem_of_getElem? (i := 3) (by decide +kernel)
theorem hX5_latestByDetour_X5 : ∀ w ∈ u_ws RX5 TX5 10, w ∈ wsX5_latestByDetour := fun _ h => List.mem_cons_of_mem _ (List.mem_append_left _ (List.mem_append_left _ (List.mem_append_right _ h)))
theorem hX5_latestByDetour_X0 : ∀ w ∈ u_ws RX0 TX0 15, w ∈ wsX5_latestByDetour := fun _ h => List.mem_cons_of_mem _ (List.mem_append_left _ (List.mem_append_right _ h))
set_option maxHeartbeats 4000000 in
set_option maxRecDepth 100000 in
theorem c_X5_latestByDetour (g : yG) (T : Nat → Nat) (t : RV) (GT : Nat → Nat → Int32) (A : Nat → Nat) (d : RV) (G : Nat → Nat → Int32) (ri : Int32) : yM g yX5_latestByDetour wsX5_latestByDetour ({ frames := 1, cells := 0, slots := 0, locals := 21 } : Room) [.ref (T 0), .ref (A 0), .int ri] ([tabC T t, dayC A d] ++ (tabR g T t GT ++ dayR g A d G) : List va_W) (fun r w => r = (f_X5_latestByDetour t d ri) ∧ w = ([tabC T t, dayC A d] ++ (tabR g T t GT ++ dayR g A d G) : List va_W)) 0 0 := by
  refine y_entryI (cc := cX5_latestByDetour) (maxL := 4) (by decide +kernel) rfl (Nat.le_of_ble_eq_true rfl) (fun Z C HR => ?_)
  have C : yC Z g cX5_latestByDetour 4 wsX5_latestByDetour RX5 := C
  have h := f_X5_latestByDetour.eq_1 t d ri
  show yJ Z _ 0 0 _ 0 [(0, .ref (T 0)), (1, .ref (A 0)), (2, .int ri)] []
  refine y_aload_n C dX5_latestByDetour_0 0 rfl rfl ?_
  refine y_get (Cn := RX5) (T := TX5) (N := 10) (v := .ref (T 7)) C dX5_latestByDetour_1 hX5_latestByDetour_X5 0 (sh_67 g T t GT A d G) rfl 3 (Nat.le_of_ble_eq_true rfl) kX5_latestByDetour_1 rfl ?_
  refine y_iload_n C dX5_latestByDetour_4 2 rfl rfl ?_
  refine y_callV (As := [.int ri]) (rest := []) C dX5_latestByDetour_5 (c_X3_at g (T 7) (T 8) 17 (t.1 3) (GT 3) ri (by decide)) rfl rfl rfl rfl ⟨Nat.le_of_ble_eq_true rfl, Nat.le_of_ble_eq_true rfl⟩ gX5_latestByDetour_X3_at (nA := 1) (by decide +kernel) rfl (rowW_recv ⟨_, rfl⟩) (Nat.le_of_ble_eq_true rfl) ⟨Nat.le_of_ble_eq_true rfl, Nat.le_of_ble_eq_true rfl⟩ [5] [0, 1, 2, 3, 4, 6, 7, 8, 9, 10, 11, 12, 13, 14, 15, 16, 17, 18] (nB := 19) rfl (by decide +kernel) (sh_85 g T t GT A d G) (fun r1 w9 hw => ?_)
  obtain ⟨er1, rfl⟩ := hw
  have h := y_letF h er1
  refine ⟨([tabC T t, dayC A d] ++ (tabR g T t GT ++ dayR g A d G) : List va_W), ⟨(sh_85 g T t GT A d G), rfl, rfl⟩, ?_⟩
  refine y_aload_n C dX5_latestByDetour_8 1 rfl rfl ?_
  refine y_get (Cn := RX0) (T := TX0) (N := 15) (v := .ref (A 1)) C dX5_latestByDetour_9 hX5_latestByDetour_X0 1 (sh_74 g T t GT A d G) rfl 0 (Nat.le_of_ble_eq_true rfl) kX5_latestByDetour_2 rfl ?_
  refine y_iconst (v := 2) C dX5_latestByDetour_12 (by decide) ?_
  refine y_callV (As := [.int (2 : Int32)]) (rest := [.int r1]) C dX5_latestByDetour_13 (c_X3_at g (A 1) (A 2) 3 (d.1 0) (G 0) (2 : Int32) (by decide)) rfl rfl rfl rfl ⟨Nat.le_of_ble_eq_true rfl, Nat.le_of_ble_eq_true rfl⟩ gX5_latestByDetour_X3_at (nA := 1) (by decide +kernel) rfl (rowW_recv ⟨_, rfl⟩) (Nat.le_of_ble_eq_true rfl) ⟨Nat.le_of_ble_eq_true rfl, Nat.le_of_ble_eq_true rfl⟩ [7] [0, 1, 2, 3, 4, 5, 6, 8, 9, 10, 11, 12, 13, 14, 15, 16, 17, 18] (nB := 19) rfl (by decide +kernel) (sh_86 g T t GT A d G) (fun r2 w9 hw => ?_)
  obtain ⟨er2, rfl⟩ := hw
  have h := y_letF h er2
  refine ⟨([tabC T t, dayC A d] ++ (tabR g T t GT ++ dayR g A d G) : List va_W), ⟨(sh_86 g T t GT A d G), rfl, rfl⟩, ?_⟩
  refine y_iadd C dX5_latestByDetour_16 ?_
  refine y_istore_n (lv' := [(3, .int (r1 + r2)), (0, .ref (T 0)), (1, .ref (A 0)), (2, .int ri)]) C dX5_latestByDetour_17 rfl (Nat.le_of_ble_eq_true rfl) rfl ?_
  refine y_iload_n C dX5_latestByDetour_18 0 rfl rfl ?_
  refine y_aload_n C dX5_latestByDetour_19 2 rfl rfl ?_
  refine y_get (Cn := RX0) (T := TX0) (N := 15) (v := .ref (A 15)) C dX5_latestByDetour_20 hX5_latestByDetour_X0 1 (sh_74 g T t GT A d G) rfl 7 (Nat.le_of_ble_eq_true rfl) kX5_latestByDetour_3 rfl ?_
  refine y_iload_n C dX5_latestByDetour_23 3 rfl rfl ?_
  refine y_callV (As := [.int ri]) (rest := [.int (r1 + r2)]) C dX5_latestByDetour_24 (c_X3_at g (A 15) (A 16) 17 (d.1 7) (G 7) ri (by decide)) rfl rfl rfl rfl ⟨Nat.le_of_ble_eq_true rfl, Nat.le_of_ble_eq_true rfl⟩ gX5_latestByDetour_X3_at (nA := 1) (by decide +kernel) rfl (rowW_recv ⟨_, rfl⟩) (Nat.le_of_ble_eq_true rfl) ⟨Nat.le_of_ble_eq_true rfl, Nat.le_of_ble_eq_true rfl⟩ [14] [0, 1, 2, 3, 4, 5, 6, 7, 8, 9, 10, 11, 12, 13, 15, 16, 17, 18] (nB := 19) rfl (by decide +kernel) (sh_87 g T t GT A d G) (fun r3 w9 hw => ?_)
  obtain ⟨er3, rfl⟩ := hw
  have h := y_letF h er3
  refine ⟨([tabC T t, dayC A d] ++ (tabR g T t GT ++ dayR g A d G) : List va_W), ⟨(sh_87 g T t GT A d G), rfl, rfl⟩, ?_⟩
  refine y_iadd C dX5_latestByDetour_27 ?_
  refine y_aload_n C dX5_latestByDetour_28 2 rfl rfl ?_
  refine y_get (Cn := RX0) (T := TX0) (N := 15) (v := .ref (A 1)) C dX5_latestByDetour_29 hX5_latestByDetour_X0 1 (sh_74 g T t GT A d G) rfl 0 (Nat.le_of_ble_eq_true rfl) kX5_latestByDetour_2 rfl ?_
  refine y_iconst (v := 1) C dX5_latestByDetour_32 (by decide) ?_
  refine y_callV (As := [.int (1 : Int32)]) (rest := [.int ((r1 + r2) + r3)]) C dX5_latestByDetour_33 (c_X3_at g (A 1) (A 2) 3 (d.1 0) (G 0) (1 : Int32) (by decide)) rfl rfl rfl rfl ⟨Nat.le_of_ble_eq_true rfl, Nat.le_of_ble_eq_true rfl⟩ gX5_latestByDetour_X3_at (nA := 1) (by decide +kernel) rfl (rowW_recv ⟨_, rfl⟩) (Nat.le_of_ble_eq_true rfl) ⟨Nat.le_of_ble_eq_true rfl, Nat.le_of_ble_eq_true rfl⟩ [7] [0, 1, 2, 3, 4, 5, 6, 8, 9, 10, 11, 12, 13, 14, 15, 16, 17, 18] (nB := 19) rfl (by decide +kernel) (sh_86 g T t GT A d G) (fun r4 w9 hw => ?_)
  obtain ⟨er4, rfl⟩ := hw
  have h := y_letF h er4
  refine ⟨([tabC T t, dayC A d] ++ (tabR g T t GT ++ dayR g A d G) : List va_W), ⟨(sh_86 g T t GT A d G), rfl, rfl⟩, ?_⟩
  refine y_iadd C dX5_latestByDetour_36 ?_
  exact HR 37 dX5_latestByDetour_37 (((r1 + r2) + r3) + r4) _ _ _ _ (rfl) (Nat.le_of_ble_eq_true rfl) (Nat.le_of_ble_eq_true rfl) ⟨by rw [h], rfl⟩
end
section
theorem dX5_step_0 : decode cX5_step 0 = .ok (.iload_n 2, 1) := by decide +kernel
theorem dX5_step_1 : decode cX5_step 1 = .ok (.invokestatic 87, 3) := by decide +kernel
theorem dX5_step_4 : decode cX5_step 4 = .ok (.istore_n 3, 1) := by decide +kernel
theorem dX5_step_5 : decode cX5_step 5 = .ok (.iload_n 2, 1) := by decide +kernel
theorem dX5_step_6 : decode cX5_step 6 = .ok (.invokestatic 90, 3) := by decide +kernel
theorem dX5_step_9 : decode cX5_step 9 = .ok (.istore 4, 2) := by decide +kernel
theorem dX5_step_11 : decode cX5_step 11 = .ok (.aload_n 1, 1) := by decide +kernel
theorem dX5_step_12 : decode cX5_step 12 = .ok (.iload_n 2, 1) := by decide +kernel
theorem dX5_step_13 : decode cX5_step 13 = .ok (.invokevirtual 94, 3) := by decide +kernel
theorem dX5_step_16 : decode cX5_step 16 = .ok (.istore 5, 2) := by decide +kernel
theorem dX5_step_18 : decode cX5_step 18 = .ok (.aload_n 1, 1) := by decide +kernel
theorem dX5_step_19 : decode cX5_step 19 = .ok (.aload_n 0, 1) := by decide +kernel
theorem dX5_step_20 : decode cX5_step 20 = .ok (.getfield 66, 3) := by decide +kernel
theorem dX5_step_23 : decode cX5_step 23 = .ok (.iload 5, 2) := by decide +kernel
theorem dX5_step_25 : decode cX5_step 25 = .ok (.invokevirtual 97, 3) := by decide +kernel
theorem dX5_step_28 : decode cX5_step 28 = .ok (.istore 6, 2) := by decide +kernel
theorem dX5_step_30 : decode cX5_step 30 = .ok (.aload_n 0, 1) := by decide +kernel
theorem dX5_step_31 : decode cX5_step 31 = .ok (.getfield 72, 3) := by decide +kernel
theorem dX5_step_34 : decode cX5_step 34 = .ok (.iload 6, 2) := by decide +kernel
theorem dX5_step_36 : decode cX5_step 36 = .ok (.iadd, 1) := by decide +kernel
theorem dX5_step_37 : decode cX5_step 37 = .ok (.istore 7, 2) := by decide +kernel
theorem dX5_step_39 : decode cX5_step 39 = .ok (.iload 4, 2) := by decide +kernel
theorem dX5_step_41 : decode cX5_step 41 = .ok (.ifCond .eq 8, 3) := by decide +kernel
theorem dX5_step_44 : decode cX5_step 44 = .ok (.iload 7, 2) := by decide +kernel
theorem dX5_step_46 : decode cX5_step 46 = .ok (.goto 16, 3) := by decide +kernel
theorem dX5_step_49 : decode cX5_step 49 = .ok (.iload 7, 2) := by decide +kernel
theorem dX5_step_51 : decode cX5_step 51 = .ok (.aload_n 1, 1) := by decide +kernel
theorem dX5_step_52 : decode cX5_step 52 = .ok (.getfield 101, 3) := by decide +kernel
theorem dX5_step_55 : decode cX5_step 55 = .ok (.iload_n 3, 1) := by decide +kernel
theorem dX5_step_56 : decode cX5_step 56 = .ok (.invokevirtual 45, 3) := by decide +kernel
theorem dX5_step_59 : decode cX5_step 59 = .ok (.invokestatic 104, 3) := by decide +kernel
theorem dX5_step_62 : decode cX5_step 62 = .ok (.istore 8, 2) := by decide +kernel
theorem dX5_step_64 : decode cX5_step 64 = .ok (.aload_n 0, 1) := by decide +kernel
theorem dX5_step_65 : decode cX5_step 65 = .ok (.iload 5, 2) := by decide +kernel
theorem dX5_step_67 : decode cX5_step 67 = .ok (.putfield 66, 3) := by decide +kernel
theorem dX5_step_70 : decode cX5_step 70 = .ok (.aload_n 0, 1) := by decide +kernel
theorem dX5_step_71 : decode cX5_step 71 = .ok (.iload 8, 2) := by decide +kernel
theorem dX5_step_73 : decode cX5_step 73 = .ok (.aload_n 1, 1) := by decide +kernel
theorem dX5_step_74 : decode cX5_step 74 = .ok (.getfield 109, 3) := by decide +kernel
theorem dX5_step_77 : decode cX5_step 77 = .ok (.iconst 2, 1) := by decide +kernel
theorem dX5_step_78 : decode cX5_step 78 = .ok (.invokevirtual 45, 3) := by decide +kernel
theorem dX5_step_81 : decode cX5_step 81 = .ok (.iadd, 1) := by decide +kernel
theorem dX5_step_82 : decode cX5_step 82 = .ok (.putfield 72, 3) := by decide +kernel
theorem dX5_step_85 : decode cX5_step 85 = .ok (.aload_n 0, 1) := by decide +kernel
theorem dX5_step_86 : decode cX5_step 86 = .ok (.dup, 1) := by decide +kernel
theorem dX5_step_87 : decode cX5_step 87 = .ok (.getfield 78, 3) := by decide +kernel
theorem dX5_step_90 : decode cX5_step 90 = .ok (.iload 4, 2) := by decide +kernel
theorem dX5_step_92 : decode cX5_step 92 = .ok (.ifCond .eq 7, 3) := by decide +kernel
theorem dX5_step_95 : decode cX5_step 95 = .ok (.iconst (-1), 1) := by decide +kernel
theorem dX5_step_96 : decode cX5_step 96 = .ok (.goto 4, 3) := by decide +kernel
theorem dX5_step_99 : decode cX5_step 99 = .ok (.iconst 1, 1) := by decide +kernel
theorem dX5_step_100 : decode cX5_step 100 = .ok (.iadd, 1) := by decide +kernel
theorem dX5_step_101 : decode cX5_step 101 = .ok (.putfield 78, 3) := by decide +kernel
theorem dX5_step_104 : decode cX5_step 104 = .ok (.aload_n 0, 1) := by decide +kernel
theorem dX5_step_105 : decode cX5_step 105 = .ok (.dup, 1) := by decide +kernel
theorem dX5_step_106 : decode cX5_step 106 = .ok (.getfield 81, 3) := by decide +kernel
theorem dX5_step_109 : decode cX5_step 109 = .ok (.iload 6, 2) := by decide +kernel
theorem dX5_step_111 : decode cX5_step 111 = .ok (.iadd, 1) := by decide +kernel
theorem dX5_step_112 : decode cX5_step 112 = .ok (.putfield 81, 3) := by decide +kernel
theorem dX5_step_115 : decode cX5_step 115 = .ok (.aload_n 0, 1) := by decide +kernel
theorem dX5_step_116 : decode cX5_step 116 = .ok (.dup, 1) := by decide +kernel
theorem dX5_step_117 : decode cX5_step 117 = .ok (.getfield 84, 3) := by decide +kernel
theorem dX5_step_120 : decode cX5_step 120 = .ok (.iload 8, 2) := by decide +kernel
theorem dX5_step_122 : decode cX5_step 122 = .ok (.iload 7, 2) := by decide +kernel
theorem dX5_step_124 : decode cX5_step 124 = .ok (.isub, 1) := by decide +kernel
theorem dX5_step_125 : decode cX5_step 125 = .ok (.iadd, 1) := by decide +kernel
theorem dX5_step_126 : decode cX5_step 126 = .ok (.putfield 84, 3) := by decide +kernel
theorem dX5_step_129 : decode cX5_step 129 = .ok (.aload_n 0, 1) := by decide +kernel
theorem dX5_step_130 : decode cX5_step 130 = .ok (.getfield 14, 3) := by decide +kernel
theorem dX5_step_133 : decode cX5_step 133 = .ok (.iload 8, 2) := by decide +kernel
theorem dX5_step_135 : decode cX5_step 135 = .ok (.invokevirtual 112, 3) := by decide +kernel
theorem dX5_step_138 : decode cX5_step 138 = .ok (.aload_n 0, 1) := by decide +kernel
theorem dX5_step_139 : decode cX5_step 139 = .ok (.getfield 20, 3) := by decide +kernel
theorem dX5_step_142 : decode cX5_step 142 = .ok (.aload_n 0, 1) := by decide +kernel
theorem dX5_step_143 : decode cX5_step 143 = .ok (.getfield 78, 3) := by decide +kernel
theorem dX5_step_146 : decode cX5_step 146 = .ok (.invokevirtual 112, 3) := by decide +kernel
theorem dX5_step_149 : decode cX5_step 149 = .ok (.aload_n 0, 1) := by decide +kernel
theorem dX5_step_150 : decode cX5_step 150 = .ok (.getfield 23, 3) := by decide +kernel
theorem dX5_step_153 : decode cX5_step 153 = .ok (.iload 8, 2) := by decide +kernel
theorem dX5_step_155 : decode cX5_step 155 = .ok (.iload 7, 2) := by decide +kernel
theorem dX5_step_157 : decode cX5_step 157 = .ok (.isub, 1) := by decide +kernel
theorem dX5_step_158 : decode cX5_step 158 = .ok (.invokevirtual 112, 3) := by decide +kernel
theorem dX5_step_161 : decode cX5_step 161 = .ok (.iload 4, 2) := by decide +kernel
theorem dX5_step_163 : decode cX5_step 163 = .ok (.ifCond .ne 34, 3) := by decide +kernel
theorem dX5_step_166 : decode cX5_step 166 = .ok (.aload_n 0, 1) := by decide +kernel
theorem dX5_step_167 : decode cX5_step 167 = .ok (.getfield 26, 3) := by decide +kernel
theorem dX5_step_170 : decode cX5_step 170 = .ok (.iload_n 3, 1) := by decide +kernel
theorem dX5_step_171 : decode cX5_step 171 = .ok (.iload 8, 2) := by decide +kernel
theorem dX5_step_173 : decode cX5_step 173 = .ok (.invokevirtual 115, 3) := by decide +kernel
theorem dX5_step_176 : decode cX5_step 176 = .ok (.aload_n 0, 1) := by decide +kernel
theorem dX5_step_177 : decode cX5_step 177 = .ok (.getfield 78, 3) := by decide +kernel
theorem dX5_step_180 : decode cX5_step 180 = .ok (.aload_n 1, 1) := by decide +kernel
theorem dX5_step_181 : decode cX5_step 181 = .ok (.getfield 109, 3) := by decide +kernel
theorem dX5_step_184 : decode cX5_step 184 = .ok (.iconst 0, 1) := by decide +kernel
theorem dX5_step_185 : decode cX5_step 185 = .ok (.invokevirtual 45, 3) := by decide +kernel
theorem dX5_step_188 : decode cX5_step 188 = .ok (.if_icmp .gt 7, 3) := by decide +kernel
theorem dX5_step_191 : decode cX5_step 191 = .ok (.iconst 1, 1) := by decide +kernel
theorem dX5_step_192 : decode cX5_step 192 = .ok (.goto 4, 3) := by decide +kernel
theorem dX5_step_195 : decode cX5_step 195 = .ok (.iconst 0, 1) := by decide +kernel
theorem dX5_step_196 : decode cX5_step 196 = .ok (.ireturn, 1) := by decide +kernel
theorem dX5_step_197 : decode cX5_step 197 = .ok (.aload_n 0, 1) := by decide +kernel
theorem dX5_step_198 : decode cX5_step 198 = .ok (.getfield 29, 3) := by decide +kernel
theorem dX5_step_201 : decode cX5_step 201 = .ok (.iload_n 3, 1) := by decide +kernel
theorem dX5_step_202 : decode cX5_step 202 = .ok (.iload 8, 2) := by decide +kernel
theorem dX5_step_204 : decode cX5_step 204 = .ok (.invokevirtual 115, 3) := by decide +kernel
theorem dX5_step_207 : decode cX5_step 207 = .ok (.iload 8, 2) := by decide +kernel
theorem dX5_step_209 : decode cX5_step 209 = .ok (.aload_n 1, 1) := by decide +kernel
theorem dX5_step_210 : decode cX5_step 210 = .ok (.getfield 119, 3) := by decide +kernel
theorem dX5_step_213 : decode cX5_step 213 = .ok (.iload_n 3, 1) := by decide +kernel
theorem dX5_step_214 : decode cX5_step 214 = .ok (.invokevirtual 45, 3) := by decide +kernel
theorem dX5_step_217 : decode cX5_step 217 = .ok (.if_icmp .gt 18, 3) := by decide +kernel
theorem dX5_step_220 : decode cX5_step 220 = .ok (.iload 8, 2) := by decide +kernel
theorem dX5_step_222 : decode cX5_step 222 = .ok (.aload_n 0, 1) := by decide +kernel
theorem dX5_step_223 : decode cX5_step 223 = .ok (.aload_n 1, 1) := by decide +kernel
theorem dX5_step_224 : decode cX5_step 224 = .ok (.iload_n 3, 1) := by decide +kernel
theorem dX5_step_225 : decode cX5_step 225 = .ok (.invokevirtual 122, 3) := by decide +kernel
theorem dX5_step_228 : decode cX5_step 228 = .ok (.if_icmp .gt 7, 3) := by decide +kernel
theorem dX5_step_231 : decode cX5_step 231 = .ok (.iconst 1, 1) := by decide +kernel
theorem dX5_step_232 : decode cX5_step 232 = .ok (.goto 4, 3) := by decide +kernel
theorem dX5_step_235 : decode cX5_step 235 = .ok (.iconst 0, 1) := by decide +kernel
theorem dX5_step_236 : decode cX5_step 236 = .ok (.ireturn, 1) := by decide +kernel
set_option maxRecDepth 20000 in
theorem ggX5_step_X6_rideOf : GoodIn wsX5_step wsX6_rideOf := goodIn_r _ [20] (by decide +kernel) (by decide +kernel)
set_option maxRecDepth 20000 in
theorem gX5_step_X6_rideOf_n87 : GoodIn wsX5_step (wsX6_rideOf) := ggX5_step_X6_rideOf
set_option maxRecDepth 20000 in
theorem ggX5_step_X6_setsDown : GoodIn wsX5_step wsX6_setsDown := goodIn_r _ [22] (by decide +kernel) (by decide +kernel)
set_option maxRecDepth 20000 in
theorem gX5_step_X6_setsDown_n90 : GoodIn wsX5_step (wsX6_setsDown) := ggX5_step_X6_setsDown
set_option maxRecDepth 20000 in
theorem ggX5_step_X0_stopOf : GoodIn wsX5_step wsX0_stopOf := goodIn_r _ [27, 28, 29, 18, 19, 20, 21, 22, 30, 31, 32, 33, 34, 35, 36, 75, 76, 77, 78, 79, 80, 81, 82, 83, 84, 85, 86, 87, 88, 89, 90, 91] (by decide +kernel) (by decide +kernel)
set_option maxRecDepth 20000 in
theorem gX5_step_X0_stopOf : GoodIn wsX5_step (wsV RX5 94 RX0 yX0_stopOf wsX0_stopOf) := goodIn_app (goodIn_of _ (by decide +kernel)) ggX5_step_X0_stopOf
set_option maxRecDepth 20000 in
theorem ggX5_step_X0_minutes : GoodIn wsX5_step wsX0_minutes := goodIn_r _ [40, 41, 42, 43, 6, 44, 45, 30, 31, 32, 33, 34, 35, 36, 75, 76, 77, 78, 79, 80, 81, 82, 83, 84, 85, 86, 87, 88, 89, 90, 91] (by decide +kernel) (by decide +kernel)
set_option maxRecDepth 20000 in
theorem gX5_step_X0_minutes : GoodIn wsX5_step (wsV RX5 97 RX0 yX0_minutes wsX0_minutes) := goodIn_app (goodIn_of _ (by decide +kernel)) ggX5_step_X0_minutes
set_option maxRecDepth 20000 in
theorem ggX5_step_X3_at : GoodIn wsX5_step wsX3_at := goodIn_r _ [34, 35, 36, 90, 91] (by decide +kernel) (by decide +kernel)
set_option maxRecDepth 20000 in
theorem gX5_step_X3_at : GoodIn wsX5_step (wsV RX5 45 RX3 yX3_at wsX3_at) := goodIn_app (goodIn_of _ (by decide +kernel)) ggX5_step_X3_at
set_option maxRecDepth 20000 in
theorem ggX5_step_X3_add : GoodIn wsX5_step wsX3_add := goodIn_r _ [50, 35, 51, 52, 53, 33, 54, 36, 90, 91] (by decide +kernel) (by decide +kernel)
set_option maxRecDepth 20000 in
theorem gX5_step_X3_add : GoodIn wsX5_step (wsV RX5 112 RX3 yX3_add wsX3_add) := goodIn_app (goodIn_of _ (by decide +kernel)) ggX5_step_X3_add
set_option maxRecDepth 20000 in
theorem ggX5_step_X3_change : GoodIn wsX5_step wsX3_change := goodIn_r _ [58, 35, 36, 90, 91] (by decide +kernel) (by decide +kernel)
set_option maxRecDepth 20000 in
theorem gX5_step_X3_change : GoodIn wsX5_step (wsV RX5 115 RX3 yX3_change wsX3_change) := goodIn_app (goodIn_of _ (by decide +kernel)) ggX5_step_X3_change
set_option maxRecDepth 20000 in
theorem ggX5_step_X5_latestByDetour : GoodIn wsX5_step wsX5_latestByDetour := goodIn_r _ [63, 15, 8, 64, 46, 31, 32, 33, 34, 35, 36, 65, 66, 67, 68, 69, 70, 71, 72, 73, 74, 75, 76, 77, 78, 79, 80, 81, 82, 83, 84, 85, 86, 87, 88, 89, 90, 91] (by decide +kernel) (by decide +kernel)
set_option maxRecDepth 20000 in
theorem gX5_step_X5_latestByDetour : GoodIn wsX5_step (wsV RX5 122 RX5 yX5_latestByDetour wsX5_latestByDetour) := goodIn_app (goodIn_of _ (by decide +kernel)) ggX5_step_X5_latestByDetour
theorem kX5_step_19 : Cond.initialized RX6 ∈ wsX5_step := List.mem_of_getElem? (i := 19) (by decide +kernel)
theorem kX5_step_18 : Cond.static yX6_rideOf ∈ wsX5_step := List.mem_of_getElem? (i := 18) (by decide +kernel)
theorem kX5_step_21 : Cond.static yX6_setsDown ∈ wsX5_step := List.mem_of_getElem? (i := 21) (by decide +kernel)
theorem kX5_step_1 : Cond.fieldLink RX5 66 "BookedDetours$Timetable" "stop" "I" ∈ wsX5_step := List.mem_of_getElem? (i := 1) (by decide +kernel)
theorem kX5_step_2 : Cond.fieldLink RX5 72 "BookedDetours$Timetable" "free" "I" ∈ wsX5_step := List.mem_of_getElem? (i := 2) (by decide +kernel)
theorem kX5_step_3 : Cond.fieldLink RX5 101 "BookedDetours$Day" "waits" "LBookedDetours$Row;" ∈ wsX5_step := List.mem_of_getElem? (i := 3) (by decide +kernel)
theorem kX5_step_4 : Cond.methodLink RX5 104 Lib.Math.max.name ∈ wsX5_step := List.mem_of_getElem? (i := 4) (by decide +kernel)
theorem kX5_step_5 : Cond.static Lib.Math.max.name ∈ wsX5_step := List.mem_of_getElem? (i := 5) (by decide +kernel)
theorem kX5_step_6 : Cond.initialized "java/lang/Math" ∈ wsX5_step := List.mem_of_getElem? (i := 6) (by decide +kernel)
theorem kX5_step_7 : Cond.code Lib.Math.max.name Lib.Math.max.code 2 (some .int) ∈ wsX5_step := List.mem_of_getElem? (i := 7) (by decide +kernel)
theorem kX5_step_8 : Cond.fieldLink RX5 109 "BookedDetours$Day" "settings" "LBookedDetours$Row;" ∈ wsX5_step := List.mem_of_getElem? (i := 8) (by decide +kernel)
theorem kX5_step_9 : Cond.fieldLink RX5 78 "BookedDetours$Timetable" "aboard" "I" ∈ wsX5_step := List.mem_of_getElem? (i := 9) (by decide +kernel)
theorem kX5_step_10 : Cond.fieldLink RX5 81 "BookedDetours$Timetable" "driving" "I" ∈ wsX5_step := List.mem_of_getElem? (i := 10) (by decide +kernel)
theorem kX5_step_11 : Cond.fieldLink RX5 84 "BookedDetours$Timetable" "waiting" "I" ∈ wsX5_step := List.mem_of_getElem? (i := 11) (by decide +kernel)
theorem kX5_step_12 : Cond.fieldLink RX5 14 "BookedDetours$Timetable" "times" "LBookedDetours$Row;" ∈ wsX5_step := List.mem_of_getElem? (i := 12) (by decide +kernel)
theorem kX5_step_13 : Cond.fieldLink RX5 20 "BookedDetours$Timetable" "loads" "LBookedDetours$Row;" ∈ wsX5_step := List.mem_of_getElem? (i := 13) (by decide +kernel)
theorem kX5_step_14 : Cond.fieldLink RX5 23 "BookedDetours$Timetable" "delays" "LBookedDetours$Row;" ∈ wsX5_step := List.mem_of_getElem? (i := 14) (by decide +kernel)
theorem kX5_step_15 : Cond.fieldLink RX5 26 "BookedDetours$Timetable" "picks" "LBookedDetours$Row;" ∈ wsX5_step := List.mem_of_getElem? (i := 15) (by decide +kernel)
theorem kX5_step_16 : Cond.fieldLink RX5 29 "BookedDetours$Timetable" "downs" "LBookedDetours$Row;" ∈ wsX5_step := List.mem_of_getElem? (i := 16) (by decide +kernel)
theorem kX5_step_17 : Cond.fieldLink RX5 119 "BookedDetours$Day" "bys" "LBookedDetours$Row;" ∈ wsX5_step := List.mem_of_getElem? (i := 17) (by decide +kernel)
theorem hX5_step_X5 : ∀ w ∈ u_ws RX5 TX5 10, w ∈ wsX5_step := fun _ h => List.mem_cons_of_mem _ (List.mem_append_left _ (List.mem_append_left _ (List.mem_append_right _ h)))
theorem hX5_step_X0 : ∀ w ∈ u_ws RX0 TX0 15, w ∈ wsX5_step := fun _ h => List.mem_cons_of_mem _ (List.mem_append_left _ (List.mem_append_right _ h))
set_option maxHeartbeats 4000000 in
set_option maxRecDepth 100000 in
theorem c_X5_step (g : yG) (T : Nat → Nat) (t : RV) (GT : Nat → Nat → Int32) (A : Nat → Nat) (d : RV) (G : Nat → Nat → Int32) (v : Int32) : yM g yX5_step wsX5_step ({ frames := 2, cells := 0, slots := 0, locals := 44 } : Room) [.ref (T 0), .ref (A 0), .int v] ([tabC T t, dayC A d] ++ (tabR g T t GT ++ dayR g A d G) : List va_W) (fun r w => r = (f_X5_step t d v).1 ∧ ∃ t' : RV, ∃ GT' : Nat → Nat → Int32, t' = (f_X5_step t d v).2 ∧ w = ([tabC T t', dayC A d] ++ (tabR g T t' GT' ++ dayR g A d G) : List va_W)) 0 0 := by
  refine y_entryI (cc := cX5_step) (maxL := 9) (by decide +kernel) rfl (Nat.le_of_ble_eq_true rfl) (fun Z C HR => ?_)
  have C : yC Z g cX5_step 9 wsX5_step RX5 := C
  have h := f_X5_step.eq_1 t d v
  show yJ Z _ 0 0 _ 0 [(0, .ref (T 0)), (1, .ref (A 0)), (2, .int v)] []
  refine y_iload_n C dX5_step_0 2 rfl rfl ?_
  refine y_callSN (host := RX6) (As := [.int v]) (rest := []) C dX5_step_1 (c_X6_rideOf g v) rfl rfl rfl rfl ⟨Nat.le_of_ble_eq_true rfl, Nat.le_of_ble_eq_true rfl⟩ gX5_step_X6_rideOf_n87 (List.mem_of_getElem? (i := 9) rfl) kX5_step_19 kX5_step_18 (nA := 1) (by decide +kernel) rfl (Nat.le_of_ble_eq_true rfl) ⟨Nat.le_of_ble_eq_true rfl, Nat.le_of_ble_eq_true rfl⟩ [] [0, 1, 2, 3, 4, 5, 6, 7, 8, 9, 10, 11, 12, 13, 14, 15, 16, 17, 18] (nB := 19) rfl (by decide +kernel) (sh_88 g T t GT A d G) (fun r1 w9 hw => ?_)
  obtain ⟨er1, rfl⟩ := hw
  have h := y_letF h er1
  refine ⟨([tabC T t, dayC A d] ++ (tabR g T t GT ++ dayR g A d G) : List va_W), ⟨(sh_88 g T t GT A d G), rfl, rfl⟩, ?_⟩
  refine y_istore_n (lv' := [(3, .int r1), (0, .ref (T 0)), (1, .ref (A 0)), (2, .int v)]) C dX5_step_4 rfl (Nat.le_of_ble_eq_true rfl) rfl ?_
  refine y_iload_n C dX5_step_5 3 rfl rfl ?_
  refine y_callSN (host := RX6) (As := [.int v]) (rest := []) C dX5_step_6 (c_X6_setsDown g v) rfl rfl rfl rfl ⟨Nat.le_of_ble_eq_true rfl, Nat.le_of_ble_eq_true rfl⟩ gX5_step_X6_setsDown_n90 (List.mem_of_getElem? (i := 10) rfl) kX5_step_19 kX5_step_21 (nA := 1) (by decide +kernel) rfl (Nat.le_of_ble_eq_true rfl) ⟨Nat.le_of_ble_eq_true rfl, Nat.le_of_ble_eq_true rfl⟩ [] [0, 1, 2, 3, 4, 5, 6, 7, 8, 9, 10, 11, 12, 13, 14, 15, 16, 17, 18] (nB := 19) rfl (by decide +kernel) (sh_88 g T t GT A d G) (fun r2 w9 hw => ?_)
  obtain ⟨er2, rfl⟩ := hw
  have h := y_letF h er2
  refine ⟨([tabC T t, dayC A d] ++ (tabR g T t GT ++ dayR g A d G) : List va_W), ⟨(sh_88 g T t GT A d G), rfl, rfl⟩, ?_⟩
  refine y_istore (lv' := [(4, .int r2), (3, .int r1), (0, .ref (T 0)), (1, .ref (A 0)), (2, .int v)]) C dX5_step_9 (Nat.le_of_ble_eq_true rfl) rfl ?_
  refine y_aload_n C dX5_step_11 3 rfl rfl ?_
  refine y_iload_n C dX5_step_12 4 rfl rfl ?_
  refine y_callV (As := [.int v]) (rest := []) C dX5_step_13 (c_X0_stopOf g A d G v) rfl rfl rfl rfl ⟨Nat.le_of_ble_eq_true rfl, Nat.le_of_ble_eq_true rfl⟩ gX5_step_X0_stopOf (nA := 1) (by decide +kernel) rfl (sh_18 g A d G) (Nat.le_of_ble_eq_true rfl) ⟨Nat.le_of_ble_eq_true rfl, Nat.le_of_ble_eq_true rfl⟩ [1, 7, 8, 9, 10, 11, 12, 13, 14, 15, 16, 17, 18] [0, 2, 3, 4, 5, 6] (nB := 19) rfl (by decide +kernel) (sh_81 g T t GT A d G) (fun r3 w9 hw => ?_)
  obtain ⟨er3, rfl⟩ := hw
  have h := y_letF h er3
  refine ⟨([tabC T t, dayC A d] ++ (tabR g T t GT ++ dayR g A d G) : List va_W), ⟨(sh_81 g T t GT A d G), rfl, rfl⟩, ?_⟩
  refine y_istore (lv' := [(5, .int r3), (4, .int r2), (3, .int r1), (0, .ref (T 0)), (1, .ref (A 0)), (2, .int v)]) C dX5_step_16 (Nat.le_of_ble_eq_true rfl) rfl ?_
  refine y_aload_n C dX5_step_18 4 rfl rfl ?_
  refine y_aload_n C dX5_step_19 3 rfl rfl ?_
  refine y_get (Cn := RX5) (T := TX5) (N := 10) (v := .int (t.2 0)) C dX5_step_20 hX5_step_X5 0 (sh_67 g T t GT A d G) rfl 5 (Nat.le_of_ble_eq_true rfl) kX5_step_1 rfl ?_
  refine y_iload C dX5_step_23 0 rfl ?_
  refine y_callV (As := [.int (t.2 0), .int r3]) (rest := []) C dX5_step_25 (c_X0_minutes g A d G (t.2 0) r3) rfl rfl rfl rfl ⟨Nat.le_of_ble_eq_true rfl, Nat.le_of_ble_eq_true rfl⟩ gX5_step_X0_minutes (nA := 2) (by decide +kernel) rfl (sh_18 g A d G) (Nat.le_of_ble_eq_true rfl) ⟨Nat.le_of_ble_eq_true rfl, Nat.le_of_ble_eq_true rfl⟩ [1, 7, 8, 9, 10, 11, 12, 13, 14, 15, 16, 17, 18] [0, 2, 3, 4, 5, 6] (nB := 19) rfl (by decide +kernel) (sh_81 g T t GT A d G) (fun r4 w9 hw => ?_)
  obtain ⟨er4, rfl⟩ := hw
  have h := y_letF h er4
  refine ⟨([tabC T t, dayC A d] ++ (tabR g T t GT ++ dayR g A d G) : List va_W), ⟨(sh_81 g T t GT A d G), rfl, rfl⟩, ?_⟩
  refine y_istore (lv' := [(6, .int r4), (5, .int r3), (4, .int r2), (3, .int r1), (0, .ref (T 0)), (1, .ref (A 0)), (2, .int v)]) C dX5_step_28 (Nat.le_of_ble_eq_true rfl) rfl ?_
  refine y_aload_n C dX5_step_30 4 rfl rfl ?_
  refine y_get (Cn := RX5) (T := TX5) (N := 10) (v := .int (t.2 1)) C dX5_step_31 hX5_step_X5 0 (sh_67 g T t GT A d G) rfl 6 (Nat.le_of_ble_eq_true rfl) kX5_step_2 rfl ?_
  refine y_iload C dX5_step_34 0 rfl ?_
  refine y_iadd C dX5_step_36 ?_
  refine y_istore (lv' := [(7, .int ((t.2 1) + r4)), (6, .int r4), (5, .int r3), (4, .int r2), (3, .int r1), (0, .ref (T 0)), (1, .ref (A 0)), (2, .int v)]) C dX5_step_37 (Nat.le_of_ble_eq_true rfl) rfl ?_
  refine y_iload C dX5_step_39 3 rfl ?_
  refine y_if_eq (tgt := 49) C dX5_step_41 rfl (y_e h) (fun c41 h => ?_) (fun c41 h => ?_)
  · refine y_iload C dX5_step_49 0 rfl ?_
    refine y_aload_n C dX5_step_51 6 rfl rfl ?_
    refine y_get (Cn := RX0) (T := TX0) (N := 15) (v := .ref (A 11)) C dX5_step_52 hX5_step_X0 1 (sh_74 g T t GT A d G) rfl 5 (Nat.le_of_ble_eq_true rfl) kX5_step_3 rfl ?_
    refine y_iload_n C dX5_step_55 4 rfl rfl ?_
    refine y_callV (As := [.int r1]) (rest := [.int ((t.2 1) + r4)]) C dX5_step_56 (c_X3_at g (A 11) (A 12) 17 (d.1 5) (G 5) r1 (by decide)) rfl rfl rfl rfl ⟨Nat.le_of_ble_eq_true rfl, Nat.le_of_ble_eq_true rfl⟩ gX5_step_X3_at (nA := 1) (by decide +kernel) rfl (rowW_recv ⟨_, rfl⟩) (Nat.le_of_ble_eq_true rfl) ⟨Nat.le_of_ble_eq_true rfl, Nat.le_of_ble_eq_true rfl⟩ [12] [0, 1, 2, 3, 4, 5, 6, 7, 8, 9, 10, 11, 13, 14, 15, 16, 17, 18] (nB := 19) rfl (by decide +kernel) (sh_89 g T t GT A d G) (fun r5 w9 hw => ?_)
    obtain ⟨er5, rfl⟩ := hw
    have h := y_letF h er5
    refine ⟨([tabC T t, dayC A d] ++ (tabR g T t GT ++ dayR g A d G) : List va_W), ⟨(sh_89 g T t GT A d G), rfl, rfl⟩, ?_⟩
    refine y_mmax C dX5_step_59 kX5_step_4 kX5_step_5 kX5_step_6 kX5_step_7 (Nat.le_of_ble_eq_true rfl) (Nat.le_of_ble_eq_true rfl) (Nat.le_of_ble_eq_true rfl) (Nat.le_of_ble_eq_true rfl) ?_
    refine y_topi (fun m6 em6 => ?_)
    have h := y_letF h em6
    refine y_istore (lv' := [(8, .int m6), (7, .int ((t.2 1) + r4)), (6, .int r4), (5, .int r3), (4, .int r2), (3, .int r1), (0, .ref (T 0)), (1, .ref (A 0)), (2, .int v)]) C dX5_step_62 (Nat.le_of_ble_eq_true rfl) rfl ?_
    refine y_aload_n C dX5_step_64 6 rfl rfl ?_
    refine y_iload C dX5_step_65 3 rfl ?_
    obtain ⟨t7, et7⟩ : ∃ z : RV, z = rvI t 0 r3 := ⟨_, rfl⟩
    have h := y_letF h et7
    refine y_put (Cn := RX5) (T := TX5) (N := 10) (v := .int r3) (ty0 := tyX5) (L1 := ([tabC T t7, dayC A d] ++ (tabR g T t7 GT ++ dayR g A d G) : List va_W)) C dX5_step_67 hX5_step_X5 0 (sh_67 g T t GT A d G) rfl 5 (Nat.le_of_ble_eq_true rfl) kX5_step_1 tyX5_ok nmX5 rfl rfl rfl (Nat.le_of_ble_eq_true rfl) (sh_79 g T t GT A d G r3 t7 et7) ?_
    refine y_aload_n C dX5_step_70 6 rfl rfl ?_
    refine y_iload C dX5_step_71 0 rfl ?_
    refine y_aload_n C dX5_step_73 7 rfl rfl ?_
    refine y_get (Cn := RX0) (T := TX0) (N := 15) (v := .ref (A 1)) C dX5_step_74 hX5_step_X0 1 (sh_74 g T t7 GT A d G) rfl 0 (Nat.le_of_ble_eq_true rfl) kX5_step_8 rfl ?_
    refine y_iconst (v := 2) C dX5_step_77 (by decide) ?_
    refine y_callV (As := [.int (2 : Int32)]) (rest := [.int m6, .ref (T 0)]) C dX5_step_78 (c_X3_at g (A 1) (A 2) 3 (d.1 0) (G 0) (2 : Int32) (by decide)) rfl rfl rfl rfl ⟨Nat.le_of_ble_eq_true rfl, Nat.le_of_ble_eq_true rfl⟩ gX5_step_X3_at (nA := 1) (by decide +kernel) rfl (rowW_recv ⟨_, rfl⟩) (Nat.le_of_ble_eq_true rfl) ⟨Nat.le_of_ble_eq_true rfl, Nat.le_of_ble_eq_true rfl⟩ [7] [0, 1, 2, 3, 4, 5, 6, 8, 9, 10, 11, 12, 13, 14, 15, 16, 17, 18] (nB := 19) rfl (by decide +kernel) (sh_86 g T t7 GT A d G) (fun r8 w9 hw => ?_)
    obtain ⟨er8, rfl⟩ := hw
    have h := y_letF h er8
    refine ⟨([tabC T t7, dayC A d] ++ (tabR g T t7 GT ++ dayR g A d G) : List va_W), ⟨(sh_86 g T t7 GT A d G), rfl, rfl⟩, ?_⟩
    refine y_iadd C dX5_step_81 ?_
    obtain ⟨t9, et9⟩ : ∃ z : RV, z = rvI t7 1 (m6 + r8) := ⟨_, rfl⟩
    have h := y_letF h et9
    refine y_put (Cn := RX5) (T := TX5) (N := 10) (v := .int (m6 + r8)) (ty0 := tyX5) (L1 := ([tabC T t9, dayC A d] ++ (tabR g T t9 GT ++ dayR g A d G) : List va_W)) C dX5_step_82 hX5_step_X5 0 (sh_67 g T t7 GT A d G) rfl 6 (Nat.le_of_ble_eq_true rfl) kX5_step_2 tyX5_ok nmX5 rfl rfl rfl (Nat.le_of_ble_eq_true rfl) (sh_80 g T t7 GT A d G (m6 + r8) t9 et9) ?_
    refine y_aload_n C dX5_step_85 6 rfl rfl ?_
    refine y_dup C dX5_step_86 rfl ?_
    refine y_get (Cn := RX5) (T := TX5) (N := 10) (v := .int (t9.2 2)) C dX5_step_87 hX5_step_X5 0 (sh_67 g T t9 GT A d G) rfl 7 (Nat.le_of_ble_eq_true rfl) kX5_step_9 rfl ?_
    refine y_iload C dX5_step_90 4 rfl ?_
    refine y_if_eq (tgt := 99) C dX5_step_92 rfl (y_same (c := r2 = 0) h) (fun c92 h => ?_) (fun c92 h => ?_)
    · refine y_iconst (v := 1) C dX5_step_99 (by decide) ?_
      refine y_iadd C dX5_step_100 ?_
      obtain ⟨t10, et10⟩ : ∃ z : RV, z = rvI t9 2 ((t9.2 2) + (1 : Int32)) := ⟨_, rfl⟩
      have h := y_letF h et10
      refine y_put (Cn := RX5) (T := TX5) (N := 10) (v := .int ((t9.2 2) + (1 : Int32))) (ty0 := tyX5) (L1 := ([tabC T t10, dayC A d] ++ (tabR g T t10 GT ++ dayR g A d G) : List va_W)) C dX5_step_101 hX5_step_X5 0 (sh_67 g T t9 GT A d G) rfl 7 (Nat.le_of_ble_eq_true rfl) kX5_step_9 tyX5_ok nmX5 rfl rfl rfl (Nat.le_of_ble_eq_true rfl) (sh_82 g T t9 GT A d G ((t9.2 2) + (1 : Int32)) t10 et10) ?_
      refine y_aload_n C dX5_step_104 6 rfl rfl ?_
      refine y_dup C dX5_step_105 rfl ?_
      refine y_get (Cn := RX5) (T := TX5) (N := 10) (v := .int (t10.2 3)) C dX5_step_106 hX5_step_X5 0 (sh_67 g T t10 GT A d G) rfl 8 (Nat.le_of_ble_eq_true rfl) kX5_step_10 rfl ?_
      refine y_iload C dX5_step_109 2 rfl ?_
      refine y_iadd C dX5_step_111 ?_
      obtain ⟨t11, et11⟩ : ∃ z : RV, z = rvI t10 3 ((t10.2 3) + r4) := ⟨_, rfl⟩
      have h := y_letF h et11
      refine y_put (Cn := RX5) (T := TX5) (N := 10) (v := .int ((t10.2 3) + r4)) (ty0 := tyX5) (L1 := ([tabC T t11, dayC A d] ++ (tabR g T t11 GT ++ dayR g A d G) : List va_W)) C dX5_step_112 hX5_step_X5 0 (sh_67 g T t10 GT A d G) rfl 8 (Nat.le_of_ble_eq_true rfl) kX5_step_10 tyX5_ok nmX5 rfl rfl rfl (Nat.le_of_ble_eq_true rfl) (sh_83 g T t10 GT A d G ((t10.2 3) + r4) t11 et11) ?_
      refine y_aload_n C dX5_step_115 6 rfl rfl ?_
      refine y_dup C dX5_step_116 rfl ?_
      refine y_get (Cn := RX5) (T := TX5) (N := 10) (v := .int (t11.2 4)) C dX5_step_117 hX5_step_X5 0 (sh_67 g T t11 GT A d G) rfl 9 (Nat.le_of_ble_eq_true rfl) kX5_step_11 rfl ?_
      refine y_iload C dX5_step_120 0 rfl ?_
      refine y_iload C dX5_step_122 1 rfl ?_
      refine y_isub C dX5_step_124 ?_
      refine y_iadd C dX5_step_125 ?_
      obtain ⟨t12, et12⟩ : ∃ z : RV, z = rvI t11 4 ((t11.2 4) + (m6 - ((t.2 1) + r4))) := ⟨_, rfl⟩
      have h := y_letF h et12
      refine y_put (Cn := RX5) (T := TX5) (N := 10) (v := .int ((t11.2 4) + (m6 - ((t.2 1) + r4)))) (ty0 := tyX5) (L1 := ([tabC T t12, dayC A d] ++ (tabR g T t12 GT ++ dayR g A d G) : List va_W)) C dX5_step_126 hX5_step_X5 0 (sh_67 g T t11 GT A d G) rfl 9 (Nat.le_of_ble_eq_true rfl) kX5_step_11 tyX5_ok nmX5 rfl rfl rfl (Nat.le_of_ble_eq_true rfl) (sh_84 g T t11 GT A d G ((t11.2 4) + (m6 - ((t.2 1) + r4))) t12 et12) ?_
      refine y_aload_n C dX5_step_129 6 rfl rfl ?_
      refine y_get (Cn := RX5) (T := TX5) (N := 10) (v := .ref (T 1)) C dX5_step_130 hX5_step_X5 0 (sh_67 g T t12 GT A d G) rfl 0 (Nat.le_of_ble_eq_true rfl) kX5_step_12 rfl ?_
      refine y_iload C dX5_step_133 0 rfl ?_
      refine y_callVv (As := [.int m6]) (rest := []) C dX5_step_135 (c_X3_add g (T 1) (T 2) 34 (t12.1 0) (GT 0) m6 (by decide)) rfl rfl rfl rfl ⟨Nat.le_of_ble_eq_true rfl, Nat.le_of_ble_eq_true rfl⟩ gX5_step_X3_add (nA := 1) (by decide +kernel) rfl (rowW_recv ⟨_, rfl⟩) (Nat.le_of_ble_eq_true rfl) ⟨Nat.le_of_ble_eq_true rfl, Nat.le_of_ble_eq_true rfl⟩ [2] [0, 1, 3, 4, 5, 6, 7, 8, 9, 10, 11, 12, 13, 14, 15, 16, 17, 18] (nB := 19) rfl (by decide +kernel) (sh_68 g T t12 GT A d G) (fun w9 hw => ?_)
      obtain ⟨y13, G14, e15, rfl⟩ := hw
      obtain ⟨t16, et16⟩ : ∃ z : RV, z = rvR t12 0 y13 := ⟨_, rfl⟩
      obtain ⟨G17, eG17⟩ : ∃ z : Nat → Nat → Int32, z = gs GT 0 G14 := ⟨_, rfl⟩
      have h := y_letF h (show t16 = rvR t12 0 (rAdd 34 (t12.1 0) m6) by rw [et16, e15])
      refine ⟨([tabC T t16, dayC A d] ++ (tabR g T t16 G17 ++ dayR g A d G) : List va_W), (sh_69 g T t12 GT A d G y13 G14 t16 G17 et16 eG17), ?_⟩
      refine y_aload_n C dX5_step_138 6 rfl rfl ?_
      refine y_get (Cn := RX5) (T := TX5) (N := 10) (v := .ref (T 3)) C dX5_step_139 hX5_step_X5 0 (sh_67 g T t16 G17 A d G) rfl 1 (Nat.le_of_ble_eq_true rfl) kX5_step_13 rfl ?_
      refine y_aload_n C dX5_step_142 6 rfl rfl ?_
      refine y_get (Cn := RX5) (T := TX5) (N := 10) (v := .int (t16.2 2)) C dX5_step_143 hX5_step_X5 0 (sh_67 g T t16 G17 A d G) rfl 7 (Nat.le_of_ble_eq_true rfl) kX5_step_9 rfl ?_
      refine y_callVv (As := [.int (t16.2 2)]) (rest := []) C dX5_step_146 (c_X3_add g (T 3) (T 4) 34 (t16.1 1) (G17 1) (t16.2 2) (by decide)) rfl rfl rfl rfl ⟨Nat.le_of_ble_eq_true rfl, Nat.le_of_ble_eq_true rfl⟩ gX5_step_X3_add (nA := 1) (by decide +kernel) rfl (rowW_recv ⟨_, rfl⟩) (Nat.le_of_ble_eq_true rfl) ⟨Nat.le_of_ble_eq_true rfl, Nat.le_of_ble_eq_true rfl⟩ [3] [0, 1, 2, 4, 5, 6, 7, 8, 9, 10, 11, 12, 13, 14, 15, 16, 17, 18] (nB := 19) rfl (by decide +kernel) (sh_70 g T t16 G17 A d G) (fun w9 hw => ?_)
      obtain ⟨y18, G19, e20, rfl⟩ := hw
      obtain ⟨t21, et21⟩ : ∃ z : RV, z = rvR t16 1 y18 := ⟨_, rfl⟩
      obtain ⟨G22, eG22⟩ : ∃ z : Nat → Nat → Int32, z = gs G17 1 G19 := ⟨_, rfl⟩
      have h := y_letF h (show t21 = rvR t16 1 (rAdd 34 (t16.1 1) (t16.2 2)) by rw [et21, e20])
      refine ⟨([tabC T t21, dayC A d] ++ (tabR g T t21 G22 ++ dayR g A d G) : List va_W), (sh_71 g T t16 G17 A d G y18 G19 t21 G22 et21 eG22), ?_⟩
      refine y_aload_n C dX5_step_149 6 rfl rfl ?_
      refine y_get (Cn := RX5) (T := TX5) (N := 10) (v := .ref (T 5)) C dX5_step_150 hX5_step_X5 0 (sh_67 g T t21 G22 A d G) rfl 2 (Nat.le_of_ble_eq_true rfl) kX5_step_14 rfl ?_
      refine y_iload C dX5_step_153 0 rfl ?_
      refine y_iload C dX5_step_155 1 rfl ?_
      refine y_isub C dX5_step_157 ?_
      refine y_callVv (As := [.int (m6 - ((t.2 1) + r4))]) (rest := []) C dX5_step_158 (c_X3_add g (T 5) (T 6) 34 (t21.1 2) (G22 2) (m6 - ((t.2 1) + r4)) (by decide)) rfl rfl rfl rfl ⟨Nat.le_of_ble_eq_true rfl, Nat.le_of_ble_eq_true rfl⟩ gX5_step_X3_add (nA := 1) (by decide +kernel) rfl (rowW_recv ⟨_, rfl⟩) (Nat.le_of_ble_eq_true rfl) ⟨Nat.le_of_ble_eq_true rfl, Nat.le_of_ble_eq_true rfl⟩ [4] [0, 1, 2, 3, 5, 6, 7, 8, 9, 10, 11, 12, 13, 14, 15, 16, 17, 18] (nB := 19) rfl (by decide +kernel) (sh_72 g T t21 G22 A d G) (fun w9 hw => ?_)
      obtain ⟨y23, G24, e25, rfl⟩ := hw
      obtain ⟨t26, et26⟩ : ∃ z : RV, z = rvR t21 2 y23 := ⟨_, rfl⟩
      obtain ⟨G27, eG27⟩ : ∃ z : Nat → Nat → Int32, z = gs G22 2 G24 := ⟨_, rfl⟩
      have h := y_letF h (show t26 = rvR t21 2 (rAdd 34 (t21.1 2) (m6 - ((t.2 1) + r4))) by rw [et26, e25])
      refine ⟨([tabC T t26, dayC A d] ++ (tabR g T t26 G27 ++ dayR g A d G) : List va_W), (sh_73 g T t21 G22 A d G y23 G24 t26 G27 et26 eG27), ?_⟩
      refine y_iload C dX5_step_161 4 rfl ?_
      refine y_if_ne (tgt := 197) C dX5_step_163 rfl (y_same (c := r2 = 0) h) (fun c163 h => ?_) (fun c163 h => ?_)
      · exact absurd c41 c163
      · refine y_aload_n C dX5_step_166 6 rfl rfl ?_
        refine y_get (Cn := RX5) (T := TX5) (N := 10) (v := .ref (T 7)) C dX5_step_167 hX5_step_X5 0 (sh_67 g T t26 G27 A d G) rfl 3 (Nat.le_of_ble_eq_true rfl) kX5_step_15 rfl ?_
        refine y_iload_n C dX5_step_170 5 rfl rfl ?_
        refine y_iload C dX5_step_171 0 rfl ?_
        refine y_callVv (As := [.int r1, .int m6]) (rest := []) C dX5_step_173 (c_X3_change g (T 7) (T 8) 17 (t26.1 3) (G27 3) r1 m6 (by decide)) rfl rfl rfl rfl ⟨Nat.le_of_ble_eq_true rfl, Nat.le_of_ble_eq_true rfl⟩ gX5_step_X3_change (nA := 2) (by decide +kernel) rfl (rowW_recv ⟨_, rfl⟩) (Nat.le_of_ble_eq_true rfl) ⟨Nat.le_of_ble_eq_true rfl, Nat.le_of_ble_eq_true rfl⟩ [5] [0, 1, 2, 3, 4, 6, 7, 8, 9, 10, 11, 12, 13, 14, 15, 16, 17, 18] (nB := 19) rfl (by decide +kernel) (sh_85 g T t26 G27 A d G) (fun w9 hw => ?_)
        obtain ⟨y28, G29, e30, rfl⟩ := hw
        obtain ⟨t31, et31⟩ : ∃ z : RV, z = rvR t26 3 y28 := ⟨_, rfl⟩
        obtain ⟨G32, eG32⟩ : ∃ z : Nat → Nat → Int32, z = gs G27 3 G29 := ⟨_, rfl⟩
        have h := y_letF h (show t31 = rvR t26 3 (rSet (t26.1 3) r1 m6) by rw [et31, e30])
        refine ⟨([tabC T t31, dayC A d] ++ (tabR g T t31 G32 ++ dayR g A d G) : List va_W), (sh_90 g T t26 G27 A d G y28 G29 t31 G32 et31 eG32), ?_⟩
        refine y_aload_n C dX5_step_176 6 rfl rfl ?_
        refine y_get (Cn := RX5) (T := TX5) (N := 10) (v := .int (t31.2 2)) C dX5_step_177 hX5_step_X5 0 (sh_67 g T t31 G32 A d G) rfl 7 (Nat.le_of_ble_eq_true rfl) kX5_step_9 rfl ?_
        refine y_aload_n C dX5_step_180 7 rfl rfl ?_
        refine y_get (Cn := RX0) (T := TX0) (N := 15) (v := .ref (A 1)) C dX5_step_181 hX5_step_X0 1 (sh_74 g T t31 G32 A d G) rfl 0 (Nat.le_of_ble_eq_true rfl) kX5_step_8 rfl ?_
        refine y_iconst (v := 0) C dX5_step_184 (by decide) ?_
        refine y_callV (As := [.int (0 : Int32)]) (rest := [.int (t31.2 2)]) C dX5_step_185 (c_X3_at g (A 1) (A 2) 3 (d.1 0) (G 0) (0 : Int32) (by decide)) rfl rfl rfl rfl ⟨Nat.le_of_ble_eq_true rfl, Nat.le_of_ble_eq_true rfl⟩ gX5_step_X3_at (nA := 1) (by decide +kernel) rfl (rowW_recv ⟨_, rfl⟩) (Nat.le_of_ble_eq_true rfl) ⟨Nat.le_of_ble_eq_true rfl, Nat.le_of_ble_eq_true rfl⟩ [7] [0, 1, 2, 3, 4, 5, 6, 8, 9, 10, 11, 12, 13, 14, 15, 16, 17, 18] (nB := 19) rfl (by decide +kernel) (sh_86 g T t31 G32 A d G) (fun r33 w9 hw => ?_)
        obtain ⟨er33, rfl⟩ := hw
        have h := y_letF h er33
        refine ⟨([tabC T t31, dayC A d] ++ (tabR g T t31 G32 ++ dayR g A d G) : List va_W), ⟨(sh_86 g T t31 G32 A d G), rfl, rfl⟩, ?_⟩
        refine y_icmp_gt (tgt := 195) C dX5_step_188 rfl (y_e h) (fun c188 h => ?_) (fun c188 h => ?_)
        · refine y_iconst (v := 0) C dX5_step_195 (by decide) ?_
          exact HR 196 dX5_step_196 (0 : Int32) _ _ _ _ (rfl) (Nat.le_of_ble_eq_true rfl) (Nat.le_of_ble_eq_true rfl) ⟨by rw [h], t31, G32, by rw [h], rfl⟩
        · refine y_iconst (v := 1) C dX5_step_191 (by decide) ?_
          refine y_goto (tgt := 196) C dX5_step_192 rfl ?_
          exact HR 196 dX5_step_196 (1 : Int32) _ _ _ _ (rfl) (Nat.le_of_ble_eq_true rfl) (Nat.le_of_ble_eq_true rfl) ⟨by rw [h], t31, G32, by rw [h], rfl⟩
    · exact absurd c41 c92
  · refine y_iload C dX5_step_44 0 rfl ?_
    refine y_goto (tgt := 62) C dX5_step_46 rfl ?_
    refine y_istore (lv' := [(8, .int ((t.2 1) + r4)), (7, .int ((t.2 1) + r4)), (6, .int r4), (5, .int r3), (4, .int r2), (3, .int r1), (0, .ref (T 0)), (1, .ref (A 0)), (2, .int v)]) C dX5_step_62 (Nat.le_of_ble_eq_true rfl) rfl ?_
    refine y_aload_n C dX5_step_64 6 rfl rfl ?_
    refine y_iload C dX5_step_65 3 rfl ?_
    obtain ⟨t34, et34⟩ : ∃ z : RV, z = rvI t 0 r3 := ⟨_, rfl⟩
    have h := y_letF h et34
    refine y_put (Cn := RX5) (T := TX5) (N := 10) (v := .int r3) (ty0 := tyX5) (L1 := ([tabC T t34, dayC A d] ++ (tabR g T t34 GT ++ dayR g A d G) : List va_W)) C dX5_step_67 hX5_step_X5 0 (sh_67 g T t GT A d G) rfl 5 (Nat.le_of_ble_eq_true rfl) kX5_step_1 tyX5_ok nmX5 rfl rfl rfl (Nat.le_of_ble_eq_true rfl) (sh_79 g T t GT A d G r3 t34 et34) ?_
    refine y_aload_n C dX5_step_70 6 rfl rfl ?_
    refine y_iload C dX5_step_71 0 rfl ?_
    refine y_aload_n C dX5_step_73 7 rfl rfl ?_
    refine y_get (Cn := RX0) (T := TX0) (N := 15) (v := .ref (A 1)) C dX5_step_74 hX5_step_X0 1 (sh_74 g T t34 GT A d G) rfl 0 (Nat.le_of_ble_eq_true rfl) kX5_step_8 rfl ?_
    refine y_iconst (v := 2) C dX5_step_77 (by decide) ?_
    refine y_callV (As := [.int (2 : Int32)]) (rest := [.int ((t.2 1) + r4), .ref (T 0)]) C dX5_step_78 (c_X3_at g (A 1) (A 2) 3 (d.1 0) (G 0) (2 : Int32) (by decide)) rfl rfl rfl rfl ⟨Nat.le_of_ble_eq_true rfl, Nat.le_of_ble_eq_true rfl⟩ gX5_step_X3_at (nA := 1) (by decide +kernel) rfl (rowW_recv ⟨_, rfl⟩) (Nat.le_of_ble_eq_true rfl) ⟨Nat.le_of_ble_eq_true rfl, Nat.le_of_ble_eq_true rfl⟩ [7] [0, 1, 2, 3, 4, 5, 6, 8, 9, 10, 11, 12, 13, 14, 15, 16, 17, 18] (nB := 19) rfl (by decide +kernel) (sh_86 g T t34 GT A d G) (fun r35 w9 hw => ?_)
    obtain ⟨er35, rfl⟩ := hw
    have h := y_letF h er35
    refine ⟨([tabC T t34, dayC A d] ++ (tabR g T t34 GT ++ dayR g A d G) : List va_W), ⟨(sh_86 g T t34 GT A d G), rfl, rfl⟩, ?_⟩
    refine y_iadd C dX5_step_81 ?_
    obtain ⟨t36, et36⟩ : ∃ z : RV, z = rvI t34 1 (((t.2 1) + r4) + r35) := ⟨_, rfl⟩
    have h := y_letF h et36
    refine y_put (Cn := RX5) (T := TX5) (N := 10) (v := .int (((t.2 1) + r4) + r35)) (ty0 := tyX5) (L1 := ([tabC T t36, dayC A d] ++ (tabR g T t36 GT ++ dayR g A d G) : List va_W)) C dX5_step_82 hX5_step_X5 0 (sh_67 g T t34 GT A d G) rfl 6 (Nat.le_of_ble_eq_true rfl) kX5_step_2 tyX5_ok nmX5 rfl rfl rfl (Nat.le_of_ble_eq_true rfl) (sh_80 g T t34 GT A d G (((t.2 1) + r4) + r35) t36 et36) ?_
    refine y_aload_n C dX5_step_85 6 rfl rfl ?_
    refine y_dup C dX5_step_86 rfl ?_
    refine y_get (Cn := RX5) (T := TX5) (N := 10) (v := .int (t36.2 2)) C dX5_step_87 hX5_step_X5 0 (sh_67 g T t36 GT A d G) rfl 7 (Nat.le_of_ble_eq_true rfl) kX5_step_9 rfl ?_
    refine y_iload C dX5_step_90 4 rfl ?_
    refine y_if_eq (tgt := 99) C dX5_step_92 rfl (y_same (c := r2 = 0) h) (fun c92 h => ?_) (fun c92 h => ?_)
    · exact absurd c92 c41
    · refine y_iconst (v := -1) C dX5_step_95 (by decide) ?_
      refine y_goto (tgt := 100) C dX5_step_96 rfl ?_
      refine y_iadd C dX5_step_100 ?_
      obtain ⟨t37, et37⟩ : ∃ z : RV, z = rvI t36 2 ((t36.2 2) + (-1 : Int32)) := ⟨_, rfl⟩
      have h := y_letF h et37
      refine y_put (Cn := RX5) (T := TX5) (N := 10) (v := .int ((t36.2 2) + (-1 : Int32))) (ty0 := tyX5) (L1 := ([tabC T t37, dayC A d] ++ (tabR g T t37 GT ++ dayR g A d G) : List va_W)) C dX5_step_101 hX5_step_X5 0 (sh_67 g T t36 GT A d G) rfl 7 (Nat.le_of_ble_eq_true rfl) kX5_step_9 tyX5_ok nmX5 rfl rfl rfl (Nat.le_of_ble_eq_true rfl) (sh_82 g T t36 GT A d G ((t36.2 2) + (-1 : Int32)) t37 et37) ?_
      refine y_aload_n C dX5_step_104 6 rfl rfl ?_
      refine y_dup C dX5_step_105 rfl ?_
      refine y_get (Cn := RX5) (T := TX5) (N := 10) (v := .int (t37.2 3)) C dX5_step_106 hX5_step_X5 0 (sh_67 g T t37 GT A d G) rfl 8 (Nat.le_of_ble_eq_true rfl) kX5_step_10 rfl ?_
      refine y_iload C dX5_step_109 2 rfl ?_
      refine y_iadd C dX5_step_111 ?_
      obtain ⟨t38, et38⟩ : ∃ z : RV, z = rvI t37 3 ((t37.2 3) + r4) := ⟨_, rfl⟩
      have h := y_letF h et38
      refine y_put (Cn := RX5) (T := TX5) (N := 10) (v := .int ((t37.2 3) + r4)) (ty0 := tyX5) (L1 := ([tabC T t38, dayC A d] ++ (tabR g T t38 GT ++ dayR g A d G) : List va_W)) C dX5_step_112 hX5_step_X5 0 (sh_67 g T t37 GT A d G) rfl 8 (Nat.le_of_ble_eq_true rfl) kX5_step_10 tyX5_ok nmX5 rfl rfl rfl (Nat.le_of_ble_eq_true rfl) (sh_83 g T t37 GT A d G ((t37.2 3) + r4) t38 et38) ?_
      refine y_aload_n C dX5_step_115 6 rfl rfl ?_
      refine y_dup C dX5_step_116 rfl ?_
      refine y_get (Cn := RX5) (T := TX5) (N := 10) (v := .int (t38.2 4)) C dX5_step_117 hX5_step_X5 0 (sh_67 g T t38 GT A d G) rfl 9 (Nat.le_of_ble_eq_true rfl) kX5_step_11 rfl ?_
      refine y_iload C dX5_step_120 0 rfl ?_
      refine y_iload C dX5_step_122 1 rfl ?_
      refine y_isub C dX5_step_124 ?_
      refine y_iadd C dX5_step_125 ?_
      obtain ⟨t39, et39⟩ : ∃ z : RV, z = rvI t38 4 ((t38.2 4) + (((t.2 1) + r4) - ((t.2 1) + r4))) := ⟨_, rfl⟩
      have h := y_letF h et39
      refine y_put (Cn := RX5) (T := TX5) (N := 10) (v := .int ((t38.2 4) + (((t.2 1) + r4) - ((t.2 1) + r4)))) (ty0 := tyX5) (L1 := ([tabC T t39, dayC A d] ++ (tabR g T t39 GT ++ dayR g A d G) : List va_W)) C dX5_step_126 hX5_step_X5 0 (sh_67 g T t38 GT A d G) rfl 9 (Nat.le_of_ble_eq_true rfl) kX5_step_11 tyX5_ok nmX5 rfl rfl rfl (Nat.le_of_ble_eq_true rfl) (sh_84 g T t38 GT A d G ((t38.2 4) + (((t.2 1) + r4) - ((t.2 1) + r4))) t39 et39) ?_
      refine y_aload_n C dX5_step_129 6 rfl rfl ?_
      refine y_get (Cn := RX5) (T := TX5) (N := 10) (v := .ref (T 1)) C dX5_step_130 hX5_step_X5 0 (sh_67 g T t39 GT A d G) rfl 0 (Nat.le_of_ble_eq_true rfl) kX5_step_12 rfl ?_
      refine y_iload C dX5_step_133 0 rfl ?_
      refine y_callVv (As := [.int ((t.2 1) + r4)]) (rest := []) C dX5_step_135 (c_X3_add g (T 1) (T 2) 34 (t39.1 0) (GT 0) ((t.2 1) + r4) (by decide)) rfl rfl rfl rfl ⟨Nat.le_of_ble_eq_true rfl, Nat.le_of_ble_eq_true rfl⟩ gX5_step_X3_add (nA := 1) (by decide +kernel) rfl (rowW_recv ⟨_, rfl⟩) (Nat.le_of_ble_eq_true rfl) ⟨Nat.le_of_ble_eq_true rfl, Nat.le_of_ble_eq_true rfl⟩ [2] [0, 1, 3, 4, 5, 6, 7, 8, 9, 10, 11, 12, 13, 14, 15, 16, 17, 18] (nB := 19) rfl (by decide +kernel) (sh_68 g T t39 GT A d G) (fun w9 hw => ?_)
      obtain ⟨y40, G41, e42, rfl⟩ := hw
      obtain ⟨t43, et43⟩ : ∃ z : RV, z = rvR t39 0 y40 := ⟨_, rfl⟩
      obtain ⟨G44, eG44⟩ : ∃ z : Nat → Nat → Int32, z = gs GT 0 G41 := ⟨_, rfl⟩
      have h := y_letF h (show t43 = rvR t39 0 (rAdd 34 (t39.1 0) ((t.2 1) + r4)) by rw [et43, e42])
      refine ⟨([tabC T t43, dayC A d] ++ (tabR g T t43 G44 ++ dayR g A d G) : List va_W), (sh_69 g T t39 GT A d G y40 G41 t43 G44 et43 eG44), ?_⟩
      refine y_aload_n C dX5_step_138 6 rfl rfl ?_
      refine y_get (Cn := RX5) (T := TX5) (N := 10) (v := .ref (T 3)) C dX5_step_139 hX5_step_X5 0 (sh_67 g T t43 G44 A d G) rfl 1 (Nat.le_of_ble_eq_true rfl) kX5_step_13 rfl ?_
      refine y_aload_n C dX5_step_142 6 rfl rfl ?_
      refine y_get (Cn := RX5) (T := TX5) (N := 10) (v := .int (t43.2 2)) C dX5_step_143 hX5_step_X5 0 (sh_67 g T t43 G44 A d G) rfl 7 (Nat.le_of_ble_eq_true rfl) kX5_step_9 rfl ?_
      refine y_callVv (As := [.int (t43.2 2)]) (rest := []) C dX5_step_146 (c_X3_add g (T 3) (T 4) 34 (t43.1 1) (G44 1) (t43.2 2) (by decide)) rfl rfl rfl rfl ⟨Nat.le_of_ble_eq_true rfl, Nat.le_of_ble_eq_true rfl⟩ gX5_step_X3_add (nA := 1) (by decide +kernel) rfl (rowW_recv ⟨_, rfl⟩) (Nat.le_of_ble_eq_true rfl) ⟨Nat.le_of_ble_eq_true rfl, Nat.le_of_ble_eq_true rfl⟩ [3] [0, 1, 2, 4, 5, 6, 7, 8, 9, 10, 11, 12, 13, 14, 15, 16, 17, 18] (nB := 19) rfl (by decide +kernel) (sh_70 g T t43 G44 A d G) (fun w9 hw => ?_)
      obtain ⟨y45, G46, e47, rfl⟩ := hw
      obtain ⟨t48, et48⟩ : ∃ z : RV, z = rvR t43 1 y45 := ⟨_, rfl⟩
      obtain ⟨G49, eG49⟩ : ∃ z : Nat → Nat → Int32, z = gs G44 1 G46 := ⟨_, rfl⟩
      have h := y_letF h (show t48 = rvR t43 1 (rAdd 34 (t43.1 1) (t43.2 2)) by rw [et48, e47])
      refine ⟨([tabC T t48, dayC A d] ++ (tabR g T t48 G49 ++ dayR g A d G) : List va_W), (sh_71 g T t43 G44 A d G y45 G46 t48 G49 et48 eG49), ?_⟩
      refine y_aload_n C dX5_step_149 6 rfl rfl ?_
      refine y_get (Cn := RX5) (T := TX5) (N := 10) (v := .ref (T 5)) C dX5_step_150 hX5_step_X5 0 (sh_67 g T t48 G49 A d G) rfl 2 (Nat.le_of_ble_eq_true rfl) kX5_step_14 rfl ?_
      refine y_iload C dX5_step_153 0 rfl ?_
      refine y_iload C dX5_step_155 1 rfl ?_
      refine y_isub C dX5_step_157 ?_
      refine y_callVv (As := [.int (((t.2 1) + r4) - ((t.2 1) + r4))]) (rest := []) C dX5_step_158 (c_X3_add g (T 5) (T 6) 34 (t48.1 2) (G49 2) (((t.2 1) + r4) - ((t.2 1) + r4)) (by decide)) rfl rfl rfl rfl ⟨Nat.le_of_ble_eq_true rfl, Nat.le_of_ble_eq_true rfl⟩ gX5_step_X3_add (nA := 1) (by decide +kernel) rfl (rowW_recv ⟨_, rfl⟩) (Nat.le_of_ble_eq_true rfl) ⟨Nat.le_of_ble_eq_true rfl, Nat.le_of_ble_eq_true rfl⟩ [4] [0, 1, 2, 3, 5, 6, 7, 8, 9, 10, 11, 12, 13, 14, 15, 16, 17, 18] (nB := 19) rfl (by decide +kernel) (sh_72 g T t48 G49 A d G) (fun w9 hw => ?_)
      obtain ⟨y50, G51, e52, rfl⟩ := hw
      obtain ⟨t53, et53⟩ : ∃ z : RV, z = rvR t48 2 y50 := ⟨_, rfl⟩
      obtain ⟨G54, eG54⟩ : ∃ z : Nat → Nat → Int32, z = gs G49 2 G51 := ⟨_, rfl⟩
      have h := y_letF h (show t53 = rvR t48 2 (rAdd 34 (t48.1 2) (((t.2 1) + r4) - ((t.2 1) + r4))) by rw [et53, e52])
      refine ⟨([tabC T t53, dayC A d] ++ (tabR g T t53 G54 ++ dayR g A d G) : List va_W), (sh_73 g T t48 G49 A d G y50 G51 t53 G54 et53 eG54), ?_⟩
      refine y_iload C dX5_step_161 4 rfl ?_
      refine y_if_ne (tgt := 197) C dX5_step_163 rfl (y_same (c := r2 = 0) h) (fun c163 h => ?_) (fun c163 h => ?_)
      · refine y_aload_n C dX5_step_197 6 rfl rfl ?_
        refine y_get (Cn := RX5) (T := TX5) (N := 10) (v := .ref (T 9)) C dX5_step_198 hX5_step_X5 0 (sh_67 g T t53 G54 A d G) rfl 4 (Nat.le_of_ble_eq_true rfl) kX5_step_16 rfl ?_
        refine y_iload_n C dX5_step_201 5 rfl rfl ?_
        refine y_iload C dX5_step_202 0 rfl ?_
        refine y_callVv (As := [.int r1, .int ((t.2 1) + r4)]) (rest := []) C dX5_step_204 (c_X3_change g (T 9) (T 10) 17 (t53.1 4) (G54 4) r1 ((t.2 1) + r4) (by decide)) rfl rfl rfl rfl ⟨Nat.le_of_ble_eq_true rfl, Nat.le_of_ble_eq_true rfl⟩ gX5_step_X3_change (nA := 2) (by decide +kernel) rfl (rowW_recv ⟨_, rfl⟩) (Nat.le_of_ble_eq_true rfl) ⟨Nat.le_of_ble_eq_true rfl, Nat.le_of_ble_eq_true rfl⟩ [6] [0, 1, 2, 3, 4, 5, 7, 8, 9, 10, 11, 12, 13, 14, 15, 16, 17, 18] (nB := 19) rfl (by decide +kernel) (sh_91 g T t53 G54 A d G) (fun w9 hw => ?_)
        obtain ⟨y55, G56, e57, rfl⟩ := hw
        obtain ⟨t58, et58⟩ : ∃ z : RV, z = rvR t53 4 y55 := ⟨_, rfl⟩
        obtain ⟨G59, eG59⟩ : ∃ z : Nat → Nat → Int32, z = gs G54 4 G56 := ⟨_, rfl⟩
        have h := y_letF h (show t58 = rvR t53 4 (rSet (t53.1 4) r1 ((t.2 1) + r4)) by rw [et58, e57])
        refine ⟨([tabC T t58, dayC A d] ++ (tabR g T t58 G59 ++ dayR g A d G) : List va_W), (sh_92 g T t53 G54 A d G y55 G56 t58 G59 et58 eG59), ?_⟩
        refine y_iload C dX5_step_207 0 rfl ?_
        refine y_aload_n C dX5_step_209 7 rfl rfl ?_
        refine y_get (Cn := RX0) (T := TX0) (N := 15) (v := .ref (A 13)) C dX5_step_210 hX5_step_X0 1 (sh_74 g T t58 G59 A d G) rfl 6 (Nat.le_of_ble_eq_true rfl) kX5_step_17 rfl ?_
        refine y_iload_n C dX5_step_213 5 rfl rfl ?_
        refine y_callV (As := [.int r1]) (rest := [.int ((t.2 1) + r4)]) C dX5_step_214 (c_X3_at g (A 13) (A 14) 17 (d.1 6) (G 6) r1 (by decide)) rfl rfl rfl rfl ⟨Nat.le_of_ble_eq_true rfl, Nat.le_of_ble_eq_true rfl⟩ gX5_step_X3_at (nA := 1) (by decide +kernel) rfl (rowW_recv ⟨_, rfl⟩) (Nat.le_of_ble_eq_true rfl) ⟨Nat.le_of_ble_eq_true rfl, Nat.le_of_ble_eq_true rfl⟩ [13] [0, 1, 2, 3, 4, 5, 6, 7, 8, 9, 10, 11, 12, 14, 15, 16, 17, 18] (nB := 19) rfl (by decide +kernel) (sh_93 g T t58 G59 A d G) (fun r60 w9 hw => ?_)
        obtain ⟨er60, rfl⟩ := hw
        have h := y_letF h er60
        refine ⟨([tabC T t58, dayC A d] ++ (tabR g T t58 G59 ++ dayR g A d G) : List va_W), ⟨(sh_93 g T t58 G59 A d G), rfl, rfl⟩, ?_⟩
        refine y_icmp_gt (tgt := 235) C dX5_step_217 rfl (y_e h) (fun c217 h => ?_) (fun c217 h => ?_)
        · refine y_iconst (v := 0) C dX5_step_235 (by decide) ?_
          exact HR 236 dX5_step_236 (0 : Int32) _ _ _ _ (rfl) (Nat.le_of_ble_eq_true rfl) (Nat.le_of_ble_eq_true rfl) ⟨by rw [h], t58, G59, by rw [h], rfl⟩
        · refine y_iload C dX5_step_220 0 rfl ?_
          refine y_aload_n C dX5_step_222 6 rfl rfl ?_
          refine y_aload_n C dX5_step_223 7 rfl rfl ?_
          refine y_iload_n C dX5_step_224 5 rfl rfl ?_
          refine y_callV (As := [.ref (A 0), .int r1]) (rest := [.int ((t.2 1) + r4)]) C dX5_step_225 (c_X5_latestByDetour g T t58 G59 A d G r1) rfl rfl rfl rfl ⟨Nat.le_of_ble_eq_true rfl, Nat.le_of_ble_eq_true rfl⟩ gX5_step_X5_latestByDetour (nA := 2) (by decide +kernel) rfl (sh_95 g T t58 G59 A d G) (Nat.le_of_ble_eq_true rfl) ⟨Nat.le_of_ble_eq_true rfl, Nat.le_of_ble_eq_true rfl⟩ [0, 1, 2, 3, 4, 5, 6, 7, 8, 9, 10, 11, 12, 13, 14, 15, 16, 17, 18] [] (nB := 19) rfl (by decide +kernel) (sh_94 g T t58 G59 A d G) (fun r61 w9 hw => ?_)
          obtain ⟨er61, rfl⟩ := hw
          have h := y_letF h er61
          refine ⟨([tabC T t58, dayC A d] ++ (tabR g T t58 G59 ++ dayR g A d G) : List va_W), ⟨(sh_94 g T t58 G59 A d G), rfl, rfl⟩, ?_⟩
          refine y_icmp_gt (tgt := 235) C dX5_step_228 rfl (y_e h) (fun c228 h => ?_) (fun c228 h => ?_)
          · refine y_iconst (v := 0) C dX5_step_235 (by decide) ?_
            exact HR 236 dX5_step_236 (0 : Int32) _ _ _ _ (rfl) (Nat.le_of_ble_eq_true rfl) (Nat.le_of_ble_eq_true rfl) ⟨by rw [h], t58, G59, by rw [h], rfl⟩
          · refine y_iconst (v := 1) C dX5_step_231 (by decide) ?_
            refine y_goto (tgt := 236) C dX5_step_232 rfl ?_
            exact HR 236 dX5_step_236 (1 : Int32) _ _ _ _ (rfl) (Nat.le_of_ble_eq_true rfl) (Nat.le_of_ble_eq_true rfl) ⟨by rw [h], t58, G59, by rw [h], rfl⟩
      · exact absurd c163 c41
end
section
theorem dX5_follow_0 : decode cX5_follow 0 = .ok (.aload_n 0, 1) := by decide +kernel
theorem dX5_follow_1 : decode cX5_follow 1 = .ok (.aload_n 1, 1) := by decide +kernel
theorem dX5_follow_2 : decode cX5_follow 2 = .ok (.invokevirtual 32, 3) := by decide +kernel
theorem dX5_follow_5 : decode cX5_follow 5 = .ok (.iconst 0, 1) := by decide +kernel
theorem dX5_follow_6 : decode cX5_follow 6 = .ok (.istore_n 2, 1) := by decide +kernel
theorem dX5_follow_7 : decode cX5_follow 7 = .ok (.iload_n 2, 1) := by decide +kernel
theorem dX5_follow_8 : decode cX5_follow 8 = .ok (.aload_n 1, 1) := by decide +kernel
theorem dX5_follow_9 : decode cX5_follow 9 = .ok (.getfield 36, 3) := by decide +kernel
theorem dX5_follow_12 : decode cX5_follow 12 = .ok (.invokevirtual 41, 3) := by decide +kernel
theorem dX5_follow_15 : decode cX5_follow 15 = .ok (.if_icmp .ge 23, 3) := by decide +kernel
theorem dX5_follow_18 : decode cX5_follow 18 = .ok (.aload_n 0, 1) := by decide +kernel
theorem dX5_follow_19 : decode cX5_follow 19 = .ok (.aload_n 1, 1) := by decide +kernel
theorem dX5_follow_20 : decode cX5_follow 20 = .ok (.aload_n 1, 1) := by decide +kernel
theorem dX5_follow_21 : decode cX5_follow 21 = .ok (.getfield 36, 3) := by decide +kernel
theorem dX5_follow_24 : decode cX5_follow 24 = .ok (.iload_n 2, 1) := by decide +kernel
theorem dX5_follow_25 : decode cX5_follow 25 = .ok (.invokevirtual 45, 3) := by decide +kernel
theorem dX5_follow_28 : decode cX5_follow 28 = .ok (.invokevirtual 49, 3) := by decide +kernel
theorem dX5_follow_31 : decode cX5_follow 31 = .ok (.pop, 1) := by decide +kernel
theorem dX5_follow_32 : decode cX5_follow 32 = .ok (.iinc 2 1, 3) := by decide +kernel
theorem dX5_follow_35 : decode cX5_follow 35 = .ok (.goto (-28), 3) := by decide +kernel
theorem dX5_follow_38 : decode cX5_follow 38 = .ok (.return_, 1) := by decide +kernel
set_option maxRecDepth 20000 in
theorem ggX5_follow_X3_length : GoodIn wsX5_follow wsX3_length := goodIn_r _ [45, 26, 124, 125] (by decide +kernel) (by decide +kernel)
set_option maxRecDepth 20000 in
theorem gX5_follow_X3_length : GoodIn wsX5_follow (wsV RX5 41 RX3 yX3_length wsX3_length) := goodIn_app (goodIn_of _ (by decide +kernel)) ggX5_follow_X3_length
set_option maxRecDepth 20000 in
theorem ggX5_follow_X3_at : GoodIn wsX5_follow wsX3_at := goodIn_r _ [49, 26, 31, 124, 125] (by decide +kernel) (by decide +kernel)
set_option maxRecDepth 20000 in
theorem gX5_follow_X3_at : GoodIn wsX5_follow (wsV RX5 45 RX3 yX3_at wsX3_at) := goodIn_app (goodIn_of _ (by decide +kernel)) ggX5_follow_X3_at
set_option maxRecDepth 20000 in
theorem ggX5_follow_X5_step : GoodIn wsX5_follow wsX5_step := goodIn_r _ [55, 15, 17, 56, 57, 58, 34, 59, 60, 18, 19, 20, 7, 8, 9, 10, 12, 61, 62, 63, 64, 65, 66, 67, 68, 69, 39, 70, 71, 72, 46, 47, 48, 24, 49, 26, 31, 73, 74, 75, 76, 77, 78, 79, 80, 81, 51, 82, 83, 84, 85, 86, 87, 88, 89, 90, 91, 92, 93, 94, 95, 96, 5, 97, 98, 114, 115, 116, 117, 118, 119, 120, 121, 122, 123, 99, 100, 101, 102, 103, 104, 105, 106, 107, 108, 109, 110, 111, 112, 113, 124, 125] (by decide +kernel) (by decide +kernel)
set_option maxRecDepth 20000 in
theorem gX5_follow_X5_step : GoodIn wsX5_follow (wsV RX5 49 RX5 yX5_step wsX5_step) := goodIn_app (goodIn_of _ (by decide +kernel)) ggX5_follow_X5_step
set_option maxRecDepth 20000 in
theorem ggX5_follow_X5_begin : GoodIn wsX5_follow wsX5_begin := goodIn_r _ [6, 7, 8, 9, 10, 11, 12, 13, 14, 15, 16, 17, 18, 19, 20, 21, 22, 23, 24, 25, 26, 27, 28, 29, 30, 31, 32, 33, 34, 35, 36, 37, 38, 39, 40, 41, 42, 43, 44, 45, 46, 47, 48, 49, 114, 115, 116, 117, 118, 119, 120, 121, 122, 123, 99, 100, 101, 102, 103, 104, 105, 106, 107, 108, 109, 110, 111, 112, 113, 124, 125] (by decide +kernel) (by decide +kernel)
set_option maxRecDepth 20000 in
theorem gX5_follow_X5_begin : GoodIn wsX5_follow (wsV RX5 32 RX5 yX5_begin wsX5_begin) := goodIn_app (goodIn_of _ (by decide +kernel)) ggX5_follow_X5_begin
theorem kX5_follow_1 : Cond.fieldLink RX5 36 "BookedDetours$Day" "route" "LBookedDetours$Row;" ∈ wsX5_follow := List.mem_of_getElem? (i := 1) (by decide +kernel)
theorem hX5_follow_X0 : ∀ w ∈ u_ws RX0 TX0 15, w ∈ wsX5_follow := fun _ h => List.mem_cons_of_mem _ (List.mem_append_left _ (List.mem_append_left _ (List.mem_append_right _ h)))
set_option maxHeartbeats 4000000 in
set_option maxRecDepth 100000 in
theorem w_X5_follow_7 {Z : yZ} (g : yG) (T : Nat → Nat) (A : Nat → Nat) (d : RV) (G : Nat → Nat → Int32) (C : yC Z g cX5_follow 3 wsX5_follow RX5) {post : List va_W → Prop} (HR : yRv Z ({ frames := 3, cells := 0, slots := 0, locals := 72 } : Room) cX5_follow post 0 0) {X7 : RV → Int32 → Prop} (hX7 : ∀ (t : RV) (x2 : Int32) (GT : Nat → Nat → Int32), X7 t x2 → yJ Z ({ frames := 3, cells := 0, slots := 0, locals := 72 } : Room) 0 0 ([tabC T t, dayC A d] ++ (tabR g T t GT ++ dayR g A d G) : List va_W) 7 [(0, .ref (T 0)), (1, .ref (A 0)), (2, .int x2)] []) {K : RV → Prop} (hK : ∀ (t : RV) (GT : Nat → Nat → Int32), K t → post ([tabC T t, dayC A d] ++ (tabR g T t GT ++ dayR g A d G) : List va_W)) (t : RV) (x2 : Int32) (GT : Nat → Nat → Int32) (h : wp_X5_follow_7 d X7 K t x2) : yJ Z ({ frames := 3, cells := 0, slots := 0, locals := 72 } : Room) 0 0 ([tabC T t, dayC A d] ++ (tabR g T t GT ++ dayR g A d G) : List va_W) 7 [(0, .ref (T 0)), (1, .ref (A 0)), (2, .int x2)] [] := by
  unfold wp_X5_follow_7 at h
  refine y_iload_n C dX5_follow_7 2 rfl rfl ?_
  refine y_aload_n C dX5_follow_8 1 rfl rfl ?_
  refine y_get (Cn := RX0) (T := TX0) (N := 15) (v := .ref (A 23)) C dX5_follow_9 hX5_follow_X0 1 (sh_74 g T t GT A d G) rfl 11 (Nat.le_of_ble_eq_true rfl) kX5_follow_1 rfl ?_
  refine y_callV (As := []) (rest := [.int x2]) C dX5_follow_12 (c_X3_length g (A 23) (A 24) 34 (d.1 11) (G 11) (by decide)) rfl rfl rfl rfl ⟨Nat.le_of_ble_eq_true rfl, Nat.le_of_ble_eq_true rfl⟩ gX5_follow_X3_length (nA := 0) (by decide +kernel) rfl (rowW_recv ⟨_, rfl⟩) (Nat.le_of_ble_eq_true rfl) ⟨Nat.le_of_ble_eq_true rfl, Nat.le_of_ble_eq_true rfl⟩ [18] [0, 1, 2, 3, 4, 5, 6, 7, 8, 9, 10, 11, 12, 13, 14, 15, 16, 17] (nB := 19) rfl (by decide +kernel) (sh_96 g T t GT A d G) (fun r1 w9 hw => ?_)
  obtain ⟨er1, rfl⟩ := hw
  have h := y_letP h er1
  refine ⟨([tabC T t, dayC A d] ++ (tabR g T t GT ++ dayR g A d G) : List va_W), ⟨(sh_96 g T t GT A d G), rfl, rfl⟩, ?_⟩
  refine y_icmp_ge (tgt := 38) C dX5_follow_15 rfl h (fun c15 h => ?_) (fun c15 h => ?_)
  · exact HR 38 dX5_follow_38 _ _ _ _ (Nat.le_of_ble_eq_true rfl) (Nat.le_of_ble_eq_true rfl) (hK _ _ h)
  · refine y_aload_n C dX5_follow_18 0 rfl rfl ?_
    refine y_aload_n C dX5_follow_19 1 rfl rfl ?_
    refine y_aload_n C dX5_follow_20 1 rfl rfl ?_
    refine y_get (Cn := RX0) (T := TX0) (N := 15) (v := .ref (A 23)) C dX5_follow_21 hX5_follow_X0 1 (sh_74 g T t GT A d G) rfl 11 (Nat.le_of_ble_eq_true rfl) kX5_follow_1 rfl ?_
    refine y_iload_n C dX5_follow_24 2 rfl rfl ?_
    refine y_callV (As := [.int x2]) (rest := [.ref (A 0), .ref (T 0)]) C dX5_follow_25 (c_X3_at g (A 23) (A 24) 34 (d.1 11) (G 11) x2 (by decide)) rfl rfl rfl rfl ⟨Nat.le_of_ble_eq_true rfl, Nat.le_of_ble_eq_true rfl⟩ gX5_follow_X3_at (nA := 1) (by decide +kernel) rfl (rowW_recv ⟨_, rfl⟩) (Nat.le_of_ble_eq_true rfl) ⟨Nat.le_of_ble_eq_true rfl, Nat.le_of_ble_eq_true rfl⟩ [18] [0, 1, 2, 3, 4, 5, 6, 7, 8, 9, 10, 11, 12, 13, 14, 15, 16, 17] (nB := 19) rfl (by decide +kernel) (sh_96 g T t GT A d G) (fun r2 w9 hw => ?_)
    obtain ⟨er2, rfl⟩ := hw
    have h := y_letP h er2
    refine ⟨([tabC T t, dayC A d] ++ (tabR g T t GT ++ dayR g A d G) : List va_W), ⟨(sh_96 g T t GT A d G), rfl, rfl⟩, ?_⟩
    refine y_callV (As := [.ref (A 0), .int r2]) (rest := []) C dX5_follow_28 (c_X5_step g T t GT A d G r2) rfl rfl rfl rfl ⟨Nat.le_of_ble_eq_true rfl, Nat.le_of_ble_eq_true rfl⟩ gX5_follow_X5_step (nA := 2) (by decide +kernel) rfl (sh_95 g T t GT A d G) (Nat.le_of_ble_eq_true rfl) ⟨Nat.le_of_ble_eq_true rfl, Nat.le_of_ble_eq_true rfl⟩ [0, 1, 2, 3, 4, 5, 6, 7, 8, 9, 10, 11, 12, 13, 14, 15, 16, 17, 18] [] (nB := 19) rfl (by decide +kernel) (sh_94 g T t GT A d G) (fun r6 w9 hw => ?_)
    obtain ⟨er6, t3, G4, e5, rfl⟩ := hw
    have h := y_letP h er6
    have h := y_letP h e5
    refine ⟨([tabC T t3, dayC A d] ++ (tabR g T t3 G4 ++ dayR g A d G) : List va_W), (sh_97 g T t GT A d G t3 G4), ?_⟩
    refine y_pop C dX5_follow_31 rfl ?_
    refine y_iinc (v := (x2 + (1 : Int32))) (lv' := [(2, .int (x2 + (1 : Int32))), (0, .ref (T 0)), (1, .ref (A 0))]) C dX5_follow_32 2 rfl rfl (Nat.le_of_ble_eq_true rfl) rfl ?_
    refine y_goto (tgt := 7) C dX5_follow_35 rfl ?_
    refine y_sub (lv' := [(0, .ref (T 0)), (1, .ref (A 0)), (2, .int (x2 + (1 : Int32)))]) [1, 2, 0] rfl ?_
    exact hX7 _ _ _ h
set_option maxHeartbeats 4000000 in
set_option maxRecDepth 100000 in
theorem l_X5_follow {Z : yZ} (g : yG) (T : Nat → Nat) (A : Nat → Nat) (d : RV) (G : Nat → Nat → Int32) (C : yC Z g cX5_follow 3 wsX5_follow RX5) {post : List va_W → Prop} (HR : yRv Z ({ frames := 3, cells := 0, slots := 0, locals := 72 } : Room) cX5_follow post 0 0) {K : RV → Prop} (hK : ∀ (t : RV) (GT : Nat → Nat → Int32), K t → post ([tabC T t, dayC A d] ++ (tabR g T t GT ++ dayR g A d G) : List va_W)) {I7 : Nat → RV → Int32 → Prop} (o7 : ∀ (w0 : Nat) (t : RV) (x2 : Int32), I7 w0 t x2 → wp_X5_follow_7 d (fun (t9 : RV) (x29 : Int32) => ∃ w9, w9 < w0 ∧ I7 w9 t9 x29) K t x2) : ∀ w0 : Nat, (∀ (t : RV) (x2 : Int32) (GT : Nat → Nat → Int32), I7 w0 t x2 → yJ Z ({ frames := 3, cells := 0, slots := 0, locals := 72 } : Room) 0 0 ([tabC T t, dayC A d] ++ (tabR g T t GT ++ dayR g A d G) : List va_W) 7 [(0, .ref (T 0)), (1, .ref (A 0)), (2, .int x2)] []) := by
  intro w0
  induction w0 using Nat.strongRecOn with
  | _ w0 ih =>
    exact fun t x2 GT hi => w_X5_follow_7 g T A d G C HR (fun t x2 GT hq => by obtain ⟨w9, hlt, hi⟩ := hq; exact (ih w9 hlt) t x2 GT hi) hK t x2 GT (o7 w0 t x2 hi)
set_option maxHeartbeats 4000000 in
set_option maxRecDepth 100000 in
theorem t_X5_follow (g : yG) (T : Nat → Nat) (t : RV) (GT : Nat → Nat → Int32) (A : Nat → Nat) (d : RV) (G : Nat → Nat → Int32)  {post : List va_W → Prop} {K : RV → Prop} (hK : ∀ (t : RV) (GT : Nat → Nat → Int32), K t → post ([tabC T t, dayC A d] ++ (tabR g T t GT ++ dayR g A d G) : List va_W)) (hPO : PO_X5_follow d K t ) : yMv g yX5_follow wsX5_follow ({ frames := 3, cells := 0, slots := 0, locals := 72 } : Room) [.ref (T 0), .ref (A 0)] ([tabC T t, dayC A d] ++ (tabR g T t GT ++ dayR g A d G) : List va_W) post 0 0 := by
  refine y_entryV (cc := cX5_follow) (maxL := 3) (by decide +kernel) rfl (Nat.le_of_ble_eq_true rfl) (fun Z C _ HR => ?_)
  have C : yC Z g cX5_follow 3 wsX5_follow RX5 := C
  obtain ⟨I7, o7, h⟩ := hPO
  have hX7 : ∀ (t : RV) (x2 : Int32) (GT : Nat → Nat → Int32), (fun (t9 : RV) (x29 : Int32) => ∃ w9, I7 w9 t9 x29) t x2 → yJ Z ({ frames := 3, cells := 0, slots := 0, locals := 72 } : Room) 0 0 ([tabC T t, dayC A d] ++ (tabR g T t GT ++ dayR g A d G) : List va_W) 7 [(0, .ref (T 0)), (1, .ref (A 0)), (2, .int x2)] [] := by
    intro t x2 GT hq
    obtain ⟨w9, hi⟩ := hq
    exact (l_X5_follow g T A d G C HR hK o7 w9) t x2 GT hi
  unfold wp_X5_follow_0 at h
  show yJ Z _ 0 0 _ 0 [(0, .ref (T 0)), (1, .ref (A 0))] []
  refine y_aload_n C dX5_follow_0 0 rfl rfl ?_
  refine y_aload_n C dX5_follow_1 1 rfl rfl ?_
  refine y_callVv (As := [.ref (A 0)]) (rest := []) C dX5_follow_2 (c_X5_begin g T t GT A d G) rfl rfl rfl rfl ⟨Nat.le_of_ble_eq_true rfl, Nat.le_of_ble_eq_true rfl⟩ gX5_follow_X5_begin (nA := 1) (by decide +kernel) rfl (sh_95 g T t GT A d G) (Nat.le_of_ble_eq_true rfl) ⟨Nat.le_of_ble_eq_true rfl, Nat.le_of_ble_eq_true rfl⟩ [0, 1, 2, 3, 4, 5, 6, 7, 8, 9, 10, 11, 12, 13, 14, 15, 16, 17, 18] [] (nB := 19) rfl (by decide +kernel) (sh_94 g T t GT A d G) (fun w9 hw => ?_)
  obtain ⟨t1, G2, e3, rfl⟩ := hw
  have h := y_letP h e3
  refine ⟨([tabC T t1, dayC A d] ++ (tabR g T t1 G2 ++ dayR g A d G) : List va_W), (sh_97 g T t GT A d G t1 G2), ?_⟩
  refine y_iconst (v := 0) C dX5_follow_5 (by decide) ?_
  refine y_istore_n (lv' := [(2, .int (0 : Int32)), (0, .ref (T 0)), (1, .ref (A 0))]) C dX5_follow_6 rfl (Nat.le_of_ble_eq_true rfl) rfl ?_
  refine y_sub (lv' := [(0, .ref (T 0)), (1, .ref (A 0)), (2, .int (0 : Int32))]) [1, 2, 0] rfl ?_
  exact hX7 _ _ _ h
set_option maxHeartbeats 4000000 in
set_option maxRecDepth 100000 in
theorem c_X5_follow (g : yG) (T : Nat → Nat) (t : RV) (GT : Nat → Nat → Int32) (A : Nat → Nat) (d : RV) (G : Nat → Nat → Int32)   : yMv g yX5_follow wsX5_follow ({ frames := 3, cells := 0, slots := 0, locals := 72 } : Room) [.ref (T 0), .ref (A 0)] ([tabC T t, dayC A d] ++ (tabR g T t GT ++ dayR g A d G) : List va_W) (fun w => ∃ t' : RV, ∃ GT' : Nat → Nat → Int32, t' = (fFollow t d) ∧ w = ([tabC T t', dayC A d] ++ (tabR g T t' GT' ++ dayR g A d G) : List va_W)) 0 0 :=
  yMv_fact (F := dayLen d) (fun A9 hD => dayLen_of (g := g) (A := A) (G := G) (fun x hx => by simp only [List.mem_append, hx, true_or, or_true]) hD) (fun hF => t_X5_follow g T t GT A d G  (K := (fun (t1 : RV) => t1 = (fFollow t d))) (fun t1 GT1 e0 => ⟨t1, GT1, e0, rfl⟩) (p_X5_follow (by have := hF.2.2.2.2.2.2.2.2.2.2.2; omega)))
theorem dX5_keepsAll_0 : decode cX5_keepsAll 0 = .ok (.aload_n 0, 1) := by decide +kernel
theorem dX5_keepsAll_1 : decode cX5_keepsAll 1 = .ok (.aload_n 1, 1) := by decide +kernel
theorem dX5_keepsAll_2 : decode cX5_keepsAll 2 = .ok (.invokevirtual 32, 3) := by decide +kernel
theorem dX5_keepsAll_5 : decode cX5_keepsAll 5 = .ok (.iconst 0, 1) := by decide +kernel
theorem dX5_keepsAll_6 : decode cX5_keepsAll 6 = .ok (.istore_n 2, 1) := by decide +kernel
theorem dX5_keepsAll_7 : decode cX5_keepsAll 7 = .ok (.iload_n 2, 1) := by decide +kernel
theorem dX5_keepsAll_8 : decode cX5_keepsAll 8 = .ok (.aload_n 1, 1) := by decide +kernel
theorem dX5_keepsAll_9 : decode cX5_keepsAll 9 = .ok (.getfield 36, 3) := by decide +kernel
theorem dX5_keepsAll_12 : decode cX5_keepsAll 12 = .ok (.invokevirtual 41, 3) := by decide +kernel
theorem dX5_keepsAll_15 : decode cX5_keepsAll 15 = .ok (.if_icmp .ge 27, 3) := by decide +kernel
theorem dX5_keepsAll_18 : decode cX5_keepsAll 18 = .ok (.aload_n 0, 1) := by decide +kernel
theorem dX5_keepsAll_19 : decode cX5_keepsAll 19 = .ok (.aload_n 1, 1) := by decide +kernel
theorem dX5_keepsAll_20 : decode cX5_keepsAll 20 = .ok (.aload_n 1, 1) := by decide +kernel
theorem dX5_keepsAll_21 : decode cX5_keepsAll 21 = .ok (.getfield 36, 3) := by decide +kernel
theorem dX5_keepsAll_24 : decode cX5_keepsAll 24 = .ok (.iload_n 2, 1) := by decide +kernel
theorem dX5_keepsAll_25 : decode cX5_keepsAll 25 = .ok (.invokevirtual 45, 3) := by decide +kernel
theorem dX5_keepsAll_28 : decode cX5_keepsAll 28 = .ok (.invokevirtual 49, 3) := by decide +kernel
theorem dX5_keepsAll_31 : decode cX5_keepsAll 31 = .ok (.ifCond .ne 5, 3) := by decide +kernel
theorem dX5_keepsAll_34 : decode cX5_keepsAll 34 = .ok (.iconst 0, 1) := by decide +kernel
theorem dX5_keepsAll_35 : decode cX5_keepsAll 35 = .ok (.ireturn, 1) := by decide +kernel
theorem dX5_keepsAll_36 : decode cX5_keepsAll 36 = .ok (.iinc 2 1, 3) := by decide +kernel
theorem dX5_keepsAll_39 : decode cX5_keepsAll 39 = .ok (.goto (-32), 3) := by decide +kernel
theorem dX5_keepsAll_42 : decode cX5_keepsAll 42 = .ok (.iconst 1, 1) := by decide +kernel
theorem dX5_keepsAll_43 : decode cX5_keepsAll 43 = .ok (.ireturn, 1) := by decide +kernel
set_option maxRecDepth 20000 in
theorem ggX5_keepsAll_X3_length : GoodIn wsX5_keepsAll wsX3_length := goodIn_r _ [45, 26, 124, 125] (by decide +kernel) (by decide +kernel)
set_option maxRecDepth 20000 in
theorem gX5_keepsAll_X3_length : GoodIn wsX5_keepsAll (wsV RX5 41 RX3 yX3_length wsX3_length) := goodIn_app (goodIn_of _ (by decide +kernel)) ggX5_keepsAll_X3_length
set_option maxRecDepth 20000 in
theorem ggX5_keepsAll_X3_at : GoodIn wsX5_keepsAll wsX3_at := goodIn_r _ [49, 26, 31, 124, 125] (by decide +kernel) (by decide +kernel)
set_option maxRecDepth 20000 in
theorem gX5_keepsAll_X3_at : GoodIn wsX5_keepsAll (wsV RX5 45 RX3 yX3_at wsX3_at) := goodIn_app (goodIn_of _ (by decide +kernel)) ggX5_keepsAll_X3_at
set_option maxRecDepth 20000 in
theorem ggX5_keepsAll_X5_step : GoodIn wsX5_keepsAll wsX5_step := goodIn_r _ [55, 15, 17, 56, 57, 58, 34, 59, 60, 18, 19, 20, 7, 8, 9, 10, 12, 61, 62, 63, 64, 65, 66, 67, 68, 69, 39, 70, 71, 72, 46, 47, 48, 24, 49, 26, 31, 73, 74, 75, 76, 77, 78, 79, 80, 81, 51, 82, 83, 84, 85, 86, 87, 88, 89, 90, 91, 92, 93, 94, 95, 96, 5, 97, 98, 114, 115, 116, 117, 118, 119, 120, 121, 122, 123, 99, 100, 101, 102, 103, 104, 105, 106, 107, 108, 109, 110, 111, 112, 113, 124, 125] (by decide +kernel) (by decide +kernel)
set_option maxRecDepth 20000 in
theorem gX5_keepsAll_X5_step : GoodIn wsX5_keepsAll (wsV RX5 49 RX5 yX5_step wsX5_step) := goodIn_app (goodIn_of _ (by decide +kernel)) ggX5_keepsAll_X5_step
set_option maxRecDepth 20000 in
theorem ggX5_keepsAll_X5_begin : GoodIn wsX5_keepsAll wsX5_begin := goodIn_r _ [6, 7, 8, 9, 10, 11, 12, 13, 14, 15, 16, 17, 18, 19, 20, 21, 22, 23, 24, 25, 26, 27, 28, 29, 30, 31, 32, 33, 34, 35, 36, 37, 38, 39, 40, 41, 42, 43, 44, 45, 46, 47, 48, 49, 114, 115, 116, 117, 118, 119, 120, 121, 122, 123, 99, 100, 101, 102, 103, 104, 105, 106, 107, 108, 109, 110, 111, 112, 113, 124, 125] (by decide +kernel) (by decide +kernel)
set_option maxRecDepth 20000 in
theorem gX5_keepsAll_X5_begin : GoodIn wsX5_keepsAll (wsV RX5 32 RX5 yX5_begin wsX5_begin) := goodIn_app (goodIn_of _ (by decide +kernel)) ggX5_keepsAll_X5_begin
theorem kX5_keepsAll_1 : Cond.fieldLink RX5 36 "BookedDetours$Day" "route" "LBookedDetours$Row;" ∈ wsX5_keepsAll := List.mem_of_getElem? (i := 1) (by decide +kernel)
theorem hX5_keepsAll_X0 : ∀ w ∈ u_ws RX0 TX0 15, w ∈ wsX5_keepsAll := fun _ h => List.mem_cons_of_mem _ (List.mem_append_left _ (List.mem_append_left _ (List.mem_append_right _ h)))
set_option maxHeartbeats 4000000 in
set_option maxRecDepth 100000 in
theorem w_X5_keepsAll_7 {Z : yZ} (g : yG) (T : Nat → Nat) (A : Nat → Nat) (d : RV) (G : Nat → Nat → Int32) (C : yC Z g cX5_keepsAll 3 wsX5_keepsAll RX5) {post : Int32 → List va_W → Prop} (HR : yRi Z ({ frames := 3, cells := 0, slots := 0, locals := 72 } : Room) cX5_keepsAll .boolean post 0 0) {X7 : RV → Int32 → Prop} (hX7 : ∀ (t : RV) (x2 : Int32) (GT : Nat → Nat → Int32), X7 t x2 → yJ Z ({ frames := 3, cells := 0, slots := 0, locals := 72 } : Room) 0 0 ([tabC T t, dayC A d] ++ (tabR g T t GT ++ dayR g A d G) : List va_W) 7 [(0, .ref (T 0)), (1, .ref (A 0)), (2, .int x2)] []) {K : Int32 → RV → Prop} (hK : ∀ (r0 : Int32) (t : RV) (GT : Nat → Nat → Int32), K r0 t → post r0 ([tabC T t, dayC A d] ++ (tabR g T t GT ++ dayR g A d G) : List va_W)) (t : RV) (x2 : Int32) (GT : Nat → Nat → Int32) (h : wp_X5_keepsAll_7 d X7 K t x2) : yJ Z ({ frames := 3, cells := 0, slots := 0, locals := 72 } : Room) 0 0 ([tabC T t, dayC A d] ++ (tabR g T t GT ++ dayR g A d G) : List va_W) 7 [(0, .ref (T 0)), (1, .ref (A 0)), (2, .int x2)] [] := by
  unfold wp_X5_keepsAll_7 at h
  refine y_iload_n C dX5_keepsAll_7 2 rfl rfl ?_
  refine y_aload_n C dX5_keepsAll_8 1 rfl rfl ?_
  refine y_get (Cn := RX0) (T := TX0) (N := 15) (v := .ref (A 23)) C dX5_keepsAll_9 hX5_keepsAll_X0 1 (sh_74 g T t GT A d G) rfl 11 (Nat.le_of_ble_eq_true rfl) kX5_keepsAll_1 rfl ?_
  refine y_callV (As := []) (rest := [.int x2]) C dX5_keepsAll_12 (c_X3_length g (A 23) (A 24) 34 (d.1 11) (G 11) (by decide)) rfl rfl rfl rfl ⟨Nat.le_of_ble_eq_true rfl, Nat.le_of_ble_eq_true rfl⟩ gX5_keepsAll_X3_length (nA := 0) (by decide +kernel) rfl (rowW_recv ⟨_, rfl⟩) (Nat.le_of_ble_eq_true rfl) ⟨Nat.le_of_ble_eq_true rfl, Nat.le_of_ble_eq_true rfl⟩ [18] [0, 1, 2, 3, 4, 5, 6, 7, 8, 9, 10, 11, 12, 13, 14, 15, 16, 17] (nB := 19) rfl (by decide +kernel) (sh_96 g T t GT A d G) (fun r1 w9 hw => ?_)
  obtain ⟨er1, rfl⟩ := hw
  have h := y_letP h er1
  refine ⟨([tabC T t, dayC A d] ++ (tabR g T t GT ++ dayR g A d G) : List va_W), ⟨(sh_96 g T t GT A d G), rfl, rfl⟩, ?_⟩
  refine y_icmp_ge (tgt := 42) C dX5_keepsAll_15 rfl h (fun c15 h => ?_) (fun c15 h => ?_)
  · refine y_iconst (v := 1) C dX5_keepsAll_42 (by decide) ?_
    exact HR 43 dX5_keepsAll_43 (1 : Int32) _ _ _ _ (rfl) (Nat.le_of_ble_eq_true rfl) (Nat.le_of_ble_eq_true rfl) (hK _ _ _ h)
  · refine y_aload_n C dX5_keepsAll_18 0 rfl rfl ?_
    refine y_aload_n C dX5_keepsAll_19 1 rfl rfl ?_
    refine y_aload_n C dX5_keepsAll_20 1 rfl rfl ?_
    refine y_get (Cn := RX0) (T := TX0) (N := 15) (v := .ref (A 23)) C dX5_keepsAll_21 hX5_keepsAll_X0 1 (sh_74 g T t GT A d G) rfl 11 (Nat.le_of_ble_eq_true rfl) kX5_keepsAll_1 rfl ?_
    refine y_iload_n C dX5_keepsAll_24 2 rfl rfl ?_
    refine y_callV (As := [.int x2]) (rest := [.ref (A 0), .ref (T 0)]) C dX5_keepsAll_25 (c_X3_at g (A 23) (A 24) 34 (d.1 11) (G 11) x2 (by decide)) rfl rfl rfl rfl ⟨Nat.le_of_ble_eq_true rfl, Nat.le_of_ble_eq_true rfl⟩ gX5_keepsAll_X3_at (nA := 1) (by decide +kernel) rfl (rowW_recv ⟨_, rfl⟩) (Nat.le_of_ble_eq_true rfl) ⟨Nat.le_of_ble_eq_true rfl, Nat.le_of_ble_eq_true rfl⟩ [18] [0, 1, 2, 3, 4, 5, 6, 7, 8, 9, 10, 11, 12, 13, 14, 15, 16, 17] (nB := 19) rfl (by decide +kernel) (sh_96 g T t GT A d G) (fun r2 w9 hw => ?_)
    obtain ⟨er2, rfl⟩ := hw
    have h := y_letP h er2
    refine ⟨([tabC T t, dayC A d] ++ (tabR g T t GT ++ dayR g A d G) : List va_W), ⟨(sh_96 g T t GT A d G), rfl, rfl⟩, ?_⟩
    refine y_callV (As := [.ref (A 0), .int r2]) (rest := []) C dX5_keepsAll_28 (c_X5_step g T t GT A d G r2) rfl rfl rfl rfl ⟨Nat.le_of_ble_eq_true rfl, Nat.le_of_ble_eq_true rfl⟩ gX5_keepsAll_X5_step (nA := 2) (by decide +kernel) rfl (sh_95 g T t GT A d G) (Nat.le_of_ble_eq_true rfl) ⟨Nat.le_of_ble_eq_true rfl, Nat.le_of_ble_eq_true rfl⟩ [0, 1, 2, 3, 4, 5, 6, 7, 8, 9, 10, 11, 12, 13, 14, 15, 16, 17, 18] [] (nB := 19) rfl (by decide +kernel) (sh_94 g T t GT A d G) (fun r6 w9 hw => ?_)
    obtain ⟨er6, t3, G4, e5, rfl⟩ := hw
    have h := y_letP h er6
    have h := y_letP h e5
    refine ⟨([tabC T t3, dayC A d] ++ (tabR g T t3 G4 ++ dayR g A d G) : List va_W), (sh_97 g T t GT A d G t3 G4), ?_⟩
    refine y_if_ne (tgt := 36) C dX5_keepsAll_31 rfl h (fun c31 h => ?_) (fun c31 h => ?_)
    · refine y_iinc (v := (x2 + (1 : Int32))) (lv' := [(2, .int (x2 + (1 : Int32))), (0, .ref (T 0)), (1, .ref (A 0))]) C dX5_keepsAll_36 2 rfl rfl (Nat.le_of_ble_eq_true rfl) rfl ?_
      refine y_goto (tgt := 7) C dX5_keepsAll_39 rfl ?_
      refine y_sub (lv' := [(0, .ref (T 0)), (1, .ref (A 0)), (2, .int (x2 + (1 : Int32)))]) [1, 2, 0] rfl ?_
      exact hX7 _ _ _ h
    · refine y_iconst (v := 0) C dX5_keepsAll_34 (by decide) ?_
      exact HR 35 dX5_keepsAll_35 (0 : Int32) _ _ _ _ (rfl) (Nat.le_of_ble_eq_true rfl) (Nat.le_of_ble_eq_true rfl) (hK _ _ _ h)
set_option maxHeartbeats 4000000 in
set_option maxRecDepth 100000 in
theorem l_X5_keepsAll {Z : yZ} (g : yG) (T : Nat → Nat) (A : Nat → Nat) (d : RV) (G : Nat → Nat → Int32) (C : yC Z g cX5_keepsAll 3 wsX5_keepsAll RX5) {post : Int32 → List va_W → Prop} (HR : yRi Z ({ frames := 3, cells := 0, slots := 0, locals := 72 } : Room) cX5_keepsAll .boolean post 0 0) {K : Int32 → RV → Prop} (hK : ∀ (r0 : Int32) (t : RV) (GT : Nat → Nat → Int32), K r0 t → post r0 ([tabC T t, dayC A d] ++ (tabR g T t GT ++ dayR g A d G) : List va_W)) {I7 : Nat → RV → Int32 → Prop} (o7 : ∀ (w0 : Nat) (t : RV) (x2 : Int32), I7 w0 t x2 → wp_X5_keepsAll_7 d (fun (t9 : RV) (x29 : Int32) => ∃ w9, w9 < w0 ∧ I7 w9 t9 x29) K t x2) : ∀ w0 : Nat, (∀ (t : RV) (x2 : Int32) (GT : Nat → Nat → Int32), I7 w0 t x2 → yJ Z ({ frames := 3, cells := 0, slots := 0, locals := 72 } : Room) 0 0 ([tabC T t, dayC A d] ++ (tabR g T t GT ++ dayR g A d G) : List va_W) 7 [(0, .ref (T 0)), (1, .ref (A 0)), (2, .int x2)] []) := by
  intro w0
  induction w0 using Nat.strongRecOn with
  | _ w0 ih =>
    exact fun t x2 GT hi => w_X5_keepsAll_7 g T A d G C HR (fun t x2 GT hq => by obtain ⟨w9, hlt, hi⟩ := hq; exact (ih w9 hlt) t x2 GT hi) hK t x2 GT (o7 w0 t x2 hi)
set_option maxHeartbeats 4000000 in
set_option maxRecDepth 100000 in
theorem t_X5_keepsAll (g : yG) (T : Nat → Nat) (t : RV) (GT : Nat → Nat → Int32) (A : Nat → Nat) (d : RV) (G : Nat → Nat → Int32)  {post : Int32 → List va_W → Prop} {K : Int32 → RV → Prop} (hK : ∀ (r0 : Int32) (t : RV) (GT : Nat → Nat → Int32), K r0 t → post r0 ([tabC T t, dayC A d] ++ (tabR g T t GT ++ dayR g A d G) : List va_W)) (hPO : PO_X5_keepsAll d K t ) : yM g yX5_keepsAll wsX5_keepsAll ({ frames := 3, cells := 0, slots := 0, locals := 72 } : Room) [.ref (T 0), .ref (A 0)] ([tabC T t, dayC A d] ++ (tabR g T t GT ++ dayR g A d G) : List va_W) post 0 0 := by
  refine y_entryI (cc := cX5_keepsAll) (maxL := 3) (by decide +kernel) rfl (Nat.le_of_ble_eq_true rfl) (fun Z C HR => ?_)
  have C : yC Z g cX5_keepsAll 3 wsX5_keepsAll RX5 := C
  obtain ⟨I7, o7, h⟩ := hPO
  have hX7 : ∀ (t : RV) (x2 : Int32) (GT : Nat → Nat → Int32), (fun (t9 : RV) (x29 : Int32) => ∃ w9, I7 w9 t9 x29) t x2 → yJ Z ({ frames := 3, cells := 0, slots := 0, locals := 72 } : Room) 0 0 ([tabC T t, dayC A d] ++ (tabR g T t GT ++ dayR g A d G) : List va_W) 7 [(0, .ref (T 0)), (1, .ref (A 0)), (2, .int x2)] [] := by
    intro t x2 GT hq
    obtain ⟨w9, hi⟩ := hq
    exact (l_X5_keepsAll g T A d G C HR hK o7 w9) t x2 GT hi
  unfold wp_X5_keepsAll_0 at h
  show yJ Z _ 0 0 _ 0 [(0, .ref (T 0)), (1, .ref (A 0))] []
  refine y_aload_n C dX5_keepsAll_0 0 rfl rfl ?_
  refine y_aload_n C dX5_keepsAll_1 1 rfl rfl ?_
  refine y_callVv (As := [.ref (A 0)]) (rest := []) C dX5_keepsAll_2 (c_X5_begin g T t GT A d G) rfl rfl rfl rfl ⟨Nat.le_of_ble_eq_true rfl, Nat.le_of_ble_eq_true rfl⟩ gX5_keepsAll_X5_begin (nA := 1) (by decide +kernel) rfl (sh_95 g T t GT A d G) (Nat.le_of_ble_eq_true rfl) ⟨Nat.le_of_ble_eq_true rfl, Nat.le_of_ble_eq_true rfl⟩ [0, 1, 2, 3, 4, 5, 6, 7, 8, 9, 10, 11, 12, 13, 14, 15, 16, 17, 18] [] (nB := 19) rfl (by decide +kernel) (sh_94 g T t GT A d G) (fun w9 hw => ?_)
  obtain ⟨t1, G2, e3, rfl⟩ := hw
  have h := y_letP h e3
  refine ⟨([tabC T t1, dayC A d] ++ (tabR g T t1 G2 ++ dayR g A d G) : List va_W), (sh_97 g T t GT A d G t1 G2), ?_⟩
  refine y_iconst (v := 0) C dX5_keepsAll_5 (by decide) ?_
  refine y_istore_n (lv' := [(2, .int (0 : Int32)), (0, .ref (T 0)), (1, .ref (A 0))]) C dX5_keepsAll_6 rfl (Nat.le_of_ble_eq_true rfl) rfl ?_
  refine y_sub (lv' := [(0, .ref (T 0)), (1, .ref (A 0)), (2, .int (0 : Int32))]) [1, 2, 0] rfl ?_
  exact hX7 _ _ _ h
set_option maxHeartbeats 4000000 in
set_option maxRecDepth 100000 in
theorem c_X5_keepsAll (g : yG) (T : Nat → Nat) (t : RV) (GT : Nat → Nat → Int32) (A : Nat → Nat) (d : RV) (G : Nat → Nat → Int32)   : yM g yX5_keepsAll wsX5_keepsAll ({ frames := 3, cells := 0, slots := 0, locals := 72 } : Room) [.ref (T 0), .ref (A 0)] ([tabC T t, dayC A d] ++ (tabR g T t GT ++ dayR g A d G) : List va_W) (fun r w => r = (fKeeps t d).1 ∧ ∃ t' : RV, ∃ GT' : Nat → Nat → Int32, t' = (fKeeps t d).2 ∧ w = ([tabC T t', dayC A d] ++ (tabR g T t' GT' ++ dayR g A d G) : List va_W)) 0 0 :=
  yM_fact (F := dayLen d) (fun A9 hD => dayLen_of (g := g) (A := A) (G := G) (fun x hx => by simp only [List.mem_append, hx, true_or, or_true]) hD) (fun hF => t_X5_keepsAll g T t GT A d G  (K := (fun (r1 : Int32) (t1 : RV) => r1 = (fKeeps t d).1 ∧ t1 = (fKeeps t d).2)) (fun r1 t1 GT1 hh => by obtain ⟨e0, e1⟩ := hh; exact ⟨e0, t1, GT1, e1, rfl⟩) (p_X5_keepsAll (by have := hF.2.2.2.2.2.2.2.2.2.2.2; omega)))
end
section
/-! ===== a day that is copied is the other day ===== -/
theorem f_copy_I (d o : RV) : (f_X0_copy d o).2 0 = o.2 0 ∧ (f_X0_copy d o).2 1 = o.2 1 ∧ (f_X0_copy d o).2 2 = o.2 2 := by
  simp [f_X0_copy, yl, rvI]
theorem f_copy_R (d o : RV) : (f_X0_copy d o).1 0 = rCopy 3 (o.1 0) ∧ (f_X0_copy d o).1 1 = rCopy 12 (o.1 1) ∧ (f_X0_copy d o).1 2 = rCopy 12 (o.1 2) ∧ (f_X0_copy d o).1 3 = rCopy 17 (o.1 3) ∧ (f_X0_copy d o).1 4 = rCopy 17 (o.1 4) ∧ (f_X0_copy d o).1 5 = rCopy 17 (o.1 5) ∧ (f_X0_copy d o).1 6 = rCopy 17 (o.1 6) ∧ (f_X0_copy d o).1 7 = rCopy 17 (o.1 7) ∧ (f_X0_copy d o).1 8 = rCopy 17 (o.1 8) ∧ (f_X0_copy d o).1 9 = rCopy 17 (o.1 9) ∧ (f_X0_copy d o).1 10 = rCopy 17 (o.1 10) ∧ (f_X0_copy d o).1 11 = rCopy 34 (o.1 11) := by
  simp [f_X0_copy, yl, rvI, rvR]
theorem rCopy_id {cap : Nat} {xs : List Int32} (h : xs.length ≤ cap) : rCopy cap xs = xs := List.take_of_length_le h
theorem dayC_copy (A : Nat → Nat) (d o : RV) : dayC A (f_X0_copy d o) = dayC A o := by
  obtain ⟨h0, h1, h2⟩ := f_copy_I d o
  unfold dayC
  rw [h0, h1, h2]
theorem dayR_copy (g : yG) (A : Nat → Nat) (d o : RV) (G : Nat → Nat → Int32) (h : dayLen o) : dayR g A (f_X0_copy d o) G = dayR g A o G := by
  obtain ⟨a0, a1, a2, a3, a4, a5, a6, a7, a8, a9, a10, a11⟩ := f_copy_R d o
  obtain ⟨b0, b1, b2, b3, b4, b5, b6, b7, b8, b9, b10, b11⟩ := h
  unfold dayR
  rw [a0, a1, a2, a3, a4, a5, a6, a7, a8, a9, a10, a11, rCopy_id b0, rCopy_id b1, rCopy_id b2, rCopy_id b3, rCopy_id b4, rCopy_id b5, rCopy_id b6, rCopy_id b7, rCopy_id b8, rCopy_id b9, rCopy_id b10, rCopy_id b11]
theorem k_X0_copy (g : yG) (A : Nat → Nat) (d : RV) (G : Nat → Nat → Int32) (B : Nat → Nat) (o : RV) (GB : Nat → Nat → Int32) : yMv g yX0_copy wsX0_copy ({ frames := 2, cells := 0, slots := 0, locals := 43 } : Room) [.ref (A 0), .ref (B 0)] ([dayC A d, dayC B o] ++ (dayR g A d G ++ dayR g B o GB) : List va_W) (fun w => ∃ (d' : RV) (G' : Nat → Nat → Int32), d' = o ∧ w = ([dayC A d', dayC B o] ++ (dayR g A d' G' ++ dayR g B o GB) : List va_W)) 0 0 := by
  refine yMv_fact (F := dayLen o) (fun A9 hD => dayLen_of (g := g) (A := B) (G := GB) (fun x hx => by simp only [List.mem_append, hx, true_or, or_true]) hD) (fun hF => ?_)
  refine yMv.conv (c_X0_copy g A d G B o GB) rfl ?_
  rintro w ⟨d', G', rfl, rfl⟩
  refine ⟨_, ?_, o, G', rfl, rfl⟩
  rw [dayC_copy, dayR_copy g A d o G' hF]
end
section
/-! ===== a timetable is made anew: nothing of what it held before shows ===== -/
def T0 : RV := (fun _ => [], fun _ => 0)
def tEq (t u : RV) : Prop := (∀ k, k < 5 → t.1 k = u.1 k) ∧ ∀ k, k < 5 → t.2 k = u.2 k
theorem tEq.rf {t : RV} : tEq t t := ⟨fun _ _ => rfl, fun _ _ => rfl⟩
theorem tEq.R {t u : RV} (h : tEq t u) (k : Nat) (xs : List Int32) : tEq (rvR t k xs) (rvR u k xs) := by
  refine ⟨fun j hj => ?_, h.2⟩
  by_cases e : j = k
  · subst e; rw [rvR_eq, rvR_eq]
  · rw [rvR_ne e, rvR_ne e]; exact h.1 j hj
theorem tEq.I {t u : RV} (h : tEq t u) (k : Nat) (x : Int32) : tEq (rvI t k x) (rvI u k x) := by
  refine ⟨h.1, fun j hj => ?_⟩
  by_cases e : j = k
  · subst e; rw [rvI_eq, rvI_eq]
  · rw [rvI_ne e, rvI_ne e]; exact h.2 j hj
theorem tEq_C {t u : RV} (h : tEq t u) (A : Nat → Nat) : tabC A t = tabC A u := by
  unfold tabC
  rw [h.2 0 (by decide), h.2 1 (by decide), h.2 2 (by decide), h.2 3 (by decide), h.2 4 (by decide)]
theorem tEq_R {t u : RV} (h : tEq t u) (g : yG) (A : Nat → Nat) (G : Nat → Nat → Int32) : tabR g A t G = tabR g A u G := by
  unfold tabR
  rw [h.1 0 (by decide), h.1 1 (by decide), h.1 2 (by decide), h.1 3 (by decide), h.1 4 (by decide)]
theorem tEq_begin (t u d : RV) : tEq (f_X5_begin t d) (f_X5_begin u d) := by
  constructor
  · intro k hk
    match k, hk with
    | 0, _ => simp [f_X5_begin, yl, rvR, rvI]
    | 1, _ => simp [f_X5_begin, yl, rvR, rvI]
    | 2, _ => simp [f_X5_begin, yl, rvR, rvI]
    | 3, _ => simp [f_X5_begin, yl, rvR, rvI]
    | 4, _ => simp [f_X5_begin, yl, rvR, rvI]
    | k + 5, h => omega
  · intro k hk
    match k, hk with
    | 0, _ => simp [f_X5_begin, yl, rvR, rvI]
    | 1, _ => simp [f_X5_begin, yl, rvR, rvI]
    | 2, _ => simp [f_X5_begin, yl, rvR, rvI]
    | 3, _ => simp [f_X5_begin, yl, rvR, rvI]
    | 4, _ => simp [f_X5_begin, yl, rvR, rvI]
    | k + 5, h => omega
def rEq (x y : Int32 × RV) : Prop := x.1 = y.1 ∧ tEq x.2 y.2
theorem rel_if {c : Prop} [Decidable c] {a b a' b' : Int32 × RV} (h1 : rEq a a') (h2 : rEq b b') : rEq (if c then a else b) (if c then a' else b') := by
  by_cases h : c
  · rw [if_pos h, if_pos h]; exact h1
  · rw [if_neg h, if_neg h]; exact h2
theorem yl_int {e e' : Int32} {b b' : Int32 → Int32 × RV} (he : e = e') (hb : ∀ z, rEq (b z) (b' z)) : rEq (yl e b) (yl e' b') := by subst he; exact hb e
theorem yl_I {t u : RV} {k : Nat} {x y : Int32} {b b' : RV → Int32 × RV} (h : tEq t u) (hx : x = y) (hb : ∀ t' u', tEq t' u' → rEq (b t') (b' u')) : rEq (yl (rvI t k x) b) (yl (rvI u k y) b') := by subst hx; exact hb _ _ (h.I k x)
theorem yl_R {t u : RV} {k : Nat} {x y : List Int32} {b b' : RV → Int32 × RV} (h : tEq t u) (hx : x = y) (hb : ∀ t' u', tEq t' u' → rEq (b t') (b' u')) : rEq (yl (rvR t k x) b) (yl (rvR u k y) b') := by subst hx; exact hb _ _ (h.R k x)
theorem tEq_latest {t u : RV} (h : tEq t u) (d : RV) (r : Int32) : f_X5_latestByDetour t d r = f_X5_latestByDetour u d r := by
  unfold f_X5_latestByDetour yl
  rw [h.1 3 (by decide)]
theorem tEq_step {t u : RV} (h : tEq t u) (d : RV) (v : Int32) : rEq (f_X5_step t d v) (f_X5_step u d v) := by
  unfold f_X5_step
  refine yl_int rfl (fun r1 => ?_)
  refine yl_int rfl (fun r2 => ?_)
  refine yl_int rfl (fun r3 => ?_)
  refine yl_int (by rw [h.2 0 (by decide)]) (fun r4 => ?_)
  refine rel_if ?_ ?_
  · refine yl_int rfl (fun r5 => ?_)
    refine yl_int (by rw [h.2 1 (by decide)]) (fun m6 => ?_)
    refine yl_I h rfl (fun t7 ut7 ht7 => ?_)
    refine yl_int rfl (fun r8 => ?_)
    refine yl_I ht7 rfl (fun t9 ut9 ht9 => ?_)
    refine yl_I ht9 (by rw [ht9.2 2 (by decide)]) (fun t10 ut10 ht10 => ?_)
    refine yl_I ht10 (by rw [ht10.2 3 (by decide)]) (fun t11 ut11 ht11 => ?_)
    refine yl_I ht11 (by rw [h.2 1 (by decide), ht11.2 4 (by decide)]) (fun t12 ut12 ht12 => ?_)
    refine yl_R ht12 (by rw [ht12.1 0 (by decide)]) (fun t16 ut16 ht16 => ?_)
    refine yl_R ht16 (by rw [ht16.1 1 (by decide), ht16.2 2 (by decide)]) (fun t21 ut21 ht21 => ?_)
    refine yl_R ht21 (by rw [h.2 1 (by decide), ht21.1 2 (by decide)]) (fun t26 ut26 ht26 => ?_)
    refine yl_R ht26 (by rw [ht26.1 3 (by decide)]) (fun t31 ut31 ht31 => ?_)
    refine yl_int rfl (fun r33 => ?_)
    rw [ht31.2 2 (by decide)]
    refine rel_if ?_ ?_
    · exact ⟨rfl, ht31⟩
    · exact ⟨rfl, ht31⟩
  · refine yl_I h rfl (fun t34 ut34 ht34 => ?_)
    refine yl_int rfl (fun r35 => ?_)
    refine yl_I ht34 (by rw [h.2 1 (by decide)]) (fun t36 ut36 ht36 => ?_)
    refine yl_I ht36 (by rw [ht36.2 2 (by decide)]) (fun t37 ut37 ht37 => ?_)
    refine yl_I ht37 (by rw [ht37.2 3 (by decide)]) (fun t38 ut38 ht38 => ?_)
    refine yl_I ht38 (by rw [h.2 1 (by decide), ht38.2 4 (by decide)]) (fun t39 ut39 ht39 => ?_)
    refine yl_R ht39 (by rw [h.2 1 (by decide), ht39.1 0 (by decide)]) (fun t43 ut43 ht43 => ?_)
    refine yl_R ht43 (by rw [ht43.1 1 (by decide), ht43.2 2 (by decide)]) (fun t48 ut48 ht48 => ?_)
    refine yl_R ht48 (by rw [h.2 1 (by decide), ht48.1 2 (by decide)]) (fun t53 ut53 ht53 => ?_)
    refine yl_R ht53 (by rw [h.2 1 (by decide), ht53.1 4 (by decide)]) (fun t58 ut58 ht58 => ?_)
    refine yl_int rfl (fun r60 => ?_)
    try rw [h.2 1 (by decide)]
    refine rel_if ?_ ?_
    · exact ⟨rfl, ht58⟩
    · refine yl_int (tEq_latest ht58 d r1) (fun r61 => ?_)
      try rw [h.2 1 (by decide)]
      refine rel_if ?_ ?_
      · exact ⟨rfl, ht58⟩
      · exact ⟨rfl, ht58⟩
theorem tEq_fold {d : RV} : ∀ (l : List Int32) {t u : RV}, tEq t u → tEq (l.foldl (fun t v => (f_X5_step t d v).2) t) (l.foldl (fun t v => (f_X5_step t d v).2) u)
  | [], _, _, h => h
  | v :: l, _, _, h => tEq_fold l (tEq_step h d v).2
theorem tEq_keepsL {d : RV} : ∀ (l : List Int32) {t u : RV}, tEq t u → rEq (fKeepsL d l t) (fKeepsL d l u)
  | [], _, _, h => ⟨rfl, h⟩
  | v :: l, t, u, h => by
    have hs := tEq_step h d v
    unfold fKeepsL
    rw [hs.1]
    exact rel_if ⟨rfl, hs.2⟩ (tEq_keepsL l hs.2)
theorem fFollow_T0 (t d : RV) : tEq (fFollow t d) (fFollow T0 d) := tEq_fold _ (tEq_begin t T0 d)
theorem fKeeps_T0 (t d : RV) : rEq (fKeeps t d) (fKeeps T0 d) := tEq_keepsL _ (tEq_begin t T0 d)
theorem k_X5_follow (g : yG) (T : Nat → Nat) (t : RV) (GT : Nat → Nat → Int32) (A : Nat → Nat) (d : RV) (G : Nat → Nat → Int32) : yMv g yX5_follow wsX5_follow ({ frames := 3, cells := 0, slots := 0, locals := 72 } : Room) [.ref (T 0), .ref (A 0)] ([tabC T t, dayC A d] ++ (tabR g T t GT ++ dayR g A d G) : List va_W) (fun w => ∃ (t' : RV) (GT' : Nat → Nat → Int32), t' = fFollow T0 d ∧ w = ([tabC T t', dayC A d] ++ (tabR g T t' GT' ++ dayR g A d G) : List va_W)) 0 0 := by
  refine yMv.conv (c_X5_follow g T t GT A d G) rfl ?_
  rintro w ⟨t', GT', rfl, rfl⟩
  have h := fFollow_T0 t d
  exact ⟨_, by rw [tEq_C h, tEq_R h], _, GT', rfl, rfl⟩
theorem k_X5_keepsAll (g : yG) (T : Nat → Nat) (t : RV) (GT : Nat → Nat → Int32) (A : Nat → Nat) (d : RV) (G : Nat → Nat → Int32) : yM g yX5_keepsAll wsX5_keepsAll ({ frames := 3, cells := 0, slots := 0, locals := 72 } : Room) [.ref (T 0), .ref (A 0)] ([tabC T t, dayC A d] ++ (tabR g T t GT ++ dayR g A d G) : List va_W) (fun r w => r = (fKeeps T0 d).1 ∧ ∃ (t' : RV) (GT' : Nat → Nat → Int32), t' = (fKeeps T0 d).2 ∧ w = ([tabC T t', dayC A d] ++ (tabR g T t' GT' ++ dayR g A d G) : List va_W)) 0 0 := by
  refine yM.conv (c_X5_keepsAll g T t GT A d G) rfl ?_
  rintro r w ⟨rfl, t', GT', rfl, rfl⟩
  have h := fKeeps_T0 t d
  exact ⟨_, by rw [tEq_C h.2, tEq_R h.2], h.1, _, GT', rfl, rfl⟩
end
section
def f_X4_lay (sv : RV) (sd : RV) (xs : List Int32) (ri : Int32) (pk : Int32) (dn : Int32) : RV := (yl (rvR sd 11 (rCopy 34 xs)) (fun sd4 => (yl (f_X6_pickUp ri) (fun r6 => (yl (rvR sd4 11 (rIns 34 (sd4.1 11) pk r6)) (fun sd10 => (yl (f_X6_setDown ri) (fun r12 => (yl (rvR sd10 11 (rIns 34 (sd10.1 11) dn r12)) (fun sd16 => sd16))))))))))
def f_X4_takeWay (sv : RV) (st : RV) (ri : Int32) (pk : Int32) (dn : Int32) : RV := (yl (rAt (st.1 4) ri) (fun r1 => (if (sv.2 0) = 0 then (yl (rvI sv 4 r1) (fun sv19 => (if (sv19.2 0) = 0 then (yl (rvI sv19 1 (st.2 1)) (fun sv20 => (yl (rvI sv20 5 pk) (fun sv21 => (yl (rvI sv21 6 dn) (fun sv22 => (yl (rAt (st.1 3) ri) (fun r23 => (yl (rvI sv22 2 r23) (fun sv24 => (yl (rvI sv24 3 r1) (fun sv25 => (yl (rvI sv25 0 ((sv25.2 0) + (1 : Int32))) (fun sv26 => sv26)))))))))))))) else (if (sv19.2 1) ≤ (st.2 1) then (yl (rvI sv19 0 ((sv19.2 0) + (1 : Int32))) (fun sv27 => sv27)) else (yl (rvI sv19 1 (st.2 1)) (fun sv28 => (yl (rvI sv28 5 pk) (fun sv29 => (yl (rvI sv29 6 dn) (fun sv30 => (yl (rAt (st.1 3) ri) (fun r31 => (yl (rvI sv30 2 r31) (fun sv32 => (yl (rvI sv32 3 r1) (fun sv33 => (yl (rvI sv33 0 ((sv33.2 0) + (1 : Int32))) (fun sv34 => sv34)))))))))))))))))) else (yl (if r1 < (sv.2 4) then r1 else (sv.2 4)) (fun m2 => (yl (rvI sv 4 m2) (fun sv3 => (if (sv3.2 0) = 0 then (yl (rvI sv3 1 (st.2 1)) (fun sv4 => (yl (rvI sv4 5 pk) (fun sv5 => (yl (rvI sv5 6 dn) (fun sv6 => (yl (rAt (st.1 3) ri) (fun r7 => (yl (rvI sv6 2 r7) (fun sv8 => (yl (rvI sv8 3 r1) (fun sv9 => (yl (rvI sv9 0 ((sv9.2 0) + (1 : Int32))) (fun sv10 => sv10)))))))))))))) else (if (sv3.2 1) ≤ (st.2 1) then (yl (rvI sv3 0 ((sv3.2 0) + (1 : Int32))) (fun sv11 => sv11)) else (yl (rvI sv3 1 (st.2 1)) (fun sv12 => (yl (rvI sv12 5 pk) (fun sv13 => (yl (rvI sv13 6 dn) (fun sv14 => (yl (rAt (st.1 3) ri) (fun r15 => (yl (rvI sv14 2 r15) (fun sv16 => (yl (rvI sv16 3 r1) (fun sv17 => (yl (rvI sv17 0 ((sv17.2 0) + (1 : Int32))) (fun sv18 => sv18)))))))))))))))))))))))
def wp_X4_find_58 (d : RV) (fr : Int32) (to : Int32) (wa : Int32) (bt : Int32) (X58 : RV → RV → RV → Int32 → Int32 → Int32 → Prop) (X71 : RV → RV → RV → Int32 → Int32 → Int32 → Int32 → Prop) (K : Int32 → RV → RV → RV → Prop) (sv : RV) (sd : RV) (st : RV) (x6 : Int32) (x7 : Int32) (x8 : Int32) : Prop := (if x7 < x8 then (if (sv.2 0) ≤ 0 then (K (0 : Int32) sv sd st) else (yl (f_X4_lay sv sd (d.1 11) x6 (sv.2 5) (sv.2 6)) (fun sd1 => (K (1 : Int32) sv sd1 st)))) else (X71 sv sd st x6 x7 x8 (x8 + (1 : Int32))))
def wp_X4_find_71 (d : RV) (fr : Int32) (to : Int32) (wa : Int32) (bt : Int32) (X58 : RV → RV → RV → Int32 → Int32 → Int32 → Prop) (X71 : RV → RV → RV → Int32 → Int32 → Int32 → Int32 → Prop) (K : Int32 → RV → RV → RV → Prop) (sv : RV) (sd : RV) (st : RV) (x6 : Int32) (x7 : Int32) (x8 : Int32) (x9 : Int32) : Prop := (if (x7 + (1 : Int32)) < x9 then (X58 sv sd st x6 x7 (x8 + (1 : Int32))) else (yl (f_X4_lay sv sd (d.1 11) x6 x8 x9) (fun sd1 => (yl ((fKeeps T0 sd1).1) (fun r7 => (yl ((fKeeps T0 sd1).2) (fun st4 => (if r7 = 0 then (X71 sv sd1 st4 x6 x7 x8 (x9 + (1 : Int32))) else (yl (f_X4_takeWay sv st4 x6 x8 x9) (fun sv8 => (X71 sv8 sd1 st4 x6 x7 x8 (x9 + (1 : Int32)))))))))))))
def wp_X4_find_0 (d : RV) (fr : Int32) (to : Int32) (wa : Int32) (bt : Int32) (X58 : RV → RV → RV → Int32 → Int32 → Int32 → Prop) (X71 : RV → RV → RV → Int32 → Int32 → Int32 → Int32 → Prop) (K : Int32 → RV → RV → RV → Prop) (sv : RV) (sd : RV) (st : RV)  : Prop := (yl d (fun sd1 => (yl (f_X0_beReady sd1) (fun sd4 => (yl ((f_X0_addRide sd4 fr to wa bt).1) (fun r10 => (yl ((f_X0_addRide sd4 fr to wa bt).2) (fun sd7 => (yl (rvI sv 0 (0 : Int32)) (fun sv11 => (yl (rLen (d.1 11)) (fun r12 => (yl (f_X0_isOnItsWay d) (fun r13 => (if r13 = 0 then (X58 sv11 sd7 st r10 r12 (0 : Int32)) else (X58 sv11 sd7 st r10 r12 (1 : Int32)))))))))))))))))
def PO_X4_find (d : RV) (fr : Int32) (to : Int32) (wa : Int32) (bt : Int32) (K : Int32 → RV → RV → RV → Prop) (sv : RV) (sd : RV) (st : RV)  : Prop := ∃ (I58 : Nat → RV → RV → RV → Int32 → Int32 → Int32 → Prop), ∃ (I71 : Nat → RV → RV → RV → Int32 → Int32 → Int32 → Int32 → Prop), (∀ (w0 : Nat) (sv : RV) (sd : RV) (st : RV) (x6 : Int32) (x7 : Int32) (x8 : Int32), I58 w0 sv sd st x6 x7 x8 → wp_X4_find_58 d fr to wa bt (fun (sv9 : RV) (sd9 : RV) (st9 : RV) (x69 : Int32) (x79 : Int32) (x89 : Int32) => ∃ w9, w9 < w0 ∧ I58 w9 sv9 sd9 st9 x69 x79 x89) (fun (sv9 : RV) (sd9 : RV) (st9 : RV) (x69 : Int32) (x79 : Int32) (x89 : Int32) (x99 : Int32) => ∃ w9, w9 < w0 ∧ I71 w9 sv9 sd9 st9 x69 x79 x89 x99) K sv sd st x6 x7 x8) ∧ (∀ (w0 : Nat) (sv : RV) (sd : RV) (st : RV) (x6 : Int32) (x7 : Int32) (x8 : Int32) (x9 : Int32), I71 w0 sv sd st x6 x7 x8 x9 → wp_X4_find_71 d fr to wa bt (fun (sv9 : RV) (sd9 : RV) (st9 : RV) (x69 : Int32) (x79 : Int32) (x89 : Int32) => ∃ w9, w9 < w0 ∧ I58 w9 sv9 sd9 st9 x69 x79 x89) (fun (sv9 : RV) (sd9 : RV) (st9 : RV) (x69 : Int32) (x79 : Int32) (x89 : Int32) (x99 : Int32) => ∃ w9, w9 < w0 ∧ I71 w9 sv9 sd9 st9 x69 x79 x89 x99) K sv sd st x6 x7 x8 x9) ∧ wp_X4_find_0 d fr to wa bt (fun (sv9 : RV) (sd9 : RV) (st9 : RV) (x69 : Int32) (x79 : Int32) (x89 : Int32) => ∃ w9, I58 w9 sv9 sd9 st9 x69 x79 x89) (fun (sv9 : RV) (sd9 : RV) (st9 : RV) (x69 : Int32) (x79 : Int32) (x89 : Int32) (x99 : Int32) => ∃ w9, I71 w9 sv9 sd9 st9 x69 x79 x89 x99) K sv sd st 
end
section
/-! ===== all ways to put a ride in ===== -/
def fWay (d : RV) (ride : Int32) (s : RV × RV × RV) (pk dn : Int32) : RV × RV × RV :=
  (if (fKeeps T0 (f_X4_lay s.1 s.2.1 (d.1 11) ride pk dn)).1 = 0 then s.1 else f_X4_takeWay s.1 (fKeeps T0 (f_X4_lay s.1 s.2.1 (d.1 11) ride pk dn)).2 ride pk dn, f_X4_lay s.1 s.2.1 (d.1 11) ride pk dn, (fKeeps T0 (f_X4_lay s.1 s.2.1 (d.1 11) ride pk dn)).2)
/-- the ways with the picking up at i, the setting down from j on, of a route of n -/
def dnsOf (n i j : Nat) : List (Nat × Nat) := (List.range' j (n + 2 - j)).map (fun q => (i, q))
def waysFrom (n i : Nat) : List (Nat × Nat) := (List.range' i (n + 1 - i)).flatMap (fun q => dnsOf n q (q + 1))
def fFold (d : RV) (ride : Int32) (l : List (Nat × Nat)) (s : RV × RV × RV) : RV × RV × RV := l.foldl (fun s w => fWay d ride s (nI w.1) (nI w.2)) s
theorem waysFrom_end {n i : Nat} (h : n < i) : waysFrom n i = [] := by
  unfold waysFrom
  rw [show n + 1 - i = 0 by omega]
  rfl
theorem waysFrom_step {n i : Nat} (h : i ≤ n) : waysFrom n i = dnsOf n i (i + 1) ++ waysFrom n (i + 1) := by
  unfold waysFrom
  rw [show n + 1 - i = (n + 1 - (i + 1)) + 1 by omega, List.range'_succ, List.flatMap_cons]
theorem dnsOf_end {n i j : Nat} (h : n + 1 < j) : dnsOf n i j = [] := by
  unfold dnsOf
  rw [show n + 2 - j = 0 by omega]
  rfl
theorem dnsOf_step {n i j : Nat} (h : j ≤ n + 1) : dnsOf n i j = (i, j) :: dnsOf n i (j + 1) := by
  unfold dnsOf
  rw [show n + 2 - j = (n + 2 - (j + 1)) + 1 by omega, List.range'_succ, List.map_cons]
def fP0 (d : RV) : Nat := if f_X0_isOnItsWay d = 0 then 0 else 1
/-- the day with the ride added, its number -/
def fRide (d : RV) (fr to wa bt : Int32) : Int32 := (f_X0_addRide (f_X0_beReady d) fr to wa bt).1
def fDay1 (d : RV) (fr to wa bt : Int32) : RV := (f_X0_addRide (f_X0_beReady d) fr to wa bt).2
def fTried (d : RV) (fr to wa bt : Int32) (sv st : RV) : RV × RV × RV := fFold d (fRide d fr to wa bt) (waysFrom (d.1 11).length (fP0 d)) (rvI sv 0 0, fDay1 d fr to wa bt, st)
def fFindEnd (d : RV) (ride : Int32) (s : RV × RV × RV) : Int32 × RV × RV × RV := if s.1.2 0 ≤ 0 then (0, s) else (1, s.1, f_X4_lay s.1 s.2.1 (d.1 11) ride (s.1.2 5) (s.1.2 6), s.2.2)
def fFind (d : RV) (fr to wa bt : Int32) (sv st : RV) : Int32 × RV × RV × RV := fFindEnd d (fRide d fr to wa bt) (fTried d fr to wa bt sv st)
theorem p_X4_find {d : RV} {fr to wa bt : Int32} {sv sd st : RV} (hl : (d.1 11).length < 1000) : PO_X4_find d fr to wa bt (fun r sv1 sd1 st1 => r = (fFind d fr to wa bt sv st).1 ∧ sv1 = (fFind d fr to wa bt sv st).2.1 ∧ sd1 = (fFind d fr to wa bt sv st).2.2.1 ∧ st1 = (fFind d fr to wa bt sv st).2.2.2) sv sd st := by
  generalize hn : (d.1 11).length = n at hl
  refine ⟨fun w sv' sd' st' x6 x7 x8 => ∃ i, x8 = nI i ∧ x7 = nI n ∧ x6 = fRide d fr to wa bt ∧ i ≤ n + 1 ∧ w = (n + 1 - i) * (n + 3) ∧ fFold d (fRide d fr to wa bt) (waysFrom n i) (sv', sd', st') = fTried d fr to wa bt sv st,
    fun w sv' sd' st' x6 x7 x8 x9 => ∃ i j, x8 = nI i ∧ x9 = nI j ∧ x7 = nI n ∧ x6 = fRide d fr to wa bt ∧ i ≤ n ∧ j ≤ n + 2 ∧ w = (n - i) * (n + 3) + (n + 2 - j) + 1 ∧ fFold d (fRide d fr to wa bt) (dnsOf n i j ++ waysFrom n (i + 1)) (sv', sd', st') = fTried d fr to wa bt sv st, ?_, ?_, ?_⟩
  · rintro w sv' sd' st' x6 x7 x8 ⟨i, rfl, rfl, rfl, h1, rfl, h2⟩
    unfold wp_X4_find_58
    dsimp only [yl]
    by_cases c : n < i
    · rw [if_pos ((nI_ltI (by omega) (by omega)).mpr c)]
      rw [waysFrom_end c] at h2
      have h3 : fFind d fr to wa bt sv st = fFindEnd d (fRide d fr to wa bt) (sv', sd', st') := by unfold fFind; rw [← h2]; rfl
      rw [h3]
      unfold fFindEnd
      by_cases c2 : sv'.2 0 ≤ 0
      · rw [if_pos c2, if_pos c2]; exact ⟨rfl, rfl, rfl, rfl⟩
      · rw [if_neg c2, if_neg c2]; exact ⟨rfl, rfl, rfl, rfl⟩
    · rw [if_neg (fun z => c ((nI_ltI (by omega) (by omega)).mp z))]
      rw [waysFrom_step (by omega)] at h2
      refine ⟨_, ?_, i, i + 1, rfl, nI_1 i, rfl, rfl, by omega, by omega, rfl, h2⟩
      rw [show n + 1 - i = (n - i) + 1 by omega, Nat.succ_mul]
      omega
  · rintro w sv' sd' st' x6 x7 x8 x9 ⟨i, j, rfl, rfl, rfl, rfl, h1, h0, rfl, h2⟩
    unfold wp_X4_find_71
    dsimp only [yl]
    by_cases c : n + 1 < j
    · rw [if_pos (by rw [nI_1]; exact (nI_ltI (by omega) (by omega)).mpr c)]
      rw [dnsOf_end c] at h2
      refine ⟨_, ?_, i + 1, nI_1 i, rfl, rfl, by omega, rfl, h2⟩
      rw [show n + 1 - (i + 1) = n - i by omega]
      omega
    · rw [if_neg (fun z => c ((nI_ltI (by omega) (by omega)).mp (by rw [nI_1] at z; exact z)))]
      rw [dnsOf_step (by omega)] at h2
      have h3 : fFold d (fRide d fr to wa bt) (dnsOf n i (j + 1) ++ waysFrom n (i + 1)) (fWay d (fRide d fr to wa bt) (sv', sd', st') (nI i) (nI j)) = fTried d fr to wa bt sv st := h2
      unfold fWay at h3
      by_cases c2 : (fKeeps T0 (f_X4_lay sv' sd' (d.1 11) (fRide d fr to wa bt) (nI i) (nI j))).1 = 0
      · rw [if_pos c2]
        rw [if_pos c2] at h3
        exact ⟨_, by omega, i, j + 1, rfl, nI_1 j, rfl, rfl, h1, by omega, rfl, h3⟩
      · rw [if_neg c2]
        rw [if_neg c2] at h3
        exact ⟨_, by omega, i, j + 1, rfl, nI_1 j, rfl, rfl, h1, by omega, rfl, h3⟩
  · unfold wp_X4_find_0
    dsimp only [yl]
    have e : fTried d fr to wa bt sv st = fFold d (fRide d fr to wa bt) (waysFrom n (fP0 d)) (rvI sv 0 0, fDay1 d fr to wa bt, st) := by unfold fTried; rw [hn]
    unfold rLen
    rw [hn]
    by_cases c : f_X0_isOnItsWay d = 0
    · rw [if_pos c]
      refine ⟨_, 0, rfl, rfl, rfl, by omega, rfl, ?_⟩
      rw [e, show fP0 d = 0 from if_pos c]; rfl
    · rw [if_neg c]
      refine ⟨_, 1, rfl, rfl, rfl, by omega, rfl, ?_⟩
      rw [e, show fP0 d = 1 from if_neg c]; rfl
end
