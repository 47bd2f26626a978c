-- ===== PART A: goes FIRST, ahead of the names: the tables' words, and 'selects' of the private methods out of them =====
/-- a private method of a class that the tables say can be made, by its rows of tables_1 -/
def lw_okq (q : MethodName × Nat) : Prop := (q.1.cls ≠ "java/lang/invoke/MethodHandle" ∧ q.1.cls ≠ "java/lang/invoke/VarHandle") ∧ Cond.instantiable q.1.cls q.2 ∈ tables_1 ∧ Cond.privateMethod q.1 ∈ tables_1 ∧ Cond.instanceMethod q.1 ∈ tables_1
theorem lw_p0 : lw_okq (⟨"HungInStorm$Reader", "readNumbers", "(LHungInStorm$Text;)Z"⟩, 3) := ⟨⟨by decide +kernel, by decide +kernel⟩, List.mem_of_getElem? (i := 43) (by decide +kernel), List.mem_of_getElem? (i := 347) (by decide +kernel), List.mem_of_getElem? (i := 348) (by decide +kernel)⟩
theorem lw_p1 : lw_okq (⟨"HungInStorm$Reader", "readNumber", "(LHungInStorm$Text;)Z"⟩, 3) := ⟨⟨by decide +kernel, by decide +kernel⟩, List.mem_of_getElem? (i := 43) (by decide +kernel), List.mem_of_getElem? (i := 351) (by decide +kernel), List.mem_of_getElem? (i := 352) (by decide +kernel)⟩
theorem lw_p2 : lw_okq (⟨"HungInStorm$Reader", "tell", "(ILHungInStorm$Storm;)Z"⟩, 3) := ⟨⟨by decide +kernel, by decide +kernel⟩, List.mem_of_getElem? (i := 43) (by decide +kernel), List.mem_of_getElem? (i := 362) (by decide +kernel), List.mem_of_getElem? (i := 363) (by decide +kernel)⟩
theorem lw_p3 : lw_okq (⟨"HungInStorm", "isLevel", "(I)Z"⟩, 12) := ⟨⟨by decide +kernel, by decide +kernel⟩, List.mem_of_getElem? (i := 19) (by decide +kernel), List.mem_of_getElem? (i := 467) (by decide +kernel), List.mem_of_getElem? (i := 468) (by decide +kernel)⟩
theorem lw_p4 : lw_okq (⟨"HungInStorm", "isTown", "(I)Z"⟩, 12) := ⟨⟨by decide +kernel, by decide +kernel⟩, List.mem_of_getElem? (i := 19) (by decide +kernel), List.mem_of_getElem? (i := 475) (by decide +kernel), List.mem_of_getElem? (i := 476) (by decide +kernel)⟩
theorem lw_p5 : lw_okq (⟨"HungInStorm", "followed", "()LHungInStorm$Fleet;"⟩, 12) := ⟨⟨by decide +kernel, by decide +kernel⟩, List.mem_of_getElem? (i := 19) (by decide +kernel), List.mem_of_getElem? (i := 479) (by decide +kernel), List.mem_of_getElem? (i := 480) (by decide +kernel)⟩
theorem lw_p6 : lw_okq (⟨"HungInStorm$Course", "note", "(I)V"⟩, 7) := ⟨⟨by decide +kernel, by decide +kernel⟩, List.mem_of_getElem? (i := 66) (by decide +kernel), List.mem_of_getElem? (i := 491) (by decide +kernel), List.mem_of_getElem? (i := 492) (by decide +kernel)⟩
theorem lw_p7 : lw_okq (⟨"HungInStorm$Course", "runErrands", "(LHungInStorm$Storm;II)V"⟩, 7) := ⟨⟨by decide +kernel, by decide +kernel⟩, List.mem_of_getElem? (i := 66) (by decide +kernel), List.mem_of_getElem? (i := 495) (by decide +kernel), List.mem_of_getElem? (i := 496) (by decide +kernel)⟩
theorem lw_p8 : lw_okq (⟨"HungInStorm$Course", "sinkWithoutGas", "(I)V"⟩, 7) := ⟨⟨by decide +kernel, by decide +kernel⟩, List.mem_of_getElem? (i := 66) (by decide +kernel), List.mem_of_getElem? (i := 502) (by decide +kernel), List.mem_of_getElem? (i := 503) (by decide +kernel)⟩
theorem lw_p9 : lw_okq (⟨"HungInStorm$Course", "goOn", "(LHungInStorm$Storm;II)V"⟩, 7) := ⟨⟨by decide +kernel, by decide +kernel⟩, List.mem_of_getElem? (i := 66) (by decide +kernel), List.mem_of_getElem? (i := 506) (by decide +kernel), List.mem_of_getElem? (i := 507) (by decide +kernel)⟩
theorem lw_p10 : lw_okq (⟨"HungInStorm", "areTwoTowns", "(II)Z"⟩, 12) := ⟨⟨by decide +kernel, by decide +kernel⟩, List.mem_of_getElem? (i := 19) (by decide +kernel), List.mem_of_getElem? (i := 533) (by decide +kernel), List.mem_of_getElem? (i := 534) (by decide +kernel)⟩
theorem lw_p11 : lw_okq (⟨"HungInStorm$Chase", "passDay", "(LHungInStorm$Storm;I)V"⟩, 4) := ⟨⟨by decide +kernel, by decide +kernel⟩, List.mem_of_getElem? (i := 111) (by decide +kernel), List.mem_of_getElem? (i := 578) (by decide +kernel), List.mem_of_getElem? (i := 579) (by decide +kernel)⟩
theorem lw_p12 : lw_okq (⟨"HungInStorm$Chase", "leave", "(LHungInStorm$Storm;IIIJ)V"⟩, 4) := ⟨⟨by decide +kernel, by decide +kernel⟩, List.mem_of_getElem? (i := 111) (by decide +kernel), List.mem_of_getElem? (i := 582) (by decide +kernel), List.mem_of_getElem? (i := 583) (by decide +kernel)⟩
theorem lw_p13 : lw_okq (⟨"HungInStorm$Chase", "sink", "(LHungInStorm$Storm;IIIJ)V"⟩, 4) := ⟨⟨by decide +kernel, by decide +kernel⟩, List.mem_of_getElem? (i := 111) (by decide +kernel), List.mem_of_getElem? (i := 586) (by decide +kernel), List.mem_of_getElem? (i := 587) (by decide +kernel)⟩
theorem lw_p14 : lw_okq (⟨"HungInStorm$Chase", "arrive", "(LHungInStorm$Storm;IIIJ)V"⟩, 4) := ⟨⟨by decide +kernel, by decide +kernel⟩, List.mem_of_getElem? (i := 111) (by decide +kernel), List.mem_of_getElem? (i := 591) (by decide +kernel), List.mem_of_getElem? (i := 592) (by decide +kernel)⟩
theorem lw_p15 : lw_okq (⟨"HungInStorm", "fitting", "(III)I"⟩, 12) := ⟨⟨by decide +kernel, by decide +kernel⟩, List.mem_of_getElem? (i := 19) (by decide +kernel), List.mem_of_getElem? (i := 623) (by decide +kernel), List.mem_of_getElem? (i := 624) (by decide +kernel)⟩
def lw_privs_1 : List (MethodName × Nat) := [(⟨"HungInStorm$Reader", "readNumbers", "(LHungInStorm$Text;)Z"⟩, 3), (⟨"HungInStorm$Reader", "readNumber", "(LHungInStorm$Text;)Z"⟩, 3), (⟨"HungInStorm$Reader", "tell", "(ILHungInStorm$Storm;)Z"⟩, 3), (⟨"HungInStorm", "isLevel", "(I)Z"⟩, 12), (⟨"HungInStorm", "isTown", "(I)Z"⟩, 12), (⟨"HungInStorm", "followed", "()LHungInStorm$Fleet;"⟩, 12), (⟨"HungInStorm$Course", "note", "(I)V"⟩, 7), (⟨"HungInStorm$Course", "runErrands", "(LHungInStorm$Storm;II)V"⟩, 7), (⟨"HungInStorm$Course", "sinkWithoutGas", "(I)V"⟩, 7), (⟨"HungInStorm$Course", "goOn", "(LHungInStorm$Storm;II)V"⟩, 7), (⟨"HungInStorm", "areTwoTowns", "(II)Z"⟩, 12), (⟨"HungInStorm$Chase", "passDay", "(LHungInStorm$Storm;I)V"⟩, 4), (⟨"HungInStorm$Chase", "leave", "(LHungInStorm$Storm;IIIJ)V"⟩, 4), (⟨"HungInStorm$Chase", "sink", "(LHungInStorm$Storm;IIIJ)V"⟩, 4), (⟨"HungInStorm$Chase", "arrive", "(LHungInStorm$Storm;IIIJ)V"⟩, 4), (⟨"HungInStorm", "fitting", "(III)I"⟩, 12)]
theorem lw_r1 : ∀ q ∈ lw_privs_1, lw_okq q := List.forall_mem_cons.mpr ⟨lw_p0, List.forall_mem_cons.mpr ⟨lw_p1, List.forall_mem_cons.mpr ⟨lw_p2, List.forall_mem_cons.mpr ⟨lw_p3, List.forall_mem_cons.mpr ⟨lw_p4, List.forall_mem_cons.mpr ⟨lw_p5, List.forall_mem_cons.mpr ⟨lw_p6, List.forall_mem_cons.mpr ⟨lw_p7, List.forall_mem_cons.mpr ⟨lw_p8, List.forall_mem_cons.mpr ⟨lw_p9, List.forall_mem_cons.mpr ⟨lw_p10, List.forall_mem_cons.mpr ⟨lw_p11, List.forall_mem_cons.mpr ⟨lw_p12, List.forall_mem_cons.mpr ⟨lw_p13, List.forall_mem_cons.mpr ⟨lw_p14, List.forall_mem_cons.mpr ⟨lw_p15, fun _ h => absurd h List.not_mem_nil⟩⟩⟩⟩⟩⟩⟩⟩⟩⟩⟩⟩⟩⟩⟩⟩
theorem lw_p16 : lw_okq (⟨"HungInStorm$Odds", "gust", "(II)V"⟩, 4) := ⟨⟨by decide +kernel, by decide +kernel⟩, List.mem_of_getElem? (i := 133) (by decide +kernel), List.mem_of_getElem? (i := 640) (by decide +kernel), List.mem_of_getElem? (i := 641) (by decide +kernel)⟩
theorem lw_p17 : lw_okq (⟨"HungInStorm$Odds", "reduce", "(I)V"⟩, 4) := ⟨⟨by decide +kernel, by decide +kernel⟩, List.mem_of_getElem? (i := 133) (by decide +kernel), List.mem_of_getElem? (i := 649) (by decide +kernel), List.mem_of_getElem? (i := 650) (by decide +kernel)⟩
theorem lw_p18 : lw_okq (⟨"HungInStorm$Odds", "leaveOut", "(I)V"⟩, 4) := ⟨⟨by decide +kernel, by decide +kernel⟩, List.mem_of_getElem? (i := 133) (by decide +kernel), List.mem_of_getElem? (i := 653) (by decide +kernel), List.mem_of_getElem? (i := 654) (by decide +kernel)⟩
theorem lw_p19 : lw_okq (⟨"HungInStorm$History", "forgetOldest", "()V"⟩, 3) := ⟨⟨by decide +kernel, by decide +kernel⟩, List.mem_of_getElem? (i := 154) (by decide +kernel), List.mem_of_getElem? (i := 666) (by decide +kernel), List.mem_of_getElem? (i := 667) (by decide +kernel)⟩
theorem lw_p20 : lw_okq (⟨"HungInStormModel", "readAll", "()I"⟩, 33) := ⟨⟨by decide +kernel, by decide +kernel⟩, List.mem_of_getElem? (i := 726) (by decide +kernel), List.mem_of_getElem? (i := 849) (by decide +kernel), List.mem_of_getElem? (i := 850) (by decide +kernel)⟩
theorem lw_p21 : lw_okq (⟨"HungInStormModel", "item", "()Z"⟩, 33) := ⟨⟨by decide +kernel, by decide +kernel⟩, List.mem_of_getElem? (i := 726) (by decide +kernel), List.mem_of_getElem? (i := 853) (by decide +kernel), List.mem_of_getElem? (i := 854) (by decide +kernel)⟩
theorem lw_p22 : lw_okq (⟨"HungInStormModel", "byteAt", "(I)I"⟩, 33) := ⟨⟨by decide +kernel, by decide +kernel⟩, List.mem_of_getElem? (i := 726) (by decide +kernel), List.mem_of_getElem? (i := 857) (by decide +kernel), List.mem_of_getElem? (i := 858) (by decide +kernel)⟩
theorem lw_p23 : lw_okq (⟨"HungInStormModel", "figures", "(I)Z"⟩, 33) := ⟨⟨by decide +kernel, by decide +kernel⟩, List.mem_of_getElem? (i := 726) (by decide +kernel), List.mem_of_getElem? (i := 861) (by decide +kernel), List.mem_of_getElem? (i := 862) (by decide +kernel)⟩
theorem lw_p24 : lw_okq (⟨"HungInStormModel", "isTownItem", "()Z"⟩, 33) := ⟨⟨by decide +kernel, by decide +kernel⟩, List.mem_of_getElem? (i := 726) (by decide +kernel), List.mem_of_getElem? (i := 868) (by decide +kernel), List.mem_of_getElem? (i := 869) (by decide +kernel)⟩
theorem lw_p25 : lw_okq (⟨"HungInStormModel", "addErrand", "(IIII)V"⟩, 33) := ⟨⟨by decide +kernel, by decide +kernel⟩, List.mem_of_getElem? (i := 726) (by decide +kernel), List.mem_of_getElem? (i := 874) (by decide +kernel), List.mem_of_getElem? (i := 875) (by decide +kernel)⟩
theorem lw_p26 : lw_okq (⟨"HungInStormModel", "areThere", "()Z"⟩, 33) := ⟨⟨by decide +kernel, by decide +kernel⟩, List.mem_of_getElem? (i := 726) (by decide +kernel), List.mem_of_getElem? (i := 882) (by decide +kernel), List.mem_of_getElem? (i := 883) (by decide +kernel)⟩
theorem lw_p27 : lw_okq (⟨"HungInStormModel", "copy", "(II)V"⟩, 33) := ⟨⟨by decide +kernel, by decide +kernel⟩, List.mem_of_getElem? (i := 726) (by decide +kernel), List.mem_of_getElem? (i := 886) (by decide +kernel), List.mem_of_getElem? (i := 887) (by decide +kernel)⟩
theorem lw_p28 : lw_okq (⟨"HungInStormModel", "isLevel", "(I)Z"⟩, 33) := ⟨⟨by decide +kernel, by decide +kernel⟩, List.mem_of_getElem? (i := 726) (by decide +kernel), List.mem_of_getElem? (i := 894) (by decide +kernel), List.mem_of_getElem? (i := 895) (by decide +kernel)⟩
theorem lw_p29 : lw_okq (⟨"HungInStormModel", "isTown", "(I)Z"⟩, 33) := ⟨⟨by decide +kernel, by decide +kernel⟩, List.mem_of_getElem? (i := 726) (by decide +kernel), List.mem_of_getElem? (i := 902) (by decide +kernel), List.mem_of_getElem? (i := 903) (by decide +kernel)⟩
theorem lw_p30 : lw_okq (⟨"HungInStormModel", "go", "(I)V"⟩, 33) := ⟨⟨by decide +kernel, by decide +kernel⟩, List.mem_of_getElem? (i := 726) (by decide +kernel), List.mem_of_getElem? (i := 906) (by decide +kernel), List.mem_of_getElem? (i := 907) (by decide +kernel)⟩
theorem lw_p31 : lw_okq (⟨"HungInStormModel", "begin", "()V"⟩, 33) := ⟨⟨by decide +kernel, by decide +kernel⟩, List.mem_of_getElem? (i := 726) (by decide +kernel), List.mem_of_getElem? (i := 910) (by decide +kernel), List.mem_of_getElem? (i := 911) (by decide +kernel)⟩
def lw_privs_2 : List (MethodName × Nat) := [(⟨"HungInStorm$Odds", "gust", "(II)V"⟩, 4), (⟨"HungInStorm$Odds", "reduce", "(I)V"⟩, 4), (⟨"HungInStorm$Odds", "leaveOut", "(I)V"⟩, 4), (⟨"HungInStorm$History", "forgetOldest", "()V"⟩, 3), (⟨"HungInStormModel", "readAll", "()I"⟩, 33), (⟨"HungInStormModel", "item", "()Z"⟩, 33), (⟨"HungInStormModel", "byteAt", "(I)I"⟩, 33), (⟨"HungInStormModel", "figures", "(I)Z"⟩, 33), (⟨"HungInStormModel", "isTownItem", "()Z"⟩, 33), (⟨"HungInStormModel", "addErrand", "(IIII)V"⟩, 33), (⟨"HungInStormModel", "areThere", "()Z"⟩, 33), (⟨"HungInStormModel", "copy", "(II)V"⟩, 33), (⟨"HungInStormModel", "isLevel", "(I)Z"⟩, 33), (⟨"HungInStormModel", "isTown", "(I)Z"⟩, 33), (⟨"HungInStormModel", "go", "(I)V"⟩, 33), (⟨"HungInStormModel", "begin", "()V"⟩, 33)]
theorem lw_r2 : ∀ q ∈ lw_privs_2, lw_okq q := List.forall_mem_cons.mpr ⟨lw_p16, List.forall_mem_cons.mpr ⟨lw_p17, List.forall_mem_cons.mpr ⟨lw_p18, List.forall_mem_cons.mpr ⟨lw_p19, List.forall_mem_cons.mpr ⟨lw_p20, List.forall_mem_cons.mpr ⟨lw_p21, List.forall_mem_cons.mpr ⟨lw_p22, List.forall_mem_cons.mpr ⟨lw_p23, List.forall_mem_cons.mpr ⟨lw_p24, List.forall_mem_cons.mpr ⟨lw_p25, List.forall_mem_cons.mpr ⟨lw_p26, List.forall_mem_cons.mpr ⟨lw_p27, List.forall_mem_cons.mpr ⟨lw_p28, List.forall_mem_cons.mpr ⟨lw_p29, List.forall_mem_cons.mpr ⟨lw_p30, List.forall_mem_cons.mpr ⟨lw_p31, fun _ h => absurd h List.not_mem_nil⟩⟩⟩⟩⟩⟩⟩⟩⟩⟩⟩⟩⟩⟩⟩⟩
theorem lw_p32 : lw_okq (⟨"HungInStormModel", "goDay", "()V"⟩, 33) := ⟨⟨by decide +kernel, by decide +kernel⟩, List.mem_of_getElem? (i := 726) (by decide +kernel), List.mem_of_getElem? (i := 914) (by decide +kernel), List.mem_of_getElem? (i := 915) (by decide +kernel)⟩
theorem lw_p33 : lw_okq (⟨"HungInStormModel", "goBy", "(IZ)V"⟩, 33) := ⟨⟨by decide +kernel, by decide +kernel⟩, List.mem_of_getElem? (i := 726) (by decide +kernel), List.mem_of_getElem? (i := 918) (by decide +kernel), List.mem_of_getElem? (i := 919) (by decide +kernel)⟩
theorem lw_p34 : lw_okq (⟨"HungInStormModel", "leftOf", "(IIII)I"⟩, 33) := ⟨⟨by decide +kernel, by decide +kernel⟩, List.mem_of_getElem? (i := 726) (by decide +kernel), List.mem_of_getElem? (i := 922) (by decide +kernel), List.mem_of_getElem? (i := 923) (by decide +kernel)⟩
theorem lw_p35 : lw_okq (⟨"HungInStormModel", "areTogether", "(II)Z"⟩, 33) := ⟨⟨by decide +kernel, by decide +kernel⟩, List.mem_of_getElem? (i := 726) (by decide +kernel), List.mem_of_getElem? (i := 934) (by decide +kernel), List.mem_of_getElem? (i := 935) (by decide +kernel)⟩
theorem lw_p36 : lw_okq (⟨"HungInStormModel", "marketsTo", "(I)I"⟩, 33) := ⟨⟨by decide +kernel, by decide +kernel⟩, List.mem_of_getElem? (i := 726) (by decide +kernel), List.mem_of_getElem? (i := 942) (by decide +kernel), List.mem_of_getElem? (i := 943) (by decide +kernel)⟩
theorem lw_p37 : lw_okq (⟨"HungInStormModel", "pairs", "()I"⟩, 33) := ⟨⟨by decide +kernel, by decide +kernel⟩, List.mem_of_getElem? (i := 726) (by decide +kernel), List.mem_of_getElem? (i := 946) (by decide +kernel), List.mem_of_getElem? (i := 947) (by decide +kernel)⟩
theorem lw_p38 : lw_okq (⟨"HungInStormModel", "carryAll", "(I)V"⟩, 33) := ⟨⟨by decide +kernel, by decide +kernel⟩, List.mem_of_getElem? (i := 726) (by decide +kernel), List.mem_of_getElem? (i := 958) (by decide +kernel), List.mem_of_getElem? (i := 959) (by decide +kernel)⟩
theorem lw_p39 : lw_okq (⟨"HungInStormModel", "carry", "(IIII)V"⟩, 33) := ⟨⟨by decide +kernel, by decide +kernel⟩, List.mem_of_getElem? (i := 726) (by decide +kernel), List.mem_of_getElem? (i := 962) (by decide +kernel), List.mem_of_getElem? (i := 963) (by decide +kernel)⟩
theorem lw_p40 : lw_okq (⟨"HungInStormModel", "tradesOf", "(II)I"⟩, 33) := ⟨⟨by decide +kernel, by decide +kernel⟩, List.mem_of_getElem? (i := 726) (by decide +kernel), List.mem_of_getElem? (i := 977) (by decide +kernel), List.mem_of_getElem? (i := 978) (by decide +kernel)⟩
theorem lw_p41 : lw_okq (⟨"HungInStormModel", "levelsOf", "(III)I"⟩, 33) := ⟨⟨by decide +kernel, by decide +kernel⟩, List.mem_of_getElem? (i := 726) (by decide +kernel), List.mem_of_getElem? (i := 997) (by decide +kernel), List.mem_of_getElem? (i := 998) (by decide +kernel)⟩
theorem lw_p42 : lw_okq (⟨"HungInStormModel", "note", "(II)V"⟩, 33) := ⟨⟨by decide +kernel, by decide +kernel⟩, List.mem_of_getElem? (i := 726) (by decide +kernel), List.mem_of_getElem? (i := 1015) (by decide +kernel), List.mem_of_getElem? (i := 1016) (by decide +kernel)⟩
def lw_privs_3 : List (MethodName × Nat) := [(⟨"HungInStormModel", "goDay", "()V"⟩, 33), (⟨"HungInStormModel", "goBy", "(IZ)V"⟩, 33), (⟨"HungInStormModel", "leftOf", "(IIII)I"⟩, 33), (⟨"HungInStormModel", "areTogether", "(II)Z"⟩, 33), (⟨"HungInStormModel", "marketsTo", "(I)I"⟩, 33), (⟨"HungInStormModel", "pairs", "()I"⟩, 33), (⟨"HungInStormModel", "carryAll", "(I)V"⟩, 33), (⟨"HungInStormModel", "carry", "(IIII)V"⟩, 33), (⟨"HungInStormModel", "tradesOf", "(II)I"⟩, 33), (⟨"HungInStormModel", "levelsOf", "(III)I"⟩, 33), (⟨"HungInStormModel", "note", "(II)V"⟩, 33)]
theorem lw_r3 : ∀ q ∈ lw_privs_3, lw_okq q := List.forall_mem_cons.mpr ⟨lw_p32, List.forall_mem_cons.mpr ⟨lw_p33, List.forall_mem_cons.mpr ⟨lw_p34, List.forall_mem_cons.mpr ⟨lw_p35, List.forall_mem_cons.mpr ⟨lw_p36, List.forall_mem_cons.mpr ⟨lw_p37, List.forall_mem_cons.mpr ⟨lw_p38, List.forall_mem_cons.mpr ⟨lw_p39, List.forall_mem_cons.mpr ⟨lw_p40, List.forall_mem_cons.mpr ⟨lw_p41, List.forall_mem_cons.mpr ⟨lw_p42, fun _ h => absurd h List.not_mem_nil⟩⟩⟩⟩⟩⟩⟩⟩⟩⟩⟩
def lw_privs : List (MethodName × Nat) := lw_privs_1 ++ (lw_privs_2 ++ (lw_privs_3))
def lw_tbl : List Cond := k2_sels lw_privs ++ tables_1
theorem lw_privs_ok : ∀ q ∈ lw_privs, lw_okq q := by
  show ∀ q ∈ lw_privs_1 ++ (lw_privs_2 ++ (lw_privs_3)), lw_okq q
  exact List.forall_mem_append.mpr ⟨lw_r1, List.forall_mem_append.mpr ⟨lw_r2, lw_r3⟩⟩

/-! ===== BEGIN words of one list among another's, by their places ===== -/
theorem goodIn_r {big : List Cond} (ws : List Cond) (ps : List Nat) (hp : ws = ps.filterMap (fun i => big[i]?)) (h : ws.all goodWord = true) : GoodIn big ws := by
  intro w hw
  have h1 := List.all_eq_true.mp h w hw
  rw [hp] at hw
  obtain ⟨i, -, hi⟩ := List.mem_filterMap.mp hw
  have hm : w ∈ big := by first | exact List.mem_of_getElem? hi | exact List.getElem?_mem hi
  exact ⟨hm, good_of_word h1⟩
theorem goodIn_app {big a b : List Cond} (ha : GoodIn big a) (hb : GoodIn big b) : GoodIn big (a ++ b) := fun w h => (List.mem_append.mp h).elim (ha w) (hb w)
theorem goodIn_ca {big a b : List Cond} {c : Cond} (ha : GoodIn big (c :: a)) (hb : GoodIn big b) : GoodIn big (c :: (a ++ b)) := fun w h => (List.mem_cons.mp h).elim (fun e => ha w (List.mem_cons.mpr (Or.inl e))) (fun h => (List.mem_append.mp h).elim (fun h => ha w (List.mem_cons.mpr (Or.inr h))) (hb w))
theorem goodIn_sub {big ws : List Cond} (hm : ∀ w ∈ ws, w ∈ big) (h : ws.all goodWord = true) : GoodIn big ws := fun w hw => ⟨hm w hw, good_of_word (List.all_eq_true.mp h w hw)⟩
/-! ===== END ===== -/

/-! ===== BEGIN printed: names, fields, word lists, decode rows ===== -/
def RX0 : String := "HungInStorm$Chase"
def TX0 : u_T := fun k => match k with
  | 0 => ("HungInStorm$Chase", "now", "[J", false)
  | 1 => ("HungInStorm$Chase", "then", "[J", false)
  | 2 => ("HungInStorm$Chase", "day", "I", false)
  | _ => ("HungInStorm$Chase", "gas", "I", false)
def tyX0 : Nat → FieldType := fun k => match k with
  | 0 => .array .long
  | 1 => .array .long
  | 2 => .int
  | _ => .int
abbrev wsX00 : List Cond := u_ws RX0 TX0 4
theorem nmX0 : ∀ a, a < 4 → ∀ b, b < 4 → a ≠ b → (TX0 a).2.1 ≠ (TX0 b).2.1 := by decide +kernel
theorem tyX0_ok : ∀ k, k < 4 → parseFieldDescriptor (TX0 k).2.2.1 = some (tyX0 k) := by decide +kernel
abbrev cX0_init : ByteArray := prog_2_method_1_code
def yX0_init : MethodName := ⟨RX0, "<init>", "()V"⟩
abbrev cX0_hunt : ByteArray := prog_2_method_2_code
def yX0_hunt : MethodName := ⟨RX0, "hunt", "(LHungInStorm$Storm;ILHungInStorm$Course;)Z"⟩
abbrev cX0_cell : ByteArray := prog_2_method_3_code
def yX0_cell : MethodName := ⟨RX0, "cell", "(II)I"⟩
abbrev cX0_empty : ByteArray := prog_2_method_4_code
def yX0_empty : MethodName := ⟨RX0, "empty", "([J)V"⟩
abbrev cX0_passDay : ByteArray := prog_2_method_5_code
def yX0_passDay : MethodName := ⟨RX0, "passDay", "(LHungInStorm$Storm;I)V"⟩
abbrev cX0_leave : ByteArray := prog_2_method_6_code
def yX0_leave : MethodName := ⟨RX0, "leave", "(LHungInStorm$Storm;IIIJ)V"⟩
abbrev cX0_sink : ByteArray := prog_2_method_7_code
def yX0_sink : MethodName := ⟨RX0, "sink", "(LHungInStorm$Storm;IIIJ)V"⟩
abbrev cX0_arrive : ByteArray := prog_2_method_8_code
def yX0_arrive : MethodName := ⟨RX0, "arrive", "(LHungInStorm$Storm;IIIJ)V"⟩
abbrev cX0_halved : ByteArray := prog_2_method_9_code
def yX0_halved : MethodName := ⟨RX0, "halved", "(J)J"⟩
abbrev cX0_highest : ByteArray := prog_2_method_10_code
def yX0_highest : MethodName := ⟨RX0, "highest", "(J)I"⟩
def RX1 : String := "HungInStorm$Course"
def TX1 : u_T := fun k => match k with
  | 0 => ("HungInStorm$Course", "level", "[I", true)
  | 1 => ("HungInStorm$Course", "place", "[I", true)
  | 2 => ("HungInStorm$Course", "gas", "[I", true)
  | 3 => ("HungInStorm$Course", "lostDay", "I", false)
  | 4 => ("HungInStorm$Course", "atLevel", "I", false)
  | 5 => ("HungInStorm$Course", "atPlace", "I", false)
  | _ => ("HungInStorm$Course", "hasGas", "I", false)
def tyX1 : Nat → FieldType := fun k => match k with
  | 0 => .array .int
  | 1 => .array .int
  | 2 => .array .int
  | 3 => .int
  | 4 => .int
  | 5 => .int
  | _ => .int
abbrev wsX10 : List Cond := u_ws RX1 TX1 7
theorem nmX1 : ∀ a, a < 7 → ∀ b, b < 7 → a ≠ b → (TX1 a).2.1 ≠ (TX1 b).2.1 := by decide +kernel
theorem tyX1_ok : ∀ k, k < 7 → parseFieldDescriptor (TX1 k).2.2.1 = some (tyX1 k) := by decide +kernel
abbrev cX1_init : ByteArray := prog_3_method_1_code
def yX1_init : MethodName := ⟨RX1, "<init>", "()V"⟩
abbrev cX1_follow : ByteArray := prog_3_method_2_code
def yX1_follow : MethodName := ⟨RX1, "follow", "(LHungInStorm$Storm;III)V"⟩
abbrev cX1_note : ByteArray := prog_3_method_3_code
def yX1_note : MethodName := ⟨RX1, "note", "(I)V"⟩
abbrev cX1_runErrands : ByteArray := prog_3_method_4_code
def yX1_runErrands : MethodName := ⟨RX1, "runErrands", "(LHungInStorm$Storm;II)V"⟩
abbrev cX1_sinkWithoutGas : ByteArray := prog_3_method_5_code
def yX1_sinkWithoutGas : MethodName := ⟨RX1, "sinkWithoutGas", "(I)V"⟩
abbrev cX1_goOn : ByteArray := prog_3_method_6_code
def yX1_goOn : MethodName := ⟨RX1, "goOn", "(LHungInStorm$Storm;II)V"⟩
abbrev cX1_floats : ByteArray := prog_3_method_7_code
def yX1_floats : MethodName := ⟨RX1, "floats", "(I)Z"⟩
abbrev cX1_meets : ByteArray := prog_3_method_8_code
def yX1_meets : MethodName := ⟨RX1, "meets", "(LHungInStorm$Course;I)Z"⟩
def RX2 : String := "HungInStorm$Fleet"
def TX2 : u_T := fun k => match k with
  | 0 => ("HungInStorm$Fleet", "courses", "[LHungInStorm$Course;", true)
  | _ => ("HungInStorm$Fleet", "size", "I", false)
def tyX2 : Nat → FieldType := fun k => match k with
  | 0 => .array (.object "HungInStorm$Course")
  | _ => .int
abbrev wsX20 : List Cond := u_ws RX2 TX2 2
theorem nmX2 : ∀ a, a < 2 → ∀ b, b < 2 → a ≠ b → (TX2 a).2.1 ≠ (TX2 b).2.1 := by decide +kernel
theorem tyX2_ok : ∀ k, k < 2 → parseFieldDescriptor (TX2 k).2.2.1 = some (tyX2 k) := by decide +kernel
abbrev cX2_init : ByteArray := prog_4_method_1_code
def yX2_init : MethodName := ⟨RX2, "<init>", "()V"⟩
abbrev cX2_followAsTold : ByteArray := prog_4_method_2_code
def yX2_followAsTold : MethodName := ⟨RX2, "followAsTold", "(LHungInStorm$Storm;)V"⟩
abbrev cX2_followYear : ByteArray := prog_4_method_3_code
def yX2_followYear : MethodName := ⟨RX2, "followYear", "(LHungInStorm$Storm;I)V"⟩
abbrev cX2_allMarkets : ByteArray := prog_4_method_4_code
def yX2_allMarkets : MethodName := ⟨RX2, "allMarkets", "(I)I"⟩
abbrev cX2_marketsWith : ByteArray := prog_4_method_5_code
def yX2_marketsWith : MethodName := ⟨RX2, "marketsWith", "(LHungInStorm$Course;II)I"⟩
abbrev cX2_lostTowns : ByteArray := prog_4_method_6_code
def yX2_lostTowns : MethodName := ⟨RX2, "lostTowns", "()I"⟩
def RX3 : String := "HungInStorm$History"
def TX3 : u_T := fun k => match k with
  | 0 => ("HungInStorm$History", "town", "[I", true)
  | 1 => ("HungInStorm$History", "gasBefore", "[I", true)
  | _ => ("HungInStorm$History", "size", "I", false)
def tyX3 : Nat → FieldType := fun k => match k with
  | 0 => .array .int
  | 1 => .array .int
  | _ => .int
abbrev wsX30 : List Cond := u_ws RX3 TX3 3
theorem nmX3 : ∀ a, a < 3 → ∀ b, b < 3 → a ≠ b → (TX3 a).2.1 ≠ (TX3 b).2.1 := by decide +kernel
theorem tyX3_ok : ∀ k, k < 3 → parseFieldDescriptor (TX3 k).2.2.1 = some (tyX3 k) := by decide +kernel
abbrev cX3_init : ByteArray := prog_5_method_1_code
def yX3_init : MethodName := ⟨RX3, "<init>", "()V"⟩
abbrev cX3_clear : ByteArray := prog_5_method_2_code
def yX3_clear : MethodName := ⟨RX3, "clear", "()V"⟩
abbrev cX3_note : ByteArray := prog_5_method_3_code
def yX3_note : MethodName := ⟨RX3, "note", "(II)V"⟩
abbrev cX3_forgetOldest : ByteArray := prog_5_method_4_code
def yX3_forgetOldest : MethodName := ⟨RX3, "forgetOldest", "()V"⟩
abbrev cX3_takeBack : ByteArray := prog_5_method_5_code
def yX3_takeBack : MethodName := ⟨RX3, "takeBack", "(LHungInStorm$Orders;)Z"⟩
def RX4 : String := "HungInStorm$Odds"
def TX4 : u_T := fun k => match k with
  | 0 => ("HungInStorm$Odds", "now", "[J", false)
  | 1 => ("HungInStorm$Odds", "then", "[J", false)
  | 2 => ("HungInStorm$Odds", "above", "J", false)
  | _ => ("HungInStorm$Odds", "below", "J", false)
def tyX4 : Nat → FieldType := fun k => match k with
  | 0 => .array .long
  | 1 => .array .long
  | 2 => .long
  | _ => .long
abbrev wsX40 : List Cond := u_ws RX4 TX4 4
theorem nmX4 : ∀ a, a < 4 → ∀ b, b < 4 → a ≠ b → (TX4 a).2.1 ≠ (TX4 b).2.1 := by decide +kernel
theorem tyX4_ok : ∀ k, k < 4 → parseFieldDescriptor (TX4 k).2.2.1 = some (tyX4 k) := by decide +kernel
abbrev cX4_init : ByteArray := prog_6_method_1_code
def yX4_init : MethodName := ⟨RX4, "<init>", "()V"⟩
abbrev cX4_reckon : ByteArray := prog_6_method_2_code
def yX4_reckon : MethodName := ⟨RX4, "reckon", "(IIIII)V"⟩
abbrev cX4_gust : ByteArray := prog_6_method_3_code
def yX4_gust : MethodName := ⟨RX4, "gust", "(II)V"⟩
abbrev cX4_reduce : ByteArray := prog_6_method_4_code
def yX4_reduce : MethodName := ⟨RX4, "reduce", "(I)V"⟩
abbrev cX4_leaveOut : ByteArray := prog_6_method_5_code
def yX4_leaveOut : MethodName := ⟨RX4, "leaveOut", "(I)V"⟩
def RX5 : String := "HungInStorm$Orders"
def TX5 : u_T := fun k => match k with
  | 0 => ("HungInStorm$Orders", "who", "[I", true)
  | 1 => ("HungInStorm$Orders", "day", "[I", true)
  | 2 => ("HungInStorm$Orders", "up", "[Z", true)
  | 3 => ("HungInStorm$Orders", "gas", "[I", true)
  | _ => ("HungInStorm$Orders", "errands", "I", false)
def tyX5 : Nat → FieldType := fun k => match k with
  | 0 => .array .int
  | 1 => .array .int
  | 2 => .array .boolean
  | 3 => .array .int
  | _ => .int
abbrev wsX50 : List Cond := u_ws RX5 TX5 5
theorem nmX5 : ∀ a, a < 5 → ∀ b, b < 5 → a ≠ b → (TX5 a).2.1 ≠ (TX5 b).2.1 := by decide +kernel
theorem tyX5_ok : ∀ k, k < 5 → parseFieldDescriptor (TX5 k).2.2.1 = some (tyX5 k) := by decide +kernel
abbrev cX5_init : ByteArray := prog_7_method_1_code
def yX5_init : MethodName := ⟨RX5, "<init>", "()V"⟩
abbrev cX5_tell : ByteArray := prog_7_method_2_code
def yX5_tell : MethodName := ⟨RX5, "tell", "(IIZ)Z"⟩
abbrev cX5_dropLatestErrand : ByteArray := prog_7_method_3_code
def yX5_dropLatestErrand : MethodName := ⟨RX5, "dropLatestErrand", "()V"⟩
abbrev cX5_copy : ByteArray := prog_7_method_4_code
def yX5_copy : MethodName := ⟨RX5, "copy", "(LHungInStorm$Orders;)V"⟩
def RX6 : String := "HungInStorm$Reader"
def TX6 : u_T := fun k => match k with
  | 0 => ("HungInStorm$Reader", "numbers", "[I", true)
  | 1 => ("HungInStorm$Reader", "found", "I", false)
  | _ => ("HungInStorm$Reader", "next", "I", false)
def tyX6 : Nat → FieldType := fun k => match k with
  | 0 => .array .int
  | 1 => .int
  | _ => .int
abbrev wsX60 : List Cond := u_ws RX6 TX6 3
theorem nmX6 : ∀ a, a < 3 → ∀ b, b < 3 → a ≠ b → (TX6 a).2.1 ≠ (TX6 b).2.1 := by decide +kernel
theorem tyX6_ok : ∀ k, k < 3 → parseFieldDescriptor (TX6 k).2.2.1 = some (tyX6 k) := by decide +kernel
abbrev cX6_init : ByteArray := prog_8_method_1_code
def yX6_init : MethodName := ⟨RX6, "<init>", "()V"⟩
abbrev cX6_read : ByteArray := prog_8_method_2_code
def yX6_read : MethodName := ⟨RX6, "read", "(LHungInStorm$Text;LHungInStorm$Storm;)I"⟩
abbrev cX6_readNumbers : ByteArray := prog_8_method_3_code
def yX6_readNumbers : MethodName := ⟨RX6, "readNumbers", "(LHungInStorm$Text;)Z"⟩
abbrev cX6_readNumber : ByteArray := prog_8_method_4_code
def yX6_readNumber : MethodName := ⟨RX6, "readNumber", "(LHungInStorm$Text;)Z"⟩
abbrev cX6_isFigure : ByteArray := prog_8_method_5_code
def yX6_isFigure : MethodName := ⟨RX6, "isFigure", "(I)Z"⟩
abbrev cX6_tell : ByteArray := prog_8_method_6_code
def yX6_tell : MethodName := ⟨RX6, "tell", "(ILHungInStorm$Storm;)Z"⟩
def RX7 : String := "HungInStorm$Shelf"
def TX7 : u_T := fun k => match k with
  | 0 => ("HungInStorm$Shelf", "kept", "[LHungInStorm$Orders;", true)
  | _ => ("HungInStorm$Shelf", "size", "I", false)
def tyX7 : Nat → FieldType := fun k => match k with
  | 0 => .array (.object "HungInStorm$Orders")
  | _ => .int
abbrev wsX70 : List Cond := u_ws RX7 TX7 2
theorem nmX7 : ∀ a, a < 2 → ∀ b, b < 2 → a ≠ b → (TX7 a).2.1 ≠ (TX7 b).2.1 := by decide +kernel
theorem tyX7_ok : ∀ k, k < 2 → parseFieldDescriptor (TX7 k).2.2.1 = some (tyX7 k) := by decide +kernel
abbrev cX7_init : ByteArray := prog_9_method_1_code
def yX7_init : MethodName := ⟨RX7, "<init>", "()V"⟩
abbrev cX7_clear : ByteArray := prog_9_method_2_code
def yX7_clear : MethodName := ⟨RX7, "clear", "()V"⟩
abbrev cX7_put : ByteArray := prog_9_method_3_code
def yX7_put : MethodName := ⟨RX7, "put", "(LHungInStorm$Orders;)Z"⟩
abbrev cX7_take : ByteArray := prog_9_method_4_code
def yX7_take : MethodName := ⟨RX7, "take", "(LHungInStorm$Orders;)Z"⟩
def RX8 : String := "HungInStorm$Storm"
def TX8 : u_T := fun k => match k with
  | 0 => ("HungInStorm$Storm", "pace", "[I", true)
  | 1 => ("HungInStorm$Storm", "wet", "[I", true)
  | 2 => ("HungInStorm$Storm", "firstLevel", "[I", true)
  | 3 => ("HungInStorm$Storm", "firstPlace", "[I", true)
  | 4 => ("HungInStorm$Storm", "weight", "[I", true)
  | 5 => ("HungInStorm$Storm", "kind", "[I", true)
  | 6 => ("HungInStorm$Storm", "struckLevel", "[I", true)
  | 7 => ("HungInStorm$Storm", "struckDay", "[I", true)
  | 8 => ("HungInStorm$Storm", "orders", "LHungInStorm$Orders;", true)
  | 9 => ("HungInStorm$Storm", "levels", "I", false)
  | 10 => ("HungInStorm$Storm", "towns", "I", false)
  | _ => ("HungInStorm$Storm", "lightnings", "I", false)
def tyX8 : Nat → FieldType := fun k => match k with
  | 0 => .array .int
  | 1 => .array .int
  | 2 => .array .int
  | 3 => .array .int
  | 4 => .array .int
  | 5 => .array .int
  | 6 => .array .int
  | 7 => .array .int
  | 8 => .object "HungInStorm$Orders"
  | 9 => .int
  | 10 => .int
  | _ => .int
abbrev wsX80 : List Cond := u_ws RX8 TX8 12
theorem nmX8 : ∀ a, a < 12 → ∀ b, b < 12 → a ≠ b → (TX8 a).2.1 ≠ (TX8 b).2.1 := by decide +kernel
theorem tyX8_ok : ∀ k, k < 12 → parseFieldDescriptor (TX8 k).2.2.1 = some (tyX8 k) := by decide +kernel
abbrev cX8_init : ByteArray := prog_10_method_1_code
def yX8_init : MethodName := ⟨RX8, "<init>", "()V"⟩
abbrev cX8_clear : ByteArray := prog_10_method_2_code
def yX8_clear : MethodName := ⟨RX8, "clear", "()V"⟩
abbrev cX8_addLevel : ByteArray := prog_10_method_3_code
def yX8_addLevel : MethodName := ⟨RX8, "addLevel", "(II)Z"⟩
abbrev cX8_addTown : ByteArray := prog_10_method_4_code
def yX8_addTown : MethodName := ⟨RX8, "addTown", "(IIIII)Z"⟩
abbrev cX8_addErrand : ByteArray := prog_10_method_5_code
def yX8_addErrand : MethodName := ⟨RX8, "addErrand", "(III)Z"⟩
abbrev cX8_addLightning : ByteArray := prog_10_method_6_code
def yX8_addLightning : MethodName := ⟨RX8, "addLightning", "(II)Z"⟩
abbrev cX8_isWhole : ByteArray := prog_10_method_7_code
def yX8_isWhole : MethodName := ⟨RX8, "isWhole", "()Z"⟩
abbrev cX8_isStruck : ByteArray := prog_10_method_8_code
def yX8_isStruck : MethodName := ⟨RX8, "isStruck", "(II)Z"⟩
abbrev cX8_dailyLoss : ByteArray := prog_10_method_9_code
def yX8_dailyLoss : MethodName := ⟨RX8, "dailyLoss", "(III)I"⟩
def RX9 : String := "HungInStorm$Text"
def TX9 : u_T := fun k => match k with
  | 0 => ("HungInStorm$Text", "bytes", "[I", true)
  | _ => ("HungInStorm$Text", "length", "I", false)
def tyX9 : Nat → FieldType := fun k => match k with
  | 0 => .array .int
  | _ => .int
abbrev wsX90 : List Cond := u_ws RX9 TX9 2
theorem nmX9 : ∀ a, a < 2 → ∀ b, b < 2 → a ≠ b → (TX9 a).2.1 ≠ (TX9 b).2.1 := by decide +kernel
theorem tyX9_ok : ∀ k, k < 2 → parseFieldDescriptor (TX9 k).2.2.1 = some (tyX9 k) := by decide +kernel
abbrev cX9_init : ByteArray := prog_11_method_1_code
def yX9_init : MethodName := ⟨RX9, "<init>", "()V"⟩
abbrev cX9_append : ByteArray := prog_11_method_2_code
def yX9_append : MethodName := ⟨RX9, "append", "(I)V"⟩
abbrev cX9_clear : ByteArray := prog_11_method_3_code
def yX9_clear : MethodName := ⟨RX9, "clear", "()V"⟩
abbrev cX9_at : ByteArray := prog_11_method_4_code
def yX9_at : MethodName := ⟨RX9, "at", "(I)I"⟩
def RX10 : String := "HungInStorm"
def TX10 : u_T := fun k => match k with
  | 0 => ("HungInStorm", "text", "LHungInStorm$Text;", true)
  | 1 => ("HungInStorm", "reader", "LHungInStorm$Reader;", true)
  | 2 => ("HungInStorm", "fleet", "LHungInStorm$Fleet;", true)
  | 3 => ("HungInStorm", "fleetOfYear", "LHungInStorm$Fleet;", true)
  | 4 => ("HungInStorm", "trial", "LHungInStorm$Course;", true)
  | 5 => ("HungInStorm", "chase", "LHungInStorm$Chase;", true)
  | 6 => ("HungInStorm", "odds", "LHungInStorm$Odds;", true)
  | 7 => ("HungInStorm", "history", "LHungInStorm$History;", true)
  | 8 => ("HungInStorm", "shelf", "LHungInStorm$Shelf;", true)
  | 9 => ("HungInStorm", "storm", "LHungInStorm$Storm;", false)
  | 10 => ("HungInStorm", "draft", "LHungInStorm$Storm;", false)
  | _ => ("HungInStorm", "fleetIsOld", "Z", false)
def tyX10 : Nat → FieldType := fun k => match k with
  | 0 => .object "HungInStorm$Text"
  | 1 => .object "HungInStorm$Reader"
  | 2 => .object "HungInStorm$Fleet"
  | 3 => .object "HungInStorm$Fleet"
  | 4 => .object "HungInStorm$Course"
  | 5 => .object "HungInStorm$Chase"
  | 6 => .object "HungInStorm$Odds"
  | 7 => .object "HungInStorm$History"
  | 8 => .object "HungInStorm$Shelf"
  | 9 => .object "HungInStorm$Storm"
  | 10 => .object "HungInStorm$Storm"
  | _ => .boolean
abbrev wsX100 : List Cond := u_ws RX10 TX10 12
theorem nmX10 : ∀ a, a < 12 → ∀ b, b < 12 → a ≠ b → (TX10 a).2.1 ≠ (TX10 b).2.1 := by decide +kernel
theorem tyX10_ok : ∀ k, k < 12 → parseFieldDescriptor (TX10 k).2.2.1 = some (tyX10 k) := by decide +kernel
abbrev cX10_init : ByteArray := prog_1_method_1_code
def yX10_init : MethodName := ⟨RX10, "<init>", "()V"⟩
abbrev cX10_write : ByteArray := prog_1_method_2_code
def yX10_write : MethodName := ⟨RX10, "write", "(IJ)I"⟩
abbrev cX10_wipe : ByteArray := prog_1_method_3_code
def yX10_wipe : MethodName := ⟨RX10, "wipe", "()I"⟩
abbrev cX10_fault : ByteArray := prog_1_method_4_code
def yX10_fault : MethodName := ⟨RX10, "fault", "()I"⟩
abbrev cX10_lay : ByteArray := prog_1_method_5_code
def yX10_lay : MethodName := ⟨RX10, "lay", "()I"⟩
abbrev cX10_level : ByteArray := prog_1_method_6_code
def yX10_level : MethodName := ⟨RX10, "level", "(II)I"⟩
abbrev cX10_town : ByteArray := prog_1_method_7_code
def yX10_town : MethodName := ⟨RX10, "town", "(III)I"⟩
abbrev cX10_lost : ByteArray := prog_1_method_8_code
def yX10_lost : MethodName := ⟨RX10, "lost", "(I)I"⟩
abbrev cX10_meet : ByteArray := prog_1_method_9_code
def yX10_meet : MethodName := ⟨RX10, "meet", "(II)I"⟩
abbrev cX10_markets : ByteArray := prog_1_method_10_code
def yX10_markets : MethodName := ⟨RX10, "markets", "(I)I"⟩
abbrev cX10_stay : ByteArray := prog_1_method_11_code
def yX10_stay : MethodName := ⟨RX10, "stay", "(III)I"⟩
abbrev cX10_catches : ByteArray := prog_1_method_12_code
def yX10_catches : MethodName := ⟨RX10, "catches", "(III)I"⟩
abbrev cX10_keeps : ByteArray := prog_1_method_13_code
def yX10_keeps : MethodName := ⟨RX10, "keeps", "(III)I"⟩
abbrev cX10_trades : ByteArray := prog_1_method_14_code
def yX10_trades : MethodName := ⟨RX10, "trades", "(III)I"⟩
abbrev cX10_dropped : ByteArray := prog_1_method_15_code
def yX10_dropped : MethodName := ⟨RX10, "dropped", "(IIII)I"⟩
abbrev cX10_seen : ByteArray := prog_1_method_16_code
def yX10_seen : MethodName := ⟨RX10, "seen", "(III)I"⟩
abbrev cX10_seenTwice : ByteArray := prog_1_method_17_code
def yX10_seenTwice : MethodName := ⟨RX10, "seenTwice", "(IIIII)I"⟩
abbrev cX10_gusts : ByteArray := prog_1_method_18_code
def yX10_gusts : MethodName := ⟨RX10, "gusts", "(IIIII)J"⟩
abbrev cX10_errand : ByteArray := prog_1_method_19_code
def yX10_errand : MethodName := ⟨RX10, "errand", "(IIZ)I"⟩
abbrev cX10_fill : ByteArray := prog_1_method_20_code
def yX10_fill : MethodName := ⟨RX10, "fill", "(II)I"⟩
abbrev cX10_undo : ByteArray := prog_1_method_21_code
def yX10_undo : MethodName := ⟨RX10, "undo", "()I"⟩
abbrev cX10_year : ByteArray := prog_1_method_22_code
def yX10_year : MethodName := ⟨RX10, "year", "(II)I"⟩
abbrev cX10_keep : ByteArray := prog_1_method_23_code
def yX10_keep : MethodName := ⟨RX10, "keep", "()I"⟩
abbrev cX10_back : ByteArray := prog_1_method_24_code
def yX10_back : MethodName := ⟨RX10, "back", "()I"⟩
abbrev cX10_count : ByteArray := prog_1_method_25_code
def yX10_count : MethodName := ⟨RX10, "count", "(I)I"⟩
abbrev cX10_isWithin : ByteArray := prog_1_method_26_code
def yX10_isWithin : MethodName := ⟨RX10, "isWithin", "(III)Z"⟩
abbrev cX10_isPlace : ByteArray := prog_1_method_27_code
def yX10_isPlace : MethodName := ⟨RX10, "isPlace", "(I)Z"⟩
abbrev cX10_isLevel : ByteArray := prog_1_method_28_code
def yX10_isLevel : MethodName := ⟨RX10, "isLevel", "(I)Z"⟩
abbrev cX10_isTown : ByteArray := prog_1_method_29_code
def yX10_isTown : MethodName := ⟨RX10, "isTown", "(I)Z"⟩
abbrev cX10_areTwoTowns : ByteArray := prog_1_method_30_code
def yX10_areTwoTowns : MethodName := ⟨RX10, "areTwoTowns", "(II)Z"⟩
abbrev cX10_followed : ByteArray := prog_1_method_31_code
def yX10_followed : MethodName := ⟨RX10, "followed", "()LHungInStorm$Fleet;"⟩
abbrev cX10_round : ByteArray := prog_1_method_32_code
def yX10_round : MethodName := ⟨RX10, "round", "(I)I"⟩
abbrev cX10_firstDayOf : ByteArray := prog_1_method_33_code
def yX10_firstDayOf : MethodName := ⟨RX10, "firstDayOf", "(III)I"⟩
abbrev cX10_fitting : ByteArray := prog_1_method_34_code
def yX10_fitting : MethodName := ⟨RX10, "fitting", "(III)I"⟩
def RX11 : String := "HungInStormModel"
def TX11 : u_T := fun k => match k with
  | 0 => ("HungInStormModel", "length", "I", false)
  | 1 => ("HungInStormModel", "text", "[I", true)
  | 2 => ("HungInStormModel", "levels", "[I", true)
  | 3 => ("HungInStormModel", "paces", "[I", true)
  | 4 => ("HungInStormModel", "wet", "[I", true)
  | 5 => ("HungInStormModel", "many", "[I", true)
  | 6 => ("HungInStormModel", "homes", "[I", true)
  | 7 => ("HungInStormModel", "firsts", "[I", true)
  | 8 => ("HungInStormModel", "weights", "[I", true)
  | 9 => ("HungInStormModel", "kinds", "[I", true)
  | 10 => ("HungInStormModel", "bolts", "[I", true)
  | 11 => ("HungInStormModel", "boltAt", "[I", true)
  | 12 => ("HungInStormModel", "boltOn", "[I", true)
  | 13 => ("HungInStormModel", "filled", "[I", true)
  | 14 => ("HungInStormModel", "errands", "[I", true)
  | 15 => ("HungInStormModel", "errandOf", "[I", true)
  | 16 => ("HungInStormModel", "errandOn", "[I", true)
  | 17 => ("HungInStormModel", "errandUp", "[I", true)
  | 18 => ("HungInStormModel", "keptMany", "I", false)
  | 19 => ("HungInStormModel", "undoMany", "I", false)
  | 20 => ("HungInStormModel", "undos", "[I", true)
  | 21 => ("HungInStormModel", "spot", "I", false)
  | 22 => ("HungInStormModel", "told", "[I", true)
  | 23 => ("HungInStormModel", "at", "[I", true)
  | 24 => ("HungInStormModel", "place", "[I", true)
  | 25 => ("HungInStormModel", "gas", "[I", true)
  | 26 => ("HungInStormModel", "lostOn", "[I", true)
  | 27 => ("HungInStormModel", "day", "I", false)
  | 28 => ("HungInStormModel", "now", "[J", true)
  | 29 => ("HungInStormModel", "next", "[J", true)
  | 30 => ("HungInStormModel", "ways", "[J", true)
  | 31 => ("HungInStormModel", "then", "[J", true)
  | _ => ("HungInStormModel", "held", "[I", true)
def tyX11 : Nat → FieldType := fun k => match k with
  | 0 => .int
  | 1 => .array .int
  | 2 => .array .int
  | 3 => .array .int
  | 4 => .array .int
  | 5 => .array .int
  | 6 => .array .int
  | 7 => .array .int
  | 8 => .array .int
  | 9 => .array .int
  | 10 => .array .int
  | 11 => .array .int
  | 12 => .array .int
  | 13 => .array .int
  | 14 => .array .int
  | 15 => .array .int
  | 16 => .array .int
  | 17 => .array .int
  | 18 => .int
  | 19 => .int
  | 20 => .array .int
  | 21 => .int
  | 22 => .array .int
  | 23 => .array .int
  | 24 => .array .int
  | 25 => .array .int
  | 26 => .array .int
  | 27 => .int
  | 28 => .array .long
  | 29 => .array .long
  | 30 => .array .long
  | 31 => .array .long
  | _ => .array .int
abbrev wsX110 : List Cond := u_ws RX11 TX11 33
theorem nmX11 : ∀ a, a < 33 → ∀ b, b < 33 → a ≠ b → (TX11 a).2.1 ≠ (TX11 b).2.1 := by decide +kernel
theorem tyX11_ok : ∀ k, k < 33 → parseFieldDescriptor (TX11 k).2.2.1 = some (tyX11 k) := by decide +kernel
abbrev cX11_init : ByteArray := prog_13_method_1_code
def yX11_init : MethodName := ⟨RX11, "<init>", "()V"⟩
abbrev cX11_in : ByteArray := prog_13_method_2_code
def yX11_in : MethodName := ⟨RX11, "in", "(JJJ)Z"⟩
abbrev cX11_write : ByteArray := prog_13_method_3_code
def yX11_write : MethodName := ⟨RX11, "write", "(IJ)I"⟩
abbrev cX11_wipe : ByteArray := prog_13_method_4_code
def yX11_wipe : MethodName := ⟨RX11, "wipe", "()I"⟩
abbrev cX11_byteAt : ByteArray := prog_13_method_5_code
def yX11_byteAt : MethodName := ⟨RX11, "byteAt", "(I)I"⟩
abbrev cX11_figures : ByteArray := prog_13_method_6_code
def yX11_figures : MethodName := ⟨RX11, "figures", "(I)Z"⟩
abbrev cX11_isTownItem : ByteArray := prog_13_method_7_code
def yX11_isTownItem : MethodName := ⟨RX11, "isTownItem", "()Z"⟩
abbrev cX11_addErrand : ByteArray := prog_13_method_8_code
def yX11_addErrand : MethodName := ⟨RX11, "addErrand", "(IIII)V"⟩
abbrev cX11_item : ByteArray := prog_13_method_9_code
def yX11_item : MethodName := ⟨RX11, "item", "()Z"⟩
abbrev cX11_readAll : ByteArray := prog_13_method_10_code
def yX11_readAll : MethodName := ⟨RX11, "readAll", "()I"⟩
abbrev cX11_fault : ByteArray := prog_13_method_11_code
def yX11_fault : MethodName := ⟨RX11, "fault", "()I"⟩
abbrev cX11_areThere : ByteArray := prog_13_method_12_code
def yX11_areThere : MethodName := ⟨RX11, "areThere", "()Z"⟩
abbrev cX11_copy : ByteArray := prog_13_method_13_code
def yX11_copy : MethodName := ⟨RX11, "copy", "(II)V"⟩
abbrev cX11_lay : ByteArray := prog_13_method_14_code
def yX11_lay : MethodName := ⟨RX11, "lay", "()I"⟩
abbrev cX11_isLevel : ByteArray := prog_13_method_15_code
def yX11_isLevel : MethodName := ⟨RX11, "isLevel", "(I)Z"⟩
abbrev cX11_isTown : ByteArray := prog_13_method_16_code
def yX11_isTown : MethodName := ⟨RX11, "isTown", "(I)Z"⟩
abbrev cX11_level : ByteArray := prog_13_method_17_code
def yX11_level : MethodName := ⟨RX11, "level", "(II)I"⟩
abbrev cX11_begin : ByteArray := prog_13_method_18_code
def yX11_begin : MethodName := ⟨RX11, "begin", "()V"⟩
abbrev cX11_goBy : ByteArray := prog_13_method_19_code
def yX11_goBy : MethodName := ⟨RX11, "goBy", "(IZ)V"⟩
abbrev cX11_leftOf : ByteArray := prog_13_method_20_code
def yX11_leftOf : MethodName := ⟨RX11, "leftOf", "(IIII)I"⟩
abbrev cX11_goDay : ByteArray := prog_13_method_21_code
def yX11_goDay : MethodName := ⟨RX11, "goDay", "()V"⟩
abbrev cX11_go : ByteArray := prog_13_method_22_code
def yX11_go : MethodName := ⟨RX11, "go", "(I)V"⟩
abbrev cX11_areTogether : ByteArray := prog_13_method_23_code
def yX11_areTogether : MethodName := ⟨RX11, "areTogether", "(II)Z"⟩
abbrev cX11_pairs : ByteArray := prog_13_method_24_code
def yX11_pairs : MethodName := ⟨RX11, "pairs", "()I"⟩
abbrev cX11_town : ByteArray := prog_13_method_25_code
def yX11_town : MethodName := ⟨RX11, "town", "(III)I"⟩
abbrev cX11_lost : ByteArray := prog_13_method_26_code
def yX11_lost : MethodName := ⟨RX11, "lost", "(I)I"⟩
abbrev cX11_meet : ByteArray := prog_13_method_27_code
def yX11_meet : MethodName := ⟨RX11, "meet", "(II)I"⟩
abbrev cX11_marketsTo : ByteArray := prog_13_method_28_code
def yX11_marketsTo : MethodName := ⟨RX11, "marketsTo", "(I)I"⟩
abbrev cX11_markets : ByteArray := prog_13_method_29_code
def yX11_markets : MethodName := ⟨RX11, "markets", "(I)I"⟩
abbrev cX11_stay : ByteArray := prog_13_method_30_code
def yX11_stay : MethodName := ⟨RX11, "stay", "(III)I"⟩
abbrev cX11_carry : ByteArray := prog_13_method_31_code
def yX11_carry : MethodName := ⟨RX11, "carry", "(IIII)V"⟩
abbrev cX11_carryAll : ByteArray := prog_13_method_32_code
def yX11_carryAll : MethodName := ⟨RX11, "carryAll", "(I)V"⟩
abbrev cX11_highest : ByteArray := prog_13_method_33_code
def yX11_highest : MethodName := ⟨RX11, "highest", "(J)I"⟩
abbrev cX11_catches : ByteArray := prog_13_method_34_code
def yX11_catches : MethodName := ⟨RX11, "catches", "(III)I"⟩
abbrev cX11_keeps : ByteArray := prog_13_method_35_code
def yX11_keeps : MethodName := ⟨RX11, "keeps", "(III)I"⟩
abbrev cX11_tradesOf : ByteArray := prog_13_method_36_code
def yX11_tradesOf : MethodName := ⟨RX11, "tradesOf", "(II)I"⟩
abbrev cX11_trades : ByteArray := prog_13_method_37_code
def yX11_trades : MethodName := ⟨RX11, "trades", "(III)I"⟩
abbrev cX11_isPlace : ByteArray := prog_13_method_38_code
def yX11_isPlace : MethodName := ⟨RX11, "isPlace", "(I)Z"⟩
abbrev cX11_dropped : ByteArray := prog_13_method_39_code
def yX11_dropped : MethodName := ⟨RX11, "dropped", "(IIII)I"⟩
abbrev cX11_levelsOf : ByteArray := prog_13_method_40_code
def yX11_levelsOf : MethodName := ⟨RX11, "levelsOf", "(III)I"⟩
abbrev cX11_isSeen : ByteArray := prog_13_method_41_code
def yX11_isSeen : MethodName := ⟨RX11, "isSeen", "(III)Z"⟩
abbrev cX11_seen : ByteArray := prog_13_method_42_code
def yX11_seen : MethodName := ⟨RX11, "seen", "(III)I"⟩
abbrev cX11_seenTwice : ByteArray := prog_13_method_43_code
def yX11_seenTwice : MethodName := ⟨RX11, "seenTwice", "(IIIII)I"⟩
abbrev cX11_gusts : ByteArray := prog_13_method_44_code
def yX11_gusts : MethodName := ⟨RX11, "gusts", "(IIIII)J"⟩
abbrev cX11_note : ByteArray := prog_13_method_45_code
def yX11_note : MethodName := ⟨RX11, "note", "(II)V"⟩
abbrev cX11_errand : ByteArray := prog_13_method_46_code
def yX11_errand : MethodName := ⟨RX11, "errand", "(IIZ)I"⟩
abbrev cX11_fill : ByteArray := prog_13_method_47_code
def yX11_fill : MethodName := ⟨RX11, "fill", "(II)I"⟩
abbrev cX11_undo : ByteArray := prog_13_method_48_code
def yX11_undo : MethodName := ⟨RX11, "undo", "()I"⟩
abbrev cX11_year : ByteArray := prog_13_method_49_code
def yX11_year : MethodName := ⟨RX11, "year", "(II)I"⟩
abbrev cX11_keep : ByteArray := prog_13_method_50_code
def yX11_keep : MethodName := ⟨RX11, "keep", "()I"⟩
abbrev cX11_back : ByteArray := prog_13_method_51_code
def yX11_back : MethodName := ⟨RX11, "back", "()I"⟩
abbrev cX11_count : ByteArray := prog_13_method_52_code
def yX11_count : MethodName := ⟨RX11, "count", "(I)I"⟩
def RJ9 : String := "java/lang/Math"
def TJ9 : u_T := fun k => match k with
  | _ => ("", "", "", false)
def tyJ9 : Nat → FieldType := fun k => match k with
  | _ => .int
abbrev wsJ90 : List Cond := u_ws RJ9 TJ9 0
theorem nmJ9 : ∀ a, a < 0 → ∀ b, b < 0 → a ≠ b → (TJ9 a).2.1 ≠ (TJ9 b).2.1 := by decide +kernel
theorem tyJ9_ok : ∀ k, k < 0 → parseFieldDescriptor (TJ9 k).2.2.1 = some (tyJ9 k) := by decide +kernel
abbrev cJ9_max_7cf53 : ByteArray := prog_14_method_65_code
def yJ9_max_7cf53 : MethodName := ⟨RJ9, "max", "(II)I"⟩
abbrev cJ9_min_7cf53 : ByteArray := prog_14_method_69_code
def yJ9_min_7cf53 : MethodName := ⟨RJ9, "min", "(II)I"⟩
def RJ0 : String := "java/lang/String"
def TJ0 : u_T := fun k => match k with
  | _ => ("", "", "", false)
def tyJ0 : Nat → FieldType := fun k => match k with
  | _ => .int
abbrev wsJ00 : List Cond := u_ws RJ0 TJ0 0
theorem nmJ0 : ∀ a, a < 0 → ∀ b, b < 0 → a ≠ b → (TJ0 a).2.1 ≠ (TJ0 b).2.1 := by decide +kernel
theorem tyJ0_ok : ∀ k, k < 0 → parseFieldDescriptor (TJ0 k).2.2.1 = some (tyJ0 k) := by decide +kernel
abbrev cJ0_length_8abf5 : ByteArray := prog_15_method_54_code
def yJ0_length_8abf5 : MethodName := ⟨RJ0, "length", "()I"⟩
abbrev cJ0_charAt_5068e : ByteArray := prog_15_method_56_code
def yJ0_charAt_5068e : MethodName := ⟨RJ0, "charAt", "(I)C"⟩
abbrev cJ0_coder_7d493 : ByteArray := prog_15_method_152_code
def yJ0_coder_7d493 : MethodName := ⟨RJ0, "coder", "()B"⟩
abbrev cJ0_isLatin1_aae02 : ByteArray := prog_15_method_154_code
def yJ0_isLatin1_aae02 : MethodName := ⟨RJ0, "isLatin1", "()Z"⟩
abbrev cJ0_checkIndex_df160 : ByteArray := prog_15_method_155_code
def yJ0_checkIndex_df160 : MethodName := ⟨RJ0, "checkIndex", "(II)V"⟩
def RJ1 : String := "java/lang/StringLatin1"
def TJ1 : u_T := fun k => match k with
  | _ => ("", "", "", false)
def tyJ1 : Nat → FieldType := fun k => match k with
  | _ => .int
abbrev wsJ10 : List Cond := u_ws RJ1 TJ1 0
theorem nmJ1 : ∀ a, a < 0 → ∀ b, b < 0 → a ≠ b → (TJ1 a).2.1 ≠ (TJ1 b).2.1 := by decide +kernel
theorem tyJ1_ok : ∀ k, k < 0 → parseFieldDescriptor (TJ1 k).2.2.1 = some (tyJ1 k) := by decide +kernel
abbrev cJ1_charAt_3b067 : ByteArray := prog_16_method_2_code
def yJ1_charAt_3b067 : MethodName := ⟨RJ1, "charAt", "([BI)C"⟩
def RJ2 : String := "java/lang/StringUTF16"
def TJ2 : u_T := fun k => match k with
  | _ => ("", "", "", false)
def tyJ2 : Nat → FieldType := fun k => match k with
  | _ => .int
abbrev wsJ20 : List Cond := u_ws RJ2 TJ2 0
theorem nmJ2 : ∀ a, a < 0 → ∀ b, b < 0 → a ≠ b → (TJ2 a).2.1 ≠ (TJ2 b).2.1 := by decide +kernel
theorem tyJ2_ok : ∀ k, k < 0 → parseFieldDescriptor (TJ2 k).2.2.1 = some (tyJ2 k) := by decide +kernel
abbrev cJ2_getChar_3b067 : ByteArray := prog_17_method_5_code
def yJ2_getChar_3b067 : MethodName := ⟨RJ2, "getChar", "([BI)C"⟩
abbrev cJ2_length_9d52b : ByteArray := prog_17_method_6_code
def yJ2_length_9d52b : MethodName := ⟨RJ2, "length", "([B)I"⟩
abbrev cJ2_charAt_3b067 : ByteArray := prog_17_method_83_code
def yJ2_charAt_3b067 : MethodName := ⟨RJ2, "charAt", "([BI)C"⟩
abbrev cJ2_checkIndex_2214a : ByteArray := prog_17_method_91_code
def yJ2_checkIndex_2214a : MethodName := ⟨RJ2, "checkIndex", "(I[B)V"⟩
def RJ3 : String := "jdk/internal/util/Preconditions"
def TJ3 : u_T := fun k => match k with
  | _ => ("", "", "", false)
def tyJ3 : Nat → FieldType := fun k => match k with
  | _ => .int
abbrev wsJ30 : List Cond := u_ws RJ3 TJ3 0
theorem nmJ3 : ∀ a, a < 0 → ∀ b, b < 0 → a ≠ b → (TJ3 a).2.1 ≠ (TJ3 b).2.1 := by decide +kernel
theorem tyJ3_ok : ∀ k, k < 0 → parseFieldDescriptor (TJ3 k).2.2.1 = some (tyJ3 k) := by decide +kernel
abbrev cJ3_checkIndex_8e157 : ByteArray := prog_18_method_11_code
def yJ3_checkIndex_8e157 : MethodName := ⟨RJ3, "checkIndex", "(IILjava/util/function/BiFunction;)I"⟩
def RL : String := "HungInStormLaw"
abbrev cL_law : ByteArray := code
def yL_law : MethodName := ⟨RL, "law", "([I)Z"⟩
abbrev vwCl : List vw_C := [(RX0, TX0, 4), (RX1, TX1, 7), (RX2, TX2, 2), (RX3, TX3, 3), (RX4, TX4, 4), (RX5, TX5, 5), (RX6, TX6, 3), (RX7, TX7, 2), (RX8, TX8, 12), (RX9, TX9, 2), (RX10, TX10, 12), (RX11, TX11, 33)]
