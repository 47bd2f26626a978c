section
-- ===== PART A: goes FIRST, ahead of the names: the tables' words, and 'selects' of the private methods out of them =====
/-- a private method of a class that the tables say can be made, by its rows of tables_1 -/
def lw_okq (q : MethodName × Nat) : Prop := (q.1.cls ≠ "java/lang/invoke/MethodHandle" ∧ q.1.cls ≠ "java/lang/invoke/VarHandle") ∧ Cond.instantiable q.1.cls q.2 ∈ tables_1 ∧ Cond.privateMethod q.1 ∈ tables_1 ∧ Cond.instanceMethod q.1 ∈ tables_1
theorem lw_p0 : lw_okq (⟨"HungInStorm$Reader", "readNumbers", "(LHungInStorm$Text;)Z"⟩, 3) := ⟨⟨by decide +kernel, by decide +kernel⟩, List.mem_of_getElem? (i := 43) (by decide +kernel), List.mem_of_getElem? (i := 347) (by decide +kernel), List.mem_of_getElem? (i := 348) (by decide +kernel)⟩
theorem lw_p1 : lw_okq (⟨"HungInStorm$Reader", "readNumber", "(LHungInStorm$Text;)Z"⟩, 3) := ⟨⟨by decide +kernel, by decide +kernel⟩, List.mem_of_getElem? (i := 43) (by decide +kernel), List.mem_of_getElem? (i := 351) (by decide +kernel), List.mem_of_getElem? (i := 352) (by decide +kernel)⟩
theorem lw_p2 : lw_okq (⟨"HungInStorm$Reader", "tell", "(ILHungInStorm$Storm;)Z"⟩, 3) := ⟨⟨by decide +kernel, by decide +kernel⟩, List.mem_of_getElem? (i := 43) (by decide +kernel), List.mem_of_getElem? (i := 362) (by decide +kernel), List.mem_of_getElem? (i := 363) (by decide +kernel)⟩
theorem lw_p3 : lw_okq (⟨"HungInStorm", "isLevel", "(I)Z"⟩, 12) := ⟨⟨by decide +kernel, by decide +kernel⟩, List.mem_of_getElem? (i := 19) (by decide +kernel), List.mem_of_getElem? (i := 467) (by decide +kernel), List.mem_of_getElem? (i := 468) (by decide +kernel)⟩
theorem lw_p4 : lw_okq (⟨"HungInStorm", "isTown", "(I)Z"⟩, 12) := ⟨⟨by decide +kernel, by decide +kernel⟩, List.mem_of_getElem? (i := 19) (by decide +kernel), List.mem_of_getElem? (i := 475) (by decide +kernel), List.mem_of_getElem? (i := 476) (by decide +kernel)⟩
theorem lw_p5 : lw_okq (⟨"HungInStorm", "followed", "()LHungInStorm$Fleet;"⟩, 12) := ⟨⟨by decide +kernel, by decide +kernel⟩, List.mem_of_getElem? (i := 19) (by decide +kernel), List.mem_of_getElem? (i := 479) (by decide +kernel), List.mem_of_getElem? (i := 480) (by decide +kernel)⟩
theorem lw_p6 : lw_okq (⟨"HungInStorm$Course", "note", "(I)V"⟩, 7) := ⟨⟨by decide +kernel, by decide +kernel⟩, List.mem_of_getElem? (i := 66) (by decide +kernel), List.mem_of_getElem? (i := 491) (by decide +kernel), List.mem_of_getElem? (i := 492) (by decide +kernel)⟩
theorem lw_p7 : lw_okq (⟨"HungInStorm$Course", "runErrands", "(LHungInStorm$Storm;II)V"⟩, 7) := ⟨⟨by decide +kernel, by decide +kernel⟩, List.mem_of_getElem? (i := 66) (by decide +kernel), List.mem_of_getElem? (i := 495) (by decide +kernel), List.mem_of_getElem? (i := 496) (by decide +kernel)⟩
theorem lw_p8 : lw_okq (⟨"HungInStorm$Course", "sinkWithoutGas", "(I)V"⟩, 7) := ⟨⟨by decide +kernel, by decide +kernel⟩, List.mem_of_getElem? (i := 66) (by decide +kernel), List.mem_of_getElem? (i := 502) (by decide +kernel), List.mem_of_getElem? (i := 503) (by decide +kernel)⟩
theorem lw_p9 : lw_okq (⟨"HungInStorm$Course", "goOn", "(LHungInStorm$Storm;II)V"⟩, 7) := ⟨⟨by decide +kernel, by decide +kernel⟩, List.mem_of_getElem? (i := 66) (by decide +kernel), List.mem_of_getElem? (i := 506) (by decide +kernel), List.mem_of_getElem? (i := 507) (by decide +kernel)⟩
theorem lw_p10 : lw_okq (⟨"HungInStorm", "areTwoTowns", "(II)Z"⟩, 12) := ⟨⟨by decide +kernel, by decide +kernel⟩, List.mem_of_getElem? (i := 19) (by decide +kernel), List.mem_of_getElem? (i := 533) (by decide +kernel), List.mem_of_getElem? (i := 534) (by decide +kernel)⟩
theorem lw_p11 : lw_okq (⟨"HungInStorm$Chase", "passDay", "(LHungInStorm$Storm;I)V"⟩, 4) := ⟨⟨by decide +kernel, by decide +kernel⟩, List.mem_of_getElem? (i := 111) (by decide +kernel), List.mem_of_getElem? (i := 578) (by decide +kernel), List.mem_of_getElem? (i := 579) (by decide +kernel)⟩
theorem lw_p12 : lw_okq (⟨"HungInStorm$Chase", "leave", "(LHungInStorm$Storm;IIIJ)V"⟩, 4) := ⟨⟨by decide +kernel, by decide +kernel⟩, List.mem_of_getElem? (i := 111) (by decide +kernel), List.mem_of_getElem? (i := 582) (by decide +kernel), List.mem_of_getElem? (i := 583) (by decide +kernel)⟩
theorem lw_p13 : lw_okq (⟨"HungInStorm$Chase", "sink", "(LHungInStorm$Storm;IIIJ)V"⟩, 4) := ⟨⟨by decide +kernel, by decide +kernel⟩, List.mem_of_getElem? (i := 111) (by decide +kernel), List.mem_of_getElem? (i := 586) (by decide +kernel), List.mem_of_getElem? (i := 587) (by decide +kernel)⟩
theorem lw_p14 : lw_okq (⟨"HungInStorm$Chase", "arrive", "(LHungInStorm$Storm;IIIJ)V"⟩, 4) := ⟨⟨by decide +kernel, by decide +kernel⟩, List.mem_of_getElem? (i := 111) (by decide +kernel), List.mem_of_getElem? (i := 591) (by decide +kernel), List.mem_of_getElem? (i := 592) (by decide +kernel)⟩
theorem lw_p15 : lw_okq (⟨"HungInStorm", "fitting", "(III)I"⟩, 12) := ⟨⟨by decide +kernel, by decide +kernel⟩, List.mem_of_getElem? (i := 19) (by decide +kernel), List.mem_of_getElem? (i := 623) (by decide +kernel), List.mem_of_getElem? (i := 624) (by decide +kernel)⟩
def lw_privs_1 : List (MethodName × Nat) := [(⟨"HungInStorm$Reader", "readNumbers", "(LHungInStorm$Text;)Z"⟩, 3), (⟨"HungInStorm$Reader", "readNumber", "(LHungInStorm$Text;)Z"⟩, 3), (⟨"HungInStorm$Reader", "tell", "(ILHungInStorm$Storm;)Z"⟩, 3), (⟨"HungInStorm", "isLevel", "(I)Z"⟩, 12), (⟨"HungInStorm", "isTown", "(I)Z"⟩, 12), (⟨"HungInStorm", "followed", "()LHungInStorm$Fleet;"⟩, 12), (⟨"HungInStorm$Course", "note", "(I)V"⟩, 7), (⟨"HungInStorm$Course", "runErrands", "(LHungInStorm$Storm;II)V"⟩, 7), (⟨"HungInStorm$Course", "sinkWithoutGas", "(I)V"⟩, 7), (⟨"HungInStorm$Course", "goOn", "(LHungInStorm$Storm;II)V"⟩, 7), (⟨"HungInStorm", "areTwoTowns", "(II)Z"⟩, 12), (⟨"HungInStorm$Chase", "passDay", "(LHungInStorm$Storm;I)V"⟩, 4), (⟨"HungInStorm$Chase", "leave", "(LHungInStorm$Storm;IIIJ)V"⟩, 4), (⟨"HungInStorm$Chase", "sink", "(LHungInStorm$Storm;IIIJ)V"⟩, 4), (⟨"HungInStorm$Chase", "arrive", "(LHungInStorm$Storm;IIIJ)V"⟩, 4), (⟨"HungInStorm", "fitting", "(III)I"⟩, 12)]
theorem lw_r1 : ∀ q ∈ lw_privs_1, lw_okq q := List.forall_mem_cons.mpr ⟨lw_p0, List.forall_mem_cons.mpr ⟨lw_p1, List.forall_mem_cons.mpr ⟨lw_p2, List.forall_mem_cons.mpr ⟨lw_p3, List.forall_mem_cons.mpr ⟨lw_p4, List.forall_mem_cons.mpr ⟨lw_p5, List.forall_mem_cons.mpr ⟨lw_p6, List.forall_mem_cons.mpr ⟨lw_p7, List.forall_mem_cons.mpr ⟨lw_p8, List.forall_mem_cons.mpr ⟨lw_p9, List.forall_mem_cons.mpr ⟨lw_p10, List.forall_mem_cons.mpr ⟨lw_p11, List.forall_mem_cons.mpr ⟨lw_p12, List.forall_mem_cons.mpr ⟨lw_p13, List.forall_mem_cons.mpr ⟨lw_p14, List.forall_mem_cons.mpr ⟨lw_p15, fun _ h => absurd h List.not_mem_nil⟩⟩⟩⟩⟩⟩⟩⟩⟩⟩⟩⟩⟩⟩⟩⟩
theorem lw_p16 : lw_okq (⟨"HungInStorm$Odds", "gust", "(II)V"⟩, 4) := ⟨⟨by decide +kernel, by decide +kernel⟩, List.mem_of_getElem? (i := 133) (by decide +kernel), List.mem_of_getElem? (i := 640) (by decide +kernel), List.mem_of_getElem? (i := 641) (by decide +kernel)⟩
theorem lw_p17 : lw_okq (⟨"HungInStorm$Odds", "reduce", "(I)V"⟩, 4) := ⟨⟨by decide +kernel, by decide +kernel⟩, List.mem_of_getElem? (i := 133) (by decide +kernel), List.mem_of_getElem? (i := 649) (by decide +kernel), List.mem_of_getElem? (i := 650) (by decide +kernel)⟩
theorem lw_p18 : lw_okq (⟨"HungInStorm$Odds", "leaveOut", "(I)V"⟩, 4) := ⟨⟨by decide +kernel, by decide +kernel⟩, List.mem_of_getElem? (i := 133) (by decide +kernel), List.mem_of_getElem? (i := 653) (by decide +kernel), List.mem_of_getElem? (i := 654) (by decide +kernel)⟩
theorem lw_p19 : lw_okq (⟨"HungInStorm$History", "forgetOldest", "()V"⟩, 3) := ⟨⟨by decide +kernel, by decide +kernel⟩, List.mem_of_getElem? (i := 154) (by decide +kernel), List.mem_of_getElem? (i := 666) (by decide +kernel), List.mem_of_getElem? (i := 667) (by decide +kernel)⟩
theorem lw_p20 : lw_okq (⟨"HungInStormModel", "readAll", "()I"⟩, 33) := ⟨⟨by decide +kernel, by decide +kernel⟩, List.mem_of_getElem? (i := 726) (by decide +kernel), List.mem_of_getElem? (i := 849) (by decide +kernel), List.mem_of_getElem? (i := 850) (by decide +kernel)⟩
theorem lw_p21 : lw_okq (⟨"HungInStormModel", "item", "()Z"⟩, 33) := ⟨⟨by decide +kernel, by decide +kernel⟩, List.mem_of_getElem? (i := 726) (by decide +kernel), List.mem_of_getElem? (i := 853) (by decide +kernel), List.mem_of_getElem? (i := 854) (by decide +kernel)⟩
theorem lw_p22 : lw_okq (⟨"HungInStormModel", "byteAt", "(I)I"⟩, 33) := ⟨⟨by decide +kernel, by decide +kernel⟩, List.mem_of_getElem? (i := 726) (by decide +kernel), List.mem_of_getElem? (i := 857) (by decide +kernel), List.mem_of_getElem? (i := 858) (by decide +kernel)⟩
theorem lw_p23 : lw_okq (⟨"HungInStormModel", "figures", "(I)Z"⟩, 33) := ⟨⟨by decide +kernel, by decide +kernel⟩, List.mem_of_getElem? (i := 726) (by decide +kernel), List.mem_of_getElem? (i := 861) (by decide +kernel), List.mem_of_getElem? (i := 862) (by decide +kernel)⟩
theorem lw_p24 : lw_okq (⟨"HungInStormModel", "isTownItem", "()Z"⟩, 33) := ⟨⟨by decide +kernel, by decide +kernel⟩, List.mem_of_getElem? (i := 726) (by decide +kernel), List.mem_of_getElem? (i := 868) (by decide +kernel), List.mem_of_getElem? (i := 869) (by decide +kernel)⟩
theorem lw_p25 : lw_okq (⟨"HungInStormModel", "addErrand", "(IIII)V"⟩, 33) := ⟨⟨by decide +kernel, by decide +kernel⟩, List.mem_of_getElem? (i := 726) (by decide +kernel), List.mem_of_getElem? (i := 874) (by decide +kernel), List.mem_of_getElem? (i := 875) (by decide +kernel)⟩
theorem lw_p26 : lw_okq (⟨"HungInStormModel", "areThere", "()Z"⟩, 33) := ⟨⟨by decide +kernel, by decide +kernel⟩, List.mem_of_getElem? (i := 726) (by decide +kernel), List.mem_of_getElem? (i := 882) (by decide +kernel), List.mem_of_getElem? (i := 883) (by decide +kernel)⟩
theorem lw_p27 : lw_okq (⟨"HungInStormModel", "copy", "(II)V"⟩, 33) := ⟨⟨by decide +kernel, by decide +kernel⟩, List.mem_of_getElem? (i := 726) (by decide +kernel), List.mem_of_getElem? (i := 886) (by decide +kernel), List.mem_of_getElem? (i := 887) (by decide +kernel)⟩
theorem lw_p28 : lw_okq (⟨"HungInStormModel", "isLevel", "(I)Z"⟩, 33) := ⟨⟨by decide +kernel, by decide +kernel⟩, List.mem_of_getElem? (i := 726) (by decide +kernel), List.mem_of_getElem? (i := 894) (by decide +kernel), List.mem_of_getElem? (i := 895) (by decide +kernel)⟩
theorem lw_p29 : lw_okq (⟨"HungInStormModel", "isTown", "(I)Z"⟩, 33) := ⟨⟨by decide +kernel, by decide +kernel⟩, List.mem_of_getElem? (i := 726) (by decide +kernel), List.mem_of_getElem? (i := 902) (by decide +kernel), List.mem_of_getElem? (i := 903) (by decide +kernel)⟩
theorem lw_p30 : lw_okq (⟨"HungInStormModel", "go", "(I)V"⟩, 33) := ⟨⟨by decide +kernel, by decide +kernel⟩, List.mem_of_getElem? (i := 726) (by decide +kernel), List.mem_of_getElem? (i := 906) (by decide +kernel), List.mem_of_getElem? (i := 907) (by decide +kernel)⟩
theorem lw_p31 : lw_okq (⟨"HungInStormModel", "begin", "()V"⟩, 33) := ⟨⟨by decide +kernel, by decide +kernel⟩, List.mem_of_getElem? (i := 726) (by decide +kernel), List.mem_of_getElem? (i := 910) (by decide +kernel), List.mem_of_getElem? (i := 911) (by decide +kernel)⟩
def lw_privs_2 : List (MethodName × Nat) := [(⟨"HungInStorm$Odds", "gust", "(II)V"⟩, 4), (⟨"HungInStorm$Odds", "reduce", "(I)V"⟩, 4), (⟨"HungInStorm$Odds", "leaveOut", "(I)V"⟩, 4), (⟨"HungInStorm$History", "forgetOldest", "()V"⟩, 3), (⟨"HungInStormModel", "readAll", "()I"⟩, 33), (⟨"HungInStormModel", "item", "()Z"⟩, 33), (⟨"HungInStormModel", "byteAt", "(I)I"⟩, 33), (⟨"HungInStormModel", "figures", "(I)Z"⟩, 33), (⟨"HungInStormModel", "isTownItem", "()Z"⟩, 33), (⟨"HungInStormModel", "addErrand", "(IIII)V"⟩, 33), (⟨"HungInStormModel", "areThere", "()Z"⟩, 33), (⟨"HungInStormModel", "copy", "(II)V"⟩, 33), (⟨"HungInStormModel", "isLevel", "(I)Z"⟩, 33), (⟨"HungInStormModel", "isTown", "(I)Z"⟩, 33), (⟨"HungInStormModel", "go", "(I)V"⟩, 33), (⟨"HungInStormModel", "begin", "()V"⟩, 33)]
theorem lw_r2 : ∀ q ∈ lw_privs_2, lw_okq q := List.forall_mem_cons.mpr ⟨lw_p16, List.forall_mem_cons.mpr ⟨lw_p17, List.forall_mem_cons.mpr ⟨lw_p18, List.forall_mem_cons.mpr ⟨lw_p19, List.forall_mem_cons.mpr ⟨lw_p20, List.forall_mem_cons.mpr ⟨lw_p21, List.forall_mem_cons.mpr ⟨lw_p22, List.forall_mem_cons.mpr ⟨lw_p23, List.forall_mem_cons.mpr ⟨lw_p24, List.forall_mem_cons.mpr ⟨lw_p25, List.forall_mem_cons.mpr ⟨lw_p26, List.forall_mem_cons.mpr ⟨lw_p27, List.forall_mem_cons.mpr ⟨lw_p28, List.forall_mem_cons.mpr ⟨lw_p29, List.forall_mem_cons.mpr ⟨lw_p30, List.forall_mem_cons.mpr ⟨lw_p31, fun _ h => absurd h List.not_mem_nil⟩⟩⟩⟩⟩⟩⟩⟩⟩⟩⟩⟩⟩⟩⟩⟩
theorem lw_p32 : lw_okq (⟨"HungInStormModel", "goDay", "()V"⟩, 33) := ⟨⟨by decide +kernel, by decide +kernel⟩, List.mem_of_getElem? (i := 726) (by decide +kernel), List.mem_of_getElem? (i := 914) (by decide +kernel), List.mem_of_getElem? (i := 915) (by decide +kernel)⟩
theorem lw_p33 : lw_okq (⟨"HungInStormModel", "goBy", "(IZ)V"⟩, 33) := ⟨⟨by decide +kernel, by decide +kernel⟩, List.mem_of_getElem? (i := 726) (by decide +kernel), List.mem_of_getElem? (i := 918) (by decide +kernel), List.mem_of_getElem? (i := 919) (by decide +kernel)⟩
theorem lw_p34 : lw_okq (⟨"HungInStormModel", "leftOf", "(IIII)I"⟩, 33) := ⟨⟨by decide +kernel, by decide +kernel⟩, List.mem_of_getElem? (i := 726) (by decide +kernel), List.mem_of_getElem? (i := 922) (by decide +kernel), List.mem_of_getElem? (i := 923) (by decide +kernel)⟩
theorem lw_p35 : lw_okq (⟨"HungInStormModel", "areTogether", "(II)Z"⟩, 33) := ⟨⟨by decide +kernel, by decide +kernel⟩, List.mem_of_getElem? (i := 726) (by decide +kernel), List.mem_of_getElem? (i := 934) (by decide +kernel), List.mem_of_getElem? (i := 935) (by decide +kernel)⟩
theorem lw_p36 : lw_okq (⟨"HungInStormModel", "marketsTo", "(I)I"⟩, 33) := ⟨⟨by decide +kernel, by decide +kernel⟩, List.mem_of_getElem? (i := 726) (by decide +kernel), List.mem_of_getElem? (i := 942) (by decide +kernel), List.mem_of_getElem? (i := 943) (by decide +kernel)⟩
theorem lw_p37 : lw_okq (⟨"HungInStormModel", "pairs", "()I"⟩, 33) := ⟨⟨by decide +kernel, by decide +kernel⟩, List.mem_of_getElem? (i := 726) (by decide +kernel), List.mem_of_getElem? (i := 946) (by decide +kernel), List.mem_of_getElem? (i := 947) (by decide +kernel)⟩
theorem lw_p38 : lw_okq (⟨"HungInStormModel", "carryAll", "(I)V"⟩, 33) := ⟨⟨by decide +kernel, by decide +kernel⟩, List.mem_of_getElem? (i := 726) (by decide +kernel), List.mem_of_getElem? (i := 958) (by decide +kernel), List.mem_of_getElem? (i := 959) (by decide +kernel)⟩
theorem lw_p39 : lw_okq (⟨"HungInStormModel", "carry", "(IIII)V"⟩, 33) := ⟨⟨by decide +kernel, by decide +kernel⟩, List.mem_of_getElem? (i := 726) (by decide +kernel), List.mem_of_getElem? (i := 962) (by decide +kernel), List.mem_of_getElem? (i := 963) (by decide +kernel)⟩
theorem lw_p40 : lw_okq (⟨"HungInStormModel", "tradesOf", "(II)I"⟩, 33) := ⟨⟨by decide +kernel, by decide +kernel⟩, List.mem_of_getElem? (i := 726) (by decide +kernel), List.mem_of_getElem? (i := 977) (by decide +kernel), List.mem_of_getElem? (i := 978) (by decide +kernel)⟩
theorem lw_p41 : lw_okq (⟨"HungInStormModel", "levelsOf", "(III)I"⟩, 33) := ⟨⟨by decide +kernel, by decide +kernel⟩, List.mem_of_getElem? (i := 726) (by decide +kernel), List.mem_of_getElem? (i := 997) (by decide +kernel), List.mem_of_getElem? (i := 998) (by decide +kernel)⟩
theorem lw_p42 : lw_okq (⟨"HungInStormModel", "note", "(II)V"⟩, 33) := ⟨⟨by decide +kernel, by decide +kernel⟩, List.mem_of_getElem? (i := 726) (by decide +kernel), List.mem_of_getElem? (i := 1015) (by decide +kernel), List.mem_of_getElem? (i := 1016) (by decide +kernel)⟩
def lw_privs_3 : List (MethodName × Nat) := [(⟨"HungInStormModel", "goDay", "()V"⟩, 33), (⟨"HungInStormModel", "goBy", "(IZ)V"⟩, 33), (⟨"HungInStormModel", "leftOf", "(IIII)I"⟩, 33), (⟨"HungInStormModel", "areTogether", "(II)Z"⟩, 33), (⟨"HungInStormModel", "marketsTo", "(I)I"⟩, 33), (⟨"HungInStormModel", "pairs", "()I"⟩, 33), (⟨"HungInStormModel", "carryAll", "(I)V"⟩, 33), (⟨"HungInStormModel", "carry", "(IIII)V"⟩, 33), (⟨"HungInStormModel", "tradesOf", "(II)I"⟩, 33), (⟨"HungInStormModel", "levelsOf", "(III)I"⟩, 33), (⟨"HungInStormModel", "note", "(II)V"⟩, 33)]
theorem lw_r3 : ∀ q ∈ lw_privs_3, lw_okq q := List.forall_mem_cons.mpr ⟨lw_p32, List.forall_mem_cons.mpr ⟨lw_p33, List.forall_mem_cons.mpr ⟨lw_p34, List.forall_mem_cons.mpr ⟨lw_p35, List.forall_mem_cons.mpr ⟨lw_p36, List.forall_mem_cons.mpr ⟨lw_p37, List.forall_mem_cons.mpr ⟨lw_p38, List.forall_mem_cons.mpr ⟨lw_p39, List.forall_mem_cons.mpr ⟨lw_p40, List.forall_mem_cons.mpr ⟨lw_p41, List.forall_mem_cons.mpr ⟨lw_p42, fun _ h => absurd h List.not_mem_nil⟩⟩⟩⟩⟩⟩⟩⟩⟩⟩⟩
def lw_privs : List (MethodName × Nat) := lw_privs_1 ++ (lw_privs_2 ++ (lw_privs_3))
def lw_tbl : List Cond := k2_sels lw_privs ++ tables_1
theorem lw_privs_ok : ∀ q ∈ lw_privs, lw_okq q := by
  show ∀ q ∈ lw_privs_1 ++ (lw_privs_2 ++ (lw_privs_3)), lw_okq q
  exact List.forall_mem_append.mpr ⟨lw_r1, List.forall_mem_append.mpr ⟨lw_r2, lw_r3⟩⟩

/-! ===== BEGIN words of one list among another's, by their places ===== -/
theorem goodIn_r {big : List Cond} (ws : List Cond) (ps : List Nat) (hp : ws = ps.filterMap (fun i => big[i]?)) (h : ws.all goodWord = true) : GoodIn big ws := by
  intro w hw
  have h1 := List.all_eq_true.mp h w hw
  rw [hp] at hw
  obtain ⟨i, -, hi⟩ := List.mem_filterMap.mp hw
  have hm : w ∈ big := by first | exact List.mem_of_getElem? hi | exact List.getElem?_mem hi
  exact ⟨hm, good_of_word h1⟩
theorem goodIn_app {big a b : List Cond} (ha : GoodIn big a) (hb : GoodIn big b) : GoodIn big (a ++ b) := fun w h => (List.mem_append.mp h).elim (ha w) (hb w)
theorem goodIn_ca {big a b : List Cond} {c : Cond} (ha : GoodIn big (c :: a)) (hb : GoodIn big b) : GoodIn big (c :: (a ++ b)) := fun w h => (List.mem_cons.mp h).elim (fun e => ha w (List.mem_cons.mpr (Or.inl e))) (fun h => (List.mem_append.mp h).elim (fun h => ha w (List.mem_cons.mpr (Or.inr h))) (hb w))
theorem goodIn_sub {big ws : List Cond} (hm : ∀ w ∈ ws, w ∈ big) (h : ws.all goodWord = true) : GoodIn big ws := fun w hw => ⟨hm w hw, good_of_word (List.all_eq_true.mp h w hw)⟩
/-! ===== END ===== -/

/-! ===== BEGIN printed: names, fields, word lists, decode rows ===== -/
def RX0 : String := "HungInStorm$Chase"
def TX0 : u_T := fun k => match k with
  | 0 => ("HungInStorm$Chase", "now", "[J", false)
  | 1 => ("HungInStorm$Chase", "then", "[J", false)
  | 2 => ("HungInStorm$Chase", "day", "I", false)
  | _ => ("HungInStorm$Chase", "gas", "I", false)
def tyX0 : Nat → FieldType := fun k => match k with
  | 0 => .array .long
  | 1 => .array .long
  | 2 => .int
  | _ => .int
abbrev wsX00 : List Cond := u_ws RX0 TX0 4
theorem nmX0 : ∀ a, a < 4 → ∀ b, b < 4 → a ≠ b → (TX0 a).2.1 ≠ (TX0 b).2.1 := by decide +kernel
theorem tyX0_ok : ∀ k, k < 4 → parseFieldDescriptor (TX0 k).2.2.1 = some (tyX0 k) := by decide +kernel
abbrev cX0_init : ByteArray := prog_2_method_1_code
def yX0_init : MethodName := ⟨RX0, "<init>", "()V"⟩
abbrev cX0_hunt : ByteArray := prog_2_method_2_code
def yX0_hunt : MethodName := ⟨RX0, "hunt", "(LHungInStorm$Storm;ILHungInStorm$Course;)Z"⟩
abbrev cX0_cell : ByteArray := prog_2_method_3_code
def yX0_cell : MethodName := ⟨RX0, "cell", "(II)I"⟩
abbrev cX0_empty : ByteArray := prog_2_method_4_code
def yX0_empty : MethodName := ⟨RX0, "empty", "([J)V"⟩
abbrev cX0_passDay : ByteArray := prog_2_method_5_code
def yX0_passDay : MethodName := ⟨RX0, "passDay", "(LHungInStorm$Storm;I)V"⟩
abbrev cX0_leave : ByteArray := prog_2_method_6_code
def yX0_leave : MethodName := ⟨RX0, "leave", "(LHungInStorm$Storm;IIIJ)V"⟩
abbrev cX0_sink : ByteArray := prog_2_method_7_code
def yX0_sink : MethodName := ⟨RX0, "sink", "(LHungInStorm$Storm;IIIJ)V"⟩
abbrev cX0_arrive : ByteArray := prog_2_method_8_code
def yX0_arrive : MethodName := ⟨RX0, "arrive", "(LHungInStorm$Storm;IIIJ)V"⟩
abbrev cX0_halved : ByteArray := prog_2_method_9_code
def yX0_halved : MethodName := ⟨RX0, "halved", "(J)J"⟩
abbrev cX0_highest : ByteArray := prog_2_method_10_code
def yX0_highest : MethodName := ⟨RX0, "highest", "(J)I"⟩
def RX1 : String := "HungInStorm$Course"
def TX1 : u_T := fun k => match k with
  | 0 => ("HungInStorm$Course", "level", "[I", true)
  | 1 => ("HungInStorm$Course", "place", "[I", true)
  | 2 => ("HungInStorm$Course", "gas", "[I", true)
  | 3 => ("HungInStorm$Course", "lostDay", "I", false)
  | 4 => ("HungInStorm$Course", "atLevel", "I", false)
  | 5 => ("HungInStorm$Course", "atPlace", "I", false)
  | _ => ("HungInStorm$Course", "hasGas", "I", false)
def tyX1 : Nat → FieldType := fun k => match k with
  | 0 => .array .int
  | 1 => .array .int
  | 2 => .array .int
  | 3 => .int
  | 4 => .int
  | 5 => .int
  | _ => .int
abbrev wsX10 : List Cond := u_ws RX1 TX1 7
theorem nmX1 : ∀ a, a < 7 → ∀ b, b < 7 → a ≠ b → (TX1 a).2.1 ≠ (TX1 b).2.1 := by decide +kernel
theorem tyX1_ok : ∀ k, k < 7 → parseFieldDescriptor (TX1 k).2.2.1 = some (tyX1 k) := by decide +kernel
abbrev cX1_init : ByteArray := prog_3_method_1_code
def yX1_init : MethodName := ⟨RX1, "<init>", "()V"⟩
abbrev cX1_follow : ByteArray := prog_3_method_2_code
def yX1_follow : MethodName := ⟨RX1, "follow", "(LHungInStorm$Storm;III)V"⟩
abbrev cX1_note : ByteArray := prog_3_method_3_code
def yX1_note : MethodName := ⟨RX1, "note", "(I)V"⟩
abbrev cX1_runErrands : ByteArray := prog_3_method_4_code
def yX1_runErrands : MethodName := ⟨RX1, "runErrands", "(LHungInStorm$Storm;II)V"⟩
abbrev cX1_sinkWithoutGas : ByteArray := prog_3_method_5_code
def yX1_sinkWithoutGas : MethodName := ⟨RX1, "sinkWithoutGas", "(I)V"⟩
abbrev cX1_goOn : ByteArray := prog_3_method_6_code
def yX1_goOn : MethodName := ⟨RX1, "goOn", "(LHungInStorm$Storm;II)V"⟩
abbrev cX1_floats : ByteArray := prog_3_method_7_code
def yX1_floats : MethodName := ⟨RX1, "floats", "(I)Z"⟩
abbrev cX1_meets : ByteArray := prog_3_method_8_code
def yX1_meets : MethodName := ⟨RX1, "meets", "(LHungInStorm$Course;I)Z"⟩
def RX2 : String := "HungInStorm$Fleet"
def TX2 : u_T := fun k => match k with
  | 0 => ("HungInStorm$Fleet", "courses", "[LHungInStorm$Course;", true)
  | _ => ("HungInStorm$Fleet", "size", "I", false)
def tyX2 : Nat → FieldType := fun k => match k with
  | 0 => .array (.object "HungInStorm$Course")
  | _ => .int
abbrev wsX20 : List Cond := u_ws RX2 TX2 2
theorem nmX2 : ∀ a, a < 2 → ∀ b, b < 2 → a ≠ b → (TX2 a).2.1 ≠ (TX2 b).2.1 := by decide +kernel
theorem tyX2_ok : ∀ k, k < 2 → parseFieldDescriptor (TX2 k).2.2.1 = some (tyX2 k) := by decide +kernel
abbrev cX2_init : ByteArray := prog_4_method_1_code
def yX2_init : MethodName := ⟨RX2, "<init>", "()V"⟩
abbrev cX2_followAsTold : ByteArray := prog_4_method_2_code
def yX2_followAsTold : MethodName := ⟨RX2, "followAsTold", "(LHungInStorm$Storm;)V"⟩
abbrev cX2_followYear : ByteArray := prog_4_method_3_code
def yX2_followYear : MethodName := ⟨RX2, "followYear", "(LHungInStorm$Storm;I)V"⟩
abbrev cX2_allMarkets : ByteArray := prog_4_method_4_code
def yX2_allMarkets : MethodName := ⟨RX2, "allMarkets", "(I)I"⟩
abbrev cX2_marketsWith : ByteArray := prog_4_method_5_code
def yX2_marketsWith : MethodName := ⟨RX2, "marketsWith", "(LHungInStorm$Course;II)I"⟩
abbrev cX2_lostTowns : ByteArray := prog_4_method_6_code
def yX2_lostTowns : MethodName := ⟨RX2, "lostTowns", "()I"⟩
def RX3 : String := "HungInStorm$History"
def TX3 : u_T := fun k => match k with
  | 0 => ("HungInStorm$History", "town", "[I", true)
  | 1 => ("HungInStorm$History", "gasBefore", "[I", true)
  | _ => ("HungInStorm$History", "size", "I", false)
def tyX3 : Nat → FieldType := fun k => match k with
  | 0 => .array .int
  | 1 => .array .int
  | _ => .int
abbrev wsX30 : List Cond := u_ws RX3 TX3 3
theorem nmX3 : ∀ a, a < 3 → ∀ b, b < 3 → a ≠ b → (TX3 a).2.1 ≠ (TX3 b).2.1 := by decide +kernel
theorem tyX3_ok : ∀ k, k < 3 → parseFieldDescriptor (TX3 k).2.2.1 = some (tyX3 k) := by decide +kernel
abbrev cX3_init : ByteArray := prog_5_method_1_code
def yX3_init : MethodName := ⟨RX3, "<init>", "()V"⟩
abbrev cX3_clear : ByteArray := prog_5_method_2_code
def yX3_clear : MethodName := ⟨RX3, "clear", "()V"⟩
abbrev cX3_note : ByteArray := prog_5_method_3_code
def yX3_note : MethodName := ⟨RX3, "note", "(II)V"⟩
abbrev cX3_forgetOldest : ByteArray := prog_5_method_4_code
def yX3_forgetOldest : MethodName := ⟨RX3, "forgetOldest", "()V"⟩
abbrev cX3_takeBack : ByteArray := prog_5_method_5_code
def yX3_takeBack : MethodName := ⟨RX3, "takeBack", "(LHungInStorm$Orders;)Z"⟩
def RX4 : String := "HungInStorm$Odds"
def TX4 : u_T := fun k => match k with
  | 0 => ("HungInStorm$Odds", "now", "[J", false)
  | 1 => ("HungInStorm$Odds", "then", "[J", false)
  | 2 => ("HungInStorm$Odds", "above", "J", false)
  | _ => ("HungInStorm$Odds", "below", "J", false)
def tyX4 : Nat → FieldType := fun k => match k with
  | 0 => .array .long
  | 1 => .array .long
  | 2 => .long
  | _ => .long
abbrev wsX40 : List Cond := u_ws RX4 TX4 4
theorem nmX4 : ∀ a, a < 4 → ∀ b, b < 4 → a ≠ b → (TX4 a).2.1 ≠ (TX4 b).2.1 := by decide +kernel
theorem tyX4_ok : ∀ k, k < 4 → parseFieldDescriptor (TX4 k).2.2.1 = some (tyX4 k) := by decide +kernel
abbrev cX4_init : ByteArray := prog_6_method_1_code
def yX4_init : MethodName := ⟨RX4, "<init>", "()V"⟩
abbrev cX4_reckon : ByteArray := prog_6_method_2_code
def yX4_reckon : MethodName := ⟨RX4, "reckon", "(IIIII)V"⟩
abbrev cX4_gust : ByteArray := prog_6_method_3_code
def yX4_gust : MethodName := ⟨RX4, "gust", "(II)V"⟩
abbrev cX4_reduce : ByteArray := prog_6_method_4_code
def yX4_reduce : MethodName := ⟨RX4, "reduce", "(I)V"⟩
abbrev cX4_leaveOut : ByteArray := prog_6_method_5_code
def yX4_leaveOut : MethodName := ⟨RX4, "leaveOut", "(I)V"⟩
def RX5 : String := "HungInStorm$Orders"
def TX5 : u_T := fun k => match k with
  | 0 => ("HungInStorm$Orders", "who", "[I", true)
  | 1 => ("HungInStorm$Orders", "day", "[I", true)
  | 2 => ("HungInStorm$Orders", "up", "[Z", true)
  | 3 => ("HungInStorm$Orders", "gas", "[I", true)
  | _ => ("HungInStorm$Orders", "errands", "I", false)
def tyX5 : Nat → FieldType := fun k => match k with
  | 0 => .array .int
  | 1 => .array .int
  | 2 => .array .boolean
  | 3 => .array .int
  | _ => .int
abbrev wsX50 : List Cond := u_ws RX5 TX5 5
theorem nmX5 : ∀ a, a < 5 → ∀ b, b < 5 → a ≠ b → (TX5 a).2.1 ≠ (TX5 b).2.1 := by decide +kernel
theorem tyX5_ok : ∀ k, k < 5 → parseFieldDescriptor (TX5 k).2.2.1 = some (tyX5 k) := by decide +kernel
abbrev cX5_init : ByteArray := prog_7_method_1_code
def yX5_init : MethodName := ⟨RX5, "<init>", "()V"⟩
abbrev cX5_tell : ByteArray := prog_7_method_2_code
def yX5_tell : MethodName := ⟨RX5, "tell", "(IIZ)Z"⟩
abbrev cX5_dropLatestErrand : ByteArray := prog_7_method_3_code
def yX5_dropLatestErrand : MethodName := ⟨RX5, "dropLatestErrand", "()V"⟩
abbrev cX5_copy : ByteArray := prog_7_method_4_code
def yX5_copy : MethodName := ⟨RX5, "copy", "(LHungInStorm$Orders;)V"⟩
def RX6 : String := "HungInStorm$Reader"
def TX6 : u_T := fun k => match k with
  | 0 => ("HungInStorm$Reader", "numbers", "[I", true)
  | 1 => ("HungInStorm$Reader", "found", "I", false)
  | _ => ("HungInStorm$Reader", "next", "I", false)
def tyX6 : Nat → FieldType := fun k => match k with
  | 0 => .array .int
  | 1 => .int
  | _ => .int
abbrev wsX60 : List Cond := u_ws RX6 TX6 3
theorem nmX6 : ∀ a, a < 3 → ∀ b, b < 3 → a ≠ b → (TX6 a).2.1 ≠ (TX6 b).2.1 := by decide +kernel
theorem tyX6_ok : ∀ k, k < 3 → parseFieldDescriptor (TX6 k).2.2.1 = some (tyX6 k) := by decide +kernel
abbrev cX6_init : ByteArray := prog_8_method_1_code
def yX6_init : MethodName := ⟨RX6, "<init>", "()V"⟩
abbrev cX6_read : ByteArray := prog_8_method_2_code
def yX6_read : MethodName := ⟨RX6, "read", "(LHungInStorm$Text;LHungInStorm$Storm;)I"⟩
abbrev cX6_readNumbers : ByteArray := prog_8_method_3_code
def yX6_readNumbers : MethodName := ⟨RX6, "readNumbers", "(LHungInStorm$Text;)Z"⟩
abbrev cX6_readNumber : ByteArray := prog_8_method_4_code
def yX6_readNumber : MethodName := ⟨RX6, "readNumber", "(LHungInStorm$Text;)Z"⟩
abbrev cX6_isFigure : ByteArray := prog_8_method_5_code
def yX6_isFigure : MethodName := ⟨RX6, "isFigure", "(I)Z"⟩
abbrev cX6_tell : ByteArray := prog_8_method_6_code
def yX6_tell : MethodName := ⟨RX6, "tell", "(ILHungInStorm$Storm;)Z"⟩
def RX7 : String := "HungInStorm$Shelf"
def TX7 : u_T := fun k => match k with
  | 0 => ("HungInStorm$Shelf", "kept", "[LHungInStorm$Orders;", true)
  | _ => ("HungInStorm$Shelf", "size", "I", false)
def tyX7 : Nat → FieldType := fun k => match k with
  | 0 => .array (.object "HungInStorm$Orders")
  | _ => .int
abbrev wsX70 : List Cond := u_ws RX7 TX7 2
theorem nmX7 : ∀ a, a < 2 → ∀ b, b < 2 → a ≠ b → (TX7 a).2.1 ≠ (TX7 b).2.1 := by decide +kernel
theorem tyX7_ok : ∀ k, k < 2 → parseFieldDescriptor (TX7 k).2.2.1 = some (tyX7 k) := by decide +kernel
abbrev cX7_init : ByteArray := prog_9_method_1_code
def yX7_init : MethodName := ⟨RX7, "<init>", "()V"⟩
abbrev cX7_clear : ByteArray := prog_9_method_2_code
def yX7_clear : MethodName := ⟨RX7, "clear", "()V"⟩
abbrev cX7_put : ByteArray := prog_9_method_3_code
def yX7_put : MethodName := ⟨RX7, "put", "(LHungInStorm$Orders;)Z"⟩
abbrev cX7_take : ByteArray := prog_9_method_4_code
def yX7_take : MethodName := ⟨RX7, "take", "(LHungInStorm$Orders;)Z"⟩
def RX8 : String := "HungInStorm$Storm"
def TX8 : u_T := fun k => match k with
  | 0 => ("HungInStorm$Storm", "pace", "[I", true)
  | 1 => ("HungInStorm$Storm", "wet", "[I", true)
  | 2 => ("HungInStorm$Storm", "firstLevel", "[I", true)
  | 3 => ("HungInStorm$Storm", "firstPlace", "[I", true)
  | 4 => ("HungInStorm$Storm", "weight", "[I", true)
  | 5 => ("HungInStorm$Storm", "kind", "[I", true)
  | 6 => ("HungInStorm$Storm", "struckLevel", "[I", true)
  | 7 => ("HungInStorm$Storm", "struckDay", "[I", true)
  | 8 => ("HungInStorm$Storm", "orders", "LHungInStorm$Orders;", true)
  | 9 => ("HungInStorm$Storm", "levels", "I", false)
  | 10 => ("HungInStorm$Storm", "towns", "I", false)
  | _ => ("HungInStorm$Storm", "lightnings", "I", false)
def tyX8 : Nat → FieldType := fun k => match k with
  | 0 => .array .int
  | 1 => .array .int
  | 2 => .array .int
  | 3 => .array .int
  | 4 => .array .int
  | 5 => .array .int
  | 6 => .array .int
  | 7 => .array .int
  | 8 => .object "HungInStorm$Orders"
  | 9 => .int
  | 10 => .int
  | _ => .int
abbrev wsX80 : List Cond := u_ws RX8 TX8 12
theorem nmX8 : ∀ a, a < 12 → ∀ b, b < 12 → a ≠ b → (TX8 a).2.1 ≠ (TX8 b).2.1 := by decide +kernel
theorem tyX8_ok : ∀ k, k < 12 → parseFieldDescriptor (TX8 k).2.2.1 = some (tyX8 k) := by decide +kernel
abbrev cX8_init : ByteArray := prog_10_method_1_code
def yX8_init : MethodName := ⟨RX8, "<init>", "()V"⟩
abbrev cX8_clear : ByteArray := prog_10_method_2_code
def yX8_clear : MethodName := ⟨RX8, "clear", "()V"⟩
abbrev cX8_addLevel : ByteArray := prog_10_method_3_code
def yX8_addLevel : MethodName := ⟨RX8, "addLevel", "(II)Z"⟩
abbrev cX8_addTown : ByteArray := prog_10_method_4_code
def yX8_addTown : MethodName := ⟨RX8, "addTown", "(IIIII)Z"⟩
abbrev cX8_addErrand : ByteArray := prog_10_method_5_code
def yX8_addErrand : MethodName := ⟨RX8, "addErrand", "(III)Z"⟩
abbrev cX8_addLightning : ByteArray := prog_10_method_6_code
def yX8_addLightning : MethodName := ⟨RX8, "addLightning", "(II)Z"⟩
abbrev cX8_isWhole : ByteArray := prog_10_method_7_code
def yX8_isWhole : MethodName := ⟨RX8, "isWhole", "()Z"⟩
abbrev cX8_isStruck : ByteArray := prog_10_method_8_code
def yX8_isStruck : MethodName := ⟨RX8, "isStruck", "(II)Z"⟩
abbrev cX8_dailyLoss : ByteArray := prog_10_method_9_code
def yX8_dailyLoss : MethodName := ⟨RX8, "dailyLoss", "(III)I"⟩
def RX9 : String := "HungInStorm$Text"
def TX9 : u_T := fun k => match k with
  | 0 => ("HungInStorm$Text", "bytes", "[I", true)
  | _ => ("HungInStorm$Text", "length", "I", false)
def tyX9 : Nat → FieldType := fun k => match k with
  | 0 => .array .int
  | _ => .int
abbrev wsX90 : List Cond := u_ws RX9 TX9 2
theorem nmX9 : ∀ a, a < 2 → ∀ b, b < 2 → a ≠ b → (TX9 a).2.1 ≠ (TX9 b).2.1 := by decide +kernel
theorem tyX9_ok : ∀ k, k < 2 → parseFieldDescriptor (TX9 k).2.2.1 = some (tyX9 k) := by decide +kernel
abbrev cX9_init : ByteArray := prog_11_method_1_code
def yX9_init : MethodName := ⟨RX9, "<init>", "()V"⟩
abbrev cX9_append : ByteArray := prog_11_method_2_code
def yX9_append : MethodName := ⟨RX9, "append", "(I)V"⟩
abbrev cX9_clear : ByteArray := prog_11_method_3_code
def yX9_clear : MethodName := ⟨RX9, "clear", "()V"⟩
abbrev cX9_at : ByteArray := prog_11_method_4_code
def yX9_at : MethodName := ⟨RX9, "at", "(I)I"⟩
def RX10 : String := "HungInStorm"
def TX10 : u_T := fun k => match k with
  | 0 => ("HungInStorm", "text", "LHungInStorm$Text;", true)
  | 1 => ("HungInStorm", "reader", "LHungInStorm$Reader;", true)
  | 2 => ("HungInStorm", "fleet", "LHungInStorm$Fleet;", true)
  | 3 => ("HungInStorm", "fleetOfYear", "LHungInStorm$Fleet;", true)
  | 4 => ("HungInStorm", "trial", "LHungInStorm$Course;", true)
  | 5 => ("HungInStorm", "chase", "LHungInStorm$Chase;", true)
  | 6 => ("HungInStorm", "odds", "LHungInStorm$Odds;", true)
  | 7 => ("HungInStorm", "history", "LHungInStorm$History;", true)
  | 8 => ("HungInStorm", "shelf", "LHungInStorm$Shelf;", true)
  | 9 => ("HungInStorm", "storm", "LHungInStorm$Storm;", false)
  | 10 => ("HungInStorm", "draft", "LHungInStorm$Storm;", false)
  | _ => ("HungInStorm", "fleetIsOld", "Z", false)
def tyX10 : Nat → FieldType := fun k => match k with
  | 0 => .object "HungInStorm$Text"
  | 1 => .object "HungInStorm$Reader"
  | 2 => .object "HungInStorm$Fleet"
  | 3 => .object "HungInStorm$Fleet"
  | 4 => .object "HungInStorm$Course"
  | 5 => .object "HungInStorm$Chase"
  | 6 => .object "HungInStorm$Odds"
  | 7 => .object "HungInStorm$History"
  | 8 => .object "HungInStorm$Shelf"
  | 9 => .object "HungInStorm$Storm"
  | 10 => .object "HungInStorm$Storm"
  | _ => .boolean
abbrev wsX100 : List Cond := u_ws RX10 TX10 12
theorem nmX10 : ∀ a, a < 12 → ∀ b, b < 12 → a ≠ b → (TX10 a).2.1 ≠ (TX10 b).2.1 := by decide +kernel
theorem tyX10_ok : ∀ k, k < 12 → parseFieldDescriptor (TX10 k).2.2.1 = some (tyX10 k) := by decide +kernel
abbrev cX10_init : ByteArray := prog_1_method_1_code
def yX10_init : MethodName := ⟨RX10, "<init>", "()V"⟩
abbrev cX10_write : ByteArray := prog_1_method_2_code
def yX10_write : MethodName := ⟨RX10, "write", "(IJ)I"⟩
abbrev cX10_wipe : ByteArray := prog_1_method_3_code
def yX10_wipe : MethodName := ⟨RX10, "wipe", "()I"⟩
abbrev cX10_fault : ByteArray := prog_1_method_4_code
def yX10_fault : MethodName := ⟨RX10, "fault", "()I"⟩
abbrev cX10_lay : ByteArray := prog_1_method_5_code
def yX10_lay : MethodName := ⟨RX10, "lay", "()I"⟩
abbrev cX10_level : ByteArray := prog_1_method_6_code
def yX10_level : MethodName := ⟨RX10, "level", "(II)I"⟩
abbrev cX10_town : ByteArray := prog_1_method_7_code
def yX10_town : MethodName := ⟨RX10, "town", "(III)I"⟩
abbrev cX10_lost : ByteArray := prog_1_method_8_code
def yX10_lost : MethodName := ⟨RX10, "lost", "(I)I"⟩
abbrev cX10_meet : ByteArray := prog_1_method_9_code
def yX10_meet : MethodName := ⟨RX10, "meet", "(II)I"⟩
abbrev cX10_markets : ByteArray := prog_1_method_10_code
def yX10_markets : MethodName := ⟨RX10, "markets", "(I)I"⟩
abbrev cX10_stay : ByteArray := prog_1_method_11_code
def yX10_stay : MethodName := ⟨RX10, "stay", "(III)I"⟩
abbrev cX10_catches : ByteArray := prog_1_method_12_code
def yX10_catches : MethodName := ⟨RX10, "catches", "(III)I"⟩
abbrev cX10_keeps : ByteArray := prog_1_method_13_code
def yX10_keeps : MethodName := ⟨RX10, "keeps", "(III)I"⟩
abbrev cX10_trades : ByteArray := prog_1_method_14_code
def yX10_trades : MethodName := ⟨RX10, "trades", "(III)I"⟩
abbrev cX10_dropped : ByteArray := prog_1_method_15_code
def yX10_dropped : MethodName := ⟨RX10, "dropped", "(IIII)I"⟩
abbrev cX10_seen : ByteArray := prog_1_method_16_code
def yX10_seen : MethodName := ⟨RX10, "seen", "(III)I"⟩
abbrev cX10_seenTwice : ByteArray := prog_1_method_17_code
def yX10_seenTwice : MethodName := ⟨RX10, "seenTwice", "(IIIII)I"⟩
abbrev cX10_gusts : ByteArray := prog_1_method_18_code
def yX10_gusts : MethodName := ⟨RX10, "gusts", "(IIIII)J"⟩
abbrev cX10_errand : ByteArray := prog_1_method_19_code
def yX10_errand : MethodName := ⟨RX10, "errand", "(IIZ)I"⟩
abbrev cX10_fill : ByteArray := prog_1_method_20_code
def yX10_fill : MethodName := ⟨RX10, "fill", "(II)I"⟩
abbrev cX10_undo : ByteArray := prog_1_method_21_code
def yX10_undo : MethodName := ⟨RX10, "undo", "()I"⟩
abbrev cX10_year : ByteArray := prog_1_method_22_code
def yX10_year : MethodName := ⟨RX10, "year", "(II)I"⟩
abbrev cX10_keep : ByteArray := prog_1_method_23_code
def yX10_keep : MethodName := ⟨RX10, "keep", "()I"⟩
abbrev cX10_back : ByteArray := prog_1_method_24_code
def yX10_back : MethodName := ⟨RX10, "back", "()I"⟩
abbrev cX10_count : ByteArray := prog_1_method_25_code
def yX10_count : MethodName := ⟨RX10, "count", "(I)I"⟩
abbrev cX10_isWithin : ByteArray := prog_1_method_26_code
def yX10_isWithin : MethodName := ⟨RX10, "isWithin", "(III)Z"⟩
abbrev cX10_isPlace : ByteArray := prog_1_method_27_code
def yX10_isPlace : MethodName := ⟨RX10, "isPlace", "(I)Z"⟩
abbrev cX10_isLevel : ByteArray := prog_1_method_28_code
def yX10_isLevel : MethodName := ⟨RX10, "isLevel", "(I)Z"⟩
abbrev cX10_isTown : ByteArray := prog_1_method_29_code
def yX10_isTown : MethodName := ⟨RX10, "isTown", "(I)Z"⟩
abbrev cX10_areTwoTowns : ByteArray := prog_1_method_30_code
def yX10_areTwoTowns : MethodName := ⟨RX10, "areTwoTowns", "(II)Z"⟩
abbrev cX10_followed : ByteArray := prog_1_method_31_code
def yX10_followed : MethodName := ⟨RX10, "followed", "()LHungInStorm$Fleet;"⟩
abbrev cX10_round : ByteArray := prog_1_method_32_code
def yX10_round : MethodName := ⟨RX10, "round", "(I)I"⟩
abbrev cX10_firstDayOf : ByteArray := prog_1_method_33_code
def yX10_firstDayOf : MethodName := ⟨RX10, "firstDayOf", "(III)I"⟩
abbrev cX10_fitting : ByteArray := prog_1_method_34_code
def yX10_fitting : MethodName := ⟨RX10, "fitting", "(III)I"⟩
def RX11 : String := "HungInStormModel"
def TX11 : u_T := fun k => match k with
  | 0 => ("HungInStormModel", "length", "I", false)
  | 1 => ("HungInStormModel", "text", "[I", true)
  | 2 => ("HungInStormModel", "levels", "[I", true)
  | 3 => ("HungInStormModel", "paces", "[I", true)
  | 4 => ("HungInStormModel", "wet", "[I", true)
  | 5 => ("HungInStormModel", "many", "[I", true)
  | 6 => ("HungInStormModel", "homes", "[I", true)
  | 7 => ("HungInStormModel", "firsts", "[I", true)
  | 8 => ("HungInStormModel", "weights", "[I", true)
  | 9 => ("HungInStormModel", "kinds", "[I", true)
  | 10 => ("HungInStormModel", "bolts", "[I", true)
  | 11 => ("HungInStormModel", "boltAt", "[I", true)
  | 12 => ("HungInStormModel", "boltOn", "[I", true)
  | 13 => ("HungInStormModel", "filled", "[I", true)
  | 14 => ("HungInStormModel", "errands", "[I", true)
  | 15 => ("HungInStormModel", "errandOf", "[I", true)
  | 16 => ("HungInStormModel", "errandOn", "[I", true)
  | 17 => ("HungInStormModel", "errandUp", "[I", true)
  | 18 => ("HungInStormModel", "keptMany", "I", false)
  | 19 => ("HungInStormModel", "undoMany", "I", false)
  | 20 => ("HungInStormModel", "undos", "[I", true)
  | 21 => ("HungInStormModel", "spot", "I", false)
  | 22 => ("HungInStormModel", "told", "[I", true)
  | 23 => ("HungInStormModel", "at", "[I", true)
  | 24 => ("HungInStormModel", "place", "[I", true)
  | 25 => ("HungInStormModel", "gas", "[I", true)
  | 26 => ("HungInStormModel", "lostOn", "[I", true)
  | 27 => ("HungInStormModel", "day", "I", false)
  | 28 => ("HungInStormModel", "now", "[J", true)
  | 29 => ("HungInStormModel", "next", "[J", true)
  | 30 => ("HungInStormModel", "ways", "[J", true)
  | 31 => ("HungInStormModel", "then", "[J", true)
  | _ => ("HungInStormModel", "held", "[I", true)
def tyX11 : Nat → FieldType := fun k => match k with
  | 0 => .int
  | 1 => .array .int
  | 2 => .array .int
  | 3 => .array .int
  | 4 => .array .int
  | 5 => .array .int
  | 6 => .array .int
  | 7 => .array .int
  | 8 => .array .int
  | 9 => .array .int
  | 10 => .array .int
  | 11 => .array .int
  | 12 => .array .int
  | 13 => .array .int
  | 14 => .array .int
  | 15 => .array .int
  | 16 => .array .int
  | 17 => .array .int
  | 18 => .int
  | 19 => .int
  | 20 => .array .int
  | 21 => .int
  | 22 => .array .int
  | 23 => .array .int
  | 24 => .array .int
  | 25 => .array .int
  | 26 => .array .int
  | 27 => .int
  | 28 => .array .long
  | 29 => .array .long
  | 30 => .array .long
  | 31 => .array .long
  | _ => .array .int
abbrev wsX110 : List Cond := u_ws RX11 TX11 33
theorem nmX11 : ∀ a, a < 33 → ∀ b, b < 33 → a ≠ b → (TX11 a).2.1 ≠ (TX11 b).2.1 := by decide +kernel
theorem tyX11_ok : ∀ k, k < 33 → parseFieldDescriptor (TX11 k).2.2.1 = some (tyX11 k) := by decide +kernel
abbrev cX11_init : ByteArray := prog_13_method_1_code
def yX11_init : MethodName := ⟨RX11, "<init>", "()V"⟩
abbrev cX11_in : ByteArray := prog_13_method_2_code
def yX11_in : MethodName := ⟨RX11, "in", "(JJJ)Z"⟩
abbrev cX11_write : ByteArray := prog_13_method_3_code
def yX11_write : MethodName := ⟨RX11, "write", "(IJ)I"⟩
abbrev cX11_wipe : ByteArray := prog_13_method_4_code
def yX11_wipe : MethodName := ⟨RX11, "wipe", "()I"⟩
abbrev cX11_byteAt : ByteArray := prog_13_method_5_code
def yX11_byteAt : MethodName := ⟨RX11, "byteAt", "(I)I"⟩
abbrev cX11_figures : ByteArray := prog_13_method_6_code
def yX11_figures : MethodName := ⟨RX11, "figures", "(I)Z"⟩
abbrev cX11_isTownItem : ByteArray := prog_13_method_7_code
def yX11_isTownItem : MethodName := ⟨RX11, "isTownItem", "()Z"⟩
abbrev cX11_addErrand : ByteArray := prog_13_method_8_code
def yX11_addErrand : MethodName := ⟨RX11, "addErrand", "(IIII)V"⟩
abbrev cX11_item : ByteArray := prog_13_method_9_code
def yX11_item : MethodName := ⟨RX11, "item", "()Z"⟩
abbrev cX11_readAll : ByteArray := prog_13_method_10_code
def yX11_readAll : MethodName := ⟨RX11, "readAll", "()I"⟩
abbrev cX11_fault : ByteArray := prog_13_method_11_code
def yX11_fault : MethodName := ⟨RX11, "fault", "()I"⟩
abbrev cX11_areThere : ByteArray := prog_13_method_12_code
def yX11_areThere : MethodName := ⟨RX11, "areThere", "()Z"⟩
abbrev cX11_copy : ByteArray := prog_13_method_13_code
def yX11_copy : MethodName := ⟨RX11, "copy", "(II)V"⟩
abbrev cX11_lay : ByteArray := prog_13_method_14_code
def yX11_lay : MethodName := ⟨RX11, "lay", "()I"⟩
abbrev cX11_isLevel : ByteArray := prog_13_method_15_code
def yX11_isLevel : MethodName := ⟨RX11, "isLevel", "(I)Z"⟩
abbrev cX11_isTown : ByteArray := prog_13_method_16_code
def yX11_isTown : MethodName := ⟨RX11, "isTown", "(I)Z"⟩
abbrev cX11_level : ByteArray := prog_13_method_17_code
def yX11_level : MethodName := ⟨RX11, "level", "(II)I"⟩
abbrev cX11_begin : ByteArray := prog_13_method_18_code
def yX11_begin : MethodName := ⟨RX11, "begin", "()V"⟩
abbrev cX11_goBy : ByteArray := prog_13_method_19_code
def yX11_goBy : MethodName := ⟨RX11, "goBy", "(IZ)V"⟩
abbrev cX11_leftOf : ByteArray := prog_13_method_20_code
def yX11_leftOf : MethodName := ⟨RX11, "leftOf", "(IIII)I"⟩
abbrev cX11_goDay : ByteArray := prog_13_method_21_code
def yX11_goDay : MethodName := ⟨RX11, "goDay", "()V"⟩
abbrev cX11_go : ByteArray := prog_13_method_22_code
def yX11_go : MethodName := ⟨RX11, "go", "(I)V"⟩
abbrev cX11_areTogether : ByteArray := prog_13_method_23_code
def yX11_areTogether : MethodName := ⟨RX11, "areTogether", "(II)Z"⟩
abbrev cX11_pairs : ByteArray := prog_13_method_24_code
def yX11_pairs : MethodName := ⟨RX11, "pairs", "()I"⟩
abbrev cX11_town : ByteArray := prog_13_method_25_code
def yX11_town : MethodName := ⟨RX11, "town", "(III)I"⟩
abbrev cX11_lost : ByteArray := prog_13_method_26_code
def yX11_lost : MethodName := ⟨RX11, "lost", "(I)I"⟩
abbrev cX11_meet : ByteArray := prog_13_method_27_code
def yX11_meet : MethodName := ⟨RX11, "meet", "(II)I"⟩
abbrev cX11_marketsTo : ByteArray := prog_13_method_28_code
def yX11_marketsTo : MethodName := ⟨RX11, "marketsTo", "(I)I"⟩
abbrev cX11_markets : ByteArray := prog_13_method_29_code
def yX11_markets : MethodName := ⟨RX11, "markets", "(I)I"⟩
abbrev cX11_stay : ByteArray := prog_13_method_30_code
def yX11_stay : MethodName := ⟨RX11, "stay", "(III)I"⟩
abbrev cX11_carry : ByteArray := prog_13_method_31_code
def yX11_carry : MethodName := ⟨RX11, "carry", "(IIII)V"⟩
abbrev cX11_carryAll : ByteArray := prog_13_method_32_code
def yX11_carryAll : MethodName := ⟨RX11, "carryAll", "(I)V"⟩
abbrev cX11_highest : ByteArray := prog_13_method_33_code
def yX11_highest : MethodName := ⟨RX11, "highest", "(J)I"⟩
abbrev cX11_catches : ByteArray := prog_13_method_34_code
def yX11_catches : MethodName := ⟨RX11, "catches", "(III)I"⟩
abbrev cX11_keeps : ByteArray := prog_13_method_35_code
def yX11_keeps : MethodName := ⟨RX11, "keeps", "(III)I"⟩
abbrev cX11_tradesOf : ByteArray := prog_13_method_36_code
def yX11_tradesOf : MethodName := ⟨RX11, "tradesOf", "(II)I"⟩
abbrev cX11_trades : ByteArray := prog_13_method_37_code
def yX11_trades : MethodName := ⟨RX11, "trades", "(III)I"⟩
abbrev cX11_isPlace : ByteArray := prog_13_method_38_code
def yX11_isPlace : MethodName := ⟨RX11, "isPlace", "(I)Z"⟩
abbrev cX11_dropped : ByteArray := prog_13_method_39_code
def yX11_dropped : MethodName := ⟨RX11, "dropped", "(IIII)I"⟩
abbrev cX11_levelsOf : ByteArray := prog_13_method_40_code
def yX11_levelsOf : MethodName := ⟨RX11, "levelsOf", "(III)I"⟩
abbrev cX11_isSeen : ByteArray := prog_13_method_41_code
def yX11_isSeen : MethodName := ⟨RX11, "isSeen", "(III)Z"⟩
abbrev cX11_seen : ByteArray := prog_13_method_42_code
def yX11_seen : MethodName := ⟨RX11, "seen", "(III)I"⟩
abbrev cX11_seenTwice : ByteArray := prog_13_method_43_code
def yX11_seenTwice : MethodName := ⟨RX11, "seenTwice", "(IIIII)I"⟩
abbrev cX11_gusts : ByteArray := prog_13_method_44_code
def yX11_gusts : MethodName := ⟨RX11, "gusts", "(IIIII)J"⟩
abbrev cX11_note : ByteArray := prog_13_method_45_code
def yX11_note : MethodName := ⟨RX11, "note", "(II)V"⟩
abbrev cX11_errand : ByteArray := prog_13_method_46_code
def yX11_errand : MethodName := ⟨RX11, "errand", "(IIZ)I"⟩
abbrev cX11_fill : ByteArray := prog_13_method_47_code
def yX11_fill : MethodName := ⟨RX11, "fill", "(II)I"⟩
abbrev cX11_undo : ByteArray := prog_13_method_48_code
def yX11_undo : MethodName := ⟨RX11, "undo", "()I"⟩
abbrev cX11_year : ByteArray := prog_13_method_49_code
def yX11_year : MethodName := ⟨RX11, "year", "(II)I"⟩
abbrev cX11_keep : ByteArray := prog_13_method_50_code
def yX11_keep : MethodName := ⟨RX11, "keep", "()I"⟩
abbrev cX11_back : ByteArray := prog_13_method_51_code
def yX11_back : MethodName := ⟨RX11, "back", "()I"⟩
abbrev cX11_count : ByteArray := prog_13_method_52_code
def yX11_count : MethodName := ⟨RX11, "count", "(I)I"⟩
def RJ9 : String := "java/lang/Math"
def TJ9 : u_T := fun k => match k with
  | _ => ("", "", "", false)
def tyJ9 : Nat → FieldType := fun k => match k with
  | _ => .int
abbrev wsJ90 : List Cond := u_ws RJ9 TJ9 0
theorem nmJ9 : ∀ a, a < 0 → ∀ b, b < 0 → a ≠ b → (TJ9 a).2.1 ≠ (TJ9 b).2.1 := by decide +kernel
theorem tyJ9_ok : ∀ k, k < 0 → parseFieldDescriptor (TJ9 k).2.2.1 = some (tyJ9 k) := by decide +kernel
abbrev cJ9_max_7cf53 : ByteArray := prog_14_method_65_code
def yJ9_max_7cf53 : MethodName := ⟨RJ9, "max", "(II)I"⟩
abbrev cJ9_min_7cf53 : ByteArray := prog_14_method_69_code
def yJ9_min_7cf53 : MethodName := ⟨RJ9, "min", "(II)I"⟩
def RJ0 : String := "java/lang/String"
def TJ0 : u_T := fun k => match k with
  | _ => ("", "", "", false)
def tyJ0 : Nat → FieldType := fun k => match k with
  | _ => .int
abbrev wsJ00 : List Cond := u_ws RJ0 TJ0 0
theorem nmJ0 : ∀ a, a < 0 → ∀ b, b < 0 → a ≠ b → (TJ0 a).2.1 ≠ (TJ0 b).2.1 := by decide +kernel
theorem tyJ0_ok : ∀ k, k < 0 → parseFieldDescriptor (TJ0 k).2.2.1 = some (tyJ0 k) := by decide +kernel
abbrev cJ0_length_8abf5 : ByteArray := prog_15_method_54_code
def yJ0_length_8abf5 : MethodName := ⟨RJ0, "length", "()I"⟩
abbrev cJ0_charAt_5068e : ByteArray := prog_15_method_56_code
def yJ0_charAt_5068e : MethodName := ⟨RJ0, "charAt", "(I)C"⟩
abbrev cJ0_coder_7d493 : ByteArray := prog_15_method_152_code
def yJ0_coder_7d493 : MethodName := ⟨RJ0, "coder", "()B"⟩
abbrev cJ0_isLatin1_aae02 : ByteArray := prog_15_method_154_code
def yJ0_isLatin1_aae02 : MethodName := ⟨RJ0, "isLatin1", "()Z"⟩
abbrev cJ0_checkIndex_df160 : ByteArray := prog_15_method_155_code
def yJ0_checkIndex_df160 : MethodName := ⟨RJ0, "checkIndex", "(II)V"⟩
def RJ1 : String := "java/lang/StringLatin1"
def TJ1 : u_T := fun k => match k with
  | _ => ("", "", "", false)
def tyJ1 : Nat → FieldType := fun k => match k with
  | _ => .int
abbrev wsJ10 : List Cond := u_ws RJ1 TJ1 0
theorem nmJ1 : ∀ a, a < 0 → ∀ b, b < 0 → a ≠ b → (TJ1 a).2.1 ≠ (TJ1 b).2.1 := by decide +kernel
theorem tyJ1_ok : ∀ k, k < 0 → parseFieldDescriptor (TJ1 k).2.2.1 = some (tyJ1 k) := by decide +kernel
abbrev cJ1_charAt_3b067 : ByteArray := prog_16_method_2_code
def yJ1_charAt_3b067 : MethodName := ⟨RJ1, "charAt", "([BI)C"⟩
def RJ2 : String := "java/lang/StringUTF16"
def TJ2 : u_T := fun k => match k with
  | _ => ("", "", "", false)
def tyJ2 : Nat → FieldType := fun k => match k with
  | _ => .int
abbrev wsJ20 : List Cond := u_ws RJ2 TJ2 0
theorem nmJ2 : ∀ a, a < 0 → ∀ b, b < 0 → a ≠ b → (TJ2 a).2.1 ≠ (TJ2 b).2.1 := by decide +kernel
theorem tyJ2_ok : ∀ k, k < 0 → parseFieldDescriptor (TJ2 k).2.2.1 = some (tyJ2 k) := by decide +kernel
abbrev cJ2_getChar_3b067 : ByteArray := prog_17_method_5_code
def yJ2_getChar_3b067 : MethodName := ⟨RJ2, "getChar", "([BI)C"⟩
abbrev cJ2_length_9d52b : ByteArray := prog_17_method_6_code
def yJ2_length_9d52b : MethodName := ⟨RJ2, "length", "([B)I"⟩
abbrev cJ2_charAt_3b067 : ByteArray := prog_17_method_83_code
def yJ2_charAt_3b067 : MethodName := ⟨RJ2, "charAt", "([BI)C"⟩
abbrev cJ2_checkIndex_2214a : ByteArray := prog_17_method_91_code
def yJ2_checkIndex_2214a : MethodName := ⟨RJ2, "checkIndex", "(I[B)V"⟩
def RJ3 : String := "jdk/internal/util/Preconditions"
def TJ3 : u_T := fun k => match k with
  | _ => ("", "", "", false)
def tyJ3 : Nat → FieldType := fun k => match k with
  | _ => .int
abbrev wsJ30 : List Cond := u_ws RJ3 TJ3 0
theorem nmJ3 : ∀ a, a < 0 → ∀ b, b < 0 → a ≠ b → (TJ3 a).2.1 ≠ (TJ3 b).2.1 := by decide +kernel
theorem tyJ3_ok : ∀ k, k < 0 → parseFieldDescriptor (TJ3 k).2.2.1 = some (tyJ3 k) := by decide +kernel
abbrev cJ3_checkIndex_8e157 : ByteArray := prog_18_method_11_code
def yJ3_checkIndex_8e157 : MethodName := ⟨RJ3, "checkIndex", "(IILjava/util/function/BiFunction;)I"⟩
def RL : String := "HungInStormLaw"
abbrev cL_law : ByteArray := code
def yL_law : MethodName := ⟨RL, "law", "([I)Z"⟩
abbrev vwCl : List vw_C := [(RX0, TX0, 4), (RX1, TX1, 7), (RX2, TX2, 2), (RX3, TX3, 3), (RX4, TX4, 4), (RX5, TX5, 5), (RX6, TX6, 3), (RX7, TX7, 2), (RX8, TX8, 12), (RX9, TX9, 2), (RX10, TX10, 12), (RX11, TX11, 33)]
end
section
theorem dX0_init_0 : decode cX0_init 0 = .ok (.aload_n 0, 1) := by decide +kernel
theorem dX0_init_1 : decode cX0_init 1 = .ok (.invokespecial 3, 3) := by decide +kernel
theorem dX0_init_4 : decode cX0_init 4 = .ok (.aload_n 0, 1) := by decide +kernel
theorem dX0_init_5 : decode cX0_init 5 = .ok (.sipush 144, 3) := by decide +kernel
theorem dX0_init_8 : decode cX0_init 8 = .ok (.newarray .long, 2) := by decide +kernel
theorem dX0_init_10 : decode cX0_init 10 = .ok (.putfield 9, 3) := by decide +kernel
theorem dX0_init_13 : decode cX0_init 13 = .ok (.aload_n 0, 1) := by decide +kernel
theorem dX0_init_14 : decode cX0_init 14 = .ok (.sipush 144, 3) := by decide +kernel
theorem dX0_init_17 : decode cX0_init 17 = .ok (.newarray .long, 2) := by decide +kernel
theorem dX0_init_19 : decode cX0_init 19 = .ok (.putfield 15, 3) := by decide +kernel
theorem dX0_init_22 : decode cX0_init 22 = .ok (.return_, 1) := by decide +kernel
theorem dX0_hunt_0 : decode cX0_hunt 0 = .ok (.aload_n 0, 1) := by decide +kernel
theorem dX0_hunt_1 : decode cX0_hunt 1 = .ok (.getfield 9, 3) := by decide +kernel
theorem dX0_hunt_4 : decode cX0_hunt 4 = .ok (.invokestatic 18, 3) := by decide +kernel
theorem dX0_hunt_7 : decode cX0_hunt 7 = .ok (.aload_n 0, 1) := by decide +kernel
theorem dX0_hunt_8 : decode cX0_hunt 8 = .ok (.getfield 9, 3) := by decide +kernel
theorem dX0_hunt_11 : decode cX0_hunt 11 = .ok (.aload_n 1, 1) := by decide +kernel
theorem dX0_hunt_12 : decode cX0_hunt 12 = .ok (.getfield 22, 3) := by decide +kernel
theorem dX0_hunt_15 : decode cX0_hunt 15 = .ok (.iload_n 2, 1) := by decide +kernel
theorem dX0_hunt_16 : decode cX0_hunt 16 = .ok (.iaload, 1) := by decide +kernel
theorem dX0_hunt_17 : decode cX0_hunt 17 = .ok (.aload_n 1, 1) := by decide +kernel
theorem dX0_hunt_18 : decode cX0_hunt 18 = .ok (.getfield 28, 3) := by decide +kernel
theorem dX0_hunt_21 : decode cX0_hunt 21 = .ok (.iload_n 2, 1) := by decide +kernel
theorem dX0_hunt_22 : decode cX0_hunt 22 = .ok (.iaload, 1) := by decide +kernel
theorem dX0_hunt_23 : decode cX0_hunt 23 = .ok (.invokestatic 31, 3) := by decide +kernel
theorem dX0_hunt_26 : decode cX0_hunt 26 = .ok (.lconst 1, 1) := by decide +kernel
theorem dX0_hunt_27 : decode cX0_hunt 27 = .ok (.aload_n 1, 1) := by decide +kernel
theorem dX0_hunt_28 : decode cX0_hunt 28 = .ok (.getfield 35, 3) := by decide +kernel
theorem dX0_hunt_31 : decode cX0_hunt 31 = .ok (.getfield 39, 3) := by decide +kernel
theorem dX0_hunt_34 : decode cX0_hunt 34 = .ok (.iload_n 2, 1) := by decide +kernel
theorem dX0_hunt_35 : decode cX0_hunt 35 = .ok (.iaload, 1) := by decide +kernel
theorem dX0_hunt_36 : decode cX0_hunt 36 = .ok (.lshl, 1) := by decide +kernel
theorem dX0_hunt_37 : decode cX0_hunt 37 = .ok (.lastore, 1) := by decide +kernel
theorem dX0_hunt_38 : decode cX0_hunt 38 = .ok (.iconst 1, 1) := by decide +kernel
theorem dX0_hunt_39 : decode cX0_hunt 39 = .ok (.istore 4, 2) := by decide +kernel
theorem dX0_hunt_41 : decode cX0_hunt 41 = .ok (.iload 4, 2) := by decide +kernel
theorem dX0_hunt_43 : decode cX0_hunt 43 = .ok (.bipush 20, 2) := by decide +kernel
theorem dX0_hunt_45 : decode cX0_hunt 45 = .ok (.if_icmp .gt 72, 3) := by decide +kernel
theorem dX0_hunt_48 : decode cX0_hunt 48 = .ok (.aload_n 3, 1) := by decide +kernel
theorem dX0_hunt_49 : decode cX0_hunt 49 = .ok (.iload 4, 2) := by decide +kernel
theorem dX0_hunt_51 : decode cX0_hunt 51 = .ok (.invokevirtual 44, 3) := by decide +kernel
theorem dX0_hunt_54 : decode cX0_hunt 54 = .ok (.ifCond .eq 63, 3) := by decide +kernel
theorem dX0_hunt_57 : decode cX0_hunt 57 = .ok (.aload_n 0, 1) := by decide +kernel
theorem dX0_hunt_58 : decode cX0_hunt 58 = .ok (.iload 4, 2) := by decide +kernel
theorem dX0_hunt_60 : decode cX0_hunt 60 = .ok (.putfield 50, 3) := by decide +kernel
theorem dX0_hunt_63 : decode cX0_hunt 63 = .ok (.aload_n 0, 1) := by decide +kernel
theorem dX0_hunt_64 : decode cX0_hunt 64 = .ok (.aload_n 1, 1) := by decide +kernel
theorem dX0_hunt_65 : decode cX0_hunt 65 = .ok (.iload_n 2, 1) := by decide +kernel
theorem dX0_hunt_66 : decode cX0_hunt 66 = .ok (.invokevirtual 54, 3) := by decide +kernel
theorem dX0_hunt_69 : decode cX0_hunt 69 = .ok (.aload_n 0, 1) := by decide +kernel
theorem dX0_hunt_70 : decode cX0_hunt 70 = .ok (.getfield 9, 3) := by decide +kernel
theorem dX0_hunt_73 : decode cX0_hunt 73 = .ok (.aload_n 3, 1) := by decide +kernel
theorem dX0_hunt_74 : decode cX0_hunt 74 = .ok (.getfield 58, 3) := by decide +kernel
theorem dX0_hunt_77 : decode cX0_hunt 77 = .ok (.iload 4, 2) := by decide +kernel
theorem dX0_hunt_79 : decode cX0_hunt 79 = .ok (.iaload, 1) := by decide +kernel
theorem dX0_hunt_80 : decode cX0_hunt 80 = .ok (.aload_n 3, 1) := by decide +kernel
theorem dX0_hunt_81 : decode cX0_hunt 81 = .ok (.getfield 61, 3) := by decide +kernel
theorem dX0_hunt_84 : decode cX0_hunt 84 = .ok (.iload 4, 2) := by decide +kernel
theorem dX0_hunt_86 : decode cX0_hunt 86 = .ok (.iaload, 1) := by decide +kernel
theorem dX0_hunt_87 : decode cX0_hunt 87 = .ok (.invokestatic 31, 3) := by decide +kernel
theorem dX0_hunt_90 : decode cX0_hunt 90 = .ok (.laload, 1) := by decide +kernel
theorem dX0_hunt_91 : decode cX0_hunt 91 = .ok (.lstore 5, 2) := by decide +kernel
theorem dX0_hunt_93 : decode cX0_hunt 93 = .ok (.lload 5, 2) := by decide +kernel
theorem dX0_hunt_95 : decode cX0_hunt 95 = .ok (.lconst 0, 1) := by decide +kernel
theorem dX0_hunt_96 : decode cX0_hunt 96 = .ok (.lcmp, 1) := by decide +kernel
theorem dX0_hunt_97 : decode cX0_hunt 97 = .ok (.ifCond .eq 14, 3) := by decide +kernel
theorem dX0_hunt_100 : decode cX0_hunt 100 = .ok (.aload_n 0, 1) := by decide +kernel
theorem dX0_hunt_101 : decode cX0_hunt 101 = .ok (.lload 5, 2) := by decide +kernel
theorem dX0_hunt_103 : decode cX0_hunt 103 = .ok (.invokestatic 64, 3) := by decide +kernel
theorem dX0_hunt_106 : decode cX0_hunt 106 = .ok (.putfield 68, 3) := by decide +kernel
theorem dX0_hunt_109 : decode cX0_hunt 109 = .ok (.iconst 1, 1) := by decide +kernel
theorem dX0_hunt_110 : decode cX0_hunt 110 = .ok (.ireturn, 1) := by decide +kernel
theorem dX0_hunt_111 : decode cX0_hunt 111 = .ok (.iinc 4 1, 3) := by decide +kernel
theorem dX0_hunt_114 : decode cX0_hunt 114 = .ok (.goto (-73), 3) := by decide +kernel
theorem dX0_hunt_117 : decode cX0_hunt 117 = .ok (.iconst 0, 1) := by decide +kernel
theorem dX0_hunt_118 : decode cX0_hunt 118 = .ok (.ireturn, 1) := by decide +kernel
theorem dX0_cell_0 : decode cX0_cell 0 = .ok (.iload_n 0, 1) := by decide +kernel
theorem dX0_cell_1 : decode cX0_cell 1 = .ok (.bipush 24, 2) := by decide +kernel
theorem dX0_cell_3 : decode cX0_cell 3 = .ok (.imul, 1) := by decide +kernel
theorem dX0_cell_4 : decode cX0_cell 4 = .ok (.iload_n 1, 1) := by decide +kernel
theorem dX0_cell_5 : decode cX0_cell 5 = .ok (.iadd, 1) := by decide +kernel
theorem dX0_cell_6 : decode cX0_cell 6 = .ok (.ireturn, 1) := by decide +kernel
theorem dX0_empty_0 : decode cX0_empty 0 = .ok (.iconst 0, 1) := by decide +kernel
theorem dX0_empty_1 : decode cX0_empty 1 = .ok (.istore_n 1, 1) := by decide +kernel
theorem dX0_empty_2 : decode cX0_empty 2 = .ok (.iload_n 1, 1) := by decide +kernel
theorem dX0_empty_3 : decode cX0_empty 3 = .ok (.aload_n 0, 1) := by decide +kernel
theorem dX0_empty_4 : decode cX0_empty 4 = .ok (.arraylength, 1) := by decide +kernel
theorem dX0_empty_5 : decode cX0_empty 5 = .ok (.if_icmp .ge 13, 3) := by decide +kernel
theorem dX0_empty_8 : decode cX0_empty 8 = .ok (.aload_n 0, 1) := by decide +kernel
theorem dX0_empty_9 : decode cX0_empty 9 = .ok (.iload_n 1, 1) := by decide +kernel
theorem dX0_empty_10 : decode cX0_empty 10 = .ok (.lconst 0, 1) := by decide +kernel
theorem dX0_empty_11 : decode cX0_empty 11 = .ok (.lastore, 1) := by decide +kernel
theorem dX0_empty_12 : decode cX0_empty 12 = .ok (.iinc 1 1, 3) := by decide +kernel
theorem dX0_empty_15 : decode cX0_empty 15 = .ok (.goto (-13), 3) := by decide +kernel
theorem dX0_empty_18 : decode cX0_empty 18 = .ok (.return_, 1) := by decide +kernel
theorem dX0_passDay_0 : decode cX0_passDay 0 = .ok (.aload_n 0, 1) := by decide +kernel
theorem dX0_passDay_1 : decode cX0_passDay 1 = .ok (.getfield 15, 3) := by decide +kernel
theorem dX0_passDay_4 : decode cX0_passDay 4 = .ok (.invokestatic 18, 3) := by decide +kernel
theorem dX0_passDay_7 : decode cX0_passDay 7 = .ok (.iconst 0, 1) := by decide +kernel
theorem dX0_passDay_8 : decode cX0_passDay 8 = .ok (.istore_n 3, 1) := by decide +kernel
theorem dX0_passDay_9 : decode cX0_passDay 9 = .ok (.iload_n 3, 1) := by decide +kernel
theorem dX0_passDay_10 : decode cX0_passDay 10 = .ok (.aload_n 1, 1) := by decide +kernel
theorem dX0_passDay_11 : decode cX0_passDay 11 = .ok (.getfield 70, 3) := by decide +kernel
theorem dX0_passDay_14 : decode cX0_passDay 14 = .ok (.if_icmp .ge 56, 3) := by decide +kernel
theorem dX0_passDay_17 : decode cX0_passDay 17 = .ok (.iconst 0, 1) := by decide +kernel
theorem dX0_passDay_18 : decode cX0_passDay 18 = .ok (.istore 4, 2) := by decide +kernel
theorem dX0_passDay_20 : decode cX0_passDay 20 = .ok (.iload 4, 2) := by decide +kernel
theorem dX0_passDay_22 : decode cX0_passDay 22 = .ok (.bipush 24, 2) := by decide +kernel
theorem dX0_passDay_24 : decode cX0_passDay 24 = .ok (.if_icmp .ge 40, 3) := by decide +kernel
theorem dX0_passDay_27 : decode cX0_passDay 27 = .ok (.aload_n 0, 1) := by decide +kernel
theorem dX0_passDay_28 : decode cX0_passDay 28 = .ok (.getfield 9, 3) := by decide +kernel
theorem dX0_passDay_31 : decode cX0_passDay 31 = .ok (.iload_n 3, 1) := by decide +kernel
theorem dX0_passDay_32 : decode cX0_passDay 32 = .ok (.iload 4, 2) := by decide +kernel
theorem dX0_passDay_34 : decode cX0_passDay 34 = .ok (.invokestatic 31, 3) := by decide +kernel
theorem dX0_passDay_37 : decode cX0_passDay 37 = .ok (.laload, 1) := by decide +kernel
theorem dX0_passDay_38 : decode cX0_passDay 38 = .ok (.lstore 5, 2) := by decide +kernel
theorem dX0_passDay_40 : decode cX0_passDay 40 = .ok (.lload 5, 2) := by decide +kernel
theorem dX0_passDay_42 : decode cX0_passDay 42 = .ok (.lconst 0, 1) := by decide +kernel
theorem dX0_passDay_43 : decode cX0_passDay 43 = .ok (.lcmp, 1) := by decide +kernel
theorem dX0_passDay_44 : decode cX0_passDay 44 = .ok (.ifCond .eq 14, 3) := by decide +kernel
theorem dX0_passDay_47 : decode cX0_passDay 47 = .ok (.aload_n 0, 1) := by decide +kernel
theorem dX0_passDay_48 : decode cX0_passDay 48 = .ok (.aload_n 1, 1) := by decide +kernel
theorem dX0_passDay_49 : decode cX0_passDay 49 = .ok (.iload_n 2, 1) := by decide +kernel
theorem dX0_passDay_50 : decode cX0_passDay 50 = .ok (.iload_n 3, 1) := by decide +kernel
theorem dX0_passDay_51 : decode cX0_passDay 51 = .ok (.iload 4, 2) := by decide +kernel
theorem dX0_passDay_53 : decode cX0_passDay 53 = .ok (.lload 5, 2) := by decide +kernel
theorem dX0_passDay_55 : decode cX0_passDay 55 = .ok (.invokevirtual 73, 3) := by decide +kernel
theorem dX0_passDay_58 : decode cX0_passDay 58 = .ok (.iinc 4 1, 3) := by decide +kernel
theorem dX0_passDay_61 : decode cX0_passDay 61 = .ok (.goto (-41), 3) := by decide +kernel
theorem dX0_passDay_64 : decode cX0_passDay 64 = .ok (.iinc 3 1, 3) := by decide +kernel
theorem dX0_passDay_67 : decode cX0_passDay 67 = .ok (.goto (-58), 3) := by decide +kernel
theorem dX0_passDay_70 : decode cX0_passDay 70 = .ok (.aload_n 0, 1) := by decide +kernel
theorem dX0_passDay_71 : decode cX0_passDay 71 = .ok (.getfield 9, 3) := by decide +kernel
theorem dX0_passDay_74 : decode cX0_passDay 74 = .ok (.astore_n 3, 1) := by decide +kernel
theorem dX0_passDay_75 : decode cX0_passDay 75 = .ok (.aload_n 0, 1) := by decide +kernel
theorem dX0_passDay_76 : decode cX0_passDay 76 = .ok (.aload_n 0, 1) := by decide +kernel
theorem dX0_passDay_77 : decode cX0_passDay 77 = .ok (.getfield 15, 3) := by decide +kernel
theorem dX0_passDay_80 : decode cX0_passDay 80 = .ok (.putfield 9, 3) := by decide +kernel
theorem dX0_passDay_83 : decode cX0_passDay 83 = .ok (.aload_n 0, 1) := by decide +kernel
theorem dX0_passDay_84 : decode cX0_passDay 84 = .ok (.aload_n 3, 1) := by decide +kernel
theorem dX0_passDay_85 : decode cX0_passDay 85 = .ok (.putfield 15, 3) := by decide +kernel
theorem dX0_passDay_88 : decode cX0_passDay 88 = .ok (.return_, 1) := by decide +kernel
theorem dX0_leave_0 : decode cX0_leave 0 = .ok (.aload_n 0, 1) := by decide +kernel
theorem dX0_leave_1 : decode cX0_leave 1 = .ok (.aload_n 1, 1) := by decide +kernel
theorem dX0_leave_2 : decode cX0_leave 2 = .ok (.iload_n 2, 1) := by decide +kernel
theorem dX0_leave_3 : decode cX0_leave 3 = .ok (.iload_n 3, 1) := by decide +kernel
theorem dX0_leave_4 : decode cX0_leave 4 = .ok (.iload 4, 2) := by decide +kernel
theorem dX0_leave_6 : decode cX0_leave 6 = .ok (.lload 5, 2) := by decide +kernel
theorem dX0_leave_8 : decode cX0_leave 8 = .ok (.invokevirtual 77, 3) := by decide +kernel
theorem dX0_leave_11 : decode cX0_leave 11 = .ok (.iload_n 3, 1) := by decide +kernel
theorem dX0_leave_12 : decode cX0_leave 12 = .ok (.ifCond .le 16, 3) := by decide +kernel
theorem dX0_leave_15 : decode cX0_leave 15 = .ok (.aload_n 0, 1) := by decide +kernel
theorem dX0_leave_16 : decode cX0_leave 16 = .ok (.aload_n 1, 1) := by decide +kernel
theorem dX0_leave_17 : decode cX0_leave 17 = .ok (.iload_n 2, 1) := by decide +kernel
theorem dX0_leave_18 : decode cX0_leave 18 = .ok (.iload_n 3, 1) := by decide +kernel
theorem dX0_leave_19 : decode cX0_leave 19 = .ok (.iconst 1, 1) := by decide +kernel
theorem dX0_leave_20 : decode cX0_leave 20 = .ok (.isub, 1) := by decide +kernel
theorem dX0_leave_21 : decode cX0_leave 21 = .ok (.iload 4, 2) := by decide +kernel
theorem dX0_leave_23 : decode cX0_leave 23 = .ok (.lload 5, 2) := by decide +kernel
theorem dX0_leave_25 : decode cX0_leave 25 = .ok (.invokevirtual 77, 3) := by decide +kernel
theorem dX0_leave_28 : decode cX0_leave 28 = .ok (.iload_n 3, 1) := by decide +kernel
theorem dX0_leave_29 : decode cX0_leave 29 = .ok (.iconst 1, 1) := by decide +kernel
theorem dX0_leave_30 : decode cX0_leave 30 = .ok (.iadd, 1) := by decide +kernel
theorem dX0_leave_31 : decode cX0_leave 31 = .ok (.aload_n 1, 1) := by decide +kernel
theorem dX0_leave_32 : decode cX0_leave 32 = .ok (.getfield 70, 3) := by decide +kernel
theorem dX0_leave_35 : decode cX0_leave 35 = .ok (.if_icmp .ge 23, 3) := by decide +kernel
theorem dX0_leave_38 : decode cX0_leave 38 = .ok (.aload_n 0, 1) := by decide +kernel
theorem dX0_leave_39 : decode cX0_leave 39 = .ok (.aload_n 1, 1) := by decide +kernel
theorem dX0_leave_40 : decode cX0_leave 40 = .ok (.iload_n 2, 1) := by decide +kernel
theorem dX0_leave_41 : decode cX0_leave 41 = .ok (.iload_n 3, 1) := by decide +kernel
theorem dX0_leave_42 : decode cX0_leave 42 = .ok (.iconst 1, 1) := by decide +kernel
theorem dX0_leave_43 : decode cX0_leave 43 = .ok (.iadd, 1) := by decide +kernel
theorem dX0_leave_44 : decode cX0_leave 44 = .ok (.iload 4, 2) := by decide +kernel
theorem dX0_leave_46 : decode cX0_leave 46 = .ok (.lload 5, 2) := by decide +kernel
theorem dX0_leave_48 : decode cX0_leave 48 = .ok (.aload_n 1, 1) := by decide +kernel
theorem dX0_leave_49 : decode cX0_leave 49 = .ok (.getfield 80, 3) := by decide +kernel
theorem dX0_leave_52 : decode cX0_leave 52 = .ok (.iload_n 2, 1) := by decide +kernel
theorem dX0_leave_53 : decode cX0_leave 53 = .ok (.iaload, 1) := by decide +kernel
theorem dX0_leave_54 : decode cX0_leave 54 = .ok (.lushr, 1) := by decide +kernel
theorem dX0_leave_55 : decode cX0_leave 55 = .ok (.invokevirtual 77, 3) := by decide +kernel
theorem dX0_leave_58 : decode cX0_leave 58 = .ok (.return_, 1) := by decide +kernel
theorem dX0_sink_0 : decode cX0_sink 0 = .ok (.aload_n 0, 1) := by decide +kernel
theorem dX0_sink_1 : decode cX0_sink 1 = .ok (.aload_n 1, 1) := by decide +kernel
theorem dX0_sink_2 : decode cX0_sink 2 = .ok (.iload_n 2, 1) := by decide +kernel
theorem dX0_sink_3 : decode cX0_sink 3 = .ok (.iload_n 3, 1) := by decide +kernel
theorem dX0_sink_4 : decode cX0_sink 4 = .ok (.iload 4, 2) := by decide +kernel
theorem dX0_sink_6 : decode cX0_sink 6 = .ok (.lload 5, 2) := by decide +kernel
theorem dX0_sink_8 : decode cX0_sink 8 = .ok (.ldc2_w 83, 3) := by decide +kernel
theorem dX0_sink_11 : decode cX0_sink 11 = .ok (.land, 1) := by decide +kernel
theorem dX0_sink_12 : decode cX0_sink 12 = .ok (.invokevirtual 85, 3) := by decide +kernel
theorem dX0_sink_15 : decode cX0_sink 15 = .ok (.iload_n 3, 1) := by decide +kernel
theorem dX0_sink_16 : decode cX0_sink 16 = .ok (.ifCond .le 18, 3) := by decide +kernel
theorem dX0_sink_19 : decode cX0_sink 19 = .ok (.aload_n 0, 1) := by decide +kernel
theorem dX0_sink_20 : decode cX0_sink 20 = .ok (.aload_n 1, 1) := by decide +kernel
theorem dX0_sink_21 : decode cX0_sink 21 = .ok (.iload_n 2, 1) := by decide +kernel
theorem dX0_sink_22 : decode cX0_sink 22 = .ok (.iload_n 3, 1) := by decide +kernel
theorem dX0_sink_23 : decode cX0_sink 23 = .ok (.iconst 1, 1) := by decide +kernel
theorem dX0_sink_24 : decode cX0_sink 24 = .ok (.isub, 1) := by decide +kernel
theorem dX0_sink_25 : decode cX0_sink 25 = .ok (.iload 4, 2) := by decide +kernel
theorem dX0_sink_27 : decode cX0_sink 27 = .ok (.lload 5, 2) := by decide +kernel
theorem dX0_sink_29 : decode cX0_sink 29 = .ok (.lconst 1, 1) := by decide +kernel
theorem dX0_sink_30 : decode cX0_sink 30 = .ok (.land, 1) := by decide +kernel
theorem dX0_sink_31 : decode cX0_sink 31 = .ok (.invokevirtual 85, 3) := by decide +kernel
theorem dX0_sink_34 : decode cX0_sink 34 = .ok (.return_, 1) := by decide +kernel
theorem dX0_arrive_0 : decode cX0_arrive 0 = .ok (.aload_n 1, 1) := by decide +kernel
theorem dX0_arrive_1 : decode cX0_arrive 1 = .ok (.iload_n 3, 1) := by decide +kernel
theorem dX0_arrive_2 : decode cX0_arrive 2 = .ok (.aload_n 0, 1) := by decide +kernel
theorem dX0_arrive_3 : decode cX0_arrive 3 = .ok (.getfield 50, 3) := by decide +kernel
theorem dX0_arrive_6 : decode cX0_arrive 6 = .ok (.invokevirtual 88, 3) := by decide +kernel
theorem dX0_arrive_9 : decode cX0_arrive 9 = .ok (.ifCond .eq 11, 3) := by decide +kernel
theorem dX0_arrive_12 : decode cX0_arrive 12 = .ok (.lload 5, 2) := by decide +kernel
theorem dX0_arrive_14 : decode cX0_arrive 14 = .ok (.invokestatic 92, 3) := by decide +kernel
theorem dX0_arrive_17 : decode cX0_arrive 17 = .ok (.goto 5, 3) := by decide +kernel
theorem dX0_arrive_20 : decode cX0_arrive 20 = .ok (.lload 5, 2) := by decide +kernel
theorem dX0_arrive_22 : decode cX0_arrive 22 = .ok (.lstore 7, 2) := by decide +kernel
theorem dX0_arrive_24 : decode cX0_arrive 24 = .ok (.aload_n 1, 1) := by decide +kernel
theorem dX0_arrive_25 : decode cX0_arrive 25 = .ok (.iload_n 2, 1) := by decide +kernel
theorem dX0_arrive_26 : decode cX0_arrive 26 = .ok (.iload_n 3, 1) := by decide +kernel
theorem dX0_arrive_27 : decode cX0_arrive 27 = .ok (.aload_n 0, 1) := by decide +kernel
theorem dX0_arrive_28 : decode cX0_arrive 28 = .ok (.getfield 50, 3) := by decide +kernel
theorem dX0_arrive_31 : decode cX0_arrive 31 = .ok (.invokevirtual 96, 3) := by decide +kernel
theorem dX0_arrive_34 : decode cX0_arrive 34 = .ok (.istore 9, 2) := by decide +kernel
theorem dX0_arrive_36 : decode cX0_arrive 36 = .ok (.lload 7, 2) := by decide +kernel
theorem dX0_arrive_38 : decode cX0_arrive 38 = .ok (.lconst 1, 1) := by decide +kernel
theorem dX0_arrive_39 : decode cX0_arrive 39 = .ok (.iload 9, 2) := by decide +kernel
theorem dX0_arrive_41 : decode cX0_arrive 41 = .ok (.lshl, 1) := by decide +kernel
theorem dX0_arrive_42 : decode cX0_arrive 42 = .ok (.lconst 1, 1) := by decide +kernel
theorem dX0_arrive_43 : decode cX0_arrive 43 = .ok (.lsub, 1) := by decide +kernel
theorem dX0_arrive_44 : decode cX0_arrive 44 = .ok (.land, 1) := by decide +kernel
theorem dX0_arrive_45 : decode cX0_arrive 45 = .ok (.lstore 10, 2) := by decide +kernel
theorem dX0_arrive_47 : decode cX0_arrive 47 = .ok (.aload_n 0, 1) := by decide +kernel
theorem dX0_arrive_48 : decode cX0_arrive 48 = .ok (.getfield 15, 3) := by decide +kernel
theorem dX0_arrive_51 : decode cX0_arrive 51 = .ok (.iload_n 3, 1) := by decide +kernel
theorem dX0_arrive_52 : decode cX0_arrive 52 = .ok (.iload 4, 2) := by decide +kernel
theorem dX0_arrive_54 : decode cX0_arrive 54 = .ok (.aload_n 1, 1) := by decide +kernel
theorem dX0_arrive_55 : decode cX0_arrive 55 = .ok (.getfield 100, 3) := by decide +kernel
theorem dX0_arrive_58 : decode cX0_arrive 58 = .ok (.iload_n 3, 1) := by decide +kernel
theorem dX0_arrive_59 : decode cX0_arrive 59 = .ok (.iaload, 1) := by decide +kernel
theorem dX0_arrive_60 : decode cX0_arrive 60 = .ok (.iadd, 1) := by decide +kernel
theorem dX0_arrive_61 : decode cX0_arrive 61 = .ok (.invokestatic 103, 3) := by decide +kernel
theorem dX0_arrive_64 : decode cX0_arrive 64 = .ok (.invokestatic 31, 3) := by decide +kernel
theorem dX0_arrive_67 : decode cX0_arrive 67 = .ok (.dup2, 1) := by decide +kernel
theorem dX0_arrive_68 : decode cX0_arrive 68 = .ok (.laload, 1) := by decide +kernel
theorem dX0_arrive_69 : decode cX0_arrive 69 = .ok (.lload 7, 2) := by decide +kernel
theorem dX0_arrive_71 : decode cX0_arrive 71 = .ok (.iload 9, 2) := by decide +kernel
theorem dX0_arrive_73 : decode cX0_arrive 73 = .ok (.lushr, 1) := by decide +kernel
theorem dX0_arrive_74 : decode cX0_arrive 74 = .ok (.lload 10, 2) := by decide +kernel
theorem dX0_arrive_76 : decode cX0_arrive 76 = .ok (.lconst 0, 1) := by decide +kernel
theorem dX0_arrive_77 : decode cX0_arrive 77 = .ok (.lcmp, 1) := by decide +kernel
theorem dX0_arrive_78 : decode cX0_arrive 78 = .ok (.ifCond .eq 7, 3) := by decide +kernel
theorem dX0_arrive_81 : decode cX0_arrive 81 = .ok (.lconst 1, 1) := by decide +kernel
theorem dX0_arrive_82 : decode cX0_arrive 82 = .ok (.goto 4, 3) := by decide +kernel
theorem dX0_arrive_85 : decode cX0_arrive 85 = .ok (.lconst 0, 1) := by decide +kernel
theorem dX0_arrive_86 : decode cX0_arrive 86 = .ok (.lor, 1) := by decide +kernel
theorem dX0_arrive_87 : decode cX0_arrive 87 = .ok (.lor, 1) := by decide +kernel
theorem dX0_arrive_88 : decode cX0_arrive 88 = .ok (.lastore, 1) := by decide +kernel
theorem dX0_arrive_89 : decode cX0_arrive 89 = .ok (.return_, 1) := by decide +kernel
theorem dX0_halved_0 : decode cX0_halved 0 = .ok (.lconst 0, 1) := by decide +kernel
theorem dX0_halved_1 : decode cX0_halved 1 = .ok (.lstore_n 2, 1) := by decide +kernel
theorem dX0_halved_2 : decode cX0_halved 2 = .ok (.iconst 0, 1) := by decide +kernel
theorem dX0_halved_3 : decode cX0_halved 3 = .ok (.istore 4, 2) := by decide +kernel
theorem dX0_halved_5 : decode cX0_halved 5 = .ok (.iload 4, 2) := by decide +kernel
theorem dX0_halved_7 : decode cX0_halved 7 = .ok (.bipush 60, 2) := by decide +kernel
theorem dX0_halved_9 : decode cX0_halved 9 = .ok (.if_icmp .gt 29, 3) := by decide +kernel
theorem dX0_halved_12 : decode cX0_halved 12 = .ok (.lload_n 0, 1) := by decide +kernel
theorem dX0_halved_13 : decode cX0_halved 13 = .ok (.iload 4, 2) := by decide +kernel
theorem dX0_halved_15 : decode cX0_halved 15 = .ok (.lushr, 1) := by decide +kernel
theorem dX0_halved_16 : decode cX0_halved 16 = .ok (.lconst 1, 1) := by decide +kernel
theorem dX0_halved_17 : decode cX0_halved 17 = .ok (.land, 1) := by decide +kernel
theorem dX0_halved_18 : decode cX0_halved 18 = .ok (.lconst 0, 1) := by decide +kernel
theorem dX0_halved_19 : decode cX0_halved 19 = .ok (.lcmp, 1) := by decide +kernel
theorem dX0_halved_20 : decode cX0_halved 20 = .ok (.ifCond .eq 12, 3) := by decide +kernel
theorem dX0_halved_23 : decode cX0_halved 23 = .ok (.lload_n 2, 1) := by decide +kernel
theorem dX0_halved_24 : decode cX0_halved 24 = .ok (.lconst 1, 1) := by decide +kernel
theorem dX0_halved_25 : decode cX0_halved 25 = .ok (.iload 4, 2) := by decide +kernel
theorem dX0_halved_27 : decode cX0_halved 27 = .ok (.iconst 2, 1) := by decide +kernel
theorem dX0_halved_28 : decode cX0_halved 28 = .ok (.idiv, 1) := by decide +kernel
theorem dX0_halved_29 : decode cX0_halved 29 = .ok (.lshl, 1) := by decide +kernel
theorem dX0_halved_30 : decode cX0_halved 30 = .ok (.lor, 1) := by decide +kernel
theorem dX0_halved_31 : decode cX0_halved 31 = .ok (.lstore_n 2, 1) := by decide +kernel
theorem dX0_halved_32 : decode cX0_halved 32 = .ok (.iinc 4 1, 3) := by decide +kernel
theorem dX0_halved_35 : decode cX0_halved 35 = .ok (.goto (-30), 3) := by decide +kernel
theorem dX0_halved_38 : decode cX0_halved 38 = .ok (.lload_n 2, 1) := by decide +kernel
theorem dX0_halved_39 : decode cX0_halved 39 = .ok (.lreturn, 1) := by decide +kernel
theorem dX0_highest_0 : decode cX0_highest 0 = .ok (.iconst 0, 1) := by decide +kernel
theorem dX0_highest_1 : decode cX0_highest 1 = .ok (.istore_n 2, 1) := by decide +kernel
theorem dX0_highest_2 : decode cX0_highest 2 = .ok (.iconst 0, 1) := by decide +kernel
theorem dX0_highest_3 : decode cX0_highest 3 = .ok (.istore_n 3, 1) := by decide +kernel
theorem dX0_highest_4 : decode cX0_highest 4 = .ok (.iload_n 3, 1) := by decide +kernel
theorem dX0_highest_5 : decode cX0_highest 5 = .ok (.bipush 60, 2) := by decide +kernel
theorem dX0_highest_7 : decode cX0_highest 7 = .ok (.if_icmp .gt 21, 3) := by decide +kernel
theorem dX0_highest_10 : decode cX0_highest 10 = .ok (.lload_n 0, 1) := by decide +kernel
theorem dX0_highest_11 : decode cX0_highest 11 = .ok (.iload_n 3, 1) := by decide +kernel
theorem dX0_highest_12 : decode cX0_highest 12 = .ok (.lushr, 1) := by decide +kernel
theorem dX0_highest_13 : decode cX0_highest 13 = .ok (.lconst 1, 1) := by decide +kernel
theorem dX0_highest_14 : decode cX0_highest 14 = .ok (.land, 1) := by decide +kernel
theorem dX0_highest_15 : decode cX0_highest 15 = .ok (.lconst 0, 1) := by decide +kernel
theorem dX0_highest_16 : decode cX0_highest 16 = .ok (.lcmp, 1) := by decide +kernel
theorem dX0_highest_17 : decode cX0_highest 17 = .ok (.ifCond .eq 5, 3) := by decide +kernel
theorem dX0_highest_20 : decode cX0_highest 20 = .ok (.iload_n 3, 1) := by decide +kernel
theorem dX0_highest_21 : decode cX0_highest 21 = .ok (.istore_n 2, 1) := by decide +kernel
theorem dX0_highest_22 : decode cX0_highest 22 = .ok (.iinc 3 1, 3) := by decide +kernel
theorem dX0_highest_25 : decode cX0_highest 25 = .ok (.goto (-21), 3) := by decide +kernel
theorem dX0_highest_28 : decode cX0_highest 28 = .ok (.iload_n 2, 1) := by decide +kernel
theorem dX0_highest_29 : decode cX0_highest 29 = .ok (.ireturn, 1) := by decide +kernel
theorem dX1_init_0 : decode cX1_init 0 = .ok (.aload_n 0, 1) := by decide +kernel
theorem dX1_init_1 : decode cX1_init 1 = .ok (.invokespecial 3, 3) := by decide +kernel
theorem dX1_init_4 : decode cX1_init 4 = .ok (.aload_n 0, 1) := by decide +kernel
theorem dX1_init_5 : decode cX1_init 5 = .ok (.bipush 61, 2) := by decide +kernel
theorem dX1_init_7 : decode cX1_init 7 = .ok (.newarray .int, 2) := by decide +kernel
theorem dX1_init_9 : decode cX1_init 9 = .ok (.putfield 9, 3) := by decide +kernel
theorem dX1_init_12 : decode cX1_init 12 = .ok (.aload_n 0, 1) := by decide +kernel
theorem dX1_init_13 : decode cX1_init 13 = .ok (.bipush 61, 2) := by decide +kernel
theorem dX1_init_15 : decode cX1_init 15 = .ok (.newarray .int, 2) := by decide +kernel
theorem dX1_init_17 : decode cX1_init 17 = .ok (.putfield 15, 3) := by decide +kernel
theorem dX1_init_20 : decode cX1_init 20 = .ok (.aload_n 0, 1) := by decide +kernel
theorem dX1_init_21 : decode cX1_init 21 = .ok (.bipush 61, 2) := by decide +kernel
theorem dX1_init_23 : decode cX1_init 23 = .ok (.newarray .int, 2) := by decide +kernel
theorem dX1_init_25 : decode cX1_init 25 = .ok (.putfield 18, 3) := by decide +kernel
theorem dX1_init_28 : decode cX1_init 28 = .ok (.return_, 1) := by decide +kernel
theorem dX1_follow_0 : decode cX1_follow 0 = .ok (.aload_n 0, 1) := by decide +kernel
theorem dX1_follow_1 : decode cX1_follow 1 = .ok (.bipush (-4), 2) := by decide +kernel
theorem dX1_follow_3 : decode cX1_follow 3 = .ok (.putfield 21, 3) := by decide +kernel
theorem dX1_follow_6 : decode cX1_follow 6 = .ok (.aload_n 0, 1) := by decide +kernel
theorem dX1_follow_7 : decode cX1_follow 7 = .ok (.iload_n 3, 1) := by decide +kernel
theorem dX1_follow_8 : decode cX1_follow 8 = .ok (.putfield 25, 3) := by decide +kernel
theorem dX1_follow_11 : decode cX1_follow 11 = .ok (.aload_n 0, 1) := by decide +kernel
theorem dX1_follow_12 : decode cX1_follow 12 = .ok (.iload 4, 2) := by decide +kernel
theorem dX1_follow_14 : decode cX1_follow 14 = .ok (.putfield 28, 3) := by decide +kernel
theorem dX1_follow_17 : decode cX1_follow 17 = .ok (.aload_n 0, 1) := by decide +kernel
theorem dX1_follow_18 : decode cX1_follow 18 = .ok (.aload_n 1, 1) := by decide +kernel
theorem dX1_follow_19 : decode cX1_follow 19 = .ok (.getfield 31, 3) := by decide +kernel
theorem dX1_follow_22 : decode cX1_follow 22 = .ok (.getfield 37, 3) := by decide +kernel
theorem dX1_follow_25 : decode cX1_follow 25 = .ok (.iload_n 2, 1) := by decide +kernel
theorem dX1_follow_26 : decode cX1_follow 26 = .ok (.iaload, 1) := by decide +kernel
theorem dX1_follow_27 : decode cX1_follow 27 = .ok (.putfield 40, 3) := by decide +kernel
theorem dX1_follow_30 : decode cX1_follow 30 = .ok (.aload_n 0, 1) := by decide +kernel
theorem dX1_follow_31 : decode cX1_follow 31 = .ok (.iconst 0, 1) := by decide +kernel
theorem dX1_follow_32 : decode cX1_follow 32 = .ok (.invokevirtual 43, 3) := by decide +kernel
theorem dX1_follow_35 : decode cX1_follow 35 = .ok (.iconst 1, 1) := by decide +kernel
theorem dX1_follow_36 : decode cX1_follow 36 = .ok (.istore 5, 2) := by decide +kernel
theorem dX1_follow_38 : decode cX1_follow 38 = .ok (.iload 5, 2) := by decide +kernel
theorem dX1_follow_40 : decode cX1_follow 40 = .ok (.bipush 60, 2) := by decide +kernel
theorem dX1_follow_42 : decode cX1_follow 42 = .ok (.if_icmp .gt 55, 3) := by decide +kernel
theorem dX1_follow_45 : decode cX1_follow 45 = .ok (.aload_n 0, 1) := by decide +kernel
theorem dX1_follow_46 : decode cX1_follow 46 = .ok (.getfield 25, 3) := by decide +kernel
theorem dX1_follow_49 : decode cX1_follow 49 = .ok (.bipush 9, 2) := by decide +kernel
theorem dX1_follow_51 : decode cX1_follow 51 = .ok (.if_icmp .eq 17, 3) := by decide +kernel
theorem dX1_follow_54 : decode cX1_follow 54 = .ok (.aload_n 0, 1) := by decide +kernel
theorem dX1_follow_55 : decode cX1_follow 55 = .ok (.aload_n 1, 1) := by decide +kernel
theorem dX1_follow_56 : decode cX1_follow 56 = .ok (.iload_n 2, 1) := by decide +kernel
theorem dX1_follow_57 : decode cX1_follow 57 = .ok (.iload 5, 2) := by decide +kernel
theorem dX1_follow_59 : decode cX1_follow 59 = .ok (.invokevirtual 47, 3) := by decide +kernel
theorem dX1_follow_62 : decode cX1_follow 62 = .ok (.aload_n 0, 1) := by decide +kernel
theorem dX1_follow_63 : decode cX1_follow 63 = .ok (.iload 5, 2) := by decide +kernel
theorem dX1_follow_65 : decode cX1_follow 65 = .ok (.invokevirtual 51, 3) := by decide +kernel
theorem dX1_follow_68 : decode cX1_follow 68 = .ok (.aload_n 0, 1) := by decide +kernel
theorem dX1_follow_69 : decode cX1_follow 69 = .ok (.getfield 25, 3) := by decide +kernel
theorem dX1_follow_72 : decode cX1_follow 72 = .ok (.bipush 9, 2) := by decide +kernel
theorem dX1_follow_74 : decode cX1_follow 74 = .ok (.if_icmp .eq 11, 3) := by decide +kernel
theorem dX1_follow_77 : decode cX1_follow 77 = .ok (.aload_n 0, 1) := by decide +kernel
theorem dX1_follow_78 : decode cX1_follow 78 = .ok (.aload_n 1, 1) := by decide +kernel
theorem dX1_follow_79 : decode cX1_follow 79 = .ok (.iload_n 2, 1) := by decide +kernel
theorem dX1_follow_80 : decode cX1_follow 80 = .ok (.iload 5, 2) := by decide +kernel
theorem dX1_follow_82 : decode cX1_follow 82 = .ok (.invokevirtual 54, 3) := by decide +kernel
theorem dX1_follow_85 : decode cX1_follow 85 = .ok (.aload_n 0, 1) := by decide +kernel
theorem dX1_follow_86 : decode cX1_follow 86 = .ok (.iload 5, 2) := by decide +kernel
theorem dX1_follow_88 : decode cX1_follow 88 = .ok (.invokevirtual 43, 3) := by decide +kernel
theorem dX1_follow_91 : decode cX1_follow 91 = .ok (.iinc 5 1, 3) := by decide +kernel
theorem dX1_follow_94 : decode cX1_follow 94 = .ok (.goto (-56), 3) := by decide +kernel
theorem dX1_follow_97 : decode cX1_follow 97 = .ok (.return_, 1) := by decide +kernel
theorem dX1_note_0 : decode cX1_note 0 = .ok (.aload_n 0, 1) := by decide +kernel
theorem dX1_note_1 : decode cX1_note 1 = .ok (.getfield 9, 3) := by decide +kernel
theorem dX1_note_4 : decode cX1_note 4 = .ok (.iload_n 1, 1) := by decide +kernel
theorem dX1_note_5 : decode cX1_note 5 = .ok (.aload_n 0, 1) := by decide +kernel
theorem dX1_note_6 : decode cX1_note 6 = .ok (.getfield 25, 3) := by decide +kernel
theorem dX1_note_9 : decode cX1_note 9 = .ok (.iastore, 1) := by decide +kernel
theorem dX1_note_10 : decode cX1_note 10 = .ok (.aload_n 0, 1) := by decide +kernel
theorem dX1_note_11 : decode cX1_note 11 = .ok (.getfield 15, 3) := by decide +kernel
theorem dX1_note_14 : decode cX1_note 14 = .ok (.iload_n 1, 1) := by decide +kernel
theorem dX1_note_15 : decode cX1_note 15 = .ok (.aload_n 0, 1) := by decide +kernel
theorem dX1_note_16 : decode cX1_note 16 = .ok (.getfield 28, 3) := by decide +kernel
theorem dX1_note_19 : decode cX1_note 19 = .ok (.iastore, 1) := by decide +kernel
theorem dX1_note_20 : decode cX1_note 20 = .ok (.aload_n 0, 1) := by decide +kernel
theorem dX1_note_21 : decode cX1_note 21 = .ok (.getfield 18, 3) := by decide +kernel
theorem dX1_note_24 : decode cX1_note 24 = .ok (.iload_n 1, 1) := by decide +kernel
theorem dX1_note_25 : decode cX1_note 25 = .ok (.aload_n 0, 1) := by decide +kernel
theorem dX1_note_26 : decode cX1_note 26 = .ok (.getfield 40, 3) := by decide +kernel
theorem dX1_note_29 : decode cX1_note 29 = .ok (.iastore, 1) := by decide +kernel
theorem dX1_note_30 : decode cX1_note 30 = .ok (.return_, 1) := by decide +kernel
theorem dX1_runErrands_0 : decode cX1_runErrands 0 = .ok (.aload_n 1, 1) := by decide +kernel
theorem dX1_runErrands_1 : decode cX1_runErrands 1 = .ok (.getfield 31, 3) := by decide +kernel
theorem dX1_runErrands_4 : decode cX1_runErrands 4 = .ok (.astore 4, 2) := by decide +kernel
theorem dX1_runErrands_6 : decode cX1_runErrands 6 = .ok (.iconst 0, 1) := by decide +kernel
theorem dX1_runErrands_7 : decode cX1_runErrands 7 = .ok (.istore 5, 2) := by decide +kernel
theorem dX1_runErrands_9 : decode cX1_runErrands 9 = .ok (.iload 5, 2) := by decide +kernel
theorem dX1_runErrands_11 : decode cX1_runErrands 11 = .ok (.aload 4, 2) := by decide +kernel
theorem dX1_runErrands_13 : decode cX1_runErrands 13 = .ok (.getfield 57, 3) := by decide +kernel
theorem dX1_runErrands_16 : decode cX1_runErrands 16 = .ok (.if_icmp .ge 115, 3) := by decide +kernel
theorem dX1_runErrands_19 : decode cX1_runErrands 19 = .ok (.aload 4, 2) := by decide +kernel
theorem dX1_runErrands_21 : decode cX1_runErrands 21 = .ok (.getfield 60, 3) := by decide +kernel
theorem dX1_runErrands_24 : decode cX1_runErrands 24 = .ok (.iload 5, 2) := by decide +kernel
theorem dX1_runErrands_26 : decode cX1_runErrands 26 = .ok (.iaload, 1) := by decide +kernel
theorem dX1_runErrands_27 : decode cX1_runErrands 27 = .ok (.iload_n 2, 1) := by decide +kernel
theorem dX1_runErrands_28 : decode cX1_runErrands 28 = .ok (.if_icmp .ne 97, 3) := by decide +kernel
theorem dX1_runErrands_31 : decode cX1_runErrands 31 = .ok (.aload 4, 2) := by decide +kernel
theorem dX1_runErrands_33 : decode cX1_runErrands 33 = .ok (.getfield 63, 3) := by decide +kernel
theorem dX1_runErrands_36 : decode cX1_runErrands 36 = .ok (.iload 5, 2) := by decide +kernel
theorem dX1_runErrands_38 : decode cX1_runErrands 38 = .ok (.iaload, 1) := by decide +kernel
theorem dX1_runErrands_39 : decode cX1_runErrands 39 = .ok (.iload_n 3, 1) := by decide +kernel
theorem dX1_runErrands_40 : decode cX1_runErrands 40 = .ok (.if_icmp .eq 6, 3) := by decide +kernel
theorem dX1_runErrands_43 : decode cX1_runErrands 43 = .ok (.goto 82, 3) := by decide +kernel
theorem dX1_runErrands_46 : decode cX1_runErrands 46 = .ok (.aload 4, 2) := by decide +kernel
theorem dX1_runErrands_48 : decode cX1_runErrands 48 = .ok (.getfield 66, 3) := by decide +kernel
theorem dX1_runErrands_51 : decode cX1_runErrands 51 = .ok (.iload 5, 2) := by decide +kernel
theorem dX1_runErrands_53 : decode cX1_runErrands 53 = .ok (.baload, 1) := by decide +kernel
theorem dX1_runErrands_54 : decode cX1_runErrands 54 = .ok (.ifCond .ne 20, 3) := by decide +kernel
theorem dX1_runErrands_57 : decode cX1_runErrands 57 = .ok (.aload_n 0, 1) := by decide +kernel
theorem dX1_runErrands_58 : decode cX1_runErrands 58 = .ok (.aload_n 0, 1) := by decide +kernel
theorem dX1_runErrands_59 : decode cX1_runErrands 59 = .ok (.getfield 25, 3) := by decide +kernel
theorem dX1_runErrands_62 : decode cX1_runErrands 62 = .ok (.iconst 1, 1) := by decide +kernel
theorem dX1_runErrands_63 : decode cX1_runErrands 63 = .ok (.isub, 1) := by decide +kernel
theorem dX1_runErrands_64 : decode cX1_runErrands 64 = .ok (.iconst 0, 1) := by decide +kernel
theorem dX1_runErrands_65 : decode cX1_runErrands 65 = .ok (.invokestatic 70, 3) := by decide +kernel
theorem dX1_runErrands_68 : decode cX1_runErrands 68 = .ok (.putfield 25, 3) := by decide +kernel
theorem dX1_runErrands_71 : decode cX1_runErrands 71 = .ok (.goto 54, 3) := by decide +kernel
theorem dX1_runErrands_74 : decode cX1_runErrands 74 = .ok (.aload_n 0, 1) := by decide +kernel
theorem dX1_runErrands_75 : decode cX1_runErrands 75 = .ok (.getfield 25, 3) := by decide +kernel
theorem dX1_runErrands_78 : decode cX1_runErrands 78 = .ok (.iconst 1, 1) := by decide +kernel
theorem dX1_runErrands_79 : decode cX1_runErrands 79 = .ok (.iadd, 1) := by decide +kernel
theorem dX1_runErrands_80 : decode cX1_runErrands 80 = .ok (.aload_n 1, 1) := by decide +kernel
theorem dX1_runErrands_81 : decode cX1_runErrands 81 = .ok (.getfield 76, 3) := by decide +kernel
theorem dX1_runErrands_84 : decode cX1_runErrands 84 = .ok (.if_icmp .ge 41, 3) := by decide +kernel
theorem dX1_runErrands_87 : decode cX1_runErrands 87 = .ok (.aload_n 0, 1) := by decide +kernel
theorem dX1_runErrands_88 : decode cX1_runErrands 88 = .ok (.getfield 40, 3) := by decide +kernel
theorem dX1_runErrands_91 : decode cX1_runErrands 91 = .ok (.aload_n 1, 1) := by decide +kernel
theorem dX1_runErrands_92 : decode cX1_runErrands 92 = .ok (.getfield 79, 3) := by decide +kernel
theorem dX1_runErrands_95 : decode cX1_runErrands 95 = .ok (.iload_n 2, 1) := by decide +kernel
theorem dX1_runErrands_96 : decode cX1_runErrands 96 = .ok (.iaload, 1) := by decide +kernel
theorem dX1_runErrands_97 : decode cX1_runErrands 97 = .ok (.if_icmp .lt 28, 3) := by decide +kernel
theorem dX1_runErrands_100 : decode cX1_runErrands 100 = .ok (.aload_n 0, 1) := by decide +kernel
theorem dX1_runErrands_101 : decode cX1_runErrands 101 = .ok (.dup, 1) := by decide +kernel
theorem dX1_runErrands_102 : decode cX1_runErrands 102 = .ok (.getfield 25, 3) := by decide +kernel
theorem dX1_runErrands_105 : decode cX1_runErrands 105 = .ok (.iconst 1, 1) := by decide +kernel
theorem dX1_runErrands_106 : decode cX1_runErrands 106 = .ok (.iadd, 1) := by decide +kernel
theorem dX1_runErrands_107 : decode cX1_runErrands 107 = .ok (.putfield 25, 3) := by decide +kernel
theorem dX1_runErrands_110 : decode cX1_runErrands 110 = .ok (.aload_n 0, 1) := by decide +kernel
theorem dX1_runErrands_111 : decode cX1_runErrands 111 = .ok (.dup, 1) := by decide +kernel
theorem dX1_runErrands_112 : decode cX1_runErrands 112 = .ok (.getfield 40, 3) := by decide +kernel
theorem dX1_runErrands_115 : decode cX1_runErrands 115 = .ok (.aload_n 1, 1) := by decide +kernel
theorem dX1_runErrands_116 : decode cX1_runErrands 116 = .ok (.getfield 79, 3) := by decide +kernel
theorem dX1_runErrands_119 : decode cX1_runErrands 119 = .ok (.iload_n 2, 1) := by decide +kernel
theorem dX1_runErrands_120 : decode cX1_runErrands 120 = .ok (.iaload, 1) := by decide +kernel
theorem dX1_runErrands_121 : decode cX1_runErrands 121 = .ok (.isub, 1) := by decide +kernel
theorem dX1_runErrands_122 : decode cX1_runErrands 122 = .ok (.putfield 40, 3) := by decide +kernel
theorem dX1_runErrands_125 : decode cX1_runErrands 125 = .ok (.iinc 5 1, 3) := by decide +kernel
theorem dX1_runErrands_128 : decode cX1_runErrands 128 = .ok (.goto (-119), 3) := by decide +kernel
theorem dX1_runErrands_131 : decode cX1_runErrands 131 = .ok (.return_, 1) := by decide +kernel
theorem dX1_sinkWithoutGas_0 : decode cX1_sinkWithoutGas 0 = .ok (.aload_n 0, 1) := by decide +kernel
theorem dX1_sinkWithoutGas_1 : decode cX1_sinkWithoutGas 1 = .ok (.getfield 40, 3) := by decide +kernel
theorem dX1_sinkWithoutGas_4 : decode cX1_sinkWithoutGas 4 = .ok (.ifCond .le 4, 3) := by decide +kernel
theorem dX1_sinkWithoutGas_7 : decode cX1_sinkWithoutGas 7 = .ok (.return_, 1) := by decide +kernel
theorem dX1_sinkWithoutGas_8 : decode cX1_sinkWithoutGas 8 = .ok (.aload_n 0, 1) := by decide +kernel
theorem dX1_sinkWithoutGas_9 : decode cX1_sinkWithoutGas 9 = .ok (.getfield 25, 3) := by decide +kernel
theorem dX1_sinkWithoutGas_12 : decode cX1_sinkWithoutGas 12 = .ok (.ifCond .le 16, 3) := by decide +kernel
theorem dX1_sinkWithoutGas_15 : decode cX1_sinkWithoutGas 15 = .ok (.aload_n 0, 1) := by decide +kernel
theorem dX1_sinkWithoutGas_16 : decode cX1_sinkWithoutGas 16 = .ok (.dup, 1) := by decide +kernel
theorem dX1_sinkWithoutGas_17 : decode cX1_sinkWithoutGas 17 = .ok (.getfield 25, 3) := by decide +kernel
theorem dX1_sinkWithoutGas_20 : decode cX1_sinkWithoutGas 20 = .ok (.iconst 1, 1) := by decide +kernel
theorem dX1_sinkWithoutGas_21 : decode cX1_sinkWithoutGas 21 = .ok (.isub, 1) := by decide +kernel
theorem dX1_sinkWithoutGas_22 : decode cX1_sinkWithoutGas 22 = .ok (.putfield 25, 3) := by decide +kernel
theorem dX1_sinkWithoutGas_25 : decode cX1_sinkWithoutGas 25 = .ok (.goto 14, 3) := by decide +kernel
theorem dX1_sinkWithoutGas_28 : decode cX1_sinkWithoutGas 28 = .ok (.aload_n 0, 1) := by decide +kernel
theorem dX1_sinkWithoutGas_29 : decode cX1_sinkWithoutGas 29 = .ok (.bipush 9, 2) := by decide +kernel
theorem dX1_sinkWithoutGas_31 : decode cX1_sinkWithoutGas 31 = .ok (.putfield 25, 3) := by decide +kernel
theorem dX1_sinkWithoutGas_34 : decode cX1_sinkWithoutGas 34 = .ok (.aload_n 0, 1) := by decide +kernel
theorem dX1_sinkWithoutGas_35 : decode cX1_sinkWithoutGas 35 = .ok (.iload_n 1, 1) := by decide +kernel
theorem dX1_sinkWithoutGas_36 : decode cX1_sinkWithoutGas 36 = .ok (.putfield 21, 3) := by decide +kernel
theorem dX1_sinkWithoutGas_39 : decode cX1_sinkWithoutGas 39 = .ok (.return_, 1) := by decide +kernel
theorem dX1_goOn_0 : decode cX1_goOn 0 = .ok (.aload_n 0, 1) := by decide +kernel
theorem dX1_goOn_1 : decode cX1_goOn 1 = .ok (.aload_n 0, 1) := by decide +kernel
theorem dX1_goOn_2 : decode cX1_goOn 2 = .ok (.getfield 28, 3) := by decide +kernel
theorem dX1_goOn_5 : decode cX1_goOn 5 = .ok (.aload_n 1, 1) := by decide +kernel
theorem dX1_goOn_6 : decode cX1_goOn 6 = .ok (.getfield 82, 3) := by decide +kernel
theorem dX1_goOn_9 : decode cX1_goOn 9 = .ok (.aload_n 0, 1) := by decide +kernel
theorem dX1_goOn_10 : decode cX1_goOn 10 = .ok (.getfield 25, 3) := by decide +kernel
theorem dX1_goOn_13 : decode cX1_goOn 13 = .ok (.iaload, 1) := by decide +kernel
theorem dX1_goOn_14 : decode cX1_goOn 14 = .ok (.iadd, 1) := by decide +kernel
theorem dX1_goOn_15 : decode cX1_goOn 15 = .ok (.invokestatic 85, 3) := by decide +kernel
theorem dX1_goOn_18 : decode cX1_goOn 18 = .ok (.putfield 28, 3) := by decide +kernel
theorem dX1_goOn_21 : decode cX1_goOn 21 = .ok (.aload_n 1, 1) := by decide +kernel
theorem dX1_goOn_22 : decode cX1_goOn 22 = .ok (.aload_n 0, 1) := by decide +kernel
theorem dX1_goOn_23 : decode cX1_goOn 23 = .ok (.getfield 25, 3) := by decide +kernel
theorem dX1_goOn_26 : decode cX1_goOn 26 = .ok (.iload_n 3, 1) := by decide +kernel
theorem dX1_goOn_27 : decode cX1_goOn 27 = .ok (.invokevirtual 89, 3) := by decide +kernel
theorem dX1_goOn_30 : decode cX1_goOn 30 = .ok (.ifCond .eq 13, 3) := by decide +kernel
theorem dX1_goOn_33 : decode cX1_goOn 33 = .ok (.aload_n 0, 1) := by decide +kernel
theorem dX1_goOn_34 : decode cX1_goOn 34 = .ok (.aload_n 0, 1) := by decide +kernel
theorem dX1_goOn_35 : decode cX1_goOn 35 = .ok (.getfield 40, 3) := by decide +kernel
theorem dX1_goOn_38 : decode cX1_goOn 38 = .ok (.iconst 2, 1) := by decide +kernel
theorem dX1_goOn_39 : decode cX1_goOn 39 = .ok (.idiv, 1) := by decide +kernel
theorem dX1_goOn_40 : decode cX1_goOn 40 = .ok (.putfield 40, 3) := by decide +kernel
theorem dX1_goOn_43 : decode cX1_goOn 43 = .ok (.aload_n 0, 1) := by decide +kernel
theorem dX1_goOn_44 : decode cX1_goOn 44 = .ok (.aload_n 0, 1) := by decide +kernel
theorem dX1_goOn_45 : decode cX1_goOn 45 = .ok (.getfield 40, 3) := by decide +kernel
theorem dX1_goOn_48 : decode cX1_goOn 48 = .ok (.aload_n 1, 1) := by decide +kernel
theorem dX1_goOn_49 : decode cX1_goOn 49 = .ok (.iload_n 2, 1) := by decide +kernel
theorem dX1_goOn_50 : decode cX1_goOn 50 = .ok (.aload_n 0, 1) := by decide +kernel
theorem dX1_goOn_51 : decode cX1_goOn 51 = .ok (.getfield 25, 3) := by decide +kernel
theorem dX1_goOn_54 : decode cX1_goOn 54 = .ok (.iload_n 3, 1) := by decide +kernel
theorem dX1_goOn_55 : decode cX1_goOn 55 = .ok (.invokevirtual 93, 3) := by decide +kernel
theorem dX1_goOn_58 : decode cX1_goOn 58 = .ok (.isub, 1) := by decide +kernel
theorem dX1_goOn_59 : decode cX1_goOn 59 = .ok (.iconst 0, 1) := by decide +kernel
theorem dX1_goOn_60 : decode cX1_goOn 60 = .ok (.invokestatic 70, 3) := by decide +kernel
theorem dX1_goOn_63 : decode cX1_goOn 63 = .ok (.putfield 40, 3) := by decide +kernel
theorem dX1_goOn_66 : decode cX1_goOn 66 = .ok (.return_, 1) := by decide +kernel
theorem dX1_floats_0 : decode cX1_floats 0 = .ok (.aload_n 0, 1) := by decide +kernel
theorem dX1_floats_1 : decode cX1_floats 1 = .ok (.getfield 9, 3) := by decide +kernel
theorem dX1_floats_4 : decode cX1_floats 4 = .ok (.iload_n 1, 1) := by decide +kernel
theorem dX1_floats_5 : decode cX1_floats 5 = .ok (.iaload, 1) := by decide +kernel
theorem dX1_floats_6 : decode cX1_floats 6 = .ok (.bipush 9, 2) := by decide +kernel
theorem dX1_floats_8 : decode cX1_floats 8 = .ok (.if_icmp .eq 7, 3) := by decide +kernel
theorem dX1_floats_11 : decode cX1_floats 11 = .ok (.iconst 1, 1) := by decide +kernel
theorem dX1_floats_12 : decode cX1_floats 12 = .ok (.goto 4, 3) := by decide +kernel
theorem dX1_floats_15 : decode cX1_floats 15 = .ok (.iconst 0, 1) := by decide +kernel
theorem dX1_floats_16 : decode cX1_floats 16 = .ok (.ireturn, 1) := by decide +kernel
theorem dX1_meets_0 : decode cX1_meets 0 = .ok (.aload_n 0, 1) := by decide +kernel
theorem dX1_meets_1 : decode cX1_meets 1 = .ok (.iload_n 2, 1) := by decide +kernel
theorem dX1_meets_2 : decode cX1_meets 2 = .ok (.invokevirtual 97, 3) := by decide +kernel
theorem dX1_meets_5 : decode cX1_meets 5 = .ok (.ifCond .eq 37, 3) := by decide +kernel
theorem dX1_meets_8 : decode cX1_meets 8 = .ok (.aload_n 0, 1) := by decide +kernel
theorem dX1_meets_9 : decode cX1_meets 9 = .ok (.getfield 9, 3) := by decide +kernel
theorem dX1_meets_12 : decode cX1_meets 12 = .ok (.iload_n 2, 1) := by decide +kernel
theorem dX1_meets_13 : decode cX1_meets 13 = .ok (.iaload, 1) := by decide +kernel
theorem dX1_meets_14 : decode cX1_meets 14 = .ok (.aload_n 1, 1) := by decide +kernel
theorem dX1_meets_15 : decode cX1_meets 15 = .ok (.getfield 9, 3) := by decide +kernel
theorem dX1_meets_18 : decode cX1_meets 18 = .ok (.iload_n 2, 1) := by decide +kernel
theorem dX1_meets_19 : decode cX1_meets 19 = .ok (.iaload, 1) := by decide +kernel
theorem dX1_meets_20 : decode cX1_meets 20 = .ok (.if_icmp .ne 22, 3) := by decide +kernel
theorem dX1_meets_23 : decode cX1_meets 23 = .ok (.aload_n 0, 1) := by decide +kernel
theorem dX1_meets_24 : decode cX1_meets 24 = .ok (.getfield 15, 3) := by decide +kernel
theorem dX1_meets_27 : decode cX1_meets 27 = .ok (.iload_n 2, 1) := by decide +kernel
theorem dX1_meets_28 : decode cX1_meets 28 = .ok (.iaload, 1) := by decide +kernel
theorem dX1_meets_29 : decode cX1_meets 29 = .ok (.aload_n 1, 1) := by decide +kernel
theorem dX1_meets_30 : decode cX1_meets 30 = .ok (.getfield 15, 3) := by decide +kernel
theorem dX1_meets_33 : decode cX1_meets 33 = .ok (.iload_n 2, 1) := by decide +kernel
theorem dX1_meets_34 : decode cX1_meets 34 = .ok (.iaload, 1) := by decide +kernel
theorem dX1_meets_35 : decode cX1_meets 35 = .ok (.if_icmp .ne 7, 3) := by decide +kernel
theorem dX1_meets_38 : decode cX1_meets 38 = .ok (.iconst 1, 1) := by decide +kernel
theorem dX1_meets_39 : decode cX1_meets 39 = .ok (.goto 4, 3) := by decide +kernel
theorem dX1_meets_42 : decode cX1_meets 42 = .ok (.iconst 0, 1) := by decide +kernel
theorem dX1_meets_43 : decode cX1_meets 43 = .ok (.ireturn, 1) := by decide +kernel
theorem dX2_init_0 : decode cX2_init 0 = .ok (.aload_n 0, 1) := by decide +kernel
theorem dX2_init_1 : decode cX2_init 1 = .ok (.invokespecial 3, 3) := by decide +kernel
theorem dX2_init_4 : decode cX2_init 4 = .ok (.aload_n 0, 1) := by decide +kernel
theorem dX2_init_5 : decode cX2_init 5 = .ok (.bipush 6, 2) := by decide +kernel
theorem dX2_init_7 : decode cX2_init 7 = .ok (.anewarray 9, 3) := by decide +kernel
theorem dX2_init_10 : decode cX2_init 10 = .ok (.putfield 11, 3) := by decide +kernel
theorem dX2_init_13 : decode cX2_init 13 = .ok (.iconst 0, 1) := by decide +kernel
theorem dX2_init_14 : decode cX2_init 14 = .ok (.istore_n 1, 1) := by decide +kernel
theorem dX2_init_15 : decode cX2_init 15 = .ok (.iload_n 1, 1) := by decide +kernel
theorem dX2_init_16 : decode cX2_init 16 = .ok (.bipush 6, 2) := by decide +kernel
theorem dX2_init_18 : decode cX2_init 18 = .ok (.if_icmp .ge 22, 3) := by decide +kernel
theorem dX2_init_21 : decode cX2_init 21 = .ok (.aload_n 0, 1) := by decide +kernel
theorem dX2_init_22 : decode cX2_init 22 = .ok (.getfield 11, 3) := by decide +kernel
theorem dX2_init_25 : decode cX2_init 25 = .ok (.iload_n 1, 1) := by decide +kernel
theorem dX2_init_26 : decode cX2_init 26 = .ok (.new 9, 3) := by decide +kernel
theorem dX2_init_29 : decode cX2_init 29 = .ok (.dup, 1) := by decide +kernel
theorem dX2_init_30 : decode cX2_init 30 = .ok (.invokespecial 17, 3) := by decide +kernel
theorem dX2_init_33 : decode cX2_init 33 = .ok (.aastore, 1) := by decide +kernel
theorem dX2_init_34 : decode cX2_init 34 = .ok (.iinc 1 1, 3) := by decide +kernel
theorem dX2_init_37 : decode cX2_init 37 = .ok (.goto (-22), 3) := by decide +kernel
theorem dX2_init_40 : decode cX2_init 40 = .ok (.return_, 1) := by decide +kernel
theorem dX2_followAsTold_0 : decode cX2_followAsTold 0 = .ok (.aload_n 0, 1) := by decide +kernel
theorem dX2_followAsTold_1 : decode cX2_followAsTold 1 = .ok (.aload_n 1, 1) := by decide +kernel
theorem dX2_followAsTold_2 : decode cX2_followAsTold 2 = .ok (.getfield 18, 3) := by decide +kernel
theorem dX2_followAsTold_5 : decode cX2_followAsTold 5 = .ok (.putfield 24, 3) := by decide +kernel
theorem dX2_followAsTold_8 : decode cX2_followAsTold 8 = .ok (.iconst 0, 1) := by decide +kernel
theorem dX2_followAsTold_9 : decode cX2_followAsTold 9 = .ok (.istore_n 2, 1) := by decide +kernel
theorem dX2_followAsTold_10 : decode cX2_followAsTold 10 = .ok (.iload_n 2, 1) := by decide +kernel
theorem dX2_followAsTold_11 : decode cX2_followAsTold 11 = .ok (.aload_n 0, 1) := by decide +kernel
theorem dX2_followAsTold_12 : decode cX2_followAsTold 12 = .ok (.getfield 24, 3) := by decide +kernel
theorem dX2_followAsTold_15 : decode cX2_followAsTold 15 = .ok (.if_icmp .ge 32, 3) := by decide +kernel
theorem dX2_followAsTold_18 : decode cX2_followAsTold 18 = .ok (.aload_n 0, 1) := by decide +kernel
theorem dX2_followAsTold_19 : decode cX2_followAsTold 19 = .ok (.getfield 11, 3) := by decide +kernel
theorem dX2_followAsTold_22 : decode cX2_followAsTold 22 = .ok (.iload_n 2, 1) := by decide +kernel
theorem dX2_followAsTold_23 : decode cX2_followAsTold 23 = .ok (.aaload, 1) := by decide +kernel
theorem dX2_followAsTold_24 : decode cX2_followAsTold 24 = .ok (.aload_n 1, 1) := by decide +kernel
theorem dX2_followAsTold_25 : decode cX2_followAsTold 25 = .ok (.iload_n 2, 1) := by decide +kernel
theorem dX2_followAsTold_26 : decode cX2_followAsTold 26 = .ok (.aload_n 1, 1) := by decide +kernel
theorem dX2_followAsTold_27 : decode cX2_followAsTold 27 = .ok (.getfield 27, 3) := by decide +kernel
theorem dX2_followAsTold_30 : decode cX2_followAsTold 30 = .ok (.iload_n 2, 1) := by decide +kernel
theorem dX2_followAsTold_31 : decode cX2_followAsTold 31 = .ok (.iaload, 1) := by decide +kernel
theorem dX2_followAsTold_32 : decode cX2_followAsTold 32 = .ok (.aload_n 1, 1) := by decide +kernel
theorem dX2_followAsTold_33 : decode cX2_followAsTold 33 = .ok (.getfield 31, 3) := by decide +kernel
theorem dX2_followAsTold_36 : decode cX2_followAsTold 36 = .ok (.iload_n 2, 1) := by decide +kernel
theorem dX2_followAsTold_37 : decode cX2_followAsTold 37 = .ok (.iaload, 1) := by decide +kernel
theorem dX2_followAsTold_38 : decode cX2_followAsTold 38 = .ok (.invokevirtual 34, 3) := by decide +kernel
theorem dX2_followAsTold_41 : decode cX2_followAsTold 41 = .ok (.iinc 2 1, 3) := by decide +kernel
theorem dX2_followAsTold_44 : decode cX2_followAsTold 44 = .ok (.goto (-34), 3) := by decide +kernel
theorem dX2_followAsTold_47 : decode cX2_followAsTold 47 = .ok (.return_, 1) := by decide +kernel
theorem dX2_followYear_0 : decode cX2_followYear 0 = .ok (.aload_n 0, 1) := by decide +kernel
theorem dX2_followYear_1 : decode cX2_followYear 1 = .ok (.aload_n 1, 1) := by decide +kernel
theorem dX2_followYear_2 : decode cX2_followYear 2 = .ok (.getfield 18, 3) := by decide +kernel
theorem dX2_followYear_5 : decode cX2_followYear 5 = .ok (.putfield 24, 3) := by decide +kernel
theorem dX2_followYear_8 : decode cX2_followYear 8 = .ok (.iconst 0, 1) := by decide +kernel
theorem dX2_followYear_9 : decode cX2_followYear 9 = .ok (.istore_n 3, 1) := by decide +kernel
theorem dX2_followYear_10 : decode cX2_followYear 10 = .ok (.iload_n 3, 1) := by decide +kernel
theorem dX2_followYear_11 : decode cX2_followYear 11 = .ok (.aload_n 0, 1) := by decide +kernel
theorem dX2_followYear_12 : decode cX2_followYear 12 = .ok (.getfield 24, 3) := by decide +kernel
theorem dX2_followYear_15 : decode cX2_followYear 15 = .ok (.if_icmp .ge 57, 3) := by decide +kernel
theorem dX2_followYear_18 : decode cX2_followYear 18 = .ok (.ldc2_w 38, 3) := by decide +kernel
theorem dX2_followYear_21 : decode cX2_followYear 21 = .ok (.iload_n 2, 1) := by decide +kernel
theorem dX2_followYear_22 : decode cX2_followYear 22 = .ok (.i2l, 1) := by decide +kernel
theorem dX2_followYear_23 : decode cX2_followYear 23 = .ok (.lmul, 1) := by decide +kernel
theorem dX2_followYear_24 : decode cX2_followYear 24 = .ok (.ldc2_w 40, 3) := by decide +kernel
theorem dX2_followYear_27 : decode cX2_followYear 27 = .ok (.iload_n 3, 1) := by decide +kernel
theorem dX2_followYear_28 : decode cX2_followYear 28 = .ok (.i2l, 1) := by decide +kernel
theorem dX2_followYear_29 : decode cX2_followYear 29 = .ok (.lmul, 1) := by decide +kernel
theorem dX2_followYear_30 : decode cX2_followYear 30 = .ok (.ladd, 1) := by decide +kernel
theorem dX2_followYear_31 : decode cX2_followYear 31 = .ok (.lconst 1, 1) := by decide +kernel
theorem dX2_followYear_32 : decode cX2_followYear 32 = .ok (.ladd, 1) := by decide +kernel
theorem dX2_followYear_33 : decode cX2_followYear 33 = .ok (.lstore 4, 2) := by decide +kernel
theorem dX2_followYear_35 : decode cX2_followYear 35 = .ok (.aload_n 0, 1) := by decide +kernel
theorem dX2_followYear_36 : decode cX2_followYear 36 = .ok (.getfield 11, 3) := by decide +kernel
theorem dX2_followYear_39 : decode cX2_followYear 39 = .ok (.iload_n 3, 1) := by decide +kernel
theorem dX2_followYear_40 : decode cX2_followYear 40 = .ok (.aaload, 1) := by decide +kernel
theorem dX2_followYear_41 : decode cX2_followYear 41 = .ok (.aload_n 1, 1) := by decide +kernel
theorem dX2_followYear_42 : decode cX2_followYear 42 = .ok (.iload_n 3, 1) := by decide +kernel
theorem dX2_followYear_43 : decode cX2_followYear 43 = .ok (.aload_n 1, 1) := by decide +kernel
theorem dX2_followYear_44 : decode cX2_followYear 44 = .ok (.getfield 27, 3) := by decide +kernel
theorem dX2_followYear_47 : decode cX2_followYear 47 = .ok (.iload_n 3, 1) := by decide +kernel
theorem dX2_followYear_48 : decode cX2_followYear 48 = .ok (.iaload, 1) := by decide +kernel
theorem dX2_followYear_49 : decode cX2_followYear 49 = .ok (.lload 4, 2) := by decide +kernel
theorem dX2_followYear_51 : decode cX2_followYear 51 = .ok (.lload 4, 2) := by decide +kernel
theorem dX2_followYear_53 : decode cX2_followYear 53 = .ok (.lmul, 1) := by decide +kernel
theorem dX2_followYear_54 : decode cX2_followYear 54 = .ok (.ldc2_w 42, 3) := by decide +kernel
theorem dX2_followYear_57 : decode cX2_followYear 57 = .ok (.lrem, 1) := by decide +kernel
theorem dX2_followYear_58 : decode cX2_followYear 58 = .ok (.ldc2_w 44, 3) := by decide +kernel
theorem dX2_followYear_61 : decode cX2_followYear 61 = .ok (.lrem, 1) := by decide +kernel
theorem dX2_followYear_62 : decode cX2_followYear 62 = .ok (.l2i, 1) := by decide +kernel
theorem dX2_followYear_63 : decode cX2_followYear 63 = .ok (.invokevirtual 34, 3) := by decide +kernel
theorem dX2_followYear_66 : decode cX2_followYear 66 = .ok (.iinc 3 1, 3) := by decide +kernel
theorem dX2_followYear_69 : decode cX2_followYear 69 = .ok (.goto (-59), 3) := by decide +kernel
theorem dX2_followYear_72 : decode cX2_followYear 72 = .ok (.return_, 1) := by decide +kernel
theorem dX2_allMarkets_0 : decode cX2_allMarkets 0 = .ok (.iconst 0, 1) := by decide +kernel
theorem dX2_allMarkets_1 : decode cX2_allMarkets 1 = .ok (.istore_n 2, 1) := by decide +kernel
theorem dX2_allMarkets_2 : decode cX2_allMarkets 2 = .ok (.iconst 0, 1) := by decide +kernel
theorem dX2_allMarkets_3 : decode cX2_allMarkets 3 = .ok (.istore_n 3, 1) := by decide +kernel
theorem dX2_allMarkets_4 : decode cX2_allMarkets 4 = .ok (.iload_n 3, 1) := by decide +kernel
theorem dX2_allMarkets_5 : decode cX2_allMarkets 5 = .ok (.aload_n 0, 1) := by decide +kernel
theorem dX2_allMarkets_6 : decode cX2_allMarkets 6 = .ok (.getfield 24, 3) := by decide +kernel
theorem dX2_allMarkets_9 : decode cX2_allMarkets 9 = .ok (.if_icmp .ge 24, 3) := by decide +kernel
theorem dX2_allMarkets_12 : decode cX2_allMarkets 12 = .ok (.iload_n 2, 1) := by decide +kernel
theorem dX2_allMarkets_13 : decode cX2_allMarkets 13 = .ok (.aload_n 0, 1) := by decide +kernel
theorem dX2_allMarkets_14 : decode cX2_allMarkets 14 = .ok (.aload_n 0, 1) := by decide +kernel
theorem dX2_allMarkets_15 : decode cX2_allMarkets 15 = .ok (.getfield 11, 3) := by decide +kernel
theorem dX2_allMarkets_18 : decode cX2_allMarkets 18 = .ok (.iload_n 3, 1) := by decide +kernel
theorem dX2_allMarkets_19 : decode cX2_allMarkets 19 = .ok (.aaload, 1) := by decide +kernel
theorem dX2_allMarkets_20 : decode cX2_allMarkets 20 = .ok (.iload_n 3, 1) := by decide +kernel
theorem dX2_allMarkets_21 : decode cX2_allMarkets 21 = .ok (.iload_n 1, 1) := by decide +kernel
theorem dX2_allMarkets_22 : decode cX2_allMarkets 22 = .ok (.invokevirtual 46, 3) := by decide +kernel
theorem dX2_allMarkets_25 : decode cX2_allMarkets 25 = .ok (.iadd, 1) := by decide +kernel
theorem dX2_allMarkets_26 : decode cX2_allMarkets 26 = .ok (.istore_n 2, 1) := by decide +kernel
theorem dX2_allMarkets_27 : decode cX2_allMarkets 27 = .ok (.iinc 3 1, 3) := by decide +kernel
theorem dX2_allMarkets_30 : decode cX2_allMarkets 30 = .ok (.goto (-26), 3) := by decide +kernel
theorem dX2_allMarkets_33 : decode cX2_allMarkets 33 = .ok (.iload_n 2, 1) := by decide +kernel
theorem dX2_allMarkets_34 : decode cX2_allMarkets 34 = .ok (.iconst 2, 1) := by decide +kernel
theorem dX2_allMarkets_35 : decode cX2_allMarkets 35 = .ok (.idiv, 1) := by decide +kernel
theorem dX2_allMarkets_36 : decode cX2_allMarkets 36 = .ok (.ireturn, 1) := by decide +kernel
theorem dX2_marketsWith_0 : decode cX2_marketsWith 0 = .ok (.iconst 0, 1) := by decide +kernel
theorem dX2_marketsWith_1 : decode cX2_marketsWith 1 = .ok (.istore 4, 2) := by decide +kernel
theorem dX2_marketsWith_3 : decode cX2_marketsWith 3 = .ok (.iconst 0, 1) := by decide +kernel
theorem dX2_marketsWith_4 : decode cX2_marketsWith 4 = .ok (.istore 5, 2) := by decide +kernel
theorem dX2_marketsWith_6 : decode cX2_marketsWith 6 = .ok (.iload 5, 2) := by decide +kernel
theorem dX2_marketsWith_8 : decode cX2_marketsWith 8 = .ok (.aload_n 0, 1) := by decide +kernel
theorem dX2_marketsWith_9 : decode cX2_marketsWith 9 = .ok (.getfield 24, 3) := by decide +kernel
theorem dX2_marketsWith_12 : decode cX2_marketsWith 12 = .ok (.if_icmp .ge 52, 3) := by decide +kernel
theorem dX2_marketsWith_15 : decode cX2_marketsWith 15 = .ok (.iload 5, 2) := by decide +kernel
theorem dX2_marketsWith_17 : decode cX2_marketsWith 17 = .ok (.iload_n 2, 1) := by decide +kernel
theorem dX2_marketsWith_18 : decode cX2_marketsWith 18 = .ok (.if_icmp .ne 6, 3) := by decide +kernel
theorem dX2_marketsWith_21 : decode cX2_marketsWith 21 = .ok (.goto 37, 3) := by decide +kernel
theorem dX2_marketsWith_24 : decode cX2_marketsWith 24 = .ok (.iconst 1, 1) := by decide +kernel
theorem dX2_marketsWith_25 : decode cX2_marketsWith 25 = .ok (.istore 6, 2) := by decide +kernel
theorem dX2_marketsWith_27 : decode cX2_marketsWith 27 = .ok (.iload 6, 2) := by decide +kernel
theorem dX2_marketsWith_29 : decode cX2_marketsWith 29 = .ok (.iload_n 3, 1) := by decide +kernel
theorem dX2_marketsWith_30 : decode cX2_marketsWith 30 = .ok (.if_icmp .gt 28, 3) := by decide +kernel
theorem dX2_marketsWith_33 : decode cX2_marketsWith 33 = .ok (.aload_n 1, 1) := by decide +kernel
theorem dX2_marketsWith_34 : decode cX2_marketsWith 34 = .ok (.aload_n 0, 1) := by decide +kernel
theorem dX2_marketsWith_35 : decode cX2_marketsWith 35 = .ok (.getfield 11, 3) := by decide +kernel
theorem dX2_marketsWith_38 : decode cX2_marketsWith 38 = .ok (.iload 5, 2) := by decide +kernel
theorem dX2_marketsWith_40 : decode cX2_marketsWith 40 = .ok (.aaload, 1) := by decide +kernel
theorem dX2_marketsWith_41 : decode cX2_marketsWith 41 = .ok (.iload 6, 2) := by decide +kernel
theorem dX2_marketsWith_43 : decode cX2_marketsWith 43 = .ok (.invokevirtual 50, 3) := by decide +kernel
theorem dX2_marketsWith_46 : decode cX2_marketsWith 46 = .ok (.ifCond .eq 6, 3) := by decide +kernel
theorem dX2_marketsWith_49 : decode cX2_marketsWith 49 = .ok (.iinc 4 1, 3) := by decide +kernel
theorem dX2_marketsWith_52 : decode cX2_marketsWith 52 = .ok (.iinc 6 1, 3) := by decide +kernel
theorem dX2_marketsWith_55 : decode cX2_marketsWith 55 = .ok (.goto (-28), 3) := by decide +kernel
theorem dX2_marketsWith_58 : decode cX2_marketsWith 58 = .ok (.iinc 5 1, 3) := by decide +kernel
theorem dX2_marketsWith_61 : decode cX2_marketsWith 61 = .ok (.goto (-55), 3) := by decide +kernel
theorem dX2_marketsWith_64 : decode cX2_marketsWith 64 = .ok (.iload 4, 2) := by decide +kernel
theorem dX2_marketsWith_66 : decode cX2_marketsWith 66 = .ok (.ireturn, 1) := by decide +kernel
theorem dX2_lostTowns_0 : decode cX2_lostTowns 0 = .ok (.iconst 0, 1) := by decide +kernel
theorem dX2_lostTowns_1 : decode cX2_lostTowns 1 = .ok (.istore_n 1, 1) := by decide +kernel
theorem dX2_lostTowns_2 : decode cX2_lostTowns 2 = .ok (.iconst 0, 1) := by decide +kernel
theorem dX2_lostTowns_3 : decode cX2_lostTowns 3 = .ok (.istore_n 2, 1) := by decide +kernel
theorem dX2_lostTowns_4 : decode cX2_lostTowns 4 = .ok (.iload_n 2, 1) := by decide +kernel
theorem dX2_lostTowns_5 : decode cX2_lostTowns 5 = .ok (.aload_n 0, 1) := by decide +kernel
theorem dX2_lostTowns_6 : decode cX2_lostTowns 6 = .ok (.getfield 24, 3) := by decide +kernel
theorem dX2_lostTowns_9 : decode cX2_lostTowns 9 = .ok (.if_icmp .ge 26, 3) := by decide +kernel
theorem dX2_lostTowns_12 : decode cX2_lostTowns 12 = .ok (.aload_n 0, 1) := by decide +kernel
theorem dX2_lostTowns_13 : decode cX2_lostTowns 13 = .ok (.getfield 11, 3) := by decide +kernel
theorem dX2_lostTowns_16 : decode cX2_lostTowns 16 = .ok (.iload_n 2, 1) := by decide +kernel
theorem dX2_lostTowns_17 : decode cX2_lostTowns 17 = .ok (.aaload, 1) := by decide +kernel
theorem dX2_lostTowns_18 : decode cX2_lostTowns 18 = .ok (.getfield 54, 3) := by decide +kernel
theorem dX2_lostTowns_21 : decode cX2_lostTowns 21 = .ok (.bipush (-4), 2) := by decide +kernel
theorem dX2_lostTowns_23 : decode cX2_lostTowns 23 = .ok (.if_icmp .eq 6, 3) := by decide +kernel
theorem dX2_lostTowns_26 : decode cX2_lostTowns 26 = .ok (.iinc 1 1, 3) := by decide +kernel
theorem dX2_lostTowns_29 : decode cX2_lostTowns 29 = .ok (.iinc 2 1, 3) := by decide +kernel
theorem dX2_lostTowns_32 : decode cX2_lostTowns 32 = .ok (.goto (-28), 3) := by decide +kernel
theorem dX2_lostTowns_35 : decode cX2_lostTowns 35 = .ok (.iload_n 1, 1) := by decide +kernel
theorem dX2_lostTowns_36 : decode cX2_lostTowns 36 = .ok (.ireturn, 1) := by decide +kernel
theorem dX3_init_0 : decode cX3_init 0 = .ok (.aload_n 0, 1) := by decide +kernel
theorem dX3_init_1 : decode cX3_init 1 = .ok (.invokespecial 3, 3) := by decide +kernel
theorem dX3_init_4 : decode cX3_init 4 = .ok (.aload_n 0, 1) := by decide +kernel
theorem dX3_init_5 : decode cX3_init 5 = .ok (.bipush 8, 2) := by decide +kernel
theorem dX3_init_7 : decode cX3_init 7 = .ok (.newarray .int, 2) := by decide +kernel
theorem dX3_init_9 : decode cX3_init 9 = .ok (.putfield 9, 3) := by decide +kernel
theorem dX3_init_12 : decode cX3_init 12 = .ok (.aload_n 0, 1) := by decide +kernel
theorem dX3_init_13 : decode cX3_init 13 = .ok (.bipush 8, 2) := by decide +kernel
theorem dX3_init_15 : decode cX3_init 15 = .ok (.newarray .int, 2) := by decide +kernel
theorem dX3_init_17 : decode cX3_init 17 = .ok (.putfield 15, 3) := by decide +kernel
theorem dX3_init_20 : decode cX3_init 20 = .ok (.return_, 1) := by decide +kernel
theorem dX3_clear_0 : decode cX3_clear 0 = .ok (.aload_n 0, 1) := by decide +kernel
theorem dX3_clear_1 : decode cX3_clear 1 = .ok (.iconst 0, 1) := by decide +kernel
theorem dX3_clear_2 : decode cX3_clear 2 = .ok (.putfield 18, 3) := by decide +kernel
theorem dX3_clear_5 : decode cX3_clear 5 = .ok (.return_, 1) := by decide +kernel
theorem dX3_note_0 : decode cX3_note 0 = .ok (.aload_n 0, 1) := by decide +kernel
theorem dX3_note_1 : decode cX3_note 1 = .ok (.getfield 18, 3) := by decide +kernel
theorem dX3_note_4 : decode cX3_note 4 = .ok (.bipush 8, 2) := by decide +kernel
theorem dX3_note_6 : decode cX3_note 6 = .ok (.if_icmp .lt 7, 3) := by decide +kernel
theorem dX3_note_9 : decode cX3_note 9 = .ok (.aload_n 0, 1) := by decide +kernel
theorem dX3_note_10 : decode cX3_note 10 = .ok (.invokevirtual 22, 3) := by decide +kernel
theorem dX3_note_13 : decode cX3_note 13 = .ok (.aload_n 0, 1) := by decide +kernel
theorem dX3_note_14 : decode cX3_note 14 = .ok (.getfield 9, 3) := by decide +kernel
theorem dX3_note_17 : decode cX3_note 17 = .ok (.aload_n 0, 1) := by decide +kernel
theorem dX3_note_18 : decode cX3_note 18 = .ok (.getfield 18, 3) := by decide +kernel
theorem dX3_note_21 : decode cX3_note 21 = .ok (.iload_n 1, 1) := by decide +kernel
theorem dX3_note_22 : decode cX3_note 22 = .ok (.iastore, 1) := by decide +kernel
theorem dX3_note_23 : decode cX3_note 23 = .ok (.aload_n 0, 1) := by decide +kernel
theorem dX3_note_24 : decode cX3_note 24 = .ok (.getfield 15, 3) := by decide +kernel
theorem dX3_note_27 : decode cX3_note 27 = .ok (.aload_n 0, 1) := by decide +kernel
theorem dX3_note_28 : decode cX3_note 28 = .ok (.getfield 18, 3) := by decide +kernel
theorem dX3_note_31 : decode cX3_note 31 = .ok (.iload_n 2, 1) := by decide +kernel
theorem dX3_note_32 : decode cX3_note 32 = .ok (.iastore, 1) := by decide +kernel
theorem dX3_note_33 : decode cX3_note 33 = .ok (.aload_n 0, 1) := by decide +kernel
theorem dX3_note_34 : decode cX3_note 34 = .ok (.dup, 1) := by decide +kernel
theorem dX3_note_35 : decode cX3_note 35 = .ok (.getfield 18, 3) := by decide +kernel
theorem dX3_note_38 : decode cX3_note 38 = .ok (.iconst 1, 1) := by decide +kernel
theorem dX3_note_39 : decode cX3_note 39 = .ok (.iadd, 1) := by decide +kernel
theorem dX3_note_40 : decode cX3_note 40 = .ok (.putfield 18, 3) := by decide +kernel
theorem dX3_note_43 : decode cX3_note 43 = .ok (.return_, 1) := by decide +kernel
theorem dX3_forgetOldest_0 : decode cX3_forgetOldest 0 = .ok (.iconst 1, 1) := by decide +kernel
theorem dX3_forgetOldest_1 : decode cX3_forgetOldest 1 = .ok (.istore_n 1, 1) := by decide +kernel
theorem dX3_forgetOldest_2 : decode cX3_forgetOldest 2 = .ok (.iload_n 1, 1) := by decide +kernel
theorem dX3_forgetOldest_3 : decode cX3_forgetOldest 3 = .ok (.aload_n 0, 1) := by decide +kernel
theorem dX3_forgetOldest_4 : decode cX3_forgetOldest 4 = .ok (.getfield 18, 3) := by decide +kernel
theorem dX3_forgetOldest_7 : decode cX3_forgetOldest 7 = .ok (.if_icmp .ge 37, 3) := by decide +kernel
theorem dX3_forgetOldest_10 : decode cX3_forgetOldest 10 = .ok (.aload_n 0, 1) := by decide +kernel
theorem dX3_forgetOldest_11 : decode cX3_forgetOldest 11 = .ok (.getfield 9, 3) := by decide +kernel
theorem dX3_forgetOldest_14 : decode cX3_forgetOldest 14 = .ok (.iload_n 1, 1) := by decide +kernel
theorem dX3_forgetOldest_15 : decode cX3_forgetOldest 15 = .ok (.iconst 1, 1) := by decide +kernel
theorem dX3_forgetOldest_16 : decode cX3_forgetOldest 16 = .ok (.isub, 1) := by decide +kernel
theorem dX3_forgetOldest_17 : decode cX3_forgetOldest 17 = .ok (.aload_n 0, 1) := by decide +kernel
theorem dX3_forgetOldest_18 : decode cX3_forgetOldest 18 = .ok (.getfield 9, 3) := by decide +kernel
theorem dX3_forgetOldest_21 : decode cX3_forgetOldest 21 = .ok (.iload_n 1, 1) := by decide +kernel
theorem dX3_forgetOldest_22 : decode cX3_forgetOldest 22 = .ok (.iaload, 1) := by decide +kernel
theorem dX3_forgetOldest_23 : decode cX3_forgetOldest 23 = .ok (.iastore, 1) := by decide +kernel
theorem dX3_forgetOldest_24 : decode cX3_forgetOldest 24 = .ok (.aload_n 0, 1) := by decide +kernel
theorem dX3_forgetOldest_25 : decode cX3_forgetOldest 25 = .ok (.getfield 15, 3) := by decide +kernel
theorem dX3_forgetOldest_28 : decode cX3_forgetOldest 28 = .ok (.iload_n 1, 1) := by decide +kernel
theorem dX3_forgetOldest_29 : decode cX3_forgetOldest 29 = .ok (.iconst 1, 1) := by decide +kernel
theorem dX3_forgetOldest_30 : decode cX3_forgetOldest 30 = .ok (.isub, 1) := by decide +kernel
theorem dX3_forgetOldest_31 : decode cX3_forgetOldest 31 = .ok (.aload_n 0, 1) := by decide +kernel
theorem dX3_forgetOldest_32 : decode cX3_forgetOldest 32 = .ok (.getfield 15, 3) := by decide +kernel
theorem dX3_forgetOldest_35 : decode cX3_forgetOldest 35 = .ok (.iload_n 1, 1) := by decide +kernel
theorem dX3_forgetOldest_36 : decode cX3_forgetOldest 36 = .ok (.iaload, 1) := by decide +kernel
theorem dX3_forgetOldest_37 : decode cX3_forgetOldest 37 = .ok (.iastore, 1) := by decide +kernel
theorem dX3_forgetOldest_38 : decode cX3_forgetOldest 38 = .ok (.iinc 1 1, 3) := by decide +kernel
theorem dX3_forgetOldest_41 : decode cX3_forgetOldest 41 = .ok (.goto (-39), 3) := by decide +kernel
theorem dX3_forgetOldest_44 : decode cX3_forgetOldest 44 = .ok (.aload_n 0, 1) := by decide +kernel
theorem dX3_forgetOldest_45 : decode cX3_forgetOldest 45 = .ok (.dup, 1) := by decide +kernel
theorem dX3_forgetOldest_46 : decode cX3_forgetOldest 46 = .ok (.getfield 18, 3) := by decide +kernel
theorem dX3_forgetOldest_49 : decode cX3_forgetOldest 49 = .ok (.iconst 1, 1) := by decide +kernel
theorem dX3_forgetOldest_50 : decode cX3_forgetOldest 50 = .ok (.isub, 1) := by decide +kernel
theorem dX3_forgetOldest_51 : decode cX3_forgetOldest 51 = .ok (.putfield 18, 3) := by decide +kernel
theorem dX3_forgetOldest_54 : decode cX3_forgetOldest 54 = .ok (.return_, 1) := by decide +kernel
theorem dX3_takeBack_0 : decode cX3_takeBack 0 = .ok (.aload_n 0, 1) := by decide +kernel
theorem dX3_takeBack_1 : decode cX3_takeBack 1 = .ok (.getfield 18, 3) := by decide +kernel
theorem dX3_takeBack_4 : decode cX3_takeBack 4 = .ok (.ifCond .gt 5, 3) := by decide +kernel
theorem dX3_takeBack_7 : decode cX3_takeBack 7 = .ok (.iconst 0, 1) := by decide +kernel
theorem dX3_takeBack_8 : decode cX3_takeBack 8 = .ok (.ireturn, 1) := by decide +kernel
theorem dX3_takeBack_9 : decode cX3_takeBack 9 = .ok (.aload_n 0, 1) := by decide +kernel
theorem dX3_takeBack_10 : decode cX3_takeBack 10 = .ok (.dup, 1) := by decide +kernel
theorem dX3_takeBack_11 : decode cX3_takeBack 11 = .ok (.getfield 18, 3) := by decide +kernel
theorem dX3_takeBack_14 : decode cX3_takeBack 14 = .ok (.iconst 1, 1) := by decide +kernel
theorem dX3_takeBack_15 : decode cX3_takeBack 15 = .ok (.isub, 1) := by decide +kernel
theorem dX3_takeBack_16 : decode cX3_takeBack 16 = .ok (.putfield 18, 3) := by decide +kernel
theorem dX3_takeBack_19 : decode cX3_takeBack 19 = .ok (.aload_n 0, 1) := by decide +kernel
theorem dX3_takeBack_20 : decode cX3_takeBack 20 = .ok (.getfield 15, 3) := by decide +kernel
theorem dX3_takeBack_23 : decode cX3_takeBack 23 = .ok (.aload_n 0, 1) := by decide +kernel
theorem dX3_takeBack_24 : decode cX3_takeBack 24 = .ok (.getfield 18, 3) := by decide +kernel
theorem dX3_takeBack_27 : decode cX3_takeBack 27 = .ok (.iaload, 1) := by decide +kernel
theorem dX3_takeBack_28 : decode cX3_takeBack 28 = .ok (.iconst (-1), 1) := by decide +kernel
theorem dX3_takeBack_29 : decode cX3_takeBack 29 = .ok (.if_icmp .ne 10, 3) := by decide +kernel
theorem dX3_takeBack_32 : decode cX3_takeBack 32 = .ok (.aload_n 1, 1) := by decide +kernel
theorem dX3_takeBack_33 : decode cX3_takeBack 33 = .ok (.invokevirtual 25, 3) := by decide +kernel
theorem dX3_takeBack_36 : decode cX3_takeBack 36 = .ok (.goto 26, 3) := by decide +kernel
theorem dX3_takeBack_39 : decode cX3_takeBack 39 = .ok (.aload_n 1, 1) := by decide +kernel
theorem dX3_takeBack_40 : decode cX3_takeBack 40 = .ok (.getfield 30, 3) := by decide +kernel
theorem dX3_takeBack_43 : decode cX3_takeBack 43 = .ok (.aload_n 0, 1) := by decide +kernel
theorem dX3_takeBack_44 : decode cX3_takeBack 44 = .ok (.getfield 9, 3) := by decide +kernel
theorem dX3_takeBack_47 : decode cX3_takeBack 47 = .ok (.aload_n 0, 1) := by decide +kernel
theorem dX3_takeBack_48 : decode cX3_takeBack 48 = .ok (.getfield 18, 3) := by decide +kernel
theorem dX3_takeBack_51 : decode cX3_takeBack 51 = .ok (.iaload, 1) := by decide +kernel
theorem dX3_takeBack_52 : decode cX3_takeBack 52 = .ok (.aload_n 0, 1) := by decide +kernel
theorem dX3_takeBack_53 : decode cX3_takeBack 53 = .ok (.getfield 15, 3) := by decide +kernel
theorem dX3_takeBack_56 : decode cX3_takeBack 56 = .ok (.aload_n 0, 1) := by decide +kernel
theorem dX3_takeBack_57 : decode cX3_takeBack 57 = .ok (.getfield 18, 3) := by decide +kernel
theorem dX3_takeBack_60 : decode cX3_takeBack 60 = .ok (.iaload, 1) := by decide +kernel
theorem dX3_takeBack_61 : decode cX3_takeBack 61 = .ok (.iastore, 1) := by decide +kernel
theorem dX3_takeBack_62 : decode cX3_takeBack 62 = .ok (.iconst 1, 1) := by decide +kernel
theorem dX3_takeBack_63 : decode cX3_takeBack 63 = .ok (.ireturn, 1) := by decide +kernel
theorem dX4_init_0 : decode cX4_init 0 = .ok (.aload_n 0, 1) := by decide +kernel
theorem dX4_init_1 : decode cX4_init 1 = .ok (.invokespecial 3, 3) := by decide +kernel
theorem dX4_init_4 : decode cX4_init 4 = .ok (.aload_n 0, 1) := by decide +kernel
theorem dX4_init_5 : decode cX4_init 5 = .ok (.bipush 6, 2) := by decide +kernel
theorem dX4_init_7 : decode cX4_init 7 = .ok (.newarray .long, 2) := by decide +kernel
theorem dX4_init_9 : decode cX4_init 9 = .ok (.putfield 9, 3) := by decide +kernel
theorem dX4_init_12 : decode cX4_init 12 = .ok (.aload_n 0, 1) := by decide +kernel
theorem dX4_init_13 : decode cX4_init 13 = .ok (.bipush 6, 2) := by decide +kernel
theorem dX4_init_15 : decode cX4_init 15 = .ok (.newarray .long, 2) := by decide +kernel
theorem dX4_init_17 : decode cX4_init 17 = .ok (.putfield 15, 3) := by decide +kernel
theorem dX4_init_20 : decode cX4_init 20 = .ok (.return_, 1) := by decide +kernel
theorem dX4_reckon_0 : decode cX4_reckon 0 = .ok (.iconst 0, 1) := by decide +kernel
theorem dX4_reckon_1 : decode cX4_reckon 1 = .ok (.istore 6, 2) := by decide +kernel
theorem dX4_reckon_3 : decode cX4_reckon 3 = .ok (.iload 6, 2) := by decide +kernel
theorem dX4_reckon_5 : decode cX4_reckon 5 = .ok (.iload_n 1, 1) := by decide +kernel
theorem dX4_reckon_6 : decode cX4_reckon 6 = .ok (.if_icmp .ge 27, 3) := by decide +kernel
theorem dX4_reckon_9 : decode cX4_reckon 9 = .ok (.aload_n 0, 1) := by decide +kernel
theorem dX4_reckon_10 : decode cX4_reckon 10 = .ok (.getfield 9, 3) := by decide +kernel
theorem dX4_reckon_13 : decode cX4_reckon 13 = .ok (.iload 6, 2) := by decide +kernel
theorem dX4_reckon_15 : decode cX4_reckon 15 = .ok (.iload 6, 2) := by decide +kernel
theorem dX4_reckon_17 : decode cX4_reckon 17 = .ok (.iload_n 2, 1) := by decide +kernel
theorem dX4_reckon_18 : decode cX4_reckon 18 = .ok (.if_icmp .ne 7, 3) := by decide +kernel
theorem dX4_reckon_21 : decode cX4_reckon 21 = .ok (.lconst 1, 1) := by decide +kernel
theorem dX4_reckon_22 : decode cX4_reckon 22 = .ok (.goto 4, 3) := by decide +kernel
theorem dX4_reckon_25 : decode cX4_reckon 25 = .ok (.lconst 0, 1) := by decide +kernel
theorem dX4_reckon_26 : decode cX4_reckon 26 = .ok (.lastore, 1) := by decide +kernel
theorem dX4_reckon_27 : decode cX4_reckon 27 = .ok (.iinc 6 1, 3) := by decide +kernel
theorem dX4_reckon_30 : decode cX4_reckon 30 = .ok (.goto (-27), 3) := by decide +kernel
theorem dX4_reckon_33 : decode cX4_reckon 33 = .ok (.aload_n 0, 1) := by decide +kernel
theorem dX4_reckon_34 : decode cX4_reckon 34 = .ok (.lconst 1, 1) := by decide +kernel
theorem dX4_reckon_35 : decode cX4_reckon 35 = .ok (.putfield 18, 3) := by decide +kernel
theorem dX4_reckon_38 : decode cX4_reckon 38 = .ok (.iconst 1, 1) := by decide +kernel
theorem dX4_reckon_39 : decode cX4_reckon 39 = .ok (.istore 6, 2) := by decide +kernel
theorem dX4_reckon_41 : decode cX4_reckon 41 = .ok (.iload 6, 2) := by decide +kernel
theorem dX4_reckon_43 : decode cX4_reckon 43 = .ok (.iload 5, 2) := by decide +kernel
theorem dX4_reckon_45 : decode cX4_reckon 45 = .ok (.if_icmp .gt 28, 3) := by decide +kernel
theorem dX4_reckon_48 : decode cX4_reckon 48 = .ok (.aload_n 0, 1) := by decide +kernel
theorem dX4_reckon_49 : decode cX4_reckon 49 = .ok (.iload_n 1, 1) := by decide +kernel
theorem dX4_reckon_50 : decode cX4_reckon 50 = .ok (.iload 4, 2) := by decide +kernel
theorem dX4_reckon_52 : decode cX4_reckon 52 = .ok (.invokevirtual 22, 3) := by decide +kernel
theorem dX4_reckon_55 : decode cX4_reckon 55 = .ok (.aload_n 0, 1) := by decide +kernel
theorem dX4_reckon_56 : decode cX4_reckon 56 = .ok (.dup, 1) := by decide +kernel
theorem dX4_reckon_57 : decode cX4_reckon 57 = .ok (.getfield 18, 3) := by decide +kernel
theorem dX4_reckon_60 : decode cX4_reckon 60 = .ok (.ldc2_w 26, 3) := by decide +kernel
theorem dX4_reckon_63 : decode cX4_reckon 63 = .ok (.lmul, 1) := by decide +kernel
theorem dX4_reckon_64 : decode cX4_reckon 64 = .ok (.putfield 18, 3) := by decide +kernel
theorem dX4_reckon_67 : decode cX4_reckon 67 = .ok (.iinc 6 1, 3) := by decide +kernel
theorem dX4_reckon_70 : decode cX4_reckon 70 = .ok (.goto (-29), 3) := by decide +kernel
theorem dX4_reckon_73 : decode cX4_reckon 73 = .ok (.aload_n 0, 1) := by decide +kernel
theorem dX4_reckon_74 : decode cX4_reckon 74 = .ok (.aload_n 0, 1) := by decide +kernel
theorem dX4_reckon_75 : decode cX4_reckon 75 = .ok (.getfield 9, 3) := by decide +kernel
theorem dX4_reckon_78 : decode cX4_reckon 78 = .ok (.iload_n 3, 1) := by decide +kernel
theorem dX4_reckon_79 : decode cX4_reckon 79 = .ok (.laload, 1) := by decide +kernel
theorem dX4_reckon_80 : decode cX4_reckon 80 = .ok (.putfield 28, 3) := by decide +kernel
theorem dX4_reckon_83 : decode cX4_reckon 83 = .ok (.aload_n 0, 1) := by decide +kernel
theorem dX4_reckon_84 : decode cX4_reckon 84 = .ok (.iload 5, 2) := by decide +kernel
theorem dX4_reckon_86 : decode cX4_reckon 86 = .ok (.invokevirtual 31, 3) := by decide +kernel
theorem dX4_reckon_89 : decode cX4_reckon 89 = .ok (.return_, 1) := by decide +kernel
theorem dX4_gust_0 : decode cX4_gust 0 = .ok (.iconst 0, 1) := by decide +kernel
theorem dX4_gust_1 : decode cX4_gust 1 = .ok (.istore_n 3, 1) := by decide +kernel
theorem dX4_gust_2 : decode cX4_gust 2 = .ok (.iload_n 3, 1) := by decide +kernel
theorem dX4_gust_3 : decode cX4_gust 3 = .ok (.iload_n 1, 1) := by decide +kernel
theorem dX4_gust_4 : decode cX4_gust 4 = .ok (.if_icmp .ge 16, 3) := by decide +kernel
theorem dX4_gust_7 : decode cX4_gust 7 = .ok (.aload_n 0, 1) := by decide +kernel
theorem dX4_gust_8 : decode cX4_gust 8 = .ok (.getfield 15, 3) := by decide +kernel
theorem dX4_gust_11 : decode cX4_gust 11 = .ok (.iload_n 3, 1) := by decide +kernel
theorem dX4_gust_12 : decode cX4_gust 12 = .ok (.lconst 0, 1) := by decide +kernel
theorem dX4_gust_13 : decode cX4_gust 13 = .ok (.lastore, 1) := by decide +kernel
theorem dX4_gust_14 : decode cX4_gust 14 = .ok (.iinc 3 1, 3) := by decide +kernel
theorem dX4_gust_17 : decode cX4_gust 17 = .ok (.goto (-15), 3) := by decide +kernel
theorem dX4_gust_20 : decode cX4_gust 20 = .ok (.iconst 0, 1) := by decide +kernel
theorem dX4_gust_21 : decode cX4_gust 21 = .ok (.istore_n 3, 1) := by decide +kernel
theorem dX4_gust_22 : decode cX4_gust 22 = .ok (.iload_n 3, 1) := by decide +kernel
theorem dX4_gust_23 : decode cX4_gust 23 = .ok (.iload_n 1, 1) := by decide +kernel
theorem dX4_gust_24 : decode cX4_gust 24 = .ok (.if_icmp .ge 62, 3) := by decide +kernel
theorem dX4_gust_27 : decode cX4_gust 27 = .ok (.aload_n 0, 1) := by decide +kernel
theorem dX4_gust_28 : decode cX4_gust 28 = .ok (.getfield 15, 3) := by decide +kernel
theorem dX4_gust_31 : decode cX4_gust 31 = .ok (.iload_n 3, 1) := by decide +kernel
theorem dX4_gust_32 : decode cX4_gust 32 = .ok (.iconst 1, 1) := by decide +kernel
theorem dX4_gust_33 : decode cX4_gust 33 = .ok (.iadd, 1) := by decide +kernel
theorem dX4_gust_34 : decode cX4_gust 34 = .ok (.iload_n 1, 1) := by decide +kernel
theorem dX4_gust_35 : decode cX4_gust 35 = .ok (.iconst 1, 1) := by decide +kernel
theorem dX4_gust_36 : decode cX4_gust 36 = .ok (.isub, 1) := by decide +kernel
theorem dX4_gust_37 : decode cX4_gust 37 = .ok (.invokestatic 35, 3) := by decide +kernel
theorem dX4_gust_40 : decode cX4_gust 40 = .ok (.dup2, 1) := by decide +kernel
theorem dX4_gust_41 : decode cX4_gust 41 = .ok (.laload, 1) := by decide +kernel
theorem dX4_gust_42 : decode cX4_gust 42 = .ok (.aload_n 0, 1) := by decide +kernel
theorem dX4_gust_43 : decode cX4_gust 43 = .ok (.getfield 9, 3) := by decide +kernel
theorem dX4_gust_46 : decode cX4_gust 46 = .ok (.iload_n 3, 1) := by decide +kernel
theorem dX4_gust_47 : decode cX4_gust 47 = .ok (.laload, 1) := by decide +kernel
theorem dX4_gust_48 : decode cX4_gust 48 = .ok (.iload_n 2, 1) := by decide +kernel
theorem dX4_gust_49 : decode cX4_gust 49 = .ok (.i2l, 1) := by decide +kernel
theorem dX4_gust_50 : decode cX4_gust 50 = .ok (.lmul, 1) := by decide +kernel
theorem dX4_gust_51 : decode cX4_gust 51 = .ok (.ladd, 1) := by decide +kernel
theorem dX4_gust_52 : decode cX4_gust 52 = .ok (.lastore, 1) := by decide +kernel
theorem dX4_gust_53 : decode cX4_gust 53 = .ok (.aload_n 0, 1) := by decide +kernel
theorem dX4_gust_54 : decode cX4_gust 54 = .ok (.getfield 15, 3) := by decide +kernel
theorem dX4_gust_57 : decode cX4_gust 57 = .ok (.iload_n 3, 1) := by decide +kernel
theorem dX4_gust_58 : decode cX4_gust 58 = .ok (.iconst 1, 1) := by decide +kernel
theorem dX4_gust_59 : decode cX4_gust 59 = .ok (.isub, 1) := by decide +kernel
theorem dX4_gust_60 : decode cX4_gust 60 = .ok (.iconst 0, 1) := by decide +kernel
theorem dX4_gust_61 : decode cX4_gust 61 = .ok (.invokestatic 41, 3) := by decide +kernel
theorem dX4_gust_64 : decode cX4_gust 64 = .ok (.dup2, 1) := by decide +kernel
theorem dX4_gust_65 : decode cX4_gust 65 = .ok (.laload, 1) := by decide +kernel
theorem dX4_gust_66 : decode cX4_gust 66 = .ok (.aload_n 0, 1) := by decide +kernel
theorem dX4_gust_67 : decode cX4_gust 67 = .ok (.getfield 9, 3) := by decide +kernel
theorem dX4_gust_70 : decode cX4_gust 70 = .ok (.iload_n 3, 1) := by decide +kernel
theorem dX4_gust_71 : decode cX4_gust 71 = .ok (.laload, 1) := by decide +kernel
theorem dX4_gust_72 : decode cX4_gust 72 = .ok (.bipush 10, 2) := by decide +kernel
theorem dX4_gust_74 : decode cX4_gust 74 = .ok (.iload_n 2, 1) := by decide +kernel
theorem dX4_gust_75 : decode cX4_gust 75 = .ok (.isub, 1) := by decide +kernel
theorem dX4_gust_76 : decode cX4_gust 76 = .ok (.i2l, 1) := by decide +kernel
theorem dX4_gust_77 : decode cX4_gust 77 = .ok (.lmul, 1) := by decide +kernel
theorem dX4_gust_78 : decode cX4_gust 78 = .ok (.ladd, 1) := by decide +kernel
theorem dX4_gust_79 : decode cX4_gust 79 = .ok (.lastore, 1) := by decide +kernel
theorem dX4_gust_80 : decode cX4_gust 80 = .ok (.iinc 3 1, 3) := by decide +kernel
theorem dX4_gust_83 : decode cX4_gust 83 = .ok (.goto (-61), 3) := by decide +kernel
theorem dX4_gust_86 : decode cX4_gust 86 = .ok (.aload_n 0, 1) := by decide +kernel
theorem dX4_gust_87 : decode cX4_gust 87 = .ok (.getfield 9, 3) := by decide +kernel
theorem dX4_gust_90 : decode cX4_gust 90 = .ok (.astore_n 3, 1) := by decide +kernel
theorem dX4_gust_91 : decode cX4_gust 91 = .ok (.aload_n 0, 1) := by decide +kernel
theorem dX4_gust_92 : decode cX4_gust 92 = .ok (.aload_n 0, 1) := by decide +kernel
theorem dX4_gust_93 : decode cX4_gust 93 = .ok (.getfield 15, 3) := by decide +kernel
theorem dX4_gust_96 : decode cX4_gust 96 = .ok (.putfield 9, 3) := by decide +kernel
theorem dX4_gust_99 : decode cX4_gust 99 = .ok (.aload_n 0, 1) := by decide +kernel
theorem dX4_gust_100 : decode cX4_gust 100 = .ok (.aload_n 3, 1) := by decide +kernel
theorem dX4_gust_101 : decode cX4_gust 101 = .ok (.putfield 15, 3) := by decide +kernel
theorem dX4_gust_104 : decode cX4_gust 104 = .ok (.return_, 1) := by decide +kernel
theorem dX4_reduce_0 : decode cX4_reduce 0 = .ok (.iconst 0, 1) := by decide +kernel
theorem dX4_reduce_1 : decode cX4_reduce 1 = .ok (.istore_n 2, 1) := by decide +kernel
theorem dX4_reduce_2 : decode cX4_reduce 2 = .ok (.iload_n 2, 1) := by decide +kernel
theorem dX4_reduce_3 : decode cX4_reduce 3 = .ok (.iload_n 1, 1) := by decide +kernel
theorem dX4_reduce_4 : decode cX4_reduce 4 = .ok (.if_icmp .ge 19, 3) := by decide +kernel
theorem dX4_reduce_7 : decode cX4_reduce 7 = .ok (.aload_n 0, 1) := by decide +kernel
theorem dX4_reduce_8 : decode cX4_reduce 8 = .ok (.iconst 2, 1) := by decide +kernel
theorem dX4_reduce_9 : decode cX4_reduce 9 = .ok (.invokevirtual 44, 3) := by decide +kernel
theorem dX4_reduce_12 : decode cX4_reduce 12 = .ok (.aload_n 0, 1) := by decide +kernel
theorem dX4_reduce_13 : decode cX4_reduce 13 = .ok (.iconst 5, 1) := by decide +kernel
theorem dX4_reduce_14 : decode cX4_reduce 14 = .ok (.invokevirtual 44, 3) := by decide +kernel
theorem dX4_reduce_17 : decode cX4_reduce 17 = .ok (.iinc 2 1, 3) := by decide +kernel
theorem dX4_reduce_20 : decode cX4_reduce 20 = .ok (.goto (-18), 3) := by decide +kernel
theorem dX4_reduce_23 : decode cX4_reduce 23 = .ok (.return_, 1) := by decide +kernel
theorem dX4_leaveOut_0 : decode cX4_leaveOut 0 = .ok (.iload_n 1, 1) := by decide +kernel
theorem dX4_leaveOut_1 : decode cX4_leaveOut 1 = .ok (.iconst 1, 1) := by decide +kernel
theorem dX4_leaveOut_2 : decode cX4_leaveOut 2 = .ok (.if_icmp .le 49, 3) := by decide +kernel
theorem dX4_leaveOut_5 : decode cX4_leaveOut 5 = .ok (.aload_n 0, 1) := by decide +kernel
theorem dX4_leaveOut_6 : decode cX4_leaveOut 6 = .ok (.getfield 28, 3) := by decide +kernel
theorem dX4_leaveOut_9 : decode cX4_leaveOut 9 = .ok (.iload_n 1, 1) := by decide +kernel
theorem dX4_leaveOut_10 : decode cX4_leaveOut 10 = .ok (.i2l, 1) := by decide +kernel
theorem dX4_leaveOut_11 : decode cX4_leaveOut 11 = .ok (.lrem, 1) := by decide +kernel
theorem dX4_leaveOut_12 : decode cX4_leaveOut 12 = .ok (.lconst 0, 1) := by decide +kernel
theorem dX4_leaveOut_13 : decode cX4_leaveOut 13 = .ok (.lcmp, 1) := by decide +kernel
theorem dX4_leaveOut_14 : decode cX4_leaveOut 14 = .ok (.ifCond .ne 37, 3) := by decide +kernel
theorem dX4_leaveOut_17 : decode cX4_leaveOut 17 = .ok (.aload_n 0, 1) := by decide +kernel
theorem dX4_leaveOut_18 : decode cX4_leaveOut 18 = .ok (.getfield 18, 3) := by decide +kernel
theorem dX4_leaveOut_21 : decode cX4_leaveOut 21 = .ok (.iload_n 1, 1) := by decide +kernel
theorem dX4_leaveOut_22 : decode cX4_leaveOut 22 = .ok (.i2l, 1) := by decide +kernel
theorem dX4_leaveOut_23 : decode cX4_leaveOut 23 = .ok (.lrem, 1) := by decide +kernel
theorem dX4_leaveOut_24 : decode cX4_leaveOut 24 = .ok (.lconst 0, 1) := by decide +kernel
theorem dX4_leaveOut_25 : decode cX4_leaveOut 25 = .ok (.lcmp, 1) := by decide +kernel
theorem dX4_leaveOut_26 : decode cX4_leaveOut 26 = .ok (.ifCond .ne 25, 3) := by decide +kernel
theorem dX4_leaveOut_29 : decode cX4_leaveOut 29 = .ok (.aload_n 0, 1) := by decide +kernel
theorem dX4_leaveOut_30 : decode cX4_leaveOut 30 = .ok (.dup, 1) := by decide +kernel
theorem dX4_leaveOut_31 : decode cX4_leaveOut 31 = .ok (.getfield 28, 3) := by decide +kernel
theorem dX4_leaveOut_34 : decode cX4_leaveOut 34 = .ok (.iload_n 1, 1) := by decide +kernel
theorem dX4_leaveOut_35 : decode cX4_leaveOut 35 = .ok (.i2l, 1) := by decide +kernel
theorem dX4_leaveOut_36 : decode cX4_leaveOut 36 = .ok (.ldiv, 1) := by decide +kernel
theorem dX4_leaveOut_37 : decode cX4_leaveOut 37 = .ok (.putfield 28, 3) := by decide +kernel
theorem dX4_leaveOut_40 : decode cX4_leaveOut 40 = .ok (.aload_n 0, 1) := by decide +kernel
theorem dX4_leaveOut_41 : decode cX4_leaveOut 41 = .ok (.dup, 1) := by decide +kernel
theorem dX4_leaveOut_42 : decode cX4_leaveOut 42 = .ok (.getfield 18, 3) := by decide +kernel
theorem dX4_leaveOut_45 : decode cX4_leaveOut 45 = .ok (.iload_n 1, 1) := by decide +kernel
theorem dX4_leaveOut_46 : decode cX4_leaveOut 46 = .ok (.i2l, 1) := by decide +kernel
theorem dX4_leaveOut_47 : decode cX4_leaveOut 47 = .ok (.ldiv, 1) := by decide +kernel
theorem dX4_leaveOut_48 : decode cX4_leaveOut 48 = .ok (.putfield 18, 3) := by decide +kernel
theorem dX4_leaveOut_51 : decode cX4_leaveOut 51 = .ok (.return_, 1) := by decide +kernel
theorem dX5_init_0 : decode cX5_init 0 = .ok (.aload_n 0, 1) := by decide +kernel
theorem dX5_init_1 : decode cX5_init 1 = .ok (.invokespecial 3, 3) := by decide +kernel
theorem dX5_init_4 : decode cX5_init 4 = .ok (.aload_n 0, 1) := by decide +kernel
theorem dX5_init_5 : decode cX5_init 5 = .ok (.bipush 8, 2) := by decide +kernel
theorem dX5_init_7 : decode cX5_init 7 = .ok (.newarray .int, 2) := by decide +kernel
theorem dX5_init_9 : decode cX5_init 9 = .ok (.putfield 9, 3) := by decide +kernel
theorem dX5_init_12 : decode cX5_init 12 = .ok (.aload_n 0, 1) := by decide +kernel
theorem dX5_init_13 : decode cX5_init 13 = .ok (.bipush 8, 2) := by decide +kernel
theorem dX5_init_15 : decode cX5_init 15 = .ok (.newarray .int, 2) := by decide +kernel
theorem dX5_init_17 : decode cX5_init 17 = .ok (.putfield 15, 3) := by decide +kernel
theorem dX5_init_20 : decode cX5_init 20 = .ok (.aload_n 0, 1) := by decide +kernel
theorem dX5_init_21 : decode cX5_init 21 = .ok (.bipush 8, 2) := by decide +kernel
theorem dX5_init_23 : decode cX5_init 23 = .ok (.newarray .boolean, 2) := by decide +kernel
theorem dX5_init_25 : decode cX5_init 25 = .ok (.putfield 18, 3) := by decide +kernel
theorem dX5_init_28 : decode cX5_init 28 = .ok (.aload_n 0, 1) := by decide +kernel
theorem dX5_init_29 : decode cX5_init 29 = .ok (.bipush 6, 2) := by decide +kernel
theorem dX5_init_31 : decode cX5_init 31 = .ok (.newarray .int, 2) := by decide +kernel
theorem dX5_init_33 : decode cX5_init 33 = .ok (.putfield 22, 3) := by decide +kernel
theorem dX5_init_36 : decode cX5_init 36 = .ok (.return_, 1) := by decide +kernel
theorem dX5_tell_0 : decode cX5_tell 0 = .ok (.aload_n 0, 1) := by decide +kernel
theorem dX5_tell_1 : decode cX5_tell 1 = .ok (.getfield 25, 3) := by decide +kernel
theorem dX5_tell_4 : decode cX5_tell 4 = .ok (.bipush 8, 2) := by decide +kernel
theorem dX5_tell_6 : decode cX5_tell 6 = .ok (.if_icmp .lt 5, 3) := by decide +kernel
theorem dX5_tell_9 : decode cX5_tell 9 = .ok (.iconst 0, 1) := by decide +kernel
theorem dX5_tell_10 : decode cX5_tell 10 = .ok (.ireturn, 1) := by decide +kernel
theorem dX5_tell_11 : decode cX5_tell 11 = .ok (.aload_n 0, 1) := by decide +kernel
theorem dX5_tell_12 : decode cX5_tell 12 = .ok (.getfield 9, 3) := by decide +kernel
theorem dX5_tell_15 : decode cX5_tell 15 = .ok (.aload_n 0, 1) := by decide +kernel
theorem dX5_tell_16 : decode cX5_tell 16 = .ok (.getfield 25, 3) := by decide +kernel
theorem dX5_tell_19 : decode cX5_tell 19 = .ok (.iload_n 1, 1) := by decide +kernel
theorem dX5_tell_20 : decode cX5_tell 20 = .ok (.iastore, 1) := by decide +kernel
theorem dX5_tell_21 : decode cX5_tell 21 = .ok (.aload_n 0, 1) := by decide +kernel
theorem dX5_tell_22 : decode cX5_tell 22 = .ok (.getfield 15, 3) := by decide +kernel
theorem dX5_tell_25 : decode cX5_tell 25 = .ok (.aload_n 0, 1) := by decide +kernel
theorem dX5_tell_26 : decode cX5_tell 26 = .ok (.getfield 25, 3) := by decide +kernel
theorem dX5_tell_29 : decode cX5_tell 29 = .ok (.iload_n 2, 1) := by decide +kernel
theorem dX5_tell_30 : decode cX5_tell 30 = .ok (.iastore, 1) := by decide +kernel
theorem dX5_tell_31 : decode cX5_tell 31 = .ok (.aload_n 0, 1) := by decide +kernel
theorem dX5_tell_32 : decode cX5_tell 32 = .ok (.getfield 18, 3) := by decide +kernel
theorem dX5_tell_35 : decode cX5_tell 35 = .ok (.aload_n 0, 1) := by decide +kernel
theorem dX5_tell_36 : decode cX5_tell 36 = .ok (.getfield 25, 3) := by decide +kernel
theorem dX5_tell_39 : decode cX5_tell 39 = .ok (.iload_n 3, 1) := by decide +kernel
theorem dX5_tell_40 : decode cX5_tell 40 = .ok (.bastore, 1) := by decide +kernel
theorem dX5_tell_41 : decode cX5_tell 41 = .ok (.aload_n 0, 1) := by decide +kernel
theorem dX5_tell_42 : decode cX5_tell 42 = .ok (.dup, 1) := by decide +kernel
theorem dX5_tell_43 : decode cX5_tell 43 = .ok (.getfield 25, 3) := by decide +kernel
theorem dX5_tell_46 : decode cX5_tell 46 = .ok (.iconst 1, 1) := by decide +kernel
theorem dX5_tell_47 : decode cX5_tell 47 = .ok (.iadd, 1) := by decide +kernel
theorem dX5_tell_48 : decode cX5_tell 48 = .ok (.putfield 25, 3) := by decide +kernel
theorem dX5_tell_51 : decode cX5_tell 51 = .ok (.iconst 1, 1) := by decide +kernel
theorem dX5_tell_52 : decode cX5_tell 52 = .ok (.ireturn, 1) := by decide +kernel
theorem dX5_dropLatestErrand_0 : decode cX5_dropLatestErrand 0 = .ok (.aload_n 0, 1) := by decide +kernel
theorem dX5_dropLatestErrand_1 : decode cX5_dropLatestErrand 1 = .ok (.getfield 25, 3) := by decide +kernel
theorem dX5_dropLatestErrand_4 : decode cX5_dropLatestErrand 4 = .ok (.ifCond .le 13, 3) := by decide +kernel
theorem dX5_dropLatestErrand_7 : decode cX5_dropLatestErrand 7 = .ok (.aload_n 0, 1) := by decide +kernel
theorem dX5_dropLatestErrand_8 : decode cX5_dropLatestErrand 8 = .ok (.dup, 1) := by decide +kernel
theorem dX5_dropLatestErrand_9 : decode cX5_dropLatestErrand 9 = .ok (.getfield 25, 3) := by decide +kernel
theorem dX5_dropLatestErrand_12 : decode cX5_dropLatestErrand 12 = .ok (.iconst 1, 1) := by decide +kernel
theorem dX5_dropLatestErrand_13 : decode cX5_dropLatestErrand 13 = .ok (.isub, 1) := by decide +kernel
theorem dX5_dropLatestErrand_14 : decode cX5_dropLatestErrand 14 = .ok (.putfield 25, 3) := by decide +kernel
theorem dX5_dropLatestErrand_17 : decode cX5_dropLatestErrand 17 = .ok (.return_, 1) := by decide +kernel
theorem dX5_copy_0 : decode cX5_copy 0 = .ok (.iconst 0, 1) := by decide +kernel
theorem dX5_copy_1 : decode cX5_copy 1 = .ok (.istore_n 2, 1) := by decide +kernel
theorem dX5_copy_2 : decode cX5_copy 2 = .ok (.iload_n 2, 1) := by decide +kernel
theorem dX5_copy_3 : decode cX5_copy 3 = .ok (.bipush 8, 2) := by decide +kernel
theorem dX5_copy_5 : decode cX5_copy 5 = .ok (.if_icmp .ge 45, 3) := by decide +kernel
theorem dX5_copy_8 : decode cX5_copy 8 = .ok (.aload_n 0, 1) := by decide +kernel
theorem dX5_copy_9 : decode cX5_copy 9 = .ok (.getfield 9, 3) := by decide +kernel
theorem dX5_copy_12 : decode cX5_copy 12 = .ok (.iload_n 2, 1) := by decide +kernel
theorem dX5_copy_13 : decode cX5_copy 13 = .ok (.aload_n 1, 1) := by decide +kernel
theorem dX5_copy_14 : decode cX5_copy 14 = .ok (.getfield 9, 3) := by decide +kernel
theorem dX5_copy_17 : decode cX5_copy 17 = .ok (.iload_n 2, 1) := by decide +kernel
theorem dX5_copy_18 : decode cX5_copy 18 = .ok (.iaload, 1) := by decide +kernel
theorem dX5_copy_19 : decode cX5_copy 19 = .ok (.iastore, 1) := by decide +kernel
theorem dX5_copy_20 : decode cX5_copy 20 = .ok (.aload_n 0, 1) := by decide +kernel
theorem dX5_copy_21 : decode cX5_copy 21 = .ok (.getfield 15, 3) := by decide +kernel
theorem dX5_copy_24 : decode cX5_copy 24 = .ok (.iload_n 2, 1) := by decide +kernel
theorem dX5_copy_25 : decode cX5_copy 25 = .ok (.aload_n 1, 1) := by decide +kernel
theorem dX5_copy_26 : decode cX5_copy 26 = .ok (.getfield 15, 3) := by decide +kernel
theorem dX5_copy_29 : decode cX5_copy 29 = .ok (.iload_n 2, 1) := by decide +kernel
theorem dX5_copy_30 : decode cX5_copy 30 = .ok (.iaload, 1) := by decide +kernel
theorem dX5_copy_31 : decode cX5_copy 31 = .ok (.iastore, 1) := by decide +kernel
theorem dX5_copy_32 : decode cX5_copy 32 = .ok (.aload_n 0, 1) := by decide +kernel
theorem dX5_copy_33 : decode cX5_copy 33 = .ok (.getfield 18, 3) := by decide +kernel
theorem dX5_copy_36 : decode cX5_copy 36 = .ok (.iload_n 2, 1) := by decide +kernel
theorem dX5_copy_37 : decode cX5_copy 37 = .ok (.aload_n 1, 1) := by decide +kernel
theorem dX5_copy_38 : decode cX5_copy 38 = .ok (.getfield 18, 3) := by decide +kernel
theorem dX5_copy_41 : decode cX5_copy 41 = .ok (.iload_n 2, 1) := by decide +kernel
theorem dX5_copy_42 : decode cX5_copy 42 = .ok (.baload, 1) := by decide +kernel
theorem dX5_copy_43 : decode cX5_copy 43 = .ok (.bastore, 1) := by decide +kernel
theorem dX5_copy_44 : decode cX5_copy 44 = .ok (.iinc 2 1, 3) := by decide +kernel
theorem dX5_copy_47 : decode cX5_copy 47 = .ok (.goto (-45), 3) := by decide +kernel
theorem dX5_copy_50 : decode cX5_copy 50 = .ok (.iconst 0, 1) := by decide +kernel
theorem dX5_copy_51 : decode cX5_copy 51 = .ok (.istore_n 2, 1) := by decide +kernel
theorem dX5_copy_52 : decode cX5_copy 52 = .ok (.iload_n 2, 1) := by decide +kernel
theorem dX5_copy_53 : decode cX5_copy 53 = .ok (.bipush 6, 2) := by decide +kernel
theorem dX5_copy_55 : decode cX5_copy 55 = .ok (.if_icmp .ge 21, 3) := by decide +kernel
theorem dX5_copy_58 : decode cX5_copy 58 = .ok (.aload_n 0, 1) := by decide +kernel
theorem dX5_copy_59 : decode cX5_copy 59 = .ok (.getfield 22, 3) := by decide +kernel
theorem dX5_copy_62 : decode cX5_copy 62 = .ok (.iload_n 2, 1) := by decide +kernel
theorem dX5_copy_63 : decode cX5_copy 63 = .ok (.aload_n 1, 1) := by decide +kernel
theorem dX5_copy_64 : decode cX5_copy 64 = .ok (.getfield 22, 3) := by decide +kernel
theorem dX5_copy_67 : decode cX5_copy 67 = .ok (.iload_n 2, 1) := by decide +kernel
theorem dX5_copy_68 : decode cX5_copy 68 = .ok (.iaload, 1) := by decide +kernel
theorem dX5_copy_69 : decode cX5_copy 69 = .ok (.iastore, 1) := by decide +kernel
theorem dX5_copy_70 : decode cX5_copy 70 = .ok (.iinc 2 1, 3) := by decide +kernel
theorem dX5_copy_73 : decode cX5_copy 73 = .ok (.goto (-21), 3) := by decide +kernel
theorem dX5_copy_76 : decode cX5_copy 76 = .ok (.aload_n 0, 1) := by decide +kernel
theorem dX5_copy_77 : decode cX5_copy 77 = .ok (.aload_n 1, 1) := by decide +kernel
theorem dX5_copy_78 : decode cX5_copy 78 = .ok (.getfield 25, 3) := by decide +kernel
theorem dX5_copy_81 : decode cX5_copy 81 = .ok (.putfield 25, 3) := by decide +kernel
theorem dX5_copy_84 : decode cX5_copy 84 = .ok (.return_, 1) := by decide +kernel
theorem dX6_init_0 : decode cX6_init 0 = .ok (.aload_n 0, 1) := by decide +kernel
theorem dX6_init_1 : decode cX6_init 1 = .ok (.invokespecial 3, 3) := by decide +kernel
theorem dX6_init_4 : decode cX6_init 4 = .ok (.aload_n 0, 1) := by decide +kernel
theorem dX6_init_5 : decode cX6_init 5 = .ok (.iconst 5, 1) := by decide +kernel
theorem dX6_init_6 : decode cX6_init 6 = .ok (.newarray .int, 2) := by decide +kernel
theorem dX6_init_8 : decode cX6_init 8 = .ok (.putfield 9, 3) := by decide +kernel
theorem dX6_init_11 : decode cX6_init 11 = .ok (.return_, 1) := by decide +kernel
theorem dX6_read_0 : decode cX6_read 0 = .ok (.aload_n 2, 1) := by decide +kernel
theorem dX6_read_1 : decode cX6_read 1 = .ok (.invokevirtual 15, 3) := by decide +kernel
theorem dX6_read_4 : decode cX6_read 4 = .ok (.aload_n 0, 1) := by decide +kernel
theorem dX6_read_5 : decode cX6_read 5 = .ok (.iconst 0, 1) := by decide +kernel
theorem dX6_read_6 : decode cX6_read 6 = .ok (.putfield 20, 3) := by decide +kernel
theorem dX6_read_9 : decode cX6_read 9 = .ok (.iconst 0, 1) := by decide +kernel
theorem dX6_read_10 : decode cX6_read 10 = .ok (.istore_n 3, 1) := by decide +kernel
theorem dX6_read_11 : decode cX6_read 11 = .ok (.iload_n 3, 1) := by decide +kernel
theorem dX6_read_12 : decode cX6_read 12 = .ok (.sipush 300, 3) := by decide +kernel
theorem dX6_read_15 : decode cX6_read 15 = .ok (.if_icmp .ge 61, 3) := by decide +kernel
theorem dX6_read_18 : decode cX6_read 18 = .ok (.aload_n 0, 1) := by decide +kernel
theorem dX6_read_19 : decode cX6_read 19 = .ok (.getfield 20, 3) := by decide +kernel
theorem dX6_read_22 : decode cX6_read 22 = .ok (.aload_n 1, 1) := by decide +kernel
theorem dX6_read_23 : decode cX6_read 23 = .ok (.getfield 24, 3) := by decide +kernel
theorem dX6_read_26 : decode cX6_read 26 = .ok (.if_icmp .ge 50, 3) := by decide +kernel
theorem dX6_read_29 : decode cX6_read 29 = .ok (.aload_n 0, 1) := by decide +kernel
theorem dX6_read_30 : decode cX6_read 30 = .ok (.getfield 20, 3) := by decide +kernel
theorem dX6_read_33 : decode cX6_read 33 = .ok (.istore 4, 2) := by decide +kernel
theorem dX6_read_35 : decode cX6_read 35 = .ok (.aload_n 0, 1) := by decide +kernel
theorem dX6_read_36 : decode cX6_read 36 = .ok (.dup, 1) := by decide +kernel
theorem dX6_read_37 : decode cX6_read 37 = .ok (.getfield 20, 3) := by decide +kernel
theorem dX6_read_40 : decode cX6_read 40 = .ok (.iconst 1, 1) := by decide +kernel
theorem dX6_read_41 : decode cX6_read 41 = .ok (.iadd, 1) := by decide +kernel
theorem dX6_read_42 : decode cX6_read 42 = .ok (.putfield 20, 3) := by decide +kernel
theorem dX6_read_45 : decode cX6_read 45 = .ok (.aload_n 0, 1) := by decide +kernel
theorem dX6_read_46 : decode cX6_read 46 = .ok (.aload_n 1, 1) := by decide +kernel
theorem dX6_read_47 : decode cX6_read 47 = .ok (.invokevirtual 29, 3) := by decide +kernel
theorem dX6_read_50 : decode cX6_read 50 = .ok (.ifCond .eq 17, 3) := by decide +kernel
theorem dX6_read_53 : decode cX6_read 53 = .ok (.aload_n 0, 1) := by decide +kernel
theorem dX6_read_54 : decode cX6_read 54 = .ok (.aload_n 1, 1) := by decide +kernel
theorem dX6_read_55 : decode cX6_read 55 = .ok (.iload 4, 2) := by decide +kernel
theorem dX6_read_57 : decode cX6_read 57 = .ok (.invokevirtual 33, 3) := by decide +kernel
theorem dX6_read_60 : decode cX6_read 60 = .ok (.aload_n 2, 1) := by decide +kernel
theorem dX6_read_61 : decode cX6_read 61 = .ok (.invokevirtual 37, 3) := by decide +kernel
theorem dX6_read_64 : decode cX6_read 64 = .ok (.ifCond .ne 6, 3) := by decide +kernel
theorem dX6_read_67 : decode cX6_read 67 = .ok (.iload 4, 2) := by decide +kernel
theorem dX6_read_69 : decode cX6_read 69 = .ok (.ireturn, 1) := by decide +kernel
theorem dX6_read_70 : decode cX6_read 70 = .ok (.iinc 3 1, 3) := by decide +kernel
theorem dX6_read_73 : decode cX6_read 73 = .ok (.goto (-62), 3) := by decide +kernel
theorem dX6_read_76 : decode cX6_read 76 = .ok (.bipush (-4), 2) := by decide +kernel
theorem dX6_read_78 : decode cX6_read 78 = .ok (.ireturn, 1) := by decide +kernel
theorem dX6_readNumbers_0 : decode cX6_readNumbers 0 = .ok (.aload_n 0, 1) := by decide +kernel
theorem dX6_readNumbers_1 : decode cX6_readNumbers 1 = .ok (.iconst 0, 1) := by decide +kernel
theorem dX6_readNumbers_2 : decode cX6_readNumbers 2 = .ok (.putfield 41, 3) := by decide +kernel
theorem dX6_readNumbers_5 : decode cX6_readNumbers 5 = .ok (.iconst 0, 1) := by decide +kernel
theorem dX6_readNumbers_6 : decode cX6_readNumbers 6 = .ok (.istore_n 2, 1) := by decide +kernel
theorem dX6_readNumbers_7 : decode cX6_readNumbers 7 = .ok (.iload_n 2, 1) := by decide +kernel
theorem dX6_readNumbers_8 : decode cX6_readNumbers 8 = .ok (.iconst 5, 1) := by decide +kernel
theorem dX6_readNumbers_9 : decode cX6_readNumbers 9 = .ok (.if_icmp .ge 54, 3) := by decide +kernel
theorem dX6_readNumbers_12 : decode cX6_readNumbers 12 = .ok (.aload_n 0, 1) := by decide +kernel
theorem dX6_readNumbers_13 : decode cX6_readNumbers 13 = .ok (.aload_n 1, 1) := by decide +kernel
theorem dX6_readNumbers_14 : decode cX6_readNumbers 14 = .ok (.invokevirtual 44, 3) := by decide +kernel
theorem dX6_readNumbers_17 : decode cX6_readNumbers 17 = .ok (.ifCond .ne 5, 3) := by decide +kernel
theorem dX6_readNumbers_20 : decode cX6_readNumbers 20 = .ok (.iconst 0, 1) := by decide +kernel
theorem dX6_readNumbers_21 : decode cX6_readNumbers 21 = .ok (.ireturn, 1) := by decide +kernel
theorem dX6_readNumbers_22 : decode cX6_readNumbers 22 = .ok (.aload_n 1, 1) := by decide +kernel
theorem dX6_readNumbers_23 : decode cX6_readNumbers 23 = .ok (.aload_n 0, 1) := by decide +kernel
theorem dX6_readNumbers_24 : decode cX6_readNumbers 24 = .ok (.getfield 20, 3) := by decide +kernel
theorem dX6_readNumbers_27 : decode cX6_readNumbers 27 = .ok (.invokevirtual 33, 3) := by decide +kernel
theorem dX6_readNumbers_30 : decode cX6_readNumbers 30 = .ok (.istore_n 3, 1) := by decide +kernel
theorem dX6_readNumbers_31 : decode cX6_readNumbers 31 = .ok (.aload_n 0, 1) := by decide +kernel
theorem dX6_readNumbers_32 : decode cX6_readNumbers 32 = .ok (.dup, 1) := by decide +kernel
theorem dX6_readNumbers_33 : decode cX6_readNumbers 33 = .ok (.getfield 20, 3) := by decide +kernel
theorem dX6_readNumbers_36 : decode cX6_readNumbers 36 = .ok (.iconst 1, 1) := by decide +kernel
theorem dX6_readNumbers_37 : decode cX6_readNumbers 37 = .ok (.iadd, 1) := by decide +kernel
theorem dX6_readNumbers_38 : decode cX6_readNumbers 38 = .ok (.putfield 20, 3) := by decide +kernel
theorem dX6_readNumbers_41 : decode cX6_readNumbers 41 = .ok (.iload_n 3, 1) := by decide +kernel
theorem dX6_readNumbers_42 : decode cX6_readNumbers 42 = .ok (.bipush 59, 2) := by decide +kernel
theorem dX6_readNumbers_44 : decode cX6_readNumbers 44 = .ok (.if_icmp .ne 5, 3) := by decide +kernel
theorem dX6_readNumbers_47 : decode cX6_readNumbers 47 = .ok (.iconst 1, 1) := by decide +kernel
theorem dX6_readNumbers_48 : decode cX6_readNumbers 48 = .ok (.ireturn, 1) := by decide +kernel
theorem dX6_readNumbers_49 : decode cX6_readNumbers 49 = .ok (.iload_n 3, 1) := by decide +kernel
theorem dX6_readNumbers_50 : decode cX6_readNumbers 50 = .ok (.bipush 44, 2) := by decide +kernel
theorem dX6_readNumbers_52 : decode cX6_readNumbers 52 = .ok (.if_icmp .eq 5, 3) := by decide +kernel
theorem dX6_readNumbers_55 : decode cX6_readNumbers 55 = .ok (.iconst 0, 1) := by decide +kernel
theorem dX6_readNumbers_56 : decode cX6_readNumbers 56 = .ok (.ireturn, 1) := by decide +kernel
theorem dX6_readNumbers_57 : decode cX6_readNumbers 57 = .ok (.iinc 2 1, 3) := by decide +kernel
theorem dX6_readNumbers_60 : decode cX6_readNumbers 60 = .ok (.goto (-53), 3) := by decide +kernel
theorem dX6_readNumbers_63 : decode cX6_readNumbers 63 = .ok (.iconst 0, 1) := by decide +kernel
theorem dX6_readNumbers_64 : decode cX6_readNumbers 64 = .ok (.ireturn, 1) := by decide +kernel
theorem dX6_readNumber_0 : decode cX6_readNumber 0 = .ok (.aload_n 1, 1) := by decide +kernel
theorem dX6_readNumber_1 : decode cX6_readNumber 1 = .ok (.aload_n 0, 1) := by decide +kernel
theorem dX6_readNumber_2 : decode cX6_readNumber 2 = .ok (.getfield 20, 3) := by decide +kernel
theorem dX6_readNumber_5 : decode cX6_readNumber 5 = .ok (.invokevirtual 33, 3) := by decide +kernel
theorem dX6_readNumber_8 : decode cX6_readNumber 8 = .ok (.invokestatic 47, 3) := by decide +kernel
theorem dX6_readNumber_11 : decode cX6_readNumber 11 = .ok (.ifCond .eq 11, 3) := by decide +kernel
theorem dX6_readNumber_14 : decode cX6_readNumber 14 = .ok (.aload_n 0, 1) := by decide +kernel
theorem dX6_readNumber_15 : decode cX6_readNumber 15 = .ok (.getfield 41, 3) := by decide +kernel
theorem dX6_readNumber_18 : decode cX6_readNumber 18 = .ok (.iconst 5, 1) := by decide +kernel
theorem dX6_readNumber_19 : decode cX6_readNumber 19 = .ok (.if_icmp .lt 5, 3) := by decide +kernel
theorem dX6_readNumber_22 : decode cX6_readNumber 22 = .ok (.iconst 0, 1) := by decide +kernel
theorem dX6_readNumber_23 : decode cX6_readNumber 23 = .ok (.ireturn, 1) := by decide +kernel
theorem dX6_readNumber_24 : decode cX6_readNumber 24 = .ok (.aload_n 1, 1) := by decide +kernel
theorem dX6_readNumber_25 : decode cX6_readNumber 25 = .ok (.aload_n 0, 1) := by decide +kernel
theorem dX6_readNumber_26 : decode cX6_readNumber 26 = .ok (.getfield 20, 3) := by decide +kernel
theorem dX6_readNumber_29 : decode cX6_readNumber 29 = .ok (.invokevirtual 33, 3) := by decide +kernel
theorem dX6_readNumber_32 : decode cX6_readNumber 32 = .ok (.bipush 48, 2) := by decide +kernel
theorem dX6_readNumber_34 : decode cX6_readNumber 34 = .ok (.isub, 1) := by decide +kernel
theorem dX6_readNumber_35 : decode cX6_readNumber 35 = .ok (.istore_n 2, 1) := by decide +kernel
theorem dX6_readNumber_36 : decode cX6_readNumber 36 = .ok (.aload_n 0, 1) := by decide +kernel
theorem dX6_readNumber_37 : decode cX6_readNumber 37 = .ok (.dup, 1) := by decide +kernel
theorem dX6_readNumber_38 : decode cX6_readNumber 38 = .ok (.getfield 20, 3) := by decide +kernel
theorem dX6_readNumber_41 : decode cX6_readNumber 41 = .ok (.iconst 1, 1) := by decide +kernel
theorem dX6_readNumber_42 : decode cX6_readNumber 42 = .ok (.iadd, 1) := by decide +kernel
theorem dX6_readNumber_43 : decode cX6_readNumber 43 = .ok (.putfield 20, 3) := by decide +kernel
theorem dX6_readNumber_46 : decode cX6_readNumber 46 = .ok (.aload_n 1, 1) := by decide +kernel
theorem dX6_readNumber_47 : decode cX6_readNumber 47 = .ok (.aload_n 0, 1) := by decide +kernel
theorem dX6_readNumber_48 : decode cX6_readNumber 48 = .ok (.getfield 20, 3) := by decide +kernel
theorem dX6_readNumber_51 : decode cX6_readNumber 51 = .ok (.invokevirtual 33, 3) := by decide +kernel
theorem dX6_readNumber_54 : decode cX6_readNumber 54 = .ok (.invokestatic 47, 3) := by decide +kernel
theorem dX6_readNumber_57 : decode cX6_readNumber 57 = .ok (.ifCond .eq 30, 3) := by decide +kernel
theorem dX6_readNumber_60 : decode cX6_readNumber 60 = .ok (.bipush 10, 2) := by decide +kernel
theorem dX6_readNumber_62 : decode cX6_readNumber 62 = .ok (.iload_n 2, 1) := by decide +kernel
theorem dX6_readNumber_63 : decode cX6_readNumber 63 = .ok (.imul, 1) := by decide +kernel
theorem dX6_readNumber_64 : decode cX6_readNumber 64 = .ok (.aload_n 1, 1) := by decide +kernel
theorem dX6_readNumber_65 : decode cX6_readNumber 65 = .ok (.aload_n 0, 1) := by decide +kernel
theorem dX6_readNumber_66 : decode cX6_readNumber 66 = .ok (.getfield 20, 3) := by decide +kernel
theorem dX6_readNumber_69 : decode cX6_readNumber 69 = .ok (.invokevirtual 33, 3) := by decide +kernel
theorem dX6_readNumber_72 : decode cX6_readNumber 72 = .ok (.iadd, 1) := by decide +kernel
theorem dX6_readNumber_73 : decode cX6_readNumber 73 = .ok (.bipush 48, 2) := by decide +kernel
theorem dX6_readNumber_75 : decode cX6_readNumber 75 = .ok (.isub, 1) := by decide +kernel
theorem dX6_readNumber_76 : decode cX6_readNumber 76 = .ok (.istore_n 2, 1) := by decide +kernel
theorem dX6_readNumber_77 : decode cX6_readNumber 77 = .ok (.aload_n 0, 1) := by decide +kernel
theorem dX6_readNumber_78 : decode cX6_readNumber 78 = .ok (.dup, 1) := by decide +kernel
theorem dX6_readNumber_79 : decode cX6_readNumber 79 = .ok (.getfield 20, 3) := by decide +kernel
theorem dX6_readNumber_82 : decode cX6_readNumber 82 = .ok (.iconst 1, 1) := by decide +kernel
theorem dX6_readNumber_83 : decode cX6_readNumber 83 = .ok (.iadd, 1) := by decide +kernel
theorem dX6_readNumber_84 : decode cX6_readNumber 84 = .ok (.putfield 20, 3) := by decide +kernel
theorem dX6_readNumber_87 : decode cX6_readNumber 87 = .ok (.aload_n 0, 1) := by decide +kernel
theorem dX6_readNumber_88 : decode cX6_readNumber 88 = .ok (.getfield 9, 3) := by decide +kernel
theorem dX6_readNumber_91 : decode cX6_readNumber 91 = .ok (.aload_n 0, 1) := by decide +kernel
theorem dX6_readNumber_92 : decode cX6_readNumber 92 = .ok (.getfield 41, 3) := by decide +kernel
theorem dX6_readNumber_95 : decode cX6_readNumber 95 = .ok (.iload_n 2, 1) := by decide +kernel
theorem dX6_readNumber_96 : decode cX6_readNumber 96 = .ok (.iastore, 1) := by decide +kernel
theorem dX6_readNumber_97 : decode cX6_readNumber 97 = .ok (.aload_n 0, 1) := by decide +kernel
theorem dX6_readNumber_98 : decode cX6_readNumber 98 = .ok (.dup, 1) := by decide +kernel
theorem dX6_readNumber_99 : decode cX6_readNumber 99 = .ok (.getfield 41, 3) := by decide +kernel
theorem dX6_readNumber_102 : decode cX6_readNumber 102 = .ok (.iconst 1, 1) := by decide +kernel
theorem dX6_readNumber_103 : decode cX6_readNumber 103 = .ok (.iadd, 1) := by decide +kernel
theorem dX6_readNumber_104 : decode cX6_readNumber 104 = .ok (.putfield 41, 3) := by decide +kernel
theorem dX6_readNumber_107 : decode cX6_readNumber 107 = .ok (.iconst 1, 1) := by decide +kernel
theorem dX6_readNumber_108 : decode cX6_readNumber 108 = .ok (.ireturn, 1) := by decide +kernel
theorem dX6_isFigure_0 : decode cX6_isFigure 0 = .ok (.iload_n 0, 1) := by decide +kernel
theorem dX6_isFigure_1 : decode cX6_isFigure 1 = .ok (.bipush 48, 2) := by decide +kernel
theorem dX6_isFigure_3 : decode cX6_isFigure 3 = .ok (.if_icmp .lt 13, 3) := by decide +kernel
theorem dX6_isFigure_6 : decode cX6_isFigure 6 = .ok (.iload_n 0, 1) := by decide +kernel
theorem dX6_isFigure_7 : decode cX6_isFigure 7 = .ok (.bipush 57, 2) := by decide +kernel
theorem dX6_isFigure_9 : decode cX6_isFigure 9 = .ok (.if_icmp .gt 7, 3) := by decide +kernel
theorem dX6_isFigure_12 : decode cX6_isFigure 12 = .ok (.iconst 1, 1) := by decide +kernel
theorem dX6_isFigure_13 : decode cX6_isFigure 13 = .ok (.goto 4, 3) := by decide +kernel
theorem dX6_isFigure_16 : decode cX6_isFigure 16 = .ok (.iconst 0, 1) := by decide +kernel
theorem dX6_isFigure_17 : decode cX6_isFigure 17 = .ok (.ireturn, 1) := by decide +kernel
theorem dX6_tell_0 : decode cX6_tell 0 = .ok (.iload_n 1, 1) := by decide +kernel
theorem dX6_tell_1 : decode cX6_tell 1 = .ok (.lookupswitch 199 #[(109, 127), (116, 76), (118, 43), (122, 166)], 43) := by decide +kernel
theorem dX6_tell_44 : decode cX6_tell 44 = .ok (.aload_n 0, 1) := by decide +kernel
theorem dX6_tell_45 : decode cX6_tell 45 = .ok (.getfield 41, 3) := by decide +kernel
theorem dX6_tell_48 : decode cX6_tell 48 = .ok (.iconst 2, 1) := by decide +kernel
theorem dX6_tell_49 : decode cX6_tell 49 = .ok (.if_icmp .ne 26, 3) := by decide +kernel
theorem dX6_tell_52 : decode cX6_tell 52 = .ok (.aload_n 2, 1) := by decide +kernel
theorem dX6_tell_53 : decode cX6_tell 53 = .ok (.aload_n 0, 1) := by decide +kernel
theorem dX6_tell_54 : decode cX6_tell 54 = .ok (.getfield 9, 3) := by decide +kernel
theorem dX6_tell_57 : decode cX6_tell 57 = .ok (.iconst 0, 1) := by decide +kernel
theorem dX6_tell_58 : decode cX6_tell 58 = .ok (.iaload, 1) := by decide +kernel
theorem dX6_tell_59 : decode cX6_tell 59 = .ok (.aload_n 0, 1) := by decide +kernel
theorem dX6_tell_60 : decode cX6_tell 60 = .ok (.getfield 9, 3) := by decide +kernel
theorem dX6_tell_63 : decode cX6_tell 63 = .ok (.iconst 1, 1) := by decide +kernel
theorem dX6_tell_64 : decode cX6_tell 64 = .ok (.iaload, 1) := by decide +kernel
theorem dX6_tell_65 : decode cX6_tell 65 = .ok (.invokevirtual 51, 3) := by decide +kernel
theorem dX6_tell_68 : decode cX6_tell 68 = .ok (.ifCond .eq 7, 3) := by decide +kernel
theorem dX6_tell_71 : decode cX6_tell 71 = .ok (.iconst 1, 1) := by decide +kernel
theorem dX6_tell_72 : decode cX6_tell 72 = .ok (.goto 4, 3) := by decide +kernel
theorem dX6_tell_75 : decode cX6_tell 75 = .ok (.iconst 0, 1) := by decide +kernel
theorem dX6_tell_76 : decode cX6_tell 76 = .ok (.ireturn, 1) := by decide +kernel
theorem dX6_tell_77 : decode cX6_tell 77 = .ok (.aload_n 0, 1) := by decide +kernel
theorem dX6_tell_78 : decode cX6_tell 78 = .ok (.getfield 41, 3) := by decide +kernel
theorem dX6_tell_81 : decode cX6_tell 81 = .ok (.iconst 5, 1) := by decide +kernel
theorem dX6_tell_82 : decode cX6_tell 82 = .ok (.if_icmp .ne 44, 3) := by decide +kernel
theorem dX6_tell_85 : decode cX6_tell 85 = .ok (.aload_n 2, 1) := by decide +kernel
theorem dX6_tell_86 : decode cX6_tell 86 = .ok (.aload_n 0, 1) := by decide +kernel
theorem dX6_tell_87 : decode cX6_tell 87 = .ok (.getfield 9, 3) := by decide +kernel
theorem dX6_tell_90 : decode cX6_tell 90 = .ok (.iconst 0, 1) := by decide +kernel
theorem dX6_tell_91 : decode cX6_tell 91 = .ok (.iaload, 1) := by decide +kernel
theorem dX6_tell_92 : decode cX6_tell 92 = .ok (.aload_n 0, 1) := by decide +kernel
theorem dX6_tell_93 : decode cX6_tell 93 = .ok (.getfield 9, 3) := by decide +kernel
theorem dX6_tell_96 : decode cX6_tell 96 = .ok (.iconst 1, 1) := by decide +kernel
theorem dX6_tell_97 : decode cX6_tell 97 = .ok (.iaload, 1) := by decide +kernel
theorem dX6_tell_98 : decode cX6_tell 98 = .ok (.aload_n 0, 1) := by decide +kernel
theorem dX6_tell_99 : decode cX6_tell 99 = .ok (.getfield 9, 3) := by decide +kernel
theorem dX6_tell_102 : decode cX6_tell 102 = .ok (.iconst 2, 1) := by decide +kernel
theorem dX6_tell_103 : decode cX6_tell 103 = .ok (.iaload, 1) := by decide +kernel
theorem dX6_tell_104 : decode cX6_tell 104 = .ok (.aload_n 0, 1) := by decide +kernel
theorem dX6_tell_105 : decode cX6_tell 105 = .ok (.getfield 9, 3) := by decide +kernel
theorem dX6_tell_108 : decode cX6_tell 108 = .ok (.iconst 3, 1) := by decide +kernel
theorem dX6_tell_109 : decode cX6_tell 109 = .ok (.iaload, 1) := by decide +kernel
theorem dX6_tell_110 : decode cX6_tell 110 = .ok (.aload_n 0, 1) := by decide +kernel
theorem dX6_tell_111 : decode cX6_tell 111 = .ok (.getfield 9, 3) := by decide +kernel
theorem dX6_tell_114 : decode cX6_tell 114 = .ok (.iconst 4, 1) := by decide +kernel
theorem dX6_tell_115 : decode cX6_tell 115 = .ok (.iaload, 1) := by decide +kernel
theorem dX6_tell_116 : decode cX6_tell 116 = .ok (.invokevirtual 55, 3) := by decide +kernel
theorem dX6_tell_119 : decode cX6_tell 119 = .ok (.ifCond .eq 7, 3) := by decide +kernel
theorem dX6_tell_122 : decode cX6_tell 122 = .ok (.iconst 1, 1) := by decide +kernel
theorem dX6_tell_123 : decode cX6_tell 123 = .ok (.goto 4, 3) := by decide +kernel
theorem dX6_tell_126 : decode cX6_tell 126 = .ok (.iconst 0, 1) := by decide +kernel
theorem dX6_tell_127 : decode cX6_tell 127 = .ok (.ireturn, 1) := by decide +kernel
theorem dX6_tell_128 : decode cX6_tell 128 = .ok (.aload_n 0, 1) := by decide +kernel
theorem dX6_tell_129 : decode cX6_tell 129 = .ok (.getfield 41, 3) := by decide +kernel
theorem dX6_tell_132 : decode cX6_tell 132 = .ok (.iconst 3, 1) := by decide +kernel
theorem dX6_tell_133 : decode cX6_tell 133 = .ok (.if_icmp .ne 32, 3) := by decide +kernel
theorem dX6_tell_136 : decode cX6_tell 136 = .ok (.aload_n 2, 1) := by decide +kernel
theorem dX6_tell_137 : decode cX6_tell 137 = .ok (.aload_n 0, 1) := by decide +kernel
theorem dX6_tell_138 : decode cX6_tell 138 = .ok (.getfield 9, 3) := by decide +kernel
theorem dX6_tell_141 : decode cX6_tell 141 = .ok (.iconst 0, 1) := by decide +kernel
theorem dX6_tell_142 : decode cX6_tell 142 = .ok (.iaload, 1) := by decide +kernel
theorem dX6_tell_143 : decode cX6_tell 143 = .ok (.aload_n 0, 1) := by decide +kernel
theorem dX6_tell_144 : decode cX6_tell 144 = .ok (.getfield 9, 3) := by decide +kernel
theorem dX6_tell_147 : decode cX6_tell 147 = .ok (.iconst 1, 1) := by decide +kernel
theorem dX6_tell_148 : decode cX6_tell 148 = .ok (.iaload, 1) := by decide +kernel
theorem dX6_tell_149 : decode cX6_tell 149 = .ok (.aload_n 0, 1) := by decide +kernel
theorem dX6_tell_150 : decode cX6_tell 150 = .ok (.getfield 9, 3) := by decide +kernel
theorem dX6_tell_153 : decode cX6_tell 153 = .ok (.iconst 2, 1) := by decide +kernel
theorem dX6_tell_154 : decode cX6_tell 154 = .ok (.iaload, 1) := by decide +kernel
theorem dX6_tell_155 : decode cX6_tell 155 = .ok (.invokevirtual 59, 3) := by decide +kernel
theorem dX6_tell_158 : decode cX6_tell 158 = .ok (.ifCond .eq 7, 3) := by decide +kernel
theorem dX6_tell_161 : decode cX6_tell 161 = .ok (.iconst 1, 1) := by decide +kernel
theorem dX6_tell_162 : decode cX6_tell 162 = .ok (.goto 4, 3) := by decide +kernel
theorem dX6_tell_165 : decode cX6_tell 165 = .ok (.iconst 0, 1) := by decide +kernel
theorem dX6_tell_166 : decode cX6_tell 166 = .ok (.ireturn, 1) := by decide +kernel
theorem dX6_tell_167 : decode cX6_tell 167 = .ok (.aload_n 0, 1) := by decide +kernel
theorem dX6_tell_168 : decode cX6_tell 168 = .ok (.getfield 41, 3) := by decide +kernel
theorem dX6_tell_171 : decode cX6_tell 171 = .ok (.iconst 2, 1) := by decide +kernel
theorem dX6_tell_172 : decode cX6_tell 172 = .ok (.if_icmp .ne 26, 3) := by decide +kernel
theorem dX6_tell_175 : decode cX6_tell 175 = .ok (.aload_n 2, 1) := by decide +kernel
theorem dX6_tell_176 : decode cX6_tell 176 = .ok (.aload_n 0, 1) := by decide +kernel
theorem dX6_tell_177 : decode cX6_tell 177 = .ok (.getfield 9, 3) := by decide +kernel
theorem dX6_tell_180 : decode cX6_tell 180 = .ok (.iconst 0, 1) := by decide +kernel
theorem dX6_tell_181 : decode cX6_tell 181 = .ok (.iaload, 1) := by decide +kernel
theorem dX6_tell_182 : decode cX6_tell 182 = .ok (.aload_n 0, 1) := by decide +kernel
theorem dX6_tell_183 : decode cX6_tell 183 = .ok (.getfield 9, 3) := by decide +kernel
theorem dX6_tell_186 : decode cX6_tell 186 = .ok (.iconst 1, 1) := by decide +kernel
theorem dX6_tell_187 : decode cX6_tell 187 = .ok (.iaload, 1) := by decide +kernel
theorem dX6_tell_188 : decode cX6_tell 188 = .ok (.invokevirtual 63, 3) := by decide +kernel
theorem dX6_tell_191 : decode cX6_tell 191 = .ok (.ifCond .eq 7, 3) := by decide +kernel
theorem dX6_tell_194 : decode cX6_tell 194 = .ok (.iconst 1, 1) := by decide +kernel
theorem dX6_tell_195 : decode cX6_tell 195 = .ok (.goto 4, 3) := by decide +kernel
theorem dX6_tell_198 : decode cX6_tell 198 = .ok (.iconst 0, 1) := by decide +kernel
theorem dX6_tell_199 : decode cX6_tell 199 = .ok (.ireturn, 1) := by decide +kernel
theorem dX6_tell_200 : decode cX6_tell 200 = .ok (.iconst 0, 1) := by decide +kernel
theorem dX6_tell_201 : decode cX6_tell 201 = .ok (.ireturn, 1) := by decide +kernel
theorem dX7_init_0 : decode cX7_init 0 = .ok (.aload_n 0, 1) := by decide +kernel
theorem dX7_init_1 : decode cX7_init 1 = .ok (.invokespecial 3, 3) := by decide +kernel
theorem dX7_init_4 : decode cX7_init 4 = .ok (.aload_n 0, 1) := by decide +kernel
theorem dX7_init_5 : decode cX7_init 5 = .ok (.iconst 2, 1) := by decide +kernel
theorem dX7_init_6 : decode cX7_init 6 = .ok (.anewarray 9, 3) := by decide +kernel
theorem dX7_init_9 : decode cX7_init 9 = .ok (.putfield 11, 3) := by decide +kernel
theorem dX7_init_12 : decode cX7_init 12 = .ok (.iconst 0, 1) := by decide +kernel
theorem dX7_init_13 : decode cX7_init 13 = .ok (.istore_n 1, 1) := by decide +kernel
theorem dX7_init_14 : decode cX7_init 14 = .ok (.iload_n 1, 1) := by decide +kernel
theorem dX7_init_15 : decode cX7_init 15 = .ok (.iconst 2, 1) := by decide +kernel
theorem dX7_init_16 : decode cX7_init 16 = .ok (.if_icmp .ge 22, 3) := by decide +kernel
theorem dX7_init_19 : decode cX7_init 19 = .ok (.aload_n 0, 1) := by decide +kernel
theorem dX7_init_20 : decode cX7_init 20 = .ok (.getfield 11, 3) := by decide +kernel
theorem dX7_init_23 : decode cX7_init 23 = .ok (.iload_n 1, 1) := by decide +kernel
theorem dX7_init_24 : decode cX7_init 24 = .ok (.new 9, 3) := by decide +kernel
theorem dX7_init_27 : decode cX7_init 27 = .ok (.dup, 1) := by decide +kernel
theorem dX7_init_28 : decode cX7_init 28 = .ok (.invokespecial 17, 3) := by decide +kernel
theorem dX7_init_31 : decode cX7_init 31 = .ok (.aastore, 1) := by decide +kernel
theorem dX7_init_32 : decode cX7_init 32 = .ok (.iinc 1 1, 3) := by decide +kernel
theorem dX7_init_35 : decode cX7_init 35 = .ok (.goto (-21), 3) := by decide +kernel
theorem dX7_init_38 : decode cX7_init 38 = .ok (.return_, 1) := by decide +kernel
theorem dX7_clear_0 : decode cX7_clear 0 = .ok (.aload_n 0, 1) := by decide +kernel
theorem dX7_clear_1 : decode cX7_clear 1 = .ok (.iconst 0, 1) := by decide +kernel
theorem dX7_clear_2 : decode cX7_clear 2 = .ok (.putfield 18, 3) := by decide +kernel
theorem dX7_clear_5 : decode cX7_clear 5 = .ok (.return_, 1) := by decide +kernel
theorem dX7_put_0 : decode cX7_put 0 = .ok (.aload_n 0, 1) := by decide +kernel
theorem dX7_put_1 : decode cX7_put 1 = .ok (.getfield 18, 3) := by decide +kernel
theorem dX7_put_4 : decode cX7_put 4 = .ok (.iconst 2, 1) := by decide +kernel
theorem dX7_put_5 : decode cX7_put 5 = .ok (.if_icmp .lt 5, 3) := by decide +kernel
theorem dX7_put_8 : decode cX7_put 8 = .ok (.iconst 0, 1) := by decide +kernel
theorem dX7_put_9 : decode cX7_put 9 = .ok (.ireturn, 1) := by decide +kernel
theorem dX7_put_10 : decode cX7_put 10 = .ok (.aload_n 0, 1) := by decide +kernel
theorem dX7_put_11 : decode cX7_put 11 = .ok (.getfield 11, 3) := by decide +kernel
theorem dX7_put_14 : decode cX7_put 14 = .ok (.aload_n 0, 1) := by decide +kernel
theorem dX7_put_15 : decode cX7_put 15 = .ok (.getfield 18, 3) := by decide +kernel
theorem dX7_put_18 : decode cX7_put 18 = .ok (.aaload, 1) := by decide +kernel
theorem dX7_put_19 : decode cX7_put 19 = .ok (.aload_n 1, 1) := by decide +kernel
theorem dX7_put_20 : decode cX7_put 20 = .ok (.invokevirtual 22, 3) := by decide +kernel
theorem dX7_put_23 : decode cX7_put 23 = .ok (.aload_n 0, 1) := by decide +kernel
theorem dX7_put_24 : decode cX7_put 24 = .ok (.dup, 1) := by decide +kernel
theorem dX7_put_25 : decode cX7_put 25 = .ok (.getfield 18, 3) := by decide +kernel
theorem dX7_put_28 : decode cX7_put 28 = .ok (.iconst 1, 1) := by decide +kernel
theorem dX7_put_29 : decode cX7_put 29 = .ok (.iadd, 1) := by decide +kernel
theorem dX7_put_30 : decode cX7_put 30 = .ok (.putfield 18, 3) := by decide +kernel
theorem dX7_put_33 : decode cX7_put 33 = .ok (.iconst 1, 1) := by decide +kernel
theorem dX7_put_34 : decode cX7_put 34 = .ok (.ireturn, 1) := by decide +kernel
theorem dX7_take_0 : decode cX7_take 0 = .ok (.aload_n 0, 1) := by decide +kernel
theorem dX7_take_1 : decode cX7_take 1 = .ok (.getfield 18, 3) := by decide +kernel
theorem dX7_take_4 : decode cX7_take 4 = .ok (.ifCond .gt 5, 3) := by decide +kernel
theorem dX7_take_7 : decode cX7_take 7 = .ok (.iconst 0, 1) := by decide +kernel
theorem dX7_take_8 : decode cX7_take 8 = .ok (.ireturn, 1) := by decide +kernel
theorem dX7_take_9 : decode cX7_take 9 = .ok (.aload_n 0, 1) := by decide +kernel
theorem dX7_take_10 : decode cX7_take 10 = .ok (.dup, 1) := by decide +kernel
theorem dX7_take_11 : decode cX7_take 11 = .ok (.getfield 18, 3) := by decide +kernel
theorem dX7_take_14 : decode cX7_take 14 = .ok (.iconst 1, 1) := by decide +kernel
theorem dX7_take_15 : decode cX7_take 15 = .ok (.isub, 1) := by decide +kernel
theorem dX7_take_16 : decode cX7_take 16 = .ok (.putfield 18, 3) := by decide +kernel
theorem dX7_take_19 : decode cX7_take 19 = .ok (.aload_n 1, 1) := by decide +kernel
theorem dX7_take_20 : decode cX7_take 20 = .ok (.aload_n 0, 1) := by decide +kernel
theorem dX7_take_21 : decode cX7_take 21 = .ok (.getfield 11, 3) := by decide +kernel
theorem dX7_take_24 : decode cX7_take 24 = .ok (.aload_n 0, 1) := by decide +kernel
theorem dX7_take_25 : decode cX7_take 25 = .ok (.getfield 18, 3) := by decide +kernel
theorem dX7_take_28 : decode cX7_take 28 = .ok (.aaload, 1) := by decide +kernel
theorem dX7_take_29 : decode cX7_take 29 = .ok (.invokevirtual 22, 3) := by decide +kernel
theorem dX7_take_32 : decode cX7_take 32 = .ok (.iconst 1, 1) := by decide +kernel
theorem dX7_take_33 : decode cX7_take 33 = .ok (.ireturn, 1) := by decide +kernel
theorem dX8_init_0 : decode cX8_init 0 = .ok (.aload_n 0, 1) := by decide +kernel
theorem dX8_init_1 : decode cX8_init 1 = .ok (.invokespecial 3, 3) := by decide +kernel
theorem dX8_init_4 : decode cX8_init 4 = .ok (.aload_n 0, 1) := by decide +kernel
theorem dX8_init_5 : decode cX8_init 5 = .ok (.bipush 6, 2) := by decide +kernel
theorem dX8_init_7 : decode cX8_init 7 = .ok (.newarray .int, 2) := by decide +kernel
theorem dX8_init_9 : decode cX8_init 9 = .ok (.putfield 9, 3) := by decide +kernel
theorem dX8_init_12 : decode cX8_init 12 = .ok (.aload_n 0, 1) := by decide +kernel
theorem dX8_init_13 : decode cX8_init 13 = .ok (.bipush 6, 2) := by decide +kernel
theorem dX8_init_15 : decode cX8_init 15 = .ok (.newarray .int, 2) := by decide +kernel
theorem dX8_init_17 : decode cX8_init 17 = .ok (.putfield 15, 3) := by decide +kernel
theorem dX8_init_20 : decode cX8_init 20 = .ok (.aload_n 0, 1) := by decide +kernel
theorem dX8_init_21 : decode cX8_init 21 = .ok (.bipush 6, 2) := by decide +kernel
theorem dX8_init_23 : decode cX8_init 23 = .ok (.newarray .int, 2) := by decide +kernel
theorem dX8_init_25 : decode cX8_init 25 = .ok (.putfield 18, 3) := by decide +kernel
theorem dX8_init_28 : decode cX8_init 28 = .ok (.aload_n 0, 1) := by decide +kernel
theorem dX8_init_29 : decode cX8_init 29 = .ok (.bipush 6, 2) := by decide +kernel
theorem dX8_init_31 : decode cX8_init 31 = .ok (.newarray .int, 2) := by decide +kernel
theorem dX8_init_33 : decode cX8_init 33 = .ok (.putfield 21, 3) := by decide +kernel
theorem dX8_init_36 : decode cX8_init 36 = .ok (.aload_n 0, 1) := by decide +kernel
theorem dX8_init_37 : decode cX8_init 37 = .ok (.bipush 6, 2) := by decide +kernel
theorem dX8_init_39 : decode cX8_init 39 = .ok (.newarray .int, 2) := by decide +kernel
theorem dX8_init_41 : decode cX8_init 41 = .ok (.putfield 24, 3) := by decide +kernel
theorem dX8_init_44 : decode cX8_init 44 = .ok (.aload_n 0, 1) := by decide +kernel
theorem dX8_init_45 : decode cX8_init 45 = .ok (.bipush 6, 2) := by decide +kernel
theorem dX8_init_47 : decode cX8_init 47 = .ok (.newarray .int, 2) := by decide +kernel
theorem dX8_init_49 : decode cX8_init 49 = .ok (.putfield 27, 3) := by decide +kernel
theorem dX8_init_52 : decode cX8_init 52 = .ok (.aload_n 0, 1) := by decide +kernel
theorem dX8_init_53 : decode cX8_init 53 = .ok (.iconst 5, 1) := by decide +kernel
theorem dX8_init_54 : decode cX8_init 54 = .ok (.newarray .int, 2) := by decide +kernel
theorem dX8_init_56 : decode cX8_init 56 = .ok (.putfield 30, 3) := by decide +kernel
theorem dX8_init_59 : decode cX8_init 59 = .ok (.aload_n 0, 1) := by decide +kernel
theorem dX8_init_60 : decode cX8_init 60 = .ok (.iconst 5, 1) := by decide +kernel
theorem dX8_init_61 : decode cX8_init 61 = .ok (.newarray .int, 2) := by decide +kernel
theorem dX8_init_63 : decode cX8_init 63 = .ok (.putfield 33, 3) := by decide +kernel
theorem dX8_init_66 : decode cX8_init 66 = .ok (.aload_n 0, 1) := by decide +kernel
theorem dX8_init_67 : decode cX8_init 67 = .ok (.new 36, 3) := by decide +kernel
theorem dX8_init_70 : decode cX8_init 70 = .ok (.dup, 1) := by decide +kernel
theorem dX8_init_71 : decode cX8_init 71 = .ok (.invokespecial 38, 3) := by decide +kernel
theorem dX8_init_74 : decode cX8_init 74 = .ok (.putfield 39, 3) := by decide +kernel
theorem dX8_init_77 : decode cX8_init 77 = .ok (.return_, 1) := by decide +kernel
theorem dX8_clear_0 : decode cX8_clear 0 = .ok (.aload_n 0, 1) := by decide +kernel
theorem dX8_clear_1 : decode cX8_clear 1 = .ok (.iconst 0, 1) := by decide +kernel
theorem dX8_clear_2 : decode cX8_clear 2 = .ok (.putfield 43, 3) := by decide +kernel
theorem dX8_clear_5 : decode cX8_clear 5 = .ok (.aload_n 0, 1) := by decide +kernel
theorem dX8_clear_6 : decode cX8_clear 6 = .ok (.iconst 0, 1) := by decide +kernel
theorem dX8_clear_7 : decode cX8_clear 7 = .ok (.putfield 47, 3) := by decide +kernel
theorem dX8_clear_10 : decode cX8_clear 10 = .ok (.aload_n 0, 1) := by decide +kernel
theorem dX8_clear_11 : decode cX8_clear 11 = .ok (.iconst 0, 1) := by decide +kernel
theorem dX8_clear_12 : decode cX8_clear 12 = .ok (.putfield 50, 3) := by decide +kernel
theorem dX8_clear_15 : decode cX8_clear 15 = .ok (.aload_n 0, 1) := by decide +kernel
theorem dX8_clear_16 : decode cX8_clear 16 = .ok (.getfield 39, 3) := by decide +kernel
theorem dX8_clear_19 : decode cX8_clear 19 = .ok (.iconst 0, 1) := by decide +kernel
theorem dX8_clear_20 : decode cX8_clear 20 = .ok (.putfield 53, 3) := by decide +kernel
theorem dX8_clear_23 : decode cX8_clear 23 = .ok (.return_, 1) := by decide +kernel
theorem dX8_addLevel_0 : decode cX8_addLevel 0 = .ok (.aload_n 0, 1) := by decide +kernel
theorem dX8_addLevel_1 : decode cX8_addLevel 1 = .ok (.getfield 43, 3) := by decide +kernel
theorem dX8_addLevel_4 : decode cX8_addLevel 4 = .ok (.bipush 6, 2) := by decide +kernel
theorem dX8_addLevel_6 : decode cX8_addLevel 6 = .ok (.if_icmp .ge 22, 3) := by decide +kernel
theorem dX8_addLevel_9 : decode cX8_addLevel 9 = .ok (.iload_n 1, 1) := by decide +kernel
theorem dX8_addLevel_10 : decode cX8_addLevel 10 = .ok (.iconst 0, 1) := by decide +kernel
theorem dX8_addLevel_11 : decode cX8_addLevel 11 = .ok (.bipush 23, 2) := by decide +kernel
theorem dX8_addLevel_13 : decode cX8_addLevel 13 = .ok (.invokestatic 56, 3) := by decide +kernel
theorem dX8_addLevel_16 : decode cX8_addLevel 16 = .ok (.ifCond .eq 12, 3) := by decide +kernel
theorem dX8_addLevel_19 : decode cX8_addLevel 19 = .ok (.iload_n 2, 1) := by decide +kernel
theorem dX8_addLevel_20 : decode cX8_addLevel 20 = .ok (.iconst 0, 1) := by decide +kernel
theorem dX8_addLevel_21 : decode cX8_addLevel 21 = .ok (.iconst 1, 1) := by decide +kernel
theorem dX8_addLevel_22 : decode cX8_addLevel 22 = .ok (.invokestatic 56, 3) := by decide +kernel
theorem dX8_addLevel_25 : decode cX8_addLevel 25 = .ok (.ifCond .ne 5, 3) := by decide +kernel
theorem dX8_addLevel_28 : decode cX8_addLevel 28 = .ok (.iconst 0, 1) := by decide +kernel
theorem dX8_addLevel_29 : decode cX8_addLevel 29 = .ok (.ireturn, 1) := by decide +kernel
theorem dX8_addLevel_30 : decode cX8_addLevel 30 = .ok (.aload_n 0, 1) := by decide +kernel
theorem dX8_addLevel_31 : decode cX8_addLevel 31 = .ok (.getfield 9, 3) := by decide +kernel
theorem dX8_addLevel_34 : decode cX8_addLevel 34 = .ok (.aload_n 0, 1) := by decide +kernel
theorem dX8_addLevel_35 : decode cX8_addLevel 35 = .ok (.getfield 43, 3) := by decide +kernel
theorem dX8_addLevel_38 : decode cX8_addLevel 38 = .ok (.iload_n 1, 1) := by decide +kernel
theorem dX8_addLevel_39 : decode cX8_addLevel 39 = .ok (.iastore, 1) := by decide +kernel
theorem dX8_addLevel_40 : decode cX8_addLevel 40 = .ok (.aload_n 0, 1) := by decide +kernel
theorem dX8_addLevel_41 : decode cX8_addLevel 41 = .ok (.getfield 15, 3) := by decide +kernel
theorem dX8_addLevel_44 : decode cX8_addLevel 44 = .ok (.aload_n 0, 1) := by decide +kernel
theorem dX8_addLevel_45 : decode cX8_addLevel 45 = .ok (.getfield 43, 3) := by decide +kernel
theorem dX8_addLevel_48 : decode cX8_addLevel 48 = .ok (.iload_n 2, 1) := by decide +kernel
theorem dX8_addLevel_49 : decode cX8_addLevel 49 = .ok (.iastore, 1) := by decide +kernel
theorem dX8_addLevel_50 : decode cX8_addLevel 50 = .ok (.aload_n 0, 1) := by decide +kernel
theorem dX8_addLevel_51 : decode cX8_addLevel 51 = .ok (.dup, 1) := by decide +kernel
theorem dX8_addLevel_52 : decode cX8_addLevel 52 = .ok (.getfield 43, 3) := by decide +kernel
theorem dX8_addLevel_55 : decode cX8_addLevel 55 = .ok (.iconst 1, 1) := by decide +kernel
theorem dX8_addLevel_56 : decode cX8_addLevel 56 = .ok (.iadd, 1) := by decide +kernel
theorem dX8_addLevel_57 : decode cX8_addLevel 57 = .ok (.putfield 43, 3) := by decide +kernel
theorem dX8_addLevel_60 : decode cX8_addLevel 60 = .ok (.iconst 1, 1) := by decide +kernel
theorem dX8_addLevel_61 : decode cX8_addLevel 61 = .ok (.ireturn, 1) := by decide +kernel
theorem dX8_addTown_0 : decode cX8_addTown 0 = .ok (.aload_n 0, 1) := by decide +kernel
theorem dX8_addTown_1 : decode cX8_addTown 1 = .ok (.getfield 47, 3) := by decide +kernel
theorem dX8_addTown_4 : decode cX8_addTown 4 = .ok (.bipush 6, 2) := by decide +kernel
theorem dX8_addTown_6 : decode cX8_addTown 6 = .ok (.if_icmp .ge 19, 3) := by decide +kernel
theorem dX8_addTown_9 : decode cX8_addTown 9 = .ok (.iload_n 1, 1) := by decide +kernel
theorem dX8_addTown_10 : decode cX8_addTown 10 = .ok (.iconst 0, 1) := by decide +kernel
theorem dX8_addTown_11 : decode cX8_addTown 11 = .ok (.iconst 5, 1) := by decide +kernel
theorem dX8_addTown_12 : decode cX8_addTown 12 = .ok (.invokestatic 56, 3) := by decide +kernel
theorem dX8_addTown_15 : decode cX8_addTown 15 = .ok (.ifCond .eq 10, 3) := by decide +kernel
theorem dX8_addTown_18 : decode cX8_addTown 18 = .ok (.iload_n 2, 1) := by decide +kernel
theorem dX8_addTown_19 : decode cX8_addTown 19 = .ok (.invokestatic 60, 3) := by decide +kernel
theorem dX8_addTown_22 : decode cX8_addTown 22 = .ok (.ifCond .ne 5, 3) := by decide +kernel
theorem dX8_addTown_25 : decode cX8_addTown 25 = .ok (.iconst 0, 1) := by decide +kernel
theorem dX8_addTown_26 : decode cX8_addTown 26 = .ok (.ireturn, 1) := by decide +kernel
theorem dX8_addTown_27 : decode cX8_addTown 27 = .ok (.iload_n 3, 1) := by decide +kernel
theorem dX8_addTown_28 : decode cX8_addTown 28 = .ok (.iconst 0, 1) := by decide +kernel
theorem dX8_addTown_29 : decode cX8_addTown 29 = .ok (.bipush 60, 2) := by decide +kernel
theorem dX8_addTown_31 : decode cX8_addTown 31 = .ok (.invokestatic 56, 3) := by decide +kernel
theorem dX8_addTown_34 : decode cX8_addTown 34 = .ok (.ifCond .eq 24, 3) := by decide +kernel
theorem dX8_addTown_37 : decode cX8_addTown 37 = .ok (.iload 4, 2) := by decide +kernel
theorem dX8_addTown_39 : decode cX8_addTown 39 = .ok (.iconst 1, 1) := by decide +kernel
theorem dX8_addTown_40 : decode cX8_addTown 40 = .ok (.bipush 9, 2) := by decide +kernel
theorem dX8_addTown_42 : decode cX8_addTown 42 = .ok (.invokestatic 56, 3) := by decide +kernel
theorem dX8_addTown_45 : decode cX8_addTown 45 = .ok (.ifCond .eq 13, 3) := by decide +kernel
theorem dX8_addTown_48 : decode cX8_addTown 48 = .ok (.iload 5, 2) := by decide +kernel
theorem dX8_addTown_50 : decode cX8_addTown 50 = .ok (.iconst 0, 1) := by decide +kernel
theorem dX8_addTown_51 : decode cX8_addTown 51 = .ok (.iconst 3, 1) := by decide +kernel
theorem dX8_addTown_52 : decode cX8_addTown 52 = .ok (.invokestatic 56, 3) := by decide +kernel
theorem dX8_addTown_55 : decode cX8_addTown 55 = .ok (.ifCond .ne 5, 3) := by decide +kernel
theorem dX8_addTown_58 : decode cX8_addTown 58 = .ok (.iconst 0, 1) := by decide +kernel
theorem dX8_addTown_59 : decode cX8_addTown 59 = .ok (.ireturn, 1) := by decide +kernel
theorem dX8_addTown_60 : decode cX8_addTown 60 = .ok (.aload_n 0, 1) := by decide +kernel
theorem dX8_addTown_61 : decode cX8_addTown 61 = .ok (.getfield 18, 3) := by decide +kernel
theorem dX8_addTown_64 : decode cX8_addTown 64 = .ok (.aload_n 0, 1) := by decide +kernel
theorem dX8_addTown_65 : decode cX8_addTown 65 = .ok (.getfield 47, 3) := by decide +kernel
theorem dX8_addTown_68 : decode cX8_addTown 68 = .ok (.iload_n 1, 1) := by decide +kernel
theorem dX8_addTown_69 : decode cX8_addTown 69 = .ok (.iastore, 1) := by decide +kernel
theorem dX8_addTown_70 : decode cX8_addTown 70 = .ok (.aload_n 0, 1) := by decide +kernel
theorem dX8_addTown_71 : decode cX8_addTown 71 = .ok (.getfield 21, 3) := by decide +kernel
theorem dX8_addTown_74 : decode cX8_addTown 74 = .ok (.aload_n 0, 1) := by decide +kernel
theorem dX8_addTown_75 : decode cX8_addTown 75 = .ok (.getfield 47, 3) := by decide +kernel
theorem dX8_addTown_78 : decode cX8_addTown 78 = .ok (.iload_n 2, 1) := by decide +kernel
theorem dX8_addTown_79 : decode cX8_addTown 79 = .ok (.iastore, 1) := by decide +kernel
theorem dX8_addTown_80 : decode cX8_addTown 80 = .ok (.aload_n 0, 1) := by decide +kernel
theorem dX8_addTown_81 : decode cX8_addTown 81 = .ok (.getfield 39, 3) := by decide +kernel
theorem dX8_addTown_84 : decode cX8_addTown 84 = .ok (.getfield 64, 3) := by decide +kernel
theorem dX8_addTown_87 : decode cX8_addTown 87 = .ok (.aload_n 0, 1) := by decide +kernel
theorem dX8_addTown_88 : decode cX8_addTown 88 = .ok (.getfield 47, 3) := by decide +kernel
theorem dX8_addTown_91 : decode cX8_addTown 91 = .ok (.iload_n 3, 1) := by decide +kernel
theorem dX8_addTown_92 : decode cX8_addTown 92 = .ok (.iastore, 1) := by decide +kernel
theorem dX8_addTown_93 : decode cX8_addTown 93 = .ok (.aload_n 0, 1) := by decide +kernel
theorem dX8_addTown_94 : decode cX8_addTown 94 = .ok (.getfield 24, 3) := by decide +kernel
theorem dX8_addTown_97 : decode cX8_addTown 97 = .ok (.aload_n 0, 1) := by decide +kernel
theorem dX8_addTown_98 : decode cX8_addTown 98 = .ok (.getfield 47, 3) := by decide +kernel
theorem dX8_addTown_101 : decode cX8_addTown 101 = .ok (.iload 4, 2) := by decide +kernel
theorem dX8_addTown_103 : decode cX8_addTown 103 = .ok (.iastore, 1) := by decide +kernel
theorem dX8_addTown_104 : decode cX8_addTown 104 = .ok (.aload_n 0, 1) := by decide +kernel
theorem dX8_addTown_105 : decode cX8_addTown 105 = .ok (.getfield 27, 3) := by decide +kernel
theorem dX8_addTown_108 : decode cX8_addTown 108 = .ok (.aload_n 0, 1) := by decide +kernel
theorem dX8_addTown_109 : decode cX8_addTown 109 = .ok (.getfield 47, 3) := by decide +kernel
theorem dX8_addTown_112 : decode cX8_addTown 112 = .ok (.iload 5, 2) := by decide +kernel
theorem dX8_addTown_114 : decode cX8_addTown 114 = .ok (.iastore, 1) := by decide +kernel
theorem dX8_addTown_115 : decode cX8_addTown 115 = .ok (.aload_n 0, 1) := by decide +kernel
theorem dX8_addTown_116 : decode cX8_addTown 116 = .ok (.dup, 1) := by decide +kernel
theorem dX8_addTown_117 : decode cX8_addTown 117 = .ok (.getfield 47, 3) := by decide +kernel
theorem dX8_addTown_120 : decode cX8_addTown 120 = .ok (.iconst 1, 1) := by decide +kernel
theorem dX8_addTown_121 : decode cX8_addTown 121 = .ok (.iadd, 1) := by decide +kernel
theorem dX8_addTown_122 : decode cX8_addTown 122 = .ok (.putfield 47, 3) := by decide +kernel
theorem dX8_addTown_125 : decode cX8_addTown 125 = .ok (.iconst 1, 1) := by decide +kernel
theorem dX8_addTown_126 : decode cX8_addTown 126 = .ok (.ireturn, 1) := by decide +kernel
theorem dX8_addErrand_0 : decode cX8_addErrand 0 = .ok (.iload_n 1, 1) := by decide +kernel
theorem dX8_addErrand_1 : decode cX8_addErrand 1 = .ok (.iconst 0, 1) := by decide +kernel
theorem dX8_addErrand_2 : decode cX8_addErrand 2 = .ok (.aload_n 0, 1) := by decide +kernel
theorem dX8_addErrand_3 : decode cX8_addErrand 3 = .ok (.getfield 47, 3) := by decide +kernel
theorem dX8_addErrand_6 : decode cX8_addErrand 6 = .ok (.iconst 1, 1) := by decide +kernel
theorem dX8_addErrand_7 : decode cX8_addErrand 7 = .ok (.isub, 1) := by decide +kernel
theorem dX8_addErrand_8 : decode cX8_addErrand 8 = .ok (.invokestatic 56, 3) := by decide +kernel
theorem dX8_addErrand_11 : decode cX8_addErrand 11 = .ok (.ifCond .eq 22, 3) := by decide +kernel
theorem dX8_addErrand_14 : decode cX8_addErrand 14 = .ok (.iload_n 2, 1) := by decide +kernel
theorem dX8_addErrand_15 : decode cX8_addErrand 15 = .ok (.iconst 1, 1) := by decide +kernel
theorem dX8_addErrand_16 : decode cX8_addErrand 16 = .ok (.bipush 60, 2) := by decide +kernel
theorem dX8_addErrand_18 : decode cX8_addErrand 18 = .ok (.invokestatic 56, 3) := by decide +kernel
theorem dX8_addErrand_21 : decode cX8_addErrand 21 = .ok (.ifCond .eq 12, 3) := by decide +kernel
theorem dX8_addErrand_24 : decode cX8_addErrand 24 = .ok (.iload_n 3, 1) := by decide +kernel
theorem dX8_addErrand_25 : decode cX8_addErrand 25 = .ok (.iconst 0, 1) := by decide +kernel
theorem dX8_addErrand_26 : decode cX8_addErrand 26 = .ok (.iconst 1, 1) := by decide +kernel
theorem dX8_addErrand_27 : decode cX8_addErrand 27 = .ok (.invokestatic 56, 3) := by decide +kernel
theorem dX8_addErrand_30 : decode cX8_addErrand 30 = .ok (.ifCond .ne 5, 3) := by decide +kernel
theorem dX8_addErrand_33 : decode cX8_addErrand 33 = .ok (.iconst 0, 1) := by decide +kernel
theorem dX8_addErrand_34 : decode cX8_addErrand 34 = .ok (.ireturn, 1) := by decide +kernel
theorem dX8_addErrand_35 : decode cX8_addErrand 35 = .ok (.aload_n 0, 1) := by decide +kernel
theorem dX8_addErrand_36 : decode cX8_addErrand 36 = .ok (.getfield 39, 3) := by decide +kernel
theorem dX8_addErrand_39 : decode cX8_addErrand 39 = .ok (.iload_n 1, 1) := by decide +kernel
theorem dX8_addErrand_40 : decode cX8_addErrand 40 = .ok (.iload_n 2, 1) := by decide +kernel
theorem dX8_addErrand_41 : decode cX8_addErrand 41 = .ok (.iload_n 3, 1) := by decide +kernel
theorem dX8_addErrand_42 : decode cX8_addErrand 42 = .ok (.iconst 1, 1) := by decide +kernel
theorem dX8_addErrand_43 : decode cX8_addErrand 43 = .ok (.if_icmp .ne 7, 3) := by decide +kernel
theorem dX8_addErrand_46 : decode cX8_addErrand 46 = .ok (.iconst 1, 1) := by decide +kernel
theorem dX8_addErrand_47 : decode cX8_addErrand 47 = .ok (.goto 4, 3) := by decide +kernel
theorem dX8_addErrand_50 : decode cX8_addErrand 50 = .ok (.iconst 0, 1) := by decide +kernel
theorem dX8_addErrand_51 : decode cX8_addErrand 51 = .ok (.invokevirtual 67, 3) := by decide +kernel
theorem dX8_addErrand_54 : decode cX8_addErrand 54 = .ok (.ireturn, 1) := by decide +kernel
theorem dX8_addLightning_0 : decode cX8_addLightning 0 = .ok (.aload_n 0, 1) := by decide +kernel
theorem dX8_addLightning_1 : decode cX8_addLightning 1 = .ok (.getfield 50, 3) := by decide +kernel
theorem dX8_addLightning_4 : decode cX8_addLightning 4 = .ok (.iconst 5, 1) := by decide +kernel
theorem dX8_addLightning_5 : decode cX8_addLightning 5 = .ok (.if_icmp .ge 22, 3) := by decide +kernel
theorem dX8_addLightning_8 : decode cX8_addLightning 8 = .ok (.iload_n 1, 1) := by decide +kernel
theorem dX8_addLightning_9 : decode cX8_addLightning 9 = .ok (.iconst 0, 1) := by decide +kernel
theorem dX8_addLightning_10 : decode cX8_addLightning 10 = .ok (.iconst 5, 1) := by decide +kernel
theorem dX8_addLightning_11 : decode cX8_addLightning 11 = .ok (.invokestatic 56, 3) := by decide +kernel
theorem dX8_addLightning_14 : decode cX8_addLightning 14 = .ok (.ifCond .eq 13, 3) := by decide +kernel
theorem dX8_addLightning_17 : decode cX8_addLightning 17 = .ok (.iload_n 2, 1) := by decide +kernel
theorem dX8_addLightning_18 : decode cX8_addLightning 18 = .ok (.iconst 1, 1) := by decide +kernel
theorem dX8_addLightning_19 : decode cX8_addLightning 19 = .ok (.bipush 60, 2) := by decide +kernel
theorem dX8_addLightning_21 : decode cX8_addLightning 21 = .ok (.invokestatic 56, 3) := by decide +kernel
theorem dX8_addLightning_24 : decode cX8_addLightning 24 = .ok (.ifCond .ne 5, 3) := by decide +kernel
theorem dX8_addLightning_27 : decode cX8_addLightning 27 = .ok (.iconst 0, 1) := by decide +kernel
theorem dX8_addLightning_28 : decode cX8_addLightning 28 = .ok (.ireturn, 1) := by decide +kernel
theorem dX8_addLightning_29 : decode cX8_addLightning 29 = .ok (.aload_n 0, 1) := by decide +kernel
theorem dX8_addLightning_30 : decode cX8_addLightning 30 = .ok (.getfield 30, 3) := by decide +kernel
theorem dX8_addLightning_33 : decode cX8_addLightning 33 = .ok (.aload_n 0, 1) := by decide +kernel
theorem dX8_addLightning_34 : decode cX8_addLightning 34 = .ok (.getfield 50, 3) := by decide +kernel
theorem dX8_addLightning_37 : decode cX8_addLightning 37 = .ok (.iload_n 1, 1) := by decide +kernel
theorem dX8_addLightning_38 : decode cX8_addLightning 38 = .ok (.iastore, 1) := by decide +kernel
theorem dX8_addLightning_39 : decode cX8_addLightning 39 = .ok (.aload_n 0, 1) := by decide +kernel
theorem dX8_addLightning_40 : decode cX8_addLightning 40 = .ok (.getfield 33, 3) := by decide +kernel
theorem dX8_addLightning_43 : decode cX8_addLightning 43 = .ok (.aload_n 0, 1) := by decide +kernel
theorem dX8_addLightning_44 : decode cX8_addLightning 44 = .ok (.getfield 50, 3) := by decide +kernel
theorem dX8_addLightning_47 : decode cX8_addLightning 47 = .ok (.iload_n 2, 1) := by decide +kernel
theorem dX8_addLightning_48 : decode cX8_addLightning 48 = .ok (.iastore, 1) := by decide +kernel
theorem dX8_addLightning_49 : decode cX8_addLightning 49 = .ok (.aload_n 0, 1) := by decide +kernel
theorem dX8_addLightning_50 : decode cX8_addLightning 50 = .ok (.dup, 1) := by decide +kernel
theorem dX8_addLightning_51 : decode cX8_addLightning 51 = .ok (.getfield 50, 3) := by decide +kernel
theorem dX8_addLightning_54 : decode cX8_addLightning 54 = .ok (.iconst 1, 1) := by decide +kernel
theorem dX8_addLightning_55 : decode cX8_addLightning 55 = .ok (.iadd, 1) := by decide +kernel
theorem dX8_addLightning_56 : decode cX8_addLightning 56 = .ok (.putfield 50, 3) := by decide +kernel
theorem dX8_addLightning_59 : decode cX8_addLightning 59 = .ok (.iconst 1, 1) := by decide +kernel
theorem dX8_addLightning_60 : decode cX8_addLightning 60 = .ok (.ireturn, 1) := by decide +kernel
theorem dX8_isWhole_0 : decode cX8_isWhole 0 = .ok (.iconst 0, 1) := by decide +kernel
theorem dX8_isWhole_1 : decode cX8_isWhole 1 = .ok (.istore_n 1, 1) := by decide +kernel
theorem dX8_isWhole_2 : decode cX8_isWhole 2 = .ok (.iload_n 1, 1) := by decide +kernel
theorem dX8_isWhole_3 : decode cX8_isWhole 3 = .ok (.aload_n 0, 1) := by decide +kernel
theorem dX8_isWhole_4 : decode cX8_isWhole 4 = .ok (.getfield 47, 3) := by decide +kernel
theorem dX8_isWhole_7 : decode cX8_isWhole 7 = .ok (.if_icmp .ge 24, 3) := by decide +kernel
theorem dX8_isWhole_10 : decode cX8_isWhole 10 = .ok (.aload_n 0, 1) := by decide +kernel
theorem dX8_isWhole_11 : decode cX8_isWhole 11 = .ok (.getfield 18, 3) := by decide +kernel
theorem dX8_isWhole_14 : decode cX8_isWhole 14 = .ok (.iload_n 1, 1) := by decide +kernel
theorem dX8_isWhole_15 : decode cX8_isWhole 15 = .ok (.iaload, 1) := by decide +kernel
theorem dX8_isWhole_16 : decode cX8_isWhole 16 = .ok (.aload_n 0, 1) := by decide +kernel
theorem dX8_isWhole_17 : decode cX8_isWhole 17 = .ok (.getfield 43, 3) := by decide +kernel
theorem dX8_isWhole_20 : decode cX8_isWhole 20 = .ok (.if_icmp .lt 5, 3) := by decide +kernel
theorem dX8_isWhole_23 : decode cX8_isWhole 23 = .ok (.iconst 0, 1) := by decide +kernel
theorem dX8_isWhole_24 : decode cX8_isWhole 24 = .ok (.ireturn, 1) := by decide +kernel
theorem dX8_isWhole_25 : decode cX8_isWhole 25 = .ok (.iinc 1 1, 3) := by decide +kernel
theorem dX8_isWhole_28 : decode cX8_isWhole 28 = .ok (.goto (-26), 3) := by decide +kernel
theorem dX8_isWhole_31 : decode cX8_isWhole 31 = .ok (.iconst 0, 1) := by decide +kernel
theorem dX8_isWhole_32 : decode cX8_isWhole 32 = .ok (.istore_n 1, 1) := by decide +kernel
theorem dX8_isWhole_33 : decode cX8_isWhole 33 = .ok (.iload_n 1, 1) := by decide +kernel
theorem dX8_isWhole_34 : decode cX8_isWhole 34 = .ok (.aload_n 0, 1) := by decide +kernel
theorem dX8_isWhole_35 : decode cX8_isWhole 35 = .ok (.getfield 50, 3) := by decide +kernel
theorem dX8_isWhole_38 : decode cX8_isWhole 38 = .ok (.if_icmp .ge 24, 3) := by decide +kernel
theorem dX8_isWhole_41 : decode cX8_isWhole 41 = .ok (.aload_n 0, 1) := by decide +kernel
theorem dX8_isWhole_42 : decode cX8_isWhole 42 = .ok (.getfield 30, 3) := by decide +kernel
theorem dX8_isWhole_45 : decode cX8_isWhole 45 = .ok (.iload_n 1, 1) := by decide +kernel
theorem dX8_isWhole_46 : decode cX8_isWhole 46 = .ok (.iaload, 1) := by decide +kernel
theorem dX8_isWhole_47 : decode cX8_isWhole 47 = .ok (.aload_n 0, 1) := by decide +kernel
theorem dX8_isWhole_48 : decode cX8_isWhole 48 = .ok (.getfield 43, 3) := by decide +kernel
theorem dX8_isWhole_51 : decode cX8_isWhole 51 = .ok (.if_icmp .lt 5, 3) := by decide +kernel
theorem dX8_isWhole_54 : decode cX8_isWhole 54 = .ok (.iconst 0, 1) := by decide +kernel
theorem dX8_isWhole_55 : decode cX8_isWhole 55 = .ok (.ireturn, 1) := by decide +kernel
theorem dX8_isWhole_56 : decode cX8_isWhole 56 = .ok (.iinc 1 1, 3) := by decide +kernel
theorem dX8_isWhole_59 : decode cX8_isWhole 59 = .ok (.goto (-26), 3) := by decide +kernel
theorem dX8_isWhole_62 : decode cX8_isWhole 62 = .ok (.aload_n 0, 1) := by decide +kernel
theorem dX8_isWhole_63 : decode cX8_isWhole 63 = .ok (.getfield 43, 3) := by decide +kernel
theorem dX8_isWhole_66 : decode cX8_isWhole 66 = .ok (.ifCond .le 14, 3) := by decide +kernel
theorem dX8_isWhole_69 : decode cX8_isWhole 69 = .ok (.aload_n 0, 1) := by decide +kernel
theorem dX8_isWhole_70 : decode cX8_isWhole 70 = .ok (.getfield 47, 3) := by decide +kernel
theorem dX8_isWhole_73 : decode cX8_isWhole 73 = .ok (.ifCond .le 7, 3) := by decide +kernel
theorem dX8_isWhole_76 : decode cX8_isWhole 76 = .ok (.iconst 1, 1) := by decide +kernel
theorem dX8_isWhole_77 : decode cX8_isWhole 77 = .ok (.goto 4, 3) := by decide +kernel
theorem dX8_isWhole_80 : decode cX8_isWhole 80 = .ok (.iconst 0, 1) := by decide +kernel
theorem dX8_isWhole_81 : decode cX8_isWhole 81 = .ok (.ireturn, 1) := by decide +kernel
theorem dX8_isStruck_0 : decode cX8_isStruck 0 = .ok (.iconst 0, 1) := by decide +kernel
theorem dX8_isStruck_1 : decode cX8_isStruck 1 = .ok (.istore_n 3, 1) := by decide +kernel
theorem dX8_isStruck_2 : decode cX8_isStruck 2 = .ok (.iload_n 3, 1) := by decide +kernel
theorem dX8_isStruck_3 : decode cX8_isStruck 3 = .ok (.aload_n 0, 1) := by decide +kernel
theorem dX8_isStruck_4 : decode cX8_isStruck 4 = .ok (.getfield 50, 3) := by decide +kernel
theorem dX8_isStruck_7 : decode cX8_isStruck 7 = .ok (.if_icmp .ge 31, 3) := by decide +kernel
theorem dX8_isStruck_10 : decode cX8_isStruck 10 = .ok (.aload_n 0, 1) := by decide +kernel
theorem dX8_isStruck_11 : decode cX8_isStruck 11 = .ok (.getfield 30, 3) := by decide +kernel
theorem dX8_isStruck_14 : decode cX8_isStruck 14 = .ok (.iload_n 3, 1) := by decide +kernel
theorem dX8_isStruck_15 : decode cX8_isStruck 15 = .ok (.iaload, 1) := by decide +kernel
theorem dX8_isStruck_16 : decode cX8_isStruck 16 = .ok (.iload_n 1, 1) := by decide +kernel
theorem dX8_isStruck_17 : decode cX8_isStruck 17 = .ok (.if_icmp .ne 15, 3) := by decide +kernel
theorem dX8_isStruck_20 : decode cX8_isStruck 20 = .ok (.aload_n 0, 1) := by decide +kernel
theorem dX8_isStruck_21 : decode cX8_isStruck 21 = .ok (.getfield 33, 3) := by decide +kernel
theorem dX8_isStruck_24 : decode cX8_isStruck 24 = .ok (.iload_n 3, 1) := by decide +kernel
theorem dX8_isStruck_25 : decode cX8_isStruck 25 = .ok (.iaload, 1) := by decide +kernel
theorem dX8_isStruck_26 : decode cX8_isStruck 26 = .ok (.iload_n 2, 1) := by decide +kernel
theorem dX8_isStruck_27 : decode cX8_isStruck 27 = .ok (.if_icmp .ne 5, 3) := by decide +kernel
theorem dX8_isStruck_30 : decode cX8_isStruck 30 = .ok (.iconst 1, 1) := by decide +kernel
theorem dX8_isStruck_31 : decode cX8_isStruck 31 = .ok (.ireturn, 1) := by decide +kernel
theorem dX8_isStruck_32 : decode cX8_isStruck 32 = .ok (.iinc 3 1, 3) := by decide +kernel
theorem dX8_isStruck_35 : decode cX8_isStruck 35 = .ok (.goto (-33), 3) := by decide +kernel
theorem dX8_isStruck_38 : decode cX8_isStruck 38 = .ok (.iconst 0, 1) := by decide +kernel
theorem dX8_isStruck_39 : decode cX8_isStruck 39 = .ok (.ireturn, 1) := by decide +kernel
theorem dX8_dailyLoss_0 : decode cX8_dailyLoss 0 = .ok (.aload_n 0, 1) := by decide +kernel
theorem dX8_dailyLoss_1 : decode cX8_dailyLoss 1 = .ok (.getfield 27, 3) := by decide +kernel
theorem dX8_dailyLoss_4 : decode cX8_dailyLoss 4 = .ok (.iload_n 1, 1) := by decide +kernel
theorem dX8_dailyLoss_5 : decode cX8_dailyLoss 5 = .ok (.iaload, 1) := by decide +kernel
theorem dX8_dailyLoss_6 : decode cX8_dailyLoss 6 = .ok (.tableswitch 56 1 3 #[26, 28, 44], 26) := by decide +kernel
theorem dX8_dailyLoss_32 : decode cX8_dailyLoss 32 = .ok (.iconst 2, 1) := by decide +kernel
theorem dX8_dailyLoss_33 : decode cX8_dailyLoss 33 = .ok (.ireturn, 1) := by decide +kernel
theorem dX8_dailyLoss_34 : decode cX8_dailyLoss 34 = .ok (.aload_n 0, 1) := by decide +kernel
theorem dX8_dailyLoss_35 : decode cX8_dailyLoss 35 = .ok (.getfield 15, 3) := by decide +kernel
theorem dX8_dailyLoss_38 : decode cX8_dailyLoss 38 = .ok (.iload_n 2, 1) := by decide +kernel
theorem dX8_dailyLoss_39 : decode cX8_dailyLoss 39 = .ok (.iaload, 1) := by decide +kernel
theorem dX8_dailyLoss_40 : decode cX8_dailyLoss 40 = .ok (.iconst 1, 1) := by decide +kernel
theorem dX8_dailyLoss_41 : decode cX8_dailyLoss 41 = .ok (.if_icmp .ne 7, 3) := by decide +kernel
theorem dX8_dailyLoss_44 : decode cX8_dailyLoss 44 = .ok (.iconst 0, 1) := by decide +kernel
theorem dX8_dailyLoss_45 : decode cX8_dailyLoss 45 = .ok (.goto 4, 3) := by decide +kernel
theorem dX8_dailyLoss_48 : decode cX8_dailyLoss 48 = .ok (.iconst 1, 1) := by decide +kernel
theorem dX8_dailyLoss_49 : decode cX8_dailyLoss 49 = .ok (.ireturn, 1) := by decide +kernel
theorem dX8_dailyLoss_50 : decode cX8_dailyLoss 50 = .ok (.iload_n 3, 1) := by decide +kernel
theorem dX8_dailyLoss_51 : decode cX8_dailyLoss 51 = .ok (.iconst 2, 1) := by decide +kernel
theorem dX8_dailyLoss_52 : decode cX8_dailyLoss 52 = .ok (.irem, 1) := by decide +kernel
theorem dX8_dailyLoss_53 : decode cX8_dailyLoss 53 = .ok (.ifCond .ne 7, 3) := by decide +kernel
theorem dX8_dailyLoss_56 : decode cX8_dailyLoss 56 = .ok (.iconst 1, 1) := by decide +kernel
theorem dX8_dailyLoss_57 : decode cX8_dailyLoss 57 = .ok (.goto 4, 3) := by decide +kernel
theorem dX8_dailyLoss_60 : decode cX8_dailyLoss 60 = .ok (.iconst 0, 1) := by decide +kernel
theorem dX8_dailyLoss_61 : decode cX8_dailyLoss 61 = .ok (.ireturn, 1) := by decide +kernel
theorem dX8_dailyLoss_62 : decode cX8_dailyLoss 62 = .ok (.iconst 1, 1) := by decide +kernel
theorem dX8_dailyLoss_63 : decode cX8_dailyLoss 63 = .ok (.ireturn, 1) := by decide +kernel
theorem dX9_init_0 : decode cX9_init 0 = .ok (.aload_n 0, 1) := by decide +kernel
theorem dX9_init_1 : decode cX9_init 1 = .ok (.invokespecial 3, 3) := by decide +kernel
theorem dX9_init_4 : decode cX9_init 4 = .ok (.aload_n 0, 1) := by decide +kernel
theorem dX9_init_5 : decode cX9_init 5 = .ok (.sipush 300, 3) := by decide +kernel
theorem dX9_init_8 : decode cX9_init 8 = .ok (.newarray .int, 2) := by decide +kernel
theorem dX9_init_10 : decode cX9_init 10 = .ok (.putfield 9, 3) := by decide +kernel
theorem dX9_init_13 : decode cX9_init 13 = .ok (.return_, 1) := by decide +kernel
theorem dX9_append_0 : decode cX9_append 0 = .ok (.aload_n 0, 1) := by decide +kernel
theorem dX9_append_1 : decode cX9_append 1 = .ok (.getfield 15, 3) := by decide +kernel
theorem dX9_append_4 : decode cX9_append 4 = .ok (.sipush 300, 3) := by decide +kernel
theorem dX9_append_7 : decode cX9_append 7 = .ok (.if_icmp .ge 23, 3) := by decide +kernel
theorem dX9_append_10 : decode cX9_append 10 = .ok (.aload_n 0, 1) := by decide +kernel
theorem dX9_append_11 : decode cX9_append 11 = .ok (.getfield 9, 3) := by decide +kernel
theorem dX9_append_14 : decode cX9_append 14 = .ok (.aload_n 0, 1) := by decide +kernel
theorem dX9_append_15 : decode cX9_append 15 = .ok (.getfield 15, 3) := by decide +kernel
theorem dX9_append_18 : decode cX9_append 18 = .ok (.iload_n 1, 1) := by decide +kernel
theorem dX9_append_19 : decode cX9_append 19 = .ok (.iastore, 1) := by decide +kernel
theorem dX9_append_20 : decode cX9_append 20 = .ok (.aload_n 0, 1) := by decide +kernel
theorem dX9_append_21 : decode cX9_append 21 = .ok (.dup, 1) := by decide +kernel
theorem dX9_append_22 : decode cX9_append 22 = .ok (.getfield 15, 3) := by decide +kernel
theorem dX9_append_25 : decode cX9_append 25 = .ok (.iconst 1, 1) := by decide +kernel
theorem dX9_append_26 : decode cX9_append 26 = .ok (.iadd, 1) := by decide +kernel
theorem dX9_append_27 : decode cX9_append 27 = .ok (.putfield 15, 3) := by decide +kernel
theorem dX9_append_30 : decode cX9_append 30 = .ok (.return_, 1) := by decide +kernel
theorem dX9_clear_0 : decode cX9_clear 0 = .ok (.aload_n 0, 1) := by decide +kernel
theorem dX9_clear_1 : decode cX9_clear 1 = .ok (.iconst 0, 1) := by decide +kernel
theorem dX9_clear_2 : decode cX9_clear 2 = .ok (.putfield 15, 3) := by decide +kernel
theorem dX9_clear_5 : decode cX9_clear 5 = .ok (.return_, 1) := by decide +kernel
theorem dX9_at_0 : decode cX9_at 0 = .ok (.iload_n 1, 1) := by decide +kernel
theorem dX9_at_1 : decode cX9_at 1 = .ok (.ifCond .lt 20, 3) := by decide +kernel
theorem dX9_at_4 : decode cX9_at 4 = .ok (.iload_n 1, 1) := by decide +kernel
theorem dX9_at_5 : decode cX9_at 5 = .ok (.aload_n 0, 1) := by decide +kernel
theorem dX9_at_6 : decode cX9_at 6 = .ok (.getfield 15, 3) := by decide +kernel
theorem dX9_at_9 : decode cX9_at 9 = .ok (.if_icmp .ge 12, 3) := by decide +kernel
theorem dX9_at_12 : decode cX9_at 12 = .ok (.aload_n 0, 1) := by decide +kernel
theorem dX9_at_13 : decode cX9_at 13 = .ok (.getfield 9, 3) := by decide +kernel
theorem dX9_at_16 : decode cX9_at 16 = .ok (.iload_n 1, 1) := by decide +kernel
theorem dX9_at_17 : decode cX9_at 17 = .ok (.iaload, 1) := by decide +kernel
theorem dX9_at_18 : decode cX9_at 18 = .ok (.goto 4, 3) := by decide +kernel
theorem dX9_at_21 : decode cX9_at 21 = .ok (.iconst (-1), 1) := by decide +kernel
theorem dX9_at_22 : decode cX9_at 22 = .ok (.ireturn, 1) := by decide +kernel
theorem dX10_init_0 : decode cX10_init 0 = .ok (.aload_n 0, 1) := by decide +kernel
theorem dX10_init_1 : decode cX10_init 1 = .ok (.invokespecial 1, 3) := by decide +kernel
theorem dX10_init_4 : decode cX10_init 4 = .ok (.aload_n 0, 1) := by decide +kernel
theorem dX10_init_5 : decode cX10_init 5 = .ok (.new 7, 3) := by decide +kernel
theorem dX10_init_8 : decode cX10_init 8 = .ok (.dup, 1) := by decide +kernel
theorem dX10_init_9 : decode cX10_init 9 = .ok (.invokespecial 9, 3) := by decide +kernel
theorem dX10_init_12 : decode cX10_init 12 = .ok (.putfield 10, 3) := by decide +kernel
theorem dX10_init_15 : decode cX10_init 15 = .ok (.aload_n 0, 1) := by decide +kernel
theorem dX10_init_16 : decode cX10_init 16 = .ok (.new 16, 3) := by decide +kernel
theorem dX10_init_19 : decode cX10_init 19 = .ok (.dup, 1) := by decide +kernel
theorem dX10_init_20 : decode cX10_init 20 = .ok (.invokespecial 18, 3) := by decide +kernel
theorem dX10_init_23 : decode cX10_init 23 = .ok (.putfield 19, 3) := by decide +kernel
theorem dX10_init_26 : decode cX10_init 26 = .ok (.aload_n 0, 1) := by decide +kernel
theorem dX10_init_27 : decode cX10_init 27 = .ok (.new 23, 3) := by decide +kernel
theorem dX10_init_30 : decode cX10_init 30 = .ok (.dup, 1) := by decide +kernel
theorem dX10_init_31 : decode cX10_init 31 = .ok (.invokespecial 25, 3) := by decide +kernel
theorem dX10_init_34 : decode cX10_init 34 = .ok (.putfield 26, 3) := by decide +kernel
theorem dX10_init_37 : decode cX10_init 37 = .ok (.aload_n 0, 1) := by decide +kernel
theorem dX10_init_38 : decode cX10_init 38 = .ok (.new 23, 3) := by decide +kernel
theorem dX10_init_41 : decode cX10_init 41 = .ok (.dup, 1) := by decide +kernel
theorem dX10_init_42 : decode cX10_init 42 = .ok (.invokespecial 25, 3) := by decide +kernel
theorem dX10_init_45 : decode cX10_init 45 = .ok (.putfield 30, 3) := by decide +kernel
theorem dX10_init_48 : decode cX10_init 48 = .ok (.aload_n 0, 1) := by decide +kernel
theorem dX10_init_49 : decode cX10_init 49 = .ok (.new 33, 3) := by decide +kernel
theorem dX10_init_52 : decode cX10_init 52 = .ok (.dup, 1) := by decide +kernel
theorem dX10_init_53 : decode cX10_init 53 = .ok (.invokespecial 35, 3) := by decide +kernel
theorem dX10_init_56 : decode cX10_init 56 = .ok (.putfield 36, 3) := by decide +kernel
theorem dX10_init_59 : decode cX10_init 59 = .ok (.aload_n 0, 1) := by decide +kernel
theorem dX10_init_60 : decode cX10_init 60 = .ok (.new 40, 3) := by decide +kernel
theorem dX10_init_63 : decode cX10_init 63 = .ok (.dup, 1) := by decide +kernel
theorem dX10_init_64 : decode cX10_init 64 = .ok (.invokespecial 42, 3) := by decide +kernel
theorem dX10_init_67 : decode cX10_init 67 = .ok (.putfield 43, 3) := by decide +kernel
theorem dX10_init_70 : decode cX10_init 70 = .ok (.aload_n 0, 1) := by decide +kernel
theorem dX10_init_71 : decode cX10_init 71 = .ok (.new 47, 3) := by decide +kernel
theorem dX10_init_74 : decode cX10_init 74 = .ok (.dup, 1) := by decide +kernel
theorem dX10_init_75 : decode cX10_init 75 = .ok (.invokespecial 49, 3) := by decide +kernel
theorem dX10_init_78 : decode cX10_init 78 = .ok (.putfield 50, 3) := by decide +kernel
theorem dX10_init_81 : decode cX10_init 81 = .ok (.aload_n 0, 1) := by decide +kernel
theorem dX10_init_82 : decode cX10_init 82 = .ok (.new 54, 3) := by decide +kernel
theorem dX10_init_85 : decode cX10_init 85 = .ok (.dup, 1) := by decide +kernel
theorem dX10_init_86 : decode cX10_init 86 = .ok (.invokespecial 56, 3) := by decide +kernel
theorem dX10_init_89 : decode cX10_init 89 = .ok (.putfield 57, 3) := by decide +kernel
theorem dX10_init_92 : decode cX10_init 92 = .ok (.aload_n 0, 1) := by decide +kernel
theorem dX10_init_93 : decode cX10_init 93 = .ok (.new 61, 3) := by decide +kernel
theorem dX10_init_96 : decode cX10_init 96 = .ok (.dup, 1) := by decide +kernel
theorem dX10_init_97 : decode cX10_init 97 = .ok (.invokespecial 63, 3) := by decide +kernel
theorem dX10_init_100 : decode cX10_init 100 = .ok (.putfield 64, 3) := by decide +kernel
theorem dX10_init_103 : decode cX10_init 103 = .ok (.aload_n 0, 1) := by decide +kernel
theorem dX10_init_104 : decode cX10_init 104 = .ok (.new 68, 3) := by decide +kernel
theorem dX10_init_107 : decode cX10_init 107 = .ok (.dup, 1) := by decide +kernel
theorem dX10_init_108 : decode cX10_init 108 = .ok (.invokespecial 70, 3) := by decide +kernel
theorem dX10_init_111 : decode cX10_init 111 = .ok (.putfield 71, 3) := by decide +kernel
theorem dX10_init_114 : decode cX10_init 114 = .ok (.aload_n 0, 1) := by decide +kernel
theorem dX10_init_115 : decode cX10_init 115 = .ok (.new 68, 3) := by decide +kernel
theorem dX10_init_118 : decode cX10_init 118 = .ok (.dup, 1) := by decide +kernel
theorem dX10_init_119 : decode cX10_init 119 = .ok (.invokespecial 70, 3) := by decide +kernel
theorem dX10_init_122 : decode cX10_init 122 = .ok (.putfield 75, 3) := by decide +kernel
theorem dX10_init_125 : decode cX10_init 125 = .ok (.aload_n 0, 1) := by decide +kernel
theorem dX10_init_126 : decode cX10_init 126 = .ok (.iconst 1, 1) := by decide +kernel
theorem dX10_init_127 : decode cX10_init 127 = .ok (.putfield 78, 3) := by decide +kernel
theorem dX10_init_130 : decode cX10_init 130 = .ok (.iconst 0, 1) := by decide +kernel
theorem dX10_init_131 : decode cX10_init 131 = .ok (.istore_n 1, 1) := by decide +kernel
theorem dX10_init_132 : decode cX10_init 132 = .ok (.iload_n 1, 1) := by decide +kernel
theorem dX10_init_133 : decode cX10_init 133 = .ok (.ldc 82, 2) := by decide +kernel
theorem dX10_init_135 : decode cX10_init 135 = .ok (.invokevirtual 84, 3) := by decide +kernel
theorem dX10_init_138 : decode cX10_init 138 = .ok (.if_icmp .ge 22, 3) := by decide +kernel
theorem dX10_init_141 : decode cX10_init 141 = .ok (.aload_n 0, 1) := by decide +kernel
theorem dX10_init_142 : decode cX10_init 142 = .ok (.getfield 10, 3) := by decide +kernel
theorem dX10_init_145 : decode cX10_init 145 = .ok (.ldc 82, 2) := by decide +kernel
theorem dX10_init_147 : decode cX10_init 147 = .ok (.iload_n 1, 1) := by decide +kernel
theorem dX10_init_148 : decode cX10_init 148 = .ok (.invokevirtual 90, 3) := by decide +kernel
theorem dX10_init_151 : decode cX10_init 151 = .ok (.invokevirtual 94, 3) := by decide +kernel
theorem dX10_init_154 : decode cX10_init 154 = .ok (.iinc 1 1, 3) := by decide +kernel
theorem dX10_init_157 : decode cX10_init 157 = .ok (.goto (-25), 3) := by decide +kernel
theorem dX10_init_160 : decode cX10_init 160 = .ok (.aload_n 0, 1) := by decide +kernel
theorem dX10_init_161 : decode cX10_init 161 = .ok (.getfield 19, 3) := by decide +kernel
theorem dX10_init_164 : decode cX10_init 164 = .ok (.aload_n 0, 1) := by decide +kernel
theorem dX10_init_165 : decode cX10_init 165 = .ok (.getfield 10, 3) := by decide +kernel
theorem dX10_init_168 : decode cX10_init 168 = .ok (.aload_n 0, 1) := by decide +kernel
theorem dX10_init_169 : decode cX10_init 169 = .ok (.getfield 71, 3) := by decide +kernel
theorem dX10_init_172 : decode cX10_init 172 = .ok (.invokevirtual 98, 3) := by decide +kernel
theorem dX10_init_175 : decode cX10_init 175 = .ok (.pop, 1) := by decide +kernel
theorem dX10_init_176 : decode cX10_init 176 = .ok (.aload_n 0, 1) := by decide +kernel
theorem dX10_init_177 : decode cX10_init 177 = .ok (.getfield 10, 3) := by decide +kernel
theorem dX10_init_180 : decode cX10_init 180 = .ok (.invokevirtual 102, 3) := by decide +kernel
theorem dX10_init_183 : decode cX10_init 183 = .ok (.return_, 1) := by decide +kernel
theorem dX10_write_0 : decode cX10_write 0 = .ok (.iload_n 1, 1) := by decide +kernel
theorem dX10_write_1 : decode cX10_write 1 = .ok (.iconst 1, 1) := by decide +kernel
theorem dX10_write_2 : decode cX10_write 2 = .ok (.if_icmp .lt 9, 3) := by decide +kernel
theorem dX10_write_5 : decode cX10_write 5 = .ok (.iload_n 1, 1) := by decide +kernel
theorem dX10_write_6 : decode cX10_write 6 = .ok (.bipush 8, 2) := by decide +kernel
theorem dX10_write_8 : decode cX10_write 8 = .ok (.if_icmp .le 5, 3) := by decide +kernel
theorem dX10_write_11 : decode cX10_write 11 = .ok (.iconst (-1), 1) := by decide +kernel
theorem dX10_write_12 : decode cX10_write 12 = .ok (.ireturn, 1) := by decide +kernel
theorem dX10_write_13 : decode cX10_write 13 = .ok (.aload_n 0, 1) := by decide +kernel
theorem dX10_write_14 : decode cX10_write 14 = .ok (.getfield 10, 3) := by decide +kernel
theorem dX10_write_17 : decode cX10_write 17 = .ok (.getfield 105, 3) := by decide +kernel
theorem dX10_write_20 : decode cX10_write 20 = .ok (.iload_n 1, 1) := by decide +kernel
theorem dX10_write_21 : decode cX10_write 21 = .ok (.iadd, 1) := by decide +kernel
theorem dX10_write_22 : decode cX10_write 22 = .ok (.sipush 300, 3) := by decide +kernel
theorem dX10_write_25 : decode cX10_write 25 = .ok (.if_icmp .le 6, 3) := by decide +kernel
theorem dX10_write_28 : decode cX10_write 28 = .ok (.bipush (-3), 2) := by decide +kernel
theorem dX10_write_30 : decode cX10_write 30 = .ok (.ireturn, 1) := by decide +kernel
theorem dX10_write_31 : decode cX10_write 31 = .ok (.iload_n 1, 1) := by decide +kernel
theorem dX10_write_32 : decode cX10_write 32 = .ok (.iconst 1, 1) := by decide +kernel
theorem dX10_write_33 : decode cX10_write 33 = .ok (.isub, 1) := by decide +kernel
theorem dX10_write_34 : decode cX10_write 34 = .ok (.istore 4, 2) := by decide +kernel
theorem dX10_write_36 : decode cX10_write 36 = .ok (.iload 4, 2) := by decide +kernel
theorem dX10_write_38 : decode cX10_write 38 = .ok (.ifCond .lt 28, 3) := by decide +kernel
theorem dX10_write_41 : decode cX10_write 41 = .ok (.aload_n 0, 1) := by decide +kernel
theorem dX10_write_42 : decode cX10_write 42 = .ok (.getfield 10, 3) := by decide +kernel
theorem dX10_write_45 : decode cX10_write 45 = .ok (.lload_n 2, 1) := by decide +kernel
theorem dX10_write_46 : decode cX10_write 46 = .ok (.bipush 8, 2) := by decide +kernel
theorem dX10_write_48 : decode cX10_write 48 = .ok (.iload 4, 2) := by decide +kernel
theorem dX10_write_50 : decode cX10_write 50 = .ok (.imul, 1) := by decide +kernel
theorem dX10_write_51 : decode cX10_write 51 = .ok (.lushr, 1) := by decide +kernel
theorem dX10_write_52 : decode cX10_write 52 = .ok (.l2i, 1) := by decide +kernel
theorem dX10_write_53 : decode cX10_write 53 = .ok (.sipush 255, 3) := by decide +kernel
theorem dX10_write_56 : decode cX10_write 56 = .ok (.iand, 1) := by decide +kernel
theorem dX10_write_57 : decode cX10_write 57 = .ok (.invokevirtual 94, 3) := by decide +kernel
theorem dX10_write_60 : decode cX10_write 60 = .ok (.iinc 4 (-1), 3) := by decide +kernel
theorem dX10_write_63 : decode cX10_write 63 = .ok (.goto (-27), 3) := by decide +kernel
theorem dX10_write_66 : decode cX10_write 66 = .ok (.aload_n 0, 1) := by decide +kernel
theorem dX10_write_67 : decode cX10_write 67 = .ok (.getfield 10, 3) := by decide +kernel
theorem dX10_write_70 : decode cX10_write 70 = .ok (.getfield 105, 3) := by decide +kernel
theorem dX10_write_73 : decode cX10_write 73 = .ok (.ireturn, 1) := by decide +kernel
theorem dX10_wipe_0 : decode cX10_wipe 0 = .ok (.aload_n 0, 1) := by decide +kernel
theorem dX10_wipe_1 : decode cX10_wipe 1 = .ok (.getfield 10, 3) := by decide +kernel
theorem dX10_wipe_4 : decode cX10_wipe 4 = .ok (.getfield 105, 3) := by decide +kernel
theorem dX10_wipe_7 : decode cX10_wipe 7 = .ok (.istore_n 1, 1) := by decide +kernel
theorem dX10_wipe_8 : decode cX10_wipe 8 = .ok (.aload_n 0, 1) := by decide +kernel
theorem dX10_wipe_9 : decode cX10_wipe 9 = .ok (.getfield 10, 3) := by decide +kernel
theorem dX10_wipe_12 : decode cX10_wipe 12 = .ok (.invokevirtual 102, 3) := by decide +kernel
theorem dX10_wipe_15 : decode cX10_wipe 15 = .ok (.iload_n 1, 1) := by decide +kernel
theorem dX10_wipe_16 : decode cX10_wipe 16 = .ok (.ireturn, 1) := by decide +kernel
theorem dX10_fault_0 : decode cX10_fault 0 = .ok (.aload_n 0, 1) := by decide +kernel
theorem dX10_fault_1 : decode cX10_fault 1 = .ok (.getfield 19, 3) := by decide +kernel
theorem dX10_fault_4 : decode cX10_fault 4 = .ok (.aload_n 0, 1) := by decide +kernel
theorem dX10_fault_5 : decode cX10_fault 5 = .ok (.getfield 10, 3) := by decide +kernel
theorem dX10_fault_8 : decode cX10_fault 8 = .ok (.aload_n 0, 1) := by decide +kernel
theorem dX10_fault_9 : decode cX10_fault 9 = .ok (.getfield 75, 3) := by decide +kernel
theorem dX10_fault_12 : decode cX10_fault 12 = .ok (.invokevirtual 98, 3) := by decide +kernel
theorem dX10_fault_15 : decode cX10_fault 15 = .ok (.ireturn, 1) := by decide +kernel
theorem dX10_lay_0 : decode cX10_lay 0 = .ok (.aload_n 0, 1) := by decide +kernel
theorem dX10_lay_1 : decode cX10_lay 1 = .ok (.getfield 19, 3) := by decide +kernel
theorem dX10_lay_4 : decode cX10_lay 4 = .ok (.aload_n 0, 1) := by decide +kernel
theorem dX10_lay_5 : decode cX10_lay 5 = .ok (.getfield 10, 3) := by decide +kernel
theorem dX10_lay_8 : decode cX10_lay 8 = .ok (.aload_n 0, 1) := by decide +kernel
theorem dX10_lay_9 : decode cX10_lay 9 = .ok (.getfield 75, 3) := by decide +kernel
theorem dX10_lay_12 : decode cX10_lay 12 = .ok (.invokevirtual 98, 3) := by decide +kernel
theorem dX10_lay_15 : decode cX10_lay 15 = .ok (.bipush (-4), 2) := by decide +kernel
theorem dX10_lay_17 : decode cX10_lay 17 = .ok (.if_icmp .ne 13, 3) := by decide +kernel
theorem dX10_lay_20 : decode cX10_lay 20 = .ok (.aload_n 0, 1) := by decide +kernel
theorem dX10_lay_21 : decode cX10_lay 21 = .ok (.getfield 75, 3) := by decide +kernel
theorem dX10_lay_24 : decode cX10_lay 24 = .ok (.invokevirtual 108, 3) := by decide +kernel
theorem dX10_lay_27 : decode cX10_lay 27 = .ok (.ifCond .ne 6, 3) := by decide +kernel
theorem dX10_lay_30 : decode cX10_lay 30 = .ok (.bipush (-2), 2) := by decide +kernel
theorem dX10_lay_32 : decode cX10_lay 32 = .ok (.ireturn, 1) := by decide +kernel
theorem dX10_lay_33 : decode cX10_lay 33 = .ok (.aload_n 0, 1) := by decide +kernel
theorem dX10_lay_34 : decode cX10_lay 34 = .ok (.getfield 71, 3) := by decide +kernel
theorem dX10_lay_37 : decode cX10_lay 37 = .ok (.astore_n 1, 1) := by decide +kernel
theorem dX10_lay_38 : decode cX10_lay 38 = .ok (.aload_n 0, 1) := by decide +kernel
theorem dX10_lay_39 : decode cX10_lay 39 = .ok (.aload_n 0, 1) := by decide +kernel
theorem dX10_lay_40 : decode cX10_lay 40 = .ok (.getfield 75, 3) := by decide +kernel
theorem dX10_lay_43 : decode cX10_lay 43 = .ok (.putfield 71, 3) := by decide +kernel
theorem dX10_lay_46 : decode cX10_lay 46 = .ok (.aload_n 0, 1) := by decide +kernel
theorem dX10_lay_47 : decode cX10_lay 47 = .ok (.aload_n 1, 1) := by decide +kernel
theorem dX10_lay_48 : decode cX10_lay 48 = .ok (.putfield 75, 3) := by decide +kernel
theorem dX10_lay_51 : decode cX10_lay 51 = .ok (.aload_n 0, 1) := by decide +kernel
theorem dX10_lay_52 : decode cX10_lay 52 = .ok (.getfield 57, 3) := by decide +kernel
theorem dX10_lay_55 : decode cX10_lay 55 = .ok (.invokevirtual 112, 3) := by decide +kernel
theorem dX10_lay_58 : decode cX10_lay 58 = .ok (.aload_n 0, 1) := by decide +kernel
theorem dX10_lay_59 : decode cX10_lay 59 = .ok (.getfield 64, 3) := by decide +kernel
theorem dX10_lay_62 : decode cX10_lay 62 = .ok (.invokevirtual 113, 3) := by decide +kernel
theorem dX10_lay_65 : decode cX10_lay 65 = .ok (.aload_n 0, 1) := by decide +kernel
theorem dX10_lay_66 : decode cX10_lay 66 = .ok (.iconst 1, 1) := by decide +kernel
theorem dX10_lay_67 : decode cX10_lay 67 = .ok (.putfield 78, 3) := by decide +kernel
theorem dX10_lay_70 : decode cX10_lay 70 = .ok (.aload_n 0, 1) := by decide +kernel
theorem dX10_lay_71 : decode cX10_lay 71 = .ok (.getfield 71, 3) := by decide +kernel
theorem dX10_lay_74 : decode cX10_lay 74 = .ok (.getfield 114, 3) := by decide +kernel
theorem dX10_lay_77 : decode cX10_lay 77 = .ok (.ireturn, 1) := by decide +kernel
theorem dX10_level_0 : decode cX10_level 0 = .ok (.aload_n 0, 1) := by decide +kernel
theorem dX10_level_1 : decode cX10_level 1 = .ok (.iload_n 1, 1) := by decide +kernel
theorem dX10_level_2 : decode cX10_level 2 = .ok (.invokevirtual 117, 3) := by decide +kernel
theorem dX10_level_5 : decode cX10_level 5 = .ok (.ifCond .eq 12, 3) := by decide +kernel
theorem dX10_level_8 : decode cX10_level 8 = .ok (.iload_n 2, 1) := by decide +kernel
theorem dX10_level_9 : decode cX10_level 9 = .ok (.iconst 0, 1) := by decide +kernel
theorem dX10_level_10 : decode cX10_level 10 = .ok (.iconst 1, 1) := by decide +kernel
theorem dX10_level_11 : decode cX10_level 11 = .ok (.invokestatic 121, 3) := by decide +kernel
theorem dX10_level_14 : decode cX10_level 14 = .ok (.ifCond .ne 5, 3) := by decide +kernel
theorem dX10_level_17 : decode cX10_level 17 = .ok (.iconst (-1), 1) := by decide +kernel
theorem dX10_level_18 : decode cX10_level 18 = .ok (.ireturn, 1) := by decide +kernel
theorem dX10_level_19 : decode cX10_level 19 = .ok (.iload_n 2, 1) := by decide +kernel
theorem dX10_level_20 : decode cX10_level 20 = .ok (.ifCond .ne 15, 3) := by decide +kernel
theorem dX10_level_23 : decode cX10_level 23 = .ok (.aload_n 0, 1) := by decide +kernel
theorem dX10_level_24 : decode cX10_level 24 = .ok (.getfield 71, 3) := by decide +kernel
theorem dX10_level_27 : decode cX10_level 27 = .ok (.getfield 125, 3) := by decide +kernel
theorem dX10_level_30 : decode cX10_level 30 = .ok (.iload_n 1, 1) := by decide +kernel
theorem dX10_level_31 : decode cX10_level 31 = .ok (.iaload, 1) := by decide +kernel
theorem dX10_level_32 : decode cX10_level 32 = .ok (.goto 12, 3) := by decide +kernel
theorem dX10_level_35 : decode cX10_level 35 = .ok (.aload_n 0, 1) := by decide +kernel
theorem dX10_level_36 : decode cX10_level 36 = .ok (.getfield 71, 3) := by decide +kernel
theorem dX10_level_39 : decode cX10_level 39 = .ok (.getfield 129, 3) := by decide +kernel
theorem dX10_level_42 : decode cX10_level 42 = .ok (.iload_n 1, 1) := by decide +kernel
theorem dX10_level_43 : decode cX10_level 43 = .ok (.iaload, 1) := by decide +kernel
theorem dX10_level_44 : decode cX10_level 44 = .ok (.ireturn, 1) := by decide +kernel
theorem dX10_town_0 : decode cX10_town 0 = .ok (.aload_n 0, 1) := by decide +kernel
theorem dX10_town_1 : decode cX10_town 1 = .ok (.iload_n 1, 1) := by decide +kernel
theorem dX10_town_2 : decode cX10_town 2 = .ok (.invokevirtual 132, 3) := by decide +kernel
theorem dX10_town_5 : decode cX10_town 5 = .ok (.ifCond .eq 22, 3) := by decide +kernel
theorem dX10_town_8 : decode cX10_town 8 = .ok (.iload_n 2, 1) := by decide +kernel
theorem dX10_town_9 : decode cX10_town 9 = .ok (.iconst 0, 1) := by decide +kernel
theorem dX10_town_10 : decode cX10_town 10 = .ok (.bipush 60, 2) := by decide +kernel
theorem dX10_town_12 : decode cX10_town 12 = .ok (.invokestatic 121, 3) := by decide +kernel
theorem dX10_town_15 : decode cX10_town 15 = .ok (.ifCond .eq 12, 3) := by decide +kernel
theorem dX10_town_18 : decode cX10_town 18 = .ok (.iload_n 3, 1) := by decide +kernel
theorem dX10_town_19 : decode cX10_town 19 = .ok (.iconst 0, 1) := by decide +kernel
theorem dX10_town_20 : decode cX10_town 20 = .ok (.iconst 2, 1) := by decide +kernel
theorem dX10_town_21 : decode cX10_town 21 = .ok (.invokestatic 121, 3) := by decide +kernel
theorem dX10_town_24 : decode cX10_town 24 = .ok (.ifCond .ne 5, 3) := by decide +kernel
theorem dX10_town_27 : decode cX10_town 27 = .ok (.iconst (-1), 1) := by decide +kernel
theorem dX10_town_28 : decode cX10_town 28 = .ok (.ireturn, 1) := by decide +kernel
theorem dX10_town_29 : decode cX10_town 29 = .ok (.aload_n 0, 1) := by decide +kernel
theorem dX10_town_30 : decode cX10_town 30 = .ok (.invokevirtual 135, 3) := by decide +kernel
theorem dX10_town_33 : decode cX10_town 33 = .ok (.getfield 139, 3) := by decide +kernel
theorem dX10_town_36 : decode cX10_town 36 = .ok (.iload_n 1, 1) := by decide +kernel
theorem dX10_town_37 : decode cX10_town 37 = .ok (.aaload, 1) := by decide +kernel
theorem dX10_town_38 : decode cX10_town 38 = .ok (.astore 4, 2) := by decide +kernel
theorem dX10_town_40 : decode cX10_town 40 = .ok (.iload_n 3, 1) := by decide +kernel
theorem dX10_town_41 : decode cX10_town 41 = .ok (.lookupswitch 57 #[(0, 27), (1, 35)], 27) := by decide +kernel
theorem dX10_town_68 : decode cX10_town 68 = .ok (.aload 4, 2) := by decide +kernel
theorem dX10_town_70 : decode cX10_town 70 = .ok (.getfield 143, 3) := by decide +kernel
theorem dX10_town_73 : decode cX10_town 73 = .ok (.iload_n 2, 1) := by decide +kernel
theorem dX10_town_74 : decode cX10_town 74 = .ok (.iaload, 1) := by decide +kernel
theorem dX10_town_75 : decode cX10_town 75 = .ok (.ireturn, 1) := by decide +kernel
theorem dX10_town_76 : decode cX10_town 76 = .ok (.aload 4, 2) := by decide +kernel
theorem dX10_town_78 : decode cX10_town 78 = .ok (.iload_n 2, 1) := by decide +kernel
theorem dX10_town_79 : decode cX10_town 79 = .ok (.invokevirtual 146, 3) := by decide +kernel
theorem dX10_town_82 : decode cX10_town 82 = .ok (.ifCond .eq 13, 3) := by decide +kernel
theorem dX10_town_85 : decode cX10_town 85 = .ok (.aload 4, 2) := by decide +kernel
theorem dX10_town_87 : decode cX10_town 87 = .ok (.getfield 149, 3) := by decide +kernel
theorem dX10_town_90 : decode cX10_town 90 = .ok (.iload_n 2, 1) := by decide +kernel
theorem dX10_town_91 : decode cX10_town 91 = .ok (.iaload, 1) := by decide +kernel
theorem dX10_town_92 : decode cX10_town 92 = .ok (.goto 5, 3) := by decide +kernel
theorem dX10_town_95 : decode cX10_town 95 = .ok (.bipush (-4), 2) := by decide +kernel
theorem dX10_town_97 : decode cX10_town 97 = .ok (.ireturn, 1) := by decide +kernel
theorem dX10_town_98 : decode cX10_town 98 = .ok (.aload 4, 2) := by decide +kernel
theorem dX10_town_100 : decode cX10_town 100 = .ok (.getfield 152, 3) := by decide +kernel
theorem dX10_town_103 : decode cX10_town 103 = .ok (.iload_n 2, 1) := by decide +kernel
theorem dX10_town_104 : decode cX10_town 104 = .ok (.iaload, 1) := by decide +kernel
theorem dX10_town_105 : decode cX10_town 105 = .ok (.ireturn, 1) := by decide +kernel
theorem dX10_lost_0 : decode cX10_lost 0 = .ok (.aload_n 0, 1) := by decide +kernel
theorem dX10_lost_1 : decode cX10_lost 1 = .ok (.iload_n 1, 1) := by decide +kernel
theorem dX10_lost_2 : decode cX10_lost 2 = .ok (.invokevirtual 132, 3) := by decide +kernel
theorem dX10_lost_5 : decode cX10_lost 5 = .ok (.ifCond .ne 5, 3) := by decide +kernel
theorem dX10_lost_8 : decode cX10_lost 8 = .ok (.iconst (-1), 1) := by decide +kernel
theorem dX10_lost_9 : decode cX10_lost 9 = .ok (.ireturn, 1) := by decide +kernel
theorem dX10_lost_10 : decode cX10_lost 10 = .ok (.aload_n 0, 1) := by decide +kernel
theorem dX10_lost_11 : decode cX10_lost 11 = .ok (.invokevirtual 135, 3) := by decide +kernel
theorem dX10_lost_14 : decode cX10_lost 14 = .ok (.getfield 139, 3) := by decide +kernel
theorem dX10_lost_17 : decode cX10_lost 17 = .ok (.iload_n 1, 1) := by decide +kernel
theorem dX10_lost_18 : decode cX10_lost 18 = .ok (.aaload, 1) := by decide +kernel
theorem dX10_lost_19 : decode cX10_lost 19 = .ok (.getfield 155, 3) := by decide +kernel
theorem dX10_lost_22 : decode cX10_lost 22 = .ok (.ireturn, 1) := by decide +kernel
theorem dX10_meet_0 : decode cX10_meet 0 = .ok (.aload_n 0, 1) := by decide +kernel
theorem dX10_meet_1 : decode cX10_meet 1 = .ok (.iload_n 1, 1) := by decide +kernel
theorem dX10_meet_2 : decode cX10_meet 2 = .ok (.iload_n 2, 1) := by decide +kernel
theorem dX10_meet_3 : decode cX10_meet 3 = .ok (.invokevirtual 158, 3) := by decide +kernel
theorem dX10_meet_6 : decode cX10_meet 6 = .ok (.ifCond .ne 5, 3) := by decide +kernel
theorem dX10_meet_9 : decode cX10_meet 9 = .ok (.iconst (-1), 1) := by decide +kernel
theorem dX10_meet_10 : decode cX10_meet 10 = .ok (.ireturn, 1) := by decide +kernel
theorem dX10_meet_11 : decode cX10_meet 11 = .ok (.aload_n 0, 1) := by decide +kernel
theorem dX10_meet_12 : decode cX10_meet 12 = .ok (.invokevirtual 135, 3) := by decide +kernel
theorem dX10_meet_15 : decode cX10_meet 15 = .ok (.astore_n 3, 1) := by decide +kernel
theorem dX10_meet_16 : decode cX10_meet 16 = .ok (.iconst 1, 1) := by decide +kernel
theorem dX10_meet_17 : decode cX10_meet 17 = .ok (.istore 4, 2) := by decide +kernel
theorem dX10_meet_19 : decode cX10_meet 19 = .ok (.iload 4, 2) := by decide +kernel
theorem dX10_meet_21 : decode cX10_meet 21 = .ok (.bipush 60, 2) := by decide +kernel
theorem dX10_meet_23 : decode cX10_meet 23 = .ok (.if_icmp .gt 32, 3) := by decide +kernel
theorem dX10_meet_26 : decode cX10_meet 26 = .ok (.aload_n 3, 1) := by decide +kernel
theorem dX10_meet_27 : decode cX10_meet 27 = .ok (.getfield 139, 3) := by decide +kernel
theorem dX10_meet_30 : decode cX10_meet 30 = .ok (.iload_n 1, 1) := by decide +kernel
theorem dX10_meet_31 : decode cX10_meet 31 = .ok (.aaload, 1) := by decide +kernel
theorem dX10_meet_32 : decode cX10_meet 32 = .ok (.aload_n 3, 1) := by decide +kernel
theorem dX10_meet_33 : decode cX10_meet 33 = .ok (.getfield 139, 3) := by decide +kernel
theorem dX10_meet_36 : decode cX10_meet 36 = .ok (.iload_n 2, 1) := by decide +kernel
theorem dX10_meet_37 : decode cX10_meet 37 = .ok (.aaload, 1) := by decide +kernel
theorem dX10_meet_38 : decode cX10_meet 38 = .ok (.iload 4, 2) := by decide +kernel
theorem dX10_meet_40 : decode cX10_meet 40 = .ok (.invokevirtual 162, 3) := by decide +kernel
theorem dX10_meet_43 : decode cX10_meet 43 = .ok (.ifCond .eq 6, 3) := by decide +kernel
theorem dX10_meet_46 : decode cX10_meet 46 = .ok (.iload 4, 2) := by decide +kernel
theorem dX10_meet_48 : decode cX10_meet 48 = .ok (.ireturn, 1) := by decide +kernel
theorem dX10_meet_49 : decode cX10_meet 49 = .ok (.iinc 4 1, 3) := by decide +kernel
theorem dX10_meet_52 : decode cX10_meet 52 = .ok (.goto (-33), 3) := by decide +kernel
theorem dX10_meet_55 : decode cX10_meet 55 = .ok (.bipush (-4), 2) := by decide +kernel
theorem dX10_meet_57 : decode cX10_meet 57 = .ok (.ireturn, 1) := by decide +kernel
theorem dX10_markets_0 : decode cX10_markets 0 = .ok (.iload_n 1, 1) := by decide +kernel
theorem dX10_markets_1 : decode cX10_markets 1 = .ok (.iconst 1, 1) := by decide +kernel
theorem dX10_markets_2 : decode cX10_markets 2 = .ok (.bipush 60, 2) := by decide +kernel
theorem dX10_markets_4 : decode cX10_markets 4 = .ok (.invokestatic 121, 3) := by decide +kernel
theorem dX10_markets_7 : decode cX10_markets 7 = .ok (.ifCond .ne 5, 3) := by decide +kernel
theorem dX10_markets_10 : decode cX10_markets 10 = .ok (.iconst (-1), 1) := by decide +kernel
theorem dX10_markets_11 : decode cX10_markets 11 = .ok (.ireturn, 1) := by decide +kernel
theorem dX10_markets_12 : decode cX10_markets 12 = .ok (.aload_n 0, 1) := by decide +kernel
theorem dX10_markets_13 : decode cX10_markets 13 = .ok (.invokevirtual 135, 3) := by decide +kernel
theorem dX10_markets_16 : decode cX10_markets 16 = .ok (.iload_n 1, 1) := by decide +kernel
theorem dX10_markets_17 : decode cX10_markets 17 = .ok (.invokevirtual 166, 3) := by decide +kernel
theorem dX10_markets_20 : decode cX10_markets 20 = .ok (.ireturn, 1) := by decide +kernel
theorem dX10_stay_0 : decode cX10_stay 0 = .ok (.aload_n 0, 1) := by decide +kernel
theorem dX10_stay_1 : decode cX10_stay 1 = .ok (.iload_n 1, 1) := by decide +kernel
theorem dX10_stay_2 : decode cX10_stay 2 = .ok (.iload_n 2, 1) := by decide +kernel
theorem dX10_stay_3 : decode cX10_stay 3 = .ok (.invokevirtual 158, 3) := by decide +kernel
theorem dX10_stay_6 : decode cX10_stay 6 = .ok (.ifCond .eq 12, 3) := by decide +kernel
theorem dX10_stay_9 : decode cX10_stay 9 = .ok (.iload_n 3, 1) := by decide +kernel
theorem dX10_stay_10 : decode cX10_stay 10 = .ok (.iconst 0, 1) := by decide +kernel
theorem dX10_stay_11 : decode cX10_stay 11 = .ok (.iconst 1, 1) := by decide +kernel
theorem dX10_stay_12 : decode cX10_stay 12 = .ok (.invokestatic 121, 3) := by decide +kernel
theorem dX10_stay_15 : decode cX10_stay 15 = .ok (.ifCond .ne 5, 3) := by decide +kernel
theorem dX10_stay_18 : decode cX10_stay 18 = .ok (.iconst (-1), 1) := by decide +kernel
theorem dX10_stay_19 : decode cX10_stay 19 = .ok (.ireturn, 1) := by decide +kernel
theorem dX10_stay_20 : decode cX10_stay 20 = .ok (.aload_n 0, 1) := by decide +kernel
theorem dX10_stay_21 : decode cX10_stay 21 = .ok (.getfield 71, 3) := by decide +kernel
theorem dX10_stay_24 : decode cX10_stay 24 = .ok (.getfield 170, 3) := by decide +kernel
theorem dX10_stay_27 : decode cX10_stay 27 = .ok (.iload_n 2, 1) := by decide +kernel
theorem dX10_stay_28 : decode cX10_stay 28 = .ok (.iaload, 1) := by decide +kernel
theorem dX10_stay_29 : decode cX10_stay 29 = .ok (.aload_n 0, 1) := by decide +kernel
theorem dX10_stay_30 : decode cX10_stay 30 = .ok (.getfield 71, 3) := by decide +kernel
theorem dX10_stay_33 : decode cX10_stay 33 = .ok (.getfield 170, 3) := by decide +kernel
theorem dX10_stay_36 : decode cX10_stay 36 = .ok (.iload_n 1, 1) := by decide +kernel
theorem dX10_stay_37 : decode cX10_stay 37 = .ok (.iaload, 1) := by decide +kernel
theorem dX10_stay_38 : decode cX10_stay 38 = .ok (.isub, 1) := by decide +kernel
theorem dX10_stay_39 : decode cX10_stay 39 = .ok (.invokestatic 173, 3) := by decide +kernel
theorem dX10_stay_42 : decode cX10_stay 42 = .ok (.istore 4, 2) := by decide +kernel
theorem dX10_stay_44 : decode cX10_stay 44 = .ok (.aload_n 0, 1) := by decide +kernel
theorem dX10_stay_45 : decode cX10_stay 45 = .ok (.getfield 71, 3) := by decide +kernel
theorem dX10_stay_48 : decode cX10_stay 48 = .ok (.getfield 125, 3) := by decide +kernel
theorem dX10_stay_51 : decode cX10_stay 51 = .ok (.aload_n 0, 1) := by decide +kernel
theorem dX10_stay_52 : decode cX10_stay 52 = .ok (.getfield 71, 3) := by decide +kernel
theorem dX10_stay_55 : decode cX10_stay 55 = .ok (.getfield 176, 3) := by decide +kernel
theorem dX10_stay_58 : decode cX10_stay 58 = .ok (.iload_n 1, 1) := by decide +kernel
theorem dX10_stay_59 : decode cX10_stay 59 = .ok (.iaload, 1) := by decide +kernel
theorem dX10_stay_60 : decode cX10_stay 60 = .ok (.iaload, 1) := by decide +kernel
theorem dX10_stay_61 : decode cX10_stay 61 = .ok (.aload_n 0, 1) := by decide +kernel
theorem dX10_stay_62 : decode cX10_stay 62 = .ok (.getfield 71, 3) := by decide +kernel
theorem dX10_stay_65 : decode cX10_stay 65 = .ok (.getfield 125, 3) := by decide +kernel
theorem dX10_stay_68 : decode cX10_stay 68 = .ok (.aload_n 0, 1) := by decide +kernel
theorem dX10_stay_69 : decode cX10_stay 69 = .ok (.getfield 71, 3) := by decide +kernel
theorem dX10_stay_72 : decode cX10_stay 72 = .ok (.getfield 176, 3) := by decide +kernel
theorem dX10_stay_75 : decode cX10_stay 75 = .ok (.iload_n 2, 1) := by decide +kernel
theorem dX10_stay_76 : decode cX10_stay 76 = .ok (.iaload, 1) := by decide +kernel
theorem dX10_stay_77 : decode cX10_stay 77 = .ok (.iaload, 1) := by decide +kernel
theorem dX10_stay_78 : decode cX10_stay 78 = .ok (.isub, 1) := by decide +kernel
theorem dX10_stay_79 : decode cX10_stay 79 = .ok (.invokestatic 173, 3) := by decide +kernel
theorem dX10_stay_82 : decode cX10_stay 82 = .ok (.istore 5, 2) := by decide +kernel
theorem dX10_stay_84 : decode cX10_stay 84 = .ok (.iload 4, 2) := by decide +kernel
theorem dX10_stay_86 : decode cX10_stay 86 = .ok (.iload 5, 2) := by decide +kernel
theorem dX10_stay_88 : decode cX10_stay 88 = .ok (.iconst 0, 1) := by decide +kernel
theorem dX10_stay_89 : decode cX10_stay 89 = .ok (.invokestatic 179, 3) := by decide +kernel
theorem dX10_stay_92 : decode cX10_stay 92 = .ok (.istore 6, 2) := by decide +kernel
theorem dX10_stay_94 : decode cX10_stay 94 = .ok (.iload 6, 2) := by decide +kernel
theorem dX10_stay_96 : decode cX10_stay 96 = .ok (.bipush (-4), 2) := by decide +kernel
theorem dX10_stay_98 : decode cX10_stay 98 = .ok (.if_icmp .ne 6, 3) := by decide +kernel
theorem dX10_stay_101 : decode cX10_stay 101 = .ok (.bipush (-4), 2) := by decide +kernel
theorem dX10_stay_103 : decode cX10_stay 103 = .ok (.ireturn, 1) := by decide +kernel
theorem dX10_stay_104 : decode cX10_stay 104 = .ok (.iload_n 3, 1) := by decide +kernel
theorem dX10_stay_105 : decode cX10_stay 105 = .ok (.ifCond .ne 8, 3) := by decide +kernel
theorem dX10_stay_108 : decode cX10_stay 108 = .ok (.iload 6, 2) := by decide +kernel
theorem dX10_stay_110 : decode cX10_stay 110 = .ok (.goto 10, 3) := by decide +kernel
theorem dX10_stay_113 : decode cX10_stay 113 = .ok (.iconst 0, 1) := by decide +kernel
theorem dX10_stay_114 : decode cX10_stay 114 = .ok (.iload 5, 2) := by decide +kernel
theorem dX10_stay_116 : decode cX10_stay 116 = .ok (.iconst 1, 1) := by decide +kernel
theorem dX10_stay_117 : decode cX10_stay 117 = .ok (.invokestatic 179, 3) := by decide +kernel
theorem dX10_stay_120 : decode cX10_stay 120 = .ok (.ireturn, 1) := by decide +kernel
theorem dX10_catches_0 : decode cX10_catches 0 = .ok (.aload_n 0, 1) := by decide +kernel
theorem dX10_catches_1 : decode cX10_catches 1 = .ok (.iload_n 1, 1) := by decide +kernel
theorem dX10_catches_2 : decode cX10_catches 2 = .ok (.iload_n 2, 1) := by decide +kernel
theorem dX10_catches_3 : decode cX10_catches 3 = .ok (.invokevirtual 158, 3) := by decide +kernel
theorem dX10_catches_6 : decode cX10_catches 6 = .ok (.ifCond .eq 12, 3) := by decide +kernel
theorem dX10_catches_9 : decode cX10_catches 9 = .ok (.iload_n 3, 1) := by decide +kernel
theorem dX10_catches_10 : decode cX10_catches 10 = .ok (.iconst 0, 1) := by decide +kernel
theorem dX10_catches_11 : decode cX10_catches 11 = .ok (.iconst 1, 1) := by decide +kernel
theorem dX10_catches_12 : decode cX10_catches 12 = .ok (.invokestatic 121, 3) := by decide +kernel
theorem dX10_catches_15 : decode cX10_catches 15 = .ok (.ifCond .ne 5, 3) := by decide +kernel
theorem dX10_catches_18 : decode cX10_catches 18 = .ok (.iconst (-1), 1) := by decide +kernel
theorem dX10_catches_19 : decode cX10_catches 19 = .ok (.ireturn, 1) := by decide +kernel
theorem dX10_catches_20 : decode cX10_catches 20 = .ok (.aload_n 0, 1) := by decide +kernel
theorem dX10_catches_21 : decode cX10_catches 21 = .ok (.getfield 43, 3) := by decide +kernel
theorem dX10_catches_24 : decode cX10_catches 24 = .ok (.aload_n 0, 1) := by decide +kernel
theorem dX10_catches_25 : decode cX10_catches 25 = .ok (.getfield 71, 3) := by decide +kernel
theorem dX10_catches_28 : decode cX10_catches 28 = .ok (.iload_n 1, 1) := by decide +kernel
theorem dX10_catches_29 : decode cX10_catches 29 = .ok (.aload_n 0, 1) := by decide +kernel
theorem dX10_catches_30 : decode cX10_catches 30 = .ok (.invokevirtual 135, 3) := by decide +kernel
theorem dX10_catches_33 : decode cX10_catches 33 = .ok (.getfield 139, 3) := by decide +kernel
theorem dX10_catches_36 : decode cX10_catches 36 = .ok (.iload_n 2, 1) := by decide +kernel
theorem dX10_catches_37 : decode cX10_catches 37 = .ok (.aaload, 1) := by decide +kernel
theorem dX10_catches_38 : decode cX10_catches 38 = .ok (.invokevirtual 183, 3) := by decide +kernel
theorem dX10_catches_41 : decode cX10_catches 41 = .ok (.ifCond .ne 6, 3) := by decide +kernel
theorem dX10_catches_44 : decode cX10_catches 44 = .ok (.bipush (-4), 2) := by decide +kernel
theorem dX10_catches_46 : decode cX10_catches 46 = .ok (.ireturn, 1) := by decide +kernel
theorem dX10_catches_47 : decode cX10_catches 47 = .ok (.iload_n 3, 1) := by decide +kernel
theorem dX10_catches_48 : decode cX10_catches 48 = .ok (.ifCond .ne 13, 3) := by decide +kernel
theorem dX10_catches_51 : decode cX10_catches 51 = .ok (.aload_n 0, 1) := by decide +kernel
theorem dX10_catches_52 : decode cX10_catches 52 = .ok (.getfield 43, 3) := by decide +kernel
theorem dX10_catches_55 : decode cX10_catches 55 = .ok (.getfield 187, 3) := by decide +kernel
theorem dX10_catches_58 : decode cX10_catches 58 = .ok (.goto 10, 3) := by decide +kernel
theorem dX10_catches_61 : decode cX10_catches 61 = .ok (.aload_n 0, 1) := by decide +kernel
theorem dX10_catches_62 : decode cX10_catches 62 = .ok (.getfield 43, 3) := by decide +kernel
theorem dX10_catches_65 : decode cX10_catches 65 = .ok (.getfield 190, 3) := by decide +kernel
theorem dX10_catches_68 : decode cX10_catches 68 = .ok (.ireturn, 1) := by decide +kernel
theorem dX10_keeps_0 : decode cX10_keeps 0 = .ok (.aload_n 0, 1) := by decide +kernel
theorem dX10_keeps_1 : decode cX10_keeps 1 = .ok (.iload_n 1, 1) := by decide +kernel
theorem dX10_keeps_2 : decode cX10_keeps 2 = .ok (.invokevirtual 132, 3) := by decide +kernel
theorem dX10_keeps_5 : decode cX10_keeps 5 = .ok (.ifCond .eq 22, 3) := by decide +kernel
theorem dX10_keeps_8 : decode cX10_keeps 8 = .ok (.iload_n 2, 1) := by decide +kernel
theorem dX10_keeps_9 : decode cX10_keeps 9 = .ok (.iconst 0, 1) := by decide +kernel
theorem dX10_keeps_10 : decode cX10_keeps 10 = .ok (.bipush 60, 2) := by decide +kernel
theorem dX10_keeps_12 : decode cX10_keeps 12 = .ok (.invokestatic 121, 3) := by decide +kernel
theorem dX10_keeps_15 : decode cX10_keeps 15 = .ok (.ifCond .eq 12, 3) := by decide +kernel
theorem dX10_keeps_18 : decode cX10_keeps 18 = .ok (.iload_n 3, 1) := by decide +kernel
theorem dX10_keeps_19 : decode cX10_keeps 19 = .ok (.iconst 0, 1) := by decide +kernel
theorem dX10_keeps_20 : decode cX10_keeps 20 = .ok (.iconst 1, 1) := by decide +kernel
theorem dX10_keeps_21 : decode cX10_keeps 21 = .ok (.invokestatic 121, 3) := by decide +kernel
theorem dX10_keeps_24 : decode cX10_keeps 24 = .ok (.ifCond .ne 5, 3) := by decide +kernel
theorem dX10_keeps_27 : decode cX10_keeps 27 = .ok (.iconst (-1), 1) := by decide +kernel
theorem dX10_keeps_28 : decode cX10_keeps 28 = .ok (.ireturn, 1) := by decide +kernel
theorem dX10_keeps_29 : decode cX10_keeps 29 = .ok (.iconst 0, 1) := by decide +kernel
theorem dX10_keeps_30 : decode cX10_keeps 30 = .ok (.istore 4, 2) := by decide +kernel
theorem dX10_keeps_32 : decode cX10_keeps 32 = .ok (.iconst (-1), 1) := by decide +kernel
theorem dX10_keeps_33 : decode cX10_keeps 33 = .ok (.istore 5, 2) := by decide +kernel
theorem dX10_keeps_35 : decode cX10_keeps 35 = .ok (.iconst 0, 1) := by decide +kernel
theorem dX10_keeps_36 : decode cX10_keeps 36 = .ok (.istore 6, 2) := by decide +kernel
theorem dX10_keeps_38 : decode cX10_keeps 38 = .ok (.iload 6, 2) := by decide +kernel
theorem dX10_keeps_40 : decode cX10_keeps 40 = .ok (.aload_n 0, 1) := by decide +kernel
theorem dX10_keeps_41 : decode cX10_keeps 41 = .ok (.getfield 71, 3) := by decide +kernel
theorem dX10_keeps_44 : decode cX10_keeps 44 = .ok (.getfield 192, 3) := by decide +kernel
theorem dX10_keeps_47 : decode cX10_keeps 47 = .ok (.if_icmp .ge 61, 3) := by decide +kernel
theorem dX10_keeps_50 : decode cX10_keeps 50 = .ok (.aload_n 0, 1) := by decide +kernel
theorem dX10_keeps_51 : decode cX10_keeps 51 = .ok (.getfield 36, 3) := by decide +kernel
theorem dX10_keeps_54 : decode cX10_keeps 54 = .ok (.aload_n 0, 1) := by decide +kernel
theorem dX10_keeps_55 : decode cX10_keeps 55 = .ok (.getfield 71, 3) := by decide +kernel
theorem dX10_keeps_58 : decode cX10_keeps 58 = .ok (.iload_n 1, 1) := by decide +kernel
theorem dX10_keeps_59 : decode cX10_keeps 59 = .ok (.iload 6, 2) := by decide +kernel
theorem dX10_keeps_61 : decode cX10_keeps 61 = .ok (.aload_n 0, 1) := by decide +kernel
theorem dX10_keeps_62 : decode cX10_keeps 62 = .ok (.getfield 71, 3) := by decide +kernel
theorem dX10_keeps_65 : decode cX10_keeps 65 = .ok (.getfield 170, 3) := by decide +kernel
theorem dX10_keeps_68 : decode cX10_keeps 68 = .ok (.iload_n 1, 1) := by decide +kernel
theorem dX10_keeps_69 : decode cX10_keeps 69 = .ok (.iaload, 1) := by decide +kernel
theorem dX10_keeps_70 : decode cX10_keeps 70 = .ok (.invokevirtual 195, 3) := by decide +kernel
theorem dX10_keeps_73 : decode cX10_keeps 73 = .ok (.aload_n 0, 1) := by decide +kernel
theorem dX10_keeps_74 : decode cX10_keeps 74 = .ok (.getfield 36, 3) := by decide +kernel
theorem dX10_keeps_77 : decode cX10_keeps 77 = .ok (.getfield 152, 3) := by decide +kernel
theorem dX10_keeps_80 : decode cX10_keeps 80 = .ok (.iload_n 2, 1) := by decide +kernel
theorem dX10_keeps_81 : decode cX10_keeps 81 = .ok (.iaload, 1) := by decide +kernel
theorem dX10_keeps_82 : decode cX10_keeps 82 = .ok (.iload 5, 2) := by decide +kernel
theorem dX10_keeps_84 : decode cX10_keeps 84 = .ok (.if_icmp .le 18, 3) := by decide +kernel
theorem dX10_keeps_87 : decode cX10_keeps 87 = .ok (.aload_n 0, 1) := by decide +kernel
theorem dX10_keeps_88 : decode cX10_keeps 88 = .ok (.getfield 36, 3) := by decide +kernel
theorem dX10_keeps_91 : decode cX10_keeps 91 = .ok (.getfield 152, 3) := by decide +kernel
theorem dX10_keeps_94 : decode cX10_keeps 94 = .ok (.iload_n 2, 1) := by decide +kernel
theorem dX10_keeps_95 : decode cX10_keeps 95 = .ok (.iaload, 1) := by decide +kernel
theorem dX10_keeps_96 : decode cX10_keeps 96 = .ok (.istore 5, 2) := by decide +kernel
theorem dX10_keeps_98 : decode cX10_keeps 98 = .ok (.iload 6, 2) := by decide +kernel
theorem dX10_keeps_100 : decode cX10_keeps 100 = .ok (.istore 4, 2) := by decide +kernel
theorem dX10_keeps_102 : decode cX10_keeps 102 = .ok (.iinc 6 1, 3) := by decide +kernel
theorem dX10_keeps_105 : decode cX10_keeps 105 = .ok (.goto (-67), 3) := by decide +kernel
theorem dX10_keeps_108 : decode cX10_keeps 108 = .ok (.iload_n 3, 1) := by decide +kernel
theorem dX10_keeps_109 : decode cX10_keeps 109 = .ok (.ifCond .ne 8, 3) := by decide +kernel
theorem dX10_keeps_112 : decode cX10_keeps 112 = .ok (.iload 4, 2) := by decide +kernel
theorem dX10_keeps_114 : decode cX10_keeps 114 = .ok (.goto 5, 3) := by decide +kernel
theorem dX10_keeps_117 : decode cX10_keeps 117 = .ok (.iload 5, 2) := by decide +kernel
theorem dX10_keeps_119 : decode cX10_keeps 119 = .ok (.ireturn, 1) := by decide +kernel
theorem dX10_trades_0 : decode cX10_trades 0 = .ok (.aload_n 0, 1) := by decide +kernel
theorem dX10_trades_1 : decode cX10_trades 1 = .ok (.iload_n 1, 1) := by decide +kernel
theorem dX10_trades_2 : decode cX10_trades 2 = .ok (.invokevirtual 132, 3) := by decide +kernel
theorem dX10_trades_5 : decode cX10_trades 5 = .ok (.ifCond .eq 22, 3) := by decide +kernel
theorem dX10_trades_8 : decode cX10_trades 8 = .ok (.iload_n 2, 1) := by decide +kernel
theorem dX10_trades_9 : decode cX10_trades 9 = .ok (.iconst 1, 1) := by decide +kernel
theorem dX10_trades_10 : decode cX10_trades 10 = .ok (.bipush 60, 2) := by decide +kernel
theorem dX10_trades_12 : decode cX10_trades 12 = .ok (.invokestatic 121, 3) := by decide +kernel
theorem dX10_trades_15 : decode cX10_trades 15 = .ok (.ifCond .eq 12, 3) := by decide +kernel
theorem dX10_trades_18 : decode cX10_trades 18 = .ok (.iload_n 3, 1) := by decide +kernel
theorem dX10_trades_19 : decode cX10_trades 19 = .ok (.iconst 0, 1) := by decide +kernel
theorem dX10_trades_20 : decode cX10_trades 20 = .ok (.iconst 1, 1) := by decide +kernel
theorem dX10_trades_21 : decode cX10_trades 21 = .ok (.invokestatic 121, 3) := by decide +kernel
theorem dX10_trades_24 : decode cX10_trades 24 = .ok (.ifCond .ne 5, 3) := by decide +kernel
theorem dX10_trades_27 : decode cX10_trades 27 = .ok (.iconst (-1), 1) := by decide +kernel
theorem dX10_trades_28 : decode cX10_trades 28 = .ok (.ireturn, 1) := by decide +kernel
theorem dX10_trades_29 : decode cX10_trades 29 = .ok (.aload_n 0, 1) := by decide +kernel
theorem dX10_trades_30 : decode cX10_trades 30 = .ok (.invokevirtual 135, 3) := by decide +kernel
theorem dX10_trades_33 : decode cX10_trades 33 = .ok (.astore 4, 2) := by decide +kernel
theorem dX10_trades_35 : decode cX10_trades 35 = .ok (.iconst 0, 1) := by decide +kernel
theorem dX10_trades_36 : decode cX10_trades 36 = .ok (.istore 5, 2) := by decide +kernel
theorem dX10_trades_38 : decode cX10_trades 38 = .ok (.iconst (-1), 1) := by decide +kernel
theorem dX10_trades_39 : decode cX10_trades 39 = .ok (.istore 6, 2) := by decide +kernel
theorem dX10_trades_41 : decode cX10_trades 41 = .ok (.iconst 0, 1) := by decide +kernel
theorem dX10_trades_42 : decode cX10_trades 42 = .ok (.istore 7, 2) := by decide +kernel
theorem dX10_trades_44 : decode cX10_trades 44 = .ok (.iload 7, 2) := by decide +kernel
theorem dX10_trades_46 : decode cX10_trades 46 = .ok (.aload_n 0, 1) := by decide +kernel
theorem dX10_trades_47 : decode cX10_trades 47 = .ok (.getfield 71, 3) := by decide +kernel
theorem dX10_trades_50 : decode cX10_trades 50 = .ok (.getfield 192, 3) := by decide +kernel
theorem dX10_trades_53 : decode cX10_trades 53 = .ok (.if_icmp .ge 60, 3) := by decide +kernel
theorem dX10_trades_56 : decode cX10_trades 56 = .ok (.aload_n 0, 1) := by decide +kernel
theorem dX10_trades_57 : decode cX10_trades 57 = .ok (.getfield 36, 3) := by decide +kernel
theorem dX10_trades_60 : decode cX10_trades 60 = .ok (.aload_n 0, 1) := by decide +kernel
theorem dX10_trades_61 : decode cX10_trades 61 = .ok (.getfield 71, 3) := by decide +kernel
theorem dX10_trades_64 : decode cX10_trades 64 = .ok (.iload_n 1, 1) := by decide +kernel
theorem dX10_trades_65 : decode cX10_trades 65 = .ok (.iload 7, 2) := by decide +kernel
theorem dX10_trades_67 : decode cX10_trades 67 = .ok (.aload_n 0, 1) := by decide +kernel
theorem dX10_trades_68 : decode cX10_trades 68 = .ok (.getfield 71, 3) := by decide +kernel
theorem dX10_trades_71 : decode cX10_trades 71 = .ok (.getfield 170, 3) := by decide +kernel
theorem dX10_trades_74 : decode cX10_trades 74 = .ok (.iload_n 1, 1) := by decide +kernel
theorem dX10_trades_75 : decode cX10_trades 75 = .ok (.iaload, 1) := by decide +kernel
theorem dX10_trades_76 : decode cX10_trades 76 = .ok (.invokevirtual 195, 3) := by decide +kernel
theorem dX10_trades_79 : decode cX10_trades 79 = .ok (.aload 4, 2) := by decide +kernel
theorem dX10_trades_81 : decode cX10_trades 81 = .ok (.aload_n 0, 1) := by decide +kernel
theorem dX10_trades_82 : decode cX10_trades 82 = .ok (.getfield 36, 3) := by decide +kernel
theorem dX10_trades_85 : decode cX10_trades 85 = .ok (.iload_n 1, 1) := by decide +kernel
theorem dX10_trades_86 : decode cX10_trades 86 = .ok (.iload_n 2, 1) := by decide +kernel
theorem dX10_trades_87 : decode cX10_trades 87 = .ok (.invokevirtual 199, 3) := by decide +kernel
theorem dX10_trades_90 : decode cX10_trades 90 = .ok (.istore 8, 2) := by decide +kernel
theorem dX10_trades_92 : decode cX10_trades 92 = .ok (.iload 8, 2) := by decide +kernel
theorem dX10_trades_94 : decode cX10_trades 94 = .ok (.iload 6, 2) := by decide +kernel
theorem dX10_trades_96 : decode cX10_trades 96 = .ok (.if_icmp .le 11, 3) := by decide +kernel
theorem dX10_trades_99 : decode cX10_trades 99 = .ok (.iload 8, 2) := by decide +kernel
theorem dX10_trades_101 : decode cX10_trades 101 = .ok (.istore 6, 2) := by decide +kernel
theorem dX10_trades_103 : decode cX10_trades 103 = .ok (.iload 7, 2) := by decide +kernel
theorem dX10_trades_105 : decode cX10_trades 105 = .ok (.istore 5, 2) := by decide +kernel
theorem dX10_trades_107 : decode cX10_trades 107 = .ok (.iinc 7 1, 3) := by decide +kernel
theorem dX10_trades_110 : decode cX10_trades 110 = .ok (.goto (-66), 3) := by decide +kernel
theorem dX10_trades_113 : decode cX10_trades 113 = .ok (.iload_n 3, 1) := by decide +kernel
theorem dX10_trades_114 : decode cX10_trades 114 = .ok (.ifCond .ne 8, 3) := by decide +kernel
theorem dX10_trades_117 : decode cX10_trades 117 = .ok (.iload 5, 2) := by decide +kernel
theorem dX10_trades_119 : decode cX10_trades 119 = .ok (.goto 5, 3) := by decide +kernel
theorem dX10_trades_122 : decode cX10_trades 122 = .ok (.iload 6, 2) := by decide +kernel
theorem dX10_trades_124 : decode cX10_trades 124 = .ok (.ireturn, 1) := by decide +kernel
theorem dX10_dropped_0 : decode cX10_dropped 0 = .ok (.aload_n 0, 1) := by decide +kernel
theorem dX10_dropped_1 : decode cX10_dropped 1 = .ok (.iload_n 1, 1) := by decide +kernel
theorem dX10_dropped_2 : decode cX10_dropped 2 = .ok (.invokevirtual 117, 3) := by decide +kernel
theorem dX10_dropped_5 : decode cX10_dropped 5 = .ok (.ifCond .eq 30, 3) := by decide +kernel
theorem dX10_dropped_8 : decode cX10_dropped 8 = .ok (.iload_n 2, 1) := by decide +kernel
theorem dX10_dropped_9 : decode cX10_dropped 9 = .ok (.invokestatic 203, 3) := by decide +kernel
theorem dX10_dropped_12 : decode cX10_dropped 12 = .ok (.ifCond .eq 23, 3) := by decide +kernel
theorem dX10_dropped_15 : decode cX10_dropped 15 = .ok (.iload_n 3, 1) := by decide +kernel
theorem dX10_dropped_16 : decode cX10_dropped 16 = .ok (.iconst 0, 1) := by decide +kernel
theorem dX10_dropped_17 : decode cX10_dropped 17 = .ok (.bipush 60, 2) := by decide +kernel
theorem dX10_dropped_19 : decode cX10_dropped 19 = .ok (.invokestatic 121, 3) := by decide +kernel
theorem dX10_dropped_22 : decode cX10_dropped 22 = .ok (.ifCond .eq 13, 3) := by decide +kernel
theorem dX10_dropped_25 : decode cX10_dropped 25 = .ok (.iload 4, 2) := by decide +kernel
theorem dX10_dropped_27 : decode cX10_dropped 27 = .ok (.iconst 0, 1) := by decide +kernel
theorem dX10_dropped_28 : decode cX10_dropped 28 = .ok (.iconst 1, 1) := by decide +kernel
theorem dX10_dropped_29 : decode cX10_dropped 29 = .ok (.invokestatic 121, 3) := by decide +kernel
theorem dX10_dropped_32 : decode cX10_dropped 32 = .ok (.ifCond .ne 5, 3) := by decide +kernel
theorem dX10_dropped_35 : decode cX10_dropped 35 = .ok (.iconst (-1), 1) := by decide +kernel
theorem dX10_dropped_36 : decode cX10_dropped 36 = .ok (.ireturn, 1) := by decide +kernel
theorem dX10_dropped_37 : decode cX10_dropped 37 = .ok (.iload_n 1, 1) := by decide +kernel
theorem dX10_dropped_38 : decode cX10_dropped 38 = .ok (.iload_n 3, 1) := by decide +kernel
theorem dX10_dropped_39 : decode cX10_dropped 39 = .ok (.isub, 1) := by decide +kernel
theorem dX10_dropped_40 : decode cX10_dropped 40 = .ok (.istore 5, 2) := by decide +kernel
theorem dX10_dropped_42 : decode cX10_dropped 42 = .ok (.iload_n 2, 1) := by decide +kernel
theorem dX10_dropped_43 : decode cX10_dropped 43 = .ok (.istore 6, 2) := by decide +kernel
theorem dX10_dropped_45 : decode cX10_dropped 45 = .ok (.iload_n 1, 1) := by decide +kernel
theorem dX10_dropped_46 : decode cX10_dropped 46 = .ok (.istore 7, 2) := by decide +kernel
theorem dX10_dropped_48 : decode cX10_dropped 48 = .ok (.iload 7, 2) := by decide +kernel
theorem dX10_dropped_50 : decode cX10_dropped 50 = .ok (.ifCond .lt 34, 3) := by decide +kernel
theorem dX10_dropped_53 : decode cX10_dropped 53 = .ok (.iload 7, 2) := by decide +kernel
theorem dX10_dropped_55 : decode cX10_dropped 55 = .ok (.iload 5, 2) := by decide +kernel
theorem dX10_dropped_57 : decode cX10_dropped 57 = .ok (.if_icmp .le 27, 3) := by decide +kernel
theorem dX10_dropped_60 : decode cX10_dropped 60 = .ok (.iload 6, 2) := by decide +kernel
theorem dX10_dropped_62 : decode cX10_dropped 62 = .ok (.aload_n 0, 1) := by decide +kernel
theorem dX10_dropped_63 : decode cX10_dropped 63 = .ok (.getfield 71, 3) := by decide +kernel
theorem dX10_dropped_66 : decode cX10_dropped 66 = .ok (.getfield 125, 3) := by decide +kernel
theorem dX10_dropped_69 : decode cX10_dropped 69 = .ok (.iload 7, 2) := by decide +kernel
theorem dX10_dropped_71 : decode cX10_dropped 71 = .ok (.iaload, 1) := by decide +kernel
theorem dX10_dropped_72 : decode cX10_dropped 72 = .ok (.iadd, 1) := by decide +kernel
theorem dX10_dropped_73 : decode cX10_dropped 73 = .ok (.invokestatic 173, 3) := by decide +kernel
theorem dX10_dropped_76 : decode cX10_dropped 76 = .ok (.istore 6, 2) := by decide +kernel
theorem dX10_dropped_78 : decode cX10_dropped 78 = .ok (.iinc 7 (-1), 3) := by decide +kernel
theorem dX10_dropped_81 : decode cX10_dropped 81 = .ok (.goto (-33), 3) := by decide +kernel
theorem dX10_dropped_84 : decode cX10_dropped 84 = .ok (.iload 4, 2) := by decide +kernel
theorem dX10_dropped_86 : decode cX10_dropped 86 = .ok (.iconst 1, 1) := by decide +kernel
theorem dX10_dropped_87 : decode cX10_dropped 87 = .ok (.if_icmp .ne 6, 3) := by decide +kernel
theorem dX10_dropped_90 : decode cX10_dropped 90 = .ok (.iload 6, 2) := by decide +kernel
theorem dX10_dropped_92 : decode cX10_dropped 92 = .ok (.ireturn, 1) := by decide +kernel
theorem dX10_dropped_93 : decode cX10_dropped 93 = .ok (.iload 5, 2) := by decide +kernel
theorem dX10_dropped_95 : decode cX10_dropped 95 = .ok (.ifCond .lt 8, 3) := by decide +kernel
theorem dX10_dropped_98 : decode cX10_dropped 98 = .ok (.iload 5, 2) := by decide +kernel
theorem dX10_dropped_100 : decode cX10_dropped 100 = .ok (.goto 5, 3) := by decide +kernel
theorem dX10_dropped_103 : decode cX10_dropped 103 = .ok (.bipush 9, 2) := by decide +kernel
theorem dX10_dropped_105 : decode cX10_dropped 105 = .ok (.ireturn, 1) := by decide +kernel
theorem dX10_seen_0 : decode cX10_seen 0 = .ok (.iload_n 1, 1) := by decide +kernel
theorem dX10_seen_1 : decode cX10_seen 1 = .ok (.invokestatic 203, 3) := by decide +kernel
theorem dX10_seen_4 : decode cX10_seen 4 = .ok (.ifCond .eq 20, 3) := by decide +kernel
theorem dX10_seen_7 : decode cX10_seen 7 = .ok (.iload_n 2, 1) := by decide +kernel
theorem dX10_seen_8 : decode cX10_seen 8 = .ok (.invokestatic 203, 3) := by decide +kernel
theorem dX10_seen_11 : decode cX10_seen 11 = .ok (.ifCond .eq 13, 3) := by decide +kernel
theorem dX10_seen_14 : decode cX10_seen 14 = .ok (.iload_n 3, 1) := by decide +kernel
theorem dX10_seen_15 : decode cX10_seen 15 = .ok (.iconst 1, 1) := by decide +kernel
theorem dX10_seen_16 : decode cX10_seen 16 = .ok (.bipush 99, 2) := by decide +kernel
theorem dX10_seen_18 : decode cX10_seen 18 = .ok (.invokestatic 121, 3) := by decide +kernel
theorem dX10_seen_21 : decode cX10_seen 21 = .ok (.ifCond .ne 5, 3) := by decide +kernel
theorem dX10_seen_24 : decode cX10_seen 24 = .ok (.iconst (-1), 1) := by decide +kernel
theorem dX10_seen_25 : decode cX10_seen 25 = .ok (.ireturn, 1) := by decide +kernel
theorem dX10_seen_26 : decode cX10_seen 26 = .ok (.aload_n 0, 1) := by decide +kernel
theorem dX10_seen_27 : decode cX10_seen 27 = .ok (.iload_n 1, 1) := by decide +kernel
theorem dX10_seen_28 : decode cX10_seen 28 = .ok (.iload_n 2, 1) := by decide +kernel
theorem dX10_seen_29 : decode cX10_seen 29 = .ok (.iload_n 3, 1) := by decide +kernel
theorem dX10_seen_30 : decode cX10_seen 30 = .ok (.invokevirtual 206, 3) := by decide +kernel
theorem dX10_seen_33 : decode cX10_seen 33 = .ok (.ireturn, 1) := by decide +kernel
theorem dX10_seenTwice_0 : decode cX10_seenTwice 0 = .ok (.iload_n 1, 1) := by decide +kernel
theorem dX10_seenTwice_1 : decode cX10_seenTwice 1 = .ok (.invokestatic 203, 3) := by decide +kernel
theorem dX10_seenTwice_4 : decode cX10_seenTwice 4 = .ok (.ifCond .eq 20, 3) := by decide +kernel
theorem dX10_seenTwice_7 : decode cX10_seenTwice 7 = .ok (.iload_n 2, 1) := by decide +kernel
theorem dX10_seenTwice_8 : decode cX10_seenTwice 8 = .ok (.invokestatic 203, 3) := by decide +kernel
theorem dX10_seenTwice_11 : decode cX10_seenTwice 11 = .ok (.ifCond .eq 13, 3) := by decide +kernel
theorem dX10_seenTwice_14 : decode cX10_seenTwice 14 = .ok (.iload_n 3, 1) := by decide +kernel
theorem dX10_seenTwice_15 : decode cX10_seenTwice 15 = .ok (.iconst 1, 1) := by decide +kernel
theorem dX10_seenTwice_16 : decode cX10_seenTwice 16 = .ok (.bipush 99, 2) := by decide +kernel
theorem dX10_seenTwice_18 : decode cX10_seenTwice 18 = .ok (.invokestatic 121, 3) := by decide +kernel
theorem dX10_seenTwice_21 : decode cX10_seenTwice 21 = .ok (.ifCond .ne 5, 3) := by decide +kernel
theorem dX10_seenTwice_24 : decode cX10_seenTwice 24 = .ok (.iconst (-1), 1) := by decide +kernel
theorem dX10_seenTwice_25 : decode cX10_seenTwice 25 = .ok (.ireturn, 1) := by decide +kernel
theorem dX10_seenTwice_26 : decode cX10_seenTwice 26 = .ok (.iload 4, 2) := by decide +kernel
theorem dX10_seenTwice_28 : decode cX10_seenTwice 28 = .ok (.invokestatic 203, 3) := by decide +kernel
theorem dX10_seenTwice_31 : decode cX10_seenTwice 31 = .ok (.ifCond .eq 14, 3) := by decide +kernel
theorem dX10_seenTwice_34 : decode cX10_seenTwice 34 = .ok (.iload 5, 2) := by decide +kernel
theorem dX10_seenTwice_36 : decode cX10_seenTwice 36 = .ok (.iconst 1, 1) := by decide +kernel
theorem dX10_seenTwice_37 : decode cX10_seenTwice 37 = .ok (.bipush 99, 2) := by decide +kernel
theorem dX10_seenTwice_39 : decode cX10_seenTwice 39 = .ok (.invokestatic 121, 3) := by decide +kernel
theorem dX10_seenTwice_42 : decode cX10_seenTwice 42 = .ok (.ifCond .ne 5, 3) := by decide +kernel
theorem dX10_seenTwice_45 : decode cX10_seenTwice 45 = .ok (.iconst (-1), 1) := by decide +kernel
theorem dX10_seenTwice_46 : decode cX10_seenTwice 46 = .ok (.ireturn, 1) := by decide +kernel
theorem dX10_seenTwice_47 : decode cX10_seenTwice 47 = .ok (.aload_n 0, 1) := by decide +kernel
theorem dX10_seenTwice_48 : decode cX10_seenTwice 48 = .ok (.iload_n 1, 1) := by decide +kernel
theorem dX10_seenTwice_49 : decode cX10_seenTwice 49 = .ok (.iload_n 2, 1) := by decide +kernel
theorem dX10_seenTwice_50 : decode cX10_seenTwice 50 = .ok (.iload_n 3, 1) := by decide +kernel
theorem dX10_seenTwice_51 : decode cX10_seenTwice 51 = .ok (.invokevirtual 206, 3) := by decide +kernel
theorem dX10_seenTwice_54 : decode cX10_seenTwice 54 = .ok (.aload_n 0, 1) := by decide +kernel
theorem dX10_seenTwice_55 : decode cX10_seenTwice 55 = .ok (.iload_n 2, 1) := by decide +kernel
theorem dX10_seenTwice_56 : decode cX10_seenTwice 56 = .ok (.iload 4, 2) := by decide +kernel
theorem dX10_seenTwice_58 : decode cX10_seenTwice 58 = .ok (.iload 5, 2) := by decide +kernel
theorem dX10_seenTwice_60 : decode cX10_seenTwice 60 = .ok (.invokevirtual 206, 3) := by decide +kernel
theorem dX10_seenTwice_63 : decode cX10_seenTwice 63 = .ok (.iand, 1) := by decide +kernel
theorem dX10_seenTwice_64 : decode cX10_seenTwice 64 = .ok (.ireturn, 1) := by decide +kernel
theorem dX10_gusts_0 : decode cX10_gusts 0 = .ok (.aload_n 0, 1) := by decide +kernel
theorem dX10_gusts_1 : decode cX10_gusts 1 = .ok (.iload_n 1, 1) := by decide +kernel
theorem dX10_gusts_2 : decode cX10_gusts 2 = .ok (.invokevirtual 117, 3) := by decide +kernel
theorem dX10_gusts_5 : decode cX10_gusts 5 = .ok (.ifCond .eq 21, 3) := by decide +kernel
theorem dX10_gusts_8 : decode cX10_gusts 8 = .ok (.aload_n 0, 1) := by decide +kernel
theorem dX10_gusts_9 : decode cX10_gusts 9 = .ok (.iload_n 2, 1) := by decide +kernel
theorem dX10_gusts_10 : decode cX10_gusts 10 = .ok (.invokevirtual 117, 3) := by decide +kernel
theorem dX10_gusts_13 : decode cX10_gusts 13 = .ok (.ifCond .eq 13, 3) := by decide +kernel
theorem dX10_gusts_16 : decode cX10_gusts 16 = .ok (.iload_n 3, 1) := by decide +kernel
theorem dX10_gusts_17 : decode cX10_gusts 17 = .ok (.iconst 0, 1) := by decide +kernel
theorem dX10_gusts_18 : decode cX10_gusts 18 = .ok (.bipush 10, 2) := by decide +kernel
theorem dX10_gusts_20 : decode cX10_gusts 20 = .ok (.invokestatic 121, 3) := by decide +kernel
theorem dX10_gusts_23 : decode cX10_gusts 23 = .ok (.ifCond .ne 7, 3) := by decide +kernel
theorem dX10_gusts_26 : decode cX10_gusts 26 = .ok (.ldc2_w 209, 3) := by decide +kernel
theorem dX10_gusts_29 : decode cX10_gusts 29 = .ok (.lreturn, 1) := by decide +kernel
theorem dX10_gusts_30 : decode cX10_gusts 30 = .ok (.iload 4, 2) := by decide +kernel
theorem dX10_gusts_32 : decode cX10_gusts 32 = .ok (.iconst 0, 1) := by decide +kernel
theorem dX10_gusts_33 : decode cX10_gusts 33 = .ok (.bipush 9, 2) := by decide +kernel
theorem dX10_gusts_35 : decode cX10_gusts 35 = .ok (.invokestatic 121, 3) := by decide +kernel
theorem dX10_gusts_38 : decode cX10_gusts 38 = .ok (.ifCond .eq 13, 3) := by decide +kernel
theorem dX10_gusts_41 : decode cX10_gusts 41 = .ok (.iload 5, 2) := by decide +kernel
theorem dX10_gusts_43 : decode cX10_gusts 43 = .ok (.iconst 0, 1) := by decide +kernel
theorem dX10_gusts_44 : decode cX10_gusts 44 = .ok (.iconst 1, 1) := by decide +kernel
theorem dX10_gusts_45 : decode cX10_gusts 45 = .ok (.invokestatic 121, 3) := by decide +kernel
theorem dX10_gusts_48 : decode cX10_gusts 48 = .ok (.ifCond .ne 7, 3) := by decide +kernel
theorem dX10_gusts_51 : decode cX10_gusts 51 = .ok (.ldc2_w 209, 3) := by decide +kernel
theorem dX10_gusts_54 : decode cX10_gusts 54 = .ok (.lreturn, 1) := by decide +kernel
theorem dX10_gusts_55 : decode cX10_gusts 55 = .ok (.aload_n 0, 1) := by decide +kernel
theorem dX10_gusts_56 : decode cX10_gusts 56 = .ok (.getfield 50, 3) := by decide +kernel
theorem dX10_gusts_59 : decode cX10_gusts 59 = .ok (.aload_n 0, 1) := by decide +kernel
theorem dX10_gusts_60 : decode cX10_gusts 60 = .ok (.getfield 71, 3) := by decide +kernel
theorem dX10_gusts_63 : decode cX10_gusts 63 = .ok (.getfield 192, 3) := by decide +kernel
theorem dX10_gusts_66 : decode cX10_gusts 66 = .ok (.iload_n 1, 1) := by decide +kernel
theorem dX10_gusts_67 : decode cX10_gusts 67 = .ok (.iload_n 2, 1) := by decide +kernel
theorem dX10_gusts_68 : decode cX10_gusts 68 = .ok (.iload_n 3, 1) := by decide +kernel
theorem dX10_gusts_69 : decode cX10_gusts 69 = .ok (.iload 4, 2) := by decide +kernel
theorem dX10_gusts_71 : decode cX10_gusts 71 = .ok (.invokevirtual 211, 3) := by decide +kernel
theorem dX10_gusts_74 : decode cX10_gusts 74 = .ok (.iload 5, 2) := by decide +kernel
theorem dX10_gusts_76 : decode cX10_gusts 76 = .ok (.ifCond .ne 13, 3) := by decide +kernel
theorem dX10_gusts_79 : decode cX10_gusts 79 = .ok (.aload_n 0, 1) := by decide +kernel
theorem dX10_gusts_80 : decode cX10_gusts 80 = .ok (.getfield 50, 3) := by decide +kernel
theorem dX10_gusts_83 : decode cX10_gusts 83 = .ok (.getfield 215, 3) := by decide +kernel
theorem dX10_gusts_86 : decode cX10_gusts 86 = .ok (.goto 10, 3) := by decide +kernel
theorem dX10_gusts_89 : decode cX10_gusts 89 = .ok (.aload_n 0, 1) := by decide +kernel
theorem dX10_gusts_90 : decode cX10_gusts 90 = .ok (.getfield 50, 3) := by decide +kernel
theorem dX10_gusts_93 : decode cX10_gusts 93 = .ok (.getfield 219, 3) := by decide +kernel
theorem dX10_gusts_96 : decode cX10_gusts 96 = .ok (.lreturn, 1) := by decide +kernel
theorem dX10_errand_0 : decode cX10_errand 0 = .ok (.aload_n 0, 1) := by decide +kernel
theorem dX10_errand_1 : decode cX10_errand 1 = .ok (.iload_n 1, 1) := by decide +kernel
theorem dX10_errand_2 : decode cX10_errand 2 = .ok (.invokevirtual 132, 3) := by decide +kernel
theorem dX10_errand_5 : decode cX10_errand 5 = .ok (.ifCond .eq 13, 3) := by decide +kernel
theorem dX10_errand_8 : decode cX10_errand 8 = .ok (.iload_n 2, 1) := by decide +kernel
theorem dX10_errand_9 : decode cX10_errand 9 = .ok (.iconst 1, 1) := by decide +kernel
theorem dX10_errand_10 : decode cX10_errand 10 = .ok (.bipush 60, 2) := by decide +kernel
theorem dX10_errand_12 : decode cX10_errand 12 = .ok (.invokestatic 121, 3) := by decide +kernel
theorem dX10_errand_15 : decode cX10_errand 15 = .ok (.ifCond .ne 5, 3) := by decide +kernel
theorem dX10_errand_18 : decode cX10_errand 18 = .ok (.iconst (-1), 1) := by decide +kernel
theorem dX10_errand_19 : decode cX10_errand 19 = .ok (.ireturn, 1) := by decide +kernel
theorem dX10_errand_20 : decode cX10_errand 20 = .ok (.aload_n 0, 1) := by decide +kernel
theorem dX10_errand_21 : decode cX10_errand 21 = .ok (.getfield 71, 3) := by decide +kernel
theorem dX10_errand_24 : decode cX10_errand 24 = .ok (.getfield 222, 3) := by decide +kernel
theorem dX10_errand_27 : decode cX10_errand 27 = .ok (.iload_n 1, 1) := by decide +kernel
theorem dX10_errand_28 : decode cX10_errand 28 = .ok (.iload_n 2, 1) := by decide +kernel
theorem dX10_errand_29 : decode cX10_errand 29 = .ok (.iload_n 3, 1) := by decide +kernel
theorem dX10_errand_30 : decode cX10_errand 30 = .ok (.invokevirtual 226, 3) := by decide +kernel
theorem dX10_errand_33 : decode cX10_errand 33 = .ok (.ifCond .ne 6, 3) := by decide +kernel
theorem dX10_errand_36 : decode cX10_errand 36 = .ok (.bipush (-3), 2) := by decide +kernel
theorem dX10_errand_38 : decode cX10_errand 38 = .ok (.ireturn, 1) := by decide +kernel
theorem dX10_errand_39 : decode cX10_errand 39 = .ok (.aload_n 0, 1) := by decide +kernel
theorem dX10_errand_40 : decode cX10_errand 40 = .ok (.getfield 57, 3) := by decide +kernel
theorem dX10_errand_43 : decode cX10_errand 43 = .ok (.iload_n 1, 1) := by decide +kernel
theorem dX10_errand_44 : decode cX10_errand 44 = .ok (.iconst (-1), 1) := by decide +kernel
theorem dX10_errand_45 : decode cX10_errand 45 = .ok (.invokevirtual 232, 3) := by decide +kernel
theorem dX10_errand_48 : decode cX10_errand 48 = .ok (.aload_n 0, 1) := by decide +kernel
theorem dX10_errand_49 : decode cX10_errand 49 = .ok (.iconst 1, 1) := by decide +kernel
theorem dX10_errand_50 : decode cX10_errand 50 = .ok (.putfield 78, 3) := by decide +kernel
theorem dX10_errand_53 : decode cX10_errand 53 = .ok (.aload_n 0, 1) := by decide +kernel
theorem dX10_errand_54 : decode cX10_errand 54 = .ok (.getfield 71, 3) := by decide +kernel
theorem dX10_errand_57 : decode cX10_errand 57 = .ok (.getfield 222, 3) := by decide +kernel
theorem dX10_errand_60 : decode cX10_errand 60 = .ok (.getfield 236, 3) := by decide +kernel
theorem dX10_errand_63 : decode cX10_errand 63 = .ok (.ireturn, 1) := by decide +kernel
theorem dX10_fill_0 : decode cX10_fill 0 = .ok (.aload_n 0, 1) := by decide +kernel
theorem dX10_fill_1 : decode cX10_fill 1 = .ok (.iload_n 1, 1) := by decide +kernel
theorem dX10_fill_2 : decode cX10_fill 2 = .ok (.invokevirtual 132, 3) := by decide +kernel
theorem dX10_fill_5 : decode cX10_fill 5 = .ok (.ifCond .eq 13, 3) := by decide +kernel
theorem dX10_fill_8 : decode cX10_fill 8 = .ok (.iload_n 2, 1) := by decide +kernel
theorem dX10_fill_9 : decode cX10_fill 9 = .ok (.iconst 0, 1) := by decide +kernel
theorem dX10_fill_10 : decode cX10_fill 10 = .ok (.bipush 60, 2) := by decide +kernel
theorem dX10_fill_12 : decode cX10_fill 12 = .ok (.invokestatic 121, 3) := by decide +kernel
theorem dX10_fill_15 : decode cX10_fill 15 = .ok (.ifCond .ne 5, 3) := by decide +kernel
theorem dX10_fill_18 : decode cX10_fill 18 = .ok (.iconst (-1), 1) := by decide +kernel
theorem dX10_fill_19 : decode cX10_fill 19 = .ok (.ireturn, 1) := by decide +kernel
theorem dX10_fill_20 : decode cX10_fill 20 = .ok (.aload_n 0, 1) := by decide +kernel
theorem dX10_fill_21 : decode cX10_fill 21 = .ok (.getfield 71, 3) := by decide +kernel
theorem dX10_fill_24 : decode cX10_fill 24 = .ok (.getfield 222, 3) := by decide +kernel
theorem dX10_fill_27 : decode cX10_fill 27 = .ok (.getfield 239, 3) := by decide +kernel
theorem dX10_fill_30 : decode cX10_fill 30 = .ok (.iload_n 1, 1) := by decide +kernel
theorem dX10_fill_31 : decode cX10_fill 31 = .ok (.iaload, 1) := by decide +kernel
theorem dX10_fill_32 : decode cX10_fill 32 = .ok (.istore_n 3, 1) := by decide +kernel
theorem dX10_fill_33 : decode cX10_fill 33 = .ok (.aload_n 0, 1) := by decide +kernel
theorem dX10_fill_34 : decode cX10_fill 34 = .ok (.getfield 71, 3) := by decide +kernel
theorem dX10_fill_37 : decode cX10_fill 37 = .ok (.getfield 222, 3) := by decide +kernel
theorem dX10_fill_40 : decode cX10_fill 40 = .ok (.getfield 239, 3) := by decide +kernel
theorem dX10_fill_43 : decode cX10_fill 43 = .ok (.iload_n 1, 1) := by decide +kernel
theorem dX10_fill_44 : decode cX10_fill 44 = .ok (.iload_n 2, 1) := by decide +kernel
theorem dX10_fill_45 : decode cX10_fill 45 = .ok (.iastore, 1) := by decide +kernel
theorem dX10_fill_46 : decode cX10_fill 46 = .ok (.aload_n 0, 1) := by decide +kernel
theorem dX10_fill_47 : decode cX10_fill 47 = .ok (.getfield 57, 3) := by decide +kernel
theorem dX10_fill_50 : decode cX10_fill 50 = .ok (.iload_n 1, 1) := by decide +kernel
theorem dX10_fill_51 : decode cX10_fill 51 = .ok (.iload_n 3, 1) := by decide +kernel
theorem dX10_fill_52 : decode cX10_fill 52 = .ok (.invokevirtual 232, 3) := by decide +kernel
theorem dX10_fill_55 : decode cX10_fill 55 = .ok (.aload_n 0, 1) := by decide +kernel
theorem dX10_fill_56 : decode cX10_fill 56 = .ok (.iconst 1, 1) := by decide +kernel
theorem dX10_fill_57 : decode cX10_fill 57 = .ok (.putfield 78, 3) := by decide +kernel
theorem dX10_fill_60 : decode cX10_fill 60 = .ok (.iload_n 3, 1) := by decide +kernel
theorem dX10_fill_61 : decode cX10_fill 61 = .ok (.ireturn, 1) := by decide +kernel
theorem dX10_undo_0 : decode cX10_undo 0 = .ok (.aload_n 0, 1) := by decide +kernel
theorem dX10_undo_1 : decode cX10_undo 1 = .ok (.getfield 57, 3) := by decide +kernel
theorem dX10_undo_4 : decode cX10_undo 4 = .ok (.aload_n 0, 1) := by decide +kernel
theorem dX10_undo_5 : decode cX10_undo 5 = .ok (.getfield 71, 3) := by decide +kernel
theorem dX10_undo_8 : decode cX10_undo 8 = .ok (.getfield 222, 3) := by decide +kernel
theorem dX10_undo_11 : decode cX10_undo 11 = .ok (.invokevirtual 240, 3) := by decide +kernel
theorem dX10_undo_14 : decode cX10_undo 14 = .ok (.ifCond .ne 6, 3) := by decide +kernel
theorem dX10_undo_17 : decode cX10_undo 17 = .ok (.bipush (-2), 2) := by decide +kernel
theorem dX10_undo_19 : decode cX10_undo 19 = .ok (.ireturn, 1) := by decide +kernel
theorem dX10_undo_20 : decode cX10_undo 20 = .ok (.aload_n 0, 1) := by decide +kernel
theorem dX10_undo_21 : decode cX10_undo 21 = .ok (.iconst 1, 1) := by decide +kernel
theorem dX10_undo_22 : decode cX10_undo 22 = .ok (.putfield 78, 3) := by decide +kernel
theorem dX10_undo_25 : decode cX10_undo 25 = .ok (.aload_n 0, 1) := by decide +kernel
theorem dX10_undo_26 : decode cX10_undo 26 = .ok (.getfield 57, 3) := by decide +kernel
theorem dX10_undo_29 : decode cX10_undo 29 = .ok (.getfield 244, 3) := by decide +kernel
theorem dX10_undo_32 : decode cX10_undo 32 = .ok (.ireturn, 1) := by decide +kernel
theorem dX10_year_0 : decode cX10_year 0 = .ok (.iload_n 1, 1) := by decide +kernel
theorem dX10_year_1 : decode cX10_year 1 = .ok (.iconst 0, 1) := by decide +kernel
theorem dX10_year_2 : decode cX10_year 2 = .ok (.sipush 9999, 3) := by decide +kernel
theorem dX10_year_5 : decode cX10_year 5 = .ok (.invokestatic 121, 3) := by decide +kernel
theorem dX10_year_8 : decode cX10_year 8 = .ok (.ifCond .eq 12, 3) := by decide +kernel
theorem dX10_year_11 : decode cX10_year 11 = .ok (.iload_n 2, 1) := by decide +kernel
theorem dX10_year_12 : decode cX10_year 12 = .ok (.iconst 0, 1) := by decide +kernel
theorem dX10_year_13 : decode cX10_year 13 = .ok (.iconst 1, 1) := by decide +kernel
theorem dX10_year_14 : decode cX10_year 14 = .ok (.invokestatic 121, 3) := by decide +kernel
theorem dX10_year_17 : decode cX10_year 17 = .ok (.ifCond .ne 5, 3) := by decide +kernel
theorem dX10_year_20 : decode cX10_year 20 = .ok (.iconst (-1), 1) := by decide +kernel
theorem dX10_year_21 : decode cX10_year 21 = .ok (.ireturn, 1) := by decide +kernel
theorem dX10_year_22 : decode cX10_year 22 = .ok (.aload_n 0, 1) := by decide +kernel
theorem dX10_year_23 : decode cX10_year 23 = .ok (.getfield 30, 3) := by decide +kernel
theorem dX10_year_26 : decode cX10_year 26 = .ok (.aload_n 0, 1) := by decide +kernel
theorem dX10_year_27 : decode cX10_year 27 = .ok (.getfield 71, 3) := by decide +kernel
theorem dX10_year_30 : decode cX10_year 30 = .ok (.iload_n 1, 1) := by decide +kernel
theorem dX10_year_31 : decode cX10_year 31 = .ok (.invokevirtual 247, 3) := by decide +kernel
theorem dX10_year_34 : decode cX10_year 34 = .ok (.iload_n 2, 1) := by decide +kernel
theorem dX10_year_35 : decode cX10_year 35 = .ok (.ifCond .ne 15, 3) := by decide +kernel
theorem dX10_year_38 : decode cX10_year 38 = .ok (.aload_n 0, 1) := by decide +kernel
theorem dX10_year_39 : decode cX10_year 39 = .ok (.getfield 30, 3) := by decide +kernel
theorem dX10_year_42 : decode cX10_year 42 = .ok (.bipush 60, 2) := by decide +kernel
theorem dX10_year_44 : decode cX10_year 44 = .ok (.invokevirtual 166, 3) := by decide +kernel
theorem dX10_year_47 : decode cX10_year 47 = .ok (.goto 10, 3) := by decide +kernel
theorem dX10_year_50 : decode cX10_year 50 = .ok (.aload_n 0, 1) := by decide +kernel
theorem dX10_year_51 : decode cX10_year 51 = .ok (.getfield 30, 3) := by decide +kernel
theorem dX10_year_54 : decode cX10_year 54 = .ok (.invokevirtual 251, 3) := by decide +kernel
theorem dX10_year_57 : decode cX10_year 57 = .ok (.ireturn, 1) := by decide +kernel
theorem dX10_keep_0 : decode cX10_keep 0 = .ok (.aload_n 0, 1) := by decide +kernel
theorem dX10_keep_1 : decode cX10_keep 1 = .ok (.getfield 64, 3) := by decide +kernel
theorem dX10_keep_4 : decode cX10_keep 4 = .ok (.aload_n 0, 1) := by decide +kernel
theorem dX10_keep_5 : decode cX10_keep 5 = .ok (.getfield 71, 3) := by decide +kernel
theorem dX10_keep_8 : decode cX10_keep 8 = .ok (.getfield 222, 3) := by decide +kernel
theorem dX10_keep_11 : decode cX10_keep 11 = .ok (.invokevirtual 254, 3) := by decide +kernel
theorem dX10_keep_14 : decode cX10_keep 14 = .ok (.ifCond .ne 6, 3) := by decide +kernel
theorem dX10_keep_17 : decode cX10_keep 17 = .ok (.bipush (-3), 2) := by decide +kernel
theorem dX10_keep_19 : decode cX10_keep 19 = .ok (.ireturn, 1) := by decide +kernel
theorem dX10_keep_20 : decode cX10_keep 20 = .ok (.aload_n 0, 1) := by decide +kernel
theorem dX10_keep_21 : decode cX10_keep 21 = .ok (.getfield 64, 3) := by decide +kernel
theorem dX10_keep_24 : decode cX10_keep 24 = .ok (.getfield 257, 3) := by decide +kernel
theorem dX10_keep_27 : decode cX10_keep 27 = .ok (.ireturn, 1) := by decide +kernel
theorem dX10_back_0 : decode cX10_back 0 = .ok (.aload_n 0, 1) := by decide +kernel
theorem dX10_back_1 : decode cX10_back 1 = .ok (.getfield 64, 3) := by decide +kernel
theorem dX10_back_4 : decode cX10_back 4 = .ok (.aload_n 0, 1) := by decide +kernel
theorem dX10_back_5 : decode cX10_back 5 = .ok (.getfield 71, 3) := by decide +kernel
theorem dX10_back_8 : decode cX10_back 8 = .ok (.getfield 222, 3) := by decide +kernel
theorem dX10_back_11 : decode cX10_back 11 = .ok (.invokevirtual 258, 3) := by decide +kernel
theorem dX10_back_14 : decode cX10_back 14 = .ok (.ifCond .ne 6, 3) := by decide +kernel
theorem dX10_back_17 : decode cX10_back 17 = .ok (.bipush (-2), 2) := by decide +kernel
theorem dX10_back_19 : decode cX10_back 19 = .ok (.ireturn, 1) := by decide +kernel
theorem dX10_back_20 : decode cX10_back 20 = .ok (.aload_n 0, 1) := by decide +kernel
theorem dX10_back_21 : decode cX10_back 21 = .ok (.getfield 57, 3) := by decide +kernel
theorem dX10_back_24 : decode cX10_back 24 = .ok (.invokevirtual 112, 3) := by decide +kernel
theorem dX10_back_27 : decode cX10_back 27 = .ok (.aload_n 0, 1) := by decide +kernel
theorem dX10_back_28 : decode cX10_back 28 = .ok (.iconst 1, 1) := by decide +kernel
theorem dX10_back_29 : decode cX10_back 29 = .ok (.putfield 78, 3) := by decide +kernel
theorem dX10_back_32 : decode cX10_back 32 = .ok (.aload_n 0, 1) := by decide +kernel
theorem dX10_back_33 : decode cX10_back 33 = .ok (.getfield 64, 3) := by decide +kernel
theorem dX10_back_36 : decode cX10_back 36 = .ok (.getfield 257, 3) := by decide +kernel
theorem dX10_back_39 : decode cX10_back 39 = .ok (.ireturn, 1) := by decide +kernel
theorem dX10_count_0 : decode cX10_count 0 = .ok (.iload_n 1, 1) := by decide +kernel
theorem dX10_count_1 : decode cX10_count 1 = .ok (.tableswitch 102 0 6 #[43, 51, 59, 70, 78, 86, 94], 43) := by decide +kernel
theorem dX10_count_44 : decode cX10_count 44 = .ok (.aload_n 0, 1) := by decide +kernel
theorem dX10_count_45 : decode cX10_count 45 = .ok (.getfield 71, 3) := by decide +kernel
theorem dX10_count_48 : decode cX10_count 48 = .ok (.getfield 192, 3) := by decide +kernel
theorem dX10_count_51 : decode cX10_count 51 = .ok (.ireturn, 1) := by decide +kernel
theorem dX10_count_52 : decode cX10_count 52 = .ok (.aload_n 0, 1) := by decide +kernel
theorem dX10_count_53 : decode cX10_count 53 = .ok (.getfield 71, 3) := by decide +kernel
theorem dX10_count_56 : decode cX10_count 56 = .ok (.getfield 114, 3) := by decide +kernel
theorem dX10_count_59 : decode cX10_count 59 = .ok (.ireturn, 1) := by decide +kernel
theorem dX10_count_60 : decode cX10_count 60 = .ok (.aload_n 0, 1) := by decide +kernel
theorem dX10_count_61 : decode cX10_count 61 = .ok (.getfield 71, 3) := by decide +kernel
theorem dX10_count_64 : decode cX10_count 64 = .ok (.getfield 222, 3) := by decide +kernel
theorem dX10_count_67 : decode cX10_count 67 = .ok (.getfield 236, 3) := by decide +kernel
theorem dX10_count_70 : decode cX10_count 70 = .ok (.ireturn, 1) := by decide +kernel
theorem dX10_count_71 : decode cX10_count 71 = .ok (.aload_n 0, 1) := by decide +kernel
theorem dX10_count_72 : decode cX10_count 72 = .ok (.getfield 71, 3) := by decide +kernel
theorem dX10_count_75 : decode cX10_count 75 = .ok (.getfield 261, 3) := by decide +kernel
theorem dX10_count_78 : decode cX10_count 78 = .ok (.ireturn, 1) := by decide +kernel
theorem dX10_count_79 : decode cX10_count 79 = .ok (.aload_n 0, 1) := by decide +kernel
theorem dX10_count_80 : decode cX10_count 80 = .ok (.getfield 57, 3) := by decide +kernel
theorem dX10_count_83 : decode cX10_count 83 = .ok (.getfield 244, 3) := by decide +kernel
theorem dX10_count_86 : decode cX10_count 86 = .ok (.ireturn, 1) := by decide +kernel
theorem dX10_count_87 : decode cX10_count 87 = .ok (.aload_n 0, 1) := by decide +kernel
theorem dX10_count_88 : decode cX10_count 88 = .ok (.getfield 64, 3) := by decide +kernel
theorem dX10_count_91 : decode cX10_count 91 = .ok (.getfield 257, 3) := by decide +kernel
theorem dX10_count_94 : decode cX10_count 94 = .ok (.ireturn, 1) := by decide +kernel
theorem dX10_count_95 : decode cX10_count 95 = .ok (.aload_n 0, 1) := by decide +kernel
theorem dX10_count_96 : decode cX10_count 96 = .ok (.getfield 10, 3) := by decide +kernel
theorem dX10_count_99 : decode cX10_count 99 = .ok (.getfield 105, 3) := by decide +kernel
theorem dX10_count_102 : decode cX10_count 102 = .ok (.ireturn, 1) := by decide +kernel
theorem dX10_count_103 : decode cX10_count 103 = .ok (.iconst (-1), 1) := by decide +kernel
theorem dX10_count_104 : decode cX10_count 104 = .ok (.ireturn, 1) := by decide +kernel
theorem dX10_isWithin_0 : decode cX10_isWithin 0 = .ok (.iload_n 0, 1) := by decide +kernel
theorem dX10_isWithin_1 : decode cX10_isWithin 1 = .ok (.iload_n 1, 1) := by decide +kernel
theorem dX10_isWithin_2 : decode cX10_isWithin 2 = .ok (.if_icmp .lt 12, 3) := by decide +kernel
theorem dX10_isWithin_5 : decode cX10_isWithin 5 = .ok (.iload_n 0, 1) := by decide +kernel
theorem dX10_isWithin_6 : decode cX10_isWithin 6 = .ok (.iload_n 2, 1) := by decide +kernel
theorem dX10_isWithin_7 : decode cX10_isWithin 7 = .ok (.if_icmp .gt 7, 3) := by decide +kernel
theorem dX10_isWithin_10 : decode cX10_isWithin 10 = .ok (.iconst 1, 1) := by decide +kernel
theorem dX10_isWithin_11 : decode cX10_isWithin 11 = .ok (.goto 4, 3) := by decide +kernel
theorem dX10_isWithin_14 : decode cX10_isWithin 14 = .ok (.iconst 0, 1) := by decide +kernel
theorem dX10_isWithin_15 : decode cX10_isWithin 15 = .ok (.ireturn, 1) := by decide +kernel
theorem dX10_isPlace_0 : decode cX10_isPlace 0 = .ok (.iload_n 0, 1) := by decide +kernel
theorem dX10_isPlace_1 : decode cX10_isPlace 1 = .ok (.iconst 0, 1) := by decide +kernel
theorem dX10_isPlace_2 : decode cX10_isPlace 2 = .ok (.bipush 23, 2) := by decide +kernel
theorem dX10_isPlace_4 : decode cX10_isPlace 4 = .ok (.invokestatic 121, 3) := by decide +kernel
theorem dX10_isPlace_7 : decode cX10_isPlace 7 = .ok (.ireturn, 1) := by decide +kernel
theorem dX10_isLevel_0 : decode cX10_isLevel 0 = .ok (.iload_n 1, 1) := by decide +kernel
theorem dX10_isLevel_1 : decode cX10_isLevel 1 = .ok (.iconst 0, 1) := by decide +kernel
theorem dX10_isLevel_2 : decode cX10_isLevel 2 = .ok (.aload_n 0, 1) := by decide +kernel
theorem dX10_isLevel_3 : decode cX10_isLevel 3 = .ok (.getfield 71, 3) := by decide +kernel
theorem dX10_isLevel_6 : decode cX10_isLevel 6 = .ok (.getfield 192, 3) := by decide +kernel
theorem dX10_isLevel_9 : decode cX10_isLevel 9 = .ok (.iconst 1, 1) := by decide +kernel
theorem dX10_isLevel_10 : decode cX10_isLevel 10 = .ok (.isub, 1) := by decide +kernel
theorem dX10_isLevel_11 : decode cX10_isLevel 11 = .ok (.invokestatic 121, 3) := by decide +kernel
theorem dX10_isLevel_14 : decode cX10_isLevel 14 = .ok (.ireturn, 1) := by decide +kernel
theorem dX10_isTown_0 : decode cX10_isTown 0 = .ok (.iload_n 1, 1) := by decide +kernel
theorem dX10_isTown_1 : decode cX10_isTown 1 = .ok (.iconst 0, 1) := by decide +kernel
theorem dX10_isTown_2 : decode cX10_isTown 2 = .ok (.aload_n 0, 1) := by decide +kernel
theorem dX10_isTown_3 : decode cX10_isTown 3 = .ok (.getfield 71, 3) := by decide +kernel
theorem dX10_isTown_6 : decode cX10_isTown 6 = .ok (.getfield 114, 3) := by decide +kernel
theorem dX10_isTown_9 : decode cX10_isTown 9 = .ok (.iconst 1, 1) := by decide +kernel
theorem dX10_isTown_10 : decode cX10_isTown 10 = .ok (.isub, 1) := by decide +kernel
theorem dX10_isTown_11 : decode cX10_isTown 11 = .ok (.invokestatic 121, 3) := by decide +kernel
theorem dX10_isTown_14 : decode cX10_isTown 14 = .ok (.ireturn, 1) := by decide +kernel
theorem dX10_areTwoTowns_0 : decode cX10_areTwoTowns 0 = .ok (.aload_n 0, 1) := by decide +kernel
theorem dX10_areTwoTowns_1 : decode cX10_areTwoTowns 1 = .ok (.iload_n 1, 1) := by decide +kernel
theorem dX10_areTwoTowns_2 : decode cX10_areTwoTowns 2 = .ok (.invokevirtual 132, 3) := by decide +kernel
theorem dX10_areTwoTowns_5 : decode cX10_areTwoTowns 5 = .ok (.ifCond .eq 20, 3) := by decide +kernel
theorem dX10_areTwoTowns_8 : decode cX10_areTwoTowns 8 = .ok (.aload_n 0, 1) := by decide +kernel
theorem dX10_areTwoTowns_9 : decode cX10_areTwoTowns 9 = .ok (.iload_n 2, 1) := by decide +kernel
theorem dX10_areTwoTowns_10 : decode cX10_areTwoTowns 10 = .ok (.invokevirtual 132, 3) := by decide +kernel
theorem dX10_areTwoTowns_13 : decode cX10_areTwoTowns 13 = .ok (.ifCond .eq 12, 3) := by decide +kernel
theorem dX10_areTwoTowns_16 : decode cX10_areTwoTowns 16 = .ok (.iload_n 1, 1) := by decide +kernel
theorem dX10_areTwoTowns_17 : decode cX10_areTwoTowns 17 = .ok (.iload_n 2, 1) := by decide +kernel
theorem dX10_areTwoTowns_18 : decode cX10_areTwoTowns 18 = .ok (.if_icmp .eq 7, 3) := by decide +kernel
theorem dX10_areTwoTowns_21 : decode cX10_areTwoTowns 21 = .ok (.iconst 1, 1) := by decide +kernel
theorem dX10_areTwoTowns_22 : decode cX10_areTwoTowns 22 = .ok (.goto 4, 3) := by decide +kernel
theorem dX10_areTwoTowns_25 : decode cX10_areTwoTowns 25 = .ok (.iconst 0, 1) := by decide +kernel
theorem dX10_areTwoTowns_26 : decode cX10_areTwoTowns 26 = .ok (.ireturn, 1) := by decide +kernel
theorem dX10_followed_0 : decode cX10_followed 0 = .ok (.aload_n 0, 1) := by decide +kernel
theorem dX10_followed_1 : decode cX10_followed 1 = .ok (.getfield 78, 3) := by decide +kernel
theorem dX10_followed_4 : decode cX10_followed 4 = .ok (.ifCond .eq 19, 3) := by decide +kernel
theorem dX10_followed_7 : decode cX10_followed 7 = .ok (.aload_n 0, 1) := by decide +kernel
theorem dX10_followed_8 : decode cX10_followed 8 = .ok (.getfield 26, 3) := by decide +kernel
theorem dX10_followed_11 : decode cX10_followed 11 = .ok (.aload_n 0, 1) := by decide +kernel
theorem dX10_followed_12 : decode cX10_followed 12 = .ok (.getfield 71, 3) := by decide +kernel
theorem dX10_followed_15 : decode cX10_followed 15 = .ok (.invokevirtual 264, 3) := by decide +kernel
theorem dX10_followed_18 : decode cX10_followed 18 = .ok (.aload_n 0, 1) := by decide +kernel
theorem dX10_followed_19 : decode cX10_followed 19 = .ok (.iconst 0, 1) := by decide +kernel
theorem dX10_followed_20 : decode cX10_followed 20 = .ok (.putfield 78, 3) := by decide +kernel
theorem dX10_followed_23 : decode cX10_followed 23 = .ok (.aload_n 0, 1) := by decide +kernel
theorem dX10_followed_24 : decode cX10_followed 24 = .ok (.getfield 26, 3) := by decide +kernel
theorem dX10_followed_27 : decode cX10_followed 27 = .ok (.areturn, 1) := by decide +kernel
theorem dX10_round_0 : decode cX10_round 0 = .ok (.iload_n 0, 1) := by decide +kernel
theorem dX10_round_1 : decode cX10_round 1 = .ok (.bipush 24, 2) := by decide +kernel
theorem dX10_round_3 : decode cX10_round 3 = .ok (.irem, 1) := by decide +kernel
theorem dX10_round_4 : decode cX10_round 4 = .ok (.istore_n 1, 1) := by decide +kernel
theorem dX10_round_5 : decode cX10_round 5 = .ok (.iload_n 1, 1) := by decide +kernel
theorem dX10_round_6 : decode cX10_round 6 = .ok (.ifCond .ge 10, 3) := by decide +kernel
theorem dX10_round_9 : decode cX10_round 9 = .ok (.iload_n 1, 1) := by decide +kernel
theorem dX10_round_10 : decode cX10_round 10 = .ok (.bipush 24, 2) := by decide +kernel
theorem dX10_round_12 : decode cX10_round 12 = .ok (.iadd, 1) := by decide +kernel
theorem dX10_round_13 : decode cX10_round 13 = .ok (.goto 4, 3) := by decide +kernel
theorem dX10_round_16 : decode cX10_round 16 = .ok (.iload_n 1, 1) := by decide +kernel
theorem dX10_round_17 : decode cX10_round 17 = .ok (.ireturn, 1) := by decide +kernel
theorem dX10_firstDayOf_0 : decode cX10_firstDayOf 0 = .ok (.iload_n 2, 1) := by decide +kernel
theorem dX10_firstDayOf_1 : decode cX10_firstDayOf 1 = .ok (.istore_n 3, 1) := by decide +kernel
theorem dX10_firstDayOf_2 : decode cX10_firstDayOf 2 = .ok (.iload_n 3, 1) := by decide +kernel
theorem dX10_firstDayOf_3 : decode cX10_firstDayOf 3 = .ok (.iload_n 2, 1) := by decide +kernel
theorem dX10_firstDayOf_4 : decode cX10_firstDayOf 4 = .ok (.bipush 24, 2) := by decide +kernel
theorem dX10_firstDayOf_6 : decode cX10_firstDayOf 6 = .ok (.iadd, 1) := by decide +kernel
theorem dX10_firstDayOf_7 : decode cX10_firstDayOf 7 = .ok (.if_icmp .ge 21, 3) := by decide +kernel
theorem dX10_firstDayOf_10 : decode cX10_firstDayOf 10 = .ok (.iload_n 1, 1) := by decide +kernel
theorem dX10_firstDayOf_11 : decode cX10_firstDayOf 11 = .ok (.iload_n 3, 1) := by decide +kernel
theorem dX10_firstDayOf_12 : decode cX10_firstDayOf 12 = .ok (.imul, 1) := by decide +kernel
theorem dX10_firstDayOf_13 : decode cX10_firstDayOf 13 = .ok (.invokestatic 173, 3) := by decide +kernel
theorem dX10_firstDayOf_16 : decode cX10_firstDayOf 16 = .ok (.iload_n 0, 1) := by decide +kernel
theorem dX10_firstDayOf_17 : decode cX10_firstDayOf 17 = .ok (.if_icmp .ne 5, 3) := by decide +kernel
theorem dX10_firstDayOf_20 : decode cX10_firstDayOf 20 = .ok (.iload_n 3, 1) := by decide +kernel
theorem dX10_firstDayOf_21 : decode cX10_firstDayOf 21 = .ok (.ireturn, 1) := by decide +kernel
theorem dX10_firstDayOf_22 : decode cX10_firstDayOf 22 = .ok (.iinc 3 1, 3) := by decide +kernel
theorem dX10_firstDayOf_25 : decode cX10_firstDayOf 25 = .ok (.goto (-23), 3) := by decide +kernel
theorem dX10_firstDayOf_28 : decode cX10_firstDayOf 28 = .ok (.bipush (-4), 2) := by decide +kernel
theorem dX10_firstDayOf_30 : decode cX10_firstDayOf 30 = .ok (.ireturn, 1) := by decide +kernel
theorem dX10_fitting_0 : decode cX10_fitting 0 = .ok (.iconst 0, 1) := by decide +kernel
theorem dX10_fitting_1 : decode cX10_fitting 1 = .ok (.istore 4, 2) := by decide +kernel
theorem dX10_fitting_3 : decode cX10_fitting 3 = .ok (.iconst 0, 1) := by decide +kernel
theorem dX10_fitting_4 : decode cX10_fitting 4 = .ok (.istore 5, 2) := by decide +kernel
theorem dX10_fitting_6 : decode cX10_fitting 6 = .ok (.iload 5, 2) := by decide +kernel
theorem dX10_fitting_8 : decode cX10_fitting 8 = .ok (.aload_n 0, 1) := by decide +kernel
theorem dX10_fitting_9 : decode cX10_fitting 9 = .ok (.getfield 71, 3) := by decide +kernel
theorem dX10_fitting_12 : decode cX10_fitting 12 = .ok (.getfield 192, 3) := by decide +kernel
theorem dX10_fitting_15 : decode cX10_fitting 15 = .ok (.if_icmp .ge 39, 3) := by decide +kernel
theorem dX10_fitting_18 : decode cX10_fitting 18 = .ok (.iload_n 1, 1) := by decide +kernel
theorem dX10_fitting_19 : decode cX10_fitting 19 = .ok (.iload_n 3, 1) := by decide +kernel
theorem dX10_fitting_20 : decode cX10_fitting 20 = .ok (.aload_n 0, 1) := by decide +kernel
theorem dX10_fitting_21 : decode cX10_fitting 21 = .ok (.getfield 71, 3) := by decide +kernel
theorem dX10_fitting_24 : decode cX10_fitting 24 = .ok (.getfield 125, 3) := by decide +kernel
theorem dX10_fitting_27 : decode cX10_fitting 27 = .ok (.iload 5, 2) := by decide +kernel
theorem dX10_fitting_29 : decode cX10_fitting 29 = .ok (.iaload, 1) := by decide +kernel
theorem dX10_fitting_30 : decode cX10_fitting 30 = .ok (.imul, 1) := by decide +kernel
theorem dX10_fitting_31 : decode cX10_fitting 31 = .ok (.iadd, 1) := by decide +kernel
theorem dX10_fitting_32 : decode cX10_fitting 32 = .ok (.invokestatic 173, 3) := by decide +kernel
theorem dX10_fitting_35 : decode cX10_fitting 35 = .ok (.iload_n 2, 1) := by decide +kernel
theorem dX10_fitting_36 : decode cX10_fitting 36 = .ok (.if_icmp .ne 12, 3) := by decide +kernel
theorem dX10_fitting_39 : decode cX10_fitting 39 = .ok (.iload 4, 2) := by decide +kernel
theorem dX10_fitting_41 : decode cX10_fitting 41 = .ok (.iconst 1, 1) := by decide +kernel
theorem dX10_fitting_42 : decode cX10_fitting 42 = .ok (.iload 5, 2) := by decide +kernel
theorem dX10_fitting_44 : decode cX10_fitting 44 = .ok (.ishl, 1) := by decide +kernel
theorem dX10_fitting_45 : decode cX10_fitting 45 = .ok (.ior, 1) := by decide +kernel
theorem dX10_fitting_46 : decode cX10_fitting 46 = .ok (.istore 4, 2) := by decide +kernel
theorem dX10_fitting_48 : decode cX10_fitting 48 = .ok (.iinc 5 1, 3) := by decide +kernel
theorem dX10_fitting_51 : decode cX10_fitting 51 = .ok (.goto (-45), 3) := by decide +kernel
theorem dX10_fitting_54 : decode cX10_fitting 54 = .ok (.iload 4, 2) := by decide +kernel
theorem dX10_fitting_56 : decode cX10_fitting 56 = .ok (.ireturn, 1) := by decide +kernel
theorem dX11_init_0 : decode cX11_init 0 = .ok (.aload_n 0, 1) := by decide +kernel
theorem dX11_init_1 : decode cX11_init 1 = .ok (.invokespecial 1, 3) := by decide +kernel
theorem dX11_init_4 : decode cX11_init 4 = .ok (.aload_n 0, 1) := by decide +kernel
theorem dX11_init_5 : decode cX11_init 5 = .ok (.sipush 300, 3) := by decide +kernel
theorem dX11_init_8 : decode cX11_init 8 = .ok (.newarray .int, 2) := by decide +kernel
theorem dX11_init_10 : decode cX11_init 10 = .ok (.putfield 7, 3) := by decide +kernel
theorem dX11_init_13 : decode cX11_init 13 = .ok (.aload_n 0, 1) := by decide +kernel
theorem dX11_init_14 : decode cX11_init 14 = .ok (.iconst 2, 1) := by decide +kernel
theorem dX11_init_15 : decode cX11_init 15 = .ok (.newarray .int, 2) := by decide +kernel
theorem dX11_init_17 : decode cX11_init 17 = .ok (.putfield 13, 3) := by decide +kernel
theorem dX11_init_20 : decode cX11_init 20 = .ok (.aload_n 0, 1) := by decide +kernel
theorem dX11_init_21 : decode cX11_init 21 = .ok (.bipush 12, 2) := by decide +kernel
theorem dX11_init_23 : decode cX11_init 23 = .ok (.newarray .int, 2) := by decide +kernel
theorem dX11_init_25 : decode cX11_init 25 = .ok (.putfield 16, 3) := by decide +kernel
theorem dX11_init_28 : decode cX11_init 28 = .ok (.aload_n 0, 1) := by decide +kernel
theorem dX11_init_29 : decode cX11_init 29 = .ok (.bipush 12, 2) := by decide +kernel
theorem dX11_init_31 : decode cX11_init 31 = .ok (.newarray .int, 2) := by decide +kernel
theorem dX11_init_33 : decode cX11_init 33 = .ok (.putfield 19, 3) := by decide +kernel
theorem dX11_init_36 : decode cX11_init 36 = .ok (.aload_n 0, 1) := by decide +kernel
theorem dX11_init_37 : decode cX11_init 37 = .ok (.iconst 2, 1) := by decide +kernel
theorem dX11_init_38 : decode cX11_init 38 = .ok (.newarray .int, 2) := by decide +kernel
theorem dX11_init_40 : decode cX11_init 40 = .ok (.putfield 22, 3) := by decide +kernel
theorem dX11_init_43 : decode cX11_init 43 = .ok (.aload_n 0, 1) := by decide +kernel
theorem dX11_init_44 : decode cX11_init 44 = .ok (.bipush 12, 2) := by decide +kernel
theorem dX11_init_46 : decode cX11_init 46 = .ok (.newarray .int, 2) := by decide +kernel
theorem dX11_init_48 : decode cX11_init 48 = .ok (.putfield 25, 3) := by decide +kernel
theorem dX11_init_51 : decode cX11_init 51 = .ok (.aload_n 0, 1) := by decide +kernel
theorem dX11_init_52 : decode cX11_init 52 = .ok (.bipush 12, 2) := by decide +kernel
theorem dX11_init_54 : decode cX11_init 54 = .ok (.newarray .int, 2) := by decide +kernel
theorem dX11_init_56 : decode cX11_init 56 = .ok (.putfield 28, 3) := by decide +kernel
theorem dX11_init_59 : decode cX11_init 59 = .ok (.aload_n 0, 1) := by decide +kernel
theorem dX11_init_60 : decode cX11_init 60 = .ok (.bipush 12, 2) := by decide +kernel
theorem dX11_init_62 : decode cX11_init 62 = .ok (.newarray .int, 2) := by decide +kernel
theorem dX11_init_64 : decode cX11_init 64 = .ok (.putfield 31, 3) := by decide +kernel
theorem dX11_init_67 : decode cX11_init 67 = .ok (.aload_n 0, 1) := by decide +kernel
theorem dX11_init_68 : decode cX11_init 68 = .ok (.bipush 12, 2) := by decide +kernel
theorem dX11_init_70 : decode cX11_init 70 = .ok (.newarray .int, 2) := by decide +kernel
theorem dX11_init_72 : decode cX11_init 72 = .ok (.putfield 34, 3) := by decide +kernel
theorem dX11_init_75 : decode cX11_init 75 = .ok (.aload_n 0, 1) := by decide +kernel
theorem dX11_init_76 : decode cX11_init 76 = .ok (.iconst 2, 1) := by decide +kernel
theorem dX11_init_77 : decode cX11_init 77 = .ok (.newarray .int, 2) := by decide +kernel
theorem dX11_init_79 : decode cX11_init 79 = .ok (.putfield 37, 3) := by decide +kernel
theorem dX11_init_82 : decode cX11_init 82 = .ok (.aload_n 0, 1) := by decide +kernel
theorem dX11_init_83 : decode cX11_init 83 = .ok (.bipush 10, 2) := by decide +kernel
theorem dX11_init_85 : decode cX11_init 85 = .ok (.newarray .int, 2) := by decide +kernel
theorem dX11_init_87 : decode cX11_init 87 = .ok (.putfield 40, 3) := by decide +kernel
theorem dX11_init_90 : decode cX11_init 90 = .ok (.aload_n 0, 1) := by decide +kernel
theorem dX11_init_91 : decode cX11_init 91 = .ok (.bipush 10, 2) := by decide +kernel
theorem dX11_init_93 : decode cX11_init 93 = .ok (.newarray .int, 2) := by decide +kernel
theorem dX11_init_95 : decode cX11_init 95 = .ok (.putfield 43, 3) := by decide +kernel
theorem dX11_init_98 : decode cX11_init 98 = .ok (.aload_n 0, 1) := by decide +kernel
theorem dX11_init_99 : decode cX11_init 99 = .ok (.bipush 24, 2) := by decide +kernel
theorem dX11_init_101 : decode cX11_init 101 = .ok (.newarray .int, 2) := by decide +kernel
theorem dX11_init_103 : decode cX11_init 103 = .ok (.putfield 46, 3) := by decide +kernel
theorem dX11_init_106 : decode cX11_init 106 = .ok (.aload_n 0, 1) := by decide +kernel
theorem dX11_init_107 : decode cX11_init 107 = .ok (.iconst 4, 1) := by decide +kernel
theorem dX11_init_108 : decode cX11_init 108 = .ok (.newarray .int, 2) := by decide +kernel
theorem dX11_init_110 : decode cX11_init 110 = .ok (.putfield 49, 3) := by decide +kernel
theorem dX11_init_113 : decode cX11_init 113 = .ok (.aload_n 0, 1) := by decide +kernel
theorem dX11_init_114 : decode cX11_init 114 = .ok (.bipush 32, 2) := by decide +kernel
theorem dX11_init_116 : decode cX11_init 116 = .ok (.newarray .int, 2) := by decide +kernel
theorem dX11_init_118 : decode cX11_init 118 = .ok (.putfield 52, 3) := by decide +kernel
theorem dX11_init_121 : decode cX11_init 121 = .ok (.aload_n 0, 1) := by decide +kernel
theorem dX11_init_122 : decode cX11_init 122 = .ok (.bipush 32, 2) := by decide +kernel
theorem dX11_init_124 : decode cX11_init 124 = .ok (.newarray .int, 2) := by decide +kernel
theorem dX11_init_126 : decode cX11_init 126 = .ok (.putfield 55, 3) := by decide +kernel
theorem dX11_init_129 : decode cX11_init 129 = .ok (.aload_n 0, 1) := by decide +kernel
theorem dX11_init_130 : decode cX11_init 130 = .ok (.bipush 32, 2) := by decide +kernel
theorem dX11_init_132 : decode cX11_init 132 = .ok (.newarray .int, 2) := by decide +kernel
theorem dX11_init_134 : decode cX11_init 134 = .ok (.putfield 58, 3) := by decide +kernel
theorem dX11_init_137 : decode cX11_init 137 = .ok (.aload_n 0, 1) := by decide +kernel
theorem dX11_init_138 : decode cX11_init 138 = .ok (.bipush 16, 2) := by decide +kernel
theorem dX11_init_140 : decode cX11_init 140 = .ok (.newarray .int, 2) := by decide +kernel
theorem dX11_init_142 : decode cX11_init 142 = .ok (.putfield 61, 3) := by decide +kernel
theorem dX11_init_145 : decode cX11_init 145 = .ok (.aload_n 0, 1) := by decide +kernel
theorem dX11_init_146 : decode cX11_init 146 = .ok (.iconst 5, 1) := by decide +kernel
theorem dX11_init_147 : decode cX11_init 147 = .ok (.newarray .int, 2) := by decide +kernel
theorem dX11_init_149 : decode cX11_init 149 = .ok (.putfield 64, 3) := by decide +kernel
theorem dX11_init_152 : decode cX11_init 152 = .ok (.aload_n 0, 1) := by decide +kernel
theorem dX11_init_153 : decode cX11_init 153 = .ok (.bipush 6, 2) := by decide +kernel
theorem dX11_init_155 : decode cX11_init 155 = .ok (.newarray .int, 2) := by decide +kernel
theorem dX11_init_157 : decode cX11_init 157 = .ok (.putfield 67, 3) := by decide +kernel
theorem dX11_init_160 : decode cX11_init 160 = .ok (.aload_n 0, 1) := by decide +kernel
theorem dX11_init_161 : decode cX11_init 161 = .ok (.bipush 6, 2) := by decide +kernel
theorem dX11_init_163 : decode cX11_init 163 = .ok (.newarray .int, 2) := by decide +kernel
theorem dX11_init_165 : decode cX11_init 165 = .ok (.putfield 70, 3) := by decide +kernel
theorem dX11_init_168 : decode cX11_init 168 = .ok (.aload_n 0, 1) := by decide +kernel
theorem dX11_init_169 : decode cX11_init 169 = .ok (.bipush 6, 2) := by decide +kernel
theorem dX11_init_171 : decode cX11_init 171 = .ok (.newarray .int, 2) := by decide +kernel
theorem dX11_init_173 : decode cX11_init 173 = .ok (.putfield 73, 3) := by decide +kernel
theorem dX11_init_176 : decode cX11_init 176 = .ok (.aload_n 0, 1) := by decide +kernel
theorem dX11_init_177 : decode cX11_init 177 = .ok (.bipush 6, 2) := by decide +kernel
theorem dX11_init_179 : decode cX11_init 179 = .ok (.newarray .int, 2) := by decide +kernel
theorem dX11_init_181 : decode cX11_init 181 = .ok (.putfield 76, 3) := by decide +kernel
theorem dX11_init_184 : decode cX11_init 184 = .ok (.aload_n 0, 1) := by decide +kernel
theorem dX11_init_185 : decode cX11_init 185 = .ok (.sipush 144, 3) := by decide +kernel
theorem dX11_init_188 : decode cX11_init 188 = .ok (.newarray .long, 2) := by decide +kernel
theorem dX11_init_190 : decode cX11_init 190 = .ok (.putfield 79, 3) := by decide +kernel
theorem dX11_init_193 : decode cX11_init 193 = .ok (.aload_n 0, 1) := by decide +kernel
theorem dX11_init_194 : decode cX11_init 194 = .ok (.sipush 144, 3) := by decide +kernel
theorem dX11_init_197 : decode cX11_init 197 = .ok (.newarray .long, 2) := by decide +kernel
theorem dX11_init_199 : decode cX11_init 199 = .ok (.putfield 83, 3) := by decide +kernel
theorem dX11_init_202 : decode cX11_init 202 = .ok (.aload_n 0, 1) := by decide +kernel
theorem dX11_init_203 : decode cX11_init 203 = .ok (.bipush 6, 2) := by decide +kernel
theorem dX11_init_205 : decode cX11_init 205 = .ok (.newarray .long, 2) := by decide +kernel
theorem dX11_init_207 : decode cX11_init 207 = .ok (.putfield 86, 3) := by decide +kernel
theorem dX11_init_210 : decode cX11_init 210 = .ok (.aload_n 0, 1) := by decide +kernel
theorem dX11_init_211 : decode cX11_init 211 = .ok (.bipush 6, 2) := by decide +kernel
theorem dX11_init_213 : decode cX11_init 213 = .ok (.newarray .long, 2) := by decide +kernel
theorem dX11_init_215 : decode cX11_init 215 = .ok (.putfield 89, 3) := by decide +kernel
theorem dX11_init_218 : decode cX11_init 218 = .ok (.aload_n 0, 1) := by decide +kernel
theorem dX11_init_219 : decode cX11_init 219 = .ok (.bipush 6, 2) := by decide +kernel
theorem dX11_init_221 : decode cX11_init 221 = .ok (.newarray .int, 2) := by decide +kernel
theorem dX11_init_223 : decode cX11_init 223 = .ok (.putfield 92, 3) := by decide +kernel
theorem dX11_init_226 : decode cX11_init 226 = .ok (.aload_n 0, 1) := by decide +kernel
theorem dX11_init_227 : decode cX11_init 227 = .ok (.getfield 13, 3) := by decide +kernel
theorem dX11_init_230 : decode cX11_init 230 = .ok (.iconst 0, 1) := by decide +kernel
theorem dX11_init_231 : decode cX11_init 231 = .ok (.iconst 2, 1) := by decide +kernel
theorem dX11_init_232 : decode cX11_init 232 = .ok (.iastore, 1) := by decide +kernel
theorem dX11_init_233 : decode cX11_init 233 = .ok (.aload_n 0, 1) := by decide +kernel
theorem dX11_init_234 : decode cX11_init 234 = .ok (.getfield 16, 3) := by decide +kernel
theorem dX11_init_237 : decode cX11_init 237 = .ok (.iconst 0, 1) := by decide +kernel
theorem dX11_init_238 : decode cX11_init 238 = .ok (.iconst 2, 1) := by decide +kernel
theorem dX11_init_239 : decode cX11_init 239 = .ok (.iastore, 1) := by decide +kernel
theorem dX11_init_240 : decode cX11_init 240 = .ok (.aload_n 0, 1) := by decide +kernel
theorem dX11_init_241 : decode cX11_init 241 = .ok (.getfield 16, 3) := by decide +kernel
theorem dX11_init_244 : decode cX11_init 244 = .ok (.iconst 1, 1) := by decide +kernel
theorem dX11_init_245 : decode cX11_init 245 = .ok (.iconst 5, 1) := by decide +kernel
theorem dX11_init_246 : decode cX11_init 246 = .ok (.iastore, 1) := by decide +kernel
theorem dX11_init_247 : decode cX11_init 247 = .ok (.aload_n 0, 1) := by decide +kernel
theorem dX11_init_248 : decode cX11_init 248 = .ok (.getfield 19, 3) := by decide +kernel
theorem dX11_init_251 : decode cX11_init 251 = .ok (.iconst 1, 1) := by decide +kernel
theorem dX11_init_252 : decode cX11_init 252 = .ok (.iconst 1, 1) := by decide +kernel
theorem dX11_init_253 : decode cX11_init 253 = .ok (.iastore, 1) := by decide +kernel
theorem dX11_init_254 : decode cX11_init 254 = .ok (.aload_n 0, 1) := by decide +kernel
theorem dX11_init_255 : decode cX11_init 255 = .ok (.getfield 22, 3) := by decide +kernel
theorem dX11_init_258 : decode cX11_init 258 = .ok (.iconst 0, 1) := by decide +kernel
theorem dX11_init_259 : decode cX11_init 259 = .ok (.iconst 2, 1) := by decide +kernel
theorem dX11_init_260 : decode cX11_init 260 = .ok (.iastore, 1) := by decide +kernel
theorem dX11_init_261 : decode cX11_init 261 = .ok (.aload_n 0, 1) := by decide +kernel
theorem dX11_init_262 : decode cX11_init 262 = .ok (.getfield 46, 3) := by decide +kernel
theorem dX11_init_265 : decode cX11_init 265 = .ok (.iconst 0, 1) := by decide +kernel
theorem dX11_init_266 : decode cX11_init 266 = .ok (.bipush 20, 2) := by decide +kernel
theorem dX11_init_268 : decode cX11_init 268 = .ok (.iastore, 1) := by decide +kernel
theorem dX11_init_269 : decode cX11_init 269 = .ok (.aload_n 0, 1) := by decide +kernel
theorem dX11_init_270 : decode cX11_init 270 = .ok (.getfield 31, 3) := by decide +kernel
theorem dX11_init_273 : decode cX11_init 273 = .ok (.iconst 0, 1) := by decide +kernel
theorem dX11_init_274 : decode cX11_init 274 = .ok (.iconst 2, 1) := by decide +kernel
theorem dX11_init_275 : decode cX11_init 275 = .ok (.iastore, 1) := by decide +kernel
theorem dX11_init_276 : decode cX11_init 276 = .ok (.aload_n 0, 1) := by decide +kernel
theorem dX11_init_277 : decode cX11_init 277 = .ok (.getfield 25, 3) := by decide +kernel
theorem dX11_init_280 : decode cX11_init 280 = .ok (.iconst 1, 1) := by decide +kernel
theorem dX11_init_281 : decode cX11_init 281 = .ok (.iconst 1, 1) := by decide +kernel
theorem dX11_init_282 : decode cX11_init 282 = .ok (.iastore, 1) := by decide +kernel
theorem dX11_init_283 : decode cX11_init 283 = .ok (.aload_n 0, 1) := by decide +kernel
theorem dX11_init_284 : decode cX11_init 284 = .ok (.getfield 28, 3) := by decide +kernel
theorem dX11_init_287 : decode cX11_init 287 = .ok (.iconst 1, 1) := by decide +kernel
theorem dX11_init_288 : decode cX11_init 288 = .ok (.bipush 6, 2) := by decide +kernel
theorem dX11_init_290 : decode cX11_init 290 = .ok (.iastore, 1) := by decide +kernel
theorem dX11_init_291 : decode cX11_init 291 = .ok (.aload_n 0, 1) := by decide +kernel
theorem dX11_init_292 : decode cX11_init 292 = .ok (.getfield 46, 3) := by decide +kernel
theorem dX11_init_295 : decode cX11_init 295 = .ok (.iconst 1, 1) := by decide +kernel
theorem dX11_init_296 : decode cX11_init 296 = .ok (.bipush 20, 2) := by decide +kernel
theorem dX11_init_298 : decode cX11_init 298 = .ok (.iastore, 1) := by decide +kernel
theorem dX11_init_299 : decode cX11_init 299 = .ok (.aload_n 0, 1) := by decide +kernel
theorem dX11_init_300 : decode cX11_init 300 = .ok (.getfield 31, 3) := by decide +kernel
theorem dX11_init_303 : decode cX11_init 303 = .ok (.iconst 1, 1) := by decide +kernel
theorem dX11_init_304 : decode cX11_init 304 = .ok (.iconst 3, 1) := by decide +kernel
theorem dX11_init_305 : decode cX11_init 305 = .ok (.iastore, 1) := by decide +kernel
theorem dX11_init_306 : decode cX11_init 306 = .ok (.return_, 1) := by decide +kernel
theorem dX11_in_0 : decode cX11_in 0 = .ok (.lload_n 0, 1) := by decide +kernel
theorem dX11_in_1 : decode cX11_in 1 = .ok (.lload_n 2, 1) := by decide +kernel
theorem dX11_in_2 : decode cX11_in 2 = .ok (.lcmp, 1) := by decide +kernel
theorem dX11_in_3 : decode cX11_in 3 = .ok (.ifCond .lt 14, 3) := by decide +kernel
theorem dX11_in_6 : decode cX11_in 6 = .ok (.lload_n 0, 1) := by decide +kernel
theorem dX11_in_7 : decode cX11_in 7 = .ok (.lload 4, 2) := by decide +kernel
theorem dX11_in_9 : decode cX11_in 9 = .ok (.lcmp, 1) := by decide +kernel
theorem dX11_in_10 : decode cX11_in 10 = .ok (.ifCond .gt 7, 3) := by decide +kernel
theorem dX11_in_13 : decode cX11_in 13 = .ok (.iconst 1, 1) := by decide +kernel
theorem dX11_in_14 : decode cX11_in 14 = .ok (.goto 4, 3) := by decide +kernel
theorem dX11_in_17 : decode cX11_in 17 = .ok (.iconst 0, 1) := by decide +kernel
theorem dX11_in_18 : decode cX11_in 18 = .ok (.ireturn, 1) := by decide +kernel
theorem dX11_write_0 : decode cX11_write 0 = .ok (.iload_n 1, 1) := by decide +kernel
theorem dX11_write_1 : decode cX11_write 1 = .ok (.i2l, 1) := by decide +kernel
theorem dX11_write_2 : decode cX11_write 2 = .ok (.lconst 1, 1) := by decide +kernel
theorem dX11_write_3 : decode cX11_write 3 = .ok (.ldc2_w 95, 3) := by decide +kernel
theorem dX11_write_6 : decode cX11_write 6 = .ok (.invokestatic 97, 3) := by decide +kernel
theorem dX11_write_9 : decode cX11_write 9 = .ok (.ifCond .ne 5, 3) := by decide +kernel
theorem dX11_write_12 : decode cX11_write 12 = .ok (.iconst (-1), 1) := by decide +kernel
theorem dX11_write_13 : decode cX11_write 13 = .ok (.ireturn, 1) := by decide +kernel
theorem dX11_write_14 : decode cX11_write 14 = .ok (.aload_n 0, 1) := by decide +kernel
theorem dX11_write_15 : decode cX11_write 15 = .ok (.getfield 101, 3) := by decide +kernel
theorem dX11_write_18 : decode cX11_write 18 = .ok (.iload_n 1, 1) := by decide +kernel
theorem dX11_write_19 : decode cX11_write 19 = .ok (.iadd, 1) := by decide +kernel
theorem dX11_write_20 : decode cX11_write 20 = .ok (.sipush 300, 3) := by decide +kernel
theorem dX11_write_23 : decode cX11_write 23 = .ok (.if_icmp .le 6, 3) := by decide +kernel
theorem dX11_write_26 : decode cX11_write 26 = .ok (.bipush (-3), 2) := by decide +kernel
theorem dX11_write_28 : decode cX11_write 28 = .ok (.ireturn, 1) := by decide +kernel
theorem dX11_write_29 : decode cX11_write 29 = .ok (.iload_n 1, 1) := by decide +kernel
theorem dX11_write_30 : decode cX11_write 30 = .ok (.iconst 1, 1) := by decide +kernel
theorem dX11_write_31 : decode cX11_write 31 = .ok (.isub, 1) := by decide +kernel
theorem dX11_write_32 : decode cX11_write 32 = .ok (.istore 4, 2) := by decide +kernel
theorem dX11_write_34 : decode cX11_write 34 = .ok (.iload 4, 2) := by decide +kernel
theorem dX11_write_36 : decode cX11_write 36 = .ok (.ifCond .lt 40, 3) := by decide +kernel
theorem dX11_write_39 : decode cX11_write 39 = .ok (.aload_n 0, 1) := by decide +kernel
theorem dX11_write_40 : decode cX11_write 40 = .ok (.getfield 7, 3) := by decide +kernel
theorem dX11_write_43 : decode cX11_write 43 = .ok (.aload_n 0, 1) := by decide +kernel
theorem dX11_write_44 : decode cX11_write 44 = .ok (.getfield 101, 3) := by decide +kernel
theorem dX11_write_47 : decode cX11_write 47 = .ok (.lload_n 2, 1) := by decide +kernel
theorem dX11_write_48 : decode cX11_write 48 = .ok (.bipush 8, 2) := by decide +kernel
theorem dX11_write_50 : decode cX11_write 50 = .ok (.iload 4, 2) := by decide +kernel
theorem dX11_write_52 : decode cX11_write 52 = .ok (.imul, 1) := by decide +kernel
theorem dX11_write_53 : decode cX11_write 53 = .ok (.lshr, 1) := by decide +kernel
theorem dX11_write_54 : decode cX11_write 54 = .ok (.ldc2_w 105, 3) := by decide +kernel
theorem dX11_write_57 : decode cX11_write 57 = .ok (.land, 1) := by decide +kernel
theorem dX11_write_58 : decode cX11_write 58 = .ok (.l2i, 1) := by decide +kernel
theorem dX11_write_59 : decode cX11_write 59 = .ok (.iastore, 1) := by decide +kernel
theorem dX11_write_60 : decode cX11_write 60 = .ok (.aload_n 0, 1) := by decide +kernel
theorem dX11_write_61 : decode cX11_write 61 = .ok (.dup, 1) := by decide +kernel
theorem dX11_write_62 : decode cX11_write 62 = .ok (.getfield 101, 3) := by decide +kernel
theorem dX11_write_65 : decode cX11_write 65 = .ok (.iconst 1, 1) := by decide +kernel
theorem dX11_write_66 : decode cX11_write 66 = .ok (.iadd, 1) := by decide +kernel
theorem dX11_write_67 : decode cX11_write 67 = .ok (.putfield 101, 3) := by decide +kernel
theorem dX11_write_70 : decode cX11_write 70 = .ok (.iinc 4 (-1), 3) := by decide +kernel
theorem dX11_write_73 : decode cX11_write 73 = .ok (.goto (-39), 3) := by decide +kernel
theorem dX11_write_76 : decode cX11_write 76 = .ok (.aload_n 0, 1) := by decide +kernel
theorem dX11_write_77 : decode cX11_write 77 = .ok (.getfield 101, 3) := by decide +kernel
theorem dX11_write_80 : decode cX11_write 80 = .ok (.ireturn, 1) := by decide +kernel
theorem dX11_wipe_0 : decode cX11_wipe 0 = .ok (.aload_n 0, 1) := by decide +kernel
theorem dX11_wipe_1 : decode cX11_wipe 1 = .ok (.getfield 101, 3) := by decide +kernel
theorem dX11_wipe_4 : decode cX11_wipe 4 = .ok (.istore_n 1, 1) := by decide +kernel
theorem dX11_wipe_5 : decode cX11_wipe 5 = .ok (.aload_n 0, 1) := by decide +kernel
theorem dX11_wipe_6 : decode cX11_wipe 6 = .ok (.iconst 0, 1) := by decide +kernel
theorem dX11_wipe_7 : decode cX11_wipe 7 = .ok (.putfield 101, 3) := by decide +kernel
theorem dX11_wipe_10 : decode cX11_wipe 10 = .ok (.iload_n 1, 1) := by decide +kernel
theorem dX11_wipe_11 : decode cX11_wipe 11 = .ok (.ireturn, 1) := by decide +kernel
theorem dX11_byteAt_0 : decode cX11_byteAt 0 = .ok (.iload_n 1, 1) := by decide +kernel
theorem dX11_byteAt_1 : decode cX11_byteAt 1 = .ok (.aload_n 0, 1) := by decide +kernel
theorem dX11_byteAt_2 : decode cX11_byteAt 2 = .ok (.getfield 101, 3) := by decide +kernel
theorem dX11_byteAt_5 : decode cX11_byteAt 5 = .ok (.if_icmp .ge 12, 3) := by decide +kernel
theorem dX11_byteAt_8 : decode cX11_byteAt 8 = .ok (.aload_n 0, 1) := by decide +kernel
theorem dX11_byteAt_9 : decode cX11_byteAt 9 = .ok (.getfield 7, 3) := by decide +kernel
theorem dX11_byteAt_12 : decode cX11_byteAt 12 = .ok (.iload_n 1, 1) := by decide +kernel
theorem dX11_byteAt_13 : decode cX11_byteAt 13 = .ok (.iaload, 1) := by decide +kernel
theorem dX11_byteAt_14 : decode cX11_byteAt 14 = .ok (.goto 4, 3) := by decide +kernel
theorem dX11_byteAt_17 : decode cX11_byteAt 17 = .ok (.iconst 0, 1) := by decide +kernel
theorem dX11_byteAt_18 : decode cX11_byteAt 18 = .ok (.ireturn, 1) := by decide +kernel
theorem dX11_figures_0 : decode cX11_figures 0 = .ok (.iconst 0, 1) := by decide +kernel
theorem dX11_figures_1 : decode cX11_figures 1 = .ok (.istore_n 2, 1) := by decide +kernel
theorem dX11_figures_2 : decode cX11_figures 2 = .ok (.iload_n 2, 1) := by decide +kernel
theorem dX11_figures_3 : decode cX11_figures 3 = .ok (.iload_n 1, 1) := by decide +kernel
theorem dX11_figures_4 : decode cX11_figures 4 = .ok (.if_icmp .ge 132, 3) := by decide +kernel
theorem dX11_figures_7 : decode cX11_figures 7 = .ok (.iconst 0, 1) := by decide +kernel
theorem dX11_figures_8 : decode cX11_figures 8 = .ok (.istore_n 3, 1) := by decide +kernel
theorem dX11_figures_9 : decode cX11_figures 9 = .ok (.iconst 0, 1) := by decide +kernel
theorem dX11_figures_10 : decode cX11_figures 10 = .ok (.istore 4, 2) := by decide +kernel
theorem dX11_figures_12 : decode cX11_figures 12 = .ok (.aload_n 0, 1) := by decide +kernel
theorem dX11_figures_13 : decode cX11_figures 13 = .ok (.aload_n 0, 1) := by decide +kernel
theorem dX11_figures_14 : decode cX11_figures 14 = .ok (.getfield 107, 3) := by decide +kernel
theorem dX11_figures_17 : decode cX11_figures 17 = .ok (.invokevirtual 110, 3) := by decide +kernel
theorem dX11_figures_20 : decode cX11_figures 20 = .ok (.i2l, 1) := by decide +kernel
theorem dX11_figures_21 : decode cX11_figures 21 = .ok (.ldc2_w 114, 3) := by decide +kernel
theorem dX11_figures_24 : decode cX11_figures 24 = .ok (.ldc2_w 116, 3) := by decide +kernel
theorem dX11_figures_27 : decode cX11_figures 27 = .ok (.invokestatic 97, 3) := by decide +kernel
theorem dX11_figures_30 : decode cX11_figures 30 = .ok (.ifCond .eq 43, 3) := by decide +kernel
theorem dX11_figures_33 : decode cX11_figures 33 = .ok (.iload_n 3, 1) := by decide +kernel
theorem dX11_figures_34 : decode cX11_figures 34 = .ok (.iconst 3, 1) := by decide +kernel
theorem dX11_figures_35 : decode cX11_figures 35 = .ok (.if_icmp .ge 38, 3) := by decide +kernel
theorem dX11_figures_38 : decode cX11_figures 38 = .ok (.bipush 10, 2) := by decide +kernel
theorem dX11_figures_40 : decode cX11_figures 40 = .ok (.iload 4, 2) := by decide +kernel
theorem dX11_figures_42 : decode cX11_figures 42 = .ok (.imul, 1) := by decide +kernel
theorem dX11_figures_43 : decode cX11_figures 43 = .ok (.aload_n 0, 1) := by decide +kernel
theorem dX11_figures_44 : decode cX11_figures 44 = .ok (.aload_n 0, 1) := by decide +kernel
theorem dX11_figures_45 : decode cX11_figures 45 = .ok (.getfield 107, 3) := by decide +kernel
theorem dX11_figures_48 : decode cX11_figures 48 = .ok (.invokevirtual 110, 3) := by decide +kernel
theorem dX11_figures_51 : decode cX11_figures 51 = .ok (.iadd, 1) := by decide +kernel
theorem dX11_figures_52 : decode cX11_figures 52 = .ok (.bipush 48, 2) := by decide +kernel
theorem dX11_figures_54 : decode cX11_figures 54 = .ok (.isub, 1) := by decide +kernel
theorem dX11_figures_55 : decode cX11_figures 55 = .ok (.istore 4, 2) := by decide +kernel
theorem dX11_figures_57 : decode cX11_figures 57 = .ok (.iinc 3 1, 3) := by decide +kernel
theorem dX11_figures_60 : decode cX11_figures 60 = .ok (.aload_n 0, 1) := by decide +kernel
theorem dX11_figures_61 : decode cX11_figures 61 = .ok (.dup, 1) := by decide +kernel
theorem dX11_figures_62 : decode cX11_figures 62 = .ok (.getfield 107, 3) := by decide +kernel
theorem dX11_figures_65 : decode cX11_figures 65 = .ok (.iconst 1, 1) := by decide +kernel
theorem dX11_figures_66 : decode cX11_figures 66 = .ok (.iadd, 1) := by decide +kernel
theorem dX11_figures_67 : decode cX11_figures 67 = .ok (.putfield 107, 3) := by decide +kernel
theorem dX11_figures_70 : decode cX11_figures 70 = .ok (.goto (-58), 3) := by decide +kernel
theorem dX11_figures_73 : decode cX11_figures 73 = .ok (.iload_n 3, 1) := by decide +kernel
theorem dX11_figures_74 : decode cX11_figures 74 = .ok (.i2l, 1) := by decide +kernel
theorem dX11_figures_75 : decode cX11_figures 75 = .ok (.lconst 1, 1) := by decide +kernel
theorem dX11_figures_76 : decode cX11_figures 76 = .ok (.ldc2_w 118, 3) := by decide +kernel
theorem dX11_figures_79 : decode cX11_figures 79 = .ok (.invokestatic 97, 3) := by decide +kernel
theorem dX11_figures_82 : decode cX11_figures 82 = .ok (.ifCond .eq 28, 3) := by decide +kernel
theorem dX11_figures_85 : decode cX11_figures 85 = .ok (.aload_n 0, 1) := by decide +kernel
theorem dX11_figures_86 : decode cX11_figures 86 = .ok (.aload_n 0, 1) := by decide +kernel
theorem dX11_figures_87 : decode cX11_figures 87 = .ok (.getfield 107, 3) := by decide +kernel
theorem dX11_figures_90 : decode cX11_figures 90 = .ok (.invokevirtual 110, 3) := by decide +kernel
theorem dX11_figures_93 : decode cX11_figures 93 = .ok (.iload_n 2, 1) := by decide +kernel
theorem dX11_figures_94 : decode cX11_figures 94 = .ok (.iload_n 1, 1) := by decide +kernel
theorem dX11_figures_95 : decode cX11_figures 95 = .ok (.iconst 1, 1) := by decide +kernel
theorem dX11_figures_96 : decode cX11_figures 96 = .ok (.isub, 1) := by decide +kernel
theorem dX11_figures_97 : decode cX11_figures 97 = .ok (.if_icmp .ge 8, 3) := by decide +kernel
theorem dX11_figures_100 : decode cX11_figures 100 = .ok (.bipush 44, 2) := by decide +kernel
theorem dX11_figures_102 : decode cX11_figures 102 = .ok (.goto 5, 3) := by decide +kernel
theorem dX11_figures_105 : decode cX11_figures 105 = .ok (.bipush 59, 2) := by decide +kernel
theorem dX11_figures_107 : decode cX11_figures 107 = .ok (.if_icmp .eq 5, 3) := by decide +kernel
theorem dX11_figures_110 : decode cX11_figures 110 = .ok (.iconst 0, 1) := by decide +kernel
theorem dX11_figures_111 : decode cX11_figures 111 = .ok (.ireturn, 1) := by decide +kernel
theorem dX11_figures_112 : decode cX11_figures 112 = .ok (.aload_n 0, 1) := by decide +kernel
theorem dX11_figures_113 : decode cX11_figures 113 = .ok (.getfield 64, 3) := by decide +kernel
theorem dX11_figures_116 : decode cX11_figures 116 = .ok (.iload_n 2, 1) := by decide +kernel
theorem dX11_figures_117 : decode cX11_figures 117 = .ok (.iload 4, 2) := by decide +kernel
theorem dX11_figures_119 : decode cX11_figures 119 = .ok (.iastore, 1) := by decide +kernel
theorem dX11_figures_120 : decode cX11_figures 120 = .ok (.aload_n 0, 1) := by decide +kernel
theorem dX11_figures_121 : decode cX11_figures 121 = .ok (.dup, 1) := by decide +kernel
theorem dX11_figures_122 : decode cX11_figures 122 = .ok (.getfield 107, 3) := by decide +kernel
theorem dX11_figures_125 : decode cX11_figures 125 = .ok (.iconst 1, 1) := by decide +kernel
theorem dX11_figures_126 : decode cX11_figures 126 = .ok (.iadd, 1) := by decide +kernel
theorem dX11_figures_127 : decode cX11_figures 127 = .ok (.putfield 107, 3) := by decide +kernel
theorem dX11_figures_130 : decode cX11_figures 130 = .ok (.iinc 2 1, 3) := by decide +kernel
theorem dX11_figures_133 : decode cX11_figures 133 = .ok (.goto (-131), 3) := by decide +kernel
theorem dX11_figures_136 : decode cX11_figures 136 = .ok (.iconst 1, 1) := by decide +kernel
theorem dX11_figures_137 : decode cX11_figures 137 = .ok (.ireturn, 1) := by decide +kernel
theorem dX11_isTownItem_0 : decode cX11_isTownItem 0 = .ok (.aload_n 0, 1) := by decide +kernel
theorem dX11_isTownItem_1 : decode cX11_isTownItem 1 = .ok (.getfield 22, 3) := by decide +kernel
theorem dX11_isTownItem_4 : decode cX11_isTownItem 4 = .ok (.iconst 1, 1) := by decide +kernel
theorem dX11_isTownItem_5 : decode cX11_isTownItem 5 = .ok (.iaload, 1) := by decide +kernel
theorem dX11_isTownItem_6 : decode cX11_isTownItem 6 = .ok (.bipush 6, 2) := by decide +kernel
theorem dX11_isTownItem_8 : decode cX11_isTownItem 8 = .ok (.if_icmp .ge 67, 3) := by decide +kernel
theorem dX11_isTownItem_11 : decode cX11_isTownItem 11 = .ok (.aload_n 0, 1) := by decide +kernel
theorem dX11_isTownItem_12 : decode cX11_isTownItem 12 = .ok (.getfield 64, 3) := by decide +kernel
theorem dX11_isTownItem_15 : decode cX11_isTownItem 15 = .ok (.iconst 0, 1) := by decide +kernel
theorem dX11_isTownItem_16 : decode cX11_isTownItem 16 = .ok (.iaload, 1) := by decide +kernel
theorem dX11_isTownItem_17 : decode cX11_isTownItem 17 = .ok (.bipush 6, 2) := by decide +kernel
theorem dX11_isTownItem_19 : decode cX11_isTownItem 19 = .ok (.if_icmp .ge 56, 3) := by decide +kernel
theorem dX11_isTownItem_22 : decode cX11_isTownItem 22 = .ok (.aload_n 0, 1) := by decide +kernel
theorem dX11_isTownItem_23 : decode cX11_isTownItem 23 = .ok (.getfield 64, 3) := by decide +kernel
theorem dX11_isTownItem_26 : decode cX11_isTownItem 26 = .ok (.iconst 1, 1) := by decide +kernel
theorem dX11_isTownItem_27 : decode cX11_isTownItem 27 = .ok (.iaload, 1) := by decide +kernel
theorem dX11_isTownItem_28 : decode cX11_isTownItem 28 = .ok (.bipush 24, 2) := by decide +kernel
theorem dX11_isTownItem_30 : decode cX11_isTownItem 30 = .ok (.if_icmp .ge 45, 3) := by decide +kernel
theorem dX11_isTownItem_33 : decode cX11_isTownItem 33 = .ok (.aload_n 0, 1) := by decide +kernel
theorem dX11_isTownItem_34 : decode cX11_isTownItem 34 = .ok (.getfield 64, 3) := by decide +kernel
theorem dX11_isTownItem_37 : decode cX11_isTownItem 37 = .ok (.iconst 2, 1) := by decide +kernel
theorem dX11_isTownItem_38 : decode cX11_isTownItem 38 = .ok (.iaload, 1) := by decide +kernel
theorem dX11_isTownItem_39 : decode cX11_isTownItem 39 = .ok (.bipush 60, 2) := by decide +kernel
theorem dX11_isTownItem_41 : decode cX11_isTownItem 41 = .ok (.if_icmp .gt 34, 3) := by decide +kernel
theorem dX11_isTownItem_44 : decode cX11_isTownItem 44 = .ok (.aload_n 0, 1) := by decide +kernel
theorem dX11_isTownItem_45 : decode cX11_isTownItem 45 = .ok (.getfield 64, 3) := by decide +kernel
theorem dX11_isTownItem_48 : decode cX11_isTownItem 48 = .ok (.iconst 3, 1) := by decide +kernel
theorem dX11_isTownItem_49 : decode cX11_isTownItem 49 = .ok (.iaload, 1) := by decide +kernel
theorem dX11_isTownItem_50 : decode cX11_isTownItem 50 = .ok (.i2l, 1) := by decide +kernel
theorem dX11_isTownItem_51 : decode cX11_isTownItem 51 = .ok (.lconst 1, 1) := by decide +kernel
theorem dX11_isTownItem_52 : decode cX11_isTownItem 52 = .ok (.ldc2_w 120, 3) := by decide +kernel
theorem dX11_isTownItem_55 : decode cX11_isTownItem 55 = .ok (.invokestatic 97, 3) := by decide +kernel
theorem dX11_isTownItem_58 : decode cX11_isTownItem 58 = .ok (.ifCond .eq 17, 3) := by decide +kernel
theorem dX11_isTownItem_61 : decode cX11_isTownItem 61 = .ok (.aload_n 0, 1) := by decide +kernel
theorem dX11_isTownItem_62 : decode cX11_isTownItem 62 = .ok (.getfield 64, 3) := by decide +kernel
theorem dX11_isTownItem_65 : decode cX11_isTownItem 65 = .ok (.iconst 4, 1) := by decide +kernel
theorem dX11_isTownItem_66 : decode cX11_isTownItem 66 = .ok (.iaload, 1) := by decide +kernel
theorem dX11_isTownItem_67 : decode cX11_isTownItem 67 = .ok (.iconst 4, 1) := by decide +kernel
theorem dX11_isTownItem_68 : decode cX11_isTownItem 68 = .ok (.if_icmp .ge 7, 3) := by decide +kernel
theorem dX11_isTownItem_71 : decode cX11_isTownItem 71 = .ok (.iconst 1, 1) := by decide +kernel
theorem dX11_isTownItem_72 : decode cX11_isTownItem 72 = .ok (.goto 4, 3) := by decide +kernel
theorem dX11_isTownItem_75 : decode cX11_isTownItem 75 = .ok (.iconst 0, 1) := by decide +kernel
theorem dX11_isTownItem_76 : decode cX11_isTownItem 76 = .ok (.ireturn, 1) := by decide +kernel
theorem dX11_addErrand_0 : decode cX11_addErrand 0 = .ok (.aload_n 0, 1) := by decide +kernel
theorem dX11_addErrand_1 : decode cX11_addErrand 1 = .ok (.getfield 52, 3) := by decide +kernel
theorem dX11_addErrand_4 : decode cX11_addErrand 4 = .ok (.bipush 8, 2) := by decide +kernel
theorem dX11_addErrand_6 : decode cX11_addErrand 6 = .ok (.iload_n 1, 1) := by decide +kernel
theorem dX11_addErrand_7 : decode cX11_addErrand 7 = .ok (.imul, 1) := by decide +kernel
theorem dX11_addErrand_8 : decode cX11_addErrand 8 = .ok (.aload_n 0, 1) := by decide +kernel
theorem dX11_addErrand_9 : decode cX11_addErrand 9 = .ok (.getfield 49, 3) := by decide +kernel
theorem dX11_addErrand_12 : decode cX11_addErrand 12 = .ok (.iload_n 1, 1) := by decide +kernel
theorem dX11_addErrand_13 : decode cX11_addErrand 13 = .ok (.iaload, 1) := by decide +kernel
theorem dX11_addErrand_14 : decode cX11_addErrand 14 = .ok (.iadd, 1) := by decide +kernel
theorem dX11_addErrand_15 : decode cX11_addErrand 15 = .ok (.iload_n 2, 1) := by decide +kernel
theorem dX11_addErrand_16 : decode cX11_addErrand 16 = .ok (.iastore, 1) := by decide +kernel
theorem dX11_addErrand_17 : decode cX11_addErrand 17 = .ok (.aload_n 0, 1) := by decide +kernel
theorem dX11_addErrand_18 : decode cX11_addErrand 18 = .ok (.getfield 55, 3) := by decide +kernel
theorem dX11_addErrand_21 : decode cX11_addErrand 21 = .ok (.bipush 8, 2) := by decide +kernel
theorem dX11_addErrand_23 : decode cX11_addErrand 23 = .ok (.iload_n 1, 1) := by decide +kernel
theorem dX11_addErrand_24 : decode cX11_addErrand 24 = .ok (.imul, 1) := by decide +kernel
theorem dX11_addErrand_25 : decode cX11_addErrand 25 = .ok (.aload_n 0, 1) := by decide +kernel
theorem dX11_addErrand_26 : decode cX11_addErrand 26 = .ok (.getfield 49, 3) := by decide +kernel
theorem dX11_addErrand_29 : decode cX11_addErrand 29 = .ok (.iload_n 1, 1) := by decide +kernel
theorem dX11_addErrand_30 : decode cX11_addErrand 30 = .ok (.iaload, 1) := by decide +kernel
theorem dX11_addErrand_31 : decode cX11_addErrand 31 = .ok (.iadd, 1) := by decide +kernel
theorem dX11_addErrand_32 : decode cX11_addErrand 32 = .ok (.iload_n 3, 1) := by decide +kernel
theorem dX11_addErrand_33 : decode cX11_addErrand 33 = .ok (.iastore, 1) := by decide +kernel
theorem dX11_addErrand_34 : decode cX11_addErrand 34 = .ok (.aload_n 0, 1) := by decide +kernel
theorem dX11_addErrand_35 : decode cX11_addErrand 35 = .ok (.getfield 58, 3) := by decide +kernel
theorem dX11_addErrand_38 : decode cX11_addErrand 38 = .ok (.bipush 8, 2) := by decide +kernel
theorem dX11_addErrand_40 : decode cX11_addErrand 40 = .ok (.iload_n 1, 1) := by decide +kernel
theorem dX11_addErrand_41 : decode cX11_addErrand 41 = .ok (.imul, 1) := by decide +kernel
theorem dX11_addErrand_42 : decode cX11_addErrand 42 = .ok (.aload_n 0, 1) := by decide +kernel
theorem dX11_addErrand_43 : decode cX11_addErrand 43 = .ok (.getfield 49, 3) := by decide +kernel
theorem dX11_addErrand_46 : decode cX11_addErrand 46 = .ok (.iload_n 1, 1) := by decide +kernel
theorem dX11_addErrand_47 : decode cX11_addErrand 47 = .ok (.iaload, 1) := by decide +kernel
theorem dX11_addErrand_48 : decode cX11_addErrand 48 = .ok (.iadd, 1) := by decide +kernel
theorem dX11_addErrand_49 : decode cX11_addErrand 49 = .ok (.iload 4, 2) := by decide +kernel
theorem dX11_addErrand_51 : decode cX11_addErrand 51 = .ok (.iastore, 1) := by decide +kernel
theorem dX11_addErrand_52 : decode cX11_addErrand 52 = .ok (.aload_n 0, 1) := by decide +kernel
theorem dX11_addErrand_53 : decode cX11_addErrand 53 = .ok (.getfield 49, 3) := by decide +kernel
theorem dX11_addErrand_56 : decode cX11_addErrand 56 = .ok (.iload_n 1, 1) := by decide +kernel
theorem dX11_addErrand_57 : decode cX11_addErrand 57 = .ok (.dup2, 1) := by decide +kernel
theorem dX11_addErrand_58 : decode cX11_addErrand 58 = .ok (.iaload, 1) := by decide +kernel
theorem dX11_addErrand_59 : decode cX11_addErrand 59 = .ok (.iconst 1, 1) := by decide +kernel
theorem dX11_addErrand_60 : decode cX11_addErrand 60 = .ok (.iadd, 1) := by decide +kernel
theorem dX11_addErrand_61 : decode cX11_addErrand 61 = .ok (.iastore, 1) := by decide +kernel
theorem dX11_addErrand_62 : decode cX11_addErrand 62 = .ok (.return_, 1) := by decide +kernel
theorem dX11_item_0 : decode cX11_item 0 = .ok (.aload_n 0, 1) := by decide +kernel
theorem dX11_item_1 : decode cX11_item 1 = .ok (.aload_n 0, 1) := by decide +kernel
theorem dX11_item_2 : decode cX11_item 2 = .ok (.getfield 107, 3) := by decide +kernel
theorem dX11_item_5 : decode cX11_item 5 = .ok (.invokevirtual 110, 3) := by decide +kernel
theorem dX11_item_8 : decode cX11_item 8 = .ok (.istore_n 1, 1) := by decide +kernel
theorem dX11_item_9 : decode cX11_item 9 = .ok (.aload_n 0, 1) := by decide +kernel
theorem dX11_item_10 : decode cX11_item 10 = .ok (.dup, 1) := by decide +kernel
theorem dX11_item_11 : decode cX11_item 11 = .ok (.getfield 107, 3) := by decide +kernel
theorem dX11_item_14 : decode cX11_item 14 = .ok (.iconst 1, 1) := by decide +kernel
theorem dX11_item_15 : decode cX11_item 15 = .ok (.iadd, 1) := by decide +kernel
theorem dX11_item_16 : decode cX11_item 16 = .ok (.putfield 107, 3) := by decide +kernel
theorem dX11_item_19 : decode cX11_item 19 = .ok (.iload_n 1, 1) := by decide +kernel
theorem dX11_item_20 : decode cX11_item 20 = .ok (.lookupswitch 452 #[(109, 267), (116, 138), (118, 44), (122, 355)], 44) := by decide +kernel
theorem dX11_item_64 : decode cX11_item 64 = .ok (.aload_n 0, 1) := by decide +kernel
theorem dX11_item_65 : decode cX11_item 65 = .ok (.iconst 2, 1) := by decide +kernel
theorem dX11_item_66 : decode cX11_item 66 = .ok (.invokevirtual 122, 3) := by decide +kernel
theorem dX11_item_69 : decode cX11_item 69 = .ok (.ifCond .eq 35, 3) := by decide +kernel
theorem dX11_item_72 : decode cX11_item 72 = .ok (.aload_n 0, 1) := by decide +kernel
theorem dX11_item_73 : decode cX11_item 73 = .ok (.getfield 13, 3) := by decide +kernel
theorem dX11_item_76 : decode cX11_item 76 = .ok (.iconst 1, 1) := by decide +kernel
theorem dX11_item_77 : decode cX11_item 77 = .ok (.iaload, 1) := by decide +kernel
theorem dX11_item_78 : decode cX11_item 78 = .ok (.bipush 6, 2) := by decide +kernel
theorem dX11_item_80 : decode cX11_item 80 = .ok (.if_icmp .eq 24, 3) := by decide +kernel
theorem dX11_item_83 : decode cX11_item 83 = .ok (.aload_n 0, 1) := by decide +kernel
theorem dX11_item_84 : decode cX11_item 84 = .ok (.getfield 64, 3) := by decide +kernel
theorem dX11_item_87 : decode cX11_item 87 = .ok (.iconst 0, 1) := by decide +kernel
theorem dX11_item_88 : decode cX11_item 88 = .ok (.iaload, 1) := by decide +kernel
theorem dX11_item_89 : decode cX11_item 89 = .ok (.bipush 23, 2) := by decide +kernel
theorem dX11_item_91 : decode cX11_item 91 = .ok (.if_icmp .gt 13, 3) := by decide +kernel
theorem dX11_item_94 : decode cX11_item 94 = .ok (.aload_n 0, 1) := by decide +kernel
theorem dX11_item_95 : decode cX11_item 95 = .ok (.getfield 64, 3) := by decide +kernel
theorem dX11_item_98 : decode cX11_item 98 = .ok (.iconst 1, 1) := by decide +kernel
theorem dX11_item_99 : decode cX11_item 99 = .ok (.iaload, 1) := by decide +kernel
theorem dX11_item_100 : decode cX11_item 100 = .ok (.iconst 1, 1) := by decide +kernel
theorem dX11_item_101 : decode cX11_item 101 = .ok (.if_icmp .le 5, 3) := by decide +kernel
theorem dX11_item_104 : decode cX11_item 104 = .ok (.iconst 0, 1) := by decide +kernel
theorem dX11_item_105 : decode cX11_item 105 = .ok (.ireturn, 1) := by decide +kernel
theorem dX11_item_106 : decode cX11_item 106 = .ok (.aload_n 0, 1) := by decide +kernel
theorem dX11_item_107 : decode cX11_item 107 = .ok (.getfield 16, 3) := by decide +kernel
theorem dX11_item_110 : decode cX11_item 110 = .ok (.bipush 6, 2) := by decide +kernel
theorem dX11_item_112 : decode cX11_item 112 = .ok (.aload_n 0, 1) := by decide +kernel
theorem dX11_item_113 : decode cX11_item 113 = .ok (.getfield 13, 3) := by decide +kernel
theorem dX11_item_116 : decode cX11_item 116 = .ok (.iconst 1, 1) := by decide +kernel
theorem dX11_item_117 : decode cX11_item 117 = .ok (.iaload, 1) := by decide +kernel
theorem dX11_item_118 : decode cX11_item 118 = .ok (.iadd, 1) := by decide +kernel
theorem dX11_item_119 : decode cX11_item 119 = .ok (.aload_n 0, 1) := by decide +kernel
theorem dX11_item_120 : decode cX11_item 120 = .ok (.getfield 64, 3) := by decide +kernel
theorem dX11_item_123 : decode cX11_item 123 = .ok (.iconst 0, 1) := by decide +kernel
theorem dX11_item_124 : decode cX11_item 124 = .ok (.iaload, 1) := by decide +kernel
theorem dX11_item_125 : decode cX11_item 125 = .ok (.iastore, 1) := by decide +kernel
theorem dX11_item_126 : decode cX11_item 126 = .ok (.aload_n 0, 1) := by decide +kernel
theorem dX11_item_127 : decode cX11_item 127 = .ok (.getfield 19, 3) := by decide +kernel
theorem dX11_item_130 : decode cX11_item 130 = .ok (.bipush 6, 2) := by decide +kernel
theorem dX11_item_132 : decode cX11_item 132 = .ok (.aload_n 0, 1) := by decide +kernel
theorem dX11_item_133 : decode cX11_item 133 = .ok (.getfield 13, 3) := by decide +kernel
theorem dX11_item_136 : decode cX11_item 136 = .ok (.iconst 1, 1) := by decide +kernel
theorem dX11_item_137 : decode cX11_item 137 = .ok (.iaload, 1) := by decide +kernel
theorem dX11_item_138 : decode cX11_item 138 = .ok (.iadd, 1) := by decide +kernel
theorem dX11_item_139 : decode cX11_item 139 = .ok (.aload_n 0, 1) := by decide +kernel
theorem dX11_item_140 : decode cX11_item 140 = .ok (.getfield 64, 3) := by decide +kernel
theorem dX11_item_143 : decode cX11_item 143 = .ok (.iconst 1, 1) := by decide +kernel
theorem dX11_item_144 : decode cX11_item 144 = .ok (.iaload, 1) := by decide +kernel
theorem dX11_item_145 : decode cX11_item 145 = .ok (.iastore, 1) := by decide +kernel
theorem dX11_item_146 : decode cX11_item 146 = .ok (.aload_n 0, 1) := by decide +kernel
theorem dX11_item_147 : decode cX11_item 147 = .ok (.getfield 13, 3) := by decide +kernel
theorem dX11_item_150 : decode cX11_item 150 = .ok (.iconst 1, 1) := by decide +kernel
theorem dX11_item_151 : decode cX11_item 151 = .ok (.dup2, 1) := by decide +kernel
theorem dX11_item_152 : decode cX11_item 152 = .ok (.iaload, 1) := by decide +kernel
theorem dX11_item_153 : decode cX11_item 153 = .ok (.iconst 1, 1) := by decide +kernel
theorem dX11_item_154 : decode cX11_item 154 = .ok (.iadd, 1) := by decide +kernel
theorem dX11_item_155 : decode cX11_item 155 = .ok (.iastore, 1) := by decide +kernel
theorem dX11_item_156 : decode cX11_item 156 = .ok (.iconst 1, 1) := by decide +kernel
theorem dX11_item_157 : decode cX11_item 157 = .ok (.ireturn, 1) := by decide +kernel
theorem dX11_item_158 : decode cX11_item 158 = .ok (.aload_n 0, 1) := by decide +kernel
theorem dX11_item_159 : decode cX11_item 159 = .ok (.iconst 5, 1) := by decide +kernel
theorem dX11_item_160 : decode cX11_item 160 = .ok (.invokevirtual 122, 3) := by decide +kernel
theorem dX11_item_163 : decode cX11_item 163 = .ok (.ifCond .eq 10, 3) := by decide +kernel
theorem dX11_item_166 : decode cX11_item 166 = .ok (.aload_n 0, 1) := by decide +kernel
theorem dX11_item_167 : decode cX11_item 167 = .ok (.invokevirtual 126, 3) := by decide +kernel
theorem dX11_item_170 : decode cX11_item 170 = .ok (.ifCond .ne 5, 3) := by decide +kernel
theorem dX11_item_173 : decode cX11_item 173 = .ok (.iconst 0, 1) := by decide +kernel
theorem dX11_item_174 : decode cX11_item 174 = .ok (.ireturn, 1) := by decide +kernel
theorem dX11_item_175 : decode cX11_item 175 = .ok (.aload_n 0, 1) := by decide +kernel
theorem dX11_item_176 : decode cX11_item 176 = .ok (.getfield 25, 3) := by decide +kernel
theorem dX11_item_179 : decode cX11_item 179 = .ok (.bipush 6, 2) := by decide +kernel
theorem dX11_item_181 : decode cX11_item 181 = .ok (.aload_n 0, 1) := by decide +kernel
theorem dX11_item_182 : decode cX11_item 182 = .ok (.getfield 22, 3) := by decide +kernel
theorem dX11_item_185 : decode cX11_item 185 = .ok (.iconst 1, 1) := by decide +kernel
theorem dX11_item_186 : decode cX11_item 186 = .ok (.iaload, 1) := by decide +kernel
theorem dX11_item_187 : decode cX11_item 187 = .ok (.iadd, 1) := by decide +kernel
theorem dX11_item_188 : decode cX11_item 188 = .ok (.aload_n 0, 1) := by decide +kernel
theorem dX11_item_189 : decode cX11_item 189 = .ok (.getfield 64, 3) := by decide +kernel
theorem dX11_item_192 : decode cX11_item 192 = .ok (.iconst 0, 1) := by decide +kernel
theorem dX11_item_193 : decode cX11_item 193 = .ok (.iaload, 1) := by decide +kernel
theorem dX11_item_194 : decode cX11_item 194 = .ok (.iastore, 1) := by decide +kernel
theorem dX11_item_195 : decode cX11_item 195 = .ok (.aload_n 0, 1) := by decide +kernel
theorem dX11_item_196 : decode cX11_item 196 = .ok (.getfield 28, 3) := by decide +kernel
theorem dX11_item_199 : decode cX11_item 199 = .ok (.bipush 6, 2) := by decide +kernel
theorem dX11_item_201 : decode cX11_item 201 = .ok (.aload_n 0, 1) := by decide +kernel
theorem dX11_item_202 : decode cX11_item 202 = .ok (.getfield 22, 3) := by decide +kernel
theorem dX11_item_205 : decode cX11_item 205 = .ok (.iconst 1, 1) := by decide +kernel
theorem dX11_item_206 : decode cX11_item 206 = .ok (.iaload, 1) := by decide +kernel
theorem dX11_item_207 : decode cX11_item 207 = .ok (.iadd, 1) := by decide +kernel
theorem dX11_item_208 : decode cX11_item 208 = .ok (.aload_n 0, 1) := by decide +kernel
theorem dX11_item_209 : decode cX11_item 209 = .ok (.getfield 64, 3) := by decide +kernel
theorem dX11_item_212 : decode cX11_item 212 = .ok (.iconst 1, 1) := by decide +kernel
theorem dX11_item_213 : decode cX11_item 213 = .ok (.iaload, 1) := by decide +kernel
theorem dX11_item_214 : decode cX11_item 214 = .ok (.iastore, 1) := by decide +kernel
theorem dX11_item_215 : decode cX11_item 215 = .ok (.aload_n 0, 1) := by decide +kernel
theorem dX11_item_216 : decode cX11_item 216 = .ok (.getfield 46, 3) := by decide +kernel
theorem dX11_item_219 : decode cX11_item 219 = .ok (.bipush 6, 2) := by decide +kernel
theorem dX11_item_221 : decode cX11_item 221 = .ok (.aload_n 0, 1) := by decide +kernel
theorem dX11_item_222 : decode cX11_item 222 = .ok (.getfield 22, 3) := by decide +kernel
theorem dX11_item_225 : decode cX11_item 225 = .ok (.iconst 1, 1) := by decide +kernel
theorem dX11_item_226 : decode cX11_item 226 = .ok (.iaload, 1) := by decide +kernel
theorem dX11_item_227 : decode cX11_item 227 = .ok (.iadd, 1) := by decide +kernel
theorem dX11_item_228 : decode cX11_item 228 = .ok (.aload_n 0, 1) := by decide +kernel
theorem dX11_item_229 : decode cX11_item 229 = .ok (.getfield 64, 3) := by decide +kernel
theorem dX11_item_232 : decode cX11_item 232 = .ok (.iconst 2, 1) := by decide +kernel
theorem dX11_item_233 : decode cX11_item 233 = .ok (.iaload, 1) := by decide +kernel
theorem dX11_item_234 : decode cX11_item 234 = .ok (.iastore, 1) := by decide +kernel
theorem dX11_item_235 : decode cX11_item 235 = .ok (.aload_n 0, 1) := by decide +kernel
theorem dX11_item_236 : decode cX11_item 236 = .ok (.getfield 31, 3) := by decide +kernel
theorem dX11_item_239 : decode cX11_item 239 = .ok (.bipush 6, 2) := by decide +kernel
theorem dX11_item_241 : decode cX11_item 241 = .ok (.aload_n 0, 1) := by decide +kernel
theorem dX11_item_242 : decode cX11_item 242 = .ok (.getfield 22, 3) := by decide +kernel
theorem dX11_item_245 : decode cX11_item 245 = .ok (.iconst 1, 1) := by decide +kernel
theorem dX11_item_246 : decode cX11_item 246 = .ok (.iaload, 1) := by decide +kernel
theorem dX11_item_247 : decode cX11_item 247 = .ok (.iadd, 1) := by decide +kernel
theorem dX11_item_248 : decode cX11_item 248 = .ok (.aload_n 0, 1) := by decide +kernel
theorem dX11_item_249 : decode cX11_item 249 = .ok (.getfield 64, 3) := by decide +kernel
theorem dX11_item_252 : decode cX11_item 252 = .ok (.iconst 3, 1) := by decide +kernel
theorem dX11_item_253 : decode cX11_item 253 = .ok (.iaload, 1) := by decide +kernel
theorem dX11_item_254 : decode cX11_item 254 = .ok (.iastore, 1) := by decide +kernel
theorem dX11_item_255 : decode cX11_item 255 = .ok (.aload_n 0, 1) := by decide +kernel
theorem dX11_item_256 : decode cX11_item 256 = .ok (.getfield 34, 3) := by decide +kernel
theorem dX11_item_259 : decode cX11_item 259 = .ok (.bipush 6, 2) := by decide +kernel
theorem dX11_item_261 : decode cX11_item 261 = .ok (.aload_n 0, 1) := by decide +kernel
theorem dX11_item_262 : decode cX11_item 262 = .ok (.getfield 22, 3) := by decide +kernel
theorem dX11_item_265 : decode cX11_item 265 = .ok (.iconst 1, 1) := by decide +kernel
theorem dX11_item_266 : decode cX11_item 266 = .ok (.iaload, 1) := by decide +kernel
theorem dX11_item_267 : decode cX11_item 267 = .ok (.iadd, 1) := by decide +kernel
theorem dX11_item_268 : decode cX11_item 268 = .ok (.aload_n 0, 1) := by decide +kernel
theorem dX11_item_269 : decode cX11_item 269 = .ok (.getfield 64, 3) := by decide +kernel
theorem dX11_item_272 : decode cX11_item 272 = .ok (.iconst 4, 1) := by decide +kernel
theorem dX11_item_273 : decode cX11_item 273 = .ok (.iaload, 1) := by decide +kernel
theorem dX11_item_274 : decode cX11_item 274 = .ok (.iastore, 1) := by decide +kernel
theorem dX11_item_275 : decode cX11_item 275 = .ok (.aload_n 0, 1) := by decide +kernel
theorem dX11_item_276 : decode cX11_item 276 = .ok (.getfield 22, 3) := by decide +kernel
theorem dX11_item_279 : decode cX11_item 279 = .ok (.iconst 1, 1) := by decide +kernel
theorem dX11_item_280 : decode cX11_item 280 = .ok (.dup2, 1) := by decide +kernel
theorem dX11_item_281 : decode cX11_item 281 = .ok (.iaload, 1) := by decide +kernel
theorem dX11_item_282 : decode cX11_item 282 = .ok (.iconst 1, 1) := by decide +kernel
theorem dX11_item_283 : decode cX11_item 283 = .ok (.iadd, 1) := by decide +kernel
theorem dX11_item_284 : decode cX11_item 284 = .ok (.iastore, 1) := by decide +kernel
theorem dX11_item_285 : decode cX11_item 285 = .ok (.iconst 1, 1) := by decide +kernel
theorem dX11_item_286 : decode cX11_item 286 = .ok (.ireturn, 1) := by decide +kernel
theorem dX11_item_287 : decode cX11_item 287 = .ok (.aload_n 0, 1) := by decide +kernel
theorem dX11_item_288 : decode cX11_item 288 = .ok (.iconst 3, 1) := by decide +kernel
theorem dX11_item_289 : decode cX11_item 289 = .ok (.invokevirtual 122, 3) := by decide +kernel
theorem dX11_item_292 : decode cX11_item 292 = .ok (.ifCond .eq 56, 3) := by decide +kernel
theorem dX11_item_295 : decode cX11_item 295 = .ok (.aload_n 0, 1) := by decide +kernel
theorem dX11_item_296 : decode cX11_item 296 = .ok (.getfield 49, 3) := by decide +kernel
theorem dX11_item_299 : decode cX11_item 299 = .ok (.iconst 1, 1) := by decide +kernel
theorem dX11_item_300 : decode cX11_item 300 = .ok (.iaload, 1) := by decide +kernel
theorem dX11_item_301 : decode cX11_item 301 = .ok (.bipush 8, 2) := by decide +kernel
theorem dX11_item_303 : decode cX11_item 303 = .ok (.if_icmp .eq 45, 3) := by decide +kernel
theorem dX11_item_306 : decode cX11_item 306 = .ok (.aload_n 0, 1) := by decide +kernel
theorem dX11_item_307 : decode cX11_item 307 = .ok (.getfield 64, 3) := by decide +kernel
theorem dX11_item_310 : decode cX11_item 310 = .ok (.iconst 0, 1) := by decide +kernel
theorem dX11_item_311 : decode cX11_item 311 = .ok (.iaload, 1) := by decide +kernel
theorem dX11_item_312 : decode cX11_item 312 = .ok (.aload_n 0, 1) := by decide +kernel
theorem dX11_item_313 : decode cX11_item 313 = .ok (.getfield 22, 3) := by decide +kernel
theorem dX11_item_316 : decode cX11_item 316 = .ok (.iconst 1, 1) := by decide +kernel
theorem dX11_item_317 : decode cX11_item 317 = .ok (.iaload, 1) := by decide +kernel
theorem dX11_item_318 : decode cX11_item 318 = .ok (.if_icmp .ge 30, 3) := by decide +kernel
theorem dX11_item_321 : decode cX11_item 321 = .ok (.aload_n 0, 1) := by decide +kernel
theorem dX11_item_322 : decode cX11_item 322 = .ok (.getfield 64, 3) := by decide +kernel
theorem dX11_item_325 : decode cX11_item 325 = .ok (.iconst 1, 1) := by decide +kernel
theorem dX11_item_326 : decode cX11_item 326 = .ok (.iaload, 1) := by decide +kernel
theorem dX11_item_327 : decode cX11_item 327 = .ok (.i2l, 1) := by decide +kernel
theorem dX11_item_328 : decode cX11_item 328 = .ok (.lconst 1, 1) := by decide +kernel
theorem dX11_item_329 : decode cX11_item 329 = .ok (.ldc2_w 130, 3) := by decide +kernel
theorem dX11_item_332 : decode cX11_item 332 = .ok (.invokestatic 97, 3) := by decide +kernel
theorem dX11_item_335 : decode cX11_item 335 = .ok (.ifCond .eq 13, 3) := by decide +kernel
theorem dX11_item_338 : decode cX11_item 338 = .ok (.aload_n 0, 1) := by decide +kernel
theorem dX11_item_339 : decode cX11_item 339 = .ok (.getfield 64, 3) := by decide +kernel
theorem dX11_item_342 : decode cX11_item 342 = .ok (.iconst 2, 1) := by decide +kernel
theorem dX11_item_343 : decode cX11_item 343 = .ok (.iaload, 1) := by decide +kernel
theorem dX11_item_344 : decode cX11_item 344 = .ok (.iconst 1, 1) := by decide +kernel
theorem dX11_item_345 : decode cX11_item 345 = .ok (.if_icmp .le 5, 3) := by decide +kernel
theorem dX11_item_348 : decode cX11_item 348 = .ok (.iconst 0, 1) := by decide +kernel
theorem dX11_item_349 : decode cX11_item 349 = .ok (.ireturn, 1) := by decide +kernel
theorem dX11_item_350 : decode cX11_item 350 = .ok (.aload_n 0, 1) := by decide +kernel
theorem dX11_item_351 : decode cX11_item 351 = .ok (.iconst 1, 1) := by decide +kernel
theorem dX11_item_352 : decode cX11_item 352 = .ok (.aload_n 0, 1) := by decide +kernel
theorem dX11_item_353 : decode cX11_item 353 = .ok (.getfield 64, 3) := by decide +kernel
theorem dX11_item_356 : decode cX11_item 356 = .ok (.iconst 0, 1) := by decide +kernel
theorem dX11_item_357 : decode cX11_item 357 = .ok (.iaload, 1) := by decide +kernel
theorem dX11_item_358 : decode cX11_item 358 = .ok (.aload_n 0, 1) := by decide +kernel
theorem dX11_item_359 : decode cX11_item 359 = .ok (.getfield 64, 3) := by decide +kernel
theorem dX11_item_362 : decode cX11_item 362 = .ok (.iconst 1, 1) := by decide +kernel
theorem dX11_item_363 : decode cX11_item 363 = .ok (.iaload, 1) := by decide +kernel
theorem dX11_item_364 : decode cX11_item 364 = .ok (.aload_n 0, 1) := by decide +kernel
theorem dX11_item_365 : decode cX11_item 365 = .ok (.getfield 64, 3) := by decide +kernel
theorem dX11_item_368 : decode cX11_item 368 = .ok (.iconst 2, 1) := by decide +kernel
theorem dX11_item_369 : decode cX11_item 369 = .ok (.iaload, 1) := by decide +kernel
theorem dX11_item_370 : decode cX11_item 370 = .ok (.invokevirtual 132, 3) := by decide +kernel
theorem dX11_item_373 : decode cX11_item 373 = .ok (.iconst 1, 1) := by decide +kernel
theorem dX11_item_374 : decode cX11_item 374 = .ok (.ireturn, 1) := by decide +kernel
theorem dX11_item_375 : decode cX11_item 375 = .ok (.aload_n 0, 1) := by decide +kernel
theorem dX11_item_376 : decode cX11_item 376 = .ok (.iconst 2, 1) := by decide +kernel
theorem dX11_item_377 : decode cX11_item 377 = .ok (.invokevirtual 122, 3) := by decide +kernel
theorem dX11_item_380 : decode cX11_item 380 = .ok (.ifCond .eq 40, 3) := by decide +kernel
theorem dX11_item_383 : decode cX11_item 383 = .ok (.aload_n 0, 1) := by decide +kernel
theorem dX11_item_384 : decode cX11_item 384 = .ok (.getfield 37, 3) := by decide +kernel
theorem dX11_item_387 : decode cX11_item 387 = .ok (.iconst 1, 1) := by decide +kernel
theorem dX11_item_388 : decode cX11_item 388 = .ok (.iaload, 1) := by decide +kernel
theorem dX11_item_389 : decode cX11_item 389 = .ok (.iconst 5, 1) := by decide +kernel
theorem dX11_item_390 : decode cX11_item 390 = .ok (.if_icmp .eq 30, 3) := by decide +kernel
theorem dX11_item_393 : decode cX11_item 393 = .ok (.aload_n 0, 1) := by decide +kernel
theorem dX11_item_394 : decode cX11_item 394 = .ok (.getfield 64, 3) := by decide +kernel
theorem dX11_item_397 : decode cX11_item 397 = .ok (.iconst 0, 1) := by decide +kernel
theorem dX11_item_398 : decode cX11_item 398 = .ok (.iaload, 1) := by decide +kernel
theorem dX11_item_399 : decode cX11_item 399 = .ok (.iconst 5, 1) := by decide +kernel
theorem dX11_item_400 : decode cX11_item 400 = .ok (.if_icmp .gt 20, 3) := by decide +kernel
theorem dX11_item_403 : decode cX11_item 403 = .ok (.aload_n 0, 1) := by decide +kernel
theorem dX11_item_404 : decode cX11_item 404 = .ok (.getfield 64, 3) := by decide +kernel
theorem dX11_item_407 : decode cX11_item 407 = .ok (.iconst 1, 1) := by decide +kernel
theorem dX11_item_408 : decode cX11_item 408 = .ok (.iaload, 1) := by decide +kernel
theorem dX11_item_409 : decode cX11_item 409 = .ok (.i2l, 1) := by decide +kernel
theorem dX11_item_410 : decode cX11_item 410 = .ok (.lconst 1, 1) := by decide +kernel
theorem dX11_item_411 : decode cX11_item 411 = .ok (.ldc2_w 130, 3) := by decide +kernel
theorem dX11_item_414 : decode cX11_item 414 = .ok (.invokestatic 97, 3) := by decide +kernel
theorem dX11_item_417 : decode cX11_item 417 = .ok (.ifCond .ne 5, 3) := by decide +kernel
theorem dX11_item_420 : decode cX11_item 420 = .ok (.iconst 0, 1) := by decide +kernel
theorem dX11_item_421 : decode cX11_item 421 = .ok (.ireturn, 1) := by decide +kernel
theorem dX11_item_422 : decode cX11_item 422 = .ok (.aload_n 0, 1) := by decide +kernel
theorem dX11_item_423 : decode cX11_item 423 = .ok (.getfield 40, 3) := by decide +kernel
theorem dX11_item_426 : decode cX11_item 426 = .ok (.iconst 5, 1) := by decide +kernel
theorem dX11_item_427 : decode cX11_item 427 = .ok (.aload_n 0, 1) := by decide +kernel
theorem dX11_item_428 : decode cX11_item 428 = .ok (.getfield 37, 3) := by decide +kernel
theorem dX11_item_431 : decode cX11_item 431 = .ok (.iconst 1, 1) := by decide +kernel
theorem dX11_item_432 : decode cX11_item 432 = .ok (.iaload, 1) := by decide +kernel
theorem dX11_item_433 : decode cX11_item 433 = .ok (.iadd, 1) := by decide +kernel
theorem dX11_item_434 : decode cX11_item 434 = .ok (.aload_n 0, 1) := by decide +kernel
theorem dX11_item_435 : decode cX11_item 435 = .ok (.getfield 64, 3) := by decide +kernel
theorem dX11_item_438 : decode cX11_item 438 = .ok (.iconst 0, 1) := by decide +kernel
theorem dX11_item_439 : decode cX11_item 439 = .ok (.iaload, 1) := by decide +kernel
theorem dX11_item_440 : decode cX11_item 440 = .ok (.iastore, 1) := by decide +kernel
theorem dX11_item_441 : decode cX11_item 441 = .ok (.aload_n 0, 1) := by decide +kernel
theorem dX11_item_442 : decode cX11_item 442 = .ok (.getfield 43, 3) := by decide +kernel
theorem dX11_item_445 : decode cX11_item 445 = .ok (.iconst 5, 1) := by decide +kernel
theorem dX11_item_446 : decode cX11_item 446 = .ok (.aload_n 0, 1) := by decide +kernel
theorem dX11_item_447 : decode cX11_item 447 = .ok (.getfield 37, 3) := by decide +kernel
theorem dX11_item_450 : decode cX11_item 450 = .ok (.iconst 1, 1) := by decide +kernel
theorem dX11_item_451 : decode cX11_item 451 = .ok (.iaload, 1) := by decide +kernel
theorem dX11_item_452 : decode cX11_item 452 = .ok (.iadd, 1) := by decide +kernel
theorem dX11_item_453 : decode cX11_item 453 = .ok (.aload_n 0, 1) := by decide +kernel
theorem dX11_item_454 : decode cX11_item 454 = .ok (.getfield 64, 3) := by decide +kernel
theorem dX11_item_457 : decode cX11_item 457 = .ok (.iconst 1, 1) := by decide +kernel
theorem dX11_item_458 : decode cX11_item 458 = .ok (.iaload, 1) := by decide +kernel
theorem dX11_item_459 : decode cX11_item 459 = .ok (.iastore, 1) := by decide +kernel
theorem dX11_item_460 : decode cX11_item 460 = .ok (.aload_n 0, 1) := by decide +kernel
theorem dX11_item_461 : decode cX11_item 461 = .ok (.getfield 37, 3) := by decide +kernel
theorem dX11_item_464 : decode cX11_item 464 = .ok (.iconst 1, 1) := by decide +kernel
theorem dX11_item_465 : decode cX11_item 465 = .ok (.dup2, 1) := by decide +kernel
theorem dX11_item_466 : decode cX11_item 466 = .ok (.iaload, 1) := by decide +kernel
theorem dX11_item_467 : decode cX11_item 467 = .ok (.iconst 1, 1) := by decide +kernel
theorem dX11_item_468 : decode cX11_item 468 = .ok (.iadd, 1) := by decide +kernel
theorem dX11_item_469 : decode cX11_item 469 = .ok (.iastore, 1) := by decide +kernel
theorem dX11_item_470 : decode cX11_item 470 = .ok (.iconst 1, 1) := by decide +kernel
theorem dX11_item_471 : decode cX11_item 471 = .ok (.ireturn, 1) := by decide +kernel
theorem dX11_item_472 : decode cX11_item 472 = .ok (.iconst 0, 1) := by decide +kernel
theorem dX11_item_473 : decode cX11_item 473 = .ok (.ireturn, 1) := by decide +kernel
theorem dX11_readAll_0 : decode cX11_readAll 0 = .ok (.aload_n 0, 1) := by decide +kernel
theorem dX11_readAll_1 : decode cX11_readAll 1 = .ok (.getfield 13, 3) := by decide +kernel
theorem dX11_readAll_4 : decode cX11_readAll 4 = .ok (.iconst 1, 1) := by decide +kernel
theorem dX11_readAll_5 : decode cX11_readAll 5 = .ok (.iconst 0, 1) := by decide +kernel
theorem dX11_readAll_6 : decode cX11_readAll 6 = .ok (.iastore, 1) := by decide +kernel
theorem dX11_readAll_7 : decode cX11_readAll 7 = .ok (.aload_n 0, 1) := by decide +kernel
theorem dX11_readAll_8 : decode cX11_readAll 8 = .ok (.getfield 22, 3) := by decide +kernel
theorem dX11_readAll_11 : decode cX11_readAll 11 = .ok (.iconst 1, 1) := by decide +kernel
theorem dX11_readAll_12 : decode cX11_readAll 12 = .ok (.iconst 0, 1) := by decide +kernel
theorem dX11_readAll_13 : decode cX11_readAll 13 = .ok (.iastore, 1) := by decide +kernel
theorem dX11_readAll_14 : decode cX11_readAll 14 = .ok (.aload_n 0, 1) := by decide +kernel
theorem dX11_readAll_15 : decode cX11_readAll 15 = .ok (.getfield 49, 3) := by decide +kernel
theorem dX11_readAll_18 : decode cX11_readAll 18 = .ok (.iconst 1, 1) := by decide +kernel
theorem dX11_readAll_19 : decode cX11_readAll 19 = .ok (.iconst 0, 1) := by decide +kernel
theorem dX11_readAll_20 : decode cX11_readAll 20 = .ok (.iastore, 1) := by decide +kernel
theorem dX11_readAll_21 : decode cX11_readAll 21 = .ok (.aload_n 0, 1) := by decide +kernel
theorem dX11_readAll_22 : decode cX11_readAll 22 = .ok (.getfield 37, 3) := by decide +kernel
theorem dX11_readAll_25 : decode cX11_readAll 25 = .ok (.iconst 1, 1) := by decide +kernel
theorem dX11_readAll_26 : decode cX11_readAll 26 = .ok (.iconst 0, 1) := by decide +kernel
theorem dX11_readAll_27 : decode cX11_readAll 27 = .ok (.iastore, 1) := by decide +kernel
theorem dX11_readAll_28 : decode cX11_readAll 28 = .ok (.aload_n 0, 1) := by decide +kernel
theorem dX11_readAll_29 : decode cX11_readAll 29 = .ok (.iconst 0, 1) := by decide +kernel
theorem dX11_readAll_30 : decode cX11_readAll 30 = .ok (.putfield 107, 3) := by decide +kernel
theorem dX11_readAll_33 : decode cX11_readAll 33 = .ok (.aload_n 0, 1) := by decide +kernel
theorem dX11_readAll_34 : decode cX11_readAll 34 = .ok (.getfield 107, 3) := by decide +kernel
theorem dX11_readAll_37 : decode cX11_readAll 37 = .ok (.aload_n 0, 1) := by decide +kernel
theorem dX11_readAll_38 : decode cX11_readAll 38 = .ok (.getfield 101, 3) := by decide +kernel
theorem dX11_readAll_41 : decode cX11_readAll 41 = .ok (.if_icmp .ge 20, 3) := by decide +kernel
theorem dX11_readAll_44 : decode cX11_readAll 44 = .ok (.aload_n 0, 1) := by decide +kernel
theorem dX11_readAll_45 : decode cX11_readAll 45 = .ok (.getfield 107, 3) := by decide +kernel
theorem dX11_readAll_48 : decode cX11_readAll 48 = .ok (.istore_n 1, 1) := by decide +kernel
theorem dX11_readAll_49 : decode cX11_readAll 49 = .ok (.aload_n 0, 1) := by decide +kernel
theorem dX11_readAll_50 : decode cX11_readAll 50 = .ok (.invokevirtual 136, 3) := by decide +kernel
theorem dX11_readAll_53 : decode cX11_readAll 53 = .ok (.ifCond .ne 5, 3) := by decide +kernel
theorem dX11_readAll_56 : decode cX11_readAll 56 = .ok (.iload_n 1, 1) := by decide +kernel
theorem dX11_readAll_57 : decode cX11_readAll 57 = .ok (.ireturn, 1) := by decide +kernel
theorem dX11_readAll_58 : decode cX11_readAll 58 = .ok (.goto (-25), 3) := by decide +kernel
theorem dX11_readAll_61 : decode cX11_readAll 61 = .ok (.bipush (-4), 2) := by decide +kernel
theorem dX11_readAll_63 : decode cX11_readAll 63 = .ok (.ireturn, 1) := by decide +kernel
theorem dX11_fault_0 : decode cX11_fault 0 = .ok (.aload_n 0, 1) := by decide +kernel
theorem dX11_fault_1 : decode cX11_fault 1 = .ok (.invokevirtual 139, 3) := by decide +kernel
theorem dX11_fault_4 : decode cX11_fault 4 = .ok (.ireturn, 1) := by decide +kernel
theorem dX11_areThere_0 : decode cX11_areThere 0 = .ok (.aload_n 0, 1) := by decide +kernel
theorem dX11_areThere_1 : decode cX11_areThere 1 = .ok (.getfield 13, 3) := by decide +kernel
theorem dX11_areThere_4 : decode cX11_areThere 4 = .ok (.iconst 1, 1) := by decide +kernel
theorem dX11_areThere_5 : decode cX11_areThere 5 = .ok (.iaload, 1) := by decide +kernel
theorem dX11_areThere_6 : decode cX11_areThere 6 = .ok (.ifCond .le 16, 3) := by decide +kernel
theorem dX11_areThere_9 : decode cX11_areThere 9 = .ok (.aload_n 0, 1) := by decide +kernel
theorem dX11_areThere_10 : decode cX11_areThere 10 = .ok (.getfield 22, 3) := by decide +kernel
theorem dX11_areThere_13 : decode cX11_areThere 13 = .ok (.iconst 1, 1) := by decide +kernel
theorem dX11_areThere_14 : decode cX11_areThere 14 = .ok (.iaload, 1) := by decide +kernel
theorem dX11_areThere_15 : decode cX11_areThere 15 = .ok (.ifCond .le 7, 3) := by decide +kernel
theorem dX11_areThere_18 : decode cX11_areThere 18 = .ok (.iconst 1, 1) := by decide +kernel
theorem dX11_areThere_19 : decode cX11_areThere 19 = .ok (.goto 4, 3) := by decide +kernel
theorem dX11_areThere_22 : decode cX11_areThere 22 = .ok (.iconst 0, 1) := by decide +kernel
theorem dX11_areThere_23 : decode cX11_areThere 23 = .ok (.istore_n 1, 1) := by decide +kernel
theorem dX11_areThere_24 : decode cX11_areThere 24 = .ok (.iconst 0, 1) := by decide +kernel
theorem dX11_areThere_25 : decode cX11_areThere 25 = .ok (.istore_n 2, 1) := by decide +kernel
theorem dX11_areThere_26 : decode cX11_areThere 26 = .ok (.iload_n 2, 1) := by decide +kernel
theorem dX11_areThere_27 : decode cX11_areThere 27 = .ok (.aload_n 0, 1) := by decide +kernel
theorem dX11_areThere_28 : decode cX11_areThere 28 = .ok (.getfield 22, 3) := by decide +kernel
theorem dX11_areThere_31 : decode cX11_areThere 31 = .ok (.iconst 1, 1) := by decide +kernel
theorem dX11_areThere_32 : decode cX11_areThere 32 = .ok (.iaload, 1) := by decide +kernel
theorem dX11_areThere_33 : decode cX11_areThere 33 = .ok (.if_icmp .ge 37, 3) := by decide +kernel
theorem dX11_areThere_36 : decode cX11_areThere 36 = .ok (.iload_n 1, 1) := by decide +kernel
theorem dX11_areThere_37 : decode cX11_areThere 37 = .ok (.ifCond .eq 25, 3) := by decide +kernel
theorem dX11_areThere_40 : decode cX11_areThere 40 = .ok (.aload_n 0, 1) := by decide +kernel
theorem dX11_areThere_41 : decode cX11_areThere 41 = .ok (.getfield 25, 3) := by decide +kernel
theorem dX11_areThere_44 : decode cX11_areThere 44 = .ok (.bipush 6, 2) := by decide +kernel
theorem dX11_areThere_46 : decode cX11_areThere 46 = .ok (.iload_n 2, 1) := by decide +kernel
theorem dX11_areThere_47 : decode cX11_areThere 47 = .ok (.iadd, 1) := by decide +kernel
theorem dX11_areThere_48 : decode cX11_areThere 48 = .ok (.iaload, 1) := by decide +kernel
theorem dX11_areThere_49 : decode cX11_areThere 49 = .ok (.aload_n 0, 1) := by decide +kernel
theorem dX11_areThere_50 : decode cX11_areThere 50 = .ok (.getfield 13, 3) := by decide +kernel
theorem dX11_areThere_53 : decode cX11_areThere 53 = .ok (.iconst 1, 1) := by decide +kernel
theorem dX11_areThere_54 : decode cX11_areThere 54 = .ok (.iaload, 1) := by decide +kernel
theorem dX11_areThere_55 : decode cX11_areThere 55 = .ok (.if_icmp .ge 7, 3) := by decide +kernel
theorem dX11_areThere_58 : decode cX11_areThere 58 = .ok (.iconst 1, 1) := by decide +kernel
theorem dX11_areThere_59 : decode cX11_areThere 59 = .ok (.goto 4, 3) := by decide +kernel
theorem dX11_areThere_62 : decode cX11_areThere 62 = .ok (.iconst 0, 1) := by decide +kernel
theorem dX11_areThere_63 : decode cX11_areThere 63 = .ok (.istore_n 1, 1) := by decide +kernel
theorem dX11_areThere_64 : decode cX11_areThere 64 = .ok (.iinc 2 1, 3) := by decide +kernel
theorem dX11_areThere_67 : decode cX11_areThere 67 = .ok (.goto (-41), 3) := by decide +kernel
theorem dX11_areThere_70 : decode cX11_areThere 70 = .ok (.iconst 0, 1) := by decide +kernel
theorem dX11_areThere_71 : decode cX11_areThere 71 = .ok (.istore_n 2, 1) := by decide +kernel
theorem dX11_areThere_72 : decode cX11_areThere 72 = .ok (.iload_n 2, 1) := by decide +kernel
theorem dX11_areThere_73 : decode cX11_areThere 73 = .ok (.aload_n 0, 1) := by decide +kernel
theorem dX11_areThere_74 : decode cX11_areThere 74 = .ok (.getfield 37, 3) := by decide +kernel
theorem dX11_areThere_77 : decode cX11_areThere 77 = .ok (.iconst 1, 1) := by decide +kernel
theorem dX11_areThere_78 : decode cX11_areThere 78 = .ok (.iaload, 1) := by decide +kernel
theorem dX11_areThere_79 : decode cX11_areThere 79 = .ok (.if_icmp .ge 36, 3) := by decide +kernel
theorem dX11_areThere_82 : decode cX11_areThere 82 = .ok (.iload_n 1, 1) := by decide +kernel
theorem dX11_areThere_83 : decode cX11_areThere 83 = .ok (.ifCond .eq 24, 3) := by decide +kernel
theorem dX11_areThere_86 : decode cX11_areThere 86 = .ok (.aload_n 0, 1) := by decide +kernel
theorem dX11_areThere_87 : decode cX11_areThere 87 = .ok (.getfield 40, 3) := by decide +kernel
theorem dX11_areThere_90 : decode cX11_areThere 90 = .ok (.iconst 5, 1) := by decide +kernel
theorem dX11_areThere_91 : decode cX11_areThere 91 = .ok (.iload_n 2, 1) := by decide +kernel
theorem dX11_areThere_92 : decode cX11_areThere 92 = .ok (.iadd, 1) := by decide +kernel
theorem dX11_areThere_93 : decode cX11_areThere 93 = .ok (.iaload, 1) := by decide +kernel
theorem dX11_areThere_94 : decode cX11_areThere 94 = .ok (.aload_n 0, 1) := by decide +kernel
theorem dX11_areThere_95 : decode cX11_areThere 95 = .ok (.getfield 13, 3) := by decide +kernel
theorem dX11_areThere_98 : decode cX11_areThere 98 = .ok (.iconst 1, 1) := by decide +kernel
theorem dX11_areThere_99 : decode cX11_areThere 99 = .ok (.iaload, 1) := by decide +kernel
theorem dX11_areThere_100 : decode cX11_areThere 100 = .ok (.if_icmp .ge 7, 3) := by decide +kernel
theorem dX11_areThere_103 : decode cX11_areThere 103 = .ok (.iconst 1, 1) := by decide +kernel
theorem dX11_areThere_104 : decode cX11_areThere 104 = .ok (.goto 4, 3) := by decide +kernel
theorem dX11_areThere_107 : decode cX11_areThere 107 = .ok (.iconst 0, 1) := by decide +kernel
theorem dX11_areThere_108 : decode cX11_areThere 108 = .ok (.istore_n 1, 1) := by decide +kernel
theorem dX11_areThere_109 : decode cX11_areThere 109 = .ok (.iinc 2 1, 3) := by decide +kernel
theorem dX11_areThere_112 : decode cX11_areThere 112 = .ok (.goto (-40), 3) := by decide +kernel
theorem dX11_areThere_115 : decode cX11_areThere 115 = .ok (.iload_n 1, 1) := by decide +kernel
theorem dX11_areThere_116 : decode cX11_areThere 116 = .ok (.ireturn, 1) := by decide +kernel
theorem dX11_copy_0 : decode cX11_copy 0 = .ok (.iconst 0, 1) := by decide +kernel
theorem dX11_copy_1 : decode cX11_copy 1 = .ok (.istore_n 3, 1) := by decide +kernel
theorem dX11_copy_2 : decode cX11_copy 2 = .ok (.iload_n 3, 1) := by decide +kernel
theorem dX11_copy_3 : decode cX11_copy 3 = .ok (.bipush 6, 2) := by decide +kernel
theorem dX11_copy_5 : decode cX11_copy 5 = .ok (.if_icmp .ge 31, 3) := by decide +kernel
theorem dX11_copy_8 : decode cX11_copy 8 = .ok (.aload_n 0, 1) := by decide +kernel
theorem dX11_copy_9 : decode cX11_copy 9 = .ok (.getfield 46, 3) := by decide +kernel
theorem dX11_copy_12 : decode cX11_copy 12 = .ok (.bipush 6, 2) := by decide +kernel
theorem dX11_copy_14 : decode cX11_copy 14 = .ok (.iload_n 2, 1) := by decide +kernel
theorem dX11_copy_15 : decode cX11_copy 15 = .ok (.imul, 1) := by decide +kernel
theorem dX11_copy_16 : decode cX11_copy 16 = .ok (.iload_n 3, 1) := by decide +kernel
theorem dX11_copy_17 : decode cX11_copy 17 = .ok (.iadd, 1) := by decide +kernel
theorem dX11_copy_18 : decode cX11_copy 18 = .ok (.aload_n 0, 1) := by decide +kernel
theorem dX11_copy_19 : decode cX11_copy 19 = .ok (.getfield 46, 3) := by decide +kernel
theorem dX11_copy_22 : decode cX11_copy 22 = .ok (.bipush 6, 2) := by decide +kernel
theorem dX11_copy_24 : decode cX11_copy 24 = .ok (.iload_n 1, 1) := by decide +kernel
theorem dX11_copy_25 : decode cX11_copy 25 = .ok (.imul, 1) := by decide +kernel
theorem dX11_copy_26 : decode cX11_copy 26 = .ok (.iload_n 3, 1) := by decide +kernel
theorem dX11_copy_27 : decode cX11_copy 27 = .ok (.iadd, 1) := by decide +kernel
theorem dX11_copy_28 : decode cX11_copy 28 = .ok (.iaload, 1) := by decide +kernel
theorem dX11_copy_29 : decode cX11_copy 29 = .ok (.iastore, 1) := by decide +kernel
theorem dX11_copy_30 : decode cX11_copy 30 = .ok (.iinc 3 1, 3) := by decide +kernel
theorem dX11_copy_33 : decode cX11_copy 33 = .ok (.goto (-31), 3) := by decide +kernel
theorem dX11_copy_36 : decode cX11_copy 36 = .ok (.aload_n 0, 1) := by decide +kernel
theorem dX11_copy_37 : decode cX11_copy 37 = .ok (.getfield 49, 3) := by decide +kernel
theorem dX11_copy_40 : decode cX11_copy 40 = .ok (.iload_n 2, 1) := by decide +kernel
theorem dX11_copy_41 : decode cX11_copy 41 = .ok (.aload_n 0, 1) := by decide +kernel
theorem dX11_copy_42 : decode cX11_copy 42 = .ok (.getfield 49, 3) := by decide +kernel
theorem dX11_copy_45 : decode cX11_copy 45 = .ok (.iload_n 1, 1) := by decide +kernel
theorem dX11_copy_46 : decode cX11_copy 46 = .ok (.iaload, 1) := by decide +kernel
theorem dX11_copy_47 : decode cX11_copy 47 = .ok (.iastore, 1) := by decide +kernel
theorem dX11_copy_48 : decode cX11_copy 48 = .ok (.iconst 0, 1) := by decide +kernel
theorem dX11_copy_49 : decode cX11_copy 49 = .ok (.istore_n 3, 1) := by decide +kernel
theorem dX11_copy_50 : decode cX11_copy 50 = .ok (.iload_n 3, 1) := by decide +kernel
theorem dX11_copy_51 : decode cX11_copy 51 = .ok (.bipush 8, 2) := by decide +kernel
theorem dX11_copy_53 : decode cX11_copy 53 = .ok (.if_icmp .ge 75, 3) := by decide +kernel
theorem dX11_copy_56 : decode cX11_copy 56 = .ok (.aload_n 0, 1) := by decide +kernel
theorem dX11_copy_57 : decode cX11_copy 57 = .ok (.getfield 52, 3) := by decide +kernel
theorem dX11_copy_60 : decode cX11_copy 60 = .ok (.bipush 8, 2) := by decide +kernel
theorem dX11_copy_62 : decode cX11_copy 62 = .ok (.iload_n 2, 1) := by decide +kernel
theorem dX11_copy_63 : decode cX11_copy 63 = .ok (.imul, 1) := by decide +kernel
theorem dX11_copy_64 : decode cX11_copy 64 = .ok (.iload_n 3, 1) := by decide +kernel
theorem dX11_copy_65 : decode cX11_copy 65 = .ok (.iadd, 1) := by decide +kernel
theorem dX11_copy_66 : decode cX11_copy 66 = .ok (.aload_n 0, 1) := by decide +kernel
theorem dX11_copy_67 : decode cX11_copy 67 = .ok (.getfield 52, 3) := by decide +kernel
theorem dX11_copy_70 : decode cX11_copy 70 = .ok (.bipush 8, 2) := by decide +kernel
theorem dX11_copy_72 : decode cX11_copy 72 = .ok (.iload_n 1, 1) := by decide +kernel
theorem dX11_copy_73 : decode cX11_copy 73 = .ok (.imul, 1) := by decide +kernel
theorem dX11_copy_74 : decode cX11_copy 74 = .ok (.iload_n 3, 1) := by decide +kernel
theorem dX11_copy_75 : decode cX11_copy 75 = .ok (.iadd, 1) := by decide +kernel
theorem dX11_copy_76 : decode cX11_copy 76 = .ok (.iaload, 1) := by decide +kernel
theorem dX11_copy_77 : decode cX11_copy 77 = .ok (.iastore, 1) := by decide +kernel
theorem dX11_copy_78 : decode cX11_copy 78 = .ok (.aload_n 0, 1) := by decide +kernel
theorem dX11_copy_79 : decode cX11_copy 79 = .ok (.getfield 55, 3) := by decide +kernel
theorem dX11_copy_82 : decode cX11_copy 82 = .ok (.bipush 8, 2) := by decide +kernel
theorem dX11_copy_84 : decode cX11_copy 84 = .ok (.iload_n 2, 1) := by decide +kernel
theorem dX11_copy_85 : decode cX11_copy 85 = .ok (.imul, 1) := by decide +kernel
theorem dX11_copy_86 : decode cX11_copy 86 = .ok (.iload_n 3, 1) := by decide +kernel
theorem dX11_copy_87 : decode cX11_copy 87 = .ok (.iadd, 1) := by decide +kernel
theorem dX11_copy_88 : decode cX11_copy 88 = .ok (.aload_n 0, 1) := by decide +kernel
theorem dX11_copy_89 : decode cX11_copy 89 = .ok (.getfield 55, 3) := by decide +kernel
theorem dX11_copy_92 : decode cX11_copy 92 = .ok (.bipush 8, 2) := by decide +kernel
theorem dX11_copy_94 : decode cX11_copy 94 = .ok (.iload_n 1, 1) := by decide +kernel
theorem dX11_copy_95 : decode cX11_copy 95 = .ok (.imul, 1) := by decide +kernel
theorem dX11_copy_96 : decode cX11_copy 96 = .ok (.iload_n 3, 1) := by decide +kernel
theorem dX11_copy_97 : decode cX11_copy 97 = .ok (.iadd, 1) := by decide +kernel
theorem dX11_copy_98 : decode cX11_copy 98 = .ok (.iaload, 1) := by decide +kernel
theorem dX11_copy_99 : decode cX11_copy 99 = .ok (.iastore, 1) := by decide +kernel
theorem dX11_copy_100 : decode cX11_copy 100 = .ok (.aload_n 0, 1) := by decide +kernel
theorem dX11_copy_101 : decode cX11_copy 101 = .ok (.getfield 58, 3) := by decide +kernel
theorem dX11_copy_104 : decode cX11_copy 104 = .ok (.bipush 8, 2) := by decide +kernel
theorem dX11_copy_106 : decode cX11_copy 106 = .ok (.iload_n 2, 1) := by decide +kernel
theorem dX11_copy_107 : decode cX11_copy 107 = .ok (.imul, 1) := by decide +kernel
theorem dX11_copy_108 : decode cX11_copy 108 = .ok (.iload_n 3, 1) := by decide +kernel
theorem dX11_copy_109 : decode cX11_copy 109 = .ok (.iadd, 1) := by decide +kernel
theorem dX11_copy_110 : decode cX11_copy 110 = .ok (.aload_n 0, 1) := by decide +kernel
theorem dX11_copy_111 : decode cX11_copy 111 = .ok (.getfield 58, 3) := by decide +kernel
theorem dX11_copy_114 : decode cX11_copy 114 = .ok (.bipush 8, 2) := by decide +kernel
theorem dX11_copy_116 : decode cX11_copy 116 = .ok (.iload_n 1, 1) := by decide +kernel
theorem dX11_copy_117 : decode cX11_copy 117 = .ok (.imul, 1) := by decide +kernel
theorem dX11_copy_118 : decode cX11_copy 118 = .ok (.iload_n 3, 1) := by decide +kernel
theorem dX11_copy_119 : decode cX11_copy 119 = .ok (.iadd, 1) := by decide +kernel
theorem dX11_copy_120 : decode cX11_copy 120 = .ok (.iaload, 1) := by decide +kernel
theorem dX11_copy_121 : decode cX11_copy 121 = .ok (.iastore, 1) := by decide +kernel
theorem dX11_copy_122 : decode cX11_copy 122 = .ok (.iinc 3 1, 3) := by decide +kernel
theorem dX11_copy_125 : decode cX11_copy 125 = .ok (.goto (-75), 3) := by decide +kernel
theorem dX11_copy_128 : decode cX11_copy 128 = .ok (.return_, 1) := by decide +kernel
theorem dX11_lay_0 : decode cX11_lay 0 = .ok (.aload_n 0, 1) := by decide +kernel
theorem dX11_lay_1 : decode cX11_lay 1 = .ok (.invokevirtual 139, 3) := by decide +kernel
theorem dX11_lay_4 : decode cX11_lay 4 = .ok (.bipush (-4), 2) := by decide +kernel
theorem dX11_lay_6 : decode cX11_lay 6 = .ok (.if_icmp .ne 10, 3) := by decide +kernel
theorem dX11_lay_9 : decode cX11_lay 9 = .ok (.aload_n 0, 1) := by decide +kernel
theorem dX11_lay_10 : decode cX11_lay 10 = .ok (.invokevirtual 143, 3) := by decide +kernel
theorem dX11_lay_13 : decode cX11_lay 13 = .ok (.ifCond .ne 6, 3) := by decide +kernel
theorem dX11_lay_16 : decode cX11_lay 16 = .ok (.bipush (-2), 2) := by decide +kernel
theorem dX11_lay_18 : decode cX11_lay 18 = .ok (.ireturn, 1) := by decide +kernel
theorem dX11_lay_19 : decode cX11_lay 19 = .ok (.aload_n 0, 1) := by decide +kernel
theorem dX11_lay_20 : decode cX11_lay 20 = .ok (.getfield 13, 3) := by decide +kernel
theorem dX11_lay_23 : decode cX11_lay 23 = .ok (.iconst 0, 1) := by decide +kernel
theorem dX11_lay_24 : decode cX11_lay 24 = .ok (.aload_n 0, 1) := by decide +kernel
theorem dX11_lay_25 : decode cX11_lay 25 = .ok (.getfield 13, 3) := by decide +kernel
theorem dX11_lay_28 : decode cX11_lay 28 = .ok (.iconst 1, 1) := by decide +kernel
theorem dX11_lay_29 : decode cX11_lay 29 = .ok (.iaload, 1) := by decide +kernel
theorem dX11_lay_30 : decode cX11_lay 30 = .ok (.iastore, 1) := by decide +kernel
theorem dX11_lay_31 : decode cX11_lay 31 = .ok (.aload_n 0, 1) := by decide +kernel
theorem dX11_lay_32 : decode cX11_lay 32 = .ok (.getfield 22, 3) := by decide +kernel
theorem dX11_lay_35 : decode cX11_lay 35 = .ok (.iconst 0, 1) := by decide +kernel
theorem dX11_lay_36 : decode cX11_lay 36 = .ok (.aload_n 0, 1) := by decide +kernel
theorem dX11_lay_37 : decode cX11_lay 37 = .ok (.getfield 22, 3) := by decide +kernel
theorem dX11_lay_40 : decode cX11_lay 40 = .ok (.iconst 1, 1) := by decide +kernel
theorem dX11_lay_41 : decode cX11_lay 41 = .ok (.iaload, 1) := by decide +kernel
theorem dX11_lay_42 : decode cX11_lay 42 = .ok (.iastore, 1) := by decide +kernel
theorem dX11_lay_43 : decode cX11_lay 43 = .ok (.aload_n 0, 1) := by decide +kernel
theorem dX11_lay_44 : decode cX11_lay 44 = .ok (.getfield 37, 3) := by decide +kernel
theorem dX11_lay_47 : decode cX11_lay 47 = .ok (.iconst 0, 1) := by decide +kernel
theorem dX11_lay_48 : decode cX11_lay 48 = .ok (.aload_n 0, 1) := by decide +kernel
theorem dX11_lay_49 : decode cX11_lay 49 = .ok (.getfield 37, 3) := by decide +kernel
theorem dX11_lay_52 : decode cX11_lay 52 = .ok (.iconst 1, 1) := by decide +kernel
theorem dX11_lay_53 : decode cX11_lay 53 = .ok (.iaload, 1) := by decide +kernel
theorem dX11_lay_54 : decode cX11_lay 54 = .ok (.iastore, 1) := by decide +kernel
theorem dX11_lay_55 : decode cX11_lay 55 = .ok (.iconst 0, 1) := by decide +kernel
theorem dX11_lay_56 : decode cX11_lay 56 = .ok (.istore_n 1, 1) := by decide +kernel
theorem dX11_lay_57 : decode cX11_lay 57 = .ok (.iload_n 1, 1) := by decide +kernel
theorem dX11_lay_58 : decode cX11_lay 58 = .ok (.bipush 6, 2) := by decide +kernel
theorem dX11_lay_60 : decode cX11_lay 60 = .ok (.if_icmp .ge 99, 3) := by decide +kernel
theorem dX11_lay_63 : decode cX11_lay 63 = .ok (.aload_n 0, 1) := by decide +kernel
theorem dX11_lay_64 : decode cX11_lay 64 = .ok (.getfield 16, 3) := by decide +kernel
theorem dX11_lay_67 : decode cX11_lay 67 = .ok (.iload_n 1, 1) := by decide +kernel
theorem dX11_lay_68 : decode cX11_lay 68 = .ok (.aload_n 0, 1) := by decide +kernel
theorem dX11_lay_69 : decode cX11_lay 69 = .ok (.getfield 16, 3) := by decide +kernel
theorem dX11_lay_72 : decode cX11_lay 72 = .ok (.bipush 6, 2) := by decide +kernel
theorem dX11_lay_74 : decode cX11_lay 74 = .ok (.iload_n 1, 1) := by decide +kernel
theorem dX11_lay_75 : decode cX11_lay 75 = .ok (.iadd, 1) := by decide +kernel
theorem dX11_lay_76 : decode cX11_lay 76 = .ok (.iaload, 1) := by decide +kernel
theorem dX11_lay_77 : decode cX11_lay 77 = .ok (.iastore, 1) := by decide +kernel
theorem dX11_lay_78 : decode cX11_lay 78 = .ok (.aload_n 0, 1) := by decide +kernel
theorem dX11_lay_79 : decode cX11_lay 79 = .ok (.getfield 19, 3) := by decide +kernel
theorem dX11_lay_82 : decode cX11_lay 82 = .ok (.iload_n 1, 1) := by decide +kernel
theorem dX11_lay_83 : decode cX11_lay 83 = .ok (.aload_n 0, 1) := by decide +kernel
theorem dX11_lay_84 : decode cX11_lay 84 = .ok (.getfield 19, 3) := by decide +kernel
theorem dX11_lay_87 : decode cX11_lay 87 = .ok (.bipush 6, 2) := by decide +kernel
theorem dX11_lay_89 : decode cX11_lay 89 = .ok (.iload_n 1, 1) := by decide +kernel
theorem dX11_lay_90 : decode cX11_lay 90 = .ok (.iadd, 1) := by decide +kernel
theorem dX11_lay_91 : decode cX11_lay 91 = .ok (.iaload, 1) := by decide +kernel
theorem dX11_lay_92 : decode cX11_lay 92 = .ok (.iastore, 1) := by decide +kernel
theorem dX11_lay_93 : decode cX11_lay 93 = .ok (.aload_n 0, 1) := by decide +kernel
theorem dX11_lay_94 : decode cX11_lay 94 = .ok (.getfield 25, 3) := by decide +kernel
theorem dX11_lay_97 : decode cX11_lay 97 = .ok (.iload_n 1, 1) := by decide +kernel
theorem dX11_lay_98 : decode cX11_lay 98 = .ok (.aload_n 0, 1) := by decide +kernel
theorem dX11_lay_99 : decode cX11_lay 99 = .ok (.getfield 25, 3) := by decide +kernel
theorem dX11_lay_102 : decode cX11_lay 102 = .ok (.bipush 6, 2) := by decide +kernel
theorem dX11_lay_104 : decode cX11_lay 104 = .ok (.iload_n 1, 1) := by decide +kernel
theorem dX11_lay_105 : decode cX11_lay 105 = .ok (.iadd, 1) := by decide +kernel
theorem dX11_lay_106 : decode cX11_lay 106 = .ok (.iaload, 1) := by decide +kernel
theorem dX11_lay_107 : decode cX11_lay 107 = .ok (.iastore, 1) := by decide +kernel
theorem dX11_lay_108 : decode cX11_lay 108 = .ok (.aload_n 0, 1) := by decide +kernel
theorem dX11_lay_109 : decode cX11_lay 109 = .ok (.getfield 28, 3) := by decide +kernel
theorem dX11_lay_112 : decode cX11_lay 112 = .ok (.iload_n 1, 1) := by decide +kernel
theorem dX11_lay_113 : decode cX11_lay 113 = .ok (.aload_n 0, 1) := by decide +kernel
theorem dX11_lay_114 : decode cX11_lay 114 = .ok (.getfield 28, 3) := by decide +kernel
theorem dX11_lay_117 : decode cX11_lay 117 = .ok (.bipush 6, 2) := by decide +kernel
theorem dX11_lay_119 : decode cX11_lay 119 = .ok (.iload_n 1, 1) := by decide +kernel
theorem dX11_lay_120 : decode cX11_lay 120 = .ok (.iadd, 1) := by decide +kernel
theorem dX11_lay_121 : decode cX11_lay 121 = .ok (.iaload, 1) := by decide +kernel
theorem dX11_lay_122 : decode cX11_lay 122 = .ok (.iastore, 1) := by decide +kernel
theorem dX11_lay_123 : decode cX11_lay 123 = .ok (.aload_n 0, 1) := by decide +kernel
theorem dX11_lay_124 : decode cX11_lay 124 = .ok (.getfield 31, 3) := by decide +kernel
theorem dX11_lay_127 : decode cX11_lay 127 = .ok (.iload_n 1, 1) := by decide +kernel
theorem dX11_lay_128 : decode cX11_lay 128 = .ok (.aload_n 0, 1) := by decide +kernel
theorem dX11_lay_129 : decode cX11_lay 129 = .ok (.getfield 31, 3) := by decide +kernel
theorem dX11_lay_132 : decode cX11_lay 132 = .ok (.bipush 6, 2) := by decide +kernel
theorem dX11_lay_134 : decode cX11_lay 134 = .ok (.iload_n 1, 1) := by decide +kernel
theorem dX11_lay_135 : decode cX11_lay 135 = .ok (.iadd, 1) := by decide +kernel
theorem dX11_lay_136 : decode cX11_lay 136 = .ok (.iaload, 1) := by decide +kernel
theorem dX11_lay_137 : decode cX11_lay 137 = .ok (.iastore, 1) := by decide +kernel
theorem dX11_lay_138 : decode cX11_lay 138 = .ok (.aload_n 0, 1) := by decide +kernel
theorem dX11_lay_139 : decode cX11_lay 139 = .ok (.getfield 34, 3) := by decide +kernel
theorem dX11_lay_142 : decode cX11_lay 142 = .ok (.iload_n 1, 1) := by decide +kernel
theorem dX11_lay_143 : decode cX11_lay 143 = .ok (.aload_n 0, 1) := by decide +kernel
theorem dX11_lay_144 : decode cX11_lay 144 = .ok (.getfield 34, 3) := by decide +kernel
theorem dX11_lay_147 : decode cX11_lay 147 = .ok (.bipush 6, 2) := by decide +kernel
theorem dX11_lay_149 : decode cX11_lay 149 = .ok (.iload_n 1, 1) := by decide +kernel
theorem dX11_lay_150 : decode cX11_lay 150 = .ok (.iadd, 1) := by decide +kernel
theorem dX11_lay_151 : decode cX11_lay 151 = .ok (.iaload, 1) := by decide +kernel
theorem dX11_lay_152 : decode cX11_lay 152 = .ok (.iastore, 1) := by decide +kernel
theorem dX11_lay_153 : decode cX11_lay 153 = .ok (.iinc 1 1, 3) := by decide +kernel
theorem dX11_lay_156 : decode cX11_lay 156 = .ok (.goto (-99), 3) := by decide +kernel
theorem dX11_lay_159 : decode cX11_lay 159 = .ok (.iconst 0, 1) := by decide +kernel
theorem dX11_lay_160 : decode cX11_lay 160 = .ok (.istore_n 1, 1) := by decide +kernel
theorem dX11_lay_161 : decode cX11_lay 161 = .ok (.iload_n 1, 1) := by decide +kernel
theorem dX11_lay_162 : decode cX11_lay 162 = .ok (.iconst 5, 1) := by decide +kernel
theorem dX11_lay_163 : decode cX11_lay 163 = .ok (.if_icmp .ge 37, 3) := by decide +kernel
theorem dX11_lay_166 : decode cX11_lay 166 = .ok (.aload_n 0, 1) := by decide +kernel
theorem dX11_lay_167 : decode cX11_lay 167 = .ok (.getfield 40, 3) := by decide +kernel
theorem dX11_lay_170 : decode cX11_lay 170 = .ok (.iload_n 1, 1) := by decide +kernel
theorem dX11_lay_171 : decode cX11_lay 171 = .ok (.aload_n 0, 1) := by decide +kernel
theorem dX11_lay_172 : decode cX11_lay 172 = .ok (.getfield 40, 3) := by decide +kernel
theorem dX11_lay_175 : decode cX11_lay 175 = .ok (.iconst 5, 1) := by decide +kernel
theorem dX11_lay_176 : decode cX11_lay 176 = .ok (.iload_n 1, 1) := by decide +kernel
theorem dX11_lay_177 : decode cX11_lay 177 = .ok (.iadd, 1) := by decide +kernel
theorem dX11_lay_178 : decode cX11_lay 178 = .ok (.iaload, 1) := by decide +kernel
theorem dX11_lay_179 : decode cX11_lay 179 = .ok (.iastore, 1) := by decide +kernel
theorem dX11_lay_180 : decode cX11_lay 180 = .ok (.aload_n 0, 1) := by decide +kernel
theorem dX11_lay_181 : decode cX11_lay 181 = .ok (.getfield 43, 3) := by decide +kernel
theorem dX11_lay_184 : decode cX11_lay 184 = .ok (.iload_n 1, 1) := by decide +kernel
theorem dX11_lay_185 : decode cX11_lay 185 = .ok (.aload_n 0, 1) := by decide +kernel
theorem dX11_lay_186 : decode cX11_lay 186 = .ok (.getfield 43, 3) := by decide +kernel
theorem dX11_lay_189 : decode cX11_lay 189 = .ok (.iconst 5, 1) := by decide +kernel
theorem dX11_lay_190 : decode cX11_lay 190 = .ok (.iload_n 1, 1) := by decide +kernel
theorem dX11_lay_191 : decode cX11_lay 191 = .ok (.iadd, 1) := by decide +kernel
theorem dX11_lay_192 : decode cX11_lay 192 = .ok (.iaload, 1) := by decide +kernel
theorem dX11_lay_193 : decode cX11_lay 193 = .ok (.iastore, 1) := by decide +kernel
theorem dX11_lay_194 : decode cX11_lay 194 = .ok (.iinc 1 1, 3) := by decide +kernel
theorem dX11_lay_197 : decode cX11_lay 197 = .ok (.goto (-36), 3) := by decide +kernel
theorem dX11_lay_200 : decode cX11_lay 200 = .ok (.aload_n 0, 1) := by decide +kernel
theorem dX11_lay_201 : decode cX11_lay 201 = .ok (.iconst 1, 1) := by decide +kernel
theorem dX11_lay_202 : decode cX11_lay 202 = .ok (.iconst 0, 1) := by decide +kernel
theorem dX11_lay_203 : decode cX11_lay 203 = .ok (.invokevirtual 146, 3) := by decide +kernel
theorem dX11_lay_206 : decode cX11_lay 206 = .ok (.aload_n 0, 1) := by decide +kernel
theorem dX11_lay_207 : decode cX11_lay 207 = .ok (.iconst 0, 1) := by decide +kernel
theorem dX11_lay_208 : decode cX11_lay 208 = .ok (.putfield 150, 3) := by decide +kernel
theorem dX11_lay_211 : decode cX11_lay 211 = .ok (.aload_n 0, 1) := by decide +kernel
theorem dX11_lay_212 : decode cX11_lay 212 = .ok (.iconst 0, 1) := by decide +kernel
theorem dX11_lay_213 : decode cX11_lay 213 = .ok (.putfield 153, 3) := by decide +kernel
theorem dX11_lay_216 : decode cX11_lay 216 = .ok (.aload_n 0, 1) := by decide +kernel
theorem dX11_lay_217 : decode cX11_lay 217 = .ok (.getfield 22, 3) := by decide +kernel
theorem dX11_lay_220 : decode cX11_lay 220 = .ok (.iconst 0, 1) := by decide +kernel
theorem dX11_lay_221 : decode cX11_lay 221 = .ok (.iaload, 1) := by decide +kernel
theorem dX11_lay_222 : decode cX11_lay 222 = .ok (.ireturn, 1) := by decide +kernel
theorem dX11_isLevel_0 : decode cX11_isLevel 0 = .ok (.iload_n 1, 1) := by decide +kernel
theorem dX11_isLevel_1 : decode cX11_isLevel 1 = .ok (.i2l, 1) := by decide +kernel
theorem dX11_isLevel_2 : decode cX11_isLevel 2 = .ok (.lconst 0, 1) := by decide +kernel
theorem dX11_isLevel_3 : decode cX11_isLevel 3 = .ok (.aload_n 0, 1) := by decide +kernel
theorem dX11_isLevel_4 : decode cX11_isLevel 4 = .ok (.getfield 13, 3) := by decide +kernel
theorem dX11_isLevel_7 : decode cX11_isLevel 7 = .ok (.iconst 0, 1) := by decide +kernel
theorem dX11_isLevel_8 : decode cX11_isLevel 8 = .ok (.iaload, 1) := by decide +kernel
theorem dX11_isLevel_9 : decode cX11_isLevel 9 = .ok (.iconst 1, 1) := by decide +kernel
theorem dX11_isLevel_10 : decode cX11_isLevel 10 = .ok (.isub, 1) := by decide +kernel
theorem dX11_isLevel_11 : decode cX11_isLevel 11 = .ok (.i2l, 1) := by decide +kernel
theorem dX11_isLevel_12 : decode cX11_isLevel 12 = .ok (.invokestatic 97, 3) := by decide +kernel
theorem dX11_isLevel_15 : decode cX11_isLevel 15 = .ok (.ireturn, 1) := by decide +kernel
theorem dX11_isTown_0 : decode cX11_isTown 0 = .ok (.iload_n 1, 1) := by decide +kernel
theorem dX11_isTown_1 : decode cX11_isTown 1 = .ok (.i2l, 1) := by decide +kernel
theorem dX11_isTown_2 : decode cX11_isTown 2 = .ok (.lconst 0, 1) := by decide +kernel
theorem dX11_isTown_3 : decode cX11_isTown 3 = .ok (.aload_n 0, 1) := by decide +kernel
theorem dX11_isTown_4 : decode cX11_isTown 4 = .ok (.getfield 22, 3) := by decide +kernel
theorem dX11_isTown_7 : decode cX11_isTown 7 = .ok (.iconst 0, 1) := by decide +kernel
theorem dX11_isTown_8 : decode cX11_isTown 8 = .ok (.iaload, 1) := by decide +kernel
theorem dX11_isTown_9 : decode cX11_isTown 9 = .ok (.iconst 1, 1) := by decide +kernel
theorem dX11_isTown_10 : decode cX11_isTown 10 = .ok (.isub, 1) := by decide +kernel
theorem dX11_isTown_11 : decode cX11_isTown 11 = .ok (.i2l, 1) := by decide +kernel
theorem dX11_isTown_12 : decode cX11_isTown 12 = .ok (.invokestatic 97, 3) := by decide +kernel
theorem dX11_isTown_15 : decode cX11_isTown 15 = .ok (.ireturn, 1) := by decide +kernel
theorem dX11_level_0 : decode cX11_level 0 = .ok (.aload_n 0, 1) := by decide +kernel
theorem dX11_level_1 : decode cX11_level 1 = .ok (.iload_n 1, 1) := by decide +kernel
theorem dX11_level_2 : decode cX11_level 2 = .ok (.invokevirtual 156, 3) := by decide +kernel
theorem dX11_level_5 : decode cX11_level 5 = .ok (.ifCond .eq 13, 3) := by decide +kernel
theorem dX11_level_8 : decode cX11_level 8 = .ok (.iload_n 2, 1) := by decide +kernel
theorem dX11_level_9 : decode cX11_level 9 = .ok (.i2l, 1) := by decide +kernel
theorem dX11_level_10 : decode cX11_level 10 = .ok (.lconst 0, 1) := by decide +kernel
theorem dX11_level_11 : decode cX11_level 11 = .ok (.lconst 1, 1) := by decide +kernel
theorem dX11_level_12 : decode cX11_level 12 = .ok (.invokestatic 97, 3) := by decide +kernel
theorem dX11_level_15 : decode cX11_level 15 = .ok (.ifCond .ne 5, 3) := by decide +kernel
theorem dX11_level_18 : decode cX11_level 18 = .ok (.iconst (-1), 1) := by decide +kernel
theorem dX11_level_19 : decode cX11_level 19 = .ok (.ireturn, 1) := by decide +kernel
theorem dX11_level_20 : decode cX11_level 20 = .ok (.iload_n 2, 1) := by decide +kernel
theorem dX11_level_21 : decode cX11_level 21 = .ok (.ifCond .ne 12, 3) := by decide +kernel
theorem dX11_level_24 : decode cX11_level 24 = .ok (.aload_n 0, 1) := by decide +kernel
theorem dX11_level_25 : decode cX11_level 25 = .ok (.getfield 16, 3) := by decide +kernel
theorem dX11_level_28 : decode cX11_level 28 = .ok (.iload_n 1, 1) := by decide +kernel
theorem dX11_level_29 : decode cX11_level 29 = .ok (.iaload, 1) := by decide +kernel
theorem dX11_level_30 : decode cX11_level 30 = .ok (.goto 9, 3) := by decide +kernel
theorem dX11_level_33 : decode cX11_level 33 = .ok (.aload_n 0, 1) := by decide +kernel
theorem dX11_level_34 : decode cX11_level 34 = .ok (.getfield 19, 3) := by decide +kernel
theorem dX11_level_37 : decode cX11_level 37 = .ok (.iload_n 1, 1) := by decide +kernel
theorem dX11_level_38 : decode cX11_level 38 = .ok (.iaload, 1) := by decide +kernel
theorem dX11_level_39 : decode cX11_level 39 = .ok (.ireturn, 1) := by decide +kernel
theorem dX11_begin_0 : decode cX11_begin 0 = .ok (.aload_n 0, 1) := by decide +kernel
theorem dX11_begin_1 : decode cX11_begin 1 = .ok (.iconst 0, 1) := by decide +kernel
theorem dX11_begin_2 : decode cX11_begin 2 = .ok (.putfield 159, 3) := by decide +kernel
theorem dX11_begin_5 : decode cX11_begin 5 = .ok (.iconst 0, 1) := by decide +kernel
theorem dX11_begin_6 : decode cX11_begin 6 = .ok (.istore_n 1, 1) := by decide +kernel
theorem dX11_begin_7 : decode cX11_begin 7 = .ok (.iload_n 1, 1) := by decide +kernel
theorem dX11_begin_8 : decode cX11_begin 8 = .ok (.bipush 6, 2) := by decide +kernel
theorem dX11_begin_10 : decode cX11_begin 10 = .ok (.if_icmp .ge 53, 3) := by decide +kernel
theorem dX11_begin_13 : decode cX11_begin 13 = .ok (.aload_n 0, 1) := by decide +kernel
theorem dX11_begin_14 : decode cX11_begin 14 = .ok (.getfield 67, 3) := by decide +kernel
theorem dX11_begin_17 : decode cX11_begin 17 = .ok (.iload_n 1, 1) := by decide +kernel
theorem dX11_begin_18 : decode cX11_begin 18 = .ok (.aload_n 0, 1) := by decide +kernel
theorem dX11_begin_19 : decode cX11_begin 19 = .ok (.getfield 25, 3) := by decide +kernel
theorem dX11_begin_22 : decode cX11_begin 22 = .ok (.iload_n 1, 1) := by decide +kernel
theorem dX11_begin_23 : decode cX11_begin 23 = .ok (.iaload, 1) := by decide +kernel
theorem dX11_begin_24 : decode cX11_begin 24 = .ok (.iastore, 1) := by decide +kernel
theorem dX11_begin_25 : decode cX11_begin 25 = .ok (.aload_n 0, 1) := by decide +kernel
theorem dX11_begin_26 : decode cX11_begin 26 = .ok (.getfield 70, 3) := by decide +kernel
theorem dX11_begin_29 : decode cX11_begin 29 = .ok (.iload_n 1, 1) := by decide +kernel
theorem dX11_begin_30 : decode cX11_begin 30 = .ok (.aload_n 0, 1) := by decide +kernel
theorem dX11_begin_31 : decode cX11_begin 31 = .ok (.getfield 28, 3) := by decide +kernel
theorem dX11_begin_34 : decode cX11_begin 34 = .ok (.iload_n 1, 1) := by decide +kernel
theorem dX11_begin_35 : decode cX11_begin 35 = .ok (.iaload, 1) := by decide +kernel
theorem dX11_begin_36 : decode cX11_begin 36 = .ok (.iastore, 1) := by decide +kernel
theorem dX11_begin_37 : decode cX11_begin 37 = .ok (.aload_n 0, 1) := by decide +kernel
theorem dX11_begin_38 : decode cX11_begin 38 = .ok (.getfield 73, 3) := by decide +kernel
theorem dX11_begin_41 : decode cX11_begin 41 = .ok (.iload_n 1, 1) := by decide +kernel
theorem dX11_begin_42 : decode cX11_begin 42 = .ok (.aload_n 0, 1) := by decide +kernel
theorem dX11_begin_43 : decode cX11_begin 43 = .ok (.getfield 46, 3) := by decide +kernel
theorem dX11_begin_46 : decode cX11_begin 46 = .ok (.iload_n 1, 1) := by decide +kernel
theorem dX11_begin_47 : decode cX11_begin 47 = .ok (.iaload, 1) := by decide +kernel
theorem dX11_begin_48 : decode cX11_begin 48 = .ok (.iastore, 1) := by decide +kernel
theorem dX11_begin_49 : decode cX11_begin 49 = .ok (.aload_n 0, 1) := by decide +kernel
theorem dX11_begin_50 : decode cX11_begin 50 = .ok (.getfield 76, 3) := by decide +kernel
theorem dX11_begin_53 : decode cX11_begin 53 = .ok (.iload_n 1, 1) := by decide +kernel
theorem dX11_begin_54 : decode cX11_begin 54 = .ok (.bipush (-4), 2) := by decide +kernel
theorem dX11_begin_56 : decode cX11_begin 56 = .ok (.iastore, 1) := by decide +kernel
theorem dX11_begin_57 : decode cX11_begin 57 = .ok (.iinc 1 1, 3) := by decide +kernel
theorem dX11_begin_60 : decode cX11_begin 60 = .ok (.goto (-53), 3) := by decide +kernel
theorem dX11_begin_63 : decode cX11_begin 63 = .ok (.return_, 1) := by decide +kernel
theorem dX11_goBy_0 : decode cX11_goBy 0 = .ok (.iload_n 2, 1) := by decide +kernel
theorem dX11_goBy_1 : decode cX11_goBy 1 = .ok (.ifCond .ne 25, 3) := by decide +kernel
theorem dX11_goBy_4 : decode cX11_goBy 4 = .ok (.aload_n 0, 1) := by decide +kernel
theorem dX11_goBy_5 : decode cX11_goBy 5 = .ok (.getfield 67, 3) := by decide +kernel
theorem dX11_goBy_8 : decode cX11_goBy 8 = .ok (.iload_n 1, 1) := by decide +kernel
theorem dX11_goBy_9 : decode cX11_goBy 9 = .ok (.iaload, 1) := by decide +kernel
theorem dX11_goBy_10 : decode cX11_goBy 10 = .ok (.ifCond .le 16, 3) := by decide +kernel
theorem dX11_goBy_13 : decode cX11_goBy 13 = .ok (.aload_n 0, 1) := by decide +kernel
theorem dX11_goBy_14 : decode cX11_goBy 14 = .ok (.getfield 67, 3) := by decide +kernel
theorem dX11_goBy_17 : decode cX11_goBy 17 = .ok (.iload_n 1, 1) := by decide +kernel
theorem dX11_goBy_18 : decode cX11_goBy 18 = .ok (.dup2, 1) := by decide +kernel
theorem dX11_goBy_19 : decode cX11_goBy 19 = .ok (.iaload, 1) := by decide +kernel
theorem dX11_goBy_20 : decode cX11_goBy 20 = .ok (.iconst 1, 1) := by decide +kernel
theorem dX11_goBy_21 : decode cX11_goBy 21 = .ok (.isub, 1) := by decide +kernel
theorem dX11_goBy_22 : decode cX11_goBy 22 = .ok (.iastore, 1) := by decide +kernel
theorem dX11_goBy_23 : decode cX11_goBy 23 = .ok (.goto 64, 3) := by decide +kernel
theorem dX11_goBy_26 : decode cX11_goBy 26 = .ok (.iload_n 2, 1) := by decide +kernel
theorem dX11_goBy_27 : decode cX11_goBy 27 = .ok (.ifCond .eq 60, 3) := by decide +kernel
theorem dX11_goBy_30 : decode cX11_goBy 30 = .ok (.aload_n 0, 1) := by decide +kernel
theorem dX11_goBy_31 : decode cX11_goBy 31 = .ok (.getfield 67, 3) := by decide +kernel
theorem dX11_goBy_34 : decode cX11_goBy 34 = .ok (.iload_n 1, 1) := by decide +kernel
theorem dX11_goBy_35 : decode cX11_goBy 35 = .ok (.iaload, 1) := by decide +kernel
theorem dX11_goBy_36 : decode cX11_goBy 36 = .ok (.iconst 1, 1) := by decide +kernel
theorem dX11_goBy_37 : decode cX11_goBy 37 = .ok (.iadd, 1) := by decide +kernel
theorem dX11_goBy_38 : decode cX11_goBy 38 = .ok (.aload_n 0, 1) := by decide +kernel
theorem dX11_goBy_39 : decode cX11_goBy 39 = .ok (.getfield 13, 3) := by decide +kernel
theorem dX11_goBy_42 : decode cX11_goBy 42 = .ok (.iconst 0, 1) := by decide +kernel
theorem dX11_goBy_43 : decode cX11_goBy 43 = .ok (.iaload, 1) := by decide +kernel
theorem dX11_goBy_44 : decode cX11_goBy 44 = .ok (.if_icmp .ge 43, 3) := by decide +kernel
theorem dX11_goBy_47 : decode cX11_goBy 47 = .ok (.aload_n 0, 1) := by decide +kernel
theorem dX11_goBy_48 : decode cX11_goBy 48 = .ok (.getfield 73, 3) := by decide +kernel
theorem dX11_goBy_51 : decode cX11_goBy 51 = .ok (.iload_n 1, 1) := by decide +kernel
theorem dX11_goBy_52 : decode cX11_goBy 52 = .ok (.iaload, 1) := by decide +kernel
theorem dX11_goBy_53 : decode cX11_goBy 53 = .ok (.aload_n 0, 1) := by decide +kernel
theorem dX11_goBy_54 : decode cX11_goBy 54 = .ok (.getfield 31, 3) := by decide +kernel
theorem dX11_goBy_57 : decode cX11_goBy 57 = .ok (.iload_n 1, 1) := by decide +kernel
theorem dX11_goBy_58 : decode cX11_goBy 58 = .ok (.iaload, 1) := by decide +kernel
theorem dX11_goBy_59 : decode cX11_goBy 59 = .ok (.if_icmp .lt 28, 3) := by decide +kernel
theorem dX11_goBy_62 : decode cX11_goBy 62 = .ok (.aload_n 0, 1) := by decide +kernel
theorem dX11_goBy_63 : decode cX11_goBy 63 = .ok (.getfield 67, 3) := by decide +kernel
theorem dX11_goBy_66 : decode cX11_goBy 66 = .ok (.iload_n 1, 1) := by decide +kernel
theorem dX11_goBy_67 : decode cX11_goBy 67 = .ok (.dup2, 1) := by decide +kernel
theorem dX11_goBy_68 : decode cX11_goBy 68 = .ok (.iaload, 1) := by decide +kernel
theorem dX11_goBy_69 : decode cX11_goBy 69 = .ok (.iconst 1, 1) := by decide +kernel
theorem dX11_goBy_70 : decode cX11_goBy 70 = .ok (.iadd, 1) := by decide +kernel
theorem dX11_goBy_71 : decode cX11_goBy 71 = .ok (.iastore, 1) := by decide +kernel
theorem dX11_goBy_72 : decode cX11_goBy 72 = .ok (.aload_n 0, 1) := by decide +kernel
theorem dX11_goBy_73 : decode cX11_goBy 73 = .ok (.getfield 73, 3) := by decide +kernel
theorem dX11_goBy_76 : decode cX11_goBy 76 = .ok (.iload_n 1, 1) := by decide +kernel
theorem dX11_goBy_77 : decode cX11_goBy 77 = .ok (.dup2, 1) := by decide +kernel
theorem dX11_goBy_78 : decode cX11_goBy 78 = .ok (.iaload, 1) := by decide +kernel
theorem dX11_goBy_79 : decode cX11_goBy 79 = .ok (.aload_n 0, 1) := by decide +kernel
theorem dX11_goBy_80 : decode cX11_goBy 80 = .ok (.getfield 31, 3) := by decide +kernel
theorem dX11_goBy_83 : decode cX11_goBy 83 = .ok (.iload_n 1, 1) := by decide +kernel
theorem dX11_goBy_84 : decode cX11_goBy 84 = .ok (.iaload, 1) := by decide +kernel
theorem dX11_goBy_85 : decode cX11_goBy 85 = .ok (.isub, 1) := by decide +kernel
theorem dX11_goBy_86 : decode cX11_goBy 86 = .ok (.iastore, 1) := by decide +kernel
theorem dX11_goBy_87 : decode cX11_goBy 87 = .ok (.return_, 1) := by decide +kernel
theorem dX11_leftOf_0 : decode cX11_leftOf 0 = .ok (.iconst 0, 1) := by decide +kernel
theorem dX11_leftOf_1 : decode cX11_leftOf 1 = .ok (.istore 5, 2) := by decide +kernel
theorem dX11_leftOf_3 : decode cX11_leftOf 3 = .ok (.iconst 0, 1) := by decide +kernel
theorem dX11_leftOf_4 : decode cX11_leftOf 4 = .ok (.istore 6, 2) := by decide +kernel
theorem dX11_leftOf_6 : decode cX11_leftOf 6 = .ok (.iload 6, 2) := by decide +kernel
theorem dX11_leftOf_8 : decode cX11_leftOf 8 = .ok (.aload_n 0, 1) := by decide +kernel
theorem dX11_leftOf_9 : decode cX11_leftOf 9 = .ok (.getfield 37, 3) := by decide +kernel
theorem dX11_leftOf_12 : decode cX11_leftOf 12 = .ok (.iconst 0, 1) := by decide +kernel
theorem dX11_leftOf_13 : decode cX11_leftOf 13 = .ok (.iaload, 1) := by decide +kernel
theorem dX11_leftOf_14 : decode cX11_leftOf 14 = .ok (.if_icmp .ge 44, 3) := by decide +kernel
theorem dX11_leftOf_17 : decode cX11_leftOf 17 = .ok (.iload 5, 2) := by decide +kernel
theorem dX11_leftOf_19 : decode cX11_leftOf 19 = .ok (.ifCond .ne 26, 3) := by decide +kernel
theorem dX11_leftOf_22 : decode cX11_leftOf 22 = .ok (.aload_n 0, 1) := by decide +kernel
theorem dX11_leftOf_23 : decode cX11_leftOf 23 = .ok (.getfield 40, 3) := by decide +kernel
theorem dX11_leftOf_26 : decode cX11_leftOf 26 = .ok (.iload 6, 2) := by decide +kernel
theorem dX11_leftOf_28 : decode cX11_leftOf 28 = .ok (.iaload, 1) := by decide +kernel
theorem dX11_leftOf_29 : decode cX11_leftOf 29 = .ok (.iload_n 3, 1) := by decide +kernel
theorem dX11_leftOf_30 : decode cX11_leftOf 30 = .ok (.if_icmp .ne 19, 3) := by decide +kernel
theorem dX11_leftOf_33 : decode cX11_leftOf 33 = .ok (.aload_n 0, 1) := by decide +kernel
theorem dX11_leftOf_34 : decode cX11_leftOf 34 = .ok (.getfield 43, 3) := by decide +kernel
theorem dX11_leftOf_37 : decode cX11_leftOf 37 = .ok (.iload 6, 2) := by decide +kernel
theorem dX11_leftOf_39 : decode cX11_leftOf 39 = .ok (.iaload, 1) := by decide +kernel
theorem dX11_leftOf_40 : decode cX11_leftOf 40 = .ok (.iload 4, 2) := by decide +kernel
theorem dX11_leftOf_42 : decode cX11_leftOf 42 = .ok (.if_icmp .ne 7, 3) := by decide +kernel
theorem dX11_leftOf_45 : decode cX11_leftOf 45 = .ok (.iconst 1, 1) := by decide +kernel
theorem dX11_leftOf_46 : decode cX11_leftOf 46 = .ok (.goto 4, 3) := by decide +kernel
theorem dX11_leftOf_49 : decode cX11_leftOf 49 = .ok (.iconst 0, 1) := by decide +kernel
theorem dX11_leftOf_50 : decode cX11_leftOf 50 = .ok (.istore 5, 2) := by decide +kernel
theorem dX11_leftOf_52 : decode cX11_leftOf 52 = .ok (.iinc 6 1, 3) := by decide +kernel
theorem dX11_leftOf_55 : decode cX11_leftOf 55 = .ok (.goto (-49), 3) := by decide +kernel
theorem dX11_leftOf_58 : decode cX11_leftOf 58 = .ok (.iload 5, 2) := by decide +kernel
theorem dX11_leftOf_60 : decode cX11_leftOf 60 = .ok (.ifCond .eq 9, 3) := by decide +kernel
theorem dX11_leftOf_63 : decode cX11_leftOf 63 = .ok (.iload_n 2, 1) := by decide +kernel
theorem dX11_leftOf_64 : decode cX11_leftOf 64 = .ok (.iconst 2, 1) := by decide +kernel
theorem dX11_leftOf_65 : decode cX11_leftOf 65 = .ok (.idiv, 1) := by decide +kernel
theorem dX11_leftOf_66 : decode cX11_leftOf 66 = .ok (.goto 4, 3) := by decide +kernel
theorem dX11_leftOf_69 : decode cX11_leftOf 69 = .ok (.iload_n 2, 1) := by decide +kernel
theorem dX11_leftOf_70 : decode cX11_leftOf 70 = .ok (.istore 6, 2) := by decide +kernel
theorem dX11_leftOf_72 : decode cX11_leftOf 72 = .ok (.iload_n 1, 1) := by decide +kernel
theorem dX11_leftOf_73 : decode cX11_leftOf 73 = .ok (.tableswitch 57 1 3 #[27, 33, 46], 27) := by decide +kernel
theorem dX11_leftOf_100 : decode cX11_leftOf 100 = .ok (.iconst 2, 1) := by decide +kernel
theorem dX11_leftOf_101 : decode cX11_leftOf 101 = .ok (.istore 7, 2) := by decide +kernel
theorem dX11_leftOf_103 : decode cX11_leftOf 103 = .ok (.goto 30, 3) := by decide +kernel
theorem dX11_leftOf_106 : decode cX11_leftOf 106 = .ok (.iconst 1, 1) := by decide +kernel
theorem dX11_leftOf_107 : decode cX11_leftOf 107 = .ok (.aload_n 0, 1) := by decide +kernel
theorem dX11_leftOf_108 : decode cX11_leftOf 108 = .ok (.getfield 19, 3) := by decide +kernel
theorem dX11_leftOf_111 : decode cX11_leftOf 111 = .ok (.iload_n 3, 1) := by decide +kernel
theorem dX11_leftOf_112 : decode cX11_leftOf 112 = .ok (.iaload, 1) := by decide +kernel
theorem dX11_leftOf_113 : decode cX11_leftOf 113 = .ok (.isub, 1) := by decide +kernel
theorem dX11_leftOf_114 : decode cX11_leftOf 114 = .ok (.istore 7, 2) := by decide +kernel
theorem dX11_leftOf_116 : decode cX11_leftOf 116 = .ok (.goto 17, 3) := by decide +kernel
theorem dX11_leftOf_119 : decode cX11_leftOf 119 = .ok (.iconst 1, 1) := by decide +kernel
theorem dX11_leftOf_120 : decode cX11_leftOf 120 = .ok (.iload 4, 2) := by decide +kernel
theorem dX11_leftOf_122 : decode cX11_leftOf 122 = .ok (.iconst 2, 1) := by decide +kernel
theorem dX11_leftOf_123 : decode cX11_leftOf 123 = .ok (.irem, 1) := by decide +kernel
theorem dX11_leftOf_124 : decode cX11_leftOf 124 = .ok (.isub, 1) := by decide +kernel
theorem dX11_leftOf_125 : decode cX11_leftOf 125 = .ok (.istore 7, 2) := by decide +kernel
theorem dX11_leftOf_127 : decode cX11_leftOf 127 = .ok (.goto 6, 3) := by decide +kernel
theorem dX11_leftOf_130 : decode cX11_leftOf 130 = .ok (.iconst 1, 1) := by decide +kernel
theorem dX11_leftOf_131 : decode cX11_leftOf 131 = .ok (.istore 7, 2) := by decide +kernel
theorem dX11_leftOf_133 : decode cX11_leftOf 133 = .ok (.iload 6, 2) := by decide +kernel
theorem dX11_leftOf_135 : decode cX11_leftOf 135 = .ok (.iload 7, 2) := by decide +kernel
theorem dX11_leftOf_137 : decode cX11_leftOf 137 = .ok (.if_icmp .le 11, 3) := by decide +kernel
theorem dX11_leftOf_140 : decode cX11_leftOf 140 = .ok (.iload 6, 2) := by decide +kernel
theorem dX11_leftOf_142 : decode cX11_leftOf 142 = .ok (.iload 7, 2) := by decide +kernel
theorem dX11_leftOf_144 : decode cX11_leftOf 144 = .ok (.isub, 1) := by decide +kernel
theorem dX11_leftOf_145 : decode cX11_leftOf 145 = .ok (.goto 4, 3) := by decide +kernel
theorem dX11_leftOf_148 : decode cX11_leftOf 148 = .ok (.iconst 0, 1) := by decide +kernel
theorem dX11_leftOf_149 : decode cX11_leftOf 149 = .ok (.ireturn, 1) := by decide +kernel
theorem dX11_goDay_0 : decode cX11_goDay 0 = .ok (.aload_n 0, 1) := by decide +kernel
theorem dX11_goDay_1 : decode cX11_goDay 1 = .ok (.dup, 1) := by decide +kernel
theorem dX11_goDay_2 : decode cX11_goDay 2 = .ok (.getfield 159, 3) := by decide +kernel
theorem dX11_goDay_5 : decode cX11_goDay 5 = .ok (.iconst 1, 1) := by decide +kernel
theorem dX11_goDay_6 : decode cX11_goDay 6 = .ok (.iadd, 1) := by decide +kernel
theorem dX11_goDay_7 : decode cX11_goDay 7 = .ok (.putfield 159, 3) := by decide +kernel
theorem dX11_goDay_10 : decode cX11_goDay 10 = .ok (.iconst 0, 1) := by decide +kernel
theorem dX11_goDay_11 : decode cX11_goDay 11 = .ok (.istore_n 1, 1) := by decide +kernel
theorem dX11_goDay_12 : decode cX11_goDay 12 = .ok (.iload_n 1, 1) := by decide +kernel
theorem dX11_goDay_13 : decode cX11_goDay 13 = .ok (.aload_n 0, 1) := by decide +kernel
theorem dX11_goDay_14 : decode cX11_goDay 14 = .ok (.getfield 49, 3) := by decide +kernel
theorem dX11_goDay_17 : decode cX11_goDay 17 = .ok (.iconst 0, 1) := by decide +kernel
theorem dX11_goDay_18 : decode cX11_goDay 18 = .ok (.iaload, 1) := by decide +kernel
theorem dX11_goDay_19 : decode cX11_goDay 19 = .ok (.if_icmp .ge 63, 3) := by decide +kernel
theorem dX11_goDay_22 : decode cX11_goDay 22 = .ok (.aload_n 0, 1) := by decide +kernel
theorem dX11_goDay_23 : decode cX11_goDay 23 = .ok (.getfield 55, 3) := by decide +kernel
theorem dX11_goDay_26 : decode cX11_goDay 26 = .ok (.iload_n 1, 1) := by decide +kernel
theorem dX11_goDay_27 : decode cX11_goDay 27 = .ok (.iaload, 1) := by decide +kernel
theorem dX11_goDay_28 : decode cX11_goDay 28 = .ok (.aload_n 0, 1) := by decide +kernel
theorem dX11_goDay_29 : decode cX11_goDay 29 = .ok (.getfield 159, 3) := by decide +kernel
theorem dX11_goDay_32 : decode cX11_goDay 32 = .ok (.if_icmp .ne 44, 3) := by decide +kernel
theorem dX11_goDay_35 : decode cX11_goDay 35 = .ok (.aload_n 0, 1) := by decide +kernel
theorem dX11_goDay_36 : decode cX11_goDay 36 = .ok (.getfield 67, 3) := by decide +kernel
theorem dX11_goDay_39 : decode cX11_goDay 39 = .ok (.aload_n 0, 1) := by decide +kernel
theorem dX11_goDay_40 : decode cX11_goDay 40 = .ok (.getfield 52, 3) := by decide +kernel
theorem dX11_goDay_43 : decode cX11_goDay 43 = .ok (.iload_n 1, 1) := by decide +kernel
theorem dX11_goDay_44 : decode cX11_goDay 44 = .ok (.iaload, 1) := by decide +kernel
theorem dX11_goDay_45 : decode cX11_goDay 45 = .ok (.iaload, 1) := by decide +kernel
theorem dX11_goDay_46 : decode cX11_goDay 46 = .ok (.bipush 9, 2) := by decide +kernel
theorem dX11_goDay_48 : decode cX11_goDay 48 = .ok (.if_icmp .eq 28, 3) := by decide +kernel
theorem dX11_goDay_51 : decode cX11_goDay 51 = .ok (.aload_n 0, 1) := by decide +kernel
theorem dX11_goDay_52 : decode cX11_goDay 52 = .ok (.aload_n 0, 1) := by decide +kernel
theorem dX11_goDay_53 : decode cX11_goDay 53 = .ok (.getfield 52, 3) := by decide +kernel
theorem dX11_goDay_56 : decode cX11_goDay 56 = .ok (.iload_n 1, 1) := by decide +kernel
theorem dX11_goDay_57 : decode cX11_goDay 57 = .ok (.iaload, 1) := by decide +kernel
theorem dX11_goDay_58 : decode cX11_goDay 58 = .ok (.aload_n 0, 1) := by decide +kernel
theorem dX11_goDay_59 : decode cX11_goDay 59 = .ok (.getfield 58, 3) := by decide +kernel
theorem dX11_goDay_62 : decode cX11_goDay 62 = .ok (.iload_n 1, 1) := by decide +kernel
theorem dX11_goDay_63 : decode cX11_goDay 63 = .ok (.iaload, 1) := by decide +kernel
theorem dX11_goDay_64 : decode cX11_goDay 64 = .ok (.iconst 1, 1) := by decide +kernel
theorem dX11_goDay_65 : decode cX11_goDay 65 = .ok (.if_icmp .ne 7, 3) := by decide +kernel
theorem dX11_goDay_68 : decode cX11_goDay 68 = .ok (.iconst 1, 1) := by decide +kernel
theorem dX11_goDay_69 : decode cX11_goDay 69 = .ok (.goto 4, 3) := by decide +kernel
theorem dX11_goDay_72 : decode cX11_goDay 72 = .ok (.iconst 0, 1) := by decide +kernel
theorem dX11_goDay_73 : decode cX11_goDay 73 = .ok (.invokevirtual 162, 3) := by decide +kernel
theorem dX11_goDay_76 : decode cX11_goDay 76 = .ok (.iinc 1 1, 3) := by decide +kernel
theorem dX11_goDay_79 : decode cX11_goDay 79 = .ok (.goto (-67), 3) := by decide +kernel
theorem dX11_goDay_82 : decode cX11_goDay 82 = .ok (.iconst 0, 1) := by decide +kernel
theorem dX11_goDay_83 : decode cX11_goDay 83 = .ok (.istore_n 1, 1) := by decide +kernel
theorem dX11_goDay_84 : decode cX11_goDay 84 = .ok (.iload_n 1, 1) := by decide +kernel
theorem dX11_goDay_85 : decode cX11_goDay 85 = .ok (.aload_n 0, 1) := by decide +kernel
theorem dX11_goDay_86 : decode cX11_goDay 86 = .ok (.getfield 22, 3) := by decide +kernel
theorem dX11_goDay_89 : decode cX11_goDay 89 = .ok (.iconst 0, 1) := by decide +kernel
theorem dX11_goDay_90 : decode cX11_goDay 90 = .ok (.iaload, 1) := by decide +kernel
theorem dX11_goDay_91 : decode cX11_goDay 91 = .ok (.if_icmp .ge 151, 3) := by decide +kernel
theorem dX11_goDay_94 : decode cX11_goDay 94 = .ok (.aload_n 0, 1) := by decide +kernel
theorem dX11_goDay_95 : decode cX11_goDay 95 = .ok (.getfield 67, 3) := by decide +kernel
theorem dX11_goDay_98 : decode cX11_goDay 98 = .ok (.iload_n 1, 1) := by decide +kernel
theorem dX11_goDay_99 : decode cX11_goDay 99 = .ok (.iaload, 1) := by decide +kernel
theorem dX11_goDay_100 : decode cX11_goDay 100 = .ok (.bipush 9, 2) := by decide +kernel
theorem dX11_goDay_102 : decode cX11_goDay 102 = .ok (.if_icmp .eq 64, 3) := by decide +kernel
theorem dX11_goDay_105 : decode cX11_goDay 105 = .ok (.aload_n 0, 1) := by decide +kernel
theorem dX11_goDay_106 : decode cX11_goDay 106 = .ok (.getfield 73, 3) := by decide +kernel
theorem dX11_goDay_109 : decode cX11_goDay 109 = .ok (.iload_n 1, 1) := by decide +kernel
theorem dX11_goDay_110 : decode cX11_goDay 110 = .ok (.iaload, 1) := by decide +kernel
theorem dX11_goDay_111 : decode cX11_goDay 111 = .ok (.ifCond .ne 55, 3) := by decide +kernel
theorem dX11_goDay_114 : decode cX11_goDay 114 = .ok (.aload_n 0, 1) := by decide +kernel
theorem dX11_goDay_115 : decode cX11_goDay 115 = .ok (.getfield 76, 3) := by decide +kernel
theorem dX11_goDay_118 : decode cX11_goDay 118 = .ok (.iload_n 1, 1) := by decide +kernel
theorem dX11_goDay_119 : decode cX11_goDay 119 = .ok (.aload_n 0, 1) := by decide +kernel
theorem dX11_goDay_120 : decode cX11_goDay 120 = .ok (.getfield 67, 3) := by decide +kernel
theorem dX11_goDay_123 : decode cX11_goDay 123 = .ok (.iload_n 1, 1) := by decide +kernel
theorem dX11_goDay_124 : decode cX11_goDay 124 = .ok (.iaload, 1) := by decide +kernel
theorem dX11_goDay_125 : decode cX11_goDay 125 = .ok (.ifCond .ne 10, 3) := by decide +kernel
theorem dX11_goDay_128 : decode cX11_goDay 128 = .ok (.aload_n 0, 1) := by decide +kernel
theorem dX11_goDay_129 : decode cX11_goDay 129 = .ok (.getfield 159, 3) := by decide +kernel
theorem dX11_goDay_132 : decode cX11_goDay 132 = .ok (.goto 5, 3) := by decide +kernel
theorem dX11_goDay_135 : decode cX11_goDay 135 = .ok (.bipush (-4), 2) := by decide +kernel
theorem dX11_goDay_137 : decode cX11_goDay 137 = .ok (.iastore, 1) := by decide +kernel
theorem dX11_goDay_138 : decode cX11_goDay 138 = .ok (.aload_n 0, 1) := by decide +kernel
theorem dX11_goDay_139 : decode cX11_goDay 139 = .ok (.getfield 67, 3) := by decide +kernel
theorem dX11_goDay_142 : decode cX11_goDay 142 = .ok (.iload_n 1, 1) := by decide +kernel
theorem dX11_goDay_143 : decode cX11_goDay 143 = .ok (.aload_n 0, 1) := by decide +kernel
theorem dX11_goDay_144 : decode cX11_goDay 144 = .ok (.getfield 67, 3) := by decide +kernel
theorem dX11_goDay_147 : decode cX11_goDay 147 = .ok (.iload_n 1, 1) := by decide +kernel
theorem dX11_goDay_148 : decode cX11_goDay 148 = .ok (.iaload, 1) := by decide +kernel
theorem dX11_goDay_149 : decode cX11_goDay 149 = .ok (.ifCond .ne 8, 3) := by decide +kernel
theorem dX11_goDay_152 : decode cX11_goDay 152 = .ok (.bipush 9, 2) := by decide +kernel
theorem dX11_goDay_154 : decode cX11_goDay 154 = .ok (.goto 11, 3) := by decide +kernel
theorem dX11_goDay_157 : decode cX11_goDay 157 = .ok (.aload_n 0, 1) := by decide +kernel
theorem dX11_goDay_158 : decode cX11_goDay 158 = .ok (.getfield 67, 3) := by decide +kernel
theorem dX11_goDay_161 : decode cX11_goDay 161 = .ok (.iload_n 1, 1) := by decide +kernel
theorem dX11_goDay_162 : decode cX11_goDay 162 = .ok (.iaload, 1) := by decide +kernel
theorem dX11_goDay_163 : decode cX11_goDay 163 = .ok (.iconst 1, 1) := by decide +kernel
theorem dX11_goDay_164 : decode cX11_goDay 164 = .ok (.isub, 1) := by decide +kernel
theorem dX11_goDay_165 : decode cX11_goDay 165 = .ok (.iastore, 1) := by decide +kernel
theorem dX11_goDay_166 : decode cX11_goDay 166 = .ok (.aload_n 0, 1) := by decide +kernel
theorem dX11_goDay_167 : decode cX11_goDay 167 = .ok (.getfield 67, 3) := by decide +kernel
theorem dX11_goDay_170 : decode cX11_goDay 170 = .ok (.iload_n 1, 1) := by decide +kernel
theorem dX11_goDay_171 : decode cX11_goDay 171 = .ok (.iaload, 1) := by decide +kernel
theorem dX11_goDay_172 : decode cX11_goDay 172 = .ok (.bipush 9, 2) := by decide +kernel
theorem dX11_goDay_174 : decode cX11_goDay 174 = .ok (.if_icmp .eq 62, 3) := by decide +kernel
theorem dX11_goDay_177 : decode cX11_goDay 177 = .ok (.aload_n 0, 1) := by decide +kernel
theorem dX11_goDay_178 : decode cX11_goDay 178 = .ok (.getfield 70, 3) := by decide +kernel
theorem dX11_goDay_181 : decode cX11_goDay 181 = .ok (.iload_n 1, 1) := by decide +kernel
theorem dX11_goDay_182 : decode cX11_goDay 182 = .ok (.aload_n 0, 1) := by decide +kernel
theorem dX11_goDay_183 : decode cX11_goDay 183 = .ok (.getfield 70, 3) := by decide +kernel
theorem dX11_goDay_186 : decode cX11_goDay 186 = .ok (.iload_n 1, 1) := by decide +kernel
theorem dX11_goDay_187 : decode cX11_goDay 187 = .ok (.iaload, 1) := by decide +kernel
theorem dX11_goDay_188 : decode cX11_goDay 188 = .ok (.aload_n 0, 1) := by decide +kernel
theorem dX11_goDay_189 : decode cX11_goDay 189 = .ok (.getfield 16, 3) := by decide +kernel
theorem dX11_goDay_192 : decode cX11_goDay 192 = .ok (.aload_n 0, 1) := by decide +kernel
theorem dX11_goDay_193 : decode cX11_goDay 193 = .ok (.getfield 67, 3) := by decide +kernel
theorem dX11_goDay_196 : decode cX11_goDay 196 = .ok (.iload_n 1, 1) := by decide +kernel
theorem dX11_goDay_197 : decode cX11_goDay 197 = .ok (.iaload, 1) := by decide +kernel
theorem dX11_goDay_198 : decode cX11_goDay 198 = .ok (.iaload, 1) := by decide +kernel
theorem dX11_goDay_199 : decode cX11_goDay 199 = .ok (.iadd, 1) := by decide +kernel
theorem dX11_goDay_200 : decode cX11_goDay 200 = .ok (.bipush 24, 2) := by decide +kernel
theorem dX11_goDay_202 : decode cX11_goDay 202 = .ok (.irem, 1) := by decide +kernel
theorem dX11_goDay_203 : decode cX11_goDay 203 = .ok (.iastore, 1) := by decide +kernel
theorem dX11_goDay_204 : decode cX11_goDay 204 = .ok (.aload_n 0, 1) := by decide +kernel
theorem dX11_goDay_205 : decode cX11_goDay 205 = .ok (.getfield 73, 3) := by decide +kernel
theorem dX11_goDay_208 : decode cX11_goDay 208 = .ok (.iload_n 1, 1) := by decide +kernel
theorem dX11_goDay_209 : decode cX11_goDay 209 = .ok (.aload_n 0, 1) := by decide +kernel
theorem dX11_goDay_210 : decode cX11_goDay 210 = .ok (.aload_n 0, 1) := by decide +kernel
theorem dX11_goDay_211 : decode cX11_goDay 211 = .ok (.getfield 34, 3) := by decide +kernel
theorem dX11_goDay_214 : decode cX11_goDay 214 = .ok (.iload_n 1, 1) := by decide +kernel
theorem dX11_goDay_215 : decode cX11_goDay 215 = .ok (.iaload, 1) := by decide +kernel
theorem dX11_goDay_216 : decode cX11_goDay 216 = .ok (.aload_n 0, 1) := by decide +kernel
theorem dX11_goDay_217 : decode cX11_goDay 217 = .ok (.getfield 73, 3) := by decide +kernel
theorem dX11_goDay_220 : decode cX11_goDay 220 = .ok (.iload_n 1, 1) := by decide +kernel
theorem dX11_goDay_221 : decode cX11_goDay 221 = .ok (.iaload, 1) := by decide +kernel
theorem dX11_goDay_222 : decode cX11_goDay 222 = .ok (.aload_n 0, 1) := by decide +kernel
theorem dX11_goDay_223 : decode cX11_goDay 223 = .ok (.getfield 67, 3) := by decide +kernel
theorem dX11_goDay_226 : decode cX11_goDay 226 = .ok (.iload_n 1, 1) := by decide +kernel
theorem dX11_goDay_227 : decode cX11_goDay 227 = .ok (.iaload, 1) := by decide +kernel
theorem dX11_goDay_228 : decode cX11_goDay 228 = .ok (.aload_n 0, 1) := by decide +kernel
theorem dX11_goDay_229 : decode cX11_goDay 229 = .ok (.getfield 159, 3) := by decide +kernel
theorem dX11_goDay_232 : decode cX11_goDay 232 = .ok (.invokevirtual 166, 3) := by decide +kernel
theorem dX11_goDay_235 : decode cX11_goDay 235 = .ok (.iastore, 1) := by decide +kernel
theorem dX11_goDay_236 : decode cX11_goDay 236 = .ok (.iinc 1 1, 3) := by decide +kernel
theorem dX11_goDay_239 : decode cX11_goDay 239 = .ok (.goto (-155), 3) := by decide +kernel
theorem dX11_goDay_242 : decode cX11_goDay 242 = .ok (.return_, 1) := by decide +kernel
theorem dX11_go_0 : decode cX11_go 0 = .ok (.aload_n 0, 1) := by decide +kernel
theorem dX11_go_1 : decode cX11_go 1 = .ok (.invokevirtual 170, 3) := by decide +kernel
theorem dX11_go_4 : decode cX11_go 4 = .ok (.aload_n 0, 1) := by decide +kernel
theorem dX11_go_5 : decode cX11_go 5 = .ok (.getfield 159, 3) := by decide +kernel
theorem dX11_go_8 : decode cX11_go 8 = .ok (.iload_n 1, 1) := by decide +kernel
theorem dX11_go_9 : decode cX11_go 9 = .ok (.if_icmp .ge 10, 3) := by decide +kernel
theorem dX11_go_12 : decode cX11_go 12 = .ok (.aload_n 0, 1) := by decide +kernel
theorem dX11_go_13 : decode cX11_go 13 = .ok (.invokevirtual 173, 3) := by decide +kernel
theorem dX11_go_16 : decode cX11_go 16 = .ok (.goto (-12), 3) := by decide +kernel
theorem dX11_go_19 : decode cX11_go 19 = .ok (.return_, 1) := by decide +kernel
theorem dX11_areTogether_0 : decode cX11_areTogether 0 = .ok (.aload_n 0, 1) := by decide +kernel
theorem dX11_areTogether_1 : decode cX11_areTogether 1 = .ok (.getfield 67, 3) := by decide +kernel
theorem dX11_areTogether_4 : decode cX11_areTogether 4 = .ok (.iload_n 1, 1) := by decide +kernel
theorem dX11_areTogether_5 : decode cX11_areTogether 5 = .ok (.iaload, 1) := by decide +kernel
theorem dX11_areTogether_6 : decode cX11_areTogether 6 = .ok (.bipush 9, 2) := by decide +kernel
theorem dX11_areTogether_8 : decode cX11_areTogether 8 = .ok (.if_icmp .eq 37, 3) := by decide +kernel
theorem dX11_areTogether_11 : decode cX11_areTogether 11 = .ok (.aload_n 0, 1) := by decide +kernel
theorem dX11_areTogether_12 : decode cX11_areTogether 12 = .ok (.getfield 67, 3) := by decide +kernel
theorem dX11_areTogether_15 : decode cX11_areTogether 15 = .ok (.iload_n 1, 1) := by decide +kernel
theorem dX11_areTogether_16 : decode cX11_areTogether 16 = .ok (.iaload, 1) := by decide +kernel
theorem dX11_areTogether_17 : decode cX11_areTogether 17 = .ok (.aload_n 0, 1) := by decide +kernel
theorem dX11_areTogether_18 : decode cX11_areTogether 18 = .ok (.getfield 67, 3) := by decide +kernel
theorem dX11_areTogether_21 : decode cX11_areTogether 21 = .ok (.iload_n 2, 1) := by decide +kernel
theorem dX11_areTogether_22 : decode cX11_areTogether 22 = .ok (.iaload, 1) := by decide +kernel
theorem dX11_areTogether_23 : decode cX11_areTogether 23 = .ok (.if_icmp .ne 22, 3) := by decide +kernel
theorem dX11_areTogether_26 : decode cX11_areTogether 26 = .ok (.aload_n 0, 1) := by decide +kernel
theorem dX11_areTogether_27 : decode cX11_areTogether 27 = .ok (.getfield 70, 3) := by decide +kernel
theorem dX11_areTogether_30 : decode cX11_areTogether 30 = .ok (.iload_n 1, 1) := by decide +kernel
theorem dX11_areTogether_31 : decode cX11_areTogether 31 = .ok (.iaload, 1) := by decide +kernel
theorem dX11_areTogether_32 : decode cX11_areTogether 32 = .ok (.aload_n 0, 1) := by decide +kernel
theorem dX11_areTogether_33 : decode cX11_areTogether 33 = .ok (.getfield 70, 3) := by decide +kernel
theorem dX11_areTogether_36 : decode cX11_areTogether 36 = .ok (.iload_n 2, 1) := by decide +kernel
theorem dX11_areTogether_37 : decode cX11_areTogether 37 = .ok (.iaload, 1) := by decide +kernel
theorem dX11_areTogether_38 : decode cX11_areTogether 38 = .ok (.if_icmp .ne 7, 3) := by decide +kernel
theorem dX11_areTogether_41 : decode cX11_areTogether 41 = .ok (.iconst 1, 1) := by decide +kernel
theorem dX11_areTogether_42 : decode cX11_areTogether 42 = .ok (.goto 4, 3) := by decide +kernel
theorem dX11_areTogether_45 : decode cX11_areTogether 45 = .ok (.iconst 0, 1) := by decide +kernel
theorem dX11_areTogether_46 : decode cX11_areTogether 46 = .ok (.ireturn, 1) := by decide +kernel
theorem dX11_pairs_0 : decode cX11_pairs 0 = .ok (.iconst 0, 1) := by decide +kernel
theorem dX11_pairs_1 : decode cX11_pairs 1 = .ok (.istore_n 1, 1) := by decide +kernel
theorem dX11_pairs_2 : decode cX11_pairs 2 = .ok (.iconst 0, 1) := by decide +kernel
theorem dX11_pairs_3 : decode cX11_pairs 3 = .ok (.istore_n 2, 1) := by decide +kernel
theorem dX11_pairs_4 : decode cX11_pairs 4 = .ok (.iload_n 2, 1) := by decide +kernel
theorem dX11_pairs_5 : decode cX11_pairs 5 = .ok (.aload_n 0, 1) := by decide +kernel
theorem dX11_pairs_6 : decode cX11_pairs 6 = .ok (.getfield 22, 3) := by decide +kernel
theorem dX11_pairs_9 : decode cX11_pairs 9 = .ok (.iconst 0, 1) := by decide +kernel
theorem dX11_pairs_10 : decode cX11_pairs 10 = .ok (.iaload, 1) := by decide +kernel
theorem dX11_pairs_11 : decode cX11_pairs 11 = .ok (.if_icmp .ge 39, 3) := by decide +kernel
theorem dX11_pairs_14 : decode cX11_pairs 14 = .ok (.iconst 0, 1) := by decide +kernel
theorem dX11_pairs_15 : decode cX11_pairs 15 = .ok (.istore_n 3, 1) := by decide +kernel
theorem dX11_pairs_16 : decode cX11_pairs 16 = .ok (.iload_n 3, 1) := by decide +kernel
theorem dX11_pairs_17 : decode cX11_pairs 17 = .ok (.iload_n 2, 1) := by decide +kernel
theorem dX11_pairs_18 : decode cX11_pairs 18 = .ok (.if_icmp .ge 26, 3) := by decide +kernel
theorem dX11_pairs_21 : decode cX11_pairs 21 = .ok (.iload_n 1, 1) := by decide +kernel
theorem dX11_pairs_22 : decode cX11_pairs 22 = .ok (.aload_n 0, 1) := by decide +kernel
theorem dX11_pairs_23 : decode cX11_pairs 23 = .ok (.iload_n 2, 1) := by decide +kernel
theorem dX11_pairs_24 : decode cX11_pairs 24 = .ok (.iload_n 3, 1) := by decide +kernel
theorem dX11_pairs_25 : decode cX11_pairs 25 = .ok (.invokevirtual 176, 3) := by decide +kernel
theorem dX11_pairs_28 : decode cX11_pairs 28 = .ok (.ifCond .eq 7, 3) := by decide +kernel
theorem dX11_pairs_31 : decode cX11_pairs 31 = .ok (.iconst 1, 1) := by decide +kernel
theorem dX11_pairs_32 : decode cX11_pairs 32 = .ok (.goto 4, 3) := by decide +kernel
theorem dX11_pairs_35 : decode cX11_pairs 35 = .ok (.iconst 0, 1) := by decide +kernel
theorem dX11_pairs_36 : decode cX11_pairs 36 = .ok (.iadd, 1) := by decide +kernel
theorem dX11_pairs_37 : decode cX11_pairs 37 = .ok (.istore_n 1, 1) := by decide +kernel
theorem dX11_pairs_38 : decode cX11_pairs 38 = .ok (.iinc 3 1, 3) := by decide +kernel
theorem dX11_pairs_41 : decode cX11_pairs 41 = .ok (.goto (-25), 3) := by decide +kernel
theorem dX11_pairs_44 : decode cX11_pairs 44 = .ok (.iinc 2 1, 3) := by decide +kernel
theorem dX11_pairs_47 : decode cX11_pairs 47 = .ok (.goto (-43), 3) := by decide +kernel
theorem dX11_pairs_50 : decode cX11_pairs 50 = .ok (.iload_n 1, 1) := by decide +kernel
theorem dX11_pairs_51 : decode cX11_pairs 51 = .ok (.ireturn, 1) := by decide +kernel
theorem dX11_town_0 : decode cX11_town 0 = .ok (.aload_n 0, 1) := by decide +kernel
theorem dX11_town_1 : decode cX11_town 1 = .ok (.iload_n 1, 1) := by decide +kernel
theorem dX11_town_2 : decode cX11_town 2 = .ok (.invokevirtual 180, 3) := by decide +kernel
theorem dX11_town_5 : decode cX11_town 5 = .ok (.ifCond .eq 27, 3) := by decide +kernel
theorem dX11_town_8 : decode cX11_town 8 = .ok (.iload_n 2, 1) := by decide +kernel
theorem dX11_town_9 : decode cX11_town 9 = .ok (.i2l, 1) := by decide +kernel
theorem dX11_town_10 : decode cX11_town 10 = .ok (.lconst 0, 1) := by decide +kernel
theorem dX11_town_11 : decode cX11_town 11 = .ok (.ldc2_w 130, 3) := by decide +kernel
theorem dX11_town_14 : decode cX11_town 14 = .ok (.invokestatic 97, 3) := by decide +kernel
theorem dX11_town_17 : decode cX11_town 17 = .ok (.ifCond .eq 15, 3) := by decide +kernel
theorem dX11_town_20 : decode cX11_town 20 = .ok (.iload_n 3, 1) := by decide +kernel
theorem dX11_town_21 : decode cX11_town 21 = .ok (.i2l, 1) := by decide +kernel
theorem dX11_town_22 : decode cX11_town 22 = .ok (.lconst 0, 1) := by decide +kernel
theorem dX11_town_23 : decode cX11_town 23 = .ok (.ldc2_w 118, 3) := by decide +kernel
theorem dX11_town_26 : decode cX11_town 26 = .ok (.invokestatic 97, 3) := by decide +kernel
theorem dX11_town_29 : decode cX11_town 29 = .ok (.ifCond .ne 5, 3) := by decide +kernel
theorem dX11_town_32 : decode cX11_town 32 = .ok (.iconst (-1), 1) := by decide +kernel
theorem dX11_town_33 : decode cX11_town 33 = .ok (.ireturn, 1) := by decide +kernel
theorem dX11_town_34 : decode cX11_town 34 = .ok (.aload_n 0, 1) := by decide +kernel
theorem dX11_town_35 : decode cX11_town 35 = .ok (.iload_n 2, 1) := by decide +kernel
theorem dX11_town_36 : decode cX11_town 36 = .ok (.invokevirtual 183, 3) := by decide +kernel
theorem dX11_town_39 : decode cX11_town 39 = .ok (.iload_n 3, 1) := by decide +kernel
theorem dX11_town_40 : decode cX11_town 40 = .ok (.ifCond .ne 12, 3) := by decide +kernel
theorem dX11_town_43 : decode cX11_town 43 = .ok (.aload_n 0, 1) := by decide +kernel
theorem dX11_town_44 : decode cX11_town 44 = .ok (.getfield 67, 3) := by decide +kernel
theorem dX11_town_47 : decode cX11_town 47 = .ok (.iload_n 1, 1) := by decide +kernel
theorem dX11_town_48 : decode cX11_town 48 = .ok (.iaload, 1) := by decide +kernel
theorem dX11_town_49 : decode cX11_town 49 = .ok (.goto 39, 3) := by decide +kernel
theorem dX11_town_52 : decode cX11_town 52 = .ok (.iload_n 3, 1) := by decide +kernel
theorem dX11_town_53 : decode cX11_town 53 = .ok (.iconst 2, 1) := by decide +kernel
theorem dX11_town_54 : decode cX11_town 54 = .ok (.if_icmp .ne 12, 3) := by decide +kernel
theorem dX11_town_57 : decode cX11_town 57 = .ok (.aload_n 0, 1) := by decide +kernel
theorem dX11_town_58 : decode cX11_town 58 = .ok (.getfield 73, 3) := by decide +kernel
theorem dX11_town_61 : decode cX11_town 61 = .ok (.iload_n 1, 1) := by decide +kernel
theorem dX11_town_62 : decode cX11_town 62 = .ok (.iaload, 1) := by decide +kernel
theorem dX11_town_63 : decode cX11_town 63 = .ok (.goto 25, 3) := by decide +kernel
theorem dX11_town_66 : decode cX11_town 66 = .ok (.aload_n 0, 1) := by decide +kernel
theorem dX11_town_67 : decode cX11_town 67 = .ok (.getfield 67, 3) := by decide +kernel
theorem dX11_town_70 : decode cX11_town 70 = .ok (.iload_n 1, 1) := by decide +kernel
theorem dX11_town_71 : decode cX11_town 71 = .ok (.iaload, 1) := by decide +kernel
theorem dX11_town_72 : decode cX11_town 72 = .ok (.bipush 9, 2) := by decide +kernel
theorem dX11_town_74 : decode cX11_town 74 = .ok (.if_icmp .ne 8, 3) := by decide +kernel
theorem dX11_town_77 : decode cX11_town 77 = .ok (.bipush (-4), 2) := by decide +kernel
theorem dX11_town_79 : decode cX11_town 79 = .ok (.goto 9, 3) := by decide +kernel
theorem dX11_town_82 : decode cX11_town 82 = .ok (.aload_n 0, 1) := by decide +kernel
theorem dX11_town_83 : decode cX11_town 83 = .ok (.getfield 70, 3) := by decide +kernel
theorem dX11_town_86 : decode cX11_town 86 = .ok (.iload_n 1, 1) := by decide +kernel
theorem dX11_town_87 : decode cX11_town 87 = .ok (.iaload, 1) := by decide +kernel
theorem dX11_town_88 : decode cX11_town 88 = .ok (.ireturn, 1) := by decide +kernel
theorem dX11_lost_0 : decode cX11_lost 0 = .ok (.aload_n 0, 1) := by decide +kernel
theorem dX11_lost_1 : decode cX11_lost 1 = .ok (.iload_n 1, 1) := by decide +kernel
theorem dX11_lost_2 : decode cX11_lost 2 = .ok (.invokevirtual 180, 3) := by decide +kernel
theorem dX11_lost_5 : decode cX11_lost 5 = .ok (.ifCond .ne 5, 3) := by decide +kernel
theorem dX11_lost_8 : decode cX11_lost 8 = .ok (.iconst (-1), 1) := by decide +kernel
theorem dX11_lost_9 : decode cX11_lost 9 = .ok (.ireturn, 1) := by decide +kernel
theorem dX11_lost_10 : decode cX11_lost 10 = .ok (.aload_n 0, 1) := by decide +kernel
theorem dX11_lost_11 : decode cX11_lost 11 = .ok (.bipush 60, 2) := by decide +kernel
theorem dX11_lost_13 : decode cX11_lost 13 = .ok (.invokevirtual 183, 3) := by decide +kernel
theorem dX11_lost_16 : decode cX11_lost 16 = .ok (.aload_n 0, 1) := by decide +kernel
theorem dX11_lost_17 : decode cX11_lost 17 = .ok (.getfield 76, 3) := by decide +kernel
theorem dX11_lost_20 : decode cX11_lost 20 = .ok (.iload_n 1, 1) := by decide +kernel
theorem dX11_lost_21 : decode cX11_lost 21 = .ok (.iaload, 1) := by decide +kernel
theorem dX11_lost_22 : decode cX11_lost 22 = .ok (.ireturn, 1) := by decide +kernel
theorem dX11_meet_0 : decode cX11_meet 0 = .ok (.aload_n 0, 1) := by decide +kernel
theorem dX11_meet_1 : decode cX11_meet 1 = .ok (.iload_n 1, 1) := by decide +kernel
theorem dX11_meet_2 : decode cX11_meet 2 = .ok (.invokevirtual 180, 3) := by decide +kernel
theorem dX11_meet_5 : decode cX11_meet 5 = .ok (.ifCond .eq 16, 3) := by decide +kernel
theorem dX11_meet_8 : decode cX11_meet 8 = .ok (.aload_n 0, 1) := by decide +kernel
theorem dX11_meet_9 : decode cX11_meet 9 = .ok (.iload_n 2, 1) := by decide +kernel
theorem dX11_meet_10 : decode cX11_meet 10 = .ok (.invokevirtual 180, 3) := by decide +kernel
theorem dX11_meet_13 : decode cX11_meet 13 = .ok (.ifCond .eq 8, 3) := by decide +kernel
theorem dX11_meet_16 : decode cX11_meet 16 = .ok (.iload_n 1, 1) := by decide +kernel
theorem dX11_meet_17 : decode cX11_meet 17 = .ok (.iload_n 2, 1) := by decide +kernel
theorem dX11_meet_18 : decode cX11_meet 18 = .ok (.if_icmp .ne 5, 3) := by decide +kernel
theorem dX11_meet_21 : decode cX11_meet 21 = .ok (.iconst (-1), 1) := by decide +kernel
theorem dX11_meet_22 : decode cX11_meet 22 = .ok (.ireturn, 1) := by decide +kernel
theorem dX11_meet_23 : decode cX11_meet 23 = .ok (.aload_n 0, 1) := by decide +kernel
theorem dX11_meet_24 : decode cX11_meet 24 = .ok (.invokevirtual 170, 3) := by decide +kernel
theorem dX11_meet_27 : decode cX11_meet 27 = .ok (.aload_n 0, 1) := by decide +kernel
theorem dX11_meet_28 : decode cX11_meet 28 = .ok (.getfield 159, 3) := by decide +kernel
theorem dX11_meet_31 : decode cX11_meet 31 = .ok (.bipush 60, 2) := by decide +kernel
theorem dX11_meet_33 : decode cX11_meet 33 = .ok (.if_icmp .ge 21, 3) := by decide +kernel
theorem dX11_meet_36 : decode cX11_meet 36 = .ok (.aload_n 0, 1) := by decide +kernel
theorem dX11_meet_37 : decode cX11_meet 37 = .ok (.invokevirtual 173, 3) := by decide +kernel
theorem dX11_meet_40 : decode cX11_meet 40 = .ok (.aload_n 0, 1) := by decide +kernel
theorem dX11_meet_41 : decode cX11_meet 41 = .ok (.iload_n 1, 1) := by decide +kernel
theorem dX11_meet_42 : decode cX11_meet 42 = .ok (.iload_n 2, 1) := by decide +kernel
theorem dX11_meet_43 : decode cX11_meet 43 = .ok (.invokevirtual 176, 3) := by decide +kernel
theorem dX11_meet_46 : decode cX11_meet 46 = .ok (.ifCond .eq (-19), 3) := by decide +kernel
theorem dX11_meet_49 : decode cX11_meet 49 = .ok (.aload_n 0, 1) := by decide +kernel
theorem dX11_meet_50 : decode cX11_meet 50 = .ok (.getfield 159, 3) := by decide +kernel
theorem dX11_meet_53 : decode cX11_meet 53 = .ok (.ireturn, 1) := by decide +kernel
theorem dX11_meet_54 : decode cX11_meet 54 = .ok (.bipush (-4), 2) := by decide +kernel
theorem dX11_meet_56 : decode cX11_meet 56 = .ok (.ireturn, 1) := by decide +kernel
theorem dX11_marketsTo_0 : decode cX11_marketsTo 0 = .ok (.aload_n 0, 1) := by decide +kernel
theorem dX11_marketsTo_1 : decode cX11_marketsTo 1 = .ok (.invokevirtual 170, 3) := by decide +kernel
theorem dX11_marketsTo_4 : decode cX11_marketsTo 4 = .ok (.iconst 0, 1) := by decide +kernel
theorem dX11_marketsTo_5 : decode cX11_marketsTo 5 = .ok (.istore_n 2, 1) := by decide +kernel
theorem dX11_marketsTo_6 : decode cX11_marketsTo 6 = .ok (.aload_n 0, 1) := by decide +kernel
theorem dX11_marketsTo_7 : decode cX11_marketsTo 7 = .ok (.getfield 159, 3) := by decide +kernel
theorem dX11_marketsTo_10 : decode cX11_marketsTo 10 = .ok (.iload_n 1, 1) := by decide +kernel
theorem dX11_marketsTo_11 : decode cX11_marketsTo 11 = .ok (.if_icmp .ge 17, 3) := by decide +kernel
theorem dX11_marketsTo_14 : decode cX11_marketsTo 14 = .ok (.aload_n 0, 1) := by decide +kernel
theorem dX11_marketsTo_15 : decode cX11_marketsTo 15 = .ok (.invokevirtual 173, 3) := by decide +kernel
theorem dX11_marketsTo_18 : decode cX11_marketsTo 18 = .ok (.iload_n 2, 1) := by decide +kernel
theorem dX11_marketsTo_19 : decode cX11_marketsTo 19 = .ok (.aload_n 0, 1) := by decide +kernel
theorem dX11_marketsTo_20 : decode cX11_marketsTo 20 = .ok (.invokevirtual 187, 3) := by decide +kernel
theorem dX11_marketsTo_23 : decode cX11_marketsTo 23 = .ok (.iadd, 1) := by decide +kernel
theorem dX11_marketsTo_24 : decode cX11_marketsTo 24 = .ok (.istore_n 2, 1) := by decide +kernel
theorem dX11_marketsTo_25 : decode cX11_marketsTo 25 = .ok (.goto (-19), 3) := by decide +kernel
theorem dX11_marketsTo_28 : decode cX11_marketsTo 28 = .ok (.iload_n 2, 1) := by decide +kernel
theorem dX11_marketsTo_29 : decode cX11_marketsTo 29 = .ok (.ireturn, 1) := by decide +kernel
theorem dX11_markets_0 : decode cX11_markets 0 = .ok (.iload_n 1, 1) := by decide +kernel
theorem dX11_markets_1 : decode cX11_markets 1 = .ok (.i2l, 1) := by decide +kernel
theorem dX11_markets_2 : decode cX11_markets 2 = .ok (.lconst 1, 1) := by decide +kernel
theorem dX11_markets_3 : decode cX11_markets 3 = .ok (.ldc2_w 130, 3) := by decide +kernel
theorem dX11_markets_6 : decode cX11_markets 6 = .ok (.invokestatic 97, 3) := by decide +kernel
theorem dX11_markets_9 : decode cX11_markets 9 = .ok (.ifCond .eq 11, 3) := by decide +kernel
theorem dX11_markets_12 : decode cX11_markets 12 = .ok (.aload_n 0, 1) := by decide +kernel
theorem dX11_markets_13 : decode cX11_markets 13 = .ok (.iload_n 1, 1) := by decide +kernel
theorem dX11_markets_14 : decode cX11_markets 14 = .ok (.invokevirtual 190, 3) := by decide +kernel
theorem dX11_markets_17 : decode cX11_markets 17 = .ok (.goto 4, 3) := by decide +kernel
theorem dX11_markets_20 : decode cX11_markets 20 = .ok (.iconst (-1), 1) := by decide +kernel
theorem dX11_markets_21 : decode cX11_markets 21 = .ok (.ireturn, 1) := by decide +kernel
theorem dX11_stay_0 : decode cX11_stay 0 = .ok (.aload_n 0, 1) := by decide +kernel
theorem dX11_stay_1 : decode cX11_stay 1 = .ok (.iload_n 1, 1) := by decide +kernel
theorem dX11_stay_2 : decode cX11_stay 2 = .ok (.invokevirtual 180, 3) := by decide +kernel
theorem dX11_stay_5 : decode cX11_stay 5 = .ok (.ifCond .eq 26, 3) := by decide +kernel
theorem dX11_stay_8 : decode cX11_stay 8 = .ok (.aload_n 0, 1) := by decide +kernel
theorem dX11_stay_9 : decode cX11_stay 9 = .ok (.iload_n 2, 1) := by decide +kernel
theorem dX11_stay_10 : decode cX11_stay 10 = .ok (.invokevirtual 180, 3) := by decide +kernel
theorem dX11_stay_13 : decode cX11_stay 13 = .ok (.ifCond .eq 18, 3) := by decide +kernel
theorem dX11_stay_16 : decode cX11_stay 16 = .ok (.iload_n 1, 1) := by decide +kernel
theorem dX11_stay_17 : decode cX11_stay 17 = .ok (.iload_n 2, 1) := by decide +kernel
theorem dX11_stay_18 : decode cX11_stay 18 = .ok (.if_icmp .eq 13, 3) := by decide +kernel
theorem dX11_stay_21 : decode cX11_stay 21 = .ok (.iload_n 3, 1) := by decide +kernel
theorem dX11_stay_22 : decode cX11_stay 22 = .ok (.i2l, 1) := by decide +kernel
theorem dX11_stay_23 : decode cX11_stay 23 = .ok (.lconst 0, 1) := by decide +kernel
theorem dX11_stay_24 : decode cX11_stay 24 = .ok (.lconst 1, 1) := by decide +kernel
theorem dX11_stay_25 : decode cX11_stay 25 = .ok (.invokestatic 97, 3) := by decide +kernel
theorem dX11_stay_28 : decode cX11_stay 28 = .ok (.ifCond .ne 5, 3) := by decide +kernel
theorem dX11_stay_31 : decode cX11_stay 31 = .ok (.iconst (-1), 1) := by decide +kernel
theorem dX11_stay_32 : decode cX11_stay 32 = .ok (.ireturn, 1) := by decide +kernel
theorem dX11_stay_33 : decode cX11_stay 33 = .ok (.bipush (-4), 2) := by decide +kernel
theorem dX11_stay_35 : decode cX11_stay 35 = .ok (.istore 4, 2) := by decide +kernel
theorem dX11_stay_37 : decode cX11_stay 37 = .ok (.bipush 24, 2) := by decide +kernel
theorem dX11_stay_39 : decode cX11_stay 39 = .ok (.istore 5, 2) := by decide +kernel
theorem dX11_stay_41 : decode cX11_stay 41 = .ok (.bipush 23, 2) := by decide +kernel
theorem dX11_stay_43 : decode cX11_stay 43 = .ok (.istore 6, 2) := by decide +kernel
theorem dX11_stay_45 : decode cX11_stay 45 = .ok (.iload 6, 2) := by decide +kernel
theorem dX11_stay_47 : decode cX11_stay 47 = .ok (.ifCond .lt 130, 3) := by decide +kernel
theorem dX11_stay_50 : decode cX11_stay 50 = .ok (.aload_n 0, 1) := by decide +kernel
theorem dX11_stay_51 : decode cX11_stay 51 = .ok (.getfield 28, 3) := by decide +kernel
theorem dX11_stay_54 : decode cX11_stay 54 = .ok (.iload_n 1, 1) := by decide +kernel
theorem dX11_stay_55 : decode cX11_stay 55 = .ok (.iaload, 1) := by decide +kernel
theorem dX11_stay_56 : decode cX11_stay 56 = .ok (.aload_n 0, 1) := by decide +kernel
theorem dX11_stay_57 : decode cX11_stay 57 = .ok (.getfield 16, 3) := by decide +kernel
theorem dX11_stay_60 : decode cX11_stay 60 = .ok (.aload_n 0, 1) := by decide +kernel
theorem dX11_stay_61 : decode cX11_stay 61 = .ok (.getfield 25, 3) := by decide +kernel
theorem dX11_stay_64 : decode cX11_stay 64 = .ok (.iload_n 1, 1) := by decide +kernel
theorem dX11_stay_65 : decode cX11_stay 65 = .ok (.iaload, 1) := by decide +kernel
theorem dX11_stay_66 : decode cX11_stay 66 = .ok (.iaload, 1) := by decide +kernel
theorem dX11_stay_67 : decode cX11_stay 67 = .ok (.iload 6, 2) := by decide +kernel
theorem dX11_stay_69 : decode cX11_stay 69 = .ok (.imul, 1) := by decide +kernel
theorem dX11_stay_70 : decode cX11_stay 70 = .ok (.iadd, 1) := by decide +kernel
theorem dX11_stay_71 : decode cX11_stay 71 = .ok (.bipush 24, 2) := by decide +kernel
theorem dX11_stay_73 : decode cX11_stay 73 = .ok (.irem, 1) := by decide +kernel
theorem dX11_stay_74 : decode cX11_stay 74 = .ok (.aload_n 0, 1) := by decide +kernel
theorem dX11_stay_75 : decode cX11_stay 75 = .ok (.getfield 28, 3) := by decide +kernel
theorem dX11_stay_78 : decode cX11_stay 78 = .ok (.iload_n 2, 1) := by decide +kernel
theorem dX11_stay_79 : decode cX11_stay 79 = .ok (.iaload, 1) := by decide +kernel
theorem dX11_stay_80 : decode cX11_stay 80 = .ok (.aload_n 0, 1) := by decide +kernel
theorem dX11_stay_81 : decode cX11_stay 81 = .ok (.getfield 16, 3) := by decide +kernel
theorem dX11_stay_84 : decode cX11_stay 84 = .ok (.aload_n 0, 1) := by decide +kernel
theorem dX11_stay_85 : decode cX11_stay 85 = .ok (.getfield 25, 3) := by decide +kernel
theorem dX11_stay_88 : decode cX11_stay 88 = .ok (.iload_n 2, 1) := by decide +kernel
theorem dX11_stay_89 : decode cX11_stay 89 = .ok (.iaload, 1) := by decide +kernel
theorem dX11_stay_90 : decode cX11_stay 90 = .ok (.iaload, 1) := by decide +kernel
theorem dX11_stay_91 : decode cX11_stay 91 = .ok (.iload 6, 2) := by decide +kernel
theorem dX11_stay_93 : decode cX11_stay 93 = .ok (.imul, 1) := by decide +kernel
theorem dX11_stay_94 : decode cX11_stay 94 = .ok (.iadd, 1) := by decide +kernel
theorem dX11_stay_95 : decode cX11_stay 95 = .ok (.bipush 24, 2) := by decide +kernel
theorem dX11_stay_97 : decode cX11_stay 97 = .ok (.irem, 1) := by decide +kernel
theorem dX11_stay_98 : decode cX11_stay 98 = .ok (.if_icmp .ne 7, 3) := by decide +kernel
theorem dX11_stay_101 : decode cX11_stay 101 = .ok (.iconst 1, 1) := by decide +kernel
theorem dX11_stay_102 : decode cX11_stay 102 = .ok (.goto 4, 3) := by decide +kernel
theorem dX11_stay_105 : decode cX11_stay 105 = .ok (.iconst 0, 1) := by decide +kernel
theorem dX11_stay_106 : decode cX11_stay 106 = .ok (.istore 7, 2) := by decide +kernel
theorem dX11_stay_108 : decode cX11_stay 108 = .ok (.iload 7, 2) := by decide +kernel
theorem dX11_stay_110 : decode cX11_stay 110 = .ok (.ifCond .eq 8, 3) := by decide +kernel
theorem dX11_stay_113 : decode cX11_stay 113 = .ok (.iload 6, 2) := by decide +kernel
theorem dX11_stay_115 : decode cX11_stay 115 = .ok (.goto 5, 3) := by decide +kernel
theorem dX11_stay_118 : decode cX11_stay 118 = .ok (.iload 4, 2) := by decide +kernel
theorem dX11_stay_120 : decode cX11_stay 120 = .ok (.istore 4, 2) := by decide +kernel
theorem dX11_stay_122 : decode cX11_stay 122 = .ok (.iload 6, 2) := by decide +kernel
theorem dX11_stay_124 : decode cX11_stay 124 = .ok (.ifCond .le 43, 3) := by decide +kernel
theorem dX11_stay_127 : decode cX11_stay 127 = .ok (.aload_n 0, 1) := by decide +kernel
theorem dX11_stay_128 : decode cX11_stay 128 = .ok (.getfield 16, 3) := by decide +kernel
theorem dX11_stay_131 : decode cX11_stay 131 = .ok (.aload_n 0, 1) := by decide +kernel
theorem dX11_stay_132 : decode cX11_stay 132 = .ok (.getfield 25, 3) := by decide +kernel
theorem dX11_stay_135 : decode cX11_stay 135 = .ok (.iload_n 1, 1) := by decide +kernel
theorem dX11_stay_136 : decode cX11_stay 136 = .ok (.iaload, 1) := by decide +kernel
theorem dX11_stay_137 : decode cX11_stay 137 = .ok (.iaload, 1) := by decide +kernel
theorem dX11_stay_138 : decode cX11_stay 138 = .ok (.iload 6, 2) := by decide +kernel
theorem dX11_stay_140 : decode cX11_stay 140 = .ok (.imul, 1) := by decide +kernel
theorem dX11_stay_141 : decode cX11_stay 141 = .ok (.aload_n 0, 1) := by decide +kernel
theorem dX11_stay_142 : decode cX11_stay 142 = .ok (.getfield 16, 3) := by decide +kernel
theorem dX11_stay_145 : decode cX11_stay 145 = .ok (.aload_n 0, 1) := by decide +kernel
theorem dX11_stay_146 : decode cX11_stay 146 = .ok (.getfield 25, 3) := by decide +kernel
theorem dX11_stay_149 : decode cX11_stay 149 = .ok (.iload_n 2, 1) := by decide +kernel
theorem dX11_stay_150 : decode cX11_stay 150 = .ok (.iaload, 1) := by decide +kernel
theorem dX11_stay_151 : decode cX11_stay 151 = .ok (.iaload, 1) := by decide +kernel
theorem dX11_stay_152 : decode cX11_stay 152 = .ok (.iload 6, 2) := by decide +kernel
theorem dX11_stay_154 : decode cX11_stay 154 = .ok (.imul, 1) := by decide +kernel
theorem dX11_stay_155 : decode cX11_stay 155 = .ok (.isub, 1) := by decide +kernel
theorem dX11_stay_156 : decode cX11_stay 156 = .ok (.bipush 24, 2) := by decide +kernel
theorem dX11_stay_158 : decode cX11_stay 158 = .ok (.irem, 1) := by decide +kernel
theorem dX11_stay_159 : decode cX11_stay 159 = .ok (.ifCond .ne 8, 3) := by decide +kernel
theorem dX11_stay_162 : decode cX11_stay 162 = .ok (.iload 6, 2) := by decide +kernel
theorem dX11_stay_164 : decode cX11_stay 164 = .ok (.goto 5, 3) := by decide +kernel
theorem dX11_stay_167 : decode cX11_stay 167 = .ok (.iload 5, 2) := by decide +kernel
theorem dX11_stay_169 : decode cX11_stay 169 = .ok (.istore 5, 2) := by decide +kernel
theorem dX11_stay_171 : decode cX11_stay 171 = .ok (.iinc 6 (-1), 3) := by decide +kernel
theorem dX11_stay_174 : decode cX11_stay 174 = .ok (.goto (-129), 3) := by decide +kernel
theorem dX11_stay_177 : decode cX11_stay 177 = .ok (.iload 4, 2) := by decide +kernel
theorem dX11_stay_179 : decode cX11_stay 179 = .ok (.ifCond .lt 7, 3) := by decide +kernel
theorem dX11_stay_182 : decode cX11_stay 182 = .ok (.iload_n 3, 1) := by decide +kernel
theorem dX11_stay_183 : decode cX11_stay 183 = .ok (.ifCond .ne 8, 3) := by decide +kernel
theorem dX11_stay_186 : decode cX11_stay 186 = .ok (.iload 4, 2) := by decide +kernel
theorem dX11_stay_188 : decode cX11_stay 188 = .ok (.goto 5, 3) := by decide +kernel
theorem dX11_stay_191 : decode cX11_stay 191 = .ok (.iload 5, 2) := by decide +kernel
theorem dX11_stay_193 : decode cX11_stay 193 = .ok (.ireturn, 1) := by decide +kernel
theorem dX11_carry_0 : decode cX11_carry 0 = .ok (.iload 4, 2) := by decide +kernel
theorem dX11_carry_2 : decode cX11_carry 2 = .ok (.ifCond .ne 9, 3) := by decide +kernel
theorem dX11_carry_5 : decode cX11_carry 5 = .ok (.iload_n 2, 1) := by decide +kernel
theorem dX11_carry_6 : decode cX11_carry 6 = .ok (.iconst 1, 1) := by decide +kernel
theorem dX11_carry_7 : decode cX11_carry 7 = .ok (.isub, 1) := by decide +kernel
theorem dX11_carry_8 : decode cX11_carry 8 = .ok (.goto 4, 3) := by decide +kernel
theorem dX11_carry_11 : decode cX11_carry 11 = .ok (.iload_n 2, 1) := by decide +kernel
theorem dX11_carry_12 : decode cX11_carry 12 = .ok (.istore 5, 2) := by decide +kernel
theorem dX11_carry_14 : decode cX11_carry 14 = .ok (.iload 5, 2) := by decide +kernel
theorem dX11_carry_16 : decode cX11_carry 16 = .ok (.ifCond .lt 51, 3) := by decide +kernel
theorem dX11_carry_19 : decode cX11_carry 19 = .ok (.aload_n 0, 1) := by decide +kernel
theorem dX11_carry_20 : decode cX11_carry 20 = .ok (.getfield 83, 3) := by decide +kernel
theorem dX11_carry_23 : decode cX11_carry 23 = .ok (.bipush 24, 2) := by decide +kernel
theorem dX11_carry_25 : decode cX11_carry 25 = .ok (.iload 5, 2) := by decide +kernel
theorem dX11_carry_27 : decode cX11_carry 27 = .ok (.imul, 1) := by decide +kernel
theorem dX11_carry_28 : decode cX11_carry 28 = .ok (.iload_n 3, 1) := by decide +kernel
theorem dX11_carry_29 : decode cX11_carry 29 = .ok (.aload_n 0, 1) := by decide +kernel
theorem dX11_carry_30 : decode cX11_carry 30 = .ok (.getfield 16, 3) := by decide +kernel
theorem dX11_carry_33 : decode cX11_carry 33 = .ok (.iload 5, 2) := by decide +kernel
theorem dX11_carry_35 : decode cX11_carry 35 = .ok (.iaload, 1) := by decide +kernel
theorem dX11_carry_36 : decode cX11_carry 36 = .ok (.iadd, 1) := by decide +kernel
theorem dX11_carry_37 : decode cX11_carry 37 = .ok (.bipush 24, 2) := by decide +kernel
theorem dX11_carry_39 : decode cX11_carry 39 = .ok (.irem, 1) := by decide +kernel
theorem dX11_carry_40 : decode cX11_carry 40 = .ok (.iadd, 1) := by decide +kernel
theorem dX11_carry_41 : decode cX11_carry 41 = .ok (.dup2, 1) := by decide +kernel
theorem dX11_carry_42 : decode cX11_carry 42 = .ok (.laload, 1) := by decide +kernel
theorem dX11_carry_43 : decode cX11_carry 43 = .ok (.lconst 1, 1) := by decide +kernel
theorem dX11_carry_44 : decode cX11_carry 44 = .ok (.aload_n 0, 1) := by decide +kernel
theorem dX11_carry_45 : decode cX11_carry 45 = .ok (.aload_n 0, 1) := by decide +kernel
theorem dX11_carry_46 : decode cX11_carry 46 = .ok (.getfield 34, 3) := by decide +kernel
theorem dX11_carry_49 : decode cX11_carry 49 = .ok (.iload_n 1, 1) := by decide +kernel
theorem dX11_carry_50 : decode cX11_carry 50 = .ok (.iaload, 1) := by decide +kernel
theorem dX11_carry_51 : decode cX11_carry 51 = .ok (.iload 4, 2) := by decide +kernel
theorem dX11_carry_53 : decode cX11_carry 53 = .ok (.iload 5, 2) := by decide +kernel
theorem dX11_carry_55 : decode cX11_carry 55 = .ok (.aload_n 0, 1) := by decide +kernel
theorem dX11_carry_56 : decode cX11_carry 56 = .ok (.getfield 159, 3) := by decide +kernel
theorem dX11_carry_59 : decode cX11_carry 59 = .ok (.iconst 1, 1) := by decide +kernel
theorem dX11_carry_60 : decode cX11_carry 60 = .ok (.iadd, 1) := by decide +kernel
theorem dX11_carry_61 : decode cX11_carry 61 = .ok (.invokevirtual 166, 3) := by decide +kernel
theorem dX11_carry_64 : decode cX11_carry 64 = .ok (.lshl, 1) := by decide +kernel
theorem dX11_carry_65 : decode cX11_carry 65 = .ok (.lor, 1) := by decide +kernel
theorem dX11_carry_66 : decode cX11_carry 66 = .ok (.lastore, 1) := by decide +kernel
theorem dX11_carry_67 : decode cX11_carry 67 = .ok (.return_, 1) := by decide +kernel
theorem dX11_carryAll_0 : decode cX11_carryAll 0 = .ok (.iconst 0, 1) := by decide +kernel
theorem dX11_carryAll_1 : decode cX11_carryAll 1 = .ok (.istore_n 2, 1) := by decide +kernel
theorem dX11_carryAll_2 : decode cX11_carryAll 2 = .ok (.iload_n 2, 1) := by decide +kernel
theorem dX11_carryAll_3 : decode cX11_carryAll 3 = .ok (.sipush 144, 3) := by decide +kernel
theorem dX11_carryAll_6 : decode cX11_carryAll 6 = .ok (.if_icmp .ge 16, 3) := by decide +kernel
theorem dX11_carryAll_9 : decode cX11_carryAll 9 = .ok (.aload_n 0, 1) := by decide +kernel
theorem dX11_carryAll_10 : decode cX11_carryAll 10 = .ok (.getfield 83, 3) := by decide +kernel
theorem dX11_carryAll_13 : decode cX11_carryAll 13 = .ok (.iload_n 2, 1) := by decide +kernel
theorem dX11_carryAll_14 : decode cX11_carryAll 14 = .ok (.lconst 0, 1) := by decide +kernel
theorem dX11_carryAll_15 : decode cX11_carryAll 15 = .ok (.lastore, 1) := by decide +kernel
theorem dX11_carryAll_16 : decode cX11_carryAll 16 = .ok (.iinc 2 1, 3) := by decide +kernel
theorem dX11_carryAll_19 : decode cX11_carryAll 19 = .ok (.goto (-17), 3) := by decide +kernel
theorem dX11_carryAll_22 : decode cX11_carryAll 22 = .ok (.iconst 0, 1) := by decide +kernel
theorem dX11_carryAll_23 : decode cX11_carryAll 23 = .ok (.istore_n 2, 1) := by decide +kernel
theorem dX11_carryAll_24 : decode cX11_carryAll 24 = .ok (.iload_n 2, 1) := by decide +kernel
theorem dX11_carryAll_25 : decode cX11_carryAll 25 = .ok (.sipush 144, 3) := by decide +kernel
theorem dX11_carryAll_28 : decode cX11_carryAll 28 = .ok (.if_icmp .ge 131, 3) := by decide +kernel
theorem dX11_carryAll_31 : decode cX11_carryAll 31 = .ok (.iload_n 2, 1) := by decide +kernel
theorem dX11_carryAll_32 : decode cX11_carryAll 32 = .ok (.bipush 24, 2) := by decide +kernel
theorem dX11_carryAll_34 : decode cX11_carryAll 34 = .ok (.idiv, 1) := by decide +kernel
theorem dX11_carryAll_35 : decode cX11_carryAll 35 = .ok (.istore_n 3, 1) := by decide +kernel
theorem dX11_carryAll_36 : decode cX11_carryAll 36 = .ok (.iconst 0, 1) := by decide +kernel
theorem dX11_carryAll_37 : decode cX11_carryAll 37 = .ok (.istore 4, 2) := by decide +kernel
theorem dX11_carryAll_39 : decode cX11_carryAll 39 = .ok (.iload 4, 2) := by decide +kernel
theorem dX11_carryAll_41 : decode cX11_carryAll 41 = .ok (.bipush 60, 2) := by decide +kernel
theorem dX11_carryAll_43 : decode cX11_carryAll 43 = .ok (.if_icmp .gt 110, 3) := by decide +kernel
theorem dX11_carryAll_46 : decode cX11_carryAll 46 = .ok (.aload_n 0, 1) := by decide +kernel
theorem dX11_carryAll_47 : decode cX11_carryAll 47 = .ok (.getfield 79, 3) := by decide +kernel
theorem dX11_carryAll_50 : decode cX11_carryAll 50 = .ok (.iload_n 2, 1) := by decide +kernel
theorem dX11_carryAll_51 : decode cX11_carryAll 51 = .ok (.laload, 1) := by decide +kernel
theorem dX11_carryAll_52 : decode cX11_carryAll 52 = .ok (.lconst 0, 1) := by decide +kernel
theorem dX11_carryAll_53 : decode cX11_carryAll 53 = .ok (.lcmp, 1) := by decide +kernel
theorem dX11_carryAll_54 : decode cX11_carryAll 54 = .ok (.ifCond .eq 99, 3) := by decide +kernel
theorem dX11_carryAll_57 : decode cX11_carryAll 57 = .ok (.aload_n 0, 1) := by decide +kernel
theorem dX11_carryAll_58 : decode cX11_carryAll 58 = .ok (.getfield 79, 3) := by decide +kernel
theorem dX11_carryAll_61 : decode cX11_carryAll 61 = .ok (.iload_n 2, 1) := by decide +kernel
theorem dX11_carryAll_62 : decode cX11_carryAll 62 = .ok (.laload, 1) := by decide +kernel
theorem dX11_carryAll_63 : decode cX11_carryAll 63 = .ok (.iload 4, 2) := by decide +kernel
theorem dX11_carryAll_65 : decode cX11_carryAll 65 = .ok (.lshr, 1) := by decide +kernel
theorem dX11_carryAll_66 : decode cX11_carryAll 66 = .ok (.lconst 1, 1) := by decide +kernel
theorem dX11_carryAll_67 : decode cX11_carryAll 67 = .ok (.land, 1) := by decide +kernel
theorem dX11_carryAll_68 : decode cX11_carryAll 68 = .ok (.lconst 1, 1) := by decide +kernel
theorem dX11_carryAll_69 : decode cX11_carryAll 69 = .ok (.lcmp, 1) := by decide +kernel
theorem dX11_carryAll_70 : decode cX11_carryAll 70 = .ok (.ifCond .ne 77, 3) := by decide +kernel
theorem dX11_carryAll_73 : decode cX11_carryAll 73 = .ok (.aload_n 0, 1) := by decide +kernel
theorem dX11_carryAll_74 : decode cX11_carryAll 74 = .ok (.iload_n 1, 1) := by decide +kernel
theorem dX11_carryAll_75 : decode cX11_carryAll 75 = .ok (.iload_n 3, 1) := by decide +kernel
theorem dX11_carryAll_76 : decode cX11_carryAll 76 = .ok (.iload_n 2, 1) := by decide +kernel
theorem dX11_carryAll_77 : decode cX11_carryAll 77 = .ok (.bipush 24, 2) := by decide +kernel
theorem dX11_carryAll_79 : decode cX11_carryAll 79 = .ok (.irem, 1) := by decide +kernel
theorem dX11_carryAll_80 : decode cX11_carryAll 80 = .ok (.iload 4, 2) := by decide +kernel
theorem dX11_carryAll_82 : decode cX11_carryAll 82 = .ok (.invokevirtual 193, 3) := by decide +kernel
theorem dX11_carryAll_85 : decode cX11_carryAll 85 = .ok (.iload_n 3, 1) := by decide +kernel
theorem dX11_carryAll_86 : decode cX11_carryAll 86 = .ok (.ifCond .le 17, 3) := by decide +kernel
theorem dX11_carryAll_89 : decode cX11_carryAll 89 = .ok (.aload_n 0, 1) := by decide +kernel
theorem dX11_carryAll_90 : decode cX11_carryAll 90 = .ok (.iload_n 1, 1) := by decide +kernel
theorem dX11_carryAll_91 : decode cX11_carryAll 91 = .ok (.iload_n 3, 1) := by decide +kernel
theorem dX11_carryAll_92 : decode cX11_carryAll 92 = .ok (.iconst 1, 1) := by decide +kernel
theorem dX11_carryAll_93 : decode cX11_carryAll 93 = .ok (.isub, 1) := by decide +kernel
theorem dX11_carryAll_94 : decode cX11_carryAll 94 = .ok (.iload_n 2, 1) := by decide +kernel
theorem dX11_carryAll_95 : decode cX11_carryAll 95 = .ok (.bipush 24, 2) := by decide +kernel
theorem dX11_carryAll_97 : decode cX11_carryAll 97 = .ok (.irem, 1) := by decide +kernel
theorem dX11_carryAll_98 : decode cX11_carryAll 98 = .ok (.iload 4, 2) := by decide +kernel
theorem dX11_carryAll_100 : decode cX11_carryAll 100 = .ok (.invokevirtual 193, 3) := by decide +kernel
theorem dX11_carryAll_103 : decode cX11_carryAll 103 = .ok (.iload_n 3, 1) := by decide +kernel
theorem dX11_carryAll_104 : decode cX11_carryAll 104 = .ok (.iconst 1, 1) := by decide +kernel
theorem dX11_carryAll_105 : decode cX11_carryAll 105 = .ok (.iadd, 1) := by decide +kernel
theorem dX11_carryAll_106 : decode cX11_carryAll 106 = .ok (.aload_n 0, 1) := by decide +kernel
theorem dX11_carryAll_107 : decode cX11_carryAll 107 = .ok (.getfield 13, 3) := by decide +kernel
theorem dX11_carryAll_110 : decode cX11_carryAll 110 = .ok (.iconst 0, 1) := by decide +kernel
theorem dX11_carryAll_111 : decode cX11_carryAll 111 = .ok (.iaload, 1) := by decide +kernel
theorem dX11_carryAll_112 : decode cX11_carryAll 112 = .ok (.if_icmp .ge 35, 3) := by decide +kernel
theorem dX11_carryAll_115 : decode cX11_carryAll 115 = .ok (.iload 4, 2) := by decide +kernel
theorem dX11_carryAll_117 : decode cX11_carryAll 117 = .ok (.aload_n 0, 1) := by decide +kernel
theorem dX11_carryAll_118 : decode cX11_carryAll 118 = .ok (.getfield 31, 3) := by decide +kernel
theorem dX11_carryAll_121 : decode cX11_carryAll 121 = .ok (.iload_n 1, 1) := by decide +kernel
theorem dX11_carryAll_122 : decode cX11_carryAll 122 = .ok (.iaload, 1) := by decide +kernel
theorem dX11_carryAll_123 : decode cX11_carryAll 123 = .ok (.if_icmp .lt 24, 3) := by decide +kernel
theorem dX11_carryAll_126 : decode cX11_carryAll 126 = .ok (.aload_n 0, 1) := by decide +kernel
theorem dX11_carryAll_127 : decode cX11_carryAll 127 = .ok (.iload_n 1, 1) := by decide +kernel
theorem dX11_carryAll_128 : decode cX11_carryAll 128 = .ok (.iload_n 3, 1) := by decide +kernel
theorem dX11_carryAll_129 : decode cX11_carryAll 129 = .ok (.iconst 1, 1) := by decide +kernel
theorem dX11_carryAll_130 : decode cX11_carryAll 130 = .ok (.iadd, 1) := by decide +kernel
theorem dX11_carryAll_131 : decode cX11_carryAll 131 = .ok (.iload_n 2, 1) := by decide +kernel
theorem dX11_carryAll_132 : decode cX11_carryAll 132 = .ok (.bipush 24, 2) := by decide +kernel
theorem dX11_carryAll_134 : decode cX11_carryAll 134 = .ok (.irem, 1) := by decide +kernel
theorem dX11_carryAll_135 : decode cX11_carryAll 135 = .ok (.iload 4, 2) := by decide +kernel
theorem dX11_carryAll_137 : decode cX11_carryAll 137 = .ok (.aload_n 0, 1) := by decide +kernel
theorem dX11_carryAll_138 : decode cX11_carryAll 138 = .ok (.getfield 31, 3) := by decide +kernel
theorem dX11_carryAll_141 : decode cX11_carryAll 141 = .ok (.iload_n 1, 1) := by decide +kernel
theorem dX11_carryAll_142 : decode cX11_carryAll 142 = .ok (.iaload, 1) := by decide +kernel
theorem dX11_carryAll_143 : decode cX11_carryAll 143 = .ok (.isub, 1) := by decide +kernel
theorem dX11_carryAll_144 : decode cX11_carryAll 144 = .ok (.invokevirtual 193, 3) := by decide +kernel
theorem dX11_carryAll_147 : decode cX11_carryAll 147 = .ok (.iinc 4 1, 3) := by decide +kernel
theorem dX11_carryAll_150 : decode cX11_carryAll 150 = .ok (.goto (-111), 3) := by decide +kernel
theorem dX11_carryAll_153 : decode cX11_carryAll 153 = .ok (.iinc 2 1, 3) := by decide +kernel
theorem dX11_carryAll_156 : decode cX11_carryAll 156 = .ok (.goto (-132), 3) := by decide +kernel
theorem dX11_carryAll_159 : decode cX11_carryAll 159 = .ok (.iconst 0, 1) := by decide +kernel
theorem dX11_carryAll_160 : decode cX11_carryAll 160 = .ok (.istore_n 2, 1) := by decide +kernel
theorem dX11_carryAll_161 : decode cX11_carryAll 161 = .ok (.iload_n 2, 1) := by decide +kernel
theorem dX11_carryAll_162 : decode cX11_carryAll 162 = .ok (.sipush 144, 3) := by decide +kernel
theorem dX11_carryAll_165 : decode cX11_carryAll 165 = .ok (.if_icmp .ge 21, 3) := by decide +kernel
theorem dX11_carryAll_168 : decode cX11_carryAll 168 = .ok (.aload_n 0, 1) := by decide +kernel
theorem dX11_carryAll_169 : decode cX11_carryAll 169 = .ok (.getfield 79, 3) := by decide +kernel
theorem dX11_carryAll_172 : decode cX11_carryAll 172 = .ok (.iload_n 2, 1) := by decide +kernel
theorem dX11_carryAll_173 : decode cX11_carryAll 173 = .ok (.aload_n 0, 1) := by decide +kernel
theorem dX11_carryAll_174 : decode cX11_carryAll 174 = .ok (.getfield 83, 3) := by decide +kernel
theorem dX11_carryAll_177 : decode cX11_carryAll 177 = .ok (.iload_n 2, 1) := by decide +kernel
theorem dX11_carryAll_178 : decode cX11_carryAll 178 = .ok (.laload, 1) := by decide +kernel
theorem dX11_carryAll_179 : decode cX11_carryAll 179 = .ok (.lastore, 1) := by decide +kernel
theorem dX11_carryAll_180 : decode cX11_carryAll 180 = .ok (.iinc 2 1, 3) := by decide +kernel
theorem dX11_carryAll_183 : decode cX11_carryAll 183 = .ok (.goto (-22), 3) := by decide +kernel
theorem dX11_carryAll_186 : decode cX11_carryAll 186 = .ok (.return_, 1) := by decide +kernel
theorem dX11_highest_0 : decode cX11_highest 0 = .ok (.bipush 60, 2) := by decide +kernel
theorem dX11_highest_2 : decode cX11_highest 2 = .ok (.istore_n 2, 1) := by decide +kernel
theorem dX11_highest_3 : decode cX11_highest 3 = .ok (.lload_n 0, 1) := by decide +kernel
theorem dX11_highest_4 : decode cX11_highest 4 = .ok (.iload_n 2, 1) := by decide +kernel
theorem dX11_highest_5 : decode cX11_highest 5 = .ok (.lshr, 1) := by decide +kernel
theorem dX11_highest_6 : decode cX11_highest 6 = .ok (.lconst 1, 1) := by decide +kernel
theorem dX11_highest_7 : decode cX11_highest 7 = .ok (.land, 1) := by decide +kernel
theorem dX11_highest_8 : decode cX11_highest 8 = .ok (.lconst 0, 1) := by decide +kernel
theorem dX11_highest_9 : decode cX11_highest 9 = .ok (.lcmp, 1) := by decide +kernel
theorem dX11_highest_10 : decode cX11_highest 10 = .ok (.ifCond .ne 9, 3) := by decide +kernel
theorem dX11_highest_13 : decode cX11_highest 13 = .ok (.iinc 2 (-1), 3) := by decide +kernel
theorem dX11_highest_16 : decode cX11_highest 16 = .ok (.goto (-13), 3) := by decide +kernel
theorem dX11_highest_19 : decode cX11_highest 19 = .ok (.iload_n 2, 1) := by decide +kernel
theorem dX11_highest_20 : decode cX11_highest 20 = .ok (.ireturn, 1) := by decide +kernel
theorem dX11_catches_0 : decode cX11_catches 0 = .ok (.aload_n 0, 1) := by decide +kernel
theorem dX11_catches_1 : decode cX11_catches 1 = .ok (.iload_n 1, 1) := by decide +kernel
theorem dX11_catches_2 : decode cX11_catches 2 = .ok (.invokevirtual 180, 3) := by decide +kernel
theorem dX11_catches_5 : decode cX11_catches 5 = .ok (.ifCond .eq 26, 3) := by decide +kernel
theorem dX11_catches_8 : decode cX11_catches 8 = .ok (.aload_n 0, 1) := by decide +kernel
theorem dX11_catches_9 : decode cX11_catches 9 = .ok (.iload_n 2, 1) := by decide +kernel
theorem dX11_catches_10 : decode cX11_catches 10 = .ok (.invokevirtual 180, 3) := by decide +kernel
theorem dX11_catches_13 : decode cX11_catches 13 = .ok (.ifCond .eq 18, 3) := by decide +kernel
theorem dX11_catches_16 : decode cX11_catches 16 = .ok (.iload_n 1, 1) := by decide +kernel
theorem dX11_catches_17 : decode cX11_catches 17 = .ok (.iload_n 2, 1) := by decide +kernel
theorem dX11_catches_18 : decode cX11_catches 18 = .ok (.if_icmp .eq 13, 3) := by decide +kernel
theorem dX11_catches_21 : decode cX11_catches 21 = .ok (.iload_n 3, 1) := by decide +kernel
theorem dX11_catches_22 : decode cX11_catches 22 = .ok (.i2l, 1) := by decide +kernel
theorem dX11_catches_23 : decode cX11_catches 23 = .ok (.lconst 0, 1) := by decide +kernel
theorem dX11_catches_24 : decode cX11_catches 24 = .ok (.lconst 1, 1) := by decide +kernel
theorem dX11_catches_25 : decode cX11_catches 25 = .ok (.invokestatic 97, 3) := by decide +kernel
theorem dX11_catches_28 : decode cX11_catches 28 = .ok (.ifCond .ne 5, 3) := by decide +kernel
theorem dX11_catches_31 : decode cX11_catches 31 = .ok (.iconst (-1), 1) := by decide +kernel
theorem dX11_catches_32 : decode cX11_catches 32 = .ok (.ireturn, 1) := by decide +kernel
theorem dX11_catches_33 : decode cX11_catches 33 = .ok (.iconst 0, 1) := by decide +kernel
theorem dX11_catches_34 : decode cX11_catches 34 = .ok (.istore 4, 2) := by decide +kernel
theorem dX11_catches_36 : decode cX11_catches 36 = .ok (.iload 4, 2) := by decide +kernel
theorem dX11_catches_38 : decode cX11_catches 38 = .ok (.sipush 144, 3) := by decide +kernel
theorem dX11_catches_41 : decode cX11_catches 41 = .ok (.if_icmp .ge 17, 3) := by decide +kernel
theorem dX11_catches_44 : decode cX11_catches 44 = .ok (.aload_n 0, 1) := by decide +kernel
theorem dX11_catches_45 : decode cX11_catches 45 = .ok (.getfield 79, 3) := by decide +kernel
theorem dX11_catches_48 : decode cX11_catches 48 = .ok (.iload 4, 2) := by decide +kernel
theorem dX11_catches_50 : decode cX11_catches 50 = .ok (.lconst 0, 1) := by decide +kernel
theorem dX11_catches_51 : decode cX11_catches 51 = .ok (.lastore, 1) := by decide +kernel
theorem dX11_catches_52 : decode cX11_catches 52 = .ok (.iinc 4 1, 3) := by decide +kernel
theorem dX11_catches_55 : decode cX11_catches 55 = .ok (.goto (-19), 3) := by decide +kernel
theorem dX11_catches_58 : decode cX11_catches 58 = .ok (.aload_n 0, 1) := by decide +kernel
theorem dX11_catches_59 : decode cX11_catches 59 = .ok (.invokevirtual 170, 3) := by decide +kernel
theorem dX11_catches_62 : decode cX11_catches 62 = .ok (.aload_n 0, 1) := by decide +kernel
theorem dX11_catches_63 : decode cX11_catches 63 = .ok (.getfield 79, 3) := by decide +kernel
theorem dX11_catches_66 : decode cX11_catches 66 = .ok (.bipush 24, 2) := by decide +kernel
theorem dX11_catches_68 : decode cX11_catches 68 = .ok (.aload_n 0, 1) := by decide +kernel
theorem dX11_catches_69 : decode cX11_catches 69 = .ok (.getfield 67, 3) := by decide +kernel
theorem dX11_catches_72 : decode cX11_catches 72 = .ok (.iload_n 1, 1) := by decide +kernel
theorem dX11_catches_73 : decode cX11_catches 73 = .ok (.iaload, 1) := by decide +kernel
theorem dX11_catches_74 : decode cX11_catches 74 = .ok (.imul, 1) := by decide +kernel
theorem dX11_catches_75 : decode cX11_catches 75 = .ok (.aload_n 0, 1) := by decide +kernel
theorem dX11_catches_76 : decode cX11_catches 76 = .ok (.getfield 70, 3) := by decide +kernel
theorem dX11_catches_79 : decode cX11_catches 79 = .ok (.iload_n 1, 1) := by decide +kernel
theorem dX11_catches_80 : decode cX11_catches 80 = .ok (.iaload, 1) := by decide +kernel
theorem dX11_catches_81 : decode cX11_catches 81 = .ok (.iadd, 1) := by decide +kernel
theorem dX11_catches_82 : decode cX11_catches 82 = .ok (.lconst 1, 1) := by decide +kernel
theorem dX11_catches_83 : decode cX11_catches 83 = .ok (.aload_n 0, 1) := by decide +kernel
theorem dX11_catches_84 : decode cX11_catches 84 = .ok (.getfield 73, 3) := by decide +kernel
theorem dX11_catches_87 : decode cX11_catches 87 = .ok (.iload_n 1, 1) := by decide +kernel
theorem dX11_catches_88 : decode cX11_catches 88 = .ok (.iaload, 1) := by decide +kernel
theorem dX11_catches_89 : decode cX11_catches 89 = .ok (.lshl, 1) := by decide +kernel
theorem dX11_catches_90 : decode cX11_catches 90 = .ok (.lastore, 1) := by decide +kernel
theorem dX11_catches_91 : decode cX11_catches 91 = .ok (.iconst 1, 1) := by decide +kernel
theorem dX11_catches_92 : decode cX11_catches 92 = .ok (.istore 4, 2) := by decide +kernel
theorem dX11_catches_94 : decode cX11_catches 94 = .ok (.iload 4, 2) := by decide +kernel
theorem dX11_catches_96 : decode cX11_catches 96 = .ok (.bipush 20, 2) := by decide +kernel
theorem dX11_catches_98 : decode cX11_catches 98 = .ok (.if_icmp .gt 89, 3) := by decide +kernel
theorem dX11_catches_101 : decode cX11_catches 101 = .ok (.aload_n 0, 1) := by decide +kernel
theorem dX11_catches_102 : decode cX11_catches 102 = .ok (.iload_n 1, 1) := by decide +kernel
theorem dX11_catches_103 : decode cX11_catches 103 = .ok (.invokevirtual 196, 3) := by decide +kernel
theorem dX11_catches_106 : decode cX11_catches 106 = .ok (.aload_n 0, 1) := by decide +kernel
theorem dX11_catches_107 : decode cX11_catches 107 = .ok (.invokevirtual 173, 3) := by decide +kernel
theorem dX11_catches_110 : decode cX11_catches 110 = .ok (.aload_n 0, 1) := by decide +kernel
theorem dX11_catches_111 : decode cX11_catches 111 = .ok (.getfield 67, 3) := by decide +kernel
theorem dX11_catches_114 : decode cX11_catches 114 = .ok (.iload_n 2, 1) := by decide +kernel
theorem dX11_catches_115 : decode cX11_catches 115 = .ok (.iaload, 1) := by decide +kernel
theorem dX11_catches_116 : decode cX11_catches 116 = .ok (.bipush 9, 2) := by decide +kernel
theorem dX11_catches_118 : decode cX11_catches 118 = .ok (.if_icmp .eq 63, 3) := by decide +kernel
theorem dX11_catches_121 : decode cX11_catches 121 = .ok (.aload_n 0, 1) := by decide +kernel
theorem dX11_catches_122 : decode cX11_catches 122 = .ok (.getfield 79, 3) := by decide +kernel
theorem dX11_catches_125 : decode cX11_catches 125 = .ok (.bipush 24, 2) := by decide +kernel
theorem dX11_catches_127 : decode cX11_catches 127 = .ok (.aload_n 0, 1) := by decide +kernel
theorem dX11_catches_128 : decode cX11_catches 128 = .ok (.getfield 67, 3) := by decide +kernel
theorem dX11_catches_131 : decode cX11_catches 131 = .ok (.iload_n 2, 1) := by decide +kernel
theorem dX11_catches_132 : decode cX11_catches 132 = .ok (.iaload, 1) := by decide +kernel
theorem dX11_catches_133 : decode cX11_catches 133 = .ok (.imul, 1) := by decide +kernel
theorem dX11_catches_134 : decode cX11_catches 134 = .ok (.aload_n 0, 1) := by decide +kernel
theorem dX11_catches_135 : decode cX11_catches 135 = .ok (.getfield 70, 3) := by decide +kernel
theorem dX11_catches_138 : decode cX11_catches 138 = .ok (.iload_n 2, 1) := by decide +kernel
theorem dX11_catches_139 : decode cX11_catches 139 = .ok (.iaload, 1) := by decide +kernel
theorem dX11_catches_140 : decode cX11_catches 140 = .ok (.iadd, 1) := by decide +kernel
theorem dX11_catches_141 : decode cX11_catches 141 = .ok (.laload, 1) := by decide +kernel
theorem dX11_catches_142 : decode cX11_catches 142 = .ok (.lconst 0, 1) := by decide +kernel
theorem dX11_catches_143 : decode cX11_catches 143 = .ok (.lcmp, 1) := by decide +kernel
theorem dX11_catches_144 : decode cX11_catches 144 = .ok (.ifCond .eq 37, 3) := by decide +kernel
theorem dX11_catches_147 : decode cX11_catches 147 = .ok (.iload_n 3, 1) := by decide +kernel
theorem dX11_catches_148 : decode cX11_catches 148 = .ok (.ifCond .ne 8, 3) := by decide +kernel
theorem dX11_catches_151 : decode cX11_catches 151 = .ok (.iload 4, 2) := by decide +kernel
theorem dX11_catches_153 : decode cX11_catches 153 = .ok (.goto 27, 3) := by decide +kernel
theorem dX11_catches_156 : decode cX11_catches 156 = .ok (.aload_n 0, 1) := by decide +kernel
theorem dX11_catches_157 : decode cX11_catches 157 = .ok (.getfield 79, 3) := by decide +kernel
theorem dX11_catches_160 : decode cX11_catches 160 = .ok (.bipush 24, 2) := by decide +kernel
theorem dX11_catches_162 : decode cX11_catches 162 = .ok (.aload_n 0, 1) := by decide +kernel
theorem dX11_catches_163 : decode cX11_catches 163 = .ok (.getfield 67, 3) := by decide +kernel
theorem dX11_catches_166 : decode cX11_catches 166 = .ok (.iload_n 2, 1) := by decide +kernel
theorem dX11_catches_167 : decode cX11_catches 167 = .ok (.iaload, 1) := by decide +kernel
theorem dX11_catches_168 : decode cX11_catches 168 = .ok (.imul, 1) := by decide +kernel
theorem dX11_catches_169 : decode cX11_catches 169 = .ok (.aload_n 0, 1) := by decide +kernel
theorem dX11_catches_170 : decode cX11_catches 170 = .ok (.getfield 70, 3) := by decide +kernel
theorem dX11_catches_173 : decode cX11_catches 173 = .ok (.iload_n 2, 1) := by decide +kernel
theorem dX11_catches_174 : decode cX11_catches 174 = .ok (.iaload, 1) := by decide +kernel
theorem dX11_catches_175 : decode cX11_catches 175 = .ok (.iadd, 1) := by decide +kernel
theorem dX11_catches_176 : decode cX11_catches 176 = .ok (.laload, 1) := by decide +kernel
theorem dX11_catches_177 : decode cX11_catches 177 = .ok (.invokestatic 199, 3) := by decide +kernel
theorem dX11_catches_180 : decode cX11_catches 180 = .ok (.ireturn, 1) := by decide +kernel
theorem dX11_catches_181 : decode cX11_catches 181 = .ok (.iinc 4 1, 3) := by decide +kernel
theorem dX11_catches_184 : decode cX11_catches 184 = .ok (.goto (-90), 3) := by decide +kernel
theorem dX11_catches_187 : decode cX11_catches 187 = .ok (.bipush (-4), 2) := by decide +kernel
theorem dX11_catches_189 : decode cX11_catches 189 = .ok (.ireturn, 1) := by decide +kernel
theorem dX11_keeps_0 : decode cX11_keeps 0 = .ok (.aload_n 0, 1) := by decide +kernel
theorem dX11_keeps_1 : decode cX11_keeps 1 = .ok (.iload_n 1, 1) := by decide +kernel
theorem dX11_keeps_2 : decode cX11_keeps 2 = .ok (.invokevirtual 180, 3) := by decide +kernel
theorem dX11_keeps_5 : decode cX11_keeps 5 = .ok (.ifCond .eq 25, 3) := by decide +kernel
theorem dX11_keeps_8 : decode cX11_keeps 8 = .ok (.iload_n 2, 1) := by decide +kernel
theorem dX11_keeps_9 : decode cX11_keeps 9 = .ok (.i2l, 1) := by decide +kernel
theorem dX11_keeps_10 : decode cX11_keeps 10 = .ok (.lconst 0, 1) := by decide +kernel
theorem dX11_keeps_11 : decode cX11_keeps 11 = .ok (.ldc2_w 130, 3) := by decide +kernel
theorem dX11_keeps_14 : decode cX11_keeps 14 = .ok (.invokestatic 97, 3) := by decide +kernel
theorem dX11_keeps_17 : decode cX11_keeps 17 = .ok (.ifCond .eq 13, 3) := by decide +kernel
theorem dX11_keeps_20 : decode cX11_keeps 20 = .ok (.iload_n 3, 1) := by decide +kernel
theorem dX11_keeps_21 : decode cX11_keeps 21 = .ok (.i2l, 1) := by decide +kernel
theorem dX11_keeps_22 : decode cX11_keeps 22 = .ok (.lconst 0, 1) := by decide +kernel
theorem dX11_keeps_23 : decode cX11_keeps 23 = .ok (.lconst 1, 1) := by decide +kernel
theorem dX11_keeps_24 : decode cX11_keeps 24 = .ok (.invokestatic 97, 3) := by decide +kernel
theorem dX11_keeps_27 : decode cX11_keeps 27 = .ok (.ifCond .ne 5, 3) := by decide +kernel
theorem dX11_keeps_30 : decode cX11_keeps 30 = .ok (.iconst (-1), 1) := by decide +kernel
theorem dX11_keeps_31 : decode cX11_keeps 31 = .ok (.ireturn, 1) := by decide +kernel
theorem dX11_keeps_32 : decode cX11_keeps 32 = .ok (.aload_n 0, 1) := by decide +kernel
theorem dX11_keeps_33 : decode cX11_keeps 33 = .ok (.getfield 25, 3) := by decide +kernel
theorem dX11_keeps_36 : decode cX11_keeps 36 = .ok (.iload_n 1, 1) := by decide +kernel
theorem dX11_keeps_37 : decode cX11_keeps 37 = .ok (.iaload, 1) := by decide +kernel
theorem dX11_keeps_38 : decode cX11_keeps 38 = .ok (.istore 4, 2) := by decide +kernel
theorem dX11_keeps_40 : decode cX11_keeps 40 = .ok (.iconst 0, 1) := by decide +kernel
theorem dX11_keeps_41 : decode cX11_keeps 41 = .ok (.istore 5, 2) := by decide +kernel
theorem dX11_keeps_43 : decode cX11_keeps 43 = .ok (.bipush (-4), 2) := by decide +kernel
theorem dX11_keeps_45 : decode cX11_keeps 45 = .ok (.istore 6, 2) := by decide +kernel
theorem dX11_keeps_47 : decode cX11_keeps 47 = .ok (.iconst 0, 1) := by decide +kernel
theorem dX11_keeps_48 : decode cX11_keeps 48 = .ok (.istore 7, 2) := by decide +kernel
theorem dX11_keeps_50 : decode cX11_keeps 50 = .ok (.iload 7, 2) := by decide +kernel
theorem dX11_keeps_52 : decode cX11_keeps 52 = .ok (.aload_n 0, 1) := by decide +kernel
theorem dX11_keeps_53 : decode cX11_keeps 53 = .ok (.getfield 13, 3) := by decide +kernel
theorem dX11_keeps_56 : decode cX11_keeps 56 = .ok (.iconst 0, 1) := by decide +kernel
theorem dX11_keeps_57 : decode cX11_keeps 57 = .ok (.iaload, 1) := by decide +kernel
theorem dX11_keeps_58 : decode cX11_keeps 58 = .ok (.if_icmp .ge 66, 3) := by decide +kernel
theorem dX11_keeps_61 : decode cX11_keeps 61 = .ok (.aload_n 0, 1) := by decide +kernel
theorem dX11_keeps_62 : decode cX11_keeps 62 = .ok (.getfield 25, 3) := by decide +kernel
theorem dX11_keeps_65 : decode cX11_keeps 65 = .ok (.iload_n 1, 1) := by decide +kernel
theorem dX11_keeps_66 : decode cX11_keeps 66 = .ok (.iload 7, 2) := by decide +kernel
theorem dX11_keeps_68 : decode cX11_keeps 68 = .ok (.iastore, 1) := by decide +kernel
theorem dX11_keeps_69 : decode cX11_keeps 69 = .ok (.aload_n 0, 1) := by decide +kernel
theorem dX11_keeps_70 : decode cX11_keeps 70 = .ok (.iload_n 2, 1) := by decide +kernel
theorem dX11_keeps_71 : decode cX11_keeps 71 = .ok (.invokevirtual 183, 3) := by decide +kernel
theorem dX11_keeps_74 : decode cX11_keeps 74 = .ok (.aload_n 0, 1) := by decide +kernel
theorem dX11_keeps_75 : decode cX11_keeps 75 = .ok (.getfield 73, 3) := by decide +kernel
theorem dX11_keeps_78 : decode cX11_keeps 78 = .ok (.iload_n 1, 1) := by decide +kernel
theorem dX11_keeps_79 : decode cX11_keeps 79 = .ok (.iaload, 1) := by decide +kernel
theorem dX11_keeps_80 : decode cX11_keeps 80 = .ok (.iload 6, 2) := by decide +kernel
theorem dX11_keeps_82 : decode cX11_keeps 82 = .ok (.if_icmp .le 8, 3) := by decide +kernel
theorem dX11_keeps_85 : decode cX11_keeps 85 = .ok (.iload 7, 2) := by decide +kernel
theorem dX11_keeps_87 : decode cX11_keeps 87 = .ok (.goto 5, 3) := by decide +kernel
theorem dX11_keeps_90 : decode cX11_keeps 90 = .ok (.iload 5, 2) := by decide +kernel
theorem dX11_keeps_92 : decode cX11_keeps 92 = .ok (.istore 5, 2) := by decide +kernel
theorem dX11_keeps_94 : decode cX11_keeps 94 = .ok (.aload_n 0, 1) := by decide +kernel
theorem dX11_keeps_95 : decode cX11_keeps 95 = .ok (.getfield 73, 3) := by decide +kernel
theorem dX11_keeps_98 : decode cX11_keeps 98 = .ok (.iload_n 1, 1) := by decide +kernel
theorem dX11_keeps_99 : decode cX11_keeps 99 = .ok (.iaload, 1) := by decide +kernel
theorem dX11_keeps_100 : decode cX11_keeps 100 = .ok (.iload 6, 2) := by decide +kernel
theorem dX11_keeps_102 : decode cX11_keeps 102 = .ok (.if_icmp .le 12, 3) := by decide +kernel
theorem dX11_keeps_105 : decode cX11_keeps 105 = .ok (.aload_n 0, 1) := by decide +kernel
theorem dX11_keeps_106 : decode cX11_keeps 106 = .ok (.getfield 73, 3) := by decide +kernel
theorem dX11_keeps_109 : decode cX11_keeps 109 = .ok (.iload_n 1, 1) := by decide +kernel
theorem dX11_keeps_110 : decode cX11_keeps 110 = .ok (.iaload, 1) := by decide +kernel
theorem dX11_keeps_111 : decode cX11_keeps 111 = .ok (.goto 5, 3) := by decide +kernel
theorem dX11_keeps_114 : decode cX11_keeps 114 = .ok (.iload 6, 2) := by decide +kernel
theorem dX11_keeps_116 : decode cX11_keeps 116 = .ok (.istore 6, 2) := by decide +kernel
theorem dX11_keeps_118 : decode cX11_keeps 118 = .ok (.iinc 7 1, 3) := by decide +kernel
theorem dX11_keeps_121 : decode cX11_keeps 121 = .ok (.goto (-71), 3) := by decide +kernel
theorem dX11_keeps_124 : decode cX11_keeps 124 = .ok (.aload_n 0, 1) := by decide +kernel
theorem dX11_keeps_125 : decode cX11_keeps 125 = .ok (.getfield 25, 3) := by decide +kernel
theorem dX11_keeps_128 : decode cX11_keeps 128 = .ok (.iload_n 1, 1) := by decide +kernel
theorem dX11_keeps_129 : decode cX11_keeps 129 = .ok (.iload 4, 2) := by decide +kernel
theorem dX11_keeps_131 : decode cX11_keeps 131 = .ok (.iastore, 1) := by decide +kernel
theorem dX11_keeps_132 : decode cX11_keeps 132 = .ok (.iload_n 3, 1) := by decide +kernel
theorem dX11_keeps_133 : decode cX11_keeps 133 = .ok (.ifCond .ne 8, 3) := by decide +kernel
theorem dX11_keeps_136 : decode cX11_keeps 136 = .ok (.iload 5, 2) := by decide +kernel
theorem dX11_keeps_138 : decode cX11_keeps 138 = .ok (.goto 5, 3) := by decide +kernel
theorem dX11_keeps_141 : decode cX11_keeps 141 = .ok (.iload 6, 2) := by decide +kernel
theorem dX11_keeps_143 : decode cX11_keeps 143 = .ok (.ireturn, 1) := by decide +kernel
theorem dX11_tradesOf_0 : decode cX11_tradesOf 0 = .ok (.aload_n 0, 1) := by decide +kernel
theorem dX11_tradesOf_1 : decode cX11_tradesOf 1 = .ok (.invokevirtual 170, 3) := by decide +kernel
theorem dX11_tradesOf_4 : decode cX11_tradesOf 4 = .ok (.iconst 0, 1) := by decide +kernel
theorem dX11_tradesOf_5 : decode cX11_tradesOf 5 = .ok (.istore_n 3, 1) := by decide +kernel
theorem dX11_tradesOf_6 : decode cX11_tradesOf 6 = .ok (.aload_n 0, 1) := by decide +kernel
theorem dX11_tradesOf_7 : decode cX11_tradesOf 7 = .ok (.getfield 159, 3) := by decide +kernel
theorem dX11_tradesOf_10 : decode cX11_tradesOf 10 = .ok (.iload_n 2, 1) := by decide +kernel
theorem dX11_tradesOf_11 : decode cX11_tradesOf 11 = .ok (.if_icmp .ge 54, 3) := by decide +kernel
theorem dX11_tradesOf_14 : decode cX11_tradesOf 14 = .ok (.aload_n 0, 1) := by decide +kernel
theorem dX11_tradesOf_15 : decode cX11_tradesOf 15 = .ok (.invokevirtual 173, 3) := by decide +kernel
theorem dX11_tradesOf_18 : decode cX11_tradesOf 18 = .ok (.iconst 0, 1) := by decide +kernel
theorem dX11_tradesOf_19 : decode cX11_tradesOf 19 = .ok (.istore 4, 2) := by decide +kernel
theorem dX11_tradesOf_21 : decode cX11_tradesOf 21 = .ok (.iload 4, 2) := by decide +kernel
theorem dX11_tradesOf_23 : decode cX11_tradesOf 23 = .ok (.aload_n 0, 1) := by decide +kernel
theorem dX11_tradesOf_24 : decode cX11_tradesOf 24 = .ok (.getfield 22, 3) := by decide +kernel
theorem dX11_tradesOf_27 : decode cX11_tradesOf 27 = .ok (.iconst 0, 1) := by decide +kernel
theorem dX11_tradesOf_28 : decode cX11_tradesOf 28 = .ok (.iaload, 1) := by decide +kernel
theorem dX11_tradesOf_29 : decode cX11_tradesOf 29 = .ok (.if_icmp .ge 33, 3) := by decide +kernel
theorem dX11_tradesOf_32 : decode cX11_tradesOf 32 = .ok (.iload_n 3, 1) := by decide +kernel
theorem dX11_tradesOf_33 : decode cX11_tradesOf 33 = .ok (.iload 4, 2) := by decide +kernel
theorem dX11_tradesOf_35 : decode cX11_tradesOf 35 = .ok (.iload_n 1, 1) := by decide +kernel
theorem dX11_tradesOf_36 : decode cX11_tradesOf 36 = .ok (.if_icmp .eq 17, 3) := by decide +kernel
theorem dX11_tradesOf_39 : decode cX11_tradesOf 39 = .ok (.aload_n 0, 1) := by decide +kernel
theorem dX11_tradesOf_40 : decode cX11_tradesOf 40 = .ok (.iload_n 1, 1) := by decide +kernel
theorem dX11_tradesOf_41 : decode cX11_tradesOf 41 = .ok (.iload 4, 2) := by decide +kernel
theorem dX11_tradesOf_43 : decode cX11_tradesOf 43 = .ok (.invokevirtual 176, 3) := by decide +kernel
theorem dX11_tradesOf_46 : decode cX11_tradesOf 46 = .ok (.ifCond .eq 7, 3) := by decide +kernel
theorem dX11_tradesOf_49 : decode cX11_tradesOf 49 = .ok (.iconst 1, 1) := by decide +kernel
theorem dX11_tradesOf_50 : decode cX11_tradesOf 50 = .ok (.goto 4, 3) := by decide +kernel
theorem dX11_tradesOf_53 : decode cX11_tradesOf 53 = .ok (.iconst 0, 1) := by decide +kernel
theorem dX11_tradesOf_54 : decode cX11_tradesOf 54 = .ok (.iadd, 1) := by decide +kernel
theorem dX11_tradesOf_55 : decode cX11_tradesOf 55 = .ok (.istore_n 3, 1) := by decide +kernel
theorem dX11_tradesOf_56 : decode cX11_tradesOf 56 = .ok (.iinc 4 1, 3) := by decide +kernel
theorem dX11_tradesOf_59 : decode cX11_tradesOf 59 = .ok (.goto (-38), 3) := by decide +kernel
theorem dX11_tradesOf_62 : decode cX11_tradesOf 62 = .ok (.goto (-56), 3) := by decide +kernel
theorem dX11_tradesOf_65 : decode cX11_tradesOf 65 = .ok (.iload_n 3, 1) := by decide +kernel
theorem dX11_tradesOf_66 : decode cX11_tradesOf 66 = .ok (.ireturn, 1) := by decide +kernel
theorem dX11_trades_0 : decode cX11_trades 0 = .ok (.aload_n 0, 1) := by decide +kernel
theorem dX11_trades_1 : decode cX11_trades 1 = .ok (.iload_n 1, 1) := by decide +kernel
theorem dX11_trades_2 : decode cX11_trades 2 = .ok (.invokevirtual 180, 3) := by decide +kernel
theorem dX11_trades_5 : decode cX11_trades 5 = .ok (.ifCond .eq 25, 3) := by decide +kernel
theorem dX11_trades_8 : decode cX11_trades 8 = .ok (.iload_n 2, 1) := by decide +kernel
theorem dX11_trades_9 : decode cX11_trades 9 = .ok (.i2l, 1) := by decide +kernel
theorem dX11_trades_10 : decode cX11_trades 10 = .ok (.lconst 1, 1) := by decide +kernel
theorem dX11_trades_11 : decode cX11_trades 11 = .ok (.ldc2_w 130, 3) := by decide +kernel
theorem dX11_trades_14 : decode cX11_trades 14 = .ok (.invokestatic 97, 3) := by decide +kernel
theorem dX11_trades_17 : decode cX11_trades 17 = .ok (.ifCond .eq 13, 3) := by decide +kernel
theorem dX11_trades_20 : decode cX11_trades 20 = .ok (.iload_n 3, 1) := by decide +kernel
theorem dX11_trades_21 : decode cX11_trades 21 = .ok (.i2l, 1) := by decide +kernel
theorem dX11_trades_22 : decode cX11_trades 22 = .ok (.lconst 0, 1) := by decide +kernel
theorem dX11_trades_23 : decode cX11_trades 23 = .ok (.lconst 1, 1) := by decide +kernel
theorem dX11_trades_24 : decode cX11_trades 24 = .ok (.invokestatic 97, 3) := by decide +kernel
theorem dX11_trades_27 : decode cX11_trades 27 = .ok (.ifCond .ne 5, 3) := by decide +kernel
theorem dX11_trades_30 : decode cX11_trades 30 = .ok (.iconst (-1), 1) := by decide +kernel
theorem dX11_trades_31 : decode cX11_trades 31 = .ok (.ireturn, 1) := by decide +kernel
theorem dX11_trades_32 : decode cX11_trades 32 = .ok (.aload_n 0, 1) := by decide +kernel
theorem dX11_trades_33 : decode cX11_trades 33 = .ok (.getfield 25, 3) := by decide +kernel
theorem dX11_trades_36 : decode cX11_trades 36 = .ok (.iload_n 1, 1) := by decide +kernel
theorem dX11_trades_37 : decode cX11_trades 37 = .ok (.iaload, 1) := by decide +kernel
theorem dX11_trades_38 : decode cX11_trades 38 = .ok (.istore 4, 2) := by decide +kernel
theorem dX11_trades_40 : decode cX11_trades 40 = .ok (.iconst 0, 1) := by decide +kernel
theorem dX11_trades_41 : decode cX11_trades 41 = .ok (.istore 5, 2) := by decide +kernel
theorem dX11_trades_43 : decode cX11_trades 43 = .ok (.bipush (-4), 2) := by decide +kernel
theorem dX11_trades_45 : decode cX11_trades 45 = .ok (.istore 6, 2) := by decide +kernel
theorem dX11_trades_47 : decode cX11_trades 47 = .ok (.iconst 0, 1) := by decide +kernel
theorem dX11_trades_48 : decode cX11_trades 48 = .ok (.istore 7, 2) := by decide +kernel
theorem dX11_trades_50 : decode cX11_trades 50 = .ok (.iload 7, 2) := by decide +kernel
theorem dX11_trades_52 : decode cX11_trades 52 = .ok (.aload_n 0, 1) := by decide +kernel
theorem dX11_trades_53 : decode cX11_trades 53 = .ok (.getfield 13, 3) := by decide +kernel
theorem dX11_trades_56 : decode cX11_trades 56 = .ok (.iconst 0, 1) := by decide +kernel
theorem dX11_trades_57 : decode cX11_trades 57 = .ok (.iaload, 1) := by decide +kernel
theorem dX11_trades_58 : decode cX11_trades 58 = .ok (.if_icmp .ge 57, 3) := by decide +kernel
theorem dX11_trades_61 : decode cX11_trades 61 = .ok (.aload_n 0, 1) := by decide +kernel
theorem dX11_trades_62 : decode cX11_trades 62 = .ok (.getfield 25, 3) := by decide +kernel
theorem dX11_trades_65 : decode cX11_trades 65 = .ok (.iload_n 1, 1) := by decide +kernel
theorem dX11_trades_66 : decode cX11_trades 66 = .ok (.iload 7, 2) := by decide +kernel
theorem dX11_trades_68 : decode cX11_trades 68 = .ok (.iastore, 1) := by decide +kernel
theorem dX11_trades_69 : decode cX11_trades 69 = .ok (.aload_n 0, 1) := by decide +kernel
theorem dX11_trades_70 : decode cX11_trades 70 = .ok (.iload_n 1, 1) := by decide +kernel
theorem dX11_trades_71 : decode cX11_trades 71 = .ok (.iload_n 2, 1) := by decide +kernel
theorem dX11_trades_72 : decode cX11_trades 72 = .ok (.invokevirtual 203, 3) := by decide +kernel
theorem dX11_trades_75 : decode cX11_trades 75 = .ok (.istore 8, 2) := by decide +kernel
theorem dX11_trades_77 : decode cX11_trades 77 = .ok (.iload 8, 2) := by decide +kernel
theorem dX11_trades_79 : decode cX11_trades 79 = .ok (.iload 6, 2) := by decide +kernel
theorem dX11_trades_81 : decode cX11_trades 81 = .ok (.if_icmp .le 8, 3) := by decide +kernel
theorem dX11_trades_84 : decode cX11_trades 84 = .ok (.iload 7, 2) := by decide +kernel
theorem dX11_trades_86 : decode cX11_trades 86 = .ok (.goto 5, 3) := by decide +kernel
theorem dX11_trades_89 : decode cX11_trades 89 = .ok (.iload 5, 2) := by decide +kernel
theorem dX11_trades_91 : decode cX11_trades 91 = .ok (.istore 5, 2) := by decide +kernel
theorem dX11_trades_93 : decode cX11_trades 93 = .ok (.iload 8, 2) := by decide +kernel
theorem dX11_trades_95 : decode cX11_trades 95 = .ok (.iload 6, 2) := by decide +kernel
theorem dX11_trades_97 : decode cX11_trades 97 = .ok (.if_icmp .le 8, 3) := by decide +kernel
theorem dX11_trades_100 : decode cX11_trades 100 = .ok (.iload 8, 2) := by decide +kernel
theorem dX11_trades_102 : decode cX11_trades 102 = .ok (.goto 5, 3) := by decide +kernel
theorem dX11_trades_105 : decode cX11_trades 105 = .ok (.iload 6, 2) := by decide +kernel
theorem dX11_trades_107 : decode cX11_trades 107 = .ok (.istore 6, 2) := by decide +kernel
theorem dX11_trades_109 : decode cX11_trades 109 = .ok (.iinc 7 1, 3) := by decide +kernel
theorem dX11_trades_112 : decode cX11_trades 112 = .ok (.goto (-62), 3) := by decide +kernel
theorem dX11_trades_115 : decode cX11_trades 115 = .ok (.aload_n 0, 1) := by decide +kernel
theorem dX11_trades_116 : decode cX11_trades 116 = .ok (.getfield 25, 3) := by decide +kernel
theorem dX11_trades_119 : decode cX11_trades 119 = .ok (.iload_n 1, 1) := by decide +kernel
theorem dX11_trades_120 : decode cX11_trades 120 = .ok (.iload 4, 2) := by decide +kernel
theorem dX11_trades_122 : decode cX11_trades 122 = .ok (.iastore, 1) := by decide +kernel
theorem dX11_trades_123 : decode cX11_trades 123 = .ok (.iload_n 3, 1) := by decide +kernel
theorem dX11_trades_124 : decode cX11_trades 124 = .ok (.ifCond .ne 8, 3) := by decide +kernel
theorem dX11_trades_127 : decode cX11_trades 127 = .ok (.iload 5, 2) := by decide +kernel
theorem dX11_trades_129 : decode cX11_trades 129 = .ok (.goto 5, 3) := by decide +kernel
theorem dX11_trades_132 : decode cX11_trades 132 = .ok (.iload 6, 2) := by decide +kernel
theorem dX11_trades_134 : decode cX11_trades 134 = .ok (.ireturn, 1) := by decide +kernel
theorem dX11_isPlace_0 : decode cX11_isPlace 0 = .ok (.iload_n 0, 1) := by decide +kernel
theorem dX11_isPlace_1 : decode cX11_isPlace 1 = .ok (.i2l, 1) := by decide +kernel
theorem dX11_isPlace_2 : decode cX11_isPlace 2 = .ok (.lconst 0, 1) := by decide +kernel
theorem dX11_isPlace_3 : decode cX11_isPlace 3 = .ok (.ldc2_w 207, 3) := by decide +kernel
theorem dX11_isPlace_6 : decode cX11_isPlace 6 = .ok (.invokestatic 97, 3) := by decide +kernel
theorem dX11_isPlace_9 : decode cX11_isPlace 9 = .ok (.ireturn, 1) := by decide +kernel
theorem dX11_dropped_0 : decode cX11_dropped 0 = .ok (.aload_n 0, 1) := by decide +kernel
theorem dX11_dropped_1 : decode cX11_dropped 1 = .ok (.iload_n 1, 1) := by decide +kernel
theorem dX11_dropped_2 : decode cX11_dropped 2 = .ok (.invokevirtual 156, 3) := by decide +kernel
theorem dX11_dropped_5 : decode cX11_dropped 5 = .ok (.ifCond .eq 33, 3) := by decide +kernel
theorem dX11_dropped_8 : decode cX11_dropped 8 = .ok (.iload_n 2, 1) := by decide +kernel
theorem dX11_dropped_9 : decode cX11_dropped 9 = .ok (.invokestatic 209, 3) := by decide +kernel
theorem dX11_dropped_12 : decode cX11_dropped 12 = .ok (.ifCond .eq 26, 3) := by decide +kernel
theorem dX11_dropped_15 : decode cX11_dropped 15 = .ok (.iload_n 3, 1) := by decide +kernel
theorem dX11_dropped_16 : decode cX11_dropped 16 = .ok (.i2l, 1) := by decide +kernel
theorem dX11_dropped_17 : decode cX11_dropped 17 = .ok (.lconst 0, 1) := by decide +kernel
theorem dX11_dropped_18 : decode cX11_dropped 18 = .ok (.ldc2_w 130, 3) := by decide +kernel
theorem dX11_dropped_21 : decode cX11_dropped 21 = .ok (.invokestatic 97, 3) := by decide +kernel
theorem dX11_dropped_24 : decode cX11_dropped 24 = .ok (.ifCond .eq 14, 3) := by decide +kernel
theorem dX11_dropped_27 : decode cX11_dropped 27 = .ok (.iload 4, 2) := by decide +kernel
theorem dX11_dropped_29 : decode cX11_dropped 29 = .ok (.i2l, 1) := by decide +kernel
theorem dX11_dropped_30 : decode cX11_dropped 30 = .ok (.lconst 0, 1) := by decide +kernel
theorem dX11_dropped_31 : decode cX11_dropped 31 = .ok (.lconst 1, 1) := by decide +kernel
theorem dX11_dropped_32 : decode cX11_dropped 32 = .ok (.invokestatic 97, 3) := by decide +kernel
theorem dX11_dropped_35 : decode cX11_dropped 35 = .ok (.ifCond .ne 5, 3) := by decide +kernel
theorem dX11_dropped_38 : decode cX11_dropped 38 = .ok (.iconst (-1), 1) := by decide +kernel
theorem dX11_dropped_39 : decode cX11_dropped 39 = .ok (.ireturn, 1) := by decide +kernel
theorem dX11_dropped_40 : decode cX11_dropped 40 = .ok (.iload_n 2, 1) := by decide +kernel
theorem dX11_dropped_41 : decode cX11_dropped 41 = .ok (.istore 5, 2) := by decide +kernel
theorem dX11_dropped_43 : decode cX11_dropped 43 = .ok (.iload_n 1, 1) := by decide +kernel
theorem dX11_dropped_44 : decode cX11_dropped 44 = .ok (.iconst 1, 1) := by decide +kernel
theorem dX11_dropped_45 : decode cX11_dropped 45 = .ok (.iadd, 1) := by decide +kernel
theorem dX11_dropped_46 : decode cX11_dropped 46 = .ok (.istore 6, 2) := by decide +kernel
theorem dX11_dropped_48 : decode cX11_dropped 48 = .ok (.iconst 0, 1) := by decide +kernel
theorem dX11_dropped_49 : decode cX11_dropped 49 = .ok (.istore 7, 2) := by decide +kernel
theorem dX11_dropped_51 : decode cX11_dropped 51 = .ok (.iload 7, 2) := by decide +kernel
theorem dX11_dropped_53 : decode cX11_dropped 53 = .ok (.iload_n 3, 1) := by decide +kernel
theorem dX11_dropped_54 : decode cX11_dropped 54 = .ok (.if_icmp .ge 32, 3) := by decide +kernel
theorem dX11_dropped_57 : decode cX11_dropped 57 = .ok (.iload 6, 2) := by decide +kernel
theorem dX11_dropped_59 : decode cX11_dropped 59 = .ok (.ifCond .le 27, 3) := by decide +kernel
theorem dX11_dropped_62 : decode cX11_dropped 62 = .ok (.iinc 6 (-1), 3) := by decide +kernel
theorem dX11_dropped_65 : decode cX11_dropped 65 = .ok (.iload 5, 2) := by decide +kernel
theorem dX11_dropped_67 : decode cX11_dropped 67 = .ok (.aload_n 0, 1) := by decide +kernel
theorem dX11_dropped_68 : decode cX11_dropped 68 = .ok (.getfield 16, 3) := by decide +kernel
theorem dX11_dropped_71 : decode cX11_dropped 71 = .ok (.iload 6, 2) := by decide +kernel
theorem dX11_dropped_73 : decode cX11_dropped 73 = .ok (.iaload, 1) := by decide +kernel
theorem dX11_dropped_74 : decode cX11_dropped 74 = .ok (.iadd, 1) := by decide +kernel
theorem dX11_dropped_75 : decode cX11_dropped 75 = .ok (.bipush 24, 2) := by decide +kernel
theorem dX11_dropped_77 : decode cX11_dropped 77 = .ok (.irem, 1) := by decide +kernel
theorem dX11_dropped_78 : decode cX11_dropped 78 = .ok (.istore 5, 2) := by decide +kernel
theorem dX11_dropped_80 : decode cX11_dropped 80 = .ok (.iinc 7 1, 3) := by decide +kernel
theorem dX11_dropped_83 : decode cX11_dropped 83 = .ok (.goto (-32), 3) := by decide +kernel
theorem dX11_dropped_86 : decode cX11_dropped 86 = .ok (.iload 4, 2) := by decide +kernel
theorem dX11_dropped_88 : decode cX11_dropped 88 = .ok (.iconst 1, 1) := by decide +kernel
theorem dX11_dropped_89 : decode cX11_dropped 89 = .ok (.if_icmp .ne 8, 3) := by decide +kernel
theorem dX11_dropped_92 : decode cX11_dropped 92 = .ok (.iload 5, 2) := by decide +kernel
theorem dX11_dropped_94 : decode cX11_dropped 94 = .ok (.goto 17, 3) := by decide +kernel
theorem dX11_dropped_97 : decode cX11_dropped 97 = .ok (.iload 6, 2) := by decide +kernel
theorem dX11_dropped_99 : decode cX11_dropped 99 = .ok (.ifCond .ne 8, 3) := by decide +kernel
theorem dX11_dropped_102 : decode cX11_dropped 102 = .ok (.bipush 9, 2) := by decide +kernel
theorem dX11_dropped_104 : decode cX11_dropped 104 = .ok (.goto 7, 3) := by decide +kernel
theorem dX11_dropped_107 : decode cX11_dropped 107 = .ok (.iload 6, 2) := by decide +kernel
theorem dX11_dropped_109 : decode cX11_dropped 109 = .ok (.iconst 1, 1) := by decide +kernel
theorem dX11_dropped_110 : decode cX11_dropped 110 = .ok (.isub, 1) := by decide +kernel
theorem dX11_dropped_111 : decode cX11_dropped 111 = .ok (.ireturn, 1) := by decide +kernel
theorem dX11_levelsOf_0 : decode cX11_levelsOf 0 = .ok (.iconst 0, 1) := by decide +kernel
theorem dX11_levelsOf_1 : decode cX11_levelsOf 1 = .ok (.istore 4, 2) := by decide +kernel
theorem dX11_levelsOf_3 : decode cX11_levelsOf 3 = .ok (.iconst 0, 1) := by decide +kernel
theorem dX11_levelsOf_4 : decode cX11_levelsOf 4 = .ok (.istore 5, 2) := by decide +kernel
theorem dX11_levelsOf_6 : decode cX11_levelsOf 6 = .ok (.iload 5, 2) := by decide +kernel
theorem dX11_levelsOf_8 : decode cX11_levelsOf 8 = .ok (.aload_n 0, 1) := by decide +kernel
theorem dX11_levelsOf_9 : decode cX11_levelsOf 9 = .ok (.getfield 13, 3) := by decide +kernel
theorem dX11_levelsOf_12 : decode cX11_levelsOf 12 = .ok (.iconst 0, 1) := by decide +kernel
theorem dX11_levelsOf_13 : decode cX11_levelsOf 13 = .ok (.iaload, 1) := by decide +kernel
theorem dX11_levelsOf_14 : decode cX11_levelsOf 14 = .ok (.if_icmp .ge 40, 3) := by decide +kernel
theorem dX11_levelsOf_17 : decode cX11_levelsOf 17 = .ok (.iload 4, 2) := by decide +kernel
theorem dX11_levelsOf_19 : decode cX11_levelsOf 19 = .ok (.iload_n 1, 1) := by decide +kernel
theorem dX11_levelsOf_20 : decode cX11_levelsOf 20 = .ok (.aload_n 0, 1) := by decide +kernel
theorem dX11_levelsOf_21 : decode cX11_levelsOf 21 = .ok (.getfield 16, 3) := by decide +kernel
theorem dX11_levelsOf_24 : decode cX11_levelsOf 24 = .ok (.iload 5, 2) := by decide +kernel
theorem dX11_levelsOf_26 : decode cX11_levelsOf 26 = .ok (.iaload, 1) := by decide +kernel
theorem dX11_levelsOf_27 : decode cX11_levelsOf 27 = .ok (.iload_n 3, 1) := by decide +kernel
theorem dX11_levelsOf_28 : decode cX11_levelsOf 28 = .ok (.imul, 1) := by decide +kernel
theorem dX11_levelsOf_29 : decode cX11_levelsOf 29 = .ok (.iadd, 1) := by decide +kernel
theorem dX11_levelsOf_30 : decode cX11_levelsOf 30 = .ok (.bipush 24, 2) := by decide +kernel
theorem dX11_levelsOf_32 : decode cX11_levelsOf 32 = .ok (.irem, 1) := by decide +kernel
theorem dX11_levelsOf_33 : decode cX11_levelsOf 33 = .ok (.iload_n 2, 1) := by decide +kernel
theorem dX11_levelsOf_34 : decode cX11_levelsOf 34 = .ok (.if_icmp .ne 10, 3) := by decide +kernel
theorem dX11_levelsOf_37 : decode cX11_levelsOf 37 = .ok (.iconst 1, 1) := by decide +kernel
theorem dX11_levelsOf_38 : decode cX11_levelsOf 38 = .ok (.iload 5, 2) := by decide +kernel
theorem dX11_levelsOf_40 : decode cX11_levelsOf 40 = .ok (.ishl, 1) := by decide +kernel
theorem dX11_levelsOf_41 : decode cX11_levelsOf 41 = .ok (.goto 4, 3) := by decide +kernel
theorem dX11_levelsOf_44 : decode cX11_levelsOf 44 = .ok (.iconst 0, 1) := by decide +kernel
theorem dX11_levelsOf_45 : decode cX11_levelsOf 45 = .ok (.ior, 1) := by decide +kernel
theorem dX11_levelsOf_46 : decode cX11_levelsOf 46 = .ok (.istore 4, 2) := by decide +kernel
theorem dX11_levelsOf_48 : decode cX11_levelsOf 48 = .ok (.iinc 5 1, 3) := by decide +kernel
theorem dX11_levelsOf_51 : decode cX11_levelsOf 51 = .ok (.goto (-45), 3) := by decide +kernel
theorem dX11_levelsOf_54 : decode cX11_levelsOf 54 = .ok (.iload 4, 2) := by decide +kernel
theorem dX11_levelsOf_56 : decode cX11_levelsOf 56 = .ok (.ireturn, 1) := by decide +kernel
theorem dX11_isSeen_0 : decode cX11_isSeen 0 = .ok (.iload_n 0, 1) := by decide +kernel
theorem dX11_isSeen_1 : decode cX11_isSeen 1 = .ok (.invokestatic 209, 3) := by decide +kernel
theorem dX11_isSeen_4 : decode cX11_isSeen 4 = .ok (.ifCond .eq 26, 3) := by decide +kernel
theorem dX11_isSeen_7 : decode cX11_isSeen 7 = .ok (.iload_n 1, 1) := by decide +kernel
theorem dX11_isSeen_8 : decode cX11_isSeen 8 = .ok (.invokestatic 209, 3) := by decide +kernel
theorem dX11_isSeen_11 : decode cX11_isSeen 11 = .ok (.ifCond .eq 19, 3) := by decide +kernel
theorem dX11_isSeen_14 : decode cX11_isSeen 14 = .ok (.iload_n 2, 1) := by decide +kernel
theorem dX11_isSeen_15 : decode cX11_isSeen 15 = .ok (.i2l, 1) := by decide +kernel
theorem dX11_isSeen_16 : decode cX11_isSeen 16 = .ok (.lconst 1, 1) := by decide +kernel
theorem dX11_isSeen_17 : decode cX11_isSeen 17 = .ok (.ldc2_w 212, 3) := by decide +kernel
theorem dX11_isSeen_20 : decode cX11_isSeen 20 = .ok (.invokestatic 97, 3) := by decide +kernel
theorem dX11_isSeen_23 : decode cX11_isSeen 23 = .ok (.ifCond .eq 7, 3) := by decide +kernel
theorem dX11_isSeen_26 : decode cX11_isSeen 26 = .ok (.iconst 1, 1) := by decide +kernel
theorem dX11_isSeen_27 : decode cX11_isSeen 27 = .ok (.goto 4, 3) := by decide +kernel
theorem dX11_isSeen_30 : decode cX11_isSeen 30 = .ok (.iconst 0, 1) := by decide +kernel
theorem dX11_isSeen_31 : decode cX11_isSeen 31 = .ok (.ireturn, 1) := by decide +kernel
theorem dX11_seen_0 : decode cX11_seen 0 = .ok (.iload_n 1, 1) := by decide +kernel
theorem dX11_seen_1 : decode cX11_seen 1 = .ok (.iload_n 2, 1) := by decide +kernel
theorem dX11_seen_2 : decode cX11_seen 2 = .ok (.iload_n 3, 1) := by decide +kernel
theorem dX11_seen_3 : decode cX11_seen 3 = .ok (.invokestatic 214, 3) := by decide +kernel
theorem dX11_seen_6 : decode cX11_seen 6 = .ok (.ifCond .eq 13, 3) := by decide +kernel
theorem dX11_seen_9 : decode cX11_seen 9 = .ok (.aload_n 0, 1) := by decide +kernel
theorem dX11_seen_10 : decode cX11_seen 10 = .ok (.iload_n 1, 1) := by decide +kernel
theorem dX11_seen_11 : decode cX11_seen 11 = .ok (.iload_n 2, 1) := by decide +kernel
theorem dX11_seen_12 : decode cX11_seen 12 = .ok (.iload_n 3, 1) := by decide +kernel
theorem dX11_seen_13 : decode cX11_seen 13 = .ok (.invokevirtual 218, 3) := by decide +kernel
theorem dX11_seen_16 : decode cX11_seen 16 = .ok (.goto 4, 3) := by decide +kernel
theorem dX11_seen_19 : decode cX11_seen 19 = .ok (.iconst (-1), 1) := by decide +kernel
theorem dX11_seen_20 : decode cX11_seen 20 = .ok (.ireturn, 1) := by decide +kernel
theorem dX11_seenTwice_0 : decode cX11_seenTwice 0 = .ok (.iload_n 1, 1) := by decide +kernel
theorem dX11_seenTwice_1 : decode cX11_seenTwice 1 = .ok (.iload_n 2, 1) := by decide +kernel
theorem dX11_seenTwice_2 : decode cX11_seenTwice 2 = .ok (.iload_n 3, 1) := by decide +kernel
theorem dX11_seenTwice_3 : decode cX11_seenTwice 3 = .ok (.invokestatic 214, 3) := by decide +kernel
theorem dX11_seenTwice_6 : decode cX11_seenTwice 6 = .ok (.ifCond .eq 34, 3) := by decide +kernel
theorem dX11_seenTwice_9 : decode cX11_seenTwice 9 = .ok (.iload_n 2, 1) := by decide +kernel
theorem dX11_seenTwice_10 : decode cX11_seenTwice 10 = .ok (.iload 4, 2) := by decide +kernel
theorem dX11_seenTwice_12 : decode cX11_seenTwice 12 = .ok (.iload 5, 2) := by decide +kernel
theorem dX11_seenTwice_14 : decode cX11_seenTwice 14 = .ok (.invokestatic 214, 3) := by decide +kernel
theorem dX11_seenTwice_17 : decode cX11_seenTwice 17 = .ok (.ifCond .eq 23, 3) := by decide +kernel
theorem dX11_seenTwice_20 : decode cX11_seenTwice 20 = .ok (.aload_n 0, 1) := by decide +kernel
theorem dX11_seenTwice_21 : decode cX11_seenTwice 21 = .ok (.iload_n 1, 1) := by decide +kernel
theorem dX11_seenTwice_22 : decode cX11_seenTwice 22 = .ok (.iload_n 2, 1) := by decide +kernel
theorem dX11_seenTwice_23 : decode cX11_seenTwice 23 = .ok (.iload_n 3, 1) := by decide +kernel
theorem dX11_seenTwice_24 : decode cX11_seenTwice 24 = .ok (.invokevirtual 218, 3) := by decide +kernel
theorem dX11_seenTwice_27 : decode cX11_seenTwice 27 = .ok (.aload_n 0, 1) := by decide +kernel
theorem dX11_seenTwice_28 : decode cX11_seenTwice 28 = .ok (.iload_n 2, 1) := by decide +kernel
theorem dX11_seenTwice_29 : decode cX11_seenTwice 29 = .ok (.iload 4, 2) := by decide +kernel
theorem dX11_seenTwice_31 : decode cX11_seenTwice 31 = .ok (.iload 5, 2) := by decide +kernel
theorem dX11_seenTwice_33 : decode cX11_seenTwice 33 = .ok (.invokevirtual 218, 3) := by decide +kernel
theorem dX11_seenTwice_36 : decode cX11_seenTwice 36 = .ok (.iand, 1) := by decide +kernel
theorem dX11_seenTwice_37 : decode cX11_seenTwice 37 = .ok (.goto 4, 3) := by decide +kernel
theorem dX11_seenTwice_40 : decode cX11_seenTwice 40 = .ok (.iconst (-1), 1) := by decide +kernel
theorem dX11_seenTwice_41 : decode cX11_seenTwice 41 = .ok (.ireturn, 1) := by decide +kernel
theorem dX11_gusts_0 : decode cX11_gusts 0 = .ok (.aload_n 0, 1) := by decide +kernel
theorem dX11_gusts_1 : decode cX11_gusts 1 = .ok (.iload_n 1, 1) := by decide +kernel
theorem dX11_gusts_2 : decode cX11_gusts 2 = .ok (.invokevirtual 156, 3) := by decide +kernel
theorem dX11_gusts_5 : decode cX11_gusts 5 = .ok (.ifCond .eq 47, 3) := by decide +kernel
theorem dX11_gusts_8 : decode cX11_gusts 8 = .ok (.aload_n 0, 1) := by decide +kernel
theorem dX11_gusts_9 : decode cX11_gusts 9 = .ok (.iload_n 2, 1) := by decide +kernel
theorem dX11_gusts_10 : decode cX11_gusts 10 = .ok (.invokevirtual 156, 3) := by decide +kernel
theorem dX11_gusts_13 : decode cX11_gusts 13 = .ok (.ifCond .eq 39, 3) := by decide +kernel
theorem dX11_gusts_16 : decode cX11_gusts 16 = .ok (.iload_n 3, 1) := by decide +kernel
theorem dX11_gusts_17 : decode cX11_gusts 17 = .ok (.i2l, 1) := by decide +kernel
theorem dX11_gusts_18 : decode cX11_gusts 18 = .ok (.lconst 0, 1) := by decide +kernel
theorem dX11_gusts_19 : decode cX11_gusts 19 = .ok (.ldc2_w 222, 3) := by decide +kernel
theorem dX11_gusts_22 : decode cX11_gusts 22 = .ok (.invokestatic 97, 3) := by decide +kernel
theorem dX11_gusts_25 : decode cX11_gusts 25 = .ok (.ifCond .eq 27, 3) := by decide +kernel
theorem dX11_gusts_28 : decode cX11_gusts 28 = .ok (.iload 4, 2) := by decide +kernel
theorem dX11_gusts_30 : decode cX11_gusts 30 = .ok (.i2l, 1) := by decide +kernel
theorem dX11_gusts_31 : decode cX11_gusts 31 = .ok (.lconst 0, 1) := by decide +kernel
theorem dX11_gusts_32 : decode cX11_gusts 32 = .ok (.ldc2_w 120, 3) := by decide +kernel
theorem dX11_gusts_35 : decode cX11_gusts 35 = .ok (.invokestatic 97, 3) := by decide +kernel
theorem dX11_gusts_38 : decode cX11_gusts 38 = .ok (.ifCond .eq 14, 3) := by decide +kernel
theorem dX11_gusts_41 : decode cX11_gusts 41 = .ok (.iload 5, 2) := by decide +kernel
theorem dX11_gusts_43 : decode cX11_gusts 43 = .ok (.i2l, 1) := by decide +kernel
theorem dX11_gusts_44 : decode cX11_gusts 44 = .ok (.lconst 0, 1) := by decide +kernel
theorem dX11_gusts_45 : decode cX11_gusts 45 = .ok (.lconst 1, 1) := by decide +kernel
theorem dX11_gusts_46 : decode cX11_gusts 46 = .ok (.invokestatic 97, 3) := by decide +kernel
theorem dX11_gusts_49 : decode cX11_gusts 49 = .ok (.ifCond .ne 7, 3) := by decide +kernel
theorem dX11_gusts_52 : decode cX11_gusts 52 = .ok (.ldc2_w 224, 3) := by decide +kernel
theorem dX11_gusts_55 : decode cX11_gusts 55 = .ok (.lreturn, 1) := by decide +kernel
theorem dX11_gusts_56 : decode cX11_gusts 56 = .ok (.iconst 0, 1) := by decide +kernel
theorem dX11_gusts_57 : decode cX11_gusts 57 = .ok (.istore 6, 2) := by decide +kernel
theorem dX11_gusts_59 : decode cX11_gusts 59 = .ok (.iload 6, 2) := by decide +kernel
theorem dX11_gusts_61 : decode cX11_gusts 61 = .ok (.bipush 6, 2) := by decide +kernel
theorem dX11_gusts_63 : decode cX11_gusts 63 = .ok (.if_icmp .ge 27, 3) := by decide +kernel
theorem dX11_gusts_66 : decode cX11_gusts 66 = .ok (.aload_n 0, 1) := by decide +kernel
theorem dX11_gusts_67 : decode cX11_gusts 67 = .ok (.getfield 86, 3) := by decide +kernel
theorem dX11_gusts_70 : decode cX11_gusts 70 = .ok (.iload 6, 2) := by decide +kernel
theorem dX11_gusts_72 : decode cX11_gusts 72 = .ok (.iload 6, 2) := by decide +kernel
theorem dX11_gusts_74 : decode cX11_gusts 74 = .ok (.iload_n 1, 1) := by decide +kernel
theorem dX11_gusts_75 : decode cX11_gusts 75 = .ok (.if_icmp .ne 7, 3) := by decide +kernel
theorem dX11_gusts_78 : decode cX11_gusts 78 = .ok (.lconst 1, 1) := by decide +kernel
theorem dX11_gusts_79 : decode cX11_gusts 79 = .ok (.goto 4, 3) := by decide +kernel
theorem dX11_gusts_82 : decode cX11_gusts 82 = .ok (.lconst 0, 1) := by decide +kernel
theorem dX11_gusts_83 : decode cX11_gusts 83 = .ok (.lastore, 1) := by decide +kernel
theorem dX11_gusts_84 : decode cX11_gusts 84 = .ok (.iinc 6 1, 3) := by decide +kernel
theorem dX11_gusts_87 : decode cX11_gusts 87 = .ok (.goto (-28), 3) := by decide +kernel
theorem dX11_gusts_90 : decode cX11_gusts 90 = .ok (.lconst 1, 1) := by decide +kernel
theorem dX11_gusts_91 : decode cX11_gusts 91 = .ok (.lstore 6, 2) := by decide +kernel
theorem dX11_gusts_93 : decode cX11_gusts 93 = .ok (.iconst 0, 1) := by decide +kernel
theorem dX11_gusts_94 : decode cX11_gusts 94 = .ok (.istore 8, 2) := by decide +kernel
theorem dX11_gusts_96 : decode cX11_gusts 96 = .ok (.iload 8, 2) := by decide +kernel
theorem dX11_gusts_98 : decode cX11_gusts 98 = .ok (.iload 4, 2) := by decide +kernel
theorem dX11_gusts_100 : decode cX11_gusts 100 = .ok (.if_icmp .ge 165, 3) := by decide +kernel
theorem dX11_gusts_103 : decode cX11_gusts 103 = .ok (.iconst 0, 1) := by decide +kernel
theorem dX11_gusts_104 : decode cX11_gusts 104 = .ok (.istore 9, 2) := by decide +kernel
theorem dX11_gusts_106 : decode cX11_gusts 106 = .ok (.iload 9, 2) := by decide +kernel
theorem dX11_gusts_108 : decode cX11_gusts 108 = .ok (.bipush 6, 2) := by decide +kernel
theorem dX11_gusts_110 : decode cX11_gusts 110 = .ok (.if_icmp .ge 17, 3) := by decide +kernel
theorem dX11_gusts_113 : decode cX11_gusts 113 = .ok (.aload_n 0, 1) := by decide +kernel
theorem dX11_gusts_114 : decode cX11_gusts 114 = .ok (.getfield 89, 3) := by decide +kernel
theorem dX11_gusts_117 : decode cX11_gusts 117 = .ok (.iload 9, 2) := by decide +kernel
theorem dX11_gusts_119 : decode cX11_gusts 119 = .ok (.lconst 0, 1) := by decide +kernel
theorem dX11_gusts_120 : decode cX11_gusts 120 = .ok (.lastore, 1) := by decide +kernel
theorem dX11_gusts_121 : decode cX11_gusts 121 = .ok (.iinc 9 1, 3) := by decide +kernel
theorem dX11_gusts_124 : decode cX11_gusts 124 = .ok (.goto (-18), 3) := by decide +kernel
theorem dX11_gusts_127 : decode cX11_gusts 127 = .ok (.iconst 0, 1) := by decide +kernel
theorem dX11_gusts_128 : decode cX11_gusts 128 = .ok (.istore 9, 2) := by decide +kernel
theorem dX11_gusts_130 : decode cX11_gusts 130 = .ok (.iload 9, 2) := by decide +kernel
theorem dX11_gusts_132 : decode cX11_gusts 132 = .ok (.aload_n 0, 1) := by decide +kernel
theorem dX11_gusts_133 : decode cX11_gusts 133 = .ok (.getfield 13, 3) := by decide +kernel
theorem dX11_gusts_136 : decode cX11_gusts 136 = .ok (.iconst 0, 1) := by decide +kernel
theorem dX11_gusts_137 : decode cX11_gusts 137 = .ok (.iaload, 1) := by decide +kernel
theorem dX11_gusts_138 : decode cX11_gusts 138 = .ok (.if_icmp .ge 83, 3) := by decide +kernel
theorem dX11_gusts_141 : decode cX11_gusts 141 = .ok (.aload_n 0, 1) := by decide +kernel
theorem dX11_gusts_142 : decode cX11_gusts 142 = .ok (.getfield 89, 3) := by decide +kernel
theorem dX11_gusts_145 : decode cX11_gusts 145 = .ok (.iload 9, 2) := by decide +kernel
theorem dX11_gusts_147 : decode cX11_gusts 147 = .ok (.iconst 1, 1) := by decide +kernel
theorem dX11_gusts_148 : decode cX11_gusts 148 = .ok (.iadd, 1) := by decide +kernel
theorem dX11_gusts_149 : decode cX11_gusts 149 = .ok (.aload_n 0, 1) := by decide +kernel
theorem dX11_gusts_150 : decode cX11_gusts 150 = .ok (.getfield 13, 3) := by decide +kernel
theorem dX11_gusts_153 : decode cX11_gusts 153 = .ok (.iconst 0, 1) := by decide +kernel
theorem dX11_gusts_154 : decode cX11_gusts 154 = .ok (.iaload, 1) := by decide +kernel
theorem dX11_gusts_155 : decode cX11_gusts 155 = .ok (.if_icmp .ge 10, 3) := by decide +kernel
theorem dX11_gusts_158 : decode cX11_gusts 158 = .ok (.iload 9, 2) := by decide +kernel
theorem dX11_gusts_160 : decode cX11_gusts 160 = .ok (.iconst 1, 1) := by decide +kernel
theorem dX11_gusts_161 : decode cX11_gusts 161 = .ok (.iadd, 1) := by decide +kernel
theorem dX11_gusts_162 : decode cX11_gusts 162 = .ok (.goto 5, 3) := by decide +kernel
theorem dX11_gusts_165 : decode cX11_gusts 165 = .ok (.iload 9, 2) := by decide +kernel
theorem dX11_gusts_167 : decode cX11_gusts 167 = .ok (.dup2, 1) := by decide +kernel
theorem dX11_gusts_168 : decode cX11_gusts 168 = .ok (.laload, 1) := by decide +kernel
theorem dX11_gusts_169 : decode cX11_gusts 169 = .ok (.aload_n 0, 1) := by decide +kernel
theorem dX11_gusts_170 : decode cX11_gusts 170 = .ok (.getfield 86, 3) := by decide +kernel
theorem dX11_gusts_173 : decode cX11_gusts 173 = .ok (.iload 9, 2) := by decide +kernel
theorem dX11_gusts_175 : decode cX11_gusts 175 = .ok (.laload, 1) := by decide +kernel
theorem dX11_gusts_176 : decode cX11_gusts 176 = .ok (.iload_n 3, 1) := by decide +kernel
theorem dX11_gusts_177 : decode cX11_gusts 177 = .ok (.i2l, 1) := by decide +kernel
theorem dX11_gusts_178 : decode cX11_gusts 178 = .ok (.lmul, 1) := by decide +kernel
theorem dX11_gusts_179 : decode cX11_gusts 179 = .ok (.ladd, 1) := by decide +kernel
theorem dX11_gusts_180 : decode cX11_gusts 180 = .ok (.lastore, 1) := by decide +kernel
theorem dX11_gusts_181 : decode cX11_gusts 181 = .ok (.aload_n 0, 1) := by decide +kernel
theorem dX11_gusts_182 : decode cX11_gusts 182 = .ok (.getfield 89, 3) := by decide +kernel
theorem dX11_gusts_185 : decode cX11_gusts 185 = .ok (.iload 9, 2) := by decide +kernel
theorem dX11_gusts_187 : decode cX11_gusts 187 = .ok (.ifCond .le 10, 3) := by decide +kernel
theorem dX11_gusts_190 : decode cX11_gusts 190 = .ok (.iload 9, 2) := by decide +kernel
theorem dX11_gusts_192 : decode cX11_gusts 192 = .ok (.iconst 1, 1) := by decide +kernel
theorem dX11_gusts_193 : decode cX11_gusts 193 = .ok (.isub, 1) := by decide +kernel
theorem dX11_gusts_194 : decode cX11_gusts 194 = .ok (.goto 4, 3) := by decide +kernel
theorem dX11_gusts_197 : decode cX11_gusts 197 = .ok (.iconst 0, 1) := by decide +kernel
theorem dX11_gusts_198 : decode cX11_gusts 198 = .ok (.dup2, 1) := by decide +kernel
theorem dX11_gusts_199 : decode cX11_gusts 199 = .ok (.laload, 1) := by decide +kernel
theorem dX11_gusts_200 : decode cX11_gusts 200 = .ok (.aload_n 0, 1) := by decide +kernel
theorem dX11_gusts_201 : decode cX11_gusts 201 = .ok (.getfield 86, 3) := by decide +kernel
theorem dX11_gusts_204 : decode cX11_gusts 204 = .ok (.iload 9, 2) := by decide +kernel
theorem dX11_gusts_206 : decode cX11_gusts 206 = .ok (.laload, 1) := by decide +kernel
theorem dX11_gusts_207 : decode cX11_gusts 207 = .ok (.bipush 10, 2) := by decide +kernel
theorem dX11_gusts_209 : decode cX11_gusts 209 = .ok (.iload_n 3, 1) := by decide +kernel
theorem dX11_gusts_210 : decode cX11_gusts 210 = .ok (.isub, 1) := by decide +kernel
theorem dX11_gusts_211 : decode cX11_gusts 211 = .ok (.i2l, 1) := by decide +kernel
theorem dX11_gusts_212 : decode cX11_gusts 212 = .ok (.lmul, 1) := by decide +kernel
theorem dX11_gusts_213 : decode cX11_gusts 213 = .ok (.ladd, 1) := by decide +kernel
theorem dX11_gusts_214 : decode cX11_gusts 214 = .ok (.lastore, 1) := by decide +kernel
theorem dX11_gusts_215 : decode cX11_gusts 215 = .ok (.iinc 9 1, 3) := by decide +kernel
theorem dX11_gusts_218 : decode cX11_gusts 218 = .ok (.goto (-88), 3) := by decide +kernel
theorem dX11_gusts_221 : decode cX11_gusts 221 = .ok (.iconst 0, 1) := by decide +kernel
theorem dX11_gusts_222 : decode cX11_gusts 222 = .ok (.istore 9, 2) := by decide +kernel
theorem dX11_gusts_224 : decode cX11_gusts 224 = .ok (.iload 9, 2) := by decide +kernel
theorem dX11_gusts_226 : decode cX11_gusts 226 = .ok (.bipush 6, 2) := by decide +kernel
theorem dX11_gusts_228 : decode cX11_gusts 228 = .ok (.if_icmp .ge 23, 3) := by decide +kernel
theorem dX11_gusts_231 : decode cX11_gusts 231 = .ok (.aload_n 0, 1) := by decide +kernel
theorem dX11_gusts_232 : decode cX11_gusts 232 = .ok (.getfield 86, 3) := by decide +kernel
theorem dX11_gusts_235 : decode cX11_gusts 235 = .ok (.iload 9, 2) := by decide +kernel
theorem dX11_gusts_237 : decode cX11_gusts 237 = .ok (.aload_n 0, 1) := by decide +kernel
theorem dX11_gusts_238 : decode cX11_gusts 238 = .ok (.getfield 89, 3) := by decide +kernel
theorem dX11_gusts_241 : decode cX11_gusts 241 = .ok (.iload 9, 2) := by decide +kernel
theorem dX11_gusts_243 : decode cX11_gusts 243 = .ok (.laload, 1) := by decide +kernel
theorem dX11_gusts_244 : decode cX11_gusts 244 = .ok (.lastore, 1) := by decide +kernel
theorem dX11_gusts_245 : decode cX11_gusts 245 = .ok (.iinc 9 1, 3) := by decide +kernel
theorem dX11_gusts_248 : decode cX11_gusts 248 = .ok (.goto (-24), 3) := by decide +kernel
theorem dX11_gusts_251 : decode cX11_gusts 251 = .ok (.lload 6, 2) := by decide +kernel
theorem dX11_gusts_253 : decode cX11_gusts 253 = .ok (.ldc2_w 222, 3) := by decide +kernel
theorem dX11_gusts_256 : decode cX11_gusts 256 = .ok (.lmul, 1) := by decide +kernel
theorem dX11_gusts_257 : decode cX11_gusts 257 = .ok (.lstore 6, 2) := by decide +kernel
theorem dX11_gusts_259 : decode cX11_gusts 259 = .ok (.iinc 8 1, 3) := by decide +kernel
theorem dX11_gusts_262 : decode cX11_gusts 262 = .ok (.goto (-166), 3) := by decide +kernel
theorem dX11_gusts_265 : decode cX11_gusts 265 = .ok (.aload_n 0, 1) := by decide +kernel
theorem dX11_gusts_266 : decode cX11_gusts 266 = .ok (.getfield 86, 3) := by decide +kernel
theorem dX11_gusts_269 : decode cX11_gusts 269 = .ok (.iload_n 2, 1) := by decide +kernel
theorem dX11_gusts_270 : decode cX11_gusts 270 = .ok (.laload, 1) := by decide +kernel
theorem dX11_gusts_271 : decode cX11_gusts 271 = .ok (.lstore 8, 2) := by decide +kernel
theorem dX11_gusts_273 : decode cX11_gusts 273 = .ok (.lload 6, 2) := by decide +kernel
theorem dX11_gusts_275 : decode cX11_gusts 275 = .ok (.lstore 10, 2) := by decide +kernel
theorem dX11_gusts_277 : decode cX11_gusts 277 = .ok (.lload 10, 2) := by decide +kernel
theorem dX11_gusts_279 : decode cX11_gusts 279 = .ok (.lconst 0, 1) := by decide +kernel
theorem dX11_gusts_280 : decode cX11_gusts 280 = .ok (.lcmp, 1) := by decide +kernel
theorem dX11_gusts_281 : decode cX11_gusts 281 = .ok (.ifCond .eq 21, 3) := by decide +kernel
theorem dX11_gusts_284 : decode cX11_gusts 284 = .ok (.lload 8, 2) := by decide +kernel
theorem dX11_gusts_286 : decode cX11_gusts 286 = .ok (.lload 10, 2) := by decide +kernel
theorem dX11_gusts_288 : decode cX11_gusts 288 = .ok (.lrem, 1) := by decide +kernel
theorem dX11_gusts_289 : decode cX11_gusts 289 = .ok (.lstore 12, 2) := by decide +kernel
theorem dX11_gusts_291 : decode cX11_gusts 291 = .ok (.lload 10, 2) := by decide +kernel
theorem dX11_gusts_293 : decode cX11_gusts 293 = .ok (.lstore 8, 2) := by decide +kernel
theorem dX11_gusts_295 : decode cX11_gusts 295 = .ok (.lload 12, 2) := by decide +kernel
theorem dX11_gusts_297 : decode cX11_gusts 297 = .ok (.lstore 10, 2) := by decide +kernel
theorem dX11_gusts_299 : decode cX11_gusts 299 = .ok (.goto (-22), 3) := by decide +kernel
theorem dX11_gusts_302 : decode cX11_gusts 302 = .ok (.iload 5, 2) := by decide +kernel
theorem dX11_gusts_304 : decode cX11_gusts 304 = .ok (.ifCond .ne 15, 3) := by decide +kernel
theorem dX11_gusts_307 : decode cX11_gusts 307 = .ok (.aload_n 0, 1) := by decide +kernel
theorem dX11_gusts_308 : decode cX11_gusts 308 = .ok (.getfield 86, 3) := by decide +kernel
theorem dX11_gusts_311 : decode cX11_gusts 311 = .ok (.iload_n 2, 1) := by decide +kernel
theorem dX11_gusts_312 : decode cX11_gusts 312 = .ok (.laload, 1) := by decide +kernel
theorem dX11_gusts_313 : decode cX11_gusts 313 = .ok (.lload 8, 2) := by decide +kernel
theorem dX11_gusts_315 : decode cX11_gusts 315 = .ok (.ldiv, 1) := by decide +kernel
theorem dX11_gusts_316 : decode cX11_gusts 316 = .ok (.goto 8, 3) := by decide +kernel
theorem dX11_gusts_319 : decode cX11_gusts 319 = .ok (.lload 6, 2) := by decide +kernel
theorem dX11_gusts_321 : decode cX11_gusts 321 = .ok (.lload 8, 2) := by decide +kernel
theorem dX11_gusts_323 : decode cX11_gusts 323 = .ok (.ldiv, 1) := by decide +kernel
theorem dX11_gusts_324 : decode cX11_gusts 324 = .ok (.lreturn, 1) := by decide +kernel
theorem dX11_note_0 : decode cX11_note 0 = .ok (.aload_n 0, 1) := by decide +kernel
theorem dX11_note_1 : decode cX11_note 1 = .ok (.getfield 153, 3) := by decide +kernel
theorem dX11_note_4 : decode cX11_note 4 = .ok (.bipush 8, 2) := by decide +kernel
theorem dX11_note_6 : decode cX11_note 6 = .ok (.if_icmp .ne 41, 3) := by decide +kernel
theorem dX11_note_9 : decode cX11_note 9 = .ok (.iconst 0, 1) := by decide +kernel
theorem dX11_note_10 : decode cX11_note 10 = .ok (.istore_n 3, 1) := by decide +kernel
theorem dX11_note_11 : decode cX11_note 11 = .ok (.iload_n 3, 1) := by decide +kernel
theorem dX11_note_12 : decode cX11_note 12 = .ok (.bipush 14, 2) := by decide +kernel
theorem dX11_note_14 : decode cX11_note 14 = .ok (.if_icmp .ge 23, 3) := by decide +kernel
theorem dX11_note_17 : decode cX11_note 17 = .ok (.aload_n 0, 1) := by decide +kernel
theorem dX11_note_18 : decode cX11_note 18 = .ok (.getfield 61, 3) := by decide +kernel
theorem dX11_note_21 : decode cX11_note 21 = .ok (.iload_n 3, 1) := by decide +kernel
theorem dX11_note_22 : decode cX11_note 22 = .ok (.aload_n 0, 1) := by decide +kernel
theorem dX11_note_23 : decode cX11_note 23 = .ok (.getfield 61, 3) := by decide +kernel
theorem dX11_note_26 : decode cX11_note 26 = .ok (.iload_n 3, 1) := by decide +kernel
theorem dX11_note_27 : decode cX11_note 27 = .ok (.iconst 2, 1) := by decide +kernel
theorem dX11_note_28 : decode cX11_note 28 = .ok (.iadd, 1) := by decide +kernel
theorem dX11_note_29 : decode cX11_note 29 = .ok (.iaload, 1) := by decide +kernel
theorem dX11_note_30 : decode cX11_note 30 = .ok (.iastore, 1) := by decide +kernel
theorem dX11_note_31 : decode cX11_note 31 = .ok (.iinc 3 1, 3) := by decide +kernel
theorem dX11_note_34 : decode cX11_note 34 = .ok (.goto (-23), 3) := by decide +kernel
theorem dX11_note_37 : decode cX11_note 37 = .ok (.aload_n 0, 1) := by decide +kernel
theorem dX11_note_38 : decode cX11_note 38 = .ok (.dup, 1) := by decide +kernel
theorem dX11_note_39 : decode cX11_note 39 = .ok (.getfield 153, 3) := by decide +kernel
theorem dX11_note_42 : decode cX11_note 42 = .ok (.iconst 1, 1) := by decide +kernel
theorem dX11_note_43 : decode cX11_note 43 = .ok (.isub, 1) := by decide +kernel
theorem dX11_note_44 : decode cX11_note 44 = .ok (.putfield 153, 3) := by decide +kernel
theorem dX11_note_47 : decode cX11_note 47 = .ok (.aload_n 0, 1) := by decide +kernel
theorem dX11_note_48 : decode cX11_note 48 = .ok (.getfield 61, 3) := by decide +kernel
theorem dX11_note_51 : decode cX11_note 51 = .ok (.iconst 2, 1) := by decide +kernel
theorem dX11_note_52 : decode cX11_note 52 = .ok (.aload_n 0, 1) := by decide +kernel
theorem dX11_note_53 : decode cX11_note 53 = .ok (.getfield 153, 3) := by decide +kernel
theorem dX11_note_56 : decode cX11_note 56 = .ok (.imul, 1) := by decide +kernel
theorem dX11_note_57 : decode cX11_note 57 = .ok (.iload_n 1, 1) := by decide +kernel
theorem dX11_note_58 : decode cX11_note 58 = .ok (.iastore, 1) := by decide +kernel
theorem dX11_note_59 : decode cX11_note 59 = .ok (.aload_n 0, 1) := by decide +kernel
theorem dX11_note_60 : decode cX11_note 60 = .ok (.getfield 61, 3) := by decide +kernel
theorem dX11_note_63 : decode cX11_note 63 = .ok (.iconst 2, 1) := by decide +kernel
theorem dX11_note_64 : decode cX11_note 64 = .ok (.aload_n 0, 1) := by decide +kernel
theorem dX11_note_65 : decode cX11_note 65 = .ok (.getfield 153, 3) := by decide +kernel
theorem dX11_note_68 : decode cX11_note 68 = .ok (.imul, 1) := by decide +kernel
theorem dX11_note_69 : decode cX11_note 69 = .ok (.iconst 1, 1) := by decide +kernel
theorem dX11_note_70 : decode cX11_note 70 = .ok (.iadd, 1) := by decide +kernel
theorem dX11_note_71 : decode cX11_note 71 = .ok (.iload_n 2, 1) := by decide +kernel
theorem dX11_note_72 : decode cX11_note 72 = .ok (.iastore, 1) := by decide +kernel
theorem dX11_note_73 : decode cX11_note 73 = .ok (.aload_n 0, 1) := by decide +kernel
theorem dX11_note_74 : decode cX11_note 74 = .ok (.dup, 1) := by decide +kernel
theorem dX11_note_75 : decode cX11_note 75 = .ok (.getfield 153, 3) := by decide +kernel
theorem dX11_note_78 : decode cX11_note 78 = .ok (.iconst 1, 1) := by decide +kernel
theorem dX11_note_79 : decode cX11_note 79 = .ok (.iadd, 1) := by decide +kernel
theorem dX11_note_80 : decode cX11_note 80 = .ok (.putfield 153, 3) := by decide +kernel
theorem dX11_note_83 : decode cX11_note 83 = .ok (.return_, 1) := by decide +kernel
theorem dX11_errand_0 : decode cX11_errand 0 = .ok (.aload_n 0, 1) := by decide +kernel
theorem dX11_errand_1 : decode cX11_errand 1 = .ok (.iload_n 1, 1) := by decide +kernel
theorem dX11_errand_2 : decode cX11_errand 2 = .ok (.invokevirtual 180, 3) := by decide +kernel
theorem dX11_errand_5 : decode cX11_errand 5 = .ok (.ifCond .eq 15, 3) := by decide +kernel
theorem dX11_errand_8 : decode cX11_errand 8 = .ok (.iload_n 2, 1) := by decide +kernel
theorem dX11_errand_9 : decode cX11_errand 9 = .ok (.i2l, 1) := by decide +kernel
theorem dX11_errand_10 : decode cX11_errand 10 = .ok (.lconst 1, 1) := by decide +kernel
theorem dX11_errand_11 : decode cX11_errand 11 = .ok (.ldc2_w 130, 3) := by decide +kernel
theorem dX11_errand_14 : decode cX11_errand 14 = .ok (.invokestatic 97, 3) := by decide +kernel
theorem dX11_errand_17 : decode cX11_errand 17 = .ok (.ifCond .ne 5, 3) := by decide +kernel
theorem dX11_errand_20 : decode cX11_errand 20 = .ok (.iconst (-1), 1) := by decide +kernel
theorem dX11_errand_21 : decode cX11_errand 21 = .ok (.ireturn, 1) := by decide +kernel
theorem dX11_errand_22 : decode cX11_errand 22 = .ok (.aload_n 0, 1) := by decide +kernel
theorem dX11_errand_23 : decode cX11_errand 23 = .ok (.getfield 49, 3) := by decide +kernel
theorem dX11_errand_26 : decode cX11_errand 26 = .ok (.iconst 0, 1) := by decide +kernel
theorem dX11_errand_27 : decode cX11_errand 27 = .ok (.iaload, 1) := by decide +kernel
theorem dX11_errand_28 : decode cX11_errand 28 = .ok (.bipush 8, 2) := by decide +kernel
theorem dX11_errand_30 : decode cX11_errand 30 = .ok (.if_icmp .ne 6, 3) := by decide +kernel
theorem dX11_errand_33 : decode cX11_errand 33 = .ok (.bipush (-3), 2) := by decide +kernel
theorem dX11_errand_35 : decode cX11_errand 35 = .ok (.ireturn, 1) := by decide +kernel
theorem dX11_errand_36 : decode cX11_errand 36 = .ok (.aload_n 0, 1) := by decide +kernel
theorem dX11_errand_37 : decode cX11_errand 37 = .ok (.bipush (-4), 2) := by decide +kernel
theorem dX11_errand_39 : decode cX11_errand 39 = .ok (.iconst 0, 1) := by decide +kernel
theorem dX11_errand_40 : decode cX11_errand 40 = .ok (.invokevirtual 226, 3) := by decide +kernel
theorem dX11_errand_43 : decode cX11_errand 43 = .ok (.aload_n 0, 1) := by decide +kernel
theorem dX11_errand_44 : decode cX11_errand 44 = .ok (.iconst 0, 1) := by decide +kernel
theorem dX11_errand_45 : decode cX11_errand 45 = .ok (.iload_n 1, 1) := by decide +kernel
theorem dX11_errand_46 : decode cX11_errand 46 = .ok (.iload_n 2, 1) := by decide +kernel
theorem dX11_errand_47 : decode cX11_errand 47 = .ok (.iload_n 3, 1) := by decide +kernel
theorem dX11_errand_48 : decode cX11_errand 48 = .ok (.ifCond .eq 7, 3) := by decide +kernel
theorem dX11_errand_51 : decode cX11_errand 51 = .ok (.iconst 1, 1) := by decide +kernel
theorem dX11_errand_52 : decode cX11_errand 52 = .ok (.goto 4, 3) := by decide +kernel
theorem dX11_errand_55 : decode cX11_errand 55 = .ok (.iconst 0, 1) := by decide +kernel
theorem dX11_errand_56 : decode cX11_errand 56 = .ok (.invokevirtual 132, 3) := by decide +kernel
theorem dX11_errand_59 : decode cX11_errand 59 = .ok (.aload_n 0, 1) := by decide +kernel
theorem dX11_errand_60 : decode cX11_errand 60 = .ok (.getfield 49, 3) := by decide +kernel
theorem dX11_errand_63 : decode cX11_errand 63 = .ok (.iconst 0, 1) := by decide +kernel
theorem dX11_errand_64 : decode cX11_errand 64 = .ok (.iaload, 1) := by decide +kernel
theorem dX11_errand_65 : decode cX11_errand 65 = .ok (.ireturn, 1) := by decide +kernel
theorem dX11_fill_0 : decode cX11_fill 0 = .ok (.aload_n 0, 1) := by decide +kernel
theorem dX11_fill_1 : decode cX11_fill 1 = .ok (.iload_n 1, 1) := by decide +kernel
theorem dX11_fill_2 : decode cX11_fill 2 = .ok (.invokevirtual 180, 3) := by decide +kernel
theorem dX11_fill_5 : decode cX11_fill 5 = .ok (.ifCond .eq 15, 3) := by decide +kernel
theorem dX11_fill_8 : decode cX11_fill 8 = .ok (.iload_n 2, 1) := by decide +kernel
theorem dX11_fill_9 : decode cX11_fill 9 = .ok (.i2l, 1) := by decide +kernel
theorem dX11_fill_10 : decode cX11_fill 10 = .ok (.lconst 0, 1) := by decide +kernel
theorem dX11_fill_11 : decode cX11_fill 11 = .ok (.ldc2_w 130, 3) := by decide +kernel
theorem dX11_fill_14 : decode cX11_fill 14 = .ok (.invokestatic 97, 3) := by decide +kernel
theorem dX11_fill_17 : decode cX11_fill 17 = .ok (.ifCond .ne 5, 3) := by decide +kernel
theorem dX11_fill_20 : decode cX11_fill 20 = .ok (.iconst (-1), 1) := by decide +kernel
theorem dX11_fill_21 : decode cX11_fill 21 = .ok (.ireturn, 1) := by decide +kernel
theorem dX11_fill_22 : decode cX11_fill 22 = .ok (.aload_n 0, 1) := by decide +kernel
theorem dX11_fill_23 : decode cX11_fill 23 = .ok (.getfield 46, 3) := by decide +kernel
theorem dX11_fill_26 : decode cX11_fill 26 = .ok (.iload_n 1, 1) := by decide +kernel
theorem dX11_fill_27 : decode cX11_fill 27 = .ok (.iaload, 1) := by decide +kernel
theorem dX11_fill_28 : decode cX11_fill 28 = .ok (.istore_n 3, 1) := by decide +kernel
theorem dX11_fill_29 : decode cX11_fill 29 = .ok (.aload_n 0, 1) := by decide +kernel
theorem dX11_fill_30 : decode cX11_fill 30 = .ok (.iload_n 1, 1) := by decide +kernel
theorem dX11_fill_31 : decode cX11_fill 31 = .ok (.iload_n 3, 1) := by decide +kernel
theorem dX11_fill_32 : decode cX11_fill 32 = .ok (.invokevirtual 226, 3) := by decide +kernel
theorem dX11_fill_35 : decode cX11_fill 35 = .ok (.aload_n 0, 1) := by decide +kernel
theorem dX11_fill_36 : decode cX11_fill 36 = .ok (.getfield 46, 3) := by decide +kernel
theorem dX11_fill_39 : decode cX11_fill 39 = .ok (.iload_n 1, 1) := by decide +kernel
theorem dX11_fill_40 : decode cX11_fill 40 = .ok (.iload_n 2, 1) := by decide +kernel
theorem dX11_fill_41 : decode cX11_fill 41 = .ok (.iastore, 1) := by decide +kernel
theorem dX11_fill_42 : decode cX11_fill 42 = .ok (.iload_n 3, 1) := by decide +kernel
theorem dX11_fill_43 : decode cX11_fill 43 = .ok (.ireturn, 1) := by decide +kernel
theorem dX11_undo_0 : decode cX11_undo 0 = .ok (.aload_n 0, 1) := by decide +kernel
theorem dX11_undo_1 : decode cX11_undo 1 = .ok (.getfield 153, 3) := by decide +kernel
theorem dX11_undo_4 : decode cX11_undo 4 = .ok (.ifCond .ne 6, 3) := by decide +kernel
theorem dX11_undo_7 : decode cX11_undo 7 = .ok (.bipush (-2), 2) := by decide +kernel
theorem dX11_undo_9 : decode cX11_undo 9 = .ok (.ireturn, 1) := by decide +kernel
theorem dX11_undo_10 : decode cX11_undo 10 = .ok (.aload_n 0, 1) := by decide +kernel
theorem dX11_undo_11 : decode cX11_undo 11 = .ok (.dup, 1) := by decide +kernel
theorem dX11_undo_12 : decode cX11_undo 12 = .ok (.getfield 153, 3) := by decide +kernel
theorem dX11_undo_15 : decode cX11_undo 15 = .ok (.iconst 1, 1) := by decide +kernel
theorem dX11_undo_16 : decode cX11_undo 16 = .ok (.isub, 1) := by decide +kernel
theorem dX11_undo_17 : decode cX11_undo 17 = .ok (.putfield 153, 3) := by decide +kernel
theorem dX11_undo_20 : decode cX11_undo 20 = .ok (.aload_n 0, 1) := by decide +kernel
theorem dX11_undo_21 : decode cX11_undo 21 = .ok (.getfield 61, 3) := by decide +kernel
theorem dX11_undo_24 : decode cX11_undo 24 = .ok (.iconst 2, 1) := by decide +kernel
theorem dX11_undo_25 : decode cX11_undo 25 = .ok (.aload_n 0, 1) := by decide +kernel
theorem dX11_undo_26 : decode cX11_undo 26 = .ok (.getfield 153, 3) := by decide +kernel
theorem dX11_undo_29 : decode cX11_undo 29 = .ok (.imul, 1) := by decide +kernel
theorem dX11_undo_30 : decode cX11_undo 30 = .ok (.iaload, 1) := by decide +kernel
theorem dX11_undo_31 : decode cX11_undo 31 = .ok (.istore_n 1, 1) := by decide +kernel
theorem dX11_undo_32 : decode cX11_undo 32 = .ok (.iload_n 1, 1) := by decide +kernel
theorem dX11_undo_33 : decode cX11_undo 33 = .ok (.ifCond .ge 16, 3) := by decide +kernel
theorem dX11_undo_36 : decode cX11_undo 36 = .ok (.aload_n 0, 1) := by decide +kernel
theorem dX11_undo_37 : decode cX11_undo 37 = .ok (.getfield 49, 3) := by decide +kernel
theorem dX11_undo_40 : decode cX11_undo 40 = .ok (.iconst 0, 1) := by decide +kernel
theorem dX11_undo_41 : decode cX11_undo 41 = .ok (.dup2, 1) := by decide +kernel
theorem dX11_undo_42 : decode cX11_undo 42 = .ok (.iaload, 1) := by decide +kernel
theorem dX11_undo_43 : decode cX11_undo 43 = .ok (.iconst 1, 1) := by decide +kernel
theorem dX11_undo_44 : decode cX11_undo 44 = .ok (.isub, 1) := by decide +kernel
theorem dX11_undo_45 : decode cX11_undo 45 = .ok (.iastore, 1) := by decide +kernel
theorem dX11_undo_46 : decode cX11_undo 46 = .ok (.goto 22, 3) := by decide +kernel
theorem dX11_undo_49 : decode cX11_undo 49 = .ok (.aload_n 0, 1) := by decide +kernel
theorem dX11_undo_50 : decode cX11_undo 50 = .ok (.getfield 46, 3) := by decide +kernel
theorem dX11_undo_53 : decode cX11_undo 53 = .ok (.iload_n 1, 1) := by decide +kernel
theorem dX11_undo_54 : decode cX11_undo 54 = .ok (.aload_n 0, 1) := by decide +kernel
theorem dX11_undo_55 : decode cX11_undo 55 = .ok (.getfield 61, 3) := by decide +kernel
theorem dX11_undo_58 : decode cX11_undo 58 = .ok (.iconst 2, 1) := by decide +kernel
theorem dX11_undo_59 : decode cX11_undo 59 = .ok (.aload_n 0, 1) := by decide +kernel
theorem dX11_undo_60 : decode cX11_undo 60 = .ok (.getfield 153, 3) := by decide +kernel
theorem dX11_undo_63 : decode cX11_undo 63 = .ok (.imul, 1) := by decide +kernel
theorem dX11_undo_64 : decode cX11_undo 64 = .ok (.iconst 1, 1) := by decide +kernel
theorem dX11_undo_65 : decode cX11_undo 65 = .ok (.iadd, 1) := by decide +kernel
theorem dX11_undo_66 : decode cX11_undo 66 = .ok (.iaload, 1) := by decide +kernel
theorem dX11_undo_67 : decode cX11_undo 67 = .ok (.iastore, 1) := by decide +kernel
theorem dX11_undo_68 : decode cX11_undo 68 = .ok (.aload_n 0, 1) := by decide +kernel
theorem dX11_undo_69 : decode cX11_undo 69 = .ok (.getfield 153, 3) := by decide +kernel
theorem dX11_undo_72 : decode cX11_undo 72 = .ok (.ireturn, 1) := by decide +kernel
theorem dX11_year_0 : decode cX11_year 0 = .ok (.iload_n 1, 1) := by decide +kernel
theorem dX11_year_1 : decode cX11_year 1 = .ok (.i2l, 1) := by decide +kernel
theorem dX11_year_2 : decode cX11_year 2 = .ok (.lconst 0, 1) := by decide +kernel
theorem dX11_year_3 : decode cX11_year 3 = .ok (.ldc2_w 229, 3) := by decide +kernel
theorem dX11_year_6 : decode cX11_year 6 = .ok (.invokestatic 97, 3) := by decide +kernel
theorem dX11_year_9 : decode cX11_year 9 = .ok (.ifCond .eq 13, 3) := by decide +kernel
theorem dX11_year_12 : decode cX11_year 12 = .ok (.iload_n 2, 1) := by decide +kernel
theorem dX11_year_13 : decode cX11_year 13 = .ok (.i2l, 1) := by decide +kernel
theorem dX11_year_14 : decode cX11_year 14 = .ok (.lconst 0, 1) := by decide +kernel
theorem dX11_year_15 : decode cX11_year 15 = .ok (.lconst 1, 1) := by decide +kernel
theorem dX11_year_16 : decode cX11_year 16 = .ok (.invokestatic 97, 3) := by decide +kernel
theorem dX11_year_19 : decode cX11_year 19 = .ok (.ifCond .ne 5, 3) := by decide +kernel
theorem dX11_year_22 : decode cX11_year 22 = .ok (.iconst (-1), 1) := by decide +kernel
theorem dX11_year_23 : decode cX11_year 23 = .ok (.ireturn, 1) := by decide +kernel
theorem dX11_year_24 : decode cX11_year 24 = .ok (.iconst 0, 1) := by decide +kernel
theorem dX11_year_25 : decode cX11_year 25 = .ok (.istore_n 3, 1) := by decide +kernel
theorem dX11_year_26 : decode cX11_year 26 = .ok (.iload_n 3, 1) := by decide +kernel
theorem dX11_year_27 : decode cX11_year 27 = .ok (.aload_n 0, 1) := by decide +kernel
theorem dX11_year_28 : decode cX11_year 28 = .ok (.getfield 22, 3) := by decide +kernel
theorem dX11_year_31 : decode cX11_year 31 = .ok (.iconst 0, 1) := by decide +kernel
theorem dX11_year_32 : decode cX11_year 32 = .ok (.iaload, 1) := by decide +kernel
theorem dX11_year_33 : decode cX11_year 33 = .ok (.if_icmp .ge 58, 3) := by decide +kernel
theorem dX11_year_36 : decode cX11_year 36 = .ok (.ldc2_w 231, 3) := by decide +kernel
theorem dX11_year_39 : decode cX11_year 39 = .ok (.iload_n 1, 1) := by decide +kernel
theorem dX11_year_40 : decode cX11_year 40 = .ok (.i2l, 1) := by decide +kernel
theorem dX11_year_41 : decode cX11_year 41 = .ok (.lmul, 1) := by decide +kernel
theorem dX11_year_42 : decode cX11_year 42 = .ok (.ldc2_w 233, 3) := by decide +kernel
theorem dX11_year_45 : decode cX11_year 45 = .ok (.iload_n 3, 1) := by decide +kernel
theorem dX11_year_46 : decode cX11_year 46 = .ok (.i2l, 1) := by decide +kernel
theorem dX11_year_47 : decode cX11_year 47 = .ok (.lmul, 1) := by decide +kernel
theorem dX11_year_48 : decode cX11_year 48 = .ok (.ladd, 1) := by decide +kernel
theorem dX11_year_49 : decode cX11_year 49 = .ok (.lconst 1, 1) := by decide +kernel
theorem dX11_year_50 : decode cX11_year 50 = .ok (.ladd, 1) := by decide +kernel
theorem dX11_year_51 : decode cX11_year 51 = .ok (.lstore 4, 2) := by decide +kernel
theorem dX11_year_53 : decode cX11_year 53 = .ok (.aload_n 0, 1) := by decide +kernel
theorem dX11_year_54 : decode cX11_year 54 = .ok (.getfield 92, 3) := by decide +kernel
theorem dX11_year_57 : decode cX11_year 57 = .ok (.iload_n 3, 1) := by decide +kernel
theorem dX11_year_58 : decode cX11_year 58 = .ok (.aload_n 0, 1) := by decide +kernel
theorem dX11_year_59 : decode cX11_year 59 = .ok (.getfield 28, 3) := by decide +kernel
theorem dX11_year_62 : decode cX11_year 62 = .ok (.iload_n 3, 1) := by decide +kernel
theorem dX11_year_63 : decode cX11_year 63 = .ok (.iaload, 1) := by decide +kernel
theorem dX11_year_64 : decode cX11_year 64 = .ok (.iastore, 1) := by decide +kernel
theorem dX11_year_65 : decode cX11_year 65 = .ok (.aload_n 0, 1) := by decide +kernel
theorem dX11_year_66 : decode cX11_year 66 = .ok (.getfield 28, 3) := by decide +kernel
theorem dX11_year_69 : decode cX11_year 69 = .ok (.iload_n 3, 1) := by decide +kernel
theorem dX11_year_70 : decode cX11_year 70 = .ok (.lload 4, 2) := by decide +kernel
theorem dX11_year_72 : decode cX11_year 72 = .ok (.lload 4, 2) := by decide +kernel
theorem dX11_year_74 : decode cX11_year 74 = .ok (.lmul, 1) := by decide +kernel
theorem dX11_year_75 : decode cX11_year 75 = .ok (.ldc2_w 235, 3) := by decide +kernel
theorem dX11_year_78 : decode cX11_year 78 = .ok (.lrem, 1) := by decide +kernel
theorem dX11_year_79 : decode cX11_year 79 = .ok (.ldc2_w 237, 3) := by decide +kernel
theorem dX11_year_82 : decode cX11_year 82 = .ok (.lrem, 1) := by decide +kernel
theorem dX11_year_83 : decode cX11_year 83 = .ok (.l2i, 1) := by decide +kernel
theorem dX11_year_84 : decode cX11_year 84 = .ok (.iastore, 1) := by decide +kernel
theorem dX11_year_85 : decode cX11_year 85 = .ok (.iinc 3 1, 3) := by decide +kernel
theorem dX11_year_88 : decode cX11_year 88 = .ok (.goto (-62), 3) := by decide +kernel
theorem dX11_year_91 : decode cX11_year 91 = .ok (.aload_n 0, 1) := by decide +kernel
theorem dX11_year_92 : decode cX11_year 92 = .ok (.bipush 60, 2) := by decide +kernel
theorem dX11_year_94 : decode cX11_year 94 = .ok (.invokevirtual 190, 3) := by decide +kernel
theorem dX11_year_97 : decode cX11_year 97 = .ok (.istore_n 3, 1) := by decide +kernel
theorem dX11_year_98 : decode cX11_year 98 = .ok (.iconst 0, 1) := by decide +kernel
theorem dX11_year_99 : decode cX11_year 99 = .ok (.istore 4, 2) := by decide +kernel
theorem dX11_year_101 : decode cX11_year 101 = .ok (.iconst 0, 1) := by decide +kernel
theorem dX11_year_102 : decode cX11_year 102 = .ok (.istore 5, 2) := by decide +kernel
theorem dX11_year_104 : decode cX11_year 104 = .ok (.iload 5, 2) := by decide +kernel
theorem dX11_year_106 : decode cX11_year 106 = .ok (.aload_n 0, 1) := by decide +kernel
theorem dX11_year_107 : decode cX11_year 107 = .ok (.getfield 22, 3) := by decide +kernel
theorem dX11_year_110 : decode cX11_year 110 = .ok (.iconst 0, 1) := by decide +kernel
theorem dX11_year_111 : decode cX11_year 111 = .ok (.iaload, 1) := by decide +kernel
theorem dX11_year_112 : decode cX11_year 112 = .ok (.if_icmp .ge 45, 3) := by decide +kernel
theorem dX11_year_115 : decode cX11_year 115 = .ok (.iload 4, 2) := by decide +kernel
theorem dX11_year_117 : decode cX11_year 117 = .ok (.aload_n 0, 1) := by decide +kernel
theorem dX11_year_118 : decode cX11_year 118 = .ok (.getfield 67, 3) := by decide +kernel
theorem dX11_year_121 : decode cX11_year 121 = .ok (.iload 5, 2) := by decide +kernel
theorem dX11_year_123 : decode cX11_year 123 = .ok (.iaload, 1) := by decide +kernel
theorem dX11_year_124 : decode cX11_year 124 = .ok (.bipush 9, 2) := by decide +kernel
theorem dX11_year_126 : decode cX11_year 126 = .ok (.if_icmp .ne 7, 3) := by decide +kernel
theorem dX11_year_129 : decode cX11_year 129 = .ok (.iconst 1, 1) := by decide +kernel
theorem dX11_year_130 : decode cX11_year 130 = .ok (.goto 4, 3) := by decide +kernel
theorem dX11_year_133 : decode cX11_year 133 = .ok (.iconst 0, 1) := by decide +kernel
theorem dX11_year_134 : decode cX11_year 134 = .ok (.iadd, 1) := by decide +kernel
theorem dX11_year_135 : decode cX11_year 135 = .ok (.istore 4, 2) := by decide +kernel
theorem dX11_year_137 : decode cX11_year 137 = .ok (.aload_n 0, 1) := by decide +kernel
theorem dX11_year_138 : decode cX11_year 138 = .ok (.getfield 28, 3) := by decide +kernel
theorem dX11_year_141 : decode cX11_year 141 = .ok (.iload 5, 2) := by decide +kernel
theorem dX11_year_143 : decode cX11_year 143 = .ok (.aload_n 0, 1) := by decide +kernel
theorem dX11_year_144 : decode cX11_year 144 = .ok (.getfield 92, 3) := by decide +kernel
theorem dX11_year_147 : decode cX11_year 147 = .ok (.iload 5, 2) := by decide +kernel
theorem dX11_year_149 : decode cX11_year 149 = .ok (.iaload, 1) := by decide +kernel
theorem dX11_year_150 : decode cX11_year 150 = .ok (.iastore, 1) := by decide +kernel
theorem dX11_year_151 : decode cX11_year 151 = .ok (.iinc 5 1, 3) := by decide +kernel
theorem dX11_year_154 : decode cX11_year 154 = .ok (.goto (-50), 3) := by decide +kernel
theorem dX11_year_157 : decode cX11_year 157 = .ok (.iload_n 2, 1) := by decide +kernel
theorem dX11_year_158 : decode cX11_year 158 = .ok (.ifCond .ne 7, 3) := by decide +kernel
theorem dX11_year_161 : decode cX11_year 161 = .ok (.iload_n 3, 1) := by decide +kernel
theorem dX11_year_162 : decode cX11_year 162 = .ok (.goto 5, 3) := by decide +kernel
theorem dX11_year_165 : decode cX11_year 165 = .ok (.iload 4, 2) := by decide +kernel
theorem dX11_year_167 : decode cX11_year 167 = .ok (.ireturn, 1) := by decide +kernel
theorem dX11_keep_0 : decode cX11_keep 0 = .ok (.aload_n 0, 1) := by decide +kernel
theorem dX11_keep_1 : decode cX11_keep 1 = .ok (.getfield 150, 3) := by decide +kernel
theorem dX11_keep_4 : decode cX11_keep 4 = .ok (.iconst 2, 1) := by decide +kernel
theorem dX11_keep_5 : decode cX11_keep 5 = .ok (.if_icmp .ne 6, 3) := by decide +kernel
theorem dX11_keep_8 : decode cX11_keep 8 = .ok (.bipush (-3), 2) := by decide +kernel
theorem dX11_keep_10 : decode cX11_keep 10 = .ok (.ireturn, 1) := by decide +kernel
theorem dX11_keep_11 : decode cX11_keep 11 = .ok (.aload_n 0, 1) := by decide +kernel
theorem dX11_keep_12 : decode cX11_keep 12 = .ok (.dup, 1) := by decide +kernel
theorem dX11_keep_13 : decode cX11_keep 13 = .ok (.getfield 150, 3) := by decide +kernel
theorem dX11_keep_16 : decode cX11_keep 16 = .ok (.iconst 1, 1) := by decide +kernel
theorem dX11_keep_17 : decode cX11_keep 17 = .ok (.iadd, 1) := by decide +kernel
theorem dX11_keep_18 : decode cX11_keep 18 = .ok (.putfield 150, 3) := by decide +kernel
theorem dX11_keep_21 : decode cX11_keep 21 = .ok (.aload_n 0, 1) := by decide +kernel
theorem dX11_keep_22 : decode cX11_keep 22 = .ok (.iconst 0, 1) := by decide +kernel
theorem dX11_keep_23 : decode cX11_keep 23 = .ok (.iconst 1, 1) := by decide +kernel
theorem dX11_keep_24 : decode cX11_keep 24 = .ok (.aload_n 0, 1) := by decide +kernel
theorem dX11_keep_25 : decode cX11_keep 25 = .ok (.getfield 150, 3) := by decide +kernel
theorem dX11_keep_28 : decode cX11_keep 28 = .ok (.iadd, 1) := by decide +kernel
theorem dX11_keep_29 : decode cX11_keep 29 = .ok (.invokevirtual 146, 3) := by decide +kernel
theorem dX11_keep_32 : decode cX11_keep 32 = .ok (.aload_n 0, 1) := by decide +kernel
theorem dX11_keep_33 : decode cX11_keep 33 = .ok (.getfield 150, 3) := by decide +kernel
theorem dX11_keep_36 : decode cX11_keep 36 = .ok (.ireturn, 1) := by decide +kernel
theorem dX11_back_0 : decode cX11_back 0 = .ok (.aload_n 0, 1) := by decide +kernel
theorem dX11_back_1 : decode cX11_back 1 = .ok (.getfield 150, 3) := by decide +kernel
theorem dX11_back_4 : decode cX11_back 4 = .ok (.ifCond .ne 6, 3) := by decide +kernel
theorem dX11_back_7 : decode cX11_back 7 = .ok (.bipush (-2), 2) := by decide +kernel
theorem dX11_back_9 : decode cX11_back 9 = .ok (.ireturn, 1) := by decide +kernel
theorem dX11_back_10 : decode cX11_back 10 = .ok (.aload_n 0, 1) := by decide +kernel
theorem dX11_back_11 : decode cX11_back 11 = .ok (.iconst 1, 1) := by decide +kernel
theorem dX11_back_12 : decode cX11_back 12 = .ok (.aload_n 0, 1) := by decide +kernel
theorem dX11_back_13 : decode cX11_back 13 = .ok (.getfield 150, 3) := by decide +kernel
theorem dX11_back_16 : decode cX11_back 16 = .ok (.iadd, 1) := by decide +kernel
theorem dX11_back_17 : decode cX11_back 17 = .ok (.iconst 0, 1) := by decide +kernel
theorem dX11_back_18 : decode cX11_back 18 = .ok (.invokevirtual 146, 3) := by decide +kernel
theorem dX11_back_21 : decode cX11_back 21 = .ok (.aload_n 0, 1) := by decide +kernel
theorem dX11_back_22 : decode cX11_back 22 = .ok (.dup, 1) := by decide +kernel
theorem dX11_back_23 : decode cX11_back 23 = .ok (.getfield 150, 3) := by decide +kernel
theorem dX11_back_26 : decode cX11_back 26 = .ok (.iconst 1, 1) := by decide +kernel
theorem dX11_back_27 : decode cX11_back 27 = .ok (.isub, 1) := by decide +kernel
theorem dX11_back_28 : decode cX11_back 28 = .ok (.putfield 150, 3) := by decide +kernel
theorem dX11_back_31 : decode cX11_back 31 = .ok (.aload_n 0, 1) := by decide +kernel
theorem dX11_back_32 : decode cX11_back 32 = .ok (.iconst 0, 1) := by decide +kernel
theorem dX11_back_33 : decode cX11_back 33 = .ok (.putfield 153, 3) := by decide +kernel
theorem dX11_back_36 : decode cX11_back 36 = .ok (.aload_n 0, 1) := by decide +kernel
theorem dX11_back_37 : decode cX11_back 37 = .ok (.getfield 150, 3) := by decide +kernel
theorem dX11_back_40 : decode cX11_back 40 = .ok (.ireturn, 1) := by decide +kernel
theorem dX11_count_0 : decode cX11_count 0 = .ok (.iload_n 1, 1) := by decide +kernel
theorem dX11_count_1 : decode cX11_count 1 = .ok (.tableswitch 86 0 6 #[43, 50, 57, 64, 71, 76, 81], 43) := by decide +kernel
theorem dX11_count_44 : decode cX11_count 44 = .ok (.aload_n 0, 1) := by decide +kernel
theorem dX11_count_45 : decode cX11_count 45 = .ok (.getfield 13, 3) := by decide +kernel
theorem dX11_count_48 : decode cX11_count 48 = .ok (.iconst 0, 1) := by decide +kernel
theorem dX11_count_49 : decode cX11_count 49 = .ok (.iaload, 1) := by decide +kernel
theorem dX11_count_50 : decode cX11_count 50 = .ok (.ireturn, 1) := by decide +kernel
theorem dX11_count_51 : decode cX11_count 51 = .ok (.aload_n 0, 1) := by decide +kernel
theorem dX11_count_52 : decode cX11_count 52 = .ok (.getfield 22, 3) := by decide +kernel
theorem dX11_count_55 : decode cX11_count 55 = .ok (.iconst 0, 1) := by decide +kernel
theorem dX11_count_56 : decode cX11_count 56 = .ok (.iaload, 1) := by decide +kernel
theorem dX11_count_57 : decode cX11_count 57 = .ok (.ireturn, 1) := by decide +kernel
theorem dX11_count_58 : decode cX11_count 58 = .ok (.aload_n 0, 1) := by decide +kernel
theorem dX11_count_59 : decode cX11_count 59 = .ok (.getfield 49, 3) := by decide +kernel
theorem dX11_count_62 : decode cX11_count 62 = .ok (.iconst 0, 1) := by decide +kernel
theorem dX11_count_63 : decode cX11_count 63 = .ok (.iaload, 1) := by decide +kernel
theorem dX11_count_64 : decode cX11_count 64 = .ok (.ireturn, 1) := by decide +kernel
theorem dX11_count_65 : decode cX11_count 65 = .ok (.aload_n 0, 1) := by decide +kernel
theorem dX11_count_66 : decode cX11_count 66 = .ok (.getfield 37, 3) := by decide +kernel
theorem dX11_count_69 : decode cX11_count 69 = .ok (.iconst 0, 1) := by decide +kernel
theorem dX11_count_70 : decode cX11_count 70 = .ok (.iaload, 1) := by decide +kernel
theorem dX11_count_71 : decode cX11_count 71 = .ok (.ireturn, 1) := by decide +kernel
theorem dX11_count_72 : decode cX11_count 72 = .ok (.aload_n 0, 1) := by decide +kernel
theorem dX11_count_73 : decode cX11_count 73 = .ok (.getfield 153, 3) := by decide +kernel
theorem dX11_count_76 : decode cX11_count 76 = .ok (.ireturn, 1) := by decide +kernel
theorem dX11_count_77 : decode cX11_count 77 = .ok (.aload_n 0, 1) := by decide +kernel
theorem dX11_count_78 : decode cX11_count 78 = .ok (.getfield 150, 3) := by decide +kernel
theorem dX11_count_81 : decode cX11_count 81 = .ok (.ireturn, 1) := by decide +kernel
theorem dX11_count_82 : decode cX11_count 82 = .ok (.aload_n 0, 1) := by decide +kernel
theorem dX11_count_83 : decode cX11_count 83 = .ok (.getfield 101, 3) := by decide +kernel
theorem dX11_count_86 : decode cX11_count 86 = .ok (.ireturn, 1) := by decide +kernel
theorem dX11_count_87 : decode cX11_count 87 = .ok (.iconst (-1), 1) := by decide +kernel
theorem dX11_count_88 : decode cX11_count 88 = .ok (.ireturn, 1) := by decide +kernel
theorem dJ9_max_7cf53_0 : decode cJ9_max_7cf53 0 = .ok (.iload_n 0, 1) := by decide +kernel
theorem dJ9_max_7cf53_1 : decode cJ9_max_7cf53 1 = .ok (.iload_n 1, 1) := by decide +kernel
theorem dJ9_max_7cf53_2 : decode cJ9_max_7cf53 2 = .ok (.if_icmp .lt 7, 3) := by decide +kernel
theorem dJ9_max_7cf53_5 : decode cJ9_max_7cf53 5 = .ok (.iload_n 0, 1) := by decide +kernel
theorem dJ9_max_7cf53_6 : decode cJ9_max_7cf53 6 = .ok (.goto 4, 3) := by decide +kernel
theorem dJ9_max_7cf53_9 : decode cJ9_max_7cf53 9 = .ok (.iload_n 1, 1) := by decide +kernel
theorem dJ9_max_7cf53_10 : decode cJ9_max_7cf53 10 = .ok (.ireturn, 1) := by decide +kernel
theorem dJ9_min_7cf53_0 : decode cJ9_min_7cf53 0 = .ok (.iload_n 0, 1) := by decide +kernel
theorem dJ9_min_7cf53_1 : decode cJ9_min_7cf53 1 = .ok (.iload_n 1, 1) := by decide +kernel
theorem dJ9_min_7cf53_2 : decode cJ9_min_7cf53 2 = .ok (.if_icmp .gt 7, 3) := by decide +kernel
theorem dJ9_min_7cf53_5 : decode cJ9_min_7cf53 5 = .ok (.iload_n 0, 1) := by decide +kernel
theorem dJ9_min_7cf53_6 : decode cJ9_min_7cf53 6 = .ok (.goto 4, 3) := by decide +kernel
theorem dJ9_min_7cf53_9 : decode cJ9_min_7cf53 9 = .ok (.iload_n 1, 1) := by decide +kernel
theorem dJ9_min_7cf53_10 : decode cJ9_min_7cf53 10 = .ok (.ireturn, 1) := by decide +kernel
theorem dJ0_length_8abf5_0 : decode cJ0_length_8abf5 0 = .ok (.aload_n 0, 1) := by decide +kernel
theorem dJ0_length_8abf5_1 : decode cJ0_length_8abf5 1 = .ok (.getfield 9, 3) := by decide +kernel
theorem dJ0_length_8abf5_4 : decode cJ0_length_8abf5 4 = .ok (.arraylength, 1) := by decide +kernel
theorem dJ0_length_8abf5_5 : decode cJ0_length_8abf5 5 = .ok (.aload_n 0, 1) := by decide +kernel
theorem dJ0_length_8abf5_6 : decode cJ0_length_8abf5 6 = .ok (.invokevirtual 335, 3) := by decide +kernel
theorem dJ0_length_8abf5_9 : decode cJ0_length_8abf5 9 = .ok (.ishr, 1) := by decide +kernel
theorem dJ0_length_8abf5_10 : decode cJ0_length_8abf5 10 = .ok (.ireturn, 1) := by decide +kernel
theorem dJ0_charAt_5068e_0 : decode cJ0_charAt_5068e 0 = .ok (.aload_n 0, 1) := by decide +kernel
theorem dJ0_charAt_5068e_1 : decode cJ0_charAt_5068e 1 = .ok (.invokevirtual 492, 3) := by decide +kernel
theorem dJ0_charAt_5068e_4 : decode cJ0_charAt_5068e 4 = .ok (.ifCond .eq 12, 3) := by decide +kernel
theorem dJ0_charAt_5068e_7 : decode cJ0_charAt_5068e 7 = .ok (.aload_n 0, 1) := by decide +kernel
theorem dJ0_charAt_5068e_8 : decode cJ0_charAt_5068e 8 = .ok (.getfield 9, 3) := by decide +kernel
theorem dJ0_charAt_5068e_11 : decode cJ0_charAt_5068e 11 = .ok (.iload_n 1, 1) := by decide +kernel
theorem dJ0_charAt_5068e_12 : decode cJ0_charAt_5068e 12 = .ok (.invokestatic 495, 3) := by decide +kernel
theorem dJ0_charAt_5068e_15 : decode cJ0_charAt_5068e 15 = .ok (.ireturn, 1) := by decide +kernel
theorem dJ0_charAt_5068e_16 : decode cJ0_charAt_5068e 16 = .ok (.aload_n 0, 1) := by decide +kernel
theorem dJ0_charAt_5068e_17 : decode cJ0_charAt_5068e 17 = .ok (.getfield 9, 3) := by decide +kernel
theorem dJ0_charAt_5068e_20 : decode cJ0_charAt_5068e 20 = .ok (.iload_n 1, 1) := by decide +kernel
theorem dJ0_charAt_5068e_21 : decode cJ0_charAt_5068e 21 = .ok (.invokestatic 498, 3) := by decide +kernel
theorem dJ0_charAt_5068e_24 : decode cJ0_charAt_5068e 24 = .ok (.ireturn, 1) := by decide +kernel
theorem dJ0_coder_7d493_0 : decode cJ0_coder_7d493 0 = .ok (.getstatic 38, 3) := by decide +kernel
theorem dJ0_coder_7d493_3 : decode cJ0_coder_7d493 3 = .ok (.ifCond .eq 10, 3) := by decide +kernel
theorem dJ0_coder_7d493_6 : decode cJ0_coder_7d493 6 = .ok (.aload_n 0, 1) := by decide +kernel
theorem dJ0_coder_7d493_7 : decode cJ0_coder_7d493 7 = .ok (.getfield 15, 3) := by decide +kernel
theorem dJ0_coder_7d493_10 : decode cJ0_coder_7d493 10 = .ok (.goto 4, 3) := by decide +kernel
theorem dJ0_coder_7d493_13 : decode cJ0_coder_7d493 13 = .ok (.iconst 1, 1) := by decide +kernel
theorem dJ0_coder_7d493_14 : decode cJ0_coder_7d493 14 = .ok (.ireturn, 1) := by decide +kernel
theorem dJ0_isLatin1_aae02_0 : decode cJ0_isLatin1_aae02 0 = .ok (.getstatic 38, 3) := by decide +kernel
theorem dJ0_isLatin1_aae02_3 : decode cJ0_isLatin1_aae02 3 = .ok (.ifCond .eq 14, 3) := by decide +kernel
theorem dJ0_isLatin1_aae02_6 : decode cJ0_isLatin1_aae02 6 = .ok (.aload_n 0, 1) := by decide +kernel
theorem dJ0_isLatin1_aae02_7 : decode cJ0_isLatin1_aae02 7 = .ok (.getfield 15, 3) := by decide +kernel
theorem dJ0_isLatin1_aae02_10 : decode cJ0_isLatin1_aae02 10 = .ok (.ifCond .ne 7, 3) := by decide +kernel
theorem dJ0_isLatin1_aae02_13 : decode cJ0_isLatin1_aae02 13 = .ok (.iconst 1, 1) := by decide +kernel
theorem dJ0_isLatin1_aae02_14 : decode cJ0_isLatin1_aae02 14 = .ok (.goto 4, 3) := by decide +kernel
theorem dJ0_isLatin1_aae02_17 : decode cJ0_isLatin1_aae02 17 = .ok (.iconst 0, 1) := by decide +kernel
theorem dJ0_isLatin1_aae02_18 : decode cJ0_isLatin1_aae02 18 = .ok (.ireturn, 1) := by decide +kernel
theorem dJ0_checkIndex_df160_0 : decode cJ0_checkIndex_df160 0 = .ok (.iload_n 0, 1) := by decide +kernel
theorem dJ0_checkIndex_df160_1 : decode cJ0_checkIndex_df160 1 = .ok (.iload_n 1, 1) := by decide +kernel
theorem dJ0_checkIndex_df160_2 : decode cJ0_checkIndex_df160 2 = .ok (.getstatic 1053, 3) := by decide +kernel
theorem dJ0_checkIndex_df160_5 : decode cJ0_checkIndex_df160 5 = .ok (.invokestatic 1059, 3) := by decide +kernel
theorem dJ0_checkIndex_df160_8 : decode cJ0_checkIndex_df160 8 = .ok (.pop, 1) := by decide +kernel
theorem dJ0_checkIndex_df160_9 : decode cJ0_checkIndex_df160 9 = .ok (.return_, 1) := by decide +kernel
theorem dJ1_charAt_3b067_0 : decode cJ1_charAt_3b067 0 = .ok (.iload_n 1, 1) := by decide +kernel
theorem dJ1_charAt_3b067_1 : decode cJ1_charAt_3b067 1 = .ok (.aload_n 0, 1) := by decide +kernel
theorem dJ1_charAt_3b067_2 : decode cJ1_charAt_3b067 2 = .ok (.arraylength, 1) := by decide +kernel
theorem dJ1_charAt_3b067_3 : decode cJ1_charAt_3b067 3 = .ok (.invokestatic 9, 3) := by decide +kernel
theorem dJ1_charAt_3b067_6 : decode cJ1_charAt_3b067 6 = .ok (.aload_n 0, 1) := by decide +kernel
theorem dJ1_charAt_3b067_7 : decode cJ1_charAt_3b067 7 = .ok (.iload_n 1, 1) := by decide +kernel
theorem dJ1_charAt_3b067_8 : decode cJ1_charAt_3b067 8 = .ok (.baload, 1) := by decide +kernel
theorem dJ1_charAt_3b067_9 : decode cJ1_charAt_3b067 9 = .ok (.sipush 255, 3) := by decide +kernel
theorem dJ1_charAt_3b067_12 : decode cJ1_charAt_3b067 12 = .ok (.iand, 1) := by decide +kernel
theorem dJ1_charAt_3b067_13 : decode cJ1_charAt_3b067 13 = .ok (.i2c, 1) := by decide +kernel
theorem dJ1_charAt_3b067_14 : decode cJ1_charAt_3b067 14 = .ok (.ireturn, 1) := by decide +kernel
theorem dJ2_getChar_3b067_0 : decode cJ2_getChar_3b067 0 = .ok (.getstatic 44, 3) := by decide +kernel
theorem dJ2_getChar_3b067_3 : decode cJ2_getChar_3b067 3 = .ok (.ifCond .ne 25, 3) := by decide +kernel
theorem dJ2_getChar_3b067_6 : decode cJ2_getChar_3b067 6 = .ok (.iload_n 1, 1) := by decide +kernel
theorem dJ2_getChar_3b067_7 : decode cJ2_getChar_3b067 7 = .ok (.ifCond .lt 11, 3) := by decide +kernel
theorem dJ2_getChar_3b067_10 : decode cJ2_getChar_3b067 10 = .ok (.iload_n 1, 1) := by decide +kernel
theorem dJ2_getChar_3b067_11 : decode cJ2_getChar_3b067 11 = .ok (.aload_n 0, 1) := by decide +kernel
theorem dJ2_getChar_3b067_12 : decode cJ2_getChar_3b067 12 = .ok (.invokestatic 48, 3) := by decide +kernel
theorem dJ2_getChar_3b067_15 : decode cJ2_getChar_3b067 15 = .ok (.if_icmp .lt 13, 3) := by decide +kernel
theorem dJ2_getChar_3b067_18 : decode cJ2_getChar_3b067 18 = .ok (.new 52, 3) := by decide +kernel
theorem dJ2_getChar_3b067_21 : decode cJ2_getChar_3b067 21 = .ok (.dup, 1) := by decide +kernel
theorem dJ2_getChar_3b067_22 : decode cJ2_getChar_3b067 22 = .ok (.ldc 54, 2) := by decide +kernel
theorem dJ2_getChar_3b067_24 : decode cJ2_getChar_3b067 24 = .ok (.invokespecial 56, 3) := by decide +kernel
theorem dJ2_getChar_3b067_27 : decode cJ2_getChar_3b067 27 = .ok (.athrow, 1) := by decide +kernel
theorem dJ2_getChar_3b067_28 : decode cJ2_getChar_3b067 28 = .ok (.iload_n 1, 1) := by decide +kernel
theorem dJ2_getChar_3b067_29 : decode cJ2_getChar_3b067 29 = .ok (.iconst 1, 1) := by decide +kernel
theorem dJ2_getChar_3b067_30 : decode cJ2_getChar_3b067 30 = .ok (.ishl, 1) := by decide +kernel
theorem dJ2_getChar_3b067_31 : decode cJ2_getChar_3b067 31 = .ok (.istore_n 1, 1) := by decide +kernel
theorem dJ2_getChar_3b067_32 : decode cJ2_getChar_3b067 32 = .ok (.aload_n 0, 1) := by decide +kernel
theorem dJ2_getChar_3b067_33 : decode cJ2_getChar_3b067 33 = .ok (.iload_n 1, 1) := by decide +kernel
theorem dJ2_getChar_3b067_34 : decode cJ2_getChar_3b067 34 = .ok (.iinc 1 1, 3) := by decide +kernel
theorem dJ2_getChar_3b067_37 : decode cJ2_getChar_3b067 37 = .ok (.baload, 1) := by decide +kernel
theorem dJ2_getChar_3b067_38 : decode cJ2_getChar_3b067 38 = .ok (.sipush 255, 3) := by decide +kernel
theorem dJ2_getChar_3b067_41 : decode cJ2_getChar_3b067 41 = .ok (.iand, 1) := by decide +kernel
theorem dJ2_getChar_3b067_42 : decode cJ2_getChar_3b067 42 = .ok (.getstatic 59, 3) := by decide +kernel
theorem dJ2_getChar_3b067_45 : decode cJ2_getChar_3b067 45 = .ok (.ishl, 1) := by decide +kernel
theorem dJ2_getChar_3b067_46 : decode cJ2_getChar_3b067 46 = .ok (.aload_n 0, 1) := by decide +kernel
theorem dJ2_getChar_3b067_47 : decode cJ2_getChar_3b067 47 = .ok (.iload_n 1, 1) := by decide +kernel
theorem dJ2_getChar_3b067_48 : decode cJ2_getChar_3b067 48 = .ok (.baload, 1) := by decide +kernel
theorem dJ2_getChar_3b067_49 : decode cJ2_getChar_3b067 49 = .ok (.sipush 255, 3) := by decide +kernel
theorem dJ2_getChar_3b067_52 : decode cJ2_getChar_3b067 52 = .ok (.iand, 1) := by decide +kernel
theorem dJ2_getChar_3b067_53 : decode cJ2_getChar_3b067 53 = .ok (.getstatic 63, 3) := by decide +kernel
theorem dJ2_getChar_3b067_56 : decode cJ2_getChar_3b067 56 = .ok (.ishl, 1) := by decide +kernel
theorem dJ2_getChar_3b067_57 : decode cJ2_getChar_3b067 57 = .ok (.ior, 1) := by decide +kernel
theorem dJ2_getChar_3b067_58 : decode cJ2_getChar_3b067 58 = .ok (.i2c, 1) := by decide +kernel
theorem dJ2_getChar_3b067_59 : decode cJ2_getChar_3b067 59 = .ok (.ireturn, 1) := by decide +kernel
theorem dJ2_length_9d52b_0 : decode cJ2_length_9d52b 0 = .ok (.aload_n 0, 1) := by decide +kernel
theorem dJ2_length_9d52b_1 : decode cJ2_length_9d52b 1 = .ok (.arraylength, 1) := by decide +kernel
theorem dJ2_length_9d52b_2 : decode cJ2_length_9d52b 2 = .ok (.iconst 1, 1) := by decide +kernel
theorem dJ2_length_9d52b_3 : decode cJ2_length_9d52b 3 = .ok (.ishr, 1) := by decide +kernel
theorem dJ2_length_9d52b_4 : decode cJ2_length_9d52b 4 = .ok (.ireturn, 1) := by decide +kernel
theorem dJ2_charAt_3b067_0 : decode cJ2_charAt_3b067 0 = .ok (.iload_n 1, 1) := by decide +kernel
theorem dJ2_charAt_3b067_1 : decode cJ2_charAt_3b067 1 = .ok (.aload_n 0, 1) := by decide +kernel
theorem dJ2_charAt_3b067_2 : decode cJ2_charAt_3b067 2 = .ok (.invokestatic 67, 3) := by decide +kernel
theorem dJ2_charAt_3b067_5 : decode cJ2_charAt_3b067 5 = .ok (.aload_n 0, 1) := by decide +kernel
theorem dJ2_charAt_3b067_6 : decode cJ2_charAt_3b067 6 = .ok (.iload_n 1, 1) := by decide +kernel
theorem dJ2_charAt_3b067_7 : decode cJ2_charAt_3b067 7 = .ok (.invokestatic 71, 3) := by decide +kernel
theorem dJ2_charAt_3b067_10 : decode cJ2_charAt_3b067 10 = .ok (.ireturn, 1) := by decide +kernel
theorem dJ2_checkIndex_2214a_0 : decode cJ2_checkIndex_2214a 0 = .ok (.iload_n 0, 1) := by decide +kernel
theorem dJ2_checkIndex_2214a_1 : decode cJ2_checkIndex_2214a 1 = .ok (.aload_n 1, 1) := by decide +kernel
theorem dJ2_checkIndex_2214a_2 : decode cJ2_checkIndex_2214a 2 = .ok (.invokestatic 48, 3) := by decide +kernel
theorem dJ2_checkIndex_2214a_5 : decode cJ2_checkIndex_2214a 5 = .ok (.invokestatic 414, 3) := by decide +kernel
theorem dJ2_checkIndex_2214a_8 : decode cJ2_checkIndex_2214a 8 = .ok (.return_, 1) := by decide +kernel
theorem dJ3_checkIndex_8e157_0 : decode cJ3_checkIndex_8e157 0 = .ok (.iload_n 0, 1) := by decide +kernel
theorem dJ3_checkIndex_8e157_1 : decode cJ3_checkIndex_8e157 1 = .ok (.ifCond .lt 8, 3) := by decide +kernel
theorem dJ3_checkIndex_8e157_4 : decode cJ3_checkIndex_8e157 4 = .ok (.iload_n 0, 1) := by decide +kernel
theorem dJ3_checkIndex_8e157_5 : decode cJ3_checkIndex_8e157 5 = .ok (.iload_n 1, 1) := by decide +kernel
theorem dJ3_checkIndex_8e157_6 : decode cJ3_checkIndex_8e157 6 = .ok (.if_icmp .lt 10, 3) := by decide +kernel
theorem dJ3_checkIndex_8e157_9 : decode cJ3_checkIndex_8e157 9 = .ok (.aload_n 2, 1) := by decide +kernel
theorem dJ3_checkIndex_8e157_10 : decode cJ3_checkIndex_8e157 10 = .ok (.iload_n 0, 1) := by decide +kernel
theorem dJ3_checkIndex_8e157_11 : decode cJ3_checkIndex_8e157 11 = .ok (.iload_n 1, 1) := by decide +kernel
theorem dJ3_checkIndex_8e157_12 : decode cJ3_checkIndex_8e157 12 = .ok (.invokestatic 95, 3) := by decide +kernel
theorem dJ3_checkIndex_8e157_15 : decode cJ3_checkIndex_8e157 15 = .ok (.athrow, 1) := by decide +kernel
theorem dJ3_checkIndex_8e157_16 : decode cJ3_checkIndex_8e157 16 = .ok (.iload_n 0, 1) := by decide +kernel
theorem dJ3_checkIndex_8e157_17 : decode cJ3_checkIndex_8e157 17 = .ok (.ireturn, 1) := by decide +kernel
theorem dL_law_0 : decode cL_law 0 = .ok (.new 7, 3) := by decide +kernel
theorem dL_law_3 : decode cL_law 3 = .ok (.dup, 1) := by decide +kernel
theorem dL_law_4 : decode cL_law 4 = .ok (.invokespecial 9, 3) := by decide +kernel
theorem dL_law_7 : decode cL_law 7 = .ok (.astore_n 1, 1) := by decide +kernel
theorem dL_law_8 : decode cL_law 8 = .ok (.new 10, 3) := by decide +kernel
theorem dL_law_11 : decode cL_law 11 = .ok (.dup, 1) := by decide +kernel
theorem dL_law_12 : decode cL_law 12 = .ok (.invokespecial 12, 3) := by decide +kernel
theorem dL_law_15 : decode cL_law 15 = .ok (.astore_n 2, 1) := by decide +kernel
theorem dL_law_16 : decode cL_law 16 = .ok (.iconst 0, 1) := by decide +kernel
theorem dL_law_17 : decode cL_law 17 = .ok (.istore_n 3, 1) := by decide +kernel
theorem dL_law_18 : decode cL_law 18 = .ok (.iload_n 3, 1) := by decide +kernel
theorem dL_law_19 : decode cL_law 19 = .ok (.aload_n 0, 1) := by decide +kernel
theorem dL_law_20 : decode cL_law 20 = .ok (.arraylength, 1) := by decide +kernel
theorem dL_law_21 : decode cL_law 21 = .ok (.bipush 6, 2) := by decide +kernel
theorem dL_law_23 : decode cL_law 23 = .ok (.isub, 1) := by decide +kernel
theorem dL_law_24 : decode cL_law 24 = .ok (.if_icmp .gt 965, 3) := by decide +kernel
theorem dL_law_27 : decode cL_law 27 = .ok (.aload_n 0, 1) := by decide +kernel
theorem dL_law_28 : decode cL_law 28 = .ok (.iload_n 3, 1) := by decide +kernel
theorem dL_law_29 : decode cL_law 29 = .ok (.iaload, 1) := by decide +kernel
theorem dL_law_30 : decode cL_law 30 = .ok (.bipush 31, 2) := by decide +kernel
theorem dL_law_32 : decode cL_law 32 = .ok (.iand, 1) := by decide +kernel
theorem dL_law_33 : decode cL_law 33 = .ok (.tableswitch 950 0 23 #[111, 174, 187, 200, 213, 246, 289, 312, 345, 368, 411, 454, 497, 540, 593, 636, 699, 763, 822, 855, 868, 901, 914, 927], 111) := by decide +kernel
theorem dL_law_144 : decode cL_law 144 = .ok (.aload_n 1, 1) := by decide +kernel
theorem dL_law_145 : decode cL_law 145 = .ok (.aload_n 0, 1) := by decide +kernel
theorem dL_law_146 : decode cL_law 146 = .ok (.iload_n 3, 1) := by decide +kernel
theorem dL_law_147 : decode cL_law 147 = .ok (.iconst 1, 1) := by decide +kernel
theorem dL_law_148 : decode cL_law 148 = .ok (.iadd, 1) := by decide +kernel
theorem dL_law_149 : decode cL_law 149 = .ok (.iaload, 1) := by decide +kernel
theorem dL_law_150 : decode cL_law 150 = .ok (.aload_n 0, 1) := by decide +kernel
theorem dL_law_151 : decode cL_law 151 = .ok (.iload_n 3, 1) := by decide +kernel
theorem dL_law_152 : decode cL_law 152 = .ok (.iconst 2, 1) := by decide +kernel
theorem dL_law_153 : decode cL_law 153 = .ok (.iadd, 1) := by decide +kernel
theorem dL_law_154 : decode cL_law 154 = .ok (.iaload, 1) := by decide +kernel
theorem dL_law_155 : decode cL_law 155 = .ok (.i2l, 1) := by decide +kernel
theorem dL_law_156 : decode cL_law 156 = .ok (.bipush 32, 2) := by decide +kernel
theorem dL_law_158 : decode cL_law 158 = .ok (.lshl, 1) := by decide +kernel
theorem dL_law_159 : decode cL_law 159 = .ok (.aload_n 0, 1) := by decide +kernel
theorem dL_law_160 : decode cL_law 160 = .ok (.iload_n 3, 1) := by decide +kernel
theorem dL_law_161 : decode cL_law 161 = .ok (.iconst 3, 1) := by decide +kernel
theorem dL_law_162 : decode cL_law 162 = .ok (.iadd, 1) := by decide +kernel
theorem dL_law_163 : decode cL_law 163 = .ok (.iaload, 1) := by decide +kernel
theorem dL_law_164 : decode cL_law 164 = .ok (.i2l, 1) := by decide +kernel
theorem dL_law_165 : decode cL_law 165 = .ok (.ldc2_w 13, 3) := by decide +kernel
theorem dL_law_168 : decode cL_law 168 = .ok (.land, 1) := by decide +kernel
theorem dL_law_169 : decode cL_law 169 = .ok (.lor, 1) := by decide +kernel
theorem dL_law_170 : decode cL_law 170 = .ok (.invokevirtual 15, 3) := by decide +kernel
theorem dL_law_173 : decode cL_law 173 = .ok (.aload_n 2, 1) := by decide +kernel
theorem dL_law_174 : decode cL_law 174 = .ok (.aload_n 0, 1) := by decide +kernel
theorem dL_law_175 : decode cL_law 175 = .ok (.iload_n 3, 1) := by decide +kernel
theorem dL_law_176 : decode cL_law 176 = .ok (.iconst 1, 1) := by decide +kernel
theorem dL_law_177 : decode cL_law 177 = .ok (.iadd, 1) := by decide +kernel
theorem dL_law_178 : decode cL_law 178 = .ok (.iaload, 1) := by decide +kernel
theorem dL_law_179 : decode cL_law 179 = .ok (.aload_n 0, 1) := by decide +kernel
theorem dL_law_180 : decode cL_law 180 = .ok (.iload_n 3, 1) := by decide +kernel
theorem dL_law_181 : decode cL_law 181 = .ok (.iconst 2, 1) := by decide +kernel
theorem dL_law_182 : decode cL_law 182 = .ok (.iadd, 1) := by decide +kernel
theorem dL_law_183 : decode cL_law 183 = .ok (.iaload, 1) := by decide +kernel
theorem dL_law_184 : decode cL_law 184 = .ok (.i2l, 1) := by decide +kernel
theorem dL_law_185 : decode cL_law 185 = .ok (.bipush 32, 2) := by decide +kernel
theorem dL_law_187 : decode cL_law 187 = .ok (.lshl, 1) := by decide +kernel
theorem dL_law_188 : decode cL_law 188 = .ok (.aload_n 0, 1) := by decide +kernel
theorem dL_law_189 : decode cL_law 189 = .ok (.iload_n 3, 1) := by decide +kernel
theorem dL_law_190 : decode cL_law 190 = .ok (.iconst 3, 1) := by decide +kernel
theorem dL_law_191 : decode cL_law 191 = .ok (.iadd, 1) := by decide +kernel
theorem dL_law_192 : decode cL_law 192 = .ok (.iaload, 1) := by decide +kernel
theorem dL_law_193 : decode cL_law 193 = .ok (.i2l, 1) := by decide +kernel
theorem dL_law_194 : decode cL_law 194 = .ok (.ldc2_w 13, 3) := by decide +kernel
theorem dL_law_197 : decode cL_law 197 = .ok (.land, 1) := by decide +kernel
theorem dL_law_198 : decode cL_law 198 = .ok (.lor, 1) := by decide +kernel
theorem dL_law_199 : decode cL_law 199 = .ok (.invokevirtual 19, 3) := by decide +kernel
theorem dL_law_202 : decode cL_law 202 = .ok (.if_icmp .eq 781, 3) := by decide +kernel
theorem dL_law_205 : decode cL_law 205 = .ok (.iconst 0, 1) := by decide +kernel
theorem dL_law_206 : decode cL_law 206 = .ok (.ireturn, 1) := by decide +kernel
theorem dL_law_207 : decode cL_law 207 = .ok (.aload_n 1, 1) := by decide +kernel
theorem dL_law_208 : decode cL_law 208 = .ok (.invokevirtual 20, 3) := by decide +kernel
theorem dL_law_211 : decode cL_law 211 = .ok (.aload_n 2, 1) := by decide +kernel
theorem dL_law_212 : decode cL_law 212 = .ok (.invokevirtual 24, 3) := by decide +kernel
theorem dL_law_215 : decode cL_law 215 = .ok (.if_icmp .eq 768, 3) := by decide +kernel
theorem dL_law_218 : decode cL_law 218 = .ok (.iconst 0, 1) := by decide +kernel
theorem dL_law_219 : decode cL_law 219 = .ok (.ireturn, 1) := by decide +kernel
theorem dL_law_220 : decode cL_law 220 = .ok (.aload_n 1, 1) := by decide +kernel
theorem dL_law_221 : decode cL_law 221 = .ok (.invokevirtual 25, 3) := by decide +kernel
theorem dL_law_224 : decode cL_law 224 = .ok (.aload_n 2, 1) := by decide +kernel
theorem dL_law_225 : decode cL_law 225 = .ok (.invokevirtual 28, 3) := by decide +kernel
theorem dL_law_228 : decode cL_law 228 = .ok (.if_icmp .eq 755, 3) := by decide +kernel
theorem dL_law_231 : decode cL_law 231 = .ok (.iconst 0, 1) := by decide +kernel
theorem dL_law_232 : decode cL_law 232 = .ok (.ireturn, 1) := by decide +kernel
theorem dL_law_233 : decode cL_law 233 = .ok (.aload_n 1, 1) := by decide +kernel
theorem dL_law_234 : decode cL_law 234 = .ok (.invokevirtual 29, 3) := by decide +kernel
theorem dL_law_237 : decode cL_law 237 = .ok (.aload_n 2, 1) := by decide +kernel
theorem dL_law_238 : decode cL_law 238 = .ok (.invokevirtual 32, 3) := by decide +kernel
theorem dL_law_241 : decode cL_law 241 = .ok (.if_icmp .eq 742, 3) := by decide +kernel
theorem dL_law_244 : decode cL_law 244 = .ok (.iconst 0, 1) := by decide +kernel
theorem dL_law_245 : decode cL_law 245 = .ok (.ireturn, 1) := by decide +kernel
theorem dL_law_246 : decode cL_law 246 = .ok (.aload_n 1, 1) := by decide +kernel
theorem dL_law_247 : decode cL_law 247 = .ok (.aload_n 0, 1) := by decide +kernel
theorem dL_law_248 : decode cL_law 248 = .ok (.iload_n 3, 1) := by decide +kernel
theorem dL_law_249 : decode cL_law 249 = .ok (.iconst 1, 1) := by decide +kernel
theorem dL_law_250 : decode cL_law 250 = .ok (.iadd, 1) := by decide +kernel
theorem dL_law_251 : decode cL_law 251 = .ok (.iaload, 1) := by decide +kernel
theorem dL_law_252 : decode cL_law 252 = .ok (.aload_n 0, 1) := by decide +kernel
theorem dL_law_253 : decode cL_law 253 = .ok (.iload_n 3, 1) := by decide +kernel
theorem dL_law_254 : decode cL_law 254 = .ok (.iconst 2, 1) := by decide +kernel
theorem dL_law_255 : decode cL_law 255 = .ok (.iadd, 1) := by decide +kernel
theorem dL_law_256 : decode cL_law 256 = .ok (.iaload, 1) := by decide +kernel
theorem dL_law_257 : decode cL_law 257 = .ok (.invokevirtual 33, 3) := by decide +kernel
theorem dL_law_260 : decode cL_law 260 = .ok (.aload_n 2, 1) := by decide +kernel
theorem dL_law_261 : decode cL_law 261 = .ok (.aload_n 0, 1) := by decide +kernel
theorem dL_law_262 : decode cL_law 262 = .ok (.iload_n 3, 1) := by decide +kernel
theorem dL_law_263 : decode cL_law 263 = .ok (.iconst 1, 1) := by decide +kernel
theorem dL_law_264 : decode cL_law 264 = .ok (.iadd, 1) := by decide +kernel
theorem dL_law_265 : decode cL_law 265 = .ok (.iaload, 1) := by decide +kernel
theorem dL_law_266 : decode cL_law 266 = .ok (.aload_n 0, 1) := by decide +kernel
theorem dL_law_267 : decode cL_law 267 = .ok (.iload_n 3, 1) := by decide +kernel
theorem dL_law_268 : decode cL_law 268 = .ok (.iconst 2, 1) := by decide +kernel
theorem dL_law_269 : decode cL_law 269 = .ok (.iadd, 1) := by decide +kernel
theorem dL_law_270 : decode cL_law 270 = .ok (.iaload, 1) := by decide +kernel
theorem dL_law_271 : decode cL_law 271 = .ok (.invokevirtual 37, 3) := by decide +kernel
theorem dL_law_274 : decode cL_law 274 = .ok (.if_icmp .eq 709, 3) := by decide +kernel
theorem dL_law_277 : decode cL_law 277 = .ok (.iconst 0, 1) := by decide +kernel
theorem dL_law_278 : decode cL_law 278 = .ok (.ireturn, 1) := by decide +kernel
theorem dL_law_279 : decode cL_law 279 = .ok (.aload_n 1, 1) := by decide +kernel
theorem dL_law_280 : decode cL_law 280 = .ok (.aload_n 0, 1) := by decide +kernel
theorem dL_law_281 : decode cL_law 281 = .ok (.iload_n 3, 1) := by decide +kernel
theorem dL_law_282 : decode cL_law 282 = .ok (.iconst 1, 1) := by decide +kernel
theorem dL_law_283 : decode cL_law 283 = .ok (.iadd, 1) := by decide +kernel
theorem dL_law_284 : decode cL_law 284 = .ok (.iaload, 1) := by decide +kernel
theorem dL_law_285 : decode cL_law 285 = .ok (.aload_n 0, 1) := by decide +kernel
theorem dL_law_286 : decode cL_law 286 = .ok (.iload_n 3, 1) := by decide +kernel
theorem dL_law_287 : decode cL_law 287 = .ok (.iconst 2, 1) := by decide +kernel
theorem dL_law_288 : decode cL_law 288 = .ok (.iadd, 1) := by decide +kernel
theorem dL_law_289 : decode cL_law 289 = .ok (.iaload, 1) := by decide +kernel
theorem dL_law_290 : decode cL_law 290 = .ok (.aload_n 0, 1) := by decide +kernel
theorem dL_law_291 : decode cL_law 291 = .ok (.iload_n 3, 1) := by decide +kernel
theorem dL_law_292 : decode cL_law 292 = .ok (.iconst 3, 1) := by decide +kernel
theorem dL_law_293 : decode cL_law 293 = .ok (.iadd, 1) := by decide +kernel
theorem dL_law_294 : decode cL_law 294 = .ok (.iaload, 1) := by decide +kernel
theorem dL_law_295 : decode cL_law 295 = .ok (.invokevirtual 38, 3) := by decide +kernel
theorem dL_law_298 : decode cL_law 298 = .ok (.aload_n 2, 1) := by decide +kernel
theorem dL_law_299 : decode cL_law 299 = .ok (.aload_n 0, 1) := by decide +kernel
theorem dL_law_300 : decode cL_law 300 = .ok (.iload_n 3, 1) := by decide +kernel
theorem dL_law_301 : decode cL_law 301 = .ok (.iconst 1, 1) := by decide +kernel
theorem dL_law_302 : decode cL_law 302 = .ok (.iadd, 1) := by decide +kernel
theorem dL_law_303 : decode cL_law 303 = .ok (.iaload, 1) := by decide +kernel
theorem dL_law_304 : decode cL_law 304 = .ok (.aload_n 0, 1) := by decide +kernel
theorem dL_law_305 : decode cL_law 305 = .ok (.iload_n 3, 1) := by decide +kernel
theorem dL_law_306 : decode cL_law 306 = .ok (.iconst 2, 1) := by decide +kernel
theorem dL_law_307 : decode cL_law 307 = .ok (.iadd, 1) := by decide +kernel
theorem dL_law_308 : decode cL_law 308 = .ok (.iaload, 1) := by decide +kernel
theorem dL_law_309 : decode cL_law 309 = .ok (.aload_n 0, 1) := by decide +kernel
theorem dL_law_310 : decode cL_law 310 = .ok (.iload_n 3, 1) := by decide +kernel
theorem dL_law_311 : decode cL_law 311 = .ok (.iconst 3, 1) := by decide +kernel
theorem dL_law_312 : decode cL_law 312 = .ok (.iadd, 1) := by decide +kernel
theorem dL_law_313 : decode cL_law 313 = .ok (.iaload, 1) := by decide +kernel
theorem dL_law_314 : decode cL_law 314 = .ok (.invokevirtual 42, 3) := by decide +kernel
theorem dL_law_317 : decode cL_law 317 = .ok (.if_icmp .eq 666, 3) := by decide +kernel
theorem dL_law_320 : decode cL_law 320 = .ok (.iconst 0, 1) := by decide +kernel
theorem dL_law_321 : decode cL_law 321 = .ok (.ireturn, 1) := by decide +kernel
theorem dL_law_322 : decode cL_law 322 = .ok (.aload_n 1, 1) := by decide +kernel
theorem dL_law_323 : decode cL_law 323 = .ok (.aload_n 0, 1) := by decide +kernel
theorem dL_law_324 : decode cL_law 324 = .ok (.iload_n 3, 1) := by decide +kernel
theorem dL_law_325 : decode cL_law 325 = .ok (.iconst 1, 1) := by decide +kernel
theorem dL_law_326 : decode cL_law 326 = .ok (.iadd, 1) := by decide +kernel
theorem dL_law_327 : decode cL_law 327 = .ok (.iaload, 1) := by decide +kernel
theorem dL_law_328 : decode cL_law 328 = .ok (.invokevirtual 43, 3) := by decide +kernel
theorem dL_law_331 : decode cL_law 331 = .ok (.aload_n 2, 1) := by decide +kernel
theorem dL_law_332 : decode cL_law 332 = .ok (.aload_n 0, 1) := by decide +kernel
theorem dL_law_333 : decode cL_law 333 = .ok (.iload_n 3, 1) := by decide +kernel
theorem dL_law_334 : decode cL_law 334 = .ok (.iconst 1, 1) := by decide +kernel
theorem dL_law_335 : decode cL_law 335 = .ok (.iadd, 1) := by decide +kernel
theorem dL_law_336 : decode cL_law 336 = .ok (.iaload, 1) := by decide +kernel
theorem dL_law_337 : decode cL_law 337 = .ok (.invokevirtual 47, 3) := by decide +kernel
theorem dL_law_340 : decode cL_law 340 = .ok (.if_icmp .eq 643, 3) := by decide +kernel
theorem dL_law_343 : decode cL_law 343 = .ok (.iconst 0, 1) := by decide +kernel
theorem dL_law_344 : decode cL_law 344 = .ok (.ireturn, 1) := by decide +kernel
theorem dL_law_345 : decode cL_law 345 = .ok (.aload_n 1, 1) := by decide +kernel
theorem dL_law_346 : decode cL_law 346 = .ok (.aload_n 0, 1) := by decide +kernel
theorem dL_law_347 : decode cL_law 347 = .ok (.iload_n 3, 1) := by decide +kernel
theorem dL_law_348 : decode cL_law 348 = .ok (.iconst 1, 1) := by decide +kernel
theorem dL_law_349 : decode cL_law 349 = .ok (.iadd, 1) := by decide +kernel
theorem dL_law_350 : decode cL_law 350 = .ok (.iaload, 1) := by decide +kernel
theorem dL_law_351 : decode cL_law 351 = .ok (.aload_n 0, 1) := by decide +kernel
theorem dL_law_352 : decode cL_law 352 = .ok (.iload_n 3, 1) := by decide +kernel
theorem dL_law_353 : decode cL_law 353 = .ok (.iconst 2, 1) := by decide +kernel
theorem dL_law_354 : decode cL_law 354 = .ok (.iadd, 1) := by decide +kernel
theorem dL_law_355 : decode cL_law 355 = .ok (.iaload, 1) := by decide +kernel
theorem dL_law_356 : decode cL_law 356 = .ok (.invokevirtual 48, 3) := by decide +kernel
theorem dL_law_359 : decode cL_law 359 = .ok (.aload_n 2, 1) := by decide +kernel
theorem dL_law_360 : decode cL_law 360 = .ok (.aload_n 0, 1) := by decide +kernel
theorem dL_law_361 : decode cL_law 361 = .ok (.iload_n 3, 1) := by decide +kernel
theorem dL_law_362 : decode cL_law 362 = .ok (.iconst 1, 1) := by decide +kernel
theorem dL_law_363 : decode cL_law 363 = .ok (.iadd, 1) := by decide +kernel
theorem dL_law_364 : decode cL_law 364 = .ok (.iaload, 1) := by decide +kernel
theorem dL_law_365 : decode cL_law 365 = .ok (.aload_n 0, 1) := by decide +kernel
theorem dL_law_366 : decode cL_law 366 = .ok (.iload_n 3, 1) := by decide +kernel
theorem dL_law_367 : decode cL_law 367 = .ok (.iconst 2, 1) := by decide +kernel
theorem dL_law_368 : decode cL_law 368 = .ok (.iadd, 1) := by decide +kernel
theorem dL_law_369 : decode cL_law 369 = .ok (.iaload, 1) := by decide +kernel
theorem dL_law_370 : decode cL_law 370 = .ok (.invokevirtual 51, 3) := by decide +kernel
theorem dL_law_373 : decode cL_law 373 = .ok (.if_icmp .eq 610, 3) := by decide +kernel
theorem dL_law_376 : decode cL_law 376 = .ok (.iconst 0, 1) := by decide +kernel
theorem dL_law_377 : decode cL_law 377 = .ok (.ireturn, 1) := by decide +kernel
theorem dL_law_378 : decode cL_law 378 = .ok (.aload_n 1, 1) := by decide +kernel
theorem dL_law_379 : decode cL_law 379 = .ok (.aload_n 0, 1) := by decide +kernel
theorem dL_law_380 : decode cL_law 380 = .ok (.iload_n 3, 1) := by decide +kernel
theorem dL_law_381 : decode cL_law 381 = .ok (.iconst 1, 1) := by decide +kernel
theorem dL_law_382 : decode cL_law 382 = .ok (.iadd, 1) := by decide +kernel
theorem dL_law_383 : decode cL_law 383 = .ok (.iaload, 1) := by decide +kernel
theorem dL_law_384 : decode cL_law 384 = .ok (.invokevirtual 52, 3) := by decide +kernel
theorem dL_law_387 : decode cL_law 387 = .ok (.aload_n 2, 1) := by decide +kernel
theorem dL_law_388 : decode cL_law 388 = .ok (.aload_n 0, 1) := by decide +kernel
theorem dL_law_389 : decode cL_law 389 = .ok (.iload_n 3, 1) := by decide +kernel
theorem dL_law_390 : decode cL_law 390 = .ok (.iconst 1, 1) := by decide +kernel
theorem dL_law_391 : decode cL_law 391 = .ok (.iadd, 1) := by decide +kernel
theorem dL_law_392 : decode cL_law 392 = .ok (.iaload, 1) := by decide +kernel
theorem dL_law_393 : decode cL_law 393 = .ok (.invokevirtual 55, 3) := by decide +kernel
theorem dL_law_396 : decode cL_law 396 = .ok (.if_icmp .eq 587, 3) := by decide +kernel
theorem dL_law_399 : decode cL_law 399 = .ok (.iconst 0, 1) := by decide +kernel
theorem dL_law_400 : decode cL_law 400 = .ok (.ireturn, 1) := by decide +kernel
theorem dL_law_401 : decode cL_law 401 = .ok (.aload_n 1, 1) := by decide +kernel
theorem dL_law_402 : decode cL_law 402 = .ok (.aload_n 0, 1) := by decide +kernel
theorem dL_law_403 : decode cL_law 403 = .ok (.iload_n 3, 1) := by decide +kernel
theorem dL_law_404 : decode cL_law 404 = .ok (.iconst 1, 1) := by decide +kernel
theorem dL_law_405 : decode cL_law 405 = .ok (.iadd, 1) := by decide +kernel
theorem dL_law_406 : decode cL_law 406 = .ok (.iaload, 1) := by decide +kernel
theorem dL_law_407 : decode cL_law 407 = .ok (.aload_n 0, 1) := by decide +kernel
theorem dL_law_408 : decode cL_law 408 = .ok (.iload_n 3, 1) := by decide +kernel
theorem dL_law_409 : decode cL_law 409 = .ok (.iconst 2, 1) := by decide +kernel
theorem dL_law_410 : decode cL_law 410 = .ok (.iadd, 1) := by decide +kernel
theorem dL_law_411 : decode cL_law 411 = .ok (.iaload, 1) := by decide +kernel
theorem dL_law_412 : decode cL_law 412 = .ok (.aload_n 0, 1) := by decide +kernel
theorem dL_law_413 : decode cL_law 413 = .ok (.iload_n 3, 1) := by decide +kernel
theorem dL_law_414 : decode cL_law 414 = .ok (.iconst 3, 1) := by decide +kernel
theorem dL_law_415 : decode cL_law 415 = .ok (.iadd, 1) := by decide +kernel
theorem dL_law_416 : decode cL_law 416 = .ok (.iaload, 1) := by decide +kernel
theorem dL_law_417 : decode cL_law 417 = .ok (.invokevirtual 56, 3) := by decide +kernel
theorem dL_law_420 : decode cL_law 420 = .ok (.aload_n 2, 1) := by decide +kernel
theorem dL_law_421 : decode cL_law 421 = .ok (.aload_n 0, 1) := by decide +kernel
theorem dL_law_422 : decode cL_law 422 = .ok (.iload_n 3, 1) := by decide +kernel
theorem dL_law_423 : decode cL_law 423 = .ok (.iconst 1, 1) := by decide +kernel
theorem dL_law_424 : decode cL_law 424 = .ok (.iadd, 1) := by decide +kernel
theorem dL_law_425 : decode cL_law 425 = .ok (.iaload, 1) := by decide +kernel
theorem dL_law_426 : decode cL_law 426 = .ok (.aload_n 0, 1) := by decide +kernel
theorem dL_law_427 : decode cL_law 427 = .ok (.iload_n 3, 1) := by decide +kernel
theorem dL_law_428 : decode cL_law 428 = .ok (.iconst 2, 1) := by decide +kernel
theorem dL_law_429 : decode cL_law 429 = .ok (.iadd, 1) := by decide +kernel
theorem dL_law_430 : decode cL_law 430 = .ok (.iaload, 1) := by decide +kernel
theorem dL_law_431 : decode cL_law 431 = .ok (.aload_n 0, 1) := by decide +kernel
theorem dL_law_432 : decode cL_law 432 = .ok (.iload_n 3, 1) := by decide +kernel
theorem dL_law_433 : decode cL_law 433 = .ok (.iconst 3, 1) := by decide +kernel
theorem dL_law_434 : decode cL_law 434 = .ok (.iadd, 1) := by decide +kernel
theorem dL_law_435 : decode cL_law 435 = .ok (.iaload, 1) := by decide +kernel
theorem dL_law_436 : decode cL_law 436 = .ok (.invokevirtual 59, 3) := by decide +kernel
theorem dL_law_439 : decode cL_law 439 = .ok (.if_icmp .eq 544, 3) := by decide +kernel
theorem dL_law_442 : decode cL_law 442 = .ok (.iconst 0, 1) := by decide +kernel
theorem dL_law_443 : decode cL_law 443 = .ok (.ireturn, 1) := by decide +kernel
theorem dL_law_444 : decode cL_law 444 = .ok (.aload_n 1, 1) := by decide +kernel
theorem dL_law_445 : decode cL_law 445 = .ok (.aload_n 0, 1) := by decide +kernel
theorem dL_law_446 : decode cL_law 446 = .ok (.iload_n 3, 1) := by decide +kernel
theorem dL_law_447 : decode cL_law 447 = .ok (.iconst 1, 1) := by decide +kernel
theorem dL_law_448 : decode cL_law 448 = .ok (.iadd, 1) := by decide +kernel
theorem dL_law_449 : decode cL_law 449 = .ok (.iaload, 1) := by decide +kernel
theorem dL_law_450 : decode cL_law 450 = .ok (.aload_n 0, 1) := by decide +kernel
theorem dL_law_451 : decode cL_law 451 = .ok (.iload_n 3, 1) := by decide +kernel
theorem dL_law_452 : decode cL_law 452 = .ok (.iconst 2, 1) := by decide +kernel
theorem dL_law_453 : decode cL_law 453 = .ok (.iadd, 1) := by decide +kernel
theorem dL_law_454 : decode cL_law 454 = .ok (.iaload, 1) := by decide +kernel
theorem dL_law_455 : decode cL_law 455 = .ok (.aload_n 0, 1) := by decide +kernel
theorem dL_law_456 : decode cL_law 456 = .ok (.iload_n 3, 1) := by decide +kernel
theorem dL_law_457 : decode cL_law 457 = .ok (.iconst 3, 1) := by decide +kernel
theorem dL_law_458 : decode cL_law 458 = .ok (.iadd, 1) := by decide +kernel
theorem dL_law_459 : decode cL_law 459 = .ok (.iaload, 1) := by decide +kernel
theorem dL_law_460 : decode cL_law 460 = .ok (.invokevirtual 60, 3) := by decide +kernel
theorem dL_law_463 : decode cL_law 463 = .ok (.aload_n 2, 1) := by decide +kernel
theorem dL_law_464 : decode cL_law 464 = .ok (.aload_n 0, 1) := by decide +kernel
theorem dL_law_465 : decode cL_law 465 = .ok (.iload_n 3, 1) := by decide +kernel
theorem dL_law_466 : decode cL_law 466 = .ok (.iconst 1, 1) := by decide +kernel
theorem dL_law_467 : decode cL_law 467 = .ok (.iadd, 1) := by decide +kernel
theorem dL_law_468 : decode cL_law 468 = .ok (.iaload, 1) := by decide +kernel
theorem dL_law_469 : decode cL_law 469 = .ok (.aload_n 0, 1) := by decide +kernel
theorem dL_law_470 : decode cL_law 470 = .ok (.iload_n 3, 1) := by decide +kernel
theorem dL_law_471 : decode cL_law 471 = .ok (.iconst 2, 1) := by decide +kernel
theorem dL_law_472 : decode cL_law 472 = .ok (.iadd, 1) := by decide +kernel
theorem dL_law_473 : decode cL_law 473 = .ok (.iaload, 1) := by decide +kernel
theorem dL_law_474 : decode cL_law 474 = .ok (.aload_n 0, 1) := by decide +kernel
theorem dL_law_475 : decode cL_law 475 = .ok (.iload_n 3, 1) := by decide +kernel
theorem dL_law_476 : decode cL_law 476 = .ok (.iconst 3, 1) := by decide +kernel
theorem dL_law_477 : decode cL_law 477 = .ok (.iadd, 1) := by decide +kernel
theorem dL_law_478 : decode cL_law 478 = .ok (.iaload, 1) := by decide +kernel
theorem dL_law_479 : decode cL_law 479 = .ok (.invokevirtual 63, 3) := by decide +kernel
theorem dL_law_482 : decode cL_law 482 = .ok (.if_icmp .eq 501, 3) := by decide +kernel
theorem dL_law_485 : decode cL_law 485 = .ok (.iconst 0, 1) := by decide +kernel
theorem dL_law_486 : decode cL_law 486 = .ok (.ireturn, 1) := by decide +kernel
theorem dL_law_487 : decode cL_law 487 = .ok (.aload_n 1, 1) := by decide +kernel
theorem dL_law_488 : decode cL_law 488 = .ok (.aload_n 0, 1) := by decide +kernel
theorem dL_law_489 : decode cL_law 489 = .ok (.iload_n 3, 1) := by decide +kernel
theorem dL_law_490 : decode cL_law 490 = .ok (.iconst 1, 1) := by decide +kernel
theorem dL_law_491 : decode cL_law 491 = .ok (.iadd, 1) := by decide +kernel
theorem dL_law_492 : decode cL_law 492 = .ok (.iaload, 1) := by decide +kernel
theorem dL_law_493 : decode cL_law 493 = .ok (.aload_n 0, 1) := by decide +kernel
theorem dL_law_494 : decode cL_law 494 = .ok (.iload_n 3, 1) := by decide +kernel
theorem dL_law_495 : decode cL_law 495 = .ok (.iconst 2, 1) := by decide +kernel
theorem dL_law_496 : decode cL_law 496 = .ok (.iadd, 1) := by decide +kernel
theorem dL_law_497 : decode cL_law 497 = .ok (.iaload, 1) := by decide +kernel
theorem dL_law_498 : decode cL_law 498 = .ok (.aload_n 0, 1) := by decide +kernel
theorem dL_law_499 : decode cL_law 499 = .ok (.iload_n 3, 1) := by decide +kernel
theorem dL_law_500 : decode cL_law 500 = .ok (.iconst 3, 1) := by decide +kernel
theorem dL_law_501 : decode cL_law 501 = .ok (.iadd, 1) := by decide +kernel
theorem dL_law_502 : decode cL_law 502 = .ok (.iaload, 1) := by decide +kernel
theorem dL_law_503 : decode cL_law 503 = .ok (.invokevirtual 64, 3) := by decide +kernel
theorem dL_law_506 : decode cL_law 506 = .ok (.aload_n 2, 1) := by decide +kernel
theorem dL_law_507 : decode cL_law 507 = .ok (.aload_n 0, 1) := by decide +kernel
theorem dL_law_508 : decode cL_law 508 = .ok (.iload_n 3, 1) := by decide +kernel
theorem dL_law_509 : decode cL_law 509 = .ok (.iconst 1, 1) := by decide +kernel
theorem dL_law_510 : decode cL_law 510 = .ok (.iadd, 1) := by decide +kernel
theorem dL_law_511 : decode cL_law 511 = .ok (.iaload, 1) := by decide +kernel
theorem dL_law_512 : decode cL_law 512 = .ok (.aload_n 0, 1) := by decide +kernel
theorem dL_law_513 : decode cL_law 513 = .ok (.iload_n 3, 1) := by decide +kernel
theorem dL_law_514 : decode cL_law 514 = .ok (.iconst 2, 1) := by decide +kernel
theorem dL_law_515 : decode cL_law 515 = .ok (.iadd, 1) := by decide +kernel
theorem dL_law_516 : decode cL_law 516 = .ok (.iaload, 1) := by decide +kernel
theorem dL_law_517 : decode cL_law 517 = .ok (.aload_n 0, 1) := by decide +kernel
theorem dL_law_518 : decode cL_law 518 = .ok (.iload_n 3, 1) := by decide +kernel
theorem dL_law_519 : decode cL_law 519 = .ok (.iconst 3, 1) := by decide +kernel
theorem dL_law_520 : decode cL_law 520 = .ok (.iadd, 1) := by decide +kernel
theorem dL_law_521 : decode cL_law 521 = .ok (.iaload, 1) := by decide +kernel
theorem dL_law_522 : decode cL_law 522 = .ok (.invokevirtual 67, 3) := by decide +kernel
theorem dL_law_525 : decode cL_law 525 = .ok (.if_icmp .eq 458, 3) := by decide +kernel
theorem dL_law_528 : decode cL_law 528 = .ok (.iconst 0, 1) := by decide +kernel
theorem dL_law_529 : decode cL_law 529 = .ok (.ireturn, 1) := by decide +kernel
theorem dL_law_530 : decode cL_law 530 = .ok (.aload_n 1, 1) := by decide +kernel
theorem dL_law_531 : decode cL_law 531 = .ok (.aload_n 0, 1) := by decide +kernel
theorem dL_law_532 : decode cL_law 532 = .ok (.iload_n 3, 1) := by decide +kernel
theorem dL_law_533 : decode cL_law 533 = .ok (.iconst 1, 1) := by decide +kernel
theorem dL_law_534 : decode cL_law 534 = .ok (.iadd, 1) := by decide +kernel
theorem dL_law_535 : decode cL_law 535 = .ok (.iaload, 1) := by decide +kernel
theorem dL_law_536 : decode cL_law 536 = .ok (.aload_n 0, 1) := by decide +kernel
theorem dL_law_537 : decode cL_law 537 = .ok (.iload_n 3, 1) := by decide +kernel
theorem dL_law_538 : decode cL_law 538 = .ok (.iconst 2, 1) := by decide +kernel
theorem dL_law_539 : decode cL_law 539 = .ok (.iadd, 1) := by decide +kernel
theorem dL_law_540 : decode cL_law 540 = .ok (.iaload, 1) := by decide +kernel
theorem dL_law_541 : decode cL_law 541 = .ok (.aload_n 0, 1) := by decide +kernel
theorem dL_law_542 : decode cL_law 542 = .ok (.iload_n 3, 1) := by decide +kernel
theorem dL_law_543 : decode cL_law 543 = .ok (.iconst 3, 1) := by decide +kernel
theorem dL_law_544 : decode cL_law 544 = .ok (.iadd, 1) := by decide +kernel
theorem dL_law_545 : decode cL_law 545 = .ok (.iaload, 1) := by decide +kernel
theorem dL_law_546 : decode cL_law 546 = .ok (.invokevirtual 68, 3) := by decide +kernel
theorem dL_law_549 : decode cL_law 549 = .ok (.aload_n 2, 1) := by decide +kernel
theorem dL_law_550 : decode cL_law 550 = .ok (.aload_n 0, 1) := by decide +kernel
theorem dL_law_551 : decode cL_law 551 = .ok (.iload_n 3, 1) := by decide +kernel
theorem dL_law_552 : decode cL_law 552 = .ok (.iconst 1, 1) := by decide +kernel
theorem dL_law_553 : decode cL_law 553 = .ok (.iadd, 1) := by decide +kernel
theorem dL_law_554 : decode cL_law 554 = .ok (.iaload, 1) := by decide +kernel
theorem dL_law_555 : decode cL_law 555 = .ok (.aload_n 0, 1) := by decide +kernel
theorem dL_law_556 : decode cL_law 556 = .ok (.iload_n 3, 1) := by decide +kernel
theorem dL_law_557 : decode cL_law 557 = .ok (.iconst 2, 1) := by decide +kernel
theorem dL_law_558 : decode cL_law 558 = .ok (.iadd, 1) := by decide +kernel
theorem dL_law_559 : decode cL_law 559 = .ok (.iaload, 1) := by decide +kernel
theorem dL_law_560 : decode cL_law 560 = .ok (.aload_n 0, 1) := by decide +kernel
theorem dL_law_561 : decode cL_law 561 = .ok (.iload_n 3, 1) := by decide +kernel
theorem dL_law_562 : decode cL_law 562 = .ok (.iconst 3, 1) := by decide +kernel
theorem dL_law_563 : decode cL_law 563 = .ok (.iadd, 1) := by decide +kernel
theorem dL_law_564 : decode cL_law 564 = .ok (.iaload, 1) := by decide +kernel
theorem dL_law_565 : decode cL_law 565 = .ok (.invokevirtual 71, 3) := by decide +kernel
theorem dL_law_568 : decode cL_law 568 = .ok (.if_icmp .eq 415, 3) := by decide +kernel
theorem dL_law_571 : decode cL_law 571 = .ok (.iconst 0, 1) := by decide +kernel
theorem dL_law_572 : decode cL_law 572 = .ok (.ireturn, 1) := by decide +kernel
theorem dL_law_573 : decode cL_law 573 = .ok (.aload_n 1, 1) := by decide +kernel
theorem dL_law_574 : decode cL_law 574 = .ok (.aload_n 0, 1) := by decide +kernel
theorem dL_law_575 : decode cL_law 575 = .ok (.iload_n 3, 1) := by decide +kernel
theorem dL_law_576 : decode cL_law 576 = .ok (.iconst 1, 1) := by decide +kernel
theorem dL_law_577 : decode cL_law 577 = .ok (.iadd, 1) := by decide +kernel
theorem dL_law_578 : decode cL_law 578 = .ok (.iaload, 1) := by decide +kernel
theorem dL_law_579 : decode cL_law 579 = .ok (.aload_n 0, 1) := by decide +kernel
theorem dL_law_580 : decode cL_law 580 = .ok (.iload_n 3, 1) := by decide +kernel
theorem dL_law_581 : decode cL_law 581 = .ok (.iconst 2, 1) := by decide +kernel
theorem dL_law_582 : decode cL_law 582 = .ok (.iadd, 1) := by decide +kernel
theorem dL_law_583 : decode cL_law 583 = .ok (.iaload, 1) := by decide +kernel
theorem dL_law_584 : decode cL_law 584 = .ok (.aload_n 0, 1) := by decide +kernel
theorem dL_law_585 : decode cL_law 585 = .ok (.iload_n 3, 1) := by decide +kernel
theorem dL_law_586 : decode cL_law 586 = .ok (.iconst 3, 1) := by decide +kernel
theorem dL_law_587 : decode cL_law 587 = .ok (.iadd, 1) := by decide +kernel
theorem dL_law_588 : decode cL_law 588 = .ok (.iaload, 1) := by decide +kernel
theorem dL_law_589 : decode cL_law 589 = .ok (.aload_n 0, 1) := by decide +kernel
theorem dL_law_590 : decode cL_law 590 = .ok (.iload_n 3, 1) := by decide +kernel
theorem dL_law_591 : decode cL_law 591 = .ok (.iconst 4, 1) := by decide +kernel
theorem dL_law_592 : decode cL_law 592 = .ok (.iadd, 1) := by decide +kernel
theorem dL_law_593 : decode cL_law 593 = .ok (.iaload, 1) := by decide +kernel
theorem dL_law_594 : decode cL_law 594 = .ok (.invokevirtual 72, 3) := by decide +kernel
theorem dL_law_597 : decode cL_law 597 = .ok (.aload_n 2, 1) := by decide +kernel
theorem dL_law_598 : decode cL_law 598 = .ok (.aload_n 0, 1) := by decide +kernel
theorem dL_law_599 : decode cL_law 599 = .ok (.iload_n 3, 1) := by decide +kernel
theorem dL_law_600 : decode cL_law 600 = .ok (.iconst 1, 1) := by decide +kernel
theorem dL_law_601 : decode cL_law 601 = .ok (.iadd, 1) := by decide +kernel
theorem dL_law_602 : decode cL_law 602 = .ok (.iaload, 1) := by decide +kernel
theorem dL_law_603 : decode cL_law 603 = .ok (.aload_n 0, 1) := by decide +kernel
theorem dL_law_604 : decode cL_law 604 = .ok (.iload_n 3, 1) := by decide +kernel
theorem dL_law_605 : decode cL_law 605 = .ok (.iconst 2, 1) := by decide +kernel
theorem dL_law_606 : decode cL_law 606 = .ok (.iadd, 1) := by decide +kernel
theorem dL_law_607 : decode cL_law 607 = .ok (.iaload, 1) := by decide +kernel
theorem dL_law_608 : decode cL_law 608 = .ok (.aload_n 0, 1) := by decide +kernel
theorem dL_law_609 : decode cL_law 609 = .ok (.iload_n 3, 1) := by decide +kernel
theorem dL_law_610 : decode cL_law 610 = .ok (.iconst 3, 1) := by decide +kernel
theorem dL_law_611 : decode cL_law 611 = .ok (.iadd, 1) := by decide +kernel
theorem dL_law_612 : decode cL_law 612 = .ok (.iaload, 1) := by decide +kernel
theorem dL_law_613 : decode cL_law 613 = .ok (.aload_n 0, 1) := by decide +kernel
theorem dL_law_614 : decode cL_law 614 = .ok (.iload_n 3, 1) := by decide +kernel
theorem dL_law_615 : decode cL_law 615 = .ok (.iconst 4, 1) := by decide +kernel
theorem dL_law_616 : decode cL_law 616 = .ok (.iadd, 1) := by decide +kernel
theorem dL_law_617 : decode cL_law 617 = .ok (.iaload, 1) := by decide +kernel
theorem dL_law_618 : decode cL_law 618 = .ok (.invokevirtual 76, 3) := by decide +kernel
theorem dL_law_621 : decode cL_law 621 = .ok (.if_icmp .eq 362, 3) := by decide +kernel
theorem dL_law_624 : decode cL_law 624 = .ok (.iconst 0, 1) := by decide +kernel
theorem dL_law_625 : decode cL_law 625 = .ok (.ireturn, 1) := by decide +kernel
theorem dL_law_626 : decode cL_law 626 = .ok (.aload_n 1, 1) := by decide +kernel
theorem dL_law_627 : decode cL_law 627 = .ok (.aload_n 0, 1) := by decide +kernel
theorem dL_law_628 : decode cL_law 628 = .ok (.iload_n 3, 1) := by decide +kernel
theorem dL_law_629 : decode cL_law 629 = .ok (.iconst 1, 1) := by decide +kernel
theorem dL_law_630 : decode cL_law 630 = .ok (.iadd, 1) := by decide +kernel
theorem dL_law_631 : decode cL_law 631 = .ok (.iaload, 1) := by decide +kernel
theorem dL_law_632 : decode cL_law 632 = .ok (.aload_n 0, 1) := by decide +kernel
theorem dL_law_633 : decode cL_law 633 = .ok (.iload_n 3, 1) := by decide +kernel
theorem dL_law_634 : decode cL_law 634 = .ok (.iconst 2, 1) := by decide +kernel
theorem dL_law_635 : decode cL_law 635 = .ok (.iadd, 1) := by decide +kernel
theorem dL_law_636 : decode cL_law 636 = .ok (.iaload, 1) := by decide +kernel
theorem dL_law_637 : decode cL_law 637 = .ok (.aload_n 0, 1) := by decide +kernel
theorem dL_law_638 : decode cL_law 638 = .ok (.iload_n 3, 1) := by decide +kernel
theorem dL_law_639 : decode cL_law 639 = .ok (.iconst 3, 1) := by decide +kernel
theorem dL_law_640 : decode cL_law 640 = .ok (.iadd, 1) := by decide +kernel
theorem dL_law_641 : decode cL_law 641 = .ok (.iaload, 1) := by decide +kernel
theorem dL_law_642 : decode cL_law 642 = .ok (.invokevirtual 77, 3) := by decide +kernel
theorem dL_law_645 : decode cL_law 645 = .ok (.aload_n 2, 1) := by decide +kernel
theorem dL_law_646 : decode cL_law 646 = .ok (.aload_n 0, 1) := by decide +kernel
theorem dL_law_647 : decode cL_law 647 = .ok (.iload_n 3, 1) := by decide +kernel
theorem dL_law_648 : decode cL_law 648 = .ok (.iconst 1, 1) := by decide +kernel
theorem dL_law_649 : decode cL_law 649 = .ok (.iadd, 1) := by decide +kernel
theorem dL_law_650 : decode cL_law 650 = .ok (.iaload, 1) := by decide +kernel
theorem dL_law_651 : decode cL_law 651 = .ok (.aload_n 0, 1) := by decide +kernel
theorem dL_law_652 : decode cL_law 652 = .ok (.iload_n 3, 1) := by decide +kernel
theorem dL_law_653 : decode cL_law 653 = .ok (.iconst 2, 1) := by decide +kernel
theorem dL_law_654 : decode cL_law 654 = .ok (.iadd, 1) := by decide +kernel
theorem dL_law_655 : decode cL_law 655 = .ok (.iaload, 1) := by decide +kernel
theorem dL_law_656 : decode cL_law 656 = .ok (.aload_n 0, 1) := by decide +kernel
theorem dL_law_657 : decode cL_law 657 = .ok (.iload_n 3, 1) := by decide +kernel
theorem dL_law_658 : decode cL_law 658 = .ok (.iconst 3, 1) := by decide +kernel
theorem dL_law_659 : decode cL_law 659 = .ok (.iadd, 1) := by decide +kernel
theorem dL_law_660 : decode cL_law 660 = .ok (.iaload, 1) := by decide +kernel
theorem dL_law_661 : decode cL_law 661 = .ok (.invokevirtual 80, 3) := by decide +kernel
theorem dL_law_664 : decode cL_law 664 = .ok (.if_icmp .eq 319, 3) := by decide +kernel
theorem dL_law_667 : decode cL_law 667 = .ok (.iconst 0, 1) := by decide +kernel
theorem dL_law_668 : decode cL_law 668 = .ok (.ireturn, 1) := by decide +kernel
theorem dL_law_669 : decode cL_law 669 = .ok (.aload_n 1, 1) := by decide +kernel
theorem dL_law_670 : decode cL_law 670 = .ok (.aload_n 0, 1) := by decide +kernel
theorem dL_law_671 : decode cL_law 671 = .ok (.iload_n 3, 1) := by decide +kernel
theorem dL_law_672 : decode cL_law 672 = .ok (.iconst 1, 1) := by decide +kernel
theorem dL_law_673 : decode cL_law 673 = .ok (.iadd, 1) := by decide +kernel
theorem dL_law_674 : decode cL_law 674 = .ok (.iaload, 1) := by decide +kernel
theorem dL_law_675 : decode cL_law 675 = .ok (.aload_n 0, 1) := by decide +kernel
theorem dL_law_676 : decode cL_law 676 = .ok (.iload_n 3, 1) := by decide +kernel
theorem dL_law_677 : decode cL_law 677 = .ok (.iconst 2, 1) := by decide +kernel
theorem dL_law_678 : decode cL_law 678 = .ok (.iadd, 1) := by decide +kernel
theorem dL_law_679 : decode cL_law 679 = .ok (.iaload, 1) := by decide +kernel
theorem dL_law_680 : decode cL_law 680 = .ok (.aload_n 0, 1) := by decide +kernel
theorem dL_law_681 : decode cL_law 681 = .ok (.iload_n 3, 1) := by decide +kernel
theorem dL_law_682 : decode cL_law 682 = .ok (.iconst 3, 1) := by decide +kernel
theorem dL_law_683 : decode cL_law 683 = .ok (.iadd, 1) := by decide +kernel
theorem dL_law_684 : decode cL_law 684 = .ok (.iaload, 1) := by decide +kernel
theorem dL_law_685 : decode cL_law 685 = .ok (.aload_n 0, 1) := by decide +kernel
theorem dL_law_686 : decode cL_law 686 = .ok (.iload_n 3, 1) := by decide +kernel
theorem dL_law_687 : decode cL_law 687 = .ok (.iconst 4, 1) := by decide +kernel
theorem dL_law_688 : decode cL_law 688 = .ok (.iadd, 1) := by decide +kernel
theorem dL_law_689 : decode cL_law 689 = .ok (.iaload, 1) := by decide +kernel
theorem dL_law_690 : decode cL_law 690 = .ok (.aload_n 0, 1) := by decide +kernel
theorem dL_law_691 : decode cL_law 691 = .ok (.iload_n 3, 1) := by decide +kernel
theorem dL_law_692 : decode cL_law 692 = .ok (.iconst 5, 1) := by decide +kernel
theorem dL_law_693 : decode cL_law 693 = .ok (.iadd, 1) := by decide +kernel
theorem dL_law_694 : decode cL_law 694 = .ok (.iaload, 1) := by decide +kernel
theorem dL_law_695 : decode cL_law 695 = .ok (.invokevirtual 81, 3) := by decide +kernel
theorem dL_law_698 : decode cL_law 698 = .ok (.aload_n 2, 1) := by decide +kernel
theorem dL_law_699 : decode cL_law 699 = .ok (.aload_n 0, 1) := by decide +kernel
theorem dL_law_700 : decode cL_law 700 = .ok (.iload_n 3, 1) := by decide +kernel
theorem dL_law_701 : decode cL_law 701 = .ok (.iconst 1, 1) := by decide +kernel
theorem dL_law_702 : decode cL_law 702 = .ok (.iadd, 1) := by decide +kernel
theorem dL_law_703 : decode cL_law 703 = .ok (.iaload, 1) := by decide +kernel
theorem dL_law_704 : decode cL_law 704 = .ok (.aload_n 0, 1) := by decide +kernel
theorem dL_law_705 : decode cL_law 705 = .ok (.iload_n 3, 1) := by decide +kernel
theorem dL_law_706 : decode cL_law 706 = .ok (.iconst 2, 1) := by decide +kernel
theorem dL_law_707 : decode cL_law 707 = .ok (.iadd, 1) := by decide +kernel
theorem dL_law_708 : decode cL_law 708 = .ok (.iaload, 1) := by decide +kernel
theorem dL_law_709 : decode cL_law 709 = .ok (.aload_n 0, 1) := by decide +kernel
theorem dL_law_710 : decode cL_law 710 = .ok (.iload_n 3, 1) := by decide +kernel
theorem dL_law_711 : decode cL_law 711 = .ok (.iconst 3, 1) := by decide +kernel
theorem dL_law_712 : decode cL_law 712 = .ok (.iadd, 1) := by decide +kernel
theorem dL_law_713 : decode cL_law 713 = .ok (.iaload, 1) := by decide +kernel
theorem dL_law_714 : decode cL_law 714 = .ok (.aload_n 0, 1) := by decide +kernel
theorem dL_law_715 : decode cL_law 715 = .ok (.iload_n 3, 1) := by decide +kernel
theorem dL_law_716 : decode cL_law 716 = .ok (.iconst 4, 1) := by decide +kernel
theorem dL_law_717 : decode cL_law 717 = .ok (.iadd, 1) := by decide +kernel
theorem dL_law_718 : decode cL_law 718 = .ok (.iaload, 1) := by decide +kernel
theorem dL_law_719 : decode cL_law 719 = .ok (.aload_n 0, 1) := by decide +kernel
theorem dL_law_720 : decode cL_law 720 = .ok (.iload_n 3, 1) := by decide +kernel
theorem dL_law_721 : decode cL_law 721 = .ok (.iconst 5, 1) := by decide +kernel
theorem dL_law_722 : decode cL_law 722 = .ok (.iadd, 1) := by decide +kernel
theorem dL_law_723 : decode cL_law 723 = .ok (.iaload, 1) := by decide +kernel
theorem dL_law_724 : decode cL_law 724 = .ok (.invokevirtual 85, 3) := by decide +kernel
theorem dL_law_727 : decode cL_law 727 = .ok (.if_icmp .eq 256, 3) := by decide +kernel
theorem dL_law_730 : decode cL_law 730 = .ok (.iconst 0, 1) := by decide +kernel
theorem dL_law_731 : decode cL_law 731 = .ok (.ireturn, 1) := by decide +kernel
theorem dL_law_732 : decode cL_law 732 = .ok (.aload_n 1, 1) := by decide +kernel
theorem dL_law_733 : decode cL_law 733 = .ok (.aload_n 0, 1) := by decide +kernel
theorem dL_law_734 : decode cL_law 734 = .ok (.iload_n 3, 1) := by decide +kernel
theorem dL_law_735 : decode cL_law 735 = .ok (.iconst 1, 1) := by decide +kernel
theorem dL_law_736 : decode cL_law 736 = .ok (.iadd, 1) := by decide +kernel
theorem dL_law_737 : decode cL_law 737 = .ok (.iaload, 1) := by decide +kernel
theorem dL_law_738 : decode cL_law 738 = .ok (.aload_n 0, 1) := by decide +kernel
theorem dL_law_739 : decode cL_law 739 = .ok (.iload_n 3, 1) := by decide +kernel
theorem dL_law_740 : decode cL_law 740 = .ok (.iconst 2, 1) := by decide +kernel
theorem dL_law_741 : decode cL_law 741 = .ok (.iadd, 1) := by decide +kernel
theorem dL_law_742 : decode cL_law 742 = .ok (.iaload, 1) := by decide +kernel
theorem dL_law_743 : decode cL_law 743 = .ok (.aload_n 0, 1) := by decide +kernel
theorem dL_law_744 : decode cL_law 744 = .ok (.iload_n 3, 1) := by decide +kernel
theorem dL_law_745 : decode cL_law 745 = .ok (.iconst 3, 1) := by decide +kernel
theorem dL_law_746 : decode cL_law 746 = .ok (.iadd, 1) := by decide +kernel
theorem dL_law_747 : decode cL_law 747 = .ok (.iaload, 1) := by decide +kernel
theorem dL_law_748 : decode cL_law 748 = .ok (.aload_n 0, 1) := by decide +kernel
theorem dL_law_749 : decode cL_law 749 = .ok (.iload_n 3, 1) := by decide +kernel
theorem dL_law_750 : decode cL_law 750 = .ok (.iconst 4, 1) := by decide +kernel
theorem dL_law_751 : decode cL_law 751 = .ok (.iadd, 1) := by decide +kernel
theorem dL_law_752 : decode cL_law 752 = .ok (.iaload, 1) := by decide +kernel
theorem dL_law_753 : decode cL_law 753 = .ok (.aload_n 0, 1) := by decide +kernel
theorem dL_law_754 : decode cL_law 754 = .ok (.iload_n 3, 1) := by decide +kernel
theorem dL_law_755 : decode cL_law 755 = .ok (.iconst 5, 1) := by decide +kernel
theorem dL_law_756 : decode cL_law 756 = .ok (.iadd, 1) := by decide +kernel
theorem dL_law_757 : decode cL_law 757 = .ok (.iaload, 1) := by decide +kernel
theorem dL_law_758 : decode cL_law 758 = .ok (.invokevirtual 86, 3) := by decide +kernel
theorem dL_law_761 : decode cL_law 761 = .ok (.aload_n 2, 1) := by decide +kernel
theorem dL_law_762 : decode cL_law 762 = .ok (.aload_n 0, 1) := by decide +kernel
theorem dL_law_763 : decode cL_law 763 = .ok (.iload_n 3, 1) := by decide +kernel
theorem dL_law_764 : decode cL_law 764 = .ok (.iconst 1, 1) := by decide +kernel
theorem dL_law_765 : decode cL_law 765 = .ok (.iadd, 1) := by decide +kernel
theorem dL_law_766 : decode cL_law 766 = .ok (.iaload, 1) := by decide +kernel
theorem dL_law_767 : decode cL_law 767 = .ok (.aload_n 0, 1) := by decide +kernel
theorem dL_law_768 : decode cL_law 768 = .ok (.iload_n 3, 1) := by decide +kernel
theorem dL_law_769 : decode cL_law 769 = .ok (.iconst 2, 1) := by decide +kernel
theorem dL_law_770 : decode cL_law 770 = .ok (.iadd, 1) := by decide +kernel
theorem dL_law_771 : decode cL_law 771 = .ok (.iaload, 1) := by decide +kernel
theorem dL_law_772 : decode cL_law 772 = .ok (.aload_n 0, 1) := by decide +kernel
theorem dL_law_773 : decode cL_law 773 = .ok (.iload_n 3, 1) := by decide +kernel
theorem dL_law_774 : decode cL_law 774 = .ok (.iconst 3, 1) := by decide +kernel
theorem dL_law_775 : decode cL_law 775 = .ok (.iadd, 1) := by decide +kernel
theorem dL_law_776 : decode cL_law 776 = .ok (.iaload, 1) := by decide +kernel
theorem dL_law_777 : decode cL_law 777 = .ok (.aload_n 0, 1) := by decide +kernel
theorem dL_law_778 : decode cL_law 778 = .ok (.iload_n 3, 1) := by decide +kernel
theorem dL_law_779 : decode cL_law 779 = .ok (.iconst 4, 1) := by decide +kernel
theorem dL_law_780 : decode cL_law 780 = .ok (.iadd, 1) := by decide +kernel
theorem dL_law_781 : decode cL_law 781 = .ok (.iaload, 1) := by decide +kernel
theorem dL_law_782 : decode cL_law 782 = .ok (.aload_n 0, 1) := by decide +kernel
theorem dL_law_783 : decode cL_law 783 = .ok (.iload_n 3, 1) := by decide +kernel
theorem dL_law_784 : decode cL_law 784 = .ok (.iconst 5, 1) := by decide +kernel
theorem dL_law_785 : decode cL_law 785 = .ok (.iadd, 1) := by decide +kernel
theorem dL_law_786 : decode cL_law 786 = .ok (.iaload, 1) := by decide +kernel
theorem dL_law_787 : decode cL_law 787 = .ok (.invokevirtual 90, 3) := by decide +kernel
theorem dL_law_790 : decode cL_law 790 = .ok (.lcmp, 1) := by decide +kernel
theorem dL_law_791 : decode cL_law 791 = .ok (.ifCond .eq 192, 3) := by decide +kernel
theorem dL_law_794 : decode cL_law 794 = .ok (.iconst 0, 1) := by decide +kernel
theorem dL_law_795 : decode cL_law 795 = .ok (.ireturn, 1) := by decide +kernel
theorem dL_law_796 : decode cL_law 796 = .ok (.aload_n 1, 1) := by decide +kernel
theorem dL_law_797 : decode cL_law 797 = .ok (.aload_n 0, 1) := by decide +kernel
theorem dL_law_798 : decode cL_law 798 = .ok (.iload_n 3, 1) := by decide +kernel
theorem dL_law_799 : decode cL_law 799 = .ok (.iconst 1, 1) := by decide +kernel
theorem dL_law_800 : decode cL_law 800 = .ok (.iadd, 1) := by decide +kernel
theorem dL_law_801 : decode cL_law 801 = .ok (.iaload, 1) := by decide +kernel
theorem dL_law_802 : decode cL_law 802 = .ok (.aload_n 0, 1) := by decide +kernel
theorem dL_law_803 : decode cL_law 803 = .ok (.iload_n 3, 1) := by decide +kernel
theorem dL_law_804 : decode cL_law 804 = .ok (.iconst 2, 1) := by decide +kernel
theorem dL_law_805 : decode cL_law 805 = .ok (.iadd, 1) := by decide +kernel
theorem dL_law_806 : decode cL_law 806 = .ok (.iaload, 1) := by decide +kernel
theorem dL_law_807 : decode cL_law 807 = .ok (.aload_n 0, 1) := by decide +kernel
theorem dL_law_808 : decode cL_law 808 = .ok (.iload_n 3, 1) := by decide +kernel
theorem dL_law_809 : decode cL_law 809 = .ok (.iconst 3, 1) := by decide +kernel
theorem dL_law_810 : decode cL_law 810 = .ok (.iadd, 1) := by decide +kernel
theorem dL_law_811 : decode cL_law 811 = .ok (.iaload, 1) := by decide +kernel
theorem dL_law_812 : decode cL_law 812 = .ok (.ifCond .eq 7, 3) := by decide +kernel
theorem dL_law_815 : decode cL_law 815 = .ok (.iconst 1, 1) := by decide +kernel
theorem dL_law_816 : decode cL_law 816 = .ok (.goto 4, 3) := by decide +kernel
theorem dL_law_819 : decode cL_law 819 = .ok (.iconst 0, 1) := by decide +kernel
theorem dL_law_820 : decode cL_law 820 = .ok (.invokevirtual 91, 3) := by decide +kernel
theorem dL_law_823 : decode cL_law 823 = .ok (.aload_n 2, 1) := by decide +kernel
theorem dL_law_824 : decode cL_law 824 = .ok (.aload_n 0, 1) := by decide +kernel
theorem dL_law_825 : decode cL_law 825 = .ok (.iload_n 3, 1) := by decide +kernel
theorem dL_law_826 : decode cL_law 826 = .ok (.iconst 1, 1) := by decide +kernel
theorem dL_law_827 : decode cL_law 827 = .ok (.iadd, 1) := by decide +kernel
theorem dL_law_828 : decode cL_law 828 = .ok (.iaload, 1) := by decide +kernel
theorem dL_law_829 : decode cL_law 829 = .ok (.aload_n 0, 1) := by decide +kernel
theorem dL_law_830 : decode cL_law 830 = .ok (.iload_n 3, 1) := by decide +kernel
theorem dL_law_831 : decode cL_law 831 = .ok (.iconst 2, 1) := by decide +kernel
theorem dL_law_832 : decode cL_law 832 = .ok (.iadd, 1) := by decide +kernel
theorem dL_law_833 : decode cL_law 833 = .ok (.iaload, 1) := by decide +kernel
theorem dL_law_834 : decode cL_law 834 = .ok (.aload_n 0, 1) := by decide +kernel
theorem dL_law_835 : decode cL_law 835 = .ok (.iload_n 3, 1) := by decide +kernel
theorem dL_law_836 : decode cL_law 836 = .ok (.iconst 3, 1) := by decide +kernel
theorem dL_law_837 : decode cL_law 837 = .ok (.iadd, 1) := by decide +kernel
theorem dL_law_838 : decode cL_law 838 = .ok (.iaload, 1) := by decide +kernel
theorem dL_law_839 : decode cL_law 839 = .ok (.ifCond .eq 7, 3) := by decide +kernel
theorem dL_law_842 : decode cL_law 842 = .ok (.iconst 1, 1) := by decide +kernel
theorem dL_law_843 : decode cL_law 843 = .ok (.goto 4, 3) := by decide +kernel
theorem dL_law_846 : decode cL_law 846 = .ok (.iconst 0, 1) := by decide +kernel
theorem dL_law_847 : decode cL_law 847 = .ok (.invokevirtual 95, 3) := by decide +kernel
theorem dL_law_850 : decode cL_law 850 = .ok (.if_icmp .eq 133, 3) := by decide +kernel
theorem dL_law_853 : decode cL_law 853 = .ok (.iconst 0, 1) := by decide +kernel
theorem dL_law_854 : decode cL_law 854 = .ok (.ireturn, 1) := by decide +kernel
theorem dL_law_855 : decode cL_law 855 = .ok (.aload_n 1, 1) := by decide +kernel
theorem dL_law_856 : decode cL_law 856 = .ok (.aload_n 0, 1) := by decide +kernel
theorem dL_law_857 : decode cL_law 857 = .ok (.iload_n 3, 1) := by decide +kernel
theorem dL_law_858 : decode cL_law 858 = .ok (.iconst 1, 1) := by decide +kernel
theorem dL_law_859 : decode cL_law 859 = .ok (.iadd, 1) := by decide +kernel
theorem dL_law_860 : decode cL_law 860 = .ok (.iaload, 1) := by decide +kernel
theorem dL_law_861 : decode cL_law 861 = .ok (.aload_n 0, 1) := by decide +kernel
theorem dL_law_862 : decode cL_law 862 = .ok (.iload_n 3, 1) := by decide +kernel
theorem dL_law_863 : decode cL_law 863 = .ok (.iconst 2, 1) := by decide +kernel
theorem dL_law_864 : decode cL_law 864 = .ok (.iadd, 1) := by decide +kernel
theorem dL_law_865 : decode cL_law 865 = .ok (.iaload, 1) := by decide +kernel
theorem dL_law_866 : decode cL_law 866 = .ok (.invokevirtual 96, 3) := by decide +kernel
theorem dL_law_869 : decode cL_law 869 = .ok (.aload_n 2, 1) := by decide +kernel
theorem dL_law_870 : decode cL_law 870 = .ok (.aload_n 0, 1) := by decide +kernel
theorem dL_law_871 : decode cL_law 871 = .ok (.iload_n 3, 1) := by decide +kernel
theorem dL_law_872 : decode cL_law 872 = .ok (.iconst 1, 1) := by decide +kernel
theorem dL_law_873 : decode cL_law 873 = .ok (.iadd, 1) := by decide +kernel
theorem dL_law_874 : decode cL_law 874 = .ok (.iaload, 1) := by decide +kernel
theorem dL_law_875 : decode cL_law 875 = .ok (.aload_n 0, 1) := by decide +kernel
theorem dL_law_876 : decode cL_law 876 = .ok (.iload_n 3, 1) := by decide +kernel
theorem dL_law_877 : decode cL_law 877 = .ok (.iconst 2, 1) := by decide +kernel
theorem dL_law_878 : decode cL_law 878 = .ok (.iadd, 1) := by decide +kernel
theorem dL_law_879 : decode cL_law 879 = .ok (.iaload, 1) := by decide +kernel
theorem dL_law_880 : decode cL_law 880 = .ok (.invokevirtual 99, 3) := by decide +kernel
theorem dL_law_883 : decode cL_law 883 = .ok (.if_icmp .eq 100, 3) := by decide +kernel
theorem dL_law_886 : decode cL_law 886 = .ok (.iconst 0, 1) := by decide +kernel
theorem dL_law_887 : decode cL_law 887 = .ok (.ireturn, 1) := by decide +kernel
theorem dL_law_888 : decode cL_law 888 = .ok (.aload_n 1, 1) := by decide +kernel
theorem dL_law_889 : decode cL_law 889 = .ok (.invokevirtual 100, 3) := by decide +kernel
theorem dL_law_892 : decode cL_law 892 = .ok (.aload_n 2, 1) := by decide +kernel
theorem dL_law_893 : decode cL_law 893 = .ok (.invokevirtual 103, 3) := by decide +kernel
theorem dL_law_896 : decode cL_law 896 = .ok (.if_icmp .eq 87, 3) := by decide +kernel
theorem dL_law_899 : decode cL_law 899 = .ok (.iconst 0, 1) := by decide +kernel
theorem dL_law_900 : decode cL_law 900 = .ok (.ireturn, 1) := by decide +kernel
theorem dL_law_901 : decode cL_law 901 = .ok (.aload_n 1, 1) := by decide +kernel
theorem dL_law_902 : decode cL_law 902 = .ok (.aload_n 0, 1) := by decide +kernel
theorem dL_law_903 : decode cL_law 903 = .ok (.iload_n 3, 1) := by decide +kernel
theorem dL_law_904 : decode cL_law 904 = .ok (.iconst 1, 1) := by decide +kernel
theorem dL_law_905 : decode cL_law 905 = .ok (.iadd, 1) := by decide +kernel
theorem dL_law_906 : decode cL_law 906 = .ok (.iaload, 1) := by decide +kernel
theorem dL_law_907 : decode cL_law 907 = .ok (.aload_n 0, 1) := by decide +kernel
theorem dL_law_908 : decode cL_law 908 = .ok (.iload_n 3, 1) := by decide +kernel
theorem dL_law_909 : decode cL_law 909 = .ok (.iconst 2, 1) := by decide +kernel
theorem dL_law_910 : decode cL_law 910 = .ok (.iadd, 1) := by decide +kernel
theorem dL_law_911 : decode cL_law 911 = .ok (.iaload, 1) := by decide +kernel
theorem dL_law_912 : decode cL_law 912 = .ok (.invokevirtual 104, 3) := by decide +kernel
theorem dL_law_915 : decode cL_law 915 = .ok (.aload_n 2, 1) := by decide +kernel
theorem dL_law_916 : decode cL_law 916 = .ok (.aload_n 0, 1) := by decide +kernel
theorem dL_law_917 : decode cL_law 917 = .ok (.iload_n 3, 1) := by decide +kernel
theorem dL_law_918 : decode cL_law 918 = .ok (.iconst 1, 1) := by decide +kernel
theorem dL_law_919 : decode cL_law 919 = .ok (.iadd, 1) := by decide +kernel
theorem dL_law_920 : decode cL_law 920 = .ok (.iaload, 1) := by decide +kernel
theorem dL_law_921 : decode cL_law 921 = .ok (.aload_n 0, 1) := by decide +kernel
theorem dL_law_922 : decode cL_law 922 = .ok (.iload_n 3, 1) := by decide +kernel
theorem dL_law_923 : decode cL_law 923 = .ok (.iconst 2, 1) := by decide +kernel
theorem dL_law_924 : decode cL_law 924 = .ok (.iadd, 1) := by decide +kernel
theorem dL_law_925 : decode cL_law 925 = .ok (.iaload, 1) := by decide +kernel
theorem dL_law_926 : decode cL_law 926 = .ok (.invokevirtual 107, 3) := by decide +kernel
theorem dL_law_929 : decode cL_law 929 = .ok (.if_icmp .eq 54, 3) := by decide +kernel
theorem dL_law_932 : decode cL_law 932 = .ok (.iconst 0, 1) := by decide +kernel
theorem dL_law_933 : decode cL_law 933 = .ok (.ireturn, 1) := by decide +kernel
theorem dL_law_934 : decode cL_law 934 = .ok (.aload_n 1, 1) := by decide +kernel
theorem dL_law_935 : decode cL_law 935 = .ok (.invokevirtual 108, 3) := by decide +kernel
theorem dL_law_938 : decode cL_law 938 = .ok (.aload_n 2, 1) := by decide +kernel
theorem dL_law_939 : decode cL_law 939 = .ok (.invokevirtual 111, 3) := by decide +kernel
theorem dL_law_942 : decode cL_law 942 = .ok (.if_icmp .eq 41, 3) := by decide +kernel
theorem dL_law_945 : decode cL_law 945 = .ok (.iconst 0, 1) := by decide +kernel
theorem dL_law_946 : decode cL_law 946 = .ok (.ireturn, 1) := by decide +kernel
theorem dL_law_947 : decode cL_law 947 = .ok (.aload_n 1, 1) := by decide +kernel
theorem dL_law_948 : decode cL_law 948 = .ok (.invokevirtual 112, 3) := by decide +kernel
theorem dL_law_951 : decode cL_law 951 = .ok (.aload_n 2, 1) := by decide +kernel
theorem dL_law_952 : decode cL_law 952 = .ok (.invokevirtual 115, 3) := by decide +kernel
theorem dL_law_955 : decode cL_law 955 = .ok (.if_icmp .eq 28, 3) := by decide +kernel
theorem dL_law_958 : decode cL_law 958 = .ok (.iconst 0, 1) := by decide +kernel
theorem dL_law_959 : decode cL_law 959 = .ok (.ireturn, 1) := by decide +kernel
theorem dL_law_960 : decode cL_law 960 = .ok (.aload_n 1, 1) := by decide +kernel
theorem dL_law_961 : decode cL_law 961 = .ok (.aload_n 0, 1) := by decide +kernel
theorem dL_law_962 : decode cL_law 962 = .ok (.iload_n 3, 1) := by decide +kernel
theorem dL_law_963 : decode cL_law 963 = .ok (.iconst 1, 1) := by decide +kernel
theorem dL_law_964 : decode cL_law 964 = .ok (.iadd, 1) := by decide +kernel
theorem dL_law_965 : decode cL_law 965 = .ok (.iaload, 1) := by decide +kernel
theorem dL_law_966 : decode cL_law 966 = .ok (.invokevirtual 116, 3) := by decide +kernel
theorem dL_law_969 : decode cL_law 969 = .ok (.aload_n 2, 1) := by decide +kernel
theorem dL_law_970 : decode cL_law 970 = .ok (.aload_n 0, 1) := by decide +kernel
theorem dL_law_971 : decode cL_law 971 = .ok (.iload_n 3, 1) := by decide +kernel
theorem dL_law_972 : decode cL_law 972 = .ok (.iconst 1, 1) := by decide +kernel
theorem dL_law_973 : decode cL_law 973 = .ok (.iadd, 1) := by decide +kernel
theorem dL_law_974 : decode cL_law 974 = .ok (.iaload, 1) := by decide +kernel
theorem dL_law_975 : decode cL_law 975 = .ok (.invokevirtual 119, 3) := by decide +kernel
theorem dL_law_978 : decode cL_law 978 = .ok (.if_icmp .eq 5, 3) := by decide +kernel
theorem dL_law_981 : decode cL_law 981 = .ok (.iconst 0, 1) := by decide +kernel
theorem dL_law_982 : decode cL_law 982 = .ok (.ireturn, 1) := by decide +kernel
theorem dL_law_983 : decode cL_law 983 = .ok (.iinc 3 6, 3) := by decide +kernel
theorem dL_law_986 : decode cL_law 986 = .ok (.goto (-968), 3) := by decide +kernel
theorem dL_law_989 : decode cL_law 989 = .ok (.iconst 1, 1) := by decide +kernel
theorem dL_law_990 : decode cL_law 990 = .ok (.ireturn, 1) := by decide +kernel
end
section
/-- the words that every method is given: all of the tables' that may be handed on -/
def U : List Cond := lw_tbl.filter goodWord
def isNest : Cond → Bool
  | .fieldLinkNest .. => true
  | .methodLinkNest .. => true
  | _ => false
def NWL : List Cond := tables_1.filter isNest
theorem u_mem (i : Nat) {w : Cond} (h : tables_1[i]? = some w) (g : goodWord w = true) : w ∈ U :=
  List.mem_filter.mpr ⟨List.mem_append_right _ (List.mem_of_getElem? h), g⟩
theorem u_sel {q : MethodName × Nat} (h : q ∈ lw_privs) : Cond.selects q.1.cls q.1 q.1 ∈ U :=
  List.mem_filter.mpr ⟨List.mem_append_left _ (List.mem_map.mpr ⟨q, h, rfl⟩), rfl⟩
theorem n_mem (i : Nat) {w : Cond} (h : tables_1[i]? = some w) (g : isNest w = true) : w ∈ NWL :=
  List.mem_filter.mpr ⟨List.mem_of_getElem? h, g⟩
theorem u_good {k : Cond} {ws : List Cond} (h : ∀ w ∈ ws, w ∈ U) : GoodIn (k :: U) ws := fun w hw =>
  ⟨List.mem_cons_of_mem _ (h w hw), good_of_word (List.mem_filter.mp (h w hw)).2⟩
theorem u_in {w : Cond} (h : w ∈ U) : w ∈ lw_tbl := (List.mem_filter.mp h).1

/-! classes -/
def clR : Nat → String := fun ci => match ci with
  | 0 => RX0
  | 1 => RX1
  | 2 => RX2
  | 3 => RX3
  | 4 => RX4
  | 5 => RX5
  | 6 => RX6
  | 7 => RX7
  | 8 => RX8
  | 9 => RX9
  | 10 => RX10
  | _ => RX11
def clT : Nat → u_T := fun ci => match ci with
  | 0 => TX0
  | 1 => TX1
  | 2 => TX2
  | 3 => TX3
  | 4 => TX4
  | 5 => TX5
  | 6 => TX6
  | 7 => TX7
  | 8 => TX8
  | 9 => TX9
  | 10 => TX10
  | _ => TX11
def clTy : Nat → Nat → FieldType := fun ci => match ci with
  | 0 => tyX0
  | 1 => tyX1
  | 2 => tyX2
  | 3 => tyX3
  | 4 => tyX4
  | 5 => tyX5
  | 6 => tyX6
  | 7 => tyX7
  | 8 => tyX8
  | 9 => tyX9
  | 10 => tyX10
  | _ => tyX11
/-- what a field holds: 0 int, 1 boolean, 2 long, 3 a reference that changes, 4 one that does not -/
def kdL : List (List Nat) := [[3, 3, 0, 0], [4, 4, 4, 0, 0, 0, 0], [4, 0], [4, 4, 0], [3, 3, 2, 2], [4, 4, 4, 4, 0], [4, 0, 0], [4, 0], [4, 4, 4, 4, 4, 4, 4, 4, 4, 0, 0, 0], [4, 0], [4, 4, 4, 4, 4, 4, 4, 4, 4, 3, 3, 1], [0, 4, 4, 4, 4, 4, 4, 4, 4, 4, 4, 4, 4, 4, 4, 4, 4, 4, 0, 0, 4, 0, 4, 4, 4, 4, 4, 0, 4, 4, 4, 4, 4]]
def kd (c k : Nat) : Nat := (kdL.getD c []).getD k 0
def nf (c : Nat) : Nat := (kdL.getD c []).length
def okt (kind : Nat) (ty : FieldType) (final : Bool) : Bool := match kind, ty, final with
  | 0, .int, false => true
  | 1, .boolean, false => true
  | 2, .long, false => true
  | 3, .object _, false => true
  | 3, .array _, false => true
  | 4, .object _, true => true
  | 4, .array _, true => true
  | _, _, _ => false
/-- what the tables say of a class -/
def CF (ci : Nat) : Prop := vwCl[ci]? = some (clR ci, clT ci, nf ci) ∧ (∀ w ∈ u_ws (clR ci) (clT ci) (nf ci), w ∈ U) ∧ (∀ k, k < nf ci → parseFieldDescriptor (clT ci k).2.2.1 = some (clTy ci k)) ∧ (∀ a, a < nf ci → ∀ b, b < nf ci → a ≠ b → (clT ci a).2.1 ≠ (clT ci b).2.1) ∧ (∀ k, k < nf ci → (clT ci k).1 = clR ci) ∧ (∀ k, k < nf ci → okt (kd ci k) (clTy ci k) (clT ci k).2.2.2 = true)
theorem ws_X0 : ∀ w ∈ u_ws RX0 TX0 4, w ∈ U := by
  intro w hw
  obtain ⟨k, hk, rfl⟩ := List.mem_map.mp hw
  have hk2 := List.mem_range.mp hk
  match k, hk2 with
  | 0, _ => exact u_mem 122 (by decide +kernel) rfl
  | 1, _ => exact u_mem 124 (by decide +kernel) rfl
  | 2, _ => exact u_mem 126 (by decide +kernel) rfl
  | 3, _ => exact u_mem 128 (by decide +kernel) rfl
  | k + 4, h => exact absurd h (by omega)
theorem CF_X0 : CF 0 := ⟨rfl, ws_X0, tyX0_ok, nmX0, by decide +kernel, by decide +kernel⟩
theorem ws_X1 : ∀ w ∈ u_ws RX1 TX1 7, w ∈ U := by
  intro w hw
  obtain ⟨k, hk, rfl⟩ := List.mem_map.mp hw
  have hk2 := List.mem_range.mp hk
  match k, hk2 with
  | 0, _ => exact u_mem 85 (by decide +kernel) rfl
  | 1, _ => exact u_mem 87 (by decide +kernel) rfl
  | 2, _ => exact u_mem 89 (by decide +kernel) rfl
  | 3, _ => exact u_mem 91 (by decide +kernel) rfl
  | 4, _ => exact u_mem 93 (by decide +kernel) rfl
  | 5, _ => exact u_mem 95 (by decide +kernel) rfl
  | 6, _ => exact u_mem 97 (by decide +kernel) rfl
  | k + 7, h => exact absurd h (by omega)
theorem CF_X1 : CF 1 := ⟨rfl, ws_X1, tyX1_ok, nmX1, by decide +kernel, by decide +kernel⟩
theorem ws_X2 : ∀ w ∈ u_ws RX2 TX2 2, w ∈ U := by
  intro w hw
  obtain ⟨k, hk, rfl⟩ := List.mem_map.mp hw
  have hk2 := List.mem_range.mp hk
  match k, hk2 with
  | 0, _ => exact u_mem 103 (by decide +kernel) rfl
  | 1, _ => exact u_mem 105 (by decide +kernel) rfl
  | k + 2, h => exact absurd h (by omega)
theorem CF_X2 : CF 2 := ⟨rfl, ws_X2, tyX2_ok, nmX2, by decide +kernel, by decide +kernel⟩
theorem ws_X3 : ∀ w ∈ u_ws RX3 TX3 3, w ∈ U := by
  intro w hw
  obtain ⟨k, hk, rfl⟩ := List.mem_map.mp hw
  have hk2 := List.mem_range.mp hk
  match k, hk2 with
  | 0, _ => exact u_mem 163 (by decide +kernel) rfl
  | 1, _ => exact u_mem 165 (by decide +kernel) rfl
  | 2, _ => exact u_mem 167 (by decide +kernel) rfl
  | k + 3, h => exact absurd h (by omega)
theorem CF_X3 : CF 3 := ⟨rfl, ws_X3, tyX3_ok, nmX3, by decide +kernel, by decide +kernel⟩
theorem ws_X4 : ∀ w ∈ u_ws RX4 TX4 4, w ∈ U := by
  intro w hw
  obtain ⟨k, hk, rfl⟩ := List.mem_map.mp hw
  have hk2 := List.mem_range.mp hk
  match k, hk2 with
  | 0, _ => exact u_mem 144 (by decide +kernel) rfl
  | 1, _ => exact u_mem 146 (by decide +kernel) rfl
  | 2, _ => exact u_mem 148 (by decide +kernel) rfl
  | 3, _ => exact u_mem 150 (by decide +kernel) rfl
  | k + 4, h => exact absurd h (by omega)
theorem CF_X4 : CF 4 := ⟨rfl, ws_X4, tyX4_ok, nmX4, by decide +kernel, by decide +kernel⟩
theorem ws_X5 : ∀ w ∈ u_ws RX5 TX5 5, w ∈ U := by
  intro w hw
  obtain ⟨k, hk, rfl⟩ := List.mem_map.mp hw
  have hk2 := List.mem_range.mp hk
  match k, hk2 with
  | 0, _ => exact u_mem 199 (by decide +kernel) rfl
  | 1, _ => exact u_mem 201 (by decide +kernel) rfl
  | 2, _ => exact u_mem 203 (by decide +kernel) rfl
  | 3, _ => exact u_mem 205 (by decide +kernel) rfl
  | 4, _ => exact u_mem 207 (by decide +kernel) rfl
  | k + 5, h => exact absurd h (by omega)
theorem CF_X5 : CF 5 := ⟨rfl, ws_X5, tyX5_ok, nmX5, by decide +kernel, by decide +kernel⟩
theorem ws_X6 : ∀ w ∈ u_ws RX6 TX6 3, w ∈ U := by
  intro w hw
  obtain ⟨k, hk, rfl⟩ := List.mem_map.mp hw
  have hk2 := List.mem_range.mp hk
  match k, hk2 with
  | 0, _ => exact u_mem 51 (by decide +kernel) rfl
  | 1, _ => exact u_mem 53 (by decide +kernel) rfl
  | 2, _ => exact u_mem 55 (by decide +kernel) rfl
  | k + 3, h => exact absurd h (by omega)
theorem CF_X6 : CF 6 := ⟨rfl, ws_X6, tyX6_ok, nmX6, by decide +kernel, by decide +kernel⟩
theorem ws_X7 : ∀ w ∈ u_ws RX7 TX7 2, w ∈ U := by
  intro w hw
  obtain ⟨k, hk, rfl⟩ := List.mem_map.mp hw
  have hk2 := List.mem_range.mp hk
  match k, hk2 with
  | 0, _ => exact u_mem 214 (by decide +kernel) rfl
  | 1, _ => exact u_mem 216 (by decide +kernel) rfl
  | k + 2, h => exact absurd h (by omega)
theorem CF_X7 : CF 7 := ⟨rfl, ws_X7, tyX7_ok, nmX7, by decide +kernel, by decide +kernel⟩
theorem ws_X8 : ∀ w ∈ u_ws RX8 TX8 12, w ∈ U := by
  intro w hw
  obtain ⟨k, hk, rfl⟩ := List.mem_map.mp hw
  have hk2 := List.mem_range.mp hk
  match k, hk2 with
  | 0, _ => exact u_mem 260 (by decide +kernel) rfl
  | 1, _ => exact u_mem 262 (by decide +kernel) rfl
  | 2, _ => exact u_mem 264 (by decide +kernel) rfl
  | 3, _ => exact u_mem 266 (by decide +kernel) rfl
  | 4, _ => exact u_mem 268 (by decide +kernel) rfl
  | 5, _ => exact u_mem 270 (by decide +kernel) rfl
  | 6, _ => exact u_mem 272 (by decide +kernel) rfl
  | 7, _ => exact u_mem 274 (by decide +kernel) rfl
  | 8, _ => exact u_mem 276 (by decide +kernel) rfl
  | 9, _ => exact u_mem 278 (by decide +kernel) rfl
  | 10, _ => exact u_mem 280 (by decide +kernel) rfl
  | 11, _ => exact u_mem 282 (by decide +kernel) rfl
  | k + 12, h => exact absurd h (by omega)
theorem CF_X8 : CF 8 := ⟨rfl, ws_X8, tyX8_ok, nmX8, by decide +kernel, by decide +kernel⟩
theorem ws_X9 : ∀ w ∈ u_ws RX9 TX9 2, w ∈ U := by
  intro w hw
  obtain ⟨k, hk, rfl⟩ := List.mem_map.mp hw
  have hk2 := List.mem_range.mp hk
  match k, hk2 with
  | 0, _ => exact u_mem 36 (by decide +kernel) rfl
  | 1, _ => exact u_mem 38 (by decide +kernel) rfl
  | k + 2, h => exact absurd h (by omega)
theorem CF_X9 : CF 9 := ⟨rfl, ws_X9, tyX9_ok, nmX9, by decide +kernel, by decide +kernel⟩
theorem ws_X10 : ∀ w ∈ u_ws RX10 TX10 12, w ∈ U := by
  intro w hw
  obtain ⟨k, hk, rfl⟩ := List.mem_map.mp hw
  have hk2 := List.mem_range.mp hk
  match k, hk2 with
  | 0, _ => exact u_mem 408 (by decide +kernel) rfl
  | 1, _ => exact u_mem 410 (by decide +kernel) rfl
  | 2, _ => exact u_mem 412 (by decide +kernel) rfl
  | 3, _ => exact u_mem 414 (by decide +kernel) rfl
  | 4, _ => exact u_mem 416 (by decide +kernel) rfl
  | 5, _ => exact u_mem 418 (by decide +kernel) rfl
  | 6, _ => exact u_mem 420 (by decide +kernel) rfl
  | 7, _ => exact u_mem 422 (by decide +kernel) rfl
  | 8, _ => exact u_mem 424 (by decide +kernel) rfl
  | 9, _ => exact u_mem 426 (by decide +kernel) rfl
  | 10, _ => exact u_mem 428 (by decide +kernel) rfl
  | 11, _ => exact u_mem 430 (by decide +kernel) rfl
  | k + 12, h => exact absurd h (by omega)
theorem CF_X10 : CF 10 := ⟨rfl, ws_X10, tyX10_ok, nmX10, by decide +kernel, by decide +kernel⟩
theorem ws_X11 : ∀ w ∈ u_ws RX11 TX11 33, w ∈ U := by
  intro w hw
  obtain ⟨k, hk, rfl⟩ := List.mem_map.mp hw
  have hk2 := List.mem_range.mp hk
  match k, hk2 with
  | 0, _ => exact u_mem 764 (by decide +kernel) rfl
  | 1, _ => exact u_mem 766 (by decide +kernel) rfl
  | 2, _ => exact u_mem 768 (by decide +kernel) rfl
  | 3, _ => exact u_mem 770 (by decide +kernel) rfl
  | 4, _ => exact u_mem 772 (by decide +kernel) rfl
  | 5, _ => exact u_mem 774 (by decide +kernel) rfl
  | 6, _ => exact u_mem 776 (by decide +kernel) rfl
  | 7, _ => exact u_mem 778 (by decide +kernel) rfl
  | 8, _ => exact u_mem 780 (by decide +kernel) rfl
  | 9, _ => exact u_mem 782 (by decide +kernel) rfl
  | 10, _ => exact u_mem 784 (by decide +kernel) rfl
  | 11, _ => exact u_mem 786 (by decide +kernel) rfl
  | 12, _ => exact u_mem 788 (by decide +kernel) rfl
  | 13, _ => exact u_mem 790 (by decide +kernel) rfl
  | 14, _ => exact u_mem 792 (by decide +kernel) rfl
  | 15, _ => exact u_mem 794 (by decide +kernel) rfl
  | 16, _ => exact u_mem 796 (by decide +kernel) rfl
  | 17, _ => exact u_mem 798 (by decide +kernel) rfl
  | 18, _ => exact u_mem 800 (by decide +kernel) rfl
  | 19, _ => exact u_mem 802 (by decide +kernel) rfl
  | 20, _ => exact u_mem 804 (by decide +kernel) rfl
  | 21, _ => exact u_mem 806 (by decide +kernel) rfl
  | 22, _ => exact u_mem 808 (by decide +kernel) rfl
  | 23, _ => exact u_mem 810 (by decide +kernel) rfl
  | 24, _ => exact u_mem 812 (by decide +kernel) rfl
  | 25, _ => exact u_mem 814 (by decide +kernel) rfl
  | 26, _ => exact u_mem 816 (by decide +kernel) rfl
  | 27, _ => exact u_mem 818 (by decide +kernel) rfl
  | 28, _ => exact u_mem 820 (by decide +kernel) rfl
  | 29, _ => exact u_mem 822 (by decide +kernel) rfl
  | 30, _ => exact u_mem 824 (by decide +kernel) rfl
  | 31, _ => exact u_mem 826 (by decide +kernel) rfl
  | 32, _ => exact u_mem 828 (by decide +kernel) rfl
  | k + 33, h => exact absurd h (by omega)
theorem CF_X11 : CF 11 := ⟨rfl, ws_X11, tyX11_ok, nmX11, by decide +kernel, by decide +kernel⟩
theorem CFall : ∀ ci, ci < 12 → CF ci := fun ci h => match ci, h with
  | 0, _ => CF_X0
  | 1, _ => CF_X1
  | 2, _ => CF_X2
  | 3, _ => CF_X3
  | 4, _ => CF_X4
  | 5, _ => CF_X5
  | 6, _ => CF_X6
  | 7, _ => CF_X7
  | 8, _ => CF_X8
  | 9, _ => CF_X9
  | 10, _ => CF_X10
  | 11, _ => CF_X11
  | k + 12, h => absurd h (by omega)
/-! field links -/
def FL (own : String) (idx ci k : Nat) : Prop := ci < 12 ∧ k < nf ci ∧ (Cond.fieldLink own idx (clR ci) (clT ci k).2.1 (clT ci k).2.2.1 ∈ U ∨ ∃ host : String, Cond.fieldLinkNest own idx (clR ci) (clT ci k).2.1 (clT ci k).2.2.1 host ∈ NWL)
theorem fl_X10_10 : FL RX10 10 10 0 := ⟨by decide, by decide, Or.inl (u_mem 396 (by decide +kernel) rfl)⟩
theorem fp_X10_10 : Cond.fieldLink RX10 10 (clR 10) (clT 10 0).2.1 (clT 10 0).2.2.1 ∈ U := u_mem 396 (by decide +kernel) rfl
theorem fl_X10_19 : FL RX10 19 10 1 := ⟨by decide, by decide, Or.inl (u_mem 397 (by decide +kernel) rfl)⟩
theorem fp_X10_19 : Cond.fieldLink RX10 19 (clR 10) (clT 10 1).2.1 (clT 10 1).2.2.1 ∈ U := u_mem 397 (by decide +kernel) rfl
theorem fl_X10_26 : FL RX10 26 10 2 := ⟨by decide, by decide, Or.inl (u_mem 398 (by decide +kernel) rfl)⟩
theorem fp_X10_26 : Cond.fieldLink RX10 26 (clR 10) (clT 10 2).2.1 (clT 10 2).2.2.1 ∈ U := u_mem 398 (by decide +kernel) rfl
theorem fl_X10_30 : FL RX10 30 10 3 := ⟨by decide, by decide, Or.inl (u_mem 399 (by decide +kernel) rfl)⟩
theorem fp_X10_30 : Cond.fieldLink RX10 30 (clR 10) (clT 10 3).2.1 (clT 10 3).2.2.1 ∈ U := u_mem 399 (by decide +kernel) rfl
theorem fl_X10_36 : FL RX10 36 10 4 := ⟨by decide, by decide, Or.inl (u_mem 400 (by decide +kernel) rfl)⟩
theorem fp_X10_36 : Cond.fieldLink RX10 36 (clR 10) (clT 10 4).2.1 (clT 10 4).2.2.1 ∈ U := u_mem 400 (by decide +kernel) rfl
theorem fl_X10_43 : FL RX10 43 10 5 := ⟨by decide, by decide, Or.inl (u_mem 401 (by decide +kernel) rfl)⟩
theorem fp_X10_43 : Cond.fieldLink RX10 43 (clR 10) (clT 10 5).2.1 (clT 10 5).2.2.1 ∈ U := u_mem 401 (by decide +kernel) rfl
theorem fl_X10_50 : FL RX10 50 10 6 := ⟨by decide, by decide, Or.inl (u_mem 402 (by decide +kernel) rfl)⟩
theorem fp_X10_50 : Cond.fieldLink RX10 50 (clR 10) (clT 10 6).2.1 (clT 10 6).2.2.1 ∈ U := u_mem 402 (by decide +kernel) rfl
theorem fl_X10_57 : FL RX10 57 10 7 := ⟨by decide, by decide, Or.inl (u_mem 403 (by decide +kernel) rfl)⟩
theorem fp_X10_57 : Cond.fieldLink RX10 57 (clR 10) (clT 10 7).2.1 (clT 10 7).2.2.1 ∈ U := u_mem 403 (by decide +kernel) rfl
theorem fl_X10_64 : FL RX10 64 10 8 := ⟨by decide, by decide, Or.inl (u_mem 404 (by decide +kernel) rfl)⟩
theorem fp_X10_64 : Cond.fieldLink RX10 64 (clR 10) (clT 10 8).2.1 (clT 10 8).2.2.1 ∈ U := u_mem 404 (by decide +kernel) rfl
theorem fl_X10_71 : FL RX10 71 10 9 := ⟨by decide, by decide, Or.inl (u_mem 405 (by decide +kernel) rfl)⟩
theorem fp_X10_71 : Cond.fieldLink RX10 71 (clR 10) (clT 10 9).2.1 (clT 10 9).2.2.1 ∈ U := u_mem 405 (by decide +kernel) rfl
theorem fl_X10_75 : FL RX10 75 10 10 := ⟨by decide, by decide, Or.inl (u_mem 406 (by decide +kernel) rfl)⟩
theorem fp_X10_75 : Cond.fieldLink RX10 75 (clR 10) (clT 10 10).2.1 (clT 10 10).2.2.1 ∈ U := u_mem 406 (by decide +kernel) rfl
theorem fl_X10_78 : FL RX10 78 10 11 := ⟨by decide, by decide, Or.inl (u_mem 407 (by decide +kernel) rfl)⟩
theorem fp_X10_78 : Cond.fieldLink RX10 78 (clR 10) (clT 10 11).2.1 (clT 10 11).2.2.1 ∈ U := u_mem 407 (by decide +kernel) rfl
theorem fl_X10_105 : FL RX10 105 9 1 := ⟨by decide, by decide, Or.inr ⟨_, n_mem 34 (w := .fieldLinkNest RX10 105 (clR 9) (clT 9 1).2.1 (clT 9 1).2.2.1 "HungInStorm") (by decide +kernel) rfl⟩⟩
theorem fl_X10_114 : FL RX10 114 8 10 := ⟨by decide, by decide, Or.inr ⟨_, n_mem 257 (w := .fieldLinkNest RX10 114 (clR 8) (clT 8 10).2.1 (clT 8 10).2.2.1 "HungInStorm") (by decide +kernel) rfl⟩⟩
theorem fl_X10_125 : FL RX10 125 8 0 := ⟨by decide, by decide, Or.inr ⟨_, n_mem 229 (w := .fieldLinkNest RX10 125 (clR 8) (clT 8 0).2.1 (clT 8 0).2.2.1 "HungInStorm") (by decide +kernel) rfl⟩⟩
theorem fl_X10_129 : FL RX10 129 8 1 := ⟨by decide, by decide, Or.inr ⟨_, n_mem 232 (w := .fieldLinkNest RX10 129 (clR 8) (clT 8 1).2.1 (clT 8 1).2.2.1 "HungInStorm") (by decide +kernel) rfl⟩⟩
theorem fl_X10_139 : FL RX10 139 2 0 := ⟨by decide, by decide, Or.inr ⟨_, n_mem 101 (w := .fieldLinkNest RX10 139 (clR 2) (clT 2 0).2.1 (clT 2 0).2.2.1 "HungInStorm") (by decide +kernel) rfl⟩⟩
theorem fl_X10_143 : FL RX10 143 1 0 := ⟨by decide, by decide, Or.inr ⟨_, n_mem 73 (w := .fieldLinkNest RX10 143 (clR 1) (clT 1 0).2.1 (clT 1 0).2.2.1 "HungInStorm") (by decide +kernel) rfl⟩⟩
theorem fl_X10_149 : FL RX10 149 1 1 := ⟨by decide, by decide, Or.inr ⟨_, n_mem 76 (w := .fieldLinkNest RX10 149 (clR 1) (clT 1 1).2.1 (clT 1 1).2.2.1 "HungInStorm") (by decide +kernel) rfl⟩⟩
theorem fl_X10_152 : FL RX10 152 1 2 := ⟨by decide, by decide, Or.inr ⟨_, n_mem 78 (w := .fieldLinkNest RX10 152 (clR 1) (clT 1 2).2.1 (clT 1 2).2.2.1 "HungInStorm") (by decide +kernel) rfl⟩⟩
theorem fl_X10_155 : FL RX10 155 1 3 := ⟨by decide, by decide, Or.inr ⟨_, n_mem 81 (w := .fieldLinkNest RX10 155 (clR 1) (clT 1 3).2.1 (clT 1 3).2.2.1 "HungInStorm") (by decide +kernel) rfl⟩⟩
theorem fl_X10_170 : FL RX10 170 8 3 := ⟨by decide, by decide, Or.inr ⟨_, n_mem 240 (w := .fieldLinkNest RX10 170 (clR 8) (clT 8 3).2.1 (clT 8 3).2.2.1 "HungInStorm") (by decide +kernel) rfl⟩⟩
theorem fl_X10_176 : FL RX10 176 8 2 := ⟨by decide, by decide, Or.inr ⟨_, n_mem 236 (w := .fieldLinkNest RX10 176 (clR 8) (clT 8 2).2.1 (clT 8 2).2.2.1 "HungInStorm") (by decide +kernel) rfl⟩⟩
theorem fl_X10_187 : FL RX10 187 0 2 := ⟨by decide, by decide, Or.inr ⟨_, n_mem 119 (w := .fieldLinkNest RX10 187 (clR 0) (clT 0 2).2.1 (clT 0 2).2.2.1 "HungInStorm") (by decide +kernel) rfl⟩⟩
theorem fl_X10_190 : FL RX10 190 0 3 := ⟨by decide, by decide, Or.inr ⟨_, n_mem 121 (w := .fieldLinkNest RX10 190 (clR 0) (clT 0 3).2.1 (clT 0 3).2.2.1 "HungInStorm") (by decide +kernel) rfl⟩⟩
theorem fl_X10_192 : FL RX10 192 8 9 := ⟨by decide, by decide, Or.inr ⟨_, n_mem 254 (w := .fieldLinkNest RX10 192 (clR 8) (clT 8 9).2.1 (clT 8 9).2.2.1 "HungInStorm") (by decide +kernel) rfl⟩⟩
theorem fl_X10_215 : FL RX10 215 4 2 := ⟨by decide, by decide, Or.inr ⟨_, n_mem 141 (w := .fieldLinkNest RX10 215 (clR 4) (clT 4 2).2.1 (clT 4 2).2.2.1 "HungInStorm") (by decide +kernel) rfl⟩⟩
theorem fl_X10_219 : FL RX10 219 4 3 := ⟨by decide, by decide, Or.inr ⟨_, n_mem 143 (w := .fieldLinkNest RX10 219 (clR 4) (clT 4 3).2.1 (clT 4 3).2.2.1 "HungInStorm") (by decide +kernel) rfl⟩⟩
theorem fl_X10_222 : FL RX10 222 8 8 := ⟨by decide, by decide, Or.inr ⟨_, n_mem 250 (w := .fieldLinkNest RX10 222 (clR 8) (clT 8 8).2.1 (clT 8 8).2.2.1 "HungInStorm") (by decide +kernel) rfl⟩⟩
theorem fl_X10_236 : FL RX10 236 5 4 := ⟨by decide, by decide, Or.inr ⟨_, n_mem 198 (w := .fieldLinkNest RX10 236 (clR 5) (clT 5 4).2.1 (clT 5 4).2.2.1 "HungInStorm") (by decide +kernel) rfl⟩⟩
theorem fl_X10_239 : FL RX10 239 5 3 := ⟨by decide, by decide, Or.inr ⟨_, n_mem 194 (w := .fieldLinkNest RX10 239 (clR 5) (clT 5 3).2.1 (clT 5 3).2.2.1 "HungInStorm") (by decide +kernel) rfl⟩⟩
theorem fl_X10_244 : FL RX10 244 3 2 := ⟨by decide, by decide, Or.inr ⟨_, n_mem 162 (w := .fieldLinkNest RX10 244 (clR 3) (clT 3 2).2.1 (clT 3 2).2.2.1 "HungInStorm") (by decide +kernel) rfl⟩⟩
theorem fl_X10_257 : FL RX10 257 7 1 := ⟨by decide, by decide, Or.inr ⟨_, n_mem 213 (w := .fieldLinkNest RX10 257 (clR 7) (clT 7 1).2.1 (clT 7 1).2.2.1 "HungInStorm") (by decide +kernel) rfl⟩⟩
theorem fl_X10_261 : FL RX10 261 8 11 := ⟨by decide, by decide, Or.inr ⟨_, n_mem 259 (w := .fieldLinkNest RX10 261 (clR 8) (clT 8 11).2.1 (clT 8 11).2.2.1 "HungInStorm") (by decide +kernel) rfl⟩⟩
theorem fl_X0_9 : FL RX0 9 0 0 := ⟨by decide, by decide, Or.inl (u_mem 116 (by decide +kernel) rfl)⟩
theorem fp_X0_9 : Cond.fieldLink RX0 9 (clR 0) (clT 0 0).2.1 (clT 0 0).2.2.1 ∈ U := u_mem 116 (by decide +kernel) rfl
theorem fl_X0_15 : FL RX0 15 0 1 := ⟨by decide, by decide, Or.inl (u_mem 117 (by decide +kernel) rfl)⟩
theorem fp_X0_15 : Cond.fieldLink RX0 15 (clR 0) (clT 0 1).2.1 (clT 0 1).2.2.1 ∈ U := u_mem 117 (by decide +kernel) rfl
theorem fl_X0_22 : FL RX0 22 8 2 := ⟨by decide, by decide, Or.inr ⟨_, n_mem 234 (w := .fieldLinkNest RX0 22 (clR 8) (clT 8 2).2.1 (clT 8 2).2.2.1 "HungInStorm") (by decide +kernel) rfl⟩⟩
theorem fl_X0_28 : FL RX0 28 8 3 := ⟨by decide, by decide, Or.inr ⟨_, n_mem 238 (w := .fieldLinkNest RX0 28 (clR 8) (clT 8 3).2.1 (clT 8 3).2.2.1 "HungInStorm") (by decide +kernel) rfl⟩⟩
theorem fl_X0_35 : FL RX0 35 8 8 := ⟨by decide, by decide, Or.inr ⟨_, n_mem 249 (w := .fieldLinkNest RX0 35 (clR 8) (clT 8 8).2.1 (clT 8 8).2.2.1 "HungInStorm") (by decide +kernel) rfl⟩⟩
theorem fl_X0_39 : FL RX0 39 5 3 := ⟨by decide, by decide, Or.inr ⟨_, n_mem 191 (w := .fieldLinkNest RX0 39 (clR 5) (clT 5 3).2.1 (clT 5 3).2.2.1 "HungInStorm") (by decide +kernel) rfl⟩⟩
theorem fl_X0_50 : FL RX0 50 0 2 := ⟨by decide, by decide, Or.inl (u_mem 118 (by decide +kernel) rfl)⟩
theorem fp_X0_50 : Cond.fieldLink RX0 50 (clR 0) (clT 0 2).2.1 (clT 0 2).2.2.1 ∈ U := u_mem 118 (by decide +kernel) rfl
theorem fl_X0_58 : FL RX0 58 1 0 := ⟨by decide, by decide, Or.inr ⟨_, n_mem 72 (w := .fieldLinkNest RX0 58 (clR 1) (clT 1 0).2.1 (clT 1 0).2.2.1 "HungInStorm") (by decide +kernel) rfl⟩⟩
theorem fl_X0_61 : FL RX0 61 1 1 := ⟨by decide, by decide, Or.inr ⟨_, n_mem 75 (w := .fieldLinkNest RX0 61 (clR 1) (clT 1 1).2.1 (clT 1 1).2.2.1 "HungInStorm") (by decide +kernel) rfl⟩⟩
theorem fl_X0_68 : FL RX0 68 0 3 := ⟨by decide, by decide, Or.inl (u_mem 120 (by decide +kernel) rfl)⟩
theorem fp_X0_68 : Cond.fieldLink RX0 68 (clR 0) (clT 0 3).2.1 (clT 0 3).2.2.1 ∈ U := u_mem 120 (by decide +kernel) rfl
theorem fl_X0_70 : FL RX0 70 8 9 := ⟨by decide, by decide, Or.inr ⟨_, n_mem 253 (w := .fieldLinkNest RX0 70 (clR 8) (clT 8 9).2.1 (clT 8 9).2.2.1 "HungInStorm") (by decide +kernel) rfl⟩⟩
theorem fl_X0_80 : FL RX0 80 8 4 := ⟨by decide, by decide, Or.inr ⟨_, n_mem 243 (w := .fieldLinkNest RX0 80 (clR 8) (clT 8 4).2.1 (clT 8 4).2.2.1 "HungInStorm") (by decide +kernel) rfl⟩⟩
theorem fl_X0_100 : FL RX0 100 8 0 := ⟨by decide, by decide, Or.inr ⟨_, n_mem 230 (w := .fieldLinkNest RX0 100 (clR 8) (clT 8 0).2.1 (clT 8 0).2.2.1 "HungInStorm") (by decide +kernel) rfl⟩⟩
theorem fl_X1_9 : FL RX1 9 1 0 := ⟨by decide, by decide, Or.inl (u_mem 71 (by decide +kernel) rfl)⟩
theorem fp_X1_9 : Cond.fieldLink RX1 9 (clR 1) (clT 1 0).2.1 (clT 1 0).2.2.1 ∈ U := u_mem 71 (by decide +kernel) rfl
theorem fl_X1_15 : FL RX1 15 1 1 := ⟨by decide, by decide, Or.inl (u_mem 74 (by decide +kernel) rfl)⟩
theorem fp_X1_15 : Cond.fieldLink RX1 15 (clR 1) (clT 1 1).2.1 (clT 1 1).2.2.1 ∈ U := u_mem 74 (by decide +kernel) rfl
theorem fl_X1_18 : FL RX1 18 1 2 := ⟨by decide, by decide, Or.inl (u_mem 77 (by decide +kernel) rfl)⟩
theorem fp_X1_18 : Cond.fieldLink RX1 18 (clR 1) (clT 1 2).2.1 (clT 1 2).2.2.1 ∈ U := u_mem 77 (by decide +kernel) rfl
theorem fl_X1_21 : FL RX1 21 1 3 := ⟨by decide, by decide, Or.inl (u_mem 79 (by decide +kernel) rfl)⟩
theorem fp_X1_21 : Cond.fieldLink RX1 21 (clR 1) (clT 1 3).2.1 (clT 1 3).2.2.1 ∈ U := u_mem 79 (by decide +kernel) rfl
theorem fl_X1_25 : FL RX1 25 1 4 := ⟨by decide, by decide, Or.inl (u_mem 82 (by decide +kernel) rfl)⟩
theorem fp_X1_25 : Cond.fieldLink RX1 25 (clR 1) (clT 1 4).2.1 (clT 1 4).2.2.1 ∈ U := u_mem 82 (by decide +kernel) rfl
theorem fl_X1_28 : FL RX1 28 1 5 := ⟨by decide, by decide, Or.inl (u_mem 83 (by decide +kernel) rfl)⟩
theorem fp_X1_28 : Cond.fieldLink RX1 28 (clR 1) (clT 1 5).2.1 (clT 1 5).2.2.1 ∈ U := u_mem 83 (by decide +kernel) rfl
theorem fl_X1_31 : FL RX1 31 8 8 := ⟨by decide, by decide, Or.inr ⟨_, n_mem 248 (w := .fieldLinkNest RX1 31 (clR 8) (clT 8 8).2.1 (clT 8 8).2.2.1 "HungInStorm") (by decide +kernel) rfl⟩⟩
theorem fl_X1_37 : FL RX1 37 5 3 := ⟨by decide, by decide, Or.inr ⟨_, n_mem 190 (w := .fieldLinkNest RX1 37 (clR 5) (clT 5 3).2.1 (clT 5 3).2.2.1 "HungInStorm") (by decide +kernel) rfl⟩⟩
theorem fl_X1_40 : FL RX1 40 1 6 := ⟨by decide, by decide, Or.inl (u_mem 84 (by decide +kernel) rfl)⟩
theorem fp_X1_40 : Cond.fieldLink RX1 40 (clR 1) (clT 1 6).2.1 (clT 1 6).2.2.1 ∈ U := u_mem 84 (by decide +kernel) rfl
theorem fl_X1_57 : FL RX1 57 5 4 := ⟨by decide, by decide, Or.inr ⟨_, n_mem 197 (w := .fieldLinkNest RX1 57 (clR 5) (clT 5 4).2.1 (clT 5 4).2.2.1 "HungInStorm") (by decide +kernel) rfl⟩⟩
theorem fl_X1_60 : FL RX1 60 5 0 := ⟨by decide, by decide, Or.inr ⟨_, n_mem 184 (w := .fieldLinkNest RX1 60 (clR 5) (clT 5 0).2.1 (clT 5 0).2.2.1 "HungInStorm") (by decide +kernel) rfl⟩⟩
theorem fl_X1_63 : FL RX1 63 5 1 := ⟨by decide, by decide, Or.inr ⟨_, n_mem 186 (w := .fieldLinkNest RX1 63 (clR 5) (clT 5 1).2.1 (clT 5 1).2.2.1 "HungInStorm") (by decide +kernel) rfl⟩⟩
theorem fl_X1_66 : FL RX1 66 5 2 := ⟨by decide, by decide, Or.inr ⟨_, n_mem 188 (w := .fieldLinkNest RX1 66 (clR 5) (clT 5 2).2.1 (clT 5 2).2.2.1 "HungInStorm") (by decide +kernel) rfl⟩⟩
theorem fl_X1_76 : FL RX1 76 8 9 := ⟨by decide, by decide, Or.inr ⟨_, n_mem 252 (w := .fieldLinkNest RX1 76 (clR 8) (clT 8 9).2.1 (clT 8 9).2.2.1 "HungInStorm") (by decide +kernel) rfl⟩⟩
theorem fl_X1_79 : FL RX1 79 8 4 := ⟨by decide, by decide, Or.inr ⟨_, n_mem 242 (w := .fieldLinkNest RX1 79 (clR 8) (clT 8 4).2.1 (clT 8 4).2.2.1 "HungInStorm") (by decide +kernel) rfl⟩⟩
theorem fl_X1_82 : FL RX1 82 8 0 := ⟨by decide, by decide, Or.inr ⟨_, n_mem 228 (w := .fieldLinkNest RX1 82 (clR 8) (clT 8 0).2.1 (clT 8 0).2.2.1 "HungInStorm") (by decide +kernel) rfl⟩⟩
theorem fl_X2_11 : FL RX2 11 2 0 := ⟨by decide, by decide, Or.inl (u_mem 100 (by decide +kernel) rfl)⟩
theorem fp_X2_11 : Cond.fieldLink RX2 11 (clR 2) (clT 2 0).2.1 (clT 2 0).2.2.1 ∈ U := u_mem 100 (by decide +kernel) rfl
theorem fl_X2_18 : FL RX2 18 8 10 := ⟨by decide, by decide, Or.inr ⟨_, n_mem 255 (w := .fieldLinkNest RX2 18 (clR 8) (clT 8 10).2.1 (clT 8 10).2.2.1 "HungInStorm") (by decide +kernel) rfl⟩⟩
theorem fl_X2_24 : FL RX2 24 2 1 := ⟨by decide, by decide, Or.inl (u_mem 102 (by decide +kernel) rfl)⟩
theorem fp_X2_24 : Cond.fieldLink RX2 24 (clR 2) (clT 2 1).2.1 (clT 2 1).2.2.1 ∈ U := u_mem 102 (by decide +kernel) rfl
theorem fl_X2_27 : FL RX2 27 8 2 := ⟨by decide, by decide, Or.inr ⟨_, n_mem 235 (w := .fieldLinkNest RX2 27 (clR 8) (clT 8 2).2.1 (clT 8 2).2.2.1 "HungInStorm") (by decide +kernel) rfl⟩⟩
theorem fl_X2_31 : FL RX2 31 8 3 := ⟨by decide, by decide, Or.inr ⟨_, n_mem 239 (w := .fieldLinkNest RX2 31 (clR 8) (clT 8 3).2.1 (clT 8 3).2.2.1 "HungInStorm") (by decide +kernel) rfl⟩⟩
theorem fl_X2_54 : FL RX2 54 1 3 := ⟨by decide, by decide, Or.inr ⟨_, n_mem 80 (w := .fieldLinkNest RX2 54 (clR 1) (clT 1 3).2.1 (clT 1 3).2.2.1 "HungInStorm") (by decide +kernel) rfl⟩⟩
theorem fl_X3_9 : FL RX3 9 3 0 := ⟨by decide, by decide, Or.inl (u_mem 159 (by decide +kernel) rfl)⟩
theorem fp_X3_9 : Cond.fieldLink RX3 9 (clR 3) (clT 3 0).2.1 (clT 3 0).2.2.1 ∈ U := u_mem 159 (by decide +kernel) rfl
theorem fl_X3_15 : FL RX3 15 3 1 := ⟨by decide, by decide, Or.inl (u_mem 160 (by decide +kernel) rfl)⟩
theorem fp_X3_15 : Cond.fieldLink RX3 15 (clR 3) (clT 3 1).2.1 (clT 3 1).2.2.1 ∈ U := u_mem 160 (by decide +kernel) rfl
theorem fl_X3_18 : FL RX3 18 3 2 := ⟨by decide, by decide, Or.inl (u_mem 161 (by decide +kernel) rfl)⟩
theorem fp_X3_18 : Cond.fieldLink RX3 18 (clR 3) (clT 3 2).2.1 (clT 3 2).2.2.1 ∈ U := u_mem 161 (by decide +kernel) rfl
theorem fl_X3_30 : FL RX3 30 5 3 := ⟨by decide, by decide, Or.inr ⟨_, n_mem 193 (w := .fieldLinkNest RX3 30 (clR 5) (clT 5 3).2.1 (clT 5 3).2.2.1 "HungInStorm") (by decide +kernel) rfl⟩⟩
theorem fl_X4_9 : FL RX4 9 4 0 := ⟨by decide, by decide, Or.inl (u_mem 138 (by decide +kernel) rfl)⟩
theorem fp_X4_9 : Cond.fieldLink RX4 9 (clR 4) (clT 4 0).2.1 (clT 4 0).2.2.1 ∈ U := u_mem 138 (by decide +kernel) rfl
theorem fl_X4_15 : FL RX4 15 4 1 := ⟨by decide, by decide, Or.inl (u_mem 139 (by decide +kernel) rfl)⟩
theorem fp_X4_15 : Cond.fieldLink RX4 15 (clR 4) (clT 4 1).2.1 (clT 4 1).2.2.1 ∈ U := u_mem 139 (by decide +kernel) rfl
theorem fl_X4_18 : FL RX4 18 4 3 := ⟨by decide, by decide, Or.inl (u_mem 142 (by decide +kernel) rfl)⟩
theorem fp_X4_18 : Cond.fieldLink RX4 18 (clR 4) (clT 4 3).2.1 (clT 4 3).2.2.1 ∈ U := u_mem 142 (by decide +kernel) rfl
theorem fl_X4_28 : FL RX4 28 4 2 := ⟨by decide, by decide, Or.inl (u_mem 140 (by decide +kernel) rfl)⟩
theorem fp_X4_28 : Cond.fieldLink RX4 28 (clR 4) (clT 4 2).2.1 (clT 4 2).2.2.1 ∈ U := u_mem 140 (by decide +kernel) rfl
theorem fl_X5_9 : FL RX5 9 5 0 := ⟨by decide, by decide, Or.inl (u_mem 183 (by decide +kernel) rfl)⟩
theorem fp_X5_9 : Cond.fieldLink RX5 9 (clR 5) (clT 5 0).2.1 (clT 5 0).2.2.1 ∈ U := u_mem 183 (by decide +kernel) rfl
theorem fl_X5_15 : FL RX5 15 5 1 := ⟨by decide, by decide, Or.inl (u_mem 185 (by decide +kernel) rfl)⟩
theorem fp_X5_15 : Cond.fieldLink RX5 15 (clR 5) (clT 5 1).2.1 (clT 5 1).2.2.1 ∈ U := u_mem 185 (by decide +kernel) rfl
theorem fl_X5_18 : FL RX5 18 5 2 := ⟨by decide, by decide, Or.inl (u_mem 187 (by decide +kernel) rfl)⟩
theorem fp_X5_18 : Cond.fieldLink RX5 18 (clR 5) (clT 5 2).2.1 (clT 5 2).2.2.1 ∈ U := u_mem 187 (by decide +kernel) rfl
theorem fl_X5_22 : FL RX5 22 5 3 := ⟨by decide, by decide, Or.inl (u_mem 189 (by decide +kernel) rfl)⟩
theorem fp_X5_22 : Cond.fieldLink RX5 22 (clR 5) (clT 5 3).2.1 (clT 5 3).2.2.1 ∈ U := u_mem 189 (by decide +kernel) rfl
theorem fl_X5_25 : FL RX5 25 5 4 := ⟨by decide, by decide, Or.inl (u_mem 195 (by decide +kernel) rfl)⟩
theorem fp_X5_25 : Cond.fieldLink RX5 25 (clR 5) (clT 5 4).2.1 (clT 5 4).2.2.1 ∈ U := u_mem 195 (by decide +kernel) rfl
theorem fl_X6_9 : FL RX6 9 6 0 := ⟨by decide, by decide, Or.inl (u_mem 48 (by decide +kernel) rfl)⟩
theorem fp_X6_9 : Cond.fieldLink RX6 9 (clR 6) (clT 6 0).2.1 (clT 6 0).2.2.1 ∈ U := u_mem 48 (by decide +kernel) rfl
theorem fl_X6_20 : FL RX6 20 6 2 := ⟨by decide, by decide, Or.inl (u_mem 50 (by decide +kernel) rfl)⟩
theorem fp_X6_20 : Cond.fieldLink RX6 20 (clR 6) (clT 6 2).2.1 (clT 6 2).2.2.1 ∈ U := u_mem 50 (by decide +kernel) rfl
theorem fl_X6_24 : FL RX6 24 9 1 := ⟨by decide, by decide, Or.inr ⟨_, n_mem 35 (w := .fieldLinkNest RX6 24 (clR 9) (clT 9 1).2.1 (clT 9 1).2.2.1 "HungInStorm") (by decide +kernel) rfl⟩⟩
theorem fl_X6_41 : FL RX6 41 6 1 := ⟨by decide, by decide, Or.inl (u_mem 49 (by decide +kernel) rfl)⟩
theorem fp_X6_41 : Cond.fieldLink RX6 41 (clR 6) (clT 6 1).2.1 (clT 6 1).2.2.1 ∈ U := u_mem 49 (by decide +kernel) rfl
theorem fl_X7_11 : FL RX7 11 7 0 := ⟨by decide, by decide, Or.inl (u_mem 211 (by decide +kernel) rfl)⟩
theorem fp_X7_11 : Cond.fieldLink RX7 11 (clR 7) (clT 7 0).2.1 (clT 7 0).2.2.1 ∈ U := u_mem 211 (by decide +kernel) rfl
theorem fl_X7_18 : FL RX7 18 7 1 := ⟨by decide, by decide, Or.inl (u_mem 212 (by decide +kernel) rfl)⟩
theorem fp_X7_18 : Cond.fieldLink RX7 18 (clR 7) (clT 7 1).2.1 (clT 7 1).2.2.1 ∈ U := u_mem 212 (by decide +kernel) rfl
theorem fl_X8_9 : FL RX8 9 8 0 := ⟨by decide, by decide, Or.inl (u_mem 227 (by decide +kernel) rfl)⟩
theorem fp_X8_9 : Cond.fieldLink RX8 9 (clR 8) (clT 8 0).2.1 (clT 8 0).2.2.1 ∈ U := u_mem 227 (by decide +kernel) rfl
theorem fl_X8_15 : FL RX8 15 8 1 := ⟨by decide, by decide, Or.inl (u_mem 231 (by decide +kernel) rfl)⟩
theorem fp_X8_15 : Cond.fieldLink RX8 15 (clR 8) (clT 8 1).2.1 (clT 8 1).2.2.1 ∈ U := u_mem 231 (by decide +kernel) rfl
theorem fl_X8_18 : FL RX8 18 8 2 := ⟨by decide, by decide, Or.inl (u_mem 233 (by decide +kernel) rfl)⟩
theorem fp_X8_18 : Cond.fieldLink RX8 18 (clR 8) (clT 8 2).2.1 (clT 8 2).2.2.1 ∈ U := u_mem 233 (by decide +kernel) rfl
theorem fl_X8_21 : FL RX8 21 8 3 := ⟨by decide, by decide, Or.inl (u_mem 237 (by decide +kernel) rfl)⟩
theorem fp_X8_21 : Cond.fieldLink RX8 21 (clR 8) (clT 8 3).2.1 (clT 8 3).2.2.1 ∈ U := u_mem 237 (by decide +kernel) rfl
theorem fl_X8_24 : FL RX8 24 8 4 := ⟨by decide, by decide, Or.inl (u_mem 241 (by decide +kernel) rfl)⟩
theorem fp_X8_24 : Cond.fieldLink RX8 24 (clR 8) (clT 8 4).2.1 (clT 8 4).2.2.1 ∈ U := u_mem 241 (by decide +kernel) rfl
theorem fl_X8_27 : FL RX8 27 8 5 := ⟨by decide, by decide, Or.inl (u_mem 244 (by decide +kernel) rfl)⟩
theorem fp_X8_27 : Cond.fieldLink RX8 27 (clR 8) (clT 8 5).2.1 (clT 8 5).2.2.1 ∈ U := u_mem 244 (by decide +kernel) rfl
theorem fl_X8_30 : FL RX8 30 8 6 := ⟨by decide, by decide, Or.inl (u_mem 245 (by decide +kernel) rfl)⟩
theorem fp_X8_30 : Cond.fieldLink RX8 30 (clR 8) (clT 8 6).2.1 (clT 8 6).2.2.1 ∈ U := u_mem 245 (by decide +kernel) rfl
theorem fl_X8_33 : FL RX8 33 8 7 := ⟨by decide, by decide, Or.inl (u_mem 246 (by decide +kernel) rfl)⟩
theorem fp_X8_33 : Cond.fieldLink RX8 33 (clR 8) (clT 8 7).2.1 (clT 8 7).2.2.1 ∈ U := u_mem 246 (by decide +kernel) rfl
theorem fl_X8_39 : FL RX8 39 8 8 := ⟨by decide, by decide, Or.inl (u_mem 247 (by decide +kernel) rfl)⟩
theorem fp_X8_39 : Cond.fieldLink RX8 39 (clR 8) (clT 8 8).2.1 (clT 8 8).2.2.1 ∈ U := u_mem 247 (by decide +kernel) rfl
theorem fl_X8_43 : FL RX8 43 8 9 := ⟨by decide, by decide, Or.inl (u_mem 251 (by decide +kernel) rfl)⟩
theorem fp_X8_43 : Cond.fieldLink RX8 43 (clR 8) (clT 8 9).2.1 (clT 8 9).2.2.1 ∈ U := u_mem 251 (by decide +kernel) rfl
theorem fl_X8_47 : FL RX8 47 8 10 := ⟨by decide, by decide, Or.inl (u_mem 256 (by decide +kernel) rfl)⟩
theorem fp_X8_47 : Cond.fieldLink RX8 47 (clR 8) (clT 8 10).2.1 (clT 8 10).2.2.1 ∈ U := u_mem 256 (by decide +kernel) rfl
theorem fl_X8_50 : FL RX8 50 8 11 := ⟨by decide, by decide, Or.inl (u_mem 258 (by decide +kernel) rfl)⟩
theorem fp_X8_50 : Cond.fieldLink RX8 50 (clR 8) (clT 8 11).2.1 (clT 8 11).2.2.1 ∈ U := u_mem 258 (by decide +kernel) rfl
theorem fl_X8_53 : FL RX8 53 5 4 := ⟨by decide, by decide, Or.inr ⟨_, n_mem 196 (w := .fieldLinkNest RX8 53 (clR 5) (clT 5 4).2.1 (clT 5 4).2.2.1 "HungInStorm") (by decide +kernel) rfl⟩⟩
theorem fl_X8_64 : FL RX8 64 5 3 := ⟨by decide, by decide, Or.inr ⟨_, n_mem 192 (w := .fieldLinkNest RX8 64 (clR 5) (clT 5 3).2.1 (clT 5 3).2.2.1 "HungInStorm") (by decide +kernel) rfl⟩⟩
theorem fl_X9_9 : FL RX9 9 9 0 := ⟨by decide, by decide, Or.inl (u_mem 32 (by decide +kernel) rfl)⟩
theorem fp_X9_9 : Cond.fieldLink RX9 9 (clR 9) (clT 9 0).2.1 (clT 9 0).2.2.1 ∈ U := u_mem 32 (by decide +kernel) rfl
theorem fl_X9_15 : FL RX9 15 9 1 := ⟨by decide, by decide, Or.inl (u_mem 33 (by decide +kernel) rfl)⟩
theorem fp_X9_15 : Cond.fieldLink RX9 15 (clR 9) (clT 9 1).2.1 (clT 9 1).2.2.1 ∈ U := u_mem 33 (by decide +kernel) rfl
theorem fl_X11_7 : FL RX11 7 11 1 := ⟨by decide, by decide, Or.inl (u_mem 732 (by decide +kernel) rfl)⟩
theorem fp_X11_7 : Cond.fieldLink RX11 7 (clR 11) (clT 11 1).2.1 (clT 11 1).2.2.1 ∈ U := u_mem 732 (by decide +kernel) rfl
theorem fl_X11_13 : FL RX11 13 11 2 := ⟨by decide, by decide, Or.inl (u_mem 733 (by decide +kernel) rfl)⟩
theorem fp_X11_13 : Cond.fieldLink RX11 13 (clR 11) (clT 11 2).2.1 (clT 11 2).2.2.1 ∈ U := u_mem 733 (by decide +kernel) rfl
theorem fl_X11_16 : FL RX11 16 11 3 := ⟨by decide, by decide, Or.inl (u_mem 734 (by decide +kernel) rfl)⟩
theorem fp_X11_16 : Cond.fieldLink RX11 16 (clR 11) (clT 11 3).2.1 (clT 11 3).2.2.1 ∈ U := u_mem 734 (by decide +kernel) rfl
theorem fl_X11_19 : FL RX11 19 11 4 := ⟨by decide, by decide, Or.inl (u_mem 735 (by decide +kernel) rfl)⟩
theorem fp_X11_19 : Cond.fieldLink RX11 19 (clR 11) (clT 11 4).2.1 (clT 11 4).2.2.1 ∈ U := u_mem 735 (by decide +kernel) rfl
theorem fl_X11_22 : FL RX11 22 11 5 := ⟨by decide, by decide, Or.inl (u_mem 736 (by decide +kernel) rfl)⟩
theorem fp_X11_22 : Cond.fieldLink RX11 22 (clR 11) (clT 11 5).2.1 (clT 11 5).2.2.1 ∈ U := u_mem 736 (by decide +kernel) rfl
theorem fl_X11_25 : FL RX11 25 11 6 := ⟨by decide, by decide, Or.inl (u_mem 737 (by decide +kernel) rfl)⟩
theorem fp_X11_25 : Cond.fieldLink RX11 25 (clR 11) (clT 11 6).2.1 (clT 11 6).2.2.1 ∈ U := u_mem 737 (by decide +kernel) rfl
theorem fl_X11_28 : FL RX11 28 11 7 := ⟨by decide, by decide, Or.inl (u_mem 738 (by decide +kernel) rfl)⟩
theorem fp_X11_28 : Cond.fieldLink RX11 28 (clR 11) (clT 11 7).2.1 (clT 11 7).2.2.1 ∈ U := u_mem 738 (by decide +kernel) rfl
theorem fl_X11_31 : FL RX11 31 11 8 := ⟨by decide, by decide, Or.inl (u_mem 739 (by decide +kernel) rfl)⟩
theorem fp_X11_31 : Cond.fieldLink RX11 31 (clR 11) (clT 11 8).2.1 (clT 11 8).2.2.1 ∈ U := u_mem 739 (by decide +kernel) rfl
theorem fl_X11_34 : FL RX11 34 11 9 := ⟨by decide, by decide, Or.inl (u_mem 740 (by decide +kernel) rfl)⟩
theorem fp_X11_34 : Cond.fieldLink RX11 34 (clR 11) (clT 11 9).2.1 (clT 11 9).2.2.1 ∈ U := u_mem 740 (by decide +kernel) rfl
theorem fl_X11_37 : FL RX11 37 11 10 := ⟨by decide, by decide, Or.inl (u_mem 741 (by decide +kernel) rfl)⟩
theorem fp_X11_37 : Cond.fieldLink RX11 37 (clR 11) (clT 11 10).2.1 (clT 11 10).2.2.1 ∈ U := u_mem 741 (by decide +kernel) rfl
theorem fl_X11_40 : FL RX11 40 11 11 := ⟨by decide, by decide, Or.inl (u_mem 742 (by decide +kernel) rfl)⟩
theorem fp_X11_40 : Cond.fieldLink RX11 40 (clR 11) (clT 11 11).2.1 (clT 11 11).2.2.1 ∈ U := u_mem 742 (by decide +kernel) rfl
theorem fl_X11_43 : FL RX11 43 11 12 := ⟨by decide, by decide, Or.inl (u_mem 743 (by decide +kernel) rfl)⟩
theorem fp_X11_43 : Cond.fieldLink RX11 43 (clR 11) (clT 11 12).2.1 (clT 11 12).2.2.1 ∈ U := u_mem 743 (by decide +kernel) rfl
theorem fl_X11_46 : FL RX11 46 11 13 := ⟨by decide, by decide, Or.inl (u_mem 744 (by decide +kernel) rfl)⟩
theorem fp_X11_46 : Cond.fieldLink RX11 46 (clR 11) (clT 11 13).2.1 (clT 11 13).2.2.1 ∈ U := u_mem 744 (by decide +kernel) rfl
theorem fl_X11_49 : FL RX11 49 11 14 := ⟨by decide, by decide, Or.inl (u_mem 745 (by decide +kernel) rfl)⟩
theorem fp_X11_49 : Cond.fieldLink RX11 49 (clR 11) (clT 11 14).2.1 (clT 11 14).2.2.1 ∈ U := u_mem 745 (by decide +kernel) rfl
theorem fl_X11_52 : FL RX11 52 11 15 := ⟨by decide, by decide, Or.inl (u_mem 746 (by decide +kernel) rfl)⟩
theorem fp_X11_52 : Cond.fieldLink RX11 52 (clR 11) (clT 11 15).2.1 (clT 11 15).2.2.1 ∈ U := u_mem 746 (by decide +kernel) rfl
theorem fl_X11_55 : FL RX11 55 11 16 := ⟨by decide, by decide, Or.inl (u_mem 747 (by decide +kernel) rfl)⟩
theorem fp_X11_55 : Cond.fieldLink RX11 55 (clR 11) (clT 11 16).2.1 (clT 11 16).2.2.1 ∈ U := u_mem 747 (by decide +kernel) rfl
theorem fl_X11_58 : FL RX11 58 11 17 := ⟨by decide, by decide, Or.inl (u_mem 748 (by decide +kernel) rfl)⟩
theorem fp_X11_58 : Cond.fieldLink RX11 58 (clR 11) (clT 11 17).2.1 (clT 11 17).2.2.1 ∈ U := u_mem 748 (by decide +kernel) rfl
theorem fl_X11_61 : FL RX11 61 11 20 := ⟨by decide, by decide, Or.inl (u_mem 751 (by decide +kernel) rfl)⟩
theorem fp_X11_61 : Cond.fieldLink RX11 61 (clR 11) (clT 11 20).2.1 (clT 11 20).2.2.1 ∈ U := u_mem 751 (by decide +kernel) rfl
theorem fl_X11_64 : FL RX11 64 11 22 := ⟨by decide, by decide, Or.inl (u_mem 753 (by decide +kernel) rfl)⟩
theorem fp_X11_64 : Cond.fieldLink RX11 64 (clR 11) (clT 11 22).2.1 (clT 11 22).2.2.1 ∈ U := u_mem 753 (by decide +kernel) rfl
theorem fl_X11_67 : FL RX11 67 11 23 := ⟨by decide, by decide, Or.inl (u_mem 754 (by decide +kernel) rfl)⟩
theorem fp_X11_67 : Cond.fieldLink RX11 67 (clR 11) (clT 11 23).2.1 (clT 11 23).2.2.1 ∈ U := u_mem 754 (by decide +kernel) rfl
theorem fl_X11_70 : FL RX11 70 11 24 := ⟨by decide, by decide, Or.inl (u_mem 755 (by decide +kernel) rfl)⟩
theorem fp_X11_70 : Cond.fieldLink RX11 70 (clR 11) (clT 11 24).2.1 (clT 11 24).2.2.1 ∈ U := u_mem 755 (by decide +kernel) rfl
theorem fl_X11_73 : FL RX11 73 11 25 := ⟨by decide, by decide, Or.inl (u_mem 756 (by decide +kernel) rfl)⟩
theorem fp_X11_73 : Cond.fieldLink RX11 73 (clR 11) (clT 11 25).2.1 (clT 11 25).2.2.1 ∈ U := u_mem 756 (by decide +kernel) rfl
theorem fl_X11_76 : FL RX11 76 11 26 := ⟨by decide, by decide, Or.inl (u_mem 757 (by decide +kernel) rfl)⟩
theorem fp_X11_76 : Cond.fieldLink RX11 76 (clR 11) (clT 11 26).2.1 (clT 11 26).2.2.1 ∈ U := u_mem 757 (by decide +kernel) rfl
theorem fl_X11_79 : FL RX11 79 11 28 := ⟨by decide, by decide, Or.inl (u_mem 759 (by decide +kernel) rfl)⟩
theorem fp_X11_79 : Cond.fieldLink RX11 79 (clR 11) (clT 11 28).2.1 (clT 11 28).2.2.1 ∈ U := u_mem 759 (by decide +kernel) rfl
theorem fl_X11_83 : FL RX11 83 11 29 := ⟨by decide, by decide, Or.inl (u_mem 760 (by decide +kernel) rfl)⟩
theorem fp_X11_83 : Cond.fieldLink RX11 83 (clR 11) (clT 11 29).2.1 (clT 11 29).2.2.1 ∈ U := u_mem 760 (by decide +kernel) rfl
theorem fl_X11_86 : FL RX11 86 11 30 := ⟨by decide, by decide, Or.inl (u_mem 761 (by decide +kernel) rfl)⟩
theorem fp_X11_86 : Cond.fieldLink RX11 86 (clR 11) (clT 11 30).2.1 (clT 11 30).2.2.1 ∈ U := u_mem 761 (by decide +kernel) rfl
theorem fl_X11_89 : FL RX11 89 11 31 := ⟨by decide, by decide, Or.inl (u_mem 762 (by decide +kernel) rfl)⟩
theorem fp_X11_89 : Cond.fieldLink RX11 89 (clR 11) (clT 11 31).2.1 (clT 11 31).2.2.1 ∈ U := u_mem 762 (by decide +kernel) rfl
theorem fl_X11_92 : FL RX11 92 11 32 := ⟨by decide, by decide, Or.inl (u_mem 763 (by decide +kernel) rfl)⟩
theorem fp_X11_92 : Cond.fieldLink RX11 92 (clR 11) (clT 11 32).2.1 (clT 11 32).2.2.1 ∈ U := u_mem 763 (by decide +kernel) rfl
theorem fl_X11_101 : FL RX11 101 11 0 := ⟨by decide, by decide, Or.inl (u_mem 731 (by decide +kernel) rfl)⟩
theorem fp_X11_101 : Cond.fieldLink RX11 101 (clR 11) (clT 11 0).2.1 (clT 11 0).2.2.1 ∈ U := u_mem 731 (by decide +kernel) rfl
theorem fl_X11_107 : FL RX11 107 11 21 := ⟨by decide, by decide, Or.inl (u_mem 752 (by decide +kernel) rfl)⟩
theorem fp_X11_107 : Cond.fieldLink RX11 107 (clR 11) (clT 11 21).2.1 (clT 11 21).2.2.1 ∈ U := u_mem 752 (by decide +kernel) rfl
theorem fl_X11_150 : FL RX11 150 11 18 := ⟨by decide, by decide, Or.inl (u_mem 749 (by decide +kernel) rfl)⟩
theorem fp_X11_150 : Cond.fieldLink RX11 150 (clR 11) (clT 11 18).2.1 (clT 11 18).2.2.1 ∈ U := u_mem 749 (by decide +kernel) rfl
theorem fl_X11_153 : FL RX11 153 11 19 := ⟨by decide, by decide, Or.inl (u_mem 750 (by decide +kernel) rfl)⟩
theorem fp_X11_153 : Cond.fieldLink RX11 153 (clR 11) (clT 11 19).2.1 (clT 11 19).2.2.1 ∈ U := u_mem 750 (by decide +kernel) rfl
theorem fl_X11_159 : FL RX11 159 11 27 := ⟨by decide, by decide, Or.inl (u_mem 758 (by decide +kernel) rfl)⟩
theorem fp_X11_159 : Cond.fieldLink RX11 159 (clR 11) (clT 11 27).2.1 (clT 11 27).2.2.1 ∈ U := u_mem 758 (by decide +kernel) rfl
/-! method links -/
def LK (own : String) (idx : Nat) (y : MethodName) : Prop := Cond.methodLink own idx y ∈ U ∨ ∃ host : String, Cond.methodLinkNest own idx y host ∈ NWL
theorem lk_X10_1 : LK RX10 1 objectInit := Or.inl (u_mem 23 (by decide +kernel) rfl)
theorem lp_X10_1 : Cond.methodLink RX10 1 objectInit ∈ U := u_mem 23 (by decide +kernel) rfl
theorem lk_X10_9 : LK RX10 9 yX9_init := Or.inr ⟨_, n_mem 28 (w := .methodLinkNest RX10 9 yX9_init "HungInStorm") (by decide +kernel) rfl⟩
theorem lk_X10_18 : LK RX10 18 yX6_init := Or.inr ⟨_, n_mem 44 (w := .methodLinkNest RX10 18 yX6_init "HungInStorm") (by decide +kernel) rfl⟩
theorem lk_X10_25 : LK RX10 25 yX2_init := Or.inl (u_mem 60 (by decide +kernel) rfl)
theorem lk_X10_35 : LK RX10 35 yX1_init := Or.inr ⟨_, n_mem 109 (w := .methodLinkNest RX10 35 yX1_init "HungInStorm") (by decide +kernel) rfl⟩
theorem lk_X10_42 : LK RX10 42 yX0_init := Or.inr ⟨_, n_mem 112 (w := .methodLinkNest RX10 42 yX0_init "HungInStorm") (by decide +kernel) rfl⟩
theorem lk_X10_49 : LK RX10 49 yX4_init := Or.inr ⟨_, n_mem 134 (w := .methodLinkNest RX10 49 yX4_init "HungInStorm") (by decide +kernel) rfl⟩
theorem lk_X10_56 : LK RX10 56 yX3_init := Or.inr ⟨_, n_mem 155 (w := .methodLinkNest RX10 56 yX3_init "HungInStorm") (by decide +kernel) rfl⟩
theorem lk_X10_63 : LK RX10 63 yX7_init := Or.inl (u_mem 172 (by decide +kernel) rfl)
theorem lk_X10_70 : LK RX10 70 yX8_init := Or.inr ⟨_, n_mem 221 (w := .methodLinkNest RX10 70 yX8_init "HungInStorm") (by decide +kernel) rfl⟩
theorem lk_X10_84 : LK RX10 84 yJ0_length_8abf5 := Or.inl (u_mem 286 (by decide +kernel) rfl)
theorem lk_X10_90 : LK RX10 90 yJ0_charAt_5068e := Or.inl (u_mem 296 (by decide +kernel) rfl)
theorem lk_X10_94 : LK RX10 94 yX9_append := Or.inl (u_mem 334 (by decide +kernel) rfl)
theorem lk_X10_98 : LK RX10 98 yX6_read := Or.inl (u_mem 338 (by decide +kernel) rfl)
theorem lk_X10_102 : LK RX10 102 yX9_clear := Or.inl (u_mem 392 (by decide +kernel) rfl)
theorem lk_X10_108 : LK RX10 108 yX8_isWhole := Or.inl (u_mem 450 (by decide +kernel) rfl)
theorem lk_X10_112 : LK RX10 112 yX3_clear := Or.inl (u_mem 454 (by decide +kernel) rfl)
theorem lk_X10_113 : LK RX10 113 yX7_clear := Or.inl (u_mem 458 (by decide +kernel) rfl)
theorem lk_X10_117 : LK RX10 117 yX10_isLevel := Or.inl (u_mem 466 (by decide +kernel) rfl)
theorem lk_X10_121 : LK RX10 121 yX10_isWithin := Or.inl (u_mem 379 (by decide +kernel) rfl)
theorem lk_X10_132 : LK RX10 132 yX10_isTown := Or.inl (u_mem 474 (by decide +kernel) rfl)
theorem lk_X10_135 : LK RX10 135 yX10_followed := Or.inl (u_mem 478 (by decide +kernel) rfl)
theorem lk_X10_146 : LK RX10 146 yX1_floats := Or.inl (u_mem 520 (by decide +kernel) rfl)
theorem lk_X10_158 : LK RX10 158 yX10_areTwoTowns := Or.inl (u_mem 532 (by decide +kernel) rfl)
theorem lk_X10_162 : LK RX10 162 yX1_meets := Or.inl (u_mem 536 (by decide +kernel) rfl)
theorem lk_X10_166 : LK RX10 166 yX2_allMarkets := Or.inl (u_mem 545 (by decide +kernel) rfl)
theorem lk_X10_173 : LK RX10 173 yX10_round := Or.inl (u_mem 558 (by decide +kernel) rfl)
theorem lk_X10_179 : LK RX10 179 yX10_firstDayOf := Or.inl (u_mem 559 (by decide +kernel) rfl)
theorem lk_X10_183 : LK RX10 183 yX0_hunt := Or.inl (u_mem 566 (by decide +kernel) rfl)
theorem lk_X10_195 : LK RX10 195 yX1_follow := Or.inl (u_mem 607 (by decide +kernel) rfl)
theorem lk_X10_199 : LK RX10 199 yX2_marketsWith := Or.inl (u_mem 612 (by decide +kernel) rfl)
theorem lk_X10_203 : LK RX10 203 yX10_isPlace := Or.inl (u_mem 617 (by decide +kernel) rfl)
theorem lk_X10_206 : LK RX10 206 yX10_fitting := Or.inl (u_mem 622 (by decide +kernel) rfl)
theorem lk_X10_211 : LK RX10 211 yX4_reckon := Or.inl (u_mem 635 (by decide +kernel) rfl)
theorem lk_X10_226 : LK RX10 226 yX5_tell := Or.inl (u_mem 660 (by decide +kernel) rfl)
theorem lk_X10_232 : LK RX10 232 yX3_note := Or.inl (u_mem 661 (by decide +kernel) rfl)
theorem lk_X10_240 : LK RX10 240 yX3_takeBack := Or.inl (u_mem 677 (by decide +kernel) rfl)
theorem lk_X10_247 : LK RX10 247 yX2_followYear := Or.inl (u_mem 689 (by decide +kernel) rfl)
theorem lk_X10_251 : LK RX10 251 yX2_lostTowns := Or.inl (u_mem 697 (by decide +kernel) rfl)
theorem lk_X10_254 : LK RX10 254 yX7_put := Or.inl (u_mem 705 (by decide +kernel) rfl)
theorem lk_X10_258 : LK RX10 258 yX7_take := Or.inl (u_mem 717 (by decide +kernel) rfl)
theorem lk_X10_264 : LK RX10 264 yX2_followAsTold := Or.inl (u_mem 482 (by decide +kernel) rfl)
theorem lk_X0_3 : LK RX0 3 objectInit := Or.inl (u_mem 115 (by decide +kernel) rfl)
theorem lp_X0_3 : Cond.methodLink RX0 3 objectInit ∈ U := u_mem 115 (by decide +kernel) rfl
theorem lk_X0_18 : LK RX0 18 yX0_empty := Or.inl (u_mem 570 (by decide +kernel) rfl)
theorem lk_X0_31 : LK RX0 31 yX0_cell := Or.inl (u_mem 573 (by decide +kernel) rfl)
theorem lk_X0_44 : LK RX0 44 yX1_floats := Or.inl (u_mem 576 (by decide +kernel) rfl)
theorem lk_X0_54 : LK RX0 54 yX0_passDay := Or.inl (u_mem 577 (by decide +kernel) rfl)
theorem lk_X0_64 : LK RX0 64 yX0_highest := Or.inl (u_mem 600 (by decide +kernel) rfl)
theorem lk_X0_73 : LK RX0 73 yX0_leave := Or.inl (u_mem 581 (by decide +kernel) rfl)
theorem lk_X0_77 : LK RX0 77 yX0_sink := Or.inl (u_mem 585 (by decide +kernel) rfl)
theorem lk_X0_85 : LK RX0 85 yX0_arrive := Or.inl (u_mem 590 (by decide +kernel) rfl)
theorem lk_X0_88 : LK RX0 88 yX8_isStruck := Or.inl (u_mem 594 (by decide +kernel) rfl)
theorem lk_X0_92 : LK RX0 92 yX0_halved := Or.inl (u_mem 595 (by decide +kernel) rfl)
theorem lk_X0_96 : LK RX0 96 yX8_dailyLoss := Or.inl (u_mem 598 (by decide +kernel) rfl)
theorem lk_X0_103 : LK RX0 103 yX10_round := Or.inr ⟨_, n_mem 599 (w := .methodLinkNest RX0 103 yX10_round "HungInStorm") (by decide +kernel) rfl⟩
theorem lk_X1_3 : LK RX1 3 objectInit := Or.inl (u_mem 70 (by decide +kernel) rfl)
theorem lp_X1_3 : Cond.methodLink RX1 3 objectInit ∈ U := u_mem 70 (by decide +kernel) rfl
theorem lk_X1_43 : LK RX1 43 yX1_note := Or.inl (u_mem 490 (by decide +kernel) rfl)
theorem lk_X1_47 : LK RX1 47 yX1_runErrands := Or.inl (u_mem 494 (by decide +kernel) rfl)
theorem lk_X1_51 : LK RX1 51 yX1_sinkWithoutGas := Or.inl (u_mem 501 (by decide +kernel) rfl)
theorem lk_X1_54 : LK RX1 54 yX1_goOn := Or.inl (u_mem 505 (by decide +kernel) rfl)
theorem lk_X1_70 : LK RX1 70 Lib.Math.max.name := Or.inl (u_mem 498 (by decide +kernel) rfl)
theorem lp_X1_70 : Cond.methodLink RX1 70 Lib.Math.max.name ∈ U := u_mem 498 (by decide +kernel) rfl
theorem lk_X1_85 : LK RX1 85 yX10_round := Or.inr ⟨_, n_mem 509 (w := .methodLinkNest RX1 85 yX10_round "HungInStorm") (by decide +kernel) rfl⟩
theorem lk_X1_89 : LK RX1 89 yX8_isStruck := Or.inl (u_mem 512 (by decide +kernel) rfl)
theorem lk_X1_93 : LK RX1 93 yX8_dailyLoss := Or.inl (u_mem 516 (by decide +kernel) rfl)
theorem lk_X1_97 : LK RX1 97 yX1_floats := Or.inl (u_mem 540 (by decide +kernel) rfl)
theorem lk_X2_3 : LK RX2 3 objectInit := Or.inl (u_mem 63 (by decide +kernel) rfl)
theorem lp_X2_3 : Cond.methodLink RX2 3 objectInit ∈ U := u_mem 63 (by decide +kernel) rfl
theorem lk_X2_17 : LK RX2 17 yX1_init := Or.inr ⟨_, n_mem 67 (w := .methodLinkNest RX2 17 yX1_init "HungInStorm") (by decide +kernel) rfl⟩
theorem lk_X2_34 : LK RX2 34 yX1_follow := Or.inl (u_mem 486 (by decide +kernel) rfl)
theorem lk_X2_46 : LK RX2 46 yX2_marketsWith := Or.inl (u_mem 549 (by decide +kernel) rfl)
theorem lk_X2_50 : LK RX2 50 yX1_meets := Or.inl (u_mem 553 (by decide +kernel) rfl)
theorem lk_X3_3 : LK RX3 3 objectInit := Or.inl (u_mem 158 (by decide +kernel) rfl)
theorem lp_X3_3 : Cond.methodLink RX3 3 objectInit ∈ U := u_mem 158 (by decide +kernel) rfl
theorem lk_X3_22 : LK RX3 22 yX3_forgetOldest := Or.inl (u_mem 665 (by decide +kernel) rfl)
theorem lk_X3_25 : LK RX3 25 yX5_dropLatestErrand := Or.inl (u_mem 681 (by decide +kernel) rfl)
theorem lk_X4_3 : LK RX4 3 objectInit := Or.inl (u_mem 137 (by decide +kernel) rfl)
theorem lp_X4_3 : Cond.methodLink RX4 3 objectInit ∈ U := u_mem 137 (by decide +kernel) rfl
theorem lk_X4_22 : LK RX4 22 yX4_gust := Or.inl (u_mem 639 (by decide +kernel) rfl)
theorem lk_X4_31 : LK RX4 31 yX4_reduce := Or.inl (u_mem 648 (by decide +kernel) rfl)
theorem lk_X4_35 : LK RX4 35 Lib.Math.min.name := Or.inl (u_mem 643 (by decide +kernel) rfl)
theorem lp_X4_35 : Cond.methodLink RX4 35 Lib.Math.min.name ∈ U := u_mem 643 (by decide +kernel) rfl
theorem lk_X4_41 : LK RX4 41 Lib.Math.max.name := Or.inl (u_mem 646 (by decide +kernel) rfl)
theorem lp_X4_41 : Cond.methodLink RX4 41 Lib.Math.max.name ∈ U := u_mem 646 (by decide +kernel) rfl
theorem lk_X4_44 : LK RX4 44 yX4_leaveOut := Or.inl (u_mem 652 (by decide +kernel) rfl)
theorem lk_X5_3 : LK RX5 3 objectInit := Or.inl (u_mem 182 (by decide +kernel) rfl)
theorem lp_X5_3 : Cond.methodLink RX5 3 objectInit ∈ U := u_mem 182 (by decide +kernel) rfl
theorem lk_X6_3 : LK RX6 3 objectInit := Or.inl (u_mem 47 (by decide +kernel) rfl)
theorem lp_X6_3 : Cond.methodLink RX6 3 objectInit ∈ U := u_mem 47 (by decide +kernel) rfl
theorem lk_X6_15 : LK RX6 15 yX8_clear := Or.inl (u_mem 342 (by decide +kernel) rfl)
theorem lk_X6_29 : LK RX6 29 yX6_readNumbers := Or.inl (u_mem 346 (by decide +kernel) rfl)
theorem lk_X6_33 : LK RX6 33 yX9_at := Or.inl (u_mem 354 (by decide +kernel) rfl)
theorem lk_X6_37 : LK RX6 37 yX6_tell := Or.inl (u_mem 361 (by decide +kernel) rfl)
theorem lk_X6_44 : LK RX6 44 yX6_readNumber := Or.inl (u_mem 350 (by decide +kernel) rfl)
theorem lk_X6_47 : LK RX6 47 yX6_isFigure := Or.inl (u_mem 358 (by decide +kernel) rfl)
theorem lk_X6_51 : LK RX6 51 yX8_addLevel := Or.inl (u_mem 365 (by decide +kernel) rfl)
theorem lk_X6_55 : LK RX6 55 yX8_addTown := Or.inl (u_mem 372 (by decide +kernel) rfl)
theorem lk_X6_59 : LK RX6 59 yX8_addErrand := Or.inl (u_mem 380 (by decide +kernel) rfl)
theorem lk_X6_63 : LK RX6 63 yX8_addLightning := Or.inl (u_mem 388 (by decide +kernel) rfl)
theorem lk_X7_3 : LK RX7 3 objectInit := Or.inl (u_mem 175 (by decide +kernel) rfl)
theorem lp_X7_3 : Cond.methodLink RX7 3 objectInit ∈ U := u_mem 175 (by decide +kernel) rfl
theorem lk_X7_17 : LK RX7 17 yX5_init := Or.inr ⟨_, n_mem 179 (w := .methodLinkNest RX7 17 yX5_init "HungInStorm") (by decide +kernel) rfl⟩
theorem lk_X7_22 : LK RX7 22 yX5_copy := Or.inl (u_mem 709 (by decide +kernel) rfl)
theorem lk_X8_3 : LK RX8 3 objectInit := Or.inl (u_mem 224 (by decide +kernel) rfl)
theorem lp_X8_3 : Cond.methodLink RX8 3 objectInit ∈ U := u_mem 224 (by decide +kernel) rfl
theorem lk_X8_38 : LK RX8 38 yX5_init := Or.inr ⟨_, n_mem 226 (w := .methodLinkNest RX8 38 yX5_init "HungInStorm") (by decide +kernel) rfl⟩
theorem lk_X8_56 : LK RX8 56 yX10_isWithin := Or.inr ⟨_, n_mem 369 (w := .methodLinkNest RX8 56 yX10_isWithin "HungInStorm") (by decide +kernel) rfl⟩
theorem lk_X8_60 : LK RX8 60 yX10_isPlace := Or.inr ⟨_, n_mem 376 (w := .methodLinkNest RX8 60 yX10_isPlace "HungInStorm") (by decide +kernel) rfl⟩
theorem lk_X8_67 : LK RX8 67 yX5_tell := Or.inl (u_mem 384 (by decide +kernel) rfl)
theorem lk_X9_3 : LK RX9 3 objectInit := Or.inl (u_mem 31 (by decide +kernel) rfl)
theorem lp_X9_3 : Cond.methodLink RX9 3 objectInit ∈ U := u_mem 31 (by decide +kernel) rfl
theorem lk_L_9 : LK RL 9 yX10_init := Or.inl (u_mem 20 (by decide +kernel) rfl)
theorem lk_L_12 : LK RL 12 yX11_init := Or.inl (u_mem 727 (by decide +kernel) rfl)
theorem lk_L_15 : LK RL 15 yX10_write := Or.inl (u_mem 434 (by decide +kernel) rfl)
theorem lk_L_19 : LK RL 19 yX11_write := Or.inl (u_mem 831 (by decide +kernel) rfl)
theorem lk_L_20 : LK RL 20 yX10_wipe := Or.inl (u_mem 438 (by decide +kernel) rfl)
theorem lk_L_24 : LK RL 24 yX11_wipe := Or.inl (u_mem 840 (by decide +kernel) rfl)
theorem lk_L_25 : LK RL 25 yX10_fault := Or.inl (u_mem 442 (by decide +kernel) rfl)
theorem lk_L_28 : LK RL 28 yX11_fault := Or.inl (u_mem 844 (by decide +kernel) rfl)
theorem lk_L_29 : LK RL 29 yX10_lay := Or.inl (u_mem 446 (by decide +kernel) rfl)
theorem lk_L_32 : LK RL 32 yX11_lay := Or.inl (u_mem 877 (by decide +kernel) rfl)
theorem lk_L_33 : LK RL 33 yX10_level := Or.inl (u_mem 462 (by decide +kernel) rfl)
theorem lk_L_37 : LK RL 37 yX11_level := Or.inl (u_mem 889 (by decide +kernel) rfl)
theorem lk_L_38 : LK RL 38 yX10_town := Or.inl (u_mem 470 (by decide +kernel) rfl)
theorem lk_L_42 : LK RL 42 yX11_town := Or.inl (u_mem 897 (by decide +kernel) rfl)
theorem lk_L_43 : LK RL 43 yX10_lost := Or.inl (u_mem 524 (by decide +kernel) rfl)
theorem lk_L_47 : LK RL 47 yX11_lost := Or.inl (u_mem 925 (by decide +kernel) rfl)
theorem lk_L_48 : LK RL 48 yX10_meet := Or.inl (u_mem 528 (by decide +kernel) rfl)
theorem lk_L_51 : LK RL 51 yX11_meet := Or.inl (u_mem 929 (by decide +kernel) rfl)
theorem lk_L_52 : LK RL 52 yX10_markets := Or.inl (u_mem 541 (by decide +kernel) rfl)
theorem lk_L_55 : LK RL 55 yX11_markets := Or.inl (u_mem 937 (by decide +kernel) rfl)
theorem lk_L_56 : LK RL 56 yX10_stay := Or.inl (u_mem 554 (by decide +kernel) rfl)
theorem lk_L_59 : LK RL 59 yX11_stay := Or.inl (u_mem 949 (by decide +kernel) rfl)
theorem lk_L_60 : LK RL 60 yX10_catches := Or.inl (u_mem 562 (by decide +kernel) rfl)
theorem lk_L_63 : LK RL 63 yX11_catches := Or.inl (u_mem 953 (by decide +kernel) rfl)
theorem lk_L_64 : LK RL 64 yX10_keeps := Or.inl (u_mem 603 (by decide +kernel) rfl)
theorem lk_L_67 : LK RL 67 yX11_keeps := Or.inl (u_mem 968 (by decide +kernel) rfl)
theorem lk_L_68 : LK RL 68 yX10_trades := Or.inl (u_mem 608 (by decide +kernel) rfl)
theorem lk_L_71 : LK RL 71 yX11_trades := Or.inl (u_mem 972 (by decide +kernel) rfl)
theorem lk_L_72 : LK RL 72 yX10_dropped := Or.inl (u_mem 613 (by decide +kernel) rfl)
theorem lk_L_76 : LK RL 76 yX11_dropped := Or.inl (u_mem 980 (by decide +kernel) rfl)
theorem lk_L_77 : LK RL 77 yX10_seen := Or.inl (u_mem 618 (by decide +kernel) rfl)
theorem lk_L_80 : LK RL 80 yX11_seen := Or.inl (u_mem 988 (by decide +kernel) rfl)
theorem lk_L_81 : LK RL 81 yX10_seenTwice := Or.inl (u_mem 626 (by decide +kernel) rfl)
theorem lk_L_85 : LK RL 85 yX11_seenTwice := Or.inl (u_mem 1000 (by decide +kernel) rfl)
theorem lk_L_86 : LK RL 86 yX10_gusts := Or.inl (u_mem 630 (by decide +kernel) rfl)
theorem lk_L_90 : LK RL 90 yX11_gusts := Or.inl (u_mem 1004 (by decide +kernel) rfl)
theorem lk_L_91 : LK RL 91 yX10_errand := Or.inl (u_mem 656 (by decide +kernel) rfl)
theorem lk_L_95 : LK RL 95 yX11_errand := Or.inl (u_mem 1010 (by decide +kernel) rfl)
theorem lk_L_96 : LK RL 96 yX10_fill := Or.inl (u_mem 669 (by decide +kernel) rfl)
theorem lk_L_99 : LK RL 99 yX11_fill := Or.inl (u_mem 1018 (by decide +kernel) rfl)
theorem lk_L_100 : LK RL 100 yX10_undo := Or.inl (u_mem 673 (by decide +kernel) rfl)
theorem lk_L_103 : LK RL 103 yX11_undo := Or.inl (u_mem 1022 (by decide +kernel) rfl)
theorem lk_L_104 : LK RL 104 yX10_year := Or.inl (u_mem 685 (by decide +kernel) rfl)
theorem lk_L_107 : LK RL 107 yX11_year := Or.inl (u_mem 1026 (by decide +kernel) rfl)
theorem lk_L_108 : LK RL 108 yX10_keep := Or.inl (u_mem 701 (by decide +kernel) rfl)
theorem lk_L_111 : LK RL 111 yX11_keep := Or.inl (u_mem 1035 (by decide +kernel) rfl)
theorem lk_L_112 : LK RL 112 yX10_back := Or.inl (u_mem 713 (by decide +kernel) rfl)
theorem lk_L_115 : LK RL 115 yX11_back := Or.inl (u_mem 1039 (by decide +kernel) rfl)
theorem lk_L_116 : LK RL 116 yX10_count := Or.inl (u_mem 721 (by decide +kernel) rfl)
theorem lk_L_119 : LK RL 119 yX11_count := Or.inl (u_mem 1043 (by decide +kernel) rfl)
theorem lk_X11_1 : LK RX11 1 objectInit := Or.inl (u_mem 730 (by decide +kernel) rfl)
theorem lp_X11_1 : Cond.methodLink RX11 1 objectInit ∈ U := u_mem 730 (by decide +kernel) rfl
theorem lk_X11_97 : LK RX11 97 yX11_in := Or.inl (u_mem 836 (by decide +kernel) rfl)
theorem lk_X11_110 : LK RX11 110 yX11_byteAt := Or.inl (u_mem 856 (by decide +kernel) rfl)
theorem lk_X11_122 : LK RX11 122 yX11_figures := Or.inl (u_mem 860 (by decide +kernel) rfl)
theorem lk_X11_126 : LK RX11 126 yX11_isTownItem := Or.inl (u_mem 867 (by decide +kernel) rfl)
theorem lk_X11_132 : LK RX11 132 yX11_addErrand := Or.inl (u_mem 873 (by decide +kernel) rfl)
theorem lk_X11_136 : LK RX11 136 yX11_item := Or.inl (u_mem 852 (by decide +kernel) rfl)
theorem lk_X11_139 : LK RX11 139 yX11_readAll := Or.inl (u_mem 848 (by decide +kernel) rfl)
theorem lk_X11_143 : LK RX11 143 yX11_areThere := Or.inl (u_mem 881 (by decide +kernel) rfl)
theorem lk_X11_146 : LK RX11 146 yX11_copy := Or.inl (u_mem 885 (by decide +kernel) rfl)
theorem lk_X11_156 : LK RX11 156 yX11_isLevel := Or.inl (u_mem 893 (by decide +kernel) rfl)
theorem lk_X11_162 : LK RX11 162 yX11_goBy := Or.inl (u_mem 917 (by decide +kernel) rfl)
theorem lk_X11_166 : LK RX11 166 yX11_leftOf := Or.inl (u_mem 921 (by decide +kernel) rfl)
theorem lk_X11_170 : LK RX11 170 yX11_begin := Or.inl (u_mem 909 (by decide +kernel) rfl)
theorem lk_X11_173 : LK RX11 173 yX11_goDay := Or.inl (u_mem 913 (by decide +kernel) rfl)
theorem lk_X11_176 : LK RX11 176 yX11_areTogether := Or.inl (u_mem 933 (by decide +kernel) rfl)
theorem lk_X11_180 : LK RX11 180 yX11_isTown := Or.inl (u_mem 901 (by decide +kernel) rfl)
theorem lk_X11_183 : LK RX11 183 yX11_go := Or.inl (u_mem 905 (by decide +kernel) rfl)
theorem lk_X11_187 : LK RX11 187 yX11_pairs := Or.inl (u_mem 945 (by decide +kernel) rfl)
theorem lk_X11_190 : LK RX11 190 yX11_marketsTo := Or.inl (u_mem 941 (by decide +kernel) rfl)
theorem lk_X11_193 : LK RX11 193 yX11_carry := Or.inl (u_mem 961 (by decide +kernel) rfl)
theorem lk_X11_196 : LK RX11 196 yX11_carryAll := Or.inl (u_mem 957 (by decide +kernel) rfl)
theorem lk_X11_199 : LK RX11 199 yX11_highest := Or.inl (u_mem 965 (by decide +kernel) rfl)
theorem lk_X11_203 : LK RX11 203 yX11_tradesOf := Or.inl (u_mem 976 (by decide +kernel) rfl)
theorem lk_X11_209 : LK RX11 209 yX11_isPlace := Or.inl (u_mem 984 (by decide +kernel) rfl)
theorem lk_X11_214 : LK RX11 214 yX11_isSeen := Or.inl (u_mem 992 (by decide +kernel) rfl)
theorem lk_X11_218 : LK RX11 218 yX11_levelsOf := Or.inl (u_mem 996 (by decide +kernel) rfl)
theorem lk_X11_226 : LK RX11 226 yX11_note := Or.inl (u_mem 1014 (by decide +kernel) rfl)
/-! methods -/
def MV (y : MethodName) (cc : ByteArray) (maxL : Nat) (ret : Option FieldType) (n : Nat) : Prop := Cond.instanceMethod y ∈ U ∧ Cond.selects y.cls y y ∈ U ∧ Cond.initialized y.cls ∈ U ∧ Cond.code y cc maxL ret ∈ U ∧ (y.cls ≠ "java/lang/invoke/MethodHandle" ∧ y.cls ≠ "java/lang/invoke/VarHandle" ∧ (parseMethodDescriptor y.desc).map (fun d => d.parameters.length) = some n)
def MS (y : MethodName) (cc : ByteArray) (maxL : Nat) (ret : Option FieldType) (n : Nat) : Prop := Cond.static y ∈ U ∧ Cond.initialized y.cls ∈ U ∧ Cond.code y cc maxL ret ∈ U ∧ (y.cls ≠ "java/lang/invoke/MethodHandle" ∧ y.cls ≠ "java/lang/invoke/VarHandle" ∧ (parseMethodDescriptor y.desc).map (fun d => d.parameters.length) = some n)
def MI (y : MethodName) (cc : ByteArray) (maxL : Nat) (n : Nat) : Prop := Cond.instanceMethod y ∈ U ∧ y.name = "<init>" ∧ Cond.initialized y.cls ∈ U ∧ Cond.code y cc maxL none ∈ U ∧ (y.cls ≠ "java/lang/invoke/MethodHandle" ∧ y.cls ≠ "java/lang/invoke/VarHandle" ∧ (parseMethodDescriptor y.desc).map (fun d => d.parameters.length) = some n)
theorem mi_X10_init : MI yX10_init cX10_init 2 0 := ⟨u_mem 21 (by decide +kernel) rfl, by decide +kernel, u_mem 1 (by decide +kernel) rfl, u_mem 22 (by decide +kernel) rfl, ⟨by decide +kernel, by decide +kernel, by decide +kernel⟩⟩
theorem mi_X9_init : MI yX9_init cX9_init 1 0 := ⟨u_mem 29 (by decide +kernel) rfl, by decide +kernel, u_mem 2 (by decide +kernel) rfl, u_mem 30 (by decide +kernel) rfl, ⟨by decide +kernel, by decide +kernel, by decide +kernel⟩⟩
theorem mi_X6_init : MI yX6_init cX6_init 1 0 := ⟨u_mem 45 (by decide +kernel) rfl, by decide +kernel, u_mem 3 (by decide +kernel) rfl, u_mem 46 (by decide +kernel) rfl, ⟨by decide +kernel, by decide +kernel, by decide +kernel⟩⟩
theorem mi_X2_init : MI yX2_init cX2_init 2 0 := ⟨u_mem 61 (by decide +kernel) rfl, by decide +kernel, u_mem 4 (by decide +kernel) rfl, u_mem 62 (by decide +kernel) rfl, ⟨by decide +kernel, by decide +kernel, by decide +kernel⟩⟩
theorem mi_X1_init : MI yX1_init cX1_init 1 0 := ⟨u_mem 68 (by decide +kernel) rfl, by decide +kernel, u_mem 5 (by decide +kernel) rfl, u_mem 69 (by decide +kernel) rfl, ⟨by decide +kernel, by decide +kernel, by decide +kernel⟩⟩
theorem mi_X0_init : MI yX0_init cX0_init 1 0 := ⟨u_mem 113 (by decide +kernel) rfl, by decide +kernel, u_mem 6 (by decide +kernel) rfl, u_mem 114 (by decide +kernel) rfl, ⟨by decide +kernel, by decide +kernel, by decide +kernel⟩⟩
theorem mi_X4_init : MI yX4_init cX4_init 1 0 := ⟨u_mem 135 (by decide +kernel) rfl, by decide +kernel, u_mem 7 (by decide +kernel) rfl, u_mem 136 (by decide +kernel) rfl, ⟨by decide +kernel, by decide +kernel, by decide +kernel⟩⟩
theorem mi_X3_init : MI yX3_init cX3_init 1 0 := ⟨u_mem 156 (by decide +kernel) rfl, by decide +kernel, u_mem 8 (by decide +kernel) rfl, u_mem 157 (by decide +kernel) rfl, ⟨by decide +kernel, by decide +kernel, by decide +kernel⟩⟩
theorem mi_X7_init : MI yX7_init cX7_init 2 0 := ⟨u_mem 173 (by decide +kernel) rfl, by decide +kernel, u_mem 9 (by decide +kernel) rfl, u_mem 174 (by decide +kernel) rfl, ⟨by decide +kernel, by decide +kernel, by decide +kernel⟩⟩
theorem mi_X5_init : MI yX5_init cX5_init 1 0 := ⟨u_mem 180 (by decide +kernel) rfl, by decide +kernel, u_mem 10 (by decide +kernel) rfl, u_mem 181 (by decide +kernel) rfl, ⟨by decide +kernel, by decide +kernel, by decide +kernel⟩⟩
theorem mi_X8_init : MI yX8_init cX8_init 1 0 := ⟨u_mem 222 (by decide +kernel) rfl, by decide +kernel, u_mem 11 (by decide +kernel) rfl, u_mem 223 (by decide +kernel) rfl, ⟨by decide +kernel, by decide +kernel, by decide +kernel⟩⟩
theorem mv_X9_append : MV yX9_append cX9_append 2 none 1 := ⟨u_mem 335 (by decide +kernel) rfl, u_mem 336 (by decide +kernel) rfl, u_mem 2 (by decide +kernel) rfl, u_mem 337 (by decide +kernel) rfl, ⟨by decide +kernel, by decide +kernel, by decide +kernel⟩⟩
theorem mv_X6_read : MV yX6_read cX6_read 5 (some .int) 2 := ⟨u_mem 339 (by decide +kernel) rfl, u_mem 340 (by decide +kernel) rfl, u_mem 3 (by decide +kernel) rfl, u_mem 341 (by decide +kernel) rfl, ⟨by decide +kernel, by decide +kernel, by decide +kernel⟩⟩
theorem mv_X8_clear : MV yX8_clear cX8_clear 1 none 0 := ⟨u_mem 343 (by decide +kernel) rfl, u_mem 344 (by decide +kernel) rfl, u_mem 11 (by decide +kernel) rfl, u_mem 345 (by decide +kernel) rfl, ⟨by decide +kernel, by decide +kernel, by decide +kernel⟩⟩
theorem mv_X6_readNumbers : MV yX6_readNumbers cX6_readNumbers 4 (some .boolean) 1 := ⟨u_mem 348 (by decide +kernel) rfl, u_sel (q := (yX6_readNumbers, 3)) (List.mem_of_getElem? (i := 0) (by decide +kernel)), u_mem 3 (by decide +kernel) rfl, u_mem 349 (by decide +kernel) rfl, ⟨by decide +kernel, by decide +kernel, by decide +kernel⟩⟩
theorem mv_X6_readNumber : MV yX6_readNumber cX6_readNumber 3 (some .boolean) 1 := ⟨u_mem 352 (by decide +kernel) rfl, u_sel (q := (yX6_readNumber, 3)) (List.mem_of_getElem? (i := 1) (by decide +kernel)), u_mem 3 (by decide +kernel) rfl, u_mem 353 (by decide +kernel) rfl, ⟨by decide +kernel, by decide +kernel, by decide +kernel⟩⟩
theorem mv_X9_at : MV yX9_at cX9_at 2 (some .int) 1 := ⟨u_mem 355 (by decide +kernel) rfl, u_mem 356 (by decide +kernel) rfl, u_mem 2 (by decide +kernel) rfl, u_mem 357 (by decide +kernel) rfl, ⟨by decide +kernel, by decide +kernel, by decide +kernel⟩⟩
theorem ms_X6_isFigure : MS yX6_isFigure cX6_isFigure 1 (some .boolean) 1 := ⟨u_mem 359 (by decide +kernel) rfl, u_mem 3 (by decide +kernel) rfl, u_mem 360 (by decide +kernel) rfl, ⟨by decide +kernel, by decide +kernel, by decide +kernel⟩⟩
theorem mv_X6_tell : MV yX6_tell cX6_tell 3 (some .boolean) 2 := ⟨u_mem 363 (by decide +kernel) rfl, u_sel (q := (yX6_tell, 3)) (List.mem_of_getElem? (i := 2) (by decide +kernel)), u_mem 3 (by decide +kernel) rfl, u_mem 364 (by decide +kernel) rfl, ⟨by decide +kernel, by decide +kernel, by decide +kernel⟩⟩
theorem mv_X8_addLevel : MV yX8_addLevel cX8_addLevel 3 (some .boolean) 2 := ⟨u_mem 366 (by decide +kernel) rfl, u_mem 367 (by decide +kernel) rfl, u_mem 11 (by decide +kernel) rfl, u_mem 368 (by decide +kernel) rfl, ⟨by decide +kernel, by decide +kernel, by decide +kernel⟩⟩
theorem ms_X10_isWithin : MS yX10_isWithin cX10_isWithin 3 (some .boolean) 3 := ⟨u_mem 370 (by decide +kernel) rfl, u_mem 1 (by decide +kernel) rfl, u_mem 371 (by decide +kernel) rfl, ⟨by decide +kernel, by decide +kernel, by decide +kernel⟩⟩
theorem mv_X8_addTown : MV yX8_addTown cX8_addTown 6 (some .boolean) 5 := ⟨u_mem 373 (by decide +kernel) rfl, u_mem 374 (by decide +kernel) rfl, u_mem 11 (by decide +kernel) rfl, u_mem 375 (by decide +kernel) rfl, ⟨by decide +kernel, by decide +kernel, by decide +kernel⟩⟩
theorem ms_X10_isPlace : MS yX10_isPlace cX10_isPlace 1 (some .boolean) 1 := ⟨u_mem 377 (by decide +kernel) rfl, u_mem 1 (by decide +kernel) rfl, u_mem 378 (by decide +kernel) rfl, ⟨by decide +kernel, by decide +kernel, by decide +kernel⟩⟩
theorem mv_X8_addErrand : MV yX8_addErrand cX8_addErrand 4 (some .boolean) 3 := ⟨u_mem 381 (by decide +kernel) rfl, u_mem 382 (by decide +kernel) rfl, u_mem 11 (by decide +kernel) rfl, u_mem 383 (by decide +kernel) rfl, ⟨by decide +kernel, by decide +kernel, by decide +kernel⟩⟩
theorem mv_X5_tell : MV yX5_tell cX5_tell 4 (some .boolean) 3 := ⟨u_mem 385 (by decide +kernel) rfl, u_mem 386 (by decide +kernel) rfl, u_mem 10 (by decide +kernel) rfl, u_mem 387 (by decide +kernel) rfl, ⟨by decide +kernel, by decide +kernel, by decide +kernel⟩⟩
theorem mv_X8_addLightning : MV yX8_addLightning cX8_addLightning 3 (some .boolean) 2 := ⟨u_mem 389 (by decide +kernel) rfl, u_mem 390 (by decide +kernel) rfl, u_mem 11 (by decide +kernel) rfl, u_mem 391 (by decide +kernel) rfl, ⟨by decide +kernel, by decide +kernel, by decide +kernel⟩⟩
theorem mv_X9_clear : MV yX9_clear cX9_clear 1 none 0 := ⟨u_mem 393 (by decide +kernel) rfl, u_mem 394 (by decide +kernel) rfl, u_mem 2 (by decide +kernel) rfl, u_mem 395 (by decide +kernel) rfl, ⟨by decide +kernel, by decide +kernel, by decide +kernel⟩⟩
theorem mv_X10_write : MV yX10_write cX10_write 5 (some .int) 2 := ⟨u_mem 435 (by decide +kernel) rfl, u_mem 436 (by decide +kernel) rfl, u_mem 1 (by decide +kernel) rfl, u_mem 437 (by decide +kernel) rfl, ⟨by decide +kernel, by decide +kernel, by decide +kernel⟩⟩
theorem mv_X10_wipe : MV yX10_wipe cX10_wipe 2 (some .int) 0 := ⟨u_mem 439 (by decide +kernel) rfl, u_mem 440 (by decide +kernel) rfl, u_mem 1 (by decide +kernel) rfl, u_mem 441 (by decide +kernel) rfl, ⟨by decide +kernel, by decide +kernel, by decide +kernel⟩⟩
theorem mv_X10_fault : MV yX10_fault cX10_fault 1 (some .int) 0 := ⟨u_mem 443 (by decide +kernel) rfl, u_mem 444 (by decide +kernel) rfl, u_mem 1 (by decide +kernel) rfl, u_mem 445 (by decide +kernel) rfl, ⟨by decide +kernel, by decide +kernel, by decide +kernel⟩⟩
theorem mv_X10_lay : MV yX10_lay cX10_lay 2 (some .int) 0 := ⟨u_mem 447 (by decide +kernel) rfl, u_mem 448 (by decide +kernel) rfl, u_mem 1 (by decide +kernel) rfl, u_mem 449 (by decide +kernel) rfl, ⟨by decide +kernel, by decide +kernel, by decide +kernel⟩⟩
theorem mv_X8_isWhole : MV yX8_isWhole cX8_isWhole 2 (some .boolean) 0 := ⟨u_mem 451 (by decide +kernel) rfl, u_mem 452 (by decide +kernel) rfl, u_mem 11 (by decide +kernel) rfl, u_mem 453 (by decide +kernel) rfl, ⟨by decide +kernel, by decide +kernel, by decide +kernel⟩⟩
theorem mv_X3_clear : MV yX3_clear cX3_clear 1 none 0 := ⟨u_mem 455 (by decide +kernel) rfl, u_mem 456 (by decide +kernel) rfl, u_mem 8 (by decide +kernel) rfl, u_mem 457 (by decide +kernel) rfl, ⟨by decide +kernel, by decide +kernel, by decide +kernel⟩⟩
theorem mv_X7_clear : MV yX7_clear cX7_clear 1 none 0 := ⟨u_mem 459 (by decide +kernel) rfl, u_mem 460 (by decide +kernel) rfl, u_mem 9 (by decide +kernel) rfl, u_mem 461 (by decide +kernel) rfl, ⟨by decide +kernel, by decide +kernel, by decide +kernel⟩⟩
theorem mv_X10_level : MV yX10_level cX10_level 3 (some .int) 2 := ⟨u_mem 463 (by decide +kernel) rfl, u_mem 464 (by decide +kernel) rfl, u_mem 1 (by decide +kernel) rfl, u_mem 465 (by decide +kernel) rfl, ⟨by decide +kernel, by decide +kernel, by decide +kernel⟩⟩
theorem mv_X10_isLevel : MV yX10_isLevel cX10_isLevel 2 (some .boolean) 1 := ⟨u_mem 468 (by decide +kernel) rfl, u_sel (q := (yX10_isLevel, 12)) (List.mem_of_getElem? (i := 3) (by decide +kernel)), u_mem 1 (by decide +kernel) rfl, u_mem 469 (by decide +kernel) rfl, ⟨by decide +kernel, by decide +kernel, by decide +kernel⟩⟩
theorem mv_X10_town : MV yX10_town cX10_town 5 (some .int) 3 := ⟨u_mem 471 (by decide +kernel) rfl, u_mem 472 (by decide +kernel) rfl, u_mem 1 (by decide +kernel) rfl, u_mem 473 (by decide +kernel) rfl, ⟨by decide +kernel, by decide +kernel, by decide +kernel⟩⟩
theorem mv_X10_isTown : MV yX10_isTown cX10_isTown 2 (some .boolean) 1 := ⟨u_mem 476 (by decide +kernel) rfl, u_sel (q := (yX10_isTown, 12)) (List.mem_of_getElem? (i := 4) (by decide +kernel)), u_mem 1 (by decide +kernel) rfl, u_mem 477 (by decide +kernel) rfl, ⟨by decide +kernel, by decide +kernel, by decide +kernel⟩⟩
theorem mv_X10_followed : MV yX10_followed cX10_followed 1 (some (.object "HungInStorm$Fleet")) 0 := ⟨u_mem 480 (by decide +kernel) rfl, u_sel (q := (yX10_followed, 12)) (List.mem_of_getElem? (i := 5) (by decide +kernel)), u_mem 1 (by decide +kernel) rfl, u_mem 481 (by decide +kernel) rfl, ⟨by decide +kernel, by decide +kernel, by decide +kernel⟩⟩
theorem mv_X2_followAsTold : MV yX2_followAsTold cX2_followAsTold 3 none 1 := ⟨u_mem 483 (by decide +kernel) rfl, u_mem 484 (by decide +kernel) rfl, u_mem 4 (by decide +kernel) rfl, u_mem 485 (by decide +kernel) rfl, ⟨by decide +kernel, by decide +kernel, by decide +kernel⟩⟩
theorem mv_X1_follow : MV yX1_follow cX1_follow 6 none 4 := ⟨u_mem 487 (by decide +kernel) rfl, u_mem 488 (by decide +kernel) rfl, u_mem 5 (by decide +kernel) rfl, u_mem 489 (by decide +kernel) rfl, ⟨by decide +kernel, by decide +kernel, by decide +kernel⟩⟩
theorem mv_X1_note : MV yX1_note cX1_note 2 none 1 := ⟨u_mem 492 (by decide +kernel) rfl, u_sel (q := (yX1_note, 7)) (List.mem_of_getElem? (i := 6) (by decide +kernel)), u_mem 5 (by decide +kernel) rfl, u_mem 493 (by decide +kernel) rfl, ⟨by decide +kernel, by decide +kernel, by decide +kernel⟩⟩
theorem mv_X1_runErrands : MV yX1_runErrands cX1_runErrands 6 none 3 := ⟨u_mem 496 (by decide +kernel) rfl, u_sel (q := (yX1_runErrands, 7)) (List.mem_of_getElem? (i := 7) (by decide +kernel)), u_mem 5 (by decide +kernel) rfl, u_mem 497 (by decide +kernel) rfl, ⟨by decide +kernel, by decide +kernel, by decide +kernel⟩⟩
theorem mv_X1_sinkWithoutGas : MV yX1_sinkWithoutGas cX1_sinkWithoutGas 2 none 1 := ⟨u_mem 503 (by decide +kernel) rfl, u_sel (q := (yX1_sinkWithoutGas, 7)) (List.mem_of_getElem? (i := 8) (by decide +kernel)), u_mem 5 (by decide +kernel) rfl, u_mem 504 (by decide +kernel) rfl, ⟨by decide +kernel, by decide +kernel, by decide +kernel⟩⟩
theorem mv_X1_goOn : MV yX1_goOn cX1_goOn 4 none 3 := ⟨u_mem 507 (by decide +kernel) rfl, u_sel (q := (yX1_goOn, 7)) (List.mem_of_getElem? (i := 9) (by decide +kernel)), u_mem 5 (by decide +kernel) rfl, u_mem 508 (by decide +kernel) rfl, ⟨by decide +kernel, by decide +kernel, by decide +kernel⟩⟩
theorem ms_X10_round : MS yX10_round cX10_round 2 (some .int) 1 := ⟨u_mem 510 (by decide +kernel) rfl, u_mem 1 (by decide +kernel) rfl, u_mem 511 (by decide +kernel) rfl, ⟨by decide +kernel, by decide +kernel, by decide +kernel⟩⟩
theorem mv_X8_isStruck : MV yX8_isStruck cX8_isStruck 4 (some .boolean) 2 := ⟨u_mem 513 (by decide +kernel) rfl, u_mem 514 (by decide +kernel) rfl, u_mem 11 (by decide +kernel) rfl, u_mem 515 (by decide +kernel) rfl, ⟨by decide +kernel, by decide +kernel, by decide +kernel⟩⟩
theorem mv_X8_dailyLoss : MV yX8_dailyLoss cX8_dailyLoss 4 (some .int) 3 := ⟨u_mem 517 (by decide +kernel) rfl, u_mem 518 (by decide +kernel) rfl, u_mem 11 (by decide +kernel) rfl, u_mem 519 (by decide +kernel) rfl, ⟨by decide +kernel, by decide +kernel, by decide +kernel⟩⟩
theorem mv_X1_floats : MV yX1_floats cX1_floats 2 (some .boolean) 1 := ⟨u_mem 521 (by decide +kernel) rfl, u_mem 522 (by decide +kernel) rfl, u_mem 5 (by decide +kernel) rfl, u_mem 523 (by decide +kernel) rfl, ⟨by decide +kernel, by decide +kernel, by decide +kernel⟩⟩
theorem mv_X10_lost : MV yX10_lost cX10_lost 2 (some .int) 1 := ⟨u_mem 525 (by decide +kernel) rfl, u_mem 526 (by decide +kernel) rfl, u_mem 1 (by decide +kernel) rfl, u_mem 527 (by decide +kernel) rfl, ⟨by decide +kernel, by decide +kernel, by decide +kernel⟩⟩
theorem mv_X10_meet : MV yX10_meet cX10_meet 5 (some .int) 2 := ⟨u_mem 529 (by decide +kernel) rfl, u_mem 530 (by decide +kernel) rfl, u_mem 1 (by decide +kernel) rfl, u_mem 531 (by decide +kernel) rfl, ⟨by decide +kernel, by decide +kernel, by decide +kernel⟩⟩
theorem mv_X10_areTwoTowns : MV yX10_areTwoTowns cX10_areTwoTowns 3 (some .boolean) 2 := ⟨u_mem 534 (by decide +kernel) rfl, u_sel (q := (yX10_areTwoTowns, 12)) (List.mem_of_getElem? (i := 10) (by decide +kernel)), u_mem 1 (by decide +kernel) rfl, u_mem 535 (by decide +kernel) rfl, ⟨by decide +kernel, by decide +kernel, by decide +kernel⟩⟩
theorem mv_X1_meets : MV yX1_meets cX1_meets 3 (some .boolean) 2 := ⟨u_mem 537 (by decide +kernel) rfl, u_mem 538 (by decide +kernel) rfl, u_mem 5 (by decide +kernel) rfl, u_mem 539 (by decide +kernel) rfl, ⟨by decide +kernel, by decide +kernel, by decide +kernel⟩⟩
theorem mv_X10_markets : MV yX10_markets cX10_markets 2 (some .int) 1 := ⟨u_mem 542 (by decide +kernel) rfl, u_mem 543 (by decide +kernel) rfl, u_mem 1 (by decide +kernel) rfl, u_mem 544 (by decide +kernel) rfl, ⟨by decide +kernel, by decide +kernel, by decide +kernel⟩⟩
theorem mv_X2_allMarkets : MV yX2_allMarkets cX2_allMarkets 4 (some .int) 1 := ⟨u_mem 546 (by decide +kernel) rfl, u_mem 547 (by decide +kernel) rfl, u_mem 4 (by decide +kernel) rfl, u_mem 548 (by decide +kernel) rfl, ⟨by decide +kernel, by decide +kernel, by decide +kernel⟩⟩
theorem mv_X2_marketsWith : MV yX2_marketsWith cX2_marketsWith 7 (some .int) 3 := ⟨u_mem 550 (by decide +kernel) rfl, u_mem 551 (by decide +kernel) rfl, u_mem 4 (by decide +kernel) rfl, u_mem 552 (by decide +kernel) rfl, ⟨by decide +kernel, by decide +kernel, by decide +kernel⟩⟩
theorem mv_X10_stay : MV yX10_stay cX10_stay 7 (some .int) 3 := ⟨u_mem 555 (by decide +kernel) rfl, u_mem 556 (by decide +kernel) rfl, u_mem 1 (by decide +kernel) rfl, u_mem 557 (by decide +kernel) rfl, ⟨by decide +kernel, by decide +kernel, by decide +kernel⟩⟩
theorem ms_X10_firstDayOf : MS yX10_firstDayOf cX10_firstDayOf 4 (some .int) 3 := ⟨u_mem 560 (by decide +kernel) rfl, u_mem 1 (by decide +kernel) rfl, u_mem 561 (by decide +kernel) rfl, ⟨by decide +kernel, by decide +kernel, by decide +kernel⟩⟩
theorem mv_X10_catches : MV yX10_catches cX10_catches 4 (some .int) 3 := ⟨u_mem 563 (by decide +kernel) rfl, u_mem 564 (by decide +kernel) rfl, u_mem 1 (by decide +kernel) rfl, u_mem 565 (by decide +kernel) rfl, ⟨by decide +kernel, by decide +kernel, by decide +kernel⟩⟩
theorem mv_X0_hunt : MV yX0_hunt cX0_hunt 7 (some .boolean) 3 := ⟨u_mem 567 (by decide +kernel) rfl, u_mem 568 (by decide +kernel) rfl, u_mem 6 (by decide +kernel) rfl, u_mem 569 (by decide +kernel) rfl, ⟨by decide +kernel, by decide +kernel, by decide +kernel⟩⟩
theorem ms_X0_empty : MS yX0_empty cX0_empty 2 none 1 := ⟨u_mem 571 (by decide +kernel) rfl, u_mem 6 (by decide +kernel) rfl, u_mem 572 (by decide +kernel) rfl, ⟨by decide +kernel, by decide +kernel, by decide +kernel⟩⟩
theorem ms_X0_cell : MS yX0_cell cX0_cell 2 (some .int) 2 := ⟨u_mem 574 (by decide +kernel) rfl, u_mem 6 (by decide +kernel) rfl, u_mem 575 (by decide +kernel) rfl, ⟨by decide +kernel, by decide +kernel, by decide +kernel⟩⟩
theorem mv_X0_passDay : MV yX0_passDay cX0_passDay 7 none 2 := ⟨u_mem 579 (by decide +kernel) rfl, u_sel (q := (yX0_passDay, 4)) (List.mem_of_getElem? (i := 11) (by decide +kernel)), u_mem 6 (by decide +kernel) rfl, u_mem 580 (by decide +kernel) rfl, ⟨by decide +kernel, by decide +kernel, by decide +kernel⟩⟩
theorem mv_X0_leave : MV yX0_leave cX0_leave 7 none 5 := ⟨u_mem 583 (by decide +kernel) rfl, u_sel (q := (yX0_leave, 4)) (List.mem_of_getElem? (i := 12) (by decide +kernel)), u_mem 6 (by decide +kernel) rfl, u_mem 584 (by decide +kernel) rfl, ⟨by decide +kernel, by decide +kernel, by decide +kernel⟩⟩
theorem mv_X0_sink : MV yX0_sink cX0_sink 7 none 5 := ⟨u_mem 587 (by decide +kernel) rfl, u_sel (q := (yX0_sink, 4)) (List.mem_of_getElem? (i := 13) (by decide +kernel)), u_mem 6 (by decide +kernel) rfl, u_mem 588 (by decide +kernel) rfl, ⟨by decide +kernel, by decide +kernel, by decide +kernel⟩⟩
theorem mv_X0_arrive : MV yX0_arrive cX0_arrive 12 none 5 := ⟨u_mem 592 (by decide +kernel) rfl, u_sel (q := (yX0_arrive, 4)) (List.mem_of_getElem? (i := 14) (by decide +kernel)), u_mem 6 (by decide +kernel) rfl, u_mem 593 (by decide +kernel) rfl, ⟨by decide +kernel, by decide +kernel, by decide +kernel⟩⟩
theorem ms_X0_halved : MS yX0_halved cX0_halved 5 (some .long) 1 := ⟨u_mem 596 (by decide +kernel) rfl, u_mem 6 (by decide +kernel) rfl, u_mem 597 (by decide +kernel) rfl, ⟨by decide +kernel, by decide +kernel, by decide +kernel⟩⟩
theorem ms_X0_highest : MS yX0_highest cX0_highest 4 (some .int) 1 := ⟨u_mem 601 (by decide +kernel) rfl, u_mem 6 (by decide +kernel) rfl, u_mem 602 (by decide +kernel) rfl, ⟨by decide +kernel, by decide +kernel, by decide +kernel⟩⟩
theorem mv_X10_keeps : MV yX10_keeps cX10_keeps 7 (some .int) 3 := ⟨u_mem 604 (by decide +kernel) rfl, u_mem 605 (by decide +kernel) rfl, u_mem 1 (by decide +kernel) rfl, u_mem 606 (by decide +kernel) rfl, ⟨by decide +kernel, by decide +kernel, by decide +kernel⟩⟩
theorem mv_X10_trades : MV yX10_trades cX10_trades 9 (some .int) 3 := ⟨u_mem 609 (by decide +kernel) rfl, u_mem 610 (by decide +kernel) rfl, u_mem 1 (by decide +kernel) rfl, u_mem 611 (by decide +kernel) rfl, ⟨by decide +kernel, by decide +kernel, by decide +kernel⟩⟩
theorem mv_X10_dropped : MV yX10_dropped cX10_dropped 8 (some .int) 4 := ⟨u_mem 614 (by decide +kernel) rfl, u_mem 615 (by decide +kernel) rfl, u_mem 1 (by decide +kernel) rfl, u_mem 616 (by decide +kernel) rfl, ⟨by decide +kernel, by decide +kernel, by decide +kernel⟩⟩
theorem mv_X10_seen : MV yX10_seen cX10_seen 4 (some .int) 3 := ⟨u_mem 619 (by decide +kernel) rfl, u_mem 620 (by decide +kernel) rfl, u_mem 1 (by decide +kernel) rfl, u_mem 621 (by decide +kernel) rfl, ⟨by decide +kernel, by decide +kernel, by decide +kernel⟩⟩
theorem mv_X10_fitting : MV yX10_fitting cX10_fitting 6 (some .int) 3 := ⟨u_mem 624 (by decide +kernel) rfl, u_sel (q := (yX10_fitting, 12)) (List.mem_of_getElem? (i := 15) (by decide +kernel)), u_mem 1 (by decide +kernel) rfl, u_mem 625 (by decide +kernel) rfl, ⟨by decide +kernel, by decide +kernel, by decide +kernel⟩⟩
theorem mv_X10_seenTwice : MV yX10_seenTwice cX10_seenTwice 6 (some .int) 5 := ⟨u_mem 627 (by decide +kernel) rfl, u_mem 628 (by decide +kernel) rfl, u_mem 1 (by decide +kernel) rfl, u_mem 629 (by decide +kernel) rfl, ⟨by decide +kernel, by decide +kernel, by decide +kernel⟩⟩
theorem mv_X10_gusts : MV yX10_gusts cX10_gusts 6 (some .long) 5 := ⟨u_mem 631 (by decide +kernel) rfl, u_mem 632 (by decide +kernel) rfl, u_mem 1 (by decide +kernel) rfl, u_mem 633 (by decide +kernel) rfl, ⟨by decide +kernel, by decide +kernel, by decide +kernel⟩⟩
theorem mv_X4_reckon : MV yX4_reckon cX4_reckon 7 none 5 := ⟨u_mem 636 (by decide +kernel) rfl, u_mem 637 (by decide +kernel) rfl, u_mem 7 (by decide +kernel) rfl, u_mem 638 (by decide +kernel) rfl, ⟨by decide +kernel, by decide +kernel, by decide +kernel⟩⟩
theorem mv_X4_gust : MV yX4_gust cX4_gust 4 none 2 := ⟨u_mem 641 (by decide +kernel) rfl, u_sel (q := (yX4_gust, 4)) (List.mem_of_getElem? (i := 16) (by decide +kernel)), u_mem 7 (by decide +kernel) rfl, u_mem 642 (by decide +kernel) rfl, ⟨by decide +kernel, by decide +kernel, by decide +kernel⟩⟩
theorem mv_X4_reduce : MV yX4_reduce cX4_reduce 3 none 1 := ⟨u_mem 650 (by decide +kernel) rfl, u_sel (q := (yX4_reduce, 4)) (List.mem_of_getElem? (i := 17) (by decide +kernel)), u_mem 7 (by decide +kernel) rfl, u_mem 651 (by decide +kernel) rfl, ⟨by decide +kernel, by decide +kernel, by decide +kernel⟩⟩
theorem mv_X4_leaveOut : MV yX4_leaveOut cX4_leaveOut 2 none 1 := ⟨u_mem 654 (by decide +kernel) rfl, u_sel (q := (yX4_leaveOut, 4)) (List.mem_of_getElem? (i := 18) (by decide +kernel)), u_mem 7 (by decide +kernel) rfl, u_mem 655 (by decide +kernel) rfl, ⟨by decide +kernel, by decide +kernel, by decide +kernel⟩⟩
theorem mv_X10_errand : MV yX10_errand cX10_errand 4 (some .int) 3 := ⟨u_mem 657 (by decide +kernel) rfl, u_mem 658 (by decide +kernel) rfl, u_mem 1 (by decide +kernel) rfl, u_mem 659 (by decide +kernel) rfl, ⟨by decide +kernel, by decide +kernel, by decide +kernel⟩⟩
theorem mv_X3_note : MV yX3_note cX3_note 3 none 2 := ⟨u_mem 662 (by decide +kernel) rfl, u_mem 663 (by decide +kernel) rfl, u_mem 8 (by decide +kernel) rfl, u_mem 664 (by decide +kernel) rfl, ⟨by decide +kernel, by decide +kernel, by decide +kernel⟩⟩
theorem mv_X3_forgetOldest : MV yX3_forgetOldest cX3_forgetOldest 2 none 0 := ⟨u_mem 667 (by decide +kernel) rfl, u_sel (q := (yX3_forgetOldest, 3)) (List.mem_of_getElem? (i := 19) (by decide +kernel)), u_mem 8 (by decide +kernel) rfl, u_mem 668 (by decide +kernel) rfl, ⟨by decide +kernel, by decide +kernel, by decide +kernel⟩⟩
theorem mv_X10_fill : MV yX10_fill cX10_fill 4 (some .int) 2 := ⟨u_mem 670 (by decide +kernel) rfl, u_mem 671 (by decide +kernel) rfl, u_mem 1 (by decide +kernel) rfl, u_mem 672 (by decide +kernel) rfl, ⟨by decide +kernel, by decide +kernel, by decide +kernel⟩⟩
theorem mv_X10_undo : MV yX10_undo cX10_undo 1 (some .int) 0 := ⟨u_mem 674 (by decide +kernel) rfl, u_mem 675 (by decide +kernel) rfl, u_mem 1 (by decide +kernel) rfl, u_mem 676 (by decide +kernel) rfl, ⟨by decide +kernel, by decide +kernel, by decide +kernel⟩⟩
theorem mv_X3_takeBack : MV yX3_takeBack cX3_takeBack 2 (some .boolean) 1 := ⟨u_mem 678 (by decide +kernel) rfl, u_mem 679 (by decide +kernel) rfl, u_mem 8 (by decide +kernel) rfl, u_mem 680 (by decide +kernel) rfl, ⟨by decide +kernel, by decide +kernel, by decide +kernel⟩⟩
theorem mv_X5_dropLatestErrand : MV yX5_dropLatestErrand cX5_dropLatestErrand 1 none 0 := ⟨u_mem 682 (by decide +kernel) rfl, u_mem 683 (by decide +kernel) rfl, u_mem 10 (by decide +kernel) rfl, u_mem 684 (by decide +kernel) rfl, ⟨by decide +kernel, by decide +kernel, by decide +kernel⟩⟩
theorem mv_X10_year : MV yX10_year cX10_year 3 (some .int) 2 := ⟨u_mem 686 (by decide +kernel) rfl, u_mem 687 (by decide +kernel) rfl, u_mem 1 (by decide +kernel) rfl, u_mem 688 (by decide +kernel) rfl, ⟨by decide +kernel, by decide +kernel, by decide +kernel⟩⟩
theorem mv_X2_followYear : MV yX2_followYear cX2_followYear 6 none 2 := ⟨u_mem 690 (by decide +kernel) rfl, u_mem 691 (by decide +kernel) rfl, u_mem 4 (by decide +kernel) rfl, u_mem 692 (by decide +kernel) rfl, ⟨by decide +kernel, by decide +kernel, by decide +kernel⟩⟩
theorem mv_X2_lostTowns : MV yX2_lostTowns cX2_lostTowns 3 (some .int) 0 := ⟨u_mem 698 (by decide +kernel) rfl, u_mem 699 (by decide +kernel) rfl, u_mem 4 (by decide +kernel) rfl, u_mem 700 (by decide +kernel) rfl, ⟨by decide +kernel, by decide +kernel, by decide +kernel⟩⟩
theorem mv_X10_keep : MV yX10_keep cX10_keep 1 (some .int) 0 := ⟨u_mem 702 (by decide +kernel) rfl, u_mem 703 (by decide +kernel) rfl, u_mem 1 (by decide +kernel) rfl, u_mem 704 (by decide +kernel) rfl, ⟨by decide +kernel, by decide +kernel, by decide +kernel⟩⟩
theorem mv_X7_put : MV yX7_put cX7_put 2 (some .boolean) 1 := ⟨u_mem 706 (by decide +kernel) rfl, u_mem 707 (by decide +kernel) rfl, u_mem 9 (by decide +kernel) rfl, u_mem 708 (by decide +kernel) rfl, ⟨by decide +kernel, by decide +kernel, by decide +kernel⟩⟩
theorem mv_X5_copy : MV yX5_copy cX5_copy 3 none 1 := ⟨u_mem 710 (by decide +kernel) rfl, u_mem 711 (by decide +kernel) rfl, u_mem 10 (by decide +kernel) rfl, u_mem 712 (by decide +kernel) rfl, ⟨by decide +kernel, by decide +kernel, by decide +kernel⟩⟩
theorem mv_X10_back : MV yX10_back cX10_back 1 (some .int) 0 := ⟨u_mem 714 (by decide +kernel) rfl, u_mem 715 (by decide +kernel) rfl, u_mem 1 (by decide +kernel) rfl, u_mem 716 (by decide +kernel) rfl, ⟨by decide +kernel, by decide +kernel, by decide +kernel⟩⟩
theorem mv_X7_take : MV yX7_take cX7_take 2 (some .boolean) 1 := ⟨u_mem 718 (by decide +kernel) rfl, u_mem 719 (by decide +kernel) rfl, u_mem 9 (by decide +kernel) rfl, u_mem 720 (by decide +kernel) rfl, ⟨by decide +kernel, by decide +kernel, by decide +kernel⟩⟩
theorem mv_X10_count : MV yX10_count cX10_count 2 (some .int) 1 := ⟨u_mem 722 (by decide +kernel) rfl, u_mem 723 (by decide +kernel) rfl, u_mem 1 (by decide +kernel) rfl, u_mem 724 (by decide +kernel) rfl, ⟨by decide +kernel, by decide +kernel, by decide +kernel⟩⟩
theorem mi_X11_init : MI yX11_init cX11_init 1 0 := ⟨u_mem 728 (by decide +kernel) rfl, by decide +kernel, u_mem 16 (by decide +kernel) rfl, u_mem 729 (by decide +kernel) rfl, ⟨by decide +kernel, by decide +kernel, by decide +kernel⟩⟩
theorem mv_X11_write : MV yX11_write cX11_write 5 (some .int) 2 := ⟨u_mem 832 (by decide +kernel) rfl, u_mem 833 (by decide +kernel) rfl, u_mem 16 (by decide +kernel) rfl, u_mem 834 (by decide +kernel) rfl, ⟨by decide +kernel, by decide +kernel, by decide +kernel⟩⟩
theorem ms_X11_in : MS yX11_in cX11_in 6 (some .boolean) 3 := ⟨u_mem 837 (by decide +kernel) rfl, u_mem 16 (by decide +kernel) rfl, u_mem 838 (by decide +kernel) rfl, ⟨by decide +kernel, by decide +kernel, by decide +kernel⟩⟩
theorem mv_X11_wipe : MV yX11_wipe cX11_wipe 2 (some .int) 0 := ⟨u_mem 841 (by decide +kernel) rfl, u_mem 842 (by decide +kernel) rfl, u_mem 16 (by decide +kernel) rfl, u_mem 843 (by decide +kernel) rfl, ⟨by decide +kernel, by decide +kernel, by decide +kernel⟩⟩
theorem mv_X11_fault : MV yX11_fault cX11_fault 1 (some .int) 0 := ⟨u_mem 845 (by decide +kernel) rfl, u_mem 846 (by decide +kernel) rfl, u_mem 16 (by decide +kernel) rfl, u_mem 847 (by decide +kernel) rfl, ⟨by decide +kernel, by decide +kernel, by decide +kernel⟩⟩
theorem mv_X11_readAll : MV yX11_readAll cX11_readAll 2 (some .int) 0 := ⟨u_mem 850 (by decide +kernel) rfl, u_sel (q := (yX11_readAll, 33)) (List.mem_of_getElem? (i := 20) (by decide +kernel)), u_mem 16 (by decide +kernel) rfl, u_mem 851 (by decide +kernel) rfl, ⟨by decide +kernel, by decide +kernel, by decide +kernel⟩⟩
theorem mv_X11_item : MV yX11_item cX11_item 2 (some .boolean) 0 := ⟨u_mem 854 (by decide +kernel) rfl, u_sel (q := (yX11_item, 33)) (List.mem_of_getElem? (i := 21) (by decide +kernel)), u_mem 16 (by decide +kernel) rfl, u_mem 855 (by decide +kernel) rfl, ⟨by decide +kernel, by decide +kernel, by decide +kernel⟩⟩
theorem mv_X11_byteAt : MV yX11_byteAt cX11_byteAt 2 (some .int) 1 := ⟨u_mem 858 (by decide +kernel) rfl, u_sel (q := (yX11_byteAt, 33)) (List.mem_of_getElem? (i := 22) (by decide +kernel)), u_mem 16 (by decide +kernel) rfl, u_mem 859 (by decide +kernel) rfl, ⟨by decide +kernel, by decide +kernel, by decide +kernel⟩⟩
theorem mv_X11_figures : MV yX11_figures cX11_figures 5 (some .boolean) 1 := ⟨u_mem 862 (by decide +kernel) rfl, u_sel (q := (yX11_figures, 33)) (List.mem_of_getElem? (i := 23) (by decide +kernel)), u_mem 16 (by decide +kernel) rfl, u_mem 863 (by decide +kernel) rfl, ⟨by decide +kernel, by decide +kernel, by decide +kernel⟩⟩
theorem mv_X11_isTownItem : MV yX11_isTownItem cX11_isTownItem 1 (some .boolean) 0 := ⟨u_mem 869 (by decide +kernel) rfl, u_sel (q := (yX11_isTownItem, 33)) (List.mem_of_getElem? (i := 24) (by decide +kernel)), u_mem 16 (by decide +kernel) rfl, u_mem 870 (by decide +kernel) rfl, ⟨by decide +kernel, by decide +kernel, by decide +kernel⟩⟩
theorem mv_X11_addErrand : MV yX11_addErrand cX11_addErrand 5 none 4 := ⟨u_mem 875 (by decide +kernel) rfl, u_sel (q := (yX11_addErrand, 33)) (List.mem_of_getElem? (i := 25) (by decide +kernel)), u_mem 16 (by decide +kernel) rfl, u_mem 876 (by decide +kernel) rfl, ⟨by decide +kernel, by decide +kernel, by decide +kernel⟩⟩
theorem mv_X11_lay : MV yX11_lay cX11_lay 2 (some .int) 0 := ⟨u_mem 878 (by decide +kernel) rfl, u_mem 879 (by decide +kernel) rfl, u_mem 16 (by decide +kernel) rfl, u_mem 880 (by decide +kernel) rfl, ⟨by decide +kernel, by decide +kernel, by decide +kernel⟩⟩
theorem mv_X11_areThere : MV yX11_areThere cX11_areThere 3 (some .boolean) 0 := ⟨u_mem 883 (by decide +kernel) rfl, u_sel (q := (yX11_areThere, 33)) (List.mem_of_getElem? (i := 26) (by decide +kernel)), u_mem 16 (by decide +kernel) rfl, u_mem 884 (by decide +kernel) rfl, ⟨by decide +kernel, by decide +kernel, by decide +kernel⟩⟩
theorem mv_X11_copy : MV yX11_copy cX11_copy 4 none 2 := ⟨u_mem 887 (by decide +kernel) rfl, u_sel (q := (yX11_copy, 33)) (List.mem_of_getElem? (i := 27) (by decide +kernel)), u_mem 16 (by decide +kernel) rfl, u_mem 888 (by decide +kernel) rfl, ⟨by decide +kernel, by decide +kernel, by decide +kernel⟩⟩
theorem mv_X11_level : MV yX11_level cX11_level 3 (some .int) 2 := ⟨u_mem 890 (by decide +kernel) rfl, u_mem 891 (by decide +kernel) rfl, u_mem 16 (by decide +kernel) rfl, u_mem 892 (by decide +kernel) rfl, ⟨by decide +kernel, by decide +kernel, by decide +kernel⟩⟩
theorem mv_X11_isLevel : MV yX11_isLevel cX11_isLevel 2 (some .boolean) 1 := ⟨u_mem 895 (by decide +kernel) rfl, u_sel (q := (yX11_isLevel, 33)) (List.mem_of_getElem? (i := 28) (by decide +kernel)), u_mem 16 (by decide +kernel) rfl, u_mem 896 (by decide +kernel) rfl, ⟨by decide +kernel, by decide +kernel, by decide +kernel⟩⟩
theorem mv_X11_town : MV yX11_town cX11_town 4 (some .int) 3 := ⟨u_mem 898 (by decide +kernel) rfl, u_mem 899 (by decide +kernel) rfl, u_mem 16 (by decide +kernel) rfl, u_mem 900 (by decide +kernel) rfl, ⟨by decide +kernel, by decide +kernel, by decide +kernel⟩⟩
theorem mv_X11_isTown : MV yX11_isTown cX11_isTown 2 (some .boolean) 1 := ⟨u_mem 903 (by decide +kernel) rfl, u_sel (q := (yX11_isTown, 33)) (List.mem_of_getElem? (i := 29) (by decide +kernel)), u_mem 16 (by decide +kernel) rfl, u_mem 904 (by decide +kernel) rfl, ⟨by decide +kernel, by decide +kernel, by decide +kernel⟩⟩
theorem mv_X11_go : MV yX11_go cX11_go 2 none 1 := ⟨u_mem 907 (by decide +kernel) rfl, u_sel (q := (yX11_go, 33)) (List.mem_of_getElem? (i := 30) (by decide +kernel)), u_mem 16 (by decide +kernel) rfl, u_mem 908 (by decide +kernel) rfl, ⟨by decide +kernel, by decide +kernel, by decide +kernel⟩⟩
theorem mv_X11_begin : MV yX11_begin cX11_begin 2 none 0 := ⟨u_mem 911 (by decide +kernel) rfl, u_sel (q := (yX11_begin, 33)) (List.mem_of_getElem? (i := 31) (by decide +kernel)), u_mem 16 (by decide +kernel) rfl, u_mem 912 (by decide +kernel) rfl, ⟨by decide +kernel, by decide +kernel, by decide +kernel⟩⟩
theorem mv_X11_goDay : MV yX11_goDay cX11_goDay 2 none 0 := ⟨u_mem 915 (by decide +kernel) rfl, u_sel (q := (yX11_goDay, 33)) (List.mem_of_getElem? (i := 32) (by decide +kernel)), u_mem 16 (by decide +kernel) rfl, u_mem 916 (by decide +kernel) rfl, ⟨by decide +kernel, by decide +kernel, by decide +kernel⟩⟩
theorem mv_X11_goBy : MV yX11_goBy cX11_goBy 3 none 2 := ⟨u_mem 919 (by decide +kernel) rfl, u_sel (q := (yX11_goBy, 33)) (List.mem_of_getElem? (i := 33) (by decide +kernel)), u_mem 16 (by decide +kernel) rfl, u_mem 920 (by decide +kernel) rfl, ⟨by decide +kernel, by decide +kernel, by decide +kernel⟩⟩
theorem mv_X11_leftOf : MV yX11_leftOf cX11_leftOf 8 (some .int) 4 := ⟨u_mem 923 (by decide +kernel) rfl, u_sel (q := (yX11_leftOf, 33)) (List.mem_of_getElem? (i := 34) (by decide +kernel)), u_mem 16 (by decide +kernel) rfl, u_mem 924 (by decide +kernel) rfl, ⟨by decide +kernel, by decide +kernel, by decide +kernel⟩⟩
theorem mv_X11_lost : MV yX11_lost cX11_lost 2 (some .int) 1 := ⟨u_mem 926 (by decide +kernel) rfl, u_mem 927 (by decide +kernel) rfl, u_mem 16 (by decide +kernel) rfl, u_mem 928 (by decide +kernel) rfl, ⟨by decide +kernel, by decide +kernel, by decide +kernel⟩⟩
theorem mv_X11_meet : MV yX11_meet cX11_meet 3 (some .int) 2 := ⟨u_mem 930 (by decide +kernel) rfl, u_mem 931 (by decide +kernel) rfl, u_mem 16 (by decide +kernel) rfl, u_mem 932 (by decide +kernel) rfl, ⟨by decide +kernel, by decide +kernel, by decide +kernel⟩⟩
theorem mv_X11_areTogether : MV yX11_areTogether cX11_areTogether 3 (some .boolean) 2 := ⟨u_mem 935 (by decide +kernel) rfl, u_sel (q := (yX11_areTogether, 33)) (List.mem_of_getElem? (i := 35) (by decide +kernel)), u_mem 16 (by decide +kernel) rfl, u_mem 936 (by decide +kernel) rfl, ⟨by decide +kernel, by decide +kernel, by decide +kernel⟩⟩
theorem mv_X11_markets : MV yX11_markets cX11_markets 2 (some .int) 1 := ⟨u_mem 938 (by decide +kernel) rfl, u_mem 939 (by decide +kernel) rfl, u_mem 16 (by decide +kernel) rfl, u_mem 940 (by decide +kernel) rfl, ⟨by decide +kernel, by decide +kernel, by decide +kernel⟩⟩
theorem mv_X11_marketsTo : MV yX11_marketsTo cX11_marketsTo 3 (some .int) 1 := ⟨u_mem 943 (by decide +kernel) rfl, u_sel (q := (yX11_marketsTo, 33)) (List.mem_of_getElem? (i := 36) (by decide +kernel)), u_mem 16 (by decide +kernel) rfl, u_mem 944 (by decide +kernel) rfl, ⟨by decide +kernel, by decide +kernel, by decide +kernel⟩⟩
theorem mv_X11_pairs : MV yX11_pairs cX11_pairs 4 (some .int) 0 := ⟨u_mem 947 (by decide +kernel) rfl, u_sel (q := (yX11_pairs, 33)) (List.mem_of_getElem? (i := 37) (by decide +kernel)), u_mem 16 (by decide +kernel) rfl, u_mem 948 (by decide +kernel) rfl, ⟨by decide +kernel, by decide +kernel, by decide +kernel⟩⟩
theorem mv_X11_stay : MV yX11_stay cX11_stay 8 (some .int) 3 := ⟨u_mem 950 (by decide +kernel) rfl, u_mem 951 (by decide +kernel) rfl, u_mem 16 (by decide +kernel) rfl, u_mem 952 (by decide +kernel) rfl, ⟨by decide +kernel, by decide +kernel, by decide +kernel⟩⟩
theorem mv_X11_catches : MV yX11_catches cX11_catches 5 (some .int) 3 := ⟨u_mem 954 (by decide +kernel) rfl, u_mem 955 (by decide +kernel) rfl, u_mem 16 (by decide +kernel) rfl, u_mem 956 (by decide +kernel) rfl, ⟨by decide +kernel, by decide +kernel, by decide +kernel⟩⟩
theorem mv_X11_carryAll : MV yX11_carryAll cX11_carryAll 5 none 1 := ⟨u_mem 959 (by decide +kernel) rfl, u_sel (q := (yX11_carryAll, 33)) (List.mem_of_getElem? (i := 38) (by decide +kernel)), u_mem 16 (by decide +kernel) rfl, u_mem 960 (by decide +kernel) rfl, ⟨by decide +kernel, by decide +kernel, by decide +kernel⟩⟩
theorem mv_X11_carry : MV yX11_carry cX11_carry 6 none 4 := ⟨u_mem 963 (by decide +kernel) rfl, u_sel (q := (yX11_carry, 33)) (List.mem_of_getElem? (i := 39) (by decide +kernel)), u_mem 16 (by decide +kernel) rfl, u_mem 964 (by decide +kernel) rfl, ⟨by decide +kernel, by decide +kernel, by decide +kernel⟩⟩
theorem ms_X11_highest : MS yX11_highest cX11_highest 3 (some .int) 1 := ⟨u_mem 966 (by decide +kernel) rfl, u_mem 16 (by decide +kernel) rfl, u_mem 967 (by decide +kernel) rfl, ⟨by decide +kernel, by decide +kernel, by decide +kernel⟩⟩
theorem mv_X11_keeps : MV yX11_keeps cX11_keeps 8 (some .int) 3 := ⟨u_mem 969 (by decide +kernel) rfl, u_mem 970 (by decide +kernel) rfl, u_mem 16 (by decide +kernel) rfl, u_mem 971 (by decide +kernel) rfl, ⟨by decide +kernel, by decide +kernel, by decide +kernel⟩⟩
theorem mv_X11_trades : MV yX11_trades cX11_trades 9 (some .int) 3 := ⟨u_mem 973 (by decide +kernel) rfl, u_mem 974 (by decide +kernel) rfl, u_mem 16 (by decide +kernel) rfl, u_mem 975 (by decide +kernel) rfl, ⟨by decide +kernel, by decide +kernel, by decide +kernel⟩⟩
theorem mv_X11_tradesOf : MV yX11_tradesOf cX11_tradesOf 5 (some .int) 2 := ⟨u_mem 978 (by decide +kernel) rfl, u_sel (q := (yX11_tradesOf, 33)) (List.mem_of_getElem? (i := 40) (by decide +kernel)), u_mem 16 (by decide +kernel) rfl, u_mem 979 (by decide +kernel) rfl, ⟨by decide +kernel, by decide +kernel, by decide +kernel⟩⟩
theorem mv_X11_dropped : MV yX11_dropped cX11_dropped 8 (some .int) 4 := ⟨u_mem 981 (by decide +kernel) rfl, u_mem 982 (by decide +kernel) rfl, u_mem 16 (by decide +kernel) rfl, u_mem 983 (by decide +kernel) rfl, ⟨by decide +kernel, by decide +kernel, by decide +kernel⟩⟩
theorem ms_X11_isPlace : MS yX11_isPlace cX11_isPlace 1 (some .boolean) 1 := ⟨u_mem 985 (by decide +kernel) rfl, u_mem 16 (by decide +kernel) rfl, u_mem 986 (by decide +kernel) rfl, ⟨by decide +kernel, by decide +kernel, by decide +kernel⟩⟩
theorem mv_X11_seen : MV yX11_seen cX11_seen 4 (some .int) 3 := ⟨u_mem 989 (by decide +kernel) rfl, u_mem 990 (by decide +kernel) rfl, u_mem 16 (by decide +kernel) rfl, u_mem 991 (by decide +kernel) rfl, ⟨by decide +kernel, by decide +kernel, by decide +kernel⟩⟩
theorem ms_X11_isSeen : MS yX11_isSeen cX11_isSeen 3 (some .boolean) 3 := ⟨u_mem 993 (by decide +kernel) rfl, u_mem 16 (by decide +kernel) rfl, u_mem 994 (by decide +kernel) rfl, ⟨by decide +kernel, by decide +kernel, by decide +kernel⟩⟩
theorem mv_X11_levelsOf : MV yX11_levelsOf cX11_levelsOf 6 (some .int) 3 := ⟨u_mem 998 (by decide +kernel) rfl, u_sel (q := (yX11_levelsOf, 33)) (List.mem_of_getElem? (i := 41) (by decide +kernel)), u_mem 16 (by decide +kernel) rfl, u_mem 999 (by decide +kernel) rfl, ⟨by decide +kernel, by decide +kernel, by decide +kernel⟩⟩
theorem mv_X11_seenTwice : MV yX11_seenTwice cX11_seenTwice 6 (some .int) 5 := ⟨u_mem 1001 (by decide +kernel) rfl, u_mem 1002 (by decide +kernel) rfl, u_mem 16 (by decide +kernel) rfl, u_mem 1003 (by decide +kernel) rfl, ⟨by decide +kernel, by decide +kernel, by decide +kernel⟩⟩
theorem mv_X11_gusts : MV yX11_gusts cX11_gusts 14 (some .long) 5 := ⟨u_mem 1005 (by decide +kernel) rfl, u_mem 1006 (by decide +kernel) rfl, u_mem 16 (by decide +kernel) rfl, u_mem 1007 (by decide +kernel) rfl, ⟨by decide +kernel, by decide +kernel, by decide +kernel⟩⟩
theorem mv_X11_errand : MV yX11_errand cX11_errand 4 (some .int) 3 := ⟨u_mem 1011 (by decide +kernel) rfl, u_mem 1012 (by decide +kernel) rfl, u_mem 16 (by decide +kernel) rfl, u_mem 1013 (by decide +kernel) rfl, ⟨by decide +kernel, by decide +kernel, by decide +kernel⟩⟩
theorem mv_X11_note : MV yX11_note cX11_note 4 none 2 := ⟨u_mem 1016 (by decide +kernel) rfl, u_sel (q := (yX11_note, 33)) (List.mem_of_getElem? (i := 42) (by decide +kernel)), u_mem 16 (by decide +kernel) rfl, u_mem 1017 (by decide +kernel) rfl, ⟨by decide +kernel, by decide +kernel, by decide +kernel⟩⟩
theorem mv_X11_fill : MV yX11_fill cX11_fill 4 (some .int) 2 := ⟨u_mem 1019 (by decide +kernel) rfl, u_mem 1020 (by decide +kernel) rfl, u_mem 16 (by decide +kernel) rfl, u_mem 1021 (by decide +kernel) rfl, ⟨by decide +kernel, by decide +kernel, by decide +kernel⟩⟩
theorem mv_X11_undo : MV yX11_undo cX11_undo 2 (some .int) 0 := ⟨u_mem 1023 (by decide +kernel) rfl, u_mem 1024 (by decide +kernel) rfl, u_mem 16 (by decide +kernel) rfl, u_mem 1025 (by decide +kernel) rfl, ⟨by decide +kernel, by decide +kernel, by decide +kernel⟩⟩
theorem mv_X11_year : MV yX11_year cX11_year 6 (some .int) 2 := ⟨u_mem 1027 (by decide +kernel) rfl, u_mem 1028 (by decide +kernel) rfl, u_mem 16 (by decide +kernel) rfl, u_mem 1029 (by decide +kernel) rfl, ⟨by decide +kernel, by decide +kernel, by decide +kernel⟩⟩
theorem mv_X11_keep : MV yX11_keep cX11_keep 1 (some .int) 0 := ⟨u_mem 1036 (by decide +kernel) rfl, u_mem 1037 (by decide +kernel) rfl, u_mem 16 (by decide +kernel) rfl, u_mem 1038 (by decide +kernel) rfl, ⟨by decide +kernel, by decide +kernel, by decide +kernel⟩⟩
theorem mv_X11_back : MV yX11_back cX11_back 1 (some .int) 0 := ⟨u_mem 1040 (by decide +kernel) rfl, u_mem 1041 (by decide +kernel) rfl, u_mem 16 (by decide +kernel) rfl, u_mem 1042 (by decide +kernel) rfl, ⟨by decide +kernel, by decide +kernel, by decide +kernel⟩⟩
theorem mv_X11_count : MV yX11_count cX11_count 2 (some .int) 1 := ⟨u_mem 1044 (by decide +kernel) rfl, u_mem 1045 (by decide +kernel) rfl, u_mem 16 (by decide +kernel) rfl, u_mem 1046 (by decide +kernel) rfl, ⟨by decide +kernel, by decide +kernel, by decide +kernel⟩⟩
/-! rooms: the frames above a method, and their words -/
abbrev rmX0_hunt : Room := { frames := 5, cells := 0, slots := 0, locals := 133 }
abbrev rmX0_cell : Room := { frames := 0, cells := 0, slots := 0, locals := 0 }
abbrev rmX0_empty : Room := { frames := 0, cells := 0, slots := 0, locals := 0 }
abbrev rmX0_passDay : Room := { frames := 4, cells := 0, slots := 0, locals := 107 }
abbrev rmX0_leave : Room := { frames := 3, cells := 0, slots := 0, locals := 81 }
abbrev rmX0_sink : Room := { frames := 2, cells := 0, slots := 0, locals := 55 }
abbrev rmX0_arrive : Room := { frames := 1, cells := 0, slots := 0, locals := 24 }
abbrev rmX0_halved : Room := { frames := 0, cells := 0, slots := 0, locals := 0 }
abbrev rmX0_highest : Room := { frames := 0, cells := 0, slots := 0, locals := 0 }
abbrev rmX1_follow : Room := { frames := 2, cells := 0, slots := 0, locals := 46 }
abbrev rmX1_note : Room := { frames := 0, cells := 0, slots := 0, locals := 0 }
abbrev rmX1_runErrands : Room := { frames := 1, cells := 0, slots := 0, locals := 21 }
abbrev rmX1_sinkWithoutGas : Room := { frames := 0, cells := 0, slots := 0, locals := 0 }
abbrev rmX1_goOn : Room := { frames := 1, cells := 0, slots := 0, locals := 23 }
abbrev rmX1_floats : Room := { frames := 0, cells := 0, slots := 0, locals := 0 }
abbrev rmX1_meets : Room := { frames := 1, cells := 0, slots := 0, locals := 21 }
abbrev rmX2_followAsTold : Room := { frames := 3, cells := 0, slots := 0, locals := 71 }
abbrev rmX2_followYear : Room := { frames := 3, cells := 0, slots := 0, locals := 71 }
abbrev rmX2_allMarkets : Room := { frames := 3, cells := 0, slots := 0, locals := 69 }
abbrev rmX2_marketsWith : Room := { frames := 2, cells := 0, slots := 0, locals := 43 }
abbrev rmX2_lostTowns : Room := { frames := 0, cells := 0, slots := 0, locals := 0 }
abbrev rmX3_clear : Room := { frames := 0, cells := 0, slots := 0, locals := 0 }
abbrev rmX3_note : Room := { frames := 1, cells := 0, slots := 0, locals := 21 }
abbrev rmX3_forgetOldest : Room := { frames := 0, cells := 0, slots := 0, locals := 0 }
abbrev rmX3_takeBack : Room := { frames := 1, cells := 0, slots := 0, locals := 20 }
abbrev rmX4_reckon : Room := { frames := 2, cells := 0, slots := 0, locals := 44 }
abbrev rmX4_gust : Room := { frames := 1, cells := 0, slots := 0, locals := 21 }
abbrev rmX4_reduce : Room := { frames := 1, cells := 0, slots := 0, locals := 21 }
abbrev rmX4_leaveOut : Room := { frames := 0, cells := 0, slots := 0, locals := 0 }
abbrev rmX5_tell : Room := { frames := 0, cells := 0, slots := 0, locals := 0 }
abbrev rmX5_dropLatestErrand : Room := { frames := 0, cells := 0, slots := 0, locals := 0 }
abbrev rmX5_copy : Room := { frames := 0, cells := 0, slots := 0, locals := 0 }
abbrev rmX6_read : Room := { frames := 4, cells := 0, slots := 0, locals := 89 }
abbrev rmX6_readNumbers : Room := { frames := 2, cells := 0, slots := 0, locals := 43 }
abbrev rmX6_readNumber : Room := { frames := 1, cells := 0, slots := 0, locals := 21 }
abbrev rmX6_isFigure : Room := { frames := 0, cells := 0, slots := 0, locals := 0 }
abbrev rmX6_tell : Room := { frames := 3, cells := 0, slots := 0, locals := 67 }
abbrev rmX7_clear : Room := { frames := 0, cells := 0, slots := 0, locals := 0 }
abbrev rmX7_put : Room := { frames := 1, cells := 0, slots := 0, locals := 22 }
abbrev rmX7_take : Room := { frames := 1, cells := 0, slots := 0, locals := 22 }
abbrev rmX8_clear : Room := { frames := 0, cells := 0, slots := 0, locals := 0 }
abbrev rmX8_addLevel : Room := { frames := 1, cells := 0, slots := 0, locals := 22 }
abbrev rmX8_addTown : Room := { frames := 2, cells := 0, slots := 0, locals := 42 }
abbrev rmX8_addErrand : Room := { frames := 1, cells := 0, slots := 0, locals := 23 }
abbrev rmX8_addLightning : Room := { frames := 1, cells := 0, slots := 0, locals := 22 }
abbrev rmX8_isWhole : Room := { frames := 0, cells := 0, slots := 0, locals := 0 }
abbrev rmX8_isStruck : Room := { frames := 0, cells := 0, slots := 0, locals := 0 }
abbrev rmX8_dailyLoss : Room := { frames := 0, cells := 0, slots := 0, locals := 0 }
abbrev rmX9_append : Room := { frames := 0, cells := 0, slots := 0, locals := 0 }
abbrev rmX9_clear : Room := { frames := 0, cells := 0, slots := 0, locals := 0 }
abbrev rmX9_at : Room := { frames := 0, cells := 0, slots := 0, locals := 0 }
abbrev rmX10_write : Room := { frames := 1, cells := 0, slots := 0, locals := 21 }
abbrev rmX10_wipe : Room := { frames := 1, cells := 0, slots := 0, locals := 20 }
abbrev rmX10_fault : Room := { frames := 5, cells := 0, slots := 0, locals := 113 }
abbrev rmX10_lay : Room := { frames := 5, cells := 0, slots := 0, locals := 113 }
abbrev rmX10_level : Room := { frames := 2, cells := 0, slots := 0, locals := 43 }
abbrev rmX10_town : Room := { frames := 5, cells := 0, slots := 0, locals := 113 }
abbrev rmX10_lost : Room := { frames := 5, cells := 0, slots := 0, locals := 113 }
abbrev rmX10_meet : Room := { frames := 5, cells := 0, slots := 0, locals := 113 }
abbrev rmX10_markets : Room := { frames := 5, cells := 0, slots := 0, locals := 113 }
abbrev rmX10_stay : Room := { frames := 3, cells := 0, slots := 0, locals := 65 }
abbrev rmX10_catches : Room := { frames := 6, cells := 0, slots := 0, locals := 159 }
abbrev rmX10_keeps : Room := { frames := 3, cells := 0, slots := 0, locals := 71 }
abbrev rmX10_trades : Room := { frames := 5, cells := 0, slots := 0, locals := 113 }
abbrev rmX10_dropped : Room := { frames := 2, cells := 0, slots := 0, locals := 43 }
abbrev rmX10_seen : Room := { frames := 2, cells := 0, slots := 0, locals := 46 }
abbrev rmX10_seenTwice : Room := { frames := 2, cells := 0, slots := 0, locals := 46 }
abbrev rmX10_gusts : Room := { frames := 3, cells := 0, slots := 0, locals := 70 }
abbrev rmX10_errand : Room := { frames := 2, cells := 0, slots := 0, locals := 43 }
abbrev rmX10_fill : Room := { frames := 2, cells := 0, slots := 0, locals := 43 }
abbrev rmX10_undo : Room := { frames := 2, cells := 0, slots := 0, locals := 41 }
abbrev rmX10_year : Room := { frames := 4, cells := 0, slots := 0, locals := 96 }
abbrev rmX10_keep : Room := { frames := 2, cells := 0, slots := 0, locals := 43 }
abbrev rmX10_back : Room := { frames := 2, cells := 0, slots := 0, locals := 43 }
abbrev rmX10_count : Room := { frames := 0, cells := 0, slots := 0, locals := 0 }
abbrev rmX10_isWithin : Room := { frames := 0, cells := 0, slots := 0, locals := 0 }
abbrev rmX10_isPlace : Room := { frames := 1, cells := 0, slots := 0, locals := 22 }
abbrev rmX10_isLevel : Room := { frames := 1, cells := 0, slots := 0, locals := 22 }
abbrev rmX10_isTown : Room := { frames := 1, cells := 0, slots := 0, locals := 22 }
abbrev rmX10_areTwoTowns : Room := { frames := 2, cells := 0, slots := 0, locals := 43 }
abbrev rmX10_followed : Room := { frames := 4, cells := 0, slots := 0, locals := 93 }
abbrev rmX10_round : Room := { frames := 0, cells := 0, slots := 0, locals := 0 }
abbrev rmX10_firstDayOf : Room := { frames := 1, cells := 0, slots := 0, locals := 21 }
abbrev rmX10_fitting : Room := { frames := 1, cells := 0, slots := 0, locals := 21 }
abbrev rmX11_in : Room := { frames := 0, cells := 0, slots := 0, locals := 0 }
abbrev rmX11_write : Room := { frames := 1, cells := 0, slots := 0, locals := 25 }
abbrev rmX11_wipe : Room := { frames := 0, cells := 0, slots := 0, locals := 0 }
abbrev rmX11_byteAt : Room := { frames := 0, cells := 0, slots := 0, locals := 0 }
abbrev rmX11_figures : Room := { frames := 1, cells := 0, slots := 0, locals := 25 }
abbrev rmX11_isTownItem : Room := { frames := 1, cells := 0, slots := 0, locals := 25 }
abbrev rmX11_addErrand : Room := { frames := 0, cells := 0, slots := 0, locals := 0 }
abbrev rmX11_item : Room := { frames := 2, cells := 0, slots := 0, locals := 49 }
abbrev rmX11_readAll : Room := { frames := 3, cells := 0, slots := 0, locals := 70 }
abbrev rmX11_fault : Room := { frames := 4, cells := 0, slots := 0, locals := 91 }
abbrev rmX11_areThere : Room := { frames := 0, cells := 0, slots := 0, locals := 0 }
abbrev rmX11_copy : Room := { frames := 0, cells := 0, slots := 0, locals := 0 }
abbrev rmX11_lay : Room := { frames := 4, cells := 0, slots := 0, locals := 91 }
abbrev rmX11_isLevel : Room := { frames := 1, cells := 0, slots := 0, locals := 25 }
abbrev rmX11_isTown : Room := { frames := 1, cells := 0, slots := 0, locals := 25 }
abbrev rmX11_level : Room := { frames := 2, cells := 0, slots := 0, locals := 46 }
abbrev rmX11_begin : Room := { frames := 0, cells := 0, slots := 0, locals := 0 }
abbrev rmX11_goBy : Room := { frames := 0, cells := 0, slots := 0, locals := 0 }
abbrev rmX11_leftOf : Room := { frames := 0, cells := 0, slots := 0, locals := 0 }
abbrev rmX11_goDay : Room := { frames := 1, cells := 0, slots := 0, locals := 27 }
abbrev rmX11_go : Room := { frames := 2, cells := 0, slots := 0, locals := 48 }
abbrev rmX11_areTogether : Room := { frames := 0, cells := 0, slots := 0, locals := 0 }
abbrev rmX11_pairs : Room := { frames := 1, cells := 0, slots := 0, locals := 22 }
abbrev rmX11_town : Room := { frames := 3, cells := 0, slots := 0, locals := 69 }
abbrev rmX11_lost : Room := { frames := 3, cells := 0, slots := 0, locals := 69 }
abbrev rmX11_meet : Room := { frames := 2, cells := 0, slots := 0, locals := 48 }
abbrev rmX11_marketsTo : Room := { frames := 2, cells := 0, slots := 0, locals := 48 }
abbrev rmX11_markets : Room := { frames := 3, cells := 0, slots := 0, locals := 70 }
abbrev rmX11_stay : Room := { frames := 2, cells := 0, slots := 0, locals := 46 }
abbrev rmX11_carry : Room := { frames := 1, cells := 0, slots := 0, locals := 27 }
abbrev rmX11_carryAll : Room := { frames := 2, cells := 0, slots := 0, locals := 52 }
abbrev rmX11_highest : Room := { frames := 0, cells := 0, slots := 0, locals := 0 }
abbrev rmX11_catches : Room := { frames := 3, cells := 0, slots := 0, locals := 76 }
abbrev rmX11_keeps : Room := { frames := 3, cells := 0, slots := 0, locals := 69 }
abbrev rmX11_tradesOf : Room := { frames := 2, cells := 0, slots := 0, locals := 48 }
abbrev rmX11_trades : Room := { frames := 3, cells := 0, slots := 0, locals := 72 }
abbrev rmX11_isPlace : Room := { frames := 1, cells := 0, slots := 0, locals := 25 }
abbrev rmX11_dropped : Room := { frames := 2, cells := 0, slots := 0, locals := 46 }
abbrev rmX11_levelsOf : Room := { frames := 0, cells := 0, slots := 0, locals := 0 }
abbrev rmX11_isSeen : Room := { frames := 2, cells := 0, slots := 0, locals := 45 }
abbrev rmX11_seen : Room := { frames := 3, cells := 0, slots := 0, locals := 67 }
abbrev rmX11_seenTwice : Room := { frames := 3, cells := 0, slots := 0, locals := 67 }
abbrev rmX11_gusts : Room := { frames := 2, cells := 0, slots := 0, locals := 46 }
abbrev rmX11_note : Room := { frames := 0, cells := 0, slots := 0, locals := 0 }
abbrev rmX11_errand : Room := { frames := 2, cells := 0, slots := 0, locals := 46 }
abbrev rmX11_fill : Room := { frames := 2, cells := 0, slots := 0, locals := 46 }
abbrev rmX11_undo : Room := { frames := 0, cells := 0, slots := 0, locals := 0 }
abbrev rmX11_year : Room := { frames := 3, cells := 0, slots := 0, locals := 70 }
abbrev rmX11_keep : Room := { frames := 1, cells := 0, slots := 0, locals := 23 }
abbrev rmX11_back : Room := { frames := 1, cells := 0, slots := 0, locals := 23 }
abbrev rmX11_count : Room := { frames := 0, cells := 0, slots := 0, locals := 0 }
/-! other words -/
theorem iz_L : Cond.initialized RL ∈ U := u_mem 0 (by decide +kernel) rfl
theorem iz_X10 : Cond.initialized RX10 ∈ U := u_mem 1 (by decide +kernel) rfl
theorem iz_X9 : Cond.initialized RX9 ∈ U := u_mem 2 (by decide +kernel) rfl
theorem iz_X6 : Cond.initialized RX6 ∈ U := u_mem 3 (by decide +kernel) rfl
theorem iz_X2 : Cond.initialized RX2 ∈ U := u_mem 4 (by decide +kernel) rfl
theorem iz_X1 : Cond.initialized RX1 ∈ U := u_mem 5 (by decide +kernel) rfl
theorem iz_X0 : Cond.initialized RX0 ∈ U := u_mem 6 (by decide +kernel) rfl
theorem iz_X4 : Cond.initialized RX4 ∈ U := u_mem 7 (by decide +kernel) rfl
theorem iz_X3 : Cond.initialized RX3 ∈ U := u_mem 8 (by decide +kernel) rfl
theorem iz_X7 : Cond.initialized RX7 ∈ U := u_mem 9 (by decide +kernel) rfl
theorem iz_X5 : Cond.initialized RX5 ∈ U := u_mem 10 (by decide +kernel) rfl
theorem iz_X8 : Cond.initialized RX8 ∈ U := u_mem 11 (by decide +kernel) rfl
theorem iz_J0 : Cond.initialized RJ0 ∈ U := u_mem 12 (by decide +kernel) rfl
theorem iz_J1 : Cond.initialized RJ1 ∈ U := u_mem 13 (by decide +kernel) rfl
theorem iz_J3 : Cond.initialized RJ3 ∈ U := u_mem 14 (by decide +kernel) rfl
theorem iz_J2 : Cond.initialized RJ2 ∈ U := u_mem 15 (by decide +kernel) rfl
theorem iz_X11 : Cond.initialized RX11 ∈ U := u_mem 16 (by decide +kernel) rfl
theorem iz_J9 : Cond.initialized RJ9 ∈ U := u_mem 17 (by decide +kernel) rfl
theorem cl_L_7 : Cond.classLink RL 7 RX10 ∈ U := u_mem 18 (by decide +kernel) rfl
theorem ia_X10 : Cond.instantiable RX10 12 ∈ U := u_mem 19 (by decide +kernel) rfl
theorem cl_X10_7 : Cond.classLink RX10 7 RX9 ∈ U := u_mem 26 (by decide +kernel) rfl
theorem ia_X9 : Cond.instantiable RX9 2 ∈ U := u_mem 27 (by decide +kernel) rfl
theorem ac_int : Cond.arrayClass .int ∈ U := u_mem 41 (by decide +kernel) rfl
theorem cl_X10_16 : Cond.classLink RX10 16 RX6 ∈ U := u_mem 42 (by decide +kernel) rfl
theorem ia_X6 : Cond.instantiable RX6 3 ∈ U := u_mem 43 (by decide +kernel) rfl
theorem cl_X10_23 : Cond.classLink RX10 23 RX2 ∈ U := u_mem 58 (by decide +kernel) rfl
theorem ia_X2 : Cond.instantiable RX2 2 ∈ U := u_mem 59 (by decide +kernel) rfl
theorem cl_X2_9 : Cond.classLink RX2 9 RX1 ∈ U := u_mem 64 (by decide +kernel) rfl
theorem ia_X1 : Cond.instantiable RX1 7 ∈ U := u_mem 66 (by decide +kernel) rfl
theorem cl_X10_33 : Cond.classLink RX10 33 RX1 ∈ U := u_mem 108 (by decide +kernel) rfl
theorem cl_X10_40 : Cond.classLink RX10 40 RX0 ∈ U := u_mem 110 (by decide +kernel) rfl
theorem ia_X0 : Cond.instantiable RX0 4 ∈ U := u_mem 111 (by decide +kernel) rfl
theorem ac_long : Cond.arrayClass .long ∈ U := u_mem 131 (by decide +kernel) rfl
theorem cl_X10_47 : Cond.classLink RX10 47 RX4 ∈ U := u_mem 132 (by decide +kernel) rfl
theorem ia_X4 : Cond.instantiable RX4 4 ∈ U := u_mem 133 (by decide +kernel) rfl
theorem cl_X10_54 : Cond.classLink RX10 54 RX3 ∈ U := u_mem 153 (by decide +kernel) rfl
theorem ia_X3 : Cond.instantiable RX3 3 ∈ U := u_mem 154 (by decide +kernel) rfl
theorem cl_X10_61 : Cond.classLink RX10 61 RX7 ∈ U := u_mem 170 (by decide +kernel) rfl
theorem ia_X7 : Cond.instantiable RX7 2 ∈ U := u_mem 171 (by decide +kernel) rfl
theorem cl_X7_9 : Cond.classLink RX7 9 RX5 ∈ U := u_mem 176 (by decide +kernel) rfl
theorem ia_X5 : Cond.instantiable RX5 5 ∈ U := u_mem 178 (by decide +kernel) rfl
theorem ac_boolean : Cond.arrayClass .boolean ∈ U := u_mem 210 (by decide +kernel) rfl
theorem cl_X10_68 : Cond.classLink RX10 68 RX8 ∈ U := u_mem 219 (by decide +kernel) rfl
theorem ia_X8 : Cond.instantiable RX8 12 ∈ U := u_mem 220 (by decide +kernel) rfl
theorem cl_X8_36 : Cond.classLink RX8 36 RX5 ∈ U := u_mem 225 (by decide +kernel) rfl
theorem ac_byte : Cond.arrayClass .byte ∈ U := u_mem 433 (by decide +kernel) rfl
theorem kl_X0_83 : Cond.constantLong RX0 83 (-2) ∈ U := u_mem 589 (by decide +kernel) rfl
theorem kl_X10_209 : Cond.constantLong RX10 209 (-1) ∈ U := u_mem 634 (by decide +kernel) rfl
theorem kl_X4_26 : Cond.constantLong RX4 26 (10) ∈ U := u_mem 647 (by decide +kernel) rfl
theorem kl_X2_38 : Cond.constantLong RX2 38 (7919) ∈ U := u_mem 693 (by decide +kernel) rfl
theorem kl_X2_40 : Cond.constantLong RX2 40 (6151) ∈ U := u_mem 694 (by decide +kernel) rfl
theorem kl_X2_42 : Cond.constantLong RX2 42 (65521) ∈ U := u_mem 695 (by decide +kernel) rfl
theorem kl_X2_44 : Cond.constantLong RX2 44 (24) ∈ U := u_mem 696 (by decide +kernel) rfl
theorem cl_L_10 : Cond.classLink RL 10 RX11 ∈ U := u_mem 725 (by decide +kernel) rfl
theorem ia_X11 : Cond.instantiable RX11 33 ∈ U := u_mem 726 (by decide +kernel) rfl
theorem kl_X11_95 : Cond.constantLong RX11 95 (8) ∈ U := u_mem 835 (by decide +kernel) rfl
theorem kl_X11_105 : Cond.constantLong RX11 105 (255) ∈ U := u_mem 839 (by decide +kernel) rfl
theorem kl_X11_114 : Cond.constantLong RX11 114 (48) ∈ U := u_mem 864 (by decide +kernel) rfl
theorem kl_X11_116 : Cond.constantLong RX11 116 (57) ∈ U := u_mem 865 (by decide +kernel) rfl
theorem kl_X11_118 : Cond.constantLong RX11 118 (2) ∈ U := u_mem 866 (by decide +kernel) rfl
theorem kl_X11_120 : Cond.constantLong RX11 120 (9) ∈ U := u_mem 871 (by decide +kernel) rfl
theorem kl_X11_130 : Cond.constantLong RX11 130 (60) ∈ U := u_mem 872 (by decide +kernel) rfl
theorem kl_X11_207 : Cond.constantLong RX11 207 (23) ∈ U := u_mem 987 (by decide +kernel) rfl
theorem kl_X11_212 : Cond.constantLong RX11 212 (99) ∈ U := u_mem 995 (by decide +kernel) rfl
theorem kl_X11_222 : Cond.constantLong RX11 222 (10) ∈ U := u_mem 1008 (by decide +kernel) rfl
theorem kl_X11_224 : Cond.constantLong RX11 224 (-1) ∈ U := u_mem 1009 (by decide +kernel) rfl
theorem kl_X11_229 : Cond.constantLong RX11 229 (9999) ∈ U := u_mem 1030 (by decide +kernel) rfl
theorem kl_X11_231 : Cond.constantLong RX11 231 (7919) ∈ U := u_mem 1031 (by decide +kernel) rfl
theorem kl_X11_233 : Cond.constantLong RX11 233 (6151) ∈ U := u_mem 1032 (by decide +kernel) rfl
theorem kl_X11_235 : Cond.constantLong RX11 235 (65521) ∈ U := u_mem 1033 (by decide +kernel) rfl
theorem kl_X11_237 : Cond.constantLong RX11 237 (24) ∈ U := u_mem 1034 (by decide +kernel) rfl
theorem kl_L_13 : Cond.constantLong RL 13 (4294967295) ∈ U := u_mem 1047 (by decide +kernel) rfl
theorem iz_Math : Cond.initialized "java/lang/Math" ∈ U := u_mem 17 (by decide +kernel) rfl
theorem st_max : Cond.static Lib.Math.max.name ∈ U := u_mem 499 (by decide +kernel) rfl
theorem cd_max : Cond.code Lib.Math.max.name Lib.Math.max.code 2 (some .int) ∈ U := u_mem 500 (by decide +kernel) rfl
theorem st_min : Cond.static Lib.Math.min.name ∈ U := u_mem 644 (by decide +kernel) rfl
theorem cd_min : Cond.code Lib.Math.min.name Lib.Math.min.code 2 (some .int) ∈ U := u_mem 645 (by decide +kernel) rfl
theorem oi_inst : Cond.instanceMethod objectInit ∈ U := u_mem 24 (by decide +kernel) rfl
theorem oi_code : Cond.code objectInit ⟨#[0xb1]⟩ 1 none ∈ U := u_mem 25 (by decide +kernel) rfl
end
section
/-! values over places: an int, a long, a reference to a place -/
abbrev AV : Type := Int ⊕ (Int ⊕ Nat)
abbrev vi (x : Int) : AV := Sum.inl x
abbrev vj (x : Int) : AV := Sum.inr (Sum.inl x)
abbrev vr (p : Nat) : AV := Sum.inr (Sum.inr p)
abbrev Mem : Type := Nat → Nat → Int
abbrev Phs : Type := Nat → Nat → Bool
def cv (ad : Nat → Nat) (v : AV) : Value := match v with
  | .inl x => .int (Int32.ofInt x)
  | .inr (.inl x) => .long (Int64.ofInt x)
  | .inr (.inr p) => .ref (ad p)
def ct (v : AV) : Nat := match v with
  | .inr (.inl _) => 2
  | _ => 1
theorem cv_cat (ad : Nat → Nat) (v : AV) : (cv ad v).category = ct v := by
  rcases v with x | x | x <;> rfl
theorem ct_sum (ad : Nat → Nat) (st : List AV) : ((st.map (cv ad)).map fun v => v.category).sum = (st.map ct).sum := by
  rw [List.map_map]
  congr 1
  apply List.map_congr_left
  intro v _
  exact cv_cat ad v
/-! the places: their classes, lengths, references that stay -/

def pclL : List Nat := [10, 9, 100, 6, 100, 2, 103, 1, 100, 100, 100, 1, 100, 100, 100, 1, 100, 100, 100, 1, 100, 100, 100, 1, 100, 100, 100, 1, 100, 100, 100, 2, 103, 1, 100, 100, 100, 1, 100, 100, 100, 1, 100, 100, 100, 1, 100, 100, 100, 1, 100, 100, 100, 1, 100, 100, 100, 1, 100, 100, 100, 0, 101, 101, 4, 101, 101, 3, 100, 100, 7, 104, 5, 100, 100, 102, 100, 5, 100, 100, 102, 100, 8, 100, 100, 100, 100, 100, 100, 100, 100, 5, 100, 100, 102, 100, 8, 100, 100, 100, 100, 100, 100, 100, 100, 5, 100, 100, 102, 100, 11, 100, 100, 100, 100, 100, 100, 100, 100, 100, 100, 100, 100, 100, 100, 100, 100, 100, 100, 100, 100, 100, 100, 100, 101, 101, 101, 101, 100]
def plenL : List Nat := [0, 0, 300, 0, 5, 0, 6, 0, 61, 61, 61, 0, 61, 61, 61, 0, 61, 61, 61, 0, 61, 61, 61, 0, 61, 61, 61, 0, 61, 61, 61, 0, 6, 0, 61, 61, 61, 0, 61, 61, 61, 0, 61, 61, 61, 0, 61, 61, 61, 0, 61, 61, 61, 0, 61, 61, 61, 0, 61, 61, 61, 0, 144, 144, 0, 6, 6, 0, 8, 8, 0, 2, 0, 8, 8, 8, 6, 0, 8, 8, 8, 6, 0, 6, 6, 6, 6, 6, 6, 5, 5, 0, 8, 8, 8, 6, 0, 6, 6, 6, 6, 6, 6, 5, 5, 0, 8, 8, 8, 6, 0, 300, 2, 12, 12, 2, 12, 12, 12, 12, 2, 10, 10, 24, 4, 32, 32, 32, 16, 5, 6, 6, 6, 6, 144, 144, 6, 6, 6]
def pcl (p : Nat) : Nat := pclL.getD p 200
def plen (p : Nat) : Nat := plenL.getD p 0
def hsR : List Nat := [1, 3, 5, 31, 57, 61, 64, 67, 70, 0, 0, 0]
def mdR : List Nat := [0, 111, 112, 113, 114, 115, 116, 117, 118, 119, 120, 121, 122, 123, 124, 125, 126, 127, 0, 0, 128, 0, 129, 130, 131, 132, 133, 0, 134, 135, 136, 137, 138]
def pcr (p j : Nat) : Nat := match pcl p with
  | 10 => hsR.getD j 0
  | 11 => mdR.getD j 0
  | 103 => p + 1 + 4 * j
  | 104 => p + 1 + 5 * j
  | _ => p + 1 + j
def fv (ad : Nat → Nat) (ph : Phs) (p j kind : Nat) (x : Int) : Value := match kind with
  | 0 => .int (Int32.ofInt x)
  | 1 => .int (Int32.ofInt x)
  | 2 => .long (Int64.ofInt x)
  | 3 => if ph p j = true then .ref (ad x.toNat) else .null
  | _ => if ph p j = true then .ref (ad (pcr p j)) else .null
def fl (ad : Nat → Nat) (ph : Phs) (p ci : Nat) (m : Nat → Int) : List Value := (List.range (nf ci)).map (fun j => fv ad ph p j (kd ci j) (m j))
def aE (ad : Nat → Nat) (ph : Phs) (p k : Nat) (m : Nat → Int) : (Nat → Int32) ⊕ (Nat → Int64) ⊕ (Nat → UInt32) ⊕ (Nat → UInt64) ⊕ (Nat → Option Nat) := match k with
  | 101 => .inr (.inl (fun j => Int64.ofInt (m j)))
  | 103 => .inr (.inr (.inr (.inr (fun j => if ph p j = true then some (ad (pcr p j)) else none))))
  | 104 => .inr (.inr (.inr (.inr (fun j => if ph p j = true then some (ad (pcr p j)) else none))))
  | _ => .inl (fun j => Int32.ofInt (m j))
def cellE (cy : Nat → ClassId) (ad : Nat → Nat) (ph : Phs) (p : Nat) (m : Nat → Int) : va_E := if pcl p < 12 then .inr (pcl p, fl ad ph p (pcl p) m) else .inl (cy (pcl p), plen p, aE ad ph p (pcl p) m)
def wl (cy : Nat → ClassId) (ad : Nat → Nat) (N : Nat) (ph : Phs) (M : Mem) : va_W := (List.range N).map (fun p => (ad p, cellE cy ad ph p (M p)))
def cyl (cy : Nat → ClassId) : List (ClassId × FieldType) := [(cy 100, .int), (cy 101, .long), (cy 102, .boolean), (cy 103, .object RX1), (cy 104, .object RX5)]
theorem wl_len {cy : Nat → ClassId} {ad : Nat → Nat} {N : Nat} {ph : Phs} {M : Mem} : (wl cy ad N ph M).length = N := by simp [wl]
theorem wl_get {cy : Nat → ClassId} {ad : Nat → Nat} {N p : Nat} {ph : Phs} {M : Mem} (h : p < N) : (wl cy ad N ph M)[p]? = some (ad p, cellE cy ad ph p (M p)) := by
  unfold wl
  rw [List.getElem?_map, List.getElem?_range h]
  rfl
theorem wl_inv {cy : Nat → ClassId} {ad : Nat → Nat} {N p : Nat} {ph : Phs} {M : Mem} {q : Nat × va_E} (h : (wl cy ad N ph M)[p]? = some q) : p < N ∧ q = (ad p, cellE cy ad ph p (M p)) := by
  have hp : p < N := by
    have := (List.getElem?_eq_some_iff.mp h).1
    rwa [wl_len] at this
  rw [wl_get hp] at h
  exact ⟨hp, (Option.some.inj h).symm⟩
/-- the memory with one row put anew -/
def mset (M : Mem) (p : Nat) (m : Nat → Int) : Mem := fun q => if q = p then m else M q
/-- one place of one row put anew -/
def up (M : Mem) (p k : Nat) (x : Int) : Mem := fun q => if q = p then (fun j => if j = k then x else M p j) else M q
theorem up_eq (M : Mem) (p k : Nat) (x : Int) : up M p k x p k = x := by simp [up]
theorem up_ne {M : Mem} {p k q j : Nat} {x : Int} (h : q ≠ p ∨ j ≠ k) : up M p k x q j = M q j := by
  unfold up
  by_cases hq : q = p
  · subst hq
    rcases h with h | h
    · exact absurd rfl h
    · simp [h]
  · simp [hq]
theorem up_row {M : Mem} {p k q : Nat} {x : Int} (h : q ≠ p) : up M p k x q = M q := by
  unfold up
  simp [h]
theorem wl_set {cy : Nat → ClassId} {ad : Nat → Nat} {N p : Nat} {ph : Phs} {M : Mem} (m : Nat → Int) (h : p < N) {a : Nat} {e : va_E} (ha : a = ad p) (he : e = cellE cy ad ph p m) : (wl cy ad N ph M).set p (a, e) = wl cy ad N ph (mset M p m) := by
  subst ha; subst he
  apply List.ext_getElem?
  intro i
  by_cases hi : i = p
  · subst hi
    rw [List.getElem?_set_self (by rw [wl_len]; exact h), wl_get h]
    simp [mset]
  · rw [List.getElem?_set_ne (Ne.symm hi)]
    by_cases hn : i < N
    · rw [wl_get hn, wl_get hn]
      simp [mset, hi]
    · rw [List.getElem?_eq_none (by rw [wl_len]; omega), List.getElem?_eq_none (by rw [wl_len]; omega)]
theorem wl_D {cy : Nat → ClassId} {ad : Nat → Nat} {N : Nat} {ph : Phs} {M : Mem} {A : Nat → Prop} (hi : ∀ i j, i < N → j < N → ad i = ad j → i = j) (hA : ∀ i, i < N → A (ad i)) : va_D A (wl cy ad N ph M) := by
  refine ⟨fun i j x y hx hy hxy => ?_, fun k q hq => ?_⟩
  · obtain ⟨h1, rfl⟩ := wl_inv hx
    obtain ⟨h2, rfl⟩ := wl_inv hy
    exact hi i j h1 h2 hxy
  · obtain ⟨h1, rfl⟩ := wl_inv hq
    exact hA k h1
/-! locals -/
def lc (ad : Nat → Nat) : Nat → List (Option AV) → List (Nat × Value)
  | _, [] => []
  | i, none :: t => lc ad (i + 1) t
  | i, some v :: t => (i, cv ad v) :: lc ad (i + 1) t
theorem lc_of {ad : Nat → Nat} {v : AV} : ∀ (ls : List (Option AV)) (i b : Nat), ls[i]? = some (some v) → (b + i, cv ad v) ∈ lc ad b ls
  | [], i, b, h => by simp at h
  | none :: t, 0, b, h => by simp at h
  | none :: t, i + 1, b, h => by
    rw [List.getElem?_cons_succ] at h
    have := lc_of (ad := ad) t i (b + 1) h
    rw [show b + (i + 1) = b + 1 + i by omega]
    exact this
  | some w :: t, 0, b, h => by
    rw [List.getElem?_cons_zero] at h
    cases h
    exact List.mem_cons_self
  | some w :: t, i + 1, b, h => by
    rw [List.getElem?_cons_succ] at h
    have := lc_of (ad := ad) t i (b + 1) h
    rw [show b + (i + 1) = b + 1 + i by omega]
    exact List.mem_cons_of_mem _ this
theorem lc_inv {ad : Nat → Nat} {q : Nat × Value} : ∀ (ls : List (Option AV)) (b : Nat), q ∈ lc ad b ls → ∃ (i : Nat) (v : AV), ls[i]? = some (some v) ∧ q = (b + i, cv ad v)
  | [], b, h => by cases h
  | none :: t, b, h => by
    obtain ⟨i, v, h1, h2⟩ := lc_inv t (b + 1) h
    exact ⟨i + 1, v, by rw [List.getElem?_cons_succ]; exact h1, by rw [h2]; congr 1; omega⟩
  | some w :: t, b, h => by
    rcases List.mem_cons.mp h with rfl | h
    · exact ⟨0, w, rfl, rfl⟩
    · obtain ⟨i, v, h1, h2⟩ := lc_inv t (b + 1) h
      exact ⟨i + 1, v, by rw [List.getElem?_cons_succ]; exact h1, by rw [h2]; congr 1; omega⟩
theorem lc_at {ad : Nat → Nat} {Ls : Array Slot} {n : Nat} {ls : List (Option AV)} (h : lv_has Ls n (lc ad 0 ls)) {i : Nat} {v : AV} (hi : ls[i]? = some (some v)) : Ls[i]? = some (.val (cv ad v)) := by
  have := lc_of (ad := ad) ls i 0 hi
  rw [Nat.zero_add] at this
  exact h.2.2 _ this
/-- not a long -/
def nl (a : Option AV) : Bool := match a with
  | some (.inr (.inl _)) => false
  | _ => true
/-- a one-word value stored -/
theorem lc_st1 {ad : Nat → Nat} {Ls : Array Slot} {n i : Nat} {ls ls' : List (Option AV)} {v : AV} (hv : ct v = 1)
    (h1 : ∀ j w, ls'[j]? = some (some w) → (j = i ∧ w = v) ∨ (j ≠ i ∧ ls[j]? = some (some w) ∧ (j + 1 = i → nl (some w) = true)))
    (h : lv_has Ls n ((i, cv ad v) :: (lc ad 0 ls).filter (fun q => !(q.1 == i) && !(q.1 + 1 == i && q.2.category == 2)))) : lv_has Ls n (lc ad 0 ls') := by
  refine ⟨h.1, h.2.1, fun q hq => ?_⟩
  obtain ⟨j, w, g1, g2⟩ := lc_inv ls' 0 hq
  rw [Nat.zero_add] at g2
  subst g2
  rcases h1 j w g1 with ⟨rfl, rfl⟩ | ⟨g3, g4, g5⟩
  · exact h.2.2 _ List.mem_cons_self
  · refine h.2.2 (j, cv ad w) (List.mem_cons_of_mem _ (List.mem_filter.mpr ⟨?_, ?_⟩))
    · have := lc_of (ad := ad) ls j 0 g4
      rwa [Nat.zero_add] at this
    · by_cases e : j + 1 = i
      · have g6 := g5 e
        have : ct w = 1 := by rcases w with x | x | x <;> first | rfl | (simp [nl] at g6)
        simp [g3, cv_cat, this]
      · simp [g3, e]
theorem lc_st2 {ad : Nat → Nat} {Ls : Array Slot} {n i : Nat} {ls ls' : List (Option AV)} {v : AV} (hv : ct v = 2)
    (h1 : ∀ j w, ls'[j]? = some (some w) → (j = i ∧ w = v) ∨ (j ≠ i ∧ j ≠ i + 1 ∧ ls[j]? = some (some w) ∧ (j + 1 = i → nl (some w) = true)))
    (h : lv_has Ls n ((i, cv ad v) :: (lc ad 0 ls).filter (fun q => !(q.1 == i) && (!(q.1 == i + 1) && !(q.1 + 1 == i && q.2.category == 2))))) : lv_has Ls n (lc ad 0 ls') := by
  refine ⟨h.1, h.2.1, fun q hq => ?_⟩
  obtain ⟨j, w, g1, g2⟩ := lc_inv ls' 0 hq
  rw [Nat.zero_add] at g2
  subst g2
  rcases h1 j w g1 with ⟨rfl, rfl⟩ | ⟨g3, g3', g4, g5⟩
  · exact h.2.2 _ List.mem_cons_self
  · refine h.2.2 (j, cv ad w) (List.mem_cons_of_mem _ (List.mem_filter.mpr ⟨?_, ?_⟩))
    · have := lc_of (ad := ad) ls j 0 g4
      rwa [Nat.zero_add] at this
    · by_cases e : j + 1 = i
      · have g6 := g5 e
        have : ct w = 1 := by rcases w with x | x | x <;> first | rfl | (simp [nl] at g6)
        simp [g3, g3', cv_cat, this]
      · simp [g3, g3', e]
/-! the judgement -/
abbrev KT : Type := Program × Launch × Env × Room × State × MethodId × Array Value × List Frame × Method × Code × va_G × (Nat → ClassId) × (Nat → Prop)
def E (κ : KT) (ad : Nat → Nat) (N : Nat) (ph : Phs) (M : Mem) (pc : Nat) (ls : List (Option AV)) (st : List AV) (cs : Nat × Nat) (Q : State → Prop) : Prop := match κ with
  | (p, l, e, R, s, m, args, below, meth, c, D, cy, A) => (∀ i j, i < N → j < N → ad i = ad j → i = j) → (∀ i, i < N → A (ad i)) → ∀ (H : Heap) (locs : List Loc) (Ls : Array Slot), va_P D vwCl (wl cy ad N ph M) H → va_S A s.heap H locs → lv_has Ls c.maxLocals (lc ad 0 ls) → W p l e R s m args below meth c H locs cs.1 cs.2 Q (F0 m pc Ls (st.map (cv ad)))
/-- nest mates' words and the classes of the two arrays of objects -/
def GX (s : State) : Prop := (∀ w ∈ NWL, va_Nw w s) ∧ va_AO RX1 s ∧ va_AO RX5 s
/-- what stays true inside a method -/
def Ok (κ : KT) (own : String) (cc : ByteArray) (nL : Nat) (rm : Room) : Prop := match κ with
  | (p, l, e, R, s, m, args, below, meth, c, D, cy, A) => p.tables.exec = Jvm.exec ∧ c.code = cc ∧ c.maxLocals = nL ∧ s.vm.findClass own = some m.cls ∧ (∀ w ∈ U, w.before args s = true) ∧ GX s ∧ meth.locks = false ∧ va_K D vwCl (cyl cy) s ∧ R = rm
def Rt (κ : KT) (ret : Option FieldType) : Prop := match κ with
  | (p, l, e, R, s, m, args, below, meth, c, D, cy, A) => meth.sig.returnType = ret


theorem i_lt {x y : Int} (hx : -2147483648 ≤ x ∧ x ≤ 2147483647) (hy : -2147483648 ≤ y ∧ y ≤ 2147483647) : Int32.ofInt x < Int32.ofInt y ↔ x < y := by
  rw [Int32.lt_iff_toInt_lt, Int32.toInt_ofInt_of_le (by omega) (by omega), Int32.toInt_ofInt_of_le (by omega) (by omega)]
theorem i_le {x y : Int} (hx : -2147483648 ≤ x ∧ x ≤ 2147483647) (hy : -2147483648 ≤ y ∧ y ≤ 2147483647) : Int32.ofInt x ≤ Int32.ofInt y ↔ x ≤ y := by
  rw [Int32.le_iff_toInt_le, Int32.toInt_ofInt_of_le (by omega) (by omega), Int32.toInt_ofInt_of_le (by omega) (by omega)]
theorem i_eq {x y : Int} (hx : -2147483648 ≤ x ∧ x ≤ 2147483647) (hy : -2147483648 ≤ y ∧ y ≤ 2147483647) : Int32.ofInt x = Int32.ofInt y ↔ x = y := by
  rw [← Int32.toInt_inj, Int32.toInt_ofInt_of_le (by omega) (by omega), Int32.toInt_ofInt_of_le (by omega) (by omega)]
theorem i_toInt {x : Int} (hx : -2147483648 ≤ x ∧ x ≤ 2147483647) : (Int32.ofInt x).toInt = x := Int32.toInt_ofInt_of_le (by omega) (by omega)
theorem j_toInt {x : Int} (hx : -9223372036854775808 ≤ x ∧ x ≤ 9223372036854775807) : (Int64.ofInt x).toInt = x := Int64.toInt_ofInt_of_le (by omega) (by omega)
theorem i_zero : Int32.ofInt 0 = 0 := rfl
theorem i_in {x : Int} {n : Nat} (hx : 0 ≤ x ∧ x < n) (hn : n ≤ 1000) : vp_in (Int32.ofInt x) n ∧ (Int32.ofInt x).toNatClampNeg = x.toNat := by
  have h := i_toInt (x := x) (by omega)
  have h2 : (Int32.ofInt x).toNatClampNeg = x.toNat := by
    show (Int32.ofInt x).toInt.toNat = _
    rw [h]
  refine ⟨fun q => ?_, h2⟩
  rcases q with q | q
  · rw [Int32.lt_iff_toInt_lt, h, Int32.toInt_zero] at q
    omega
  · rw [h2] at q
    omega

theorem e_iconst {κ : KT} {own : String} {cc : ByteArray} {nL : Nat} {rm : Room} {ad : Nat → Nat} {N : Nat} {ph : Phs} {M : Mem} {pc : Nat} {ls : List (Option AV)} {st : List AV} {cs : Nat × Nat} {Q : State → Prop} (h : Ok κ own cc nL rm) {n : Int} (d : decode cc pc = .ok (.iconst n, 1)) (k : E κ ad N ph M (pc + 1) ls (vi n :: st) cs Q) : E κ ad N ph M pc ls st cs Q := by
  obtain ⟨p, l, e, R, s, m, args, below, meth, c, D, cy, A⟩ := κ
  obtain ⟨hx, hb, hml, hown, hts, hnw, hlk, hK, hR⟩ := h
  intro h1 h2 H locs Ls hP hS hl
  have kk := k h1 h2 H locs Ls hP hS hl
  exact lv_iconst hx hb d rfl kk
theorem e_bipush {κ : KT} {own : String} {cc : ByteArray} {nL : Nat} {rm : Room} {ad : Nat → Nat} {N : Nat} {ph : Phs} {M : Mem} {pc : Nat} {ls : List (Option AV)} {st : List AV} {cs : Nat × Nat} {Q : State → Prop} (h : Ok κ own cc nL rm) {n : Int} (d : decode cc pc = .ok (.bipush n, 2)) (hn : (Int8.ofInt n).toInt32 = Int32.ofInt n) (k : E κ ad N ph M (pc + 2) ls (vi n :: st) cs Q) : E κ ad N ph M pc ls st cs Q := by
  obtain ⟨p, l, e, R, s, m, args, below, meth, c, D, cy, A⟩ := κ
  obtain ⟨hx, hb, hml, hown, hts, hnw, hlk, hK, hR⟩ := h
  intro h1 h2 H locs Ls hP hS hl
  have kk := k h1 h2 H locs Ls hP hS hl
  exact lv_bipush hx hb d hn kk
theorem e_sipush {κ : KT} {own : String} {cc : ByteArray} {nL : Nat} {rm : Room} {ad : Nat → Nat} {N : Nat} {ph : Phs} {M : Mem} {pc : Nat} {ls : List (Option AV)} {st : List AV} {cs : Nat × Nat} {Q : State → Prop} (h : Ok κ own cc nL rm) {n : Int} (d : decode cc pc = .ok (.sipush n, 3)) (hn : (Int16.ofInt n).toInt32 = Int32.ofInt n) (k : E κ ad N ph M (pc + 3) ls (vi n :: st) cs Q) : E κ ad N ph M pc ls st cs Q := by
  obtain ⟨p, l, e, R, s, m, args, below, meth, c, D, cy, A⟩ := κ
  obtain ⟨hx, hb, hml, hown, hts, hnw, hlk, hK, hR⟩ := h
  intro h1 h2 H locs Ls hP hS hl
  have kk := k h1 h2 H locs Ls hP hS hl
  exact lv_sipush hx hb d hn kk
theorem e_lconst {κ : KT} {own : String} {cc : ByteArray} {nL : Nat} {rm : Room} {ad : Nat → Nat} {N : Nat} {ph : Phs} {M : Mem} {pc : Nat} {ls : List (Option AV)} {st : List AV} {cs : Nat × Nat} {Q : State → Prop} (h : Ok κ own cc nL rm) {n : Fin 2} (d : decode cc pc = .ok (.lconst n, 1)) {x : Int} (hn : Int64.ofNat (n : Nat) = Int64.ofInt x) (k : E κ ad N ph M (pc + 1) ls (vj x :: st) cs Q) : E κ ad N ph M pc ls st cs Q := by
  obtain ⟨p, l, e, R, s, m, args, below, meth, c, D, cy, A⟩ := κ
  obtain ⟨hx, hb, hml, hown, hts, hnw, hlk, hK, hR⟩ := h
  intro h1 h2 H locs Ls hP hS hl
  have kk := k h1 h2 H locs Ls hP hS hl
  exact lv_lconst hx hb d hn kk
theorem e_ldc2 {κ : KT} {own : String} {cc : ByteArray} {nL : Nat} {rm : Room} {ad : Nat → Nat} {N : Nat} {ph : Phs} {M : Mem} {pc : Nat} {ls : List (Option AV)} {st : List AV} {cs : Nat × Nat} {Q : State → Prop} (h : Ok κ own cc nL rm) {i : Nat} (d : decode cc pc = .ok (.ldc2_w i, 3)) {v : Int64} {x : Int} (hw : Cond.constantLong own i v ∈ U) (hn : v = Int64.ofInt x) (k : E κ ad N ph M (pc + 3) ls (vj x :: st) cs Q) : E κ ad N ph M pc ls st cs Q := by
  obtain ⟨p, l, e, R, s, m, args, below, meth, c, D, cy, A⟩ := κ
  obtain ⟨hx, hb, hml, hown, hts, hnw, hlk, hK, hR⟩ := h
  intro h1 h2 H locs Ls hP hS hl
  have kk := k h1 h2 H locs Ls hP hS hl
  subst hn
  exact lv_ldc2 hx hb hown (hts _ hw) d kk
theorem e_iload_n {κ : KT} {own : String} {cc : ByteArray} {nL : Nat} {rm : Room} {ad : Nat → Nat} {N : Nat} {ph : Phs} {M : Mem} {pc : Nat} {ls : List (Option AV)} {st : List AV} {cs : Nat × Nat} {Q : State → Prop} (h : Ok κ own cc nL rm) {k0 : Fin 4} (d : decode cc pc = .ok (.iload_n k0, 1)) {x : Int} (hl0 : ls[(k0 : Nat)]? = some (some (vi x))) (k : E κ ad N ph M (pc + 1) ls (vi x :: st) cs Q) : E κ ad N ph M pc ls st cs Q := by
  obtain ⟨p, l, e, R, s, m, args, below, meth, c, D, cy, A⟩ := κ
  obtain ⟨hx, hb, hml, hown, hts, hnw, hlk, hK, hR⟩ := h
  intro h1 h2 H locs Ls hP hS hl
  have kk := k h1 h2 H locs Ls hP hS hl
  exact lv_iload_n hx hb d rfl (lc_at hl hl0) kk
theorem e_iload {κ : KT} {own : String} {cc : ByteArray} {nL : Nat} {rm : Room} {ad : Nat → Nat} {N : Nat} {ph : Phs} {M : Mem} {pc : Nat} {ls : List (Option AV)} {st : List AV} {cs : Nat × Nat} {Q : State → Prop} (h : Ok κ own cc nL rm) {i : Nat} (d : decode cc pc = .ok (.iload i, 2)) {x : Int} (hl0 : ls[i]? = some (some (vi x))) (k : E κ ad N ph M (pc + 2) ls (vi x :: st) cs Q) : E κ ad N ph M pc ls st cs Q := by
  obtain ⟨p, l, e, R, s, m, args, below, meth, c, D, cy, A⟩ := κ
  obtain ⟨hx, hb, hml, hown, hts, hnw, hlk, hK, hR⟩ := h
  intro h1 h2 H locs Ls hP hS hl
  have kk := k h1 h2 H locs Ls hP hS hl
  exact lv_iload hx hb d (lc_at hl hl0) kk
theorem e_lload_n {κ : KT} {own : String} {cc : ByteArray} {nL : Nat} {rm : Room} {ad : Nat → Nat} {N : Nat} {ph : Phs} {M : Mem} {pc : Nat} {ls : List (Option AV)} {st : List AV} {cs : Nat × Nat} {Q : State → Prop} (h : Ok κ own cc nL rm) {k0 : Fin 4} (d : decode cc pc = .ok (.lload_n k0, 1)) {x : Int} (hl0 : ls[(k0 : Nat)]? = some (some (vj x))) (k : E κ ad N ph M (pc + 1) ls (vj x :: st) cs Q) : E κ ad N ph M pc ls st cs Q := by
  obtain ⟨p, l, e, R, s, m, args, below, meth, c, D, cy, A⟩ := κ
  obtain ⟨hx, hb, hml, hown, hts, hnw, hlk, hK, hR⟩ := h
  intro h1 h2 H locs Ls hP hS hl
  have kk := k h1 h2 H locs Ls hP hS hl
  exact lv_lload_n hx hb d rfl (lc_at hl hl0) kk
theorem e_lload {κ : KT} {own : String} {cc : ByteArray} {nL : Nat} {rm : Room} {ad : Nat → Nat} {N : Nat} {ph : Phs} {M : Mem} {pc : Nat} {ls : List (Option AV)} {st : List AV} {cs : Nat × Nat} {Q : State → Prop} (h : Ok κ own cc nL rm) {i : Nat} (d : decode cc pc = .ok (.lload i, 2)) {x : Int} (hl0 : ls[i]? = some (some (vj x))) (k : E κ ad N ph M (pc + 2) ls (vj x :: st) cs Q) : E κ ad N ph M pc ls st cs Q := by
  obtain ⟨p, l, e, R, s, m, args, below, meth, c, D, cy, A⟩ := κ
  obtain ⟨hx, hb, hml, hown, hts, hnw, hlk, hK, hR⟩ := h
  intro h1 h2 H locs Ls hP hS hl
  have kk := k h1 h2 H locs Ls hP hS hl
  exact lv_lload hx hb d (lc_at hl hl0) kk
theorem e_aload_n {κ : KT} {own : String} {cc : ByteArray} {nL : Nat} {rm : Room} {ad : Nat → Nat} {N : Nat} {ph : Phs} {M : Mem} {pc : Nat} {ls : List (Option AV)} {st : List AV} {cs : Nat × Nat} {Q : State → Prop} (h : Ok κ own cc nL rm) {k0 : Fin 4} (d : decode cc pc = .ok (.aload_n k0, 1)) {x : Nat} (hl0 : ls[(k0 : Nat)]? = some (some (vr x))) (k : E κ ad N ph M (pc + 1) ls (vr x :: st) cs Q) : E κ ad N ph M pc ls st cs Q := by
  obtain ⟨p, l, e, R, s, m, args, below, meth, c, D, cy, A⟩ := κ
  obtain ⟨hx, hb, hml, hown, hts, hnw, hlk, hK, hR⟩ := h
  intro h1 h2 H locs Ls hP hS hl
  have kk := k h1 h2 H locs Ls hP hS hl
  exact lv_aload_n hx hb d rfl (lc_at hl hl0) kk
theorem e_aload {κ : KT} {own : String} {cc : ByteArray} {nL : Nat} {rm : Room} {ad : Nat → Nat} {N : Nat} {ph : Phs} {M : Mem} {pc : Nat} {ls : List (Option AV)} {st : List AV} {cs : Nat × Nat} {Q : State → Prop} (h : Ok κ own cc nL rm) {i : Nat} (d : decode cc pc = .ok (.aload i, 2)) {x : Nat} (hl0 : ls[i]? = some (some (vr x))) (k : E κ ad N ph M (pc + 2) ls (vr x :: st) cs Q) : E κ ad N ph M pc ls st cs Q := by
  obtain ⟨p, l, e, R, s, m, args, below, meth, c, D, cy, A⟩ := κ
  obtain ⟨hx, hb, hml, hown, hts, hnw, hlk, hK, hR⟩ := h
  intro h1 h2 H locs Ls hP hS hl
  have kk := k h1 h2 H locs Ls hP hS hl
  exact lv_aload hx hb d (lc_at hl hl0) kk
theorem e_istore_n_g {κ : KT} {own : String} {cc : ByteArray} {nL : Nat} {rm : Room} {ad : Nat → Nat} {N : Nat} {ph : Phs} {M : Mem} {pc : Nat} {ls : List (Option AV)} {st : List AV} {cs : Nat × Nat} {Q : State → Prop} {ls' : List (Option AV)} (h : Ok κ own cc nL rm) {k0 : Fin 4} {i : Nat} (hk : (k0 : Nat) = i) (d : decode cc pc = .ok (.istore_n k0, 1)) {x : Int} (hi : i < nL) (h0 : ∀ j w, ls'[j]? = some (some w) → (j = i ∧ w = vi x) ∨ (j ≠ i ∧ ls[j]? = some (some w) ∧ (j + 1 = i → nl (some w) = true))) (k : E κ ad N ph M (pc + 1) ls' st cs Q) : E κ ad N ph M pc ls (vi x :: st) cs Q := by
  obtain ⟨p, l, e, R, s, m, args, below, meth, c, D, cy, A⟩ := κ
  obtain ⟨hx, hb, hml, hown, hts, hnw, hlk, hK, hR⟩ := h
  intro h1 h2 H locs Ls hP hS hl
  exact lv_istore_n hx hb d hk hl (by rw [hml]; exact hi) rfl (fun Ls' hl' => k h1 h2 H locs Ls' hP hS (lc_st1 (v := vi x) rfl h0 hl'))
theorem e_istore_g {κ : KT} {own : String} {cc : ByteArray} {nL : Nat} {rm : Room} {ad : Nat → Nat} {N : Nat} {ph : Phs} {M : Mem} {pc : Nat} {ls : List (Option AV)} {st : List AV} {cs : Nat × Nat} {Q : State → Prop} {ls' : List (Option AV)} (h : Ok κ own cc nL rm) {i : Nat} (d : decode cc pc = .ok (.istore i, 2)) {x : Int} (hi : i < nL) (h0 : ∀ j w, ls'[j]? = some (some w) → (j = i ∧ w = vi x) ∨ (j ≠ i ∧ ls[j]? = some (some w) ∧ (j + 1 = i → nl (some w) = true))) (k : E κ ad N ph M (pc + 2) ls' st cs Q) : E κ ad N ph M pc ls (vi x :: st) cs Q := by
  obtain ⟨p, l, e, R, s, m, args, below, meth, c, D, cy, A⟩ := κ
  obtain ⟨hx, hb, hml, hown, hts, hnw, hlk, hK, hR⟩ := h
  intro h1 h2 H locs Ls hP hS hl
  exact lv_istore hx hb d hl (by rw [hml]; exact hi) rfl (fun Ls' hl' => k h1 h2 H locs Ls' hP hS (lc_st1 (v := vi x) rfl h0 hl'))
theorem e_astore_n_g {κ : KT} {own : String} {cc : ByteArray} {nL : Nat} {rm : Room} {ad : Nat → Nat} {N : Nat} {ph : Phs} {M : Mem} {pc : Nat} {ls : List (Option AV)} {st : List AV} {cs : Nat × Nat} {Q : State → Prop} {ls' : List (Option AV)} (h : Ok κ own cc nL rm) {k0 : Fin 4} {i : Nat} (hk : (k0 : Nat) = i) (d : decode cc pc = .ok (.astore_n k0, 1)) {x : Nat} (hi : i < nL) (h0 : ∀ j w, ls'[j]? = some (some w) → (j = i ∧ w = vr x) ∨ (j ≠ i ∧ ls[j]? = some (some w) ∧ (j + 1 = i → nl (some w) = true))) (k : E κ ad N ph M (pc + 1) ls' st cs Q) : E κ ad N ph M pc ls (vr x :: st) cs Q := by
  obtain ⟨p, l, e, R, s, m, args, below, meth, c, D, cy, A⟩ := κ
  obtain ⟨hx, hb, hml, hown, hts, hnw, hlk, hK, hR⟩ := h
  intro h1 h2 H locs Ls hP hS hl
  exact lv_astore_n hx hb d hk hl (by rw [hml]; exact hi) rfl (fun Ls' hl' => k h1 h2 H locs Ls' hP hS (lc_st1 (v := vr x) rfl h0 hl'))
theorem e_astore_g {κ : KT} {own : String} {cc : ByteArray} {nL : Nat} {rm : Room} {ad : Nat → Nat} {N : Nat} {ph : Phs} {M : Mem} {pc : Nat} {ls : List (Option AV)} {st : List AV} {cs : Nat × Nat} {Q : State → Prop} {ls' : List (Option AV)} (h : Ok κ own cc nL rm) {i : Nat} (d : decode cc pc = .ok (.astore i, 2)) {x : Nat} (hi : i < nL) (h0 : ∀ j w, ls'[j]? = some (some w) → (j = i ∧ w = vr x) ∨ (j ≠ i ∧ ls[j]? = some (some w) ∧ (j + 1 = i → nl (some w) = true))) (k : E κ ad N ph M (pc + 2) ls' st cs Q) : E κ ad N ph M pc ls (vr x :: st) cs Q := by
  obtain ⟨p, l, e, R, s, m, args, below, meth, c, D, cy, A⟩ := κ
  obtain ⟨hx, hb, hml, hown, hts, hnw, hlk, hK, hR⟩ := h
  intro h1 h2 H locs Ls hP hS hl
  exact lv_astore hx hb d hl (by rw [hml]; exact hi) rfl (fun Ls' hl' => k h1 h2 H locs Ls' hP hS (lc_st1 (v := vr x) rfl h0 hl'))
theorem e_lstore_n_g {κ : KT} {own : String} {cc : ByteArray} {nL : Nat} {rm : Room} {ad : Nat → Nat} {N : Nat} {ph : Phs} {M : Mem} {pc : Nat} {ls : List (Option AV)} {st : List AV} {cs : Nat × Nat} {Q : State → Prop} {ls' : List (Option AV)} (h : Ok κ own cc nL rm) {k0 : Fin 4} {i : Nat} (hk : (k0 : Nat) = i) (d : decode cc pc = .ok (.lstore_n k0, 1)) {x : Int} (hi : i + 1 < nL) (h0 : ∀ j w, ls'[j]? = some (some w) → (j = i ∧ w = vj x) ∨ (j ≠ i ∧ j ≠ i + 1 ∧ ls[j]? = some (some w) ∧ (j + 1 = i → nl (some w) = true))) (k : E κ ad N ph M (pc + 1) ls' st cs Q) : E κ ad N ph M pc ls (vj x :: st) cs Q := by
  obtain ⟨p, l, e, R, s, m, args, below, meth, c, D, cy, A⟩ := κ
  obtain ⟨hx, hb, hml, hown, hts, hnw, hlk, hK, hR⟩ := h
  intro h1 h2 H locs Ls hP hS hl
  exact lv_lstore_n hx hb d hk hl (by rw [hml]; exact hi) rfl (fun Ls' hl' => k h1 h2 H locs Ls' hP hS (lc_st2 (v := vj x) rfl h0 hl'))
theorem e_lstore_g {κ : KT} {own : String} {cc : ByteArray} {nL : Nat} {rm : Room} {ad : Nat → Nat} {N : Nat} {ph : Phs} {M : Mem} {pc : Nat} {ls : List (Option AV)} {st : List AV} {cs : Nat × Nat} {Q : State → Prop} {ls' : List (Option AV)} (h : Ok κ own cc nL rm) {i : Nat} (d : decode cc pc = .ok (.lstore i, 2)) {x : Int} (hi : i + 1 < nL) (h0 : ∀ j w, ls'[j]? = some (some w) → (j = i ∧ w = vj x) ∨ (j ≠ i ∧ j ≠ i + 1 ∧ ls[j]? = some (some w) ∧ (j + 1 = i → nl (some w) = true))) (k : E κ ad N ph M (pc + 2) ls' st cs Q) : E κ ad N ph M pc ls (vj x :: st) cs Q := by
  obtain ⟨p, l, e, R, s, m, args, below, meth, c, D, cy, A⟩ := κ
  obtain ⟨hx, hb, hml, hown, hts, hnw, hlk, hK, hR⟩ := h
  intro h1 h2 H locs Ls hP hS hl
  exact lv_lstore hx hb d hl (by rw [hml]; exact hi) rfl (fun Ls' hl' => k h1 h2 H locs Ls' hP hS (lc_st2 (v := vj x) rfl h0 hl'))
theorem e_istore0 {κ : KT} {own : String} {cc : ByteArray} {nL : Nat} {rm : Room} {ad : Nat → Nat} {N : Nat} {ph : Phs} {M : Mem} {pc : Nat} {st : List AV} {cs : Nat × Nat} {Q : State → Prop} {z : Option AV} {t : List (Option AV)} (h : Ok κ own cc nL rm) (d : decode cc pc = .ok (.istore_n 0, 1)) {x : Int} (hi : 0 < nL)  (k : E κ ad N ph M (pc + 1) (some (vi x) :: t) st cs Q) : E κ ad N ph M pc (z :: t) (vi x :: st) cs Q :=
  e_istore_n_g h (k0 := 0) (i := 0) rfl d hi (fun j w hj => by
    match j, hj with
    | 0, hj => exact Or.inl ⟨rfl, (Option.some.inj (Option.some.inj hj)).symm⟩
    | q + 1, hj => exact Or.inr ⟨by omega, hj, fun z => absurd z (by omega)⟩) k
theorem e_istore1 {κ : KT} {own : String} {cc : ByteArray} {nL : Nat} {rm : Room} {ad : Nat → Nat} {N : Nat} {ph : Phs} {M : Mem} {pc : Nat} {st : List AV} {cs : Nat × Nat} {Q : State → Prop} {a z : Option AV} {t : List (Option AV)} (h : Ok κ own cc nL rm) (d : decode cc pc = .ok (.istore_n 1, 1)) {x : Int} (hi : 1 < nL) (hnl : nl a = true) (k : E κ ad N ph M (pc + 1) (a :: some (vi x) :: t) st cs Q) : E κ ad N ph M pc (a :: z :: t) (vi x :: st) cs Q :=
  e_istore_n_g h (k0 := 1) (i := 1) rfl d hi (fun j w hj => by
    match j, hj with
    | 0, hj => exact Or.inr ⟨by decide, hj, fun _ => by have e := Option.some.inj hj; rw [← e]; exact hnl⟩
    | 1, hj => exact Or.inl ⟨rfl, (Option.some.inj (Option.some.inj hj)).symm⟩
    | q + 2, hj => exact Or.inr ⟨by omega, hj, fun z => absurd z (by omega)⟩) k
theorem e_istore2 {κ : KT} {own : String} {cc : ByteArray} {nL : Nat} {rm : Room} {ad : Nat → Nat} {N : Nat} {ph : Phs} {M : Mem} {pc : Nat} {st : List AV} {cs : Nat × Nat} {Q : State → Prop} {a b z : Option AV} {t : List (Option AV)} (h : Ok κ own cc nL rm) (d : decode cc pc = .ok (.istore_n 2, 1)) {x : Int} (hi : 2 < nL) (hnl : nl b = true) (k : E κ ad N ph M (pc + 1) (a :: b :: some (vi x) :: t) st cs Q) : E κ ad N ph M pc (a :: b :: z :: t) (vi x :: st) cs Q :=
  e_istore_n_g h (k0 := 2) (i := 2) rfl d hi (fun j w hj => by
    match j, hj with
    | 0, hj => exact Or.inr ⟨by decide, hj, fun q => absurd q (by decide)⟩
    | 1, hj => exact Or.inr ⟨by decide, hj, fun _ => by have e := Option.some.inj hj; rw [← e]; exact hnl⟩
    | 2, hj => exact Or.inl ⟨rfl, (Option.some.inj (Option.some.inj hj)).symm⟩
    | q + 3, hj => exact Or.inr ⟨by omega, hj, fun z => absurd z (by omega)⟩) k
theorem e_istore3 {κ : KT} {own : String} {cc : ByteArray} {nL : Nat} {rm : Room} {ad : Nat → Nat} {N : Nat} {ph : Phs} {M : Mem} {pc : Nat} {st : List AV} {cs : Nat × Nat} {Q : State → Prop} {a b c z : Option AV} {t : List (Option AV)} (h : Ok κ own cc nL rm) (d : decode cc pc = .ok (.istore_n 3, 1)) {x : Int} (hi : 3 < nL) (hnl : nl c = true) (k : E κ ad N ph M (pc + 1) (a :: b :: c :: some (vi x) :: t) st cs Q) : E κ ad N ph M pc (a :: b :: c :: z :: t) (vi x :: st) cs Q :=
  e_istore_n_g h (k0 := 3) (i := 3) rfl d hi (fun j w hj => by
    match j, hj with
    | 0, hj => exact Or.inr ⟨by decide, hj, fun q => absurd q (by decide)⟩
    | 1, hj => exact Or.inr ⟨by decide, hj, fun q => absurd q (by decide)⟩
    | 2, hj => exact Or.inr ⟨by decide, hj, fun _ => by have e := Option.some.inj hj; rw [← e]; exact hnl⟩
    | 3, hj => exact Or.inl ⟨rfl, (Option.some.inj (Option.some.inj hj)).symm⟩
    | q + 4, hj => exact Or.inr ⟨by omega, hj, fun z => absurd z (by omega)⟩) k
theorem e_istore4 {κ : KT} {own : String} {cc : ByteArray} {nL : Nat} {rm : Room} {ad : Nat → Nat} {N : Nat} {ph : Phs} {M : Mem} {pc : Nat} {st : List AV} {cs : Nat × Nat} {Q : State → Prop} {a b c d0 z : Option AV} {t : List (Option AV)} (h : Ok κ own cc nL rm) (d : decode cc pc = .ok (.istore 4, 2)) {x : Int} (hi : 4 < nL) (hnl : nl d0 = true) (k : E κ ad N ph M (pc + 2) (a :: b :: c :: d0 :: some (vi x) :: t) st cs Q) : E κ ad N ph M pc (a :: b :: c :: d0 :: z :: t) (vi x :: st) cs Q :=
  e_istore_g h (i := 4) d hi (fun j w hj => by
    match j, hj with
    | 0, hj => exact Or.inr ⟨by decide, hj, fun q => absurd q (by decide)⟩
    | 1, hj => exact Or.inr ⟨by decide, hj, fun q => absurd q (by decide)⟩
    | 2, hj => exact Or.inr ⟨by decide, hj, fun q => absurd q (by decide)⟩
    | 3, hj => exact Or.inr ⟨by decide, hj, fun _ => by have e := Option.some.inj hj; rw [← e]; exact hnl⟩
    | 4, hj => exact Or.inl ⟨rfl, (Option.some.inj (Option.some.inj hj)).symm⟩
    | q + 5, hj => exact Or.inr ⟨by omega, hj, fun z => absurd z (by omega)⟩) k
theorem e_istore5 {κ : KT} {own : String} {cc : ByteArray} {nL : Nat} {rm : Room} {ad : Nat → Nat} {N : Nat} {ph : Phs} {M : Mem} {pc : Nat} {st : List AV} {cs : Nat × Nat} {Q : State → Prop} {a b c d0 e0 z : Option AV} {t : List (Option AV)} (h : Ok κ own cc nL rm) (d : decode cc pc = .ok (.istore 5, 2)) {x : Int} (hi : 5 < nL) (hnl : nl e0 = true) (k : E κ ad N ph M (pc + 2) (a :: b :: c :: d0 :: e0 :: some (vi x) :: t) st cs Q) : E κ ad N ph M pc (a :: b :: c :: d0 :: e0 :: z :: t) (vi x :: st) cs Q :=
  e_istore_g h (i := 5) d hi (fun j w hj => by
    match j, hj with
    | 0, hj => exact Or.inr ⟨by decide, hj, fun q => absurd q (by decide)⟩
    | 1, hj => exact Or.inr ⟨by decide, hj, fun q => absurd q (by decide)⟩
    | 2, hj => exact Or.inr ⟨by decide, hj, fun q => absurd q (by decide)⟩
    | 3, hj => exact Or.inr ⟨by decide, hj, fun q => absurd q (by decide)⟩
    | 4, hj => exact Or.inr ⟨by decide, hj, fun _ => by have e := Option.some.inj hj; rw [← e]; exact hnl⟩
    | 5, hj => exact Or.inl ⟨rfl, (Option.some.inj (Option.some.inj hj)).symm⟩
    | q + 6, hj => exact Or.inr ⟨by omega, hj, fun z => absurd z (by omega)⟩) k
theorem e_istore6 {κ : KT} {own : String} {cc : ByteArray} {nL : Nat} {rm : Room} {ad : Nat → Nat} {N : Nat} {ph : Phs} {M : Mem} {pc : Nat} {st : List AV} {cs : Nat × Nat} {Q : State → Prop} {a b c d0 e0 f0 z : Option AV} {t : List (Option AV)} (h : Ok κ own cc nL rm) (d : decode cc pc = .ok (.istore 6, 2)) {x : Int} (hi : 6 < nL) (hnl : nl f0 = true) (k : E κ ad N ph M (pc + 2) (a :: b :: c :: d0 :: e0 :: f0 :: some (vi x) :: t) st cs Q) : E κ ad N ph M pc (a :: b :: c :: d0 :: e0 :: f0 :: z :: t) (vi x :: st) cs Q :=
  e_istore_g h (i := 6) d hi (fun j w hj => by
    match j, hj with
    | 0, hj => exact Or.inr ⟨by decide, hj, fun q => absurd q (by decide)⟩
    | 1, hj => exact Or.inr ⟨by decide, hj, fun q => absurd q (by decide)⟩
    | 2, hj => exact Or.inr ⟨by decide, hj, fun q => absurd q (by decide)⟩
    | 3, hj => exact Or.inr ⟨by decide, hj, fun q => absurd q (by decide)⟩
    | 4, hj => exact Or.inr ⟨by decide, hj, fun q => absurd q (by decide)⟩
    | 5, hj => exact Or.inr ⟨by decide, hj, fun _ => by have e := Option.some.inj hj; rw [← e]; exact hnl⟩
    | 6, hj => exact Or.inl ⟨rfl, (Option.some.inj (Option.some.inj hj)).symm⟩
    | q + 7, hj => exact Or.inr ⟨by omega, hj, fun z => absurd z (by omega)⟩) k
theorem e_istore7 {κ : KT} {own : String} {cc : ByteArray} {nL : Nat} {rm : Room} {ad : Nat → Nat} {N : Nat} {ph : Phs} {M : Mem} {pc : Nat} {st : List AV} {cs : Nat × Nat} {Q : State → Prop} {a b c d0 e0 f0 g0 z : Option AV} {t : List (Option AV)} (h : Ok κ own cc nL rm) (d : decode cc pc = .ok (.istore 7, 2)) {x : Int} (hi : 7 < nL) (hnl : nl g0 = true) (k : E κ ad N ph M (pc + 2) (a :: b :: c :: d0 :: e0 :: f0 :: g0 :: some (vi x) :: t) st cs Q) : E κ ad N ph M pc (a :: b :: c :: d0 :: e0 :: f0 :: g0 :: z :: t) (vi x :: st) cs Q :=
  e_istore_g h (i := 7) d hi (fun j w hj => by
    match j, hj with
    | 0, hj => exact Or.inr ⟨by decide, hj, fun q => absurd q (by decide)⟩
    | 1, hj => exact Or.inr ⟨by decide, hj, fun q => absurd q (by decide)⟩
    | 2, hj => exact Or.inr ⟨by decide, hj, fun q => absurd q (by decide)⟩
    | 3, hj => exact Or.inr ⟨by decide, hj, fun q => absurd q (by decide)⟩
    | 4, hj => exact Or.inr ⟨by decide, hj, fun q => absurd q (by decide)⟩
    | 5, hj => exact Or.inr ⟨by decide, hj, fun q => absurd q (by decide)⟩
    | 6, hj => exact Or.inr ⟨by decide, hj, fun _ => by have e := Option.some.inj hj; rw [← e]; exact hnl⟩
    | 7, hj => exact Or.inl ⟨rfl, (Option.some.inj (Option.some.inj hj)).symm⟩
    | q + 8, hj => exact Or.inr ⟨by omega, hj, fun z => absurd z (by omega)⟩) k
theorem e_istore8 {κ : KT} {own : String} {cc : ByteArray} {nL : Nat} {rm : Room} {ad : Nat → Nat} {N : Nat} {ph : Phs} {M : Mem} {pc : Nat} {st : List AV} {cs : Nat × Nat} {Q : State → Prop} {a b c d0 e0 f0 g0 h0 z : Option AV} {t : List (Option AV)} (h : Ok κ own cc nL rm) (d : decode cc pc = .ok (.istore 8, 2)) {x : Int} (hi : 8 < nL) (hnl : nl h0 = true) (k : E κ ad N ph M (pc + 2) (a :: b :: c :: d0 :: e0 :: f0 :: g0 :: h0 :: some (vi x) :: t) st cs Q) : E κ ad N ph M pc (a :: b :: c :: d0 :: e0 :: f0 :: g0 :: h0 :: z :: t) (vi x :: st) cs Q :=
  e_istore_g h (i := 8) d hi (fun j w hj => by
    match j, hj with
    | 0, hj => exact Or.inr ⟨by decide, hj, fun q => absurd q (by decide)⟩
    | 1, hj => exact Or.inr ⟨by decide, hj, fun q => absurd q (by decide)⟩
    | 2, hj => exact Or.inr ⟨by decide, hj, fun q => absurd q (by decide)⟩
    | 3, hj => exact Or.inr ⟨by decide, hj, fun q => absurd q (by decide)⟩
    | 4, hj => exact Or.inr ⟨by decide, hj, fun q => absurd q (by decide)⟩
    | 5, hj => exact Or.inr ⟨by decide, hj, fun q => absurd q (by decide)⟩
    | 6, hj => exact Or.inr ⟨by decide, hj, fun q => absurd q (by decide)⟩
    | 7, hj => exact Or.inr ⟨by decide, hj, fun _ => by have e := Option.some.inj hj; rw [← e]; exact hnl⟩
    | 8, hj => exact Or.inl ⟨rfl, (Option.some.inj (Option.some.inj hj)).symm⟩
    | q + 9, hj => exact Or.inr ⟨by omega, hj, fun z => absurd z (by omega)⟩) k
theorem e_istore9 {κ : KT} {own : String} {cc : ByteArray} {nL : Nat} {rm : Room} {ad : Nat → Nat} {N : Nat} {ph : Phs} {M : Mem} {pc : Nat} {st : List AV} {cs : Nat × Nat} {Q : State → Prop} {a b c d0 e0 f0 g0 h0 i0 z : Option AV} {t : List (Option AV)} (h : Ok κ own cc nL rm) (d : decode cc pc = .ok (.istore 9, 2)) {x : Int} (hi : 9 < nL) (hnl : nl i0 = true) (k : E κ ad N ph M (pc + 2) (a :: b :: c :: d0 :: e0 :: f0 :: g0 :: h0 :: i0 :: some (vi x) :: t) st cs Q) : E κ ad N ph M pc (a :: b :: c :: d0 :: e0 :: f0 :: g0 :: h0 :: i0 :: z :: t) (vi x :: st) cs Q :=
  e_istore_g h (i := 9) d hi (fun j w hj => by
    match j, hj with
    | 0, hj => exact Or.inr ⟨by decide, hj, fun q => absurd q (by decide)⟩
    | 1, hj => exact Or.inr ⟨by decide, hj, fun q => absurd q (by decide)⟩
    | 2, hj => exact Or.inr ⟨by decide, hj, fun q => absurd q (by decide)⟩
    | 3, hj => exact Or.inr ⟨by decide, hj, fun q => absurd q (by decide)⟩
    | 4, hj => exact Or.inr ⟨by decide, hj, fun q => absurd q (by decide)⟩
    | 5, hj => exact Or.inr ⟨by decide, hj, fun q => absurd q (by decide)⟩
    | 6, hj => exact Or.inr ⟨by decide, hj, fun q => absurd q (by decide)⟩
    | 7, hj => exact Or.inr ⟨by decide, hj, fun q => absurd q (by decide)⟩
    | 8, hj => exact Or.inr ⟨by decide, hj, fun _ => by have e := Option.some.inj hj; rw [← e]; exact hnl⟩
    | 9, hj => exact Or.inl ⟨rfl, (Option.some.inj (Option.some.inj hj)).symm⟩
    | q + 10, hj => exact Or.inr ⟨by omega, hj, fun z => absurd z (by omega)⟩) k
theorem e_istore10 {κ : KT} {own : String} {cc : ByteArray} {nL : Nat} {rm : Room} {ad : Nat → Nat} {N : Nat} {ph : Phs} {M : Mem} {pc : Nat} {st : List AV} {cs : Nat × Nat} {Q : State → Prop} {a b c d0 e0 f0 g0 h0 i0 j0 z : Option AV} {t : List (Option AV)} (h : Ok κ own cc nL rm) (d : decode cc pc = .ok (.istore 10, 2)) {x : Int} (hi : 10 < nL) (hnl : nl j0 = true) (k : E κ ad N ph M (pc + 2) (a :: b :: c :: d0 :: e0 :: f0 :: g0 :: h0 :: i0 :: j0 :: some (vi x) :: t) st cs Q) : E κ ad N ph M pc (a :: b :: c :: d0 :: e0 :: f0 :: g0 :: h0 :: i0 :: j0 :: z :: t) (vi x :: st) cs Q :=
  e_istore_g h (i := 10) d hi (fun j w hj => by
    match j, hj with
    | 0, hj => exact Or.inr ⟨by decide, hj, fun q => absurd q (by decide)⟩
    | 1, hj => exact Or.inr ⟨by decide, hj, fun q => absurd q (by decide)⟩
    | 2, hj => exact Or.inr ⟨by decide, hj, fun q => absurd q (by decide)⟩
    | 3, hj => exact Or.inr ⟨by decide, hj, fun q => absurd q (by decide)⟩
    | 4, hj => exact Or.inr ⟨by decide, hj, fun q => absurd q (by decide)⟩
    | 5, hj => exact Or.inr ⟨by decide, hj, fun q => absurd q (by decide)⟩
    | 6, hj => exact Or.inr ⟨by decide, hj, fun q => absurd q (by decide)⟩
    | 7, hj => exact Or.inr ⟨by decide, hj, fun q => absurd q (by decide)⟩
    | 8, hj => exact Or.inr ⟨by decide, hj, fun q => absurd q (by decide)⟩
    | 9, hj => exact Or.inr ⟨by decide, hj, fun _ => by have e := Option.some.inj hj; rw [← e]; exact hnl⟩
    | 10, hj => exact Or.inl ⟨rfl, (Option.some.inj (Option.some.inj hj)).symm⟩
    | q + 11, hj => exact Or.inr ⟨by omega, hj, fun z => absurd z (by omega)⟩) k
theorem e_istore11 {κ : KT} {own : String} {cc : ByteArray} {nL : Nat} {rm : Room} {ad : Nat → Nat} {N : Nat} {ph : Phs} {M : Mem} {pc : Nat} {st : List AV} {cs : Nat × Nat} {Q : State → Prop} {a b c d0 e0 f0 g0 h0 i0 j0 k1 z : Option AV} {t : List (Option AV)} (h : Ok κ own cc nL rm) (d : decode cc pc = .ok (.istore 11, 2)) {x : Int} (hi : 11 < nL) (hnl : nl k1 = true) (k : E κ ad N ph M (pc + 2) (a :: b :: c :: d0 :: e0 :: f0 :: g0 :: h0 :: i0 :: j0 :: k1 :: some (vi x) :: t) st cs Q) : E κ ad N ph M pc (a :: b :: c :: d0 :: e0 :: f0 :: g0 :: h0 :: i0 :: j0 :: k1 :: z :: t) (vi x :: st) cs Q :=
  e_istore_g h (i := 11) d hi (fun j w hj => by
    match j, hj with
    | 0, hj => exact Or.inr ⟨by decide, hj, fun q => absurd q (by decide)⟩
    | 1, hj => exact Or.inr ⟨by decide, hj, fun q => absurd q (by decide)⟩
    | 2, hj => exact Or.inr ⟨by decide, hj, fun q => absurd q (by decide)⟩
    | 3, hj => exact Or.inr ⟨by decide, hj, fun q => absurd q (by decide)⟩
    | 4, hj => exact Or.inr ⟨by decide, hj, fun q => absurd q (by decide)⟩
    | 5, hj => exact Or.inr ⟨by decide, hj, fun q => absurd q (by decide)⟩
    | 6, hj => exact Or.inr ⟨by decide, hj, fun q => absurd q (by decide)⟩
    | 7, hj => exact Or.inr ⟨by decide, hj, fun q => absurd q (by decide)⟩
    | 8, hj => exact Or.inr ⟨by decide, hj, fun q => absurd q (by decide)⟩
    | 9, hj => exact Or.inr ⟨by decide, hj, fun q => absurd q (by decide)⟩
    | 10, hj => exact Or.inr ⟨by decide, hj, fun _ => by have e := Option.some.inj hj; rw [← e]; exact hnl⟩
    | 11, hj => exact Or.inl ⟨rfl, (Option.some.inj (Option.some.inj hj)).symm⟩
    | q + 12, hj => exact Or.inr ⟨by omega, hj, fun z => absurd z (by omega)⟩) k
theorem e_astore0 {κ : KT} {own : String} {cc : ByteArray} {nL : Nat} {rm : Room} {ad : Nat → Nat} {N : Nat} {ph : Phs} {M : Mem} {pc : Nat} {st : List AV} {cs : Nat × Nat} {Q : State → Prop} {z : Option AV} {t : List (Option AV)} (h : Ok κ own cc nL rm) (d : decode cc pc = .ok (.astore_n 0, 1)) {x : Nat} (hi : 0 < nL)  (k : E κ ad N ph M (pc + 1) (some (vr x) :: t) st cs Q) : E κ ad N ph M pc (z :: t) (vr x :: st) cs Q :=
  e_astore_n_g h (k0 := 0) (i := 0) rfl d hi (fun j w hj => by
    match j, hj with
    | 0, hj => exact Or.inl ⟨rfl, (Option.some.inj (Option.some.inj hj)).symm⟩
    | q + 1, hj => exact Or.inr ⟨by omega, hj, fun z => absurd z (by omega)⟩) k
theorem e_astore1 {κ : KT} {own : String} {cc : ByteArray} {nL : Nat} {rm : Room} {ad : Nat → Nat} {N : Nat} {ph : Phs} {M : Mem} {pc : Nat} {st : List AV} {cs : Nat × Nat} {Q : State → Prop} {a z : Option AV} {t : List (Option AV)} (h : Ok κ own cc nL rm) (d : decode cc pc = .ok (.astore_n 1, 1)) {x : Nat} (hi : 1 < nL) (hnl : nl a = true) (k : E κ ad N ph M (pc + 1) (a :: some (vr x) :: t) st cs Q) : E κ ad N ph M pc (a :: z :: t) (vr x :: st) cs Q :=
  e_astore_n_g h (k0 := 1) (i := 1) rfl d hi (fun j w hj => by
    match j, hj with
    | 0, hj => exact Or.inr ⟨by decide, hj, fun _ => by have e := Option.some.inj hj; rw [← e]; exact hnl⟩
    | 1, hj => exact Or.inl ⟨rfl, (Option.some.inj (Option.some.inj hj)).symm⟩
    | q + 2, hj => exact Or.inr ⟨by omega, hj, fun z => absurd z (by omega)⟩) k
theorem e_astore2 {κ : KT} {own : String} {cc : ByteArray} {nL : Nat} {rm : Room} {ad : Nat → Nat} {N : Nat} {ph : Phs} {M : Mem} {pc : Nat} {st : List AV} {cs : Nat × Nat} {Q : State → Prop} {a b z : Option AV} {t : List (Option AV)} (h : Ok κ own cc nL rm) (d : decode cc pc = .ok (.astore_n 2, 1)) {x : Nat} (hi : 2 < nL) (hnl : nl b = true) (k : E κ ad N ph M (pc + 1) (a :: b :: some (vr x) :: t) st cs Q) : E κ ad N ph M pc (a :: b :: z :: t) (vr x :: st) cs Q :=
  e_astore_n_g h (k0 := 2) (i := 2) rfl d hi (fun j w hj => by
    match j, hj with
    | 0, hj => exact Or.inr ⟨by decide, hj, fun q => absurd q (by decide)⟩
    | 1, hj => exact Or.inr ⟨by decide, hj, fun _ => by have e := Option.some.inj hj; rw [← e]; exact hnl⟩
    | 2, hj => exact Or.inl ⟨rfl, (Option.some.inj (Option.some.inj hj)).symm⟩
    | q + 3, hj => exact Or.inr ⟨by omega, hj, fun z => absurd z (by omega)⟩) k
theorem e_astore3 {κ : KT} {own : String} {cc : ByteArray} {nL : Nat} {rm : Room} {ad : Nat → Nat} {N : Nat} {ph : Phs} {M : Mem} {pc : Nat} {st : List AV} {cs : Nat × Nat} {Q : State → Prop} {a b c z : Option AV} {t : List (Option AV)} (h : Ok κ own cc nL rm) (d : decode cc pc = .ok (.astore_n 3, 1)) {x : Nat} (hi : 3 < nL) (hnl : nl c = true) (k : E κ ad N ph M (pc + 1) (a :: b :: c :: some (vr x) :: t) st cs Q) : E κ ad N ph M pc (a :: b :: c :: z :: t) (vr x :: st) cs Q :=
  e_astore_n_g h (k0 := 3) (i := 3) rfl d hi (fun j w hj => by
    match j, hj with
    | 0, hj => exact Or.inr ⟨by decide, hj, fun q => absurd q (by decide)⟩
    | 1, hj => exact Or.inr ⟨by decide, hj, fun q => absurd q (by decide)⟩
    | 2, hj => exact Or.inr ⟨by decide, hj, fun _ => by have e := Option.some.inj hj; rw [← e]; exact hnl⟩
    | 3, hj => exact Or.inl ⟨rfl, (Option.some.inj (Option.some.inj hj)).symm⟩
    | q + 4, hj => exact Or.inr ⟨by omega, hj, fun z => absurd z (by omega)⟩) k
theorem e_astore4 {κ : KT} {own : String} {cc : ByteArray} {nL : Nat} {rm : Room} {ad : Nat → Nat} {N : Nat} {ph : Phs} {M : Mem} {pc : Nat} {st : List AV} {cs : Nat × Nat} {Q : State → Prop} {a b c d0 z : Option AV} {t : List (Option AV)} (h : Ok κ own cc nL rm) (d : decode cc pc = .ok (.astore 4, 2)) {x : Nat} (hi : 4 < nL) (hnl : nl d0 = true) (k : E κ ad N ph M (pc + 2) (a :: b :: c :: d0 :: some (vr x) :: t) st cs Q) : E κ ad N ph M pc (a :: b :: c :: d0 :: z :: t) (vr x :: st) cs Q :=
  e_astore_g h (i := 4) d hi (fun j w hj => by
    match j, hj with
    | 0, hj => exact Or.inr ⟨by decide, hj, fun q => absurd q (by decide)⟩
    | 1, hj => exact Or.inr ⟨by decide, hj, fun q => absurd q (by decide)⟩
    | 2, hj => exact Or.inr ⟨by decide, hj, fun q => absurd q (by decide)⟩
    | 3, hj => exact Or.inr ⟨by decide, hj, fun _ => by have e := Option.some.inj hj; rw [← e]; exact hnl⟩
    | 4, hj => exact Or.inl ⟨rfl, (Option.some.inj (Option.some.inj hj)).symm⟩
    | q + 5, hj => exact Or.inr ⟨by omega, hj, fun z => absurd z (by omega)⟩) k
theorem e_astore5 {κ : KT} {own : String} {cc : ByteArray} {nL : Nat} {rm : Room} {ad : Nat → Nat} {N : Nat} {ph : Phs} {M : Mem} {pc : Nat} {st : List AV} {cs : Nat × Nat} {Q : State → Prop} {a b c d0 e0 z : Option AV} {t : List (Option AV)} (h : Ok κ own cc nL rm) (d : decode cc pc = .ok (.astore 5, 2)) {x : Nat} (hi : 5 < nL) (hnl : nl e0 = true) (k : E κ ad N ph M (pc + 2) (a :: b :: c :: d0 :: e0 :: some (vr x) :: t) st cs Q) : E κ ad N ph M pc (a :: b :: c :: d0 :: e0 :: z :: t) (vr x :: st) cs Q :=
  e_astore_g h (i := 5) d hi (fun j w hj => by
    match j, hj with
    | 0, hj => exact Or.inr ⟨by decide, hj, fun q => absurd q (by decide)⟩
    | 1, hj => exact Or.inr ⟨by decide, hj, fun q => absurd q (by decide)⟩
    | 2, hj => exact Or.inr ⟨by decide, hj, fun q => absurd q (by decide)⟩
    | 3, hj => exact Or.inr ⟨by decide, hj, fun q => absurd q (by decide)⟩
    | 4, hj => exact Or.inr ⟨by decide, hj, fun _ => by have e := Option.some.inj hj; rw [← e]; exact hnl⟩
    | 5, hj => exact Or.inl ⟨rfl, (Option.some.inj (Option.some.inj hj)).symm⟩
    | q + 6, hj => exact Or.inr ⟨by omega, hj, fun z => absurd z (by omega)⟩) k
theorem e_astore6 {κ : KT} {own : String} {cc : ByteArray} {nL : Nat} {rm : Room} {ad : Nat → Nat} {N : Nat} {ph : Phs} {M : Mem} {pc : Nat} {st : List AV} {cs : Nat × Nat} {Q : State → Prop} {a b c d0 e0 f0 z : Option AV} {t : List (Option AV)} (h : Ok κ own cc nL rm) (d : decode cc pc = .ok (.astore 6, 2)) {x : Nat} (hi : 6 < nL) (hnl : nl f0 = true) (k : E κ ad N ph M (pc + 2) (a :: b :: c :: d0 :: e0 :: f0 :: some (vr x) :: t) st cs Q) : E κ ad N ph M pc (a :: b :: c :: d0 :: e0 :: f0 :: z :: t) (vr x :: st) cs Q :=
  e_astore_g h (i := 6) d hi (fun j w hj => by
    match j, hj with
    | 0, hj => exact Or.inr ⟨by decide, hj, fun q => absurd q (by decide)⟩
    | 1, hj => exact Or.inr ⟨by decide, hj, fun q => absurd q (by decide)⟩
    | 2, hj => exact Or.inr ⟨by decide, hj, fun q => absurd q (by decide)⟩
    | 3, hj => exact Or.inr ⟨by decide, hj, fun q => absurd q (by decide)⟩
    | 4, hj => exact Or.inr ⟨by decide, hj, fun q => absurd q (by decide)⟩
    | 5, hj => exact Or.inr ⟨by decide, hj, fun _ => by have e := Option.some.inj hj; rw [← e]; exact hnl⟩
    | 6, hj => exact Or.inl ⟨rfl, (Option.some.inj (Option.some.inj hj)).symm⟩
    | q + 7, hj => exact Or.inr ⟨by omega, hj, fun z => absurd z (by omega)⟩) k
theorem e_astore7 {κ : KT} {own : String} {cc : ByteArray} {nL : Nat} {rm : Room} {ad : Nat → Nat} {N : Nat} {ph : Phs} {M : Mem} {pc : Nat} {st : List AV} {cs : Nat × Nat} {Q : State → Prop} {a b c d0 e0 f0 g0 z : Option AV} {t : List (Option AV)} (h : Ok κ own cc nL rm) (d : decode cc pc = .ok (.astore 7, 2)) {x : Nat} (hi : 7 < nL) (hnl : nl g0 = true) (k : E κ ad N ph M (pc + 2) (a :: b :: c :: d0 :: e0 :: f0 :: g0 :: some (vr x) :: t) st cs Q) : E κ ad N ph M pc (a :: b :: c :: d0 :: e0 :: f0 :: g0 :: z :: t) (vr x :: st) cs Q :=
  e_astore_g h (i := 7) d hi (fun j w hj => by
    match j, hj with
    | 0, hj => exact Or.inr ⟨by decide, hj, fun q => absurd q (by decide)⟩
    | 1, hj => exact Or.inr ⟨by decide, hj, fun q => absurd q (by decide)⟩
    | 2, hj => exact Or.inr ⟨by decide, hj, fun q => absurd q (by decide)⟩
    | 3, hj => exact Or.inr ⟨by decide, hj, fun q => absurd q (by decide)⟩
    | 4, hj => exact Or.inr ⟨by decide, hj, fun q => absurd q (by decide)⟩
    | 5, hj => exact Or.inr ⟨by decide, hj, fun q => absurd q (by decide)⟩
    | 6, hj => exact Or.inr ⟨by decide, hj, fun _ => by have e := Option.some.inj hj; rw [← e]; exact hnl⟩
    | 7, hj => exact Or.inl ⟨rfl, (Option.some.inj (Option.some.inj hj)).symm⟩
    | q + 8, hj => exact Or.inr ⟨by omega, hj, fun z => absurd z (by omega)⟩) k
theorem e_astore8 {κ : KT} {own : String} {cc : ByteArray} {nL : Nat} {rm : Room} {ad : Nat → Nat} {N : Nat} {ph : Phs} {M : Mem} {pc : Nat} {st : List AV} {cs : Nat × Nat} {Q : State → Prop} {a b c d0 e0 f0 g0 h0 z : Option AV} {t : List (Option AV)} (h : Ok κ own cc nL rm) (d : decode cc pc = .ok (.astore 8, 2)) {x : Nat} (hi : 8 < nL) (hnl : nl h0 = true) (k : E κ ad N ph M (pc + 2) (a :: b :: c :: d0 :: e0 :: f0 :: g0 :: h0 :: some (vr x) :: t) st cs Q) : E κ ad N ph M pc (a :: b :: c :: d0 :: e0 :: f0 :: g0 :: h0 :: z :: t) (vr x :: st) cs Q :=
  e_astore_g h (i := 8) d hi (fun j w hj => by
    match j, hj with
    | 0, hj => exact Or.inr ⟨by decide, hj, fun q => absurd q (by decide)⟩
    | 1, hj => exact Or.inr ⟨by decide, hj, fun q => absurd q (by decide)⟩
    | 2, hj => exact Or.inr ⟨by decide, hj, fun q => absurd q (by decide)⟩
    | 3, hj => exact Or.inr ⟨by decide, hj, fun q => absurd q (by decide)⟩
    | 4, hj => exact Or.inr ⟨by decide, hj, fun q => absurd q (by decide)⟩
    | 5, hj => exact Or.inr ⟨by decide, hj, fun q => absurd q (by decide)⟩
    | 6, hj => exact Or.inr ⟨by decide, hj, fun q => absurd q (by decide)⟩
    | 7, hj => exact Or.inr ⟨by decide, hj, fun _ => by have e := Option.some.inj hj; rw [← e]; exact hnl⟩
    | 8, hj => exact Or.inl ⟨rfl, (Option.some.inj (Option.some.inj hj)).symm⟩
    | q + 9, hj => exact Or.inr ⟨by omega, hj, fun z => absurd z (by omega)⟩) k
theorem e_astore9 {κ : KT} {own : String} {cc : ByteArray} {nL : Nat} {rm : Room} {ad : Nat → Nat} {N : Nat} {ph : Phs} {M : Mem} {pc : Nat} {st : List AV} {cs : Nat × Nat} {Q : State → Prop} {a b c d0 e0 f0 g0 h0 i0 z : Option AV} {t : List (Option AV)} (h : Ok κ own cc nL rm) (d : decode cc pc = .ok (.astore 9, 2)) {x : Nat} (hi : 9 < nL) (hnl : nl i0 = true) (k : E κ ad N ph M (pc + 2) (a :: b :: c :: d0 :: e0 :: f0 :: g0 :: h0 :: i0 :: some (vr x) :: t) st cs Q) : E κ ad N ph M pc (a :: b :: c :: d0 :: e0 :: f0 :: g0 :: h0 :: i0 :: z :: t) (vr x :: st) cs Q :=
  e_astore_g h (i := 9) d hi (fun j w hj => by
    match j, hj with
    | 0, hj => exact Or.inr ⟨by decide, hj, fun q => absurd q (by decide)⟩
    | 1, hj => exact Or.inr ⟨by decide, hj, fun q => absurd q (by decide)⟩
    | 2, hj => exact Or.inr ⟨by decide, hj, fun q => absurd q (by decide)⟩
    | 3, hj => exact Or.inr ⟨by decide, hj, fun q => absurd q (by decide)⟩
    | 4, hj => exact Or.inr ⟨by decide, hj, fun q => absurd q (by decide)⟩
    | 5, hj => exact Or.inr ⟨by decide, hj, fun q => absurd q (by decide)⟩
    | 6, hj => exact Or.inr ⟨by decide, hj, fun q => absurd q (by decide)⟩
    | 7, hj => exact Or.inr ⟨by decide, hj, fun q => absurd q (by decide)⟩
    | 8, hj => exact Or.inr ⟨by decide, hj, fun _ => by have e := Option.some.inj hj; rw [← e]; exact hnl⟩
    | 9, hj => exact Or.inl ⟨rfl, (Option.some.inj (Option.some.inj hj)).symm⟩
    | q + 10, hj => exact Or.inr ⟨by omega, hj, fun z => absurd z (by omega)⟩) k
theorem e_astore10 {κ : KT} {own : String} {cc : ByteArray} {nL : Nat} {rm : Room} {ad : Nat → Nat} {N : Nat} {ph : Phs} {M : Mem} {pc : Nat} {st : List AV} {cs : Nat × Nat} {Q : State → Prop} {a b c d0 e0 f0 g0 h0 i0 j0 z : Option AV} {t : List (Option AV)} (h : Ok κ own cc nL rm) (d : decode cc pc = .ok (.astore 10, 2)) {x : Nat} (hi : 10 < nL) (hnl : nl j0 = true) (k : E κ ad N ph M (pc + 2) (a :: b :: c :: d0 :: e0 :: f0 :: g0 :: h0 :: i0 :: j0 :: some (vr x) :: t) st cs Q) : E κ ad N ph M pc (a :: b :: c :: d0 :: e0 :: f0 :: g0 :: h0 :: i0 :: j0 :: z :: t) (vr x :: st) cs Q :=
  e_astore_g h (i := 10) d hi (fun j w hj => by
    match j, hj with
    | 0, hj => exact Or.inr ⟨by decide, hj, fun q => absurd q (by decide)⟩
    | 1, hj => exact Or.inr ⟨by decide, hj, fun q => absurd q (by decide)⟩
    | 2, hj => exact Or.inr ⟨by decide, hj, fun q => absurd q (by decide)⟩
    | 3, hj => exact Or.inr ⟨by decide, hj, fun q => absurd q (by decide)⟩
    | 4, hj => exact Or.inr ⟨by decide, hj, fun q => absurd q (by decide)⟩
    | 5, hj => exact Or.inr ⟨by decide, hj, fun q => absurd q (by decide)⟩
    | 6, hj => exact Or.inr ⟨by decide, hj, fun q => absurd q (by decide)⟩
    | 7, hj => exact Or.inr ⟨by decide, hj, fun q => absurd q (by decide)⟩
    | 8, hj => exact Or.inr ⟨by decide, hj, fun q => absurd q (by decide)⟩
    | 9, hj => exact Or.inr ⟨by decide, hj, fun _ => by have e := Option.some.inj hj; rw [← e]; exact hnl⟩
    | 10, hj => exact Or.inl ⟨rfl, (Option.some.inj (Option.some.inj hj)).symm⟩
    | q + 11, hj => exact Or.inr ⟨by omega, hj, fun z => absurd z (by omega)⟩) k
theorem e_astore11 {κ : KT} {own : String} {cc : ByteArray} {nL : Nat} {rm : Room} {ad : Nat → Nat} {N : Nat} {ph : Phs} {M : Mem} {pc : Nat} {st : List AV} {cs : Nat × Nat} {Q : State → Prop} {a b c d0 e0 f0 g0 h0 i0 j0 k1 z : Option AV} {t : List (Option AV)} (h : Ok κ own cc nL rm) (d : decode cc pc = .ok (.astore 11, 2)) {x : Nat} (hi : 11 < nL) (hnl : nl k1 = true) (k : E κ ad N ph M (pc + 2) (a :: b :: c :: d0 :: e0 :: f0 :: g0 :: h0 :: i0 :: j0 :: k1 :: some (vr x) :: t) st cs Q) : E κ ad N ph M pc (a :: b :: c :: d0 :: e0 :: f0 :: g0 :: h0 :: i0 :: j0 :: k1 :: z :: t) (vr x :: st) cs Q :=
  e_astore_g h (i := 11) d hi (fun j w hj => by
    match j, hj with
    | 0, hj => exact Or.inr ⟨by decide, hj, fun q => absurd q (by decide)⟩
    | 1, hj => exact Or.inr ⟨by decide, hj, fun q => absurd q (by decide)⟩
    | 2, hj => exact Or.inr ⟨by decide, hj, fun q => absurd q (by decide)⟩
    | 3, hj => exact Or.inr ⟨by decide, hj, fun q => absurd q (by decide)⟩
    | 4, hj => exact Or.inr ⟨by decide, hj, fun q => absurd q (by decide)⟩
    | 5, hj => exact Or.inr ⟨by decide, hj, fun q => absurd q (by decide)⟩
    | 6, hj => exact Or.inr ⟨by decide, hj, fun q => absurd q (by decide)⟩
    | 7, hj => exact Or.inr ⟨by decide, hj, fun q => absurd q (by decide)⟩
    | 8, hj => exact Or.inr ⟨by decide, hj, fun q => absurd q (by decide)⟩
    | 9, hj => exact Or.inr ⟨by decide, hj, fun q => absurd q (by decide)⟩
    | 10, hj => exact Or.inr ⟨by decide, hj, fun _ => by have e := Option.some.inj hj; rw [← e]; exact hnl⟩
    | 11, hj => exact Or.inl ⟨rfl, (Option.some.inj (Option.some.inj hj)).symm⟩
    | q + 12, hj => exact Or.inr ⟨by omega, hj, fun z => absurd z (by omega)⟩) k
theorem e_lstore0 {κ : KT} {own : String} {cc : ByteArray} {nL : Nat} {rm : Room} {ad : Nat → Nat} {N : Nat} {ph : Phs} {M : Mem} {pc : Nat} {st : List AV} {cs : Nat × Nat} {Q : State → Prop} {z y : Option AV} {t : List (Option AV)} (h : Ok κ own cc nL rm) (d : decode cc pc = .ok (.lstore_n 0, 1)) {x : Int} (hi : 1 < nL)  (k : E κ ad N ph M (pc + 1) (some (vj x) :: none :: t) st cs Q) : E κ ad N ph M pc (z :: y :: t) (vj x :: st) cs Q :=
  e_lstore_n_g h (k0 := 0) (i := 0) rfl d hi (fun j w hj => by
    match j, hj with
    | 0, hj => exact Or.inl ⟨rfl, (Option.some.inj (Option.some.inj hj)).symm⟩
    | 1, hj => exact absurd (Option.some.inj hj) (fun q => by cases q)
    | q + 2, hj => exact Or.inr ⟨by omega, by omega, hj, fun z => absurd z (by omega)⟩) k
theorem e_lstore1 {κ : KT} {own : String} {cc : ByteArray} {nL : Nat} {rm : Room} {ad : Nat → Nat} {N : Nat} {ph : Phs} {M : Mem} {pc : Nat} {st : List AV} {cs : Nat × Nat} {Q : State → Prop} {a z y : Option AV} {t : List (Option AV)} (h : Ok κ own cc nL rm) (d : decode cc pc = .ok (.lstore_n 1, 1)) {x : Int} (hi : 2 < nL) (hnl : nl a = true) (k : E κ ad N ph M (pc + 1) (a :: some (vj x) :: none :: t) st cs Q) : E κ ad N ph M pc (a :: z :: y :: t) (vj x :: st) cs Q :=
  e_lstore_n_g h (k0 := 1) (i := 1) rfl d hi (fun j w hj => by
    match j, hj with
    | 0, hj => exact Or.inr ⟨by decide, by decide, hj, fun _ => by have e := Option.some.inj hj; rw [← e]; exact hnl⟩
    | 1, hj => exact Or.inl ⟨rfl, (Option.some.inj (Option.some.inj hj)).symm⟩
    | 2, hj => exact absurd (Option.some.inj hj) (fun q => by cases q)
    | q + 3, hj => exact Or.inr ⟨by omega, by omega, hj, fun z => absurd z (by omega)⟩) k
theorem e_lstore2 {κ : KT} {own : String} {cc : ByteArray} {nL : Nat} {rm : Room} {ad : Nat → Nat} {N : Nat} {ph : Phs} {M : Mem} {pc : Nat} {st : List AV} {cs : Nat × Nat} {Q : State → Prop} {a b z y : Option AV} {t : List (Option AV)} (h : Ok κ own cc nL rm) (d : decode cc pc = .ok (.lstore_n 2, 1)) {x : Int} (hi : 3 < nL) (hnl : nl b = true) (k : E κ ad N ph M (pc + 1) (a :: b :: some (vj x) :: none :: t) st cs Q) : E κ ad N ph M pc (a :: b :: z :: y :: t) (vj x :: st) cs Q :=
  e_lstore_n_g h (k0 := 2) (i := 2) rfl d hi (fun j w hj => by
    match j, hj with
    | 0, hj => exact Or.inr ⟨by decide, by decide, hj, fun q => absurd q (by decide)⟩
    | 1, hj => exact Or.inr ⟨by decide, by decide, hj, fun _ => by have e := Option.some.inj hj; rw [← e]; exact hnl⟩
    | 2, hj => exact Or.inl ⟨rfl, (Option.some.inj (Option.some.inj hj)).symm⟩
    | 3, hj => exact absurd (Option.some.inj hj) (fun q => by cases q)
    | q + 4, hj => exact Or.inr ⟨by omega, by omega, hj, fun z => absurd z (by omega)⟩) k
theorem e_lstore3 {κ : KT} {own : String} {cc : ByteArray} {nL : Nat} {rm : Room} {ad : Nat → Nat} {N : Nat} {ph : Phs} {M : Mem} {pc : Nat} {st : List AV} {cs : Nat × Nat} {Q : State → Prop} {a b c z y : Option AV} {t : List (Option AV)} (h : Ok κ own cc nL rm) (d : decode cc pc = .ok (.lstore_n 3, 1)) {x : Int} (hi : 4 < nL) (hnl : nl c = true) (k : E κ ad N ph M (pc + 1) (a :: b :: c :: some (vj x) :: none :: t) st cs Q) : E κ ad N ph M pc (a :: b :: c :: z :: y :: t) (vj x :: st) cs Q :=
  e_lstore_n_g h (k0 := 3) (i := 3) rfl d hi (fun j w hj => by
    match j, hj with
    | 0, hj => exact Or.inr ⟨by decide, by decide, hj, fun q => absurd q (by decide)⟩
    | 1, hj => exact Or.inr ⟨by decide, by decide, hj, fun q => absurd q (by decide)⟩
    | 2, hj => exact Or.inr ⟨by decide, by decide, hj, fun _ => by have e := Option.some.inj hj; rw [← e]; exact hnl⟩
    | 3, hj => exact Or.inl ⟨rfl, (Option.some.inj (Option.some.inj hj)).symm⟩
    | 4, hj => exact absurd (Option.some.inj hj) (fun q => by cases q)
    | q + 5, hj => exact Or.inr ⟨by omega, by omega, hj, fun z => absurd z (by omega)⟩) k
theorem e_lstore4 {κ : KT} {own : String} {cc : ByteArray} {nL : Nat} {rm : Room} {ad : Nat → Nat} {N : Nat} {ph : Phs} {M : Mem} {pc : Nat} {st : List AV} {cs : Nat × Nat} {Q : State → Prop} {a b c d0 z y : Option AV} {t : List (Option AV)} (h : Ok κ own cc nL rm) (d : decode cc pc = .ok (.lstore 4, 2)) {x : Int} (hi : 5 < nL) (hnl : nl d0 = true) (k : E κ ad N ph M (pc + 2) (a :: b :: c :: d0 :: some (vj x) :: none :: t) st cs Q) : E κ ad N ph M pc (a :: b :: c :: d0 :: z :: y :: t) (vj x :: st) cs Q :=
  e_lstore_g h (i := 4) d hi (fun j w hj => by
    match j, hj with
    | 0, hj => exact Or.inr ⟨by decide, by decide, hj, fun q => absurd q (by decide)⟩
    | 1, hj => exact Or.inr ⟨by decide, by decide, hj, fun q => absurd q (by decide)⟩
    | 2, hj => exact Or.inr ⟨by decide, by decide, hj, fun q => absurd q (by decide)⟩
    | 3, hj => exact Or.inr ⟨by decide, by decide, hj, fun _ => by have e := Option.some.inj hj; rw [← e]; exact hnl⟩
    | 4, hj => exact Or.inl ⟨rfl, (Option.some.inj (Option.some.inj hj)).symm⟩
    | 5, hj => exact absurd (Option.some.inj hj) (fun q => by cases q)
    | q + 6, hj => exact Or.inr ⟨by omega, by omega, hj, fun z => absurd z (by omega)⟩) k
theorem e_lstore5 {κ : KT} {own : String} {cc : ByteArray} {nL : Nat} {rm : Room} {ad : Nat → Nat} {N : Nat} {ph : Phs} {M : Mem} {pc : Nat} {st : List AV} {cs : Nat × Nat} {Q : State → Prop} {a b c d0 e0 z y : Option AV} {t : List (Option AV)} (h : Ok κ own cc nL rm) (d : decode cc pc = .ok (.lstore 5, 2)) {x : Int} (hi : 6 < nL) (hnl : nl e0 = true) (k : E κ ad N ph M (pc + 2) (a :: b :: c :: d0 :: e0 :: some (vj x) :: none :: t) st cs Q) : E κ ad N ph M pc (a :: b :: c :: d0 :: e0 :: z :: y :: t) (vj x :: st) cs Q :=
  e_lstore_g h (i := 5) d hi (fun j w hj => by
    match j, hj with
    | 0, hj => exact Or.inr ⟨by decide, by decide, hj, fun q => absurd q (by decide)⟩
    | 1, hj => exact Or.inr ⟨by decide, by decide, hj, fun q => absurd q (by decide)⟩
    | 2, hj => exact Or.inr ⟨by decide, by decide, hj, fun q => absurd q (by decide)⟩
    | 3, hj => exact Or.inr ⟨by decide, by decide, hj, fun q => absurd q (by decide)⟩
    | 4, hj => exact Or.inr ⟨by decide, by decide, hj, fun _ => by have e := Option.some.inj hj; rw [← e]; exact hnl⟩
    | 5, hj => exact Or.inl ⟨rfl, (Option.some.inj (Option.some.inj hj)).symm⟩
    | 6, hj => exact absurd (Option.some.inj hj) (fun q => by cases q)
    | q + 7, hj => exact Or.inr ⟨by omega, by omega, hj, fun z => absurd z (by omega)⟩) k
theorem e_lstore6 {κ : KT} {own : String} {cc : ByteArray} {nL : Nat} {rm : Room} {ad : Nat → Nat} {N : Nat} {ph : Phs} {M : Mem} {pc : Nat} {st : List AV} {cs : Nat × Nat} {Q : State → Prop} {a b c d0 e0 f0 z y : Option AV} {t : List (Option AV)} (h : Ok κ own cc nL rm) (d : decode cc pc = .ok (.lstore 6, 2)) {x : Int} (hi : 7 < nL) (hnl : nl f0 = true) (k : E κ ad N ph M (pc + 2) (a :: b :: c :: d0 :: e0 :: f0 :: some (vj x) :: none :: t) st cs Q) : E κ ad N ph M pc (a :: b :: c :: d0 :: e0 :: f0 :: z :: y :: t) (vj x :: st) cs Q :=
  e_lstore_g h (i := 6) d hi (fun j w hj => by
    match j, hj with
    | 0, hj => exact Or.inr ⟨by decide, by decide, hj, fun q => absurd q (by decide)⟩
    | 1, hj => exact Or.inr ⟨by decide, by decide, hj, fun q => absurd q (by decide)⟩
    | 2, hj => exact Or.inr ⟨by decide, by decide, hj, fun q => absurd q (by decide)⟩
    | 3, hj => exact Or.inr ⟨by decide, by decide, hj, fun q => absurd q (by decide)⟩
    | 4, hj => exact Or.inr ⟨by decide, by decide, hj, fun q => absurd q (by decide)⟩
    | 5, hj => exact Or.inr ⟨by decide, by decide, hj, fun _ => by have e := Option.some.inj hj; rw [← e]; exact hnl⟩
    | 6, hj => exact Or.inl ⟨rfl, (Option.some.inj (Option.some.inj hj)).symm⟩
    | 7, hj => exact absurd (Option.some.inj hj) (fun q => by cases q)
    | q + 8, hj => exact Or.inr ⟨by omega, by omega, hj, fun z => absurd z (by omega)⟩) k
theorem e_lstore7 {κ : KT} {own : String} {cc : ByteArray} {nL : Nat} {rm : Room} {ad : Nat → Nat} {N : Nat} {ph : Phs} {M : Mem} {pc : Nat} {st : List AV} {cs : Nat × Nat} {Q : State → Prop} {a b c d0 e0 f0 g0 z y : Option AV} {t : List (Option AV)} (h : Ok κ own cc nL rm) (d : decode cc pc = .ok (.lstore 7, 2)) {x : Int} (hi : 8 < nL) (hnl : nl g0 = true) (k : E κ ad N ph M (pc + 2) (a :: b :: c :: d0 :: e0 :: f0 :: g0 :: some (vj x) :: none :: t) st cs Q) : E κ ad N ph M pc (a :: b :: c :: d0 :: e0 :: f0 :: g0 :: z :: y :: t) (vj x :: st) cs Q :=
  e_lstore_g h (i := 7) d hi (fun j w hj => by
    match j, hj with
    | 0, hj => exact Or.inr ⟨by decide, by decide, hj, fun q => absurd q (by decide)⟩
    | 1, hj => exact Or.inr ⟨by decide, by decide, hj, fun q => absurd q (by decide)⟩
    | 2, hj => exact Or.inr ⟨by decide, by decide, hj, fun q => absurd q (by decide)⟩
    | 3, hj => exact Or.inr ⟨by decide, by decide, hj, fun q => absurd q (by decide)⟩
    | 4, hj => exact Or.inr ⟨by decide, by decide, hj, fun q => absurd q (by decide)⟩
    | 5, hj => exact Or.inr ⟨by decide, by decide, hj, fun q => absurd q (by decide)⟩
    | 6, hj => exact Or.inr ⟨by decide, by decide, hj, fun _ => by have e := Option.some.inj hj; rw [← e]; exact hnl⟩
    | 7, hj => exact Or.inl ⟨rfl, (Option.some.inj (Option.some.inj hj)).symm⟩
    | 8, hj => exact absurd (Option.some.inj hj) (fun q => by cases q)
    | q + 9, hj => exact Or.inr ⟨by omega, by omega, hj, fun z => absurd z (by omega)⟩) k
theorem e_lstore8 {κ : KT} {own : String} {cc : ByteArray} {nL : Nat} {rm : Room} {ad : Nat → Nat} {N : Nat} {ph : Phs} {M : Mem} {pc : Nat} {st : List AV} {cs : Nat × Nat} {Q : State → Prop} {a b c d0 e0 f0 g0 h0 z y : Option AV} {t : List (Option AV)} (h : Ok κ own cc nL rm) (d : decode cc pc = .ok (.lstore 8, 2)) {x : Int} (hi : 9 < nL) (hnl : nl h0 = true) (k : E κ ad N ph M (pc + 2) (a :: b :: c :: d0 :: e0 :: f0 :: g0 :: h0 :: some (vj x) :: none :: t) st cs Q) : E κ ad N ph M pc (a :: b :: c :: d0 :: e0 :: f0 :: g0 :: h0 :: z :: y :: t) (vj x :: st) cs Q :=
  e_lstore_g h (i := 8) d hi (fun j w hj => by
    match j, hj with
    | 0, hj => exact Or.inr ⟨by decide, by decide, hj, fun q => absurd q (by decide)⟩
    | 1, hj => exact Or.inr ⟨by decide, by decide, hj, fun q => absurd q (by decide)⟩
    | 2, hj => exact Or.inr ⟨by decide, by decide, hj, fun q => absurd q (by decide)⟩
    | 3, hj => exact Or.inr ⟨by decide, by decide, hj, fun q => absurd q (by decide)⟩
    | 4, hj => exact Or.inr ⟨by decide, by decide, hj, fun q => absurd q (by decide)⟩
    | 5, hj => exact Or.inr ⟨by decide, by decide, hj, fun q => absurd q (by decide)⟩
    | 6, hj => exact Or.inr ⟨by decide, by decide, hj, fun q => absurd q (by decide)⟩
    | 7, hj => exact Or.inr ⟨by decide, by decide, hj, fun _ => by have e := Option.some.inj hj; rw [← e]; exact hnl⟩
    | 8, hj => exact Or.inl ⟨rfl, (Option.some.inj (Option.some.inj hj)).symm⟩
    | 9, hj => exact absurd (Option.some.inj hj) (fun q => by cases q)
    | q + 10, hj => exact Or.inr ⟨by omega, by omega, hj, fun z => absurd z (by omega)⟩) k
theorem e_lstore9 {κ : KT} {own : String} {cc : ByteArray} {nL : Nat} {rm : Room} {ad : Nat → Nat} {N : Nat} {ph : Phs} {M : Mem} {pc : Nat} {st : List AV} {cs : Nat × Nat} {Q : State → Prop} {a b c d0 e0 f0 g0 h0 i0 z y : Option AV} {t : List (Option AV)} (h : Ok κ own cc nL rm) (d : decode cc pc = .ok (.lstore 9, 2)) {x : Int} (hi : 10 < nL) (hnl : nl i0 = true) (k : E κ ad N ph M (pc + 2) (a :: b :: c :: d0 :: e0 :: f0 :: g0 :: h0 :: i0 :: some (vj x) :: none :: t) st cs Q) : E κ ad N ph M pc (a :: b :: c :: d0 :: e0 :: f0 :: g0 :: h0 :: i0 :: z :: y :: t) (vj x :: st) cs Q :=
  e_lstore_g h (i := 9) d hi (fun j w hj => by
    match j, hj with
    | 0, hj => exact Or.inr ⟨by decide, by decide, hj, fun q => absurd q (by decide)⟩
    | 1, hj => exact Or.inr ⟨by decide, by decide, hj, fun q => absurd q (by decide)⟩
    | 2, hj => exact Or.inr ⟨by decide, by decide, hj, fun q => absurd q (by decide)⟩
    | 3, hj => exact Or.inr ⟨by decide, by decide, hj, fun q => absurd q (by decide)⟩
    | 4, hj => exact Or.inr ⟨by decide, by decide, hj, fun q => absurd q (by decide)⟩
    | 5, hj => exact Or.inr ⟨by decide, by decide, hj, fun q => absurd q (by decide)⟩
    | 6, hj => exact Or.inr ⟨by decide, by decide, hj, fun q => absurd q (by decide)⟩
    | 7, hj => exact Or.inr ⟨by decide, by decide, hj, fun q => absurd q (by decide)⟩
    | 8, hj => exact Or.inr ⟨by decide, by decide, hj, fun _ => by have e := Option.some.inj hj; rw [← e]; exact hnl⟩
    | 9, hj => exact Or.inl ⟨rfl, (Option.some.inj (Option.some.inj hj)).symm⟩
    | 10, hj => exact absurd (Option.some.inj hj) (fun q => by cases q)
    | q + 11, hj => exact Or.inr ⟨by omega, by omega, hj, fun z => absurd z (by omega)⟩) k
theorem e_lstore10 {κ : KT} {own : String} {cc : ByteArray} {nL : Nat} {rm : Room} {ad : Nat → Nat} {N : Nat} {ph : Phs} {M : Mem} {pc : Nat} {st : List AV} {cs : Nat × Nat} {Q : State → Prop} {a b c d0 e0 f0 g0 h0 i0 j0 z y : Option AV} {t : List (Option AV)} (h : Ok κ own cc nL rm) (d : decode cc pc = .ok (.lstore 10, 2)) {x : Int} (hi : 11 < nL) (hnl : nl j0 = true) (k : E κ ad N ph M (pc + 2) (a :: b :: c :: d0 :: e0 :: f0 :: g0 :: h0 :: i0 :: j0 :: some (vj x) :: none :: t) st cs Q) : E κ ad N ph M pc (a :: b :: c :: d0 :: e0 :: f0 :: g0 :: h0 :: i0 :: j0 :: z :: y :: t) (vj x :: st) cs Q :=
  e_lstore_g h (i := 10) d hi (fun j w hj => by
    match j, hj with
    | 0, hj => exact Or.inr ⟨by decide, by decide, hj, fun q => absurd q (by decide)⟩
    | 1, hj => exact Or.inr ⟨by decide, by decide, hj, fun q => absurd q (by decide)⟩
    | 2, hj => exact Or.inr ⟨by decide, by decide, hj, fun q => absurd q (by decide)⟩
    | 3, hj => exact Or.inr ⟨by decide, by decide, hj, fun q => absurd q (by decide)⟩
    | 4, hj => exact Or.inr ⟨by decide, by decide, hj, fun q => absurd q (by decide)⟩
    | 5, hj => exact Or.inr ⟨by decide, by decide, hj, fun q => absurd q (by decide)⟩
    | 6, hj => exact Or.inr ⟨by decide, by decide, hj, fun q => absurd q (by decide)⟩
    | 7, hj => exact Or.inr ⟨by decide, by decide, hj, fun q => absurd q (by decide)⟩
    | 8, hj => exact Or.inr ⟨by decide, by decide, hj, fun q => absurd q (by decide)⟩
    | 9, hj => exact Or.inr ⟨by decide, by decide, hj, fun _ => by have e := Option.some.inj hj; rw [← e]; exact hnl⟩
    | 10, hj => exact Or.inl ⟨rfl, (Option.some.inj (Option.some.inj hj)).symm⟩
    | 11, hj => exact absurd (Option.some.inj hj) (fun q => by cases q)
    | q + 12, hj => exact Or.inr ⟨by omega, by omega, hj, fun z => absurd z (by omega)⟩) k
theorem e_lstore11 {κ : KT} {own : String} {cc : ByteArray} {nL : Nat} {rm : Room} {ad : Nat → Nat} {N : Nat} {ph : Phs} {M : Mem} {pc : Nat} {st : List AV} {cs : Nat × Nat} {Q : State → Prop} {a b c d0 e0 f0 g0 h0 i0 j0 k1 z y : Option AV} {t : List (Option AV)} (h : Ok κ own cc nL rm) (d : decode cc pc = .ok (.lstore 11, 2)) {x : Int} (hi : 12 < nL) (hnl : nl k1 = true) (k : E κ ad N ph M (pc + 2) (a :: b :: c :: d0 :: e0 :: f0 :: g0 :: h0 :: i0 :: j0 :: k1 :: some (vj x) :: none :: t) st cs Q) : E κ ad N ph M pc (a :: b :: c :: d0 :: e0 :: f0 :: g0 :: h0 :: i0 :: j0 :: k1 :: z :: y :: t) (vj x :: st) cs Q :=
  e_lstore_g h (i := 11) d hi (fun j w hj => by
    match j, hj with
    | 0, hj => exact Or.inr ⟨by decide, by decide, hj, fun q => absurd q (by decide)⟩
    | 1, hj => exact Or.inr ⟨by decide, by decide, hj, fun q => absurd q (by decide)⟩
    | 2, hj => exact Or.inr ⟨by decide, by decide, hj, fun q => absurd q (by decide)⟩
    | 3, hj => exact Or.inr ⟨by decide, by decide, hj, fun q => absurd q (by decide)⟩
    | 4, hj => exact Or.inr ⟨by decide, by decide, hj, fun q => absurd q (by decide)⟩
    | 5, hj => exact Or.inr ⟨by decide, by decide, hj, fun q => absurd q (by decide)⟩
    | 6, hj => exact Or.inr ⟨by decide, by decide, hj, fun q => absurd q (by decide)⟩
    | 7, hj => exact Or.inr ⟨by decide, by decide, hj, fun q => absurd q (by decide)⟩
    | 8, hj => exact Or.inr ⟨by decide, by decide, hj, fun q => absurd q (by decide)⟩
    | 9, hj => exact Or.inr ⟨by decide, by decide, hj, fun q => absurd q (by decide)⟩
    | 10, hj => exact Or.inr ⟨by decide, by decide, hj, fun _ => by have e := Option.some.inj hj; rw [← e]; exact hnl⟩
    | 11, hj => exact Or.inl ⟨rfl, (Option.some.inj (Option.some.inj hj)).symm⟩
    | 12, hj => exact absurd (Option.some.inj hj) (fun q => by cases q)
    | q + 13, hj => exact Or.inr ⟨by omega, by omega, hj, fun z => absurd z (by omega)⟩) k
theorem e_iinc_g {κ : KT} {own : String} {cc : ByteArray} {nL : Nat} {rm : Room} {ad : Nat → Nat} {N : Nat} {ph : Phs} {M : Mem} {pc : Nat} {ls : List (Option AV)} {st : List AV} {cs : Nat × Nat} {Q : State → Prop} {ls' : List (Option AV)} (h : Ok κ own cc nL rm) {i : Nat} {n : Int} (d : decode cc pc = .ok (.iinc i n, 3)) {x : Int} (hi : i < nL) (hl0 : ls[i]? = some (some (vi x))) (h0 : ∀ j w, ls'[j]? = some (some w) → (j = i ∧ w = vi (x + n)) ∨ (j ≠ i ∧ ls[j]? = some (some w) ∧ (j + 1 = i → nl (some w) = true))) (k : E κ ad N ph M (pc + 3) ls' st cs Q) : E κ ad N ph M pc ls st cs Q := by
  obtain ⟨p, l, e, R, s, m, args, below, meth, c, D, cy, A⟩ := κ
  obtain ⟨hx, hb, hml, hown, hts, hnw, hlk, hK, hR⟩ := h
  intro h1 h2 H locs Ls hP hS hl
  have hm := lc_of (ad := ad) ls i 0 hl0
  rw [Nat.zero_add] at hm
  obtain ⟨k0, hk0⟩ := List.getElem?_of_mem hm
  exact lv_iinc hx hb d hl hk0 (Int32.ofInt_add x n).symm (by rw [hml]; exact hi) rfl (fun Ls' hl' => k h1 h2 H locs Ls' hP hS (lc_st1 (v := vi (x + n)) rfl h0 hl'))
theorem e_iinc0 {κ : KT} {own : String} {cc : ByteArray} {nL : Nat} {rm : Room} {ad : Nat → Nat} {N : Nat} {ph : Phs} {M : Mem} {pc : Nat} {st : List AV} {cs : Nat × Nat} {Q : State → Prop} {t : List (Option AV)} (h : Ok κ own cc nL rm) {n x : Int} (d : decode cc pc = .ok (.iinc 0 n, 3)) (hi : 0 < nL)  (k : E κ ad N ph M (pc + 3) (some (vi (x + n)) :: t) st cs Q) : E κ ad N ph M pc (some (vi x) :: t) st cs Q :=
  e_iinc_g h (i := 0) d hi rfl (fun j w hj => by
    match j, hj with
    | 0, hj => exact Or.inl ⟨rfl, (Option.some.inj (Option.some.inj hj)).symm⟩
    | q + 1, hj => exact Or.inr ⟨by omega, hj, fun z => absurd z (by omega)⟩) k
theorem e_iinc1 {κ : KT} {own : String} {cc : ByteArray} {nL : Nat} {rm : Room} {ad : Nat → Nat} {N : Nat} {ph : Phs} {M : Mem} {pc : Nat} {st : List AV} {cs : Nat × Nat} {Q : State → Prop} {a : Option AV} {t : List (Option AV)} (h : Ok κ own cc nL rm) {n x : Int} (d : decode cc pc = .ok (.iinc 1 n, 3)) (hi : 1 < nL) (hnl : nl a = true) (k : E κ ad N ph M (pc + 3) (a :: some (vi (x + n)) :: t) st cs Q) : E κ ad N ph M pc (a :: some (vi x) :: t) st cs Q :=
  e_iinc_g h (i := 1) d hi rfl (fun j w hj => by
    match j, hj with
    | 0, hj => exact Or.inr ⟨by decide, hj, fun _ => by have e := Option.some.inj hj; rw [← e]; exact hnl⟩
    | 1, hj => exact Or.inl ⟨rfl, (Option.some.inj (Option.some.inj hj)).symm⟩
    | q + 2, hj => exact Or.inr ⟨by omega, hj, fun z => absurd z (by omega)⟩) k
theorem e_iinc2 {κ : KT} {own : String} {cc : ByteArray} {nL : Nat} {rm : Room} {ad : Nat → Nat} {N : Nat} {ph : Phs} {M : Mem} {pc : Nat} {st : List AV} {cs : Nat × Nat} {Q : State → Prop} {a b : Option AV} {t : List (Option AV)} (h : Ok κ own cc nL rm) {n x : Int} (d : decode cc pc = .ok (.iinc 2 n, 3)) (hi : 2 < nL) (hnl : nl b = true) (k : E κ ad N ph M (pc + 3) (a :: b :: some (vi (x + n)) :: t) st cs Q) : E κ ad N ph M pc (a :: b :: some (vi x) :: t) st cs Q :=
  e_iinc_g h (i := 2) d hi rfl (fun j w hj => by
    match j, hj with
    | 0, hj => exact Or.inr ⟨by decide, hj, fun q => absurd q (by decide)⟩
    | 1, hj => exact Or.inr ⟨by decide, hj, fun _ => by have e := Option.some.inj hj; rw [← e]; exact hnl⟩
    | 2, hj => exact Or.inl ⟨rfl, (Option.some.inj (Option.some.inj hj)).symm⟩
    | q + 3, hj => exact Or.inr ⟨by omega, hj, fun z => absurd z (by omega)⟩) k
theorem e_iinc3 {κ : KT} {own : String} {cc : ByteArray} {nL : Nat} {rm : Room} {ad : Nat → Nat} {N : Nat} {ph : Phs} {M : Mem} {pc : Nat} {st : List AV} {cs : Nat × Nat} {Q : State → Prop} {a b c : Option AV} {t : List (Option AV)} (h : Ok κ own cc nL rm) {n x : Int} (d : decode cc pc = .ok (.iinc 3 n, 3)) (hi : 3 < nL) (hnl : nl c = true) (k : E κ ad N ph M (pc + 3) (a :: b :: c :: some (vi (x + n)) :: t) st cs Q) : E κ ad N ph M pc (a :: b :: c :: some (vi x) :: t) st cs Q :=
  e_iinc_g h (i := 3) d hi rfl (fun j w hj => by
    match j, hj with
    | 0, hj => exact Or.inr ⟨by decide, hj, fun q => absurd q (by decide)⟩
    | 1, hj => exact Or.inr ⟨by decide, hj, fun q => absurd q (by decide)⟩
    | 2, hj => exact Or.inr ⟨by decide, hj, fun _ => by have e := Option.some.inj hj; rw [← e]; exact hnl⟩
    | 3, hj => exact Or.inl ⟨rfl, (Option.some.inj (Option.some.inj hj)).symm⟩
    | q + 4, hj => exact Or.inr ⟨by omega, hj, fun z => absurd z (by omega)⟩) k
theorem e_iinc4 {κ : KT} {own : String} {cc : ByteArray} {nL : Nat} {rm : Room} {ad : Nat → Nat} {N : Nat} {ph : Phs} {M : Mem} {pc : Nat} {st : List AV} {cs : Nat × Nat} {Q : State → Prop} {a b c d0 : Option AV} {t : List (Option AV)} (h : Ok κ own cc nL rm) {n x : Int} (d : decode cc pc = .ok (.iinc 4 n, 3)) (hi : 4 < nL) (hnl : nl d0 = true) (k : E κ ad N ph M (pc + 3) (a :: b :: c :: d0 :: some (vi (x + n)) :: t) st cs Q) : E κ ad N ph M pc (a :: b :: c :: d0 :: some (vi x) :: t) st cs Q :=
  e_iinc_g h (i := 4) d hi rfl (fun j w hj => by
    match j, hj with
    | 0, hj => exact Or.inr ⟨by decide, hj, fun q => absurd q (by decide)⟩
    | 1, hj => exact Or.inr ⟨by decide, hj, fun q => absurd q (by decide)⟩
    | 2, hj => exact Or.inr ⟨by decide, hj, fun q => absurd q (by decide)⟩
    | 3, hj => exact Or.inr ⟨by decide, hj, fun _ => by have e := Option.some.inj hj; rw [← e]; exact hnl⟩
    | 4, hj => exact Or.inl ⟨rfl, (Option.some.inj (Option.some.inj hj)).symm⟩
    | q + 5, hj => exact Or.inr ⟨by omega, hj, fun z => absurd z (by omega)⟩) k
theorem e_iinc5 {κ : KT} {own : String} {cc : ByteArray} {nL : Nat} {rm : Room} {ad : Nat → Nat} {N : Nat} {ph : Phs} {M : Mem} {pc : Nat} {st : List AV} {cs : Nat × Nat} {Q : State → Prop} {a b c d0 e0 : Option AV} {t : List (Option AV)} (h : Ok κ own cc nL rm) {n x : Int} (d : decode cc pc = .ok (.iinc 5 n, 3)) (hi : 5 < nL) (hnl : nl e0 = true) (k : E κ ad N ph M (pc + 3) (a :: b :: c :: d0 :: e0 :: some (vi (x + n)) :: t) st cs Q) : E κ ad N ph M pc (a :: b :: c :: d0 :: e0 :: some (vi x) :: t) st cs Q :=
  e_iinc_g h (i := 5) d hi rfl (fun j w hj => by
    match j, hj with
    | 0, hj => exact Or.inr ⟨by decide, hj, fun q => absurd q (by decide)⟩
    | 1, hj => exact Or.inr ⟨by decide, hj, fun q => absurd q (by decide)⟩
    | 2, hj => exact Or.inr ⟨by decide, hj, fun q => absurd q (by decide)⟩
    | 3, hj => exact Or.inr ⟨by decide, hj, fun q => absurd q (by decide)⟩
    | 4, hj => exact Or.inr ⟨by decide, hj, fun _ => by have e := Option.some.inj hj; rw [← e]; exact hnl⟩
    | 5, hj => exact Or.inl ⟨rfl, (Option.some.inj (Option.some.inj hj)).symm⟩
    | q + 6, hj => exact Or.inr ⟨by omega, hj, fun z => absurd z (by omega)⟩) k
theorem e_iinc6 {κ : KT} {own : String} {cc : ByteArray} {nL : Nat} {rm : Room} {ad : Nat → Nat} {N : Nat} {ph : Phs} {M : Mem} {pc : Nat} {st : List AV} {cs : Nat × Nat} {Q : State → Prop} {a b c d0 e0 f0 : Option AV} {t : List (Option AV)} (h : Ok κ own cc nL rm) {n x : Int} (d : decode cc pc = .ok (.iinc 6 n, 3)) (hi : 6 < nL) (hnl : nl f0 = true) (k : E κ ad N ph M (pc + 3) (a :: b :: c :: d0 :: e0 :: f0 :: some (vi (x + n)) :: t) st cs Q) : E κ ad N ph M pc (a :: b :: c :: d0 :: e0 :: f0 :: some (vi x) :: t) st cs Q :=
  e_iinc_g h (i := 6) d hi rfl (fun j w hj => by
    match j, hj with
    | 0, hj => exact Or.inr ⟨by decide, hj, fun q => absurd q (by decide)⟩
    | 1, hj => exact Or.inr ⟨by decide, hj, fun q => absurd q (by decide)⟩
    | 2, hj => exact Or.inr ⟨by decide, hj, fun q => absurd q (by decide)⟩
    | 3, hj => exact Or.inr ⟨by decide, hj, fun q => absurd q (by decide)⟩
    | 4, hj => exact Or.inr ⟨by decide, hj, fun q => absurd q (by decide)⟩
    | 5, hj => exact Or.inr ⟨by decide, hj, fun _ => by have e := Option.some.inj hj; rw [← e]; exact hnl⟩
    | 6, hj => exact Or.inl ⟨rfl, (Option.some.inj (Option.some.inj hj)).symm⟩
    | q + 7, hj => exact Or.inr ⟨by omega, hj, fun z => absurd z (by omega)⟩) k
theorem e_iinc7 {κ : KT} {own : String} {cc : ByteArray} {nL : Nat} {rm : Room} {ad : Nat → Nat} {N : Nat} {ph : Phs} {M : Mem} {pc : Nat} {st : List AV} {cs : Nat × Nat} {Q : State → Prop} {a b c d0 e0 f0 g0 : Option AV} {t : List (Option AV)} (h : Ok κ own cc nL rm) {n x : Int} (d : decode cc pc = .ok (.iinc 7 n, 3)) (hi : 7 < nL) (hnl : nl g0 = true) (k : E κ ad N ph M (pc + 3) (a :: b :: c :: d0 :: e0 :: f0 :: g0 :: some (vi (x + n)) :: t) st cs Q) : E κ ad N ph M pc (a :: b :: c :: d0 :: e0 :: f0 :: g0 :: some (vi x) :: t) st cs Q :=
  e_iinc_g h (i := 7) d hi rfl (fun j w hj => by
    match j, hj with
    | 0, hj => exact Or.inr ⟨by decide, hj, fun q => absurd q (by decide)⟩
    | 1, hj => exact Or.inr ⟨by decide, hj, fun q => absurd q (by decide)⟩
    | 2, hj => exact Or.inr ⟨by decide, hj, fun q => absurd q (by decide)⟩
    | 3, hj => exact Or.inr ⟨by decide, hj, fun q => absurd q (by decide)⟩
    | 4, hj => exact Or.inr ⟨by decide, hj, fun q => absurd q (by decide)⟩
    | 5, hj => exact Or.inr ⟨by decide, hj, fun q => absurd q (by decide)⟩
    | 6, hj => exact Or.inr ⟨by decide, hj, fun _ => by have e := Option.some.inj hj; rw [← e]; exact hnl⟩
    | 7, hj => exact Or.inl ⟨rfl, (Option.some.inj (Option.some.inj hj)).symm⟩
    | q + 8, hj => exact Or.inr ⟨by omega, hj, fun z => absurd z (by omega)⟩) k
theorem e_iinc8 {κ : KT} {own : String} {cc : ByteArray} {nL : Nat} {rm : Room} {ad : Nat → Nat} {N : Nat} {ph : Phs} {M : Mem} {pc : Nat} {st : List AV} {cs : Nat × Nat} {Q : State → Prop} {a b c d0 e0 f0 g0 h0 : Option AV} {t : List (Option AV)} (h : Ok κ own cc nL rm) {n x : Int} (d : decode cc pc = .ok (.iinc 8 n, 3)) (hi : 8 < nL) (hnl : nl h0 = true) (k : E κ ad N ph M (pc + 3) (a :: b :: c :: d0 :: e0 :: f0 :: g0 :: h0 :: some (vi (x + n)) :: t) st cs Q) : E κ ad N ph M pc (a :: b :: c :: d0 :: e0 :: f0 :: g0 :: h0 :: some (vi x) :: t) st cs Q :=
  e_iinc_g h (i := 8) d hi rfl (fun j w hj => by
    match j, hj with
    | 0, hj => exact Or.inr ⟨by decide, hj, fun q => absurd q (by decide)⟩
    | 1, hj => exact Or.inr ⟨by decide, hj, fun q => absurd q (by decide)⟩
    | 2, hj => exact Or.inr ⟨by decide, hj, fun q => absurd q (by decide)⟩
    | 3, hj => exact Or.inr ⟨by decide, hj, fun q => absurd q (by decide)⟩
    | 4, hj => exact Or.inr ⟨by decide, hj, fun q => absurd q (by decide)⟩
    | 5, hj => exact Or.inr ⟨by decide, hj, fun q => absurd q (by decide)⟩
    | 6, hj => exact Or.inr ⟨by decide, hj, fun q => absurd q (by decide)⟩
    | 7, hj => exact Or.inr ⟨by decide, hj, fun _ => by have e := Option.some.inj hj; rw [← e]; exact hnl⟩
    | 8, hj => exact Or.inl ⟨rfl, (Option.some.inj (Option.some.inj hj)).symm⟩
    | q + 9, hj => exact Or.inr ⟨by omega, hj, fun z => absurd z (by omega)⟩) k
theorem e_iinc9 {κ : KT} {own : String} {cc : ByteArray} {nL : Nat} {rm : Room} {ad : Nat → Nat} {N : Nat} {ph : Phs} {M : Mem} {pc : Nat} {st : List AV} {cs : Nat × Nat} {Q : State → Prop} {a b c d0 e0 f0 g0 h0 i0 : Option AV} {t : List (Option AV)} (h : Ok κ own cc nL rm) {n x : Int} (d : decode cc pc = .ok (.iinc 9 n, 3)) (hi : 9 < nL) (hnl : nl i0 = true) (k : E κ ad N ph M (pc + 3) (a :: b :: c :: d0 :: e0 :: f0 :: g0 :: h0 :: i0 :: some (vi (x + n)) :: t) st cs Q) : E κ ad N ph M pc (a :: b :: c :: d0 :: e0 :: f0 :: g0 :: h0 :: i0 :: some (vi x) :: t) st cs Q :=
  e_iinc_g h (i := 9) d hi rfl (fun j w hj => by
    match j, hj with
    | 0, hj => exact Or.inr ⟨by decide, hj, fun q => absurd q (by decide)⟩
    | 1, hj => exact Or.inr ⟨by decide, hj, fun q => absurd q (by decide)⟩
    | 2, hj => exact Or.inr ⟨by decide, hj, fun q => absurd q (by decide)⟩
    | 3, hj => exact Or.inr ⟨by decide, hj, fun q => absurd q (by decide)⟩
    | 4, hj => exact Or.inr ⟨by decide, hj, fun q => absurd q (by decide)⟩
    | 5, hj => exact Or.inr ⟨by decide, hj, fun q => absurd q (by decide)⟩
    | 6, hj => exact Or.inr ⟨by decide, hj, fun q => absurd q (by decide)⟩
    | 7, hj => exact Or.inr ⟨by decide, hj, fun q => absurd q (by decide)⟩
    | 8, hj => exact Or.inr ⟨by decide, hj, fun _ => by have e := Option.some.inj hj; rw [← e]; exact hnl⟩
    | 9, hj => exact Or.inl ⟨rfl, (Option.some.inj (Option.some.inj hj)).symm⟩
    | q + 10, hj => exact Or.inr ⟨by omega, hj, fun z => absurd z (by omega)⟩) k
theorem e_iinc10 {κ : KT} {own : String} {cc : ByteArray} {nL : Nat} {rm : Room} {ad : Nat → Nat} {N : Nat} {ph : Phs} {M : Mem} {pc : Nat} {st : List AV} {cs : Nat × Nat} {Q : State → Prop} {a b c d0 e0 f0 g0 h0 i0 j0 : Option AV} {t : List (Option AV)} (h : Ok κ own cc nL rm) {n x : Int} (d : decode cc pc = .ok (.iinc 10 n, 3)) (hi : 10 < nL) (hnl : nl j0 = true) (k : E κ ad N ph M (pc + 3) (a :: b :: c :: d0 :: e0 :: f0 :: g0 :: h0 :: i0 :: j0 :: some (vi (x + n)) :: t) st cs Q) : E κ ad N ph M pc (a :: b :: c :: d0 :: e0 :: f0 :: g0 :: h0 :: i0 :: j0 :: some (vi x) :: t) st cs Q :=
  e_iinc_g h (i := 10) d hi rfl (fun j w hj => by
    match j, hj with
    | 0, hj => exact Or.inr ⟨by decide, hj, fun q => absurd q (by decide)⟩
    | 1, hj => exact Or.inr ⟨by decide, hj, fun q => absurd q (by decide)⟩
    | 2, hj => exact Or.inr ⟨by decide, hj, fun q => absurd q (by decide)⟩
    | 3, hj => exact Or.inr ⟨by decide, hj, fun q => absurd q (by decide)⟩
    | 4, hj => exact Or.inr ⟨by decide, hj, fun q => absurd q (by decide)⟩
    | 5, hj => exact Or.inr ⟨by decide, hj, fun q => absurd q (by decide)⟩
    | 6, hj => exact Or.inr ⟨by decide, hj, fun q => absurd q (by decide)⟩
    | 7, hj => exact Or.inr ⟨by decide, hj, fun q => absurd q (by decide)⟩
    | 8, hj => exact Or.inr ⟨by decide, hj, fun q => absurd q (by decide)⟩
    | 9, hj => exact Or.inr ⟨by decide, hj, fun _ => by have e := Option.some.inj hj; rw [← e]; exact hnl⟩
    | 10, hj => exact Or.inl ⟨rfl, (Option.some.inj (Option.some.inj hj)).symm⟩
    | q + 11, hj => exact Or.inr ⟨by omega, hj, fun z => absurd z (by omega)⟩) k
theorem e_iinc11 {κ : KT} {own : String} {cc : ByteArray} {nL : Nat} {rm : Room} {ad : Nat → Nat} {N : Nat} {ph : Phs} {M : Mem} {pc : Nat} {st : List AV} {cs : Nat × Nat} {Q : State → Prop} {a b c d0 e0 f0 g0 h0 i0 j0 k1 : Option AV} {t : List (Option AV)} (h : Ok κ own cc nL rm) {n x : Int} (d : decode cc pc = .ok (.iinc 11 n, 3)) (hi : 11 < nL) (hnl : nl k1 = true) (k : E κ ad N ph M (pc + 3) (a :: b :: c :: d0 :: e0 :: f0 :: g0 :: h0 :: i0 :: j0 :: k1 :: some (vi (x + n)) :: t) st cs Q) : E κ ad N ph M pc (a :: b :: c :: d0 :: e0 :: f0 :: g0 :: h0 :: i0 :: j0 :: k1 :: some (vi x) :: t) st cs Q :=
  e_iinc_g h (i := 11) d hi rfl (fun j w hj => by
    match j, hj with
    | 0, hj => exact Or.inr ⟨by decide, hj, fun q => absurd q (by decide)⟩
    | 1, hj => exact Or.inr ⟨by decide, hj, fun q => absurd q (by decide)⟩
    | 2, hj => exact Or.inr ⟨by decide, hj, fun q => absurd q (by decide)⟩
    | 3, hj => exact Or.inr ⟨by decide, hj, fun q => absurd q (by decide)⟩
    | 4, hj => exact Or.inr ⟨by decide, hj, fun q => absurd q (by decide)⟩
    | 5, hj => exact Or.inr ⟨by decide, hj, fun q => absurd q (by decide)⟩
    | 6, hj => exact Or.inr ⟨by decide, hj, fun q => absurd q (by decide)⟩
    | 7, hj => exact Or.inr ⟨by decide, hj, fun q => absurd q (by decide)⟩
    | 8, hj => exact Or.inr ⟨by decide, hj, fun q => absurd q (by decide)⟩
    | 9, hj => exact Or.inr ⟨by decide, hj, fun q => absurd q (by decide)⟩
    | 10, hj => exact Or.inr ⟨by decide, hj, fun _ => by have e := Option.some.inj hj; rw [← e]; exact hnl⟩
    | 11, hj => exact Or.inl ⟨rfl, (Option.some.inj (Option.some.inj hj)).symm⟩
    | q + 12, hj => exact Or.inr ⟨by omega, hj, fun z => absurd z (by omega)⟩) k
theorem e_iadd {κ : KT} {own : String} {cc : ByteArray} {nL : Nat} {rm : Room} {ad : Nat → Nat} {N : Nat} {ph : Phs} {M : Mem} {pc : Nat} {ls : List (Option AV)} {st : List AV} {cs : Nat × Nat} {Q : State → Prop} (h : Ok κ own cc nL rm) {x y : Int} (d : decode cc pc = .ok (.iadd, 1)) (k : E κ ad N ph M (pc + 1) ls (vi (x + y) :: st) cs Q) : E κ ad N ph M pc ls (vi y :: vi x :: st) cs Q := by
  obtain ⟨p, l, e, R, s, m, args, below, meth, c, D, cy, A⟩ := κ
  obtain ⟨hx, hb, hml, hown, hts, hnw, hlk, hK, hR⟩ := h
  intro h1 h2 H locs Ls hP hS hl
  have kk := k h1 h2 H locs Ls hP hS hl
  refine lv_iadd hx hb d ?_
  rw [← Int32.ofInt_add]
  exact kk
theorem e_isub {κ : KT} {own : String} {cc : ByteArray} {nL : Nat} {rm : Room} {ad : Nat → Nat} {N : Nat} {ph : Phs} {M : Mem} {pc : Nat} {ls : List (Option AV)} {st : List AV} {cs : Nat × Nat} {Q : State → Prop} (h : Ok κ own cc nL rm) {x y : Int} (d : decode cc pc = .ok (.isub, 1)) (k : E κ ad N ph M (pc + 1) ls (vi (x - y) :: st) cs Q) : E κ ad N ph M pc ls (vi y :: vi x :: st) cs Q := by
  obtain ⟨p, l, e, R, s, m, args, below, meth, c, D, cy, A⟩ := κ
  obtain ⟨hx, hb, hml, hown, hts, hnw, hlk, hK, hR⟩ := h
  intro h1 h2 H locs Ls hP hS hl
  have kk := k h1 h2 H locs Ls hP hS hl
  refine lv_isub hx hb d ?_
  rw [← Int32.ofInt_sub]
  exact kk
theorem e_imul {κ : KT} {own : String} {cc : ByteArray} {nL : Nat} {rm : Room} {ad : Nat → Nat} {N : Nat} {ph : Phs} {M : Mem} {pc : Nat} {ls : List (Option AV)} {st : List AV} {cs : Nat × Nat} {Q : State → Prop} (h : Ok κ own cc nL rm) {x y : Int} (d : decode cc pc = .ok (.imul, 1)) (k : E κ ad N ph M (pc + 1) ls (vi (x * y) :: st) cs Q) : E κ ad N ph M pc ls (vi y :: vi x :: st) cs Q := by
  obtain ⟨p, l, e, R, s, m, args, below, meth, c, D, cy, A⟩ := κ
  obtain ⟨hx, hb, hml, hown, hts, hnw, hlk, hK, hR⟩ := h
  intro h1 h2 H locs Ls hP hS hl
  have kk := k h1 h2 H locs Ls hP hS hl
  refine lv_imul hx hb d ?_
  rw [← Int32.ofInt_mul]
  exact kk
theorem e_ladd {κ : KT} {own : String} {cc : ByteArray} {nL : Nat} {rm : Room} {ad : Nat → Nat} {N : Nat} {ph : Phs} {M : Mem} {pc : Nat} {ls : List (Option AV)} {st : List AV} {cs : Nat × Nat} {Q : State → Prop} (h : Ok κ own cc nL rm) {x y : Int} (d : decode cc pc = .ok (.ladd, 1)) (k : E κ ad N ph M (pc + 1) ls (vj (x + y) :: st) cs Q) : E κ ad N ph M pc ls (vj y :: vj x :: st) cs Q := by
  obtain ⟨p, l, e, R, s, m, args, below, meth, c, D, cy, A⟩ := κ
  obtain ⟨hx, hb, hml, hown, hts, hnw, hlk, hK, hR⟩ := h
  intro h1 h2 H locs Ls hP hS hl
  have kk := k h1 h2 H locs Ls hP hS hl
  refine lv_ladd hx hb d ?_
  rw [← Int64.ofInt_add]
  exact kk
theorem e_lsub {κ : KT} {own : String} {cc : ByteArray} {nL : Nat} {rm : Room} {ad : Nat → Nat} {N : Nat} {ph : Phs} {M : Mem} {pc : Nat} {ls : List (Option AV)} {st : List AV} {cs : Nat × Nat} {Q : State → Prop} (h : Ok κ own cc nL rm) {x y : Int} (d : decode cc pc = .ok (.lsub, 1)) (k : E κ ad N ph M (pc + 1) ls (vj (x - y) :: st) cs Q) : E κ ad N ph M pc ls (vj y :: vj x :: st) cs Q := by
  obtain ⟨p, l, e, R, s, m, args, below, meth, c, D, cy, A⟩ := κ
  obtain ⟨hx, hb, hml, hown, hts, hnw, hlk, hK, hR⟩ := h
  intro h1 h2 H locs Ls hP hS hl
  have kk := k h1 h2 H locs Ls hP hS hl
  refine lv_lsub hx hb d ?_
  rw [← Int64.ofInt_sub]
  exact kk
theorem e_lmul {κ : KT} {own : String} {cc : ByteArray} {nL : Nat} {rm : Room} {ad : Nat → Nat} {N : Nat} {ph : Phs} {M : Mem} {pc : Nat} {ls : List (Option AV)} {st : List AV} {cs : Nat × Nat} {Q : State → Prop} (h : Ok κ own cc nL rm) {x y : Int} (d : decode cc pc = .ok (.lmul, 1)) (k : E κ ad N ph M (pc + 1) ls (vj (x * y) :: st) cs Q) : E κ ad N ph M pc ls (vj y :: vj x :: st) cs Q := by
  obtain ⟨p, l, e, R, s, m, args, below, meth, c, D, cy, A⟩ := κ
  obtain ⟨hx, hb, hml, hown, hts, hnw, hlk, hK, hR⟩ := h
  intro h1 h2 H locs Ls hP hS hl
  have kk := k h1 h2 H locs Ls hP hS hl
  refine lv_lmul hx hb d ?_
  rw [← Int64.ofInt_mul]
  exact kk

theorem i_div {x y : Int} (hx : -2147483648 ≤ x ∧ x ≤ 2147483647) (hy : 0 < y ∧ y ≤ 2147483647) : Int32.ofInt x / Int32.ofInt y = Int32.ofInt (x.tdiv y) := by
  exact (Int32.ofInt_tdiv (a := x) (b := y) (by show -2147483648 ≤ x; omega) (by show x ≤ 2147483647; omega) (by show -2147483648 ≤ y; omega) (by show y ≤ 2147483647; omega)).symm
theorem j_div {x y : Int} (hx : -9223372036854775808 ≤ x ∧ x ≤ 9223372036854775807) (hy : 0 < y ∧ y ≤ 9223372036854775807) : Int64.ofInt x / Int64.ofInt y = Int64.ofInt (x.tdiv y) := by
  exact (Int64.ofInt_tdiv (a := x) (b := y) (by show -9223372036854775808 ≤ x; omega) (by show x ≤ 9223372036854775807; omega) (by show -9223372036854775808 ≤ y; omega) (by show y ≤ 9223372036854775807; omega)).symm
theorem i_ne0 {y : Int} (hy : 0 < y ∧ y ≤ 2147483647) : ¬ Int32.ofInt y = 0 := by
  rw [← i_zero, i_eq (by omega) (by omega)]
  omega
theorem j_ne0 {y : Int} (hy : 0 < y ∧ y ≤ 9223372036854775807) : ¬ Int64.ofInt y = 0 := by
  intro q
  have := congrArg Int64.toInt q
  rw [j_toInt (by omega)] at this
  have h0 : (0 : Int64).toInt = 0 := rfl
  omega
theorem i_rem {x y : Int} (hx : -2147483648 ≤ x ∧ x ≤ 2147483647) (hy : 0 < y ∧ y ≤ 2147483647) : Int32.ofInt x - Int32.ofInt x / Int32.ofInt y * Int32.ofInt y = Int32.ofInt (x.tmod y) := by
  rw [i_div hx hy, ← Int32.ofInt_mul, ← Int32.ofInt_sub, Int.tmod_def, Int.mul_comm]
theorem j_rem {x y : Int} (hx : -9223372036854775808 ≤ x ∧ x ≤ 9223372036854775807) (hy : 0 < y ∧ y ≤ 9223372036854775807) : Int64.ofInt x - Int64.ofInt x / Int64.ofInt y * Int64.ofInt y = Int64.ofInt (x.tmod y) := by
  rw [j_div hx hy, ← Int64.ofInt_mul, ← Int64.ofInt_sub, Int.tmod_def, Int.mul_comm]

theorem e_idiv {κ : KT} {own : String} {cc : ByteArray} {nL : Nat} {rm : Room} {ad : Nat → Nat} {N : Nat} {ph : Phs} {M : Mem} {pc : Nat} {ls : List (Option AV)} {st : List AV} {cs : Nat × Nat} {Q : State → Prop} (h : Ok κ own cc nL rm) {x y : Int} (d : decode cc pc = .ok (.idiv, 1))(hx0 : -2147483648 ≤ x ∧ x ≤ 2147483647)(hy : 0 < y ∧ y ≤ 2147483647) (k : E κ ad N ph M (pc + 1) ls (vi (x.tdiv y) :: st) cs Q) : E κ ad N ph M pc ls (vi y :: vi x :: st) cs Q := by
  obtain ⟨p, l, e, R, s, m, args, below, meth, c, D, cy, A⟩ := κ
  obtain ⟨hx, hb, hml, hown, hts, hnw, hlk, hK, hR⟩ := h
  intro h1 h2 H locs Ls hP hS hl
  have kk := k h1 h2 H locs Ls hP hS hl
  refine lv_idiv hx hb d (i_ne0 hy) ?_
  rw [i_div hx0 hy]
  exact kk
theorem e_irem {κ : KT} {own : String} {cc : ByteArray} {nL : Nat} {rm : Room} {ad : Nat → Nat} {N : Nat} {ph : Phs} {M : Mem} {pc : Nat} {ls : List (Option AV)} {st : List AV} {cs : Nat × Nat} {Q : State → Prop} (h : Ok κ own cc nL rm) {x y : Int} (d : decode cc pc = .ok (.irem, 1))(hx0 : -2147483648 ≤ x ∧ x ≤ 2147483647)(hy : 0 < y ∧ y ≤ 2147483647) (k : E κ ad N ph M (pc + 1) ls (vi (x.tmod y) :: st) cs Q) : E κ ad N ph M pc ls (vi y :: vi x :: st) cs Q := by
  obtain ⟨p, l, e, R, s, m, args, below, meth, c, D, cy, A⟩ := κ
  obtain ⟨hx, hb, hml, hown, hts, hnw, hlk, hK, hR⟩ := h
  intro h1 h2 H locs Ls hP hS hl
  have kk := k h1 h2 H locs Ls hP hS hl
  refine lv_irem hx hb d (i_ne0 hy) ?_
  rw [i_rem hx0 hy]
  exact kk
theorem e_ldiv {κ : KT} {own : String} {cc : ByteArray} {nL : Nat} {rm : Room} {ad : Nat → Nat} {N : Nat} {ph : Phs} {M : Mem} {pc : Nat} {ls : List (Option AV)} {st : List AV} {cs : Nat × Nat} {Q : State → Prop} (h : Ok κ own cc nL rm) {x y : Int} (d : decode cc pc = .ok (.ldiv, 1))(hx0 : -9223372036854775808 ≤ x ∧ x ≤ 9223372036854775807)(hy : 0 < y ∧ y ≤ 9223372036854775807) (k : E κ ad N ph M (pc + 1) ls (vj (x.tdiv y) :: st) cs Q) : E κ ad N ph M pc ls (vj y :: vj x :: st) cs Q := by
  obtain ⟨p, l, e, R, s, m, args, below, meth, c, D, cy, A⟩ := κ
  obtain ⟨hx, hb, hml, hown, hts, hnw, hlk, hK, hR⟩ := h
  intro h1 h2 H locs Ls hP hS hl
  have kk := k h1 h2 H locs Ls hP hS hl
  refine lv_ldiv hx hb d (j_ne0 hy) ?_
  rw [j_div hx0 hy]
  exact kk
theorem e_lrem {κ : KT} {own : String} {cc : ByteArray} {nL : Nat} {rm : Room} {ad : Nat → Nat} {N : Nat} {ph : Phs} {M : Mem} {pc : Nat} {ls : List (Option AV)} {st : List AV} {cs : Nat × Nat} {Q : State → Prop} (h : Ok κ own cc nL rm) {x y : Int} (d : decode cc pc = .ok (.lrem, 1))(hx0 : -9223372036854775808 ≤ x ∧ x ≤ 9223372036854775807)(hy : 0 < y ∧ y ≤ 9223372036854775807) (k : E κ ad N ph M (pc + 1) ls (vj (x.tmod y) :: st) cs Q) : E κ ad N ph M pc ls (vj y :: vj x :: st) cs Q := by
  obtain ⟨p, l, e, R, s, m, args, below, meth, c, D, cy, A⟩ := κ
  obtain ⟨hx, hb, hml, hown, hts, hnw, hlk, hK, hR⟩ := h
  intro h1 h2 H locs Ls hP hS hl
  have kk := k h1 h2 H locs Ls hP hS hl
  refine lv_lrem hx hb d (j_ne0 hy) ?_
  rw [j_rem hx0 hy]
  exact kk
theorem e_iand {κ : KT} {own : String} {cc : ByteArray} {nL : Nat} {rm : Room} {ad : Nat → Nat} {N : Nat} {ph : Phs} {M : Mem} {pc : Nat} {ls : List (Option AV)} {st : List AV} {cs : Nat × Nat} {Q : State → Prop} (h : Ok κ own cc nL rm) {x y z : Int} (d : decode cc pc = .ok (.iand, 1)) (hz : Int32.ofInt x &&& Int32.ofInt y = Int32.ofInt z) (k : E κ ad N ph M (pc + 1) ls (vi z :: st) cs Q) : E κ ad N ph M pc ls (vi y :: vi x :: st) cs Q := by
  obtain ⟨p, l, e, R, s, m, args, below, meth, c, D, cy, A⟩ := κ
  obtain ⟨hx, hb, hml, hown, hts, hnw, hlk, hK, hR⟩ := h
  intro h1 h2 H locs Ls hP hS hl
  have kk := k h1 h2 H locs Ls hP hS hl
  refine lv_iand hx hb d ?_
  rw [hz]
  exact kk
theorem e_ior {κ : KT} {own : String} {cc : ByteArray} {nL : Nat} {rm : Room} {ad : Nat → Nat} {N : Nat} {ph : Phs} {M : Mem} {pc : Nat} {ls : List (Option AV)} {st : List AV} {cs : Nat × Nat} {Q : State → Prop} (h : Ok κ own cc nL rm) {x y z : Int} (d : decode cc pc = .ok (.ior, 1)) (hz : Int32.ofInt x ||| Int32.ofInt y = Int32.ofInt z) (k : E κ ad N ph M (pc + 1) ls (vi z :: st) cs Q) : E κ ad N ph M pc ls (vi y :: vi x :: st) cs Q := by
  obtain ⟨p, l, e, R, s, m, args, below, meth, c, D, cy, A⟩ := κ
  obtain ⟨hx, hb, hml, hown, hts, hnw, hlk, hK, hR⟩ := h
  intro h1 h2 H locs Ls hP hS hl
  have kk := k h1 h2 H locs Ls hP hS hl
  refine lv_ior hx hb d ?_
  rw [hz]
  exact kk
theorem e_land {κ : KT} {own : String} {cc : ByteArray} {nL : Nat} {rm : Room} {ad : Nat → Nat} {N : Nat} {ph : Phs} {M : Mem} {pc : Nat} {ls : List (Option AV)} {st : List AV} {cs : Nat × Nat} {Q : State → Prop} (h : Ok κ own cc nL rm) {x y z : Int} (d : decode cc pc = .ok (.land, 1)) (hz : Int64.ofInt x &&& Int64.ofInt y = Int64.ofInt z) (k : E κ ad N ph M (pc + 1) ls (vj z :: st) cs Q) : E κ ad N ph M pc ls (vj y :: vj x :: st) cs Q := by
  obtain ⟨p, l, e, R, s, m, args, below, meth, c, D, cy, A⟩ := κ
  obtain ⟨hx, hb, hml, hown, hts, hnw, hlk, hK, hR⟩ := h
  intro h1 h2 H locs Ls hP hS hl
  have kk := k h1 h2 H locs Ls hP hS hl
  refine lv_land hx hb d ?_
  rw [hz]
  exact kk
theorem e_lor {κ : KT} {own : String} {cc : ByteArray} {nL : Nat} {rm : Room} {ad : Nat → Nat} {N : Nat} {ph : Phs} {M : Mem} {pc : Nat} {ls : List (Option AV)} {st : List AV} {cs : Nat × Nat} {Q : State → Prop} (h : Ok κ own cc nL rm) {x y z : Int} (d : decode cc pc = .ok (.lor, 1)) (hz : Int64.ofInt x ||| Int64.ofInt y = Int64.ofInt z) (k : E κ ad N ph M (pc + 1) ls (vj z :: st) cs Q) : E κ ad N ph M pc ls (vj y :: vj x :: st) cs Q := by
  obtain ⟨p, l, e, R, s, m, args, below, meth, c, D, cy, A⟩ := κ
  obtain ⟨hx, hb, hml, hown, hts, hnw, hlk, hK, hR⟩ := h
  intro h1 h2 H locs Ls hP hS hl
  have kk := k h1 h2 H locs Ls hP hS hl
  refine lv_lor hx hb d ?_
  rw [hz]
  exact kk
theorem e_ishl {κ : KT} {own : String} {cc : ByteArray} {nL : Nat} {rm : Room} {ad : Nat → Nat} {N : Nat} {ph : Phs} {M : Mem} {pc : Nat} {ls : List (Option AV)} {st : List AV} {cs : Nat × Nat} {Q : State → Prop} (h : Ok κ own cc nL rm) {x y z : Int} (d : decode cc pc = .ok (.ishl, 1)) (hz : Int32.ofInt x <<< (Int32.ofInt y &&& 31) = Int32.ofInt z) (k : E κ ad N ph M (pc + 1) ls (vi z :: st) cs Q) : E κ ad N ph M pc ls (vi y :: vi x :: st) cs Q := by
  obtain ⟨p, l, e, R, s, m, args, below, meth, c, D, cy, A⟩ := κ
  obtain ⟨hx, hb, hml, hown, hts, hnw, hlk, hK, hR⟩ := h
  intro h1 h2 H locs Ls hP hS hl
  have kk := k h1 h2 H locs Ls hP hS hl
  refine lv_ishl hx hb d ?_
  rw [hz]
  exact kk
theorem e_lshl {κ : KT} {own : String} {cc : ByteArray} {nL : Nat} {rm : Room} {ad : Nat → Nat} {N : Nat} {ph : Phs} {M : Mem} {pc : Nat} {ls : List (Option AV)} {st : List AV} {cs : Nat × Nat} {Q : State → Prop} (h : Ok κ own cc nL rm) {x y z : Int} (d : decode cc pc = .ok (.lshl, 1)) (hz : Int64.ofInt x <<< ((Int32.ofInt y).toInt64 &&& 63) = Int64.ofInt z) (k : E κ ad N ph M (pc + 1) ls (vj z :: st) cs Q) : E κ ad N ph M pc ls (vi y :: vj x :: st) cs Q := by
  obtain ⟨p, l, e, R, s, m, args, below, meth, c, D, cy, A⟩ := κ
  obtain ⟨hx, hb, hml, hown, hts, hnw, hlk, hK, hR⟩ := h
  intro h1 h2 H locs Ls hP hS hl
  have kk := k h1 h2 H locs Ls hP hS hl
  exact lv_lshl hx hb d hz kk
theorem e_lshr {κ : KT} {own : String} {cc : ByteArray} {nL : Nat} {rm : Room} {ad : Nat → Nat} {N : Nat} {ph : Phs} {M : Mem} {pc : Nat} {ls : List (Option AV)} {st : List AV} {cs : Nat × Nat} {Q : State → Prop} (h : Ok κ own cc nL rm) {x y z : Int} (d : decode cc pc = .ok (.lshr, 1)) (hz : Int64.ofInt x >>> ((Int32.ofInt y).toInt64 &&& 63) = Int64.ofInt z) (k : E κ ad N ph M (pc + 1) ls (vj z :: st) cs Q) : E κ ad N ph M pc ls (vi y :: vj x :: st) cs Q := by
  obtain ⟨p, l, e, R, s, m, args, below, meth, c, D, cy, A⟩ := κ
  obtain ⟨hx, hb, hml, hown, hts, hnw, hlk, hK, hR⟩ := h
  intro h1 h2 H locs Ls hP hS hl
  have kk := k h1 h2 H locs Ls hP hS hl
  exact lv_lshr hx hb d hz kk
theorem e_lushr {κ : KT} {own : String} {cc : ByteArray} {nL : Nat} {rm : Room} {ad : Nat → Nat} {N : Nat} {ph : Phs} {M : Mem} {pc : Nat} {ls : List (Option AV)} {st : List AV} {cs : Nat × Nat} {Q : State → Prop} (h : Ok κ own cc nL rm) {x y z : Int} (d : decode cc pc = .ok (.lushr, 1)) (hz : ((Int64.ofInt x).toUInt64 >>> ((Int32.ofInt y).toInt64.toUInt64 &&& Int64.toUInt64 63)).toInt64 = Int64.ofInt z) (k : E κ ad N ph M (pc + 1) ls (vj z :: st) cs Q) : E κ ad N ph M pc ls (vi y :: vj x :: st) cs Q := by
  obtain ⟨p, l, e, R, s, m, args, below, meth, c, D, cy, A⟩ := κ
  obtain ⟨hx, hb, hml, hown, hts, hnw, hlk, hK, hR⟩ := h
  intro h1 h2 H locs Ls hP hS hl
  have kk := k h1 h2 H locs Ls hP hS hl
  exact lv_lushr hx hb d hz kk
theorem e_i2l {κ : KT} {own : String} {cc : ByteArray} {nL : Nat} {rm : Room} {ad : Nat → Nat} {N : Nat} {ph : Phs} {M : Mem} {pc : Nat} {ls : List (Option AV)} {st : List AV} {cs : Nat × Nat} {Q : State → Prop} (h : Ok κ own cc nL rm) {x : Int} (d : decode cc pc = .ok (.i2l, 1))(hx0 : -2147483648 ≤ x ∧ x ≤ 2147483647) (k : E κ ad N ph M (pc + 1) ls (vj x :: st) cs Q) : E κ ad N ph M pc ls (vi x :: st) cs Q := by
  obtain ⟨p, l, e, R, s, m, args, below, meth, c, D, cy, A⟩ := κ
  obtain ⟨hx, hb, hml, hown, hts, hnw, hlk, hK, hR⟩ := h
  intro h1 h2 H locs Ls hP hS hl
  have kk := k h1 h2 H locs Ls hP hS hl
  exact lv_i2l hx hb d (Int32.toInt64_ofInt (by show -2147483648 ≤ x; omega) (by show x ≤ 2147483647; omega)) kk
theorem e_l2i {κ : KT} {own : String} {cc : ByteArray} {nL : Nat} {rm : Room} {ad : Nat → Nat} {N : Nat} {ph : Phs} {M : Mem} {pc : Nat} {ls : List (Option AV)} {st : List AV} {cs : Nat × Nat} {Q : State → Prop} (h : Ok κ own cc nL rm) {x : Int} (d : decode cc pc = .ok (.l2i, 1)) (k : E κ ad N ph M (pc + 1) ls (vi x :: st) cs Q) : E κ ad N ph M pc ls (vj x :: st) cs Q := by
  obtain ⟨p, l, e, R, s, m, args, below, meth, c, D, cy, A⟩ := κ
  obtain ⟨hx, hb, hml, hown, hts, hnw, hlk, hK, hR⟩ := h
  intro h1 h2 H locs Ls hP hS hl
  have kk := k h1 h2 H locs Ls hP hS hl
  exact lv_l2i hx hb d Int64.toInt32_ofInt kk

theorem j_lt {x y : Int} (hx : -9223372036854775808 ≤ x ∧ x ≤ 9223372036854775807) (hy : -9223372036854775808 ≤ y ∧ y ≤ 9223372036854775807) : Int64.ofInt x < Int64.ofInt y ↔ x < y := by
  rw [Int64.lt_iff_toInt_lt, j_toInt hx, j_toInt hy]
def lcmp (x y : Int) : Int := if y < x then 1 else if x < y then -1 else 0
theorem lcmp_eq {x y : Int} (hx : -9223372036854775808 ≤ x ∧ x ≤ 9223372036854775807) (hy : -9223372036854775808 ≤ y ∧ y ≤ 9223372036854775807) : lg_cmp (Int64.ofInt x) (Int64.ofInt y) = Int32.ofInt (lcmp x y) := by
  unfold lg_cmp lcmp
  have e : Int64.ofInt x = Int64.ofInt y ↔ x = y := by
    rw [← Int64.toInt_inj, j_toInt hx, j_toInt hy]
  simp only [gt_iff_lt, j_lt hy hx, e]
  by_cases h1 : y < x
  · rw [if_pos h1, if_pos h1]; rfl
  · by_cases h2 : x = y
    · rw [if_neg h1, if_pos h2, if_neg h1, if_neg (by omega)]; rfl
    · rw [if_neg h1, if_neg h2, if_neg h1, if_pos (by omega)]; rfl

theorem e_lcmp {κ : KT} {own : String} {cc : ByteArray} {nL : Nat} {rm : Room} {ad : Nat → Nat} {N : Nat} {ph : Phs} {M : Mem} {pc : Nat} {ls : List (Option AV)} {st : List AV} {cs : Nat × Nat} {Q : State → Prop} (h : Ok κ own cc nL rm) {x y : Int} (d : decode cc pc = .ok (.lcmp, 1))(hx0 : -9223372036854775808 ≤ x ∧ x ≤ 9223372036854775807)(hy0 : -9223372036854775808 ≤ y ∧ y ≤ 9223372036854775807) (k : E κ ad N ph M (pc + 1) ls (vi (lcmp x y) :: st) cs Q) : E κ ad N ph M pc ls (vj y :: vj x :: st) cs Q := by
  obtain ⟨p, l, e, R, s, m, args, below, meth, c, D, cy, A⟩ := κ
  obtain ⟨hx, hb, hml, hown, hts, hnw, hlk, hK, hR⟩ := h
  intro h1 h2 H locs Ls hP hS hl
  have kk := k h1 h2 H locs Ls hP hS hl
  refine W.lcmp hx hb d ?_
  rw [lcmp_eq hx0 hy0]
  exact kk
theorem e_dup {κ : KT} {own : String} {cc : ByteArray} {nL : Nat} {rm : Room} {ad : Nat → Nat} {N : Nat} {ph : Phs} {M : Mem} {pc : Nat} {ls : List (Option AV)} {st : List AV} {cs : Nat × Nat} {Q : State → Prop} (h : Ok κ own cc nL rm) {v : AV} (d : decode cc pc = .ok (.dup, 1)) (hv : ct v = 1) (k : E κ ad N ph M (pc + 1) ls (v :: v :: st) cs Q) : E κ ad N ph M pc ls (v :: st) cs Q := by
  obtain ⟨p, l, e, R, s, m, args, below, meth, c, D, cy, A⟩ := κ
  obtain ⟨hx, hb, hml, hown, hts, hnw, hlk, hK, hR⟩ := h
  intro h1 h2 H locs Ls hP hS hl
  have kk := k h1 h2 H locs Ls hP hS hl
  exact lv_dup hx hb d ((cv_cat ad v).trans hv) kk
theorem e_dup2 {κ : KT} {own : String} {cc : ByteArray} {nL : Nat} {rm : Room} {ad : Nat → Nat} {N : Nat} {ph : Phs} {M : Mem} {pc : Nat} {ls : List (Option AV)} {st : List AV} {cs : Nat × Nat} {Q : State → Prop} (h : Ok κ own cc nL rm) {v w : AV} (d : decode cc pc = .ok (.dup2, 1)) (hv : ct v = 1) (hw : ct w = 1) (k : E κ ad N ph M (pc + 1) ls (v :: w :: v :: w :: st) cs Q) : E κ ad N ph M pc ls (v :: w :: st) cs Q := by
  obtain ⟨p, l, e, R, s, m, args, below, meth, c, D, cy, A⟩ := κ
  obtain ⟨hx, hb, hml, hown, hts, hnw, hlk, hK, hR⟩ := h
  intro h1 h2 H locs Ls hP hS hl
  have kk := k h1 h2 H locs Ls hP hS hl
  exact lv_dup2_11 hx hb d ((cv_cat ad v).trans hv) ((cv_cat ad w).trans hw) kk
theorem e_pop {κ : KT} {own : String} {cc : ByteArray} {nL : Nat} {rm : Room} {ad : Nat → Nat} {N : Nat} {ph : Phs} {M : Mem} {pc : Nat} {ls : List (Option AV)} {st : List AV} {cs : Nat × Nat} {Q : State → Prop} (h : Ok κ own cc nL rm) {v : AV} (d : decode cc pc = .ok (.pop, 1)) (hv : ct v = 1) (k : E κ ad N ph M (pc + 1) ls st cs Q) : E κ ad N ph M pc ls (v :: st) cs Q := by
  obtain ⟨p, l, e, R, s, m, args, below, meth, c, D, cy, A⟩ := κ
  obtain ⟨hx, hb, hml, hown, hts, hnw, hlk, hK, hR⟩ := h
  intro h1 h2 H locs Ls hP hS hl
  have kk := k h1 h2 H locs Ls hP hS hl
  exact lv_pop hx hb d ((cv_cat ad v).trans hv) kk
theorem e_icmp_eq {κ : KT} {own : String} {cc : ByteArray} {nL : Nat} {rm : Room} {ad : Nat → Nat} {N : Nat} {ph : Phs} {M : Mem} {pc : Nat} {ls : List (Option AV)} {st : List AV} {cs : Nat × Nat} {Q : State → Prop} (h : Ok κ own cc nL rm) {off : Int} {tgt : Nat} {x y : Int} (d : decode cc pc = .ok (.if_icmp .eq off, 3)) (ht : (pc : Int) + off = (tgt : Int)) (hx0 : -2147483648 ≤ x ∧ x ≤ 2147483647) (hy0 : -2147483648 ≤ y ∧ y ≤ 2147483647) (kt : (x = y) → E κ ad N ph M tgt ls st cs Q) (kf : ¬ (x = y) → E κ ad N ph M (pc + 3) ls st cs Q) : E κ ad N ph M pc ls (vi y :: vi x :: st) cs Q := by
  obtain ⟨p, l, e, R, s, m, args, below, meth, c, D, cy, A⟩ := κ
  obtain ⟨hx, hb, hml, hown, hts, hnw, hlk, hK, hR⟩ := h
  intro h1 h2 H locs Ls hP hS hl
  exact lv_icmp_eq hx hb d ht (fun q => kt ((i_eq hx0 hy0).mp q) h1 h2 H locs Ls hP hS hl) (fun q => kf (fun z => q ((i_eq hx0 hy0).mpr z)) h1 h2 H locs Ls hP hS hl)
theorem e_icmp_lt {κ : KT} {own : String} {cc : ByteArray} {nL : Nat} {rm : Room} {ad : Nat → Nat} {N : Nat} {ph : Phs} {M : Mem} {pc : Nat} {ls : List (Option AV)} {st : List AV} {cs : Nat × Nat} {Q : State → Prop} (h : Ok κ own cc nL rm) {off : Int} {tgt : Nat} {x y : Int} (d : decode cc pc = .ok (.if_icmp .lt off, 3)) (ht : (pc : Int) + off = (tgt : Int)) (hx0 : -2147483648 ≤ x ∧ x ≤ 2147483647) (hy0 : -2147483648 ≤ y ∧ y ≤ 2147483647) (kt : (x < y) → E κ ad N ph M tgt ls st cs Q) (kf : ¬ (x < y) → E κ ad N ph M (pc + 3) ls st cs Q) : E κ ad N ph M pc ls (vi y :: vi x :: st) cs Q := by
  obtain ⟨p, l, e, R, s, m, args, below, meth, c, D, cy, A⟩ := κ
  obtain ⟨hx, hb, hml, hown, hts, hnw, hlk, hK, hR⟩ := h
  intro h1 h2 H locs Ls hP hS hl
  exact lv_icmp_lt hx hb d ht (fun q => kt ((i_lt hx0 hy0).mp q) h1 h2 H locs Ls hP hS hl) (fun q => kf (fun z => q ((i_lt hx0 hy0).mpr z)) h1 h2 H locs Ls hP hS hl)
theorem e_icmp_ge {κ : KT} {own : String} {cc : ByteArray} {nL : Nat} {rm : Room} {ad : Nat → Nat} {N : Nat} {ph : Phs} {M : Mem} {pc : Nat} {ls : List (Option AV)} {st : List AV} {cs : Nat × Nat} {Q : State → Prop} (h : Ok κ own cc nL rm) {off : Int} {tgt : Nat} {x y : Int} (d : decode cc pc = .ok (.if_icmp .ge off, 3)) (ht : (pc : Int) + off = (tgt : Int)) (hx0 : -2147483648 ≤ x ∧ x ≤ 2147483647) (hy0 : -2147483648 ≤ y ∧ y ≤ 2147483647) (kt : (y ≤ x) → E κ ad N ph M tgt ls st cs Q) (kf : ¬ (y ≤ x) → E κ ad N ph M (pc + 3) ls st cs Q) : E κ ad N ph M pc ls (vi y :: vi x :: st) cs Q := by
  obtain ⟨p, l, e, R, s, m, args, below, meth, c, D, cy, A⟩ := κ
  obtain ⟨hx, hb, hml, hown, hts, hnw, hlk, hK, hR⟩ := h
  intro h1 h2 H locs Ls hP hS hl
  exact lv_icmp_ge hx hb d ht (fun q => kt ((i_le hy0 hx0).mp q) h1 h2 H locs Ls hP hS hl) (fun q => kf (fun z => q ((i_le hy0 hx0).mpr z)) h1 h2 H locs Ls hP hS hl)
theorem e_icmp_gt {κ : KT} {own : String} {cc : ByteArray} {nL : Nat} {rm : Room} {ad : Nat → Nat} {N : Nat} {ph : Phs} {M : Mem} {pc : Nat} {ls : List (Option AV)} {st : List AV} {cs : Nat × Nat} {Q : State → Prop} (h : Ok κ own cc nL rm) {off : Int} {tgt : Nat} {x y : Int} (d : decode cc pc = .ok (.if_icmp .gt off, 3)) (ht : (pc : Int) + off = (tgt : Int)) (hx0 : -2147483648 ≤ x ∧ x ≤ 2147483647) (hy0 : -2147483648 ≤ y ∧ y ≤ 2147483647) (kt : (y < x) → E κ ad N ph M tgt ls st cs Q) (kf : ¬ (y < x) → E κ ad N ph M (pc + 3) ls st cs Q) : E κ ad N ph M pc ls (vi y :: vi x :: st) cs Q := by
  obtain ⟨p, l, e, R, s, m, args, below, meth, c, D, cy, A⟩ := κ
  obtain ⟨hx, hb, hml, hown, hts, hnw, hlk, hK, hR⟩ := h
  intro h1 h2 H locs Ls hP hS hl
  exact lv_icmp_gt hx hb d ht (fun q => kt ((i_lt hy0 hx0).mp q) h1 h2 H locs Ls hP hS hl) (fun q => kf (fun z => q ((i_lt hy0 hx0).mpr z)) h1 h2 H locs Ls hP hS hl)
theorem e_icmp_le {κ : KT} {own : String} {cc : ByteArray} {nL : Nat} {rm : Room} {ad : Nat → Nat} {N : Nat} {ph : Phs} {M : Mem} {pc : Nat} {ls : List (Option AV)} {st : List AV} {cs : Nat × Nat} {Q : State → Prop} (h : Ok κ own cc nL rm) {off : Int} {tgt : Nat} {x y : Int} (d : decode cc pc = .ok (.if_icmp .le off, 3)) (ht : (pc : Int) + off = (tgt : Int)) (hx0 : -2147483648 ≤ x ∧ x ≤ 2147483647) (hy0 : -2147483648 ≤ y ∧ y ≤ 2147483647) (kt : (x ≤ y) → E κ ad N ph M tgt ls st cs Q) (kf : ¬ (x ≤ y) → E κ ad N ph M (pc + 3) ls st cs Q) : E κ ad N ph M pc ls (vi y :: vi x :: st) cs Q := by
  obtain ⟨p, l, e, R, s, m, args, below, meth, c, D, cy, A⟩ := κ
  obtain ⟨hx, hb, hml, hown, hts, hnw, hlk, hK, hR⟩ := h
  intro h1 h2 H locs Ls hP hS hl
  exact lv_icmp_le hx hb d ht (fun q => kt ((i_le hx0 hy0).mp q) h1 h2 H locs Ls hP hS hl) (fun q => kf (fun z => q ((i_le hx0 hy0).mpr z)) h1 h2 H locs Ls hP hS hl)
theorem e_icmp_ne {κ : KT} {own : String} {cc : ByteArray} {nL : Nat} {rm : Room} {ad : Nat → Nat} {N : Nat} {ph : Phs} {M : Mem} {pc : Nat} {ls : List (Option AV)} {st : List AV} {cs : Nat × Nat} {Q : State → Prop} (h : Ok κ own cc nL rm) {off : Int} {tgt : Nat} {x y : Int} (d : decode cc pc = .ok (.if_icmp .ne off, 3)) (ht : (pc : Int) + off = (tgt : Int)) (hx0 : -2147483648 ≤ x ∧ x ≤ 2147483647) (hy0 : -2147483648 ≤ y ∧ y ≤ 2147483647) (kt : (x ≠ y) → E κ ad N ph M tgt ls st cs Q) (kf : (x = y) → E κ ad N ph M (pc + 3) ls st cs Q) : E κ ad N ph M pc ls (vi y :: vi x :: st) cs Q := by
  obtain ⟨p, l, e, R, s, m, args, below, meth, c, D, cy, A⟩ := κ
  obtain ⟨hx, hb, hml, hown, hts, hnw, hlk, hK, hR⟩ := h
  intro h1 h2 H locs Ls hP hS hl
  exact lv_icmp_ne hx hb d ht (fun q => kt (fun z => q ((i_eq hx0 hy0).mpr z)) h1 h2 H locs Ls hP hS hl) (fun q => kf ((i_eq hx0 hy0).mp q) h1 h2 H locs Ls hP hS hl)
theorem e_if_eq {κ : KT} {own : String} {cc : ByteArray} {nL : Nat} {rm : Room} {ad : Nat → Nat} {N : Nat} {ph : Phs} {M : Mem} {pc : Nat} {ls : List (Option AV)} {st : List AV} {cs : Nat × Nat} {Q : State → Prop} (h : Ok κ own cc nL rm) {off : Int} {tgt : Nat} {x : Int} (d : decode cc pc = .ok (.ifCond .eq off, 3)) (ht : (pc : Int) + off = (tgt : Int)) (hx0 : -2147483648 ≤ x ∧ x ≤ 2147483647)  (kt : (x = 0) → E κ ad N ph M tgt ls st cs Q) (kf : ¬ (x = 0) → E κ ad N ph M (pc + 3) ls st cs Q) : E κ ad N ph M pc ls (vi x :: st) cs Q := by
  obtain ⟨p, l, e, R, s, m, args, below, meth, c, D, cy, A⟩ := κ
  obtain ⟨hx, hb, hml, hown, hts, hnw, hlk, hK, hR⟩ := h
  intro h1 h2 H locs Ls hP hS hl
  exact lv_if_eq hx hb d ht (fun q => kt ((i_eq (y := 0) hx0 (by omega)).mp q) h1 h2 H locs Ls hP hS hl) (fun q => kf (fun z => q ((i_eq (y := 0) hx0 (by omega)).mpr z)) h1 h2 H locs Ls hP hS hl)
theorem e_if_ne {κ : KT} {own : String} {cc : ByteArray} {nL : Nat} {rm : Room} {ad : Nat → Nat} {N : Nat} {ph : Phs} {M : Mem} {pc : Nat} {ls : List (Option AV)} {st : List AV} {cs : Nat × Nat} {Q : State → Prop} (h : Ok κ own cc nL rm) {off : Int} {tgt : Nat} {x : Int} (d : decode cc pc = .ok (.ifCond .ne off, 3)) (ht : (pc : Int) + off = (tgt : Int)) (hx0 : -2147483648 ≤ x ∧ x ≤ 2147483647)  (kt : (x ≠ 0) → E κ ad N ph M tgt ls st cs Q) (kf : (x = 0) → E κ ad N ph M (pc + 3) ls st cs Q) : E κ ad N ph M pc ls (vi x :: st) cs Q := by
  obtain ⟨p, l, e, R, s, m, args, below, meth, c, D, cy, A⟩ := κ
  obtain ⟨hx, hb, hml, hown, hts, hnw, hlk, hK, hR⟩ := h
  intro h1 h2 H locs Ls hP hS hl
  exact lv_if_ne hx hb d ht (fun q => kt (fun z => q ((i_eq (y := 0) hx0 (by omega)).mpr z)) h1 h2 H locs Ls hP hS hl) (fun q => kf ((i_eq (y := 0) hx0 (by omega)).mp q) h1 h2 H locs Ls hP hS hl)
theorem e_if_lt {κ : KT} {own : String} {cc : ByteArray} {nL : Nat} {rm : Room} {ad : Nat → Nat} {N : Nat} {ph : Phs} {M : Mem} {pc : Nat} {ls : List (Option AV)} {st : List AV} {cs : Nat × Nat} {Q : State → Prop} (h : Ok κ own cc nL rm) {off : Int} {tgt : Nat} {x : Int} (d : decode cc pc = .ok (.ifCond .lt off, 3)) (ht : (pc : Int) + off = (tgt : Int)) (hx0 : -2147483648 ≤ x ∧ x ≤ 2147483647)  (kt : (x < 0) → E κ ad N ph M tgt ls st cs Q) (kf : ¬ (x < 0) → E κ ad N ph M (pc + 3) ls st cs Q) : E κ ad N ph M pc ls (vi x :: st) cs Q := by
  obtain ⟨p, l, e, R, s, m, args, below, meth, c, D, cy, A⟩ := κ
  obtain ⟨hx, hb, hml, hown, hts, hnw, hlk, hK, hR⟩ := h
  intro h1 h2 H locs Ls hP hS hl
  exact lv_if_lt hx hb d ht (fun q => kt ((i_lt (y := 0) hx0 (by omega)).mp q) h1 h2 H locs Ls hP hS hl) (fun q => kf (fun z => q ((i_lt (y := 0) hx0 (by omega)).mpr z)) h1 h2 H locs Ls hP hS hl)
theorem e_if_ge {κ : KT} {own : String} {cc : ByteArray} {nL : Nat} {rm : Room} {ad : Nat → Nat} {N : Nat} {ph : Phs} {M : Mem} {pc : Nat} {ls : List (Option AV)} {st : List AV} {cs : Nat × Nat} {Q : State → Prop} (h : Ok κ own cc nL rm) {off : Int} {tgt : Nat} {x : Int} (d : decode cc pc = .ok (.ifCond .ge off, 3)) (ht : (pc : Int) + off = (tgt : Int)) (hx0 : -2147483648 ≤ x ∧ x ≤ 2147483647)  (kt : (0 ≤ x) → E κ ad N ph M tgt ls st cs Q) (kf : ¬ (0 ≤ x) → E κ ad N ph M (pc + 3) ls st cs Q) : E κ ad N ph M pc ls (vi x :: st) cs Q := by
  obtain ⟨p, l, e, R, s, m, args, below, meth, c, D, cy, A⟩ := κ
  obtain ⟨hx, hb, hml, hown, hts, hnw, hlk, hK, hR⟩ := h
  intro h1 h2 H locs Ls hP hS hl
  exact lv_if_ge hx hb d ht (fun q => kt ((i_le (x := 0) (by omega) hx0).mp q) h1 h2 H locs Ls hP hS hl) (fun q => kf (fun z => q ((i_le (x := 0) (by omega) hx0).mpr z)) h1 h2 H locs Ls hP hS hl)
theorem e_if_gt {κ : KT} {own : String} {cc : ByteArray} {nL : Nat} {rm : Room} {ad : Nat → Nat} {N : Nat} {ph : Phs} {M : Mem} {pc : Nat} {ls : List (Option AV)} {st : List AV} {cs : Nat × Nat} {Q : State → Prop} (h : Ok κ own cc nL rm) {off : Int} {tgt : Nat} {x : Int} (d : decode cc pc = .ok (.ifCond .gt off, 3)) (ht : (pc : Int) + off = (tgt : Int)) (hx0 : -2147483648 ≤ x ∧ x ≤ 2147483647)  (kt : (0 < x) → E κ ad N ph M tgt ls st cs Q) (kf : ¬ (0 < x) → E κ ad N ph M (pc + 3) ls st cs Q) : E κ ad N ph M pc ls (vi x :: st) cs Q := by
  obtain ⟨p, l, e, R, s, m, args, below, meth, c, D, cy, A⟩ := κ
  obtain ⟨hx, hb, hml, hown, hts, hnw, hlk, hK, hR⟩ := h
  intro h1 h2 H locs Ls hP hS hl
  exact lv_if_gt hx hb d ht (fun q => kt ((i_lt (x := 0) (by omega) hx0).mp q) h1 h2 H locs Ls hP hS hl) (fun q => kf (fun z => q ((i_lt (x := 0) (by omega) hx0).mpr z)) h1 h2 H locs Ls hP hS hl)
theorem e_if_le {κ : KT} {own : String} {cc : ByteArray} {nL : Nat} {rm : Room} {ad : Nat → Nat} {N : Nat} {ph : Phs} {M : Mem} {pc : Nat} {ls : List (Option AV)} {st : List AV} {cs : Nat × Nat} {Q : State → Prop} (h : Ok κ own cc nL rm) {off : Int} {tgt : Nat} {x : Int} (d : decode cc pc = .ok (.ifCond .le off, 3)) (ht : (pc : Int) + off = (tgt : Int)) (hx0 : -2147483648 ≤ x ∧ x ≤ 2147483647)  (kt : (x ≤ 0) → E κ ad N ph M tgt ls st cs Q) (kf : ¬ (x ≤ 0) → E κ ad N ph M (pc + 3) ls st cs Q) : E κ ad N ph M pc ls (vi x :: st) cs Q := by
  obtain ⟨p, l, e, R, s, m, args, below, meth, c, D, cy, A⟩ := κ
  obtain ⟨hx, hb, hml, hown, hts, hnw, hlk, hK, hR⟩ := h
  intro h1 h2 H locs Ls hP hS hl
  exact lv_if_le hx hb d ht (fun q => kt ((i_le (y := 0) hx0 (by omega)).mp q) h1 h2 H locs Ls hP hS hl) (fun q => kf (fun z => q ((i_le (y := 0) hx0 (by omega)).mpr z)) h1 h2 H locs Ls hP hS hl)
theorem e_goto {κ : KT} {own : String} {cc : ByteArray} {nL : Nat} {rm : Room} {ad : Nat → Nat} {N : Nat} {ph : Phs} {M : Mem} {pc : Nat} {ls : List (Option AV)} {st : List AV} {cs : Nat × Nat} {Q : State → Prop} (h : Ok κ own cc nL rm) {off : Int} {tgt : Nat} (d : decode cc pc = .ok (.goto off, 3)) (ht : (pc : Int) + off = (tgt : Int)) (k : E κ ad N ph M tgt ls st cs Q) : E κ ad N ph M pc ls st cs Q := by
  obtain ⟨p, l, e, R, s, m, args, below, meth, c, D, cy, A⟩ := κ
  obtain ⟨hx, hb, hml, hown, hts, hnw, hlk, hK, hR⟩ := h
  intro h1 h2 H locs Ls hP hS hl
  exact lv_goto hx hb d ht (k h1 h2 H locs Ls hP hS hl)
theorem e_tabIn {κ : KT} {own : String} {cc : ByteArray} {nL : Nat} {rm : Room} {ad : Nat → Nat} {N : Nat} {ph : Phs} {M : Mem} {pc : Nat} {ls : List (Option AV)} {st : List AV} {cs : Nat × Nat} {Q : State → Prop} (h : Ok κ own cc nL rm) {dflt lo hi : Int} {offs : Array Int} {len : Nat} {x off : Int} {tgt : Nat} (d : decode cc pc = .ok (.tableswitch dflt lo hi offs, len)) (hx0 : -2147483648 ≤ x ∧ x ≤ 2147483647) (hr : lo ≤ x ∧ x ≤ hi) (ho : offs[(x - lo).toNat]? = some off) (ht : (pc : Int) + off = (tgt : Int)) (k : E κ ad N ph M tgt ls st cs Q) : E κ ad N ph M pc ls (vi x :: st) cs Q := by
  obtain ⟨p, l, e, R, s, m, args, below, meth, c, D, cy, A⟩ := κ
  obtain ⟨hx, hb, hml, hown, hts, hnw, hlk, hK, hR⟩ := h
  intro h1 h2 H locs Ls hP hS hl
  exact lv_tableIn hx hb d (by rw [i_toInt hx0]; omega) (by rw [i_toInt hx0]; omega) (by rw [i_toInt hx0]; exact ho) ht (k h1 h2 H locs Ls hP hS hl)
theorem e_tabOut {κ : KT} {own : String} {cc : ByteArray} {nL : Nat} {rm : Room} {ad : Nat → Nat} {N : Nat} {ph : Phs} {M : Mem} {pc : Nat} {ls : List (Option AV)} {st : List AV} {cs : Nat × Nat} {Q : State → Prop} (h : Ok κ own cc nL rm) {dflt lo hi : Int} {offs : Array Int} {len : Nat} {x : Int} {tgt : Nat} (d : decode cc pc = .ok (.tableswitch dflt lo hi offs, len)) (hx0 : -2147483648 ≤ x ∧ x ≤ 2147483647) (hr : x < lo ∨ hi < x) (ht : (pc : Int) + dflt = (tgt : Int)) (k : E κ ad N ph M tgt ls st cs Q) : E κ ad N ph M pc ls (vi x :: st) cs Q := by
  obtain ⟨p, l, e, R, s, m, args, below, meth, c, D, cy, A⟩ := κ
  obtain ⟨hx, hb, hml, hown, hts, hnw, hlk, hK, hR⟩ := h
  intro h1 h2 H locs Ls hP hS hl
  exact lv_tableOut hx hb d (by rw [i_toInt hx0]; exact hr) ht (k h1 h2 H locs Ls hP hS hl)
theorem e_lookup {κ : KT} {own : String} {cc : ByteArray} {nL : Nat} {rm : Room} {ad : Nat → Nat} {N : Nat} {ph : Phs} {M : Mem} {pc : Nat} {ls : List (Option AV)} {st : List AV} {cs : Nat × Nat} {Q : State → Prop} (h : Ok κ own cc nL rm) {dflt : Int} {ps : Array (Int × Int)} {len : Nat} {x off : Int} {tgt : Nat} (d : decode cc pc = .ok (.lookupswitch dflt ps, len)) (hx0 : -2147483648 ≤ x ∧ x ≤ 2147483647) (hp : (ps.toList.zip (ps.toList.drop 1)).all (fun (a, next) => a.1 < next.1) = true) (ho : Op.lookupswitch.offset ps.toList dflt x = off) (ht : (pc : Int) + off = (tgt : Int)) (k : E κ ad N ph M tgt ls st cs Q) : E κ ad N ph M pc ls (vi x :: st) cs Q := by
  obtain ⟨p, l, e, R, s, m, args, below, meth, c, D, cy, A⟩ := κ
  obtain ⟨hx, hb, hml, hown, hts, hnw, hlk, hK, hR⟩ := h
  intro h1 h2 H locs Ls hP hS hl
  exact lv_lookup hx hb d hp (by rw [i_toInt hx0]; exact ho) ht (k h1 h2 H locs Ls hP hS hl)
end
section
theorem GX_same {u U' : State} (h : u.vm = U'.vm) (g : GX u) : GX U' := by
  refine ⟨fun w hw => ?_, va_AO.moved (by rw [h]; exact Vm.Alike.refl _) g.2.1, va_AO.moved (by rw [h]; exact Vm.Alike.refl _) g.2.2⟩
  have h1 := (List.mem_filter.mp hw).2
  have h2 := g.1 w hw
  cases w <;> first | (simp [isNest] at h1; done) | exact va_Nw.same rfl h h2
theorem GX_warm {s U' : State} (hW : s.WarmedH U'.vm) (g : GX s) : GX U' := by
  refine ⟨fun w hw => ?_, va_AO.moved hW.alike g.2.1, va_AO.moved hW.alike g.2.2⟩
  have h1 := (List.mem_filter.mp hw).2
  have h2 := g.1 w hw
  cases w <;> first | (simp [isNest] at h1; done) | exact va_Nw.warmF hW h2 | exact va_Nw.warmM hW h2
theorem cell_obj {cy : Nat → ClassId} {ad : Nat → Nat} {ph : Phs} {p ci : Nat} {m : Nat → Int} (h : pcl p = ci) (hc : ci < 12) : cellE cy ad ph p m = .inr (ci, fl ad ph p ci m) := by
  subst h
  unfold cellE
  rw [if_pos hc]
theorem cell_arr {cy : Nat → ClassId} {ad : Nat → Nat} {ph : Phs} {p ci : Nat} {m : Nat → Int} (h : pcl p = ci) (hc : 12 ≤ ci) : cellE cy ad ph p m = .inl (cy ci, plen p, aE ad ph p ci m) := by
  subst h
  unfold cellE
  rw [if_neg (by omega)]
theorem fl_get {ad : Nat → Nat} {ph : Phs} {p ci k : Nat} {m : Nat → Int} (hk : k < nf ci) : (fl ad ph p ci m)[k]? = some (fv ad ph p k (kd ci k) (m k)) := by
  unfold fl
  rw [List.getElem?_map, List.getElem?_range hk]
  rfl
theorem fl_len {ad : Nat → Nat} {ph : Phs} {p ci : Nat} {m : Nat → Int} : (fl ad ph p ci m).length = nf ci := by simp [fl]
theorem fl_set {ad : Nat → Nat} {ph ph' : Phs} {p ci k : Nat} {m m' : Nat → Int} {v : Value} (hk : k < nf ci) (hv : v = fv ad ph' p k (kd ci k) (m' k)) (ho : ∀ j, j ≠ k → fv ad ph' p j (kd ci j) (m' j) = fv ad ph p j (kd ci j) (m j)) : (fl ad ph p ci m).set k v = fl ad ph' p ci m' := by
  subst hv
  apply List.ext_getElem?
  intro i
  by_cases hi : i = k
  · subst hi
    rw [List.getElem?_set_self (by rw [fl_len]; exact hk), fl_get hk]
  · rw [List.getElem?_set_ne (Ne.symm hi)]
    by_cases hn : i < nf ci
    · rw [fl_get hn, fl_get hn, ho i hi]
    · rw [List.getElem?_eq_none (by rw [fl_len]; omega), List.getElem?_eq_none (by rw [fl_len]; omega)]
/-- a world with one cell anew, the phase too -/
theorem wl_setP {cy : Nat → ClassId} {ad : Nat → Nat} {N p : Nat} {ph ph' : Phs} {M : Mem} (m : Nat → Int) (h : p < N) {a : Nat} {e : va_E} (ha : a = ad p) (he : e = cellE cy ad ph' p m) (hph : ∀ q, q ≠ p → ∀ j, ph' q j = ph q j) : (wl cy ad N ph M).set p (a, e) = wl cy ad N ph' (mset M p m) := by
  subst ha; subst he
  apply List.ext_getElem?
  intro i
  by_cases hi : i = p
  · subst hi
    rw [List.getElem?_set_self (by rw [wl_len]; exact h), wl_get h]
    simp [mset]
  · rw [List.getElem?_set_ne (Ne.symm hi)]
    by_cases hn : i < N
    · rw [wl_get hn, wl_get hn]
      have : cellE cy ad ph' i (M i) = cellE cy ad ph i (M i) := by
        unfold cellE fl aE
        have e1 : ∀ j k x, fv ad ph' i j k x = fv ad ph i j k x := fun j k x => by unfold fv; rw [hph i hi j]
        have e2 : ∀ j, ph' i j = ph i j := hph i hi
        simp only [e1, e2]
      simp [mset, hi, this]
    · rw [List.getElem?_eq_none (by rw [wl_len]; omega), List.getElem?_eq_none (by rw [wl_len]; omega)]
theorem up_mset (M : Mem) (p k : Nat) (x : Int) : mset M p (fun j => if j = k then x else M p j) = up M p k x := rfl

theorem e_get {κ : KT} {own : String} {cc : ByteArray} {nL : Nat} {rm : Room} {ad : Nat → Nat} {N : Nat} {ph : Phs} {M : Mem} {pc : Nat} {ls : List (Option AV)} {st : List AV} {cs : Nat × Nat} {Q : State → Prop} (h : Ok κ own cc nL rm) {idx ci k0 p0 : Nat} (f : FL own idx ci k0) (d : decode cc pc = .ok (.getfield idx, 3)) (hc : pcl p0 = ci) (hp : p0 < N) {v : AV} (hv : fv ad ph p0 k0 (kd ci k0) (M p0 k0) = cv ad v) (k : E κ ad N ph M (pc + 3) ls (v :: st) cs Q) : E κ ad N ph M pc ls (vr p0 :: st) cs Q := by
  obtain ⟨p, l, e, R, s, m, args, below, meth, c, D, cy, A⟩ := κ
  obtain ⟨hx, hb, hml, hown, hts, hnw, hlk, hK, hR⟩ := h
  intro h1 h2 H locs Ls hP hS hl
  have kk := k h1 h2 H locs Ls hP hS hl
  obtain ⟨f1, f2, f3⟩ := f
  obtain ⟨c1, c2, c3, c4, c5, c6⟩ := CFall ci f1
  have he : (wl cy ad N ph M)[p0]? = some (ad p0, .inr (ci, fl ad ph p0 ci (M p0))) := by rw [wl_get hp, cell_obj hc f1]
  have hs : ∀ x, s.fieldFound? (clT ci k0).1 (clT ci k0).2.1 (clT ci k0).2.2.1 = some x → s.fieldFound? (clR ci) (clT ci k0).2.1 (clT ci k0).2.2.1 = some x := fun x hx => by rw [← c5 k0 f2]; exact hx
  rcases f3 with f3 | ⟨host, f3⟩
  · exact va_get hx hb hts c2 hown hK hP p0 he c1 k0 f2 (hts _ f3) hs ((fl_get f2).trans (congrArg some hv)) d kk
  · exact va_getN hx hb hts c2 hown hK hP p0 he c1 k0 f2 (va_Nw.use rfl (hnw.1 _ f3)) hs ((fl_get f2).trans (congrArg some hv)) d kk

theorem e_getI {κ : KT} {own : String} {cc : ByteArray} {nL : Nat} {rm : Room} {ad : Nat → Nat} {N : Nat} {ph : Phs} {M : Mem} {pc : Nat} {ls : List (Option AV)} {st : List AV} {cs : Nat × Nat} {Q : State → Prop} (h : Ok κ own cc nL rm) {idx ci k0 p0 : Nat} (f : FL own idx ci k0) (d : decode cc pc = .ok (.getfield idx, 3)) (hc : pcl p0 = ci) (hp : p0 < N) (hk : kd ci k0 < 2) (k : E κ ad N ph M (pc + 3) ls (vi (M p0 k0) :: st) cs Q) : E κ ad N ph M pc ls (vr p0 :: st) cs Q := by
  refine e_get h f d hc hp ?_ k
  have : kd ci k0 = 0 ∨ kd ci k0 = 1 := by omega
  rcases this with q | q <;> rw [q] <;> rfl
theorem e_getJ {κ : KT} {own : String} {cc : ByteArray} {nL : Nat} {rm : Room} {ad : Nat → Nat} {N : Nat} {ph : Phs} {M : Mem} {pc : Nat} {ls : List (Option AV)} {st : List AV} {cs : Nat × Nat} {Q : State → Prop} (h : Ok κ own cc nL rm) {idx ci k0 p0 : Nat} (f : FL own idx ci k0) (d : decode cc pc = .ok (.getfield idx, 3)) (hc : pcl p0 = ci) (hp : p0 < N) (hk : kd ci k0 = 2) (k : E κ ad N ph M (pc + 3) ls (vj (M p0 k0) :: st) cs Q) : E κ ad N ph M pc ls (vr p0 :: st) cs Q := by
  refine e_get h f d hc hp ?_ k
  rw [hk]; rfl
theorem e_getR {κ : KT} {own : String} {cc : ByteArray} {nL : Nat} {rm : Room} {ad : Nat → Nat} {N : Nat} {ph : Phs} {M : Mem} {pc : Nat} {ls : List (Option AV)} {st : List AV} {cs : Nat × Nat} {Q : State → Prop} (h : Ok κ own cc nL rm) {idx ci k0 p0 : Nat} (f : FL own idx ci k0) (d : decode cc pc = .ok (.getfield idx, 3)) (hc : pcl p0 = ci) (hp : p0 < N) (hk : kd ci k0 = 3) (hh : ph p0 k0 = true) {r : Nat} (hr : M p0 k0 = (r : Int)) (k : E κ ad N ph M (pc + 3) ls (vr r :: st) cs Q) : E κ ad N ph M pc ls (vr p0 :: st) cs Q := by
  refine e_get h f d hc hp ?_ k
  rw [hk, hr]
  show (if ph p0 k0 = true then _ else _) = _
  rw [if_pos hh]
  rfl
theorem e_getC {κ : KT} {own : String} {cc : ByteArray} {nL : Nat} {rm : Room} {ad : Nat → Nat} {N : Nat} {ph : Phs} {M : Mem} {pc : Nat} {ls : List (Option AV)} {st : List AV} {cs : Nat × Nat} {Q : State → Prop} (h : Ok κ own cc nL rm) {idx ci k0 p0 : Nat} (f : FL own idx ci k0) (d : decode cc pc = .ok (.getfield idx, 3)) (hc : pcl p0 = ci) (hp : p0 < N) (hk : kd ci k0 = 4) (hh : ph p0 k0 = true) {r : Nat} (hr : pcr p0 k0 = r) (k : E κ ad N ph M (pc + 3) ls (vr r :: st) cs Q) : E κ ad N ph M pc ls (vr p0 :: st) cs Q := by
  subst hr
  refine e_get h f d hc hp ?_ k
  rw [hk]
  show (if ph p0 k0 = true then _ else _) = _
  rw [if_pos hh]
  rfl
theorem e_put {κ : KT} {own : String} {cc : ByteArray} {nL : Nat} {rm : Room} {ad : Nat → Nat} {N : Nat} {ph : Phs} {M : Mem} {pc : Nat} {ls : List (Option AV)} {st : List AV} {cs : Nat × Nat} {Q : State → Prop} {ph2 : Phs} (h : Ok κ own cc nL rm) {idx ci k0 p0 : Nat} (f : FL own idx ci k0) (d : decode cc pc = .ok (.putfield idx, 3)) (hc : pcl p0 = ci) (hp : p0 < N) (hf : (clT ci k0).2.2.2 = false) {ty : FieldType} (hty : clTy ci k0 = ty) {v : AV} {x : Int} (hn : narrow ty (cv ad v) = cv ad v) (hfit : fits ty (cv ad v) = true) (hv : cv ad v = fv ad ph2 p0 k0 (kd ci k0) x) (hph : ∀ q j, (q ≠ p0 ∨ j ≠ k0) → ph2 q j = ph q j) (k : E κ ad N ph2 (up M p0 k0 x) (pc + 3) ls st cs Q) : E κ ad N ph M pc ls (v :: vr p0 :: st) cs Q := by
  obtain ⟨p, l, e, R, s, m, args, below, meth, c, D, cy, A⟩ := κ
  obtain ⟨hx, hb, hml, hown, hts, hnw, hlk, hK, hR⟩ := h
  intro h1 h2 H locs Ls hP hS hl
  obtain ⟨f1, f2, f3⟩ := f
  obtain ⟨c1, c2, c3, c4, c5, c6⟩ := CFall ci f1
  have he : (wl cy ad N ph M)[p0]? = some (ad p0, .inr (ci, fl ad ph p0 ci (M p0))) := by rw [wl_get hp, cell_obj hc f1]
  have hs : ∀ x, s.fieldFound? (clT ci k0).1 (clT ci k0).2.1 (clT ci k0).2.2.1 = some x → s.fieldFound? (clR ci) (clT ci k0).2.1 (clT ci k0).2.2.1 = some x := fun x hx => by rw [← c5 k0 f2]; exact hx
  have hd : parseFieldDescriptor (clT ci k0).2.2.1 = some ty := by rw [c3 k0 f2, hty]
  have e1 : (fl ad ph p0 ci (M p0)).set k0 (cv ad v) = fl ad ph2 p0 ci (fun j => if j = k0 then x else M p0 j) := fl_set f2 (by rw [hv]; simp) (fun j hj => by
    have q := hph p0 j (Or.inr hj)
    unfold fv
    rw [q]
    simp [hj])
  have e2 : (wl cy ad N ph M).set p0 (ad p0, .inr (ci, (fl ad ph p0 ci (M p0)).set k0 (cv ad v))) = wl cy ad N ph2 (up M p0 k0 x) := by
    rw [← up_mset]
    exact wl_setP _ hp rfl (by rw [cell_obj hc f1, e1]) (fun q hq j => hph q j (Or.inl hq))
  have kk : ∀ (H1 : Heap) (locs1 : List Loc), va_P D vwCl ((wl cy ad N ph M).set p0 (ad p0, .inr (ci, (fl ad ph p0 ci (M p0)).set k0 (cv ad v)))) H1 → va_D A ((wl cy ad N ph M).set p0 (ad p0, .inr (ci, (fl ad ph p0 ci (M p0)).set k0 (cv ad v)))) → va_S A s.heap H1 locs1 → W p l e R s m args below meth c H1 locs1 cs.1 cs.2 Q (F0 m (pc + 3) Ls (st.map (cv ad))) := fun H1 locs1 a1 a2 a3 => k h1 h2 H1 locs1 Ls (by rw [e2] at a1; exact a1) a3 hl
  rcases f3 with f3 | ⟨host, f3⟩
  · exact va_put hx hb hts c2 (clTy ci) c3 c4 hown hK hP (wl_D h1 h2) hS p0 he c1 k0 f2 (hts _ f3) hs hf hd hn hfit (by rw [fl_len]; exact f2) d kk
  · exact va_putN hx hb hts c2 (clTy ci) c3 c4 hown hK hP (wl_D h1 h2) hS p0 he c1 k0 f2 (va_Nw.use rfl (hnw.1 _ f3)) hs hf hd hn hfit (by rw [fl_len]; exact f2) d kk
theorem okt_0 {ty : FieldType} {b : Bool} (h : okt 0 ty b = true) : ty = .int ∧ b = false := by
  unfold okt at h; split at h <;> simp_all
theorem okt_1 {ty : FieldType} {b : Bool} (h : okt 1 ty b = true) : ty = .boolean ∧ b = false := by
  unfold okt at h; split at h <;> simp_all
theorem okt_2 {ty : FieldType} {b : Bool} (h : okt 2 ty b = true) : ty = .long ∧ b = false := by
  unfold okt at h; split at h <;> simp_all
theorem okt_3 {ty : FieldType} {b : Bool} (h : okt 3 ty b = true) : ((∃ n, ty = .object n) ∨ ∃ t, ty = .array t) ∧ b = false := by
  unfold okt at h; split at h <;> simp_all
theorem okt_4 {ty : FieldType} {b : Bool} (h : okt 4 ty b = true) : ((∃ n, ty = .object n) ∨ ∃ t, ty = .array t) ∧ b = true := by
  unfold okt at h; split at h <;> simp_all
theorem nb_01 {x : Int} (h : x = 0 ∨ x = 1) : narrow .boolean (.int (Int32.ofInt x)) = .int (Int32.ofInt x) ∧ fits .boolean (.int (Int32.ofInt x)) = true ∧ vp_nar .boolean (Int32.ofInt x) = Int32.ofInt x := by
  rcases h with rfl | rfl <;> refine ⟨by decide +kernel, by decide +kernel, by decide +kernel⟩

theorem e_putI {κ : KT} {own : String} {cc : ByteArray} {nL : Nat} {rm : Room} {ad : Nat → Nat} {N : Nat} {ph : Phs} {M : Mem} {pc : Nat} {ls : List (Option AV)} {st : List AV} {cs : Nat × Nat} {Q : State → Prop} (h : Ok κ own cc nL rm) {idx ci k0 p0 : Nat} (f : FL own idx ci k0) (d : decode cc pc = .ok (.putfield idx, 3)) (hc : pcl p0 = ci) (hp : p0 < N) (hk : kd ci k0 = 0) {x : Int} (k : E κ ad N ph (up M p0 k0 x) (pc + 3) ls st cs Q) : E κ ad N ph M pc ls (vi x :: vr p0 :: st) cs Q := by
  obtain ⟨q1, q2⟩ := okt_0 (hk ▸ (CFall ci f.1).2.2.2.2.2 k0 f.2.1)
  exact e_put (ph2 := ph) h f d hc hp q2 q1 rfl rfl (by rw [hk]; rfl) (fun _ _ _ => rfl) k
theorem e_putZ {κ : KT} {own : String} {cc : ByteArray} {nL : Nat} {rm : Room} {ad : Nat → Nat} {N : Nat} {ph : Phs} {M : Mem} {pc : Nat} {ls : List (Option AV)} {st : List AV} {cs : Nat × Nat} {Q : State → Prop} (h : Ok κ own cc nL rm) {idx ci k0 p0 : Nat} (f : FL own idx ci k0) (d : decode cc pc = .ok (.putfield idx, 3)) (hc : pcl p0 = ci) (hp : p0 < N) (hk : kd ci k0 = 1) {x : Int} (hx : x = 0 ∨ x = 1) (k : E κ ad N ph (up M p0 k0 x) (pc + 3) ls st cs Q) : E κ ad N ph M pc ls (vi x :: vr p0 :: st) cs Q := by
  obtain ⟨q1, q2⟩ := okt_1 (hk ▸ (CFall ci f.1).2.2.2.2.2 k0 f.2.1)
  exact e_put (ph2 := ph) h f d hc hp q2 q1 (nb_01 hx).1 (nb_01 hx).2.1 (by rw [hk]; rfl) (fun _ _ _ => rfl) k
theorem e_putJ {κ : KT} {own : String} {cc : ByteArray} {nL : Nat} {rm : Room} {ad : Nat → Nat} {N : Nat} {ph : Phs} {M : Mem} {pc : Nat} {ls : List (Option AV)} {st : List AV} {cs : Nat × Nat} {Q : State → Prop} (h : Ok κ own cc nL rm) {idx ci k0 p0 : Nat} (f : FL own idx ci k0) (d : decode cc pc = .ok (.putfield idx, 3)) (hc : pcl p0 = ci) (hp : p0 < N) (hk : kd ci k0 = 2) {x : Int} (k : E κ ad N ph (up M p0 k0 x) (pc + 3) ls st cs Q) : E κ ad N ph M pc ls (vj x :: vr p0 :: st) cs Q := by
  obtain ⟨q1, q2⟩ := okt_2 (hk ▸ (CFall ci f.1).2.2.2.2.2 k0 f.2.1)
  exact e_put (ph2 := ph) h f d hc hp q2 q1 rfl rfl (by rw [hk]; rfl) (fun _ _ _ => rfl) k
def phs (ph : Phs) (p k : Nat) : Phs := fun q j => if q = p ∧ j = k then true else ph q j
theorem phs_eq (ph : Phs) (p k : Nat) : phs ph p k p k = true := by simp [phs]
theorem phs_ne {ph : Phs} {p k q j : Nat} (h : q ≠ p ∨ j ≠ k) : phs ph p k q j = ph q j := by
  unfold phs
  rw [if_neg (by omega)]

theorem e_putR0 {κ : KT} {own : String} {cc : ByteArray} {nL : Nat} {rm : Room} {ad : Nat → Nat} {N : Nat} {ph : Phs} {M : Mem} {pc : Nat} {ls : List (Option AV)} {st : List AV} {cs : Nat × Nat} {Q : State → Prop} (h : Ok κ own cc nL rm) {idx ci k0 p0 : Nat} (f : FL own idx ci k0) (d : decode cc pc = .ok (.putfield idx, 3)) (hc : pcl p0 = ci) (hp : p0 < N) (hk : kd ci k0 = 3) {x : Nat} (k : E κ ad N (phs ph p0 k0) (up M p0 k0 (x : Int)) (pc + 3) ls st cs Q) : E κ ad N ph M pc ls (vr x :: vr p0 :: st) cs Q := by
  obtain ⟨q1, q2⟩ := okt_3 (hk ▸ (CFall ci f.1).2.2.2.2.2 k0 f.2.1)
  have e : cv ad (vr x) = fv ad (phs ph p0 k0) p0 k0 (kd ci k0) (x : Int) := by
    rw [hk]
    show _ = (if phs ph p0 k0 p0 k0 = true then _ else _)
    rw [if_pos (phs_eq _ _ _)]
    rfl
  rcases q1 with ⟨n, q1⟩ | ⟨t, q1⟩
  · exact e_put h f d hc hp q2 q1 rfl rfl e (fun q j hq => phs_ne hq) k
  · exact e_put h f d hc hp q2 q1 rfl rfl e (fun q j hq => phs_ne hq) k
theorem e_putR {κ : KT} {own : String} {cc : ByteArray} {nL : Nat} {rm : Room} {ad : Nat → Nat} {N : Nat} {ph : Phs} {M : Mem} {pc : Nat} {ls : List (Option AV)} {st : List AV} {cs : Nat × Nat} {Q : State → Prop} (h : Ok κ own cc nL rm) {idx ci k0 p0 : Nat} (f : FL own idx ci k0) (d : decode cc pc = .ok (.putfield idx, 3)) (hc : pcl p0 = ci) (hp : p0 < N) (hk : kd ci k0 = 3) (hh : ph p0 k0 = true) {x : Nat} (k : E κ ad N ph (up M p0 k0 (x : Int)) (pc + 3) ls st cs Q) : E κ ad N ph M pc ls (vr x :: vr p0 :: st) cs Q := by
  refine e_putR0 h f d hc hp hk ?_
  have : phs ph p0 k0 = ph := by
    funext q j
    by_cases z : q = p0 ∧ j = k0
    · obtain ⟨rfl, rfl⟩ := z
      rw [phs_eq, hh]
    · exact phs_ne (by omega)
  rw [this]
  exact k
def In (κ : KT) : Prop := match κ with
  | (p, l, e, R, s, m, args, below, meth, c, D, cy, A) => meth.name = "<init>"
theorem e_putF {κ : KT} {own : String} {cc : ByteArray} {nL : Nat} {rm : Room} {ad : Nat → Nat} {N : Nat} {ph : Phs} {M : Mem} {pc : Nat} {ls : List (Option AV)} {st : List AV} {cs : Nat × Nat} {Q : State → Prop} (h : Ok κ own cc nL rm) (hin : In κ) {idx ci k0 p0 : Nat} (f : FL own idx ci k0) (d : decode cc pc = .ok (.putfield idx, 3)) (hc : pcl p0 = ci) (hp : p0 < N) (ho : clR ci = own) (hk : kd ci k0 = 4) {r : Nat} (hr : pcr p0 k0 = r) (fp : Cond.fieldLink own idx (clR ci) (clT ci k0).2.1 (clT ci k0).2.2.1 ∈ U) (k : E κ ad N (phs ph p0 k0) M (pc + 3) ls st cs Q) : E κ ad N ph M pc ls (vr r :: vr p0 :: st) cs Q := by
  obtain ⟨q1, q2⟩ := okt_4 (hk ▸ (CFall ci f.1).2.2.2.2.2 k0 f.2.1)
  obtain ⟨p, l, e, R, s, m, args, below, meth, c, D, cy, A⟩ := κ
  obtain ⟨hx, hb, hml, hown, hts, hnw, hlk, hK, hR⟩ := h
  intro h1 h2 H locs Ls hP hS hl
  subst hr
  obtain ⟨f1, f2, f3⟩ := f
  obtain ⟨c1, c2, c3, c4, c5, c6⟩ := CFall ci f1
  have he : (wl cy ad N ph M)[p0]? = some (ad p0, .inr (ci, fl ad ph p0 ci (M p0))) := by rw [wl_get hp, cell_obj hc f1]
  have hs : ∀ x, s.fieldFound? (clT ci k0).1 (clT ci k0).2.1 (clT ci k0).2.2.1 = some x → s.fieldFound? (clR ci) (clT ci k0).2.1 (clT ci k0).2.2.1 = some x := fun x hx => by rw [← c5 k0 f2]; exact hx
  have e1 : (fl ad ph p0 ci (M p0)).set k0 (.ref (ad (pcr p0 k0))) = fl ad (phs ph p0 k0) p0 ci (M p0) := fl_set f2 (by
    rw [hk]
    show _ = (if phs ph p0 k0 p0 k0 = true then _ else _)
    rw [if_pos (phs_eq _ _ _)]) (fun j hj => by
    have q : phs ph p0 k0 p0 j = ph p0 j := phs_ne (Or.inr hj)
    unfold fv
    rw [q])
  have e2 : (wl cy ad N ph M).set p0 (ad p0, .inr (ci, (fl ad ph p0 ci (M p0)).set k0 (.ref (ad (pcr p0 k0))))) = wl cy ad N (phs ph p0 k0) M := by
    have := wl_setP (cy := cy) (ad := ad) (ph := ph) (ph' := phs ph p0 k0) (M := M) (M p0) hp rfl (by rw [cell_obj hc f1, e1]) (fun q hq j => phs_ne (Or.inl hq)) (e := .inr (ci, (fl ad ph p0 ci (M p0)).set k0 (.ref (ad (pcr p0 k0)))))
    rw [this]
    congr 1
    funext q
    unfold mset
    by_cases hq : q = p0
    · rw [if_pos hq, hq]
    · rw [if_neg hq]
  have kk : ∀ (H1 : Heap) (locs1 : List Loc), va_P D vwCl ((wl cy ad N ph M).set p0 (ad p0, .inr (ci, (fl ad ph p0 ci (M p0)).set k0 (.ref (ad (pcr p0 k0)))))) H1 → va_D A ((wl cy ad N ph M).set p0 (ad p0, .inr (ci, (fl ad ph p0 ci (M p0)).set k0 (.ref (ad (pcr p0 k0)))))) → va_S A s.heap H1 locs1 → W p l e R s m args below meth c H1 locs1 cs.1 cs.2 Q (F0 m (pc + 3) Ls (st.map (cv ad))) := fun H1 locs1 a1 a2 a3 => k h1 h2 H1 locs1 Ls (by rw [e2] at a1; exact a1) a3 hl
  have hdc : (clT ci k0).1 = own := (c5 k0 f2).trans ho
  rcases q1 with ⟨n, q1⟩ | ⟨t, q1⟩
  · exact va_putF hx hb hts c2 (clTy ci) c3 c4 hown hK hP (wl_D h1 h2) hS p0 he c1 k0 f2 (hts _ fp) hs q2 hin hdc (by rw [c3 k0 f2, q1]) rfl rfl (by rw [fl_len]; exact f2) d kk
  · exact va_putF hx hb hts c2 (clTy ci) c3 c4 hown hK hP (wl_D h1 h2) hS p0 he c1 k0 f2 (hts _ fp) hs q2 hin hdc (by rw [c3 k0 f2, q1]) rfl rfl (by rw [fl_len]; exact f2) d kk
theorem plen_le (p : Nat) : plen p ≤ 1000 := by
  unfold plen
  by_cases h : p < plenL.length
  · have := co_dec (N := plenL.length) (P := fun p => plenL.getD p 0 ≤ 1000) (by decide +kernel) h
    exact this
  · rw [List.getD_eq_getElem?_getD, List.getElem?_eq_none (by omega)]
    decide

theorem e_iald {κ : KT} {own : String} {cc : ByteArray} {nL : Nat} {rm : Room} {ad : Nat → Nat} {N : Nat} {ph : Phs} {M : Mem} {pc : Nat} {ls : List (Option AV)} {st : List AV} {cs : Nat × Nat} {Q : State → Prop} (h : Ok κ own cc nL rm) {p0 : Nat} (d : decode cc pc = .ok (.iaload, 1)) (hc : pcl p0 = 100) (hp : p0 < N) {i : Int} {j : Nat} (hi : i = (j : Int)) (hj : j < plen p0) (k : E κ ad N ph M (pc + 1) ls (vi (M p0 j) :: st) cs Q) : E κ ad N ph M pc ls (vi i :: vr p0 :: st) cs Q := by
  obtain ⟨p, l, e, R, s, m, args, below, meth, c, D, cy, A⟩ := κ
  obtain ⟨hx, hb, hml, hown, hts, hnw, hlk, hK, hR⟩ := h
  intro h1 h2 H locs Ls hP hS hl
  subst hi
  have kk := k h1 h2 H locs Ls hP hS hl
  have hb0 : plen p0 ≤ 1000 := plen_le p0
  obtain ⟨g1, g2⟩ := i_in (x := (j : Int)) (n := plen p0) (by omega) hb0
  refine va_iald hx hb hK hP p0 0 (by rw [wl_get hp, cell_arr hc (by decide)]; rfl) rfl g1 d ?_
  rw [g2, Int.toNat_natCast]
  exact kk
theorem e_bald {κ : KT} {own : String} {cc : ByteArray} {nL : Nat} {rm : Room} {ad : Nat → Nat} {N : Nat} {ph : Phs} {M : Mem} {pc : Nat} {ls : List (Option AV)} {st : List AV} {cs : Nat × Nat} {Q : State → Prop} (h : Ok κ own cc nL rm) {p0 : Nat} (d : decode cc pc = .ok (.baload, 1)) (hc : pcl p0 = 102) (hp : p0 < N) {i : Int} {j : Nat} (hi : i = (j : Int)) (hj : j < plen p0) (k : E κ ad N ph M (pc + 1) ls (vi (M p0 j) :: st) cs Q) : E κ ad N ph M pc ls (vi i :: vr p0 :: st) cs Q := by
  obtain ⟨p, l, e, R, s, m, args, below, meth, c, D, cy, A⟩ := κ
  obtain ⟨hx, hb, hml, hown, hts, hnw, hlk, hK, hR⟩ := h
  intro h1 h2 H locs Ls hP hS hl
  subst hi
  have kk := k h1 h2 H locs Ls hP hS hl
  have hb0 : plen p0 ≤ 1000 := plen_le p0
  obtain ⟨g1, g2⟩ := i_in (x := (j : Int)) (n := plen p0) (by omega) hb0
  refine va_zald hx hb hK hP p0 2 (by rw [wl_get hp, cell_arr hc (by decide)]; rfl) rfl g1 d ?_
  rw [g2, Int.toNat_natCast]
  exact kk
theorem e_lald {κ : KT} {own : String} {cc : ByteArray} {nL : Nat} {rm : Room} {ad : Nat → Nat} {N : Nat} {ph : Phs} {M : Mem} {pc : Nat} {ls : List (Option AV)} {st : List AV} {cs : Nat × Nat} {Q : State → Prop} (h : Ok κ own cc nL rm) {p0 : Nat} (d : decode cc pc = .ok (.laload, 1)) (hc : pcl p0 = 101) (hp : p0 < N) {i : Int} {j : Nat} (hi : i = (j : Int)) (hj : j < plen p0) (k : E κ ad N ph M (pc + 1) ls (vj (M p0 j) :: st) cs Q) : E κ ad N ph M pc ls (vi i :: vr p0 :: st) cs Q := by
  obtain ⟨p, l, e, R, s, m, args, below, meth, c, D, cy, A⟩ := κ
  obtain ⟨hx, hb, hml, hown, hts, hnw, hlk, hK, hR⟩ := h
  intro h1 h2 H locs Ls hP hS hl
  subst hi
  have kk := k h1 h2 H locs Ls hP hS hl
  have hb0 : plen p0 ≤ 1000 := plen_le p0
  obtain ⟨g1, g2⟩ := i_in (x := (j : Int)) (n := plen p0) (by omega) hb0
  refine va_lald hx hb hK hP p0 1 (by rw [wl_get hp, cell_arr hc (by decide)]; rfl) rfl g1 d ?_
  rw [g2, Int.toNat_natCast]
  exact kk
theorem e_iast {κ : KT} {own : String} {cc : ByteArray} {nL : Nat} {rm : Room} {ad : Nat → Nat} {N : Nat} {ph : Phs} {M : Mem} {pc : Nat} {ls : List (Option AV)} {st : List AV} {cs : Nat × Nat} {Q : State → Prop} (h : Ok κ own cc nL rm) {p0 : Nat} (d : decode cc pc = .ok (.iastore, 1)) (hc : pcl p0 = 100) (hp : p0 < N) {i : Int} {j : Nat} (hi : i = (j : Int)) (hj : j < plen p0) {x : Int}  (k : E κ ad N ph (up M p0 j x) (pc + 1) ls st cs Q) : E κ ad N ph M pc ls (vi x :: vi i :: vr p0 :: st) cs Q := by
  obtain ⟨p, l, e, R, s, m, args, below, meth, c, D, cy, A⟩ := κ
  obtain ⟨hx, hb, hml, hown, hts, hnw, hlk, hK, hR⟩ := h
  intro h1 h2 H locs Ls hP hS hl
  subst hi
  have hb0 : plen p0 ≤ 1000 := plen_le p0
  obtain ⟨g1, g2⟩ := i_in (x := (j : Int)) (n := plen p0) (by omega) hb0
  rw [Int.toNat_natCast] at g2
  have e2 : (wl cy ad N ph M).set p0 (ad p0, .inl (cy 100, plen p0, .inl (upd (fun j => Int32.ofInt (M p0 j)) (Int32.ofInt (j : Int)).toNatClampNeg (Int32.ofInt x)))) = wl cy ad N ph (up M p0 j x) := by
    rw [← up_mset]
    refine wl_set _ hp rfl ?_
    have hf : (upd (fun j => Int32.ofInt (M p0 j)) (Int32.ofInt (j : Int)).toNatClampNeg (Int32.ofInt x)) = (fun q => Int32.ofInt (if q = j then x else M p0 q)) := by
      rw [g2]
      funext q
      by_cases hq : q = j
      · subst hq
        simp [upd]
        
      · simp [upd, hq]
    rw [cell_arr hc (by decide), hf]
    rfl
  exact va_iast hx hb hK hP (wl_D h1 h2) hS p0 0 (by rw [wl_get hp, cell_arr hc (by decide)]; rfl) rfl g1 d (fun H1 locs1 a1 a2 a3 => k h1 h2 H1 locs1 Ls (by rw [e2] at a1; exact a1) a3 hl)
theorem e_bast {κ : KT} {own : String} {cc : ByteArray} {nL : Nat} {rm : Room} {ad : Nat → Nat} {N : Nat} {ph : Phs} {M : Mem} {pc : Nat} {ls : List (Option AV)} {st : List AV} {cs : Nat × Nat} {Q : State → Prop} (h : Ok κ own cc nL rm) {p0 : Nat} (d : decode cc pc = .ok (.bastore, 1)) (hc : pcl p0 = 102) (hp : p0 < N) {i : Int} {j : Nat} (hi : i = (j : Int)) (hj : j < plen p0) {x : Int} (hz : x = 0 ∨ x = 1) (k : E κ ad N ph (up M p0 j x) (pc + 1) ls st cs Q) : E κ ad N ph M pc ls (vi x :: vi i :: vr p0 :: st) cs Q := by
  obtain ⟨p, l, e, R, s, m, args, below, meth, c, D, cy, A⟩ := κ
  obtain ⟨hx, hb, hml, hown, hts, hnw, hlk, hK, hR⟩ := h
  intro h1 h2 H locs Ls hP hS hl
  subst hi
  have hb0 : plen p0 ≤ 1000 := plen_le p0
  obtain ⟨g1, g2⟩ := i_in (x := (j : Int)) (n := plen p0) (by omega) hb0
  rw [Int.toNat_natCast] at g2
  have e2 : (wl cy ad N ph M).set p0 (ad p0, .inl (cy 102, plen p0, .inl (upd (fun j => Int32.ofInt (M p0 j)) (Int32.ofInt (j : Int)).toNatClampNeg (vp_nar .boolean (Int32.ofInt x))))) = wl cy ad N ph (up M p0 j x) := by
    rw [← up_mset]
    refine wl_set _ hp rfl ?_
    have hf : (upd (fun j => Int32.ofInt (M p0 j)) (Int32.ofInt (j : Int)).toNatClampNeg (vp_nar .boolean (Int32.ofInt x))) = (fun q => Int32.ofInt (if q = j then x else M p0 q)) := by
      rw [g2]
      funext q
      by_cases hq : q = j
      · subst hq
        simp [upd]
        exact (nb_01 hz).2.2
      · simp [upd, hq]
    rw [cell_arr hc (by decide), hf]
    rfl
  exact va_zast hx hb hK hP (wl_D h1 h2) hS p0 2 (by rw [wl_get hp, cell_arr hc (by decide)]; rfl) rfl g1 d (fun H1 locs1 a1 a2 a3 => k h1 h2 H1 locs1 Ls (by rw [e2] at a1; exact a1) a3 hl)
theorem e_last {κ : KT} {own : String} {cc : ByteArray} {nL : Nat} {rm : Room} {ad : Nat → Nat} {N : Nat} {ph : Phs} {M : Mem} {pc : Nat} {ls : List (Option AV)} {st : List AV} {cs : Nat × Nat} {Q : State → Prop} (h : Ok κ own cc nL rm) {p0 : Nat} (d : decode cc pc = .ok (.lastore, 1)) (hc : pcl p0 = 101) (hp : p0 < N) {i : Int} {j : Nat} (hi : i = (j : Int)) (hj : j < plen p0) {x : Int}  (k : E κ ad N ph (up M p0 j x) (pc + 1) ls st cs Q) : E κ ad N ph M pc ls (vj x :: vi i :: vr p0 :: st) cs Q := by
  obtain ⟨p, l, e, R, s, m, args, below, meth, c, D, cy, A⟩ := κ
  obtain ⟨hx, hb, hml, hown, hts, hnw, hlk, hK, hR⟩ := h
  intro h1 h2 H locs Ls hP hS hl
  subst hi
  have hb0 : plen p0 ≤ 1000 := plen_le p0
  obtain ⟨g1, g2⟩ := i_in (x := (j : Int)) (n := plen p0) (by omega) hb0
  rw [Int.toNat_natCast] at g2
  have e2 : (wl cy ad N ph M).set p0 (ad p0, .inl (cy 101, plen p0, .inr (.inl (vp_updL (fun j => Int64.ofInt (M p0 j)) (Int32.ofInt (j : Int)).toNatClampNeg (Int64.ofInt x))))) = wl cy ad N ph (up M p0 j x) := by
    rw [← up_mset]
    refine wl_set _ hp rfl ?_
    have hf : (vp_updL (fun j => Int64.ofInt (M p0 j)) (Int32.ofInt (j : Int)).toNatClampNeg (Int64.ofInt x)) = (fun q => Int64.ofInt (if q = j then x else M p0 q)) := by
      rw [g2]
      funext q
      by_cases hq : q = j
      · subst hq
        simp [vp_updL]
        
      · simp [vp_updL, hq]
    rw [cell_arr hc (by decide), hf]
    rfl
  exact va_last hx hb hK hP (wl_D h1 h2) hS p0 1 (by rw [wl_get hp, cell_arr hc (by decide)]; rfl) rfl g1 d (fun H1 locs1 a1 a2 a3 => k h1 h2 H1 locs1 Ls (by rw [e2] at a1; exact a1) a3 hl)
theorem e_aald3 {κ : KT} {own : String} {cc : ByteArray} {nL : Nat} {rm : Room} {ad : Nat → Nat} {N : Nat} {ph : Phs} {M : Mem} {pc : Nat} {ls : List (Option AV)} {st : List AV} {cs : Nat × Nat} {Q : State → Prop} (h : Ok κ own cc nL rm) {p0 : Nat} (d : decode cc pc = .ok (.aaload, 1)) (hc : pcl p0 = 103) (hp : p0 < N) {i : Int} {j : Nat} (hi : i = (j : Int)) (hj : j < plen p0) (hh : ph p0 j = true) {r : Nat} (hr : pcr p0 j = r) (k : E κ ad N ph M (pc + 1) ls (vr r :: st) cs Q) : E κ ad N ph M pc ls (vi i :: vr p0 :: st) cs Q := by
  obtain ⟨p, l, e, R, s, m, args, below, meth, c, D, cy, A⟩ := κ
  obtain ⟨hx, hb, hml, hown, hts, hnw, hlk, hK, hR⟩ := h
  intro h1 h2 H locs Ls hP hS hl
  subst hi
  subst hr
  have kk := k h1 h2 H locs Ls hP hS hl
  have hb0 : plen p0 ≤ 1000 := plen_le p0
  obtain ⟨g1, g2⟩ := i_in (x := (j : Int)) (n := plen p0) (by omega) hb0
  refine va_aldq hx hb hK hP p0 3 (by rw [wl_get hp, cell_arr hc (by decide)]; rfl) rfl g1 d ?_
  rw [g2, Int.toNat_natCast]
  show W p l e R s m args below meth c H locs cs.1 cs.2 Q (F0 m (pc + 1) Ls (va_rf (if ph p0 j = true then some (ad (pcr p0 j)) else none) :: st.map (cv ad)))
  rw [if_pos hh]
  exact kk
theorem e_aald4 {κ : KT} {own : String} {cc : ByteArray} {nL : Nat} {rm : Room} {ad : Nat → Nat} {N : Nat} {ph : Phs} {M : Mem} {pc : Nat} {ls : List (Option AV)} {st : List AV} {cs : Nat × Nat} {Q : State → Prop} (h : Ok κ own cc nL rm) {p0 : Nat} (d : decode cc pc = .ok (.aaload, 1)) (hc : pcl p0 = 104) (hp : p0 < N) {i : Int} {j : Nat} (hi : i = (j : Int)) (hj : j < plen p0) (hh : ph p0 j = true) {r : Nat} (hr : pcr p0 j = r) (k : E κ ad N ph M (pc + 1) ls (vr r :: st) cs Q) : E κ ad N ph M pc ls (vi i :: vr p0 :: st) cs Q := by
  obtain ⟨p, l, e, R, s, m, args, below, meth, c, D, cy, A⟩ := κ
  obtain ⟨hx, hb, hml, hown, hts, hnw, hlk, hK, hR⟩ := h
  intro h1 h2 H locs Ls hP hS hl
  subst hi
  subst hr
  have kk := k h1 h2 H locs Ls hP hS hl
  have hb0 : plen p0 ≤ 1000 := plen_le p0
  obtain ⟨g1, g2⟩ := i_in (x := (j : Int)) (n := plen p0) (by omega) hb0
  refine va_aldq hx hb hK hP p0 4 (by rw [wl_get hp, cell_arr hc (by decide)]; rfl) rfl g1 d ?_
  rw [g2, Int.toNat_natCast]
  show W p l e R s m args below meth c H locs cs.1 cs.2 Q (F0 m (pc + 1) Ls (va_rf (if ph p0 j = true then some (ad (pcr p0 j)) else none) :: st.map (cv ad)))
  rw [if_pos hh]
  exact kk
theorem e_alenI {κ : KT} {own : String} {cc : ByteArray} {nL : Nat} {rm : Room} {ad : Nat → Nat} {N : Nat} {ph : Phs} {M : Mem} {pc : Nat} {ls : List (Option AV)} {st : List AV} {cs : Nat × Nat} {Q : State → Prop} (h : Ok κ own cc nL rm) {p0 : Nat} (d : decode cc pc = .ok (.arraylength, 1)) (hc : pcl p0 = 100) (hp : p0 < N) {n : Nat} (hn : plen p0 = n) (k : E κ ad N ph M (pc + 1) ls (vi (n : Int) :: st) cs Q) : E κ ad N ph M pc ls (vr p0 :: st) cs Q := by
  obtain ⟨p, l, e, R, s, m, args, below, meth, c, D, cy, A⟩ := κ
  obtain ⟨hx, hb, hml, hown, hts, hnw, hlk, hK, hR⟩ := h
  intro h1 h2 H locs Ls hP hS hl
  subst hn
  have kk := k h1 h2 H locs Ls hP hS hl
  refine va_alen hx hb hK hP p0 0 (by rw [wl_get hp, cell_arr hc (by decide)]) rfl (v := Int32.ofInt (plen p0 : Int)) ?_ d kk
  show Int32.ofNat (plen p0) = _
  exact (Int32.ofInt_eq_ofNat).symm
theorem e_alenJ {κ : KT} {own : String} {cc : ByteArray} {nL : Nat} {rm : Room} {ad : Nat → Nat} {N : Nat} {ph : Phs} {M : Mem} {pc : Nat} {ls : List (Option AV)} {st : List AV} {cs : Nat × Nat} {Q : State → Prop} (h : Ok κ own cc nL rm) {p0 : Nat} (d : decode cc pc = .ok (.arraylength, 1)) (hc : pcl p0 = 101) (hp : p0 < N) {n : Nat} (hn : plen p0 = n) (k : E κ ad N ph M (pc + 1) ls (vi (n : Int) :: st) cs Q) : E κ ad N ph M pc ls (vr p0 :: st) cs Q := by
  obtain ⟨p, l, e, R, s, m, args, below, meth, c, D, cy, A⟩ := κ
  obtain ⟨hx, hb, hml, hown, hts, hnw, hlk, hK, hR⟩ := h
  intro h1 h2 H locs Ls hP hS hl
  subst hn
  have kk := k h1 h2 H locs Ls hP hS hl
  refine va_alen hx hb hK hP p0 1 (by rw [wl_get hp, cell_arr hc (by decide)]) rfl (v := Int32.ofInt (plen p0 : Int)) ?_ d kk
  show Int32.ofNat (plen p0) = _
  exact (Int32.ofInt_eq_ofNat).symm
/-! contracts -/
abbrev GT : Type := Launch × va_G × (Nat → ClassId)
def kg (κ : KT) : GT := match κ with
  | (p, l, e, R, s, m, args, below, meth, c, D, cy, A) => (l, D, cy)
def AA (ad : Nat → Nat) (N : Nat) : Nat → Prop := fun q => ∃ k, k < N ∧ q = ad k
def PcW (g : GT) (as : List AV) (ad : Nat → Nat) (N : Nat) (ph : Phs) (M : Mem) : Array Value → State → Prop := va_Pc (as.map (cv ad)) (fun u => (∀ i j, i < N → j < N → ad i = ad j → i = j) ∧ va_P g.2.1 vwCl (wl g.2.2 ad N ph M) u.heap ∧ va_K g.2.1 vwCl (cyl g.2.2) u ∧ GX u)
def QcW (g : GT) (ad : Nat → Nat) (N : Nat) (ph : Phs) (Post : Option AV → Mem → Prop) : Array Value → State → Outcome → State → Prop := fun _ st oc t => (∃ (r : Option AV) (M' : Mem), oc = .returned (r.map (cv ad)) ∧ va_P g.2.1 vwCl (wl g.2.2 ad N ph M') t.heap ∧ Post r M') ∧ va_F (AA ad N) st t
/-- a method's contract: from that memory, with those arguments, it returns, and what comes back is in Post -/
def Sp (g : GT) (y : MethodName) (cc : ByteArray) (maxL : Nat) (ret : Option FieldType) (rm : Room) (as : List AV) (ad : Nat → Nat) (N : Nat) (ph : Phs) (M : Mem) (Post : Option AV → Mem → Prop) : Prop := Met g.1 y (.code y cc maxL ret :: U) rm (PcW g as ad N ph M) (QcW g ad N ph Post) 0 0 (AA ad N)
/-- where a method ends -/
def QR (κ : KT) (ad : Nat → Nat) (N : Nat) (ph : Phs) (Post : Option AV → Mem → Prop) : State → Prop := match κ with
  | (p, l, e, R, s, m, args, below, meth, c, D, cy, A) => MQ below (QcW (l, D, cy) ad N ph Post) args s 0 0 (AA ad N)
def KA (κ : KT) (ad : Nat → Nat) (N : Nat) : Prop := match κ with
  | (p, l, e, R, s, m, args, below, meth, c, D, cy, A) => A = AA ad N
def entryL (as : List AV) (n : Nat) : List (Option AV) := (as.flatMap fun v => if ct v = 2 then [some v, none] else [some v]) ++ List.replicate (n - (as.flatMap fun v => if ct v = 2 then [some v, none] else [some v]).length) none
theorem lc_none {ad : Nat → Nat} : ∀ (n b : Nat), lc ad b (List.replicate n none) = []
  | 0, b => rfl
  | n + 1, b => by rw [List.replicate_succ]; exact lc_none n (b + 1)
theorem lc_entry {ad : Nat → Nat} (n : Nat) : ∀ (as : List AV) (b : Nat), lc ad b ((as.flatMap fun v => if ct v = 2 then [some v, none] else [some v]) ++ List.replicate n none) = lv_args b (as.map (cv ad))
  | [], b => by
    show lc ad b ([] ++ _) = _
    rw [List.nil_append, lc_none]
    rfl
  | v :: t, b => by
    rw [List.flatMap_cons, List.map_cons]
    unfold lv_args
    rw [cv_cat]
    by_cases h : ct v = 2
    · rw [if_pos h, if_pos h, List.append_assoc]
      exact congrArg (fun z => (b, cv ad v) :: z) (lc_entry n t (b + 2))
    · rw [if_neg h, if_neg h, List.append_assoc]
      exact congrArg (fun z => (b, cv ad v) :: z) (lc_entry n t (b + 1))
theorem lg_len (ad : Nat → Nat) : ∀ as : List AV, (lg_sl (as.map (cv ad))).length = (as.flatMap fun v => if ct v = 2 then [some v, none] else [some v]).length
  | [] => rfl
  | v :: t => by
    have ih := lg_len ad t
    unfold lg_sl at ih ⊢
    rw [List.map_cons, List.flatMap_cons, List.flatMap_cons, List.length_append, List.length_append, ih, cv_cat]
    by_cases h : ct v = 2
    · rw [if_pos h, if_pos h]; rfl
    · rw [if_neg h, if_neg h]; rfl
theorem Sp.intro {g : GT} {y : MethodName} {cc : ByteArray} {maxL : Nat} {ret : Option FieldType} {rm : Room} {as : List AV} {ad : Nat → Nat} {N : Nat} {ph : Phs} {M : Mem} {Post : Option AV → Mem → Prop} (hy : plainName y.cls = true) {ls : List (Option AV)} (hls : entryL as maxL = ls) (hln : (as.flatMap fun v => if ct v = 2 then [some v, none] else [some v]).length ≤ maxL)
    (k : ∀ κ : KT, kg κ = g → Ok κ y.cls cc maxL rm → Rt κ ret → KA κ ad N → E κ ad N ph M 0 ls [] (0, 0) (QR κ ad N ph Post)) : Sp g y cc maxL ret rm as ad N ph M Post := by
  subst hls
  refine Met.ofW (cc := cc) (maxL := maxL) (ret := ret) hy rfl ?_
  intro p e s m args below meth c s₁ B hml hv
  obtain ⟨rfl, hinj, hP, hK, hG⟩ := hv
  obtain ⟨l, D, cy⟩ := g
  have hts := atoms_spec (ws := Cond.code y cc maxL ret :: U) B.pre
  have hown : s.vm.findClass y.cls = some m.cls := findClass_of_methodNamed B.named
  have hl := lv_entry (as.map (cv ad)) (n := maxL) (by rw [lg_len]; exact hln)
  rw [lg_entry_eq]
  have K := k (p, l, e, rm, s, m, (as.map (cv ad)).toArray, below, meth, c, D, cy, AA ad N) rfl ⟨B.exec, B.bytes, hml, hown, fun w hw => hts w (List.mem_cons_of_mem _ hw), hG, B.notSynchronized, hK, rfl⟩ B.returns rfl
  refine K hinj (fun i hi => ⟨i, hi, rfl⟩) s.heap [] _ hP va_S.rf ?_
  rw [hml]
  unfold entryL
  rw [lc_entry]
  exact hl

theorem e_iret {κ : KT} {own : String} {cc : ByteArray} {nL : Nat} {rm : Room} {ad : Nat → Nat} {N : Nat} {ph : Phs} {M : Mem} {pc : Nat} {ls : List (Option AV)} {Post : Option AV → Mem → Prop} (h : Ok κ own cc nL rm) (hr : Rt κ (some .int)) (ha : KA κ ad N) (d : decode cc pc = .ok (.ireturn, 1)) {x : Int} (k : Post (some (vi x)) M) : E κ ad N ph M pc ls [vi x] (0, 0) (QR κ ad N ph Post) := by
  obtain ⟨p, l, e, R, s, m, args, below, meth, c, D, cy, A⟩ := κ
  obtain ⟨hx, hb, hml, hown, hts, hnw, hlk, hK, hR⟩ := h
  intro h1 h2 H locs Ls hP hS hl
  have ha2 : A = AA ad N := ha
  exact W.iret hx hb hr (fun t ht hW => ⟨⟨some (vi x), M, rfl, by rw [ht]; exact hP, k⟩, by rw [← ha2]; exact hS.F ht⟩) (fun q hq => by rw [← ha2]; exact hS.2.2 q hq) d hlk
theorem e_zret {κ : KT} {own : String} {cc : ByteArray} {nL : Nat} {rm : Room} {ad : Nat → Nat} {N : Nat} {ph : Phs} {M : Mem} {pc : Nat} {ls : List (Option AV)} {Post : Option AV → Mem → Prop} (h : Ok κ own cc nL rm) (hr : Rt κ (some .boolean)) (ha : KA κ ad N) (d : decode cc pc = .ok (.ireturn, 1)) {x : Int} (hx01 : x = 0 ∨ x = 1) (k : Post (some (vi x)) M) : E κ ad N ph M pc ls [vi x] (0, 0) (QR κ ad N ph Post) := by
  obtain ⟨p, l, e, R, s, m, args, below, meth, c, D, cy, A⟩ := κ
  obtain ⟨hx, hb, hml, hown, hts, hnw, hlk, hK, hR⟩ := h
  intro h1 h2 H locs Ls hP hS hl
  have ha2 : A = AA ad N := ha
  exact W.zret hx hb hr (nb_01 hx01).1 (fun t ht hW => ⟨⟨some (vi x), M, rfl, by rw [ht]; exact hP, k⟩, by rw [← ha2]; exact hS.F ht⟩) (fun q hq => by rw [← ha2]; exact hS.2.2 q hq) d hlk
theorem e_lret {κ : KT} {own : String} {cc : ByteArray} {nL : Nat} {rm : Room} {ad : Nat → Nat} {N : Nat} {ph : Phs} {M : Mem} {pc : Nat} {ls : List (Option AV)} {Post : Option AV → Mem → Prop} (h : Ok κ own cc nL rm) (hr : Rt κ (some .long)) (ha : KA κ ad N) (d : decode cc pc = .ok (.lreturn, 1)) {x : Int} (k : Post (some (vj x)) M) : E κ ad N ph M pc ls [vj x] (0, 0) (QR κ ad N ph Post) := by
  obtain ⟨p, l, e, R, s, m, args, below, meth, c, D, cy, A⟩ := κ
  obtain ⟨hx, hb, hml, hown, hts, hnw, hlk, hK, hR⟩ := h
  intro h1 h2 H locs Ls hP hS hl
  have ha2 : A = AA ad N := ha
  exact W.lret hx hb hr (fun t ht hW => ⟨⟨some (vj x), M, rfl, by rw [ht]; exact hP, k⟩, by rw [← ha2]; exact hS.F ht⟩) (fun q hq => by rw [← ha2]; exact hS.2.2 q hq) d hlk
theorem e_vret {κ : KT} {own : String} {cc : ByteArray} {nL : Nat} {rm : Room} {ad : Nat → Nat} {N : Nat} {ph : Phs} {M : Mem} {pc : Nat} {ls : List (Option AV)} {Post : Option AV → Mem → Prop} (h : Ok κ own cc nL rm) (hr : Rt κ none) (ha : KA κ ad N) (d : decode cc pc = .ok (.return_, 1))  (k : Post none M) : E κ ad N ph M pc ls [] (0, 0) (QR κ ad N ph Post) := by
  obtain ⟨p, l, e, R, s, m, args, below, meth, c, D, cy, A⟩ := κ
  obtain ⟨hx, hb, hml, hown, hts, hnw, hlk, hK, hR⟩ := h
  intro h1 h2 H locs Ls hP hS hl
  have ha2 : A = AA ad N := ha
  exact W.vret hx hb hr (fun t ht hW => ⟨⟨none, M, rfl, by rw [ht]; exact hP, k⟩, by rw [← ha2]; exact hS.F ht⟩) (fun q hq => by rw [← ha2]; exact hS.2.2 q hq) d hlk
theorem e_aret {κ : KT} {own : String} {cc : ByteArray} {nL : Nat} {rm : Room} {ad : Nat → Nat} {N : Nat} {ph : Phs} {M : Mem} {pc : Nat} {ls : List (Option AV)} {Post : Option AV → Mem → Prop} {C : String} (h : Ok κ own cc nL rm) (hr : Rt κ (some (.object C))) (ha : KA κ ad N) (d : decode cc pc = .ok (.areturn, 1)) {x : Nat} (k : Post (some (vr x)) M) : E κ ad N ph M pc ls [vr x] (0, 0) (QR κ ad N ph Post) := by
  obtain ⟨p, l, e, R, s, m, args, below, meth, c, D, cy, A⟩ := κ
  obtain ⟨hx, hb, hml, hown, hts, hnw, hlk, hK, hR⟩ := h
  intro h1 h2 H locs Ls hP hS hl
  have ha2 : A = AA ad N := ha
  exact W.aret hx hb hr (Or.inl ⟨_, rfl⟩) (Or.inr ⟨_, rfl⟩) (fun t ht hW => ⟨⟨some (vr x), M, rfl, by rw [ht]; exact hP, k⟩, by rw [← ha2]; exact hS.F ht⟩) (fun q hq => by rw [← ha2]; exact hS.2.2 q hq) d hlk
theorem run_go {p : Program} {l : Launch} {e : Env} {R : Room} {s : State} {m : MethodId} {args : Array Value} {below : List Frame} {meth : Method} {c : Code} {D : va_G} {cy : Nat → ClassId} {A : Nat → Prop} {H : Heap} {locs : List Loc} {c0 s0 pc : Nat} {Ls : Array Slot} {st0 rest : List Value} {ad : Nat → Nat} {N : Nat} {ph : Phs} {Post : Option AV → Mem → Prop} {a : Array Value} {Q : State → Prop}
    (hr : va_Run p l e R s m args below meth c H locs c0 s0 0 0 (F0 m pc Ls st0) rest (QcW (l, D, cy) ad N ph Post a) (AA ad N)) (hS : va_S A s.heap H locs) (h2 : ∀ i, i < N → A (ad i))
    (kk : ∀ (r : Option AV) (M' : Mem) (H1 : Heap) (locs1 : List Loc), va_P D vwCl (wl cy ad N ph M') H1 → va_S A s.heap H1 locs1 → Post r M' → W p l e R s m args below meth c H1 locs1 c0 s0 Q (F0 m (pc + 3) Ls ((r.map (cv ad)).toList ++ rest))) : W p l e R s m args below meth c H locs c0 s0 Q (F0 m pc Ls st0) := by
  intro T hT X
  obtain ⟨v, st₀, t, T', L, g0, X', hL, e1, e2, ⟨⟨r, M', hv, hP', hp⟩, hz, hk⟩, st⟩ := hr T hT X
  cases hv
  rw [g0] at hz hk
  have hA : ∀ q, AA ad N q → A q := fun q ⟨k, hk, e⟩ => by rw [e]; exact h2 k hk
  obtain ⟨t2, a1, b1⟩ := kk r M' T'.heap (locs ++ L) (by rw [e1]; exact hP') ⟨Nat.le_trans hS.1 (by rw [e1]; exact hz), fun q h1 h2 => by rw [e1, hk q (Nat.lt_of_lt_of_le h1 hS.1) (fun z => h2 (hA q z))]; exact hS.2.1 q h1 h2, fun q hq => by
      rcases List.mem_append.mp hq with h | h
      · exact hS.2.2 q h
      · exact hA _ (hL q h)⟩ hp T' rfl X'
  exact ⟨t2, st t2 a1, b1⟩
theorem PcW_blind {g : GT} {as : List AV} {ad : Nat → Nat} {N : Nat} {ph : Phs} {M : Mem} : FrameBlind (PcW g as ad N ph M) := fun a u f mk q => by
  obtain ⟨q0, q1, q2, q3, q4⟩ := q
  exact ⟨q0, q1, q2, va_K.moved (u := u) (U := u.calling f mk a) (Vm.Alike.refl u.vm) q3, GX_same (u := u) rfl q4⟩
theorem mapr {ad : Nat → Nat} (r : Option AV) (st : List AV) : (r.map (cv ad)).toList ++ st.map (cv ad) = (r.toList ++ st).map (cv ad) := by cases r <;> rfl
theorem u_goodU {ws : List Cond} (h : ∀ w ∈ ws, w ∈ U) : GoodIn U ws := fun w hw => ⟨h w hw, good_of_word (List.mem_filter.mp (h w hw)).2⟩

theorem e_callV {κ : KT} {own : String} {cc : ByteArray} {nL : Nat} {rm : Room} {ad : Nat → Nat} {N : Nat} {ph : Phs} {M : Mem} {pc : Nat} {ls : List (Option AV)} {st : List AV} {cs : Nat × Nat} {Q : State → Prop} {idx : Nat} {y : MethodName} {ccY : ByteArray} {maxL n : Nat} {ret : Option FieldType} {rmY : Room} {as : List AV} (lk : LK own idx y) (mv : MV y ccY maxL ret n) (d : decode cc pc = .ok (.invokevirtual idx, 3)) (hn : as.length = n) {p0 : Nat} (hcl : clR (pcl p0) = y.cls) (hc : pcl p0 < 12) (hp : p0 < N) (hst : (st.map ct).sum ≤ 8) (hrm : rmY.frames + 1 ≤ rm.frames ∧ 8 + (maxL + 11) + rmY.locals ≤ rm.locals ∧ rmY.cells = 0 ∧ rmY.slots = 0 ∧ cs.1 ≤ rm.cells ∧ cs.2 ≤ rm.slots) (h : Ok κ own cc nL rm) (S : Sp (kg κ) y ccY maxL ret rmY (vr p0 :: as) ad N ph M (fun r M2 => E κ ad N ph M2 (pc + 3) ls (r.toList ++ st) cs Q)) : E κ ad N ph M pc ls (as.reverse ++ vr p0 :: st) cs Q := by
  obtain ⟨p, l, e, R, s, m, args, below, meth, c, D, cy, A⟩ := κ
  obtain ⟨hx, hb, hml, hown, hts, hnw, hlk, hK, hR⟩ := h
  intro h1 h2 H locs Ls hP hS hl
  subst hR
  obtain ⟨v1, v2, v3, v4, v5⟩ := mv
  obtain ⟨r1, r2, r3, r4, r5, r6⟩ := hrm
  have hG : GoodIn U (Cond.code y ccY maxL ret :: U) := u_goodU (fun w hw => (List.mem_cons.mp hw).elim (fun q => q ▸ v4) id)
  have hfix : CallFix p m c cc nL s args U own := ⟨hx, hb, hml, hown, hts⟩
  obtain ⟨c1, -⟩ := CFall (pcl p0) hc
  have hpre : PreV s H y.cls (ad p0) (PcW (l, D, cy) (vr p0 :: as) ad N ph M) (as.map (cv ad)) := by
    refine ⟨PcW_blind, ?_, fun u hU hW => ⟨rfl, h1, by rw [hU]; exact hP, va_K.moved hW.alike hK, GX_warm hW hnw⟩⟩
    rw [← hcl]
    exact va_recv hK hP (q0 := p0) c1 (by rw [wl_get hp, cell_obj rfl hc])
  have hsz : Ls.size = nL := by rw [hl.1, hml]
  have hstk : ((as.reverse ++ vr p0 :: st).map (cv ad)) = (as.map (cv ad)).reverse ++ Value.ref (ad p0) :: st.map (cv ad) := by
    rw [List.map_append, List.map_reverse]; rfl
  have hsum : 2 * (F0 m pc Ls ((as.reverse ++ vr p0 :: st).map (cv ad))).monitorRoom + ((st.map (cv ad)).map fun v => v.category).sum ≤ 8 := lv_room (by rw [ct_sum]; exact hst)
  rcases lk with lk | ⟨host, lk⟩
  · refine run_go (va_runV (C := y.cls) (g := F0 m pc Ls _) hfix S ⟨callB_of n hts hG rfl r3 r4 (hts _ v3) (hts _ lk) v5 ⟨r1, r2⟩, hts _ v1, hts _ v2⟩ hpre rfl (by rw [List.length_map]; exact hn) hsz hstk hsum d ⟨r5, r6⟩) hS h2 ?_
    intro r M2 H1 locs1 a1 a2 a3
    rw [mapr]
    exact a3 h1 h2 H1 locs1 Ls a1 a2 hl
  · refine run_go (va_runVN (C := y.cls) (g := F0 m pc Ls _) hfix S ⟨va_cnB n hts hG rfl r3 r4 (hnw.1 _ lk) (hts _ v3) v5 ⟨r1, r2⟩, hts _ v1, hts _ v2⟩ hpre rfl (by rw [List.length_map]; exact hn) hsz hstk hsum d ⟨r5, r6⟩) hS h2 ?_
    intro r M2 H1 locs1 a1 a2 a3
    rw [mapr]
    exact a3 h1 h2 H1 locs1 Ls a1 a2 hl
theorem e_callS {κ : KT} {own : String} {cc : ByteArray} {nL : Nat} {rm : Room} {ad : Nat → Nat} {N : Nat} {ph : Phs} {M : Mem} {pc : Nat} {ls : List (Option AV)} {st : List AV} {cs : Nat × Nat} {Q : State → Prop} {idx : Nat} {y : MethodName} {ccY : ByteArray} {maxL n : Nat} {ret : Option FieldType} {rmY : Room} {as : List AV} (lk : LK own idx y) (mv : MS y ccY maxL ret n) (d : decode cc pc = .ok (.invokestatic idx, 3)) (hn : as.length = n) (hst : (st.map ct).sum ≤ 8) (hrm : rmY.frames + 1 ≤ rm.frames ∧ 8 + (maxL + 11) + rmY.locals ≤ rm.locals ∧ rmY.cells = 0 ∧ rmY.slots = 0 ∧ cs.1 ≤ rm.cells ∧ cs.2 ≤ rm.slots) (h : Ok κ own cc nL rm) (S : Sp (kg κ) y ccY maxL ret rmY as ad N ph M (fun r M2 => E κ ad N ph M2 (pc + 3) ls (r.toList ++ st) cs Q)) : E κ ad N ph M pc ls (as.reverse ++ st) cs Q := by
  obtain ⟨p, l, e, R, s, m, args, below, meth, c, D, cy, A⟩ := κ
  obtain ⟨hx, hb, hml, hown, hts, hnw, hlk, hK, hR⟩ := h
  intro h1 h2 H locs Ls hP hS hl
  subst hR
  obtain ⟨v1, v3, v4, v5⟩ := mv
  obtain ⟨r1, r2, r3, r4, r5, r6⟩ := hrm
  have hG : GoodIn U (Cond.code y ccY maxL ret :: U) := u_goodU (fun w hw => (List.mem_cons.mp hw).elim (fun q => q ▸ v4) id)
  have hfix : CallFix p m c cc nL s args U own := ⟨hx, hb, hml, hown, hts⟩
  have hpre : PreS s H (PcW (l, D, cy) as ad N ph M) (as.map (cv ad)) := ⟨PcW_blind, fun u hU hW => ⟨rfl, h1, by rw [hU]; exact hP, va_K.moved hW.alike hK, GX_warm hW hnw⟩⟩
  have hsz : Ls.size = nL := by rw [hl.1, hml]
  have hstk : ((as.reverse ++ st).map (cv ad)) = (as.map (cv ad)).reverse ++ st.map (cv ad) := by
    rw [List.map_append, List.map_reverse]
  have hsum : 2 * (F0 m pc Ls ((as.reverse ++ st).map (cv ad))).monitorRoom + ((st.map (cv ad)).map fun v => v.category).sum ≤ 8 := lv_room (by rw [ct_sum]; exact hst)
  rcases lk with lk | ⟨host, lk⟩
  · refine run_go (va_runS (g := F0 m pc Ls _) hfix S ⟨callB_of n hts hG rfl r3 r4 (hts _ v3) (hts _ lk) v5 ⟨r1, r2⟩, hts _ v1⟩ hpre rfl (by rw [List.length_map]; exact hn) hsz hstk hsum d ⟨r5, r6⟩) hS h2 ?_
    intro r M2 H1 locs1 a1 a2 a3
    rw [mapr]
    exact a3 h1 h2 H1 locs1 Ls a1 a2 hl
  · refine run_go (va_runSN (g := F0 m pc Ls _) hfix S ⟨va_cnB n hts hG rfl r3 r4 (hnw.1 _ lk) (hts _ v3) v5 ⟨r1, r2⟩, hts _ v1, trivial⟩ hpre rfl (by rw [List.length_map]; exact hn) hsz hstk hsum d ⟨r5, r6⟩) hS h2 ?_
    intro r M2 H1 locs1 a1 a2 a3
    rw [mapr]
    exact a3 h1 h2 H1 locs1 Ls a1 a2 hl
theorem e_callV0 {κ : KT} {own : String} {cc : ByteArray} {nL : Nat} {rm : Room} {ad : Nat → Nat} {N : Nat} {ph : Phs} {M : Mem} {pc : Nat} {ls : List (Option AV)} {st : List AV} {cs : Nat × Nat} {Q : State → Prop} {idx : Nat} {y : MethodName} {ccY : ByteArray} {maxL : Nat} {ret : Option FieldType} {rmY : Room} (lk : LK own idx y) (mv : MV y ccY maxL ret 0) (d : decode cc pc = .ok (.invokevirtual idx, 3)) {p0 : Nat}  (hcl : clR (pcl p0) = y.cls) (hc : pcl p0 < 12) (hp : p0 < N) (hst : (st.map ct).sum ≤ 8) (hrm : rmY.frames + 1 ≤ rm.frames ∧ 8 + (maxL + 11) + rmY.locals ≤ rm.locals ∧ rmY.cells = 0 ∧ rmY.slots = 0 ∧ cs.1 ≤ rm.cells ∧ cs.2 ≤ rm.slots) (h : Ok κ own cc nL rm) (S : Sp (kg κ) y ccY maxL ret rmY [vr p0] ad N ph M (fun r M2 => E κ ad N ph M2 (pc + 3) ls (r.toList ++ st) cs Q)) : E κ ad N ph M pc ls (vr p0 :: st) cs Q :=
  e_callV (as := []) lk mv d rfl hcl hc hp hst hrm h S
theorem e_callS0 {κ : KT} {own : String} {cc : ByteArray} {nL : Nat} {rm : Room} {ad : Nat → Nat} {N : Nat} {ph : Phs} {M : Mem} {pc : Nat} {ls : List (Option AV)} {st : List AV} {cs : Nat × Nat} {Q : State → Prop} {idx : Nat} {y : MethodName} {ccY : ByteArray} {maxL : Nat} {ret : Option FieldType} {rmY : Room} (lk : LK own idx y) (mv : MS y ccY maxL ret 0) (d : decode cc pc = .ok (.invokestatic idx, 3))  (hst : (st.map ct).sum ≤ 8) (hrm : rmY.frames + 1 ≤ rm.frames ∧ 8 + (maxL + 11) + rmY.locals ≤ rm.locals ∧ rmY.cells = 0 ∧ rmY.slots = 0 ∧ cs.1 ≤ rm.cells ∧ cs.2 ≤ rm.slots) (h : Ok κ own cc nL rm) (S : Sp (kg κ) y ccY maxL ret rmY [] ad N ph M (fun r M2 => E κ ad N ph M2 (pc + 3) ls (r.toList ++ st) cs Q)) : E κ ad N ph M pc ls (st) cs Q :=
  e_callS (as := []) lk mv d rfl hst hrm h S
theorem e_callV1 {κ : KT} {own : String} {cc : ByteArray} {nL : Nat} {rm : Room} {ad : Nat → Nat} {N : Nat} {ph : Phs} {M : Mem} {pc : Nat} {ls : List (Option AV)} {st : List AV} {cs : Nat × Nat} {Q : State → Prop} {idx : Nat} {y : MethodName} {ccY : ByteArray} {maxL : Nat} {ret : Option FieldType} {rmY : Room} (lk : LK own idx y) (mv : MV y ccY maxL ret 1) (d : decode cc pc = .ok (.invokevirtual idx, 3)) {p0 : Nat} {a1 : AV} (hcl : clR (pcl p0) = y.cls) (hc : pcl p0 < 12) (hp : p0 < N) (hst : (st.map ct).sum ≤ 8) (hrm : rmY.frames + 1 ≤ rm.frames ∧ 8 + (maxL + 11) + rmY.locals ≤ rm.locals ∧ rmY.cells = 0 ∧ rmY.slots = 0 ∧ cs.1 ≤ rm.cells ∧ cs.2 ≤ rm.slots) (h : Ok κ own cc nL rm) (S : Sp (kg κ) y ccY maxL ret rmY [vr p0, a1] ad N ph M (fun r M2 => E κ ad N ph M2 (pc + 3) ls (r.toList ++ st) cs Q)) : E κ ad N ph M pc ls (a1 :: vr p0 :: st) cs Q :=
  e_callV (as := [a1]) lk mv d rfl hcl hc hp hst hrm h S
theorem e_callS1 {κ : KT} {own : String} {cc : ByteArray} {nL : Nat} {rm : Room} {ad : Nat → Nat} {N : Nat} {ph : Phs} {M : Mem} {pc : Nat} {ls : List (Option AV)} {st : List AV} {cs : Nat × Nat} {Q : State → Prop} {idx : Nat} {y : MethodName} {ccY : ByteArray} {maxL : Nat} {ret : Option FieldType} {rmY : Room} (lk : LK own idx y) (mv : MS y ccY maxL ret 1) (d : decode cc pc = .ok (.invokestatic idx, 3)) {a1 : AV} (hst : (st.map ct).sum ≤ 8) (hrm : rmY.frames + 1 ≤ rm.frames ∧ 8 + (maxL + 11) + rmY.locals ≤ rm.locals ∧ rmY.cells = 0 ∧ rmY.slots = 0 ∧ cs.1 ≤ rm.cells ∧ cs.2 ≤ rm.slots) (h : Ok κ own cc nL rm) (S : Sp (kg κ) y ccY maxL ret rmY [a1] ad N ph M (fun r M2 => E κ ad N ph M2 (pc + 3) ls (r.toList ++ st) cs Q)) : E κ ad N ph M pc ls (a1 :: st) cs Q :=
  e_callS (as := [a1]) lk mv d rfl hst hrm h S
theorem e_callV2 {κ : KT} {own : String} {cc : ByteArray} {nL : Nat} {rm : Room} {ad : Nat → Nat} {N : Nat} {ph : Phs} {M : Mem} {pc : Nat} {ls : List (Option AV)} {st : List AV} {cs : Nat × Nat} {Q : State → Prop} {idx : Nat} {y : MethodName} {ccY : ByteArray} {maxL : Nat} {ret : Option FieldType} {rmY : Room} (lk : LK own idx y) (mv : MV y ccY maxL ret 2) (d : decode cc pc = .ok (.invokevirtual idx, 3)) {p0 : Nat} {a1 a2 : AV} (hcl : clR (pcl p0) = y.cls) (hc : pcl p0 < 12) (hp : p0 < N) (hst : (st.map ct).sum ≤ 8) (hrm : rmY.frames + 1 ≤ rm.frames ∧ 8 + (maxL + 11) + rmY.locals ≤ rm.locals ∧ rmY.cells = 0 ∧ rmY.slots = 0 ∧ cs.1 ≤ rm.cells ∧ cs.2 ≤ rm.slots) (h : Ok κ own cc nL rm) (S : Sp (kg κ) y ccY maxL ret rmY [vr p0, a1, a2] ad N ph M (fun r M2 => E κ ad N ph M2 (pc + 3) ls (r.toList ++ st) cs Q)) : E κ ad N ph M pc ls (a2 :: a1 :: vr p0 :: st) cs Q :=
  e_callV (as := [a1, a2]) lk mv d rfl hcl hc hp hst hrm h S
theorem e_callS2 {κ : KT} {own : String} {cc : ByteArray} {nL : Nat} {rm : Room} {ad : Nat → Nat} {N : Nat} {ph : Phs} {M : Mem} {pc : Nat} {ls : List (Option AV)} {st : List AV} {cs : Nat × Nat} {Q : State → Prop} {idx : Nat} {y : MethodName} {ccY : ByteArray} {maxL : Nat} {ret : Option FieldType} {rmY : Room} (lk : LK own idx y) (mv : MS y ccY maxL ret 2) (d : decode cc pc = .ok (.invokestatic idx, 3)) {a1 a2 : AV} (hst : (st.map ct).sum ≤ 8) (hrm : rmY.frames + 1 ≤ rm.frames ∧ 8 + (maxL + 11) + rmY.locals ≤ rm.locals ∧ rmY.cells = 0 ∧ rmY.slots = 0 ∧ cs.1 ≤ rm.cells ∧ cs.2 ≤ rm.slots) (h : Ok κ own cc nL rm) (S : Sp (kg κ) y ccY maxL ret rmY [a1, a2] ad N ph M (fun r M2 => E κ ad N ph M2 (pc + 3) ls (r.toList ++ st) cs Q)) : E κ ad N ph M pc ls (a2 :: a1 :: st) cs Q :=
  e_callS (as := [a1, a2]) lk mv d rfl hst hrm h S
theorem e_callV3 {κ : KT} {own : String} {cc : ByteArray} {nL : Nat} {rm : Room} {ad : Nat → Nat} {N : Nat} {ph : Phs} {M : Mem} {pc : Nat} {ls : List (Option AV)} {st : List AV} {cs : Nat × Nat} {Q : State → Prop} {idx : Nat} {y : MethodName} {ccY : ByteArray} {maxL : Nat} {ret : Option FieldType} {rmY : Room} (lk : LK own idx y) (mv : MV y ccY maxL ret 3) (d : decode cc pc = .ok (.invokevirtual idx, 3)) {p0 : Nat} {a1 a2 a3 : AV} (hcl : clR (pcl p0) = y.cls) (hc : pcl p0 < 12) (hp : p0 < N) (hst : (st.map ct).sum ≤ 8) (hrm : rmY.frames + 1 ≤ rm.frames ∧ 8 + (maxL + 11) + rmY.locals ≤ rm.locals ∧ rmY.cells = 0 ∧ rmY.slots = 0 ∧ cs.1 ≤ rm.cells ∧ cs.2 ≤ rm.slots) (h : Ok κ own cc nL rm) (S : Sp (kg κ) y ccY maxL ret rmY [vr p0, a1, a2, a3] ad N ph M (fun r M2 => E κ ad N ph M2 (pc + 3) ls (r.toList ++ st) cs Q)) : E κ ad N ph M pc ls (a3 :: a2 :: a1 :: vr p0 :: st) cs Q :=
  e_callV (as := [a1, a2, a3]) lk mv d rfl hcl hc hp hst hrm h S
theorem e_callS3 {κ : KT} {own : String} {cc : ByteArray} {nL : Nat} {rm : Room} {ad : Nat → Nat} {N : Nat} {ph : Phs} {M : Mem} {pc : Nat} {ls : List (Option AV)} {st : List AV} {cs : Nat × Nat} {Q : State → Prop} {idx : Nat} {y : MethodName} {ccY : ByteArray} {maxL : Nat} {ret : Option FieldType} {rmY : Room} (lk : LK own idx y) (mv : MS y ccY maxL ret 3) (d : decode cc pc = .ok (.invokestatic idx, 3)) {a1 a2 a3 : AV} (hst : (st.map ct).sum ≤ 8) (hrm : rmY.frames + 1 ≤ rm.frames ∧ 8 + (maxL + 11) + rmY.locals ≤ rm.locals ∧ rmY.cells = 0 ∧ rmY.slots = 0 ∧ cs.1 ≤ rm.cells ∧ cs.2 ≤ rm.slots) (h : Ok κ own cc nL rm) (S : Sp (kg κ) y ccY maxL ret rmY [a1, a2, a3] ad N ph M (fun r M2 => E κ ad N ph M2 (pc + 3) ls (r.toList ++ st) cs Q)) : E κ ad N ph M pc ls (a3 :: a2 :: a1 :: st) cs Q :=
  e_callS (as := [a1, a2, a3]) lk mv d rfl hst hrm h S
theorem e_callV4 {κ : KT} {own : String} {cc : ByteArray} {nL : Nat} {rm : Room} {ad : Nat → Nat} {N : Nat} {ph : Phs} {M : Mem} {pc : Nat} {ls : List (Option AV)} {st : List AV} {cs : Nat × Nat} {Q : State → Prop} {idx : Nat} {y : MethodName} {ccY : ByteArray} {maxL : Nat} {ret : Option FieldType} {rmY : Room} (lk : LK own idx y) (mv : MV y ccY maxL ret 4) (d : decode cc pc = .ok (.invokevirtual idx, 3)) {p0 : Nat} {a1 a2 a3 a4 : AV} (hcl : clR (pcl p0) = y.cls) (hc : pcl p0 < 12) (hp : p0 < N) (hst : (st.map ct).sum ≤ 8) (hrm : rmY.frames + 1 ≤ rm.frames ∧ 8 + (maxL + 11) + rmY.locals ≤ rm.locals ∧ rmY.cells = 0 ∧ rmY.slots = 0 ∧ cs.1 ≤ rm.cells ∧ cs.2 ≤ rm.slots) (h : Ok κ own cc nL rm) (S : Sp (kg κ) y ccY maxL ret rmY [vr p0, a1, a2, a3, a4] ad N ph M (fun r M2 => E κ ad N ph M2 (pc + 3) ls (r.toList ++ st) cs Q)) : E κ ad N ph M pc ls (a4 :: a3 :: a2 :: a1 :: vr p0 :: st) cs Q :=
  e_callV (as := [a1, a2, a3, a4]) lk mv d rfl hcl hc hp hst hrm h S
theorem e_callS4 {κ : KT} {own : String} {cc : ByteArray} {nL : Nat} {rm : Room} {ad : Nat → Nat} {N : Nat} {ph : Phs} {M : Mem} {pc : Nat} {ls : List (Option AV)} {st : List AV} {cs : Nat × Nat} {Q : State → Prop} {idx : Nat} {y : MethodName} {ccY : ByteArray} {maxL : Nat} {ret : Option FieldType} {rmY : Room} (lk : LK own idx y) (mv : MS y ccY maxL ret 4) (d : decode cc pc = .ok (.invokestatic idx, 3)) {a1 a2 a3 a4 : AV} (hst : (st.map ct).sum ≤ 8) (hrm : rmY.frames + 1 ≤ rm.frames ∧ 8 + (maxL + 11) + rmY.locals ≤ rm.locals ∧ rmY.cells = 0 ∧ rmY.slots = 0 ∧ cs.1 ≤ rm.cells ∧ cs.2 ≤ rm.slots) (h : Ok κ own cc nL rm) (S : Sp (kg κ) y ccY maxL ret rmY [a1, a2, a3, a4] ad N ph M (fun r M2 => E κ ad N ph M2 (pc + 3) ls (r.toList ++ st) cs Q)) : E κ ad N ph M pc ls (a4 :: a3 :: a2 :: a1 :: st) cs Q :=
  e_callS (as := [a1, a2, a3, a4]) lk mv d rfl hst hrm h S
theorem e_callV5 {κ : KT} {own : String} {cc : ByteArray} {nL : Nat} {rm : Room} {ad : Nat → Nat} {N : Nat} {ph : Phs} {M : Mem} {pc : Nat} {ls : List (Option AV)} {st : List AV} {cs : Nat × Nat} {Q : State → Prop} {idx : Nat} {y : MethodName} {ccY : ByteArray} {maxL : Nat} {ret : Option FieldType} {rmY : Room} (lk : LK own idx y) (mv : MV y ccY maxL ret 5) (d : decode cc pc = .ok (.invokevirtual idx, 3)) {p0 : Nat} {a1 a2 a3 a4 a5 : AV} (hcl : clR (pcl p0) = y.cls) (hc : pcl p0 < 12) (hp : p0 < N) (hst : (st.map ct).sum ≤ 8) (hrm : rmY.frames + 1 ≤ rm.frames ∧ 8 + (maxL + 11) + rmY.locals ≤ rm.locals ∧ rmY.cells = 0 ∧ rmY.slots = 0 ∧ cs.1 ≤ rm.cells ∧ cs.2 ≤ rm.slots) (h : Ok κ own cc nL rm) (S : Sp (kg κ) y ccY maxL ret rmY [vr p0, a1, a2, a3, a4, a5] ad N ph M (fun r M2 => E κ ad N ph M2 (pc + 3) ls (r.toList ++ st) cs Q)) : E κ ad N ph M pc ls (a5 :: a4 :: a3 :: a2 :: a1 :: vr p0 :: st) cs Q :=
  e_callV (as := [a1, a2, a3, a4, a5]) lk mv d rfl hcl hc hp hst hrm h S
theorem e_callS5 {κ : KT} {own : String} {cc : ByteArray} {nL : Nat} {rm : Room} {ad : Nat → Nat} {N : Nat} {ph : Phs} {M : Mem} {pc : Nat} {ls : List (Option AV)} {st : List AV} {cs : Nat × Nat} {Q : State → Prop} {idx : Nat} {y : MethodName} {ccY : ByteArray} {maxL : Nat} {ret : Option FieldType} {rmY : Room} (lk : LK own idx y) (mv : MS y ccY maxL ret 5) (d : decode cc pc = .ok (.invokestatic idx, 3)) {a1 a2 a3 a4 a5 : AV} (hst : (st.map ct).sum ≤ 8) (hrm : rmY.frames + 1 ≤ rm.frames ∧ 8 + (maxL + 11) + rmY.locals ≤ rm.locals ∧ rmY.cells = 0 ∧ rmY.slots = 0 ∧ cs.1 ≤ rm.cells ∧ cs.2 ≤ rm.slots) (h : Ok κ own cc nL rm) (S : Sp (kg κ) y ccY maxL ret rmY [a1, a2, a3, a4, a5] ad N ph M (fun r M2 => E κ ad N ph M2 (pc + 3) ls (r.toList ++ st) cs Q)) : E κ ad N ph M pc ls (a5 :: a4 :: a3 :: a2 :: a1 :: st) cs Q :=
  e_callS (as := [a1, a2, a3, a4, a5]) lk mv d rfl hst hrm h S
theorem e_callV6 {κ : KT} {own : String} {cc : ByteArray} {nL : Nat} {rm : Room} {ad : Nat → Nat} {N : Nat} {ph : Phs} {M : Mem} {pc : Nat} {ls : List (Option AV)} {st : List AV} {cs : Nat × Nat} {Q : State → Prop} {idx : Nat} {y : MethodName} {ccY : ByteArray} {maxL : Nat} {ret : Option FieldType} {rmY : Room} (lk : LK own idx y) (mv : MV y ccY maxL ret 6) (d : decode cc pc = .ok (.invokevirtual idx, 3)) {p0 : Nat} {a1 a2 a3 a4 a5 a6 : AV} (hcl : clR (pcl p0) = y.cls) (hc : pcl p0 < 12) (hp : p0 < N) (hst : (st.map ct).sum ≤ 8) (hrm : rmY.frames + 1 ≤ rm.frames ∧ 8 + (maxL + 11) + rmY.locals ≤ rm.locals ∧ rmY.cells = 0 ∧ rmY.slots = 0 ∧ cs.1 ≤ rm.cells ∧ cs.2 ≤ rm.slots) (h : Ok κ own cc nL rm) (S : Sp (kg κ) y ccY maxL ret rmY [vr p0, a1, a2, a3, a4, a5, a6] ad N ph M (fun r M2 => E κ ad N ph M2 (pc + 3) ls (r.toList ++ st) cs Q)) : E κ ad N ph M pc ls (a6 :: a5 :: a4 :: a3 :: a2 :: a1 :: vr p0 :: st) cs Q :=
  e_callV (as := [a1, a2, a3, a4, a5, a6]) lk mv d rfl hcl hc hp hst hrm h S
theorem e_callS6 {κ : KT} {own : String} {cc : ByteArray} {nL : Nat} {rm : Room} {ad : Nat → Nat} {N : Nat} {ph : Phs} {M : Mem} {pc : Nat} {ls : List (Option AV)} {st : List AV} {cs : Nat × Nat} {Q : State → Prop} {idx : Nat} {y : MethodName} {ccY : ByteArray} {maxL : Nat} {ret : Option FieldType} {rmY : Room} (lk : LK own idx y) (mv : MS y ccY maxL ret 6) (d : decode cc pc = .ok (.invokestatic idx, 3)) {a1 a2 a3 a4 a5 a6 : AV} (hst : (st.map ct).sum ≤ 8) (hrm : rmY.frames + 1 ≤ rm.frames ∧ 8 + (maxL + 11) + rmY.locals ≤ rm.locals ∧ rmY.cells = 0 ∧ rmY.slots = 0 ∧ cs.1 ≤ rm.cells ∧ cs.2 ≤ rm.slots) (h : Ok κ own cc nL rm) (S : Sp (kg κ) y ccY maxL ret rmY [a1, a2, a3, a4, a5, a6] ad N ph M (fun r M2 => E κ ad N ph M2 (pc + 3) ls (r.toList ++ st) cs Q)) : E κ ad N ph M pc ls (a6 :: a5 :: a4 :: a3 :: a2 :: a1 :: st) cs Q :=
  e_callS (as := [a1, a2, a3, a4, a5, a6]) lk mv d rfl hst hrm h S
theorem e_max {κ : KT} {own : String} {cc : ByteArray} {nL : Nat} {rm : Room} {ad : Nat → Nat} {N : Nat} {ph : Phs} {M : Mem} {pc : Nat} {ls : List (Option AV)} {st : List AV} {cs : Nat × Nat} {Q : State → Prop} {idx : Nat} (lk : Cond.methodLink own idx Lib.Math.max.name ∈ U) (d : decode cc pc = .ok (.invokestatic idx, 3)) (hst : (st.map ct).sum + 13 ≤ rm.locals) (hfr : 1 ≤ rm.frames ∧ cs.1 ≤ rm.cells ∧ cs.2 ≤ rm.slots) (h : Ok κ own cc nL rm) {x y : Int} (hx0 : -2147483648 ≤ x ∧ x ≤ 2147483647) (hy0 : -2147483648 ≤ y ∧ y ≤ 2147483647) (k : E κ ad N ph M (pc + 3) ls (vi (max x y) :: st) cs Q) : E κ ad N ph M pc ls (vi y :: vi x :: st) cs Q := by
  obtain ⟨p, l, e, R, s, m, args, below, meth, c, D, cy, A⟩ := κ
  obtain ⟨hx, hb, hml, hown, hts, hnw, hlk, hK, hR⟩ := h
  intro h1 h2 H locs Ls hP hS hl
  subst hR
  have kk := k h1 h2 H locs Ls hP hS hl
  · refine va_mmax hx hb (by rw [hl.1]) hown (hts _ lk) (hts _ st_max) (hts _ iz_Math) (hts _ cd_max) hfr.1 (by rw [ct_sum]; exact hst) hfr.2.1 hfr.2.2 d ?_
    have e : (if Int32.ofInt x < Int32.ofInt y then Int32.ofInt y else Int32.ofInt x) = Int32.ofInt (max x y) := by
      by_cases z : x < y
      · rw [if_pos ((i_lt hx0 hy0).mpr z)]; congr 1; omega
      · rw [if_neg (fun q => z ((i_lt hx0 hy0).mp q))]; congr 1; omega
    rw [e]
    exact kk
theorem e_min {κ : KT} {own : String} {cc : ByteArray} {nL : Nat} {rm : Room} {ad : Nat → Nat} {N : Nat} {ph : Phs} {M : Mem} {pc : Nat} {ls : List (Option AV)} {st : List AV} {cs : Nat × Nat} {Q : State → Prop} {idx : Nat} (lk : Cond.methodLink own idx Lib.Math.min.name ∈ U) (d : decode cc pc = .ok (.invokestatic idx, 3)) (hst : (st.map ct).sum + 13 ≤ rm.locals) (hfr : 1 ≤ rm.frames ∧ cs.1 ≤ rm.cells ∧ cs.2 ≤ rm.slots) (h : Ok κ own cc nL rm) {x y : Int} (hx0 : -2147483648 ≤ x ∧ x ≤ 2147483647) (hy0 : -2147483648 ≤ y ∧ y ≤ 2147483647) (k : E κ ad N ph M (pc + 3) ls (vi (min x y) :: st) cs Q) : E κ ad N ph M pc ls (vi y :: vi x :: st) cs Q := by
  obtain ⟨p, l, e, R, s, m, args, below, meth, c, D, cy, A⟩ := κ
  obtain ⟨hx, hb, hml, hown, hts, hnw, hlk, hK, hR⟩ := h
  intro h1 h2 H locs Ls hP hS hl
  subst hR
  have kk := k h1 h2 H locs Ls hP hS hl
  · refine va_mmin hx hb (by rw [hl.1]) hown (hts _ lk) (hts _ st_min) (hts _ iz_Math) (hts _ cd_min) hfr.1 (by rw [ct_sum]; exact hst) hfr.2.1 hfr.2.2 d ?_
    have e : (if Int32.ofInt y < Int32.ofInt x then Int32.ofInt y else Int32.ofInt x) = Int32.ofInt (min x y) := by
      by_cases z : y < x
      · rw [if_pos ((i_lt hy0 hx0).mpr z)]; congr 1; omega
      · rw [if_neg (fun q => z ((i_lt hy0 hx0).mp q))]; congr 1; omega
    rw [e]
    exact kk
end
section
def pT : Phs := fun _ _ => true
theorem pcr_d {p : Nat} (h : pcl p < 10) (j : Nat) : pcr p j = p + 1 + j := by
  unfold pcr
  generalize pcl p = c at h
  match c, h with
  | 0, _ => rfl
  | 1, _ => rfl
  | 2, _ => rfl
  | 3, _ => rfl
  | 4, _ => rfl
  | 5, _ => rfl
  | 6, _ => rfl
  | 7, _ => rfl
  | 8, _ => rfl
  | 9, _ => rfl
  | c + 10, h => exact absurd h (by omega)
theorem pcr_103 {p : Nat} (h : pcl p = 103) (j : Nat) : pcr p j = p + 1 + 4 * j := by
  unfold pcr
  rw [h]
  rfl
theorem pcr_104 {p : Nat} (h : pcl p = 104) (j : Nat) : pcr p j = p + 1 + 5 * j := by
  unfold pcr
  rw [h]
  rfl
/-! the shapes of objects of several -/
def IsC (o N : Nat) : Prop := o + 4 ≤ N ∧ pcl o = 1 ∧ pcl (o + 1) = 100 ∧ pcl (o + 2) = 100 ∧ pcl (o + 3) = 100 ∧ plen o = 0 ∧ plen (o + 1) = 61 ∧ plen (o + 2) = 61 ∧ plen (o + 3) = 61
theorem IsC.p0 {o N : Nat} (h : IsC o N) : o < N := by have := h.1; omega
theorem IsC.c0 {o N : Nat} (h : IsC o N) : pcl o = 1 := h.2.1
theorem IsC.l0 {o N : Nat} (h : IsC o N) : plen o = 0 := h.2.2.2.2.2.1
theorem IsC.p1 {o N : Nat} (h : IsC o N) : (o + 1) < N := by have := h.1; omega
theorem IsC.c1 {o N : Nat} (h : IsC o N) : pcl (o + 1) = 100 := h.2.2.1
theorem IsC.l1 {o N : Nat} (h : IsC o N) : plen (o + 1) = 61 := h.2.2.2.2.2.2.1
theorem IsC.p2 {o N : Nat} (h : IsC o N) : (o + 2) < N := by have := h.1; omega
theorem IsC.c2 {o N : Nat} (h : IsC o N) : pcl (o + 2) = 100 := h.2.2.2.1
theorem IsC.l2 {o N : Nat} (h : IsC o N) : plen (o + 2) = 61 := h.2.2.2.2.2.2.2.1
theorem IsC.p3 {o N : Nat} (h : IsC o N) : (o + 3) < N := by have := h.1; omega
theorem IsC.c3 {o N : Nat} (h : IsC o N) : pcl (o + 3) = 100 := h.2.2.2.2.1
theorem IsC.l3 {o N : Nat} (h : IsC o N) : plen (o + 3) = 61 := h.2.2.2.2.2.2.2.2
def IsO (o N : Nat) : Prop := o + 5 ≤ N ∧ pcl o = 5 ∧ pcl (o + 1) = 100 ∧ pcl (o + 2) = 100 ∧ pcl (o + 3) = 102 ∧ pcl (o + 4) = 100 ∧ plen o = 0 ∧ plen (o + 1) = 8 ∧ plen (o + 2) = 8 ∧ plen (o + 3) = 8 ∧ plen (o + 4) = 6
theorem IsO.p0 {o N : Nat} (h : IsO o N) : o < N := by have := h.1; omega
theorem IsO.c0 {o N : Nat} (h : IsO o N) : pcl o = 5 := h.2.1
theorem IsO.l0 {o N : Nat} (h : IsO o N) : plen o = 0 := h.2.2.2.2.2.2.1
theorem IsO.p1 {o N : Nat} (h : IsO o N) : (o + 1) < N := by have := h.1; omega
theorem IsO.c1 {o N : Nat} (h : IsO o N) : pcl (o + 1) = 100 := h.2.2.1
theorem IsO.l1 {o N : Nat} (h : IsO o N) : plen (o + 1) = 8 := h.2.2.2.2.2.2.2.1
theorem IsO.p2 {o N : Nat} (h : IsO o N) : (o + 2) < N := by have := h.1; omega
theorem IsO.c2 {o N : Nat} (h : IsO o N) : pcl (o + 2) = 100 := h.2.2.2.1
theorem IsO.l2 {o N : Nat} (h : IsO o N) : plen (o + 2) = 8 := h.2.2.2.2.2.2.2.2.1
theorem IsO.p3 {o N : Nat} (h : IsO o N) : (o + 3) < N := by have := h.1; omega
theorem IsO.c3 {o N : Nat} (h : IsO o N) : pcl (o + 3) = 102 := h.2.2.2.2.1
theorem IsO.l3 {o N : Nat} (h : IsO o N) : plen (o + 3) = 8 := h.2.2.2.2.2.2.2.2.2.1
theorem IsO.p4 {o N : Nat} (h : IsO o N) : (o + 4) < N := by have := h.1; omega
theorem IsO.c4 {o N : Nat} (h : IsO o N) : pcl (o + 4) = 100 := h.2.2.2.2.2.1
theorem IsO.l4 {o N : Nat} (h : IsO o N) : plen (o + 4) = 6 := h.2.2.2.2.2.2.2.2.2.2
def IsS (o N : Nat) : Prop := o + 14 ≤ N ∧ pcl o = 8 ∧ pcl (o + 1) = 100 ∧ pcl (o + 2) = 100 ∧ pcl (o + 3) = 100 ∧ pcl (o + 4) = 100 ∧ pcl (o + 5) = 100 ∧ pcl (o + 6) = 100 ∧ pcl (o + 7) = 100 ∧ pcl (o + 8) = 100 ∧ pcl (o + 9) = 5 ∧ pcl (o + 10) = 100 ∧ pcl (o + 11) = 100 ∧ pcl (o + 12) = 102 ∧ pcl (o + 13) = 100 ∧ plen o = 0 ∧ plen (o + 1) = 6 ∧ plen (o + 2) = 6 ∧ plen (o + 3) = 6 ∧ plen (o + 4) = 6 ∧ plen (o + 5) = 6 ∧ plen (o + 6) = 6 ∧ plen (o + 7) = 5 ∧ plen (o + 8) = 5 ∧ plen (o + 9) = 0 ∧ plen (o + 10) = 8 ∧ plen (o + 11) = 8 ∧ plen (o + 12) = 8 ∧ plen (o + 13) = 6
theorem IsS.p0 {o N : Nat} (h : IsS o N) : o < N := by have := h.1; omega
theorem IsS.c0 {o N : Nat} (h : IsS o N) : pcl o = 8 := h.2.1
theorem IsS.l0 {o N : Nat} (h : IsS o N) : plen o = 0 := h.2.2.2.2.2.2.2.2.2.2.2.2.2.2.2.1
theorem IsS.p1 {o N : Nat} (h : IsS o N) : (o + 1) < N := by have := h.1; omega
theorem IsS.c1 {o N : Nat} (h : IsS o N) : pcl (o + 1) = 100 := h.2.2.1
theorem IsS.l1 {o N : Nat} (h : IsS o N) : plen (o + 1) = 6 := h.2.2.2.2.2.2.2.2.2.2.2.2.2.2.2.2.1
theorem IsS.p2 {o N : Nat} (h : IsS o N) : (o + 2) < N := by have := h.1; omega
theorem IsS.c2 {o N : Nat} (h : IsS o N) : pcl (o + 2) = 100 := h.2.2.2.1
theorem IsS.l2 {o N : Nat} (h : IsS o N) : plen (o + 2) = 6 := h.2.2.2.2.2.2.2.2.2.2.2.2.2.2.2.2.2.1
theorem IsS.p3 {o N : Nat} (h : IsS o N) : (o + 3) < N := by have := h.1; omega
theorem IsS.c3 {o N : Nat} (h : IsS o N) : pcl (o + 3) = 100 := h.2.2.2.2.1
theorem IsS.l3 {o N : Nat} (h : IsS o N) : plen (o + 3) = 6 := h.2.2.2.2.2.2.2.2.2.2.2.2.2.2.2.2.2.2.1
theorem IsS.p4 {o N : Nat} (h : IsS o N) : (o + 4) < N := by have := h.1; omega
theorem IsS.c4 {o N : Nat} (h : IsS o N) : pcl (o + 4) = 100 := h.2.2.2.2.2.1
theorem IsS.l4 {o N : Nat} (h : IsS o N) : plen (o + 4) = 6 := h.2.2.2.2.2.2.2.2.2.2.2.2.2.2.2.2.2.2.2.1
theorem IsS.p5 {o N : Nat} (h : IsS o N) : (o + 5) < N := by have := h.1; omega
theorem IsS.c5 {o N : Nat} (h : IsS o N) : pcl (o + 5) = 100 := h.2.2.2.2.2.2.1
theorem IsS.l5 {o N : Nat} (h : IsS o N) : plen (o + 5) = 6 := h.2.2.2.2.2.2.2.2.2.2.2.2.2.2.2.2.2.2.2.2.1
theorem IsS.p6 {o N : Nat} (h : IsS o N) : (o + 6) < N := by have := h.1; omega
theorem IsS.c6 {o N : Nat} (h : IsS o N) : pcl (o + 6) = 100 := h.2.2.2.2.2.2.2.1
theorem IsS.l6 {o N : Nat} (h : IsS o N) : plen (o + 6) = 6 := h.2.2.2.2.2.2.2.2.2.2.2.2.2.2.2.2.2.2.2.2.2.1
theorem IsS.p7 {o N : Nat} (h : IsS o N) : (o + 7) < N := by have := h.1; omega
theorem IsS.c7 {o N : Nat} (h : IsS o N) : pcl (o + 7) = 100 := h.2.2.2.2.2.2.2.2.1
theorem IsS.l7 {o N : Nat} (h : IsS o N) : plen (o + 7) = 5 := h.2.2.2.2.2.2.2.2.2.2.2.2.2.2.2.2.2.2.2.2.2.2.1
theorem IsS.p8 {o N : Nat} (h : IsS o N) : (o + 8) < N := by have := h.1; omega
theorem IsS.c8 {o N : Nat} (h : IsS o N) : pcl (o + 8) = 100 := h.2.2.2.2.2.2.2.2.2.1
theorem IsS.l8 {o N : Nat} (h : IsS o N) : plen (o + 8) = 5 := h.2.2.2.2.2.2.2.2.2.2.2.2.2.2.2.2.2.2.2.2.2.2.2.1
theorem IsS.p9 {o N : Nat} (h : IsS o N) : (o + 9) < N := by have := h.1; omega
theorem IsS.c9 {o N : Nat} (h : IsS o N) : pcl (o + 9) = 5 := h.2.2.2.2.2.2.2.2.2.2.1
theorem IsS.l9 {o N : Nat} (h : IsS o N) : plen (o + 9) = 0 := h.2.2.2.2.2.2.2.2.2.2.2.2.2.2.2.2.2.2.2.2.2.2.2.2.1
theorem IsS.p10 {o N : Nat} (h : IsS o N) : (o + 10) < N := by have := h.1; omega
theorem IsS.c10 {o N : Nat} (h : IsS o N) : pcl (o + 10) = 100 := h.2.2.2.2.2.2.2.2.2.2.2.1
theorem IsS.l10 {o N : Nat} (h : IsS o N) : plen (o + 10) = 8 := h.2.2.2.2.2.2.2.2.2.2.2.2.2.2.2.2.2.2.2.2.2.2.2.2.2.1
theorem IsS.p11 {o N : Nat} (h : IsS o N) : (o + 11) < N := by have := h.1; omega
theorem IsS.c11 {o N : Nat} (h : IsS o N) : pcl (o + 11) = 100 := h.2.2.2.2.2.2.2.2.2.2.2.2.1
theorem IsS.l11 {o N : Nat} (h : IsS o N) : plen (o + 11) = 8 := h.2.2.2.2.2.2.2.2.2.2.2.2.2.2.2.2.2.2.2.2.2.2.2.2.2.2.1
theorem IsS.p12 {o N : Nat} (h : IsS o N) : (o + 12) < N := by have := h.1; omega
theorem IsS.c12 {o N : Nat} (h : IsS o N) : pcl (o + 12) = 102 := h.2.2.2.2.2.2.2.2.2.2.2.2.2.1
theorem IsS.l12 {o N : Nat} (h : IsS o N) : plen (o + 12) = 8 := h.2.2.2.2.2.2.2.2.2.2.2.2.2.2.2.2.2.2.2.2.2.2.2.2.2.2.2.1
theorem IsS.p13 {o N : Nat} (h : IsS o N) : (o + 13) < N := by have := h.1; omega
theorem IsS.c13 {o N : Nat} (h : IsS o N) : pcl (o + 13) = 100 := h.2.2.2.2.2.2.2.2.2.2.2.2.2.2.1
theorem IsS.l13 {o N : Nat} (h : IsS o N) : plen (o + 13) = 6 := h.2.2.2.2.2.2.2.2.2.2.2.2.2.2.2.2.2.2.2.2.2.2.2.2.2.2.2.2
theorem IsS.o {o N : Nat} (h : IsS o N) : IsO (o + 9) N := ⟨h.1, h.c9, h.c10, h.c11, h.c12, h.c13, h.l9, h.l10, h.l11, h.l12, h.l13⟩
theorem isC_fleet {N i : Nat} (hN : 110 ≤ N) (hi : i < 6) : IsC (7 + 4 * i) N := by
  unfold IsC
  match i, hi with
  | 0, _ => exact ⟨by omega, by decide, by decide, by decide, by decide, by decide, by decide, by decide, by decide⟩
  | 1, _ => exact ⟨by omega, by decide, by decide, by decide, by decide, by decide, by decide, by decide, by decide⟩
  | 2, _ => exact ⟨by omega, by decide, by decide, by decide, by decide, by decide, by decide, by decide, by decide⟩
  | 3, _ => exact ⟨by omega, by decide, by decide, by decide, by decide, by decide, by decide, by decide, by decide⟩
  | 4, _ => exact ⟨by omega, by decide, by decide, by decide, by decide, by decide, by decide, by decide, by decide⟩
  | 5, _ => exact ⟨by omega, by decide, by decide, by decide, by decide, by decide, by decide, by decide, by decide⟩
  | i + 6, h => exact absurd h (by omega)
theorem isC_year {N i : Nat} (hN : 110 ≤ N) (hi : i < 6) : IsC (33 + 4 * i) N := by
  unfold IsC
  match i, hi with
  | 0, _ => exact ⟨by omega, by decide, by decide, by decide, by decide, by decide, by decide, by decide, by decide⟩
  | 1, _ => exact ⟨by omega, by decide, by decide, by decide, by decide, by decide, by decide, by decide, by decide⟩
  | 2, _ => exact ⟨by omega, by decide, by decide, by decide, by decide, by decide, by decide, by decide, by decide⟩
  | 3, _ => exact ⟨by omega, by decide, by decide, by decide, by decide, by decide, by decide, by decide, by decide⟩
  | 4, _ => exact ⟨by omega, by decide, by decide, by decide, by decide, by decide, by decide, by decide, by decide⟩
  | 5, _ => exact ⟨by omega, by decide, by decide, by decide, by decide, by decide, by decide, by decide, by decide⟩
  | i + 6, h => exact absurd h (by omega)
theorem isC_trial {N : Nat} (hN : 110 ≤ N) : IsC 57 N := ⟨by omega, by decide, by decide, by decide, by decide, by decide, by decide, by decide, by decide⟩
theorem isS_a {N : Nat} (hN : 110 ≤ N) : IsS 82 N := by
  refine ⟨by omega, ?_⟩
  decide
theorem isS_b {N : Nat} (hN : 110 ≤ N) : IsS 96 N := by
  refine ⟨by omega, ?_⟩
  decide
theorem isO_k {N i : Nat} (hN : 110 ≤ N) (hi : i < 2) : IsO (72 + 5 * i) N := by
  unfold IsO
  match i, hi with
  | 0, _ => exact ⟨by omega, by decide, by decide, by decide, by decide, by decide, by decide, by decide, by decide, by decide, by decide⟩
  | 1, _ => exact ⟨by omega, by decide, by decide, by decide, by decide, by decide, by decide, by decide, by decide, by decide, by decide⟩
  | i + 2, h => exact absurd h (by omega)
/-- Java's remainder by a positive number -/
theorem tmod_cases (x d : Int) (hd : 0 < d) : (0 ≤ x ∧ x.tmod d = x % d) ∨ (x < 0 ∧ x.tmod d = -((-x) % d)) := by
  by_cases h : 0 ≤ x
  · exact Or.inl ⟨h, Int.tmod_eq_emod_of_nonneg h⟩
  · refine Or.inr ⟨by omega, ?_⟩
    have := Int.neg_tmod (-x) d
    rw [Int.neg_neg] at this
    rw [this, Int.tmod_eq_emod_of_nonneg (by omega)]

theorem e_tabV {κ : KT} {own : String} {cc : ByteArray} {nL : Nat} {rm : Room} {ad : Nat → Nat} {N : Nat} {ph : Phs} {M : Mem} {pc : Nat} {ls : List (Option AV)} {st : List AV} {cs : Nat × Nat} {Q : State → Prop} (h : Ok κ own cc nL rm) {dflt lo hi : Int} {offs : Array Int} {len : Nat} {x off : Int} {tgt : Nat} (d : decode cc pc = .ok (.tableswitch dflt lo hi offs, len)) {v : Int} (hx : x = v) (hv : -2147483648 ≤ v ∧ v ≤ 2147483647) (hr : lo ≤ v ∧ v ≤ hi) (ho : offs[(v - lo).toNat]? = some off) (ht : (pc : Int) + off = (tgt : Int)) (k : E κ ad N ph M tgt ls st cs Q) : E κ ad N ph M pc ls (vi x :: st) cs Q := by
  subst hx
  exact e_tabIn h d hv hr ho ht k
theorem e_lookV {κ : KT} {own : String} {cc : ByteArray} {nL : Nat} {rm : Room} {ad : Nat → Nat} {N : Nat} {ph : Phs} {M : Mem} {pc : Nat} {ls : List (Option AV)} {st : List AV} {cs : Nat × Nat} {Q : State → Prop} (h : Ok κ own cc nL rm) {dflt : Int} {ps : Array (Int × Int)} {len : Nat} {x off : Int} {tgt : Nat} (d : decode cc pc = .ok (.lookupswitch dflt ps, len)) {v : Int} (hx : x = v) (hv : -2147483648 ≤ v ∧ v ≤ 2147483647) (hp : (ps.toList.zip (ps.toList.drop 1)).all (fun (a, next) => a.1 < next.1) = true) (ho : Op.lookupswitch.offset ps.toList dflt v = off) (ht : (pc : Int) + off = (tgt : Int)) (k : E κ ad N ph M tgt ls st cs Q) : E κ ad N ph M pc ls (vi x :: st) cs Q := by
  subst hx
  exact e_lookup h d hv hp ho ht k
/-! HungInStorm: small functions -/
set_option maxRecDepth 100000 in
set_option maxHeartbeats 4000000 in
theorem c_isWithin {gg : GT} {ad : Nat → Nat} {N : Nat} {M : Mem} {Post : Option AV → Mem → Prop} {x a b : Int}   (hx : (-2147483648 ≤ x ∧ x ≤ 2147483647)) (ha0 : (-2147483648 ≤ a ∧ a ≤ 2147483647)) (hb0 : (-2147483648 ≤ b ∧ b ≤ 2147483647)) (kt : a ≤ x ∧ x ≤ b → Post (some (vi 1)) M) (kf : ¬ (a ≤ x ∧ x ≤ b) → Post (some (vi 0)) M) : Sp gg yX10_isWithin cX10_isWithin 3 (some .boolean) rmX10_isWithin [vi x, vi a, vi b] ad N pT M Post := by
  refine Sp.intro (ls := [some (vi x), some (vi a), some (vi b)]) (by decide +kernel) rfl (Nat.le_of_ble_eq_true rfl) fun κ hgg h hr ha => ?_
  have h : Ok κ RX10 cX10_isWithin 3 rmX10_isWithin := h
  subst hgg
  refine e_iload_n h dX10_isWithin_0 (pc := 0) rfl ?_
  refine e_iload_n h dX10_isWithin_1 (pc := 1) rfl ?_
  refine e_icmp_lt h (tgt := 14) dX10_isWithin_2 (pc := 2) (by decide) (by omega) (by omega) (fun hb2 => ?_) (fun hb2 => ?_)
  · refine e_iconst h dX10_isWithin_14 (pc := 14)  ?_
    refine e_zret h hr ha dX10_isWithin_15 (pc := 15) (by decide) ?_
    first | exact kt (by omega) | exact kf (by omega)
  · refine e_iload_n h dX10_isWithin_5 (pc := 5) rfl ?_
    refine e_iload_n h dX10_isWithin_6 (pc := 6) rfl ?_
    refine e_icmp_gt h (tgt := 14) dX10_isWithin_7 (pc := 7) (by decide) (by omega) (by omega) (fun hb7 => ?_) (fun hb7 => ?_)
    · refine e_iconst h dX10_isWithin_14 (pc := 14)  ?_
      refine e_zret h hr ha dX10_isWithin_15 (pc := 15) (by decide) ?_
      first | exact kt (by omega) | exact kf (by omega)
    · refine e_iconst h dX10_isWithin_10 (pc := 10)  ?_
      refine e_goto h dX10_isWithin_11 (pc := 11) (tgt := 15) (by decide) ?_
      refine e_zret h hr ha dX10_isWithin_15 (pc := 15) (by decide) ?_
      first | exact kt (by omega) | exact kf (by omega)
set_option maxRecDepth 100000 in
set_option maxHeartbeats 4000000 in
theorem c_isPlace {gg : GT} {ad : Nat → Nat} {N : Nat} {M : Mem} {Post : Option AV → Mem → Prop} {x : Int}   (hx : (-2147483648 ≤ x ∧ x ≤ 2147483647)) (kt : 0 ≤ x ∧ x ≤ 23 → Post (some (vi 1)) M) (kf : ¬ (0 ≤ x ∧ x ≤ 23) → Post (some (vi 0)) M) : Sp gg yX10_isPlace cX10_isPlace 1 (some .boolean) rmX10_isPlace [vi x] ad N pT M Post := by
  refine Sp.intro (ls := [some (vi x)]) (by decide +kernel) rfl (Nat.le_of_ble_eq_true rfl) fun κ hgg h hr ha => ?_
  have h : Ok κ RX10 cX10_isPlace 1 rmX10_isPlace := h
  subst hgg
  refine e_iload_n h dX10_isPlace_0 (pc := 0) rfl ?_
  refine e_iconst h dX10_isPlace_1 (pc := 1)  ?_
  refine e_bipush h dX10_isPlace_2 (pc := 2) (by decide +kernel) ?_
  refine e_callS3 lk_X10_121 ms_X10_isWithin dX10_isPlace_4 (pc := 4) (Nat.le_of_ble_eq_true rfl) (rmY := rmX10_isWithin) (by decide) h ?_
  refine c_isWithin hx (by decide) (by decide) (fun hw => ?_) (fun hw => ?_)
  · skip
    refine e_zret h hr ha dX10_isPlace_7 (pc := 7) (by decide) ?_
    first | exact kt (by omega) | exact kf (by omega)
  · skip
    refine e_zret h hr ha dX10_isPlace_7 (pc := 7) (by decide) ?_
    first | exact kt (by omega) | exact kf (by omega)
set_option maxRecDepth 100000 in
set_option maxHeartbeats 4000000 in
theorem c_round {gg : GT} {ad : Nat → Nat} {N : Nat} {M : Mem} {Post : Option AV → Mem → Prop} {x : Int}   (hx : (-2147483648 ≤ x ∧ x ≤ 2147483647)) (k : Post (some (vi (x % 24))) M) : Sp gg yX10_round cX10_round 2 (some .int) rmX10_round [vi x] ad N pT M Post := by
  refine Sp.intro (ls := [some (vi x), none]) (by decide +kernel) rfl (Nat.le_of_ble_eq_true rfl) fun κ hgg h hr ha => ?_
  have h : Ok κ RX10 cX10_round 2 rmX10_round := h
  subst hgg
  refine e_iload_n h dX10_round_0 (pc := 0) rfl ?_
  refine e_bipush h dX10_round_1 (pc := 1) (by decide +kernel) ?_
  refine e_irem h dX10_round_3 (pc := 3) (by omega) (by decide) ?_
  generalize hq : x.tmod 24 = q
  have hq2 := tmod_cases x 24 (by decide)
  rw [hq] at hq2
  refine e_istore1 h dX10_round_4 (pc := 4) (by decide) rfl ?_
  refine e_iload_n h dX10_round_5 (pc := 5) rfl ?_
  refine e_if_ge h (tgt := 16) dX10_round_6 (pc := 6) (by decide) (by omega) (fun hb6 => ?_) (fun hb6 => ?_)
  · refine e_iload_n h dX10_round_16 (pc := 16) rfl ?_
    refine e_iret h hr ha dX10_round_17 (pc := 17) ?_
    exact cast (by congr 3; omega) k
  · refine e_iload_n h dX10_round_9 (pc := 9) rfl ?_
    refine e_bipush h dX10_round_10 (pc := 10) (by decide +kernel) ?_
    refine e_iadd h dX10_round_12 (pc := 12)  ?_
    refine e_goto h dX10_round_13 (pc := 13) (tgt := 17) (by decide) ?_
    refine e_iret h hr ha dX10_round_17 (pc := 17) ?_
    exact cast (by congr 3; omega) k
end
section
/-! what a storm is, as numbers: S its levels, towns and lightnings, O its errands and gases -/
abbrev SD : Type := Nat → Nat → Nat
def sL (S : SD) : Nat := S 0 0
def sP (S : SD) (l : Nat) : Nat := S 1 l
def sW (S : SD) (l : Nat) : Nat := S 2 l
def sT (S : SD) : Nat := S 3 0
def sH (S : SD) (i : Nat) : Nat := S 4 i
def sF (S : SD) (i : Nat) : Nat := S 5 i
def sX (S : SD) (i : Nat) : Nat := S 6 i
def sK (S : SD) (i : Nat) : Nat := S 7 i
def sB (S : SD) : Nat := S 8 0
def sC (S : SD) (k : Nat) : Nat := S 9 k
def sD (S : SD) (k : Nat) : Nat := S 10 k
def oE (O : SD) : Nat := O 0 0
def oW (O : SD) (k : Nat) : Nat := O 1 k
def oD (O : SD) (k : Nat) : Nat := O 2 k
def oU (O : SD) (k : Nat) : Nat := O 3 k
def oG (O : SD) (i : Nat) : Nat := O 4 i
def WS (S : SD) : Prop := (1 ≤ sL S ∧ sL S ≤ 6) ∧ (1 ≤ sT S ∧ sT S ≤ 6) ∧ sB S ≤ 5 ∧ (∀ l, l < sL S → sP S l ≤ 23 ∧ sW S l ≤ 1) ∧ (∀ i, i < sT S → sH S i < sL S ∧ sF S i ≤ 23 ∧ 1 ≤ sX S i ∧ sX S i ≤ 9 ∧ sK S i ≤ 3) ∧ ∀ k, k < sB S → sC S k < sL S ∧ 1 ≤ sD S k ∧ sD S k ≤ 60
def WO (O : SD) (T : Nat) : Prop := oE O ≤ 8 ∧ (∀ k, k < oE O → oW O k < T ∧ 1 ≤ oD O k ∧ oD O k ≤ 60 ∧ oU O k ≤ 1) ∧ ∀ i, i < T → oG O i ≤ 60
/-- the component's storm at the place so -/
def SR (S : SD) (M : Mem) (so : Nat) : Prop := M so 9 = sL S ∧ M so 10 = sT S ∧ M so 11 = sB S ∧ (∀ l, l < sL S → M (so + 1) l = sP S l ∧ M (so + 2) l = sW S l) ∧ (∀ i, i < sT S → M (so + 3) i = sH S i ∧ M (so + 4) i = sF S i ∧ M (so + 5) i = sX S i ∧ M (so + 6) i = sK S i) ∧ ∀ k, k < sB S → M (so + 7) k = sC S k ∧ M (so + 8) k = sD S k
def OR (O : SD) (T : Nat) (M : Mem) (q q1 q2 q3 q4 : Nat) : Prop := M q 4 = oE O ∧ (∀ k, k < oE O → M q1 k = oW O k ∧ M q2 k = oD O k ∧ M q3 k = oU O k) ∧ ∀ i, i < T → M q4 i = oG O i
def SO (S O : SD) (M : Mem) (so : Nat) : Prop := SR S M so ∧ OR O (sT S) M (so + 9) (so + 10) (so + 11) (so + 12) (so + 13)
theorem SR.to {S : SD} {M M' : Mem} {so : Nat} (h : SR S M so) (hM : ∀ p, so ≤ p → p < so + 9 → M' p = M p) : SR S M' so := by
  obtain ⟨a, b, c, d, e, f⟩ := h
  have h0 := hM so (by omega) (by omega)
  have h1 := hM (so + 1) (by omega) (by omega)
  have h2 := hM (so + 2) (by omega) (by omega)
  have h3 := hM (so + 3) (by omega) (by omega)
  have h4 := hM (so + 4) (by omega) (by omega)
  have h5 := hM (so + 5) (by omega) (by omega)
  have h6 := hM (so + 6) (by omega) (by omega)
  have h7 := hM (so + 7) (by omega) (by omega)
  have h8 := hM (so + 8) (by omega) (by omega)
  exact ⟨by rw [h0]; exact a, by rw [h0]; exact b, by rw [h0]; exact c, by rw [h1, h2]; exact d, by rw [h3, h4, h5, h6]; exact e, by rw [h7, h8]; exact f⟩
theorem OR.to {O : SD} {T : Nat} {M M' : Mem} {q q1 q2 q3 q4 : Nat} (h : OR O T M q q1 q2 q3 q4) (h0 : M' q = M q) (h1 : M' q1 = M q1) (h2 : M' q2 = M q2) (h3 : M' q3 = M q3) (h4 : M' q4 = M q4) : OR O T M' q q1 q2 q3 q4 := by
  unfold OR
  rw [h0, h1, h2, h3, h4]
  exact h
theorem SO.to {S O : SD} {M M' : Mem} {so : Nat} (h : SO S O M so) (hM : ∀ p, so ≤ p → p < so + 14 → M' p = M p) : SO S O M' so :=
  ⟨h.1.to (fun p a b => hM p a (by omega)), h.2.to (hM _ (by omega) (by omega)) (hM _ (by omega) (by omega)) (hM _ (by omega) (by omega)) (hM _ (by omega) (by omega)) (hM _ (by omega) (by omega))⟩
/-! a town's course -/
def hitN (S : SD) (l d : Nat) : Nat → Bool
  | 0 => false
  | k + 1 => hitN S l d k || (sC S k == l && sD S k == d)
def hit (S : SD) (l d : Nat) : Bool := hitN S l d (sB S)
theorem hitN_mono {S : SD} {l d : Nat} : ∀ (n k : Nat), hitN S l d k = true → hitN S l d (k + n) = true
  | 0, k, h => h
  | n + 1, k, h => by
    show (hitN S l d (k + n) || _) = true
    rw [hitN_mono n k h]
    rfl
theorem hit_of {S : SD} {l d k : Nat} (hk : k < sB S) (h1 : sC S k = l) (h2 : sD S k = d) : hit S l d = true := by
  have : hitN S l d (k + 1) = true := by
    show (hitN S l d k || (sC S k == l && sD S k == d)) = true
    rw [h1, h2]
    simp
  have h3 := hitN_mono (sB S - (k + 1)) (k + 1) this
  rw [show k + 1 + (sB S - (k + 1)) = sB S by omega] at h3
  exact h3
theorem hitN_no {S : SD} {l d k : Nat} (h : hitN S l d k = false) (h1 : ¬ (sC S k = l ∧ sD S k = d)) : hitN S l d (k + 1) = false := by
  show (hitN S l d k || (sC S k == l && sD S k == d)) = false
  rw [h]
  simp
  intro a b
  exact h1 ⟨a, b⟩
def loss (S : SD) (i l d : Nat) : Nat := match sK S i with
  | 1 => 2
  | 2 => 1 - sW S l
  | 3 => 1 - d % 2
  | _ => 1
def gasL (S : SD) (i l d g : Nat) : Nat := (if hit S l d = true then g / 2 else g) - loss S i l d
/-- the first k errands of a day, for one town: level and gas -/
def er (S O : SD) (i d : Nat) : Nat → Nat × Nat → Nat × Nat
  | 0, c => c
  | k + 1, c => if oW O k = i ∧ oD O k = d then (if oU O k = 0 then ((er S O i d k c).1 - 1, (er S O i d k c).2) else if (er S O i d k c).1 + 1 < sL S ∧ sX S i ≤ (er S O i d k c).2 then ((er S O i d k c).1 + 1, (er S O i d k c).2 - sX S i) else er S O i d k c) else er S O i d k c
theorem er_wf {S O : SD} {i d : Nat} {c : Nat × Nat} (hc : c.1 < sL S) : ∀ k, (er S O i d k c).1 < sL S ∧ (er S O i d k c).2 ≤ c.2
  | 0 => ⟨hc, Nat.le_refl _⟩
  | k + 1 => by
    have ih := er_wf (O := O) (i := i) (d := d) hc k
    unfold er
    split
    · split
      · exact ⟨by show _ - 1 < _; omega, ih.2⟩
      · split
        · rename_i h; exact ⟨h.1, by show _ - _ ≤ _; omega⟩
        · exact ih
    · exact ih
def sink (e : Nat × Nat) : Nat := if 0 < e.2 then e.1 else if 0 < e.1 then e.1 - 1 else 9
/-- level, place, gas -/
def stepC (S O : SD) (i d : Nat) (c : Nat × Nat × Nat) : Nat × Nat × Nat := if c.1 = 9 then c else if sink (er S O i d (oE O) (c.1, c.2.2)) = 9 then (9, c.2.1, (er S O i d (oE O) (c.1, c.2.2)).2) else (sink (er S O i d (oE O) (c.1, c.2.2)), (c.2.1 + sP S (sink (er S O i d (oE O) (c.1, c.2.2)))) % 24, gasL S i (sink (er S O i d (oE O) (c.1, c.2.2))) d (er S O i d (oE O) (c.1, c.2.2)).2)
def crs (S O : SD) (i l0 x0 : Nat) : Nat → Nat × Nat × Nat
  | 0 => (l0, x0, oG O i)
  | d + 1 => stepC S O i (d + 1) (crs S O i l0 x0 d)
def lst (S O : SD) (i l0 x0 : Nat) : Nat → Int
  | 0 => -4
  | d + 1 => if (crs S O i l0 x0 d).1 ≠ 9 ∧ (crs S O i l0 x0 (d + 1)).1 = 9 then ((d + 1 : Nat) : Int) else lst S O i l0 x0 d
theorem sink_wf {S : SD} {e : Nat × Nat} (h : e.1 < sL S) : sink e < sL S ∨ sink e = 9 := by
  unfold sink
  split
  · exact Or.inl h
  · split
    · exact Or.inl (by omega)
    · exact Or.inr rfl
theorem loss_le {S : SD} {i l d : Nat} : loss S i l d ≤ 2 := by
  unfold loss
  split <;> omega
theorem gasL_le {S : SD} {i l d g : Nat} : gasL S i l d g ≤ g := by
  unfold gasL
  split <;> omega
theorem step_wf {S O : SD} {i d : Nat} {c : Nat × Nat × Nat} (h : (c.1 < sL S ∨ c.1 = 9) ∧ c.2.1 ≤ 23 ∧ c.2.2 ≤ 60) : ((stepC S O i d c).1 < sL S ∨ (stepC S O i d c).1 = 9) ∧ (stepC S O i d c).2.1 ≤ 23 ∧ (stepC S O i d c).2.2 ≤ 60 := by
  unfold stepC
  by_cases h9 : c.1 = 9
  · rw [if_pos h9]; exact h
  · rw [if_neg h9]
    have hw := er_wf (S := S) (O := O) (i := i) (d := d) (c := (c.1, c.2.2)) (by rcases h.1 with q | q; exact q; exact absurd q h9) (oE O)
    have hs := sink_wf hw.1
    have h2 : (er S O i d (oE O) (c.1, c.2.2)).2 ≤ c.2.2 := hw.2
    by_cases hk : sink (er S O i d (oE O) (c.1, c.2.2)) = 9
    · rw [if_pos hk]; exact ⟨Or.inr rfl, h.2.1, Nat.le_trans h2 h.2.2⟩
    · rw [if_neg hk]
      refine ⟨hs, by show _ % 24 ≤ 23; omega, ?_⟩
      show gasL _ _ _ _ _ ≤ 60
      exact Nat.le_trans gasL_le (by omega)
theorem crs_wf {S O : SD} {i l0 x0 : Nat} (h0 : l0 < sL S) (hx : x0 ≤ 23) (hg : oG O i ≤ 60) : ∀ d, ((crs S O i l0 x0 d).1 < sL S ∨ (crs S O i l0 x0 d).1 = 9) ∧ (crs S O i l0 x0 d).2.1 ≤ 23 ∧ (crs S O i l0 x0 d).2.2 ≤ 60
  | 0 => ⟨Or.inl h0, hx, hg⟩
  | d + 1 => step_wf (crs_wf h0 hx hg d)
end
section
theorem er_no {S O : SD} {i d k : Nat} {c : Nat × Nat} (h : ¬ (oW O k = i ∧ oD O k = d)) : er S O i d (k + 1) c = er S O i d k c := by
  show (if _ then _ else _) = _
  rw [if_neg h]
theorem er_down {S O : SD} {i d k : Nat} {c : Nat × Nat} (h : oW O k = i ∧ oD O k = d) (h2 : oU O k = 0) : er S O i d (k + 1) c = ((er S O i d k c).1 - 1, (er S O i d k c).2) := by
  show (if _ then _ else _) = _
  rw [if_pos h, if_pos h2]
theorem er_up {S O : SD} {i d k : Nat} {c : Nat × Nat} (h : oW O k = i ∧ oD O k = d) (h2 : ¬ oU O k = 0) (h3 : (er S O i d k c).1 + 1 < sL S ∧ sX S i ≤ (er S O i d k c).2) : er S O i d (k + 1) c = ((er S O i d k c).1 + 1, (er S O i d k c).2 - sX S i) := by
  show (if _ then _ else _) = _
  rw [if_pos h, if_neg h2, if_pos h3]
theorem er_stay {S O : SD} {i d k : Nat} {c : Nat × Nat} (h : oW O k = i ∧ oD O k = d) (h2 : ¬ oU O k = 0) (h3 : ¬ ((er S O i d k c).1 + 1 < sL S ∧ sX S i ≤ (er S O i d k c).2)) : er S O i d (k + 1) c = er S O i d k c := by
  show (if _ then _ else _) = _
  rw [if_pos h, if_neg h2, if_neg h3]
set_option maxRecDepth 100000 in
set_option maxHeartbeats 4000000 in
theorem c_isStruck {gg : GT} {ad : Nat → Nat} {N : Nat} {M : Mem} {Post : Option AV → Mem → Prop} {S : SD} {so l d : Nat}  {xl : Int} (hxl : xl = (l : Int)) {xd : Int} (hxd : xd = (d : Int))  (hs : IsS so N) (hS : SR S M so) (hb : sB S ≤ 5) (hl : l ≤ 9) (hd : d ≤ 60) (hcd : ∀ k, k < sB S → sC S k ≤ 9 ∧ sD S k ≤ 60) (kt : hit S l d = true → Post (some (vi 1)) M) (kf : hit S l d = false → Post (some (vi 0)) M) : Sp gg yX8_isStruck cX8_isStruck 4 (some .boolean) rmX8_isStruck [vr so, vi xl, vi xd] ad N pT M Post := by
  refine Sp.intro (ls := [some (vr so), some (vi xl), some (vi xd), none]) (by decide +kernel) rfl (Nat.le_of_ble_eq_true rfl) fun κ hgg h hr ha => ?_
  have h : Ok κ RX8 cX8_isStruck 4 rmX8_isStruck := h
  subst hgg
  subst hxl
  subst hxd
  obtain ⟨r1, r2, r3, r4, r5, r6⟩ := hS
  have loop : ∀ (n k : Nat), k ≤ sB S → sB S < k + n → hitN S l d k = false → E κ ad N pT M 2 [some (vr so), some (vi (l : Int)), some (vi (d : Int)), some (vi (k : Int))] [] (0, 0) (QR κ ad N pT Post) := by
    intro n
    induction n with
    | zero => intro k h1 h2; exact absurd h2 (by omega)
    | succ n ih =>
      intro k hk hn hin
      refine e_iload_n h dX8_isStruck_2 (pc := 2) rfl ?_
      refine e_aload_n h dX8_isStruck_3 (pc := 3) rfl ?_
      refine e_getI h fl_X8_50 dX8_isStruck_4 (pc := 4) hs.c0 hs.p0 (by decide) ?_
      refine e_icmp_ge h (tgt := 38) dX8_isStruck_7 (pc := 7) (by decide) (by omega) (by omega) (fun hb7 => ?_) (fun hb7 => ?_)
      · refine e_iconst h dX8_isStruck_38 (pc := 38)  ?_
        refine e_zret h hr ha dX8_isStruck_39 (pc := 39) (by decide) ?_
        exact kf (by rw [← hin]; unfold hit; congr 1; omega)
      · have f6 := r6 k (by omega)
        have f7 := hcd k (by omega)
        refine e_aload_n h dX8_isStruck_10 (pc := 10) rfl ?_
        refine e_getC h fl_X8_30 dX8_isStruck_11 (pc := 11) hs.c0 hs.p0 rfl rfl (r := (so + 7)) (pcr_d (by rw [hs.c0]; decide) 6) ?_
        refine e_iload_n h dX8_isStruck_14 (pc := 14) rfl ?_
        refine e_iald h dX8_isStruck_15 (pc := 15) hs.c7 hs.p7 rfl (by rw [hs.l7]; omega) ?_
        refine e_iload_n h dX8_isStruck_16 (pc := 16) rfl ?_
        refine e_icmp_ne h (tgt := 32) dX8_isStruck_17 (pc := 17) (by decide) (by omega) (by omega) (fun hb17 => ?_) (fun hb17 => ?_)
        · refine e_iinc3 h dX8_isStruck_32 (pc := 32) (by decide) rfl ?_
          refine e_goto h dX8_isStruck_35 (pc := 35) (tgt := 2) (by decide) ?_
          rw [show (k : Int) + 1 = ((k + 1 : Nat) : Int) by omega]
          exact ih (k + 1) (by omega) (by omega) (hitN_no hin (by omega))
        · refine e_aload_n h dX8_isStruck_20 (pc := 20) rfl ?_
          refine e_getC h fl_X8_33 dX8_isStruck_21 (pc := 21) hs.c0 hs.p0 rfl rfl (r := (so + 8)) (pcr_d (by rw [hs.c0]; decide) 7) ?_
          refine e_iload_n h dX8_isStruck_24 (pc := 24) rfl ?_
          refine e_iald h dX8_isStruck_25 (pc := 25) hs.c8 hs.p8 rfl (by rw [hs.l8]; omega) ?_
          refine e_iload_n h dX8_isStruck_26 (pc := 26) rfl ?_
          refine e_icmp_ne h (tgt := 32) dX8_isStruck_27 (pc := 27) (by decide) (by omega) (by omega) (fun hb27 => ?_) (fun hb27 => ?_)
          · refine e_iinc3 h dX8_isStruck_32 (pc := 32) (by decide) rfl ?_
            refine e_goto h dX8_isStruck_35 (pc := 35) (tgt := 2) (by decide) ?_
            rw [show (k : Int) + 1 = ((k + 1 : Nat) : Int) by omega]
            exact ih (k + 1) (by omega) (by omega) (hitN_no hin (by omega))
          · refine e_iconst h dX8_isStruck_30 (pc := 30)  ?_
            refine e_zret h hr ha dX8_isStruck_31 (pc := 31) (by decide) ?_
            exact kt (hit_of (k := k) (by omega) (by omega) (by omega))
  refine e_iconst h dX8_isStruck_0 (pc := 0)  ?_
  refine e_istore3 h dX8_isStruck_1 (pc := 1) (by decide) rfl ?_
  exact loop (sB S + 1) 0 (by omega) (by omega) rfl
set_option maxRecDepth 100000 in
set_option maxHeartbeats 4000000 in
theorem c_dailyLoss {gg : GT} {ad : Nat → Nat} {N : Nat} {M : Mem} {Post : Option AV → Mem → Prop} {S : SD} {so i l d : Nat}  {xi : Int} (hxi : xi = (i : Int)) {xl : Int} (hxl : xl = (l : Int)) {xd : Int} (hxd : xd = (d : Int))  (hs : IsS so N) (hi : i < 6) (hi2 : M (so + 6) i = sK S i) (hk : sK S i ≤ 3) (hl : l < 6) (hl2 : M (so + 2) l = sW S l) (hw : sW S l ≤ 1) (hd : d ≤ 60) (k : Post (some (vi (loss S i l d : Int))) M) : Sp gg yX8_dailyLoss cX8_dailyLoss 4 (some .int) rmX8_dailyLoss [vr so, vi xi, vi xl, vi xd] ad N pT M Post := by
  refine Sp.intro (ls := [some (vr so), some (vi xi), some (vi xl), some (vi xd)]) (by decide +kernel) rfl (Nat.le_of_ble_eq_true rfl) fun κ hgg h hr ha => ?_
  have h : Ok κ RX8 cX8_dailyLoss 4 rmX8_dailyLoss := h
  subst hgg
  subst hxi
  subst hxl
  subst hxd
  refine e_aload_n h dX8_dailyLoss_0 (pc := 0) rfl ?_
  refine e_getC h fl_X8_27 dX8_dailyLoss_1 (pc := 1) hs.c0 hs.p0 rfl rfl (r := (so + 6)) (pcr_d (by rw [hs.c0]; decide) 5) ?_
  refine e_iload_n h dX8_dailyLoss_4 (pc := 4) rfl ?_
  refine e_iald h dX8_dailyLoss_5 (pc := 5) hs.c6 hs.p6 (j := i) (by omega) (by rw [hs.l6]; omega) ?_
  rcases (show sK S i = 1 ∨ sK S i = 2 ∨ sK S i = 3 ∨ sK S i = 0 by omega) with hq | hq | hq | hq
  · refine e_tabV h dX8_dailyLoss_6 (pc := 6) (v := 1) (by omega) (by decide) (by decide) (off := 26) (by decide +kernel) (tgt := 32) (by decide) ?_
    refine e_iconst h dX8_dailyLoss_32 (pc := 32)  ?_
    refine e_iret h hr ha dX8_dailyLoss_33 (pc := 33) ?_
    exact cast (by congr 3; unfold loss; rw [hq]; first | omega | (simp only []; omega)) k
  · refine e_tabV h dX8_dailyLoss_6 (pc := 6) (v := 2) (by omega) (by decide) (by decide) (off := 28) (by decide +kernel) (tgt := 34) (by decide) ?_
    refine e_aload_n h dX8_dailyLoss_34 (pc := 34) rfl ?_
    refine e_getC h fl_X8_15 dX8_dailyLoss_35 (pc := 35) hs.c0 hs.p0 rfl rfl (r := (so + 2)) (pcr_d (by rw [hs.c0]; decide) 1) ?_
    refine e_iload_n h dX8_dailyLoss_38 (pc := 38) rfl ?_
    refine e_iald h dX8_dailyLoss_39 (pc := 39) hs.c2 hs.p2 rfl (by rw [hs.l2]; omega) ?_
    refine e_iconst h dX8_dailyLoss_40 (pc := 40)  ?_
    refine e_icmp_ne h (tgt := 48) dX8_dailyLoss_41 (pc := 41) (by decide) (by omega) (by decide) (fun hb41 => ?_) (fun hb41 => ?_)
    · refine e_iconst h dX8_dailyLoss_48 (pc := 48)  ?_
      refine e_iret h hr ha dX8_dailyLoss_49 (pc := 49) ?_
      exact cast (by congr 3; unfold loss; rw [hq]; first | omega | (simp only []; omega)) k
    · refine e_iconst h dX8_dailyLoss_44 (pc := 44)  ?_
      refine e_goto h dX8_dailyLoss_45 (pc := 45) (tgt := 49) (by decide) ?_
      refine e_iret h hr ha dX8_dailyLoss_49 (pc := 49) ?_
      exact cast (by congr 3; unfold loss; rw [hq]; first | omega | (simp only []; omega)) k
  · refine e_tabV h dX8_dailyLoss_6 (pc := 6) (v := 3) (by omega) (by decide) (by decide) (off := 44) (by decide +kernel) (tgt := 50) (by decide) ?_
    refine e_iload_n h dX8_dailyLoss_50 (pc := 50) rfl ?_
    refine e_iconst h dX8_dailyLoss_51 (pc := 51)  ?_
    refine e_irem h dX8_dailyLoss_52 (pc := 52) (by omega) (by decide) ?_
    generalize hqq : ((d : Int)).tmod 2 = q
    have hq2 := tmod_cases (d : Int) 2 (by decide)
    rw [hqq] at hq2
    refine e_if_ne h (tgt := 60) dX8_dailyLoss_53 (pc := 53) (by decide) (by omega) (fun hb53 => ?_) (fun hb53 => ?_)
    · refine e_iconst h dX8_dailyLoss_60 (pc := 60)  ?_
      refine e_iret h hr ha dX8_dailyLoss_61 (pc := 61) ?_
      exact cast (by congr 3; unfold loss; rw [hq]; first | omega | (simp only []; omega)) k
    · refine e_iconst h dX8_dailyLoss_56 (pc := 56)  ?_
      refine e_goto h dX8_dailyLoss_57 (pc := 57) (tgt := 61) (by decide) ?_
      refine e_iret h hr ha dX8_dailyLoss_61 (pc := 61) ?_
      exact cast (by congr 3; unfold loss; rw [hq]; first | omega | (simp only []; omega)) k
  · refine e_tabOut h dX8_dailyLoss_6 (pc := 6) (by omega) (by omega) (tgt := 62) (by decide) ?_
    refine e_iconst h dX8_dailyLoss_62 (pc := 62)  ?_
    refine e_iret h hr ha dX8_dailyLoss_63 (pc := 63) ?_
    exact cast (by congr 3; unfold loss; rw [hq]; first | omega | (simp only []; omega)) k
set_option maxRecDepth 100000 in
set_option maxHeartbeats 4000000 in
theorem c_note {gg : GT} {ad : Nat → Nat} {N : Nat} {M : Mem} {Post : Option AV → Mem → Prop} {o d : Nat}  {xd : Int} (hxd : xd = (d : Int))  (ho : IsC o N) (hd : d ≤ 60) (k : Post none (up (up (up M (o + 1) d (M o 4)) (o + 2) d (M o 5)) (o + 3) d (M o 6))) : Sp gg yX1_note cX1_note 2 none rmX1_note [vr o, vi xd] ad N pT M Post := by
  refine Sp.intro (ls := [some (vr o), some (vi xd)]) (by decide +kernel) rfl (Nat.le_of_ble_eq_true rfl) fun κ hgg h hr ha => ?_
  have h : Ok κ RX1 cX1_note 2 rmX1_note := h
  subst hgg
  subst hxd
  refine e_aload_n h dX1_note_0 (pc := 0) rfl ?_
  refine e_getC h fl_X1_9 dX1_note_1 (pc := 1) ho.c0 ho.p0 rfl rfl (r := (o + 1)) (pcr_d (by rw [ho.c0]; decide) 0) ?_
  refine e_iload_n h dX1_note_4 (pc := 4) rfl ?_
  refine e_aload_n h dX1_note_5 (pc := 5) rfl ?_
  refine e_getI h fl_X1_25 dX1_note_6 (pc := 6) ho.c0 ho.p0 (by decide) ?_
  refine e_iast h dX1_note_9 (pc := 9) ho.c1 ho.p1 rfl (by rw [ho.l1]; omega) ?_
  refine e_aload_n h dX1_note_10 (pc := 10) rfl ?_
  refine e_getC h fl_X1_15 dX1_note_11 (pc := 11) ho.c0 ho.p0 rfl rfl (r := (o + 2)) (pcr_d (by rw [ho.c0]; decide) 1) ?_
  refine e_iload_n h dX1_note_14 (pc := 14) rfl ?_
  refine e_aload_n h dX1_note_15 (pc := 15) rfl ?_
  refine e_getI h fl_X1_28 dX1_note_16 (pc := 16) ho.c0 ho.p0 (by decide) ?_
  try simp (disch := omega) only [up_eq, up_ne]
  refine e_iast h dX1_note_19 (pc := 19) ho.c2 ho.p2 rfl (by rw [ho.l2]; omega) ?_
  refine e_aload_n h dX1_note_20 (pc := 20) rfl ?_
  refine e_getC h fl_X1_18 dX1_note_21 (pc := 21) ho.c0 ho.p0 rfl rfl (r := (o + 3)) (pcr_d (by rw [ho.c0]; decide) 2) ?_
  refine e_iload_n h dX1_note_24 (pc := 24) rfl ?_
  refine e_aload_n h dX1_note_25 (pc := 25) rfl ?_
  refine e_getI h fl_X1_40 dX1_note_26 (pc := 26) ho.c0 ho.p0 (by decide) ?_
  try simp (disch := omega) only [up_eq, up_ne]
  refine e_iast h dX1_note_29 (pc := 29) ho.c3 ho.p3 rfl (by rw [ho.l3]; omega) ?_
  refine e_vret h hr ha dX1_note_30 (pc := 30) ?_
  exact k
set_option maxRecDepth 100000 in
set_option maxHeartbeats 4000000 in
theorem c_floats {gg : GT} {ad : Nat → Nat} {N : Nat} {M : Mem} {Post : Option AV → Mem → Prop} {o d : Nat}  {xd : Int} (hxd : xd = (d : Int))  (ho : IsC o N) (hd : d ≤ 60) (hr0 : (-2147483648 ≤ M (o + 1) d ∧ M (o + 1) d ≤ 2147483647)) (kt : M (o + 1) d ≠ 9 → Post (some (vi 1)) M) (kf : M (o + 1) d = 9 → Post (some (vi 0)) M) : Sp gg yX1_floats cX1_floats 2 (some .boolean) rmX1_floats [vr o, vi xd] ad N pT M Post := by
  refine Sp.intro (ls := [some (vr o), some (vi xd)]) (by decide +kernel) rfl (Nat.le_of_ble_eq_true rfl) fun κ hgg h hr ha => ?_
  have h : Ok κ RX1 cX1_floats 2 rmX1_floats := h
  subst hgg
  subst hxd
  refine e_aload_n h dX1_floats_0 (pc := 0) rfl ?_
  refine e_getC h fl_X1_9 dX1_floats_1 (pc := 1) ho.c0 ho.p0 rfl rfl (r := (o + 1)) (pcr_d (by rw [ho.c0]; decide) 0) ?_
  refine e_iload_n h dX1_floats_4 (pc := 4) rfl ?_
  refine e_iald h dX1_floats_5 (pc := 5) ho.c1 ho.p1 rfl (by rw [ho.l1]; omega) ?_
  refine e_bipush h dX1_floats_6 (pc := 6) (by decide +kernel) ?_
  refine e_icmp_eq h (tgt := 15) dX1_floats_8 (pc := 8) (by decide) (by omega) (by decide) (fun hb8 => ?_) (fun hb8 => ?_)
  · refine e_iconst h dX1_floats_15 (pc := 15)  ?_
    refine e_zret h hr ha dX1_floats_16 (pc := 16) (by decide) ?_
    first | exact kt (by omega) | exact kf (by omega)
  · refine e_iconst h dX1_floats_11 (pc := 11)  ?_
    refine e_goto h dX1_floats_12 (pc := 12) (tgt := 16) (by decide) ?_
    refine e_zret h hr ha dX1_floats_16 (pc := 16) (by decide) ?_
    first | exact kt (by omega) | exact kf (by omega)
set_option maxRecDepth 100000 in
set_option maxHeartbeats 4000000 in
theorem c_meets {gg : GT} {ad : Nat → Nat} {N : Nat} {M : Mem} {Post : Option AV → Mem → Prop} {o o2 d : Nat}  {xd : Int} (hxd : xd = (d : Int))  (ho : IsC o N) (ho2 : IsC o2 N) (hd : d ≤ 60) (h1 : (-2147483648 ≤ M (o + 1) d ∧ M (o + 1) d ≤ 2147483647)) (h2 : (-2147483648 ≤ M (o2 + 1) d ∧ M (o2 + 1) d ≤ 2147483647)) (h3 : (-2147483648 ≤ M (o + 2) d ∧ M (o + 2) d ≤ 2147483647)) (h4 : (-2147483648 ≤ M (o2 + 2) d ∧ M (o2 + 2) d ≤ 2147483647)) (kt : M (o + 1) d ≠ 9 → M (o + 1) d = M (o2 + 1) d → M (o + 2) d = M (o2 + 2) d → Post (some (vi 1)) M) (kf : ¬ (M (o + 1) d ≠ 9 ∧ M (o + 1) d = M (o2 + 1) d ∧ M (o + 2) d = M (o2 + 2) d) → Post (some (vi 0)) M) : Sp gg yX1_meets cX1_meets 3 (some .boolean) rmX1_meets [vr o, vr o2, vi xd] ad N pT M Post := by
  refine Sp.intro (ls := [some (vr o), some (vr o2), some (vi xd)]) (by decide +kernel) rfl (Nat.le_of_ble_eq_true rfl) fun κ hgg h hr ha => ?_
  have h : Ok κ RX1 cX1_meets 3 rmX1_meets := h
  subst hgg
  subst hxd
  refine e_aload_n h dX1_meets_0 (pc := 0) rfl ?_
  refine e_iload_n h dX1_meets_1 (pc := 1) rfl ?_
  refine e_callV1 lk_X1_97 mv_X1_floats dX1_meets_2 (pc := 2) (by rw [ho.c0]; rfl) (by rw [ho.c0]; decide) ho.p0 (Nat.le_of_ble_eq_true rfl) (rmY := rmX1_floats) (by decide) h ?_
  refine c_floats rfl ho hd h1 (fun hw => ?_) (fun hw => ?_)
  · skip
    refine e_if_eq h (tgt := 42) dX1_meets_5 (pc := 5) (by decide) (by decide) (fun hz => absurd hz (by decide)) (fun _ => ?_)
    refine e_aload_n h dX1_meets_8 (pc := 8) rfl ?_
    refine e_getC h fl_X1_9 dX1_meets_9 (pc := 9) ho.c0 ho.p0 rfl rfl (r := (o + 1)) (pcr_d (by rw [ho.c0]; decide) 0) ?_
    refine e_iload_n h dX1_meets_12 (pc := 12) rfl ?_
    refine e_iald h dX1_meets_13 (pc := 13) ho.c1 ho.p1 rfl (by rw [ho.l1]; omega) ?_
    refine e_aload_n h dX1_meets_14 (pc := 14) rfl ?_
    refine e_getC h fl_X1_9 dX1_meets_15 (pc := 15) ho2.c0 ho2.p0 rfl rfl (r := (o2 + 1)) (pcr_d (by rw [ho2.c0]; decide) 0) ?_
    refine e_iload_n h dX1_meets_18 (pc := 18) rfl ?_
    refine e_iald h dX1_meets_19 (pc := 19) ho2.c1 ho2.p1 rfl (by rw [ho2.l1]; omega) ?_
    refine e_icmp_ne h (tgt := 42) dX1_meets_20 (pc := 20) (by decide) (by omega) (by omega) (fun hb20 => ?_) (fun hb20 => ?_)
    · refine e_iconst h dX1_meets_42 (pc := 42)  ?_
      refine e_zret h hr ha dX1_meets_43 (pc := 43) (by decide) ?_
      first | exact kt (by omega) (by omega) (by omega) | exact kf (by omega)
    · refine e_aload_n h dX1_meets_23 (pc := 23) rfl ?_
      refine e_getC h fl_X1_15 dX1_meets_24 (pc := 24) ho.c0 ho.p0 rfl rfl (r := (o + 2)) (pcr_d (by rw [ho.c0]; decide) 1) ?_
      refine e_iload_n h dX1_meets_27 (pc := 27) rfl ?_
      refine e_iald h dX1_meets_28 (pc := 28) ho.c2 ho.p2 rfl (by rw [ho.l2]; omega) ?_
      refine e_aload_n h dX1_meets_29 (pc := 29) rfl ?_
      refine e_getC h fl_X1_15 dX1_meets_30 (pc := 30) ho2.c0 ho2.p0 rfl rfl (r := (o2 + 2)) (pcr_d (by rw [ho2.c0]; decide) 1) ?_
      refine e_iload_n h dX1_meets_33 (pc := 33) rfl ?_
      refine e_iald h dX1_meets_34 (pc := 34) ho2.c2 ho2.p2 rfl (by rw [ho2.l2]; omega) ?_
      refine e_icmp_ne h (tgt := 42) dX1_meets_35 (pc := 35) (by decide) (by omega) (by omega) (fun hb35 => ?_) (fun hb35 => ?_)
      · refine e_iconst h dX1_meets_42 (pc := 42)  ?_
        refine e_zret h hr ha dX1_meets_43 (pc := 43) (by decide) ?_
        first | exact kt (by omega) (by omega) (by omega) | exact kf (by omega)
      · refine e_iconst h dX1_meets_38 (pc := 38)  ?_
        refine e_goto h dX1_meets_39 (pc := 39) (tgt := 43) (by decide) ?_
        refine e_zret h hr ha dX1_meets_43 (pc := 43) (by decide) ?_
        first | exact kt (by omega) (by omega) (by omega) | exact kf (by omega)
  · skip
    refine e_if_eq h (tgt := 42) dX1_meets_5 (pc := 5) (by decide) (by decide) (fun _ => ?_) (fun hz => absurd hz (by decide))
    refine e_iconst h dX1_meets_42 (pc := 42)  ?_
    refine e_zret h hr ha dX1_meets_43 (pc := 43) (by decide) ?_
    first | exact kt (by omega) (by omega) (by omega) | exact kf (by omega)
set_option maxRecDepth 100000 in
set_option maxHeartbeats 4000000 in
theorem c_sink {gg : GT} {ad : Nat → Nat} {N : Nat} {M : Mem} {Post : Option AV → Mem → Prop} {o d lv g : Nat}  {xd : Int} (hxd : xd = (d : Int))  (ho : IsC o N) (hd : d ≤ 60) (hlv : M o 4 = lv) (hl9 : lv < 9) (hg : M o 6 = g) (hg9 : g ≤ 60) (k : ∀ M2 : Mem, M2 o 4 = sink (lv, g) → M2 o 3 = (if sink (lv, g) = 9 then (d : Int) else M o 3) → (∀ q j, (q ≠ o ∨ (j ≠ 3 ∧ j ≠ 4)) → M2 q j = M q j) → Post none M2) : Sp gg yX1_sinkWithoutGas cX1_sinkWithoutGas 2 none rmX1_sinkWithoutGas [vr o, vi xd] ad N pT M Post := by
  refine Sp.intro (ls := [some (vr o), some (vi xd)]) (by decide +kernel) rfl (Nat.le_of_ble_eq_true rfl) fun κ hgg h hr ha => ?_
  have h : Ok κ RX1 cX1_sinkWithoutGas 2 rmX1_sinkWithoutGas := h
  subst hgg
  subst hxd
  refine e_aload_n h dX1_sinkWithoutGas_0 (pc := 0) rfl ?_
  refine e_getI h fl_X1_40 dX1_sinkWithoutGas_1 (pc := 1) ho.c0 ho.p0 (by decide) ?_
  refine e_if_le h (tgt := 8) dX1_sinkWithoutGas_4 (pc := 4) (by decide) (by omega) (fun hb4 => ?_) (fun hb4 => ?_)
  · refine e_aload_n h dX1_sinkWithoutGas_8 (pc := 8) rfl ?_
    refine e_getI h fl_X1_25 dX1_sinkWithoutGas_9 (pc := 9) ho.c0 ho.p0 (by decide) ?_
    refine e_if_le h (tgt := 28) dX1_sinkWithoutGas_12 (pc := 12) (by decide) (by omega) (fun hb12 => ?_) (fun hb12 => ?_)
    · refine e_aload_n h dX1_sinkWithoutGas_28 (pc := 28) rfl ?_
      refine e_bipush h dX1_sinkWithoutGas_29 (pc := 29) (by decide +kernel) ?_
      refine e_putI h fl_X1_25 dX1_sinkWithoutGas_31 (pc := 31) ho.c0 ho.p0 rfl ?_
      refine e_aload_n h dX1_sinkWithoutGas_34 (pc := 34) rfl ?_
      refine e_iload_n h dX1_sinkWithoutGas_35 (pc := 35) rfl ?_
      refine e_putI h fl_X1_21 dX1_sinkWithoutGas_36 (pc := 36) ho.c0 ho.p0 rfl ?_
      refine e_vret h hr ha dX1_sinkWithoutGas_39 (pc := 39) ?_
      have e : sink (lv, g) = 9 := by simp only [sink]; rw [if_neg (by omega), if_neg (by omega)]
      exact k _ (by rw [e, up_ne (by omega), up_eq]; rfl) (by rw [e, if_pos rfl]; exact up_eq _ _ _ _) (fun q j hq => by rw [up_ne (by omega), up_ne (by omega)])
    · refine e_aload_n h dX1_sinkWithoutGas_15 (pc := 15) rfl ?_
      refine e_dup h dX1_sinkWithoutGas_16 (pc := 16) rfl ?_
      refine e_getI h fl_X1_25 dX1_sinkWithoutGas_17 (pc := 17) ho.c0 ho.p0 (by decide) ?_
      refine e_iconst h dX1_sinkWithoutGas_20 (pc := 20)  ?_
      refine e_isub h dX1_sinkWithoutGas_21 (pc := 21)  ?_
      refine e_putI h fl_X1_25 dX1_sinkWithoutGas_22 (pc := 22) ho.c0 ho.p0 rfl ?_
      refine e_goto h dX1_sinkWithoutGas_25 (pc := 25) (tgt := 39) (by decide) ?_
      refine e_vret h hr ha dX1_sinkWithoutGas_39 (pc := 39) ?_
      have e : sink (lv, g) = lv - 1 := by simp only [sink]; rw [if_neg (by omega), if_pos (by omega)]
      exact k _ (by rw [e, up_eq]; omega) (by rw [e, if_neg (by omega)]; exact up_ne (by omega)) (fun q j hq => up_ne (by omega))
  · refine e_vret h hr ha dX1_sinkWithoutGas_7 (pc := 7) ?_
    have e : sink (lv, g) = lv := by simp only [sink]; rw [if_pos (by omega)]
    exact k _ (by rw [e]; exact hlv) (by rw [e, if_neg (by omega)]) (fun q j hq => rfl)
set_option maxRecDepth 100000 in
set_option maxHeartbeats 4000000 in
theorem c_goOn {gg : GT} {ad : Nat → Nat} {N : Nat} {M : Mem} {Post : Option AV → Mem → Prop} {S : SD} {o so i d lv pl g : Nat}  {xi : Int} (hxi : xi = (i : Int)) {xd : Int} (hxd : xd = (d : Int))  (ho : IsC o N) (hs : IsS so N) (hS : SR S M so) (hdis : so + 14 ≤ o ∨ o < so) (hb : sB S ≤ 5) (hd : d ≤ 60) (hcd : ∀ k, k < sB S → sC S k ≤ 9 ∧ sD S k ≤ 60) (hi : i < 6) (hk2 : M (so + 6) i = sK S i) (hk3 : sK S i ≤ 3) (hlv : M o 4 = lv) (hlt : lv < 6) (hw2 : M (so + 2) lv = sW S lv) (hw3 : sW S lv ≤ 1) (hp2 : M (so + 1) lv = sP S lv) (hp3 : sP S lv ≤ 23) (hpl : M o 5 = pl) (hpl2 : pl ≤ 23) (hg : M o 6 = g) (hg2 : g ≤ 60) (k : ∀ M2 : Mem, M2 o 5 = ((pl + sP S lv) % 24 : Nat) → M2 o 6 = gasL S i lv d g → (∀ q j, (q ≠ o ∨ (j ≠ 5 ∧ j ≠ 6)) → M2 q j = M q j) → Post none M2) : Sp gg yX1_goOn cX1_goOn 4 none rmX1_goOn [vr o, vr so, vi xi, vi xd] ad N pT M Post := by
  refine Sp.intro (ls := [some (vr o), some (vr so), some (vi xi), some (vi xd)]) (by decide +kernel) rfl (Nat.le_of_ble_eq_true rfl) fun κ hgg h hr ha => ?_
  have h : Ok κ RX1 cX1_goOn 4 rmX1_goOn := h
  subst hgg
  subst hxi
  subst hxd
  refine e_aload_n h dX1_goOn_0 (pc := 0) rfl ?_
  refine e_aload_n h dX1_goOn_1 (pc := 1) rfl ?_
  refine e_getI h fl_X1_28 dX1_goOn_2 (pc := 2) ho.c0 ho.p0 (by decide) ?_
  refine e_aload_n h dX1_goOn_5 (pc := 5) rfl ?_
  refine e_getC h fl_X1_82 dX1_goOn_6 (pc := 6) hs.c0 hs.p0 rfl rfl (r := (so + 1)) (pcr_d (by rw [hs.c0]; decide) 0) ?_
  refine e_aload_n h dX1_goOn_9 (pc := 9) rfl ?_
  refine e_getI h fl_X1_25 dX1_goOn_10 (pc := 10) ho.c0 ho.p0 (by decide) ?_
  refine e_iald h dX1_goOn_13 (pc := 13) hs.c1 hs.p1 (j := lv) (by omega) (by rw [hs.l1]; omega) ?_
  refine e_iadd h dX1_goOn_14 (pc := 14)  ?_
  refine e_callS1 lk_X1_85 ms_X10_round dX1_goOn_15 (pc := 15) (Nat.le_of_ble_eq_true rfl) (rmY := rmX10_round) (by decide) h ?_
  refine c_round (by omega) ?_
  refine e_putI h fl_X1_28 dX1_goOn_18 (pc := 18) ho.c0 ho.p0 rfl ?_
  refine e_aload_n h dX1_goOn_21 (pc := 21) rfl ?_
  refine e_aload_n h dX1_goOn_22 (pc := 22) rfl ?_
  refine e_getI h fl_X1_25 dX1_goOn_23 (pc := 23) ho.c0 ho.p0 (by decide) ?_
  try simp (disch := omega) only [up_eq, up_ne]
  refine e_iload_n h dX1_goOn_26 (pc := 26) rfl ?_
  refine e_callV2 lk_X1_89 mv_X8_isStruck dX1_goOn_27 (pc := 27) (by rw [hs.c0]; rfl) (by rw [hs.c0]; decide) hs.p0 (Nat.le_of_ble_eq_true rfl) (rmY := rmX8_isStruck) (by decide) h ?_
  refine c_isStruck (l := lv) (d := d) (by omega) rfl hs (hS.to (fun p a b => by simp (disch := omega) only [up_row])) (by omega) (by omega) hd hcd (fun hh => ?_) (fun hh => ?_)
  · skip
    refine e_if_eq h (tgt := 43) dX1_goOn_30 (pc := 30) (by decide) (by decide) (fun hz => absurd hz (by decide)) (fun _ => ?_)
    refine e_aload_n h dX1_goOn_33 (pc := 33) rfl ?_
    refine e_aload_n h dX1_goOn_34 (pc := 34) rfl ?_
    refine e_getI h fl_X1_40 dX1_goOn_35 (pc := 35) ho.c0 ho.p0 (by decide) ?_
    try simp (disch := omega) only [up_eq, up_ne]
    refine e_iconst h dX1_goOn_38 (pc := 38)  ?_
    refine e_idiv h dX1_goOn_39 (pc := 39) (by omega) (by decide) ?_
    generalize hqq : (M o 6).tdiv 2 = q
    have hq2 : q = M o 6 / 2 := by rw [← hqq]; exact Int.tdiv_eq_ediv_of_nonneg (by omega)
    refine e_putI h fl_X1_40 dX1_goOn_40 (pc := 40) ho.c0 ho.p0 rfl ?_
    refine e_aload_n h dX1_goOn_43 (pc := 43) rfl ?_
    refine e_aload_n h dX1_goOn_44 (pc := 44) rfl ?_
    refine e_getI h fl_X1_40 dX1_goOn_45 (pc := 45) ho.c0 ho.p0 (by decide) ?_
    try simp (disch := omega) only [up_eq, up_ne]
    refine e_aload_n h dX1_goOn_48 (pc := 48) rfl ?_
    refine e_iload_n h dX1_goOn_49 (pc := 49) rfl ?_
    refine e_aload_n h dX1_goOn_50 (pc := 50) rfl ?_
    refine e_getI h fl_X1_25 dX1_goOn_51 (pc := 51) ho.c0 ho.p0 (by decide) ?_
    try simp (disch := omega) only [up_eq, up_ne]
    refine e_iload_n h dX1_goOn_54 (pc := 54) rfl ?_
    refine e_callV3 lk_X1_93 mv_X8_dailyLoss dX1_goOn_55 (pc := 55) (by rw [hs.c0]; rfl) (by rw [hs.c0]; decide) hs.p0 (Nat.le_of_ble_eq_true rfl) (rmY := rmX8_dailyLoss) (by decide) h ?_
    refine c_dailyLoss (S := S) (i := i) (l := lv) (d := d) rfl (by omega) rfl hs (by omega) (by simp (disch := omega) only [up_ne]; exact hk2) (by omega) (by omega) (by simp (disch := omega) only [up_ne]; exact hw2) (by omega) hd ?_
    have hls := loss_le (S := S) (i := i) (l := lv) (d := d)
    refine e_isub h dX1_goOn_58 (pc := 58)  ?_
    refine e_iconst h dX1_goOn_59 (pc := 59)  ?_
    refine e_max lp_X1_70 dX1_goOn_60 (pc := 60) (Nat.le_of_ble_eq_true rfl) (by decide) h (by omega) (by decide) ?_
    refine e_putI h fl_X1_40 dX1_goOn_63 (pc := 63) ho.c0 ho.p0 rfl ?_
    refine e_vret h hr ha dX1_goOn_66 (pc := 66) ?_
    refine k _ (by simp (disch := omega) only [up_eq, up_ne]; omega) ?_ (fun q j hq => by simp (disch := omega) only [up_ne])
    simp (disch := omega) only [up_eq, up_ne]
    unfold gasL
    rw [if_pos hh]
    omega
  · skip
    refine e_if_eq h (tgt := 43) dX1_goOn_30 (pc := 30) (by decide) (by decide) (fun _ => ?_) (fun hz => absurd hz (by decide))
    refine e_aload_n h dX1_goOn_43 (pc := 43) rfl ?_
    refine e_aload_n h dX1_goOn_44 (pc := 44) rfl ?_
    refine e_getI h fl_X1_40 dX1_goOn_45 (pc := 45) ho.c0 ho.p0 (by decide) ?_
    try simp (disch := omega) only [up_eq, up_ne]
    refine e_aload_n h dX1_goOn_48 (pc := 48) rfl ?_
    refine e_iload_n h dX1_goOn_49 (pc := 49) rfl ?_
    refine e_aload_n h dX1_goOn_50 (pc := 50) rfl ?_
    refine e_getI h fl_X1_25 dX1_goOn_51 (pc := 51) ho.c0 ho.p0 (by decide) ?_
    try simp (disch := omega) only [up_eq, up_ne]
    refine e_iload_n h dX1_goOn_54 (pc := 54) rfl ?_
    refine e_callV3 lk_X1_93 mv_X8_dailyLoss dX1_goOn_55 (pc := 55) (by rw [hs.c0]; rfl) (by rw [hs.c0]; decide) hs.p0 (Nat.le_of_ble_eq_true rfl) (rmY := rmX8_dailyLoss) (by decide) h ?_
    refine c_dailyLoss (S := S) (i := i) (l := lv) (d := d) rfl (by omega) rfl hs (by omega) (by simp (disch := omega) only [up_ne]; exact hk2) (by omega) (by omega) (by simp (disch := omega) only [up_ne]; exact hw2) (by omega) hd ?_
    have hls := loss_le (S := S) (i := i) (l := lv) (d := d)
    refine e_isub h dX1_goOn_58 (pc := 58)  ?_
    refine e_iconst h dX1_goOn_59 (pc := 59)  ?_
    refine e_max lp_X1_70 dX1_goOn_60 (pc := 60) (Nat.le_of_ble_eq_true rfl) (by decide) h (by omega) (by decide) ?_
    refine e_putI h fl_X1_40 dX1_goOn_63 (pc := 63) ho.c0 ho.p0 rfl ?_
    refine e_vret h hr ha dX1_goOn_66 (pc := 66) ?_
    refine k _ (by simp (disch := omega) only [up_eq, up_ne]; omega) ?_ (fun q j hq => by simp (disch := omega) only [up_ne])
    simp (disch := omega) only [up_eq, up_ne]
    unfold gasL
    rw [if_neg (by rw [hh]; decide)]
    omega
end
