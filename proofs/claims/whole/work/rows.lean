section
-- ===== PART A: goes FIRST, ahead of the names: the tables' words, and 'selects' of the private methods out of them =====
/-- a private method of a class that the tables say can be made, by its rows of tables_1 -/
def lw_okq (q : MethodName × Nat) : Prop := (q.1.cls ≠ "java/lang/invoke/MethodHandle" ∧ q.1.cls ≠ "java/lang/invoke/VarHandle") ∧ Cond.instantiable q.1.cls q.2 ∈ tables_1 ∧ Cond.privateMethod q.1 ∈ tables_1 ∧ Cond.instanceMethod q.1 ∈ tables_1
theorem lw_p0 : lw_okq (⟨"java/util/ArrayList", "add", "(Ljava/lang/Object;[Ljava/lang/Object;I)V"⟩, 3) := ⟨⟨by decide +kernel, by decide +kernel⟩, List.mem_of_getElem? (i := 93) (by decide +kernel), List.mem_of_getElem? (i := 234) (by decide +kernel), List.mem_of_getElem? (i := 235) (by decide +kernel)⟩
theorem lw_p1 : lw_okq (⟨"java/util/ArrayList", "grow", "()[Ljava/lang/Object;"⟩, 3) := ⟨⟨by decide +kernel, by decide +kernel⟩, List.mem_of_getElem? (i := 93) (by decide +kernel), List.mem_of_getElem? (i := 238) (by decide +kernel), List.mem_of_getElem? (i := 239) (by decide +kernel)⟩
theorem lw_p2 : lw_okq (⟨"java/util/ArrayList", "grow", "(I)[Ljava/lang/Object;"⟩, 3) := ⟨⟨by decide +kernel, by decide +kernel⟩, List.mem_of_getElem? (i := 93) (by decide +kernel), List.mem_of_getElem? (i := 242) (by decide +kernel), List.mem_of_getElem? (i := 243) (by decide +kernel)⟩
theorem lw_p3 : lw_okq (⟨"TuneHouse", "find", "(I)LTuneHouse$Sheet;"⟩, 10) := ⟨⟨by decide +kernel, by decide +kernel⟩, List.mem_of_getElem? (i := 24) (by decide +kernel), List.mem_of_getElem? (i := 292) (by decide +kernel), List.mem_of_getElem? (i := 293) (by decide +kernel)⟩
theorem lw_p4 : lw_okq (⟨"TuneHouse", "isPair", "(LTuneHouse$Sheet;LTuneHouse$Sheet;)Z"⟩, 10) := ⟨⟨by decide +kernel, by decide +kernel⟩, List.mem_of_getElem? (i := 24) (by decide +kernel), List.mem_of_getElem? (i := 390) (by decide +kernel), List.mem_of_getElem? (i := 391) (by decide +kernel)⟩
theorem lw_p5 : lw_okq (⟨"TuneHouse", "isDay", "(I)Z"⟩, 10) := ⟨⟨by decide +kernel, by decide +kernel⟩, List.mem_of_getElem? (i := 24) (by decide +kernel), List.mem_of_getElem? (i := 434) (by decide +kernel), List.mem_of_getElem? (i := 435) (by decide +kernel)⟩
theorem lw_p6 : lw_okq (⟨"TuneHouse", "turnTo", "(I)V"⟩, 10) := ⟨⟨by decide +kernel, by decide +kernel⟩, List.mem_of_getElem? (i := 24) (by decide +kernel), List.mem_of_getElem? (i := 438) (by decide +kernel), List.mem_of_getElem? (i := 439) (by decide +kernel)⟩
theorem lw_p7 : lw_okq (⟨"TuneHouse$Sheet", "amendedBy", "(I)I"⟩, 9) := ⟨⟨by decide +kernel, by decide +kernel⟩, List.mem_of_getElem? (i := 167) (by decide +kernel), List.mem_of_getElem? (i := 446) (by decide +kernel), List.mem_of_getElem? (i := 447) (by decide +kernel)⟩
theorem lw_p8 : lw_okq (⟨"TuneHouse$Likeness", "learn", "(LTuneHouse$Sheet;LTuneHouse$Sheet;)I"⟩, 4) := ⟨⟨by decide +kernel, by decide +kernel⟩, List.mem_of_getElem? (i := 73) (by decide +kernel), List.mem_of_getElem? (i := 466) (by decide +kernel), List.mem_of_getElem? (i := 467) (by decide +kernel)⟩
theorem lw_p9 : lw_okq (⟨"TuneHouse$Aligner", "fillFirstRow", "(LTuneHouse$Tune;I)V"⟩, 7) := ⟨⟨by decide +kernel, by decide +kernel⟩, List.mem_of_getElem? (i := 43) (by decide +kernel), List.mem_of_getElem? (i := 479) (by decide +kernel), List.mem_of_getElem? (i := 480) (by decide +kernel)⟩
theorem lw_p10 : lw_okq (⟨"TuneHouse", "layOut", "(LTuneHouse$Sheet;LTuneHouse$Sheet;)V"⟩, 10) := ⟨⟨by decide +kernel, by decide +kernel⟩, List.mem_of_getElem? (i := 24) (by decide +kernel), List.mem_of_getElem? (i := 499) (by decide +kernel), List.mem_of_getElem? (i := 500) (by decide +kernel)⟩
theorem lw_p11 : lw_okq (⟨"TuneHouse$Aligner", "takesTwo", "(LTuneHouse$Tune;ILTuneHouse$Tune;II)Z"⟩, 7) := ⟨⟨by decide +kernel, by decide +kernel⟩, List.mem_of_getElem? (i := 43) (by decide +kernel), List.mem_of_getElem? (i := 510) (by decide +kernel), List.mem_of_getElem? (i := 511) (by decide +kernel)⟩
theorem lw_p12 : lw_okq (⟨"TuneHouse$Aligner", "put", "(III)V"⟩, 7) := ⟨⟨by decide +kernel, by decide +kernel⟩, List.mem_of_getElem? (i := 43) (by decide +kernel), List.mem_of_getElem? (i := 527) (by decide +kernel), List.mem_of_getElem? (i := 528) (by decide +kernel)⟩
theorem lw_p13 : lw_okq (⟨"TuneHouse$Aligner", "takesOne", "(LTuneHouse$Tune;II)Z"⟩, 7) := ⟨⟨by decide +kernel, by decide +kernel⟩, List.mem_of_getElem? (i := 43) (by decide +kernel), List.mem_of_getElem? (i := 531) (by decide +kernel), List.mem_of_getElem? (i := 532) (by decide +kernel)⟩
theorem lw_p14 : lw_okq (⟨"TuneHouse", "gather", "(III)Z"⟩, 10) := ⟨⟨by decide +kernel, by decide +kernel⟩, List.mem_of_getElem? (i := 24) (by decide +kernel), List.mem_of_getElem? (i := 547) (by decide +kernel), List.mem_of_getElem? (i := 548) (by decide +kernel)⟩
theorem lw_p15 : lw_okq (⟨"TuneHouse", "findTrue", "(II)LTuneHouse$Sheet;"⟩, 10) := ⟨⟨by decide +kernel, by decide +kernel⟩, List.mem_of_getElem? (i := 24) (by decide +kernel), List.mem_of_getElem? (i := 555) (by decide +kernel), List.mem_of_getElem? (i := 556) (by decide +kernel)⟩
def lw_privs_1 : List (MethodName × Nat) := [(⟨"java/util/ArrayList", "add", "(Ljava/lang/Object;[Ljava/lang/Object;I)V"⟩, 3), (⟨"java/util/ArrayList", "grow", "()[Ljava/lang/Object;"⟩, 3), (⟨"java/util/ArrayList", "grow", "(I)[Ljava/lang/Object;"⟩, 3), (⟨"TuneHouse", "find", "(I)LTuneHouse$Sheet;"⟩, 10), (⟨"TuneHouse", "isPair", "(LTuneHouse$Sheet;LTuneHouse$Sheet;)Z"⟩, 10), (⟨"TuneHouse", "isDay", "(I)Z"⟩, 10), (⟨"TuneHouse", "turnTo", "(I)V"⟩, 10), (⟨"TuneHouse$Sheet", "amendedBy", "(I)I"⟩, 9), (⟨"TuneHouse$Likeness", "learn", "(LTuneHouse$Sheet;LTuneHouse$Sheet;)I"⟩, 4), (⟨"TuneHouse$Aligner", "fillFirstRow", "(LTuneHouse$Tune;I)V"⟩, 7), (⟨"TuneHouse", "layOut", "(LTuneHouse$Sheet;LTuneHouse$Sheet;)V"⟩, 10), (⟨"TuneHouse$Aligner", "takesTwo", "(LTuneHouse$Tune;ILTuneHouse$Tune;II)Z"⟩, 7), (⟨"TuneHouse$Aligner", "put", "(III)V"⟩, 7), (⟨"TuneHouse$Aligner", "takesOne", "(LTuneHouse$Tune;II)Z"⟩, 7), (⟨"TuneHouse", "gather", "(III)Z"⟩, 10), (⟨"TuneHouse", "findTrue", "(II)LTuneHouse$Sheet;"⟩, 10)]
theorem lw_r1 : ∀ q ∈ lw_privs_1, lw_okq q := List.forall_mem_cons.mpr ⟨lw_p0, List.forall_mem_cons.mpr ⟨lw_p1, List.forall_mem_cons.mpr ⟨lw_p2, List.forall_mem_cons.mpr ⟨lw_p3, List.forall_mem_cons.mpr ⟨lw_p4, List.forall_mem_cons.mpr ⟨lw_p5, List.forall_mem_cons.mpr ⟨lw_p6, List.forall_mem_cons.mpr ⟨lw_p7, List.forall_mem_cons.mpr ⟨lw_p8, List.forall_mem_cons.mpr ⟨lw_p9, List.forall_mem_cons.mpr ⟨lw_p10, List.forall_mem_cons.mpr ⟨lw_p11, List.forall_mem_cons.mpr ⟨lw_p12, List.forall_mem_cons.mpr ⟨lw_p13, List.forall_mem_cons.mpr ⟨lw_p14, List.forall_mem_cons.mpr ⟨lw_p15, fun _ h => absurd h List.not_mem_nil⟩⟩⟩⟩⟩⟩⟩⟩⟩⟩⟩⟩⟩⟩⟩⟩
theorem lw_p16 : lw_okq (⟨"TuneHouse", "addLinked", "(LTuneHouse$Sheet;II)V"⟩, 10) := ⟨⟨by decide +kernel, by decide +kernel⟩, List.mem_of_getElem? (i := 24) (by decide +kernel), List.mem_of_getElem? (i := 559) (by decide +kernel), List.mem_of_getElem? (i := 560) (by decide +kernel)⟩
theorem lw_p17 : lw_okq (⟨"TuneHouse", "isGathered", "(LTuneHouse$Sheet;)Z"⟩, 10) := ⟨⟨by decide +kernel, by decide +kernel⟩, List.mem_of_getElem? (i := 24) (by decide +kernel), List.mem_of_getElem? (i := 563) (by decide +kernel), List.mem_of_getElem? (i := 564) (by decide +kernel)⟩
theorem lw_p18 : lw_okq (⟨"TuneHouse", "sourceOf", "(LTuneHouse$Sheet;I)LTuneHouse$Sheet;"⟩, 10) := ⟨⟨by decide +kernel, by decide +kernel⟩, List.mem_of_getElem? (i := 24) (by decide +kernel), List.mem_of_getElem? (i := 580) (by decide +kernel), List.mem_of_getElem? (i := 581) (by decide +kernel)⟩
theorem lw_p19 : lw_okq (⟨"TuneHouse", "changesOf", "(LTuneHouse$Sheet;I)I"⟩, 10) := ⟨⟨by decide +kernel, by decide +kernel⟩, List.mem_of_getElem? (i := 24) (by decide +kernel), List.mem_of_getElem? (i := 596) (by decide +kernel), List.mem_of_getElem? (i := 597) (by decide +kernel)⟩
theorem lw_p20 : lw_okq (⟨"TuneHouse", "rivalsOf", "(LTuneHouse$Sheet;LTuneHouse$Sheet;II)I"⟩, 10) := ⟨⟨by decide +kernel, by decide +kernel⟩, List.mem_of_getElem? (i := 24) (by decide +kernel), List.mem_of_getElem? (i := 608) (by decide +kernel), List.mem_of_getElem? (i := 609) (by decide +kernel)⟩
theorem lw_p21 : lw_okq (⟨"TuneHouse", "habitIn", "(LTuneHouse$Sheet;LTuneHouse$Sheet;I)I"⟩, 10) := ⟨⟨by decide +kernel, by decide +kernel⟩, List.mem_of_getElem? (i := 24) (by decide +kernel), List.mem_of_getElem? (i := 621) (by decide +kernel), List.mem_of_getElem? (i := 622) (by decide +kernel)⟩
theorem lw_p22 : lw_okq (⟨"TuneHouse$Aligner", "isMeeting", "(LTuneHouse$Tune;LTuneHouse$Tune;I)Z"⟩, 7) := ⟨⟨by decide +kernel, by decide +kernel⟩, List.mem_of_getElem? (i := 43) (by decide +kernel), List.mem_of_getElem? (i := 629) (by decide +kernel), List.mem_of_getElem? (i := 630) (by decide +kernel)⟩
theorem lw_p23 : lw_okq (⟨"java/lang/Throwable", "fillInStackTrace", "(I)Ljava/lang/Throwable;"⟩, 6) := ⟨⟨by decide +kernel, by decide +kernel⟩, List.mem_of_getElem? (i := 690) (by decide +kernel), List.mem_of_getElem? (i := 688) (by decide +kernel), List.mem_of_getElem? (i := 689) (by decide +kernel)⟩
theorem lw_p24 : lw_okq (⟨"TuneHouseModel", "isSheet", "(I)Z"⟩, 35) := ⟨⟨by decide +kernel, by decide +kernel⟩, List.mem_of_getElem? (i := 717) (by decide +kernel), List.mem_of_getElem? (i := 844) (by decide +kernel), List.mem_of_getElem? (i := 845) (by decide +kernel)⟩
theorem lw_p25 : lw_okq (⟨"TuneHouseModel", "isDay", "(I)Z"⟩, 35) := ⟨⟨by decide +kernel, by decide +kernel⟩, List.mem_of_getElem? (i := 717) (by decide +kernel), List.mem_of_getElem? (i := 875) (by decide +kernel), List.mem_of_getElem? (i := 876) (by decide +kernel)⟩
theorem lw_p26 : lw_okq (⟨"TuneHouseModel", "known", "(IIIZ)I"⟩, 35) := ⟨⟨by decide +kernel, by decide +kernel⟩, List.mem_of_getElem? (i := 717) (by decide +kernel), List.mem_of_getElem? (i := 879) (by decide +kernel), List.mem_of_getElem? (i := 880) (by decide +kernel)⟩
theorem lw_p27 : lw_okq (⟨"TuneHouseModel", "isPair", "(III)Z"⟩, 35) := ⟨⟨by decide +kernel, by decide +kernel⟩, List.mem_of_getElem? (i := 717) (by decide +kernel), List.mem_of_getElem? (i := 887) (by decide +kernel), List.mem_of_getElem? (i := 888) (by decide +kernel)⟩
theorem lw_p28 : lw_okq (⟨"TuneHouseModel", "far", "(III)I"⟩, 35) := ⟨⟨by decide +kernel, by decide +kernel⟩, List.mem_of_getElem? (i := 717) (by decide +kernel), List.mem_of_getElem? (i := 891) (by decide +kernel), List.mem_of_getElem? (i := 892) (by decide +kernel)⟩
theorem lw_p29 : lw_okq (⟨"TuneHouseModel", "ready", "(III)V"⟩, 35) := ⟨⟨by decide +kernel, by decide +kernel⟩, List.mem_of_getElem? (i := 717) (by decide +kernel), List.mem_of_getElem? (i := 895) (by decide +kernel), List.mem_of_getElem? (i := 896) (by decide +kernel)⟩
theorem lw_p30 : lw_okq (⟨"TuneHouseModel", "lay", "(I)I"⟩, 35) := ⟨⟨by decide +kernel, by decide +kernel⟩, List.mem_of_getElem? (i := 717) (by decide +kernel), List.mem_of_getElem? (i := 900) (by decide +kernel), List.mem_of_getElem? (i := 901) (by decide +kernel)⟩
theorem lw_p31 : lw_okq (⟨"TuneHouseModel", "ofTwo", "(III)I"⟩, 35) := ⟨⟨by decide +kernel, by decide +kernel⟩, List.mem_of_getElem? (i := 717) (by decide +kernel), List.mem_of_getElem? (i := 904) (by decide +kernel), List.mem_of_getElem? (i := 905) (by decide +kernel)⟩
def lw_privs_2 : List (MethodName × Nat) := [(⟨"TuneHouse", "addLinked", "(LTuneHouse$Sheet;II)V"⟩, 10), (⟨"TuneHouse", "isGathered", "(LTuneHouse$Sheet;)Z"⟩, 10), (⟨"TuneHouse", "sourceOf", "(LTuneHouse$Sheet;I)LTuneHouse$Sheet;"⟩, 10), (⟨"TuneHouse", "changesOf", "(LTuneHouse$Sheet;I)I"⟩, 10), (⟨"TuneHouse", "rivalsOf", "(LTuneHouse$Sheet;LTuneHouse$Sheet;II)I"⟩, 10), (⟨"TuneHouse", "habitIn", "(LTuneHouse$Sheet;LTuneHouse$Sheet;I)I"⟩, 10), (⟨"TuneHouse$Aligner", "isMeeting", "(LTuneHouse$Tune;LTuneHouse$Tune;I)Z"⟩, 7), (⟨"java/lang/Throwable", "fillInStackTrace", "(I)Ljava/lang/Throwable;"⟩, 6), (⟨"TuneHouseModel", "isSheet", "(I)Z"⟩, 35), (⟨"TuneHouseModel", "isDay", "(I)Z"⟩, 35), (⟨"TuneHouseModel", "known", "(IIIZ)I"⟩, 35), (⟨"TuneHouseModel", "isPair", "(III)Z"⟩, 35), (⟨"TuneHouseModel", "far", "(III)I"⟩, 35), (⟨"TuneHouseModel", "ready", "(III)V"⟩, 35), (⟨"TuneHouseModel", "lay", "(I)I"⟩, 35), (⟨"TuneHouseModel", "ofTwo", "(III)I"⟩, 35)]
theorem lw_r2 : ∀ q ∈ lw_privs_2, lw_okq q := List.forall_mem_cons.mpr ⟨lw_p16, List.forall_mem_cons.mpr ⟨lw_p17, List.forall_mem_cons.mpr ⟨lw_p18, List.forall_mem_cons.mpr ⟨lw_p19, List.forall_mem_cons.mpr ⟨lw_p20, List.forall_mem_cons.mpr ⟨lw_p21, List.forall_mem_cons.mpr ⟨lw_p22, List.forall_mem_cons.mpr ⟨lw_p23, List.forall_mem_cons.mpr ⟨lw_p24, List.forall_mem_cons.mpr ⟨lw_p25, List.forall_mem_cons.mpr ⟨lw_p26, List.forall_mem_cons.mpr ⟨lw_p27, List.forall_mem_cons.mpr ⟨lw_p28, List.forall_mem_cons.mpr ⟨lw_p29, List.forall_mem_cons.mpr ⟨lw_p30, List.forall_mem_cons.mpr ⟨lw_p31, fun _ h => absurd h List.not_mem_nil⟩⟩⟩⟩⟩⟩⟩⟩⟩⟩⟩⟩⟩⟩⟩⟩
theorem lw_p32 : lw_okq (⟨"TuneHouseModel", "alone", "(I)I"⟩, 35) := ⟨⟨by decide +kernel, by decide +kernel⟩, List.mem_of_getElem? (i := 717) (by decide +kernel), List.mem_of_getElem? (i := 912) (by decide +kernel), List.mem_of_getElem? (i := 913) (by decide +kernel)⟩
theorem lw_p33 : lw_okq (⟨"TuneHouseModel", "align", "(III)V"⟩, 35) := ⟨⟨by decide +kernel, by decide +kernel⟩, List.mem_of_getElem? (i := 717) (by decide +kernel), List.mem_of_getElem? (i := 924) (by decide +kernel), List.mem_of_getElem? (i := 925) (by decide +kernel)⟩
theorem lw_p34 : lw_okq (⟨"TuneHouseModel", "families", "(III)Z"⟩, 35) := ⟨⟨by decide +kernel, by decide +kernel⟩, List.mem_of_getElem? (i := 717) (by decide +kernel), List.mem_of_getElem? (i := 932) (by decide +kernel), List.mem_of_getElem? (i := 933) (by decide +kernel)⟩
theorem lw_p35 : lw_okq (⟨"TuneHouseModel", "isForged", "(II)Z"⟩, 35) := ⟨⟨by decide +kernel, by decide +kernel⟩, List.mem_of_getElem? (i := 717) (by decide +kernel), List.mem_of_getElem? (i := 936) (by decide +kernel), List.mem_of_getElem? (i := 937) (by decide +kernel)⟩
theorem lw_p36 : lw_okq (⟨"TuneHouseModel", "isAsked", "(II)Z"⟩, 35) := ⟨⟨by decide +kernel, by decide +kernel⟩, List.mem_of_getElem? (i := 717) (by decide +kernel), List.mem_of_getElem? (i := 952) (by decide +kernel), List.mem_of_getElem? (i := 953) (by decide +kernel)⟩
theorem lw_p37 : lw_okq (⟨"TuneHouseModel", "sourceOf", "(II)I"⟩, 35) := ⟨⟨by decide +kernel, by decide +kernel⟩, List.mem_of_getElem? (i := 717) (by decide +kernel), List.mem_of_getElem? (i := 956) (by decide +kernel), List.mem_of_getElem? (i := 957) (by decide +kernel)⟩
theorem lw_p38 : lw_okq (⟨"TuneHouseModel", "isEarlier", "(II)Z"⟩, 35) := ⟨⟨by decide +kernel, by decide +kernel⟩, List.mem_of_getElem? (i := 717) (by decide +kernel), List.mem_of_getElem? (i := 960) (by decide +kernel), List.mem_of_getElem? (i := 961) (by decide +kernel)⟩
theorem lw_p39 : lw_okq (⟨"TuneHouseModel", "changesOf", "(II)I"⟩, 35) := ⟨⟨by decide +kernel, by decide +kernel⟩, List.mem_of_getElem? (i := 717) (by decide +kernel), List.mem_of_getElem? (i := 968) (by decide +kernel), List.mem_of_getElem? (i := 969) (by decide +kernel)⟩
def lw_privs_3 : List (MethodName × Nat) := [(⟨"TuneHouseModel", "alone", "(I)I"⟩, 35), (⟨"TuneHouseModel", "align", "(III)V"⟩, 35), (⟨"TuneHouseModel", "families", "(III)Z"⟩, 35), (⟨"TuneHouseModel", "isForged", "(II)Z"⟩, 35), (⟨"TuneHouseModel", "isAsked", "(II)Z"⟩, 35), (⟨"TuneHouseModel", "sourceOf", "(II)I"⟩, 35), (⟨"TuneHouseModel", "isEarlier", "(II)Z"⟩, 35), (⟨"TuneHouseModel", "changesOf", "(II)I"⟩, 35)]
theorem lw_r3 : ∀ q ∈ lw_privs_3, lw_okq q := List.forall_mem_cons.mpr ⟨lw_p32, List.forall_mem_cons.mpr ⟨lw_p33, List.forall_mem_cons.mpr ⟨lw_p34, List.forall_mem_cons.mpr ⟨lw_p35, List.forall_mem_cons.mpr ⟨lw_p36, List.forall_mem_cons.mpr ⟨lw_p37, List.forall_mem_cons.mpr ⟨lw_p38, List.forall_mem_cons.mpr ⟨lw_p39, fun _ h => absurd h List.not_mem_nil⟩⟩⟩⟩⟩⟩⟩⟩
def lw_privs : List (MethodName × Nat) := lw_privs_1 ++ (lw_privs_2 ++ (lw_privs_3))
def lw_tbl : List Cond := k2_sels lw_privs ++ tables_1
theorem lw_privs_ok : ∀ q ∈ lw_privs, lw_okq q := by
  show ∀ q ∈ lw_privs_1 ++ (lw_privs_2 ++ (lw_privs_3)), lw_okq q
  exact List.forall_mem_append.mpr ⟨lw_r1, List.forall_mem_append.mpr ⟨lw_r2, lw_r3⟩⟩
def RX0 : String := "TuneHouse$Aligner"
def TX0 : u_T := fun k => match k with
  | 0 => ("TuneHouse$Aligner", "prices", "LTuneHouse$Prices;", true)
  | 1 => ("TuneHouse$Aligner", "sums", "[[I", true)
  | 2 => ("TuneHouse$Aligner", "ofT", "[I", true)
  | 3 => ("TuneHouse$Aligner", "ofU", "[I", true)
  | 4 => ("TuneHouse$Aligner", "costs", "[I", true)
  | 5 => ("TuneHouse$Aligner", "columns", "I", false)
  | _ => ("TuneHouse$Aligner", "laidKey", "I", false)
def tyX0 : Nat → FieldType := fun k => match k with
  | 0 => .object "TuneHouse$Prices"
  | 1 => .array (.array .int)
  | 2 => .array .int
  | 3 => .array .int
  | 4 => .array .int
  | 5 => .int
  | _ => .int
abbrev wsX00 : List Cond := u_ws RX0 TX0 7
theorem nmX0 : ∀ a, a < 7 → ∀ b, b < 7 → a ≠ b → (TX0 a).2.1 ≠ (TX0 b).2.1 := by decide +kernel
theorem tyX0_ok : ∀ k, k < 7 → parseFieldDescriptor (TX0 k).2.2.1 = some (tyX0 k) := by decide +kernel
abbrev cX0_init : ByteArray := prog_2_method_1_code
def yX0_init : MethodName := ⟨RX0, "<init>", "(LTuneHouse$Prices;)V"⟩
abbrev cX0_leastSum : ByteArray := prog_2_method_2_code
def yX0_leastSum : MethodName := ⟨RX0, "leastSum", "(LTuneHouse$Tune;LTuneHouse$Tune;II)I"⟩
abbrev cX0_fillFirstRow : ByteArray := prog_2_method_3_code
def yX0_fillFirstRow : MethodName := ⟨RX0, "fillFirstRow", "(LTuneHouse$Tune;I)V"⟩
abbrev cX0_layOut : ByteArray := prog_2_method_4_code
def yX0_layOut : MethodName := ⟨RX0, "layOut", "(LTuneHouse$Tune;LTuneHouse$Tune;I)V"⟩
abbrev cX0_takesTwo : ByteArray := prog_2_method_5_code
def yX0_takesTwo : MethodName := ⟨RX0, "takesTwo", "(LTuneHouse$Tune;ILTuneHouse$Tune;II)Z"⟩
abbrev cX0_takesOne : ByteArray := prog_2_method_6_code
def yX0_takesOne : MethodName := ⟨RX0, "takesOne", "(LTuneHouse$Tune;II)Z"⟩
abbrev cX0_put : ByteArray := prog_2_method_7_code
def yX0_put : MethodName := ⟨RX0, "put", "(III)V"⟩
abbrev cX0_toldOf : ByteArray := prog_2_method_8_code
def yX0_toldOf : MethodName := ⟨RX0, "toldOf", "(II)I"⟩
abbrev cX0_rise : ByteArray := prog_2_method_9_code
def yX0_rise : MethodName := ⟨RX0, "rise", "(LTuneHouse$Tune;LTuneHouse$Tune;)I"⟩
abbrev cX0_met : ByteArray := prog_2_method_10_code
def yX0_met : MethodName := ⟨RX0, "met", "(LTuneHouse$Tune;LTuneHouse$Tune;)I"⟩
abbrev cX0_isMeeting : ByteArray := prog_2_method_11_code
def yX0_isMeeting : MethodName := ⟨RX0, "isMeeting", "(LTuneHouse$Tune;LTuneHouse$Tune;I)Z"⟩
def RX1 : String := "TuneHouse$Correction"
def TX1 : u_T := fun k => match k with
  | 0 => ("TuneHouse$Correction", "since", "I", true)
  | 1 => ("TuneHouse$Correction", "place", "I", true)
  | 2 => ("TuneHouse$Correction", "pitch", "I", true)
  | _ => ("TuneHouse$Correction", "beats", "I", true)
def tyX1 : Nat → FieldType := fun k => match k with
  | 0 => .int
  | 1 => .int
  | 2 => .int
  | _ => .int
abbrev wsX10 : List Cond := u_ws RX1 TX1 4
theorem nmX1 : ∀ a, a < 4 → ∀ b, b < 4 → a ≠ b → (TX1 a).2.1 ≠ (TX1 b).2.1 := by decide +kernel
theorem tyX1_ok : ∀ k, k < 4 → parseFieldDescriptor (TX1 k).2.2.1 = some (tyX1 k) := by decide +kernel
abbrev cX1_init : ByteArray := prog_3_method_1_code
def yX1_init : MethodName := ⟨RX1, "<init>", "(IIII)V"⟩
def RX2 : String := "TuneHouse$Likeness"
def TX2 : u_T := fun k => match k with
  | 0 => ("TuneHouse$Likeness", "aligner", "LTuneHouse$Aligner;", true)
  | 1 => ("TuneHouse$Likeness", "isKept", "[Z", true)
  | 2 => ("TuneHouse$Likeness", "sums", "[I", true)
  | _ => ("TuneHouse$Likeness", "keys", "[I", true)
def tyX2 : Nat → FieldType := fun k => match k with
  | 0 => .object "TuneHouse$Aligner"
  | 1 => .array .boolean
  | 2 => .array .int
  | _ => .array .int
abbrev wsX20 : List Cond := u_ws RX2 TX2 4
theorem nmX2 : ∀ a, a < 4 → ∀ b, b < 4 → a ≠ b → (TX2 a).2.1 ≠ (TX2 b).2.1 := by decide +kernel
theorem tyX2_ok : ∀ k, k < 4 → parseFieldDescriptor (TX2 k).2.2.1 = some (tyX2 k) := by decide +kernel
abbrev cX2_init : ByteArray := prog_4_method_1_code
def yX2_init : MethodName := ⟨RX2, "<init>", "(LTuneHouse$Aligner;)V"⟩
abbrev cX2_apart : ByteArray := prog_4_method_2_code
def yX2_apart : MethodName := ⟨RX2, "apart", "(LTuneHouse$Sheet;LTuneHouse$Sheet;)I"⟩
abbrev cX2_toldKey : ByteArray := prog_4_method_3_code
def yX2_toldKey : MethodName := ⟨RX2, "toldKey", "(LTuneHouse$Sheet;LTuneHouse$Sheet;)I"⟩
abbrev cX2_forget : ByteArray := prog_4_method_4_code
def yX2_forget : MethodName := ⟨RX2, "forget", "(LTuneHouse$Sheet;)V"⟩
abbrev cX2_forgetAll : ByteArray := prog_4_method_5_code
def yX2_forgetAll : MethodName := ⟨RX2, "forgetAll", "()V"⟩
abbrev cX2_learn : ByteArray := prog_4_method_6_code
def yX2_learn : MethodName := ⟨RX2, "learn", "(LTuneHouse$Sheet;LTuneHouse$Sheet;)I"⟩
def RX3 : String := "TuneHouse$Pair"
def TX3 : u_T := fun k => match k with
  | 0 => ("TuneHouse$Pair", "one", "LTuneHouse$Sheet;", true)
  | _ => ("TuneHouse$Pair", "other", "LTuneHouse$Sheet;", true)
def tyX3 : Nat → FieldType := fun k => match k with
  | 0 => .object "TuneHouse$Sheet"
  | _ => .object "TuneHouse$Sheet"
abbrev wsX30 : List Cond := u_ws RX3 TX3 2
theorem nmX3 : ∀ a, a < 2 → ∀ b, b < 2 → a ≠ b → (TX3 a).2.1 ≠ (TX3 b).2.1 := by decide +kernel
theorem tyX3_ok : ∀ k, k < 2 → parseFieldDescriptor (TX3 k).2.2.1 = some (tyX3 k) := by decide +kernel
abbrev cX3_init : ByteArray := prog_5_method_1_code
def yX3_init : MethodName := ⟨RX3, "<init>", "(LTuneHouse$Sheet;LTuneHouse$Sheet;)V"⟩
abbrev cX3_joins : ByteArray := prog_5_method_2_code
def yX3_joins : MethodName := ⟨RX3, "joins", "(LTuneHouse$Sheet;LTuneHouse$Sheet;)Z"⟩
abbrev cX3_sheetOf : ByteArray := prog_5_method_3_code
def yX3_sheetOf : MethodName := ⟨RX3, "sheetOf", "(I)LTuneHouse$Sheet;"⟩
def RX4 : String := "TuneHouse$Prices"
def TX4 : u_T := fun k => match k with
  | _ => ("TuneHouse$Prices", "coins", "[I", true)
def tyX4 : Nat → FieldType := fun k => match k with
  | _ => .array .int
abbrev wsX40 : List Cond := u_ws RX4 TX4 1
theorem nmX4 : ∀ a, a < 1 → ∀ b, b < 1 → a ≠ b → (TX4 a).2.1 ≠ (TX4 b).2.1 := by decide +kernel
theorem tyX4_ok : ∀ k, k < 1 → parseFieldDescriptor (TX4 k).2.2.1 = some (tyX4 k) := by decide +kernel
abbrev cX4_init : ByteArray := prog_6_method_1_code
def yX4_init : MethodName := ⟨RX4, "<init>", "()V"⟩
abbrev cX4_set : ByteArray := prog_6_method_2_code
def yX4_set : MethodName := ⟨RX4, "set", "(II)Z"⟩
abbrev cX4_anew : ByteArray := prog_6_method_3_code
def yX4_anew : MethodName := ⟨RX4, "anew", "()I"⟩
abbrev cX4_out : ByteArray := prog_6_method_4_code
def yX4_out : MethodName := ⟨RX4, "out", "()I"⟩
abbrev cX4_ofNotes : ByteArray := prog_6_method_5_code
def yX4_ofNotes : MethodName := ⟨RX4, "ofNotes", "(II)I"⟩
abbrev cX4_ofTwo : ByteArray := prog_6_method_6_code
def yX4_ofTwo : MethodName := ⟨RX4, "ofTwo", "(LTuneHouse$Tune;ILTuneHouse$Tune;II)I"⟩
abbrev cX4_ofOne : ByteArray := prog_6_method_7_code
def yX4_ofOne : MethodName := ⟨RX4, "ofOne", "(LTuneHouse$Tune;I)I"⟩
def RX5 : String := "TuneHouse$Sheet"
def TX5 : u_T := fun k => match k with
  | 0 => ("TuneHouse$Sheet", "number", "I", true)
  | 1 => ("TuneHouse$Sheet", "hand", "I", true)
  | 2 => ("TuneHouse$Sheet", "year", "I", true)
  | 3 => ("TuneHouse$Sheet", "words", "I", true)
  | 4 => ("TuneHouse$Sheet", "known", "LTuneHouse$Tune;", true)
  | 5 => ("TuneHouse$Sheet", "told", "LTuneHouse$Tune;", true)
  | 6 => ("TuneHouse$Sheet", "amended", "Ljava/util/ArrayList;", true)
  | 7 => ("TuneHouse$Sheet", "applied", "I", false)
  | _ => ("TuneHouse$Sheet", "forgedOn", "I", false)
def tyX5 : Nat → FieldType := fun k => match k with
  | 0 => .int
  | 1 => .int
  | 2 => .int
  | 3 => .int
  | 4 => .object "TuneHouse$Tune"
  | 5 => .object "TuneHouse$Tune"
  | 6 => .object "java/util/ArrayList"
  | 7 => .int
  | _ => .int
abbrev wsX50 : List Cond := u_ws RX5 TX5 9
theorem nmX5 : ∀ a, a < 9 → ∀ b, b < 9 → a ≠ b → (TX5 a).2.1 ≠ (TX5 b).2.1 := by decide +kernel
theorem tyX5_ok : ∀ k, k < 9 → parseFieldDescriptor (TX5 k).2.2.1 = some (tyX5 k) := by decide +kernel
abbrev cX5_init : ByteArray := prog_7_method_1_code
def yX5_init : MethodName := ⟨RX5, "<init>", "(IIII)V"⟩
abbrev cX5_length : ByteArray := prog_7_method_2_code
def yX5_length : MethodName := ⟨RX5, "length", "()I"⟩
abbrev cX5_has : ByteArray := prog_7_method_3_code
def yX5_has : MethodName := ⟨RX5, "has", "(I)Z"⟩
abbrev cX5_append : ByteArray := prog_7_method_4_code
def yX5_append : MethodName := ⟨RX5, "append", "(II)Z"⟩
abbrev cX5_amend : ByteArray := prog_7_method_5_code
def yX5_amend : MethodName := ⟨RX5, "amend", "(LTuneHouse$Correction;)V"⟩
abbrev cX5_markForged : ByteArray := prog_7_method_6_code
def yX5_markForged : MethodName := ⟨RX5, "markForged", "(I)V"⟩
abbrev cX5_isForgedBy : ByteArray := prog_7_method_7_code
def yX5_isForgedBy : MethodName := ⟨RX5, "isForgedBy", "(I)Z"⟩
abbrev cX5_isEarlierThan : ByteArray := prog_7_method_8_code
def yX5_isEarlierThan : MethodName := ⟨RX5, "isEarlierThan", "(LTuneHouse$Sheet;)Z"⟩
abbrev cX5_openOn : ByteArray := prog_7_method_9_code
def yX5_openOn : MethodName := ⟨RX5, "openOn", "(I)Z"⟩
abbrev cX5_amendedBy : ByteArray := prog_7_method_10_code
def yX5_amendedBy : MethodName := ⟨RX5, "amendedBy", "(I)I"⟩
def RX6 : String := "TuneHouse$Tune"
def TX6 : u_T := fun k => match k with
  | 0 => ("TuneHouse$Tune", "pitches", "[I", true)
  | 1 => ("TuneHouse$Tune", "beats", "[I", true)
  | _ => ("TuneHouse$Tune", "length", "I", false)
def tyX6 : Nat → FieldType := fun k => match k with
  | 0 => .array .int
  | 1 => .array .int
  | _ => .int
abbrev wsX60 : List Cond := u_ws RX6 TX6 3
theorem nmX6 : ∀ a, a < 3 → ∀ b, b < 3 → a ≠ b → (TX6 a).2.1 ≠ (TX6 b).2.1 := by decide +kernel
theorem tyX6_ok : ∀ k, k < 3 → parseFieldDescriptor (TX6 k).2.2.1 = some (tyX6 k) := by decide +kernel
abbrev cX6_init : ByteArray := prog_8_method_1_code
def yX6_init : MethodName := ⟨RX6, "<init>", "()V"⟩
abbrev cX6_length : ByteArray := prog_8_method_2_code
def yX6_length : MethodName := ⟨RX6, "length", "()I"⟩
abbrev cX6_has : ByteArray := prog_8_method_3_code
def yX6_has : MethodName := ⟨RX6, "has", "(I)Z"⟩
abbrev cX6_pitchAt : ByteArray := prog_8_method_4_code
def yX6_pitchAt : MethodName := ⟨RX6, "pitchAt", "(I)I"⟩
abbrev cX6_beatsAt : ByteArray := prog_8_method_5_code
def yX6_beatsAt : MethodName := ⟨RX6, "beatsAt", "(I)I"⟩
abbrev cX6_append : ByteArray := prog_8_method_6_code
def yX6_append : MethodName := ⟨RX6, "append", "(II)Z"⟩
abbrev cX6_put : ByteArray := prog_8_method_7_code
def yX6_put : MethodName := ⟨RX6, "put", "(III)V"⟩
abbrev cX6_copy : ByteArray := prog_8_method_8_code
def yX6_copy : MethodName := ⟨RX6, "copy", "(LTuneHouse$Tune;)V"⟩
def RX7 : String := "TuneHouse"
def TX7 : u_T := fun k => match k with
  | 0 => ("TuneHouse", "prices", "LTuneHouse$Prices;", true)
  | 1 => ("TuneHouse", "aligner", "LTuneHouse$Aligner;", true)
  | 2 => ("TuneHouse", "likeness", "LTuneHouse$Likeness;", true)
  | 3 => ("TuneHouse", "sheets", "Ljava/util/ArrayList;", true)
  | 4 => ("TuneHouse", "pairs", "Ljava/util/ArrayList;", true)
  | 5 => ("TuneHouse", "kinsfolk", "Ljava/util/ArrayList;", true)
  | 6 => ("TuneHouse", "now", "I", false)
  | 7 => ("TuneHouse", "forgeries", "I", false)
  | 8 => ("TuneHouse", "notesTold", "I", false)
  | _ => ("TuneHouse", "corrections", "I", false)
def tyX7 : Nat → FieldType := fun k => match k with
  | 0 => .object "TuneHouse$Prices"
  | 1 => .object "TuneHouse$Aligner"
  | 2 => .object "TuneHouse$Likeness"
  | 3 => .object "java/util/ArrayList"
  | 4 => .object "java/util/ArrayList"
  | 5 => .object "java/util/ArrayList"
  | 6 => .int
  | 7 => .int
  | 8 => .int
  | _ => .int
abbrev wsX70 : List Cond := u_ws RX7 TX7 10
theorem nmX7 : ∀ a, a < 10 → ∀ b, b < 10 → a ≠ b → (TX7 a).2.1 ≠ (TX7 b).2.1 := by decide +kernel
theorem tyX7_ok : ∀ k, k < 10 → parseFieldDescriptor (TX7 k).2.2.1 = some (tyX7 k) := by decide +kernel
abbrev cX7_init : ByteArray := prog_1_method_1_code
def yX7_init : MethodName := ⟨RX7, "<init>", "()V"⟩
abbrev cX7_sheet : ByteArray := prog_1_method_2_code
def yX7_sheet : MethodName := ⟨RX7, "sheet", "(III)I"⟩
abbrev cX7_note : ByteArray := prog_1_method_3_code
def yX7_note : MethodName := ⟨RX7, "note", "(III)I"⟩
abbrev cX7_correct : ByteArray := prog_1_method_4_code
def yX7_correct : MethodName := ⟨RX7, "correct", "(IIII)Z"⟩
abbrev cX7_forge : ByteArray := prog_1_method_5_code
def yX7_forge : MethodName := ⟨RX7, "forge", "(I)Z"⟩
abbrev cX7_doubles : ByteArray := prog_1_method_6_code
def yX7_doubles : MethodName := ⟨RX7, "doubles", "(II)Z"⟩
abbrev cX7_days : ByteArray := prog_1_method_7_code
def yX7_days : MethodName := ⟨RX7, "days", "(I)I"⟩
abbrev cX7_price : ByteArray := prog_1_method_8_code
def yX7_price : MethodName := ⟨RX7, "price", "(II)Z"⟩
abbrev cX7_at : ByteArray := prog_1_method_9_code
def yX7_at : MethodName := ⟨RX7, "at", "(IIII)I"⟩
abbrev cX7_distance : ByteArray := prog_1_method_10_code
def yX7_distance : MethodName := ⟨RX7, "distance", "(III)I"⟩
abbrev cX7_key : ByteArray := prog_1_method_11_code
def yX7_key : MethodName := ⟨RX7, "key", "(III)I"⟩
abbrev cX7_column : ByteArray := prog_1_method_12_code
def yX7_column : MethodName := ⟨RX7, "column", "(IIIII)I"⟩
abbrev cX7_family : ByteArray := prog_1_method_13_code
def yX7_family : MethodName := ⟨RX7, "family", "(III)I"⟩
abbrev cX7_kin : ByteArray := prog_1_method_14_code
def yX7_kin : MethodName := ⟨RX7, "kin", "(III)I"⟩
abbrev cX7_sung : ByteArray := prog_1_method_15_code
def yX7_sung : MethodName := ⟨RX7, "sung", "(III)I"⟩
abbrev cX7_source : ByteArray := prog_1_method_16_code
def yX7_source : MethodName := ⟨RX7, "source", "(II)I"⟩
abbrev cX7_changes : ByteArray := prog_1_method_17_code
def yX7_changes : MethodName := ⟨RX7, "changes", "(II)I"⟩
abbrev cX7_all : ByteArray := prog_1_method_18_code
def yX7_all : MethodName := ⟨RX7, "all", "(I)I"⟩
abbrev cX7_doubt : ByteArray := prog_1_method_19_code
def yX7_doubt : MethodName := ⟨RX7, "doubt", "(III)I"⟩
abbrev cX7_habit : ByteArray := prog_1_method_20_code
def yX7_habit : MethodName := ⟨RX7, "habit", "(IIII)I"⟩
abbrev cX7_span : ByteArray := prog_1_method_21_code
def yX7_span : MethodName := ⟨RX7, "span", "(IIZ)I"⟩
abbrev cX7_count : ByteArray := prog_1_method_22_code
def yX7_count : MethodName := ⟨RX7, "count", "(I)I"⟩
abbrev cX7_isWithin : ByteArray := prog_1_method_23_code
def yX7_isWithin : MethodName := ⟨RX7, "isWithin", "(II)Z"⟩
abbrev cX7_isHand : ByteArray := prog_1_method_24_code
def yX7_isHand : MethodName := ⟨RX7, "isHand", "(I)Z"⟩
abbrev cX7_isWords : ByteArray := prog_1_method_25_code
def yX7_isWords : MethodName := ⟨RX7, "isWords", "(I)Z"⟩
abbrev cX7_isNote : ByteArray := prog_1_method_26_code
def yX7_isNote : MethodName := ⟨RX7, "isNote", "(II)Z"⟩
abbrev cX7_isDay : ByteArray := prog_1_method_27_code
def yX7_isDay : MethodName := ⟨RX7, "isDay", "(I)Z"⟩
abbrev cX7_isPair : ByteArray := prog_1_method_28_code
def yX7_isPair : MethodName := ⟨RX7, "isPair", "(LTuneHouse$Sheet;LTuneHouse$Sheet;)Z"⟩
abbrev cX7_find : ByteArray := prog_1_method_29_code
def yX7_find : MethodName := ⟨RX7, "find", "(I)LTuneHouse$Sheet;"⟩
abbrev cX7_findTrue : ByteArray := prog_1_method_30_code
def yX7_findTrue : MethodName := ⟨RX7, "findTrue", "(II)LTuneHouse$Sheet;"⟩
abbrev cX7_turnTo : ByteArray := prog_1_method_31_code
def yX7_turnTo : MethodName := ⟨RX7, "turnTo", "(I)V"⟩
abbrev cX7_layOut : ByteArray := prog_1_method_32_code
def yX7_layOut : MethodName := ⟨RX7, "layOut", "(LTuneHouse$Sheet;LTuneHouse$Sheet;)V"⟩
abbrev cX7_gather : ByteArray := prog_1_method_33_code
def yX7_gather : MethodName := ⟨RX7, "gather", "(III)Z"⟩
abbrev cX7_addLinked : ByteArray := prog_1_method_34_code
def yX7_addLinked : MethodName := ⟨RX7, "addLinked", "(LTuneHouse$Sheet;II)V"⟩
abbrev cX7_isGathered : ByteArray := prog_1_method_35_code
def yX7_isGathered : MethodName := ⟨RX7, "isGathered", "(LTuneHouse$Sheet;)Z"⟩
abbrev cX7_sourceOf : ByteArray := prog_1_method_36_code
def yX7_sourceOf : MethodName := ⟨RX7, "sourceOf", "(LTuneHouse$Sheet;I)LTuneHouse$Sheet;"⟩
abbrev cX7_changesOf : ByteArray := prog_1_method_37_code
def yX7_changesOf : MethodName := ⟨RX7, "changesOf", "(LTuneHouse$Sheet;I)I"⟩
abbrev cX7_rivalsOf : ByteArray := prog_1_method_38_code
def yX7_rivalsOf : MethodName := ⟨RX7, "rivalsOf", "(LTuneHouse$Sheet;LTuneHouse$Sheet;II)I"⟩
abbrev cX7_habitIn : ByteArray := prog_1_method_39_code
def yX7_habitIn : MethodName := ⟨RX7, "habitIn", "(LTuneHouse$Sheet;LTuneHouse$Sheet;I)I"⟩
def RX8 : String := "TuneHouseModel"
def TX8 : u_T := fun k => match k with
  | 0 => ("TuneHouseModel", "thrown", "I", false)
  | 1 => ("TuneHouseModel", "hand", "[I", true)
  | 2 => ("TuneHouseModel", "year", "[I", true)
  | 3 => ("TuneHouseModel", "words", "[I", true)
  | 4 => ("TuneHouseModel", "length", "[I", true)
  | 5 => ("TuneHouseModel", "forged", "[I", true)
  | 6 => ("TuneHouseModel", "notePitch", "[I", true)
  | 7 => ("TuneHouseModel", "noteBeats", "[I", true)
  | 8 => ("TuneHouseModel", "correctedSheet", "[I", true)
  | 9 => ("TuneHouseModel", "correctedNote", "[I", true)
  | 10 => ("TuneHouseModel", "correctedPitch", "[I", true)
  | 11 => ("TuneHouseModel", "correctedBeats", "[I", true)
  | 12 => ("TuneHouseModel", "correctedDay", "[I", true)
  | 13 => ("TuneHouseModel", "doubleOne", "[I", true)
  | 14 => ("TuneHouseModel", "doubleOther", "[I", true)
  | 15 => ("TuneHouseModel", "price", "[I", true)
  | 16 => ("TuneHouseModel", "sheets", "I", false)
  | 17 => ("TuneHouseModel", "corrections", "I", false)
  | 18 => ("TuneHouseModel", "doubles", "I", false)
  | 19 => ("TuneHouseModel", "now", "I", false)
  | 20 => ("TuneHouseModel", "firstPitch", "[I", true)
  | 21 => ("TuneHouseModel", "firstBeats", "[I", true)
  | 22 => ("TuneHouseModel", "secondPitch", "[I", true)
  | 23 => ("TuneHouseModel", "secondBeats", "[I", true)
  | 24 => ("TuneHouseModel", "sums", "[I", true)
  | 25 => ("TuneHouseModel", "firstLong", "I", false)
  | 26 => ("TuneHouseModel", "secondLong", "I", false)
  | 27 => ("TuneHouseModel", "told", "I", false)
  | 28 => ("TuneHouseModel", "toldKey", "I", false)
  | 29 => ("TuneHouseModel", "columnFirst", "[I", true)
  | 30 => ("TuneHouseModel", "columnSecond", "[I", true)
  | 31 => ("TuneHouseModel", "columnPrice", "[I", true)
  | 32 => ("TuneHouseModel", "columns", "I", false)
  | 33 => ("TuneHouseModel", "family", "[I", true)
  | _ => ("TuneHouseModel", "sourceFar", "I", false)
def tyX8 : Nat → FieldType := fun k => match k with
  | 0 => .int
  | 1 => .array .int
  | 2 => .array .int
  | 3 => .array .int
  | 4 => .array .int
  | 5 => .array .int
  | 6 => .array .int
  | 7 => .array .int
  | 8 => .array .int
  | 9 => .array .int
  | 10 => .array .int
  | 11 => .array .int
  | 12 => .array .int
  | 13 => .array .int
  | 14 => .array .int
  | 15 => .array .int
  | 16 => .int
  | 17 => .int
  | 18 => .int
  | 19 => .int
  | 20 => .array .int
  | 21 => .array .int
  | 22 => .array .int
  | 23 => .array .int
  | 24 => .array .int
  | 25 => .int
  | 26 => .int
  | 27 => .int
  | 28 => .int
  | 29 => .array .int
  | 30 => .array .int
  | 31 => .array .int
  | 32 => .int
  | 33 => .array .int
  | _ => .int
abbrev wsX80 : List Cond := u_ws RX8 TX8 35
theorem nmX8 : ∀ a, a < 35 → ∀ b, b < 35 → a ≠ b → (TX8 a).2.1 ≠ (TX8 b).2.1 := by decide +kernel
theorem tyX8_ok : ∀ k, k < 35 → parseFieldDescriptor (TX8 k).2.2.1 = some (tyX8 k) := by decide +kernel
abbrev cX8_init : ByteArray := prog_10_method_1_code
def yX8_init : MethodName := ⟨RX8, "<init>", "()V"⟩
abbrev cX8_thrown : ByteArray := prog_10_method_2_code
def yX8_thrown : MethodName := ⟨RX8, "thrown", "()I"⟩
abbrev cX8_isIn : ByteArray := prog_10_method_3_code
def yX8_isIn : MethodName := ⟨RX8, "isIn", "(III)Z"⟩
abbrev cX8_isSheet : ByteArray := prog_10_method_4_code
def yX8_isSheet : MethodName := ⟨RX8, "isSheet", "(I)Z"⟩
abbrev cX8_isDay : ByteArray := prog_10_method_5_code
def yX8_isDay : MethodName := ⟨RX8, "isDay", "(I)Z"⟩
abbrev cX8_sheet : ByteArray := prog_10_method_6_code
def yX8_sheet : MethodName := ⟨RX8, "sheet", "(III)I"⟩
abbrev cX8_isNote : ByteArray := prog_10_method_7_code
def yX8_isNote : MethodName := ⟨RX8, "isNote", "(II)Z"⟩
abbrev cX8_note : ByteArray := prog_10_method_8_code
def yX8_note : MethodName := ⟨RX8, "note", "(III)I"⟩
abbrev cX8_correct : ByteArray := prog_10_method_9_code
def yX8_correct : MethodName := ⟨RX8, "correct", "(IIII)Z"⟩
abbrev cX8_forge : ByteArray := prog_10_method_10_code
def yX8_forge : MethodName := ⟨RX8, "forge", "(I)Z"⟩
abbrev cX8_doubles : ByteArray := prog_10_method_11_code
def yX8_doubles : MethodName := ⟨RX8, "doubles", "(II)Z"⟩
abbrev cX8_days : ByteArray := prog_10_method_12_code
def yX8_days : MethodName := ⟨RX8, "days", "(I)I"⟩
abbrev cX8_price : ByteArray := prog_10_method_13_code
def yX8_price : MethodName := ⟨RX8, "price", "(II)Z"⟩
abbrev cX8_known : ByteArray := prog_10_method_14_code
def yX8_known : MethodName := ⟨RX8, "known", "(IIIZ)I"⟩
abbrev cX8_isForged : ByteArray := prog_10_method_15_code
def yX8_isForged : MethodName := ⟨RX8, "isForged", "(II)Z"⟩
abbrev cX8_at : ByteArray := prog_10_method_16_code
def yX8_at : MethodName := ⟨RX8, "at", "(IIII)I"⟩
abbrev cX8_ready : ByteArray := prog_10_method_17_code
def yX8_ready : MethodName := ⟨RX8, "ready", "(III)V"⟩
abbrev cX8_ofTwo : ByteArray := prog_10_method_18_code
def yX8_ofTwo : MethodName := ⟨RX8, "ofTwo", "(III)I"⟩
abbrev cX8_alone : ByteArray := prog_10_method_19_code
def yX8_alone : MethodName := ⟨RX8, "alone", "(I)I"⟩
abbrev cX8_lay : ByteArray := prog_10_method_20_code
def yX8_lay : MethodName := ⟨RX8, "lay", "(I)I"⟩
abbrev cX8_far : ByteArray := prog_10_method_21_code
def yX8_far : MethodName := ⟨RX8, "far", "(III)I"⟩
abbrev cX8_isPair : ByteArray := prog_10_method_22_code
def yX8_isPair : MethodName := ⟨RX8, "isPair", "(III)Z"⟩
abbrev cX8_distance : ByteArray := prog_10_method_23_code
def yX8_distance : MethodName := ⟨RX8, "distance", "(III)I"⟩
abbrev cX8_key : ByteArray := prog_10_method_24_code
def yX8_key : MethodName := ⟨RX8, "key", "(III)I"⟩
abbrev cX8_align : ByteArray := prog_10_method_25_code
def yX8_align : MethodName := ⟨RX8, "align", "(III)V"⟩
abbrev cX8_column : ByteArray := prog_10_method_26_code
def yX8_column : MethodName := ⟨RX8, "column", "(IIIII)I"⟩
abbrev cX8_families : ByteArray := prog_10_method_27_code
def yX8_families : MethodName := ⟨RX8, "families", "(III)Z"⟩
abbrev cX8_family : ByteArray := prog_10_method_28_code
def yX8_family : MethodName := ⟨RX8, "family", "(III)I"⟩
abbrev cX8_kin : ByteArray := prog_10_method_29_code
def yX8_kin : MethodName := ⟨RX8, "kin", "(III)I"⟩
abbrev cX8_sung : ByteArray := prog_10_method_30_code
def yX8_sung : MethodName := ⟨RX8, "sung", "(III)I"⟩
abbrev cX8_isEarlier : ByteArray := prog_10_method_31_code
def yX8_isEarlier : MethodName := ⟨RX8, "isEarlier", "(II)Z"⟩
abbrev cX8_sourceOf : ByteArray := prog_10_method_32_code
def yX8_sourceOf : MethodName := ⟨RX8, "sourceOf", "(II)I"⟩
abbrev cX8_isAsked : ByteArray := prog_10_method_33_code
def yX8_isAsked : MethodName := ⟨RX8, "isAsked", "(II)Z"⟩
abbrev cX8_source : ByteArray := prog_10_method_34_code
def yX8_source : MethodName := ⟨RX8, "source", "(II)I"⟩
abbrev cX8_changesOf : ByteArray := prog_10_method_35_code
def yX8_changesOf : MethodName := ⟨RX8, "changesOf", "(II)I"⟩
abbrev cX8_changes : ByteArray := prog_10_method_36_code
def yX8_changes : MethodName := ⟨RX8, "changes", "(II)I"⟩
abbrev cX8_all : ByteArray := prog_10_method_37_code
def yX8_all : MethodName := ⟨RX8, "all", "(I)I"⟩
abbrev cX8_doubt : ByteArray := prog_10_method_38_code
def yX8_doubt : MethodName := ⟨RX8, "doubt", "(III)I"⟩
abbrev cX8_habit : ByteArray := prog_10_method_39_code
def yX8_habit : MethodName := ⟨RX8, "habit", "(IIII)I"⟩
abbrev cX8_span : ByteArray := prog_10_method_40_code
def yX8_span : MethodName := ⟨RX8, "span", "(IIZ)I"⟩
abbrev cX8_count : ByteArray := prog_10_method_41_code
def yX8_count : MethodName := ⟨RX8, "count", "(I)I"⟩
def RJx145de : String := "java/io/Serializable"
def TJx145de : u_T := fun k => match k with
  | _ => ("", "", "", false)
def tyJx145de : Nat → FieldType := fun k => match k with
  | _ => .int
abbrev wsJx145de0 : List Cond := u_ws RJx145de TJx145de 0
theorem nmJx145de : ∀ a, a < 0 → ∀ b, b < 0 → a ≠ b → (TJx145de a).2.1 ≠ (TJx145de b).2.1 := by decide +kernel
theorem tyJx145de_ok : ∀ k, k < 0 → parseFieldDescriptor (TJx145de k).2.2.1 = some (tyJx145de k) := by decide +kernel
def RJx8e188 : String := "java/lang/Cloneable"
def TJx8e188 : u_T := fun k => match k with
  | _ => ("", "", "", false)
def tyJx8e188 : Nat → FieldType := fun k => match k with
  | _ => .int
abbrev wsJx8e1880 : List Cond := u_ws RJx8e188 TJx8e188 0
theorem nmJx8e188 : ∀ a, a < 0 → ∀ b, b < 0 → a ≠ b → (TJx8e188 a).2.1 ≠ (TJx8e188 b).2.1 := by decide +kernel
theorem tyJx8e188_ok : ∀ k, k < 0 → parseFieldDescriptor (TJx8e188 k).2.2.1 = some (tyJx8e188 k) := by decide +kernel
def RJxab1ab : String := "java/lang/Iterable"
def TJxab1ab : u_T := fun k => match k with
  | _ => ("", "", "", false)
def tyJxab1ab : Nat → FieldType := fun k => match k with
  | _ => .int
abbrev wsJxab1ab0 : List Cond := u_ws RJxab1ab TJxab1ab 0
theorem nmJxab1ab : ∀ a, a < 0 → ∀ b, b < 0 → a ≠ b → (TJxab1ab a).2.1 ≠ (TJxab1ab b).2.1 := by decide +kernel
theorem tyJxab1ab_ok : ∀ k, k < 0 → parseFieldDescriptor (TJxab1ab k).2.2.1 = some (tyJxab1ab k) := by decide +kernel
def RJ9 : String := "java/lang/Math"
def TJ9 : u_T := fun k => match k with
  | _ => ("", "", "", false)
def tyJ9 : Nat → FieldType := fun k => match k with
  | _ => .int
abbrev wsJ90 : List Cond := u_ws RJ9 TJ9 0
theorem nmJ9 : ∀ a, a < 0 → ∀ b, b < 0 → a ≠ b → (TJ9 a).2.1 ≠ (TJ9 b).2.1 := by decide +kernel
theorem tyJ9_ok : ∀ k, k < 0 → parseFieldDescriptor (TJ9 k).2.2.1 = some (tyJ9 k) := by decide +kernel
abbrev cJ9_abs_0f7a4 : ByteArray := prog_15_method_59_code
def yJ9_abs_0f7a4 : MethodName := ⟨RJ9, "abs", "(I)I"⟩
abbrev cJ9_max_7cf53 : ByteArray := prog_15_method_65_code
def yJ9_max_7cf53 : MethodName := ⟨RJ9, "max", "(II)I"⟩
abbrev cJ9_min_7cf53 : ByteArray := prog_15_method_69_code
def yJ9_min_7cf53 : MethodName := ⟨RJ9, "min", "(II)I"⟩
def RJ10 : String := "java/lang/System"
def TJ10 : u_T := fun k => match k with
  | _ => ("", "", "", false)
def tyJ10 : Nat → FieldType := fun k => match k with
  | _ => .int
abbrev wsJ100 : List Cond := u_ws RJ10 TJ10 0
theorem nmJ10 : ∀ a, a < 0 → ∀ b, b < 0 → a ≠ b → (TJ10 a).2.1 ≠ (TJ10 b).2.1 := by decide +kernel
theorem tyJ10_ok : ∀ k, k < 0 → parseFieldDescriptor (TJ10 k).2.2.1 = some (tyJ10 k) := by decide +kernel
def RJxa1e45 : String := "java/util/AbstractCollection"
def TJxa1e45 : u_T := fun k => match k with
  | _ => ("", "", "", false)
def tyJxa1e45 : Nat → FieldType := fun k => match k with
  | _ => .int
abbrev wsJxa1e450 : List Cond := u_ws RJxa1e45 TJxa1e45 0
theorem nmJxa1e45 : ∀ a, a < 0 → ∀ b, b < 0 → a ≠ b → (TJxa1e45 a).2.1 ≠ (TJxa1e45 b).2.1 := by decide +kernel
theorem tyJxa1e45_ok : ∀ k, k < 0 → parseFieldDescriptor (TJxa1e45 k).2.2.1 = some (tyJxa1e45 k) := by decide +kernel
abbrev cJxa1e45_init_da8c8 : ByteArray := prog_19_method_1_code
def yJxa1e45_init_da8c8 : MethodName := ⟨RJxa1e45, "<init>", "()V"⟩
def RJxc12de : String := "java/util/AbstractList"
def TJxc12de : u_T := fun k => match k with
  | _ => ("", "", "", false)
def tyJxc12de : Nat → FieldType := fun k => match k with
  | _ => .int
abbrev wsJxc12de0 : List Cond := u_ws RJxc12de TJxc12de 0
theorem nmJxc12de : ∀ a, a < 0 → ∀ b, b < 0 → a ≠ b → (TJxc12de a).2.1 ≠ (TJxc12de b).2.1 := by decide +kernel
theorem tyJxc12de_ok : ∀ k, k < 0 → parseFieldDescriptor (TJxc12de k).2.2.1 = some (tyJxc12de k) := by decide +kernel
abbrev cJxc12de_init_da8c8 : ByteArray := prog_20_method_1_code
def yJxc12de_init_da8c8 : MethodName := ⟨RJxc12de, "<init>", "()V"⟩
def RJx4a65c : String := "java/util/ArrayList"
def TJx4a65c : u_T := fun k => match k with
  | 0 => ("java/util/AbstractList", "modCount", "I", false)
  | 1 => ("java/util/ArrayList", "elementData", "[Ljava/lang/Object;", false)
  | _ => ("java/util/ArrayList", "size", "I", false)
def tyJx4a65c : Nat → FieldType := fun k => match k with
  | 0 => .int
  | 1 => .array (.object "java/lang/Object")
  | _ => .int
abbrev wsJx4a65c0 : List Cond := u_ws RJx4a65c TJx4a65c 3
theorem nmJx4a65c : ∀ a, a < 3 → ∀ b, b < 3 → a ≠ b → (TJx4a65c a).2.1 ≠ (TJx4a65c b).2.1 := by decide +kernel
theorem tyJx4a65c_ok : ∀ k, k < 3 → parseFieldDescriptor (TJx4a65c k).2.2.1 = some (tyJx4a65c k) := by decide +kernel
abbrev cJx4a65c_init_da8c8 : ByteArray := prog_21_method_2_code
def yJx4a65c_init_da8c8 : MethodName := ⟨RJx4a65c, "<init>", "()V"⟩
abbrev cJx4a65c_grow_92f84 : ByteArray := prog_21_method_6_code
def yJx4a65c_grow_92f84 : MethodName := ⟨RJx4a65c, "grow", "(I)[Ljava/lang/Object;"⟩
abbrev cJx4a65c_grow_d5877 : ByteArray := prog_21_method_7_code
def yJx4a65c_grow_d5877 : MethodName := ⟨RJx4a65c, "grow", "()[Ljava/lang/Object;"⟩
abbrev cJx4a65c_size_8abf5 : ByteArray := prog_21_method_8_code
def yJx4a65c_size_8abf5 : MethodName := ⟨RJx4a65c, "size", "()I"⟩
abbrev cJx4a65c_elementData_915e3 : ByteArray := prog_21_method_18_code
def yJx4a65c_elementData_915e3 : MethodName := ⟨RJx4a65c, "elementData", "(I)Ljava/lang/Object;"⟩
abbrev cJx4a65c_get_915e3 : ByteArray := prog_21_method_20_code
def yJx4a65c_get_915e3 : MethodName := ⟨RJx4a65c, "get", "(I)Ljava/lang/Object;"⟩
abbrev cJx4a65c_add_72be8 : ByteArray := prog_21_method_24_code
def yJx4a65c_add_72be8 : MethodName := ⟨RJx4a65c, "add", "(Ljava/lang/Object;[Ljava/lang/Object;I)V"⟩
abbrev cJx4a65c_add_9ea2d : ByteArray := prog_21_method_25_code
def yJx4a65c_add_9ea2d : MethodName := ⟨RJx4a65c, "add", "(Ljava/lang/Object;)Z"⟩
abbrev cJx4a65c_clear_da8c8 : ByteArray := prog_21_method_40_code
def yJx4a65c_clear_da8c8 : MethodName := ⟨RJx4a65c, "clear", "()V"⟩
def RJ7 : String := "java/util/Arrays"
def TJ7 : u_T := fun k => match k with
  | _ => ("", "", "", false)
def tyJ7 : Nat → FieldType := fun k => match k with
  | _ => .int
abbrev wsJ70 : List Cond := u_ws RJ7 TJ7 0
theorem nmJ7 : ∀ a, a < 0 → ∀ b, b < 0 → a ≠ b → (TJ7 a).2.1 ≠ (TJ7 b).2.1 := by decide +kernel
theorem tyJ7_ok : ∀ k, k < 0 → parseFieldDescriptor (TJ7 k).2.2.1 = some (tyJ7 k) := by decide +kernel
abbrev cJ7_copyOf_1904c : ByteArray := prog_22_method_119_code
def yJ7_copyOf_1904c : MethodName := ⟨RJ7, "copyOf", "([Ljava/lang/Object;I)[Ljava/lang/Object;"⟩
abbrev cJ7_copyOf_6403c : ByteArray := prog_22_method_120_code
def yJ7_copyOf_6403c : MethodName := ⟨RJ7, "copyOf", "([Ljava/lang/Object;ILjava/lang/Class;)[Ljava/lang/Object;"⟩
def RJx5ef63 : String := "java/util/Collection"
def TJx5ef63 : u_T := fun k => match k with
  | _ => ("", "", "", false)
def tyJx5ef63 : Nat → FieldType := fun k => match k with
  | _ => .int
abbrev wsJx5ef630 : List Cond := u_ws RJx5ef63 TJx5ef63 0
theorem nmJx5ef63 : ∀ a, a < 0 → ∀ b, b < 0 → a ≠ b → (TJx5ef63 a).2.1 ≠ (TJx5ef63 b).2.1 := by decide +kernel
theorem tyJx5ef63_ok : ∀ k, k < 0 → parseFieldDescriptor (TJx5ef63 k).2.2.1 = some (tyJx5ef63 k) := by decide +kernel
def RJxbd725 : String := "java/util/List"
def TJxbd725 : u_T := fun k => match k with
  | _ => ("", "", "", false)
def tyJxbd725 : Nat → FieldType := fun k => match k with
  | _ => .int
abbrev wsJxbd7250 : List Cond := u_ws RJxbd725 TJxbd725 0
theorem nmJxbd725 : ∀ a, a < 0 → ∀ b, b < 0 → a ≠ b → (TJxbd725 a).2.1 ≠ (TJxbd725 b).2.1 := by decide +kernel
theorem tyJxbd725_ok : ∀ k, k < 0 → parseFieldDescriptor (TJxbd725 k).2.2.1 = some (tyJxbd725 k) := by decide +kernel
def RJ15 : String := "java/util/Objects"
def TJ15 : u_T := fun k => match k with
  | _ => ("", "", "", false)
def tyJ15 : Nat → FieldType := fun k => match k with
  | _ => .int
abbrev wsJ150 : List Cond := u_ws RJ15 TJ15 0
theorem nmJ15 : ∀ a, a < 0 → ∀ b, b < 0 → a ≠ b → (TJ15 a).2.1 ≠ (TJ15 b).2.1 := by decide +kernel
theorem tyJ15_ok : ∀ k, k < 0 → parseFieldDescriptor (TJ15 k).2.2.1 = some (tyJ15 k) := by decide +kernel
abbrev cJ15_checkIndex_7cf53 : ByteArray := prog_26_method_17_code
def yJ15_checkIndex_7cf53 : MethodName := ⟨RJ15, "checkIndex", "(II)I"⟩
def RJxf0a74 : String := "java/util/RandomAccess"
def TJxf0a74 : u_T := fun k => match k with
  | _ => ("", "", "", false)
def tyJxf0a74 : Nat → FieldType := fun k => match k with
  | _ => .int
abbrev wsJxf0a740 : List Cond := u_ws RJxf0a74 TJxf0a74 0
theorem nmJxf0a74 : ∀ a, a < 0 → ∀ b, b < 0 → a ≠ b → (TJxf0a74 a).2.1 ≠ (TJxf0a74 b).2.1 := by decide +kernel
theorem tyJxf0a74_ok : ∀ k, k < 0 → parseFieldDescriptor (TJxf0a74 k).2.2.1 = some (tyJxf0a74 k) := by decide +kernel
def RJxa66e6 : String := "java/util/SequencedCollection"
def TJxa66e6 : u_T := fun k => match k with
  | _ => ("", "", "", false)
def tyJxa66e6 : Nat → FieldType := fun k => match k with
  | _ => .int
abbrev wsJxa66e60 : List Cond := u_ws RJxa66e6 TJxa66e6 0
theorem nmJxa66e6 : ∀ a, a < 0 → ∀ b, b < 0 → a ≠ b → (TJxa66e6 a).2.1 ≠ (TJxa66e6 b).2.1 := by decide +kernel
theorem tyJxa66e6_ok : ∀ k, k < 0 → parseFieldDescriptor (TJxa66e6 k).2.2.1 = some (tyJxa66e6 k) := by decide +kernel
def RJ8 : String := "jdk/internal/util/ArraysSupport"
def TJ8 : u_T := fun k => match k with
  | _ => ("", "", "", false)
def tyJ8 : Nat → FieldType := fun k => match k with
  | _ => .int
abbrev wsJ80 : List Cond := u_ws RJ8 TJ8 0
theorem nmJ8 : ∀ a, a < 0 → ∀ b, b < 0 → a ≠ b → (TJ8 a).2.1 ≠ (TJ8 b).2.1 := by decide +kernel
theorem tyJ8_ok : ∀ k, k < 0 → parseFieldDescriptor (TJ8 k).2.2.1 = some (tyJ8 k) := by decide +kernel
abbrev cJ8_newLength_cabcc : ByteArray := prog_29_method_27_code
def yJ8_newLength_cabcc : MethodName := ⟨RJ8, "newLength", "(III)I"⟩
abbrev cJ8_hugeLength_7cf53 : ByteArray := prog_29_method_28_code
def yJ8_hugeLength_7cf53 : MethodName := ⟨RJ8, "hugeLength", "(II)I"⟩
def RJ3 : String := "jdk/internal/util/Preconditions"
def TJ3 : u_T := fun k => match k with
  | _ => ("", "", "", false)
def tyJ3 : Nat → FieldType := fun k => match k with
  | _ => .int
abbrev wsJ30 : List Cond := u_ws RJ3 TJ3 0
theorem nmJ3 : ∀ a, a < 0 → ∀ b, b < 0 → a ≠ b → (TJ3 a).2.1 ≠ (TJ3 b).2.1 := by decide +kernel
theorem tyJ3_ok : ∀ k, k < 0 → parseFieldDescriptor (TJ3 k).2.2.1 = some (tyJ3 k) := by decide +kernel
abbrev cJ3_checkIndex_8e157 : ByteArray := prog_30_method_11_code
def yJ3_checkIndex_8e157 : MethodName := ⟨RJ3, "checkIndex", "(IILjava/util/function/BiFunction;)I"⟩
def RL : String := "TuneHouseLaw"
abbrev cL_at : ByteArray := method_3_code
def yL_at : MethodName := ⟨RL, "at", "(LTuneHouse;IIII[J)I"⟩
abbrev cL_law : ByteArray := code
def yL_law : MethodName := ⟨RL, "law", "([I)Z"⟩
abbrev vwCl : List vw_C := [(RJx4a65c, TJx4a65c, 3), (RX0, TX0, 7), (RX1, TX1, 4), (RX2, TX2, 4), (RX3, TX3, 2), (RX4, TX4, 1), (RX5, TX5, 9), (RX6, TX6, 3), (RX7, TX7, 10), (RX8, TX8, 35)]
/-! the words, all of them good ones -/
def TB : List Cond := lw_tbl.filter goodWord
theorem TB_in {w : Cond} (n : Nat) (h : lw_tbl[n]? = some w) (g : goodWord w = true) : w ∈ TB := List.mem_filter.mpr ⟨List.mem_of_getElem? h, g⟩
theorem TB_good : ∀ w ∈ TB, (w.onTables && w.keeps) = true ∨ ∃ ty, w = .arrayClass ty := fun _ h => good_of_word (List.mem_filter.mp h).2
/-! words of the launch that a callee takes with its state -/
def isN : Cond → Bool
  | .methodLinkNest _ _ _ _ => true
  | .fieldLinkNest _ _ _ _ _ _ => true
  | .castable _ _ => true
  | .declares _ => true
  | _ => false
def NB : List Cond := lw_tbl.filter isN
theorem NB_in {w : Cond} (n : Nat) (h : lw_tbl[n]? = some w) (g : isN w = true) : w ∈ NB := List.mem_filter.mpr ⟨List.mem_of_getElem? h, g⟩
theorem kw_s0 : Cond.selects "java/util/ArrayList" yJx4a65c_add_72be8 yJx4a65c_add_72be8 ∈ TB := TB_in 0 (by decide +kernel) (by decide +kernel)
theorem kw_s1 : Cond.selects "java/util/ArrayList" yJx4a65c_grow_d5877 yJx4a65c_grow_d5877 ∈ TB := TB_in 1 (by decide +kernel) (by decide +kernel)
theorem kw_s2 : Cond.selects "java/util/ArrayList" yJx4a65c_grow_92f84 yJx4a65c_grow_92f84 ∈ TB := TB_in 2 (by decide +kernel) (by decide +kernel)
theorem kw_s3 : Cond.selects "TuneHouse" yX7_find yX7_find ∈ TB := TB_in 3 (by decide +kernel) (by decide +kernel)
theorem kw_s4 : Cond.selects "TuneHouse" yX7_isPair yX7_isPair ∈ TB := TB_in 4 (by decide +kernel) (by decide +kernel)
theorem kw_s5 : Cond.selects "TuneHouse" yX7_isDay yX7_isDay ∈ TB := TB_in 5 (by decide +kernel) (by decide +kernel)
theorem kw_s6 : Cond.selects "TuneHouse" yX7_turnTo yX7_turnTo ∈ TB := TB_in 6 (by decide +kernel) (by decide +kernel)
theorem kw_s7 : Cond.selects "TuneHouse$Sheet" yX5_amendedBy yX5_amendedBy ∈ TB := TB_in 7 (by decide +kernel) (by decide +kernel)
theorem kw_s8 : Cond.selects "TuneHouse$Likeness" yX2_learn yX2_learn ∈ TB := TB_in 8 (by decide +kernel) (by decide +kernel)
theorem kw_s9 : Cond.selects "TuneHouse$Aligner" yX0_fillFirstRow yX0_fillFirstRow ∈ TB := TB_in 9 (by decide +kernel) (by decide +kernel)
theorem kw_s10 : Cond.selects "TuneHouse" yX7_layOut yX7_layOut ∈ TB := TB_in 10 (by decide +kernel) (by decide +kernel)
theorem kw_s11 : Cond.selects "TuneHouse$Aligner" yX0_takesTwo yX0_takesTwo ∈ TB := TB_in 11 (by decide +kernel) (by decide +kernel)
theorem kw_s12 : Cond.selects "TuneHouse$Aligner" yX0_put yX0_put ∈ TB := TB_in 12 (by decide +kernel) (by decide +kernel)
theorem kw_s13 : Cond.selects "TuneHouse$Aligner" yX0_takesOne yX0_takesOne ∈ TB := TB_in 13 (by decide +kernel) (by decide +kernel)
theorem kw_s14 : Cond.selects "TuneHouse" yX7_gather yX7_gather ∈ TB := TB_in 14 (by decide +kernel) (by decide +kernel)
theorem kw_s15 : Cond.selects "TuneHouse" yX7_findTrue yX7_findTrue ∈ TB := TB_in 15 (by decide +kernel) (by decide +kernel)
theorem kw_s16 : Cond.selects "TuneHouse" yX7_addLinked yX7_addLinked ∈ TB := TB_in 16 (by decide +kernel) (by decide +kernel)
theorem kw_s17 : Cond.selects "TuneHouse" yX7_isGathered yX7_isGathered ∈ TB := TB_in 17 (by decide +kernel) (by decide +kernel)
theorem kw_s18 : Cond.selects "TuneHouse" yX7_sourceOf yX7_sourceOf ∈ TB := TB_in 18 (by decide +kernel) (by decide +kernel)
theorem kw_s19 : Cond.selects "TuneHouse" yX7_changesOf yX7_changesOf ∈ TB := TB_in 19 (by decide +kernel) (by decide +kernel)
theorem kw_s20 : Cond.selects "TuneHouse" yX7_rivalsOf yX7_rivalsOf ∈ TB := TB_in 20 (by decide +kernel) (by decide +kernel)
theorem kw_s21 : Cond.selects "TuneHouse" yX7_habitIn yX7_habitIn ∈ TB := TB_in 21 (by decide +kernel) (by decide +kernel)
theorem kw_s22 : Cond.selects "TuneHouse$Aligner" yX0_isMeeting yX0_isMeeting ∈ TB := TB_in 22 (by decide +kernel) (by decide +kernel)
theorem kw_s23 : Cond.selects "java/lang/Throwable" ⟨"java/lang/Throwable", "fillInStackTrace", "(I)Ljava/lang/Throwable;"⟩ ⟨"java/lang/Throwable", "fillInStackTrace", "(I)Ljava/lang/Throwable;"⟩ ∈ TB := TB_in 23 (by decide +kernel) (by decide +kernel)
theorem kw_s24 : Cond.selects "TuneHouseModel" yX8_isSheet yX8_isSheet ∈ TB := TB_in 24 (by decide +kernel) (by decide +kernel)
theorem kw_s25 : Cond.selects "TuneHouseModel" yX8_isDay yX8_isDay ∈ TB := TB_in 25 (by decide +kernel) (by decide +kernel)
theorem kw_s26 : Cond.selects "TuneHouseModel" yX8_known yX8_known ∈ TB := TB_in 26 (by decide +kernel) (by decide +kernel)
theorem kw_s27 : Cond.selects "TuneHouseModel" yX8_isPair yX8_isPair ∈ TB := TB_in 27 (by decide +kernel) (by decide +kernel)
theorem kw_s28 : Cond.selects "TuneHouseModel" yX8_far yX8_far ∈ TB := TB_in 28 (by decide +kernel) (by decide +kernel)
theorem kw_s29 : Cond.selects "TuneHouseModel" yX8_ready yX8_ready ∈ TB := TB_in 29 (by decide +kernel) (by decide +kernel)
theorem kw_s30 : Cond.selects "TuneHouseModel" yX8_lay yX8_lay ∈ TB := TB_in 30 (by decide +kernel) (by decide +kernel)
theorem kw_s31 : Cond.selects "TuneHouseModel" yX8_ofTwo yX8_ofTwo ∈ TB := TB_in 31 (by decide +kernel) (by decide +kernel)
theorem kw_s32 : Cond.selects "TuneHouseModel" yX8_alone yX8_alone ∈ TB := TB_in 32 (by decide +kernel) (by decide +kernel)
theorem kw_s33 : Cond.selects "TuneHouseModel" yX8_align yX8_align ∈ TB := TB_in 33 (by decide +kernel) (by decide +kernel)
theorem kw_s34 : Cond.selects "TuneHouseModel" yX8_families yX8_families ∈ TB := TB_in 34 (by decide +kernel) (by decide +kernel)
theorem kw_s35 : Cond.selects "TuneHouseModel" yX8_isForged yX8_isForged ∈ TB := TB_in 35 (by decide +kernel) (by decide +kernel)
theorem kw_s36 : Cond.selects "TuneHouseModel" yX8_isAsked yX8_isAsked ∈ TB := TB_in 36 (by decide +kernel) (by decide +kernel)
theorem kw_s37 : Cond.selects "TuneHouseModel" yX8_sourceOf yX8_sourceOf ∈ TB := TB_in 37 (by decide +kernel) (by decide +kernel)
theorem kw_s38 : Cond.selects "TuneHouseModel" yX8_isEarlier yX8_isEarlier ∈ TB := TB_in 38 (by decide +kernel) (by decide +kernel)
theorem kw_s39 : Cond.selects "TuneHouseModel" yX8_changesOf yX8_changesOf ∈ TB := TB_in 39 (by decide +kernel) (by decide +kernel)
theorem kw_0 : Cond.initialized "TuneHouseLaw" ∈ TB := TB_in 40 (by decide +kernel) (by decide +kernel)
theorem kw_1 : Cond.initialized "TuneHouse" ∈ TB := TB_in 41 (by decide +kernel) (by decide +kernel)
theorem kw_2 : Cond.initialized "TuneHouse$Prices" ∈ TB := TB_in 42 (by decide +kernel) (by decide +kernel)
theorem kw_3 : Cond.initialized "TuneHouse$Aligner" ∈ TB := TB_in 43 (by decide +kernel) (by decide +kernel)
theorem kw_4 : Cond.initialized "TuneHouse$Likeness" ∈ TB := TB_in 44 (by decide +kernel) (by decide +kernel)
theorem kw_5 : Cond.initialized "java/util/AbstractCollection" ∈ TB := TB_in 45 (by decide +kernel) (by decide +kernel)
theorem kw_6 : Cond.initialized "java/util/AbstractList" ∈ TB := TB_in 46 (by decide +kernel) (by decide +kernel)
theorem kw_7 : Cond.initialized "java/util/ArrayList" ∈ TB := TB_in 47 (by decide +kernel) (by decide +kernel)
theorem kw_8 : Cond.initialized "TuneHouseModel" ∈ TB := TB_in 48 (by decide +kernel) (by decide +kernel)
theorem kw_9 : Cond.initialized "TuneHouse$Sheet" ∈ TB := TB_in 49 (by decide +kernel) (by decide +kernel)
theorem kw_10 : Cond.initialized "TuneHouse$Tune" ∈ TB := TB_in 50 (by decide +kernel) (by decide +kernel)
theorem kw_11 : Cond.initialized "jdk/internal/util/ArraysSupport" ∈ TB := TB_in 51 (by decide +kernel) (by decide +kernel)
theorem kw_12 : Cond.initialized "java/lang/Math" ∈ TB := TB_in 52 (by decide +kernel) (by decide +kernel)
theorem kw_13 : Cond.initialized "java/util/Arrays" ∈ TB := TB_in 53 (by decide +kernel) (by decide +kernel)
theorem kw_14 : Cond.initialized "java/lang/System" ∈ TB := TB_in 54 (by decide +kernel) (by decide +kernel)
theorem kw_15 : Cond.initialized "java/util/Objects" ∈ TB := TB_in 55 (by decide +kernel) (by decide +kernel)
theorem kw_16 : Cond.initialized "jdk/internal/util/Preconditions" ∈ TB := TB_in 56 (by decide +kernel) (by decide +kernel)
theorem kw_17 : Cond.initialized "TuneHouse$Correction" ∈ TB := TB_in 57 (by decide +kernel) (by decide +kernel)
theorem kw_18 : Cond.initialized "TuneHouse$Pair" ∈ TB := TB_in 58 (by decide +kernel) (by decide +kernel)
theorem kw_19 : Cond.initialized "java/lang/Throwable" ∈ TB := TB_in 59 (by decide +kernel) (by decide +kernel)
theorem kw_20 : Cond.initialized "java/lang/Exception" ∈ TB := TB_in 60 (by decide +kernel) (by decide +kernel)
theorem kw_21 : Cond.initialized "java/lang/RuntimeException" ∈ TB := TB_in 61 (by decide +kernel) (by decide +kernel)
theorem kw_22 : Cond.initialized "java/util/NoSuchElementException" ∈ TB := TB_in 62 (by decide +kernel) (by decide +kernel)
theorem kw_23 : Cond.classLink "TuneHouseLaw" 8 "TuneHouse" ∈ TB := TB_in 63 (by decide +kernel) (by decide +kernel)
theorem kw_24 : Cond.instantiable "TuneHouse" 10 ∈ TB := TB_in 64 (by decide +kernel) (by decide +kernel)
theorem kw_25 : Cond.methodLink "TuneHouseLaw" 15 yX7_init ∈ TB := TB_in 65 (by decide +kernel) (by decide +kernel)
theorem kw_26 : Cond.instanceMethod yX7_init ∈ TB := TB_in 66 (by decide +kernel) (by decide +kernel)
theorem kw_27 : Cond.code yX7_init cX7_init 1 none ∈ TB := TB_in 67 (by decide +kernel) (by decide +kernel)
theorem kw_28 : Cond.methodLink "TuneHouse" 5 ⟨"java/lang/Object", "<init>", "()V"⟩ ∈ TB := TB_in 68 (by decide +kernel) (by decide +kernel)
theorem kw_29 : Cond.instanceMethod ⟨"java/lang/Object", "<init>", "()V"⟩ ∈ TB := TB_in 69 (by decide +kernel) (by decide +kernel)
theorem kw_30 : Cond.code ⟨"java/lang/Object", "<init>", "()V"⟩ object_method_1_code 1 none ∈ TB := TB_in 70 (by decide +kernel) (by decide +kernel)
theorem kw_31 : Cond.classLink "TuneHouse" 11 "TuneHouse$Prices" ∈ TB := TB_in 71 (by decide +kernel) (by decide +kernel)
theorem kw_32 : Cond.instantiable "TuneHouse$Prices" 1 ∈ TB := TB_in 72 (by decide +kernel) (by decide +kernel)
theorem kn_33 : Cond.methodLinkNest "TuneHouse" 13 yX4_init "TuneHouse" ∈ NB := NB_in 73 (by decide +kernel) rfl
theorem kw_34 : Cond.instanceMethod yX4_init ∈ TB := TB_in 74 (by decide +kernel) (by decide +kernel)
theorem kw_35 : Cond.code yX4_init cX4_init 1 none ∈ TB := TB_in 75 (by decide +kernel) (by decide +kernel)
theorem kw_36 : Cond.methodLink "TuneHouse$Prices" 3 ⟨"java/lang/Object", "<init>", "()V"⟩ ∈ TB := TB_in 76 (by decide +kernel) (by decide +kernel)
theorem kw_37 : Cond.fieldLink "TuneHouse$Prices" 9 "TuneHouse$Prices" "coins" "[I" ∈ TB := TB_in 77 (by decide +kernel) (by decide +kernel)
theorem kw_41 : Cond.arrayClass FieldType.int ∈ TB := TB_in 81 (by decide +kernel) (by decide +kernel)
theorem kw_42 : Cond.classLink "TuneHouse" 18 "TuneHouse$Aligner" ∈ TB := TB_in 82 (by decide +kernel) (by decide +kernel)
theorem kw_43 : Cond.instantiable "TuneHouse$Aligner" 7 ∈ TB := TB_in 83 (by decide +kernel) (by decide +kernel)
theorem kw_44 : Cond.methodLink "TuneHouse" 20 yX0_init ∈ TB := TB_in 84 (by decide +kernel) (by decide +kernel)
theorem kw_45 : Cond.instanceMethod yX0_init ∈ TB := TB_in 85 (by decide +kernel) (by decide +kernel)
theorem kw_46 : Cond.code yX0_init cX0_init 2 none ∈ TB := TB_in 86 (by decide +kernel) (by decide +kernel)
theorem kw_47 : Cond.methodLink "TuneHouse$Aligner" 3 ⟨"java/lang/Object", "<init>", "()V"⟩ ∈ TB := TB_in 87 (by decide +kernel) (by decide +kernel)
theorem kw_48 : Cond.classLink "TuneHouse$Aligner" 9 "[[I" ∈ TB := TB_in 88 (by decide +kernel) (by decide +kernel)
theorem kw_50 : Cond.fieldLink "TuneHouse$Aligner" 26 "TuneHouse$Aligner" "prices" "LTuneHouse$Prices;" ∈ TB := TB_in 90 (by decide +kernel) (by decide +kernel)
theorem kw_51 : Cond.fieldLink "TuneHouse$Aligner" 11 "TuneHouse$Aligner" "sums" "[[I" ∈ TB := TB_in 91 (by decide +kernel) (by decide +kernel)
theorem kw_52 : Cond.fieldLink "TuneHouse$Aligner" 16 "TuneHouse$Aligner" "ofT" "[I" ∈ TB := TB_in 92 (by decide +kernel) (by decide +kernel)
theorem kw_53 : Cond.fieldLink "TuneHouse$Aligner" 20 "TuneHouse$Aligner" "ofU" "[I" ∈ TB := TB_in 93 (by decide +kernel) (by decide +kernel)
theorem kw_54 : Cond.fieldLink "TuneHouse$Aligner" 23 "TuneHouse$Aligner" "costs" "[I" ∈ TB := TB_in 94 (by decide +kernel) (by decide +kernel)
theorem kw_55 : Cond.fieldLink "TuneHouse$Aligner" 64 "TuneHouse$Aligner" "columns" "I" ∈ TB := TB_in 95 (by decide +kernel) (by decide +kernel)
theorem kw_56 : Cond.fieldLink "TuneHouse$Aligner" 61 "TuneHouse$Aligner" "laidKey" "I" ∈ TB := TB_in 96 (by decide +kernel) (by decide +kernel)
theorem kw_72 : Cond.classLink "TuneHouse" 27 "TuneHouse$Likeness" ∈ TB := TB_in 112 (by decide +kernel) (by decide +kernel)
theorem kw_73 : Cond.instantiable "TuneHouse$Likeness" 4 ∈ TB := TB_in 113 (by decide +kernel) (by decide +kernel)
theorem kw_74 : Cond.methodLink "TuneHouse" 29 yX2_init ∈ TB := TB_in 114 (by decide +kernel) (by decide +kernel)
theorem kw_75 : Cond.instanceMethod yX2_init ∈ TB := TB_in 115 (by decide +kernel) (by decide +kernel)
theorem kw_76 : Cond.code yX2_init cX2_init 2 none ∈ TB := TB_in 116 (by decide +kernel) (by decide +kernel)
theorem kw_77 : Cond.methodLink "TuneHouse$Likeness" 3 ⟨"java/lang/Object", "<init>", "()V"⟩ ∈ TB := TB_in 117 (by decide +kernel) (by decide +kernel)
theorem kw_78 : Cond.fieldLink "TuneHouse$Likeness" 22 "TuneHouse$Likeness" "aligner" "LTuneHouse$Aligner;" ∈ TB := TB_in 118 (by decide +kernel) (by decide +kernel)
theorem kw_79 : Cond.fieldLink "TuneHouse$Likeness" 9 "TuneHouse$Likeness" "isKept" "[Z" ∈ TB := TB_in 119 (by decide +kernel) (by decide +kernel)
theorem kw_80 : Cond.fieldLink "TuneHouse$Likeness" 15 "TuneHouse$Likeness" "sums" "[I" ∈ TB := TB_in 120 (by decide +kernel) (by decide +kernel)
theorem kw_81 : Cond.fieldLink "TuneHouse$Likeness" 19 "TuneHouse$Likeness" "keys" "[I" ∈ TB := TB_in 121 (by decide +kernel) (by decide +kernel)
theorem kw_91 : Cond.arrayClass FieldType.boolean ∈ TB := TB_in 131 (by decide +kernel) (by decide +kernel)
theorem kw_92 : Cond.classLink "TuneHouse" 36 "java/util/ArrayList" ∈ TB := TB_in 132 (by decide +kernel) (by decide +kernel)
theorem kw_93 : Cond.instantiable "java/util/ArrayList" 3 ∈ TB := TB_in 133 (by decide +kernel) (by decide +kernel)
theorem kw_94 : Cond.methodLink "TuneHouse" 38 yJx4a65c_init_da8c8 ∈ TB := TB_in 134 (by decide +kernel) (by decide +kernel)
theorem kw_95 : Cond.instanceMethod yJx4a65c_init_da8c8 ∈ TB := TB_in 135 (by decide +kernel) (by decide +kernel)
theorem kw_96 : Cond.code yJx4a65c_init_da8c8 cJx4a65c_init_da8c8 1 none ∈ TB := TB_in 136 (by decide +kernel) (by decide +kernel)
theorem kw_97 : Cond.methodLink "java/util/ArrayList" 1 yJxc12de_init_da8c8 ∈ TB := TB_in 137 (by decide +kernel) (by decide +kernel)
theorem kw_98 : Cond.instanceMethod yJxc12de_init_da8c8 ∈ TB := TB_in 138 (by decide +kernel) (by decide +kernel)
theorem kw_99 : Cond.code yJxc12de_init_da8c8 cJxc12de_init_da8c8 1 none ∈ TB := TB_in 139 (by decide +kernel) (by decide +kernel)
theorem kw_100 : Cond.methodLink "java/util/AbstractList" 1 yJxa1e45_init_da8c8 ∈ TB := TB_in 140 (by decide +kernel) (by decide +kernel)
theorem kw_101 : Cond.instanceMethod yJxa1e45_init_da8c8 ∈ TB := TB_in 141 (by decide +kernel) (by decide +kernel)
theorem kw_102 : Cond.code yJxa1e45_init_da8c8 cJxa1e45_init_da8c8 1 none ∈ TB := TB_in 142 (by decide +kernel) (by decide +kernel)
theorem kw_103 : Cond.methodLink "java/util/AbstractCollection" 1 ⟨"java/lang/Object", "<init>", "()V"⟩ ∈ TB := TB_in 143 (by decide +kernel) (by decide +kernel)
theorem kw_104 : Cond.fieldLink "java/util/ArrayList" 39 "java/util/ArrayList" "DEFAULTCAPACITY_EMPTY_ELEMENTDATA" "[Ljava/lang/Object;" ∈ TB := TB_in 144 (by decide +kernel) (by decide +kernel)
theorem kw_106 : Cond.fieldLink "java/util/ArrayList" 9 "java/util/ArrayList" "elementData" "[Ljava/lang/Object;" ∈ TB := TB_in 146 (by decide +kernel) (by decide +kernel)
theorem kw_107 : Cond.fieldLink "java/util/ArrayList" 48 "java/util/ArrayList" "size" "I" ∈ TB := TB_in 147 (by decide +kernel) (by decide +kernel)
theorem kw_108 : Cond.fieldLink "java/util/AbstractList" 7 "java/util/AbstractList" "modCount" "I" ∈ TB := TB_in 148 (by decide +kernel) (by decide +kernel)
theorem kw_109 : Cond.fieldLink "java/util/ArrayList" 63 "java/util/ArrayList" "modCount" "I" ∈ TB := TB_in 149 (by decide +kernel) (by decide +kernel)
theorem kw_110 : Cond.sameField "java/util/ArrayList" "java/util/AbstractList" "modCount" "I" ∈ TB := TB_in 150 (by decide +kernel) (by decide +kernel)
theorem kw_118 : Cond.fieldLink "TuneHouse" 14 "TuneHouse" "prices" "LTuneHouse$Prices;" ∈ TB := TB_in 158 (by decide +kernel) (by decide +kernel)
theorem kw_119 : Cond.fieldLink "TuneHouse" 23 "TuneHouse" "aligner" "LTuneHouse$Aligner;" ∈ TB := TB_in 159 (by decide +kernel) (by decide +kernel)
theorem kw_120 : Cond.fieldLink "TuneHouse" 32 "TuneHouse" "likeness" "LTuneHouse$Likeness;" ∈ TB := TB_in 160 (by decide +kernel) (by decide +kernel)
theorem kw_121 : Cond.fieldLink "TuneHouse" 39 "TuneHouse" "sheets" "Ljava/util/ArrayList;" ∈ TB := TB_in 161 (by decide +kernel) (by decide +kernel)
theorem kw_122 : Cond.fieldLink "TuneHouse" 43 "TuneHouse" "pairs" "Ljava/util/ArrayList;" ∈ TB := TB_in 162 (by decide +kernel) (by decide +kernel)
theorem kw_123 : Cond.fieldLink "TuneHouse" 46 "TuneHouse" "kinsfolk" "Ljava/util/ArrayList;" ∈ TB := TB_in 163 (by decide +kernel) (by decide +kernel)
theorem kw_124 : Cond.fieldLink "TuneHouse" 49 "TuneHouse" "now" "I" ∈ TB := TB_in 164 (by decide +kernel) (by decide +kernel)
theorem kw_125 : Cond.fieldLink "TuneHouse" 113 "TuneHouse" "forgeries" "I" ∈ TB := TB_in 165 (by decide +kernel) (by decide +kernel)
theorem kw_126 : Cond.fieldLink "TuneHouse" 87 "TuneHouse" "notesTold" "I" ∈ TB := TB_in 166 (by decide +kernel) (by decide +kernel)
theorem kw_127 : Cond.fieldLink "TuneHouse" 96 "TuneHouse" "corrections" "I" ∈ TB := TB_in 167 (by decide +kernel) (by decide +kernel)
theorem kw_149 : Cond.methodLink "TuneHouseLaw" 19 yX7_sheet ∈ TB := TB_in 189 (by decide +kernel) (by decide +kernel)
theorem kw_150 : Cond.instanceMethod yX7_sheet ∈ TB := TB_in 190 (by decide +kernel) (by decide +kernel)
theorem kw_151 : Cond.selects "TuneHouse" yX7_sheet yX7_sheet ∈ TB := TB_in 191 (by decide +kernel) (by decide +kernel)
theorem kw_152 : Cond.code yX7_sheet cX7_sheet 5 (some FieldType.int) ∈ TB := TB_in 192 (by decide +kernel) (by decide +kernel)
theorem kw_153 : Cond.methodLink "TuneHouse" 53 yJx4a65c_size_8abf5 ∈ TB := TB_in 193 (by decide +kernel) (by decide +kernel)
theorem kw_154 : Cond.instanceMethod yJx4a65c_size_8abf5 ∈ TB := TB_in 194 (by decide +kernel) (by decide +kernel)
theorem kw_155 : Cond.selects "java/util/ArrayList" yJx4a65c_size_8abf5 yJx4a65c_size_8abf5 ∈ TB := TB_in 195 (by decide +kernel) (by decide +kernel)
theorem kw_156 : Cond.code yJx4a65c_size_8abf5 cJx4a65c_size_8abf5 1 (some FieldType.int) ∈ TB := TB_in 196 (by decide +kernel) (by decide +kernel)
theorem kw_157 : Cond.methodLink "TuneHouse" 57 yX7_isHand ∈ TB := TB_in 197 (by decide +kernel) (by decide +kernel)
theorem kw_158 : Cond.static yX7_isHand ∈ TB := TB_in 198 (by decide +kernel) (by decide +kernel)
theorem kw_159 : Cond.code yX7_isHand cX7_isHand 1 (some FieldType.boolean) ∈ TB := TB_in 199 (by decide +kernel) (by decide +kernel)
theorem kw_160 : Cond.methodLink "TuneHouse" 61 yX7_isWithin ∈ TB := TB_in 200 (by decide +kernel) (by decide +kernel)
theorem kw_161 : Cond.static yX7_isWithin ∈ TB := TB_in 201 (by decide +kernel) (by decide +kernel)
theorem kw_162 : Cond.code yX7_isWithin cX7_isWithin 2 (some FieldType.boolean) ∈ TB := TB_in 202 (by decide +kernel) (by decide +kernel)
theorem kw_163 : Cond.methodLink "TuneHouse" 65 yX7_isWords ∈ TB := TB_in 203 (by decide +kernel) (by decide +kernel)
theorem kw_164 : Cond.static yX7_isWords ∈ TB := TB_in 204 (by decide +kernel) (by decide +kernel)
theorem kw_165 : Cond.code yX7_isWords cX7_isWords 1 (some FieldType.boolean) ∈ TB := TB_in 205 (by decide +kernel) (by decide +kernel)
theorem kw_166 : Cond.classLink "TuneHouse" 68 "TuneHouse$Sheet" ∈ TB := TB_in 206 (by decide +kernel) (by decide +kernel)
theorem kw_167 : Cond.instantiable "TuneHouse$Sheet" 9 ∈ TB := TB_in 207 (by decide +kernel) (by decide +kernel)
theorem kw_168 : Cond.methodLink "TuneHouse" 70 yX5_init ∈ TB := TB_in 208 (by decide +kernel) (by decide +kernel)
theorem kw_169 : Cond.instanceMethod yX5_init ∈ TB := TB_in 209 (by decide +kernel) (by decide +kernel)
theorem kw_170 : Cond.code yX5_init cX5_init 5 none ∈ TB := TB_in 210 (by decide +kernel) (by decide +kernel)
theorem kw_171 : Cond.methodLink "TuneHouse$Sheet" 3 ⟨"java/lang/Object", "<init>", "()V"⟩ ∈ TB := TB_in 211 (by decide +kernel) (by decide +kernel)
theorem kw_172 : Cond.classLink "TuneHouse$Sheet" 9 "TuneHouse$Tune" ∈ TB := TB_in 212 (by decide +kernel) (by decide +kernel)
theorem kw_173 : Cond.instantiable "TuneHouse$Tune" 3 ∈ TB := TB_in 213 (by decide +kernel) (by decide +kernel)
theorem kn_174 : Cond.methodLinkNest "TuneHouse$Sheet" 11 yX6_init "TuneHouse" ∈ NB := NB_in 214 (by decide +kernel) rfl
theorem kw_175 : Cond.instanceMethod yX6_init ∈ TB := TB_in 215 (by decide +kernel) (by decide +kernel)
theorem kw_176 : Cond.code yX6_init cX6_init 1 none ∈ TB := TB_in 216 (by decide +kernel) (by decide +kernel)
theorem kw_177 : Cond.methodLink "TuneHouse$Tune" 3 ⟨"java/lang/Object", "<init>", "()V"⟩ ∈ TB := TB_in 217 (by decide +kernel) (by decide +kernel)
theorem kw_178 : Cond.fieldLink "TuneHouse$Tune" 9 "TuneHouse$Tune" "pitches" "[I" ∈ TB := TB_in 218 (by decide +kernel) (by decide +kernel)
theorem kn_179 : Cond.fieldLinkNest "TuneHouse$Aligner" 46 "TuneHouse$Tune" "pitches" "[I" "TuneHouse" ∈ NB := NB_in 219 (by decide +kernel) rfl
theorem kw_180 : Cond.fieldLink "TuneHouse$Tune" 15 "TuneHouse$Tune" "beats" "[I" ∈ TB := TB_in 220 (by decide +kernel) (by decide +kernel)
theorem kn_181 : Cond.fieldLinkNest "TuneHouse$Aligner" 49 "TuneHouse$Tune" "beats" "[I" "TuneHouse" ∈ NB := NB_in 221 (by decide +kernel) rfl
theorem kw_182 : Cond.fieldLink "TuneHouse$Tune" 18 "TuneHouse$Tune" "length" "I" ∈ TB := TB_in 222 (by decide +kernel) (by decide +kernel)
theorem kn_183 : Cond.fieldLinkNest "TuneHouse$Aligner" 40 "TuneHouse$Tune" "length" "I" "TuneHouse" ∈ NB := NB_in 223 (by decide +kernel) rfl
theorem kw_191 : Cond.classLink "TuneHouse$Sheet" 21 "java/util/ArrayList" ∈ TB := TB_in 231 (by decide +kernel) (by decide +kernel)
theorem kw_192 : Cond.methodLink "TuneHouse$Sheet" 23 yJx4a65c_init_da8c8 ∈ TB := TB_in 232 (by decide +kernel) (by decide +kernel)
theorem kw_193 : Cond.fieldLink "TuneHouse$Sheet" 32 "TuneHouse$Sheet" "number" "I" ∈ TB := TB_in 233 (by decide +kernel) (by decide +kernel)
theorem kw_194 : Cond.fieldLink "TuneHouse$Likeness" 26 "TuneHouse$Sheet" "number" "I" ∈ TB := TB_in 234 (by decide +kernel) (by decide +kernel)
theorem kw_195 : Cond.fieldLink "TuneHouse" 178 "TuneHouse$Sheet" "number" "I" ∈ TB := TB_in 235 (by decide +kernel) (by decide +kernel)
theorem kw_196 : Cond.fieldLink "TuneHouse$Sheet" 35 "TuneHouse$Sheet" "hand" "I" ∈ TB := TB_in 236 (by decide +kernel) (by decide +kernel)
theorem kw_197 : Cond.fieldLink "TuneHouse$Pair" 16 "TuneHouse$Sheet" "hand" "I" ∈ TB := TB_in 237 (by decide +kernel) (by decide +kernel)
theorem kw_198 : Cond.fieldLink "TuneHouse" 116 "TuneHouse$Sheet" "hand" "I" ∈ TB := TB_in 238 (by decide +kernel) (by decide +kernel)
theorem kw_199 : Cond.fieldLink "TuneHouse$Sheet" 38 "TuneHouse$Sheet" "year" "I" ∈ TB := TB_in 239 (by decide +kernel) (by decide +kernel)
theorem kw_200 : Cond.fieldLink "TuneHouse" 213 "TuneHouse$Sheet" "year" "I" ∈ TB := TB_in 240 (by decide +kernel) (by decide +kernel)
theorem kw_201 : Cond.fieldLink "TuneHouse$Sheet" 41 "TuneHouse$Sheet" "words" "I" ∈ TB := TB_in 241 (by decide +kernel) (by decide +kernel)
theorem kw_202 : Cond.fieldLink "TuneHouse" 186 "TuneHouse$Sheet" "words" "I" ∈ TB := TB_in 242 (by decide +kernel) (by decide +kernel)
theorem kw_203 : Cond.fieldLink "TuneHouse$Sheet" 12 "TuneHouse$Sheet" "known" "LTuneHouse$Tune;" ∈ TB := TB_in 243 (by decide +kernel) (by decide +kernel)
theorem kw_204 : Cond.fieldLink "TuneHouse$Likeness" 37 "TuneHouse$Sheet" "known" "LTuneHouse$Tune;" ∈ TB := TB_in 244 (by decide +kernel) (by decide +kernel)
theorem kw_205 : Cond.fieldLink "TuneHouse" 143 "TuneHouse$Sheet" "known" "LTuneHouse$Tune;" ∈ TB := TB_in 245 (by decide +kernel) (by decide +kernel)
theorem kw_206 : Cond.fieldLink "TuneHouse$Sheet" 18 "TuneHouse$Sheet" "told" "LTuneHouse$Tune;" ∈ TB := TB_in 246 (by decide +kernel) (by decide +kernel)
theorem kw_207 : Cond.fieldLink "TuneHouse$Sheet" 24 "TuneHouse$Sheet" "amended" "Ljava/util/ArrayList;" ∈ TB := TB_in 247 (by decide +kernel) (by decide +kernel)
theorem kw_208 : Cond.fieldLink "TuneHouse$Sheet" 64 "TuneHouse$Sheet" "applied" "I" ∈ TB := TB_in 248 (by decide +kernel) (by decide +kernel)
theorem kw_209 : Cond.fieldLink "TuneHouse$Sheet" 28 "TuneHouse$Sheet" "forgedOn" "I" ∈ TB := TB_in 249 (by decide +kernel) (by decide +kernel)
theorem kw_229 : Cond.methodLink "TuneHouse" 73 yJx4a65c_add_9ea2d ∈ TB := TB_in 269 (by decide +kernel) (by decide +kernel)
theorem kw_230 : Cond.instanceMethod yJx4a65c_add_9ea2d ∈ TB := TB_in 270 (by decide +kernel) (by decide +kernel)
theorem kw_231 : Cond.selects "java/util/ArrayList" yJx4a65c_add_9ea2d yJx4a65c_add_9ea2d ∈ TB := TB_in 271 (by decide +kernel) (by decide +kernel)
theorem kw_232 : Cond.code yJx4a65c_add_9ea2d cJx4a65c_add_9ea2d 2 (some FieldType.boolean) ∈ TB := TB_in 272 (by decide +kernel) (by decide +kernel)
theorem kw_233 : Cond.methodLink "java/util/ArrayList" 131 yJx4a65c_add_72be8 ∈ TB := TB_in 273 (by decide +kernel) (by decide +kernel)
theorem kw_235 : Cond.instanceMethod yJx4a65c_add_72be8 ∈ TB := TB_in 275 (by decide +kernel) (by decide +kernel)
theorem kw_236 : Cond.code yJx4a65c_add_72be8 cJx4a65c_add_72be8 4 none ∈ TB := TB_in 276 (by decide +kernel) (by decide +kernel)
theorem kw_237 : Cond.methodLink "java/util/ArrayList" 129 yJx4a65c_grow_d5877 ∈ TB := TB_in 277 (by decide +kernel) (by decide +kernel)
theorem kw_239 : Cond.instanceMethod yJx4a65c_grow_d5877 ∈ TB := TB_in 279 (by decide +kernel) (by decide +kernel)
theorem kw_240 : Cond.code yJx4a65c_grow_d5877 cJx4a65c_grow_d5877 1 (some (FieldType.array (FieldType.object "java/lang/Object"))) ∈ TB := TB_in 280 (by decide +kernel) (by decide +kernel)
theorem kw_241 : Cond.methodLink "java/util/ArrayList" 69 yJx4a65c_grow_92f84 ∈ TB := TB_in 281 (by decide +kernel) (by decide +kernel)
theorem kw_243 : Cond.instanceMethod yJx4a65c_grow_92f84 ∈ TB := TB_in 283 (by decide +kernel) (by decide +kernel)
theorem kw_244 : Cond.code yJx4a65c_grow_92f84 cJx4a65c_grow_92f84 4 (some (FieldType.array (FieldType.object "java/lang/Object"))) ∈ TB := TB_in 284 (by decide +kernel) (by decide +kernel)
theorem kw_245 : Cond.methodLink "java/util/ArrayList" 73 yJ8_newLength_cabcc ∈ TB := TB_in 285 (by decide +kernel) (by decide +kernel)
theorem kw_246 : Cond.static yJ8_newLength_cabcc ∈ TB := TB_in 286 (by decide +kernel) (by decide +kernel)
theorem kw_247 : Cond.code yJ8_newLength_cabcc cJ8_newLength_cabcc 4 (some FieldType.int) ∈ TB := TB_in 287 (by decide +kernel) (by decide +kernel)
theorem kw_248 : Cond.methodLink "jdk/internal/util/ArraysSupport" 194 yJ9_max_7cf53 ∈ TB := TB_in 288 (by decide +kernel) (by decide +kernel)
theorem kw_249 : Cond.static yJ9_max_7cf53 ∈ TB := TB_in 289 (by decide +kernel) (by decide +kernel)
theorem kw_250 : Cond.code yJ9_max_7cf53 cJ9_max_7cf53 2 (some FieldType.int) ∈ TB := TB_in 290 (by decide +kernel) (by decide +kernel)
theorem kw_251 : Cond.constant "jdk/internal/util/ArraysSupport" 200 (2147483639 : Int32) ∈ TB := TB_in 291 (by decide +kernel) (by decide +kernel)
theorem kw_252 : Cond.methodLink "jdk/internal/util/ArraysSupport" 201 yJ8_hugeLength_7cf53 ∈ TB := TB_in 292 (by decide +kernel) (by decide +kernel)
theorem kw_253 : Cond.static yJ8_hugeLength_7cf53 ∈ TB := TB_in 293 (by decide +kernel) (by decide +kernel)
theorem kw_254 : Cond.code yJ8_hugeLength_7cf53 cJ8_hugeLength_7cf53 3 (some FieldType.int) ∈ TB := TB_in 294 (by decide +kernel) (by decide +kernel)
theorem kw_255 : Cond.methodLink "java/util/ArrayList" 66 yJ7_copyOf_1904c ∈ TB := TB_in 295 (by decide +kernel) (by decide +kernel)
theorem kw_256 : Cond.static yJ7_copyOf_1904c ∈ TB := TB_in 296 (by decide +kernel) (by decide +kernel)
theorem kw_257 : Cond.code yJ7_copyOf_1904c cJ7_copyOf_1904c 2 (some (FieldType.array (FieldType.object "java/lang/Object"))) ∈ TB := TB_in 297 (by decide +kernel) (by decide +kernel)
theorem kw_258 : Cond.methodLink "java/util/Arrays" 86 ⟨"java/lang/Object", "getClass", "()Ljava/lang/Class;"⟩ ∈ TB := TB_in 298 (by decide +kernel) (by decide +kernel)
theorem kw_259 : Cond.instanceMethod ⟨"java/lang/Object", "getClass", "()Ljava/lang/Class;"⟩ ∈ TB := TB_in 299 (by decide +kernel) (by decide +kernel)
theorem kw_260 : Cond.sameMethod "java/lang/Object" "java/lang/Object" "getClass" "()Ljava/lang/Class;" ∈ TB := TB_in 300 (by decide +kernel) (by decide +kernel)
theorem kw_261 : Cond.selects "TuneHouse" ⟨"java/lang/Object", "getClass", "()Ljava/lang/Class;"⟩ ⟨"java/lang/Object", "getClass", "()Ljava/lang/Class;"⟩ ∈ TB := TB_in 301 (by decide +kernel) (by decide +kernel)
theorem kw_262 : Cond.selects "TuneHouse$Aligner" ⟨"java/lang/Object", "getClass", "()Ljava/lang/Class;"⟩ ⟨"java/lang/Object", "getClass", "()Ljava/lang/Class;"⟩ ∈ TB := TB_in 302 (by decide +kernel) (by decide +kernel)
theorem kw_263 : Cond.selects "TuneHouse$Correction" ⟨"java/lang/Object", "getClass", "()Ljava/lang/Class;"⟩ ⟨"java/lang/Object", "getClass", "()Ljava/lang/Class;"⟩ ∈ TB := TB_in 303 (by decide +kernel) (by decide +kernel)
theorem kw_264 : Cond.selects "TuneHouse$Likeness" ⟨"java/lang/Object", "getClass", "()Ljava/lang/Class;"⟩ ⟨"java/lang/Object", "getClass", "()Ljava/lang/Class;"⟩ ∈ TB := TB_in 304 (by decide +kernel) (by decide +kernel)
theorem kw_265 : Cond.selects "TuneHouse$Pair" ⟨"java/lang/Object", "getClass", "()Ljava/lang/Class;"⟩ ⟨"java/lang/Object", "getClass", "()Ljava/lang/Class;"⟩ ∈ TB := TB_in 305 (by decide +kernel) (by decide +kernel)
theorem kw_266 : Cond.selects "TuneHouse$Prices" ⟨"java/lang/Object", "getClass", "()Ljava/lang/Class;"⟩ ⟨"java/lang/Object", "getClass", "()Ljava/lang/Class;"⟩ ∈ TB := TB_in 306 (by decide +kernel) (by decide +kernel)
theorem kw_267 : Cond.selects "TuneHouse$Sheet" ⟨"java/lang/Object", "getClass", "()Ljava/lang/Class;"⟩ ⟨"java/lang/Object", "getClass", "()Ljava/lang/Class;"⟩ ∈ TB := TB_in 307 (by decide +kernel) (by decide +kernel)
theorem kw_268 : Cond.selects "TuneHouse$Tune" ⟨"java/lang/Object", "getClass", "()Ljava/lang/Class;"⟩ ⟨"java/lang/Object", "getClass", "()Ljava/lang/Class;"⟩ ∈ TB := TB_in 308 (by decide +kernel) (by decide +kernel)
theorem kw_269 : Cond.selects "TuneHouseModel" ⟨"java/lang/Object", "getClass", "()Ljava/lang/Class;"⟩ ⟨"java/lang/Object", "getClass", "()Ljava/lang/Class;"⟩ ∈ TB := TB_in 309 (by decide +kernel) (by decide +kernel)
theorem kw_270 : Cond.selects "java/util/ArrayList" ⟨"java/lang/Object", "getClass", "()Ljava/lang/Class;"⟩ ⟨"java/lang/Object", "getClass", "()Ljava/lang/Class;"⟩ ∈ TB := TB_in 310 (by decide +kernel) (by decide +kernel)
theorem kw_271 : Cond.selects "java/util/NoSuchElementException" ⟨"java/lang/Object", "getClass", "()Ljava/lang/Class;"⟩ ⟨"java/lang/Object", "getClass", "()Ljava/lang/Class;"⟩ ∈ TB := TB_in 311 (by decide +kernel) (by decide +kernel)
theorem kw_272 : Cond.native ⟨"java/lang/Object", "getClass", "()Ljava/lang/Class;"⟩ ∈ TB := TB_in 312 (by decide +kernel) (by decide +kernel)
theorem kw_273 : Cond.methodLink "java/util/Arrays" 300 yJ7_copyOf_6403c ∈ TB := TB_in 313 (by decide +kernel) (by decide +kernel)
theorem kw_274 : Cond.static yJ7_copyOf_6403c ∈ TB := TB_in 314 (by decide +kernel) (by decide +kernel)
theorem kw_275 : Cond.code yJ7_copyOf_6403c cJ7_copyOf_6403c 4 (some (FieldType.array (FieldType.object "java/lang/Object"))) ∈ TB := TB_in 315 (by decide +kernel) (by decide +kernel)
theorem kw_276 : Cond.classLink "java/util/Arrays" 110 "[Ljava/lang/Object;" ∈ TB := TB_in 316 (by decide +kernel) (by decide +kernel)
theorem kw_278 : Cond.classLink "java/util/Arrays" 2 "java/lang/Object" ∈ TB := TB_in 318 (by decide +kernel) (by decide +kernel)
theorem kw_279 : Cond.methodLink "java/util/Arrays" 304 yJ9_min_7cf53 ∈ TB := TB_in 319 (by decide +kernel) (by decide +kernel)
theorem kw_280 : Cond.static yJ9_min_7cf53 ∈ TB := TB_in 320 (by decide +kernel) (by decide +kernel)
theorem kw_281 : Cond.code yJ9_min_7cf53 cJ9_min_7cf53 2 (some FieldType.int) ∈ TB := TB_in 321 (by decide +kernel) (by decide +kernel)
theorem kw_282 : Cond.methodLink "java/util/Arrays" 150 ⟨"java/lang/System", "arraycopy", "(Ljava/lang/Object;ILjava/lang/Object;II)V"⟩ ∈ TB := TB_in 322 (by decide +kernel) (by decide +kernel)
theorem kw_283 : Cond.static ⟨"java/lang/System", "arraycopy", "(Ljava/lang/Object;ILjava/lang/Object;II)V"⟩ ∈ TB := TB_in 323 (by decide +kernel) (by decide +kernel)
theorem kw_284 : Cond.native ⟨"java/lang/System", "arraycopy", "(Ljava/lang/Object;ILjava/lang/Object;II)V"⟩ ∈ TB := TB_in 324 (by decide +kernel) (by decide +kernel)
theorem kw_285 : Cond.methodLink "java/util/ArrayList" 79 yJ9_max_7cf53 ∈ TB := TB_in 325 (by decide +kernel) (by decide +kernel)
theorem kw_286 : Cond.classLink "java/util/ArrayList" 7 "java/lang/Object" ∈ TB := TB_in 326 (by decide +kernel) (by decide +kernel)
theorem kw_287 : Cond.methodLink "TuneHouseLaw" 24 yX7_note ∈ TB := TB_in 327 (by decide +kernel) (by decide +kernel)
theorem kw_288 : Cond.instanceMethod yX7_note ∈ TB := TB_in 328 (by decide +kernel) (by decide +kernel)
theorem kw_289 : Cond.selects "TuneHouse" yX7_note yX7_note ∈ TB := TB_in 329 (by decide +kernel) (by decide +kernel)
theorem kw_290 : Cond.code yX7_note cX7_note 5 (some FieldType.int) ∈ TB := TB_in 330 (by decide +kernel) (by decide +kernel)
theorem kw_291 : Cond.methodLink "TuneHouse" 77 yX7_find ∈ TB := TB_in 331 (by decide +kernel) (by decide +kernel)
theorem kw_293 : Cond.instanceMethod yX7_find ∈ TB := TB_in 333 (by decide +kernel) (by decide +kernel)
theorem kw_294 : Cond.code yX7_find cX7_find 2 (some (FieldType.object "TuneHouse$Sheet")) ∈ TB := TB_in 334 (by decide +kernel) (by decide +kernel)
theorem kw_295 : Cond.methodLink "TuneHouse" 174 yJx4a65c_get_915e3 ∈ TB := TB_in 335 (by decide +kernel) (by decide +kernel)
theorem kw_296 : Cond.instanceMethod yJx4a65c_get_915e3 ∈ TB := TB_in 336 (by decide +kernel) (by decide +kernel)
theorem kw_297 : Cond.selects "java/util/ArrayList" yJx4a65c_get_915e3 yJx4a65c_get_915e3 ∈ TB := TB_in 337 (by decide +kernel) (by decide +kernel)
theorem kw_298 : Cond.code yJx4a65c_get_915e3 cJx4a65c_get_915e3 2 (some (FieldType.object "java/lang/Object")) ∈ TB := TB_in 338 (by decide +kernel) (by decide +kernel)
theorem kw_299 : Cond.methodLink "java/util/ArrayList" 118 yJ15_checkIndex_7cf53 ∈ TB := TB_in 339 (by decide +kernel) (by decide +kernel)
theorem kw_300 : Cond.static yJ15_checkIndex_7cf53 ∈ TB := TB_in 340 (by decide +kernel) (by decide +kernel)
theorem kw_301 : Cond.code yJ15_checkIndex_7cf53 cJ15_checkIndex_7cf53 2 (some FieldType.int) ∈ TB := TB_in 341 (by decide +kernel) (by decide +kernel)
theorem kw_302 : Cond.methodLink "java/util/Objects" 105 yJ3_checkIndex_8e157 ∈ TB := TB_in 342 (by decide +kernel) (by decide +kernel)
theorem kw_303 : Cond.static yJ3_checkIndex_8e157 ∈ TB := TB_in 343 (by decide +kernel) (by decide +kernel)
theorem kw_304 : Cond.code yJ3_checkIndex_8e157 cJ3_checkIndex_8e157 3 (some FieldType.int) ∈ TB := TB_in 344 (by decide +kernel) (by decide +kernel)
theorem kw_305 : Cond.methodLink "java/util/ArrayList" 123 yJx4a65c_elementData_915e3 ∈ TB := TB_in 345 (by decide +kernel) (by decide +kernel)
theorem kw_306 : Cond.instanceMethod yJx4a65c_elementData_915e3 ∈ TB := TB_in 346 (by decide +kernel) (by decide +kernel)
theorem kw_307 : Cond.selects "java/util/ArrayList" yJx4a65c_elementData_915e3 yJx4a65c_elementData_915e3 ∈ TB := TB_in 347 (by decide +kernel) (by decide +kernel)
theorem kw_308 : Cond.code yJx4a65c_elementData_915e3 cJx4a65c_elementData_915e3 2 (some (FieldType.object "java/lang/Object")) ∈ TB := TB_in 348 (by decide +kernel) (by decide +kernel)
theorem kw_309 : Cond.methodLink "TuneHouse" 81 yX7_isNote ∈ TB := TB_in 349 (by decide +kernel) (by decide +kernel)
theorem kw_310 : Cond.static yX7_isNote ∈ TB := TB_in 350 (by decide +kernel) (by decide +kernel)
theorem kw_311 : Cond.code yX7_isNote cX7_isNote 2 (some FieldType.boolean) ∈ TB := TB_in 351 (by decide +kernel) (by decide +kernel)
theorem kw_312 : Cond.methodLink "TuneHouse" 84 yX5_append ∈ TB := TB_in 352 (by decide +kernel) (by decide +kernel)
theorem kw_313 : Cond.instanceMethod yX5_append ∈ TB := TB_in 353 (by decide +kernel) (by decide +kernel)
theorem kw_314 : Cond.selects "TuneHouse$Sheet" yX5_append yX5_append ∈ TB := TB_in 354 (by decide +kernel) (by decide +kernel)
theorem kw_315 : Cond.code yX5_append cX5_append 3 (some FieldType.boolean) ∈ TB := TB_in 355 (by decide +kernel) (by decide +kernel)
theorem kw_316 : Cond.methodLink "TuneHouse$Sheet" 52 yX6_append ∈ TB := TB_in 356 (by decide +kernel) (by decide +kernel)
theorem kw_317 : Cond.instanceMethod yX6_append ∈ TB := TB_in 357 (by decide +kernel) (by decide +kernel)
theorem kw_318 : Cond.selects "TuneHouse$Tune" yX6_append yX6_append ∈ TB := TB_in 358 (by decide +kernel) (by decide +kernel)
theorem kw_319 : Cond.code yX6_append cX6_append 3 (some FieldType.boolean) ∈ TB := TB_in 359 (by decide +kernel) (by decide +kernel)
theorem kw_320 : Cond.methodLink "TuneHouse$Tune" 22 yX6_put ∈ TB := TB_in 360 (by decide +kernel) (by decide +kernel)
theorem kw_321 : Cond.instanceMethod yX6_put ∈ TB := TB_in 361 (by decide +kernel) (by decide +kernel)
theorem kw_322 : Cond.selects "TuneHouse$Tune" yX6_put yX6_put ∈ TB := TB_in 362 (by decide +kernel) (by decide +kernel)
theorem kw_323 : Cond.code yX6_put cX6_put 4 none ∈ TB := TB_in 363 (by decide +kernel) (by decide +kernel)
theorem kw_324 : Cond.methodLink "TuneHouse$Tune" 26 yX6_has ∈ TB := TB_in 364 (by decide +kernel) (by decide +kernel)
theorem kw_325 : Cond.instanceMethod yX6_has ∈ TB := TB_in 365 (by decide +kernel) (by decide +kernel)
theorem kw_326 : Cond.selects "TuneHouse$Tune" yX6_has yX6_has ∈ TB := TB_in 366 (by decide +kernel) (by decide +kernel)
theorem kw_327 : Cond.code yX6_has cX6_has 2 (some FieldType.boolean) ∈ TB := TB_in 367 (by decide +kernel) (by decide +kernel)
theorem kw_328 : Cond.methodLink "TuneHouse" 90 yX5_length ∈ TB := TB_in 368 (by decide +kernel) (by decide +kernel)
theorem kw_329 : Cond.instanceMethod yX5_length ∈ TB := TB_in 369 (by decide +kernel) (by decide +kernel)
theorem kw_330 : Cond.selects "TuneHouse$Sheet" yX5_length yX5_length ∈ TB := TB_in 370 (by decide +kernel) (by decide +kernel)
theorem kw_331 : Cond.code yX5_length cX5_length 1 (some FieldType.int) ∈ TB := TB_in 371 (by decide +kernel) (by decide +kernel)
theorem kw_332 : Cond.methodLink "TuneHouse$Sheet" 44 yX6_length ∈ TB := TB_in 372 (by decide +kernel) (by decide +kernel)
theorem kw_333 : Cond.instanceMethod yX6_length ∈ TB := TB_in 373 (by decide +kernel) (by decide +kernel)
theorem kw_334 : Cond.selects "TuneHouse$Tune" yX6_length yX6_length ∈ TB := TB_in 374 (by decide +kernel) (by decide +kernel)
theorem kw_335 : Cond.code yX6_length cX6_length 1 (some FieldType.int) ∈ TB := TB_in 375 (by decide +kernel) (by decide +kernel)
theorem kw_336 : Cond.methodLink "TuneHouseLaw" 28 yX7_correct ∈ TB := TB_in 376 (by decide +kernel) (by decide +kernel)
theorem kw_337 : Cond.instanceMethod yX7_correct ∈ TB := TB_in 377 (by decide +kernel) (by decide +kernel)
theorem kw_338 : Cond.selects "TuneHouse" yX7_correct yX7_correct ∈ TB := TB_in 378 (by decide +kernel) (by decide +kernel)
theorem kw_339 : Cond.code yX7_correct cX7_correct 6 (some FieldType.boolean) ∈ TB := TB_in 379 (by decide +kernel) (by decide +kernel)
theorem kw_340 : Cond.methodLink "TuneHouse" 93 yX5_has ∈ TB := TB_in 380 (by decide +kernel) (by decide +kernel)
theorem kw_341 : Cond.instanceMethod yX5_has ∈ TB := TB_in 381 (by decide +kernel) (by decide +kernel)
theorem kw_342 : Cond.selects "TuneHouse$Sheet" yX5_has yX5_has ∈ TB := TB_in 382 (by decide +kernel) (by decide +kernel)
theorem kw_343 : Cond.code yX5_has cX5_has 2 (some FieldType.boolean) ∈ TB := TB_in 383 (by decide +kernel) (by decide +kernel)
theorem kw_344 : Cond.methodLink "TuneHouse$Sheet" 48 yX6_has ∈ TB := TB_in 384 (by decide +kernel) (by decide +kernel)
theorem kw_345 : Cond.classLink "TuneHouse" 99 "TuneHouse$Correction" ∈ TB := TB_in 385 (by decide +kernel) (by decide +kernel)
theorem kw_346 : Cond.instantiable "TuneHouse$Correction" 4 ∈ TB := TB_in 386 (by decide +kernel) (by decide +kernel)
theorem kw_347 : Cond.methodLink "TuneHouse" 101 yX1_init ∈ TB := TB_in 387 (by decide +kernel) (by decide +kernel)
theorem kw_348 : Cond.instanceMethod yX1_init ∈ TB := TB_in 388 (by decide +kernel) (by decide +kernel)
theorem kw_349 : Cond.code yX1_init cX1_init 5 none ∈ TB := TB_in 389 (by decide +kernel) (by decide +kernel)
theorem kw_350 : Cond.methodLink "TuneHouse$Correction" 1 ⟨"java/lang/Object", "<init>", "()V"⟩ ∈ TB := TB_in 390 (by decide +kernel) (by decide +kernel)
theorem kw_351 : Cond.fieldLink "TuneHouse$Correction" 7 "TuneHouse$Correction" "since" "I" ∈ TB := TB_in 391 (by decide +kernel) (by decide +kernel)
theorem kw_352 : Cond.fieldLink "TuneHouse$Sheet" 93 "TuneHouse$Correction" "since" "I" ∈ TB := TB_in 392 (by decide +kernel) (by decide +kernel)
theorem kw_353 : Cond.fieldLink "TuneHouse$Correction" 13 "TuneHouse$Correction" "place" "I" ∈ TB := TB_in 393 (by decide +kernel) (by decide +kernel)
theorem kw_354 : Cond.fieldLink "TuneHouse$Sheet" 80 "TuneHouse$Correction" "place" "I" ∈ TB := TB_in 394 (by decide +kernel) (by decide +kernel)
theorem kw_355 : Cond.fieldLink "TuneHouse$Correction" 16 "TuneHouse$Correction" "pitch" "I" ∈ TB := TB_in 395 (by decide +kernel) (by decide +kernel)
theorem kw_356 : Cond.fieldLink "TuneHouse$Sheet" 83 "TuneHouse$Correction" "pitch" "I" ∈ TB := TB_in 396 (by decide +kernel) (by decide +kernel)
theorem kw_357 : Cond.fieldLink "TuneHouse$Correction" 19 "TuneHouse$Correction" "beats" "I" ∈ TB := TB_in 397 (by decide +kernel) (by decide +kernel)
theorem kw_358 : Cond.fieldLink "TuneHouse$Sheet" 86 "TuneHouse$Correction" "beats" "I" ∈ TB := TB_in 398 (by decide +kernel) (by decide +kernel)
theorem kw_368 : Cond.methodLink "TuneHouse" 102 yX5_amend ∈ TB := TB_in 408 (by decide +kernel) (by decide +kernel)
theorem kw_369 : Cond.instanceMethod yX5_amend ∈ TB := TB_in 409 (by decide +kernel) (by decide +kernel)
theorem kw_370 : Cond.selects "TuneHouse$Sheet" yX5_amend yX5_amend ∈ TB := TB_in 410 (by decide +kernel) (by decide +kernel)
theorem kw_371 : Cond.code yX5_amend cX5_amend 2 none ∈ TB := TB_in 411 (by decide +kernel) (by decide +kernel)
theorem kw_372 : Cond.methodLink "TuneHouse$Sheet" 56 yJx4a65c_add_9ea2d ∈ TB := TB_in 412 (by decide +kernel) (by decide +kernel)
theorem kw_373 : Cond.methodLink "TuneHouseLaw" 33 yX7_forge ∈ TB := TB_in 413 (by decide +kernel) (by decide +kernel)
theorem kw_374 : Cond.instanceMethod yX7_forge ∈ TB := TB_in 414 (by decide +kernel) (by decide +kernel)
theorem kw_375 : Cond.selects "TuneHouse" yX7_forge yX7_forge ∈ TB := TB_in 415 (by decide +kernel) (by decide +kernel)
theorem kw_376 : Cond.code yX7_forge cX7_forge 3 (some FieldType.boolean) ∈ TB := TB_in 416 (by decide +kernel) (by decide +kernel)
theorem kw_377 : Cond.methodLink "TuneHouse" 106 yX5_isForgedBy ∈ TB := TB_in 417 (by decide +kernel) (by decide +kernel)
theorem kw_378 : Cond.instanceMethod yX5_isForgedBy ∈ TB := TB_in 418 (by decide +kernel) (by decide +kernel)
theorem kw_379 : Cond.selects "TuneHouse$Sheet" yX5_isForgedBy yX5_isForgedBy ∈ TB := TB_in 419 (by decide +kernel) (by decide +kernel)
theorem kw_380 : Cond.code yX5_isForgedBy cX5_isForgedBy 2 (some FieldType.boolean) ∈ TB := TB_in 420 (by decide +kernel) (by decide +kernel)
theorem kw_381 : Cond.methodLink "TuneHouse" 109 yX5_markForged ∈ TB := TB_in 421 (by decide +kernel) (by decide +kernel)
theorem kw_382 : Cond.instanceMethod yX5_markForged ∈ TB := TB_in 422 (by decide +kernel) (by decide +kernel)
theorem kw_383 : Cond.selects "TuneHouse$Sheet" yX5_markForged yX5_markForged ∈ TB := TB_in 423 (by decide +kernel) (by decide +kernel)
theorem kw_384 : Cond.code yX5_markForged cX5_markForged 2 none ∈ TB := TB_in 424 (by decide +kernel) (by decide +kernel)
theorem kw_385 : Cond.methodLink "TuneHouseLaw" 38 yX7_doubles ∈ TB := TB_in 425 (by decide +kernel) (by decide +kernel)
theorem kw_386 : Cond.instanceMethod yX7_doubles ∈ TB := TB_in 426 (by decide +kernel) (by decide +kernel)
theorem kw_387 : Cond.selects "TuneHouse" yX7_doubles yX7_doubles ∈ TB := TB_in 427 (by decide +kernel) (by decide +kernel)
theorem kw_388 : Cond.code yX7_doubles cX7_doubles 5 (some FieldType.boolean) ∈ TB := TB_in 428 (by decide +kernel) (by decide +kernel)
theorem kw_389 : Cond.methodLink "TuneHouse" 119 yX7_isPair ∈ TB := TB_in 429 (by decide +kernel) (by decide +kernel)
theorem kw_391 : Cond.instanceMethod yX7_isPair ∈ TB := TB_in 431 (by decide +kernel) (by decide +kernel)
theorem kw_392 : Cond.code yX7_isPair cX7_isPair 4 (some FieldType.boolean) ∈ TB := TB_in 432 (by decide +kernel) (by decide +kernel)
theorem kw_393 : Cond.classLink "TuneHouse" 123 "TuneHouse$Pair" ∈ TB := TB_in 433 (by decide +kernel) (by decide +kernel)
theorem kw_394 : Cond.methodLink "TuneHouse" 216 yX3_joins ∈ TB := TB_in 434 (by decide +kernel) (by decide +kernel)
theorem kw_395 : Cond.instanceMethod yX3_joins ∈ TB := TB_in 435 (by decide +kernel) (by decide +kernel)
theorem kw_396 : Cond.selects "TuneHouse$Pair" yX3_joins yX3_joins ∈ TB := TB_in 436 (by decide +kernel) (by decide +kernel)
theorem kw_397 : Cond.code yX3_joins cX3_joins 3 (some FieldType.boolean) ∈ TB := TB_in 437 (by decide +kernel) (by decide +kernel)
theorem kw_398 : Cond.instantiable "TuneHouse$Pair" 2 ∈ TB := TB_in 438 (by decide +kernel) (by decide +kernel)
theorem kw_399 : Cond.methodLink "TuneHouse" 125 yX3_init ∈ TB := TB_in 439 (by decide +kernel) (by decide +kernel)
theorem kw_400 : Cond.instanceMethod yX3_init ∈ TB := TB_in 440 (by decide +kernel) (by decide +kernel)
theorem kw_401 : Cond.code yX3_init cX3_init 3 none ∈ TB := TB_in 441 (by decide +kernel) (by decide +kernel)
theorem kw_402 : Cond.methodLink "TuneHouse$Pair" 1 ⟨"java/lang/Object", "<init>", "()V"⟩ ∈ TB := TB_in 442 (by decide +kernel) (by decide +kernel)
theorem kw_403 : Cond.fieldLink "TuneHouse$Pair" 7 "TuneHouse$Pair" "one" "LTuneHouse$Sheet;" ∈ TB := TB_in 443 (by decide +kernel) (by decide +kernel)
theorem kw_404 : Cond.fieldLink "TuneHouse$Pair" 13 "TuneHouse$Pair" "other" "LTuneHouse$Sheet;" ∈ TB := TB_in 444 (by decide +kernel) (by decide +kernel)
theorem kw_410 : Cond.methodLink "TuneHouseLaw" 43 yX7_days ∈ TB := TB_in 450 (by decide +kernel) (by decide +kernel)
theorem kw_411 : Cond.instanceMethod yX7_days ∈ TB := TB_in 451 (by decide +kernel) (by decide +kernel)
theorem kw_412 : Cond.selects "TuneHouse" yX7_days yX7_days ∈ TB := TB_in 452 (by decide +kernel) (by decide +kernel)
theorem kw_413 : Cond.code yX7_days cX7_days 2 (some FieldType.int) ∈ TB := TB_in 453 (by decide +kernel) (by decide +kernel)
theorem kw_414 : Cond.methodLink "TuneHouseLaw" 48 yX7_price ∈ TB := TB_in 454 (by decide +kernel) (by decide +kernel)
theorem kw_415 : Cond.instanceMethod yX7_price ∈ TB := TB_in 455 (by decide +kernel) (by decide +kernel)
theorem kw_416 : Cond.selects "TuneHouse" yX7_price yX7_price ∈ TB := TB_in 456 (by decide +kernel) (by decide +kernel)
theorem kw_417 : Cond.code yX7_price cX7_price 3 (some FieldType.boolean) ∈ TB := TB_in 457 (by decide +kernel) (by decide +kernel)
theorem kw_418 : Cond.methodLink "TuneHouse" 128 yX4_set ∈ TB := TB_in 458 (by decide +kernel) (by decide +kernel)
theorem kw_419 : Cond.instanceMethod yX4_set ∈ TB := TB_in 459 (by decide +kernel) (by decide +kernel)
theorem kw_420 : Cond.selects "TuneHouse$Prices" yX4_set yX4_set ∈ TB := TB_in 460 (by decide +kernel) (by decide +kernel)
theorem kw_421 : Cond.code yX4_set cX4_set 3 (some FieldType.boolean) ∈ TB := TB_in 461 (by decide +kernel) (by decide +kernel)
theorem kw_422 : Cond.fieldLink "TuneHouse$Prices" 15 "TuneHouse$Prices" "TOPS" "[I" ∈ TB := TB_in 462 (by decide +kernel) (by decide +kernel)
theorem kn_424 : Cond.methodLinkNest "TuneHouse$Prices" 18 yX7_isWithin "TuneHouse" ∈ NB := NB_in 464 (by decide +kernel) rfl
theorem kw_425 : Cond.methodLink "TuneHouse" 131 yX2_forgetAll ∈ TB := TB_in 465 (by decide +kernel) (by decide +kernel)
theorem kw_426 : Cond.instanceMethod yX2_forgetAll ∈ TB := TB_in 466 (by decide +kernel) (by decide +kernel)
theorem kw_427 : Cond.selects "TuneHouse$Likeness" yX2_forgetAll yX2_forgetAll ∈ TB := TB_in 467 (by decide +kernel) (by decide +kernel)
theorem kw_428 : Cond.code yX2_forgetAll cX2_forgetAll 2 none ∈ TB := TB_in 468 (by decide +kernel) (by decide +kernel)
theorem kw_429 : Cond.methodLink "TuneHouseLaw" 62 yX7_distance ∈ TB := TB_in 469 (by decide +kernel) (by decide +kernel)
theorem kw_430 : Cond.instanceMethod yX7_distance ∈ TB := TB_in 470 (by decide +kernel) (by decide +kernel)
theorem kw_431 : Cond.selects "TuneHouse" yX7_distance yX7_distance ∈ TB := TB_in 471 (by decide +kernel) (by decide +kernel)
theorem kw_432 : Cond.code yX7_distance cX7_distance 6 (some FieldType.int) ∈ TB := TB_in 472 (by decide +kernel) (by decide +kernel)
theorem kw_433 : Cond.methodLink "TuneHouse" 134 yX7_isDay ∈ TB := TB_in 473 (by decide +kernel) (by decide +kernel)
theorem kw_435 : Cond.instanceMethod yX7_isDay ∈ TB := TB_in 475 (by decide +kernel) (by decide +kernel)
theorem kw_436 : Cond.code yX7_isDay cX7_isDay 2 (some FieldType.boolean) ∈ TB := TB_in 476 (by decide +kernel) (by decide +kernel)
theorem kw_437 : Cond.methodLink "TuneHouse" 140 yX7_turnTo ∈ TB := TB_in 477 (by decide +kernel) (by decide +kernel)
theorem kw_439 : Cond.instanceMethod yX7_turnTo ∈ TB := TB_in 479 (by decide +kernel) (by decide +kernel)
theorem kw_440 : Cond.code yX7_turnTo cX7_turnTo 4 none ∈ TB := TB_in 480 (by decide +kernel) (by decide +kernel)
theorem kw_441 : Cond.methodLink "TuneHouse" 219 yX5_openOn ∈ TB := TB_in 481 (by decide +kernel) (by decide +kernel)
theorem kw_442 : Cond.instanceMethod yX5_openOn ∈ TB := TB_in 482 (by decide +kernel) (by decide +kernel)
theorem kw_443 : Cond.selects "TuneHouse$Sheet" yX5_openOn yX5_openOn ∈ TB := TB_in 483 (by decide +kernel) (by decide +kernel)
theorem kw_444 : Cond.code yX5_openOn cX5_openOn 5 (some FieldType.boolean) ∈ TB := TB_in 484 (by decide +kernel) (by decide +kernel)
theorem kw_445 : Cond.methodLink "TuneHouse$Sheet" 60 yX5_amendedBy ∈ TB := TB_in 485 (by decide +kernel) (by decide +kernel)
theorem kw_447 : Cond.instanceMethod yX5_amendedBy ∈ TB := TB_in 487 (by decide +kernel) (by decide +kernel)
theorem kw_448 : Cond.code yX5_amendedBy cX5_amendedBy 3 (some FieldType.int) ∈ TB := TB_in 488 (by decide +kernel) (by decide +kernel)
theorem kw_449 : Cond.methodLink "TuneHouse$Sheet" 71 yJx4a65c_size_8abf5 ∈ TB := TB_in 489 (by decide +kernel) (by decide +kernel)
theorem kw_450 : Cond.methodLink "TuneHouse$Sheet" 74 yJx4a65c_get_915e3 ∈ TB := TB_in 490 (by decide +kernel) (by decide +kernel)
theorem kw_451 : Cond.classLink "TuneHouse$Sheet" 78 "TuneHouse$Correction" ∈ TB := TB_in 491 (by decide +kernel) (by decide +kernel)
theorem kw_452 : Cond.methodLink "TuneHouse$Sheet" 67 yX6_copy ∈ TB := TB_in 492 (by decide +kernel) (by decide +kernel)
theorem kw_453 : Cond.instanceMethod yX6_copy ∈ TB := TB_in 493 (by decide +kernel) (by decide +kernel)
theorem kw_454 : Cond.selects "TuneHouse$Tune" yX6_copy yX6_copy ∈ TB := TB_in 494 (by decide +kernel) (by decide +kernel)
theorem kw_455 : Cond.code yX6_copy cX6_copy 3 none ∈ TB := TB_in 495 (by decide +kernel) (by decide +kernel)
theorem kw_456 : Cond.methodLink "TuneHouse$Sheet" 89 yX6_put ∈ TB := TB_in 496 (by decide +kernel) (by decide +kernel)
theorem kw_457 : Cond.methodLink "TuneHouse" 222 yX2_forget ∈ TB := TB_in 497 (by decide +kernel) (by decide +kernel)
theorem kw_458 : Cond.instanceMethod yX2_forget ∈ TB := TB_in 498 (by decide +kernel) (by decide +kernel)
theorem kw_459 : Cond.selects "TuneHouse$Likeness" yX2_forget yX2_forget ∈ TB := TB_in 499 (by decide +kernel) (by decide +kernel)
theorem kw_460 : Cond.code yX2_forget cX2_forget 3 none ∈ TB := TB_in 500 (by decide +kernel) (by decide +kernel)
theorem kw_461 : Cond.methodLink "TuneHouse" 156 yX2_apart ∈ TB := TB_in 501 (by decide +kernel) (by decide +kernel)
theorem kw_462 : Cond.instanceMethod yX2_apart ∈ TB := TB_in 502 (by decide +kernel) (by decide +kernel)
theorem kw_463 : Cond.selects "TuneHouse$Likeness" yX2_apart yX2_apart ∈ TB := TB_in 503 (by decide +kernel) (by decide +kernel)
theorem kw_464 : Cond.code yX2_apart cX2_apart 3 (some FieldType.int) ∈ TB := TB_in 504 (by decide +kernel) (by decide +kernel)
theorem kw_465 : Cond.methodLink "TuneHouse$Likeness" 32 yX2_learn ∈ TB := TB_in 505 (by decide +kernel) (by decide +kernel)
theorem kw_467 : Cond.instanceMethod yX2_learn ∈ TB := TB_in 507 (by decide +kernel) (by decide +kernel)
theorem kw_468 : Cond.code yX2_learn cX2_learn 8 (some FieldType.int) ∈ TB := TB_in 508 (by decide +kernel) (by decide +kernel)
theorem kw_469 : Cond.constant "TuneHouse$Likeness" 36 (2147483647 : Int32) ∈ TB := TB_in 509 (by decide +kernel) (by decide +kernel)
theorem kw_470 : Cond.methodLink "TuneHouse$Likeness" 41 yX0_leastSum ∈ TB := TB_in 510 (by decide +kernel) (by decide +kernel)
theorem kw_471 : Cond.instanceMethod yX0_leastSum ∈ TB := TB_in 511 (by decide +kernel) (by decide +kernel)
theorem kw_472 : Cond.selects "TuneHouse$Aligner" yX0_leastSum yX0_leastSum ∈ TB := TB_in 512 (by decide +kernel) (by decide +kernel)
theorem kw_473 : Cond.code yX0_leastSum cX0_leastSum 18 (some FieldType.int) ∈ TB := TB_in 513 (by decide +kernel) (by decide +kernel)
theorem kw_474 : Cond.methodLink "TuneHouse$Aligner" 30 yX4_out ∈ TB := TB_in 514 (by decide +kernel) (by decide +kernel)
theorem kw_475 : Cond.instanceMethod yX4_out ∈ TB := TB_in 515 (by decide +kernel) (by decide +kernel)
theorem kw_476 : Cond.selects "TuneHouse$Prices" yX4_out yX4_out ∈ TB := TB_in 516 (by decide +kernel) (by decide +kernel)
theorem kw_477 : Cond.code yX4_out cX4_out 1 (some FieldType.int) ∈ TB := TB_in 517 (by decide +kernel) (by decide +kernel)
theorem kw_478 : Cond.methodLink "TuneHouse$Aligner" 36 yX0_fillFirstRow ∈ TB := TB_in 518 (by decide +kernel) (by decide +kernel)
theorem kw_480 : Cond.instanceMethod yX0_fillFirstRow ∈ TB := TB_in 520 (by decide +kernel) (by decide +kernel)
theorem kw_481 : Cond.code yX0_fillFirstRow cX0_fillFirstRow 5 none ∈ TB := TB_in 521 (by decide +kernel) (by decide +kernel)
theorem kw_482 : Cond.methodLink "TuneHouse$Aligner" 52 yX4_ofNotes ∈ TB := TB_in 522 (by decide +kernel) (by decide +kernel)
theorem kw_483 : Cond.instanceMethod yX4_ofNotes ∈ TB := TB_in 523 (by decide +kernel) (by decide +kernel)
theorem kw_484 : Cond.selects "TuneHouse$Prices" yX4_ofNotes yX4_ofNotes ∈ TB := TB_in 524 (by decide +kernel) (by decide +kernel)
theorem kw_485 : Cond.code yX4_ofNotes cX4_ofNotes 5 (some FieldType.int) ∈ TB := TB_in 525 (by decide +kernel) (by decide +kernel)
theorem kw_486 : Cond.methodLink "TuneHouseLaw" 66 yX7_key ∈ TB := TB_in 526 (by decide +kernel) (by decide +kernel)
theorem kw_487 : Cond.instanceMethod yX7_key ∈ TB := TB_in 527 (by decide +kernel) (by decide +kernel)
theorem kw_488 : Cond.selects "TuneHouse" yX7_key yX7_key ∈ TB := TB_in 528 (by decide +kernel) (by decide +kernel)
theorem kw_489 : Cond.code yX7_key cX7_key 6 (some FieldType.int) ∈ TB := TB_in 529 (by decide +kernel) (by decide +kernel)
theorem kw_490 : Cond.methodLink "TuneHouse" 160 yX2_toldKey ∈ TB := TB_in 530 (by decide +kernel) (by decide +kernel)
theorem kw_491 : Cond.instanceMethod yX2_toldKey ∈ TB := TB_in 531 (by decide +kernel) (by decide +kernel)
theorem kw_492 : Cond.selects "TuneHouse$Likeness" yX2_toldKey yX2_toldKey ∈ TB := TB_in 532 (by decide +kernel) (by decide +kernel)
theorem kw_493 : Cond.code yX2_toldKey cX2_toldKey 3 (some FieldType.int) ∈ TB := TB_in 533 (by decide +kernel) (by decide +kernel)
theorem kw_494 : Cond.methodLink "TuneHouseLaw" 70 yX7_column ∈ TB := TB_in 534 (by decide +kernel) (by decide +kernel)
theorem kw_495 : Cond.instanceMethod yX7_column ∈ TB := TB_in 535 (by decide +kernel) (by decide +kernel)
theorem kw_496 : Cond.selects "TuneHouse" yX7_column yX7_column ∈ TB := TB_in 536 (by decide +kernel) (by decide +kernel)
theorem kw_497 : Cond.code yX7_column cX7_column 8 (some FieldType.int) ∈ TB := TB_in 537 (by decide +kernel) (by decide +kernel)
theorem kw_498 : Cond.methodLink "TuneHouse" 163 yX7_layOut ∈ TB := TB_in 538 (by decide +kernel) (by decide +kernel)
theorem kw_500 : Cond.instanceMethod yX7_layOut ∈ TB := TB_in 540 (by decide +kernel) (by decide +kernel)
theorem kw_501 : Cond.code yX7_layOut cX7_layOut 3 none ∈ TB := TB_in 541 (by decide +kernel) (by decide +kernel)
theorem kw_502 : Cond.methodLink "TuneHouse" 226 yX0_layOut ∈ TB := TB_in 542 (by decide +kernel) (by decide +kernel)
theorem kw_503 : Cond.instanceMethod yX0_layOut ∈ TB := TB_in 543 (by decide +kernel) (by decide +kernel)
theorem kw_504 : Cond.selects "TuneHouse$Aligner" yX0_layOut yX0_layOut ∈ TB := TB_in 544 (by decide +kernel) (by decide +kernel)
theorem kw_505 : Cond.code yX0_layOut cX0_layOut 6 none ∈ TB := TB_in 545 (by decide +kernel) (by decide +kernel)
theorem kw_506 : Cond.constant "TuneHouse$Aligner" 56 (2147483647 : Int32) ∈ TB := TB_in 546 (by decide +kernel) (by decide +kernel)
theorem kw_507 : Cond.methodLink "TuneHouse$Aligner" 57 yX0_leastSum ∈ TB := TB_in 547 (by decide +kernel) (by decide +kernel)
theorem kw_508 : Cond.methodLink "TuneHouse$Aligner" 67 yX6_length ∈ TB := TB_in 548 (by decide +kernel) (by decide +kernel)
theorem kw_509 : Cond.methodLink "TuneHouse$Aligner" 69 yX0_takesTwo ∈ TB := TB_in 549 (by decide +kernel) (by decide +kernel)
theorem kw_511 : Cond.instanceMethod yX0_takesTwo ∈ TB := TB_in 551 (by decide +kernel) (by decide +kernel)
theorem kw_512 : Cond.code yX0_takesTwo cX0_takesTwo 6 (some FieldType.boolean) ∈ TB := TB_in 552 (by decide +kernel) (by decide +kernel)
theorem kw_513 : Cond.methodLink "TuneHouse$Aligner" 73 yX4_ofTwo ∈ TB := TB_in 553 (by decide +kernel) (by decide +kernel)
theorem kw_514 : Cond.instanceMethod yX4_ofTwo ∈ TB := TB_in 554 (by decide +kernel) (by decide +kernel)
theorem kw_515 : Cond.selects "TuneHouse$Prices" yX4_ofTwo yX4_ofTwo ∈ TB := TB_in 555 (by decide +kernel) (by decide +kernel)
theorem kw_516 : Cond.code yX4_ofTwo cX4_ofTwo 8 (some FieldType.int) ∈ TB := TB_in 556 (by decide +kernel) (by decide +kernel)
theorem kw_517 : Cond.methodLink "TuneHouse$Prices" 22 yX6_pitchAt ∈ TB := TB_in 557 (by decide +kernel) (by decide +kernel)
theorem kw_518 : Cond.instanceMethod yX6_pitchAt ∈ TB := TB_in 558 (by decide +kernel) (by decide +kernel)
theorem kw_519 : Cond.selects "TuneHouse$Tune" yX6_pitchAt yX6_pitchAt ∈ TB := TB_in 559 (by decide +kernel) (by decide +kernel)
theorem kw_520 : Cond.code yX6_pitchAt cX6_pitchAt 2 (some FieldType.int) ∈ TB := TB_in 560 (by decide +kernel) (by decide +kernel)
theorem kw_521 : Cond.methodLink "TuneHouse$Prices" 28 yX6_beatsAt ∈ TB := TB_in 561 (by decide +kernel) (by decide +kernel)
theorem kw_522 : Cond.instanceMethod yX6_beatsAt ∈ TB := TB_in 562 (by decide +kernel) (by decide +kernel)
theorem kw_523 : Cond.selects "TuneHouse$Tune" yX6_beatsAt yX6_beatsAt ∈ TB := TB_in 563 (by decide +kernel) (by decide +kernel)
theorem kw_524 : Cond.code yX6_beatsAt cX6_beatsAt 2 (some FieldType.int) ∈ TB := TB_in 564 (by decide +kernel) (by decide +kernel)
theorem kw_525 : Cond.methodLink "TuneHouse$Prices" 31 yX4_ofNotes ∈ TB := TB_in 565 (by decide +kernel) (by decide +kernel)
theorem kw_526 : Cond.methodLink "TuneHouse$Aligner" 77 yX0_put ∈ TB := TB_in 566 (by decide +kernel) (by decide +kernel)
theorem kw_528 : Cond.instanceMethod yX0_put ∈ TB := TB_in 568 (by decide +kernel) (by decide +kernel)
theorem kw_529 : Cond.code yX0_put cX0_put 4 none ∈ TB := TB_in 569 (by decide +kernel) (by decide +kernel)
theorem kw_530 : Cond.methodLink "TuneHouse$Aligner" 81 yX0_takesOne ∈ TB := TB_in 570 (by decide +kernel) (by decide +kernel)
theorem kw_532 : Cond.instanceMethod yX0_takesOne ∈ TB := TB_in 572 (by decide +kernel) (by decide +kernel)
theorem kw_533 : Cond.code yX0_takesOne cX0_takesOne 4 (some FieldType.boolean) ∈ TB := TB_in 573 (by decide +kernel) (by decide +kernel)
theorem kw_534 : Cond.methodLink "TuneHouse$Aligner" 85 yX4_ofOne ∈ TB := TB_in 574 (by decide +kernel) (by decide +kernel)
theorem kw_535 : Cond.instanceMethod yX4_ofOne ∈ TB := TB_in 575 (by decide +kernel) (by decide +kernel)
theorem kw_536 : Cond.selects "TuneHouse$Prices" yX4_ofOne yX4_ofOne ∈ TB := TB_in 576 (by decide +kernel) (by decide +kernel)
theorem kw_537 : Cond.code yX4_ofOne cX4_ofOne 3 (some FieldType.int) ∈ TB := TB_in 577 (by decide +kernel) (by decide +kernel)
theorem kw_538 : Cond.methodLink "TuneHouse" 166 yX0_toldOf ∈ TB := TB_in 578 (by decide +kernel) (by decide +kernel)
theorem kw_539 : Cond.instanceMethod yX0_toldOf ∈ TB := TB_in 579 (by decide +kernel) (by decide +kernel)
theorem kw_540 : Cond.selects "TuneHouse$Aligner" yX0_toldOf yX0_toldOf ∈ TB := TB_in 580 (by decide +kernel) (by decide +kernel)
theorem kw_541 : Cond.code yX0_toldOf cX0_toldOf 4 (some FieldType.int) ∈ TB := TB_in 581 (by decide +kernel) (by decide +kernel)
theorem kw_542 : Cond.methodLink "TuneHouseLaw" 75 yX7_family ∈ TB := TB_in 582 (by decide +kernel) (by decide +kernel)
theorem kw_543 : Cond.instanceMethod yX7_family ∈ TB := TB_in 583 (by decide +kernel) (by decide +kernel)
theorem kw_544 : Cond.selects "TuneHouse" yX7_family yX7_family ∈ TB := TB_in 584 (by decide +kernel) (by decide +kernel)
theorem kw_545 : Cond.code yX7_family cX7_family 6 (some FieldType.int) ∈ TB := TB_in 585 (by decide +kernel) (by decide +kernel)
theorem kw_546 : Cond.methodLink "TuneHouse" 170 yX7_gather ∈ TB := TB_in 586 (by decide +kernel) (by decide +kernel)
theorem kw_548 : Cond.instanceMethod yX7_gather ∈ TB := TB_in 588 (by decide +kernel) (by decide +kernel)
theorem kw_549 : Cond.code yX7_gather cX7_gather 6 (some FieldType.boolean) ∈ TB := TB_in 589 (by decide +kernel) (by decide +kernel)
theorem kw_550 : Cond.methodLink "TuneHouse" 229 yJx4a65c_clear_da8c8 ∈ TB := TB_in 590 (by decide +kernel) (by decide +kernel)
theorem kw_551 : Cond.instanceMethod yJx4a65c_clear_da8c8 ∈ TB := TB_in 591 (by decide +kernel) (by decide +kernel)
theorem kw_552 : Cond.selects "java/util/ArrayList" yJx4a65c_clear_da8c8 yJx4a65c_clear_da8c8 ∈ TB := TB_in 592 (by decide +kernel) (by decide +kernel)
theorem kw_553 : Cond.code yJx4a65c_clear_da8c8 cJx4a65c_clear_da8c8 4 none ∈ TB := TB_in 593 (by decide +kernel) (by decide +kernel)
theorem kw_554 : Cond.methodLink "TuneHouse" 189 yX7_findTrue ∈ TB := TB_in 594 (by decide +kernel) (by decide +kernel)
theorem kw_556 : Cond.instanceMethod yX7_findTrue ∈ TB := TB_in 596 (by decide +kernel) (by decide +kernel)
theorem kw_557 : Cond.code yX7_findTrue cX7_findTrue 4 (some (FieldType.object "TuneHouse$Sheet")) ∈ TB := TB_in 597 (by decide +kernel) (by decide +kernel)
theorem kw_558 : Cond.methodLink "TuneHouse" 232 yX7_addLinked ∈ TB := TB_in 598 (by decide +kernel) (by decide +kernel)
theorem kw_560 : Cond.instanceMethod yX7_addLinked ∈ TB := TB_in 600 (by decide +kernel) (by decide +kernel)
theorem kw_561 : Cond.code yX7_addLinked cX7_addLinked 6 none ∈ TB := TB_in 601 (by decide +kernel) (by decide +kernel)
theorem kw_562 : Cond.methodLink "TuneHouse" 236 yX7_isGathered ∈ TB := TB_in 602 (by decide +kernel) (by decide +kernel)
theorem kw_564 : Cond.instanceMethod yX7_isGathered ∈ TB := TB_in 604 (by decide +kernel) (by decide +kernel)
theorem kw_565 : Cond.code yX7_isGathered cX7_isGathered 3 (some FieldType.boolean) ∈ TB := TB_in 605 (by decide +kernel) (by decide +kernel)
theorem kw_566 : Cond.methodLink "TuneHouse" 181 yJ9_min_7cf53 ∈ TB := TB_in 606 (by decide +kernel) (by decide +kernel)
theorem kw_567 : Cond.methodLink "TuneHouseLaw" 79 yX7_kin ∈ TB := TB_in 607 (by decide +kernel) (by decide +kernel)
theorem kw_568 : Cond.instanceMethod yX7_kin ∈ TB := TB_in 608 (by decide +kernel) (by decide +kernel)
theorem kw_569 : Cond.selects "TuneHouse" yX7_kin yX7_kin ∈ TB := TB_in 609 (by decide +kernel) (by decide +kernel)
theorem kw_570 : Cond.code yX7_kin cX7_kin 4 (some FieldType.int) ∈ TB := TB_in 610 (by decide +kernel) (by decide +kernel)
theorem kw_571 : Cond.methodLink "TuneHouseLaw" 83 yX7_sung ∈ TB := TB_in 611 (by decide +kernel) (by decide +kernel)
theorem kw_572 : Cond.instanceMethod yX7_sung ∈ TB := TB_in 612 (by decide +kernel) (by decide +kernel)
theorem kw_573 : Cond.selects "TuneHouse" yX7_sung yX7_sung ∈ TB := TB_in 613 (by decide +kernel) (by decide +kernel)
theorem kw_574 : Cond.code yX7_sung cX7_sung 6 (some FieldType.int) ∈ TB := TB_in 614 (by decide +kernel) (by decide +kernel)
theorem kw_575 : Cond.methodLink "TuneHouseLaw" 87 yX7_source ∈ TB := TB_in 615 (by decide +kernel) (by decide +kernel)
theorem kw_576 : Cond.instanceMethod yX7_source ∈ TB := TB_in 616 (by decide +kernel) (by decide +kernel)
theorem kw_577 : Cond.selects "TuneHouse" yX7_source yX7_source ∈ TB := TB_in 617 (by decide +kernel) (by decide +kernel)
theorem kw_578 : Cond.code yX7_source cX7_source 5 (some FieldType.int) ∈ TB := TB_in 618 (by decide +kernel) (by decide +kernel)
theorem kw_579 : Cond.methodLink "TuneHouse" 193 yX7_sourceOf ∈ TB := TB_in 619 (by decide +kernel) (by decide +kernel)
theorem kw_581 : Cond.instanceMethod yX7_sourceOf ∈ TB := TB_in 621 (by decide +kernel) (by decide +kernel)
theorem kw_582 : Cond.code yX7_sourceOf cX7_sourceOf 9 (some (FieldType.object "TuneHouse$Sheet")) ∈ TB := TB_in 622 (by decide +kernel) (by decide +kernel)
theorem kw_583 : Cond.methodLink "TuneHouse" 240 yX4_anew ∈ TB := TB_in 623 (by decide +kernel) (by decide +kernel)
theorem kw_584 : Cond.instanceMethod yX4_anew ∈ TB := TB_in 624 (by decide +kernel) (by decide +kernel)
theorem kw_585 : Cond.selects "TuneHouse$Prices" yX4_anew yX4_anew ∈ TB := TB_in 625 (by decide +kernel) (by decide +kernel)
theorem kw_586 : Cond.code yX4_anew cX4_anew 1 (some FieldType.int) ∈ TB := TB_in 626 (by decide +kernel) (by decide +kernel)
theorem kw_587 : Cond.methodLink "TuneHouse" 243 yX5_isEarlierThan ∈ TB := TB_in 627 (by decide +kernel) (by decide +kernel)
theorem kw_588 : Cond.instanceMethod yX5_isEarlierThan ∈ TB := TB_in 628 (by decide +kernel) (by decide +kernel)
theorem kw_589 : Cond.selects "TuneHouse$Sheet" yX5_isEarlierThan yX5_isEarlierThan ∈ TB := TB_in 629 (by decide +kernel) (by decide +kernel)
theorem kw_590 : Cond.code yX5_isEarlierThan cX5_isEarlierThan 2 (some FieldType.boolean) ∈ TB := TB_in 630 (by decide +kernel) (by decide +kernel)
theorem kw_591 : Cond.methodLink "TuneHouseLaw" 92 yX7_changes ∈ TB := TB_in 631 (by decide +kernel) (by decide +kernel)
theorem kw_592 : Cond.instanceMethod yX7_changes ∈ TB := TB_in 632 (by decide +kernel) (by decide +kernel)
theorem kw_593 : Cond.selects "TuneHouse" yX7_changes yX7_changes ∈ TB := TB_in 633 (by decide +kernel) (by decide +kernel)
theorem kw_594 : Cond.code yX7_changes cX7_changes 4 (some FieldType.int) ∈ TB := TB_in 634 (by decide +kernel) (by decide +kernel)
theorem kw_595 : Cond.methodLink "TuneHouse" 197 yX7_changesOf ∈ TB := TB_in 635 (by decide +kernel) (by decide +kernel)
theorem kw_597 : Cond.instanceMethod yX7_changesOf ∈ TB := TB_in 637 (by decide +kernel) (by decide +kernel)
theorem kw_598 : Cond.code yX7_changesOf cX7_changesOf 4 (some FieldType.int) ∈ TB := TB_in 638 (by decide +kernel) (by decide +kernel)
theorem kw_599 : Cond.methodLink "TuneHouseLaw" 96 yX7_all ∈ TB := TB_in 639 (by decide +kernel) (by decide +kernel)
theorem kw_600 : Cond.instanceMethod yX7_all ∈ TB := TB_in 640 (by decide +kernel) (by decide +kernel)
theorem kw_601 : Cond.selects "TuneHouse" yX7_all yX7_all ∈ TB := TB_in 641 (by decide +kernel) (by decide +kernel)
theorem kw_602 : Cond.code yX7_all cX7_all 5 (some FieldType.int) ∈ TB := TB_in 642 (by decide +kernel) (by decide +kernel)
theorem kw_603 : Cond.methodLink "TuneHouseLaw" 100 yX7_doubt ∈ TB := TB_in 643 (by decide +kernel) (by decide +kernel)
theorem kw_604 : Cond.instanceMethod yX7_doubt ∈ TB := TB_in 644 (by decide +kernel) (by decide +kernel)
theorem kw_605 : Cond.selects "TuneHouse" yX7_doubt yX7_doubt ∈ TB := TB_in 645 (by decide +kernel) (by decide +kernel)
theorem kw_606 : Cond.code yX7_doubt cX7_doubt 6 (some FieldType.int) ∈ TB := TB_in 646 (by decide +kernel) (by decide +kernel)
theorem kw_607 : Cond.methodLink "TuneHouse" 201 yX7_rivalsOf ∈ TB := TB_in 647 (by decide +kernel) (by decide +kernel)
theorem kw_609 : Cond.instanceMethod yX7_rivalsOf ∈ TB := TB_in 649 (by decide +kernel) (by decide +kernel)
theorem kw_610 : Cond.code yX7_rivalsOf cX7_rivalsOf 10 (some FieldType.int) ∈ TB := TB_in 650 (by decide +kernel) (by decide +kernel)
theorem kw_611 : Cond.methodLink "TuneHouseLaw" 104 yX7_habit ∈ TB := TB_in 651 (by decide +kernel) (by decide +kernel)
theorem kw_612 : Cond.instanceMethod yX7_habit ∈ TB := TB_in 652 (by decide +kernel) (by decide +kernel)
theorem kw_613 : Cond.selects "TuneHouse" yX7_habit yX7_habit ∈ TB := TB_in 653 (by decide +kernel) (by decide +kernel)
theorem kw_614 : Cond.code yX7_habit cX7_habit 10 (some FieldType.int) ∈ TB := TB_in 654 (by decide +kernel) (by decide +kernel)
theorem kw_615 : Cond.constant "TuneHouse" 205 (-1000000 : Int32) ∈ TB := TB_in 655 (by decide +kernel) (by decide +kernel)
theorem kw_616 : Cond.methodLink "TuneHouse" 206 yX3_sheetOf ∈ TB := TB_in 656 (by decide +kernel) (by decide +kernel)
theorem kw_617 : Cond.instanceMethod yX3_sheetOf ∈ TB := TB_in 657 (by decide +kernel) (by decide +kernel)
theorem kw_618 : Cond.selects "TuneHouse$Pair" yX3_sheetOf yX3_sheetOf ∈ TB := TB_in 658 (by decide +kernel) (by decide +kernel)
theorem kw_619 : Cond.code yX3_sheetOf cX3_sheetOf 2 (some (FieldType.object "TuneHouse$Sheet")) ∈ TB := TB_in 659 (by decide +kernel) (by decide +kernel)
theorem kw_620 : Cond.methodLink "TuneHouse" 209 yX7_habitIn ∈ TB := TB_in 660 (by decide +kernel) (by decide +kernel)
theorem kw_622 : Cond.instanceMethod yX7_habitIn ∈ TB := TB_in 662 (by decide +kernel) (by decide +kernel)
theorem kw_623 : Cond.code yX7_habitIn cX7_habitIn 4 (some FieldType.int) ∈ TB := TB_in 663 (by decide +kernel) (by decide +kernel)
theorem kw_624 : Cond.methodLink "TuneHouse" 246 yX0_rise ∈ TB := TB_in 664 (by decide +kernel) (by decide +kernel)
theorem kw_625 : Cond.instanceMethod yX0_rise ∈ TB := TB_in 665 (by decide +kernel) (by decide +kernel)
theorem kw_626 : Cond.selects "TuneHouse$Aligner" yX0_rise yX0_rise ∈ TB := TB_in 666 (by decide +kernel) (by decide +kernel)
theorem kw_627 : Cond.code yX0_rise cX0_rise 5 (some FieldType.int) ∈ TB := TB_in 667 (by decide +kernel) (by decide +kernel)
theorem kw_628 : Cond.methodLink "TuneHouse$Aligner" 89 yX0_isMeeting ∈ TB := TB_in 668 (by decide +kernel) (by decide +kernel)
theorem kw_630 : Cond.instanceMethod yX0_isMeeting ∈ TB := TB_in 670 (by decide +kernel) (by decide +kernel)
theorem kw_631 : Cond.code yX0_isMeeting cX0_isMeeting 4 (some FieldType.boolean) ∈ TB := TB_in 671 (by decide +kernel) (by decide +kernel)
theorem kw_632 : Cond.methodLink "TuneHouse$Aligner" 93 yX6_pitchAt ∈ TB := TB_in 672 (by decide +kernel) (by decide +kernel)
theorem kw_633 : Cond.methodLink "TuneHouse" 250 yX0_met ∈ TB := TB_in 673 (by decide +kernel) (by decide +kernel)
theorem kw_634 : Cond.instanceMethod yX0_met ∈ TB := TB_in 674 (by decide +kernel) (by decide +kernel)
theorem kw_635 : Cond.selects "TuneHouse$Aligner" yX0_met yX0_met ∈ TB := TB_in 675 (by decide +kernel) (by decide +kernel)
theorem kw_636 : Cond.code yX0_met cX0_met 5 (some FieldType.int) ∈ TB := TB_in 676 (by decide +kernel) (by decide +kernel)
theorem kw_637 : Cond.methodLink "TuneHouseLaw" 108 yX7_span ∈ TB := TB_in 677 (by decide +kernel) (by decide +kernel)
theorem kw_638 : Cond.instanceMethod yX7_span ∈ TB := TB_in 678 (by decide +kernel) (by decide +kernel)
theorem kw_639 : Cond.selects "TuneHouse" yX7_span yX7_span ∈ TB := TB_in 679 (by decide +kernel) (by decide +kernel)
theorem kw_640 : Cond.code yX7_span cX7_span 8 (some FieldType.int) ∈ TB := TB_in 680 (by decide +kernel) (by decide +kernel)
theorem kw_641 : Cond.methodLink "TuneHouseLaw" 113 yX7_count ∈ TB := TB_in 681 (by decide +kernel) (by decide +kernel)
theorem kw_642 : Cond.instanceMethod yX7_count ∈ TB := TB_in 682 (by decide +kernel) (by decide +kernel)
theorem kw_643 : Cond.selects "TuneHouse" yX7_count yX7_count ∈ TB := TB_in 683 (by decide +kernel) (by decide +kernel)
theorem kw_644 : Cond.code yX7_count cX7_count 2 (some FieldType.int) ∈ TB := TB_in 684 (by decide +kernel) (by decide +kernel)
theorem kw_645 : Cond.methodLink "TuneHouseLaw" 52 yL_at ∈ TB := TB_in 685 (by decide +kernel) (by decide +kernel)
theorem kw_646 : Cond.static yL_at ∈ TB := TB_in 686 (by decide +kernel) (by decide +kernel)
theorem kw_647 : Cond.codeWith yL_at method_3_code 7 (some FieldType.int) [(0, 14, 17, 13)] ∈ TB := TB_in 687 (by decide +kernel) (by decide +kernel)
theorem kw_648 : Cond.classLink "TuneHouseLaw" 13 "java/util/NoSuchElementException" ∈ TB := TB_in 688 (by decide +kernel) (by decide +kernel)
theorem kw_649 : Cond.methodLink "TuneHouseLaw" 7 yX7_at ∈ TB := TB_in 689 (by decide +kernel) (by decide +kernel)
theorem kw_650 : Cond.instanceMethod yX7_at ∈ TB := TB_in 690 (by decide +kernel) (by decide +kernel)
theorem kw_651 : Cond.selects "TuneHouse" yX7_at yX7_at ∈ TB := TB_in 691 (by decide +kernel) (by decide +kernel)
theorem kw_652 : Cond.code yX7_at cX7_at 6 (some FieldType.int) ∈ TB := TB_in 692 (by decide +kernel) (by decide +kernel)
theorem kw_653 : Cond.classLink "TuneHouse" 137 "java/util/NoSuchElementException" ∈ TB := TB_in 693 (by decide +kernel) (by decide +kernel)
theorem kw_654 : Cond.instantiable "java/util/NoSuchElementException" 6 ∈ TB := TB_in 694 (by decide +kernel) (by decide +kernel)
theorem kn_655 : Cond.castable "java/util/NoSuchElementException" "java/util/NoSuchElementException" ∈ NB := NB_in 695 (by decide +kernel) rfl
theorem kn_656 : Cond.declares ⟨"java/lang/RuntimeException", "<init>", "()V"⟩ ∈ NB := NB_in 696 (by decide +kernel) rfl
theorem kn_657 : Cond.declares ⟨"java/lang/RuntimeException", "<init>", "(Ljava/lang/String;)V"⟩ ∈ NB := NB_in 697 (by decide +kernel) rfl
theorem kn_658 : Cond.declares ⟨"java/lang/Exception", "<init>", "()V"⟩ ∈ NB := NB_in 698 (by decide +kernel) rfl
theorem kn_659 : Cond.declares ⟨"java/lang/Exception", "<init>", "(Ljava/lang/String;)V"⟩ ∈ NB := NB_in 699 (by decide +kernel) rfl
theorem kn_660 : Cond.declares ⟨"java/lang/Throwable", "<init>", "()V"⟩ ∈ NB := NB_in 700 (by decide +kernel) rfl
theorem kn_661 : Cond.declares ⟨"java/lang/Throwable", "<init>", "(Ljava/lang/String;)V"⟩ ∈ NB := NB_in 701 (by decide +kernel) rfl
theorem kw_662 : Cond.selects "java/util/NoSuchElementException" ⟨"java/lang/Throwable", "fillInStackTrace", "(I)Ljava/lang/Throwable;"⟩ ⟨"java/lang/Throwable", "fillInStackTrace", "(I)Ljava/lang/Throwable;"⟩ ∈ TB := TB_in 702 (by decide +kernel) (by decide +kernel)
theorem kw_663 : Cond.selects "java/util/NoSuchElementException" ⟨"java/lang/Throwable", "fillInStackTrace", "()Ljava/lang/Throwable;"⟩ ⟨"java/lang/Throwable", "fillInStackTrace", "()Ljava/lang/Throwable;"⟩ ∈ TB := TB_in 703 (by decide +kernel) (by decide +kernel)
theorem kw_674 : Cond.fieldLink "java/lang/Throwable" 198 "java/lang/Throwable" "backtrace" "Ljava/lang/Object;" ∈ TB := TB_in 714 (by decide +kernel) (by decide +kernel)
theorem kw_676 : Cond.instanceMethod ⟨"java/lang/Throwable", "<init>", "()V"⟩ ∈ TB := TB_in 716 (by decide +kernel) (by decide +kernel)
theorem kw_677 : Cond.code ⟨"java/lang/Throwable", "<init>", "()V"⟩ prog_18_method_1_code 1 none ∈ TB := TB_in 717 (by decide +kernel) (by decide +kernel)
theorem kw_678 : Cond.methodLink "java/lang/Throwable" 1 ⟨"java/lang/Object", "<init>", "()V"⟩ ∈ TB := TB_in 718 (by decide +kernel) (by decide +kernel)
theorem kw_679 : Cond.fieldLink "java/lang/Throwable" 13 "java/lang/Throwable" "UNASSIGNED_STACK" "[Ljava/lang/StackTraceElement;" ∈ TB := TB_in 719 (by decide +kernel) (by decide +kernel)
theorem kw_681 : Cond.fieldLink "java/lang/Throwable" 20 "java/lang/Throwable" "SUPPRESSED_SENTINEL" "Ljava/util/List;" ∈ TB := TB_in 721 (by decide +kernel) (by decide +kernel)
theorem kw_683 : Cond.methodLink "java/lang/Throwable" 27 ⟨"java/lang/Throwable", "fillInStackTrace", "()Ljava/lang/Throwable;"⟩ ∈ TB := TB_in 723 (by decide +kernel) (by decide +kernel)
theorem kw_684 : Cond.instanceMethod ⟨"java/lang/Throwable", "fillInStackTrace", "()Ljava/lang/Throwable;"⟩ ∈ TB := TB_in 724 (by decide +kernel) (by decide +kernel)
theorem kw_685 : Cond.sameMethod "java/lang/Throwable" "java/lang/Throwable" "fillInStackTrace" "()Ljava/lang/Throwable;" ∈ TB := TB_in 725 (by decide +kernel) (by decide +kernel)
theorem kw_686 : Cond.codeSync ⟨"java/lang/Throwable", "fillInStackTrace", "()Ljava/lang/Throwable;"⟩ prog_18_method_18_code 1 (some (FieldType.object "java/lang/Throwable")) ∈ TB := TB_in 726 (by decide +kernel) (by decide +kernel)
theorem kw_687 : Cond.methodLink "java/lang/Throwable" 202 ⟨"java/lang/Throwable", "fillInStackTrace", "(I)Ljava/lang/Throwable;"⟩ ∈ TB := TB_in 727 (by decide +kernel) (by decide +kernel)
theorem kw_689 : Cond.instanceMethod ⟨"java/lang/Throwable", "fillInStackTrace", "(I)Ljava/lang/Throwable;"⟩ ∈ TB := TB_in 729 (by decide +kernel) (by decide +kernel)
theorem kw_690 : Cond.instantiable "java/lang/Throwable" 6 ∈ TB := TB_in 730 (by decide +kernel) (by decide +kernel)
theorem kw_691 : Cond.native ⟨"java/lang/Throwable", "fillInStackTrace", "(I)Ljava/lang/Throwable;"⟩ ∈ TB := TB_in 731 (by decide +kernel) (by decide +kernel)
theorem kw_692 : Cond.methodLink "TuneHouse" 139 ⟨"java/util/NoSuchElementException", "<init>", "()V"⟩ ∈ TB := TB_in 732 (by decide +kernel) (by decide +kernel)
theorem kw_693 : Cond.instanceMethod ⟨"java/util/NoSuchElementException", "<init>", "()V"⟩ ∈ TB := TB_in 733 (by decide +kernel) (by decide +kernel)
theorem kw_694 : Cond.code ⟨"java/util/NoSuchElementException", "<init>", "()V"⟩ prog_25_method_1_code 1 none ∈ TB := TB_in 734 (by decide +kernel) (by decide +kernel)
theorem kw_695 : Cond.methodLink "java/util/NoSuchElementException" 1 ⟨"java/lang/RuntimeException", "<init>", "()V"⟩ ∈ TB := TB_in 735 (by decide +kernel) (by decide +kernel)
theorem kw_696 : Cond.instanceMethod ⟨"java/lang/RuntimeException", "<init>", "()V"⟩ ∈ TB := TB_in 736 (by decide +kernel) (by decide +kernel)
theorem kw_697 : Cond.code ⟨"java/lang/RuntimeException", "<init>", "()V"⟩ prog_16_method_1_code 1 none ∈ TB := TB_in 737 (by decide +kernel) (by decide +kernel)
theorem kw_698 : Cond.methodLink "java/lang/RuntimeException" 1 ⟨"java/lang/Exception", "<init>", "()V"⟩ ∈ TB := TB_in 738 (by decide +kernel) (by decide +kernel)
theorem kw_699 : Cond.instanceMethod ⟨"java/lang/Exception", "<init>", "()V"⟩ ∈ TB := TB_in 739 (by decide +kernel) (by decide +kernel)
theorem kw_700 : Cond.code ⟨"java/lang/Exception", "<init>", "()V"⟩ prog_13_method_1_code 1 none ∈ TB := TB_in 740 (by decide +kernel) (by decide +kernel)
theorem kw_701 : Cond.methodLink "java/lang/Exception" 1 ⟨"java/lang/Throwable", "<init>", "()V"⟩ ∈ TB := TB_in 741 (by decide +kernel) (by decide +kernel)
theorem kw_703 : Cond.fieldLink "java/lang/Throwable" 7 "java/lang/Throwable" "cause" "Ljava/lang/Throwable;" ∈ TB := TB_in 743 (by decide +kernel) (by decide +kernel)
theorem kw_704 : Cond.fieldLink "java/lang/Throwable" 17 "java/lang/Throwable" "stackTrace" "[Ljava/lang/StackTraceElement;" ∈ TB := TB_in 744 (by decide +kernel) (by decide +kernel)
theorem kw_705 : Cond.fieldLink "java/lang/Throwable" 24 "java/lang/Throwable" "suppressedExceptions" "Ljava/util/List;" ∈ TB := TB_in 745 (by decide +kernel) (by decide +kernel)
theorem kw_714 : Cond.methodLink "TuneHouse" 147 yX6_pitchAt ∈ TB := TB_in 754 (by decide +kernel) (by decide +kernel)
theorem kw_715 : Cond.methodLink "TuneHouse" 153 yX6_beatsAt ∈ TB := TB_in 755 (by decide +kernel) (by decide +kernel)
theorem kw_716 : Cond.classLink "TuneHouseLaw" 16 "TuneHouseModel" ∈ TB := TB_in 756 (by decide +kernel) (by decide +kernel)
theorem kw_717 : Cond.instantiable "TuneHouseModel" 35 ∈ TB := TB_in 757 (by decide +kernel) (by decide +kernel)
theorem kw_718 : Cond.methodLink "TuneHouseLaw" 18 yX8_init ∈ TB := TB_in 758 (by decide +kernel) (by decide +kernel)
theorem kw_719 : Cond.instanceMethod yX8_init ∈ TB := TB_in 759 (by decide +kernel) (by decide +kernel)
theorem kw_720 : Cond.code yX8_init cX8_init 1 none ∈ TB := TB_in 760 (by decide +kernel) (by decide +kernel)
theorem kw_721 : Cond.methodLink "TuneHouseModel" 3 ⟨"java/lang/Object", "<init>", "()V"⟩ ∈ TB := TB_in 761 (by decide +kernel) (by decide +kernel)
theorem kw_722 : Cond.fieldLink "TuneHouseModel" 82 "TuneHouseModel" "thrown" "I" ∈ TB := TB_in 762 (by decide +kernel) (by decide +kernel)
theorem kw_723 : Cond.fieldLink "TuneHouseModel" 9 "TuneHouseModel" "hand" "[I" ∈ TB := TB_in 763 (by decide +kernel) (by decide +kernel)
theorem kw_724 : Cond.fieldLink "TuneHouseModel" 13 "TuneHouseModel" "year" "[I" ∈ TB := TB_in 764 (by decide +kernel) (by decide +kernel)
theorem kw_725 : Cond.fieldLink "TuneHouseModel" 16 "TuneHouseModel" "words" "[I" ∈ TB := TB_in 765 (by decide +kernel) (by decide +kernel)
theorem kw_726 : Cond.fieldLink "TuneHouseModel" 19 "TuneHouseModel" "length" "[I" ∈ TB := TB_in 766 (by decide +kernel) (by decide +kernel)
theorem kw_727 : Cond.fieldLink "TuneHouseModel" 22 "TuneHouseModel" "forged" "[I" ∈ TB := TB_in 767 (by decide +kernel) (by decide +kernel)
theorem kw_728 : Cond.fieldLink "TuneHouseModel" 25 "TuneHouseModel" "notePitch" "[I" ∈ TB := TB_in 768 (by decide +kernel) (by decide +kernel)
theorem kw_729 : Cond.fieldLink "TuneHouseModel" 28 "TuneHouseModel" "noteBeats" "[I" ∈ TB := TB_in 769 (by decide +kernel) (by decide +kernel)
theorem kw_730 : Cond.fieldLink "TuneHouseModel" 31 "TuneHouseModel" "correctedSheet" "[I" ∈ TB := TB_in 770 (by decide +kernel) (by decide +kernel)
theorem kw_731 : Cond.fieldLink "TuneHouseModel" 34 "TuneHouseModel" "correctedNote" "[I" ∈ TB := TB_in 771 (by decide +kernel) (by decide +kernel)
theorem kw_732 : Cond.fieldLink "TuneHouseModel" 37 "TuneHouseModel" "correctedPitch" "[I" ∈ TB := TB_in 772 (by decide +kernel) (by decide +kernel)
theorem kw_733 : Cond.fieldLink "TuneHouseModel" 40 "TuneHouseModel" "correctedBeats" "[I" ∈ TB := TB_in 773 (by decide +kernel) (by decide +kernel)
theorem kw_734 : Cond.fieldLink "TuneHouseModel" 43 "TuneHouseModel" "correctedDay" "[I" ∈ TB := TB_in 774 (by decide +kernel) (by decide +kernel)
theorem kw_735 : Cond.fieldLink "TuneHouseModel" 46 "TuneHouseModel" "doubleOne" "[I" ∈ TB := TB_in 775 (by decide +kernel) (by decide +kernel)
theorem kw_736 : Cond.fieldLink "TuneHouseModel" 49 "TuneHouseModel" "doubleOther" "[I" ∈ TB := TB_in 776 (by decide +kernel) (by decide +kernel)
theorem kw_737 : Cond.fieldLink "TuneHouseModel" 52 "TuneHouseModel" "price" "[I" ∈ TB := TB_in 777 (by decide +kernel) (by decide +kernel)
theorem kw_738 : Cond.fieldLink "TuneHouseModel" 86 "TuneHouseModel" "sheets" "I" ∈ TB := TB_in 778 (by decide +kernel) (by decide +kernel)
theorem kw_739 : Cond.fieldLink "TuneHouseModel" 104 "TuneHouseModel" "corrections" "I" ∈ TB := TB_in 779 (by decide +kernel) (by decide +kernel)
theorem kw_740 : Cond.fieldLink "TuneHouseModel" 107 "TuneHouseModel" "doubles" "I" ∈ TB := TB_in 780 (by decide +kernel) (by decide +kernel)
theorem kw_741 : Cond.fieldLink "TuneHouseModel" 89 "TuneHouseModel" "now" "I" ∈ TB := TB_in 781 (by decide +kernel) (by decide +kernel)
theorem kw_742 : Cond.fieldLink "TuneHouseModel" 55 "TuneHouseModel" "firstPitch" "[I" ∈ TB := TB_in 782 (by decide +kernel) (by decide +kernel)
theorem kw_743 : Cond.fieldLink "TuneHouseModel" 58 "TuneHouseModel" "firstBeats" "[I" ∈ TB := TB_in 783 (by decide +kernel) (by decide +kernel)
theorem kw_744 : Cond.fieldLink "TuneHouseModel" 61 "TuneHouseModel" "secondPitch" "[I" ∈ TB := TB_in 784 (by decide +kernel) (by decide +kernel)
theorem kw_745 : Cond.fieldLink "TuneHouseModel" 64 "TuneHouseModel" "secondBeats" "[I" ∈ TB := TB_in 785 (by decide +kernel) (by decide +kernel)
theorem kw_746 : Cond.fieldLink "TuneHouseModel" 67 "TuneHouseModel" "sums" "[I" ∈ TB := TB_in 786 (by decide +kernel) (by decide +kernel)
theorem kw_747 : Cond.fieldLink "TuneHouseModel" 117 "TuneHouseModel" "firstLong" "I" ∈ TB := TB_in 787 (by decide +kernel) (by decide +kernel)
theorem kw_748 : Cond.fieldLink "TuneHouseModel" 120 "TuneHouseModel" "secondLong" "I" ∈ TB := TB_in 788 (by decide +kernel) (by decide +kernel)
theorem kw_749 : Cond.fieldLink "TuneHouseModel" 147 "TuneHouseModel" "told" "I" ∈ TB := TB_in 789 (by decide +kernel) (by decide +kernel)
theorem kw_750 : Cond.fieldLink "TuneHouseModel" 153 "TuneHouseModel" "toldKey" "I" ∈ TB := TB_in 790 (by decide +kernel) (by decide +kernel)
theorem kw_751 : Cond.fieldLink "TuneHouseModel" 70 "TuneHouseModel" "columnFirst" "[I" ∈ TB := TB_in 791 (by decide +kernel) (by decide +kernel)
theorem kw_752 : Cond.fieldLink "TuneHouseModel" 73 "TuneHouseModel" "columnSecond" "[I" ∈ TB := TB_in 792 (by decide +kernel) (by decide +kernel)
theorem kw_753 : Cond.fieldLink "TuneHouseModel" 76 "TuneHouseModel" "columnPrice" "[I" ∈ TB := TB_in 793 (by decide +kernel) (by decide +kernel)
theorem kw_754 : Cond.fieldLink "TuneHouseModel" 162 "TuneHouseModel" "columns" "I" ∈ TB := TB_in 794 (by decide +kernel) (by decide +kernel)
theorem kw_755 : Cond.fieldLink "TuneHouseModel" 79 "TuneHouseModel" "family" "[I" ∈ TB := TB_in 795 (by decide +kernel) (by decide +kernel)
theorem kw_756 : Cond.fieldLink "TuneHouseModel" 177 "TuneHouseModel" "sourceFar" "I" ∈ TB := TB_in 796 (by decide +kernel) (by decide +kernel)
theorem kw_828 : Cond.methodLink "TuneHouseLaw" 58 yX8_thrown ∈ TB := TB_in 868 (by decide +kernel) (by decide +kernel)
theorem kw_829 : Cond.instanceMethod yX8_thrown ∈ TB := TB_in 869 (by decide +kernel) (by decide +kernel)
theorem kw_830 : Cond.selects "TuneHouseModel" yX8_thrown yX8_thrown ∈ TB := TB_in 870 (by decide +kernel) (by decide +kernel)
theorem kw_831 : Cond.code yX8_thrown cX8_thrown 1 (some FieldType.int) ∈ TB := TB_in 871 (by decide +kernel) (by decide +kernel)
theorem kw_832 : Cond.methodLink "TuneHouseLaw" 23 yX8_sheet ∈ TB := TB_in 872 (by decide +kernel) (by decide +kernel)
theorem kw_833 : Cond.instanceMethod yX8_sheet ∈ TB := TB_in 873 (by decide +kernel) (by decide +kernel)
theorem kw_834 : Cond.selects "TuneHouseModel" yX8_sheet yX8_sheet ∈ TB := TB_in 874 (by decide +kernel) (by decide +kernel)
theorem kw_835 : Cond.code yX8_sheet cX8_sheet 4 (some FieldType.int) ∈ TB := TB_in 875 (by decide +kernel) (by decide +kernel)
theorem kw_836 : Cond.methodLink "TuneHouseModel" 92 yX8_isIn ∈ TB := TB_in 876 (by decide +kernel) (by decide +kernel)
theorem kw_837 : Cond.static yX8_isIn ∈ TB := TB_in 877 (by decide +kernel) (by decide +kernel)
theorem kw_838 : Cond.code yX8_isIn cX8_isIn 3 (some FieldType.boolean) ∈ TB := TB_in 878 (by decide +kernel) (by decide +kernel)
theorem kw_839 : Cond.methodLink "TuneHouseLaw" 27 yX8_note ∈ TB := TB_in 879 (by decide +kernel) (by decide +kernel)
theorem kw_840 : Cond.instanceMethod yX8_note ∈ TB := TB_in 880 (by decide +kernel) (by decide +kernel)
theorem kw_841 : Cond.selects "TuneHouseModel" yX8_note yX8_note ∈ TB := TB_in 881 (by decide +kernel) (by decide +kernel)
theorem kw_842 : Cond.code yX8_note cX8_note 4 (some FieldType.int) ∈ TB := TB_in 882 (by decide +kernel) (by decide +kernel)
theorem kw_843 : Cond.methodLink "TuneHouseModel" 96 yX8_isSheet ∈ TB := TB_in 883 (by decide +kernel) (by decide +kernel)
theorem kw_845 : Cond.instanceMethod yX8_isSheet ∈ TB := TB_in 885 (by decide +kernel) (by decide +kernel)
theorem kw_846 : Cond.code yX8_isSheet cX8_isSheet 2 (some FieldType.boolean) ∈ TB := TB_in 886 (by decide +kernel) (by decide +kernel)
theorem kw_847 : Cond.methodLink "TuneHouseModel" 100 yX8_isNote ∈ TB := TB_in 887 (by decide +kernel) (by decide +kernel)
theorem kw_848 : Cond.static yX8_isNote ∈ TB := TB_in 888 (by decide +kernel) (by decide +kernel)
theorem kw_849 : Cond.code yX8_isNote cX8_isNote 2 (some FieldType.boolean) ∈ TB := TB_in 889 (by decide +kernel) (by decide +kernel)
theorem kw_850 : Cond.methodLink "TuneHouseLaw" 32 yX8_correct ∈ TB := TB_in 890 (by decide +kernel) (by decide +kernel)
theorem kw_851 : Cond.instanceMethod yX8_correct ∈ TB := TB_in 891 (by decide +kernel) (by decide +kernel)
theorem kw_852 : Cond.selects "TuneHouseModel" yX8_correct yX8_correct ∈ TB := TB_in 892 (by decide +kernel) (by decide +kernel)
theorem kw_853 : Cond.code yX8_correct cX8_correct 5 (some FieldType.boolean) ∈ TB := TB_in 893 (by decide +kernel) (by decide +kernel)
theorem kw_854 : Cond.methodLink "TuneHouseLaw" 37 yX8_forge ∈ TB := TB_in 894 (by decide +kernel) (by decide +kernel)
theorem kw_855 : Cond.instanceMethod yX8_forge ∈ TB := TB_in 895 (by decide +kernel) (by decide +kernel)
theorem kw_856 : Cond.selects "TuneHouseModel" yX8_forge yX8_forge ∈ TB := TB_in 896 (by decide +kernel) (by decide +kernel)
theorem kw_857 : Cond.code yX8_forge cX8_forge 2 (some FieldType.boolean) ∈ TB := TB_in 897 (by decide +kernel) (by decide +kernel)
theorem kw_858 : Cond.methodLink "TuneHouseLaw" 42 yX8_doubles ∈ TB := TB_in 898 (by decide +kernel) (by decide +kernel)
theorem kw_859 : Cond.instanceMethod yX8_doubles ∈ TB := TB_in 899 (by decide +kernel) (by decide +kernel)
theorem kw_860 : Cond.selects "TuneHouseModel" yX8_doubles yX8_doubles ∈ TB := TB_in 900 (by decide +kernel) (by decide +kernel)
theorem kw_861 : Cond.code yX8_doubles cX8_doubles 4 (some FieldType.boolean) ∈ TB := TB_in 901 (by decide +kernel) (by decide +kernel)
theorem kw_862 : Cond.methodLink "TuneHouseLaw" 47 yX8_days ∈ TB := TB_in 902 (by decide +kernel) (by decide +kernel)
theorem kw_863 : Cond.instanceMethod yX8_days ∈ TB := TB_in 903 (by decide +kernel) (by decide +kernel)
theorem kw_864 : Cond.selects "TuneHouseModel" yX8_days yX8_days ∈ TB := TB_in 904 (by decide +kernel) (by decide +kernel)
theorem kw_865 : Cond.code yX8_days cX8_days 2 (some FieldType.int) ∈ TB := TB_in 905 (by decide +kernel) (by decide +kernel)
theorem kw_866 : Cond.methodLink "TuneHouseLaw" 51 yX8_price ∈ TB := TB_in 906 (by decide +kernel) (by decide +kernel)
theorem kw_867 : Cond.instanceMethod yX8_price ∈ TB := TB_in 907 (by decide +kernel) (by decide +kernel)
theorem kw_868 : Cond.selects "TuneHouseModel" yX8_price yX8_price ∈ TB := TB_in 908 (by decide +kernel) (by decide +kernel)
theorem kw_869 : Cond.code yX8_price cX8_price 3 (some FieldType.boolean) ∈ TB := TB_in 909 (by decide +kernel) (by decide +kernel)
theorem kw_870 : Cond.methodLink "TuneHouseLaw" 57 yX8_at ∈ TB := TB_in 910 (by decide +kernel) (by decide +kernel)
theorem kw_871 : Cond.instanceMethod yX8_at ∈ TB := TB_in 911 (by decide +kernel) (by decide +kernel)
theorem kw_872 : Cond.selects "TuneHouseModel" yX8_at yX8_at ∈ TB := TB_in 912 (by decide +kernel) (by decide +kernel)
theorem kw_873 : Cond.code yX8_at cX8_at 5 (some FieldType.int) ∈ TB := TB_in 913 (by decide +kernel) (by decide +kernel)
theorem kw_874 : Cond.methodLink "TuneHouseModel" 110 yX8_isDay ∈ TB := TB_in 914 (by decide +kernel) (by decide +kernel)
theorem kw_876 : Cond.instanceMethod yX8_isDay ∈ TB := TB_in 916 (by decide +kernel) (by decide +kernel)
theorem kw_877 : Cond.code yX8_isDay cX8_isDay 2 (some FieldType.boolean) ∈ TB := TB_in 917 (by decide +kernel) (by decide +kernel)
theorem kw_878 : Cond.methodLink "TuneHouseModel" 113 yX8_known ∈ TB := TB_in 918 (by decide +kernel) (by decide +kernel)
theorem kw_880 : Cond.instanceMethod yX8_known ∈ TB := TB_in 920 (by decide +kernel) (by decide +kernel)
theorem kw_881 : Cond.code yX8_known cX8_known 7 (some FieldType.int) ∈ TB := TB_in 921 (by decide +kernel) (by decide +kernel)
theorem kw_882 : Cond.methodLink "TuneHouseLaw" 65 yX8_distance ∈ TB := TB_in 922 (by decide +kernel) (by decide +kernel)
theorem kw_883 : Cond.instanceMethod yX8_distance ∈ TB := TB_in 923 (by decide +kernel) (by decide +kernel)
theorem kw_884 : Cond.selects "TuneHouseModel" yX8_distance yX8_distance ∈ TB := TB_in 924 (by decide +kernel) (by decide +kernel)
theorem kw_885 : Cond.code yX8_distance cX8_distance 4 (some FieldType.int) ∈ TB := TB_in 925 (by decide +kernel) (by decide +kernel)
theorem kw_886 : Cond.methodLink "TuneHouseModel" 156 yX8_isPair ∈ TB := TB_in 926 (by decide +kernel) (by decide +kernel)
theorem kw_888 : Cond.instanceMethod yX8_isPair ∈ TB := TB_in 928 (by decide +kernel) (by decide +kernel)
theorem kw_889 : Cond.code yX8_isPair cX8_isPair 4 (some FieldType.boolean) ∈ TB := TB_in 929 (by decide +kernel) (by decide +kernel)
theorem kw_890 : Cond.methodLink "TuneHouseModel" 159 yX8_far ∈ TB := TB_in 930 (by decide +kernel) (by decide +kernel)
theorem kw_892 : Cond.instanceMethod yX8_far ∈ TB := TB_in 932 (by decide +kernel) (by decide +kernel)
theorem kw_893 : Cond.code yX8_far cX8_far 7 (some FieldType.int) ∈ TB := TB_in 933 (by decide +kernel) (by decide +kernel)
theorem kw_894 : Cond.methodLink "TuneHouseModel" 143 yX8_ready ∈ TB := TB_in 934 (by decide +kernel) (by decide +kernel)
theorem kw_896 : Cond.instanceMethod yX8_ready ∈ TB := TB_in 936 (by decide +kernel) (by decide +kernel)
theorem kw_897 : Cond.code yX8_ready cX8_ready 5 none ∈ TB := TB_in 937 (by decide +kernel) (by decide +kernel)
theorem kw_898 : Cond.constant "TuneHouseModel" 135 (2147483647 : Int32) ∈ TB := TB_in 938 (by decide +kernel) (by decide +kernel)
theorem kw_899 : Cond.methodLink "TuneHouseModel" 150 yX8_lay ∈ TB := TB_in 939 (by decide +kernel) (by decide +kernel)
theorem kw_901 : Cond.instanceMethod yX8_lay ∈ TB := TB_in 941 (by decide +kernel) (by decide +kernel)
theorem kw_902 : Cond.code yX8_lay cX8_lay 5 (some FieldType.int) ∈ TB := TB_in 942 (by decide +kernel) (by decide +kernel)
theorem kw_903 : Cond.methodLink "TuneHouseModel" 136 yX8_ofTwo ∈ TB := TB_in 943 (by decide +kernel) (by decide +kernel)
theorem kw_905 : Cond.instanceMethod yX8_ofTwo ∈ TB := TB_in 945 (by decide +kernel) (by decide +kernel)
theorem kw_906 : Cond.code yX8_ofTwo cX8_ofTwo 4 (some FieldType.int) ∈ TB := TB_in 946 (by decide +kernel) (by decide +kernel)
theorem kw_907 : Cond.methodLink "TuneHouseModel" 123 yJ9_abs_0f7a4 ∈ TB := TB_in 947 (by decide +kernel) (by decide +kernel)
theorem kw_908 : Cond.static yJ9_abs_0f7a4 ∈ TB := TB_in 948 (by decide +kernel) (by decide +kernel)
theorem kw_909 : Cond.code yJ9_abs_0f7a4 cJ9_abs_0f7a4 1 (some FieldType.int) ∈ TB := TB_in 949 (by decide +kernel) (by decide +kernel)
theorem kw_910 : Cond.methodLink "TuneHouseModel" 129 yJ9_min_7cf53 ∈ TB := TB_in 950 (by decide +kernel) (by decide +kernel)
theorem kw_911 : Cond.methodLink "TuneHouseModel" 140 yX8_alone ∈ TB := TB_in 951 (by decide +kernel) (by decide +kernel)
theorem kw_913 : Cond.instanceMethod yX8_alone ∈ TB := TB_in 953 (by decide +kernel) (by decide +kernel)
theorem kw_914 : Cond.code yX8_alone cX8_alone 2 (some FieldType.int) ∈ TB := TB_in 954 (by decide +kernel) (by decide +kernel)
theorem kw_915 : Cond.methodLink "TuneHouseLaw" 69 yX8_key ∈ TB := TB_in 955 (by decide +kernel) (by decide +kernel)
theorem kw_916 : Cond.instanceMethod yX8_key ∈ TB := TB_in 956 (by decide +kernel) (by decide +kernel)
theorem kw_917 : Cond.selects "TuneHouseModel" yX8_key yX8_key ∈ TB := TB_in 957 (by decide +kernel) (by decide +kernel)
theorem kw_918 : Cond.code yX8_key cX8_key 5 (some FieldType.int) ∈ TB := TB_in 958 (by decide +kernel) (by decide +kernel)
theorem kw_919 : Cond.methodLink "TuneHouseLaw" 74 yX8_column ∈ TB := TB_in 959 (by decide +kernel) (by decide +kernel)
theorem kw_920 : Cond.instanceMethod yX8_column ∈ TB := TB_in 960 (by decide +kernel) (by decide +kernel)
theorem kw_921 : Cond.selects "TuneHouseModel" yX8_column yX8_column ∈ TB := TB_in 961 (by decide +kernel) (by decide +kernel)
theorem kw_922 : Cond.code yX8_column cX8_column 7 (some FieldType.int) ∈ TB := TB_in 962 (by decide +kernel) (by decide +kernel)
theorem kw_923 : Cond.methodLink "TuneHouseModel" 165 yX8_align ∈ TB := TB_in 963 (by decide +kernel) (by decide +kernel)
theorem kw_925 : Cond.instanceMethod yX8_align ∈ TB := TB_in 965 (by decide +kernel) (by decide +kernel)
theorem kw_926 : Cond.code yX8_align cX8_align 10 none ∈ TB := TB_in 966 (by decide +kernel) (by decide +kernel)
theorem kw_927 : Cond.methodLink "TuneHouseLaw" 78 yX8_family ∈ TB := TB_in 967 (by decide +kernel) (by decide +kernel)
theorem kw_928 : Cond.instanceMethod yX8_family ∈ TB := TB_in 968 (by decide +kernel) (by decide +kernel)
theorem kw_929 : Cond.selects "TuneHouseModel" yX8_family yX8_family ∈ TB := TB_in 969 (by decide +kernel) (by decide +kernel)
theorem kw_930 : Cond.code yX8_family cX8_family 4 (some FieldType.int) ∈ TB := TB_in 970 (by decide +kernel) (by decide +kernel)
theorem kw_931 : Cond.methodLink "TuneHouseModel" 171 yX8_families ∈ TB := TB_in 971 (by decide +kernel) (by decide +kernel)
theorem kw_933 : Cond.instanceMethod yX8_families ∈ TB := TB_in 973 (by decide +kernel) (by decide +kernel)
theorem kw_934 : Cond.code yX8_families cX8_families 9 (some FieldType.boolean) ∈ TB := TB_in 974 (by decide +kernel) (by decide +kernel)
theorem kw_935 : Cond.methodLink "TuneHouseModel" 168 yX8_isForged ∈ TB := TB_in 975 (by decide +kernel) (by decide +kernel)
theorem kw_937 : Cond.instanceMethod yX8_isForged ∈ TB := TB_in 977 (by decide +kernel) (by decide +kernel)
theorem kw_938 : Cond.code yX8_isForged cX8_isForged 3 (some FieldType.boolean) ∈ TB := TB_in 978 (by decide +kernel) (by decide +kernel)
theorem kw_939 : Cond.methodLink "TuneHouseLaw" 82 yX8_kin ∈ TB := TB_in 979 (by decide +kernel) (by decide +kernel)
theorem kw_940 : Cond.instanceMethod yX8_kin ∈ TB := TB_in 980 (by decide +kernel) (by decide +kernel)
theorem kw_941 : Cond.selects "TuneHouseModel" yX8_kin yX8_kin ∈ TB := TB_in 981 (by decide +kernel) (by decide +kernel)
theorem kw_942 : Cond.code yX8_kin cX8_kin 6 (some FieldType.int) ∈ TB := TB_in 982 (by decide +kernel) (by decide +kernel)
theorem kw_943 : Cond.methodLink "TuneHouseLaw" 86 yX8_sung ∈ TB := TB_in 983 (by decide +kernel) (by decide +kernel)
theorem kw_944 : Cond.instanceMethod yX8_sung ∈ TB := TB_in 984 (by decide +kernel) (by decide +kernel)
theorem kw_945 : Cond.selects "TuneHouseModel" yX8_sung yX8_sung ∈ TB := TB_in 985 (by decide +kernel) (by decide +kernel)
theorem kw_946 : Cond.code yX8_sung cX8_sung 6 (some FieldType.int) ∈ TB := TB_in 986 (by decide +kernel) (by decide +kernel)
theorem kw_947 : Cond.methodLink "TuneHouseLaw" 91 yX8_source ∈ TB := TB_in 987 (by decide +kernel) (by decide +kernel)
theorem kw_948 : Cond.instanceMethod yX8_source ∈ TB := TB_in 988 (by decide +kernel) (by decide +kernel)
theorem kw_949 : Cond.selects "TuneHouseModel" yX8_source yX8_source ∈ TB := TB_in 989 (by decide +kernel) (by decide +kernel)
theorem kw_950 : Cond.code yX8_source cX8_source 3 (some FieldType.int) ∈ TB := TB_in 990 (by decide +kernel) (by decide +kernel)
theorem kw_951 : Cond.methodLink "TuneHouseModel" 180 yX8_isAsked ∈ TB := TB_in 991 (by decide +kernel) (by decide +kernel)
theorem kw_953 : Cond.instanceMethod yX8_isAsked ∈ TB := TB_in 993 (by decide +kernel) (by decide +kernel)
theorem kw_954 : Cond.code yX8_isAsked cX8_isAsked 3 (some FieldType.boolean) ∈ TB := TB_in 994 (by decide +kernel) (by decide +kernel)
theorem kw_955 : Cond.methodLink "TuneHouseModel" 183 yX8_sourceOf ∈ TB := TB_in 995 (by decide +kernel) (by decide +kernel)
theorem kw_957 : Cond.instanceMethod yX8_sourceOf ∈ TB := TB_in 997 (by decide +kernel) (by decide +kernel)
theorem kw_958 : Cond.code yX8_sourceOf cX8_sourceOf 6 (some FieldType.int) ∈ TB := TB_in 998 (by decide +kernel) (by decide +kernel)
theorem kw_959 : Cond.methodLink "TuneHouseModel" 174 yX8_isEarlier ∈ TB := TB_in 999 (by decide +kernel) (by decide +kernel)
theorem kw_961 : Cond.instanceMethod yX8_isEarlier ∈ TB := TB_in 1001 (by decide +kernel) (by decide +kernel)
theorem kw_962 : Cond.code yX8_isEarlier cX8_isEarlier 3 (some FieldType.boolean) ∈ TB := TB_in 1002 (by decide +kernel) (by decide +kernel)
theorem kw_963 : Cond.methodLink "TuneHouseLaw" 95 yX8_changes ∈ TB := TB_in 1003 (by decide +kernel) (by decide +kernel)
theorem kw_964 : Cond.instanceMethod yX8_changes ∈ TB := TB_in 1004 (by decide +kernel) (by decide +kernel)
theorem kw_965 : Cond.selects "TuneHouseModel" yX8_changes yX8_changes ∈ TB := TB_in 1005 (by decide +kernel) (by decide +kernel)
theorem kw_966 : Cond.code yX8_changes cX8_changes 3 (some FieldType.int) ∈ TB := TB_in 1006 (by decide +kernel) (by decide +kernel)
theorem kw_967 : Cond.methodLink "TuneHouseModel" 186 yX8_changesOf ∈ TB := TB_in 1007 (by decide +kernel) (by decide +kernel)
theorem kw_969 : Cond.instanceMethod yX8_changesOf ∈ TB := TB_in 1009 (by decide +kernel) (by decide +kernel)
theorem kw_970 : Cond.code yX8_changesOf cX8_changesOf 3 (some FieldType.int) ∈ TB := TB_in 1010 (by decide +kernel) (by decide +kernel)
theorem kw_971 : Cond.methodLink "TuneHouseLaw" 99 yX8_all ∈ TB := TB_in 1011 (by decide +kernel) (by decide +kernel)
theorem kw_972 : Cond.instanceMethod yX8_all ∈ TB := TB_in 1012 (by decide +kernel) (by decide +kernel)
theorem kw_973 : Cond.selects "TuneHouseModel" yX8_all yX8_all ∈ TB := TB_in 1013 (by decide +kernel) (by decide +kernel)
theorem kw_974 : Cond.code yX8_all cX8_all 4 (some FieldType.int) ∈ TB := TB_in 1014 (by decide +kernel) (by decide +kernel)
theorem kw_975 : Cond.methodLink "TuneHouseLaw" 103 yX8_doubt ∈ TB := TB_in 1015 (by decide +kernel) (by decide +kernel)
theorem kw_976 : Cond.instanceMethod yX8_doubt ∈ TB := TB_in 1016 (by decide +kernel) (by decide +kernel)
theorem kw_977 : Cond.selects "TuneHouseModel" yX8_doubt yX8_doubt ∈ TB := TB_in 1017 (by decide +kernel) (by decide +kernel)
theorem kw_978 : Cond.code yX8_doubt cX8_doubt 8 (some FieldType.int) ∈ TB := TB_in 1018 (by decide +kernel) (by decide +kernel)
theorem kw_979 : Cond.methodLink "TuneHouseLaw" 107 yX8_habit ∈ TB := TB_in 1019 (by decide +kernel) (by decide +kernel)
theorem kw_980 : Cond.instanceMethod yX8_habit ∈ TB := TB_in 1020 (by decide +kernel) (by decide +kernel)
theorem kw_981 : Cond.selects "TuneHouseModel" yX8_habit yX8_habit ∈ TB := TB_in 1021 (by decide +kernel) (by decide +kernel)
theorem kw_982 : Cond.code yX8_habit cX8_habit 13 (some FieldType.int) ∈ TB := TB_in 1022 (by decide +kernel) (by decide +kernel)
theorem kw_983 : Cond.constant "TuneHouseModel" 189 (-1000000 : Int32) ∈ TB := TB_in 1023 (by decide +kernel) (by decide +kernel)
theorem kw_984 : Cond.methodLink "TuneHouseLaw" 112 yX8_span ∈ TB := TB_in 1024 (by decide +kernel) (by decide +kernel)
theorem kw_985 : Cond.instanceMethod yX8_span ∈ TB := TB_in 1025 (by decide +kernel) (by decide +kernel)
theorem kw_986 : Cond.selects "TuneHouseModel" yX8_span yX8_span ∈ TB := TB_in 1026 (by decide +kernel) (by decide +kernel)
theorem kw_987 : Cond.code yX8_span cX8_span 6 (some FieldType.int) ∈ TB := TB_in 1027 (by decide +kernel) (by decide +kernel)
theorem kw_988 : Cond.methodLink "TuneHouseLaw" 116 yX8_count ∈ TB := TB_in 1028 (by decide +kernel) (by decide +kernel)
theorem kw_989 : Cond.instanceMethod yX8_count ∈ TB := TB_in 1029 (by decide +kernel) (by decide +kernel)
theorem kw_990 : Cond.selects "TuneHouseModel" yX8_count yX8_count ∈ TB := TB_in 1030 (by decide +kernel) (by decide +kernel)
theorem kw_991 : Cond.code yX8_count cX8_count 4 (some FieldType.int) ∈ TB := TB_in 1031 (by decide +kernel) (by decide +kernel)
theorem kw_992 : Cond.arrayClass FieldType.long ∈ TB := TB_in 1032 (by decide +kernel) (by decide +kernel)
theorem kw_993 : Cond.sameMethod "java/lang/Throwable" "java/lang/Throwable" "fillInStackTrace" "(I)Ljava/lang/Throwable;" ∈ TB := TB_in 1033 (by decide +kernel) (by decide +kernel)
theorem kn_994 : Cond.castable "TuneHouse" "java/lang/Object" ∈ NB := NB_in 1034 (by decide +kernel) rfl
theorem kn_995 : Cond.castable "TuneHouse$Prices" "java/lang/Object" ∈ NB := NB_in 1035 (by decide +kernel) rfl
theorem kn_996 : Cond.castable "TuneHouse$Aligner" "java/lang/Object" ∈ NB := NB_in 1036 (by decide +kernel) rfl
theorem kn_997 : Cond.castable "TuneHouse$Likeness" "java/lang/Object" ∈ NB := NB_in 1037 (by decide +kernel) rfl
theorem kn_998 : Cond.castable "java/util/ArrayList" "java/lang/Object" ∈ NB := NB_in 1038 (by decide +kernel) rfl
theorem kn_999 : Cond.castable "TuneHouseModel" "java/lang/Object" ∈ NB := NB_in 1039 (by decide +kernel) rfl
theorem kn_1000 : Cond.castable "TuneHouse$Sheet" "java/lang/Object" ∈ NB := NB_in 1040 (by decide +kernel) rfl
theorem kn_1001 : Cond.castable "TuneHouse$Tune" "java/lang/Object" ∈ NB := NB_in 1041 (by decide +kernel) rfl
theorem kn_1002 : Cond.castable "TuneHouse$Correction" "java/lang/Object" ∈ NB := NB_in 1042 (by decide +kernel) rfl
theorem kn_1003 : Cond.castable "TuneHouse$Pair" "java/lang/Object" ∈ NB := NB_in 1043 (by decide +kernel) rfl
theorem kn_1004 : Cond.castable "java/util/NoSuchElementException" "java/lang/Object" ∈ NB := NB_in 1044 (by decide +kernel) rfl
theorem kn_1005 : Cond.castable "java/lang/Throwable" "java/lang/Object" ∈ NB := NB_in 1045 (by decide +kernel) rfl
theorem kw_1006 : Cond.sameMethod "[Ljava/lang/Object;" "java/lang/Object" "getClass" "()Ljava/lang/Class;" ∈ TB := TB_in 1046 (by decide +kernel) (by decide +kernel)
theorem kw_1007 : Cond.selects "[Ljava/lang/Object;" ⟨"java/lang/Object", "getClass", "()Ljava/lang/Class;"⟩ ⟨"java/lang/Object", "getClass", "()Ljava/lang/Class;"⟩ ∈ TB := TB_in 1047 (by decide +kernel) (by decide +kernel)
theorem kn_1008 : Cond.declares ⟨"java/lang/Object", "getClass", "()Ljava/lang/Class;"⟩ ∈ NB := NB_in 1048 (by decide +kernel) rfl
theorem kn_1009 : Cond.castable "[I" "java/lang/Object" ∈ NB := NB_in 1049 (by decide +kernel) rfl
theorem kn_1010 : Cond.castable "[[I" "java/lang/Object" ∈ NB := NB_in 1050 (by decide +kernel) rfl
theorem kn_1011 : Cond.castable "[Z" "java/lang/Object" ∈ NB := NB_in 1051 (by decide +kernel) rfl
theorem kn_1012 : Cond.castable "[Ljava/lang/Object;" "java/lang/Object" ∈ NB := NB_in 1052 (by decide +kernel) rfl
theorem kn_1013 : Cond.castable "[J" "java/lang/Object" ∈ NB := NB_in 1053 (by decide +kernel) rfl
theorem iw_J : ∀ w ∈ u_ws RJx4a65c TJx4a65c 3, w ∈ TB := by
  intro w hw
  obtain ⟨k, hk, rfl⟩ := List.mem_map.mp hw
  have hk := List.mem_range.mp hk
  match k, hk with
  | 0, _ => exact TB_in 155 (by decide +kernel) (by decide +kernel)
  | 1, _ => exact TB_in 151 (by decide +kernel) (by decide +kernel)
  | 2, _ => exact TB_in 153 (by decide +kernel) (by decide +kernel)
  | k + 3, h => exact absurd h (by omega)
theorem iw_X0 : ∀ w ∈ u_ws RX0 TX0 7, w ∈ TB := by
  intro w hw
  obtain ⟨k, hk, rfl⟩ := List.mem_map.mp hw
  have hk := List.mem_range.mp hk
  match k, hk with
  | 0, _ => exact TB_in 97 (by decide +kernel) (by decide +kernel)
  | 1, _ => exact TB_in 99 (by decide +kernel) (by decide +kernel)
  | 2, _ => exact TB_in 101 (by decide +kernel) (by decide +kernel)
  | 3, _ => exact TB_in 103 (by decide +kernel) (by decide +kernel)
  | 4, _ => exact TB_in 105 (by decide +kernel) (by decide +kernel)
  | 5, _ => exact TB_in 107 (by decide +kernel) (by decide +kernel)
  | 6, _ => exact TB_in 109 (by decide +kernel) (by decide +kernel)
  | k + 7, h => exact absurd h (by omega)
theorem iw_X1 : ∀ w ∈ u_ws RX1 TX1 4, w ∈ TB := by
  intro w hw
  obtain ⟨k, hk, rfl⟩ := List.mem_map.mp hw
  have hk := List.mem_range.mp hk
  match k, hk with
  | 0, _ => exact TB_in 399 (by decide +kernel) (by decide +kernel)
  | 1, _ => exact TB_in 401 (by decide +kernel) (by decide +kernel)
  | 2, _ => exact TB_in 403 (by decide +kernel) (by decide +kernel)
  | 3, _ => exact TB_in 405 (by decide +kernel) (by decide +kernel)
  | k + 4, h => exact absurd h (by omega)
theorem iw_X2 : ∀ w ∈ u_ws RX2 TX2 4, w ∈ TB := by
  intro w hw
  obtain ⟨k, hk, rfl⟩ := List.mem_map.mp hw
  have hk := List.mem_range.mp hk
  match k, hk with
  | 0, _ => exact TB_in 122 (by decide +kernel) (by decide +kernel)
  | 1, _ => exact TB_in 124 (by decide +kernel) (by decide +kernel)
  | 2, _ => exact TB_in 126 (by decide +kernel) (by decide +kernel)
  | 3, _ => exact TB_in 128 (by decide +kernel) (by decide +kernel)
  | k + 4, h => exact absurd h (by omega)
theorem iw_X3 : ∀ w ∈ u_ws RX3 TX3 2, w ∈ TB := by
  intro w hw
  obtain ⟨k, hk, rfl⟩ := List.mem_map.mp hw
  have hk := List.mem_range.mp hk
  match k, hk with
  | 0, _ => exact TB_in 445 (by decide +kernel) (by decide +kernel)
  | 1, _ => exact TB_in 447 (by decide +kernel) (by decide +kernel)
  | k + 2, h => exact absurd h (by omega)
theorem iw_X4 : ∀ w ∈ u_ws RX4 TX4 1, w ∈ TB := by
  intro w hw
  obtain ⟨k, hk, rfl⟩ := List.mem_map.mp hw
  have hk := List.mem_range.mp hk
  match k, hk with
  | 0, _ => exact TB_in 78 (by decide +kernel) (by decide +kernel)
  | k + 1, h => exact absurd h (by omega)
theorem iw_X5 : ∀ w ∈ u_ws RX5 TX5 9, w ∈ TB := by
  intro w hw
  obtain ⟨k, hk, rfl⟩ := List.mem_map.mp hw
  have hk := List.mem_range.mp hk
  match k, hk with
  | 0, _ => exact TB_in 250 (by decide +kernel) (by decide +kernel)
  | 1, _ => exact TB_in 252 (by decide +kernel) (by decide +kernel)
  | 2, _ => exact TB_in 254 (by decide +kernel) (by decide +kernel)
  | 3, _ => exact TB_in 256 (by decide +kernel) (by decide +kernel)
  | 4, _ => exact TB_in 258 (by decide +kernel) (by decide +kernel)
  | 5, _ => exact TB_in 260 (by decide +kernel) (by decide +kernel)
  | 6, _ => exact TB_in 262 (by decide +kernel) (by decide +kernel)
  | 7, _ => exact TB_in 264 (by decide +kernel) (by decide +kernel)
  | 8, _ => exact TB_in 266 (by decide +kernel) (by decide +kernel)
  | k + 9, h => exact absurd h (by omega)
theorem iw_X6 : ∀ w ∈ u_ws RX6 TX6 3, w ∈ TB := by
  intro w hw
  obtain ⟨k, hk, rfl⟩ := List.mem_map.mp hw
  have hk := List.mem_range.mp hk
  match k, hk with
  | 0, _ => exact TB_in 224 (by decide +kernel) (by decide +kernel)
  | 1, _ => exact TB_in 226 (by decide +kernel) (by decide +kernel)
  | 2, _ => exact TB_in 228 (by decide +kernel) (by decide +kernel)
  | k + 3, h => exact absurd h (by omega)
theorem iw_X7 : ∀ w ∈ u_ws RX7 TX7 10, w ∈ TB := by
  intro w hw
  obtain ⟨k, hk, rfl⟩ := List.mem_map.mp hw
  have hk := List.mem_range.mp hk
  match k, hk with
  | 0, _ => exact TB_in 168 (by decide +kernel) (by decide +kernel)
  | 1, _ => exact TB_in 170 (by decide +kernel) (by decide +kernel)
  | 2, _ => exact TB_in 172 (by decide +kernel) (by decide +kernel)
  | 3, _ => exact TB_in 174 (by decide +kernel) (by decide +kernel)
  | 4, _ => exact TB_in 176 (by decide +kernel) (by decide +kernel)
  | 5, _ => exact TB_in 178 (by decide +kernel) (by decide +kernel)
  | 6, _ => exact TB_in 180 (by decide +kernel) (by decide +kernel)
  | 7, _ => exact TB_in 182 (by decide +kernel) (by decide +kernel)
  | 8, _ => exact TB_in 184 (by decide +kernel) (by decide +kernel)
  | 9, _ => exact TB_in 186 (by decide +kernel) (by decide +kernel)
  | k + 10, h => exact absurd h (by omega)
theorem iw_X8 : ∀ w ∈ u_ws RX8 TX8 35, w ∈ TB := by
  intro w hw
  obtain ⟨k, hk, rfl⟩ := List.mem_map.mp hw
  have hk := List.mem_range.mp hk
  match k, hk with
  | 0, _ => exact TB_in 797 (by decide +kernel) (by decide +kernel)
  | 1, _ => exact TB_in 799 (by decide +kernel) (by decide +kernel)
  | 2, _ => exact TB_in 801 (by decide +kernel) (by decide +kernel)
  | 3, _ => exact TB_in 803 (by decide +kernel) (by decide +kernel)
  | 4, _ => exact TB_in 805 (by decide +kernel) (by decide +kernel)
  | 5, _ => exact TB_in 807 (by decide +kernel) (by decide +kernel)
  | 6, _ => exact TB_in 809 (by decide +kernel) (by decide +kernel)
  | 7, _ => exact TB_in 811 (by decide +kernel) (by decide +kernel)
  | 8, _ => exact TB_in 813 (by decide +kernel) (by decide +kernel)
  | 9, _ => exact TB_in 815 (by decide +kernel) (by decide +kernel)
  | 10, _ => exact TB_in 817 (by decide +kernel) (by decide +kernel)
  | 11, _ => exact TB_in 819 (by decide +kernel) (by decide +kernel)
  | 12, _ => exact TB_in 821 (by decide +kernel) (by decide +kernel)
  | 13, _ => exact TB_in 823 (by decide +kernel) (by decide +kernel)
  | 14, _ => exact TB_in 825 (by decide +kernel) (by decide +kernel)
  | 15, _ => exact TB_in 827 (by decide +kernel) (by decide +kernel)
  | 16, _ => exact TB_in 829 (by decide +kernel) (by decide +kernel)
  | 17, _ => exact TB_in 831 (by decide +kernel) (by decide +kernel)
  | 18, _ => exact TB_in 833 (by decide +kernel) (by decide +kernel)
  | 19, _ => exact TB_in 835 (by decide +kernel) (by decide +kernel)
  | 20, _ => exact TB_in 837 (by decide +kernel) (by decide +kernel)
  | 21, _ => exact TB_in 839 (by decide +kernel) (by decide +kernel)
  | 22, _ => exact TB_in 841 (by decide +kernel) (by decide +kernel)
  | 23, _ => exact TB_in 843 (by decide +kernel) (by decide +kernel)
  | 24, _ => exact TB_in 845 (by decide +kernel) (by decide +kernel)
  | 25, _ => exact TB_in 847 (by decide +kernel) (by decide +kernel)
  | 26, _ => exact TB_in 849 (by decide +kernel) (by decide +kernel)
  | 27, _ => exact TB_in 851 (by decide +kernel) (by decide +kernel)
  | 28, _ => exact TB_in 853 (by decide +kernel) (by decide +kernel)
  | 29, _ => exact TB_in 855 (by decide +kernel) (by decide +kernel)
  | 30, _ => exact TB_in 857 (by decide +kernel) (by decide +kernel)
  | 31, _ => exact TB_in 859 (by decide +kernel) (by decide +kernel)
  | 32, _ => exact TB_in 861 (by decide +kernel) (by decide +kernel)
  | 33, _ => exact TB_in 863 (by decide +kernel) (by decide +kernel)
  | 34, _ => exact TB_in 865 (by decide +kernel) (by decide +kernel)
  | k + 35, h => exact absurd h (by omega)
end
section
theorem dX8_init_0 : decode cX8_init 0 = .ok (.aload_n 0, 1) := by decide +kernel
theorem dX8_init_1 : decode cX8_init 1 = .ok (.invokespecial 3, 3) := by decide +kernel
theorem dX8_init_4 : decode cX8_init 4 = .ok (.aload_n 0, 1) := by decide +kernel
theorem dX8_init_5 : decode cX8_init 5 = .ok (.bipush 20, 2) := by decide +kernel
theorem dX8_init_7 : decode cX8_init 7 = .ok (.newarray .int, 2) := by decide +kernel
theorem dX8_init_9 : decode cX8_init 9 = .ok (.putfield 9, 3) := by decide +kernel
theorem dX8_init_12 : decode cX8_init 12 = .ok (.aload_n 0, 1) := by decide +kernel
theorem dX8_init_13 : decode cX8_init 13 = .ok (.bipush 20, 2) := by decide +kernel
theorem dX8_init_15 : decode cX8_init 15 = .ok (.newarray .int, 2) := by decide +kernel
theorem dX8_init_17 : decode cX8_init 17 = .ok (.putfield 13, 3) := by decide +kernel
theorem dX8_init_20 : decode cX8_init 20 = .ok (.aload_n 0, 1) := by decide +kernel
theorem dX8_init_21 : decode cX8_init 21 = .ok (.bipush 20, 2) := by decide +kernel
theorem dX8_init_23 : decode cX8_init 23 = .ok (.newarray .int, 2) := by decide +kernel
theorem dX8_init_25 : decode cX8_init 25 = .ok (.putfield 16, 3) := by decide +kernel
theorem dX8_init_28 : decode cX8_init 28 = .ok (.aload_n 0, 1) := by decide +kernel
theorem dX8_init_29 : decode cX8_init 29 = .ok (.bipush 20, 2) := by decide +kernel
theorem dX8_init_31 : decode cX8_init 31 = .ok (.newarray .int, 2) := by decide +kernel
theorem dX8_init_33 : decode cX8_init 33 = .ok (.putfield 19, 3) := by decide +kernel
theorem dX8_init_36 : decode cX8_init 36 = .ok (.aload_n 0, 1) := by decide +kernel
theorem dX8_init_37 : decode cX8_init 37 = .ok (.bipush 20, 2) := by decide +kernel
theorem dX8_init_39 : decode cX8_init 39 = .ok (.newarray .int, 2) := by decide +kernel
theorem dX8_init_41 : decode cX8_init 41 = .ok (.putfield 22, 3) := by decide +kernel
theorem dX8_init_44 : decode cX8_init 44 = .ok (.aload_n 0, 1) := by decide +kernel
theorem dX8_init_45 : decode cX8_init 45 = .ok (.sipush 480, 3) := by decide +kernel
theorem dX8_init_48 : decode cX8_init 48 = .ok (.newarray .int, 2) := by decide +kernel
theorem dX8_init_50 : decode cX8_init 50 = .ok (.putfield 25, 3) := by decide +kernel
theorem dX8_init_53 : decode cX8_init 53 = .ok (.aload_n 0, 1) := by decide +kernel
theorem dX8_init_54 : decode cX8_init 54 = .ok (.sipush 480, 3) := by decide +kernel
theorem dX8_init_57 : decode cX8_init 57 = .ok (.newarray .int, 2) := by decide +kernel
theorem dX8_init_59 : decode cX8_init 59 = .ok (.putfield 28, 3) := by decide +kernel
theorem dX8_init_62 : decode cX8_init 62 = .ok (.aload_n 0, 1) := by decide +kernel
theorem dX8_init_63 : decode cX8_init 63 = .ok (.sipush 200, 3) := by decide +kernel
theorem dX8_init_66 : decode cX8_init 66 = .ok (.newarray .int, 2) := by decide +kernel
theorem dX8_init_68 : decode cX8_init 68 = .ok (.putfield 31, 3) := by decide +kernel
theorem dX8_init_71 : decode cX8_init 71 = .ok (.aload_n 0, 1) := by decide +kernel
theorem dX8_init_72 : decode cX8_init 72 = .ok (.sipush 200, 3) := by decide +kernel
theorem dX8_init_75 : decode cX8_init 75 = .ok (.newarray .int, 2) := by decide +kernel
theorem dX8_init_77 : decode cX8_init 77 = .ok (.putfield 34, 3) := by decide +kernel
theorem dX8_init_80 : decode cX8_init 80 = .ok (.aload_n 0, 1) := by decide +kernel
theorem dX8_init_81 : decode cX8_init 81 = .ok (.sipush 200, 3) := by decide +kernel
theorem dX8_init_84 : decode cX8_init 84 = .ok (.newarray .int, 2) := by decide +kernel
theorem dX8_init_86 : decode cX8_init 86 = .ok (.putfield 37, 3) := by decide +kernel
theorem dX8_init_89 : decode cX8_init 89 = .ok (.aload_n 0, 1) := by decide +kernel
theorem dX8_init_90 : decode cX8_init 90 = .ok (.sipush 200, 3) := by decide +kernel
theorem dX8_init_93 : decode cX8_init 93 = .ok (.newarray .int, 2) := by decide +kernel
theorem dX8_init_95 : decode cX8_init 95 = .ok (.putfield 40, 3) := by decide +kernel
theorem dX8_init_98 : decode cX8_init 98 = .ok (.aload_n 0, 1) := by decide +kernel
theorem dX8_init_99 : decode cX8_init 99 = .ok (.sipush 200, 3) := by decide +kernel
theorem dX8_init_102 : decode cX8_init 102 = .ok (.newarray .int, 2) := by decide +kernel
theorem dX8_init_104 : decode cX8_init 104 = .ok (.putfield 43, 3) := by decide +kernel
theorem dX8_init_107 : decode cX8_init 107 = .ok (.aload_n 0, 1) := by decide +kernel
theorem dX8_init_108 : decode cX8_init 108 = .ok (.bipush 60, 2) := by decide +kernel
theorem dX8_init_110 : decode cX8_init 110 = .ok (.newarray .int, 2) := by decide +kernel
theorem dX8_init_112 : decode cX8_init 112 = .ok (.putfield 46, 3) := by decide +kernel
theorem dX8_init_115 : decode cX8_init 115 = .ok (.aload_n 0, 1) := by decide +kernel
theorem dX8_init_116 : decode cX8_init 116 = .ok (.bipush 60, 2) := by decide +kernel
theorem dX8_init_118 : decode cX8_init 118 = .ok (.newarray .int, 2) := by decide +kernel
theorem dX8_init_120 : decode cX8_init 120 = .ok (.putfield 49, 3) := by decide +kernel
theorem dX8_init_123 : decode cX8_init 123 = .ok (.aload_n 0, 1) := by decide +kernel
theorem dX8_init_124 : decode cX8_init 124 = .ok (.iconst 5, 1) := by decide +kernel
theorem dX8_init_125 : decode cX8_init 125 = .ok (.newarray .int, 2) := by decide +kernel
theorem dX8_init_127 : decode cX8_init 127 = .ok (.dup, 1) := by decide +kernel
theorem dX8_init_128 : decode cX8_init 128 = .ok (.iconst 0, 1) := by decide +kernel
theorem dX8_init_129 : decode cX8_init 129 = .ok (.iconst 2, 1) := by decide +kernel
theorem dX8_init_130 : decode cX8_init 130 = .ok (.iastore, 1) := by decide +kernel
theorem dX8_init_131 : decode cX8_init 131 = .ok (.dup, 1) := by decide +kernel
theorem dX8_init_132 : decode cX8_init 132 = .ok (.iconst 1, 1) := by decide +kernel
theorem dX8_init_133 : decode cX8_init 133 = .ok (.bipush 8, 2) := by decide +kernel
theorem dX8_init_135 : decode cX8_init 135 = .ok (.iastore, 1) := by decide +kernel
theorem dX8_init_136 : decode cX8_init 136 = .ok (.dup, 1) := by decide +kernel
theorem dX8_init_137 : decode cX8_init 137 = .ok (.iconst 2, 1) := by decide +kernel
theorem dX8_init_138 : decode cX8_init 138 = .ok (.iconst 1, 1) := by decide +kernel
theorem dX8_init_139 : decode cX8_init 139 = .ok (.iastore, 1) := by decide +kernel
theorem dX8_init_140 : decode cX8_init 140 = .ok (.dup, 1) := by decide +kernel
theorem dX8_init_141 : decode cX8_init 141 = .ok (.iconst 3, 1) := by decide +kernel
theorem dX8_init_142 : decode cX8_init 142 = .ok (.iconst 5, 1) := by decide +kernel
theorem dX8_init_143 : decode cX8_init 143 = .ok (.iastore, 1) := by decide +kernel
theorem dX8_init_144 : decode cX8_init 144 = .ok (.dup, 1) := by decide +kernel
theorem dX8_init_145 : decode cX8_init 145 = .ok (.iconst 4, 1) := by decide +kernel
theorem dX8_init_146 : decode cX8_init 146 = .ok (.bipush 30, 2) := by decide +kernel
theorem dX8_init_148 : decode cX8_init 148 = .ok (.iastore, 1) := by decide +kernel
theorem dX8_init_149 : decode cX8_init 149 = .ok (.putfield 52, 3) := by decide +kernel
theorem dX8_init_152 : decode cX8_init 152 = .ok (.aload_n 0, 1) := by decide +kernel
theorem dX8_init_153 : decode cX8_init 153 = .ok (.bipush 24, 2) := by decide +kernel
theorem dX8_init_155 : decode cX8_init 155 = .ok (.newarray .int, 2) := by decide +kernel
theorem dX8_init_157 : decode cX8_init 157 = .ok (.putfield 55, 3) := by decide +kernel
theorem dX8_init_160 : decode cX8_init 160 = .ok (.aload_n 0, 1) := by decide +kernel
theorem dX8_init_161 : decode cX8_init 161 = .ok (.bipush 24, 2) := by decide +kernel
theorem dX8_init_163 : decode cX8_init 163 = .ok (.newarray .int, 2) := by decide +kernel
theorem dX8_init_165 : decode cX8_init 165 = .ok (.putfield 58, 3) := by decide +kernel
theorem dX8_init_168 : decode cX8_init 168 = .ok (.aload_n 0, 1) := by decide +kernel
theorem dX8_init_169 : decode cX8_init 169 = .ok (.bipush 24, 2) := by decide +kernel
theorem dX8_init_171 : decode cX8_init 171 = .ok (.newarray .int, 2) := by decide +kernel
theorem dX8_init_173 : decode cX8_init 173 = .ok (.putfield 61, 3) := by decide +kernel
theorem dX8_init_176 : decode cX8_init 176 = .ok (.aload_n 0, 1) := by decide +kernel
theorem dX8_init_177 : decode cX8_init 177 = .ok (.bipush 24, 2) := by decide +kernel
theorem dX8_init_179 : decode cX8_init 179 = .ok (.newarray .int, 2) := by decide +kernel
theorem dX8_init_181 : decode cX8_init 181 = .ok (.putfield 64, 3) := by decide +kernel
theorem dX8_init_184 : decode cX8_init 184 = .ok (.aload_n 0, 1) := by decide +kernel
theorem dX8_init_185 : decode cX8_init 185 = .ok (.sipush 625, 3) := by decide +kernel
theorem dX8_init_188 : decode cX8_init 188 = .ok (.newarray .int, 2) := by decide +kernel
theorem dX8_init_190 : decode cX8_init 190 = .ok (.putfield 67, 3) := by decide +kernel
theorem dX8_init_193 : decode cX8_init 193 = .ok (.aload_n 0, 1) := by decide +kernel
theorem dX8_init_194 : decode cX8_init 194 = .ok (.bipush 48, 2) := by decide +kernel
theorem dX8_init_196 : decode cX8_init 196 = .ok (.newarray .int, 2) := by decide +kernel
theorem dX8_init_198 : decode cX8_init 198 = .ok (.putfield 70, 3) := by decide +kernel
theorem dX8_init_201 : decode cX8_init 201 = .ok (.aload_n 0, 1) := by decide +kernel
theorem dX8_init_202 : decode cX8_init 202 = .ok (.bipush 48, 2) := by decide +kernel
theorem dX8_init_204 : decode cX8_init 204 = .ok (.newarray .int, 2) := by decide +kernel
theorem dX8_init_206 : decode cX8_init 206 = .ok (.putfield 73, 3) := by decide +kernel
theorem dX8_init_209 : decode cX8_init 209 = .ok (.aload_n 0, 1) := by decide +kernel
theorem dX8_init_210 : decode cX8_init 210 = .ok (.bipush 48, 2) := by decide +kernel
theorem dX8_init_212 : decode cX8_init 212 = .ok (.newarray .int, 2) := by decide +kernel
theorem dX8_init_214 : decode cX8_init 214 = .ok (.putfield 76, 3) := by decide +kernel
theorem dX8_init_217 : decode cX8_init 217 = .ok (.aload_n 0, 1) := by decide +kernel
theorem dX8_init_218 : decode cX8_init 218 = .ok (.bipush 20, 2) := by decide +kernel
theorem dX8_init_220 : decode cX8_init 220 = .ok (.newarray .int, 2) := by decide +kernel
theorem dX8_init_222 : decode cX8_init 222 = .ok (.putfield 79, 3) := by decide +kernel
theorem dX8_init_225 : decode cX8_init 225 = .ok (.return_, 1) := by decide +kernel
theorem dX8_thrown_0 : decode cX8_thrown 0 = .ok (.aload_n 0, 1) := by decide +kernel
theorem dX8_thrown_1 : decode cX8_thrown 1 = .ok (.getfield 82, 3) := by decide +kernel
theorem dX8_thrown_4 : decode cX8_thrown 4 = .ok (.ireturn, 1) := by decide +kernel
theorem dX8_isIn_0 : decode cX8_isIn 0 = .ok (.iload_n 0, 1) := by decide +kernel
theorem dX8_isIn_1 : decode cX8_isIn 1 = .ok (.iload_n 1, 1) := by decide +kernel
theorem dX8_isIn_2 : decode cX8_isIn 2 = .ok (.if_icmp .lt 12, 3) := by decide +kernel
theorem dX8_isIn_5 : decode cX8_isIn 5 = .ok (.iload_n 0, 1) := by decide +kernel
theorem dX8_isIn_6 : decode cX8_isIn 6 = .ok (.iload_n 2, 1) := by decide +kernel
theorem dX8_isIn_7 : decode cX8_isIn 7 = .ok (.if_icmp .gt 7, 3) := by decide +kernel
theorem dX8_isIn_10 : decode cX8_isIn 10 = .ok (.iconst 1, 1) := by decide +kernel
theorem dX8_isIn_11 : decode cX8_isIn 11 = .ok (.goto 4, 3) := by decide +kernel
theorem dX8_isIn_14 : decode cX8_isIn 14 = .ok (.iconst 0, 1) := by decide +kernel
theorem dX8_isIn_15 : decode cX8_isIn 15 = .ok (.ireturn, 1) := by decide +kernel
theorem dX8_isSheet_0 : decode cX8_isSheet 0 = .ok (.iload_n 1, 1) := by decide +kernel
theorem dX8_isSheet_1 : decode cX8_isSheet 1 = .ok (.ifCond .lt 15, 3) := by decide +kernel
theorem dX8_isSheet_4 : decode cX8_isSheet 4 = .ok (.iload_n 1, 1) := by decide +kernel
theorem dX8_isSheet_5 : decode cX8_isSheet 5 = .ok (.aload_n 0, 1) := by decide +kernel
theorem dX8_isSheet_6 : decode cX8_isSheet 6 = .ok (.getfield 86, 3) := by decide +kernel
theorem dX8_isSheet_9 : decode cX8_isSheet 9 = .ok (.if_icmp .ge 7, 3) := by decide +kernel
theorem dX8_isSheet_12 : decode cX8_isSheet 12 = .ok (.iconst 1, 1) := by decide +kernel
theorem dX8_isSheet_13 : decode cX8_isSheet 13 = .ok (.goto 4, 3) := by decide +kernel
theorem dX8_isSheet_16 : decode cX8_isSheet 16 = .ok (.iconst 0, 1) := by decide +kernel
theorem dX8_isSheet_17 : decode cX8_isSheet 17 = .ok (.ireturn, 1) := by decide +kernel
theorem dX8_isDay_0 : decode cX8_isDay 0 = .ok (.iload_n 1, 1) := by decide +kernel
theorem dX8_isDay_1 : decode cX8_isDay 1 = .ok (.iconst 0, 1) := by decide +kernel
theorem dX8_isDay_2 : decode cX8_isDay 2 = .ok (.aload_n 0, 1) := by decide +kernel
theorem dX8_isDay_3 : decode cX8_isDay 3 = .ok (.getfield 89, 3) := by decide +kernel
theorem dX8_isDay_6 : decode cX8_isDay 6 = .ok (.invokestatic 92, 3) := by decide +kernel
theorem dX8_isDay_9 : decode cX8_isDay 9 = .ok (.ireturn, 1) := by decide +kernel
theorem dX8_sheet_0 : decode cX8_sheet 0 = .ok (.aload_n 0, 1) := by decide +kernel
theorem dX8_sheet_1 : decode cX8_sheet 1 = .ok (.iconst 0, 1) := by decide +kernel
theorem dX8_sheet_2 : decode cX8_sheet 2 = .ok (.putfield 82, 3) := by decide +kernel
theorem dX8_sheet_5 : decode cX8_sheet 5 = .ok (.aload_n 0, 1) := by decide +kernel
theorem dX8_sheet_6 : decode cX8_sheet 6 = .ok (.getfield 86, 3) := by decide +kernel
theorem dX8_sheet_9 : decode cX8_sheet 9 = .ok (.bipush 20, 2) := by decide +kernel
theorem dX8_sheet_11 : decode cX8_sheet 11 = .ok (.if_icmp .eq 33, 3) := by decide +kernel
theorem dX8_sheet_14 : decode cX8_sheet 14 = .ok (.iload_n 1, 1) := by decide +kernel
theorem dX8_sheet_15 : decode cX8_sheet 15 = .ok (.iconst 0, 1) := by decide +kernel
theorem dX8_sheet_16 : decode cX8_sheet 16 = .ok (.iconst 5, 1) := by decide +kernel
theorem dX8_sheet_17 : decode cX8_sheet 17 = .ok (.invokestatic 92, 3) := by decide +kernel
theorem dX8_sheet_20 : decode cX8_sheet 20 = .ok (.ifCond .eq 24, 3) := by decide +kernel
theorem dX8_sheet_23 : decode cX8_sheet 23 = .ok (.iload_n 2, 1) := by decide +kernel
theorem dX8_sheet_24 : decode cX8_sheet 24 = .ok (.iconst 0, 1) := by decide +kernel
theorem dX8_sheet_25 : decode cX8_sheet 25 = .ok (.sipush 3000, 3) := by decide +kernel
theorem dX8_sheet_28 : decode cX8_sheet 28 = .ok (.invokestatic 92, 3) := by decide +kernel
theorem dX8_sheet_31 : decode cX8_sheet 31 = .ok (.ifCond .eq 13, 3) := by decide +kernel
theorem dX8_sheet_34 : decode cX8_sheet 34 = .ok (.iload_n 3, 1) := by decide +kernel
theorem dX8_sheet_35 : decode cX8_sheet 35 = .ok (.iconst 0, 1) := by decide +kernel
theorem dX8_sheet_36 : decode cX8_sheet 36 = .ok (.bipush 9, 2) := by decide +kernel
theorem dX8_sheet_38 : decode cX8_sheet 38 = .ok (.invokestatic 92, 3) := by decide +kernel
theorem dX8_sheet_41 : decode cX8_sheet 41 = .ok (.ifCond .ne 5, 3) := by decide +kernel
theorem dX8_sheet_44 : decode cX8_sheet 44 = .ok (.iconst (-1), 1) := by decide +kernel
theorem dX8_sheet_45 : decode cX8_sheet 45 = .ok (.ireturn, 1) := by decide +kernel
theorem dX8_sheet_46 : decode cX8_sheet 46 = .ok (.aload_n 0, 1) := by decide +kernel
theorem dX8_sheet_47 : decode cX8_sheet 47 = .ok (.getfield 9, 3) := by decide +kernel
theorem dX8_sheet_50 : decode cX8_sheet 50 = .ok (.aload_n 0, 1) := by decide +kernel
theorem dX8_sheet_51 : decode cX8_sheet 51 = .ok (.getfield 86, 3) := by decide +kernel
theorem dX8_sheet_54 : decode cX8_sheet 54 = .ok (.iload_n 1, 1) := by decide +kernel
theorem dX8_sheet_55 : decode cX8_sheet 55 = .ok (.iastore, 1) := by decide +kernel
theorem dX8_sheet_56 : decode cX8_sheet 56 = .ok (.aload_n 0, 1) := by decide +kernel
theorem dX8_sheet_57 : decode cX8_sheet 57 = .ok (.getfield 13, 3) := by decide +kernel
theorem dX8_sheet_60 : decode cX8_sheet 60 = .ok (.aload_n 0, 1) := by decide +kernel
theorem dX8_sheet_61 : decode cX8_sheet 61 = .ok (.getfield 86, 3) := by decide +kernel
theorem dX8_sheet_64 : decode cX8_sheet 64 = .ok (.iload_n 2, 1) := by decide +kernel
theorem dX8_sheet_65 : decode cX8_sheet 65 = .ok (.iastore, 1) := by decide +kernel
theorem dX8_sheet_66 : decode cX8_sheet 66 = .ok (.aload_n 0, 1) := by decide +kernel
theorem dX8_sheet_67 : decode cX8_sheet 67 = .ok (.getfield 16, 3) := by decide +kernel
theorem dX8_sheet_70 : decode cX8_sheet 70 = .ok (.aload_n 0, 1) := by decide +kernel
theorem dX8_sheet_71 : decode cX8_sheet 71 = .ok (.getfield 86, 3) := by decide +kernel
theorem dX8_sheet_74 : decode cX8_sheet 74 = .ok (.iload_n 3, 1) := by decide +kernel
theorem dX8_sheet_75 : decode cX8_sheet 75 = .ok (.iastore, 1) := by decide +kernel
theorem dX8_sheet_76 : decode cX8_sheet 76 = .ok (.aload_n 0, 1) := by decide +kernel
theorem dX8_sheet_77 : decode cX8_sheet 77 = .ok (.getfield 19, 3) := by decide +kernel
theorem dX8_sheet_80 : decode cX8_sheet 80 = .ok (.aload_n 0, 1) := by decide +kernel
theorem dX8_sheet_81 : decode cX8_sheet 81 = .ok (.getfield 86, 3) := by decide +kernel
theorem dX8_sheet_84 : decode cX8_sheet 84 = .ok (.iconst 0, 1) := by decide +kernel
theorem dX8_sheet_85 : decode cX8_sheet 85 = .ok (.iastore, 1) := by decide +kernel
theorem dX8_sheet_86 : decode cX8_sheet 86 = .ok (.aload_n 0, 1) := by decide +kernel
theorem dX8_sheet_87 : decode cX8_sheet 87 = .ok (.getfield 22, 3) := by decide +kernel
theorem dX8_sheet_90 : decode cX8_sheet 90 = .ok (.aload_n 0, 1) := by decide +kernel
theorem dX8_sheet_91 : decode cX8_sheet 91 = .ok (.getfield 86, 3) := by decide +kernel
theorem dX8_sheet_94 : decode cX8_sheet 94 = .ok (.iconst (-1), 1) := by decide +kernel
theorem dX8_sheet_95 : decode cX8_sheet 95 = .ok (.iastore, 1) := by decide +kernel
theorem dX8_sheet_96 : decode cX8_sheet 96 = .ok (.aload_n 0, 1) := by decide +kernel
theorem dX8_sheet_97 : decode cX8_sheet 97 = .ok (.dup, 1) := by decide +kernel
theorem dX8_sheet_98 : decode cX8_sheet 98 = .ok (.getfield 86, 3) := by decide +kernel
theorem dX8_sheet_101 : decode cX8_sheet 101 = .ok (.iconst 1, 1) := by decide +kernel
theorem dX8_sheet_102 : decode cX8_sheet 102 = .ok (.iadd, 1) := by decide +kernel
theorem dX8_sheet_103 : decode cX8_sheet 103 = .ok (.putfield 86, 3) := by decide +kernel
theorem dX8_sheet_106 : decode cX8_sheet 106 = .ok (.aload_n 0, 1) := by decide +kernel
theorem dX8_sheet_107 : decode cX8_sheet 107 = .ok (.getfield 86, 3) := by decide +kernel
theorem dX8_sheet_110 : decode cX8_sheet 110 = .ok (.iconst 1, 1) := by decide +kernel
theorem dX8_sheet_111 : decode cX8_sheet 111 = .ok (.isub, 1) := by decide +kernel
theorem dX8_sheet_112 : decode cX8_sheet 112 = .ok (.ireturn, 1) := by decide +kernel
theorem dX8_isNote_0 : decode cX8_isNote 0 = .ok (.iload_n 0, 1) := by decide +kernel
theorem dX8_isNote_1 : decode cX8_isNote 1 = .ok (.iconst (-1), 1) := by decide +kernel
theorem dX8_isNote_2 : decode cX8_isNote 2 = .ok (.if_icmp .eq 23, 3) := by decide +kernel
theorem dX8_isNote_5 : decode cX8_isNote 5 = .ok (.iload_n 0, 1) := by decide +kernel
theorem dX8_isNote_6 : decode cX8_isNote 6 = .ok (.iconst 0, 1) := by decide +kernel
theorem dX8_isNote_7 : decode cX8_isNote 7 = .ok (.bipush 60, 2) := by decide +kernel
theorem dX8_isNote_9 : decode cX8_isNote 9 = .ok (.invokestatic 92, 3) := by decide +kernel
theorem dX8_isNote_12 : decode cX8_isNote 12 = .ok (.ifCond .eq 17, 3) := by decide +kernel
theorem dX8_isNote_15 : decode cX8_isNote 15 = .ok (.iload_n 1, 1) := by decide +kernel
theorem dX8_isNote_16 : decode cX8_isNote 16 = .ok (.iconst 1, 1) := by decide +kernel
theorem dX8_isNote_17 : decode cX8_isNote 17 = .ok (.bipush 16, 2) := by decide +kernel
theorem dX8_isNote_19 : decode cX8_isNote 19 = .ok (.invokestatic 92, 3) := by decide +kernel
theorem dX8_isNote_22 : decode cX8_isNote 22 = .ok (.ifCond .eq 7, 3) := by decide +kernel
theorem dX8_isNote_25 : decode cX8_isNote 25 = .ok (.iconst 1, 1) := by decide +kernel
theorem dX8_isNote_26 : decode cX8_isNote 26 = .ok (.goto 4, 3) := by decide +kernel
theorem dX8_isNote_29 : decode cX8_isNote 29 = .ok (.iconst 0, 1) := by decide +kernel
theorem dX8_isNote_30 : decode cX8_isNote 30 = .ok (.ireturn, 1) := by decide +kernel
theorem dX8_note_0 : decode cX8_note 0 = .ok (.aload_n 0, 1) := by decide +kernel
theorem dX8_note_1 : decode cX8_note 1 = .ok (.iconst 0, 1) := by decide +kernel
theorem dX8_note_2 : decode cX8_note 2 = .ok (.putfield 82, 3) := by decide +kernel
theorem dX8_note_5 : decode cX8_note 5 = .ok (.aload_n 0, 1) := by decide +kernel
theorem dX8_note_6 : decode cX8_note 6 = .ok (.iload_n 1, 1) := by decide +kernel
theorem dX8_note_7 : decode cX8_note 7 = .ok (.invokevirtual 96, 3) := by decide +kernel
theorem dX8_note_10 : decode cX8_note 10 = .ok (.ifCond .eq 22, 3) := by decide +kernel
theorem dX8_note_13 : decode cX8_note 13 = .ok (.iload_n 2, 1) := by decide +kernel
theorem dX8_note_14 : decode cX8_note 14 = .ok (.iload_n 3, 1) := by decide +kernel
theorem dX8_note_15 : decode cX8_note 15 = .ok (.invokestatic 100, 3) := by decide +kernel
theorem dX8_note_18 : decode cX8_note 18 = .ok (.ifCond .eq 14, 3) := by decide +kernel
theorem dX8_note_21 : decode cX8_note 21 = .ok (.aload_n 0, 1) := by decide +kernel
theorem dX8_note_22 : decode cX8_note 22 = .ok (.getfield 19, 3) := by decide +kernel
theorem dX8_note_25 : decode cX8_note 25 = .ok (.iload_n 1, 1) := by decide +kernel
theorem dX8_note_26 : decode cX8_note 26 = .ok (.iaload, 1) := by decide +kernel
theorem dX8_note_27 : decode cX8_note 27 = .ok (.bipush 24, 2) := by decide +kernel
theorem dX8_note_29 : decode cX8_note 29 = .ok (.if_icmp .ne 5, 3) := by decide +kernel
theorem dX8_note_32 : decode cX8_note 32 = .ok (.iconst (-1), 1) := by decide +kernel
theorem dX8_note_33 : decode cX8_note 33 = .ok (.ireturn, 1) := by decide +kernel
theorem dX8_note_34 : decode cX8_note 34 = .ok (.aload_n 0, 1) := by decide +kernel
theorem dX8_note_35 : decode cX8_note 35 = .ok (.getfield 25, 3) := by decide +kernel
theorem dX8_note_38 : decode cX8_note 38 = .ok (.bipush 24, 2) := by decide +kernel
theorem dX8_note_40 : decode cX8_note 40 = .ok (.iload_n 1, 1) := by decide +kernel
theorem dX8_note_41 : decode cX8_note 41 = .ok (.imul, 1) := by decide +kernel
theorem dX8_note_42 : decode cX8_note 42 = .ok (.aload_n 0, 1) := by decide +kernel
theorem dX8_note_43 : decode cX8_note 43 = .ok (.getfield 19, 3) := by decide +kernel
theorem dX8_note_46 : decode cX8_note 46 = .ok (.iload_n 1, 1) := by decide +kernel
theorem dX8_note_47 : decode cX8_note 47 = .ok (.iaload, 1) := by decide +kernel
theorem dX8_note_48 : decode cX8_note 48 = .ok (.iadd, 1) := by decide +kernel
theorem dX8_note_49 : decode cX8_note 49 = .ok (.iload_n 2, 1) := by decide +kernel
theorem dX8_note_50 : decode cX8_note 50 = .ok (.iastore, 1) := by decide +kernel
theorem dX8_note_51 : decode cX8_note 51 = .ok (.aload_n 0, 1) := by decide +kernel
theorem dX8_note_52 : decode cX8_note 52 = .ok (.getfield 28, 3) := by decide +kernel
theorem dX8_note_55 : decode cX8_note 55 = .ok (.bipush 24, 2) := by decide +kernel
theorem dX8_note_57 : decode cX8_note 57 = .ok (.iload_n 1, 1) := by decide +kernel
theorem dX8_note_58 : decode cX8_note 58 = .ok (.imul, 1) := by decide +kernel
theorem dX8_note_59 : decode cX8_note 59 = .ok (.aload_n 0, 1) := by decide +kernel
theorem dX8_note_60 : decode cX8_note 60 = .ok (.getfield 19, 3) := by decide +kernel
theorem dX8_note_63 : decode cX8_note 63 = .ok (.iload_n 1, 1) := by decide +kernel
theorem dX8_note_64 : decode cX8_note 64 = .ok (.iaload, 1) := by decide +kernel
theorem dX8_note_65 : decode cX8_note 65 = .ok (.iadd, 1) := by decide +kernel
theorem dX8_note_66 : decode cX8_note 66 = .ok (.iload_n 2, 1) := by decide +kernel
theorem dX8_note_67 : decode cX8_note 67 = .ok (.iconst (-1), 1) := by decide +kernel
theorem dX8_note_68 : decode cX8_note 68 = .ok (.if_icmp .ne 7, 3) := by decide +kernel
theorem dX8_note_71 : decode cX8_note 71 = .ok (.iconst 0, 1) := by decide +kernel
theorem dX8_note_72 : decode cX8_note 72 = .ok (.goto 4, 3) := by decide +kernel
theorem dX8_note_75 : decode cX8_note 75 = .ok (.iload_n 3, 1) := by decide +kernel
theorem dX8_note_76 : decode cX8_note 76 = .ok (.iastore, 1) := by decide +kernel
theorem dX8_note_77 : decode cX8_note 77 = .ok (.aload_n 0, 1) := by decide +kernel
theorem dX8_note_78 : decode cX8_note 78 = .ok (.getfield 19, 3) := by decide +kernel
theorem dX8_note_81 : decode cX8_note 81 = .ok (.iload_n 1, 1) := by decide +kernel
theorem dX8_note_82 : decode cX8_note 82 = .ok (.dup2, 1) := by decide +kernel
theorem dX8_note_83 : decode cX8_note 83 = .ok (.iaload, 1) := by decide +kernel
theorem dX8_note_84 : decode cX8_note 84 = .ok (.iconst 1, 1) := by decide +kernel
theorem dX8_note_85 : decode cX8_note 85 = .ok (.iadd, 1) := by decide +kernel
theorem dX8_note_86 : decode cX8_note 86 = .ok (.iastore, 1) := by decide +kernel
theorem dX8_note_87 : decode cX8_note 87 = .ok (.aload_n 0, 1) := by decide +kernel
theorem dX8_note_88 : decode cX8_note 88 = .ok (.getfield 19, 3) := by decide +kernel
theorem dX8_note_91 : decode cX8_note 91 = .ok (.iload_n 1, 1) := by decide +kernel
theorem dX8_note_92 : decode cX8_note 92 = .ok (.iaload, 1) := by decide +kernel
theorem dX8_note_93 : decode cX8_note 93 = .ok (.ireturn, 1) := by decide +kernel
theorem dX8_correct_0 : decode cX8_correct 0 = .ok (.aload_n 0, 1) := by decide +kernel
theorem dX8_correct_1 : decode cX8_correct 1 = .ok (.iconst 0, 1) := by decide +kernel
theorem dX8_correct_2 : decode cX8_correct 2 = .ok (.putfield 82, 3) := by decide +kernel
theorem dX8_correct_5 : decode cX8_correct 5 = .ok (.aload_n 0, 1) := by decide +kernel
theorem dX8_correct_6 : decode cX8_correct 6 = .ok (.iload_n 1, 1) := by decide +kernel
theorem dX8_correct_7 : decode cX8_correct 7 = .ok (.invokevirtual 96, 3) := by decide +kernel
theorem dX8_correct_10 : decode cX8_correct 10 = .ok (.ifCond .eq 36, 3) := by decide +kernel
theorem dX8_correct_13 : decode cX8_correct 13 = .ok (.iload_n 2, 1) := by decide +kernel
theorem dX8_correct_14 : decode cX8_correct 14 = .ok (.ifCond .lt 32, 3) := by decide +kernel
theorem dX8_correct_17 : decode cX8_correct 17 = .ok (.iload_n 2, 1) := by decide +kernel
theorem dX8_correct_18 : decode cX8_correct 18 = .ok (.aload_n 0, 1) := by decide +kernel
theorem dX8_correct_19 : decode cX8_correct 19 = .ok (.getfield 19, 3) := by decide +kernel
theorem dX8_correct_22 : decode cX8_correct 22 = .ok (.iload_n 1, 1) := by decide +kernel
theorem dX8_correct_23 : decode cX8_correct 23 = .ok (.iaload, 1) := by decide +kernel
theorem dX8_correct_24 : decode cX8_correct 24 = .ok (.if_icmp .ge 22, 3) := by decide +kernel
theorem dX8_correct_27 : decode cX8_correct 27 = .ok (.iload_n 3, 1) := by decide +kernel
theorem dX8_correct_28 : decode cX8_correct 28 = .ok (.iload 4, 2) := by decide +kernel
theorem dX8_correct_30 : decode cX8_correct 30 = .ok (.invokestatic 100, 3) := by decide +kernel
theorem dX8_correct_33 : decode cX8_correct 33 = .ok (.ifCond .eq 13, 3) := by decide +kernel
theorem dX8_correct_36 : decode cX8_correct 36 = .ok (.aload_n 0, 1) := by decide +kernel
theorem dX8_correct_37 : decode cX8_correct 37 = .ok (.getfield 104, 3) := by decide +kernel
theorem dX8_correct_40 : decode cX8_correct 40 = .ok (.sipush 200, 3) := by decide +kernel
theorem dX8_correct_43 : decode cX8_correct 43 = .ok (.if_icmp .ne 5, 3) := by decide +kernel
theorem dX8_correct_46 : decode cX8_correct 46 = .ok (.iconst 0, 1) := by decide +kernel
theorem dX8_correct_47 : decode cX8_correct 47 = .ok (.ireturn, 1) := by decide +kernel
theorem dX8_correct_48 : decode cX8_correct 48 = .ok (.aload_n 0, 1) := by decide +kernel
theorem dX8_correct_49 : decode cX8_correct 49 = .ok (.getfield 31, 3) := by decide +kernel
theorem dX8_correct_52 : decode cX8_correct 52 = .ok (.aload_n 0, 1) := by decide +kernel
theorem dX8_correct_53 : decode cX8_correct 53 = .ok (.getfield 104, 3) := by decide +kernel
theorem dX8_correct_56 : decode cX8_correct 56 = .ok (.iload_n 1, 1) := by decide +kernel
theorem dX8_correct_57 : decode cX8_correct 57 = .ok (.iastore, 1) := by decide +kernel
theorem dX8_correct_58 : decode cX8_correct 58 = .ok (.aload_n 0, 1) := by decide +kernel
theorem dX8_correct_59 : decode cX8_correct 59 = .ok (.getfield 34, 3) := by decide +kernel
theorem dX8_correct_62 : decode cX8_correct 62 = .ok (.aload_n 0, 1) := by decide +kernel
theorem dX8_correct_63 : decode cX8_correct 63 = .ok (.getfield 104, 3) := by decide +kernel
theorem dX8_correct_66 : decode cX8_correct 66 = .ok (.iload_n 2, 1) := by decide +kernel
theorem dX8_correct_67 : decode cX8_correct 67 = .ok (.iastore, 1) := by decide +kernel
theorem dX8_correct_68 : decode cX8_correct 68 = .ok (.aload_n 0, 1) := by decide +kernel
theorem dX8_correct_69 : decode cX8_correct 69 = .ok (.getfield 37, 3) := by decide +kernel
theorem dX8_correct_72 : decode cX8_correct 72 = .ok (.aload_n 0, 1) := by decide +kernel
theorem dX8_correct_73 : decode cX8_correct 73 = .ok (.getfield 104, 3) := by decide +kernel
theorem dX8_correct_76 : decode cX8_correct 76 = .ok (.iload_n 3, 1) := by decide +kernel
theorem dX8_correct_77 : decode cX8_correct 77 = .ok (.iastore, 1) := by decide +kernel
theorem dX8_correct_78 : decode cX8_correct 78 = .ok (.aload_n 0, 1) := by decide +kernel
theorem dX8_correct_79 : decode cX8_correct 79 = .ok (.getfield 40, 3) := by decide +kernel
theorem dX8_correct_82 : decode cX8_correct 82 = .ok (.aload_n 0, 1) := by decide +kernel
theorem dX8_correct_83 : decode cX8_correct 83 = .ok (.getfield 104, 3) := by decide +kernel
theorem dX8_correct_86 : decode cX8_correct 86 = .ok (.iload_n 3, 1) := by decide +kernel
theorem dX8_correct_87 : decode cX8_correct 87 = .ok (.iconst (-1), 1) := by decide +kernel
theorem dX8_correct_88 : decode cX8_correct 88 = .ok (.if_icmp .ne 7, 3) := by decide +kernel
theorem dX8_correct_91 : decode cX8_correct 91 = .ok (.iconst 0, 1) := by decide +kernel
theorem dX8_correct_92 : decode cX8_correct 92 = .ok (.goto 5, 3) := by decide +kernel
theorem dX8_correct_95 : decode cX8_correct 95 = .ok (.iload 4, 2) := by decide +kernel
theorem dX8_correct_97 : decode cX8_correct 97 = .ok (.iastore, 1) := by decide +kernel
theorem dX8_correct_98 : decode cX8_correct 98 = .ok (.aload_n 0, 1) := by decide +kernel
theorem dX8_correct_99 : decode cX8_correct 99 = .ok (.getfield 43, 3) := by decide +kernel
theorem dX8_correct_102 : decode cX8_correct 102 = .ok (.aload_n 0, 1) := by decide +kernel
theorem dX8_correct_103 : decode cX8_correct 103 = .ok (.getfield 104, 3) := by decide +kernel
theorem dX8_correct_106 : decode cX8_correct 106 = .ok (.aload_n 0, 1) := by decide +kernel
theorem dX8_correct_107 : decode cX8_correct 107 = .ok (.getfield 89, 3) := by decide +kernel
theorem dX8_correct_110 : decode cX8_correct 110 = .ok (.iastore, 1) := by decide +kernel
theorem dX8_correct_111 : decode cX8_correct 111 = .ok (.aload_n 0, 1) := by decide +kernel
theorem dX8_correct_112 : decode cX8_correct 112 = .ok (.dup, 1) := by decide +kernel
theorem dX8_correct_113 : decode cX8_correct 113 = .ok (.getfield 104, 3) := by decide +kernel
theorem dX8_correct_116 : decode cX8_correct 116 = .ok (.iconst 1, 1) := by decide +kernel
theorem dX8_correct_117 : decode cX8_correct 117 = .ok (.iadd, 1) := by decide +kernel
theorem dX8_correct_118 : decode cX8_correct 118 = .ok (.putfield 104, 3) := by decide +kernel
theorem dX8_correct_121 : decode cX8_correct 121 = .ok (.iconst 1, 1) := by decide +kernel
theorem dX8_correct_122 : decode cX8_correct 122 = .ok (.ireturn, 1) := by decide +kernel
theorem dX8_forge_0 : decode cX8_forge 0 = .ok (.aload_n 0, 1) := by decide +kernel
theorem dX8_forge_1 : decode cX8_forge 1 = .ok (.iconst 0, 1) := by decide +kernel
theorem dX8_forge_2 : decode cX8_forge 2 = .ok (.putfield 82, 3) := by decide +kernel
theorem dX8_forge_5 : decode cX8_forge 5 = .ok (.aload_n 0, 1) := by decide +kernel
theorem dX8_forge_6 : decode cX8_forge 6 = .ok (.iload_n 1, 1) := by decide +kernel
theorem dX8_forge_7 : decode cX8_forge 7 = .ok (.invokevirtual 96, 3) := by decide +kernel
theorem dX8_forge_10 : decode cX8_forge 10 = .ok (.ifCond .eq 13, 3) := by decide +kernel
theorem dX8_forge_13 : decode cX8_forge 13 = .ok (.aload_n 0, 1) := by decide +kernel
theorem dX8_forge_14 : decode cX8_forge 14 = .ok (.getfield 22, 3) := by decide +kernel
theorem dX8_forge_17 : decode cX8_forge 17 = .ok (.iload_n 1, 1) := by decide +kernel
theorem dX8_forge_18 : decode cX8_forge 18 = .ok (.iaload, 1) := by decide +kernel
theorem dX8_forge_19 : decode cX8_forge 19 = .ok (.iconst (-1), 1) := by decide +kernel
theorem dX8_forge_20 : decode cX8_forge 20 = .ok (.if_icmp .eq 5, 3) := by decide +kernel
theorem dX8_forge_23 : decode cX8_forge 23 = .ok (.iconst 0, 1) := by decide +kernel
theorem dX8_forge_24 : decode cX8_forge 24 = .ok (.ireturn, 1) := by decide +kernel
theorem dX8_forge_25 : decode cX8_forge 25 = .ok (.aload_n 0, 1) := by decide +kernel
theorem dX8_forge_26 : decode cX8_forge 26 = .ok (.getfield 22, 3) := by decide +kernel
theorem dX8_forge_29 : decode cX8_forge 29 = .ok (.iload_n 1, 1) := by decide +kernel
theorem dX8_forge_30 : decode cX8_forge 30 = .ok (.aload_n 0, 1) := by decide +kernel
theorem dX8_forge_31 : decode cX8_forge 31 = .ok (.getfield 89, 3) := by decide +kernel
theorem dX8_forge_34 : decode cX8_forge 34 = .ok (.iastore, 1) := by decide +kernel
theorem dX8_forge_35 : decode cX8_forge 35 = .ok (.iconst 1, 1) := by decide +kernel
theorem dX8_forge_36 : decode cX8_forge 36 = .ok (.ireturn, 1) := by decide +kernel
theorem dX8_doubles_0 : decode cX8_doubles 0 = .ok (.aload_n 0, 1) := by decide +kernel
theorem dX8_doubles_1 : decode cX8_doubles 1 = .ok (.iconst 0, 1) := by decide +kernel
theorem dX8_doubles_2 : decode cX8_doubles 2 = .ok (.putfield 82, 3) := by decide +kernel
theorem dX8_doubles_5 : decode cX8_doubles 5 = .ok (.aload_n 0, 1) := by decide +kernel
theorem dX8_doubles_6 : decode cX8_doubles 6 = .ok (.iload_n 1, 1) := by decide +kernel
theorem dX8_doubles_7 : decode cX8_doubles 7 = .ok (.invokevirtual 96, 3) := by decide +kernel
theorem dX8_doubles_10 : decode cX8_doubles 10 = .ok (.ifCond .eq 35, 3) := by decide +kernel
theorem dX8_doubles_13 : decode cX8_doubles 13 = .ok (.aload_n 0, 1) := by decide +kernel
theorem dX8_doubles_14 : decode cX8_doubles 14 = .ok (.iload_n 2, 1) := by decide +kernel
theorem dX8_doubles_15 : decode cX8_doubles 15 = .ok (.invokevirtual 96, 3) := by decide +kernel
theorem dX8_doubles_18 : decode cX8_doubles 18 = .ok (.ifCond .eq 27, 3) := by decide +kernel
theorem dX8_doubles_21 : decode cX8_doubles 21 = .ok (.aload_n 0, 1) := by decide +kernel
theorem dX8_doubles_22 : decode cX8_doubles 22 = .ok (.getfield 9, 3) := by decide +kernel
theorem dX8_doubles_25 : decode cX8_doubles 25 = .ok (.iload_n 1, 1) := by decide +kernel
theorem dX8_doubles_26 : decode cX8_doubles 26 = .ok (.iaload, 1) := by decide +kernel
theorem dX8_doubles_27 : decode cX8_doubles 27 = .ok (.aload_n 0, 1) := by decide +kernel
theorem dX8_doubles_28 : decode cX8_doubles 28 = .ok (.getfield 9, 3) := by decide +kernel
theorem dX8_doubles_31 : decode cX8_doubles 31 = .ok (.iload_n 2, 1) := by decide +kernel
theorem dX8_doubles_32 : decode cX8_doubles 32 = .ok (.iaload, 1) := by decide +kernel
theorem dX8_doubles_33 : decode cX8_doubles 33 = .ok (.if_icmp .eq 12, 3) := by decide +kernel
theorem dX8_doubles_36 : decode cX8_doubles 36 = .ok (.aload_n 0, 1) := by decide +kernel
theorem dX8_doubles_37 : decode cX8_doubles 37 = .ok (.getfield 107, 3) := by decide +kernel
theorem dX8_doubles_40 : decode cX8_doubles 40 = .ok (.bipush 60, 2) := by decide +kernel
theorem dX8_doubles_42 : decode cX8_doubles 42 = .ok (.if_icmp .ne 5, 3) := by decide +kernel
theorem dX8_doubles_45 : decode cX8_doubles 45 = .ok (.iconst 0, 1) := by decide +kernel
theorem dX8_doubles_46 : decode cX8_doubles 46 = .ok (.ireturn, 1) := by decide +kernel
theorem dX8_doubles_47 : decode cX8_doubles 47 = .ok (.iconst 0, 1) := by decide +kernel
theorem dX8_doubles_48 : decode cX8_doubles 48 = .ok (.istore_n 3, 1) := by decide +kernel
theorem dX8_doubles_49 : decode cX8_doubles 49 = .ok (.iload_n 3, 1) := by decide +kernel
theorem dX8_doubles_50 : decode cX8_doubles 50 = .ok (.aload_n 0, 1) := by decide +kernel
theorem dX8_doubles_51 : decode cX8_doubles 51 = .ok (.getfield 107, 3) := by decide +kernel
theorem dX8_doubles_54 : decode cX8_doubles 54 = .ok (.if_icmp .ge 51, 3) := by decide +kernel
theorem dX8_doubles_57 : decode cX8_doubles 57 = .ok (.aload_n 0, 1) := by decide +kernel
theorem dX8_doubles_58 : decode cX8_doubles 58 = .ok (.getfield 46, 3) := by decide +kernel
theorem dX8_doubles_61 : decode cX8_doubles 61 = .ok (.iload_n 3, 1) := by decide +kernel
theorem dX8_doubles_62 : decode cX8_doubles 62 = .ok (.iaload, 1) := by decide +kernel
theorem dX8_doubles_63 : decode cX8_doubles 63 = .ok (.iload_n 1, 1) := by decide +kernel
theorem dX8_doubles_64 : decode cX8_doubles 64 = .ok (.if_icmp .ne 13, 3) := by decide +kernel
theorem dX8_doubles_67 : decode cX8_doubles 67 = .ok (.aload_n 0, 1) := by decide +kernel
theorem dX8_doubles_68 : decode cX8_doubles 68 = .ok (.getfield 49, 3) := by decide +kernel
theorem dX8_doubles_71 : decode cX8_doubles 71 = .ok (.iload_n 3, 1) := by decide +kernel
theorem dX8_doubles_72 : decode cX8_doubles 72 = .ok (.iaload, 1) := by decide +kernel
theorem dX8_doubles_73 : decode cX8_doubles 73 = .ok (.iload_n 2, 1) := by decide +kernel
theorem dX8_doubles_74 : decode cX8_doubles 74 = .ok (.if_icmp .eq 23, 3) := by decide +kernel
theorem dX8_doubles_77 : decode cX8_doubles 77 = .ok (.aload_n 0, 1) := by decide +kernel
theorem dX8_doubles_78 : decode cX8_doubles 78 = .ok (.getfield 46, 3) := by decide +kernel
theorem dX8_doubles_81 : decode cX8_doubles 81 = .ok (.iload_n 3, 1) := by decide +kernel
theorem dX8_doubles_82 : decode cX8_doubles 82 = .ok (.iaload, 1) := by decide +kernel
theorem dX8_doubles_83 : decode cX8_doubles 83 = .ok (.iload_n 2, 1) := by decide +kernel
theorem dX8_doubles_84 : decode cX8_doubles 84 = .ok (.if_icmp .ne 15, 3) := by decide +kernel
theorem dX8_doubles_87 : decode cX8_doubles 87 = .ok (.aload_n 0, 1) := by decide +kernel
theorem dX8_doubles_88 : decode cX8_doubles 88 = .ok (.getfield 49, 3) := by decide +kernel
theorem dX8_doubles_91 : decode cX8_doubles 91 = .ok (.iload_n 3, 1) := by decide +kernel
theorem dX8_doubles_92 : decode cX8_doubles 92 = .ok (.iaload, 1) := by decide +kernel
theorem dX8_doubles_93 : decode cX8_doubles 93 = .ok (.iload_n 1, 1) := by decide +kernel
theorem dX8_doubles_94 : decode cX8_doubles 94 = .ok (.if_icmp .ne 5, 3) := by decide +kernel
theorem dX8_doubles_97 : decode cX8_doubles 97 = .ok (.iconst 0, 1) := by decide +kernel
theorem dX8_doubles_98 : decode cX8_doubles 98 = .ok (.ireturn, 1) := by decide +kernel
theorem dX8_doubles_99 : decode cX8_doubles 99 = .ok (.iinc 3 1, 3) := by decide +kernel
theorem dX8_doubles_102 : decode cX8_doubles 102 = .ok (.goto (-53), 3) := by decide +kernel
theorem dX8_doubles_105 : decode cX8_doubles 105 = .ok (.aload_n 0, 1) := by decide +kernel
theorem dX8_doubles_106 : decode cX8_doubles 106 = .ok (.getfield 46, 3) := by decide +kernel
theorem dX8_doubles_109 : decode cX8_doubles 109 = .ok (.aload_n 0, 1) := by decide +kernel
theorem dX8_doubles_110 : decode cX8_doubles 110 = .ok (.getfield 107, 3) := by decide +kernel
theorem dX8_doubles_113 : decode cX8_doubles 113 = .ok (.iload_n 1, 1) := by decide +kernel
theorem dX8_doubles_114 : decode cX8_doubles 114 = .ok (.iastore, 1) := by decide +kernel
theorem dX8_doubles_115 : decode cX8_doubles 115 = .ok (.aload_n 0, 1) := by decide +kernel
theorem dX8_doubles_116 : decode cX8_doubles 116 = .ok (.getfield 49, 3) := by decide +kernel
theorem dX8_doubles_119 : decode cX8_doubles 119 = .ok (.aload_n 0, 1) := by decide +kernel
theorem dX8_doubles_120 : decode cX8_doubles 120 = .ok (.getfield 107, 3) := by decide +kernel
theorem dX8_doubles_123 : decode cX8_doubles 123 = .ok (.iload_n 2, 1) := by decide +kernel
theorem dX8_doubles_124 : decode cX8_doubles 124 = .ok (.iastore, 1) := by decide +kernel
theorem dX8_doubles_125 : decode cX8_doubles 125 = .ok (.aload_n 0, 1) := by decide +kernel
theorem dX8_doubles_126 : decode cX8_doubles 126 = .ok (.dup, 1) := by decide +kernel
theorem dX8_doubles_127 : decode cX8_doubles 127 = .ok (.getfield 107, 3) := by decide +kernel
theorem dX8_doubles_130 : decode cX8_doubles 130 = .ok (.iconst 1, 1) := by decide +kernel
theorem dX8_doubles_131 : decode cX8_doubles 131 = .ok (.iadd, 1) := by decide +kernel
theorem dX8_doubles_132 : decode cX8_doubles 132 = .ok (.putfield 107, 3) := by decide +kernel
theorem dX8_doubles_135 : decode cX8_doubles 135 = .ok (.iconst 1, 1) := by decide +kernel
theorem dX8_doubles_136 : decode cX8_doubles 136 = .ok (.ireturn, 1) := by decide +kernel
theorem dX8_days_0 : decode cX8_days 0 = .ok (.aload_n 0, 1) := by decide +kernel
theorem dX8_days_1 : decode cX8_days 1 = .ok (.iconst 0, 1) := by decide +kernel
theorem dX8_days_2 : decode cX8_days 2 = .ok (.putfield 82, 3) := by decide +kernel
theorem dX8_days_5 : decode cX8_days 5 = .ok (.iload_n 1, 1) := by decide +kernel
theorem dX8_days_6 : decode cX8_days 6 = .ok (.iconst 0, 1) := by decide +kernel
theorem dX8_days_7 : decode cX8_days 7 = .ok (.sipush 1000, 3) := by decide +kernel
theorem dX8_days_10 : decode cX8_days 10 = .ok (.invokestatic 92, 3) := by decide +kernel
theorem dX8_days_13 : decode cX8_days 13 = .ok (.ifCond .eq 15, 3) := by decide +kernel
theorem dX8_days_16 : decode cX8_days 16 = .ok (.aload_n 0, 1) := by decide +kernel
theorem dX8_days_17 : decode cX8_days 17 = .ok (.getfield 89, 3) := by decide +kernel
theorem dX8_days_20 : decode cX8_days 20 = .ok (.iload_n 1, 1) := by decide +kernel
theorem dX8_days_21 : decode cX8_days 21 = .ok (.iadd, 1) := by decide +kernel
theorem dX8_days_22 : decode cX8_days 22 = .ok (.sipush 1000, 3) := by decide +kernel
theorem dX8_days_25 : decode cX8_days 25 = .ok (.if_icmp .le 5, 3) := by decide +kernel
theorem dX8_days_28 : decode cX8_days 28 = .ok (.iconst (-1), 1) := by decide +kernel
theorem dX8_days_29 : decode cX8_days 29 = .ok (.ireturn, 1) := by decide +kernel
theorem dX8_days_30 : decode cX8_days 30 = .ok (.aload_n 0, 1) := by decide +kernel
theorem dX8_days_31 : decode cX8_days 31 = .ok (.dup, 1) := by decide +kernel
theorem dX8_days_32 : decode cX8_days 32 = .ok (.getfield 89, 3) := by decide +kernel
theorem dX8_days_35 : decode cX8_days 35 = .ok (.iload_n 1, 1) := by decide +kernel
theorem dX8_days_36 : decode cX8_days 36 = .ok (.iadd, 1) := by decide +kernel
theorem dX8_days_37 : decode cX8_days 37 = .ok (.putfield 89, 3) := by decide +kernel
theorem dX8_days_40 : decode cX8_days 40 = .ok (.aload_n 0, 1) := by decide +kernel
theorem dX8_days_41 : decode cX8_days 41 = .ok (.getfield 89, 3) := by decide +kernel
theorem dX8_days_44 : decode cX8_days 44 = .ok (.ireturn, 1) := by decide +kernel
theorem dX8_price_0 : decode cX8_price 0 = .ok (.aload_n 0, 1) := by decide +kernel
theorem dX8_price_1 : decode cX8_price 1 = .ok (.iconst 0, 1) := by decide +kernel
theorem dX8_price_2 : decode cX8_price 2 = .ok (.putfield 82, 3) := by decide +kernel
theorem dX8_price_5 : decode cX8_price 5 = .ok (.iload_n 1, 1) := by decide +kernel
theorem dX8_price_6 : decode cX8_price 6 = .ok (.iconst 0, 1) := by decide +kernel
theorem dX8_price_7 : decode cX8_price 7 = .ok (.iconst 4, 1) := by decide +kernel
theorem dX8_price_8 : decode cX8_price 8 = .ok (.invokestatic 92, 3) := by decide +kernel
theorem dX8_price_11 : decode cX8_price 11 = .ok (.ifCond .eq 39, 3) := by decide +kernel
theorem dX8_price_14 : decode cX8_price 14 = .ok (.iload_n 2, 1) := by decide +kernel
theorem dX8_price_15 : decode cX8_price 15 = .ok (.iconst 0, 1) := by decide +kernel
theorem dX8_price_16 : decode cX8_price 16 = .ok (.iload_n 1, 1) := by decide +kernel
theorem dX8_price_17 : decode cX8_price 17 = .ok (.iconst 4, 1) := by decide +kernel
theorem dX8_price_18 : decode cX8_price 18 = .ok (.if_icmp .ne 9, 3) := by decide +kernel
theorem dX8_price_21 : decode cX8_price 21 = .ok (.sipush 10000, 3) := by decide +kernel
theorem dX8_price_24 : decode cX8_price 24 = .ok (.goto 20, 3) := by decide +kernel
theorem dX8_price_27 : decode cX8_price 27 = .ok (.iload_n 1, 1) := by decide +kernel
theorem dX8_price_28 : decode cX8_price 28 = .ok (.ifCond .eq 8, 3) := by decide +kernel
theorem dX8_price_31 : decode cX8_price 31 = .ok (.iload_n 1, 1) := by decide +kernel
theorem dX8_price_32 : decode cX8_price 32 = .ok (.iconst 2, 1) := by decide +kernel
theorem dX8_price_33 : decode cX8_price 33 = .ok (.if_icmp .ne 8, 3) := by decide +kernel
theorem dX8_price_36 : decode cX8_price 36 = .ok (.bipush 20, 2) := by decide +kernel
theorem dX8_price_38 : decode cX8_price 38 = .ok (.goto 6, 3) := by decide +kernel
theorem dX8_price_41 : decode cX8_price 41 = .ok (.sipush 200, 3) := by decide +kernel
theorem dX8_price_44 : decode cX8_price 44 = .ok (.invokestatic 92, 3) := by decide +kernel
theorem dX8_price_47 : decode cX8_price 47 = .ok (.ifCond .ne 5, 3) := by decide +kernel
theorem dX8_price_50 : decode cX8_price 50 = .ok (.iconst 0, 1) := by decide +kernel
theorem dX8_price_51 : decode cX8_price 51 = .ok (.ireturn, 1) := by decide +kernel
theorem dX8_price_52 : decode cX8_price 52 = .ok (.aload_n 0, 1) := by decide +kernel
theorem dX8_price_53 : decode cX8_price 53 = .ok (.getfield 52, 3) := by decide +kernel
theorem dX8_price_56 : decode cX8_price 56 = .ok (.iload_n 1, 1) := by decide +kernel
theorem dX8_price_57 : decode cX8_price 57 = .ok (.iload_n 2, 1) := by decide +kernel
theorem dX8_price_58 : decode cX8_price 58 = .ok (.iastore, 1) := by decide +kernel
theorem dX8_price_59 : decode cX8_price 59 = .ok (.iconst 1, 1) := by decide +kernel
theorem dX8_price_60 : decode cX8_price 60 = .ok (.ireturn, 1) := by decide +kernel
theorem dX8_known_0 : decode cX8_known 0 = .ok (.iload 4, 2) := by decide +kernel
theorem dX8_known_2 : decode cX8_known 2 = .ok (.ifCond .eq 17, 3) := by decide +kernel
theorem dX8_known_5 : decode cX8_known 5 = .ok (.aload_n 0, 1) := by decide +kernel
theorem dX8_known_6 : decode cX8_known 6 = .ok (.getfield 28, 3) := by decide +kernel
theorem dX8_known_9 : decode cX8_known 9 = .ok (.bipush 24, 2) := by decide +kernel
theorem dX8_known_11 : decode cX8_known 11 = .ok (.iload_n 1, 1) := by decide +kernel
theorem dX8_known_12 : decode cX8_known 12 = .ok (.imul, 1) := by decide +kernel
theorem dX8_known_13 : decode cX8_known 13 = .ok (.iload_n 2, 1) := by decide +kernel
theorem dX8_known_14 : decode cX8_known 14 = .ok (.iadd, 1) := by decide +kernel
theorem dX8_known_15 : decode cX8_known 15 = .ok (.iaload, 1) := by decide +kernel
theorem dX8_known_16 : decode cX8_known 16 = .ok (.goto 14, 3) := by decide +kernel
theorem dX8_known_19 : decode cX8_known 19 = .ok (.aload_n 0, 1) := by decide +kernel
theorem dX8_known_20 : decode cX8_known 20 = .ok (.getfield 25, 3) := by decide +kernel
theorem dX8_known_23 : decode cX8_known 23 = .ok (.bipush 24, 2) := by decide +kernel
theorem dX8_known_25 : decode cX8_known 25 = .ok (.iload_n 1, 1) := by decide +kernel
theorem dX8_known_26 : decode cX8_known 26 = .ok (.imul, 1) := by decide +kernel
theorem dX8_known_27 : decode cX8_known 27 = .ok (.iload_n 2, 1) := by decide +kernel
theorem dX8_known_28 : decode cX8_known 28 = .ok (.iadd, 1) := by decide +kernel
theorem dX8_known_29 : decode cX8_known 29 = .ok (.iaload, 1) := by decide +kernel
theorem dX8_known_30 : decode cX8_known 30 = .ok (.istore 5, 2) := by decide +kernel
theorem dX8_known_32 : decode cX8_known 32 = .ok (.iconst 0, 1) := by decide +kernel
theorem dX8_known_33 : decode cX8_known 33 = .ok (.istore 6, 2) := by decide +kernel
theorem dX8_known_35 : decode cX8_known 35 = .ok (.iload 6, 2) := by decide +kernel
theorem dX8_known_37 : decode cX8_known 37 = .ok (.aload_n 0, 1) := by decide +kernel
theorem dX8_known_38 : decode cX8_known 38 = .ok (.getfield 104, 3) := by decide +kernel
theorem dX8_known_41 : decode cX8_known 41 = .ok (.if_icmp .ge 66, 3) := by decide +kernel
theorem dX8_known_44 : decode cX8_known 44 = .ok (.aload_n 0, 1) := by decide +kernel
theorem dX8_known_45 : decode cX8_known 45 = .ok (.getfield 31, 3) := by decide +kernel
theorem dX8_known_48 : decode cX8_known 48 = .ok (.iload 6, 2) := by decide +kernel
theorem dX8_known_50 : decode cX8_known 50 = .ok (.iaload, 1) := by decide +kernel
theorem dX8_known_51 : decode cX8_known 51 = .ok (.iload_n 1, 1) := by decide +kernel
theorem dX8_known_52 : decode cX8_known 52 = .ok (.if_icmp .ne 49, 3) := by decide +kernel
theorem dX8_known_55 : decode cX8_known 55 = .ok (.aload_n 0, 1) := by decide +kernel
theorem dX8_known_56 : decode cX8_known 56 = .ok (.getfield 34, 3) := by decide +kernel
theorem dX8_known_59 : decode cX8_known 59 = .ok (.iload 6, 2) := by decide +kernel
theorem dX8_known_61 : decode cX8_known 61 = .ok (.iaload, 1) := by decide +kernel
theorem dX8_known_62 : decode cX8_known 62 = .ok (.iload_n 2, 1) := by decide +kernel
theorem dX8_known_63 : decode cX8_known 63 = .ok (.if_icmp .ne 38, 3) := by decide +kernel
theorem dX8_known_66 : decode cX8_known 66 = .ok (.aload_n 0, 1) := by decide +kernel
theorem dX8_known_67 : decode cX8_known 67 = .ok (.getfield 43, 3) := by decide +kernel
theorem dX8_known_70 : decode cX8_known 70 = .ok (.iload 6, 2) := by decide +kernel
theorem dX8_known_72 : decode cX8_known 72 = .ok (.iaload, 1) := by decide +kernel
theorem dX8_known_73 : decode cX8_known 73 = .ok (.iload_n 3, 1) := by decide +kernel
theorem dX8_known_74 : decode cX8_known 74 = .ok (.if_icmp .gt 27, 3) := by decide +kernel
theorem dX8_known_77 : decode cX8_known 77 = .ok (.iload 4, 2) := by decide +kernel
theorem dX8_known_79 : decode cX8_known 79 = .ok (.ifCond .eq 13, 3) := by decide +kernel
theorem dX8_known_82 : decode cX8_known 82 = .ok (.aload_n 0, 1) := by decide +kernel
theorem dX8_known_83 : decode cX8_known 83 = .ok (.getfield 40, 3) := by decide +kernel
theorem dX8_known_86 : decode cX8_known 86 = .ok (.iload 6, 2) := by decide +kernel
theorem dX8_known_88 : decode cX8_known 88 = .ok (.iaload, 1) := by decide +kernel
theorem dX8_known_89 : decode cX8_known 89 = .ok (.goto 10, 3) := by decide +kernel
theorem dX8_known_92 : decode cX8_known 92 = .ok (.aload_n 0, 1) := by decide +kernel
theorem dX8_known_93 : decode cX8_known 93 = .ok (.getfield 37, 3) := by decide +kernel
theorem dX8_known_96 : decode cX8_known 96 = .ok (.iload 6, 2) := by decide +kernel
theorem dX8_known_98 : decode cX8_known 98 = .ok (.iaload, 1) := by decide +kernel
theorem dX8_known_99 : decode cX8_known 99 = .ok (.istore 5, 2) := by decide +kernel
theorem dX8_known_101 : decode cX8_known 101 = .ok (.iinc 6 1, 3) := by decide +kernel
theorem dX8_known_104 : decode cX8_known 104 = .ok (.goto (-69), 3) := by decide +kernel
theorem dX8_known_107 : decode cX8_known 107 = .ok (.iload 5, 2) := by decide +kernel
theorem dX8_known_109 : decode cX8_known 109 = .ok (.ireturn, 1) := by decide +kernel
theorem dX8_isForged_0 : decode cX8_isForged 0 = .ok (.aload_n 0, 1) := by decide +kernel
theorem dX8_isForged_1 : decode cX8_isForged 1 = .ok (.getfield 22, 3) := by decide +kernel
theorem dX8_isForged_4 : decode cX8_isForged 4 = .ok (.iload_n 1, 1) := by decide +kernel
theorem dX8_isForged_5 : decode cX8_isForged 5 = .ok (.iaload, 1) := by decide +kernel
theorem dX8_isForged_6 : decode cX8_isForged 6 = .ok (.iconst (-1), 1) := by decide +kernel
theorem dX8_isForged_7 : decode cX8_isForged 7 = .ok (.if_icmp .eq 17, 3) := by decide +kernel
theorem dX8_isForged_10 : decode cX8_isForged 10 = .ok (.aload_n 0, 1) := by decide +kernel
theorem dX8_isForged_11 : decode cX8_isForged 11 = .ok (.getfield 22, 3) := by decide +kernel
theorem dX8_isForged_14 : decode cX8_isForged 14 = .ok (.iload_n 1, 1) := by decide +kernel
theorem dX8_isForged_15 : decode cX8_isForged 15 = .ok (.iaload, 1) := by decide +kernel
theorem dX8_isForged_16 : decode cX8_isForged 16 = .ok (.iload_n 2, 1) := by decide +kernel
theorem dX8_isForged_17 : decode cX8_isForged 17 = .ok (.if_icmp .gt 7, 3) := by decide +kernel
theorem dX8_isForged_20 : decode cX8_isForged 20 = .ok (.iconst 1, 1) := by decide +kernel
theorem dX8_isForged_21 : decode cX8_isForged 21 = .ok (.goto 4, 3) := by decide +kernel
theorem dX8_isForged_24 : decode cX8_isForged 24 = .ok (.iconst 0, 1) := by decide +kernel
theorem dX8_isForged_25 : decode cX8_isForged 25 = .ok (.ireturn, 1) := by decide +kernel
theorem dX8_at_0 : decode cX8_at 0 = .ok (.aload_n 0, 1) := by decide +kernel
theorem dX8_at_1 : decode cX8_at 1 = .ok (.aload_n 0, 1) := by decide +kernel
theorem dX8_at_2 : decode cX8_at 2 = .ok (.iload_n 1, 1) := by decide +kernel
theorem dX8_at_3 : decode cX8_at 3 = .ok (.invokevirtual 96, 3) := by decide +kernel
theorem dX8_at_6 : decode cX8_at 6 = .ok (.ifCond .eq 35, 3) := by decide +kernel
theorem dX8_at_9 : decode cX8_at 9 = .ok (.iload_n 2, 1) := by decide +kernel
theorem dX8_at_10 : decode cX8_at 10 = .ok (.ifCond .lt 31, 3) := by decide +kernel
theorem dX8_at_13 : decode cX8_at 13 = .ok (.iload_n 2, 1) := by decide +kernel
theorem dX8_at_14 : decode cX8_at 14 = .ok (.aload_n 0, 1) := by decide +kernel
theorem dX8_at_15 : decode cX8_at 15 = .ok (.getfield 19, 3) := by decide +kernel
theorem dX8_at_18 : decode cX8_at 18 = .ok (.iload_n 1, 1) := by decide +kernel
theorem dX8_at_19 : decode cX8_at 19 = .ok (.iaload, 1) := by decide +kernel
theorem dX8_at_20 : decode cX8_at 20 = .ok (.if_icmp .ge 21, 3) := by decide +kernel
theorem dX8_at_23 : decode cX8_at 23 = .ok (.aload_n 0, 1) := by decide +kernel
theorem dX8_at_24 : decode cX8_at 24 = .ok (.iload_n 3, 1) := by decide +kernel
theorem dX8_at_25 : decode cX8_at 25 = .ok (.invokevirtual 110, 3) := by decide +kernel
theorem dX8_at_28 : decode cX8_at 28 = .ok (.ifCond .eq 13, 3) := by decide +kernel
theorem dX8_at_31 : decode cX8_at 31 = .ok (.iload 4, 2) := by decide +kernel
theorem dX8_at_33 : decode cX8_at 33 = .ok (.iconst 0, 1) := by decide +kernel
theorem dX8_at_34 : decode cX8_at 34 = .ok (.iconst 1, 1) := by decide +kernel
theorem dX8_at_35 : decode cX8_at 35 = .ok (.invokestatic 92, 3) := by decide +kernel
theorem dX8_at_38 : decode cX8_at 38 = .ok (.ifCond .ne 7, 3) := by decide +kernel
theorem dX8_at_41 : decode cX8_at 41 = .ok (.iconst 1, 1) := by decide +kernel
theorem dX8_at_42 : decode cX8_at 42 = .ok (.goto 4, 3) := by decide +kernel
theorem dX8_at_45 : decode cX8_at 45 = .ok (.iconst 0, 1) := by decide +kernel
theorem dX8_at_46 : decode cX8_at 46 = .ok (.putfield 82, 3) := by decide +kernel
theorem dX8_at_49 : decode cX8_at 49 = .ok (.aload_n 0, 1) := by decide +kernel
theorem dX8_at_50 : decode cX8_at 50 = .ok (.getfield 82, 3) := by decide +kernel
theorem dX8_at_53 : decode cX8_at 53 = .ok (.ifCond .le 7, 3) := by decide +kernel
theorem dX8_at_56 : decode cX8_at 56 = .ok (.iconst 0, 1) := by decide +kernel
theorem dX8_at_57 : decode cX8_at 57 = .ok (.goto 21, 3) := by decide +kernel
theorem dX8_at_60 : decode cX8_at 60 = .ok (.aload_n 0, 1) := by decide +kernel
theorem dX8_at_61 : decode cX8_at 61 = .ok (.iload_n 1, 1) := by decide +kernel
theorem dX8_at_62 : decode cX8_at 62 = .ok (.iload_n 2, 1) := by decide +kernel
theorem dX8_at_63 : decode cX8_at 63 = .ok (.iload_n 3, 1) := by decide +kernel
theorem dX8_at_64 : decode cX8_at 64 = .ok (.iload 4, 2) := by decide +kernel
theorem dX8_at_66 : decode cX8_at 66 = .ok (.iconst 1, 1) := by decide +kernel
theorem dX8_at_67 : decode cX8_at 67 = .ok (.if_icmp .ne 7, 3) := by decide +kernel
theorem dX8_at_70 : decode cX8_at 70 = .ok (.iconst 1, 1) := by decide +kernel
theorem dX8_at_71 : decode cX8_at 71 = .ok (.goto 4, 3) := by decide +kernel
theorem dX8_at_74 : decode cX8_at 74 = .ok (.iconst 0, 1) := by decide +kernel
theorem dX8_at_75 : decode cX8_at 75 = .ok (.invokevirtual 113, 3) := by decide +kernel
theorem dX8_at_78 : decode cX8_at 78 = .ok (.ireturn, 1) := by decide +kernel
theorem dX8_ready_0 : decode cX8_ready 0 = .ok (.aload_n 0, 1) := by decide +kernel
theorem dX8_ready_1 : decode cX8_ready 1 = .ok (.aload_n 0, 1) := by decide +kernel
theorem dX8_ready_2 : decode cX8_ready 2 = .ok (.getfield 19, 3) := by decide +kernel
theorem dX8_ready_5 : decode cX8_ready 5 = .ok (.iload_n 1, 1) := by decide +kernel
theorem dX8_ready_6 : decode cX8_ready 6 = .ok (.iaload, 1) := by decide +kernel
theorem dX8_ready_7 : decode cX8_ready 7 = .ok (.putfield 117, 3) := by decide +kernel
theorem dX8_ready_10 : decode cX8_ready 10 = .ok (.aload_n 0, 1) := by decide +kernel
theorem dX8_ready_11 : decode cX8_ready 11 = .ok (.aload_n 0, 1) := by decide +kernel
theorem dX8_ready_12 : decode cX8_ready 12 = .ok (.getfield 19, 3) := by decide +kernel
theorem dX8_ready_15 : decode cX8_ready 15 = .ok (.iload_n 2, 1) := by decide +kernel
theorem dX8_ready_16 : decode cX8_ready 16 = .ok (.iaload, 1) := by decide +kernel
theorem dX8_ready_17 : decode cX8_ready 17 = .ok (.putfield 120, 3) := by decide +kernel
theorem dX8_ready_20 : decode cX8_ready 20 = .ok (.iconst 0, 1) := by decide +kernel
theorem dX8_ready_21 : decode cX8_ready 21 = .ok (.istore 4, 2) := by decide +kernel
theorem dX8_ready_23 : decode cX8_ready 23 = .ok (.iload 4, 2) := by decide +kernel
theorem dX8_ready_25 : decode cX8_ready 25 = .ok (.aload_n 0, 1) := by decide +kernel
theorem dX8_ready_26 : decode cX8_ready 26 = .ok (.getfield 117, 3) := by decide +kernel
theorem dX8_ready_29 : decode cX8_ready 29 = .ok (.if_icmp .ge 41, 3) := by decide +kernel
theorem dX8_ready_32 : decode cX8_ready 32 = .ok (.aload_n 0, 1) := by decide +kernel
theorem dX8_ready_33 : decode cX8_ready 33 = .ok (.getfield 55, 3) := by decide +kernel
theorem dX8_ready_36 : decode cX8_ready 36 = .ok (.iload 4, 2) := by decide +kernel
theorem dX8_ready_38 : decode cX8_ready 38 = .ok (.aload_n 0, 1) := by decide +kernel
theorem dX8_ready_39 : decode cX8_ready 39 = .ok (.iload_n 1, 1) := by decide +kernel
theorem dX8_ready_40 : decode cX8_ready 40 = .ok (.iload 4, 2) := by decide +kernel
theorem dX8_ready_42 : decode cX8_ready 42 = .ok (.iload_n 3, 1) := by decide +kernel
theorem dX8_ready_43 : decode cX8_ready 43 = .ok (.iconst 0, 1) := by decide +kernel
theorem dX8_ready_44 : decode cX8_ready 44 = .ok (.invokevirtual 113, 3) := by decide +kernel
theorem dX8_ready_47 : decode cX8_ready 47 = .ok (.iastore, 1) := by decide +kernel
theorem dX8_ready_48 : decode cX8_ready 48 = .ok (.aload_n 0, 1) := by decide +kernel
theorem dX8_ready_49 : decode cX8_ready 49 = .ok (.getfield 58, 3) := by decide +kernel
theorem dX8_ready_52 : decode cX8_ready 52 = .ok (.iload 4, 2) := by decide +kernel
theorem dX8_ready_54 : decode cX8_ready 54 = .ok (.aload_n 0, 1) := by decide +kernel
theorem dX8_ready_55 : decode cX8_ready 55 = .ok (.iload_n 1, 1) := by decide +kernel
theorem dX8_ready_56 : decode cX8_ready 56 = .ok (.iload 4, 2) := by decide +kernel
theorem dX8_ready_58 : decode cX8_ready 58 = .ok (.iload_n 3, 1) := by decide +kernel
theorem dX8_ready_59 : decode cX8_ready 59 = .ok (.iconst 1, 1) := by decide +kernel
theorem dX8_ready_60 : decode cX8_ready 60 = .ok (.invokevirtual 113, 3) := by decide +kernel
theorem dX8_ready_63 : decode cX8_ready 63 = .ok (.iastore, 1) := by decide +kernel
theorem dX8_ready_64 : decode cX8_ready 64 = .ok (.iinc 4 1, 3) := by decide +kernel
theorem dX8_ready_67 : decode cX8_ready 67 = .ok (.goto (-44), 3) := by decide +kernel
theorem dX8_ready_70 : decode cX8_ready 70 = .ok (.iconst 0, 1) := by decide +kernel
theorem dX8_ready_71 : decode cX8_ready 71 = .ok (.istore 4, 2) := by decide +kernel
theorem dX8_ready_73 : decode cX8_ready 73 = .ok (.iload 4, 2) := by decide +kernel
theorem dX8_ready_75 : decode cX8_ready 75 = .ok (.aload_n 0, 1) := by decide +kernel
theorem dX8_ready_76 : decode cX8_ready 76 = .ok (.getfield 120, 3) := by decide +kernel
theorem dX8_ready_79 : decode cX8_ready 79 = .ok (.if_icmp .ge 41, 3) := by decide +kernel
theorem dX8_ready_82 : decode cX8_ready 82 = .ok (.aload_n 0, 1) := by decide +kernel
theorem dX8_ready_83 : decode cX8_ready 83 = .ok (.getfield 61, 3) := by decide +kernel
theorem dX8_ready_86 : decode cX8_ready 86 = .ok (.iload 4, 2) := by decide +kernel
theorem dX8_ready_88 : decode cX8_ready 88 = .ok (.aload_n 0, 1) := by decide +kernel
theorem dX8_ready_89 : decode cX8_ready 89 = .ok (.iload_n 2, 1) := by decide +kernel
theorem dX8_ready_90 : decode cX8_ready 90 = .ok (.iload 4, 2) := by decide +kernel
theorem dX8_ready_92 : decode cX8_ready 92 = .ok (.iload_n 3, 1) := by decide +kernel
theorem dX8_ready_93 : decode cX8_ready 93 = .ok (.iconst 0, 1) := by decide +kernel
theorem dX8_ready_94 : decode cX8_ready 94 = .ok (.invokevirtual 113, 3) := by decide +kernel
theorem dX8_ready_97 : decode cX8_ready 97 = .ok (.iastore, 1) := by decide +kernel
theorem dX8_ready_98 : decode cX8_ready 98 = .ok (.aload_n 0, 1) := by decide +kernel
theorem dX8_ready_99 : decode cX8_ready 99 = .ok (.getfield 64, 3) := by decide +kernel
theorem dX8_ready_102 : decode cX8_ready 102 = .ok (.iload 4, 2) := by decide +kernel
theorem dX8_ready_104 : decode cX8_ready 104 = .ok (.aload_n 0, 1) := by decide +kernel
theorem dX8_ready_105 : decode cX8_ready 105 = .ok (.iload_n 2, 1) := by decide +kernel
theorem dX8_ready_106 : decode cX8_ready 106 = .ok (.iload 4, 2) := by decide +kernel
theorem dX8_ready_108 : decode cX8_ready 108 = .ok (.iload_n 3, 1) := by decide +kernel
theorem dX8_ready_109 : decode cX8_ready 109 = .ok (.iconst 1, 1) := by decide +kernel
theorem dX8_ready_110 : decode cX8_ready 110 = .ok (.invokevirtual 113, 3) := by decide +kernel
theorem dX8_ready_113 : decode cX8_ready 113 = .ok (.iastore, 1) := by decide +kernel
theorem dX8_ready_114 : decode cX8_ready 114 = .ok (.iinc 4 1, 3) := by decide +kernel
theorem dX8_ready_117 : decode cX8_ready 117 = .ok (.goto (-44), 3) := by decide +kernel
theorem dX8_ready_120 : decode cX8_ready 120 = .ok (.return_, 1) := by decide +kernel
theorem dX8_ofTwo_0 : decode cX8_ofTwo 0 = .ok (.aload_n 0, 1) := by decide +kernel
theorem dX8_ofTwo_1 : decode cX8_ofTwo 1 = .ok (.getfield 55, 3) := by decide +kernel
theorem dX8_ofTwo_4 : decode cX8_ofTwo 4 = .ok (.iload_n 1, 1) := by decide +kernel
theorem dX8_ofTwo_5 : decode cX8_ofTwo 5 = .ok (.iaload, 1) := by decide +kernel
theorem dX8_ofTwo_6 : decode cX8_ofTwo 6 = .ok (.iconst (-1), 1) := by decide +kernel
theorem dX8_ofTwo_7 : decode cX8_ofTwo 7 = .ok (.if_icmp .eq 13, 3) := by decide +kernel
theorem dX8_ofTwo_10 : decode cX8_ofTwo 10 = .ok (.aload_n 0, 1) := by decide +kernel
theorem dX8_ofTwo_11 : decode cX8_ofTwo 11 = .ok (.getfield 61, 3) := by decide +kernel
theorem dX8_ofTwo_14 : decode cX8_ofTwo 14 = .ok (.iload_n 2, 1) := by decide +kernel
theorem dX8_ofTwo_15 : decode cX8_ofTwo 15 = .ok (.iaload, 1) := by decide +kernel
theorem dX8_ofTwo_16 : decode cX8_ofTwo 16 = .ok (.iconst (-1), 1) := by decide +kernel
theorem dX8_ofTwo_17 : decode cX8_ofTwo 17 = .ok (.if_icmp .ne 5, 3) := by decide +kernel
theorem dX8_ofTwo_20 : decode cX8_ofTwo 20 = .ok (.iconst 0, 1) := by decide +kernel
theorem dX8_ofTwo_21 : decode cX8_ofTwo 21 = .ok (.ireturn, 1) := by decide +kernel
theorem dX8_ofTwo_22 : decode cX8_ofTwo 22 = .ok (.aload_n 0, 1) := by decide +kernel
theorem dX8_ofTwo_23 : decode cX8_ofTwo 23 = .ok (.getfield 52, 3) := by decide +kernel
theorem dX8_ofTwo_26 : decode cX8_ofTwo 26 = .ok (.iconst 1, 1) := by decide +kernel
theorem dX8_ofTwo_27 : decode cX8_ofTwo 27 = .ok (.iaload, 1) := by decide +kernel
theorem dX8_ofTwo_28 : decode cX8_ofTwo 28 = .ok (.aload_n 0, 1) := by decide +kernel
theorem dX8_ofTwo_29 : decode cX8_ofTwo 29 = .ok (.getfield 52, 3) := by decide +kernel
theorem dX8_ofTwo_32 : decode cX8_ofTwo 32 = .ok (.iconst 0, 1) := by decide +kernel
theorem dX8_ofTwo_33 : decode cX8_ofTwo 33 = .ok (.iaload, 1) := by decide +kernel
theorem dX8_ofTwo_34 : decode cX8_ofTwo 34 = .ok (.aload_n 0, 1) := by decide +kernel
theorem dX8_ofTwo_35 : decode cX8_ofTwo 35 = .ok (.getfield 55, 3) := by decide +kernel
theorem dX8_ofTwo_38 : decode cX8_ofTwo 38 = .ok (.iload_n 1, 1) := by decide +kernel
theorem dX8_ofTwo_39 : decode cX8_ofTwo 39 = .ok (.iaload, 1) := by decide +kernel
theorem dX8_ofTwo_40 : decode cX8_ofTwo 40 = .ok (.iload_n 3, 1) := by decide +kernel
theorem dX8_ofTwo_41 : decode cX8_ofTwo 41 = .ok (.iadd, 1) := by decide +kernel
theorem dX8_ofTwo_42 : decode cX8_ofTwo 42 = .ok (.aload_n 0, 1) := by decide +kernel
theorem dX8_ofTwo_43 : decode cX8_ofTwo 43 = .ok (.getfield 61, 3) := by decide +kernel
theorem dX8_ofTwo_46 : decode cX8_ofTwo 46 = .ok (.iload_n 2, 1) := by decide +kernel
theorem dX8_ofTwo_47 : decode cX8_ofTwo 47 = .ok (.iaload, 1) := by decide +kernel
theorem dX8_ofTwo_48 : decode cX8_ofTwo 48 = .ok (.isub, 1) := by decide +kernel
theorem dX8_ofTwo_49 : decode cX8_ofTwo 49 = .ok (.invokestatic 123, 3) := by decide +kernel
theorem dX8_ofTwo_52 : decode cX8_ofTwo 52 = .ok (.imul, 1) := by decide +kernel
theorem dX8_ofTwo_53 : decode cX8_ofTwo 53 = .ok (.invokestatic 129, 3) := by decide +kernel
theorem dX8_ofTwo_56 : decode cX8_ofTwo 56 = .ok (.aload_n 0, 1) := by decide +kernel
theorem dX8_ofTwo_57 : decode cX8_ofTwo 57 = .ok (.getfield 52, 3) := by decide +kernel
theorem dX8_ofTwo_60 : decode cX8_ofTwo 60 = .ok (.iconst 2, 1) := by decide +kernel
theorem dX8_ofTwo_61 : decode cX8_ofTwo 61 = .ok (.iaload, 1) := by decide +kernel
theorem dX8_ofTwo_62 : decode cX8_ofTwo 62 = .ok (.aload_n 0, 1) := by decide +kernel
theorem dX8_ofTwo_63 : decode cX8_ofTwo 63 = .ok (.getfield 58, 3) := by decide +kernel
theorem dX8_ofTwo_66 : decode cX8_ofTwo 66 = .ok (.iload_n 1, 1) := by decide +kernel
theorem dX8_ofTwo_67 : decode cX8_ofTwo 67 = .ok (.iaload, 1) := by decide +kernel
theorem dX8_ofTwo_68 : decode cX8_ofTwo 68 = .ok (.aload_n 0, 1) := by decide +kernel
theorem dX8_ofTwo_69 : decode cX8_ofTwo 69 = .ok (.getfield 64, 3) := by decide +kernel
theorem dX8_ofTwo_72 : decode cX8_ofTwo 72 = .ok (.iload_n 2, 1) := by decide +kernel
theorem dX8_ofTwo_73 : decode cX8_ofTwo 73 = .ok (.iaload, 1) := by decide +kernel
theorem dX8_ofTwo_74 : decode cX8_ofTwo 74 = .ok (.isub, 1) := by decide +kernel
theorem dX8_ofTwo_75 : decode cX8_ofTwo 75 = .ok (.invokestatic 123, 3) := by decide +kernel
theorem dX8_ofTwo_78 : decode cX8_ofTwo 78 = .ok (.imul, 1) := by decide +kernel
theorem dX8_ofTwo_79 : decode cX8_ofTwo 79 = .ok (.iadd, 1) := by decide +kernel
theorem dX8_ofTwo_80 : decode cX8_ofTwo 80 = .ok (.ireturn, 1) := by decide +kernel
theorem dX8_alone_0 : decode cX8_alone 0 = .ok (.iload_n 1, 1) := by decide +kernel
theorem dX8_alone_1 : decode cX8_alone 1 = .ok (.iconst (-1), 1) := by decide +kernel
theorem dX8_alone_2 : decode cX8_alone 2 = .ok (.if_icmp .ne 7, 3) := by decide +kernel
theorem dX8_alone_5 : decode cX8_alone 5 = .ok (.iconst 0, 1) := by decide +kernel
theorem dX8_alone_6 : decode cX8_alone 6 = .ok (.goto 9, 3) := by decide +kernel
theorem dX8_alone_9 : decode cX8_alone 9 = .ok (.aload_n 0, 1) := by decide +kernel
theorem dX8_alone_10 : decode cX8_alone 10 = .ok (.getfield 52, 3) := by decide +kernel
theorem dX8_alone_13 : decode cX8_alone 13 = .ok (.iconst 3, 1) := by decide +kernel
theorem dX8_alone_14 : decode cX8_alone 14 = .ok (.iaload, 1) := by decide +kernel
theorem dX8_alone_15 : decode cX8_alone 15 = .ok (.ireturn, 1) := by decide +kernel
theorem dX8_lay_0 : decode cX8_lay 0 = .ok (.iconst 0, 1) := by decide +kernel
theorem dX8_lay_1 : decode cX8_lay 1 = .ok (.istore_n 2, 1) := by decide +kernel
theorem dX8_lay_2 : decode cX8_lay 2 = .ok (.iload_n 2, 1) := by decide +kernel
theorem dX8_lay_3 : decode cX8_lay 3 = .ok (.aload_n 0, 1) := by decide +kernel
theorem dX8_lay_4 : decode cX8_lay 4 = .ok (.getfield 117, 3) := by decide +kernel
theorem dX8_lay_7 : decode cX8_lay 7 = .ok (.if_icmp .gt 165, 3) := by decide +kernel
theorem dX8_lay_10 : decode cX8_lay 10 = .ok (.iconst 0, 1) := by decide +kernel
theorem dX8_lay_11 : decode cX8_lay 11 = .ok (.istore_n 3, 1) := by decide +kernel
theorem dX8_lay_12 : decode cX8_lay 12 = .ok (.iload_n 3, 1) := by decide +kernel
theorem dX8_lay_13 : decode cX8_lay 13 = .ok (.aload_n 0, 1) := by decide +kernel
theorem dX8_lay_14 : decode cX8_lay 14 = .ok (.getfield 120, 3) := by decide +kernel
theorem dX8_lay_17 : decode cX8_lay 17 = .ok (.if_icmp .gt 149, 3) := by decide +kernel
theorem dX8_lay_20 : decode cX8_lay 20 = .ok (.iload_n 2, 1) := by decide +kernel
theorem dX8_lay_21 : decode cX8_lay 21 = .ok (.ifCond .ne 11, 3) := by decide +kernel
theorem dX8_lay_24 : decode cX8_lay 24 = .ok (.iload_n 3, 1) := by decide +kernel
theorem dX8_lay_25 : decode cX8_lay 25 = .ok (.ifCond .ne 7, 3) := by decide +kernel
theorem dX8_lay_28 : decode cX8_lay 28 = .ok (.iconst 0, 1) := by decide +kernel
theorem dX8_lay_29 : decode cX8_lay 29 = .ok (.goto 5, 3) := by decide +kernel
theorem dX8_lay_32 : decode cX8_lay 32 = .ok (.ldc 135, 2) := by decide +kernel
theorem dX8_lay_34 : decode cX8_lay 34 = .ok (.istore 4, 2) := by decide +kernel
theorem dX8_lay_36 : decode cX8_lay 36 = .ok (.iload_n 2, 1) := by decide +kernel
theorem dX8_lay_37 : decode cX8_lay 37 = .ok (.ifCond .le 36, 3) := by decide +kernel
theorem dX8_lay_40 : decode cX8_lay 40 = .ok (.iload_n 3, 1) := by decide +kernel
theorem dX8_lay_41 : decode cX8_lay 41 = .ok (.ifCond .le 32, 3) := by decide +kernel
theorem dX8_lay_44 : decode cX8_lay 44 = .ok (.aload_n 0, 1) := by decide +kernel
theorem dX8_lay_45 : decode cX8_lay 45 = .ok (.getfield 67, 3) := by decide +kernel
theorem dX8_lay_48 : decode cX8_lay 48 = .ok (.bipush 25, 2) := by decide +kernel
theorem dX8_lay_50 : decode cX8_lay 50 = .ok (.iload_n 2, 1) := by decide +kernel
theorem dX8_lay_51 : decode cX8_lay 51 = .ok (.iconst 1, 1) := by decide +kernel
theorem dX8_lay_52 : decode cX8_lay 52 = .ok (.isub, 1) := by decide +kernel
theorem dX8_lay_53 : decode cX8_lay 53 = .ok (.imul, 1) := by decide +kernel
theorem dX8_lay_54 : decode cX8_lay 54 = .ok (.iload_n 3, 1) := by decide +kernel
theorem dX8_lay_55 : decode cX8_lay 55 = .ok (.iadd, 1) := by decide +kernel
theorem dX8_lay_56 : decode cX8_lay 56 = .ok (.iconst 1, 1) := by decide +kernel
theorem dX8_lay_57 : decode cX8_lay 57 = .ok (.isub, 1) := by decide +kernel
theorem dX8_lay_58 : decode cX8_lay 58 = .ok (.iaload, 1) := by decide +kernel
theorem dX8_lay_59 : decode cX8_lay 59 = .ok (.aload_n 0, 1) := by decide +kernel
theorem dX8_lay_60 : decode cX8_lay 60 = .ok (.iload_n 2, 1) := by decide +kernel
theorem dX8_lay_61 : decode cX8_lay 61 = .ok (.iconst 1, 1) := by decide +kernel
theorem dX8_lay_62 : decode cX8_lay 62 = .ok (.isub, 1) := by decide +kernel
theorem dX8_lay_63 : decode cX8_lay 63 = .ok (.iload_n 3, 1) := by decide +kernel
theorem dX8_lay_64 : decode cX8_lay 64 = .ok (.iconst 1, 1) := by decide +kernel
theorem dX8_lay_65 : decode cX8_lay 65 = .ok (.isub, 1) := by decide +kernel
theorem dX8_lay_66 : decode cX8_lay 66 = .ok (.iload_n 1, 1) := by decide +kernel
theorem dX8_lay_67 : decode cX8_lay 67 = .ok (.invokevirtual 136, 3) := by decide +kernel
theorem dX8_lay_70 : decode cX8_lay 70 = .ok (.iadd, 1) := by decide +kernel
theorem dX8_lay_71 : decode cX8_lay 71 = .ok (.istore 4, 2) := by decide +kernel
theorem dX8_lay_73 : decode cX8_lay 73 = .ok (.iload_n 2, 1) := by decide +kernel
theorem dX8_lay_74 : decode cX8_lay 74 = .ok (.ifCond .le 36, 3) := by decide +kernel
theorem dX8_lay_77 : decode cX8_lay 77 = .ok (.iload 4, 2) := by decide +kernel
theorem dX8_lay_79 : decode cX8_lay 79 = .ok (.aload_n 0, 1) := by decide +kernel
theorem dX8_lay_80 : decode cX8_lay 80 = .ok (.getfield 67, 3) := by decide +kernel
theorem dX8_lay_83 : decode cX8_lay 83 = .ok (.bipush 25, 2) := by decide +kernel
theorem dX8_lay_85 : decode cX8_lay 85 = .ok (.iload_n 2, 1) := by decide +kernel
theorem dX8_lay_86 : decode cX8_lay 86 = .ok (.iconst 1, 1) := by decide +kernel
theorem dX8_lay_87 : decode cX8_lay 87 = .ok (.isub, 1) := by decide +kernel
theorem dX8_lay_88 : decode cX8_lay 88 = .ok (.imul, 1) := by decide +kernel
theorem dX8_lay_89 : decode cX8_lay 89 = .ok (.iload_n 3, 1) := by decide +kernel
theorem dX8_lay_90 : decode cX8_lay 90 = .ok (.iadd, 1) := by decide +kernel
theorem dX8_lay_91 : decode cX8_lay 91 = .ok (.iaload, 1) := by decide +kernel
theorem dX8_lay_92 : decode cX8_lay 92 = .ok (.aload_n 0, 1) := by decide +kernel
theorem dX8_lay_93 : decode cX8_lay 93 = .ok (.aload_n 0, 1) := by decide +kernel
theorem dX8_lay_94 : decode cX8_lay 94 = .ok (.getfield 55, 3) := by decide +kernel
theorem dX8_lay_97 : decode cX8_lay 97 = .ok (.iload_n 2, 1) := by decide +kernel
theorem dX8_lay_98 : decode cX8_lay 98 = .ok (.iconst 1, 1) := by decide +kernel
theorem dX8_lay_99 : decode cX8_lay 99 = .ok (.isub, 1) := by decide +kernel
theorem dX8_lay_100 : decode cX8_lay 100 = .ok (.iaload, 1) := by decide +kernel
theorem dX8_lay_101 : decode cX8_lay 101 = .ok (.invokevirtual 140, 3) := by decide +kernel
theorem dX8_lay_104 : decode cX8_lay 104 = .ok (.iadd, 1) := by decide +kernel
theorem dX8_lay_105 : decode cX8_lay 105 = .ok (.invokestatic 129, 3) := by decide +kernel
theorem dX8_lay_108 : decode cX8_lay 108 = .ok (.istore 4, 2) := by decide +kernel
theorem dX8_lay_110 : decode cX8_lay 110 = .ok (.iload_n 3, 1) := by decide +kernel
theorem dX8_lay_111 : decode cX8_lay 111 = .ok (.ifCond .le 36, 3) := by decide +kernel
theorem dX8_lay_114 : decode cX8_lay 114 = .ok (.iload 4, 2) := by decide +kernel
theorem dX8_lay_116 : decode cX8_lay 116 = .ok (.aload_n 0, 1) := by decide +kernel
theorem dX8_lay_117 : decode cX8_lay 117 = .ok (.getfield 67, 3) := by decide +kernel
theorem dX8_lay_120 : decode cX8_lay 120 = .ok (.bipush 25, 2) := by decide +kernel
theorem dX8_lay_122 : decode cX8_lay 122 = .ok (.iload_n 2, 1) := by decide +kernel
theorem dX8_lay_123 : decode cX8_lay 123 = .ok (.imul, 1) := by decide +kernel
theorem dX8_lay_124 : decode cX8_lay 124 = .ok (.iload_n 3, 1) := by decide +kernel
theorem dX8_lay_125 : decode cX8_lay 125 = .ok (.iadd, 1) := by decide +kernel
theorem dX8_lay_126 : decode cX8_lay 126 = .ok (.iconst 1, 1) := by decide +kernel
theorem dX8_lay_127 : decode cX8_lay 127 = .ok (.isub, 1) := by decide +kernel
theorem dX8_lay_128 : decode cX8_lay 128 = .ok (.iaload, 1) := by decide +kernel
theorem dX8_lay_129 : decode cX8_lay 129 = .ok (.aload_n 0, 1) := by decide +kernel
theorem dX8_lay_130 : decode cX8_lay 130 = .ok (.aload_n 0, 1) := by decide +kernel
theorem dX8_lay_131 : decode cX8_lay 131 = .ok (.getfield 61, 3) := by decide +kernel
theorem dX8_lay_134 : decode cX8_lay 134 = .ok (.iload_n 3, 1) := by decide +kernel
theorem dX8_lay_135 : decode cX8_lay 135 = .ok (.iconst 1, 1) := by decide +kernel
theorem dX8_lay_136 : decode cX8_lay 136 = .ok (.isub, 1) := by decide +kernel
theorem dX8_lay_137 : decode cX8_lay 137 = .ok (.iaload, 1) := by decide +kernel
theorem dX8_lay_138 : decode cX8_lay 138 = .ok (.invokevirtual 140, 3) := by decide +kernel
theorem dX8_lay_141 : decode cX8_lay 141 = .ok (.iadd, 1) := by decide +kernel
theorem dX8_lay_142 : decode cX8_lay 142 = .ok (.invokestatic 129, 3) := by decide +kernel
theorem dX8_lay_145 : decode cX8_lay 145 = .ok (.istore 4, 2) := by decide +kernel
theorem dX8_lay_147 : decode cX8_lay 147 = .ok (.aload_n 0, 1) := by decide +kernel
theorem dX8_lay_148 : decode cX8_lay 148 = .ok (.getfield 67, 3) := by decide +kernel
theorem dX8_lay_151 : decode cX8_lay 151 = .ok (.bipush 25, 2) := by decide +kernel
theorem dX8_lay_153 : decode cX8_lay 153 = .ok (.iload_n 2, 1) := by decide +kernel
theorem dX8_lay_154 : decode cX8_lay 154 = .ok (.imul, 1) := by decide +kernel
theorem dX8_lay_155 : decode cX8_lay 155 = .ok (.iload_n 3, 1) := by decide +kernel
theorem dX8_lay_156 : decode cX8_lay 156 = .ok (.iadd, 1) := by decide +kernel
theorem dX8_lay_157 : decode cX8_lay 157 = .ok (.iload 4, 2) := by decide +kernel
theorem dX8_lay_159 : decode cX8_lay 159 = .ok (.iastore, 1) := by decide +kernel
theorem dX8_lay_160 : decode cX8_lay 160 = .ok (.iinc 3 1, 3) := by decide +kernel
theorem dX8_lay_163 : decode cX8_lay 163 = .ok (.goto (-151), 3) := by decide +kernel
theorem dX8_lay_166 : decode cX8_lay 166 = .ok (.iinc 2 1, 3) := by decide +kernel
theorem dX8_lay_169 : decode cX8_lay 169 = .ok (.goto (-167), 3) := by decide +kernel
theorem dX8_lay_172 : decode cX8_lay 172 = .ok (.aload_n 0, 1) := by decide +kernel
theorem dX8_lay_173 : decode cX8_lay 173 = .ok (.getfield 67, 3) := by decide +kernel
theorem dX8_lay_176 : decode cX8_lay 176 = .ok (.bipush 25, 2) := by decide +kernel
theorem dX8_lay_178 : decode cX8_lay 178 = .ok (.aload_n 0, 1) := by decide +kernel
theorem dX8_lay_179 : decode cX8_lay 179 = .ok (.getfield 117, 3) := by decide +kernel
theorem dX8_lay_182 : decode cX8_lay 182 = .ok (.imul, 1) := by decide +kernel
theorem dX8_lay_183 : decode cX8_lay 183 = .ok (.aload_n 0, 1) := by decide +kernel
theorem dX8_lay_184 : decode cX8_lay 184 = .ok (.getfield 120, 3) := by decide +kernel
theorem dX8_lay_187 : decode cX8_lay 187 = .ok (.iadd, 1) := by decide +kernel
theorem dX8_lay_188 : decode cX8_lay 188 = .ok (.iaload, 1) := by decide +kernel
theorem dX8_lay_189 : decode cX8_lay 189 = .ok (.ireturn, 1) := by decide +kernel
theorem dX8_far_0 : decode cX8_far 0 = .ok (.aload_n 0, 1) := by decide +kernel
theorem dX8_far_1 : decode cX8_far 1 = .ok (.iload_n 1, 1) := by decide +kernel
theorem dX8_far_2 : decode cX8_far 2 = .ok (.iload_n 2, 1) := by decide +kernel
theorem dX8_far_3 : decode cX8_far 3 = .ok (.iload_n 3, 1) := by decide +kernel
theorem dX8_far_4 : decode cX8_far 4 = .ok (.invokevirtual 143, 3) := by decide +kernel
theorem dX8_far_7 : decode cX8_far 7 = .ok (.aload_n 0, 1) := by decide +kernel
theorem dX8_far_8 : decode cX8_far 8 = .ok (.ldc 135, 2) := by decide +kernel
theorem dX8_far_10 : decode cX8_far 10 = .ok (.putfield 147, 3) := by decide +kernel
theorem dX8_far_13 : decode cX8_far 13 = .ok (.iconst 0, 1) := by decide +kernel
theorem dX8_far_14 : decode cX8_far 14 = .ok (.istore 4, 2) := by decide +kernel
theorem dX8_far_16 : decode cX8_far 16 = .ok (.iload 4, 2) := by decide +kernel
theorem dX8_far_18 : decode cX8_far 18 = .ok (.bipush 12, 2) := by decide +kernel
theorem dX8_far_20 : decode cX8_far 20 = .ok (.if_icmp .gt 75, 3) := by decide +kernel
theorem dX8_far_23 : decode cX8_far 23 = .ok (.iconst (-1), 1) := by decide +kernel
theorem dX8_far_24 : decode cX8_far 24 = .ok (.istore 5, 2) := by decide +kernel
theorem dX8_far_26 : decode cX8_far 26 = .ok (.iload 5, 2) := by decide +kernel
theorem dX8_far_28 : decode cX8_far 28 = .ok (.iconst 2, 1) := by decide +kernel
theorem dX8_far_29 : decode cX8_far 29 = .ok (.if_icmp .ge 60, 3) := by decide +kernel
theorem dX8_far_32 : decode cX8_far 32 = .ok (.iload 4, 2) := by decide +kernel
theorem dX8_far_34 : decode cX8_far 34 = .ok (.ifCond .ne 11, 3) := by decide +kernel
theorem dX8_far_37 : decode cX8_far 37 = .ok (.iload 5, 2) := by decide +kernel
theorem dX8_far_39 : decode cX8_far 39 = .ok (.ifCond .le 6, 3) := by decide +kernel
theorem dX8_far_42 : decode cX8_far 42 = .ok (.goto 41, 3) := by decide +kernel
theorem dX8_far_45 : decode cX8_far 45 = .ok (.aload_n 0, 1) := by decide +kernel
theorem dX8_far_46 : decode cX8_far 46 = .ok (.iload 5, 2) := by decide +kernel
theorem dX8_far_48 : decode cX8_far 48 = .ok (.iload 4, 2) := by decide +kernel
theorem dX8_far_50 : decode cX8_far 50 = .ok (.imul, 1) := by decide +kernel
theorem dX8_far_51 : decode cX8_far 51 = .ok (.invokevirtual 150, 3) := by decide +kernel
theorem dX8_far_54 : decode cX8_far 54 = .ok (.istore 6, 2) := by decide +kernel
theorem dX8_far_56 : decode cX8_far 56 = .ok (.iload 6, 2) := by decide +kernel
theorem dX8_far_58 : decode cX8_far 58 = .ok (.aload_n 0, 1) := by decide +kernel
theorem dX8_far_59 : decode cX8_far 59 = .ok (.getfield 147, 3) := by decide +kernel
theorem dX8_far_62 : decode cX8_far 62 = .ok (.if_icmp .lt 6, 3) := by decide +kernel
theorem dX8_far_65 : decode cX8_far 65 = .ok (.goto 18, 3) := by decide +kernel
theorem dX8_far_68 : decode cX8_far 68 = .ok (.aload_n 0, 1) := by decide +kernel
theorem dX8_far_69 : decode cX8_far 69 = .ok (.iload 6, 2) := by decide +kernel
theorem dX8_far_71 : decode cX8_far 71 = .ok (.putfield 147, 3) := by decide +kernel
theorem dX8_far_74 : decode cX8_far 74 = .ok (.aload_n 0, 1) := by decide +kernel
theorem dX8_far_75 : decode cX8_far 75 = .ok (.iload 5, 2) := by decide +kernel
theorem dX8_far_77 : decode cX8_far 77 = .ok (.iload 4, 2) := by decide +kernel
theorem dX8_far_79 : decode cX8_far 79 = .ok (.imul, 1) := by decide +kernel
theorem dX8_far_80 : decode cX8_far 80 = .ok (.putfield 153, 3) := by decide +kernel
theorem dX8_far_83 : decode cX8_far 83 = .ok (.iinc 5 2, 3) := by decide +kernel
theorem dX8_far_86 : decode cX8_far 86 = .ok (.goto (-60), 3) := by decide +kernel
theorem dX8_far_89 : decode cX8_far 89 = .ok (.iinc 4 1, 3) := by decide +kernel
theorem dX8_far_92 : decode cX8_far 92 = .ok (.goto (-76), 3) := by decide +kernel
theorem dX8_far_95 : decode cX8_far 95 = .ok (.aload_n 0, 1) := by decide +kernel
theorem dX8_far_96 : decode cX8_far 96 = .ok (.getfield 147, 3) := by decide +kernel
theorem dX8_far_99 : decode cX8_far 99 = .ok (.ireturn, 1) := by decide +kernel
theorem dX8_isPair_0 : decode cX8_isPair 0 = .ok (.aload_n 0, 1) := by decide +kernel
theorem dX8_isPair_1 : decode cX8_isPair 1 = .ok (.iconst 0, 1) := by decide +kernel
theorem dX8_isPair_2 : decode cX8_isPair 2 = .ok (.putfield 82, 3) := by decide +kernel
theorem dX8_isPair_5 : decode cX8_isPair 5 = .ok (.aload_n 0, 1) := by decide +kernel
theorem dX8_isPair_6 : decode cX8_isPair 6 = .ok (.iload_n 1, 1) := by decide +kernel
theorem dX8_isPair_7 : decode cX8_isPair 7 = .ok (.invokevirtual 96, 3) := by decide +kernel
theorem dX8_isPair_10 : decode cX8_isPair 10 = .ok (.ifCond .eq 23, 3) := by decide +kernel
theorem dX8_isPair_13 : decode cX8_isPair 13 = .ok (.aload_n 0, 1) := by decide +kernel
theorem dX8_isPair_14 : decode cX8_isPair 14 = .ok (.iload_n 2, 1) := by decide +kernel
theorem dX8_isPair_15 : decode cX8_isPair 15 = .ok (.invokevirtual 96, 3) := by decide +kernel
theorem dX8_isPair_18 : decode cX8_isPair 18 = .ok (.ifCond .eq 15, 3) := by decide +kernel
theorem dX8_isPair_21 : decode cX8_isPair 21 = .ok (.aload_n 0, 1) := by decide +kernel
theorem dX8_isPair_22 : decode cX8_isPair 22 = .ok (.iload_n 3, 1) := by decide +kernel
theorem dX8_isPair_23 : decode cX8_isPair 23 = .ok (.invokevirtual 110, 3) := by decide +kernel
theorem dX8_isPair_26 : decode cX8_isPair 26 = .ok (.ifCond .eq 7, 3) := by decide +kernel
theorem dX8_isPair_29 : decode cX8_isPair 29 = .ok (.iconst 1, 1) := by decide +kernel
theorem dX8_isPair_30 : decode cX8_isPair 30 = .ok (.goto 4, 3) := by decide +kernel
theorem dX8_isPair_33 : decode cX8_isPair 33 = .ok (.iconst 0, 1) := by decide +kernel
theorem dX8_isPair_34 : decode cX8_isPair 34 = .ok (.ireturn, 1) := by decide +kernel
theorem dX8_distance_0 : decode cX8_distance 0 = .ok (.aload_n 0, 1) := by decide +kernel
theorem dX8_distance_1 : decode cX8_distance 1 = .ok (.iload_n 1, 1) := by decide +kernel
theorem dX8_distance_2 : decode cX8_distance 2 = .ok (.iload_n 2, 1) := by decide +kernel
theorem dX8_distance_3 : decode cX8_distance 3 = .ok (.iload_n 3, 1) := by decide +kernel
theorem dX8_distance_4 : decode cX8_distance 4 = .ok (.invokevirtual 156, 3) := by decide +kernel
theorem dX8_distance_7 : decode cX8_distance 7 = .ok (.ifCond .eq 13, 3) := by decide +kernel
theorem dX8_distance_10 : decode cX8_distance 10 = .ok (.aload_n 0, 1) := by decide +kernel
theorem dX8_distance_11 : decode cX8_distance 11 = .ok (.iload_n 1, 1) := by decide +kernel
theorem dX8_distance_12 : decode cX8_distance 12 = .ok (.iload_n 2, 1) := by decide +kernel
theorem dX8_distance_13 : decode cX8_distance 13 = .ok (.iload_n 3, 1) := by decide +kernel
theorem dX8_distance_14 : decode cX8_distance 14 = .ok (.invokevirtual 159, 3) := by decide +kernel
theorem dX8_distance_17 : decode cX8_distance 17 = .ok (.goto 4, 3) := by decide +kernel
theorem dX8_distance_20 : decode cX8_distance 20 = .ok (.iconst (-1), 1) := by decide +kernel
theorem dX8_distance_21 : decode cX8_distance 21 = .ok (.ireturn, 1) := by decide +kernel
theorem dX8_key_0 : decode cX8_key 0 = .ok (.aload_n 0, 1) := by decide +kernel
theorem dX8_key_1 : decode cX8_key 1 = .ok (.iload_n 1, 1) := by decide +kernel
theorem dX8_key_2 : decode cX8_key 2 = .ok (.iload_n 2, 1) := by decide +kernel
theorem dX8_key_3 : decode cX8_key 3 = .ok (.iload_n 3, 1) := by decide +kernel
theorem dX8_key_4 : decode cX8_key 4 = .ok (.invokevirtual 156, 3) := by decide +kernel
theorem dX8_key_7 : decode cX8_key 7 = .ok (.ifCond .ne 6, 3) := by decide +kernel
theorem dX8_key_10 : decode cX8_key 10 = .ok (.bipush 100, 2) := by decide +kernel
theorem dX8_key_12 : decode cX8_key 12 = .ok (.ireturn, 1) := by decide +kernel
theorem dX8_key_13 : decode cX8_key 13 = .ok (.aload_n 0, 1) := by decide +kernel
theorem dX8_key_14 : decode cX8_key 14 = .ok (.iload_n 1, 1) := by decide +kernel
theorem dX8_key_15 : decode cX8_key 15 = .ok (.iload_n 2, 1) := by decide +kernel
theorem dX8_key_16 : decode cX8_key 16 = .ok (.iload_n 3, 1) := by decide +kernel
theorem dX8_key_17 : decode cX8_key 17 = .ok (.invokevirtual 159, 3) := by decide +kernel
theorem dX8_key_20 : decode cX8_key 20 = .ok (.istore 4, 2) := by decide +kernel
theorem dX8_key_22 : decode cX8_key 22 = .ok (.aload_n 0, 1) := by decide +kernel
theorem dX8_key_23 : decode cX8_key 23 = .ok (.getfield 153, 3) := by decide +kernel
theorem dX8_key_26 : decode cX8_key 26 = .ok (.ireturn, 1) := by decide +kernel
theorem dX8_align_0 : decode cX8_align 0 = .ok (.aload_n 0, 1) := by decide +kernel
theorem dX8_align_1 : decode cX8_align 1 = .ok (.iload_n 1, 1) := by decide +kernel
theorem dX8_align_2 : decode cX8_align 2 = .ok (.iload_n 2, 1) := by decide +kernel
theorem dX8_align_3 : decode cX8_align 3 = .ok (.iload_n 3, 1) := by decide +kernel
theorem dX8_align_4 : decode cX8_align 4 = .ok (.invokevirtual 159, 3) := by decide +kernel
theorem dX8_align_7 : decode cX8_align 7 = .ok (.istore 4, 2) := by decide +kernel
theorem dX8_align_9 : decode cX8_align 9 = .ok (.aload_n 0, 1) := by decide +kernel
theorem dX8_align_10 : decode cX8_align 10 = .ok (.aload_n 0, 1) := by decide +kernel
theorem dX8_align_11 : decode cX8_align 11 = .ok (.getfield 153, 3) := by decide +kernel
theorem dX8_align_14 : decode cX8_align 14 = .ok (.invokevirtual 150, 3) := by decide +kernel
theorem dX8_align_17 : decode cX8_align 17 = .ok (.istore 4, 2) := by decide +kernel
theorem dX8_align_19 : decode cX8_align 19 = .ok (.aload_n 0, 1) := by decide +kernel
theorem dX8_align_20 : decode cX8_align 20 = .ok (.iconst 0, 1) := by decide +kernel
theorem dX8_align_21 : decode cX8_align 21 = .ok (.putfield 162, 3) := by decide +kernel
theorem dX8_align_24 : decode cX8_align 24 = .ok (.aload_n 0, 1) := by decide +kernel
theorem dX8_align_25 : decode cX8_align 25 = .ok (.getfield 117, 3) := by decide +kernel
theorem dX8_align_28 : decode cX8_align 28 = .ok (.istore 5, 2) := by decide +kernel
theorem dX8_align_30 : decode cX8_align 30 = .ok (.aload_n 0, 1) := by decide +kernel
theorem dX8_align_31 : decode cX8_align 31 = .ok (.getfield 120, 3) := by decide +kernel
theorem dX8_align_34 : decode cX8_align 34 = .ok (.istore 6, 2) := by decide +kernel
theorem dX8_align_36 : decode cX8_align 36 = .ok (.iload 5, 2) := by decide +kernel
theorem dX8_align_38 : decode cX8_align 38 = .ok (.ifCond .gt 8, 3) := by decide +kernel
theorem dX8_align_41 : decode cX8_align 41 = .ok (.iload 6, 2) := by decide +kernel
theorem dX8_align_43 : decode cX8_align 43 = .ok (.ifCond .le 275, 3) := by decide +kernel
theorem dX8_align_46 : decode cX8_align 46 = .ok (.aload_n 0, 1) := by decide +kernel
theorem dX8_align_47 : decode cX8_align 47 = .ok (.getfield 67, 3) := by decide +kernel
theorem dX8_align_50 : decode cX8_align 50 = .ok (.bipush 25, 2) := by decide +kernel
theorem dX8_align_52 : decode cX8_align 52 = .ok (.iload 5, 2) := by decide +kernel
theorem dX8_align_54 : decode cX8_align 54 = .ok (.imul, 1) := by decide +kernel
theorem dX8_align_55 : decode cX8_align 55 = .ok (.iload 6, 2) := by decide +kernel
theorem dX8_align_57 : decode cX8_align 57 = .ok (.iadd, 1) := by decide +kernel
theorem dX8_align_58 : decode cX8_align 58 = .ok (.iaload, 1) := by decide +kernel
theorem dX8_align_59 : decode cX8_align 59 = .ok (.istore 7, 2) := by decide +kernel
theorem dX8_align_61 : decode cX8_align 61 = .ok (.iload 5, 2) := by decide +kernel
theorem dX8_align_63 : decode cX8_align 63 = .ok (.ifCond .le 51, 3) := by decide +kernel
theorem dX8_align_66 : decode cX8_align 66 = .ok (.iload 6, 2) := by decide +kernel
theorem dX8_align_68 : decode cX8_align 68 = .ok (.ifCond .le 46, 3) := by decide +kernel
theorem dX8_align_71 : decode cX8_align 71 = .ok (.aload_n 0, 1) := by decide +kernel
theorem dX8_align_72 : decode cX8_align 72 = .ok (.getfield 67, 3) := by decide +kernel
theorem dX8_align_75 : decode cX8_align 75 = .ok (.bipush 25, 2) := by decide +kernel
theorem dX8_align_77 : decode cX8_align 77 = .ok (.iload 5, 2) := by decide +kernel
theorem dX8_align_79 : decode cX8_align 79 = .ok (.iconst 1, 1) := by decide +kernel
theorem dX8_align_80 : decode cX8_align 80 = .ok (.isub, 1) := by decide +kernel
theorem dX8_align_81 : decode cX8_align 81 = .ok (.imul, 1) := by decide +kernel
theorem dX8_align_82 : decode cX8_align 82 = .ok (.iload 6, 2) := by decide +kernel
theorem dX8_align_84 : decode cX8_align 84 = .ok (.iadd, 1) := by decide +kernel
theorem dX8_align_85 : decode cX8_align 85 = .ok (.iconst 1, 1) := by decide +kernel
theorem dX8_align_86 : decode cX8_align 86 = .ok (.isub, 1) := by decide +kernel
theorem dX8_align_87 : decode cX8_align 87 = .ok (.iaload, 1) := by decide +kernel
theorem dX8_align_88 : decode cX8_align 88 = .ok (.aload_n 0, 1) := by decide +kernel
theorem dX8_align_89 : decode cX8_align 89 = .ok (.iload 5, 2) := by decide +kernel
theorem dX8_align_91 : decode cX8_align 91 = .ok (.iconst 1, 1) := by decide +kernel
theorem dX8_align_92 : decode cX8_align 92 = .ok (.isub, 1) := by decide +kernel
theorem dX8_align_93 : decode cX8_align 93 = .ok (.iload 6, 2) := by decide +kernel
theorem dX8_align_95 : decode cX8_align 95 = .ok (.iconst 1, 1) := by decide +kernel
theorem dX8_align_96 : decode cX8_align 96 = .ok (.isub, 1) := by decide +kernel
theorem dX8_align_97 : decode cX8_align 97 = .ok (.aload_n 0, 1) := by decide +kernel
theorem dX8_align_98 : decode cX8_align 98 = .ok (.getfield 153, 3) := by decide +kernel
theorem dX8_align_101 : decode cX8_align 101 = .ok (.invokevirtual 136, 3) := by decide +kernel
theorem dX8_align_104 : decode cX8_align 104 = .ok (.iadd, 1) := by decide +kernel
theorem dX8_align_105 : decode cX8_align 105 = .ok (.iload 7, 2) := by decide +kernel
theorem dX8_align_107 : decode cX8_align 107 = .ok (.if_icmp .ne 7, 3) := by decide +kernel
theorem dX8_align_110 : decode cX8_align 110 = .ok (.iconst 1, 1) := by decide +kernel
theorem dX8_align_111 : decode cX8_align 111 = .ok (.goto 4, 3) := by decide +kernel
theorem dX8_align_114 : decode cX8_align 114 = .ok (.iconst 0, 1) := by decide +kernel
theorem dX8_align_115 : decode cX8_align 115 = .ok (.istore 8, 2) := by decide +kernel
theorem dX8_align_117 : decode cX8_align 117 = .ok (.iload 8, 2) := by decide +kernel
theorem dX8_align_119 : decode cX8_align 119 = .ok (.ifCond .ne 46, 3) := by decide +kernel
theorem dX8_align_122 : decode cX8_align 122 = .ok (.iload 5, 2) := by decide +kernel
theorem dX8_align_124 : decode cX8_align 124 = .ok (.ifCond .le 41, 3) := by decide +kernel
theorem dX8_align_127 : decode cX8_align 127 = .ok (.aload_n 0, 1) := by decide +kernel
theorem dX8_align_128 : decode cX8_align 128 = .ok (.getfield 67, 3) := by decide +kernel
theorem dX8_align_131 : decode cX8_align 131 = .ok (.bipush 25, 2) := by decide +kernel
theorem dX8_align_133 : decode cX8_align 133 = .ok (.iload 5, 2) := by decide +kernel
theorem dX8_align_135 : decode cX8_align 135 = .ok (.iconst 1, 1) := by decide +kernel
theorem dX8_align_136 : decode cX8_align 136 = .ok (.isub, 1) := by decide +kernel
theorem dX8_align_137 : decode cX8_align 137 = .ok (.imul, 1) := by decide +kernel
theorem dX8_align_138 : decode cX8_align 138 = .ok (.iload 6, 2) := by decide +kernel
theorem dX8_align_140 : decode cX8_align 140 = .ok (.iadd, 1) := by decide +kernel
theorem dX8_align_141 : decode cX8_align 141 = .ok (.iaload, 1) := by decide +kernel
theorem dX8_align_142 : decode cX8_align 142 = .ok (.aload_n 0, 1) := by decide +kernel
theorem dX8_align_143 : decode cX8_align 143 = .ok (.aload_n 0, 1) := by decide +kernel
theorem dX8_align_144 : decode cX8_align 144 = .ok (.getfield 55, 3) := by decide +kernel
theorem dX8_align_147 : decode cX8_align 147 = .ok (.iload 5, 2) := by decide +kernel
theorem dX8_align_149 : decode cX8_align 149 = .ok (.iconst 1, 1) := by decide +kernel
theorem dX8_align_150 : decode cX8_align 150 = .ok (.isub, 1) := by decide +kernel
theorem dX8_align_151 : decode cX8_align 151 = .ok (.iaload, 1) := by decide +kernel
theorem dX8_align_152 : decode cX8_align 152 = .ok (.invokevirtual 140, 3) := by decide +kernel
theorem dX8_align_155 : decode cX8_align 155 = .ok (.iadd, 1) := by decide +kernel
theorem dX8_align_156 : decode cX8_align 156 = .ok (.iload 7, 2) := by decide +kernel
theorem dX8_align_158 : decode cX8_align 158 = .ok (.if_icmp .ne 7, 3) := by decide +kernel
theorem dX8_align_161 : decode cX8_align 161 = .ok (.iconst 1, 1) := by decide +kernel
theorem dX8_align_162 : decode cX8_align 162 = .ok (.goto 4, 3) := by decide +kernel
theorem dX8_align_165 : decode cX8_align 165 = .ok (.iconst 0, 1) := by decide +kernel
theorem dX8_align_166 : decode cX8_align 166 = .ok (.istore 9, 2) := by decide +kernel
theorem dX8_align_168 : decode cX8_align 168 = .ok (.aload_n 0, 1) := by decide +kernel
theorem dX8_align_169 : decode cX8_align 169 = .ok (.getfield 70, 3) := by decide +kernel
theorem dX8_align_172 : decode cX8_align 172 = .ok (.aload_n 0, 1) := by decide +kernel
theorem dX8_align_173 : decode cX8_align 173 = .ok (.getfield 162, 3) := by decide +kernel
theorem dX8_align_176 : decode cX8_align 176 = .ok (.iload 8, 2) := by decide +kernel
theorem dX8_align_178 : decode cX8_align 178 = .ok (.ifCond .ne 8, 3) := by decide +kernel
theorem dX8_align_181 : decode cX8_align 181 = .ok (.iload 9, 2) := by decide +kernel
theorem dX8_align_183 : decode cX8_align 183 = .ok (.ifCond .eq 10, 3) := by decide +kernel
theorem dX8_align_186 : decode cX8_align 186 = .ok (.iload 5, 2) := by decide +kernel
theorem dX8_align_188 : decode cX8_align 188 = .ok (.iconst 1, 1) := by decide +kernel
theorem dX8_align_189 : decode cX8_align 189 = .ok (.isub, 1) := by decide +kernel
theorem dX8_align_190 : decode cX8_align 190 = .ok (.goto 4, 3) := by decide +kernel
theorem dX8_align_193 : decode cX8_align 193 = .ok (.iconst (-1), 1) := by decide +kernel
theorem dX8_align_194 : decode cX8_align 194 = .ok (.iastore, 1) := by decide +kernel
theorem dX8_align_195 : decode cX8_align 195 = .ok (.aload_n 0, 1) := by decide +kernel
theorem dX8_align_196 : decode cX8_align 196 = .ok (.getfield 73, 3) := by decide +kernel
theorem dX8_align_199 : decode cX8_align 199 = .ok (.aload_n 0, 1) := by decide +kernel
theorem dX8_align_200 : decode cX8_align 200 = .ok (.getfield 162, 3) := by decide +kernel
theorem dX8_align_203 : decode cX8_align 203 = .ok (.iload 9, 2) := by decide +kernel
theorem dX8_align_205 : decode cX8_align 205 = .ok (.ifCond .eq 7, 3) := by decide +kernel
theorem dX8_align_208 : decode cX8_align 208 = .ok (.iconst (-1), 1) := by decide +kernel
theorem dX8_align_209 : decode cX8_align 209 = .ok (.goto 7, 3) := by decide +kernel
theorem dX8_align_212 : decode cX8_align 212 = .ok (.iload 6, 2) := by decide +kernel
theorem dX8_align_214 : decode cX8_align 214 = .ok (.iconst 1, 1) := by decide +kernel
theorem dX8_align_215 : decode cX8_align 215 = .ok (.isub, 1) := by decide +kernel
theorem dX8_align_216 : decode cX8_align 216 = .ok (.iastore, 1) := by decide +kernel
theorem dX8_align_217 : decode cX8_align 217 = .ok (.aload_n 0, 1) := by decide +kernel
theorem dX8_align_218 : decode cX8_align 218 = .ok (.getfield 76, 3) := by decide +kernel
theorem dX8_align_221 : decode cX8_align 221 = .ok (.aload_n 0, 1) := by decide +kernel
theorem dX8_align_222 : decode cX8_align 222 = .ok (.getfield 162, 3) := by decide +kernel
theorem dX8_align_225 : decode cX8_align 225 = .ok (.iload 8, 2) := by decide +kernel
theorem dX8_align_227 : decode cX8_align 227 = .ok (.ifCond .eq 22, 3) := by decide +kernel
theorem dX8_align_230 : decode cX8_align 230 = .ok (.aload_n 0, 1) := by decide +kernel
theorem dX8_align_231 : decode cX8_align 231 = .ok (.iload 5, 2) := by decide +kernel
theorem dX8_align_233 : decode cX8_align 233 = .ok (.iconst 1, 1) := by decide +kernel
theorem dX8_align_234 : decode cX8_align 234 = .ok (.isub, 1) := by decide +kernel
theorem dX8_align_235 : decode cX8_align 235 = .ok (.iload 6, 2) := by decide +kernel
theorem dX8_align_237 : decode cX8_align 237 = .ok (.iconst 1, 1) := by decide +kernel
theorem dX8_align_238 : decode cX8_align 238 = .ok (.isub, 1) := by decide +kernel
theorem dX8_align_239 : decode cX8_align 239 = .ok (.aload_n 0, 1) := by decide +kernel
theorem dX8_align_240 : decode cX8_align 240 = .ok (.getfield 153, 3) := by decide +kernel
theorem dX8_align_243 : decode cX8_align 243 = .ok (.invokevirtual 136, 3) := by decide +kernel
theorem dX8_align_246 : decode cX8_align 246 = .ok (.goto 37, 3) := by decide +kernel
theorem dX8_align_249 : decode cX8_align 249 = .ok (.iload 9, 2) := by decide +kernel
theorem dX8_align_251 : decode cX8_align 251 = .ok (.ifCond .eq 19, 3) := by decide +kernel
theorem dX8_align_254 : decode cX8_align 254 = .ok (.aload_n 0, 1) := by decide +kernel
theorem dX8_align_255 : decode cX8_align 255 = .ok (.aload_n 0, 1) := by decide +kernel
theorem dX8_align_256 : decode cX8_align 256 = .ok (.getfield 55, 3) := by decide +kernel
theorem dX8_align_259 : decode cX8_align 259 = .ok (.iload 5, 2) := by decide +kernel
theorem dX8_align_261 : decode cX8_align 261 = .ok (.iconst 1, 1) := by decide +kernel
theorem dX8_align_262 : decode cX8_align 262 = .ok (.isub, 1) := by decide +kernel
theorem dX8_align_263 : decode cX8_align 263 = .ok (.iaload, 1) := by decide +kernel
theorem dX8_align_264 : decode cX8_align 264 = .ok (.invokevirtual 140, 3) := by decide +kernel
theorem dX8_align_267 : decode cX8_align 267 = .ok (.goto 16, 3) := by decide +kernel
theorem dX8_align_270 : decode cX8_align 270 = .ok (.aload_n 0, 1) := by decide +kernel
theorem dX8_align_271 : decode cX8_align 271 = .ok (.aload_n 0, 1) := by decide +kernel
theorem dX8_align_272 : decode cX8_align 272 = .ok (.getfield 61, 3) := by decide +kernel
theorem dX8_align_275 : decode cX8_align 275 = .ok (.iload 6, 2) := by decide +kernel
theorem dX8_align_277 : decode cX8_align 277 = .ok (.iconst 1, 1) := by decide +kernel
theorem dX8_align_278 : decode cX8_align 278 = .ok (.isub, 1) := by decide +kernel
theorem dX8_align_279 : decode cX8_align 279 = .ok (.iaload, 1) := by decide +kernel
theorem dX8_align_280 : decode cX8_align 280 = .ok (.invokevirtual 140, 3) := by decide +kernel
theorem dX8_align_283 : decode cX8_align 283 = .ok (.iastore, 1) := by decide +kernel
theorem dX8_align_284 : decode cX8_align 284 = .ok (.iload 8, 2) := by decide +kernel
theorem dX8_align_286 : decode cX8_align 286 = .ok (.ifCond .ne 8, 3) := by decide +kernel
theorem dX8_align_289 : decode cX8_align 289 = .ok (.iload 9, 2) := by decide +kernel
theorem dX8_align_291 : decode cX8_align 291 = .ok (.ifCond .eq 6, 3) := by decide +kernel
theorem dX8_align_294 : decode cX8_align 294 = .ok (.iinc 5 (-1), 3) := by decide +kernel
theorem dX8_align_297 : decode cX8_align 297 = .ok (.iload 9, 2) := by decide +kernel
theorem dX8_align_299 : decode cX8_align 299 = .ok (.ifCond .ne 6, 3) := by decide +kernel
theorem dX8_align_302 : decode cX8_align 302 = .ok (.iinc 6 (-1), 3) := by decide +kernel
theorem dX8_align_305 : decode cX8_align 305 = .ok (.aload_n 0, 1) := by decide +kernel
theorem dX8_align_306 : decode cX8_align 306 = .ok (.dup, 1) := by decide +kernel
theorem dX8_align_307 : decode cX8_align 307 = .ok (.getfield 162, 3) := by decide +kernel
theorem dX8_align_310 : decode cX8_align 310 = .ok (.iconst 1, 1) := by decide +kernel
theorem dX8_align_311 : decode cX8_align 311 = .ok (.iadd, 1) := by decide +kernel
theorem dX8_align_312 : decode cX8_align 312 = .ok (.putfield 162, 3) := by decide +kernel
theorem dX8_align_315 : decode cX8_align 315 = .ok (.goto (-279), 3) := by decide +kernel
theorem dX8_align_318 : decode cX8_align 318 = .ok (.return_, 1) := by decide +kernel
theorem dX8_column_0 : decode cX8_column 0 = .ok (.aload_n 0, 1) := by decide +kernel
theorem dX8_column_1 : decode cX8_column 1 = .ok (.iload_n 1, 1) := by decide +kernel
theorem dX8_column_2 : decode cX8_column 2 = .ok (.iload_n 2, 1) := by decide +kernel
theorem dX8_column_3 : decode cX8_column 3 = .ok (.iload_n 3, 1) := by decide +kernel
theorem dX8_column_4 : decode cX8_column 4 = .ok (.invokevirtual 156, 3) := by decide +kernel
theorem dX8_column_7 : decode cX8_column 7 = .ok (.ifCond .ne 5, 3) := by decide +kernel
theorem dX8_column_10 : decode cX8_column 10 = .ok (.iconst (-1), 1) := by decide +kernel
theorem dX8_column_11 : decode cX8_column 11 = .ok (.ireturn, 1) := by decide +kernel
theorem dX8_column_12 : decode cX8_column 12 = .ok (.aload_n 0, 1) := by decide +kernel
theorem dX8_column_13 : decode cX8_column 13 = .ok (.iload_n 1, 1) := by decide +kernel
theorem dX8_column_14 : decode cX8_column 14 = .ok (.iload_n 2, 1) := by decide +kernel
theorem dX8_column_15 : decode cX8_column 15 = .ok (.iload_n 3, 1) := by decide +kernel
theorem dX8_column_16 : decode cX8_column 16 = .ok (.invokevirtual 165, 3) := by decide +kernel
theorem dX8_column_19 : decode cX8_column 19 = .ok (.iload 4, 2) := by decide +kernel
theorem dX8_column_21 : decode cX8_column 21 = .ok (.ifCond .lt 12, 3) := by decide +kernel
theorem dX8_column_24 : decode cX8_column 24 = .ok (.iload 4, 2) := by decide +kernel
theorem dX8_column_26 : decode cX8_column 26 = .ok (.aload_n 0, 1) := by decide +kernel
theorem dX8_column_27 : decode cX8_column 27 = .ok (.getfield 162, 3) := by decide +kernel
theorem dX8_column_30 : decode cX8_column 30 = .ok (.if_icmp .lt 5, 3) := by decide +kernel
theorem dX8_column_33 : decode cX8_column 33 = .ok (.iconst (-1), 1) := by decide +kernel
theorem dX8_column_34 : decode cX8_column 34 = .ok (.ireturn, 1) := by decide +kernel
theorem dX8_column_35 : decode cX8_column 35 = .ok (.aload_n 0, 1) := by decide +kernel
theorem dX8_column_36 : decode cX8_column 36 = .ok (.getfield 162, 3) := by decide +kernel
theorem dX8_column_39 : decode cX8_column 39 = .ok (.iconst 1, 1) := by decide +kernel
theorem dX8_column_40 : decode cX8_column 40 = .ok (.isub, 1) := by decide +kernel
theorem dX8_column_41 : decode cX8_column 41 = .ok (.iload 4, 2) := by decide +kernel
theorem dX8_column_43 : decode cX8_column 43 = .ok (.isub, 1) := by decide +kernel
theorem dX8_column_44 : decode cX8_column 44 = .ok (.istore 6, 2) := by decide +kernel
theorem dX8_column_46 : decode cX8_column 46 = .ok (.iload 5, 2) := by decide +kernel
theorem dX8_column_48 : decode cX8_column 48 = .ok (.ifCond .ne 13, 3) := by decide +kernel
theorem dX8_column_51 : decode cX8_column 51 = .ok (.aload_n 0, 1) := by decide +kernel
theorem dX8_column_52 : decode cX8_column 52 = .ok (.getfield 70, 3) := by decide +kernel
theorem dX8_column_55 : decode cX8_column 55 = .ok (.iload 6, 2) := by decide +kernel
theorem dX8_column_57 : decode cX8_column 57 = .ok (.iaload, 1) := by decide +kernel
theorem dX8_column_58 : decode cX8_column 58 = .ok (.goto 36, 3) := by decide +kernel
theorem dX8_column_61 : decode cX8_column 61 = .ok (.iload 5, 2) := by decide +kernel
theorem dX8_column_63 : decode cX8_column 63 = .ok (.iconst 1, 1) := by decide +kernel
theorem dX8_column_64 : decode cX8_column 64 = .ok (.if_icmp .ne 13, 3) := by decide +kernel
theorem dX8_column_67 : decode cX8_column 67 = .ok (.aload_n 0, 1) := by decide +kernel
theorem dX8_column_68 : decode cX8_column 68 = .ok (.getfield 73, 3) := by decide +kernel
theorem dX8_column_71 : decode cX8_column 71 = .ok (.iload 6, 2) := by decide +kernel
theorem dX8_column_73 : decode cX8_column 73 = .ok (.iaload, 1) := by decide +kernel
theorem dX8_column_74 : decode cX8_column 74 = .ok (.goto 20, 3) := by decide +kernel
theorem dX8_column_77 : decode cX8_column 77 = .ok (.iload 5, 2) := by decide +kernel
theorem dX8_column_79 : decode cX8_column 79 = .ok (.iconst 2, 1) := by decide +kernel
theorem dX8_column_80 : decode cX8_column 80 = .ok (.if_icmp .ne 13, 3) := by decide +kernel
theorem dX8_column_83 : decode cX8_column 83 = .ok (.aload_n 0, 1) := by decide +kernel
theorem dX8_column_84 : decode cX8_column 84 = .ok (.getfield 76, 3) := by decide +kernel
theorem dX8_column_87 : decode cX8_column 87 = .ok (.iload 6, 2) := by decide +kernel
theorem dX8_column_89 : decode cX8_column 89 = .ok (.iaload, 1) := by decide +kernel
theorem dX8_column_90 : decode cX8_column 90 = .ok (.goto 4, 3) := by decide +kernel
theorem dX8_column_93 : decode cX8_column 93 = .ok (.iconst (-1), 1) := by decide +kernel
theorem dX8_column_94 : decode cX8_column 94 = .ok (.ireturn, 1) := by decide +kernel
theorem dX8_families_0 : decode cX8_families 0 = .ok (.aload_n 0, 1) := by decide +kernel
theorem dX8_families_1 : decode cX8_families 1 = .ok (.iconst 0, 1) := by decide +kernel
theorem dX8_families_2 : decode cX8_families 2 = .ok (.putfield 82, 3) := by decide +kernel
theorem dX8_families_5 : decode cX8_families 5 = .ok (.aload_n 0, 1) := by decide +kernel
theorem dX8_families_6 : decode cX8_families 6 = .ok (.iload_n 1, 1) := by decide +kernel
theorem dX8_families_7 : decode cX8_families 7 = .ok (.invokevirtual 96, 3) := by decide +kernel
theorem dX8_families_10 : decode cX8_families 10 = .ok (.ifCond .eq 31, 3) := by decide +kernel
theorem dX8_families_13 : decode cX8_families 13 = .ok (.iload_n 2, 1) := by decide +kernel
theorem dX8_families_14 : decode cX8_families 14 = .ok (.iconst 0, 1) := by decide +kernel
theorem dX8_families_15 : decode cX8_families 15 = .ok (.sipush 10000, 3) := by decide +kernel
theorem dX8_families_18 : decode cX8_families 18 = .ok (.invokestatic 92, 3) := by decide +kernel
theorem dX8_families_21 : decode cX8_families 21 = .ok (.ifCond .eq 20, 3) := by decide +kernel
theorem dX8_families_24 : decode cX8_families 24 = .ok (.aload_n 0, 1) := by decide +kernel
theorem dX8_families_25 : decode cX8_families 25 = .ok (.iload_n 3, 1) := by decide +kernel
theorem dX8_families_26 : decode cX8_families 26 = .ok (.invokevirtual 110, 3) := by decide +kernel
theorem dX8_families_29 : decode cX8_families 29 = .ok (.ifCond .eq 12, 3) := by decide +kernel
theorem dX8_families_32 : decode cX8_families 32 = .ok (.aload_n 0, 1) := by decide +kernel
theorem dX8_families_33 : decode cX8_families 33 = .ok (.iload_n 1, 1) := by decide +kernel
theorem dX8_families_34 : decode cX8_families 34 = .ok (.iload_n 3, 1) := by decide +kernel
theorem dX8_families_35 : decode cX8_families 35 = .ok (.invokevirtual 168, 3) := by decide +kernel
theorem dX8_families_38 : decode cX8_families 38 = .ok (.ifCond .eq 5, 3) := by decide +kernel
theorem dX8_families_41 : decode cX8_families 41 = .ok (.iconst 0, 1) := by decide +kernel
theorem dX8_families_42 : decode cX8_families 42 = .ok (.ireturn, 1) := by decide +kernel
theorem dX8_families_43 : decode cX8_families 43 = .ok (.sipush 400, 3) := by decide +kernel
theorem dX8_families_46 : decode cX8_families 46 = .ok (.newarray .boolean, 2) := by decide +kernel
theorem dX8_families_48 : decode cX8_families 48 = .ok (.astore 4, 2) := by decide +kernel
theorem dX8_families_50 : decode cX8_families 50 = .ok (.iconst 0, 1) := by decide +kernel
theorem dX8_families_51 : decode cX8_families 51 = .ok (.istore 5, 2) := by decide +kernel
theorem dX8_families_53 : decode cX8_families 53 = .ok (.iload 5, 2) := by decide +kernel
theorem dX8_families_55 : decode cX8_families 55 = .ok (.aload_n 0, 1) := by decide +kernel
theorem dX8_families_56 : decode cX8_families 56 = .ok (.getfield 86, 3) := by decide +kernel
theorem dX8_families_59 : decode cX8_families 59 = .ok (.if_icmp .ge 97, 3) := by decide +kernel
theorem dX8_families_62 : decode cX8_families 62 = .ok (.aload_n 0, 1) := by decide +kernel
theorem dX8_families_63 : decode cX8_families 63 = .ok (.getfield 79, 3) := by decide +kernel
theorem dX8_families_66 : decode cX8_families 66 = .ok (.iload 5, 2) := by decide +kernel
theorem dX8_families_68 : decode cX8_families 68 = .ok (.aload_n 0, 1) := by decide +kernel
theorem dX8_families_69 : decode cX8_families 69 = .ok (.iload 5, 2) := by decide +kernel
theorem dX8_families_71 : decode cX8_families 71 = .ok (.iload_n 3, 1) := by decide +kernel
theorem dX8_families_72 : decode cX8_families 72 = .ok (.invokevirtual 168, 3) := by decide +kernel
theorem dX8_families_75 : decode cX8_families 75 = .ok (.ifCond .eq 7, 3) := by decide +kernel
theorem dX8_families_78 : decode cX8_families 78 = .ok (.iconst (-1), 1) := by decide +kernel
theorem dX8_families_79 : decode cX8_families 79 = .ok (.goto 5, 3) := by decide +kernel
theorem dX8_families_82 : decode cX8_families 82 = .ok (.iload 5, 2) := by decide +kernel
theorem dX8_families_84 : decode cX8_families 84 = .ok (.iastore, 1) := by decide +kernel
theorem dX8_families_85 : decode cX8_families 85 = .ok (.iconst 0, 1) := by decide +kernel
theorem dX8_families_86 : decode cX8_families 86 = .ok (.istore 6, 2) := by decide +kernel
theorem dX8_families_88 : decode cX8_families 88 = .ok (.iload 6, 2) := by decide +kernel
theorem dX8_families_90 : decode cX8_families 90 = .ok (.iload 5, 2) := by decide +kernel
theorem dX8_families_92 : decode cX8_families 92 = .ok (.if_icmp .ge 58, 3) := by decide +kernel
theorem dX8_families_95 : decode cX8_families 95 = .ok (.aload 4, 2) := by decide +kernel
theorem dX8_families_97 : decode cX8_families 97 = .ok (.bipush 20, 2) := by decide +kernel
theorem dX8_families_99 : decode cX8_families 99 = .ok (.iload 5, 2) := by decide +kernel
theorem dX8_families_101 : decode cX8_families 101 = .ok (.imul, 1) := by decide +kernel
theorem dX8_families_102 : decode cX8_families 102 = .ok (.iload 6, 2) := by decide +kernel
theorem dX8_families_104 : decode cX8_families 104 = .ok (.iadd, 1) := by decide +kernel
theorem dX8_families_105 : decode cX8_families 105 = .ok (.aload_n 0, 1) := by decide +kernel
theorem dX8_families_106 : decode cX8_families 106 = .ok (.iload 5, 2) := by decide +kernel
theorem dX8_families_108 : decode cX8_families 108 = .ok (.iload_n 3, 1) := by decide +kernel
theorem dX8_families_109 : decode cX8_families 109 = .ok (.invokevirtual 168, 3) := by decide +kernel
theorem dX8_families_112 : decode cX8_families 112 = .ok (.ifCond .ne 30, 3) := by decide +kernel
theorem dX8_families_115 : decode cX8_families 115 = .ok (.aload_n 0, 1) := by decide +kernel
theorem dX8_families_116 : decode cX8_families 116 = .ok (.iload 6, 2) := by decide +kernel
theorem dX8_families_118 : decode cX8_families 118 = .ok (.iload_n 3, 1) := by decide +kernel
theorem dX8_families_119 : decode cX8_families 119 = .ok (.invokevirtual 168, 3) := by decide +kernel
theorem dX8_families_122 : decode cX8_families 122 = .ok (.ifCond .ne 20, 3) := by decide +kernel
theorem dX8_families_125 : decode cX8_families 125 = .ok (.aload_n 0, 1) := by decide +kernel
theorem dX8_families_126 : decode cX8_families 126 = .ok (.iload 5, 2) := by decide +kernel
theorem dX8_families_128 : decode cX8_families 128 = .ok (.iload 6, 2) := by decide +kernel
theorem dX8_families_130 : decode cX8_families 130 = .ok (.iload_n 3, 1) := by decide +kernel
theorem dX8_families_131 : decode cX8_families 131 = .ok (.invokevirtual 159, 3) := by decide +kernel
theorem dX8_families_134 : decode cX8_families 134 = .ok (.iload_n 2, 1) := by decide +kernel
theorem dX8_families_135 : decode cX8_families 135 = .ok (.if_icmp .gt 7, 3) := by decide +kernel
theorem dX8_families_138 : decode cX8_families 138 = .ok (.iconst 1, 1) := by decide +kernel
theorem dX8_families_139 : decode cX8_families 139 = .ok (.goto 4, 3) := by decide +kernel
theorem dX8_families_142 : decode cX8_families 142 = .ok (.iconst 0, 1) := by decide +kernel
theorem dX8_families_143 : decode cX8_families 143 = .ok (.bastore, 1) := by decide +kernel
theorem dX8_families_144 : decode cX8_families 144 = .ok (.iinc 6 1, 3) := by decide +kernel
theorem dX8_families_147 : decode cX8_families 147 = .ok (.goto (-59), 3) := by decide +kernel
theorem dX8_families_150 : decode cX8_families 150 = .ok (.iinc 5 1, 3) := by decide +kernel
theorem dX8_families_153 : decode cX8_families 153 = .ok (.goto (-100), 3) := by decide +kernel
theorem dX8_families_156 : decode cX8_families 156 = .ok (.iconst 1, 1) := by decide +kernel
theorem dX8_families_157 : decode cX8_families 157 = .ok (.istore 5, 2) := by decide +kernel
theorem dX8_families_159 : decode cX8_families 159 = .ok (.iload 5, 2) := by decide +kernel
theorem dX8_families_161 : decode cX8_families 161 = .ok (.ifCond .eq 117, 3) := by decide +kernel
theorem dX8_families_164 : decode cX8_families 164 = .ok (.iconst 0, 1) := by decide +kernel
theorem dX8_families_165 : decode cX8_families 165 = .ok (.istore 5, 2) := by decide +kernel
theorem dX8_families_167 : decode cX8_families 167 = .ok (.iconst 0, 1) := by decide +kernel
theorem dX8_families_168 : decode cX8_families 168 = .ok (.istore 6, 2) := by decide +kernel
theorem dX8_families_170 : decode cX8_families 170 = .ok (.iload 6, 2) := by decide +kernel
theorem dX8_families_172 : decode cX8_families 172 = .ok (.aload_n 0, 1) := by decide +kernel
theorem dX8_families_173 : decode cX8_families 173 = .ok (.getfield 86, 3) := by decide +kernel
theorem dX8_families_176 : decode cX8_families 176 = .ok (.if_icmp .ge 99, 3) := by decide +kernel
theorem dX8_families_179 : decode cX8_families 179 = .ok (.iconst 0, 1) := by decide +kernel
theorem dX8_families_180 : decode cX8_families 180 = .ok (.istore 7, 2) := by decide +kernel
theorem dX8_families_182 : decode cX8_families 182 = .ok (.iload 7, 2) := by decide +kernel
theorem dX8_families_184 : decode cX8_families 184 = .ok (.iload 6, 2) := by decide +kernel
theorem dX8_families_186 : decode cX8_families 186 = .ok (.if_icmp .ge 83, 3) := by decide +kernel
theorem dX8_families_189 : decode cX8_families 189 = .ok (.aload 4, 2) := by decide +kernel
theorem dX8_families_191 : decode cX8_families 191 = .ok (.bipush 20, 2) := by decide +kernel
theorem dX8_families_193 : decode cX8_families 193 = .ok (.iload 6, 2) := by decide +kernel
theorem dX8_families_195 : decode cX8_families 195 = .ok (.imul, 1) := by decide +kernel
theorem dX8_families_196 : decode cX8_families 196 = .ok (.iload 7, 2) := by decide +kernel
theorem dX8_families_198 : decode cX8_families 198 = .ok (.iadd, 1) := by decide +kernel
theorem dX8_families_199 : decode cX8_families 199 = .ok (.baload, 1) := by decide +kernel
theorem dX8_families_200 : decode cX8_families 200 = .ok (.ifCond .eq 63, 3) := by decide +kernel
theorem dX8_families_203 : decode cX8_families 203 = .ok (.aload_n 0, 1) := by decide +kernel
theorem dX8_families_204 : decode cX8_families 204 = .ok (.getfield 79, 3) := by decide +kernel
theorem dX8_families_207 : decode cX8_families 207 = .ok (.iload 6, 2) := by decide +kernel
theorem dX8_families_209 : decode cX8_families 209 = .ok (.iaload, 1) := by decide +kernel
theorem dX8_families_210 : decode cX8_families 210 = .ok (.aload_n 0, 1) := by decide +kernel
theorem dX8_families_211 : decode cX8_families 211 = .ok (.getfield 79, 3) := by decide +kernel
theorem dX8_families_214 : decode cX8_families 214 = .ok (.iload 7, 2) := by decide +kernel
theorem dX8_families_216 : decode cX8_families 216 = .ok (.iaload, 1) := by decide +kernel
theorem dX8_families_217 : decode cX8_families 217 = .ok (.if_icmp .ne 6, 3) := by decide +kernel
theorem dX8_families_220 : decode cX8_families 220 = .ok (.goto 43, 3) := by decide +kernel
theorem dX8_families_223 : decode cX8_families 223 = .ok (.aload_n 0, 1) := by decide +kernel
theorem dX8_families_224 : decode cX8_families 224 = .ok (.getfield 79, 3) := by decide +kernel
theorem dX8_families_227 : decode cX8_families 227 = .ok (.iload 6, 2) := by decide +kernel
theorem dX8_families_229 : decode cX8_families 229 = .ok (.iaload, 1) := by decide +kernel
theorem dX8_families_230 : decode cX8_families 230 = .ok (.aload_n 0, 1) := by decide +kernel
theorem dX8_families_231 : decode cX8_families 231 = .ok (.getfield 79, 3) := by decide +kernel
theorem dX8_families_234 : decode cX8_families 234 = .ok (.iload 7, 2) := by decide +kernel
theorem dX8_families_236 : decode cX8_families 236 = .ok (.iaload, 1) := by decide +kernel
theorem dX8_families_237 : decode cX8_families 237 = .ok (.invokestatic 129, 3) := by decide +kernel
theorem dX8_families_240 : decode cX8_families 240 = .ok (.istore 8, 2) := by decide +kernel
theorem dX8_families_242 : decode cX8_families 242 = .ok (.aload_n 0, 1) := by decide +kernel
theorem dX8_families_243 : decode cX8_families 243 = .ok (.getfield 79, 3) := by decide +kernel
theorem dX8_families_246 : decode cX8_families 246 = .ok (.iload 6, 2) := by decide +kernel
theorem dX8_families_248 : decode cX8_families 248 = .ok (.iload 8, 2) := by decide +kernel
theorem dX8_families_250 : decode cX8_families 250 = .ok (.iastore, 1) := by decide +kernel
theorem dX8_families_251 : decode cX8_families 251 = .ok (.aload_n 0, 1) := by decide +kernel
theorem dX8_families_252 : decode cX8_families 252 = .ok (.getfield 79, 3) := by decide +kernel
theorem dX8_families_255 : decode cX8_families 255 = .ok (.iload 7, 2) := by decide +kernel
theorem dX8_families_257 : decode cX8_families 257 = .ok (.iload 8, 2) := by decide +kernel
theorem dX8_families_259 : decode cX8_families 259 = .ok (.iastore, 1) := by decide +kernel
theorem dX8_families_260 : decode cX8_families 260 = .ok (.iconst 1, 1) := by decide +kernel
theorem dX8_families_261 : decode cX8_families 261 = .ok (.istore 5, 2) := by decide +kernel
theorem dX8_families_263 : decode cX8_families 263 = .ok (.iinc 7 1, 3) := by decide +kernel
theorem dX8_families_266 : decode cX8_families 266 = .ok (.goto (-84), 3) := by decide +kernel
theorem dX8_families_269 : decode cX8_families 269 = .ok (.iinc 6 1, 3) := by decide +kernel
theorem dX8_families_272 : decode cX8_families 272 = .ok (.goto (-102), 3) := by decide +kernel
theorem dX8_families_275 : decode cX8_families 275 = .ok (.goto (-116), 3) := by decide +kernel
theorem dX8_families_278 : decode cX8_families 278 = .ok (.iconst 1, 1) := by decide +kernel
theorem dX8_families_279 : decode cX8_families 279 = .ok (.ireturn, 1) := by decide +kernel
theorem dX8_family_0 : decode cX8_family 0 = .ok (.aload_n 0, 1) := by decide +kernel
theorem dX8_family_1 : decode cX8_family 1 = .ok (.iload_n 1, 1) := by decide +kernel
theorem dX8_family_2 : decode cX8_family 2 = .ok (.iload_n 2, 1) := by decide +kernel
theorem dX8_family_3 : decode cX8_family 3 = .ok (.iload_n 3, 1) := by decide +kernel
theorem dX8_family_4 : decode cX8_family 4 = .ok (.invokevirtual 171, 3) := by decide +kernel
theorem dX8_family_7 : decode cX8_family 7 = .ok (.ifCond .eq 12, 3) := by decide +kernel
theorem dX8_family_10 : decode cX8_family 10 = .ok (.aload_n 0, 1) := by decide +kernel
theorem dX8_family_11 : decode cX8_family 11 = .ok (.getfield 79, 3) := by decide +kernel
theorem dX8_family_14 : decode cX8_family 14 = .ok (.iload_n 1, 1) := by decide +kernel
theorem dX8_family_15 : decode cX8_family 15 = .ok (.iaload, 1) := by decide +kernel
theorem dX8_family_16 : decode cX8_family 16 = .ok (.goto 4, 3) := by decide +kernel
theorem dX8_family_19 : decode cX8_family 19 = .ok (.iconst (-1), 1) := by decide +kernel
theorem dX8_family_20 : decode cX8_family 20 = .ok (.ireturn, 1) := by decide +kernel
theorem dX8_kin_0 : decode cX8_kin 0 = .ok (.aload_n 0, 1) := by decide +kernel
theorem dX8_kin_1 : decode cX8_kin 1 = .ok (.iload_n 1, 1) := by decide +kernel
theorem dX8_kin_2 : decode cX8_kin 2 = .ok (.iload_n 2, 1) := by decide +kernel
theorem dX8_kin_3 : decode cX8_kin 3 = .ok (.iload_n 3, 1) := by decide +kernel
theorem dX8_kin_4 : decode cX8_kin 4 = .ok (.invokevirtual 171, 3) := by decide +kernel
theorem dX8_kin_7 : decode cX8_kin 7 = .ok (.ifCond .ne 5, 3) := by decide +kernel
theorem dX8_kin_10 : decode cX8_kin 10 = .ok (.iconst (-1), 1) := by decide +kernel
theorem dX8_kin_11 : decode cX8_kin 11 = .ok (.ireturn, 1) := by decide +kernel
theorem dX8_kin_12 : decode cX8_kin 12 = .ok (.iconst 0, 1) := by decide +kernel
theorem dX8_kin_13 : decode cX8_kin 13 = .ok (.istore 4, 2) := by decide +kernel
theorem dX8_kin_15 : decode cX8_kin 15 = .ok (.iconst 0, 1) := by decide +kernel
theorem dX8_kin_16 : decode cX8_kin 16 = .ok (.istore 5, 2) := by decide +kernel
theorem dX8_kin_18 : decode cX8_kin 18 = .ok (.iload 5, 2) := by decide +kernel
theorem dX8_kin_20 : decode cX8_kin 20 = .ok (.aload_n 0, 1) := by decide +kernel
theorem dX8_kin_21 : decode cX8_kin 21 = .ok (.getfield 86, 3) := by decide +kernel
theorem dX8_kin_24 : decode cX8_kin 24 = .ok (.if_icmp .ge 35, 3) := by decide +kernel
theorem dX8_kin_27 : decode cX8_kin 27 = .ok (.iload 4, 2) := by decide +kernel
theorem dX8_kin_29 : decode cX8_kin 29 = .ok (.aload_n 0, 1) := by decide +kernel
theorem dX8_kin_30 : decode cX8_kin 30 = .ok (.getfield 79, 3) := by decide +kernel
theorem dX8_kin_33 : decode cX8_kin 33 = .ok (.iload 5, 2) := by decide +kernel
theorem dX8_kin_35 : decode cX8_kin 35 = .ok (.iaload, 1) := by decide +kernel
theorem dX8_kin_36 : decode cX8_kin 36 = .ok (.aload_n 0, 1) := by decide +kernel
theorem dX8_kin_37 : decode cX8_kin 37 = .ok (.getfield 79, 3) := by decide +kernel
theorem dX8_kin_40 : decode cX8_kin 40 = .ok (.iload_n 1, 1) := by decide +kernel
theorem dX8_kin_41 : decode cX8_kin 41 = .ok (.iaload, 1) := by decide +kernel
theorem dX8_kin_42 : decode cX8_kin 42 = .ok (.if_icmp .ne 7, 3) := by decide +kernel
theorem dX8_kin_45 : decode cX8_kin 45 = .ok (.iconst 1, 1) := by decide +kernel
theorem dX8_kin_46 : decode cX8_kin 46 = .ok (.goto 4, 3) := by decide +kernel
theorem dX8_kin_49 : decode cX8_kin 49 = .ok (.iconst 0, 1) := by decide +kernel
theorem dX8_kin_50 : decode cX8_kin 50 = .ok (.iadd, 1) := by decide +kernel
theorem dX8_kin_51 : decode cX8_kin 51 = .ok (.istore 4, 2) := by decide +kernel
theorem dX8_kin_53 : decode cX8_kin 53 = .ok (.iinc 5 1, 3) := by decide +kernel
theorem dX8_kin_56 : decode cX8_kin 56 = .ok (.goto (-38), 3) := by decide +kernel
theorem dX8_kin_59 : decode cX8_kin 59 = .ok (.iload 4, 2) := by decide +kernel
theorem dX8_kin_61 : decode cX8_kin 61 = .ok (.ireturn, 1) := by decide +kernel
theorem dX8_sung_0 : decode cX8_sung 0 = .ok (.aload_n 0, 1) := by decide +kernel
theorem dX8_sung_1 : decode cX8_sung 1 = .ok (.iload_n 1, 1) := by decide +kernel
theorem dX8_sung_2 : decode cX8_sung 2 = .ok (.iload_n 2, 1) := by decide +kernel
theorem dX8_sung_3 : decode cX8_sung 3 = .ok (.iload_n 3, 1) := by decide +kernel
theorem dX8_sung_4 : decode cX8_sung 4 = .ok (.invokevirtual 171, 3) := by decide +kernel
theorem dX8_sung_7 : decode cX8_sung 7 = .ok (.ifCond .ne 5, 3) := by decide +kernel
theorem dX8_sung_10 : decode cX8_sung 10 = .ok (.iconst (-1), 1) := by decide +kernel
theorem dX8_sung_11 : decode cX8_sung 11 = .ok (.ireturn, 1) := by decide +kernel
theorem dX8_sung_12 : decode cX8_sung 12 = .ok (.iconst 0, 1) := by decide +kernel
theorem dX8_sung_13 : decode cX8_sung 13 = .ok (.istore 4, 2) := by decide +kernel
theorem dX8_sung_15 : decode cX8_sung 15 = .ok (.iconst 0, 1) := by decide +kernel
theorem dX8_sung_16 : decode cX8_sung 16 = .ok (.istore 5, 2) := by decide +kernel
theorem dX8_sung_18 : decode cX8_sung 18 = .ok (.iload 5, 2) := by decide +kernel
theorem dX8_sung_20 : decode cX8_sung 20 = .ok (.aload_n 0, 1) := by decide +kernel
theorem dX8_sung_21 : decode cX8_sung 21 = .ok (.getfield 86, 3) := by decide +kernel
theorem dX8_sung_24 : decode cX8_sung 24 = .ok (.if_icmp .ge 43, 3) := by decide +kernel
theorem dX8_sung_27 : decode cX8_sung 27 = .ok (.iload 4, 2) := by decide +kernel
theorem dX8_sung_29 : decode cX8_sung 29 = .ok (.aload_n 0, 1) := by decide +kernel
theorem dX8_sung_30 : decode cX8_sung 30 = .ok (.getfield 79, 3) := by decide +kernel
theorem dX8_sung_33 : decode cX8_sung 33 = .ok (.iload 5, 2) := by decide +kernel
theorem dX8_sung_35 : decode cX8_sung 35 = .ok (.iaload, 1) := by decide +kernel
theorem dX8_sung_36 : decode cX8_sung 36 = .ok (.aload_n 0, 1) := by decide +kernel
theorem dX8_sung_37 : decode cX8_sung 37 = .ok (.getfield 79, 3) := by decide +kernel
theorem dX8_sung_40 : decode cX8_sung 40 = .ok (.iload_n 1, 1) := by decide +kernel
theorem dX8_sung_41 : decode cX8_sung 41 = .ok (.iaload, 1) := by decide +kernel
theorem dX8_sung_42 : decode cX8_sung 42 = .ok (.if_icmp .ne 15, 3) := by decide +kernel
theorem dX8_sung_45 : decode cX8_sung 45 = .ok (.iconst 1, 1) := by decide +kernel
theorem dX8_sung_46 : decode cX8_sung 46 = .ok (.aload_n 0, 1) := by decide +kernel
theorem dX8_sung_47 : decode cX8_sung 47 = .ok (.getfield 16, 3) := by decide +kernel
theorem dX8_sung_50 : decode cX8_sung 50 = .ok (.iload 5, 2) := by decide +kernel
theorem dX8_sung_52 : decode cX8_sung 52 = .ok (.iaload, 1) := by decide +kernel
theorem dX8_sung_53 : decode cX8_sung 53 = .ok (.ishl, 1) := by decide +kernel
theorem dX8_sung_54 : decode cX8_sung 54 = .ok (.goto 4, 3) := by decide +kernel
theorem dX8_sung_57 : decode cX8_sung 57 = .ok (.iconst 0, 1) := by decide +kernel
theorem dX8_sung_58 : decode cX8_sung 58 = .ok (.ior, 1) := by decide +kernel
theorem dX8_sung_59 : decode cX8_sung 59 = .ok (.istore 4, 2) := by decide +kernel
theorem dX8_sung_61 : decode cX8_sung 61 = .ok (.iinc 5 1, 3) := by decide +kernel
theorem dX8_sung_64 : decode cX8_sung 64 = .ok (.goto (-46), 3) := by decide +kernel
theorem dX8_sung_67 : decode cX8_sung 67 = .ok (.iload 4, 2) := by decide +kernel
theorem dX8_sung_69 : decode cX8_sung 69 = .ok (.ireturn, 1) := by decide +kernel
theorem dX8_isEarlier_0 : decode cX8_isEarlier 0 = .ok (.aload_n 0, 1) := by decide +kernel
theorem dX8_isEarlier_1 : decode cX8_isEarlier 1 = .ok (.getfield 13, 3) := by decide +kernel
theorem dX8_isEarlier_4 : decode cX8_isEarlier 4 = .ok (.iload_n 1, 1) := by decide +kernel
theorem dX8_isEarlier_5 : decode cX8_isEarlier 5 = .ok (.iaload, 1) := by decide +kernel
theorem dX8_isEarlier_6 : decode cX8_isEarlier 6 = .ok (.aload_n 0, 1) := by decide +kernel
theorem dX8_isEarlier_7 : decode cX8_isEarlier 7 = .ok (.getfield 13, 3) := by decide +kernel
theorem dX8_isEarlier_10 : decode cX8_isEarlier 10 = .ok (.iload_n 2, 1) := by decide +kernel
theorem dX8_isEarlier_11 : decode cX8_isEarlier 11 = .ok (.iaload, 1) := by decide +kernel
theorem dX8_isEarlier_12 : decode cX8_isEarlier 12 = .ok (.if_icmp .lt 23, 3) := by decide +kernel
theorem dX8_isEarlier_15 : decode cX8_isEarlier 15 = .ok (.aload_n 0, 1) := by decide +kernel
theorem dX8_isEarlier_16 : decode cX8_isEarlier 16 = .ok (.getfield 13, 3) := by decide +kernel
theorem dX8_isEarlier_19 : decode cX8_isEarlier 19 = .ok (.iload_n 1, 1) := by decide +kernel
theorem dX8_isEarlier_20 : decode cX8_isEarlier 20 = .ok (.iaload, 1) := by decide +kernel
theorem dX8_isEarlier_21 : decode cX8_isEarlier 21 = .ok (.aload_n 0, 1) := by decide +kernel
theorem dX8_isEarlier_22 : decode cX8_isEarlier 22 = .ok (.getfield 13, 3) := by decide +kernel
theorem dX8_isEarlier_25 : decode cX8_isEarlier 25 = .ok (.iload_n 2, 1) := by decide +kernel
theorem dX8_isEarlier_26 : decode cX8_isEarlier 26 = .ok (.iaload, 1) := by decide +kernel
theorem dX8_isEarlier_27 : decode cX8_isEarlier 27 = .ok (.if_icmp .ne 12, 3) := by decide +kernel
theorem dX8_isEarlier_30 : decode cX8_isEarlier 30 = .ok (.iload_n 1, 1) := by decide +kernel
theorem dX8_isEarlier_31 : decode cX8_isEarlier 31 = .ok (.iload_n 2, 1) := by decide +kernel
theorem dX8_isEarlier_32 : decode cX8_isEarlier 32 = .ok (.if_icmp .ge 7, 3) := by decide +kernel
theorem dX8_isEarlier_35 : decode cX8_isEarlier 35 = .ok (.iconst 1, 1) := by decide +kernel
theorem dX8_isEarlier_36 : decode cX8_isEarlier 36 = .ok (.goto 4, 3) := by decide +kernel
theorem dX8_isEarlier_39 : decode cX8_isEarlier 39 = .ok (.iconst 0, 1) := by decide +kernel
theorem dX8_isEarlier_40 : decode cX8_isEarlier 40 = .ok (.ireturn, 1) := by decide +kernel
theorem dX8_sourceOf_0 : decode cX8_sourceOf 0 = .ok (.iconst (-1), 1) := by decide +kernel
theorem dX8_sourceOf_1 : decode cX8_sourceOf 1 = .ok (.istore_n 3, 1) := by decide +kernel
theorem dX8_sourceOf_2 : decode cX8_sourceOf 2 = .ok (.iconst 0, 1) := by decide +kernel
theorem dX8_sourceOf_3 : decode cX8_sourceOf 3 = .ok (.istore 4, 2) := by decide +kernel
theorem dX8_sourceOf_5 : decode cX8_sourceOf 5 = .ok (.iload 4, 2) := by decide +kernel
theorem dX8_sourceOf_7 : decode cX8_sourceOf 7 = .ok (.aload_n 0, 1) := by decide +kernel
theorem dX8_sourceOf_8 : decode cX8_sourceOf 8 = .ok (.getfield 86, 3) := by decide +kernel
theorem dX8_sourceOf_11 : decode cX8_sourceOf 11 = .ok (.if_icmp .ge 93, 3) := by decide +kernel
theorem dX8_sourceOf_14 : decode cX8_sourceOf 14 = .ok (.iload 4, 2) := by decide +kernel
theorem dX8_sourceOf_16 : decode cX8_sourceOf 16 = .ok (.iload_n 1, 1) := by decide +kernel
theorem dX8_sourceOf_17 : decode cX8_sourceOf 17 = .ok (.if_icmp .eq 81, 3) := by decide +kernel
theorem dX8_sourceOf_20 : decode cX8_sourceOf 20 = .ok (.aload_n 0, 1) := by decide +kernel
theorem dX8_sourceOf_21 : decode cX8_sourceOf 21 = .ok (.iload 4, 2) := by decide +kernel
theorem dX8_sourceOf_23 : decode cX8_sourceOf 23 = .ok (.iload_n 1, 1) := by decide +kernel
theorem dX8_sourceOf_24 : decode cX8_sourceOf 24 = .ok (.invokevirtual 174, 3) := by decide +kernel
theorem dX8_sourceOf_27 : decode cX8_sourceOf 27 = .ok (.ifCond .eq 71, 3) := by decide +kernel
theorem dX8_sourceOf_30 : decode cX8_sourceOf 30 = .ok (.aload_n 0, 1) := by decide +kernel
theorem dX8_sourceOf_31 : decode cX8_sourceOf 31 = .ok (.iload 4, 2) := by decide +kernel
theorem dX8_sourceOf_33 : decode cX8_sourceOf 33 = .ok (.iload_n 2, 1) := by decide +kernel
theorem dX8_sourceOf_34 : decode cX8_sourceOf 34 = .ok (.invokevirtual 168, 3) := by decide +kernel
theorem dX8_sourceOf_37 : decode cX8_sourceOf 37 = .ok (.ifCond .eq 6, 3) := by decide +kernel
theorem dX8_sourceOf_40 : decode cX8_sourceOf 40 = .ok (.goto 58, 3) := by decide +kernel
theorem dX8_sourceOf_43 : decode cX8_sourceOf 43 = .ok (.aload_n 0, 1) := by decide +kernel
theorem dX8_sourceOf_44 : decode cX8_sourceOf 44 = .ok (.iload_n 1, 1) := by decide +kernel
theorem dX8_sourceOf_45 : decode cX8_sourceOf 45 = .ok (.iload 4, 2) := by decide +kernel
theorem dX8_sourceOf_47 : decode cX8_sourceOf 47 = .ok (.iload_n 2, 1) := by decide +kernel
theorem dX8_sourceOf_48 : decode cX8_sourceOf 48 = .ok (.invokevirtual 159, 3) := by decide +kernel
theorem dX8_sourceOf_51 : decode cX8_sourceOf 51 = .ok (.istore 5, 2) := by decide +kernel
theorem dX8_sourceOf_53 : decode cX8_sourceOf 53 = .ok (.iload_n 3, 1) := by decide +kernel
theorem dX8_sourceOf_54 : decode cX8_sourceOf 54 = .ok (.iconst (-1), 1) := by decide +kernel
theorem dX8_sourceOf_55 : decode cX8_sourceOf 55 = .ok (.if_icmp .eq 34, 3) := by decide +kernel
theorem dX8_sourceOf_58 : decode cX8_sourceOf 58 = .ok (.iload 5, 2) := by decide +kernel
theorem dX8_sourceOf_60 : decode cX8_sourceOf 60 = .ok (.aload_n 0, 1) := by decide +kernel
theorem dX8_sourceOf_61 : decode cX8_sourceOf 61 = .ok (.getfield 177, 3) := by decide +kernel
theorem dX8_sourceOf_64 : decode cX8_sourceOf 64 = .ok (.if_icmp .gt 34, 3) := by decide +kernel
theorem dX8_sourceOf_67 : decode cX8_sourceOf 67 = .ok (.iload 5, 2) := by decide +kernel
theorem dX8_sourceOf_69 : decode cX8_sourceOf 69 = .ok (.aload_n 0, 1) := by decide +kernel
theorem dX8_sourceOf_70 : decode cX8_sourceOf 70 = .ok (.getfield 177, 3) := by decide +kernel
theorem dX8_sourceOf_73 : decode cX8_sourceOf 73 = .ok (.if_icmp .ne 16, 3) := by decide +kernel
theorem dX8_sourceOf_76 : decode cX8_sourceOf 76 = .ok (.aload_n 0, 1) := by decide +kernel
theorem dX8_sourceOf_77 : decode cX8_sourceOf 77 = .ok (.iload 4, 2) := by decide +kernel
theorem dX8_sourceOf_79 : decode cX8_sourceOf 79 = .ok (.iload_n 3, 1) := by decide +kernel
theorem dX8_sourceOf_80 : decode cX8_sourceOf 80 = .ok (.invokevirtual 174, 3) := by decide +kernel
theorem dX8_sourceOf_83 : decode cX8_sourceOf 83 = .ok (.ifCond .ne 6, 3) := by decide +kernel
theorem dX8_sourceOf_86 : decode cX8_sourceOf 86 = .ok (.goto 12, 3) := by decide +kernel
theorem dX8_sourceOf_89 : decode cX8_sourceOf 89 = .ok (.iload 4, 2) := by decide +kernel
theorem dX8_sourceOf_91 : decode cX8_sourceOf 91 = .ok (.istore_n 3, 1) := by decide +kernel
theorem dX8_sourceOf_92 : decode cX8_sourceOf 92 = .ok (.aload_n 0, 1) := by decide +kernel
theorem dX8_sourceOf_93 : decode cX8_sourceOf 93 = .ok (.iload 5, 2) := by decide +kernel
theorem dX8_sourceOf_95 : decode cX8_sourceOf 95 = .ok (.putfield 177, 3) := by decide +kernel
theorem dX8_sourceOf_98 : decode cX8_sourceOf 98 = .ok (.iinc 4 1, 3) := by decide +kernel
theorem dX8_sourceOf_101 : decode cX8_sourceOf 101 = .ok (.goto (-96), 3) := by decide +kernel
theorem dX8_sourceOf_104 : decode cX8_sourceOf 104 = .ok (.iload_n 3, 1) := by decide +kernel
theorem dX8_sourceOf_105 : decode cX8_sourceOf 105 = .ok (.iconst (-1), 1) := by decide +kernel
theorem dX8_sourceOf_106 : decode cX8_sourceOf 106 = .ok (.if_icmp .eq 20, 3) := by decide +kernel
theorem dX8_sourceOf_109 : decode cX8_sourceOf 109 = .ok (.aload_n 0, 1) := by decide +kernel
theorem dX8_sourceOf_110 : decode cX8_sourceOf 110 = .ok (.getfield 177, 3) := by decide +kernel
theorem dX8_sourceOf_113 : decode cX8_sourceOf 113 = .ok (.aload_n 0, 1) := by decide +kernel
theorem dX8_sourceOf_114 : decode cX8_sourceOf 114 = .ok (.getfield 52, 3) := by decide +kernel
theorem dX8_sourceOf_117 : decode cX8_sourceOf 117 = .ok (.iconst 4, 1) := by decide +kernel
theorem dX8_sourceOf_118 : decode cX8_sourceOf 118 = .ok (.iaload, 1) := by decide +kernel
theorem dX8_sourceOf_119 : decode cX8_sourceOf 119 = .ok (.if_icmp .ge 7, 3) := by decide +kernel
theorem dX8_sourceOf_122 : decode cX8_sourceOf 122 = .ok (.iload_n 3, 1) := by decide +kernel
theorem dX8_sourceOf_123 : decode cX8_sourceOf 123 = .ok (.goto 4, 3) := by decide +kernel
theorem dX8_sourceOf_126 : decode cX8_sourceOf 126 = .ok (.iconst (-1), 1) := by decide +kernel
theorem dX8_sourceOf_127 : decode cX8_sourceOf 127 = .ok (.ireturn, 1) := by decide +kernel
theorem dX8_isAsked_0 : decode cX8_isAsked 0 = .ok (.aload_n 0, 1) := by decide +kernel
theorem dX8_isAsked_1 : decode cX8_isAsked 1 = .ok (.iconst 0, 1) := by decide +kernel
theorem dX8_isAsked_2 : decode cX8_isAsked 2 = .ok (.putfield 82, 3) := by decide +kernel
theorem dX8_isAsked_5 : decode cX8_isAsked 5 = .ok (.aload_n 0, 1) := by decide +kernel
theorem dX8_isAsked_6 : decode cX8_isAsked 6 = .ok (.iload_n 1, 1) := by decide +kernel
theorem dX8_isAsked_7 : decode cX8_isAsked 7 = .ok (.invokevirtual 96, 3) := by decide +kernel
theorem dX8_isAsked_10 : decode cX8_isAsked 10 = .ok (.ifCond .eq 24, 3) := by decide +kernel
theorem dX8_isAsked_13 : decode cX8_isAsked 13 = .ok (.aload_n 0, 1) := by decide +kernel
theorem dX8_isAsked_14 : decode cX8_isAsked 14 = .ok (.iload_n 2, 1) := by decide +kernel
theorem dX8_isAsked_15 : decode cX8_isAsked 15 = .ok (.invokevirtual 110, 3) := by decide +kernel
theorem dX8_isAsked_18 : decode cX8_isAsked 18 = .ok (.ifCond .eq 16, 3) := by decide +kernel
theorem dX8_isAsked_21 : decode cX8_isAsked 21 = .ok (.aload_n 0, 1) := by decide +kernel
theorem dX8_isAsked_22 : decode cX8_isAsked 22 = .ok (.iload_n 1, 1) := by decide +kernel
theorem dX8_isAsked_23 : decode cX8_isAsked 23 = .ok (.iload_n 2, 1) := by decide +kernel
theorem dX8_isAsked_24 : decode cX8_isAsked 24 = .ok (.invokevirtual 168, 3) := by decide +kernel
theorem dX8_isAsked_27 : decode cX8_isAsked 27 = .ok (.ifCond .ne 7, 3) := by decide +kernel
theorem dX8_isAsked_30 : decode cX8_isAsked 30 = .ok (.iconst 1, 1) := by decide +kernel
theorem dX8_isAsked_31 : decode cX8_isAsked 31 = .ok (.goto 4, 3) := by decide +kernel
theorem dX8_isAsked_34 : decode cX8_isAsked 34 = .ok (.iconst 0, 1) := by decide +kernel
theorem dX8_isAsked_35 : decode cX8_isAsked 35 = .ok (.ireturn, 1) := by decide +kernel
theorem dX8_source_0 : decode cX8_source 0 = .ok (.aload_n 0, 1) := by decide +kernel
theorem dX8_source_1 : decode cX8_source 1 = .ok (.iload_n 1, 1) := by decide +kernel
theorem dX8_source_2 : decode cX8_source 2 = .ok (.iload_n 2, 1) := by decide +kernel
theorem dX8_source_3 : decode cX8_source 3 = .ok (.invokevirtual 180, 3) := by decide +kernel
theorem dX8_source_6 : decode cX8_source 6 = .ok (.ifCond .eq 12, 3) := by decide +kernel
theorem dX8_source_9 : decode cX8_source 9 = .ok (.aload_n 0, 1) := by decide +kernel
theorem dX8_source_10 : decode cX8_source 10 = .ok (.iload_n 1, 1) := by decide +kernel
theorem dX8_source_11 : decode cX8_source 11 = .ok (.iload_n 2, 1) := by decide +kernel
theorem dX8_source_12 : decode cX8_source 12 = .ok (.invokevirtual 183, 3) := by decide +kernel
theorem dX8_source_15 : decode cX8_source 15 = .ok (.goto 4, 3) := by decide +kernel
theorem dX8_source_18 : decode cX8_source 18 = .ok (.iconst (-1), 1) := by decide +kernel
theorem dX8_source_19 : decode cX8_source 19 = .ok (.ireturn, 1) := by decide +kernel
theorem dX8_changesOf_0 : decode cX8_changesOf 0 = .ok (.aload_n 0, 1) := by decide +kernel
theorem dX8_changesOf_1 : decode cX8_changesOf 1 = .ok (.iload_n 1, 1) := by decide +kernel
theorem dX8_changesOf_2 : decode cX8_changesOf 2 = .ok (.iload_n 2, 1) := by decide +kernel
theorem dX8_changesOf_3 : decode cX8_changesOf 3 = .ok (.invokevirtual 183, 3) := by decide +kernel
theorem dX8_changesOf_6 : decode cX8_changesOf 6 = .ok (.iconst (-1), 1) := by decide +kernel
theorem dX8_changesOf_7 : decode cX8_changesOf 7 = .ok (.if_icmp .ne 12, 3) := by decide +kernel
theorem dX8_changesOf_10 : decode cX8_changesOf 10 = .ok (.aload_n 0, 1) := by decide +kernel
theorem dX8_changesOf_11 : decode cX8_changesOf 11 = .ok (.getfield 52, 3) := by decide +kernel
theorem dX8_changesOf_14 : decode cX8_changesOf 14 = .ok (.iconst 4, 1) := by decide +kernel
theorem dX8_changesOf_15 : decode cX8_changesOf 15 = .ok (.iaload, 1) := by decide +kernel
theorem dX8_changesOf_16 : decode cX8_changesOf 16 = .ok (.goto 7, 3) := by decide +kernel
theorem dX8_changesOf_19 : decode cX8_changesOf 19 = .ok (.aload_n 0, 1) := by decide +kernel
theorem dX8_changesOf_20 : decode cX8_changesOf 20 = .ok (.getfield 177, 3) := by decide +kernel
theorem dX8_changesOf_23 : decode cX8_changesOf 23 = .ok (.ireturn, 1) := by decide +kernel
theorem dX8_changes_0 : decode cX8_changes 0 = .ok (.aload_n 0, 1) := by decide +kernel
theorem dX8_changes_1 : decode cX8_changes 1 = .ok (.iload_n 1, 1) := by decide +kernel
theorem dX8_changes_2 : decode cX8_changes 2 = .ok (.iload_n 2, 1) := by decide +kernel
theorem dX8_changes_3 : decode cX8_changes 3 = .ok (.invokevirtual 180, 3) := by decide +kernel
theorem dX8_changes_6 : decode cX8_changes 6 = .ok (.ifCond .eq 12, 3) := by decide +kernel
theorem dX8_changes_9 : decode cX8_changes 9 = .ok (.aload_n 0, 1) := by decide +kernel
theorem dX8_changes_10 : decode cX8_changes 10 = .ok (.iload_n 1, 1) := by decide +kernel
theorem dX8_changes_11 : decode cX8_changes 11 = .ok (.iload_n 2, 1) := by decide +kernel
theorem dX8_changes_12 : decode cX8_changes 12 = .ok (.invokevirtual 186, 3) := by decide +kernel
theorem dX8_changes_15 : decode cX8_changes 15 = .ok (.goto 4, 3) := by decide +kernel
theorem dX8_changes_18 : decode cX8_changes 18 = .ok (.iconst (-1), 1) := by decide +kernel
theorem dX8_changes_19 : decode cX8_changes 19 = .ok (.ireturn, 1) := by decide +kernel
theorem dX8_all_0 : decode cX8_all 0 = .ok (.aload_n 0, 1) := by decide +kernel
theorem dX8_all_1 : decode cX8_all 1 = .ok (.iconst 0, 1) := by decide +kernel
theorem dX8_all_2 : decode cX8_all 2 = .ok (.putfield 82, 3) := by decide +kernel
theorem dX8_all_5 : decode cX8_all 5 = .ok (.aload_n 0, 1) := by decide +kernel
theorem dX8_all_6 : decode cX8_all 6 = .ok (.iload_n 1, 1) := by decide +kernel
theorem dX8_all_7 : decode cX8_all 7 = .ok (.invokevirtual 110, 3) := by decide +kernel
theorem dX8_all_10 : decode cX8_all 10 = .ok (.ifCond .ne 5, 3) := by decide +kernel
theorem dX8_all_13 : decode cX8_all 13 = .ok (.iconst (-1), 1) := by decide +kernel
theorem dX8_all_14 : decode cX8_all 14 = .ok (.ireturn, 1) := by decide +kernel
theorem dX8_all_15 : decode cX8_all 15 = .ok (.iconst 0, 1) := by decide +kernel
theorem dX8_all_16 : decode cX8_all 16 = .ok (.istore_n 2, 1) := by decide +kernel
theorem dX8_all_17 : decode cX8_all 17 = .ok (.iconst 0, 1) := by decide +kernel
theorem dX8_all_18 : decode cX8_all 18 = .ok (.istore_n 3, 1) := by decide +kernel
theorem dX8_all_19 : decode cX8_all 19 = .ok (.iload_n 3, 1) := by decide +kernel
theorem dX8_all_20 : decode cX8_all 20 = .ok (.aload_n 0, 1) := by decide +kernel
theorem dX8_all_21 : decode cX8_all 21 = .ok (.getfield 86, 3) := by decide +kernel
theorem dX8_all_24 : decode cX8_all 24 = .ok (.if_icmp .ge 31, 3) := by decide +kernel
theorem dX8_all_27 : decode cX8_all 27 = .ok (.iload_n 2, 1) := by decide +kernel
theorem dX8_all_28 : decode cX8_all 28 = .ok (.aload_n 0, 1) := by decide +kernel
theorem dX8_all_29 : decode cX8_all 29 = .ok (.iload_n 3, 1) := by decide +kernel
theorem dX8_all_30 : decode cX8_all 30 = .ok (.iload_n 1, 1) := by decide +kernel
theorem dX8_all_31 : decode cX8_all 31 = .ok (.invokevirtual 168, 3) := by decide +kernel
theorem dX8_all_34 : decode cX8_all 34 = .ok (.ifCond .eq 7, 3) := by decide +kernel
theorem dX8_all_37 : decode cX8_all 37 = .ok (.iconst 0, 1) := by decide +kernel
theorem dX8_all_38 : decode cX8_all 38 = .ok (.goto 9, 3) := by decide +kernel
theorem dX8_all_41 : decode cX8_all 41 = .ok (.aload_n 0, 1) := by decide +kernel
theorem dX8_all_42 : decode cX8_all 42 = .ok (.iload_n 3, 1) := by decide +kernel
theorem dX8_all_43 : decode cX8_all 43 = .ok (.iload_n 1, 1) := by decide +kernel
theorem dX8_all_44 : decode cX8_all 44 = .ok (.invokevirtual 186, 3) := by decide +kernel
theorem dX8_all_47 : decode cX8_all 47 = .ok (.iadd, 1) := by decide +kernel
theorem dX8_all_48 : decode cX8_all 48 = .ok (.istore_n 2, 1) := by decide +kernel
theorem dX8_all_49 : decode cX8_all 49 = .ok (.iinc 3 1, 3) := by decide +kernel
theorem dX8_all_52 : decode cX8_all 52 = .ok (.goto (-33), 3) := by decide +kernel
theorem dX8_all_55 : decode cX8_all 55 = .ok (.iload_n 2, 1) := by decide +kernel
theorem dX8_all_56 : decode cX8_all 56 = .ok (.ireturn, 1) := by decide +kernel
theorem dX8_doubt_0 : decode cX8_doubt 0 = .ok (.aload_n 0, 1) := by decide +kernel
theorem dX8_doubt_1 : decode cX8_doubt 1 = .ok (.iload_n 1, 1) := by decide +kernel
theorem dX8_doubt_2 : decode cX8_doubt 2 = .ok (.iload_n 3, 1) := by decide +kernel
theorem dX8_doubt_3 : decode cX8_doubt 3 = .ok (.invokevirtual 180, 3) := by decide +kernel
theorem dX8_doubt_6 : decode cX8_doubt 6 = .ok (.ifCond .eq 14, 3) := by decide +kernel
theorem dX8_doubt_9 : decode cX8_doubt 9 = .ok (.iload_n 2, 1) := by decide +kernel
theorem dX8_doubt_10 : decode cX8_doubt 10 = .ok (.iconst 0, 1) := by decide +kernel
theorem dX8_doubt_11 : decode cX8_doubt 11 = .ok (.sipush 10000, 3) := by decide +kernel
theorem dX8_doubt_14 : decode cX8_doubt 14 = .ok (.invokestatic 92, 3) := by decide +kernel
theorem dX8_doubt_17 : decode cX8_doubt 17 = .ok (.ifCond .ne 5, 3) := by decide +kernel
theorem dX8_doubt_20 : decode cX8_doubt 20 = .ok (.iconst (-1), 1) := by decide +kernel
theorem dX8_doubt_21 : decode cX8_doubt 21 = .ok (.ireturn, 1) := by decide +kernel
theorem dX8_doubt_22 : decode cX8_doubt 22 = .ok (.aload_n 0, 1) := by decide +kernel
theorem dX8_doubt_23 : decode cX8_doubt 23 = .ok (.iload_n 1, 1) := by decide +kernel
theorem dX8_doubt_24 : decode cX8_doubt 24 = .ok (.iload_n 3, 1) := by decide +kernel
theorem dX8_doubt_25 : decode cX8_doubt 25 = .ok (.invokevirtual 183, 3) := by decide +kernel
theorem dX8_doubt_28 : decode cX8_doubt 28 = .ok (.istore 4, 2) := by decide +kernel
theorem dX8_doubt_30 : decode cX8_doubt 30 = .ok (.iload 4, 2) := by decide +kernel
theorem dX8_doubt_32 : decode cX8_doubt 32 = .ok (.iconst (-1), 1) := by decide +kernel
theorem dX8_doubt_33 : decode cX8_doubt 33 = .ok (.if_icmp .ne 5, 3) := by decide +kernel
theorem dX8_doubt_36 : decode cX8_doubt 36 = .ok (.iconst 0, 1) := by decide +kernel
theorem dX8_doubt_37 : decode cX8_doubt 37 = .ok (.ireturn, 1) := by decide +kernel
theorem dX8_doubt_38 : decode cX8_doubt 38 = .ok (.aload_n 0, 1) := by decide +kernel
theorem dX8_doubt_39 : decode cX8_doubt 39 = .ok (.getfield 177, 3) := by decide +kernel
theorem dX8_doubt_42 : decode cX8_doubt 42 = .ok (.iload_n 2, 1) := by decide +kernel
theorem dX8_doubt_43 : decode cX8_doubt 43 = .ok (.iadd, 1) := by decide +kernel
theorem dX8_doubt_44 : decode cX8_doubt 44 = .ok (.istore 5, 2) := by decide +kernel
theorem dX8_doubt_46 : decode cX8_doubt 46 = .ok (.iconst 0, 1) := by decide +kernel
theorem dX8_doubt_47 : decode cX8_doubt 47 = .ok (.istore 6, 2) := by decide +kernel
theorem dX8_doubt_49 : decode cX8_doubt 49 = .ok (.iconst 0, 1) := by decide +kernel
theorem dX8_doubt_50 : decode cX8_doubt 50 = .ok (.istore 7, 2) := by decide +kernel
theorem dX8_doubt_52 : decode cX8_doubt 52 = .ok (.iload 7, 2) := by decide +kernel
theorem dX8_doubt_54 : decode cX8_doubt 54 = .ok (.aload_n 0, 1) := by decide +kernel
theorem dX8_doubt_55 : decode cX8_doubt 55 = .ok (.getfield 86, 3) := by decide +kernel
theorem dX8_doubt_58 : decode cX8_doubt 58 = .ok (.if_icmp .ge 65, 3) := by decide +kernel
theorem dX8_doubt_61 : decode cX8_doubt 61 = .ok (.iload 6, 2) := by decide +kernel
theorem dX8_doubt_63 : decode cX8_doubt 63 = .ok (.iload 7, 2) := by decide +kernel
theorem dX8_doubt_65 : decode cX8_doubt 65 = .ok (.iload 4, 2) := by decide +kernel
theorem dX8_doubt_67 : decode cX8_doubt 67 = .ok (.if_icmp .eq 46, 3) := by decide +kernel
theorem dX8_doubt_70 : decode cX8_doubt 70 = .ok (.iload 7, 2) := by decide +kernel
theorem dX8_doubt_72 : decode cX8_doubt 72 = .ok (.iload_n 1, 1) := by decide +kernel
theorem dX8_doubt_73 : decode cX8_doubt 73 = .ok (.if_icmp .eq 40, 3) := by decide +kernel
theorem dX8_doubt_76 : decode cX8_doubt 76 = .ok (.aload_n 0, 1) := by decide +kernel
theorem dX8_doubt_77 : decode cX8_doubt 77 = .ok (.iload 7, 2) := by decide +kernel
theorem dX8_doubt_79 : decode cX8_doubt 79 = .ok (.iload_n 1, 1) := by decide +kernel
theorem dX8_doubt_80 : decode cX8_doubt 80 = .ok (.invokevirtual 174, 3) := by decide +kernel
theorem dX8_doubt_83 : decode cX8_doubt 83 = .ok (.ifCond .eq 30, 3) := by decide +kernel
theorem dX8_doubt_86 : decode cX8_doubt 86 = .ok (.aload_n 0, 1) := by decide +kernel
theorem dX8_doubt_87 : decode cX8_doubt 87 = .ok (.iload 7, 2) := by decide +kernel
theorem dX8_doubt_89 : decode cX8_doubt 89 = .ok (.iload_n 3, 1) := by decide +kernel
theorem dX8_doubt_90 : decode cX8_doubt 90 = .ok (.invokevirtual 168, 3) := by decide +kernel
theorem dX8_doubt_93 : decode cX8_doubt 93 = .ok (.ifCond .ne 20, 3) := by decide +kernel
theorem dX8_doubt_96 : decode cX8_doubt 96 = .ok (.aload_n 0, 1) := by decide +kernel
theorem dX8_doubt_97 : decode cX8_doubt 97 = .ok (.iload_n 1, 1) := by decide +kernel
theorem dX8_doubt_98 : decode cX8_doubt 98 = .ok (.iload 7, 2) := by decide +kernel
theorem dX8_doubt_100 : decode cX8_doubt 100 = .ok (.iload_n 3, 1) := by decide +kernel
theorem dX8_doubt_101 : decode cX8_doubt 101 = .ok (.invokevirtual 159, 3) := by decide +kernel
theorem dX8_doubt_104 : decode cX8_doubt 104 = .ok (.iload 5, 2) := by decide +kernel
theorem dX8_doubt_106 : decode cX8_doubt 106 = .ok (.if_icmp .gt 7, 3) := by decide +kernel
theorem dX8_doubt_109 : decode cX8_doubt 109 = .ok (.iconst 1, 1) := by decide +kernel
theorem dX8_doubt_110 : decode cX8_doubt 110 = .ok (.goto 4, 3) := by decide +kernel
theorem dX8_doubt_113 : decode cX8_doubt 113 = .ok (.iconst 0, 1) := by decide +kernel
theorem dX8_doubt_114 : decode cX8_doubt 114 = .ok (.iadd, 1) := by decide +kernel
theorem dX8_doubt_115 : decode cX8_doubt 115 = .ok (.istore 6, 2) := by decide +kernel
theorem dX8_doubt_117 : decode cX8_doubt 117 = .ok (.iinc 7 1, 3) := by decide +kernel
theorem dX8_doubt_120 : decode cX8_doubt 120 = .ok (.goto (-68), 3) := by decide +kernel
theorem dX8_doubt_123 : decode cX8_doubt 123 = .ok (.iload 6, 2) := by decide +kernel
theorem dX8_doubt_125 : decode cX8_doubt 125 = .ok (.ireturn, 1) := by decide +kernel
theorem dX8_habit_0 : decode cX8_habit 0 = .ok (.aload_n 0, 1) := by decide +kernel
theorem dX8_habit_1 : decode cX8_habit 1 = .ok (.iconst 0, 1) := by decide +kernel
theorem dX8_habit_2 : decode cX8_habit 2 = .ok (.putfield 82, 3) := by decide +kernel
theorem dX8_habit_5 : decode cX8_habit 5 = .ok (.iload_n 1, 1) := by decide +kernel
theorem dX8_habit_6 : decode cX8_habit 6 = .ok (.iconst 0, 1) := by decide +kernel
theorem dX8_habit_7 : decode cX8_habit 7 = .ok (.iconst 5, 1) := by decide +kernel
theorem dX8_habit_8 : decode cX8_habit 8 = .ok (.invokestatic 92, 3) := by decide +kernel
theorem dX8_habit_11 : decode cX8_habit 11 = .ok (.ifCond .eq 35, 3) := by decide +kernel
theorem dX8_habit_14 : decode cX8_habit 14 = .ok (.iload_n 2, 1) := by decide +kernel
theorem dX8_habit_15 : decode cX8_habit 15 = .ok (.iconst 0, 1) := by decide +kernel
theorem dX8_habit_16 : decode cX8_habit 16 = .ok (.iconst 5, 1) := by decide +kernel
theorem dX8_habit_17 : decode cX8_habit 17 = .ok (.invokestatic 92, 3) := by decide +kernel
theorem dX8_habit_20 : decode cX8_habit 20 = .ok (.ifCond .eq 26, 3) := by decide +kernel
theorem dX8_habit_23 : decode cX8_habit 23 = .ok (.iload_n 1, 1) := by decide +kernel
theorem dX8_habit_24 : decode cX8_habit 24 = .ok (.iload_n 2, 1) := by decide +kernel
theorem dX8_habit_25 : decode cX8_habit 25 = .ok (.if_icmp .eq 21, 3) := by decide +kernel
theorem dX8_habit_28 : decode cX8_habit 28 = .ok (.aload_n 0, 1) := by decide +kernel
theorem dX8_habit_29 : decode cX8_habit 29 = .ok (.iload_n 3, 1) := by decide +kernel
theorem dX8_habit_30 : decode cX8_habit 30 = .ok (.invokevirtual 110, 3) := by decide +kernel
theorem dX8_habit_33 : decode cX8_habit 33 = .ok (.ifCond .eq 13, 3) := by decide +kernel
theorem dX8_habit_36 : decode cX8_habit 36 = .ok (.iload 4, 2) := by decide +kernel
theorem dX8_habit_38 : decode cX8_habit 38 = .ok (.iconst 0, 1) := by decide +kernel
theorem dX8_habit_39 : decode cX8_habit 39 = .ok (.iconst 1, 1) := by decide +kernel
theorem dX8_habit_40 : decode cX8_habit 40 = .ok (.invokestatic 92, 3) := by decide +kernel
theorem dX8_habit_43 : decode cX8_habit 43 = .ok (.ifCond .ne 6, 3) := by decide +kernel
theorem dX8_habit_46 : decode cX8_habit 46 = .ok (.ldc 189, 2) := by decide +kernel
theorem dX8_habit_48 : decode cX8_habit 48 = .ok (.ireturn, 1) := by decide +kernel
theorem dX8_habit_49 : decode cX8_habit 49 = .ok (.iconst 0, 1) := by decide +kernel
theorem dX8_habit_50 : decode cX8_habit 50 = .ok (.istore 5, 2) := by decide +kernel
theorem dX8_habit_52 : decode cX8_habit 52 = .ok (.iconst 0, 1) := by decide +kernel
theorem dX8_habit_53 : decode cX8_habit 53 = .ok (.istore 6, 2) := by decide +kernel
theorem dX8_habit_55 : decode cX8_habit 55 = .ok (.iconst 0, 1) := by decide +kernel
theorem dX8_habit_56 : decode cX8_habit 56 = .ok (.istore 7, 2) := by decide +kernel
theorem dX8_habit_58 : decode cX8_habit 58 = .ok (.iload 7, 2) := by decide +kernel
theorem dX8_habit_60 : decode cX8_habit 60 = .ok (.aload_n 0, 1) := by decide +kernel
theorem dX8_habit_61 : decode cX8_habit 61 = .ok (.getfield 107, 3) := by decide +kernel
theorem dX8_habit_64 : decode cX8_habit 64 = .ok (.if_icmp .ge 230, 3) := by decide +kernel
theorem dX8_habit_67 : decode cX8_habit 67 = .ok (.aload_n 0, 1) := by decide +kernel
theorem dX8_habit_68 : decode cX8_habit 68 = .ok (.getfield 9, 3) := by decide +kernel
theorem dX8_habit_71 : decode cX8_habit 71 = .ok (.aload_n 0, 1) := by decide +kernel
theorem dX8_habit_72 : decode cX8_habit 72 = .ok (.getfield 46, 3) := by decide +kernel
theorem dX8_habit_75 : decode cX8_habit 75 = .ok (.iload 7, 2) := by decide +kernel
theorem dX8_habit_77 : decode cX8_habit 77 = .ok (.iaload, 1) := by decide +kernel
theorem dX8_habit_78 : decode cX8_habit 78 = .ok (.iaload, 1) := by decide +kernel
theorem dX8_habit_79 : decode cX8_habit 79 = .ok (.iload_n 1, 1) := by decide +kernel
theorem dX8_habit_80 : decode cX8_habit 80 = .ok (.if_icmp .ne 13, 3) := by decide +kernel
theorem dX8_habit_83 : decode cX8_habit 83 = .ok (.aload_n 0, 1) := by decide +kernel
theorem dX8_habit_84 : decode cX8_habit 84 = .ok (.getfield 46, 3) := by decide +kernel
theorem dX8_habit_87 : decode cX8_habit 87 = .ok (.iload 7, 2) := by decide +kernel
theorem dX8_habit_89 : decode cX8_habit 89 = .ok (.iaload, 1) := by decide +kernel
theorem dX8_habit_90 : decode cX8_habit 90 = .ok (.goto 10, 3) := by decide +kernel
theorem dX8_habit_93 : decode cX8_habit 93 = .ok (.aload_n 0, 1) := by decide +kernel
theorem dX8_habit_94 : decode cX8_habit 94 = .ok (.getfield 49, 3) := by decide +kernel
theorem dX8_habit_97 : decode cX8_habit 97 = .ok (.iload 7, 2) := by decide +kernel
theorem dX8_habit_99 : decode cX8_habit 99 = .ok (.iaload, 1) := by decide +kernel
theorem dX8_habit_100 : decode cX8_habit 100 = .ok (.istore 8, 2) := by decide +kernel
theorem dX8_habit_102 : decode cX8_habit 102 = .ok (.iload 8, 2) := by decide +kernel
theorem dX8_habit_104 : decode cX8_habit 104 = .ok (.aload_n 0, 1) := by decide +kernel
theorem dX8_habit_105 : decode cX8_habit 105 = .ok (.getfield 46, 3) := by decide +kernel
theorem dX8_habit_108 : decode cX8_habit 108 = .ok (.iload 7, 2) := by decide +kernel
theorem dX8_habit_110 : decode cX8_habit 110 = .ok (.iaload, 1) := by decide +kernel
theorem dX8_habit_111 : decode cX8_habit 111 = .ok (.if_icmp .ne 13, 3) := by decide +kernel
theorem dX8_habit_114 : decode cX8_habit 114 = .ok (.aload_n 0, 1) := by decide +kernel
theorem dX8_habit_115 : decode cX8_habit 115 = .ok (.getfield 49, 3) := by decide +kernel
theorem dX8_habit_118 : decode cX8_habit 118 = .ok (.iload 7, 2) := by decide +kernel
theorem dX8_habit_120 : decode cX8_habit 120 = .ok (.iaload, 1) := by decide +kernel
theorem dX8_habit_121 : decode cX8_habit 121 = .ok (.goto 10, 3) := by decide +kernel
theorem dX8_habit_124 : decode cX8_habit 124 = .ok (.aload_n 0, 1) := by decide +kernel
theorem dX8_habit_125 : decode cX8_habit 125 = .ok (.getfield 46, 3) := by decide +kernel
theorem dX8_habit_128 : decode cX8_habit 128 = .ok (.iload 7, 2) := by decide +kernel
theorem dX8_habit_130 : decode cX8_habit 130 = .ok (.iaload, 1) := by decide +kernel
theorem dX8_habit_131 : decode cX8_habit 131 = .ok (.istore 9, 2) := by decide +kernel
theorem dX8_habit_133 : decode cX8_habit 133 = .ok (.aload_n 0, 1) := by decide +kernel
theorem dX8_habit_134 : decode cX8_habit 134 = .ok (.getfield 9, 3) := by decide +kernel
theorem dX8_habit_137 : decode cX8_habit 137 = .ok (.iload 8, 2) := by decide +kernel
theorem dX8_habit_139 : decode cX8_habit 139 = .ok (.iaload, 1) := by decide +kernel
theorem dX8_habit_140 : decode cX8_habit 140 = .ok (.iload_n 1, 1) := by decide +kernel
theorem dX8_habit_141 : decode cX8_habit 141 = .ok (.if_icmp .ne 147, 3) := by decide +kernel
theorem dX8_habit_144 : decode cX8_habit 144 = .ok (.aload_n 0, 1) := by decide +kernel
theorem dX8_habit_145 : decode cX8_habit 145 = .ok (.getfield 9, 3) := by decide +kernel
theorem dX8_habit_148 : decode cX8_habit 148 = .ok (.iload 9, 2) := by decide +kernel
theorem dX8_habit_150 : decode cX8_habit 150 = .ok (.iaload, 1) := by decide +kernel
theorem dX8_habit_151 : decode cX8_habit 151 = .ok (.iload_n 2, 1) := by decide +kernel
theorem dX8_habit_152 : decode cX8_habit 152 = .ok (.if_icmp .ne 136, 3) := by decide +kernel
theorem dX8_habit_155 : decode cX8_habit 155 = .ok (.aload_n 0, 1) := by decide +kernel
theorem dX8_habit_156 : decode cX8_habit 156 = .ok (.iload 8, 2) := by decide +kernel
theorem dX8_habit_158 : decode cX8_habit 158 = .ok (.iload_n 3, 1) := by decide +kernel
theorem dX8_habit_159 : decode cX8_habit 159 = .ok (.invokevirtual 168, 3) := by decide +kernel
theorem dX8_habit_162 : decode cX8_habit 162 = .ok (.ifCond .ne 126, 3) := by decide +kernel
theorem dX8_habit_165 : decode cX8_habit 165 = .ok (.aload_n 0, 1) := by decide +kernel
theorem dX8_habit_166 : decode cX8_habit 166 = .ok (.iload 9, 2) := by decide +kernel
theorem dX8_habit_168 : decode cX8_habit 168 = .ok (.iload_n 3, 1) := by decide +kernel
theorem dX8_habit_169 : decode cX8_habit 169 = .ok (.invokevirtual 168, 3) := by decide +kernel
theorem dX8_habit_172 : decode cX8_habit 172 = .ok (.ifCond .eq 6, 3) := by decide +kernel
theorem dX8_habit_175 : decode cX8_habit 175 = .ok (.goto 113, 3) := by decide +kernel
theorem dX8_habit_178 : decode cX8_habit 178 = .ok (.aload_n 0, 1) := by decide +kernel
theorem dX8_habit_179 : decode cX8_habit 179 = .ok (.iload 8, 2) := by decide +kernel
theorem dX8_habit_181 : decode cX8_habit 181 = .ok (.iload 9, 2) := by decide +kernel
theorem dX8_habit_183 : decode cX8_habit 183 = .ok (.iload_n 3, 1) := by decide +kernel
theorem dX8_habit_184 : decode cX8_habit 184 = .ok (.invokevirtual 165, 3) := by decide +kernel
theorem dX8_habit_187 : decode cX8_habit 187 = .ok (.iconst 0, 1) := by decide +kernel
theorem dX8_habit_188 : decode cX8_habit 188 = .ok (.istore 10, 2) := by decide +kernel
theorem dX8_habit_190 : decode cX8_habit 190 = .ok (.iload 10, 2) := by decide +kernel
theorem dX8_habit_192 : decode cX8_habit 192 = .ok (.aload_n 0, 1) := by decide +kernel
theorem dX8_habit_193 : decode cX8_habit 193 = .ok (.getfield 162, 3) := by decide +kernel
theorem dX8_habit_196 : decode cX8_habit 196 = .ok (.if_icmp .ge 92, 3) := by decide +kernel
theorem dX8_habit_199 : decode cX8_habit 199 = .ok (.aload_n 0, 1) := by decide +kernel
theorem dX8_habit_200 : decode cX8_habit 200 = .ok (.getfield 70, 3) := by decide +kernel
theorem dX8_habit_203 : decode cX8_habit 203 = .ok (.iload 10, 2) := by decide +kernel
theorem dX8_habit_205 : decode cX8_habit 205 = .ok (.iaload, 1) := by decide +kernel
theorem dX8_habit_206 : decode cX8_habit 206 = .ok (.istore 11, 2) := by decide +kernel
theorem dX8_habit_208 : decode cX8_habit 208 = .ok (.aload_n 0, 1) := by decide +kernel
theorem dX8_habit_209 : decode cX8_habit 209 = .ok (.getfield 73, 3) := by decide +kernel
theorem dX8_habit_212 : decode cX8_habit 212 = .ok (.iload 10, 2) := by decide +kernel
theorem dX8_habit_214 : decode cX8_habit 214 = .ok (.iaload, 1) := by decide +kernel
theorem dX8_habit_215 : decode cX8_habit 215 = .ok (.istore 12, 2) := by decide +kernel
theorem dX8_habit_217 : decode cX8_habit 217 = .ok (.iload 11, 2) := by decide +kernel
theorem dX8_habit_219 : decode cX8_habit 219 = .ok (.iconst (-1), 1) := by decide +kernel
theorem dX8_habit_220 : decode cX8_habit 220 = .ok (.if_icmp .eq 62, 3) := by decide +kernel
theorem dX8_habit_223 : decode cX8_habit 223 = .ok (.iload 12, 2) := by decide +kernel
theorem dX8_habit_225 : decode cX8_habit 225 = .ok (.iconst (-1), 1) := by decide +kernel
theorem dX8_habit_226 : decode cX8_habit 226 = .ok (.if_icmp .eq 56, 3) := by decide +kernel
theorem dX8_habit_229 : decode cX8_habit 229 = .ok (.aload_n 0, 1) := by decide +kernel
theorem dX8_habit_230 : decode cX8_habit 230 = .ok (.getfield 55, 3) := by decide +kernel
theorem dX8_habit_233 : decode cX8_habit 233 = .ok (.iload 11, 2) := by decide +kernel
theorem dX8_habit_235 : decode cX8_habit 235 = .ok (.iaload, 1) := by decide +kernel
theorem dX8_habit_236 : decode cX8_habit 236 = .ok (.iconst (-1), 1) := by decide +kernel
theorem dX8_habit_237 : decode cX8_habit 237 = .ok (.if_icmp .eq 45, 3) := by decide +kernel
theorem dX8_habit_240 : decode cX8_habit 240 = .ok (.aload_n 0, 1) := by decide +kernel
theorem dX8_habit_241 : decode cX8_habit 241 = .ok (.getfield 61, 3) := by decide +kernel
theorem dX8_habit_244 : decode cX8_habit 244 = .ok (.iload 12, 2) := by decide +kernel
theorem dX8_habit_246 : decode cX8_habit 246 = .ok (.iaload, 1) := by decide +kernel
theorem dX8_habit_247 : decode cX8_habit 247 = .ok (.iconst (-1), 1) := by decide +kernel
theorem dX8_habit_248 : decode cX8_habit 248 = .ok (.if_icmp .ne 6, 3) := by decide +kernel
theorem dX8_habit_251 : decode cX8_habit 251 = .ok (.goto 31, 3) := by decide +kernel
theorem dX8_habit_254 : decode cX8_habit 254 = .ok (.iload 5, 2) := by decide +kernel
theorem dX8_habit_256 : decode cX8_habit 256 = .ok (.aload_n 0, 1) := by decide +kernel
theorem dX8_habit_257 : decode cX8_habit 257 = .ok (.getfield 55, 3) := by decide +kernel
theorem dX8_habit_260 : decode cX8_habit 260 = .ok (.iload 11, 2) := by decide +kernel
theorem dX8_habit_262 : decode cX8_habit 262 = .ok (.iaload, 1) := by decide +kernel
theorem dX8_habit_263 : decode cX8_habit 263 = .ok (.aload_n 0, 1) := by decide +kernel
theorem dX8_habit_264 : decode cX8_habit 264 = .ok (.getfield 153, 3) := by decide +kernel
theorem dX8_habit_267 : decode cX8_habit 267 = .ok (.iadd, 1) := by decide +kernel
theorem dX8_habit_268 : decode cX8_habit 268 = .ok (.aload_n 0, 1) := by decide +kernel
theorem dX8_habit_269 : decode cX8_habit 269 = .ok (.getfield 61, 3) := by decide +kernel
theorem dX8_habit_272 : decode cX8_habit 272 = .ok (.iload 12, 2) := by decide +kernel
theorem dX8_habit_274 : decode cX8_habit 274 = .ok (.iaload, 1) := by decide +kernel
theorem dX8_habit_275 : decode cX8_habit 275 = .ok (.isub, 1) := by decide +kernel
theorem dX8_habit_276 : decode cX8_habit 276 = .ok (.iadd, 1) := by decide +kernel
theorem dX8_habit_277 : decode cX8_habit 277 = .ok (.istore 5, 2) := by decide +kernel
theorem dX8_habit_279 : decode cX8_habit 279 = .ok (.iinc 6 1, 3) := by decide +kernel
theorem dX8_habit_282 : decode cX8_habit 282 = .ok (.iinc 10 1, 3) := by decide +kernel
theorem dX8_habit_285 : decode cX8_habit 285 = .ok (.goto (-95), 3) := by decide +kernel
theorem dX8_habit_288 : decode cX8_habit 288 = .ok (.iinc 7 1, 3) := by decide +kernel
theorem dX8_habit_291 : decode cX8_habit 291 = .ok (.goto (-233), 3) := by decide +kernel
theorem dX8_habit_294 : decode cX8_habit 294 = .ok (.iload 4, 2) := by decide +kernel
theorem dX8_habit_296 : decode cX8_habit 296 = .ok (.ifCond .ne 8, 3) := by decide +kernel
theorem dX8_habit_299 : decode cX8_habit 299 = .ok (.iload 5, 2) := by decide +kernel
theorem dX8_habit_301 : decode cX8_habit 301 = .ok (.goto 5, 3) := by decide +kernel
theorem dX8_habit_304 : decode cX8_habit 304 = .ok (.iload 6, 2) := by decide +kernel
theorem dX8_habit_306 : decode cX8_habit 306 = .ok (.ireturn, 1) := by decide +kernel
theorem dX8_span_0 : decode cX8_span 0 = .ok (.aload_n 0, 1) := by decide +kernel
theorem dX8_span_1 : decode cX8_span 1 = .ok (.iconst 0, 1) := by decide +kernel
theorem dX8_span_2 : decode cX8_span 2 = .ok (.putfield 82, 3) := by decide +kernel
theorem dX8_span_5 : decode cX8_span 5 = .ok (.iload_n 1, 1) := by decide +kernel
theorem dX8_span_6 : decode cX8_span 6 = .ok (.iconst 0, 1) := by decide +kernel
theorem dX8_span_7 : decode cX8_span 7 = .ok (.bipush 9, 2) := by decide +kernel
theorem dX8_span_9 : decode cX8_span 9 = .ok (.invokestatic 92, 3) := by decide +kernel
theorem dX8_span_12 : decode cX8_span 12 = .ok (.ifCond .eq 11, 3) := by decide +kernel
theorem dX8_span_15 : decode cX8_span 15 = .ok (.aload_n 0, 1) := by decide +kernel
theorem dX8_span_16 : decode cX8_span 16 = .ok (.iload_n 2, 1) := by decide +kernel
theorem dX8_span_17 : decode cX8_span 17 = .ok (.invokevirtual 110, 3) := by decide +kernel
theorem dX8_span_20 : decode cX8_span 20 = .ok (.ifCond .ne 5, 3) := by decide +kernel
theorem dX8_span_23 : decode cX8_span 23 = .ok (.iconst (-1), 1) := by decide +kernel
theorem dX8_span_24 : decode cX8_span 24 = .ok (.ireturn, 1) := by decide +kernel
theorem dX8_span_25 : decode cX8_span 25 = .ok (.iconst (-1), 1) := by decide +kernel
theorem dX8_span_26 : decode cX8_span 26 = .ok (.istore 4, 2) := by decide +kernel
theorem dX8_span_28 : decode cX8_span 28 = .ok (.iconst 0, 1) := by decide +kernel
theorem dX8_span_29 : decode cX8_span 29 = .ok (.istore 5, 2) := by decide +kernel
theorem dX8_span_31 : decode cX8_span 31 = .ok (.iload 5, 2) := by decide +kernel
theorem dX8_span_33 : decode cX8_span 33 = .ok (.aload_n 0, 1) := by decide +kernel
theorem dX8_span_34 : decode cX8_span 34 = .ok (.getfield 86, 3) := by decide +kernel
theorem dX8_span_37 : decode cX8_span 37 = .ok (.if_icmp .ge 76, 3) := by decide +kernel
theorem dX8_span_40 : decode cX8_span 40 = .ok (.aload_n 0, 1) := by decide +kernel
theorem dX8_span_41 : decode cX8_span 41 = .ok (.getfield 16, 3) := by decide +kernel
theorem dX8_span_44 : decode cX8_span 44 = .ok (.iload 5, 2) := by decide +kernel
theorem dX8_span_46 : decode cX8_span 46 = .ok (.iaload, 1) := by decide +kernel
theorem dX8_span_47 : decode cX8_span 47 = .ok (.iload_n 1, 1) := by decide +kernel
theorem dX8_span_48 : decode cX8_span 48 = .ok (.if_icmp .ne 59, 3) := by decide +kernel
theorem dX8_span_51 : decode cX8_span 51 = .ok (.aload_n 0, 1) := by decide +kernel
theorem dX8_span_52 : decode cX8_span 52 = .ok (.iload 5, 2) := by decide +kernel
theorem dX8_span_54 : decode cX8_span 54 = .ok (.iload_n 2, 1) := by decide +kernel
theorem dX8_span_55 : decode cX8_span 55 = .ok (.invokevirtual 168, 3) := by decide +kernel
theorem dX8_span_58 : decode cX8_span 58 = .ok (.ifCond .ne 49, 3) := by decide +kernel
theorem dX8_span_61 : decode cX8_span 61 = .ok (.iload 4, 2) := by decide +kernel
theorem dX8_span_63 : decode cX8_span 63 = .ok (.iconst (-1), 1) := by decide +kernel
theorem dX8_span_64 : decode cX8_span 64 = .ok (.if_icmp .eq 34, 3) := by decide +kernel
theorem dX8_span_67 : decode cX8_span 67 = .ok (.iload_n 3, 1) := by decide +kernel
theorem dX8_span_68 : decode cX8_span 68 = .ok (.ifCond .eq 18, 3) := by decide +kernel
theorem dX8_span_71 : decode cX8_span 71 = .ok (.aload_n 0, 1) := by decide +kernel
theorem dX8_span_72 : decode cX8_span 72 = .ok (.getfield 13, 3) := by decide +kernel
theorem dX8_span_75 : decode cX8_span 75 = .ok (.iload 5, 2) := by decide +kernel
theorem dX8_span_77 : decode cX8_span 77 = .ok (.iaload, 1) := by decide +kernel
theorem dX8_span_78 : decode cX8_span 78 = .ok (.iload 4, 2) := by decide +kernel
theorem dX8_span_80 : decode cX8_span 80 = .ok (.if_icmp .le 27, 3) := by decide +kernel
theorem dX8_span_83 : decode cX8_span 83 = .ok (.goto 15, 3) := by decide +kernel
theorem dX8_span_86 : decode cX8_span 86 = .ok (.aload_n 0, 1) := by decide +kernel
theorem dX8_span_87 : decode cX8_span 87 = .ok (.getfield 13, 3) := by decide +kernel
theorem dX8_span_90 : decode cX8_span 90 = .ok (.iload 5, 2) := by decide +kernel
theorem dX8_span_92 : decode cX8_span 92 = .ok (.iaload, 1) := by decide +kernel
theorem dX8_span_93 : decode cX8_span 93 = .ok (.iload 4, 2) := by decide +kernel
theorem dX8_span_95 : decode cX8_span 95 = .ok (.if_icmp .ge 12, 3) := by decide +kernel
theorem dX8_span_98 : decode cX8_span 98 = .ok (.aload_n 0, 1) := by decide +kernel
theorem dX8_span_99 : decode cX8_span 99 = .ok (.getfield 13, 3) := by decide +kernel
theorem dX8_span_102 : decode cX8_span 102 = .ok (.iload 5, 2) := by decide +kernel
theorem dX8_span_104 : decode cX8_span 104 = .ok (.iaload, 1) := by decide +kernel
theorem dX8_span_105 : decode cX8_span 105 = .ok (.istore 4, 2) := by decide +kernel
theorem dX8_span_107 : decode cX8_span 107 = .ok (.iinc 5 1, 3) := by decide +kernel
theorem dX8_span_110 : decode cX8_span 110 = .ok (.goto (-79), 3) := by decide +kernel
theorem dX8_span_113 : decode cX8_span 113 = .ok (.iload 4, 2) := by decide +kernel
theorem dX8_span_115 : decode cX8_span 115 = .ok (.ireturn, 1) := by decide +kernel
theorem dX8_count_0 : decode cX8_count 0 = .ok (.aload_n 0, 1) := by decide +kernel
theorem dX8_count_1 : decode cX8_count 1 = .ok (.iconst 0, 1) := by decide +kernel
theorem dX8_count_2 : decode cX8_count 2 = .ok (.putfield 82, 3) := by decide +kernel
theorem dX8_count_5 : decode cX8_count 5 = .ok (.iconst 0, 1) := by decide +kernel
theorem dX8_count_6 : decode cX8_count 6 = .ok (.istore_n 2, 1) := by decide +kernel
theorem dX8_count_7 : decode cX8_count 7 = .ok (.iload_n 1, 1) := by decide +kernel
theorem dX8_count_8 : decode cX8_count 8 = .ok (.tableswitch 123 0 5 #[40, 45, 50, 86, 113, 118], 40) := by decide +kernel
theorem dX8_count_48 : decode cX8_count 48 = .ok (.aload_n 0, 1) := by decide +kernel
theorem dX8_count_49 : decode cX8_count 49 = .ok (.getfield 89, 3) := by decide +kernel
theorem dX8_count_52 : decode cX8_count 52 = .ok (.ireturn, 1) := by decide +kernel
theorem dX8_count_53 : decode cX8_count 53 = .ok (.aload_n 0, 1) := by decide +kernel
theorem dX8_count_54 : decode cX8_count 54 = .ok (.getfield 86, 3) := by decide +kernel
theorem dX8_count_57 : decode cX8_count 57 = .ok (.ireturn, 1) := by decide +kernel
theorem dX8_count_58 : decode cX8_count 58 = .ok (.iconst 0, 1) := by decide +kernel
theorem dX8_count_59 : decode cX8_count 59 = .ok (.istore_n 3, 1) := by decide +kernel
theorem dX8_count_60 : decode cX8_count 60 = .ok (.iload_n 3, 1) := by decide +kernel
theorem dX8_count_61 : decode cX8_count 61 = .ok (.aload_n 0, 1) := by decide +kernel
theorem dX8_count_62 : decode cX8_count 62 = .ok (.getfield 86, 3) := by decide +kernel
theorem dX8_count_65 : decode cX8_count 65 = .ok (.if_icmp .ge 27, 3) := by decide +kernel
theorem dX8_count_68 : decode cX8_count 68 = .ok (.iload_n 2, 1) := by decide +kernel
theorem dX8_count_69 : decode cX8_count 69 = .ok (.aload_n 0, 1) := by decide +kernel
theorem dX8_count_70 : decode cX8_count 70 = .ok (.getfield 22, 3) := by decide +kernel
theorem dX8_count_73 : decode cX8_count 73 = .ok (.iload_n 3, 1) := by decide +kernel
theorem dX8_count_74 : decode cX8_count 74 = .ok (.iaload, 1) := by decide +kernel
theorem dX8_count_75 : decode cX8_count 75 = .ok (.iconst (-1), 1) := by decide +kernel
theorem dX8_count_76 : decode cX8_count 76 = .ok (.if_icmp .eq 7, 3) := by decide +kernel
theorem dX8_count_79 : decode cX8_count 79 = .ok (.iconst 1, 1) := by decide +kernel
theorem dX8_count_80 : decode cX8_count 80 = .ok (.goto 4, 3) := by decide +kernel
theorem dX8_count_83 : decode cX8_count 83 = .ok (.iconst 0, 1) := by decide +kernel
theorem dX8_count_84 : decode cX8_count 84 = .ok (.iadd, 1) := by decide +kernel
theorem dX8_count_85 : decode cX8_count 85 = .ok (.istore_n 2, 1) := by decide +kernel
theorem dX8_count_86 : decode cX8_count 86 = .ok (.iinc 3 1, 3) := by decide +kernel
theorem dX8_count_89 : decode cX8_count 89 = .ok (.goto (-29), 3) := by decide +kernel
theorem dX8_count_92 : decode cX8_count 92 = .ok (.iload_n 2, 1) := by decide +kernel
theorem dX8_count_93 : decode cX8_count 93 = .ok (.ireturn, 1) := by decide +kernel
theorem dX8_count_94 : decode cX8_count 94 = .ok (.iconst 0, 1) := by decide +kernel
theorem dX8_count_95 : decode cX8_count 95 = .ok (.istore_n 3, 1) := by decide +kernel
theorem dX8_count_96 : decode cX8_count 96 = .ok (.iload_n 3, 1) := by decide +kernel
theorem dX8_count_97 : decode cX8_count 97 = .ok (.aload_n 0, 1) := by decide +kernel
theorem dX8_count_98 : decode cX8_count 98 = .ok (.getfield 86, 3) := by decide +kernel
theorem dX8_count_101 : decode cX8_count 101 = .ok (.if_icmp .ge 18, 3) := by decide +kernel
theorem dX8_count_104 : decode cX8_count 104 = .ok (.iload_n 2, 1) := by decide +kernel
theorem dX8_count_105 : decode cX8_count 105 = .ok (.aload_n 0, 1) := by decide +kernel
theorem dX8_count_106 : decode cX8_count 106 = .ok (.getfield 19, 3) := by decide +kernel
theorem dX8_count_109 : decode cX8_count 109 = .ok (.iload_n 3, 1) := by decide +kernel
theorem dX8_count_110 : decode cX8_count 110 = .ok (.iaload, 1) := by decide +kernel
theorem dX8_count_111 : decode cX8_count 111 = .ok (.iadd, 1) := by decide +kernel
theorem dX8_count_112 : decode cX8_count 112 = .ok (.istore_n 2, 1) := by decide +kernel
theorem dX8_count_113 : decode cX8_count 113 = .ok (.iinc 3 1, 3) := by decide +kernel
theorem dX8_count_116 : decode cX8_count 116 = .ok (.goto (-20), 3) := by decide +kernel
theorem dX8_count_119 : decode cX8_count 119 = .ok (.iload_n 2, 1) := by decide +kernel
theorem dX8_count_120 : decode cX8_count 120 = .ok (.ireturn, 1) := by decide +kernel
theorem dX8_count_121 : decode cX8_count 121 = .ok (.aload_n 0, 1) := by decide +kernel
theorem dX8_count_122 : decode cX8_count 122 = .ok (.getfield 104, 3) := by decide +kernel
theorem dX8_count_125 : decode cX8_count 125 = .ok (.ireturn, 1) := by decide +kernel
theorem dX8_count_126 : decode cX8_count 126 = .ok (.aload_n 0, 1) := by decide +kernel
theorem dX8_count_127 : decode cX8_count 127 = .ok (.getfield 107, 3) := by decide +kernel
theorem dX8_count_130 : decode cX8_count 130 = .ok (.ireturn, 1) := by decide +kernel
theorem dX8_count_131 : decode cX8_count 131 = .ok (.iconst (-1), 1) := by decide +kernel
theorem dX8_count_132 : decode cX8_count 132 = .ok (.ireturn, 1) := by decide +kernel
theorem dL_at_0 : decode cL_at 0 = .ok (.aload 5, 2) := by decide +kernel
theorem dL_at_2 : decode cL_at 2 = .ok (.iconst 0, 1) := by decide +kernel
theorem dL_at_3 : decode cL_at 3 = .ok (.aload_n 0, 1) := by decide +kernel
theorem dL_at_4 : decode cL_at 4 = .ok (.iload_n 1, 1) := by decide +kernel
theorem dL_at_5 : decode cL_at 5 = .ok (.iload_n 2, 1) := by decide +kernel
theorem dL_at_6 : decode cL_at 6 = .ok (.iload_n 3, 1) := by decide +kernel
theorem dL_at_7 : decode cL_at 7 = .ok (.iload 4, 2) := by decide +kernel
theorem dL_at_9 : decode cL_at 9 = .ok (.invokevirtual 7, 3) := by decide +kernel
theorem dL_at_12 : decode cL_at 12 = .ok (.i2l, 1) := by decide +kernel
theorem dL_at_13 : decode cL_at 13 = .ok (.lastore, 1) := by decide +kernel
theorem dL_at_14 : decode cL_at 14 = .ok (.goto 7, 3) := by decide +kernel
theorem dL_at_17 : decode cL_at 17 = .ok (.astore 6, 2) := by decide +kernel
theorem dL_at_19 : decode cL_at 19 = .ok (.iconst 1, 1) := by decide +kernel
theorem dL_at_20 : decode cL_at 20 = .ok (.ireturn, 1) := by decide +kernel
theorem dL_at_21 : decode cL_at 21 = .ok (.iconst 0, 1) := by decide +kernel
theorem dL_at_22 : decode cL_at 22 = .ok (.ireturn, 1) := by decide +kernel
theorem dL_law_0 : decode cL_law 0 = .ok (.new 8, 3) := by decide +kernel
theorem dL_law_3 : decode cL_law 3 = .ok (.dup, 1) := by decide +kernel
theorem dL_law_4 : decode cL_law 4 = .ok (.invokespecial 15, 3) := by decide +kernel
theorem dL_law_7 : decode cL_law 7 = .ok (.astore_n 1, 1) := by decide +kernel
theorem dL_law_8 : decode cL_law 8 = .ok (.new 16, 3) := by decide +kernel
theorem dL_law_11 : decode cL_law 11 = .ok (.dup, 1) := by decide +kernel
theorem dL_law_12 : decode cL_law 12 = .ok (.invokespecial 18, 3) := by decide +kernel
theorem dL_law_15 : decode cL_law 15 = .ok (.astore_n 2, 1) := by decide +kernel
theorem dL_law_16 : decode cL_law 16 = .ok (.iconst 1, 1) := by decide +kernel
theorem dL_law_17 : decode cL_law 17 = .ok (.newarray .long, 2) := by decide +kernel
theorem dL_law_19 : decode cL_law 19 = .ok (.astore_n 3, 1) := by decide +kernel
theorem dL_law_20 : decode cL_law 20 = .ok (.iconst 0, 1) := by decide +kernel
theorem dL_law_21 : decode cL_law 21 = .ok (.istore 4, 2) := by decide +kernel
theorem dL_law_23 : decode cL_law 23 = .ok (.iload 4, 2) := by decide +kernel
theorem dL_law_25 : decode cL_law 25 = .ok (.aload_n 0, 1) := by decide +kernel
theorem dL_law_26 : decode cL_law 26 = .ok (.arraylength, 1) := by decide +kernel
theorem dL_law_27 : decode cL_law 27 = .ok (.bipush 6, 2) := by decide +kernel
theorem dL_law_29 : decode cL_law 29 = .ok (.isub, 1) := by decide +kernel
theorem dL_law_30 : decode cL_law 30 = .ok (.if_icmp .gt 1108, 3) := by decide +kernel
theorem dL_law_33 : decode cL_law 33 = .ok (.aload_n 0, 1) := by decide +kernel
theorem dL_law_34 : decode cL_law 34 = .ok (.iload 4, 2) := by decide +kernel
theorem dL_law_36 : decode cL_law 36 = .ok (.iaload, 1) := by decide +kernel
theorem dL_law_37 : decode cL_law 37 = .ok (.bipush 31, 2) := by decide +kernel
theorem dL_law_39 : decode cL_law 39 = .ok (.iand, 1) := by decide +kernel
theorem dL_law_40 : decode cL_law 40 = .ok (.tableswitch 1092 0 20 #[100, 149, 198, 259, 284, 321, 346, 383, 475, 524, 573, 646, 695, 744, 793, 830, 867, 892, 941, 1002, 1067], 100) := by decide +kernel
theorem dL_law_140 : decode cL_law 140 = .ok (.aload_n 1, 1) := by decide +kernel
theorem dL_law_141 : decode cL_law 141 = .ok (.aload_n 0, 1) := by decide +kernel
theorem dL_law_142 : decode cL_law 142 = .ok (.iload 4, 2) := by decide +kernel
theorem dL_law_144 : decode cL_law 144 = .ok (.iconst 1, 1) := by decide +kernel
theorem dL_law_145 : decode cL_law 145 = .ok (.iadd, 1) := by decide +kernel
theorem dL_law_146 : decode cL_law 146 = .ok (.iaload, 1) := by decide +kernel
theorem dL_law_147 : decode cL_law 147 = .ok (.aload_n 0, 1) := by decide +kernel
theorem dL_law_148 : decode cL_law 148 = .ok (.iload 4, 2) := by decide +kernel
theorem dL_law_150 : decode cL_law 150 = .ok (.iconst 2, 1) := by decide +kernel
theorem dL_law_151 : decode cL_law 151 = .ok (.iadd, 1) := by decide +kernel
theorem dL_law_152 : decode cL_law 152 = .ok (.iaload, 1) := by decide +kernel
theorem dL_law_153 : decode cL_law 153 = .ok (.aload_n 0, 1) := by decide +kernel
theorem dL_law_154 : decode cL_law 154 = .ok (.iload 4, 2) := by decide +kernel
theorem dL_law_156 : decode cL_law 156 = .ok (.iconst 3, 1) := by decide +kernel
theorem dL_law_157 : decode cL_law 157 = .ok (.iadd, 1) := by decide +kernel
theorem dL_law_158 : decode cL_law 158 = .ok (.iaload, 1) := by decide +kernel
theorem dL_law_159 : decode cL_law 159 = .ok (.invokevirtual 19, 3) := by decide +kernel
theorem dL_law_162 : decode cL_law 162 = .ok (.aload_n 2, 1) := by decide +kernel
theorem dL_law_163 : decode cL_law 163 = .ok (.aload_n 0, 1) := by decide +kernel
theorem dL_law_164 : decode cL_law 164 = .ok (.iload 4, 2) := by decide +kernel
theorem dL_law_166 : decode cL_law 166 = .ok (.iconst 1, 1) := by decide +kernel
theorem dL_law_167 : decode cL_law 167 = .ok (.iadd, 1) := by decide +kernel
theorem dL_law_168 : decode cL_law 168 = .ok (.iaload, 1) := by decide +kernel
theorem dL_law_169 : decode cL_law 169 = .ok (.aload_n 0, 1) := by decide +kernel
theorem dL_law_170 : decode cL_law 170 = .ok (.iload 4, 2) := by decide +kernel
theorem dL_law_172 : decode cL_law 172 = .ok (.iconst 2, 1) := by decide +kernel
theorem dL_law_173 : decode cL_law 173 = .ok (.iadd, 1) := by decide +kernel
theorem dL_law_174 : decode cL_law 174 = .ok (.iaload, 1) := by decide +kernel
theorem dL_law_175 : decode cL_law 175 = .ok (.aload_n 0, 1) := by decide +kernel
theorem dL_law_176 : decode cL_law 176 = .ok (.iload 4, 2) := by decide +kernel
theorem dL_law_178 : decode cL_law 178 = .ok (.iconst 3, 1) := by decide +kernel
theorem dL_law_179 : decode cL_law 179 = .ok (.iadd, 1) := by decide +kernel
theorem dL_law_180 : decode cL_law 180 = .ok (.iaload, 1) := by decide +kernel
theorem dL_law_181 : decode cL_law 181 = .ok (.invokevirtual 23, 3) := by decide +kernel
theorem dL_law_184 : decode cL_law 184 = .ok (.if_icmp .eq 948, 3) := by decide +kernel
theorem dL_law_187 : decode cL_law 187 = .ok (.iconst 0, 1) := by decide +kernel
theorem dL_law_188 : decode cL_law 188 = .ok (.ireturn, 1) := by decide +kernel
theorem dL_law_189 : decode cL_law 189 = .ok (.aload_n 1, 1) := by decide +kernel
theorem dL_law_190 : decode cL_law 190 = .ok (.aload_n 0, 1) := by decide +kernel
theorem dL_law_191 : decode cL_law 191 = .ok (.iload 4, 2) := by decide +kernel
theorem dL_law_193 : decode cL_law 193 = .ok (.iconst 1, 1) := by decide +kernel
theorem dL_law_194 : decode cL_law 194 = .ok (.iadd, 1) := by decide +kernel
theorem dL_law_195 : decode cL_law 195 = .ok (.iaload, 1) := by decide +kernel
theorem dL_law_196 : decode cL_law 196 = .ok (.aload_n 0, 1) := by decide +kernel
theorem dL_law_197 : decode cL_law 197 = .ok (.iload 4, 2) := by decide +kernel
theorem dL_law_199 : decode cL_law 199 = .ok (.iconst 2, 1) := by decide +kernel
theorem dL_law_200 : decode cL_law 200 = .ok (.iadd, 1) := by decide +kernel
theorem dL_law_201 : decode cL_law 201 = .ok (.iaload, 1) := by decide +kernel
theorem dL_law_202 : decode cL_law 202 = .ok (.aload_n 0, 1) := by decide +kernel
theorem dL_law_203 : decode cL_law 203 = .ok (.iload 4, 2) := by decide +kernel
theorem dL_law_205 : decode cL_law 205 = .ok (.iconst 3, 1) := by decide +kernel
theorem dL_law_206 : decode cL_law 206 = .ok (.iadd, 1) := by decide +kernel
theorem dL_law_207 : decode cL_law 207 = .ok (.iaload, 1) := by decide +kernel
theorem dL_law_208 : decode cL_law 208 = .ok (.invokevirtual 24, 3) := by decide +kernel
theorem dL_law_211 : decode cL_law 211 = .ok (.aload_n 2, 1) := by decide +kernel
theorem dL_law_212 : decode cL_law 212 = .ok (.aload_n 0, 1) := by decide +kernel
theorem dL_law_213 : decode cL_law 213 = .ok (.iload 4, 2) := by decide +kernel
theorem dL_law_215 : decode cL_law 215 = .ok (.iconst 1, 1) := by decide +kernel
theorem dL_law_216 : decode cL_law 216 = .ok (.iadd, 1) := by decide +kernel
theorem dL_law_217 : decode cL_law 217 = .ok (.iaload, 1) := by decide +kernel
theorem dL_law_218 : decode cL_law 218 = .ok (.aload_n 0, 1) := by decide +kernel
theorem dL_law_219 : decode cL_law 219 = .ok (.iload 4, 2) := by decide +kernel
theorem dL_law_221 : decode cL_law 221 = .ok (.iconst 2, 1) := by decide +kernel
theorem dL_law_222 : decode cL_law 222 = .ok (.iadd, 1) := by decide +kernel
theorem dL_law_223 : decode cL_law 223 = .ok (.iaload, 1) := by decide +kernel
theorem dL_law_224 : decode cL_law 224 = .ok (.aload_n 0, 1) := by decide +kernel
theorem dL_law_225 : decode cL_law 225 = .ok (.iload 4, 2) := by decide +kernel
theorem dL_law_227 : decode cL_law 227 = .ok (.iconst 3, 1) := by decide +kernel
theorem dL_law_228 : decode cL_law 228 = .ok (.iadd, 1) := by decide +kernel
theorem dL_law_229 : decode cL_law 229 = .ok (.iaload, 1) := by decide +kernel
theorem dL_law_230 : decode cL_law 230 = .ok (.invokevirtual 27, 3) := by decide +kernel
theorem dL_law_233 : decode cL_law 233 = .ok (.if_icmp .eq 899, 3) := by decide +kernel
theorem dL_law_236 : decode cL_law 236 = .ok (.iconst 0, 1) := by decide +kernel
theorem dL_law_237 : decode cL_law 237 = .ok (.ireturn, 1) := by decide +kernel
theorem dL_law_238 : decode cL_law 238 = .ok (.aload_n 1, 1) := by decide +kernel
theorem dL_law_239 : decode cL_law 239 = .ok (.aload_n 0, 1) := by decide +kernel
theorem dL_law_240 : decode cL_law 240 = .ok (.iload 4, 2) := by decide +kernel
theorem dL_law_242 : decode cL_law 242 = .ok (.iconst 1, 1) := by decide +kernel
theorem dL_law_243 : decode cL_law 243 = .ok (.iadd, 1) := by decide +kernel
theorem dL_law_244 : decode cL_law 244 = .ok (.iaload, 1) := by decide +kernel
theorem dL_law_245 : decode cL_law 245 = .ok (.aload_n 0, 1) := by decide +kernel
theorem dL_law_246 : decode cL_law 246 = .ok (.iload 4, 2) := by decide +kernel
theorem dL_law_248 : decode cL_law 248 = .ok (.iconst 2, 1) := by decide +kernel
theorem dL_law_249 : decode cL_law 249 = .ok (.iadd, 1) := by decide +kernel
theorem dL_law_250 : decode cL_law 250 = .ok (.iaload, 1) := by decide +kernel
theorem dL_law_251 : decode cL_law 251 = .ok (.aload_n 0, 1) := by decide +kernel
theorem dL_law_252 : decode cL_law 252 = .ok (.iload 4, 2) := by decide +kernel
theorem dL_law_254 : decode cL_law 254 = .ok (.iconst 3, 1) := by decide +kernel
theorem dL_law_255 : decode cL_law 255 = .ok (.iadd, 1) := by decide +kernel
theorem dL_law_256 : decode cL_law 256 = .ok (.iaload, 1) := by decide +kernel
theorem dL_law_257 : decode cL_law 257 = .ok (.aload_n 0, 1) := by decide +kernel
theorem dL_law_258 : decode cL_law 258 = .ok (.iload 4, 2) := by decide +kernel
theorem dL_law_260 : decode cL_law 260 = .ok (.iconst 4, 1) := by decide +kernel
theorem dL_law_261 : decode cL_law 261 = .ok (.iadd, 1) := by decide +kernel
theorem dL_law_262 : decode cL_law 262 = .ok (.iaload, 1) := by decide +kernel
theorem dL_law_263 : decode cL_law 263 = .ok (.invokevirtual 28, 3) := by decide +kernel
theorem dL_law_266 : decode cL_law 266 = .ok (.aload_n 2, 1) := by decide +kernel
theorem dL_law_267 : decode cL_law 267 = .ok (.aload_n 0, 1) := by decide +kernel
theorem dL_law_268 : decode cL_law 268 = .ok (.iload 4, 2) := by decide +kernel
theorem dL_law_270 : decode cL_law 270 = .ok (.iconst 1, 1) := by decide +kernel
theorem dL_law_271 : decode cL_law 271 = .ok (.iadd, 1) := by decide +kernel
theorem dL_law_272 : decode cL_law 272 = .ok (.iaload, 1) := by decide +kernel
theorem dL_law_273 : decode cL_law 273 = .ok (.aload_n 0, 1) := by decide +kernel
theorem dL_law_274 : decode cL_law 274 = .ok (.iload 4, 2) := by decide +kernel
theorem dL_law_276 : decode cL_law 276 = .ok (.iconst 2, 1) := by decide +kernel
theorem dL_law_277 : decode cL_law 277 = .ok (.iadd, 1) := by decide +kernel
theorem dL_law_278 : decode cL_law 278 = .ok (.iaload, 1) := by decide +kernel
theorem dL_law_279 : decode cL_law 279 = .ok (.aload_n 0, 1) := by decide +kernel
theorem dL_law_280 : decode cL_law 280 = .ok (.iload 4, 2) := by decide +kernel
theorem dL_law_282 : decode cL_law 282 = .ok (.iconst 3, 1) := by decide +kernel
theorem dL_law_283 : decode cL_law 283 = .ok (.iadd, 1) := by decide +kernel
theorem dL_law_284 : decode cL_law 284 = .ok (.iaload, 1) := by decide +kernel
theorem dL_law_285 : decode cL_law 285 = .ok (.aload_n 0, 1) := by decide +kernel
theorem dL_law_286 : decode cL_law 286 = .ok (.iload 4, 2) := by decide +kernel
theorem dL_law_288 : decode cL_law 288 = .ok (.iconst 4, 1) := by decide +kernel
theorem dL_law_289 : decode cL_law 289 = .ok (.iadd, 1) := by decide +kernel
theorem dL_law_290 : decode cL_law 290 = .ok (.iaload, 1) := by decide +kernel
theorem dL_law_291 : decode cL_law 291 = .ok (.invokevirtual 32, 3) := by decide +kernel
theorem dL_law_294 : decode cL_law 294 = .ok (.if_icmp .eq 838, 3) := by decide +kernel
theorem dL_law_297 : decode cL_law 297 = .ok (.iconst 0, 1) := by decide +kernel
theorem dL_law_298 : decode cL_law 298 = .ok (.ireturn, 1) := by decide +kernel
theorem dL_law_299 : decode cL_law 299 = .ok (.aload_n 1, 1) := by decide +kernel
theorem dL_law_300 : decode cL_law 300 = .ok (.aload_n 0, 1) := by decide +kernel
theorem dL_law_301 : decode cL_law 301 = .ok (.iload 4, 2) := by decide +kernel
theorem dL_law_303 : decode cL_law 303 = .ok (.iconst 1, 1) := by decide +kernel
theorem dL_law_304 : decode cL_law 304 = .ok (.iadd, 1) := by decide +kernel
theorem dL_law_305 : decode cL_law 305 = .ok (.iaload, 1) := by decide +kernel
theorem dL_law_306 : decode cL_law 306 = .ok (.invokevirtual 33, 3) := by decide +kernel
theorem dL_law_309 : decode cL_law 309 = .ok (.aload_n 2, 1) := by decide +kernel
theorem dL_law_310 : decode cL_law 310 = .ok (.aload_n 0, 1) := by decide +kernel
theorem dL_law_311 : decode cL_law 311 = .ok (.iload 4, 2) := by decide +kernel
theorem dL_law_313 : decode cL_law 313 = .ok (.iconst 1, 1) := by decide +kernel
theorem dL_law_314 : decode cL_law 314 = .ok (.iadd, 1) := by decide +kernel
theorem dL_law_315 : decode cL_law 315 = .ok (.iaload, 1) := by decide +kernel
theorem dL_law_316 : decode cL_law 316 = .ok (.invokevirtual 37, 3) := by decide +kernel
theorem dL_law_319 : decode cL_law 319 = .ok (.if_icmp .eq 813, 3) := by decide +kernel
theorem dL_law_322 : decode cL_law 322 = .ok (.iconst 0, 1) := by decide +kernel
theorem dL_law_323 : decode cL_law 323 = .ok (.ireturn, 1) := by decide +kernel
theorem dL_law_324 : decode cL_law 324 = .ok (.aload_n 1, 1) := by decide +kernel
theorem dL_law_325 : decode cL_law 325 = .ok (.aload_n 0, 1) := by decide +kernel
theorem dL_law_326 : decode cL_law 326 = .ok (.iload 4, 2) := by decide +kernel
theorem dL_law_328 : decode cL_law 328 = .ok (.iconst 1, 1) := by decide +kernel
theorem dL_law_329 : decode cL_law 329 = .ok (.iadd, 1) := by decide +kernel
theorem dL_law_330 : decode cL_law 330 = .ok (.iaload, 1) := by decide +kernel
theorem dL_law_331 : decode cL_law 331 = .ok (.aload_n 0, 1) := by decide +kernel
theorem dL_law_332 : decode cL_law 332 = .ok (.iload 4, 2) := by decide +kernel
theorem dL_law_334 : decode cL_law 334 = .ok (.iconst 2, 1) := by decide +kernel
theorem dL_law_335 : decode cL_law 335 = .ok (.iadd, 1) := by decide +kernel
theorem dL_law_336 : decode cL_law 336 = .ok (.iaload, 1) := by decide +kernel
theorem dL_law_337 : decode cL_law 337 = .ok (.invokevirtual 38, 3) := by decide +kernel
theorem dL_law_340 : decode cL_law 340 = .ok (.aload_n 2, 1) := by decide +kernel
theorem dL_law_341 : decode cL_law 341 = .ok (.aload_n 0, 1) := by decide +kernel
theorem dL_law_342 : decode cL_law 342 = .ok (.iload 4, 2) := by decide +kernel
theorem dL_law_344 : decode cL_law 344 = .ok (.iconst 1, 1) := by decide +kernel
theorem dL_law_345 : decode cL_law 345 = .ok (.iadd, 1) := by decide +kernel
theorem dL_law_346 : decode cL_law 346 = .ok (.iaload, 1) := by decide +kernel
theorem dL_law_347 : decode cL_law 347 = .ok (.aload_n 0, 1) := by decide +kernel
theorem dL_law_348 : decode cL_law 348 = .ok (.iload 4, 2) := by decide +kernel
theorem dL_law_350 : decode cL_law 350 = .ok (.iconst 2, 1) := by decide +kernel
theorem dL_law_351 : decode cL_law 351 = .ok (.iadd, 1) := by decide +kernel
theorem dL_law_352 : decode cL_law 352 = .ok (.iaload, 1) := by decide +kernel
theorem dL_law_353 : decode cL_law 353 = .ok (.invokevirtual 42, 3) := by decide +kernel
theorem dL_law_356 : decode cL_law 356 = .ok (.if_icmp .eq 776, 3) := by decide +kernel
theorem dL_law_359 : decode cL_law 359 = .ok (.iconst 0, 1) := by decide +kernel
theorem dL_law_360 : decode cL_law 360 = .ok (.ireturn, 1) := by decide +kernel
theorem dL_law_361 : decode cL_law 361 = .ok (.aload_n 1, 1) := by decide +kernel
theorem dL_law_362 : decode cL_law 362 = .ok (.aload_n 0, 1) := by decide +kernel
theorem dL_law_363 : decode cL_law 363 = .ok (.iload 4, 2) := by decide +kernel
theorem dL_law_365 : decode cL_law 365 = .ok (.iconst 1, 1) := by decide +kernel
theorem dL_law_366 : decode cL_law 366 = .ok (.iadd, 1) := by decide +kernel
theorem dL_law_367 : decode cL_law 367 = .ok (.iaload, 1) := by decide +kernel
theorem dL_law_368 : decode cL_law 368 = .ok (.invokevirtual 43, 3) := by decide +kernel
theorem dL_law_371 : decode cL_law 371 = .ok (.aload_n 2, 1) := by decide +kernel
theorem dL_law_372 : decode cL_law 372 = .ok (.aload_n 0, 1) := by decide +kernel
theorem dL_law_373 : decode cL_law 373 = .ok (.iload 4, 2) := by decide +kernel
theorem dL_law_375 : decode cL_law 375 = .ok (.iconst 1, 1) := by decide +kernel
theorem dL_law_376 : decode cL_law 376 = .ok (.iadd, 1) := by decide +kernel
theorem dL_law_377 : decode cL_law 377 = .ok (.iaload, 1) := by decide +kernel
theorem dL_law_378 : decode cL_law 378 = .ok (.invokevirtual 47, 3) := by decide +kernel
theorem dL_law_381 : decode cL_law 381 = .ok (.if_icmp .eq 751, 3) := by decide +kernel
theorem dL_law_384 : decode cL_law 384 = .ok (.iconst 0, 1) := by decide +kernel
theorem dL_law_385 : decode cL_law 385 = .ok (.ireturn, 1) := by decide +kernel
theorem dL_law_386 : decode cL_law 386 = .ok (.aload_n 1, 1) := by decide +kernel
theorem dL_law_387 : decode cL_law 387 = .ok (.aload_n 0, 1) := by decide +kernel
theorem dL_law_388 : decode cL_law 388 = .ok (.iload 4, 2) := by decide +kernel
theorem dL_law_390 : decode cL_law 390 = .ok (.iconst 1, 1) := by decide +kernel
theorem dL_law_391 : decode cL_law 391 = .ok (.iadd, 1) := by decide +kernel
theorem dL_law_392 : decode cL_law 392 = .ok (.iaload, 1) := by decide +kernel
theorem dL_law_393 : decode cL_law 393 = .ok (.aload_n 0, 1) := by decide +kernel
theorem dL_law_394 : decode cL_law 394 = .ok (.iload 4, 2) := by decide +kernel
theorem dL_law_396 : decode cL_law 396 = .ok (.iconst 2, 1) := by decide +kernel
theorem dL_law_397 : decode cL_law 397 = .ok (.iadd, 1) := by decide +kernel
theorem dL_law_398 : decode cL_law 398 = .ok (.iaload, 1) := by decide +kernel
theorem dL_law_399 : decode cL_law 399 = .ok (.invokevirtual 48, 3) := by decide +kernel
theorem dL_law_402 : decode cL_law 402 = .ok (.aload_n 2, 1) := by decide +kernel
theorem dL_law_403 : decode cL_law 403 = .ok (.aload_n 0, 1) := by decide +kernel
theorem dL_law_404 : decode cL_law 404 = .ok (.iload 4, 2) := by decide +kernel
theorem dL_law_406 : decode cL_law 406 = .ok (.iconst 1, 1) := by decide +kernel
theorem dL_law_407 : decode cL_law 407 = .ok (.iadd, 1) := by decide +kernel
theorem dL_law_408 : decode cL_law 408 = .ok (.iaload, 1) := by decide +kernel
theorem dL_law_409 : decode cL_law 409 = .ok (.aload_n 0, 1) := by decide +kernel
theorem dL_law_410 : decode cL_law 410 = .ok (.iload 4, 2) := by decide +kernel
theorem dL_law_412 : decode cL_law 412 = .ok (.iconst 2, 1) := by decide +kernel
theorem dL_law_413 : decode cL_law 413 = .ok (.iadd, 1) := by decide +kernel
theorem dL_law_414 : decode cL_law 414 = .ok (.iaload, 1) := by decide +kernel
theorem dL_law_415 : decode cL_law 415 = .ok (.invokevirtual 51, 3) := by decide +kernel
theorem dL_law_418 : decode cL_law 418 = .ok (.if_icmp .eq 714, 3) := by decide +kernel
theorem dL_law_421 : decode cL_law 421 = .ok (.iconst 0, 1) := by decide +kernel
theorem dL_law_422 : decode cL_law 422 = .ok (.ireturn, 1) := by decide +kernel
theorem dL_law_423 : decode cL_law 423 = .ok (.aload_n 1, 1) := by decide +kernel
theorem dL_law_424 : decode cL_law 424 = .ok (.aload_n 0, 1) := by decide +kernel
theorem dL_law_425 : decode cL_law 425 = .ok (.iload 4, 2) := by decide +kernel
theorem dL_law_427 : decode cL_law 427 = .ok (.iconst 1, 1) := by decide +kernel
theorem dL_law_428 : decode cL_law 428 = .ok (.iadd, 1) := by decide +kernel
theorem dL_law_429 : decode cL_law 429 = .ok (.iaload, 1) := by decide +kernel
theorem dL_law_430 : decode cL_law 430 = .ok (.aload_n 0, 1) := by decide +kernel
theorem dL_law_431 : decode cL_law 431 = .ok (.iload 4, 2) := by decide +kernel
theorem dL_law_433 : decode cL_law 433 = .ok (.iconst 2, 1) := by decide +kernel
theorem dL_law_434 : decode cL_law 434 = .ok (.iadd, 1) := by decide +kernel
theorem dL_law_435 : decode cL_law 435 = .ok (.iaload, 1) := by decide +kernel
theorem dL_law_436 : decode cL_law 436 = .ok (.aload_n 0, 1) := by decide +kernel
theorem dL_law_437 : decode cL_law 437 = .ok (.iload 4, 2) := by decide +kernel
theorem dL_law_439 : decode cL_law 439 = .ok (.iconst 3, 1) := by decide +kernel
theorem dL_law_440 : decode cL_law 440 = .ok (.iadd, 1) := by decide +kernel
theorem dL_law_441 : decode cL_law 441 = .ok (.iaload, 1) := by decide +kernel
theorem dL_law_442 : decode cL_law 442 = .ok (.aload_n 0, 1) := by decide +kernel
theorem dL_law_443 : decode cL_law 443 = .ok (.iload 4, 2) := by decide +kernel
theorem dL_law_445 : decode cL_law 445 = .ok (.iconst 4, 1) := by decide +kernel
theorem dL_law_446 : decode cL_law 446 = .ok (.iadd, 1) := by decide +kernel
theorem dL_law_447 : decode cL_law 447 = .ok (.iaload, 1) := by decide +kernel
theorem dL_law_448 : decode cL_law 448 = .ok (.aload_n 3, 1) := by decide +kernel
theorem dL_law_449 : decode cL_law 449 = .ok (.invokestatic 52, 3) := by decide +kernel
theorem dL_law_452 : decode cL_law 452 = .ok (.istore 5, 2) := by decide +kernel
theorem dL_law_454 : decode cL_law 454 = .ok (.aload_n 2, 1) := by decide +kernel
theorem dL_law_455 : decode cL_law 455 = .ok (.aload_n 0, 1) := by decide +kernel
theorem dL_law_456 : decode cL_law 456 = .ok (.iload 4, 2) := by decide +kernel
theorem dL_law_458 : decode cL_law 458 = .ok (.iconst 1, 1) := by decide +kernel
theorem dL_law_459 : decode cL_law 459 = .ok (.iadd, 1) := by decide +kernel
theorem dL_law_460 : decode cL_law 460 = .ok (.iaload, 1) := by decide +kernel
theorem dL_law_461 : decode cL_law 461 = .ok (.aload_n 0, 1) := by decide +kernel
theorem dL_law_462 : decode cL_law 462 = .ok (.iload 4, 2) := by decide +kernel
theorem dL_law_464 : decode cL_law 464 = .ok (.iconst 2, 1) := by decide +kernel
theorem dL_law_465 : decode cL_law 465 = .ok (.iadd, 1) := by decide +kernel
theorem dL_law_466 : decode cL_law 466 = .ok (.iaload, 1) := by decide +kernel
theorem dL_law_467 : decode cL_law 467 = .ok (.aload_n 0, 1) := by decide +kernel
theorem dL_law_468 : decode cL_law 468 = .ok (.iload 4, 2) := by decide +kernel
theorem dL_law_470 : decode cL_law 470 = .ok (.iconst 3, 1) := by decide +kernel
theorem dL_law_471 : decode cL_law 471 = .ok (.iadd, 1) := by decide +kernel
theorem dL_law_472 : decode cL_law 472 = .ok (.iaload, 1) := by decide +kernel
theorem dL_law_473 : decode cL_law 473 = .ok (.aload_n 0, 1) := by decide +kernel
theorem dL_law_474 : decode cL_law 474 = .ok (.iload 4, 2) := by decide +kernel
theorem dL_law_476 : decode cL_law 476 = .ok (.iconst 4, 1) := by decide +kernel
theorem dL_law_477 : decode cL_law 477 = .ok (.iadd, 1) := by decide +kernel
theorem dL_law_478 : decode cL_law 478 = .ok (.iaload, 1) := by decide +kernel
theorem dL_law_479 : decode cL_law 479 = .ok (.invokevirtual 57, 3) := by decide +kernel
theorem dL_law_482 : decode cL_law 482 = .ok (.istore 6, 2) := by decide +kernel
theorem dL_law_484 : decode cL_law 484 = .ok (.aload_n 2, 1) := by decide +kernel
theorem dL_law_485 : decode cL_law 485 = .ok (.invokevirtual 58, 3) := by decide +kernel
theorem dL_law_488 : decode cL_law 488 = .ok (.iload 5, 2) := by decide +kernel
theorem dL_law_490 : decode cL_law 490 = .ok (.if_icmp .eq 5, 3) := by decide +kernel
theorem dL_law_493 : decode cL_law 493 = .ok (.iconst 0, 1) := by decide +kernel
theorem dL_law_494 : decode cL_law 494 = .ok (.ireturn, 1) := by decide +kernel
theorem dL_law_495 : decode cL_law 495 = .ok (.iload 5, 2) := by decide +kernel
theorem dL_law_497 : decode cL_law 497 = .ok (.ifCond .ne 15, 3) := by decide +kernel
theorem dL_law_500 : decode cL_law 500 = .ok (.aload_n 3, 1) := by decide +kernel
theorem dL_law_501 : decode cL_law 501 = .ok (.iconst 0, 1) := by decide +kernel
theorem dL_law_502 : decode cL_law 502 = .ok (.laload, 1) := by decide +kernel
theorem dL_law_503 : decode cL_law 503 = .ok (.iload 6, 2) := by decide +kernel
theorem dL_law_505 : decode cL_law 505 = .ok (.i2l, 1) := by decide +kernel
theorem dL_law_506 : decode cL_law 506 = .ok (.lcmp, 1) := by decide +kernel
theorem dL_law_507 : decode cL_law 507 = .ok (.ifCond .eq 5, 3) := by decide +kernel
theorem dL_law_510 : decode cL_law 510 = .ok (.iconst 0, 1) := by decide +kernel
theorem dL_law_511 : decode cL_law 511 = .ok (.ireturn, 1) := by decide +kernel
theorem dL_law_512 : decode cL_law 512 = .ok (.goto 620, 3) := by decide +kernel
theorem dL_law_515 : decode cL_law 515 = .ok (.aload_n 1, 1) := by decide +kernel
theorem dL_law_516 : decode cL_law 516 = .ok (.aload_n 0, 1) := by decide +kernel
theorem dL_law_517 : decode cL_law 517 = .ok (.iload 4, 2) := by decide +kernel
theorem dL_law_519 : decode cL_law 519 = .ok (.iconst 1, 1) := by decide +kernel
theorem dL_law_520 : decode cL_law 520 = .ok (.iadd, 1) := by decide +kernel
theorem dL_law_521 : decode cL_law 521 = .ok (.iaload, 1) := by decide +kernel
theorem dL_law_522 : decode cL_law 522 = .ok (.aload_n 0, 1) := by decide +kernel
theorem dL_law_523 : decode cL_law 523 = .ok (.iload 4, 2) := by decide +kernel
theorem dL_law_525 : decode cL_law 525 = .ok (.iconst 2, 1) := by decide +kernel
theorem dL_law_526 : decode cL_law 526 = .ok (.iadd, 1) := by decide +kernel
theorem dL_law_527 : decode cL_law 527 = .ok (.iaload, 1) := by decide +kernel
theorem dL_law_528 : decode cL_law 528 = .ok (.aload_n 0, 1) := by decide +kernel
theorem dL_law_529 : decode cL_law 529 = .ok (.iload 4, 2) := by decide +kernel
theorem dL_law_531 : decode cL_law 531 = .ok (.iconst 3, 1) := by decide +kernel
theorem dL_law_532 : decode cL_law 532 = .ok (.iadd, 1) := by decide +kernel
theorem dL_law_533 : decode cL_law 533 = .ok (.iaload, 1) := by decide +kernel
theorem dL_law_534 : decode cL_law 534 = .ok (.invokevirtual 62, 3) := by decide +kernel
theorem dL_law_537 : decode cL_law 537 = .ok (.aload_n 2, 1) := by decide +kernel
theorem dL_law_538 : decode cL_law 538 = .ok (.aload_n 0, 1) := by decide +kernel
theorem dL_law_539 : decode cL_law 539 = .ok (.iload 4, 2) := by decide +kernel
theorem dL_law_541 : decode cL_law 541 = .ok (.iconst 1, 1) := by decide +kernel
theorem dL_law_542 : decode cL_law 542 = .ok (.iadd, 1) := by decide +kernel
theorem dL_law_543 : decode cL_law 543 = .ok (.iaload, 1) := by decide +kernel
theorem dL_law_544 : decode cL_law 544 = .ok (.aload_n 0, 1) := by decide +kernel
theorem dL_law_545 : decode cL_law 545 = .ok (.iload 4, 2) := by decide +kernel
theorem dL_law_547 : decode cL_law 547 = .ok (.iconst 2, 1) := by decide +kernel
theorem dL_law_548 : decode cL_law 548 = .ok (.iadd, 1) := by decide +kernel
theorem dL_law_549 : decode cL_law 549 = .ok (.iaload, 1) := by decide +kernel
theorem dL_law_550 : decode cL_law 550 = .ok (.aload_n 0, 1) := by decide +kernel
theorem dL_law_551 : decode cL_law 551 = .ok (.iload 4, 2) := by decide +kernel
theorem dL_law_553 : decode cL_law 553 = .ok (.iconst 3, 1) := by decide +kernel
theorem dL_law_554 : decode cL_law 554 = .ok (.iadd, 1) := by decide +kernel
theorem dL_law_555 : decode cL_law 555 = .ok (.iaload, 1) := by decide +kernel
theorem dL_law_556 : decode cL_law 556 = .ok (.invokevirtual 65, 3) := by decide +kernel
theorem dL_law_559 : decode cL_law 559 = .ok (.if_icmp .eq 573, 3) := by decide +kernel
theorem dL_law_562 : decode cL_law 562 = .ok (.iconst 0, 1) := by decide +kernel
theorem dL_law_563 : decode cL_law 563 = .ok (.ireturn, 1) := by decide +kernel
theorem dL_law_564 : decode cL_law 564 = .ok (.aload_n 1, 1) := by decide +kernel
theorem dL_law_565 : decode cL_law 565 = .ok (.aload_n 0, 1) := by decide +kernel
theorem dL_law_566 : decode cL_law 566 = .ok (.iload 4, 2) := by decide +kernel
theorem dL_law_568 : decode cL_law 568 = .ok (.iconst 1, 1) := by decide +kernel
theorem dL_law_569 : decode cL_law 569 = .ok (.iadd, 1) := by decide +kernel
theorem dL_law_570 : decode cL_law 570 = .ok (.iaload, 1) := by decide +kernel
theorem dL_law_571 : decode cL_law 571 = .ok (.aload_n 0, 1) := by decide +kernel
theorem dL_law_572 : decode cL_law 572 = .ok (.iload 4, 2) := by decide +kernel
theorem dL_law_574 : decode cL_law 574 = .ok (.iconst 2, 1) := by decide +kernel
theorem dL_law_575 : decode cL_law 575 = .ok (.iadd, 1) := by decide +kernel
theorem dL_law_576 : decode cL_law 576 = .ok (.iaload, 1) := by decide +kernel
theorem dL_law_577 : decode cL_law 577 = .ok (.aload_n 0, 1) := by decide +kernel
theorem dL_law_578 : decode cL_law 578 = .ok (.iload 4, 2) := by decide +kernel
theorem dL_law_580 : decode cL_law 580 = .ok (.iconst 3, 1) := by decide +kernel
theorem dL_law_581 : decode cL_law 581 = .ok (.iadd, 1) := by decide +kernel
theorem dL_law_582 : decode cL_law 582 = .ok (.iaload, 1) := by decide +kernel
theorem dL_law_583 : decode cL_law 583 = .ok (.invokevirtual 66, 3) := by decide +kernel
theorem dL_law_586 : decode cL_law 586 = .ok (.aload_n 2, 1) := by decide +kernel
theorem dL_law_587 : decode cL_law 587 = .ok (.aload_n 0, 1) := by decide +kernel
theorem dL_law_588 : decode cL_law 588 = .ok (.iload 4, 2) := by decide +kernel
theorem dL_law_590 : decode cL_law 590 = .ok (.iconst 1, 1) := by decide +kernel
theorem dL_law_591 : decode cL_law 591 = .ok (.iadd, 1) := by decide +kernel
theorem dL_law_592 : decode cL_law 592 = .ok (.iaload, 1) := by decide +kernel
theorem dL_law_593 : decode cL_law 593 = .ok (.aload_n 0, 1) := by decide +kernel
theorem dL_law_594 : decode cL_law 594 = .ok (.iload 4, 2) := by decide +kernel
theorem dL_law_596 : decode cL_law 596 = .ok (.iconst 2, 1) := by decide +kernel
theorem dL_law_597 : decode cL_law 597 = .ok (.iadd, 1) := by decide +kernel
theorem dL_law_598 : decode cL_law 598 = .ok (.iaload, 1) := by decide +kernel
theorem dL_law_599 : decode cL_law 599 = .ok (.aload_n 0, 1) := by decide +kernel
theorem dL_law_600 : decode cL_law 600 = .ok (.iload 4, 2) := by decide +kernel
theorem dL_law_602 : decode cL_law 602 = .ok (.iconst 3, 1) := by decide +kernel
theorem dL_law_603 : decode cL_law 603 = .ok (.iadd, 1) := by decide +kernel
theorem dL_law_604 : decode cL_law 604 = .ok (.iaload, 1) := by decide +kernel
theorem dL_law_605 : decode cL_law 605 = .ok (.invokevirtual 69, 3) := by decide +kernel
theorem dL_law_608 : decode cL_law 608 = .ok (.if_icmp .eq 524, 3) := by decide +kernel
theorem dL_law_611 : decode cL_law 611 = .ok (.iconst 0, 1) := by decide +kernel
theorem dL_law_612 : decode cL_law 612 = .ok (.ireturn, 1) := by decide +kernel
theorem dL_law_613 : decode cL_law 613 = .ok (.aload_n 1, 1) := by decide +kernel
theorem dL_law_614 : decode cL_law 614 = .ok (.aload_n 0, 1) := by decide +kernel
theorem dL_law_615 : decode cL_law 615 = .ok (.iload 4, 2) := by decide +kernel
theorem dL_law_617 : decode cL_law 617 = .ok (.iconst 1, 1) := by decide +kernel
theorem dL_law_618 : decode cL_law 618 = .ok (.iadd, 1) := by decide +kernel
theorem dL_law_619 : decode cL_law 619 = .ok (.iaload, 1) := by decide +kernel
theorem dL_law_620 : decode cL_law 620 = .ok (.aload_n 0, 1) := by decide +kernel
theorem dL_law_621 : decode cL_law 621 = .ok (.iload 4, 2) := by decide +kernel
theorem dL_law_623 : decode cL_law 623 = .ok (.iconst 2, 1) := by decide +kernel
theorem dL_law_624 : decode cL_law 624 = .ok (.iadd, 1) := by decide +kernel
theorem dL_law_625 : decode cL_law 625 = .ok (.iaload, 1) := by decide +kernel
theorem dL_law_626 : decode cL_law 626 = .ok (.aload_n 0, 1) := by decide +kernel
theorem dL_law_627 : decode cL_law 627 = .ok (.iload 4, 2) := by decide +kernel
theorem dL_law_629 : decode cL_law 629 = .ok (.iconst 3, 1) := by decide +kernel
theorem dL_law_630 : decode cL_law 630 = .ok (.iadd, 1) := by decide +kernel
theorem dL_law_631 : decode cL_law 631 = .ok (.iaload, 1) := by decide +kernel
theorem dL_law_632 : decode cL_law 632 = .ok (.aload_n 0, 1) := by decide +kernel
theorem dL_law_633 : decode cL_law 633 = .ok (.iload 4, 2) := by decide +kernel
theorem dL_law_635 : decode cL_law 635 = .ok (.iconst 4, 1) := by decide +kernel
theorem dL_law_636 : decode cL_law 636 = .ok (.iadd, 1) := by decide +kernel
theorem dL_law_637 : decode cL_law 637 = .ok (.iaload, 1) := by decide +kernel
theorem dL_law_638 : decode cL_law 638 = .ok (.aload_n 0, 1) := by decide +kernel
theorem dL_law_639 : decode cL_law 639 = .ok (.iload 4, 2) := by decide +kernel
theorem dL_law_641 : decode cL_law 641 = .ok (.iconst 5, 1) := by decide +kernel
theorem dL_law_642 : decode cL_law 642 = .ok (.iadd, 1) := by decide +kernel
theorem dL_law_643 : decode cL_law 643 = .ok (.iaload, 1) := by decide +kernel
theorem dL_law_644 : decode cL_law 644 = .ok (.invokevirtual 70, 3) := by decide +kernel
theorem dL_law_647 : decode cL_law 647 = .ok (.aload_n 2, 1) := by decide +kernel
theorem dL_law_648 : decode cL_law 648 = .ok (.aload_n 0, 1) := by decide +kernel
theorem dL_law_649 : decode cL_law 649 = .ok (.iload 4, 2) := by decide +kernel
theorem dL_law_651 : decode cL_law 651 = .ok (.iconst 1, 1) := by decide +kernel
theorem dL_law_652 : decode cL_law 652 = .ok (.iadd, 1) := by decide +kernel
theorem dL_law_653 : decode cL_law 653 = .ok (.iaload, 1) := by decide +kernel
theorem dL_law_654 : decode cL_law 654 = .ok (.aload_n 0, 1) := by decide +kernel
theorem dL_law_655 : decode cL_law 655 = .ok (.iload 4, 2) := by decide +kernel
theorem dL_law_657 : decode cL_law 657 = .ok (.iconst 2, 1) := by decide +kernel
theorem dL_law_658 : decode cL_law 658 = .ok (.iadd, 1) := by decide +kernel
theorem dL_law_659 : decode cL_law 659 = .ok (.iaload, 1) := by decide +kernel
theorem dL_law_660 : decode cL_law 660 = .ok (.aload_n 0, 1) := by decide +kernel
theorem dL_law_661 : decode cL_law 661 = .ok (.iload 4, 2) := by decide +kernel
theorem dL_law_663 : decode cL_law 663 = .ok (.iconst 3, 1) := by decide +kernel
theorem dL_law_664 : decode cL_law 664 = .ok (.iadd, 1) := by decide +kernel
theorem dL_law_665 : decode cL_law 665 = .ok (.iaload, 1) := by decide +kernel
theorem dL_law_666 : decode cL_law 666 = .ok (.aload_n 0, 1) := by decide +kernel
theorem dL_law_667 : decode cL_law 667 = .ok (.iload 4, 2) := by decide +kernel
theorem dL_law_669 : decode cL_law 669 = .ok (.iconst 4, 1) := by decide +kernel
theorem dL_law_670 : decode cL_law 670 = .ok (.iadd, 1) := by decide +kernel
theorem dL_law_671 : decode cL_law 671 = .ok (.iaload, 1) := by decide +kernel
theorem dL_law_672 : decode cL_law 672 = .ok (.aload_n 0, 1) := by decide +kernel
theorem dL_law_673 : decode cL_law 673 = .ok (.iload 4, 2) := by decide +kernel
theorem dL_law_675 : decode cL_law 675 = .ok (.iconst 5, 1) := by decide +kernel
theorem dL_law_676 : decode cL_law 676 = .ok (.iadd, 1) := by decide +kernel
theorem dL_law_677 : decode cL_law 677 = .ok (.iaload, 1) := by decide +kernel
theorem dL_law_678 : decode cL_law 678 = .ok (.invokevirtual 74, 3) := by decide +kernel
theorem dL_law_681 : decode cL_law 681 = .ok (.if_icmp .eq 451, 3) := by decide +kernel
theorem dL_law_684 : decode cL_law 684 = .ok (.iconst 0, 1) := by decide +kernel
theorem dL_law_685 : decode cL_law 685 = .ok (.ireturn, 1) := by decide +kernel
theorem dL_law_686 : decode cL_law 686 = .ok (.aload_n 1, 1) := by decide +kernel
theorem dL_law_687 : decode cL_law 687 = .ok (.aload_n 0, 1) := by decide +kernel
theorem dL_law_688 : decode cL_law 688 = .ok (.iload 4, 2) := by decide +kernel
theorem dL_law_690 : decode cL_law 690 = .ok (.iconst 1, 1) := by decide +kernel
theorem dL_law_691 : decode cL_law 691 = .ok (.iadd, 1) := by decide +kernel
theorem dL_law_692 : decode cL_law 692 = .ok (.iaload, 1) := by decide +kernel
theorem dL_law_693 : decode cL_law 693 = .ok (.aload_n 0, 1) := by decide +kernel
theorem dL_law_694 : decode cL_law 694 = .ok (.iload 4, 2) := by decide +kernel
theorem dL_law_696 : decode cL_law 696 = .ok (.iconst 2, 1) := by decide +kernel
theorem dL_law_697 : decode cL_law 697 = .ok (.iadd, 1) := by decide +kernel
theorem dL_law_698 : decode cL_law 698 = .ok (.iaload, 1) := by decide +kernel
theorem dL_law_699 : decode cL_law 699 = .ok (.aload_n 0, 1) := by decide +kernel
theorem dL_law_700 : decode cL_law 700 = .ok (.iload 4, 2) := by decide +kernel
theorem dL_law_702 : decode cL_law 702 = .ok (.iconst 3, 1) := by decide +kernel
theorem dL_law_703 : decode cL_law 703 = .ok (.iadd, 1) := by decide +kernel
theorem dL_law_704 : decode cL_law 704 = .ok (.iaload, 1) := by decide +kernel
theorem dL_law_705 : decode cL_law 705 = .ok (.invokevirtual 75, 3) := by decide +kernel
theorem dL_law_708 : decode cL_law 708 = .ok (.aload_n 2, 1) := by decide +kernel
theorem dL_law_709 : decode cL_law 709 = .ok (.aload_n 0, 1) := by decide +kernel
theorem dL_law_710 : decode cL_law 710 = .ok (.iload 4, 2) := by decide +kernel
theorem dL_law_712 : decode cL_law 712 = .ok (.iconst 1, 1) := by decide +kernel
theorem dL_law_713 : decode cL_law 713 = .ok (.iadd, 1) := by decide +kernel
theorem dL_law_714 : decode cL_law 714 = .ok (.iaload, 1) := by decide +kernel
theorem dL_law_715 : decode cL_law 715 = .ok (.aload_n 0, 1) := by decide +kernel
theorem dL_law_716 : decode cL_law 716 = .ok (.iload 4, 2) := by decide +kernel
theorem dL_law_718 : decode cL_law 718 = .ok (.iconst 2, 1) := by decide +kernel
theorem dL_law_719 : decode cL_law 719 = .ok (.iadd, 1) := by decide +kernel
theorem dL_law_720 : decode cL_law 720 = .ok (.iaload, 1) := by decide +kernel
theorem dL_law_721 : decode cL_law 721 = .ok (.aload_n 0, 1) := by decide +kernel
theorem dL_law_722 : decode cL_law 722 = .ok (.iload 4, 2) := by decide +kernel
theorem dL_law_724 : decode cL_law 724 = .ok (.iconst 3, 1) := by decide +kernel
theorem dL_law_725 : decode cL_law 725 = .ok (.iadd, 1) := by decide +kernel
theorem dL_law_726 : decode cL_law 726 = .ok (.iaload, 1) := by decide +kernel
theorem dL_law_727 : decode cL_law 727 = .ok (.invokevirtual 78, 3) := by decide +kernel
theorem dL_law_730 : decode cL_law 730 = .ok (.if_icmp .eq 402, 3) := by decide +kernel
theorem dL_law_733 : decode cL_law 733 = .ok (.iconst 0, 1) := by decide +kernel
theorem dL_law_734 : decode cL_law 734 = .ok (.ireturn, 1) := by decide +kernel
theorem dL_law_735 : decode cL_law 735 = .ok (.aload_n 1, 1) := by decide +kernel
theorem dL_law_736 : decode cL_law 736 = .ok (.aload_n 0, 1) := by decide +kernel
theorem dL_law_737 : decode cL_law 737 = .ok (.iload 4, 2) := by decide +kernel
theorem dL_law_739 : decode cL_law 739 = .ok (.iconst 1, 1) := by decide +kernel
theorem dL_law_740 : decode cL_law 740 = .ok (.iadd, 1) := by decide +kernel
theorem dL_law_741 : decode cL_law 741 = .ok (.iaload, 1) := by decide +kernel
theorem dL_law_742 : decode cL_law 742 = .ok (.aload_n 0, 1) := by decide +kernel
theorem dL_law_743 : decode cL_law 743 = .ok (.iload 4, 2) := by decide +kernel
theorem dL_law_745 : decode cL_law 745 = .ok (.iconst 2, 1) := by decide +kernel
theorem dL_law_746 : decode cL_law 746 = .ok (.iadd, 1) := by decide +kernel
theorem dL_law_747 : decode cL_law 747 = .ok (.iaload, 1) := by decide +kernel
theorem dL_law_748 : decode cL_law 748 = .ok (.aload_n 0, 1) := by decide +kernel
theorem dL_law_749 : decode cL_law 749 = .ok (.iload 4, 2) := by decide +kernel
theorem dL_law_751 : decode cL_law 751 = .ok (.iconst 3, 1) := by decide +kernel
theorem dL_law_752 : decode cL_law 752 = .ok (.iadd, 1) := by decide +kernel
theorem dL_law_753 : decode cL_law 753 = .ok (.iaload, 1) := by decide +kernel
theorem dL_law_754 : decode cL_law 754 = .ok (.invokevirtual 79, 3) := by decide +kernel
theorem dL_law_757 : decode cL_law 757 = .ok (.aload_n 2, 1) := by decide +kernel
theorem dL_law_758 : decode cL_law 758 = .ok (.aload_n 0, 1) := by decide +kernel
theorem dL_law_759 : decode cL_law 759 = .ok (.iload 4, 2) := by decide +kernel
theorem dL_law_761 : decode cL_law 761 = .ok (.iconst 1, 1) := by decide +kernel
theorem dL_law_762 : decode cL_law 762 = .ok (.iadd, 1) := by decide +kernel
theorem dL_law_763 : decode cL_law 763 = .ok (.iaload, 1) := by decide +kernel
theorem dL_law_764 : decode cL_law 764 = .ok (.aload_n 0, 1) := by decide +kernel
theorem dL_law_765 : decode cL_law 765 = .ok (.iload 4, 2) := by decide +kernel
theorem dL_law_767 : decode cL_law 767 = .ok (.iconst 2, 1) := by decide +kernel
theorem dL_law_768 : decode cL_law 768 = .ok (.iadd, 1) := by decide +kernel
theorem dL_law_769 : decode cL_law 769 = .ok (.iaload, 1) := by decide +kernel
theorem dL_law_770 : decode cL_law 770 = .ok (.aload_n 0, 1) := by decide +kernel
theorem dL_law_771 : decode cL_law 771 = .ok (.iload 4, 2) := by decide +kernel
theorem dL_law_773 : decode cL_law 773 = .ok (.iconst 3, 1) := by decide +kernel
theorem dL_law_774 : decode cL_law 774 = .ok (.iadd, 1) := by decide +kernel
theorem dL_law_775 : decode cL_law 775 = .ok (.iaload, 1) := by decide +kernel
theorem dL_law_776 : decode cL_law 776 = .ok (.invokevirtual 82, 3) := by decide +kernel
theorem dL_law_779 : decode cL_law 779 = .ok (.if_icmp .eq 353, 3) := by decide +kernel
theorem dL_law_782 : decode cL_law 782 = .ok (.iconst 0, 1) := by decide +kernel
theorem dL_law_783 : decode cL_law 783 = .ok (.ireturn, 1) := by decide +kernel
theorem dL_law_784 : decode cL_law 784 = .ok (.aload_n 1, 1) := by decide +kernel
theorem dL_law_785 : decode cL_law 785 = .ok (.aload_n 0, 1) := by decide +kernel
theorem dL_law_786 : decode cL_law 786 = .ok (.iload 4, 2) := by decide +kernel
theorem dL_law_788 : decode cL_law 788 = .ok (.iconst 1, 1) := by decide +kernel
theorem dL_law_789 : decode cL_law 789 = .ok (.iadd, 1) := by decide +kernel
theorem dL_law_790 : decode cL_law 790 = .ok (.iaload, 1) := by decide +kernel
theorem dL_law_791 : decode cL_law 791 = .ok (.aload_n 0, 1) := by decide +kernel
theorem dL_law_792 : decode cL_law 792 = .ok (.iload 4, 2) := by decide +kernel
theorem dL_law_794 : decode cL_law 794 = .ok (.iconst 2, 1) := by decide +kernel
theorem dL_law_795 : decode cL_law 795 = .ok (.iadd, 1) := by decide +kernel
theorem dL_law_796 : decode cL_law 796 = .ok (.iaload, 1) := by decide +kernel
theorem dL_law_797 : decode cL_law 797 = .ok (.aload_n 0, 1) := by decide +kernel
theorem dL_law_798 : decode cL_law 798 = .ok (.iload 4, 2) := by decide +kernel
theorem dL_law_800 : decode cL_law 800 = .ok (.iconst 3, 1) := by decide +kernel
theorem dL_law_801 : decode cL_law 801 = .ok (.iadd, 1) := by decide +kernel
theorem dL_law_802 : decode cL_law 802 = .ok (.iaload, 1) := by decide +kernel
theorem dL_law_803 : decode cL_law 803 = .ok (.invokevirtual 83, 3) := by decide +kernel
theorem dL_law_806 : decode cL_law 806 = .ok (.aload_n 2, 1) := by decide +kernel
theorem dL_law_807 : decode cL_law 807 = .ok (.aload_n 0, 1) := by decide +kernel
theorem dL_law_808 : decode cL_law 808 = .ok (.iload 4, 2) := by decide +kernel
theorem dL_law_810 : decode cL_law 810 = .ok (.iconst 1, 1) := by decide +kernel
theorem dL_law_811 : decode cL_law 811 = .ok (.iadd, 1) := by decide +kernel
theorem dL_law_812 : decode cL_law 812 = .ok (.iaload, 1) := by decide +kernel
theorem dL_law_813 : decode cL_law 813 = .ok (.aload_n 0, 1) := by decide +kernel
theorem dL_law_814 : decode cL_law 814 = .ok (.iload 4, 2) := by decide +kernel
theorem dL_law_816 : decode cL_law 816 = .ok (.iconst 2, 1) := by decide +kernel
theorem dL_law_817 : decode cL_law 817 = .ok (.iadd, 1) := by decide +kernel
theorem dL_law_818 : decode cL_law 818 = .ok (.iaload, 1) := by decide +kernel
theorem dL_law_819 : decode cL_law 819 = .ok (.aload_n 0, 1) := by decide +kernel
theorem dL_law_820 : decode cL_law 820 = .ok (.iload 4, 2) := by decide +kernel
theorem dL_law_822 : decode cL_law 822 = .ok (.iconst 3, 1) := by decide +kernel
theorem dL_law_823 : decode cL_law 823 = .ok (.iadd, 1) := by decide +kernel
theorem dL_law_824 : decode cL_law 824 = .ok (.iaload, 1) := by decide +kernel
theorem dL_law_825 : decode cL_law 825 = .ok (.invokevirtual 86, 3) := by decide +kernel
theorem dL_law_828 : decode cL_law 828 = .ok (.if_icmp .eq 304, 3) := by decide +kernel
theorem dL_law_831 : decode cL_law 831 = .ok (.iconst 0, 1) := by decide +kernel
theorem dL_law_832 : decode cL_law 832 = .ok (.ireturn, 1) := by decide +kernel
theorem dL_law_833 : decode cL_law 833 = .ok (.aload_n 1, 1) := by decide +kernel
theorem dL_law_834 : decode cL_law 834 = .ok (.aload_n 0, 1) := by decide +kernel
theorem dL_law_835 : decode cL_law 835 = .ok (.iload 4, 2) := by decide +kernel
theorem dL_law_837 : decode cL_law 837 = .ok (.iconst 1, 1) := by decide +kernel
theorem dL_law_838 : decode cL_law 838 = .ok (.iadd, 1) := by decide +kernel
theorem dL_law_839 : decode cL_law 839 = .ok (.iaload, 1) := by decide +kernel
theorem dL_law_840 : decode cL_law 840 = .ok (.aload_n 0, 1) := by decide +kernel
theorem dL_law_841 : decode cL_law 841 = .ok (.iload 4, 2) := by decide +kernel
theorem dL_law_843 : decode cL_law 843 = .ok (.iconst 2, 1) := by decide +kernel
theorem dL_law_844 : decode cL_law 844 = .ok (.iadd, 1) := by decide +kernel
theorem dL_law_845 : decode cL_law 845 = .ok (.iaload, 1) := by decide +kernel
theorem dL_law_846 : decode cL_law 846 = .ok (.invokevirtual 87, 3) := by decide +kernel
theorem dL_law_849 : decode cL_law 849 = .ok (.aload_n 2, 1) := by decide +kernel
theorem dL_law_850 : decode cL_law 850 = .ok (.aload_n 0, 1) := by decide +kernel
theorem dL_law_851 : decode cL_law 851 = .ok (.iload 4, 2) := by decide +kernel
theorem dL_law_853 : decode cL_law 853 = .ok (.iconst 1, 1) := by decide +kernel
theorem dL_law_854 : decode cL_law 854 = .ok (.iadd, 1) := by decide +kernel
theorem dL_law_855 : decode cL_law 855 = .ok (.iaload, 1) := by decide +kernel
theorem dL_law_856 : decode cL_law 856 = .ok (.aload_n 0, 1) := by decide +kernel
theorem dL_law_857 : decode cL_law 857 = .ok (.iload 4, 2) := by decide +kernel
theorem dL_law_859 : decode cL_law 859 = .ok (.iconst 2, 1) := by decide +kernel
theorem dL_law_860 : decode cL_law 860 = .ok (.iadd, 1) := by decide +kernel
theorem dL_law_861 : decode cL_law 861 = .ok (.iaload, 1) := by decide +kernel
theorem dL_law_862 : decode cL_law 862 = .ok (.invokevirtual 91, 3) := by decide +kernel
theorem dL_law_865 : decode cL_law 865 = .ok (.if_icmp .eq 267, 3) := by decide +kernel
theorem dL_law_868 : decode cL_law 868 = .ok (.iconst 0, 1) := by decide +kernel
theorem dL_law_869 : decode cL_law 869 = .ok (.ireturn, 1) := by decide +kernel
theorem dL_law_870 : decode cL_law 870 = .ok (.aload_n 1, 1) := by decide +kernel
theorem dL_law_871 : decode cL_law 871 = .ok (.aload_n 0, 1) := by decide +kernel
theorem dL_law_872 : decode cL_law 872 = .ok (.iload 4, 2) := by decide +kernel
theorem dL_law_874 : decode cL_law 874 = .ok (.iconst 1, 1) := by decide +kernel
theorem dL_law_875 : decode cL_law 875 = .ok (.iadd, 1) := by decide +kernel
theorem dL_law_876 : decode cL_law 876 = .ok (.iaload, 1) := by decide +kernel
theorem dL_law_877 : decode cL_law 877 = .ok (.aload_n 0, 1) := by decide +kernel
theorem dL_law_878 : decode cL_law 878 = .ok (.iload 4, 2) := by decide +kernel
theorem dL_law_880 : decode cL_law 880 = .ok (.iconst 2, 1) := by decide +kernel
theorem dL_law_881 : decode cL_law 881 = .ok (.iadd, 1) := by decide +kernel
theorem dL_law_882 : decode cL_law 882 = .ok (.iaload, 1) := by decide +kernel
theorem dL_law_883 : decode cL_law 883 = .ok (.invokevirtual 92, 3) := by decide +kernel
theorem dL_law_886 : decode cL_law 886 = .ok (.aload_n 2, 1) := by decide +kernel
theorem dL_law_887 : decode cL_law 887 = .ok (.aload_n 0, 1) := by decide +kernel
theorem dL_law_888 : decode cL_law 888 = .ok (.iload 4, 2) := by decide +kernel
theorem dL_law_890 : decode cL_law 890 = .ok (.iconst 1, 1) := by decide +kernel
theorem dL_law_891 : decode cL_law 891 = .ok (.iadd, 1) := by decide +kernel
theorem dL_law_892 : decode cL_law 892 = .ok (.iaload, 1) := by decide +kernel
theorem dL_law_893 : decode cL_law 893 = .ok (.aload_n 0, 1) := by decide +kernel
theorem dL_law_894 : decode cL_law 894 = .ok (.iload 4, 2) := by decide +kernel
theorem dL_law_896 : decode cL_law 896 = .ok (.iconst 2, 1) := by decide +kernel
theorem dL_law_897 : decode cL_law 897 = .ok (.iadd, 1) := by decide +kernel
theorem dL_law_898 : decode cL_law 898 = .ok (.iaload, 1) := by decide +kernel
theorem dL_law_899 : decode cL_law 899 = .ok (.invokevirtual 95, 3) := by decide +kernel
theorem dL_law_902 : decode cL_law 902 = .ok (.if_icmp .eq 230, 3) := by decide +kernel
theorem dL_law_905 : decode cL_law 905 = .ok (.iconst 0, 1) := by decide +kernel
theorem dL_law_906 : decode cL_law 906 = .ok (.ireturn, 1) := by decide +kernel
theorem dL_law_907 : decode cL_law 907 = .ok (.aload_n 1, 1) := by decide +kernel
theorem dL_law_908 : decode cL_law 908 = .ok (.aload_n 0, 1) := by decide +kernel
theorem dL_law_909 : decode cL_law 909 = .ok (.iload 4, 2) := by decide +kernel
theorem dL_law_911 : decode cL_law 911 = .ok (.iconst 1, 1) := by decide +kernel
theorem dL_law_912 : decode cL_law 912 = .ok (.iadd, 1) := by decide +kernel
theorem dL_law_913 : decode cL_law 913 = .ok (.iaload, 1) := by decide +kernel
theorem dL_law_914 : decode cL_law 914 = .ok (.invokevirtual 96, 3) := by decide +kernel
theorem dL_law_917 : decode cL_law 917 = .ok (.aload_n 2, 1) := by decide +kernel
theorem dL_law_918 : decode cL_law 918 = .ok (.aload_n 0, 1) := by decide +kernel
theorem dL_law_919 : decode cL_law 919 = .ok (.iload 4, 2) := by decide +kernel
theorem dL_law_921 : decode cL_law 921 = .ok (.iconst 1, 1) := by decide +kernel
theorem dL_law_922 : decode cL_law 922 = .ok (.iadd, 1) := by decide +kernel
theorem dL_law_923 : decode cL_law 923 = .ok (.iaload, 1) := by decide +kernel
theorem dL_law_924 : decode cL_law 924 = .ok (.invokevirtual 99, 3) := by decide +kernel
theorem dL_law_927 : decode cL_law 927 = .ok (.if_icmp .eq 205, 3) := by decide +kernel
theorem dL_law_930 : decode cL_law 930 = .ok (.iconst 0, 1) := by decide +kernel
theorem dL_law_931 : decode cL_law 931 = .ok (.ireturn, 1) := by decide +kernel
theorem dL_law_932 : decode cL_law 932 = .ok (.aload_n 1, 1) := by decide +kernel
theorem dL_law_933 : decode cL_law 933 = .ok (.aload_n 0, 1) := by decide +kernel
theorem dL_law_934 : decode cL_law 934 = .ok (.iload 4, 2) := by decide +kernel
theorem dL_law_936 : decode cL_law 936 = .ok (.iconst 1, 1) := by decide +kernel
theorem dL_law_937 : decode cL_law 937 = .ok (.iadd, 1) := by decide +kernel
theorem dL_law_938 : decode cL_law 938 = .ok (.iaload, 1) := by decide +kernel
theorem dL_law_939 : decode cL_law 939 = .ok (.aload_n 0, 1) := by decide +kernel
theorem dL_law_940 : decode cL_law 940 = .ok (.iload 4, 2) := by decide +kernel
theorem dL_law_942 : decode cL_law 942 = .ok (.iconst 2, 1) := by decide +kernel
theorem dL_law_943 : decode cL_law 943 = .ok (.iadd, 1) := by decide +kernel
theorem dL_law_944 : decode cL_law 944 = .ok (.iaload, 1) := by decide +kernel
theorem dL_law_945 : decode cL_law 945 = .ok (.aload_n 0, 1) := by decide +kernel
theorem dL_law_946 : decode cL_law 946 = .ok (.iload 4, 2) := by decide +kernel
theorem dL_law_948 : decode cL_law 948 = .ok (.iconst 3, 1) := by decide +kernel
theorem dL_law_949 : decode cL_law 949 = .ok (.iadd, 1) := by decide +kernel
theorem dL_law_950 : decode cL_law 950 = .ok (.iaload, 1) := by decide +kernel
theorem dL_law_951 : decode cL_law 951 = .ok (.invokevirtual 100, 3) := by decide +kernel
theorem dL_law_954 : decode cL_law 954 = .ok (.aload_n 2, 1) := by decide +kernel
theorem dL_law_955 : decode cL_law 955 = .ok (.aload_n 0, 1) := by decide +kernel
theorem dL_law_956 : decode cL_law 956 = .ok (.iload 4, 2) := by decide +kernel
theorem dL_law_958 : decode cL_law 958 = .ok (.iconst 1, 1) := by decide +kernel
theorem dL_law_959 : decode cL_law 959 = .ok (.iadd, 1) := by decide +kernel
theorem dL_law_960 : decode cL_law 960 = .ok (.iaload, 1) := by decide +kernel
theorem dL_law_961 : decode cL_law 961 = .ok (.aload_n 0, 1) := by decide +kernel
theorem dL_law_962 : decode cL_law 962 = .ok (.iload 4, 2) := by decide +kernel
theorem dL_law_964 : decode cL_law 964 = .ok (.iconst 2, 1) := by decide +kernel
theorem dL_law_965 : decode cL_law 965 = .ok (.iadd, 1) := by decide +kernel
theorem dL_law_966 : decode cL_law 966 = .ok (.iaload, 1) := by decide +kernel
theorem dL_law_967 : decode cL_law 967 = .ok (.aload_n 0, 1) := by decide +kernel
theorem dL_law_968 : decode cL_law 968 = .ok (.iload 4, 2) := by decide +kernel
theorem dL_law_970 : decode cL_law 970 = .ok (.iconst 3, 1) := by decide +kernel
theorem dL_law_971 : decode cL_law 971 = .ok (.iadd, 1) := by decide +kernel
theorem dL_law_972 : decode cL_law 972 = .ok (.iaload, 1) := by decide +kernel
theorem dL_law_973 : decode cL_law 973 = .ok (.invokevirtual 103, 3) := by decide +kernel
theorem dL_law_976 : decode cL_law 976 = .ok (.if_icmp .eq 156, 3) := by decide +kernel
theorem dL_law_979 : decode cL_law 979 = .ok (.iconst 0, 1) := by decide +kernel
theorem dL_law_980 : decode cL_law 980 = .ok (.ireturn, 1) := by decide +kernel
theorem dL_law_981 : decode cL_law 981 = .ok (.aload_n 1, 1) := by decide +kernel
theorem dL_law_982 : decode cL_law 982 = .ok (.aload_n 0, 1) := by decide +kernel
theorem dL_law_983 : decode cL_law 983 = .ok (.iload 4, 2) := by decide +kernel
theorem dL_law_985 : decode cL_law 985 = .ok (.iconst 1, 1) := by decide +kernel
theorem dL_law_986 : decode cL_law 986 = .ok (.iadd, 1) := by decide +kernel
theorem dL_law_987 : decode cL_law 987 = .ok (.iaload, 1) := by decide +kernel
theorem dL_law_988 : decode cL_law 988 = .ok (.aload_n 0, 1) := by decide +kernel
theorem dL_law_989 : decode cL_law 989 = .ok (.iload 4, 2) := by decide +kernel
theorem dL_law_991 : decode cL_law 991 = .ok (.iconst 2, 1) := by decide +kernel
theorem dL_law_992 : decode cL_law 992 = .ok (.iadd, 1) := by decide +kernel
theorem dL_law_993 : decode cL_law 993 = .ok (.iaload, 1) := by decide +kernel
theorem dL_law_994 : decode cL_law 994 = .ok (.aload_n 0, 1) := by decide +kernel
theorem dL_law_995 : decode cL_law 995 = .ok (.iload 4, 2) := by decide +kernel
theorem dL_law_997 : decode cL_law 997 = .ok (.iconst 3, 1) := by decide +kernel
theorem dL_law_998 : decode cL_law 998 = .ok (.iadd, 1) := by decide +kernel
theorem dL_law_999 : decode cL_law 999 = .ok (.iaload, 1) := by decide +kernel
theorem dL_law_1000 : decode cL_law 1000 = .ok (.aload_n 0, 1) := by decide +kernel
theorem dL_law_1001 : decode cL_law 1001 = .ok (.iload 4, 2) := by decide +kernel
theorem dL_law_1003 : decode cL_law 1003 = .ok (.iconst 4, 1) := by decide +kernel
theorem dL_law_1004 : decode cL_law 1004 = .ok (.iadd, 1) := by decide +kernel
theorem dL_law_1005 : decode cL_law 1005 = .ok (.iaload, 1) := by decide +kernel
theorem dL_law_1006 : decode cL_law 1006 = .ok (.invokevirtual 104, 3) := by decide +kernel
theorem dL_law_1009 : decode cL_law 1009 = .ok (.aload_n 2, 1) := by decide +kernel
theorem dL_law_1010 : decode cL_law 1010 = .ok (.aload_n 0, 1) := by decide +kernel
theorem dL_law_1011 : decode cL_law 1011 = .ok (.iload 4, 2) := by decide +kernel
theorem dL_law_1013 : decode cL_law 1013 = .ok (.iconst 1, 1) := by decide +kernel
theorem dL_law_1014 : decode cL_law 1014 = .ok (.iadd, 1) := by decide +kernel
theorem dL_law_1015 : decode cL_law 1015 = .ok (.iaload, 1) := by decide +kernel
theorem dL_law_1016 : decode cL_law 1016 = .ok (.aload_n 0, 1) := by decide +kernel
theorem dL_law_1017 : decode cL_law 1017 = .ok (.iload 4, 2) := by decide +kernel
theorem dL_law_1019 : decode cL_law 1019 = .ok (.iconst 2, 1) := by decide +kernel
theorem dL_law_1020 : decode cL_law 1020 = .ok (.iadd, 1) := by decide +kernel
theorem dL_law_1021 : decode cL_law 1021 = .ok (.iaload, 1) := by decide +kernel
theorem dL_law_1022 : decode cL_law 1022 = .ok (.aload_n 0, 1) := by decide +kernel
theorem dL_law_1023 : decode cL_law 1023 = .ok (.iload 4, 2) := by decide +kernel
theorem dL_law_1025 : decode cL_law 1025 = .ok (.iconst 3, 1) := by decide +kernel
theorem dL_law_1026 : decode cL_law 1026 = .ok (.iadd, 1) := by decide +kernel
theorem dL_law_1027 : decode cL_law 1027 = .ok (.iaload, 1) := by decide +kernel
theorem dL_law_1028 : decode cL_law 1028 = .ok (.aload_n 0, 1) := by decide +kernel
theorem dL_law_1029 : decode cL_law 1029 = .ok (.iload 4, 2) := by decide +kernel
theorem dL_law_1031 : decode cL_law 1031 = .ok (.iconst 4, 1) := by decide +kernel
theorem dL_law_1032 : decode cL_law 1032 = .ok (.iadd, 1) := by decide +kernel
theorem dL_law_1033 : decode cL_law 1033 = .ok (.iaload, 1) := by decide +kernel
theorem dL_law_1034 : decode cL_law 1034 = .ok (.invokevirtual 107, 3) := by decide +kernel
theorem dL_law_1037 : decode cL_law 1037 = .ok (.if_icmp .eq 95, 3) := by decide +kernel
theorem dL_law_1040 : decode cL_law 1040 = .ok (.iconst 0, 1) := by decide +kernel
theorem dL_law_1041 : decode cL_law 1041 = .ok (.ireturn, 1) := by decide +kernel
theorem dL_law_1042 : decode cL_law 1042 = .ok (.aload_n 1, 1) := by decide +kernel
theorem dL_law_1043 : decode cL_law 1043 = .ok (.aload_n 0, 1) := by decide +kernel
theorem dL_law_1044 : decode cL_law 1044 = .ok (.iload 4, 2) := by decide +kernel
theorem dL_law_1046 : decode cL_law 1046 = .ok (.iconst 1, 1) := by decide +kernel
theorem dL_law_1047 : decode cL_law 1047 = .ok (.iadd, 1) := by decide +kernel
theorem dL_law_1048 : decode cL_law 1048 = .ok (.iaload, 1) := by decide +kernel
theorem dL_law_1049 : decode cL_law 1049 = .ok (.aload_n 0, 1) := by decide +kernel
theorem dL_law_1050 : decode cL_law 1050 = .ok (.iload 4, 2) := by decide +kernel
theorem dL_law_1052 : decode cL_law 1052 = .ok (.iconst 2, 1) := by decide +kernel
theorem dL_law_1053 : decode cL_law 1053 = .ok (.iadd, 1) := by decide +kernel
theorem dL_law_1054 : decode cL_law 1054 = .ok (.iaload, 1) := by decide +kernel
theorem dL_law_1055 : decode cL_law 1055 = .ok (.aload_n 0, 1) := by decide +kernel
theorem dL_law_1056 : decode cL_law 1056 = .ok (.iload 4, 2) := by decide +kernel
theorem dL_law_1058 : decode cL_law 1058 = .ok (.iconst 3, 1) := by decide +kernel
theorem dL_law_1059 : decode cL_law 1059 = .ok (.iadd, 1) := by decide +kernel
theorem dL_law_1060 : decode cL_law 1060 = .ok (.iaload, 1) := by decide +kernel
theorem dL_law_1061 : decode cL_law 1061 = .ok (.ifCond .eq 7, 3) := by decide +kernel
theorem dL_law_1064 : decode cL_law 1064 = .ok (.iconst 1, 1) := by decide +kernel
theorem dL_law_1065 : decode cL_law 1065 = .ok (.goto 4, 3) := by decide +kernel
theorem dL_law_1068 : decode cL_law 1068 = .ok (.iconst 0, 1) := by decide +kernel
theorem dL_law_1069 : decode cL_law 1069 = .ok (.invokevirtual 108, 3) := by decide +kernel
theorem dL_law_1072 : decode cL_law 1072 = .ok (.aload_n 2, 1) := by decide +kernel
theorem dL_law_1073 : decode cL_law 1073 = .ok (.aload_n 0, 1) := by decide +kernel
theorem dL_law_1074 : decode cL_law 1074 = .ok (.iload 4, 2) := by decide +kernel
theorem dL_law_1076 : decode cL_law 1076 = .ok (.iconst 1, 1) := by decide +kernel
theorem dL_law_1077 : decode cL_law 1077 = .ok (.iadd, 1) := by decide +kernel
theorem dL_law_1078 : decode cL_law 1078 = .ok (.iaload, 1) := by decide +kernel
theorem dL_law_1079 : decode cL_law 1079 = .ok (.aload_n 0, 1) := by decide +kernel
theorem dL_law_1080 : decode cL_law 1080 = .ok (.iload 4, 2) := by decide +kernel
theorem dL_law_1082 : decode cL_law 1082 = .ok (.iconst 2, 1) := by decide +kernel
theorem dL_law_1083 : decode cL_law 1083 = .ok (.iadd, 1) := by decide +kernel
theorem dL_law_1084 : decode cL_law 1084 = .ok (.iaload, 1) := by decide +kernel
theorem dL_law_1085 : decode cL_law 1085 = .ok (.aload_n 0, 1) := by decide +kernel
theorem dL_law_1086 : decode cL_law 1086 = .ok (.iload 4, 2) := by decide +kernel
theorem dL_law_1088 : decode cL_law 1088 = .ok (.iconst 3, 1) := by decide +kernel
theorem dL_law_1089 : decode cL_law 1089 = .ok (.iadd, 1) := by decide +kernel
theorem dL_law_1090 : decode cL_law 1090 = .ok (.iaload, 1) := by decide +kernel
theorem dL_law_1091 : decode cL_law 1091 = .ok (.ifCond .eq 7, 3) := by decide +kernel
theorem dL_law_1094 : decode cL_law 1094 = .ok (.iconst 1, 1) := by decide +kernel
theorem dL_law_1095 : decode cL_law 1095 = .ok (.goto 4, 3) := by decide +kernel
theorem dL_law_1098 : decode cL_law 1098 = .ok (.iconst 0, 1) := by decide +kernel
theorem dL_law_1099 : decode cL_law 1099 = .ok (.invokevirtual 112, 3) := by decide +kernel
theorem dL_law_1102 : decode cL_law 1102 = .ok (.if_icmp .eq 30, 3) := by decide +kernel
theorem dL_law_1105 : decode cL_law 1105 = .ok (.iconst 0, 1) := by decide +kernel
theorem dL_law_1106 : decode cL_law 1106 = .ok (.ireturn, 1) := by decide +kernel
theorem dL_law_1107 : decode cL_law 1107 = .ok (.aload_n 1, 1) := by decide +kernel
theorem dL_law_1108 : decode cL_law 1108 = .ok (.aload_n 0, 1) := by decide +kernel
theorem dL_law_1109 : decode cL_law 1109 = .ok (.iload 4, 2) := by decide +kernel
theorem dL_law_1111 : decode cL_law 1111 = .ok (.iconst 1, 1) := by decide +kernel
theorem dL_law_1112 : decode cL_law 1112 = .ok (.iadd, 1) := by decide +kernel
theorem dL_law_1113 : decode cL_law 1113 = .ok (.iaload, 1) := by decide +kernel
theorem dL_law_1114 : decode cL_law 1114 = .ok (.invokevirtual 113, 3) := by decide +kernel
theorem dL_law_1117 : decode cL_law 1117 = .ok (.aload_n 2, 1) := by decide +kernel
theorem dL_law_1118 : decode cL_law 1118 = .ok (.aload_n 0, 1) := by decide +kernel
theorem dL_law_1119 : decode cL_law 1119 = .ok (.iload 4, 2) := by decide +kernel
theorem dL_law_1121 : decode cL_law 1121 = .ok (.iconst 1, 1) := by decide +kernel
theorem dL_law_1122 : decode cL_law 1122 = .ok (.iadd, 1) := by decide +kernel
theorem dL_law_1123 : decode cL_law 1123 = .ok (.iaload, 1) := by decide +kernel
theorem dL_law_1124 : decode cL_law 1124 = .ok (.invokevirtual 116, 3) := by decide +kernel
theorem dL_law_1127 : decode cL_law 1127 = .ok (.if_icmp .eq 5, 3) := by decide +kernel
theorem dL_law_1130 : decode cL_law 1130 = .ok (.iconst 0, 1) := by decide +kernel
theorem dL_law_1131 : decode cL_law 1131 = .ok (.ireturn, 1) := by decide +kernel
theorem dL_law_1132 : decode cL_law 1132 = .ok (.iinc 4 6, 3) := by decide +kernel
theorem dL_law_1135 : decode cL_law 1135 = .ok (.goto (-1112), 3) := by decide +kernel
theorem dL_law_1138 : decode cL_law 1138 = .ok (.iconst 1, 1) := by decide +kernel
theorem dL_law_1139 : decode cL_law 1139 = .ok (.ireturn, 1) := by decide +kernel
end
section
/-! THE GHOST HEAP: what a method knows of the heap, an address its role and its content; a role tells addresses apart -/
abbrev zR : Type := Nat × Nat × Nat
abbrev zH : Type := Nat → Option (zR × va_E)
/-- classes and field places; array classes; numbers fixed for a launch (0: the first address that may be written; 1: the list's static empty array; 2: the table of price tops) -/
abbrev zK : Type := va_G × (Nat → ClassId) × (Nat → Nat)
def zu (G : zH) (a : Nat) (x : zR × va_E) : zH := fun b => if b = a then some x else G b
theorem zu_s {G : zH} {a : Nat} {x : zR × va_E} : zu G a x a = some x := if_pos rfl
theorem zu_n {G : zH} {a b : Nat} {x : zR × va_E} (h : b ≠ a) : zu G a x b = G b := if_neg h
theorem zr_n {G : zH} {a b : Nat} {r1 r2 : zR} {e1 e2 : va_E} (h1 : G a = some (r1, e1)) (h2 : G b = some (r2, e2)) (h : r1 ≠ r2) : a ≠ b := fun q => by
  subst q
  rw [h1] at h2
  cases h2
  exact h rfl
theorem zu_r {G : zH} {a b : Nat} {r1 r2 : zR} {e1 e2 : va_E} {x : zR × va_E} (h1 : G a = some (r1, e1)) (h2 : G b = some (r2, e2)) (h : r2 ≠ r1) : zu G a x b = some (r2, e2) := by
  rw [zu_n (zr_n h2 h1 h)]; exact h2
def zA (κ : zK) : Nat → Prop := fun q => κ.2.2 0 ≤ q
def zh (κ : zK) (G : zH) (H : Heap) : Prop := ∀ (a : Nat) (r : zR) (e : va_E), G a = some (r, e) → va_at κ.1 vwCl (a, e) H ∧ κ.2.2 0 ≤ a
def zt (κ : zK) : List (ClassId × FieldType) := [(κ.2.1 0, .int), (κ.2.1 1, .boolean), (κ.2.1 2, .object "java/lang/Object"), (κ.2.1 3, .array .int), (κ.2.1 4, .long)]
def zen (G : zH) (n : Nat) : va_W := (List.range n).filterMap (fun b => (G b).map (fun x => (b, x.2)))
theorem zen_mem {G : zH} {n a : Nat} {e : va_E} : (a, e) ∈ zen G n ↔ a < n ∧ ∃ r, G a = some (r, e) := by
  unfold zen
  simp only [List.mem_filterMap, List.mem_range, Option.map_eq_some_iff]
  constructor
  · rintro ⟨b, hb, ⟨r, e'⟩, hx, hy⟩
    cases hy
    exact ⟨hb, r, hx⟩
  · rintro ⟨h, r, hr⟩
    exact ⟨a, h, (r, e), hr, rfl⟩
theorem zen_nd {G : zH} {n : Nat} (i j : Nat) (p q : Nat × va_E) (hi : (zen G n)[i]? = some p) (hj : (zen G n)[j]? = some q) (h : p.1 = q.1) : i = j := by
  have hp : (zen G n).Pairwise (fun p q => p.1 ≠ q.1) := by
    unfold zen
    rw [List.pairwise_filterMap]
    refine List.Pairwise.imp ?_ List.nodup_range
    intro a b hab x hx y hy
    obtain ⟨_, _, rfl⟩ := Option.map_eq_some_iff.mp hx
    obtain ⟨_, _, rfl⟩ := Option.map_eq_some_iff.mp hy
    exact hab
  obtain ⟨h1, rfl⟩ := List.getElem?_eq_some_iff.mp hi
  obtain ⟨h2, rfl⟩ := List.getElem?_eq_some_iff.mp hj
  rcases Nat.lt_trichotomy i j with c | c | c
  · exact absurd h (List.pairwise_iff_getElem.mp hp i j h1 h2 c)
  · exact c
  · exact absurd h.symm (List.pairwise_iff_getElem.mp hp j i h2 h1 c)
theorem zen_P {κ : zK} {G : zH} {H : Heap} (h : zh κ G H) : va_P κ.1 vwCl (zen G H.size) H := fun k q hk => by
  obtain ⟨-, r, hr⟩ := zen_mem.mp (List.mem_of_getElem? (show (zen G H.size)[k]? = some (q.1, q.2) from hk))
  exact (h _ _ _ hr).1
theorem zen_D {κ : zK} {G : zH} {H : Heap} (h : zh κ G H) : va_D (zA κ) (zen G H.size) := ⟨zen_nd, fun k q hk => by
  obtain ⟨-, r, hr⟩ := zen_mem.mp (List.mem_of_getElem? (show (zen G H.size)[k]? = some (q.1, q.2) from hk))
  exact (h _ _ _ hr).2⟩
theorem zh_lt {κ : zK} {G : zH} {H : Heap} (h : zh κ G H) {a : Nat} {x : zR × va_E} (ha : G a = some x) : a < H.size := (h a x.1 x.2 ha).1.lt
theorem zen_ix {κ : zK} {G : zH} {H : Heap} (h : zh κ G H) {a : Nat} {r : zR} {e : va_E} (ha : G a = some (r, e)) : ∃ q0 : Nat, (zen G H.size)[q0]? = some (a, e) :=
  List.mem_iff_getElem?.mp (zen_mem.mpr ⟨zh_lt h ha, r, ha⟩)
theorem zen_set {κ : zK} {G : zH} {H H1 : Heap} (h : zh κ G H) {a q0 : Nat} {r : zR} {e e' : va_E} (ha : G a = some (r, e)) (hq : (zen G H.size)[q0]? = some (a, e)) (hP : va_P κ.1 vwCl ((zen G H.size).set q0 (a, e')) H1) : zh κ (zu G a (r, e')) H1 := by
  intro b rb eb hb
  have hl := (List.getElem?_eq_some_iff.mp hq).1
  by_cases hba : b = a
  · subst hba
    rw [zu_s] at hb
    cases hb
    exact ⟨hP q0 _ (by rw [List.getElem?_set]; simp [hl]), (h _ _ _ ha).2⟩
  · rw [zu_n hba] at hb
    obtain ⟨i, hi⟩ := zen_ix h hb
    have hne : q0 ≠ i := fun q => by
      subst q
      rw [hq] at hi
      cases hi
      exact hba rfl
    exact ⟨hP i _ (by rw [List.getElem?_set_ne hne]; exact hi), (h _ _ _ hb).2⟩
theorem zen_push {κ : zK} {G : zH} {H H1 : Heap} (h : zh κ G H) {q : Nat} (r : zR) {e : va_E} (hP : va_P κ.1 vwCl (zen G H.size ++ [(q, e)]) H1) (hD : va_D (zA κ) (zen G H.size ++ [(q, e)])) : G q = none ∧ κ.2.2 0 ≤ q ∧ zh κ (zu G q (r, e)) H1 := by
  have hlast : (zen G H.size ++ [(q, e)])[(zen G H.size).length]? = some (q, e) := by rw [List.getElem?_append_right (Nat.le_refl _)]; simp
  have hA : κ.2.2 0 ≤ q := hD.2 _ _ hlast
  have hn : G q = none := by
    cases hG : G q with
    | none => rfl
    | some x =>
      obtain ⟨i, hi⟩ := zen_ix h (show G q = some (x.1, x.2) from hG)
      have hil := (List.getElem?_eq_some_iff.mp hi).1
      have := hD.1 i _ (q, x.2) (q, e) (by rw [List.getElem?_append_left hil]; exact hi) hlast rfl
      omega
  refine ⟨hn, hA, fun b rb eb hb => ?_⟩
  by_cases hba : b = q
  · subst hba
    rw [zu_s] at hb
    cases hb
    exact ⟨hP _ _ hlast, hA⟩
  · rw [zu_n hba] at hb
    obtain ⟨i, hi⟩ := zen_ix h hb
    have hil := (List.getElem?_eq_some_iff.mp hi).1
    exact ⟨hP i _ (by rw [List.getElem?_append_left hil]; exact hi), (h _ _ _ hb).2⟩
/-! STATICS that nobody writes -/
def zTops (j : Nat) : Int32 := [20, 200, 20, 200, 10000].getD j 0
def zS (κ : zK) (U : State) (H : Heap) : Prop :=
  va_Z "java/util/ArrayList" "DEFAULTCAPACITY_EMPTY_ELEMENTDATA" "[Ljava/lang/Object;" (.ref (κ.2.2 1)) (zA κ) U H ∧
  va_T (.object "java/lang/Object") (κ.2.2 1) 0 (fun _ => .null) (zA κ) U H ∧
  va_Z "TuneHouse$Prices" "TOPS" "[I" (.ref (κ.2.2 2)) (zA κ) U H ∧
  va_T .int (κ.2.2 2) 5 (fun j => .int (zTops j)) (zA κ) U H
theorem zS.moved {κ : zK} {u U : State} {H : Heap} (hvm : u.vm.Alike U.vm) (h : zS κ u H) : zS κ U H := ⟨h.1.moved hvm, h.2.1.moved hvm, h.2.2.1.moved hvm, h.2.2.2.moved hvm⟩
theorem zS.kept {κ : zK} {U : State} {H H1 : Heap} {locs : List Loc} (h : zS κ U H) (hS : va_S (zA κ) H H1 locs) : zS κ U H1 := ⟨h.1.kept (fun a h1 h2 => hS.2.1 a h1 h2), h.2.1.kept (fun a h1 h2 => hS.2.1 a h1 h2), h.2.2.1.kept (fun a h1 h2 => hS.2.1 a h1 h2), h.2.2.2.kept (fun a h1 h2 => hS.2.1 a h1 h2)⟩
def zN (U : State) : Prop := (∀ w ∈ NB, va_Nw w U) ∧ va_AO "java/lang/Object" U
theorem zN.moved {s U : State} (hW : s.WarmedH U.vm) (h : zN s) : zN U := ⟨fun w hw => by
  have h1 := h.1 w hw
  have hi : isN w = true := (List.mem_filter.mp hw).2
  cases w
  case methodLinkNest => exact va_Nw.warmM hW h1
  case fieldLinkNest => exact va_Nw.warmF hW h1
  case castable => exact va_Nw.warmC hW h1
  case declares => exact va_Nw.warmD hW h1
  all_goals exact absurd hi (by simp [isN]), h.2.moved hW.alike⟩
theorem NB_tab : ∀ w ∈ NB, w.onTables = true := fun w hw => by
  have hi : isN w = true := (List.mem_filter.mp hw).2
  cases w
  case methodLinkNest => rfl
  case fieldLinkNest => rfl
  case castable => rfl
  case declares => rfl
  all_goals exact absurd hi (by simp [isN])
theorem zN.same {s U : State} (h0 : s.vm = U.vm) (h : zN s) : zN U := ⟨fun w hw => va_Nw.same (NB_tab w hw) h0 (h.1 w hw), h.2.moved (by rw [h0]; exact Vm.Alike.refl U.vm)⟩
def zOK (κ : zK) (U : State) : Prop := κ.2.2 0 ≤ U.heap.size ∧ va_K κ.1 vwCl (zt κ) U ∧ zS κ U U.heap ∧ zN U
theorem zOK.at {κ : zK} {s U : State} {H : Heap} {locs : List Loc} (h : zOK κ s) (hS : va_S (zA κ) s.heap H locs) (hU : U.heap = H) (hW : s.WarmedH U.vm) : zOK κ U := by
  subst hU
  exact ⟨Nat.le_trans h.1 hS.1, va_K.moved hW.alike h.2.1, (h.2.2.1.kept hS).moved hW.alike, h.2.2.2.moved hW⟩
theorem zOK.call {κ : zK} {U : State} {g : JFrame} {mk : MethodId} {a : Array Value} (h : zOK κ U) : zOK κ (U.calling g mk a) := ⟨h.1, va_K.moved (u := U) (Vm.Alike.refl U.vm) h.2.1, h.2.2.1.moved (u := U) (Vm.Alike.refl U.vm), h.2.2.2.same (s := U) rfl⟩
/-! LOCALS -/
def zlh (ls : Array Slot) (nL : Nat) (L : List (Option Value)) : Prop := ls.size = nL ∧ lv_wf ls ∧ ∀ (i : Nat) (v : Value), L[i]? = some (some v) → ls[i]? = some (.val v) ∧ v.category = 1
def zpr (L : List (Option Value)) : List (Nat × Value) := (List.range L.length).filterMap (fun i => match L[i]? with | some (some v) => some (i, v) | _ => none)
theorem zpr_mem {L : List (Option Value)} {i : Nat} {v : Value} : (i, v) ∈ zpr L ↔ L[i]? = some (some v) := by
  unfold zpr
  simp only [List.mem_filterMap, List.mem_range]
  constructor
  · rintro ⟨j, hj, h⟩
    cases h1 : L[j]? with
    | none => rw [h1] at h; cases h
    | some w => cases w with
      | none => rw [h1] at h; cases h
      | some w => rw [h1] at h; cases h; exact h1
  · intro h
    exact ⟨i, (List.getElem?_eq_some_iff.mp h).1, by rw [h]⟩
theorem zlh_has {ls : Array Slot} {nL : Nat} {L : List (Option Value)} (h : zlh ls nL L) : lv_has ls nL (zpr L) := ⟨h.1, h.2.1, fun q hq => (h.2.2 q.1 q.2 (zpr_mem.mp hq)).1⟩
theorem zlh_set {ls ls' : Array Slot} {nL i : Nat} {L L' : List (Option Value)} {x : Value} (h : zlh ls nL L) (hc : x.category = 1) (h' : lv_has ls' nL ((i, x) :: (zpr L).filter (fun q => !(q.1 == i) && !(q.1 + 1 == i && q.2.category == 2)))) (hs : L.set i (some x) = L') : zlh ls' nL L' := by
  subst hs
  refine ⟨h'.1, h'.2.1, fun j v hj => ?_⟩
  by_cases hji : j = i
  · subst hji
    have hl : j < L.length := by
      have := (List.getElem?_eq_some_iff.mp hj).1
      simpa using this
    rw [List.getElem?_set] at hj
    simp [hl] at hj
    subst hj
    exact ⟨h'.2.2 (j, x) List.mem_cons_self, hc⟩
  · rw [List.getElem?_set_ne (fun q => hji q.symm)] at hj
    have hv := h.2.2 j v hj
    refine ⟨h'.2.2 (j, v) (List.mem_cons_of_mem _ (List.mem_filter.mpr ⟨zpr_mem.mpr hj, ?_⟩)), hv.2⟩
    simp [hji, hv.2]
theorem zargs_mem : ∀ (vs : List Value) (k i : Nat) (v : Value), (∀ w ∈ vs, w.category = 1) → vs[i]? = some v → (k + i, v) ∈ lv_args k vs
  | [], _, _, _, _, h => by cases h
  | w :: vs, k, 0, v, _, h => by cases h; exact List.mem_cons_self
  | w :: vs, k, i + 1, v, hc, h => by
    have h1 : vs[i]? = some v := h
    have hw : ¬ w.category = 2 := by rw [hc w List.mem_cons_self]; decide
    have := zargs_mem vs (k + 1) i v (fun x hx => hc x (List.mem_cons_of_mem _ hx)) h1
    show (k + (i + 1), v) ∈ (k, w) :: lv_args (if w.category = 2 then k + 2 else k + 1) vs
    rw [if_neg hw]
    refine List.mem_cons_of_mem _ ?_
    rw [show k + (i + 1) = k + 1 + i by omega]
    exact this
/-! THE JUDGEMENT: with what is fixed given, from the frame at pc, over any heap that holds G, the walk comes to Q -/
def zCx (p : Program) (s : State) (m : MethodId) (args : Array Value) (meth : Method) (c : Code) (y : MethodName) (cc : ByteArray) (nL : Nat) (ret : Option FieldType) (κ : zK) : Prop :=
  p.tables.exec = Jvm.exec ∧ c.code = cc ∧ c.maxLocals = nL ∧ s.vm.findClass y.cls = some m.cls ∧ (∀ w ∈ TB, w.before args s = true) ∧ zOK κ s ∧ meth.sig.returnType = ret ∧ meth.locks = false ∧ meth.name = y.name
def Z (p : Program) (l : Launch) (e : Env) (R : Room) (s : State) (m : MethodId) (args : Array Value) (below : List Frame) (meth : Method) (c : Code) (y : MethodName) (cc : ByteArray) (nL : Nat) (ret : Option FieldType) (κ : zK) (Q : State → Prop) (nc ns : Nat) (G : zH) (L : List (Option Value)) (pc : Nat) (st : List Value) : Prop :=
  zCx p s m args meth c y cc nL ret κ → ∀ (H : Heap) (locs : List Loc) (ls : Array Slot), zh κ G H → va_S (zA κ) s.heap H locs → zlh ls nL L → W p l e R s m args below meth c H locs nc ns Q (F0 m pc ls st)
def zQc (κ : zK) (post : Option Value → zH → Prop) : Array Value → State → Outcome → State → Prop := fun _ st oc t => (∃ (r : Option Value) (G' : zH), oc = .returned r ∧ post r G' ∧ zh κ G' t.heap) ∧ va_F (zA κ) st t
/-- a method's contract: from the arguments av and the ghost heap G, it returns, and 'post' tells the answer and the ghost heap behind -/
def Ct (l : Launch) (y : MethodName) (cc : ByteArray) (nL : Nat) (ret : Option FieldType) (rm : Room) (κ : zK) (av : List Value) (G : zH) (post : Option Value → zH → Prop) : Prop :=
  Met l y (.code y cc nL ret :: TB) rm (va_Pc av (fun U => zOK κ U ∧ zh κ G U.heap)) (zQc κ post) rm.cells rm.slots (zA κ)
theorem zsl_len : ∀ (av : List Value), (∀ v ∈ av, v.category = 1) → (lg_sl av).length = av.length
  | [], _ => rfl
  | w :: vs, h => by
    have hw : ¬ w.category = 2 := by rw [h w List.mem_cons_self]; decide
    have ih := zsl_len vs (fun v hv => h v (List.mem_cons_of_mem _ hv))
    unfold lg_sl at ih ⊢
    simp only [List.flatMap_cons, hw, if_false, List.length_append, List.length_cons, List.length_nil]
    rw [ih]
    omega
theorem Ct.of {l : Launch} {y : MethodName} {cc : ByteArray} {nL : Nat} {ret : Option FieldType} {rm : Room} {κ : zK} {av : List Value} {G : zH} {post : Option Value → zH → Prop} (hy : plainName y.cls = true) (hav : ∀ v ∈ av, v.category = 1) (hn : av.length ≤ nL)
    (body : ∀ (p : Program) (e : Env) (s : State) (m : MethodId) (args : Array Value) (below : List Frame) (meth : Method) (c : Code), Z p l e rm s m args below meth c y cc nL ret κ (MQ below (zQc κ post) args s rm.cells rm.slots (zA κ)) 0 0 G (av.map some ++ List.replicate (nL - av.length) none) 0 []) : Ct l y cc nL ret rm κ av G post := by
  refine Met.ofW (cc := cc) (maxL := nL) (ret := ret) hy rfl ?_
  intro p e s m args below meth c s₁ B hml hv
  obtain ⟨rfl, hok, hgh⟩ := hv
  have hts := atoms_spec (ws := .code y cc nL ret :: TB) B.pre
  have hsl := zsl_len av hav
  have hl := lv_entry av (n := nL) (by rw [hsl]; exact hn)
  rw [lg_entry_eq]
  refine body p e s m _ below meth c ⟨B.exec, B.bytes, hml, findClass_of_methodNamed B.named, fun w h => hts w (List.mem_cons_of_mem _ h), hok, B.returns, B.notSynchronized, (name_of_methodNamed B.named B.method).1⟩ s.heap [] _ hgh va_S.rf ⟨hl.1, hl.2.1, fun i v hi => ?_⟩
  by_cases hia : i < av.length
  · rw [List.getElem?_append_left (by simpa using hia), List.getElem?_map] at hi
    cases hv : av[i]? with
    | none => rw [hv] at hi; cases hi
    | some w =>
      rw [hv] at hi
      cases hi
      refine ⟨hl.2.2 (i, v) ?_, hav v (List.mem_of_getElem? hv)⟩
      have := zargs_mem av 0 i v hav hv
      rwa [Nat.zero_add] at this
  · rw [List.getElem?_append_right (by simpa using hia), List.getElem?_replicate] at hi
    split at hi <;> cases hi
abbrev pI (P : Int32 → zH → Prop) : Option Value → zH → Prop := fun r G => ∃ v : Int32, r = some (.int v) ∧ P v G
abbrev pV (P : zH → Prop) : Option Value → zH → Prop := fun r G => r = none ∧ P G
abbrev pA (P : Option Nat → zH → Prop) : Option Value → zH → Prop := fun r G => ∃ v : Option Nat, r = some (va_rf v) ∧ P v G
section ZR
variable {p : Program} {l : Launch} {e : Env} {R : Room} {s : State} {m : MethodId} {args : Array Value} {below : List Frame} {meth : Method} {c : Code} {y : MethodName} {cc : ByteArray} {nL : Nat} {ret : Option FieldType} {κ : zK} {Q : State → Prop} {nc ns : Nat} {G : zH} {L : List (Option Value)} {pc : Nat} {st : List Value}
theorem z_iadd {x w : Int32} (hd : decode cc pc = .ok (.iadd, 1)) (k : Z p l e R s m args below meth c y cc nL ret κ Q nc ns G L (pc + 1) (.int (x + w) :: st)) : Z p l e R s m args below meth c y cc nL ret κ Q nc ns G L pc (.int w :: .int x :: st) := fun C H locs ls hg hs hl => lv_iadd C.1 C.2.1 hd (k C H locs ls hg hs hl)
theorem z_isub {x w : Int32} (hd : decode cc pc = .ok (.isub, 1)) (k : Z p l e R s m args below meth c y cc nL ret κ Q nc ns G L (pc + 1) (.int (x - w) :: st)) : Z p l e R s m args below meth c y cc nL ret κ Q nc ns G L pc (.int w :: .int x :: st) := fun C H locs ls hg hs hl => lv_isub C.1 C.2.1 hd (k C H locs ls hg hs hl)
theorem z_imul {x w : Int32} (hd : decode cc pc = .ok (.imul, 1)) (k : Z p l e R s m args below meth c y cc nL ret κ Q nc ns G L (pc + 1) (.int (x * w) :: st)) : Z p l e R s m args below meth c y cc nL ret κ Q nc ns G L pc (.int w :: .int x :: st) := fun C H locs ls hg hs hl => lv_imul C.1 C.2.1 hd (k C H locs ls hg hs hl)
theorem z_iand {x w : Int32} (hd : decode cc pc = .ok (.iand, 1)) (k : Z p l e R s m args below meth c y cc nL ret κ Q nc ns G L (pc + 1) (.int (x &&& w) :: st)) : Z p l e R s m args below meth c y cc nL ret κ Q nc ns G L pc (.int w :: .int x :: st) := fun C H locs ls hg hs hl => lv_iand C.1 C.2.1 hd (k C H locs ls hg hs hl)
theorem z_ior {x w : Int32} (hd : decode cc pc = .ok (.ior, 1)) (k : Z p l e R s m args below meth c y cc nL ret κ Q nc ns G L (pc + 1) (.int (x ||| w) :: st)) : Z p l e R s m args below meth c y cc nL ret κ Q nc ns G L pc (.int w :: .int x :: st) := fun C H locs ls hg hs hl => lv_ior C.1 C.2.1 hd (k C H locs ls hg hs hl)
theorem z_ishl {x w : Int32} (hd : decode cc pc = .ok (.ishl, 1)) (k : Z p l e R s m args below meth c y cc nL ret κ Q nc ns G L (pc + 1) (.int (x <<< (w &&& 31)) :: st)) : Z p l e R s m args below meth c y cc nL ret κ Q nc ns G L pc (.int w :: .int x :: st) := fun C H locs ls hg hs hl => lv_ishl C.1 C.2.1 hd (k C H locs ls hg hs hl)
theorem z_ishr {x w : Int32} (hd : decode cc pc = .ok (.ishr, 1)) (k : Z p l e R s m args below meth c y cc nL ret κ Q nc ns G L (pc + 1) (.int (x >>> (w &&& 31)) :: st)) : Z p l e R s m args below meth c y cc nL ret κ Q nc ns G L pc (.int w :: .int x :: st) := fun C H locs ls hg hs hl => lv_ishr C.1 C.2.1 hd (k C H locs ls hg hs hl)
theorem z_ineg {x : Int32} (hd : decode cc pc = .ok (.ineg, 1)) (k : Z p l e R s m args below meth c y cc nL ret κ Q nc ns G L (pc + 1) (.int (-x) :: st)) : Z p l e R s m args below meth c y cc nL ret κ Q nc ns G L pc (.int x :: st) := fun C H locs ls hg hs hl => lv_ineg C.1 C.2.1 hd (k C H locs ls hg hs hl)
theorem z_idiv {x w : Int32} (h0 : ¬ w = 0) (hd : decode cc pc = .ok (.idiv, 1)) (k : Z p l e R s m args below meth c y cc nL ret κ Q nc ns G L (pc + 1) (.int (x / w) :: st)) : Z p l e R s m args below meth c y cc nL ret κ Q nc ns G L pc (.int w :: .int x :: st) := fun C H locs ls hg hs hl => lv_idiv C.1 C.2.1 hd h0 (k C H locs ls hg hs hl)
theorem z_irem {x w : Int32} (h0 : ¬ w = 0) (hd : decode cc pc = .ok (.irem, 1)) (k : Z p l e R s m args below meth c y cc nL ret κ Q nc ns G L (pc + 1) (.int (x - x / w * w) :: st)) : Z p l e R s m args below meth c y cc nL ret κ Q nc ns G L pc (.int w :: .int x :: st) := fun C H locs ls hg hs hl => lv_irem C.1 C.2.1 hd h0 (k C H locs ls hg hs hl)
theorem z_i2l {x : Int32} (hd : decode cc pc = .ok (.i2l, 1)) (k : Z p l e R s m args below meth c y cc nL ret κ Q nc ns G L (pc + 1) (.long x.toInt64 :: st)) : Z p l e R s m args below meth c y cc nL ret κ Q nc ns G L pc (.int x :: st) := fun C H locs ls hg hs hl => lv_i2l C.1 C.2.1 hd rfl (k C H locs ls hg hs hl)
theorem z_iconst {n : Int} (v : Int32) (hv : Int32.ofInt n = v) (hd : decode cc pc = .ok (.iconst n, 1)) (k : Z p l e R s m args below meth c y cc nL ret κ Q nc ns G L (pc + 1) (.int v :: st)) : Z p l e R s m args below meth c y cc nL ret κ Q nc ns G L pc st := fun C H locs ls hg hs hl => lv_iconst C.1 C.2.1 hd hv (k C H locs ls hg hs hl)
theorem z_bipush {n : Int} (v : Int32) (hv : (Int8.ofInt n).toInt32 = v) (hd : decode cc pc = .ok (.bipush n, 2)) (k : Z p l e R s m args below meth c y cc nL ret κ Q nc ns G L (pc + 2) (.int v :: st)) : Z p l e R s m args below meth c y cc nL ret κ Q nc ns G L pc st := fun C H locs ls hg hs hl => lv_bipush C.1 C.2.1 hd hv (k C H locs ls hg hs hl)
theorem z_sipush {n : Int} (v : Int32) (hv : (Int16.ofInt n).toInt32 = v) (hd : decode cc pc = .ok (.sipush n, 3)) (k : Z p l e R s m args below meth c y cc nL ret κ Q nc ns G L (pc + 3) (.int v :: st)) : Z p l e R s m args below meth c y cc nL ret κ Q nc ns G L pc st := fun C H locs ls hg hs hl => lv_sipush C.1 C.2.1 hd hv (k C H locs ls hg hs hl)
theorem z_null  (hd : decode cc pc = .ok (.aconst_null, 1)) (k : Z p l e R s m args below meth c y cc nL ret κ Q nc ns G L (pc + 1) (.null :: st)) : Z p l e R s m args below meth c y cc nL ret κ Q nc ns G L pc st := fun C H locs ls hg hs hl => lv_null C.1 C.2.1 hd (k C H locs ls hg hs hl)
theorem z_dup {v : Value} (hv : v.category = 1) (hd : decode cc pc = .ok (.dup, 1)) (k : Z p l e R s m args below meth c y cc nL ret κ Q nc ns G L (pc + 1) (v :: v :: st)) : Z p l e R s m args below meth c y cc nL ret κ Q nc ns G L pc (v :: st) := fun C H locs ls hg hs hl => lv_dup C.1 C.2.1 hd hv (k C H locs ls hg hs hl)
theorem z_dup_x1 {v w : Value} (hv : v.category = 1) (hw : w.category = 1) (hd : decode cc pc = .ok (.dup_x1, 1)) (k : Z p l e R s m args below meth c y cc nL ret κ Q nc ns G L (pc + 1) (v :: w :: v :: st)) : Z p l e R s m args below meth c y cc nL ret κ Q nc ns G L pc (v :: w :: st) := fun C H locs ls hg hs hl => lv_dup_x1 C.1 C.2.1 hd hv hw (k C H locs ls hg hs hl)
theorem z_dup2 {v w : Value} (hv : v.category = 1) (hw : w.category = 1) (hd : decode cc pc = .ok (.dup2, 1)) (k : Z p l e R s m args below meth c y cc nL ret κ Q nc ns G L (pc + 1) (v :: w :: v :: w :: st)) : Z p l e R s m args below meth c y cc nL ret κ Q nc ns G L pc (v :: w :: st) := fun C H locs ls hg hs hl => lv_dup2_11 C.1 C.2.1 hd hv hw (k C H locs ls hg hs hl)
theorem z_pop {v : Value} (hv : v.category = 1) (hd : decode cc pc = .ok (.pop, 1)) (k : Z p l e R s m args below meth c y cc nL ret κ Q nc ns G L (pc + 1) st) : Z p l e R s m args below meth c y cc nL ret κ Q nc ns G L pc (v :: st) := fun C H locs ls hg hs hl => lv_pop C.1 C.2.1 hd hv (k C H locs ls hg hs hl)
theorem z_ldc {i : Nat} {v : Int32} (hw : Cond.constant y.cls i v ∈ TB) (hd : decode cc pc = .ok (.ldc i, 2)) (k : Z p l e R s m args below meth c y cc nL ret κ Q nc ns G L (pc + 2) (.int v :: st)) : Z p l e R s m args below meth c y cc nL ret κ Q nc ns G L pc st := fun C H locs ls hg hs hl => lv_ldc C.1 C.2.1 C.2.2.2.1 (C.2.2.2.2.1 _ hw) hd (k C H locs ls hg hs hl)
theorem z_goto {off : Int} (tgt : Nat) (hd : decode cc pc = .ok (.goto off, 3)) (ht : (pc : Int) + off = (tgt : Int)) (k : Z p l e R s m args below meth c y cc nL ret κ Q nc ns G L tgt st) : Z p l e R s m args below meth c y cc nL ret κ Q nc ns G L pc st := fun C H locs ls hg hs hl => lv_goto C.1 C.2.1 hd ht (k C H locs ls hg hs hl)
theorem z_iload_n {x : Int32} {k0 : Fin 4} (i : Nat) (hd : decode cc pc = .ok (.iload_n k0, 1)) (hi : (k0 : Nat) = i) (hL : L[i]? = some (some (.int x))) (k : Z p l e R s m args below meth c y cc nL ret κ Q nc ns G L (pc + 1) (.int x :: st)) : Z p l e R s m args below meth c y cc nL ret κ Q nc ns G L pc st := fun C H locs ls hg hs hl => lv_iload_n C.1 C.2.1 hd hi (hl.2.2 i _ hL).1 (k C H locs ls hg hs hl)
theorem z_aload_n {v : Value} {k0 : Fin 4} (i : Nat) (hd : decode cc pc = .ok (.aload_n k0, 1)) (hi : (k0 : Nat) = i) (hL : L[i]? = some (some v)) (hv : (∃ o, v = va_rf o)) (k : Z p l e R s m args below meth c y cc nL ret κ Q nc ns G L (pc + 1) (v :: st)) : Z p l e R s m args below meth c y cc nL ret κ Q nc ns G L pc st := fun C H locs ls hg hs hl => by
  obtain ⟨o, rfl⟩ := hv
  have hX := (hl.2.2 i _ hL).1
  have kk := k C H locs ls hg hs hl
  cases o with
  | none => exact lv_aload_nN C.1 C.2.1 hd hi hX kk
  | some a => exact lv_aload_n C.1 C.2.1 hd hi hX kk
theorem z_istore_n {x : Int32} {k0 : Fin 4} {L' : List (Option Value)} (i : Nat) (hd : decode cc pc = .ok (.istore_n k0, 1)) (hi : (k0 : Nat) = i) (hn : i < nL) (hs : L.set i (some (.int x)) = L') (k : Z p l e R s m args below meth c y cc nL ret κ Q nc ns G L' (pc + 1) st) : Z p l e R s m args below meth c y cc nL ret κ Q nc ns G L pc (.int x :: st) := fun C H locs ls hg hS hl => lv_istore_n C.1 C.2.1 hd hi (zlh_has hl) hn rfl (fun ls' h' => k C H locs ls' hg hS (zlh_set hl rfl h' hs))
theorem z_astore_n {v : Value} {k0 : Fin 4} {L' : List (Option Value)} (i : Nat) (hd : decode cc pc = .ok (.astore_n k0, 1)) (hi : (k0 : Nat) = i) (hn : i < nL) (hv : (∃ o, v = va_rf o)) (hs : L.set i (some v) = L') (k : Z p l e R s m args below meth c y cc nL ret κ Q nc ns G L' (pc + 1) st) : Z p l e R s m args below meth c y cc nL ret κ Q nc ns G L pc (v :: st) := fun C H locs ls hg hS hl => by
  obtain ⟨o, rfl⟩ := hv
  cases o with
  | none => exact lv_astore_nN C.1 C.2.1 hd hi (zlh_has hl) hn rfl (fun ls' h' => k C H locs ls' hg hS (zlh_set hl rfl h' hs))
  | some a => exact lv_astore_n C.1 C.2.1 hd hi (zlh_has hl) hn rfl (fun ls' h' => k C H locs ls' hg hS (zlh_set hl rfl h' hs))
theorem z_iload {x : Int32} (i : Nat) (hd : decode cc pc = .ok (.iload i, 2)) (hL : L[i]? = some (some (.int x))) (k : Z p l e R s m args below meth c y cc nL ret κ Q nc ns G L (pc + 2) (.int x :: st)) : Z p l e R s m args below meth c y cc nL ret κ Q nc ns G L pc st := fun C H locs ls hg hs hl => lv_iload C.1 C.2.1 hd (hl.2.2 i _ hL).1 (k C H locs ls hg hs hl)
theorem z_aload {v : Value} (i : Nat) (hd : decode cc pc = .ok (.aload i, 2)) (hL : L[i]? = some (some v)) (hv : (∃ o, v = va_rf o)) (k : Z p l e R s m args below meth c y cc nL ret κ Q nc ns G L (pc + 2) (v :: st)) : Z p l e R s m args below meth c y cc nL ret κ Q nc ns G L pc st := fun C H locs ls hg hs hl => by
  obtain ⟨o, rfl⟩ := hv
  have hX := (hl.2.2 i _ hL).1
  have kk := k C H locs ls hg hs hl
  cases o with
  | none => exact lv_aloadN C.1 C.2.1 hd hX kk
  | some a => exact lv_aload C.1 C.2.1 hd hX kk
theorem z_istore {x : Int32} {L' : List (Option Value)} (i : Nat) (hd : decode cc pc = .ok (.istore i, 2)) (hn : i < nL) (hs : L.set i (some (.int x)) = L') (k : Z p l e R s m args below meth c y cc nL ret κ Q nc ns G L' (pc + 2) st) : Z p l e R s m args below meth c y cc nL ret κ Q nc ns G L pc (.int x :: st) := fun C H locs ls hg hS hl => lv_istore C.1 C.2.1 hd (zlh_has hl) hn rfl (fun ls' h' => k C H locs ls' hg hS (zlh_set hl rfl h' hs))
theorem z_astore {v : Value} {L' : List (Option Value)} (i : Nat) (hd : decode cc pc = .ok (.astore i, 2)) (hn : i < nL) (hv : (∃ o, v = va_rf o)) (hs : L.set i (some v) = L') (k : Z p l e R s m args below meth c y cc nL ret κ Q nc ns G L' (pc + 2) st) : Z p l e R s m args below meth c y cc nL ret κ Q nc ns G L pc (v :: st) := fun C H locs ls hg hS hl => by
  obtain ⟨o, rfl⟩ := hv
  cases o with
  | none => exact lv_astoreN C.1 C.2.1 hd (zlh_has hl) hn rfl (fun ls' h' => k C H locs ls' hg hS (zlh_set hl rfl h' hs))
  | some a => exact lv_astore C.1 C.2.1 hd (zlh_has hl) hn rfl (fun ls' h' => k C H locs ls' hg hS (zlh_set hl rfl h' hs))
theorem z_iinc {x v : Int32} {n : Int} {L' : List (Option Value)} (i : Nat) (hd : decode cc pc = .ok (.iinc i n, 3)) (hL : L[i]? = some (some (.int x))) (hv : x + Int32.ofInt n = v) (hn : i < nL) (hs : L.set i (some (.int v)) = L') (k : Z p l e R s m args below meth c y cc nL ret κ Q nc ns G L' (pc + 3) st) : Z p l e R s m args below meth c y cc nL ret κ Q nc ns G L pc st := fun C H locs ls hg hS hl => by
  obtain ⟨j, hj⟩ := List.mem_iff_getElem?.mp (zpr_mem.mpr hL)
  exact lv_iinc C.1 C.2.1 hd (zlh_has hl) hj hv hn rfl (fun ls' h' => k C H locs ls' hg hS (zlh_set hl rfl h' hs))
theorem z_if_eq {x : Int32} {off : Int} (tgt : Nat) (hd : decode cc pc = .ok (.ifCond .eq off, 3)) (ht : (pc : Int) + off = (tgt : Int)) (kt : x = 0 → Z p l e R s m args below meth c y cc nL ret κ Q nc ns G L tgt st) (kf : ¬ (x = 0) → Z p l e R s m args below meth c y cc nL ret κ Q nc ns G L (pc + 3) st) : Z p l e R s m args below meth c y cc nL ret κ Q nc ns G L pc (.int x :: st) := fun C H locs ls hg hs hl => lv_if_eq C.1 C.2.1 hd ht (fun h => kt h C H locs ls hg hs hl) (fun h => kf h C H locs ls hg hs hl)
theorem z_if_ne {x : Int32} {off : Int} (tgt : Nat) (hd : decode cc pc = .ok (.ifCond .ne off, 3)) (ht : (pc : Int) + off = (tgt : Int)) (kt : ¬ x = 0 → Z p l e R s m args below meth c y cc nL ret κ Q nc ns G L tgt st) (kf : x = 0 → Z p l e R s m args below meth c y cc nL ret κ Q nc ns G L (pc + 3) st) : Z p l e R s m args below meth c y cc nL ret κ Q nc ns G L pc (.int x :: st) := fun C H locs ls hg hs hl => lv_if_ne C.1 C.2.1 hd ht (fun h => kt h C H locs ls hg hs hl) (fun h => kf (by first | exact h | exact Decidable.not_not.mp h) C H locs ls hg hs hl)
theorem z_if_lt {x : Int32} {off : Int} (tgt : Nat) (hd : decode cc pc = .ok (.ifCond .lt off, 3)) (ht : (pc : Int) + off = (tgt : Int)) (kt : x < 0 → Z p l e R s m args below meth c y cc nL ret κ Q nc ns G L tgt st) (kf : ¬ (x < 0) → Z p l e R s m args below meth c y cc nL ret κ Q nc ns G L (pc + 3) st) : Z p l e R s m args below meth c y cc nL ret κ Q nc ns G L pc (.int x :: st) := fun C H locs ls hg hs hl => lv_if_lt C.1 C.2.1 hd ht (fun h => kt h C H locs ls hg hs hl) (fun h => kf h C H locs ls hg hs hl)
theorem z_if_ge {x : Int32} {off : Int} (tgt : Nat) (hd : decode cc pc = .ok (.ifCond .ge off, 3)) (ht : (pc : Int) + off = (tgt : Int)) (kt : 0 ≤ x → Z p l e R s m args below meth c y cc nL ret κ Q nc ns G L tgt st) (kf : ¬ (0 ≤ x) → Z p l e R s m args below meth c y cc nL ret κ Q nc ns G L (pc + 3) st) : Z p l e R s m args below meth c y cc nL ret κ Q nc ns G L pc (.int x :: st) := fun C H locs ls hg hs hl => lv_if_ge C.1 C.2.1 hd ht (fun h => kt h C H locs ls hg hs hl) (fun h => kf h C H locs ls hg hs hl)
theorem z_if_gt {x : Int32} {off : Int} (tgt : Nat) (hd : decode cc pc = .ok (.ifCond .gt off, 3)) (ht : (pc : Int) + off = (tgt : Int)) (kt : 0 < x → Z p l e R s m args below meth c y cc nL ret κ Q nc ns G L tgt st) (kf : ¬ (0 < x) → Z p l e R s m args below meth c y cc nL ret κ Q nc ns G L (pc + 3) st) : Z p l e R s m args below meth c y cc nL ret κ Q nc ns G L pc (.int x :: st) := fun C H locs ls hg hs hl => lv_if_gt C.1 C.2.1 hd ht (fun h => kt h C H locs ls hg hs hl) (fun h => kf h C H locs ls hg hs hl)
theorem z_if_le {x : Int32} {off : Int} (tgt : Nat) (hd : decode cc pc = .ok (.ifCond .le off, 3)) (ht : (pc : Int) + off = (tgt : Int)) (kt : x ≤ 0 → Z p l e R s m args below meth c y cc nL ret κ Q nc ns G L tgt st) (kf : ¬ (x ≤ 0) → Z p l e R s m args below meth c y cc nL ret κ Q nc ns G L (pc + 3) st) : Z p l e R s m args below meth c y cc nL ret κ Q nc ns G L pc (.int x :: st) := fun C H locs ls hg hs hl => lv_if_le C.1 C.2.1 hd ht (fun h => kt h C H locs ls hg hs hl) (fun h => kf h C H locs ls hg hs hl)
theorem z_icmp_eq {x w : Int32} {off : Int} (tgt : Nat) (hd : decode cc pc = .ok (.if_icmp .eq off, 3)) (ht : (pc : Int) + off = (tgt : Int)) (kt : x = w → Z p l e R s m args below meth c y cc nL ret κ Q nc ns G L tgt st) (kf : ¬ (x = w) → Z p l e R s m args below meth c y cc nL ret κ Q nc ns G L (pc + 3) st) : Z p l e R s m args below meth c y cc nL ret κ Q nc ns G L pc (.int w :: .int x :: st) := fun C H locs ls hg hs hl => lv_icmp_eq C.1 C.2.1 hd ht (fun h => kt h C H locs ls hg hs hl) (fun h => kf h C H locs ls hg hs hl)
theorem z_icmp_ne {x w : Int32} {off : Int} (tgt : Nat) (hd : decode cc pc = .ok (.if_icmp .ne off, 3)) (ht : (pc : Int) + off = (tgt : Int)) (kt : ¬ x = w → Z p l e R s m args below meth c y cc nL ret κ Q nc ns G L tgt st) (kf : x = w → Z p l e R s m args below meth c y cc nL ret κ Q nc ns G L (pc + 3) st) : Z p l e R s m args below meth c y cc nL ret κ Q nc ns G L pc (.int w :: .int x :: st) := fun C H locs ls hg hs hl => lv_icmp_ne C.1 C.2.1 hd ht (fun h => kt h C H locs ls hg hs hl) (fun h => kf (by first | exact h | exact Decidable.not_not.mp h) C H locs ls hg hs hl)
theorem z_icmp_lt {x w : Int32} {off : Int} (tgt : Nat) (hd : decode cc pc = .ok (.if_icmp .lt off, 3)) (ht : (pc : Int) + off = (tgt : Int)) (kt : x < w → Z p l e R s m args below meth c y cc nL ret κ Q nc ns G L tgt st) (kf : ¬ (x < w) → Z p l e R s m args below meth c y cc nL ret κ Q nc ns G L (pc + 3) st) : Z p l e R s m args below meth c y cc nL ret κ Q nc ns G L pc (.int w :: .int x :: st) := fun C H locs ls hg hs hl => lv_icmp_lt C.1 C.2.1 hd ht (fun h => kt h C H locs ls hg hs hl) (fun h => kf h C H locs ls hg hs hl)
theorem z_icmp_ge {x w : Int32} {off : Int} (tgt : Nat) (hd : decode cc pc = .ok (.if_icmp .ge off, 3)) (ht : (pc : Int) + off = (tgt : Int)) (kt : w ≤ x → Z p l e R s m args below meth c y cc nL ret κ Q nc ns G L tgt st) (kf : ¬ (w ≤ x) → Z p l e R s m args below meth c y cc nL ret κ Q nc ns G L (pc + 3) st) : Z p l e R s m args below meth c y cc nL ret κ Q nc ns G L pc (.int w :: .int x :: st) := fun C H locs ls hg hs hl => lv_icmp_ge C.1 C.2.1 hd ht (fun h => kt h C H locs ls hg hs hl) (fun h => kf h C H locs ls hg hs hl)
theorem z_icmp_gt {x w : Int32} {off : Int} (tgt : Nat) (hd : decode cc pc = .ok (.if_icmp .gt off, 3)) (ht : (pc : Int) + off = (tgt : Int)) (kt : w < x → Z p l e R s m args below meth c y cc nL ret κ Q nc ns G L tgt st) (kf : ¬ (w < x) → Z p l e R s m args below meth c y cc nL ret κ Q nc ns G L (pc + 3) st) : Z p l e R s m args below meth c y cc nL ret κ Q nc ns G L pc (.int w :: .int x :: st) := fun C H locs ls hg hs hl => lv_icmp_gt C.1 C.2.1 hd ht (fun h => kt h C H locs ls hg hs hl) (fun h => kf h C H locs ls hg hs hl)
theorem z_icmp_le {x w : Int32} {off : Int} (tgt : Nat) (hd : decode cc pc = .ok (.if_icmp .le off, 3)) (ht : (pc : Int) + off = (tgt : Int)) (kt : x ≤ w → Z p l e R s m args below meth c y cc nL ret κ Q nc ns G L tgt st) (kf : ¬ (x ≤ w) → Z p l e R s m args below meth c y cc nL ret κ Q nc ns G L (pc + 3) st) : Z p l e R s m args below meth c y cc nL ret κ Q nc ns G L pc (.int w :: .int x :: st) := fun C H locs ls hg hs hl => lv_icmp_le C.1 C.2.1 hd ht (fun h => kt h C H locs ls hg hs hl) (fun h => kf h C H locs ls hg hs hl)
theorem z_acmp_eq {rx ry : Option Nat} {v1 v2 : Value} {off : Int} (tgt : Nat) (hd : decode cc pc = .ok (.if_acmp .eq off, 3)) (ht : (pc : Int) + off = (tgt : Int)) (h1 : v1 = va_rf ry) (h2 : v2 = va_rf rx) (kt : rx = ry → Z p l e R s m args below meth c y cc nL ret κ Q nc ns G L tgt st) (kf : ¬ rx = ry → Z p l e R s m args below meth c y cc nL ret κ Q nc ns G L (pc + 3) st) : Z p l e R s m args below meth c y cc nL ret κ Q nc ns G L pc (v1 :: v2 :: st) := fun C H locs ls hg hs hl => by
  subst h1; subst h2
  exact lv_acmp_eq C.1 C.2.1 hd ht (fun h => kt h C H locs ls hg hs hl) (fun h => kf h C H locs ls hg hs hl)
theorem z_acmp_ne {rx ry : Option Nat} {v1 v2 : Value} {off : Int} (tgt : Nat) (hd : decode cc pc = .ok (.if_acmp .ne off, 3)) (ht : (pc : Int) + off = (tgt : Int)) (h1 : v1 = va_rf ry) (h2 : v2 = va_rf rx) (kt : ¬ rx = ry → Z p l e R s m args below meth c y cc nL ret κ Q nc ns G L tgt st) (kf : rx = ry → Z p l e R s m args below meth c y cc nL ret κ Q nc ns G L (pc + 3) st) : Z p l e R s m args below meth c y cc nL ret κ Q nc ns G L pc (v1 :: v2 :: st) := fun C H locs ls hg hs hl => by
  subst h1; subst h2
  exact lv_acmp_ne C.1 C.2.1 hd ht (fun h => kt h C H locs ls hg hs hl) (fun h => kf h C H locs ls hg hs hl)
theorem z_ifnullR {a : Nat} {off : Int} (hd : decode cc pc = .ok (.ifnull off, 3)) (k : Z p l e R s m args below meth c y cc nL ret κ Q nc ns G L (pc + 3) st) : Z p l e R s m args below meth c y cc nL ret κ Q nc ns G L pc (.ref a :: st) := fun C H locs ls hg hs hl => lv_ifnull C.1 C.2.1 hd (k C H locs ls hg hs hl)
theorem z_ifnullN {off : Int} (tgt : Nat) (hd : decode cc pc = .ok (.ifnull off, 3)) (ht : (pc : Int) + off = (tgt : Int)) (k : Z p l e R s m args below meth c y cc nL ret κ Q nc ns G L tgt st) : Z p l e R s m args below meth c y cc nL ret κ Q nc ns G L pc (.null :: st) := fun C H locs ls hg hs hl => lv_ifnullN C.1 C.2.1 hd ht (k C H locs ls hg hs hl)
theorem z_ifnonnullR {a : Nat} {off : Int} (tgt : Nat) (hd : decode cc pc = .ok (.ifnonnull off, 3)) (ht : (pc : Int) + off = (tgt : Int)) (k : Z p l e R s m args below meth c y cc nL ret κ Q nc ns G L tgt st) : Z p l e R s m args below meth c y cc nL ret κ Q nc ns G L pc (.ref a :: st) := fun C H locs ls hg hs hl => lv_ifnonnull C.1 C.2.1 hd ht (k C H locs ls hg hs hl)
theorem z_ifnonnullN {off : Int} (hd : decode cc pc = .ok (.ifnonnull off, 3)) (k : Z p l e R s m args below meth c y cc nL ret κ Q nc ns G L (pc + 3) st) : Z p l e R s m args below meth c y cc nL ret κ Q nc ns G L pc (.null :: st) := fun C H locs ls hg hs hl => lv_ifnonnullN C.1 C.2.1 hd (k C H locs ls hg hs hl)
theorem z_tableOut {dflt lo hi : Int} {offs : Array Int} {len : Nat} {x : Int32} (tgt : Nat) (hd : decode cc pc = .ok (.tableswitch dflt lo hi offs, len)) (h : x.toInt < lo ∨ hi < x.toInt) (ht : (pc : Int) + dflt = (tgt : Int)) (k : Z p l e R s m args below meth c y cc nL ret κ Q nc ns G L tgt st) : Z p l e R s m args below meth c y cc nL ret κ Q nc ns G L pc (.int x :: st) := fun C H locs ls hg hs hl => lv_tableOut C.1 C.2.1 hd h ht (k C H locs ls hg hs hl)
theorem z_tableIn {dflt lo hi : Int} {offs : Array Int} {len : Nat} {x : Int32} {off : Int} (tgt : Nat) (hd : decode cc pc = .ok (.tableswitch dflt lo hi offs, len)) (h1 : ¬ x.toInt < lo) (h2 : ¬ hi < x.toInt) (ho : offs[(x.toInt - lo).toNat]? = some off) (ht : (pc : Int) + off = (tgt : Int)) (k : Z p l e R s m args below meth c y cc nL ret κ Q nc ns G L tgt st) : Z p l e R s m args below meth c y cc nL ret κ Q nc ns G L pc (.int x :: st) := fun C H locs ls hg hs hl => lv_tableIn C.1 C.2.1 hd h1 h2 ho ht (k C H locs ls hg hs hl)
theorem z_topi {x : Int32} (k : ∀ v : Int32, v = x → Z p l e R s m args below meth c y cc nL ret κ Q nc ns G L pc (.int v :: st)) : Z p l e R s m args below meth c y cc nL ret κ Q nc ns G L pc (.int x :: st) := k x rfl
theorem z_eq {v w : Value} (h : v = w) (k : Z p l e R s m args below meth c y cc nL ret κ Q nc ns G L pc (w :: st)) : Z p l e R s m args below meth c y cc nL ret κ Q nc ns G L pc (v :: st) := h ▸ k
theorem z_L {L' : List (Option Value)} (h : L = L') (k : Z p l e R s m args below meth c y cc nL ret κ Q nc ns G L' pc st) : Z p l e R s m args below meth c y cc nL ret κ Q nc ns G L pc st := h ▸ k
theorem z_wk {n1 n2 : Nat} (h1 : nc ≤ n1) (h2 : ns ≤ n2) (k : Z p l e R s m args below meth c y cc nL ret κ Q n1 n2 G L pc st) : Z p l e R s m args below meth c y cc nL ret κ Q nc ns G L pc st := fun C H locs ls hg hs hl => W.widen h1 h2 (k C H locs ls hg hs hl)
theorem z_get {a : Nat} {r : zR} {ci : Nat} {fs : List Value} {C : String} {T : u_T} {N index : Nat} {v : Value} (k : Nat) (h0 : G a = some (r, .inr (ci, fs))) (hc : vwCl[ci]? = some (C, T, N)) (hin : ∀ w ∈ u_ws C T N, w ∈ TB) (hk : k < N) (hw : Cond.fieldLink y.cls index (T k).1 (T k).2.1 (T k).2.2.1 ∈ TB) (hv : fs[k]? = some v) (hd : decode cc pc = .ok (.getfield index, 3)) (kk : Z p l e R s m args below meth c y cc nL ret κ Q nc ns G L (pc + 3) (v :: st)) : Z p l e R s m args below meth c y cc nL ret κ Q nc ns G L pc (.ref a :: st) := fun C H locs ls hg hs hl => by
  obtain ⟨q0, hq⟩ := zen_ix hg h0
  exact va_get C.1 C.2.1 C.2.2.2.2.1 hin C.2.2.2.1 C.2.2.2.2.2.1.2.1 (zen_P hg) q0 hq hc k hk (C.2.2.2.2.1 _ hw) (fun _ h => h) hv hd (kk C H locs ls hg hs hl)
theorem z_put {a : Nat} {r : zR} {ci : Nat} {fs : List Value} {C : String} {T : u_T} {N index : Nat} {v : Value} {ty : FieldType} (k : Nat) (h0 : G a = some (r, .inr (ci, fs))) (hc : vwCl[ci]? = some (C, T, N)) (hin : ∀ w ∈ u_ws C T N, w ∈ TB) (ty0 : Nat → FieldType) (hty : ∀ k, k < N → parseFieldDescriptor (T k).2.2.1 = some (ty0 k)) (hnm : ∀ a, a < N → ∀ b, b < N → a ≠ b → (T a).2.1 ≠ (T b).2.1) (hk : k < N) (hw : Cond.fieldLink y.cls index (T k).1 (T k).2.1 (T k).2.2.1 ∈ TB) (hfin : (T k).2.2.2 = false) (ht : parseFieldDescriptor (T k).2.2.1 = some ty) (hn : narrow ty v = v) (hfit : fits ty v = true) (hlen : k < fs.length) (hd : decode cc pc = .ok (.putfield index, 3)) (kk : Z p l e R s m args below meth c y cc nL ret κ Q nc ns (zu G a (r, .inr (ci, fs.set k v))) L (pc + 3) st) : Z p l e R s m args below meth c y cc nL ret κ Q nc ns G L pc (v :: .ref a :: st) := fun C H locs ls hg hs hl => by
  obtain ⟨q0, hq⟩ := zen_ix hg h0
  exact va_put C.1 C.2.1 C.2.2.2.2.1 hin ty0 hty hnm C.2.2.2.1 C.2.2.2.2.2.1.2.1 (zen_P hg) (zen_D hg) hs q0 hq hc k hk (C.2.2.2.2.1 _ hw) (fun _ h => h) hfin ht hn hfit hlen hd (fun H1 locs1 hP _ hS => kk C H1 locs1 ls (zen_set hg h0 hq hP) hS hl)
theorem z_getN {a : Nat} {r : zR} {ci : Nat} {fs : List Value} {C : String} {T : u_T} {N index : Nat} {v : Value} {host : String} (k : Nat) (h0 : G a = some (r, .inr (ci, fs))) (hc : vwCl[ci]? = some (C, T, N)) (hin : ∀ w ∈ u_ws C T N, w ∈ TB) (hk : k < N) (hw : Cond.fieldLinkNest y.cls index (T k).1 (T k).2.1 (T k).2.2.1 host ∈ NB) (hv : fs[k]? = some v) (hd : decode cc pc = .ok (.getfield index, 3)) (kk : Z p l e R s m args below meth c y cc nL ret κ Q nc ns G L (pc + 3) (v :: st)) : Z p l e R s m args below meth c y cc nL ret κ Q nc ns G L pc (.ref a :: st) := fun C H locs ls hg hs hl => by
  obtain ⟨q0, hq⟩ := zen_ix hg h0
  exact va_getN C.1 C.2.1 C.2.2.2.2.1 hin C.2.2.2.1 C.2.2.2.2.2.1.2.1 (zen_P hg) q0 hq hc k hk (va_Nw.use rfl (C.2.2.2.2.2.1.2.2.2.1 _ hw)) (fun _ h => h) hv hd (kk C H locs ls hg hs hl)
theorem z_putN {a : Nat} {r : zR} {ci : Nat} {fs : List Value} {C : String} {T : u_T} {N index : Nat} {v : Value} {ty : FieldType} {host : String} (k : Nat) (h0 : G a = some (r, .inr (ci, fs))) (hc : vwCl[ci]? = some (C, T, N)) (hin : ∀ w ∈ u_ws C T N, w ∈ TB) (ty0 : Nat → FieldType) (hty : ∀ k, k < N → parseFieldDescriptor (T k).2.2.1 = some (ty0 k)) (hnm : ∀ a, a < N → ∀ b, b < N → a ≠ b → (T a).2.1 ≠ (T b).2.1) (hk : k < N) (hw : Cond.fieldLinkNest y.cls index (T k).1 (T k).2.1 (T k).2.2.1 host ∈ NB) (hfin : (T k).2.2.2 = false) (ht : parseFieldDescriptor (T k).2.2.1 = some ty) (hn : narrow ty v = v) (hfit : fits ty v = true) (hlen : k < fs.length) (hd : decode cc pc = .ok (.putfield index, 3)) (kk : Z p l e R s m args below meth c y cc nL ret κ Q nc ns (zu G a (r, .inr (ci, fs.set k v))) L (pc + 3) st) : Z p l e R s m args below meth c y cc nL ret κ Q nc ns G L pc (v :: .ref a :: st) := fun C H locs ls hg hs hl => by
  obtain ⟨q0, hq⟩ := zen_ix hg h0
  exact va_putN C.1 C.2.1 C.2.2.2.2.1 hin ty0 hty hnm C.2.2.2.1 C.2.2.2.2.2.1.2.1 (zen_P hg) (zen_D hg) hs q0 hq hc k hk (va_Nw.use rfl (C.2.2.2.2.2.1.2.2.2.1 _ hw)) (fun _ h => h) hfin ht hn hfit hlen hd (fun H1 locs1 hP _ hS => kk C H1 locs1 ls (zen_set hg h0 hq hP) hS hl)
theorem z_putF {a : Nat} {r : zR} {ci : Nat} {fs : List Value} {C : String} {T : u_T} {N index : Nat} {v : Value} {ty : FieldType} (k : Nat) (h0 : G a = some (r, .inr (ci, fs))) (hc : vwCl[ci]? = some (C, T, N)) (hin : ∀ w ∈ u_ws C T N, w ∈ TB) (ty0 : Nat → FieldType) (hty : ∀ k, k < N → parseFieldDescriptor (T k).2.2.1 = some (ty0 k)) (hnm : ∀ a, a < N → ∀ b, b < N → a ≠ b → (T a).2.1 ≠ (T b).2.1) (hk : k < N) (hw : Cond.fieldLink y.cls index (T k).1 (T k).2.1 (T k).2.2.1 ∈ TB) (hfin : (T k).2.2.2 = true) (hy1 : y.name = "<init>") (hy2 : (T k).1 = y.cls) (ht : parseFieldDescriptor (T k).2.2.1 = some ty) (hn : narrow ty v = v) (hfit : fits ty v = true) (hlen : k < fs.length) (hd : decode cc pc = .ok (.putfield index, 3)) (kk : Z p l e R s m args below meth c y cc nL ret κ Q nc ns (zu G a (r, .inr (ci, fs.set k v))) L (pc + 3) st) : Z p l e R s m args below meth c y cc nL ret κ Q nc ns G L pc (v :: .ref a :: st) := fun C H locs ls hg hs hl => by
  obtain ⟨q0, hq⟩ := zen_ix hg h0
  exact va_putF C.1 C.2.1 C.2.2.2.2.1 hin ty0 hty hnm C.2.2.2.1 C.2.2.2.2.2.1.2.1 (zen_P hg) (zen_D hg) hs q0 hq hc k hk (C.2.2.2.2.1 _ hw) (fun _ h => h) hfin (C.2.2.2.2.2.2.2.2.trans hy1) hy2 ht hn hfit hlen hd (fun H1 locs1 hP _ hS => kk C H1 locs1 ls (zen_set hg h0 hq hP) hS hl)
theorem z_new {ci : Nat} {C : String} {T : u_T} {N index : Nat} (r : zR) (fs : List Value) (hc : vwCl[ci]? = some (C, T, N)) (hin : ∀ w ∈ u_ws C T N, w ∈ TB) (ty : Nat → FieldType) (hty : ∀ k, k < N → parseFieldDescriptor (T k).2.2.1 = some (ty k)) (w1 : Cond.classLink y.cls index C ∈ TB) (w2 : Cond.instantiable C N ∈ TB) (w3 : Cond.initialized C ∈ TB) (hfs : ∀ j, j < N → defaultValue (ty j) = vp_V fs j) (hR : nc + 1 ≤ R.cells ∧ ns + N ≤ R.slots) (hd : decode cc pc = .ok (.new index, 3)) (kk : ∀ q : Nat, G q = none → κ.2.2 0 ≤ q → Z p l e R s m args below meth c y cc nL ret κ Q (nc + 1) (ns + N) (zu G q (r, .inr (ci, fs))) L (pc + 3) (.ref q :: st)) : Z p l e R s m args below meth c y cc nL ret κ Q nc ns G L pc st := fun C H locs ls hg hs hl =>
  va_new C.1 C.2.1 C.2.2.2.2.1 hin ty hty C.2.2.2.1 (C.2.2.2.2.1 _ w1) (C.2.2.2.2.1 _ w2) (C.2.2.2.2.1 _ w3) C.2.2.2.2.2.1.2.1 (zen_P hg) (zen_D hg) hs (fun q h => Nat.le_trans C.2.2.2.2.2.1.1 h) hc hfs hR.1 hR.2 hd (fun q H1 hP hD hS => by
    obtain ⟨h1, h2, h3⟩ := zen_push hg r hP hD
    exact kk q h1 h2 C H1 locs ls h3 hS hl)
theorem z_iald {a : Nat} {r : zR} {n : Nat} {f : Nat → Int32} {i : Int32} (j : Nat) (h0 : G a = some (r, .inl (κ.2.1 0, n, .inl f))) (hi : i = nI j) (hj : j < n) (hn : n < 2 ^ 31) (hd : decode cc pc = .ok (.iaload, 1)) (kk : Z p l e R s m args below meth c y cc nL ret κ Q nc ns G L (pc + 1) (.int (f j) :: st)) : Z p l e R s m args below meth c y cc nL ret κ Q nc ns G L pc (.int i :: .ref a :: st) := fun C H locs ls hg hs hl => by
  obtain ⟨q0, hq⟩ := zen_ix hg h0
  subst hi
  refine va_iald C.1 C.2.1 C.2.2.2.2.2.1.2.1 (zen_P hg) q0 0 hq rfl (vp_in_nI hj hn) hd ?_
  rw [nI_clamp (Nat.lt_trans hj hn)]
  exact kk C H locs ls hg hs hl
theorem z_iast {a : Nat} {r : zR} {n : Nat} {f : Nat → Int32} {i x : Int32} (j : Nat) (h0 : G a = some (r, .inl (κ.2.1 0, n, .inl f))) (hi : i = nI j) (hj : j < n) (hn : n < 2 ^ 31) (hd : decode cc pc = .ok (.iastore, 1)) (kk : Z p l e R s m args below meth c y cc nL ret κ Q nc ns (zu G a (r, .inl (κ.2.1 0, n, .inl (upd f j x)))) L (pc + 1) st) : Z p l e R s m args below meth c y cc nL ret κ Q nc ns G L pc (.int x :: .int i :: .ref a :: st) := fun C H locs ls hg hs hl => by
  obtain ⟨q0, hq⟩ := zen_ix hg h0
  subst hi
  refine va_iast C.1 C.2.1 C.2.2.2.2.2.1.2.1 (zen_P hg) (zen_D hg) hs q0 0 hq rfl (vp_in_nI hj hn) hd (fun H1 locs1 hP _ hS => ?_)
  rw [nI_clamp (Nat.lt_trans hj hn)] at hP
  exact kk C H1 locs1 ls (zen_set hg h0 hq hP) hS hl
theorem z_zald {a : Nat} {r : zR} {n : Nat} {f : Nat → Int32} {i : Int32} (j : Nat) (h0 : G a = some (r, .inl (κ.2.1 1, n, .inl f))) (hi : i = nI j) (hj : j < n) (hn : n < 2 ^ 31) (hd : decode cc pc = .ok (.baload, 1)) (kk : Z p l e R s m args below meth c y cc nL ret κ Q nc ns G L (pc + 1) (.int (f j) :: st)) : Z p l e R s m args below meth c y cc nL ret κ Q nc ns G L pc (.int i :: .ref a :: st) := fun C H locs ls hg hs hl => by
  obtain ⟨q0, hq⟩ := zen_ix hg h0
  subst hi
  refine va_zald C.1 C.2.1 C.2.2.2.2.2.1.2.1 (zen_P hg) q0 1 hq rfl (vp_in_nI hj hn) hd ?_
  rw [nI_clamp (Nat.lt_trans hj hn)]
  exact kk C H locs ls hg hs hl
theorem z_zast {a : Nat} {r : zR} {n : Nat} {f : Nat → Int32} {i x : Int32} (j : Nat) (h0 : G a = some (r, .inl (κ.2.1 1, n, .inl f))) (hi : i = nI j) (hj : j < n) (hn : n < 2 ^ 31) (hd : decode cc pc = .ok (.bastore, 1)) (kk : Z p l e R s m args below meth c y cc nL ret κ Q nc ns (zu G a (r, .inl (κ.2.1 1, n, .inl (upd f j (vp_nar .boolean x))))) L (pc + 1) st) : Z p l e R s m args below meth c y cc nL ret κ Q nc ns G L pc (.int x :: .int i :: .ref a :: st) := fun C H locs ls hg hs hl => by
  obtain ⟨q0, hq⟩ := zen_ix hg h0
  subst hi
  refine va_zast C.1 C.2.1 C.2.2.2.2.2.1.2.1 (zen_P hg) (zen_D hg) hs q0 1 hq rfl (vp_in_nI hj hn) hd (fun H1 locs1 hP _ hS => ?_)
  rw [nI_clamp (Nat.lt_trans hj hn)] at hP
  exact kk C H1 locs1 ls (zen_set hg h0 hq hP) hS hl
theorem z_alen {a : Nat} {r : zR} {x : vp_A} {ty : FieldType} {v : Int32} (t0 : Nat) (h0 : G a = some (r, .inl (κ.2.1 t0, x))) (ht : (zt κ)[t0]? = some (κ.2.1 t0, ty)) (hv : Int32.ofNat x.1 = v) (hd : decode cc pc = .ok (.arraylength, 1)) (kk : Z p l e R s m args below meth c y cc nL ret κ Q nc ns G L (pc + 1) (.int v :: st)) : Z p l e R s m args below meth c y cc nL ret κ Q nc ns G L pc (.ref a :: st) := fun C H locs ls hg hs hl => by
  obtain ⟨q0, hq⟩ := zen_ix hg h0
  exact va_alen C.1 C.2.1 C.2.2.2.2.2.1.2.1 (zen_P hg) q0 t0 hq ht hv hd (kk C H locs ls hg hs hl)
theorem z_newa {atype : ArrayType} {ty : FieldType} {n : Int32} (r : zR) (N' : Nat) (a0 : vp_A) (t0 : Nat) (hw : Cond.arrayClass (newarray.typeOf atype) ∈ TB) (hty : newarray.typeOf atype = ty) (ht : (zt κ)[t0]? = some (κ.2.1 t0, ty)) (hpr : ∀ C : String, ty ≠ .object C) (ha : ∀ cA : ClassId, vp_cell cA a0 = arrV cA N' (fun _ => defaultValue ty)) (hn : n = nI N') (hN : N' * componentBytes ty ≤ 536870912 ∧ N' < 2 ^ 31) (hR : nc + 1 ≤ R.cells ∧ ns + N' ≤ R.slots) (hd : decode cc pc = .ok (.newarray atype, 2)) (kk : ∀ q : Nat, G q = none → κ.2.2 0 ≤ q → Z p l e R s m args below meth c y cc nL ret κ Q (nc + 1) (ns + N') (zu G q (r, .inl (κ.2.1 t0, a0))) L (pc + 2) (.ref q :: st)) : Z p l e R s m args below meth c y cc nL ret κ Q nc ns G L pc (.int n :: st) := fun C H locs ls hg hs hl =>
  va_newa C.1 C.2.1 (C.2.2.2.2.1 _ hw) hty C.2.2.2.2.2.1.2.1 (zen_P hg) (zen_D hg) hs (fun q h => Nat.le_trans C.2.2.2.2.2.1.1 h) ha (by rw [hn]; exact nI_pos hN.2) (by rw [hn]; exact nI_clamp hN.2) hN.1 hR.1 hR.2 hd (fun q cA H1 hK hP hD hS => by
    have e1 := (hK.2 (zt κ).length (cA, ty) (by simp)).2
    have e2 := (C.2.2.2.2.2.1.2.1.2 t0 _ ht).2
    have e3 : cA = κ.2.1 t0 := by
      cases ty with
      | object D => exact absurd rfl (hpr D)
      | _ => exact Option.some.inj (e1.symm.trans e2)
    subst e3
    obtain ⟨h1, h2, h3⟩ := zen_push hg r hP hD
    exact kk q h1 h2 C H1 locs ls h3 hS hl)
theorem z_aald {a : Nat} {r : zR} {n : Nat} {f : Nat → Option Nat} {i : Int32} (j : Nat) (h0 : G a = some (r, .inl (κ.2.1 2, n, .inr (.inr (.inr (.inr f)))))) (hi : i = nI j) (hj : j < n) (hn : n < 2 ^ 31) (hd : decode cc pc = .ok (.aaload, 1)) (kk : Z p l e R s m args below meth c y cc nL ret κ Q nc ns G L (pc + 1) (va_rf (f j) :: st)) : Z p l e R s m args below meth c y cc nL ret κ Q nc ns G L pc (.int i :: .ref a :: st) := fun C H locs ls hg hs hl => by
  obtain ⟨q0, hq⟩ := zen_ix hg h0
  subst hi
  have hin := vp_in_nI hj hn
  have hlt : (nI j).toNatClampNeg < n := Nat.not_le.mp fun q => hin (Or.inr q)
  refine W.aald (v := va_rf (f (nI j).toNatClampNeg)) (ty := .object "java/lang/Object") C.1 C.2.1 (zen_P hg q0 _ hq) ((C.2.2.2.2.2.1.2.1.2 2 _ rfl).1 n (fun j => va_rf (f j))) rfl (fun q => by cases q) (by show ¬ (nI j < 0 ∨ (arrV _ _ _).slots.size ≤ _); rw [arrV_size]; exact hin) (by show (arrV _ _ _).slots[_]? = _; rw [arrV_read _ _ hlt]) rfl rfl hd ?_
  rw [nI_clamp (Nat.lt_trans hj hn)]
  exact kk C H locs ls hg hs hl
theorem z_aaldI {a : Nat} {r : zR} {n : Nat} {f : Nat → Option Nat} {i : Int32} (j : Nat) (h0 : G a = some (r, .inl (κ.2.1 3, n, .inr (.inr (.inr (.inr f)))))) (hi : i = nI j) (hj : j < n) (hn : n < 2 ^ 31) (hd : decode cc pc = .ok (.aaload, 1)) (kk : Z p l e R s m args below meth c y cc nL ret κ Q nc ns G L (pc + 1) (va_rf (f j) :: st)) : Z p l e R s m args below meth c y cc nL ret κ Q nc ns G L pc (.int i :: .ref a :: st) := fun C H locs ls hg hs hl => by
  obtain ⟨q0, hq⟩ := zen_ix hg h0
  subst hi
  have hin := vp_in_nI hj hn
  have hlt : (nI j).toNatClampNeg < n := Nat.not_le.mp fun q => hin (Or.inr q)
  refine W.aald (v := va_rf (f (nI j).toNatClampNeg)) (ty := .array .int) C.1 C.2.1 (zen_P hg q0 _ hq) ((C.2.2.2.2.2.1.2.1.2 3 _ rfl).1 n (fun j => va_rf (f j))) rfl (fun q => by cases q) (by show ¬ (nI j < 0 ∨ (arrV _ _ _).slots.size ≤ _); rw [arrV_size]; exact hin) (by show (arrV _ _ _).slots[_]? = _; rw [arrV_read _ _ hlt]) rfl rfl hd ?_
  rw [nI_clamp (Nat.lt_trans hj hn)]
  exact kk C H locs ls hg hs hl
section ZRET
variable {post : Option Value → zH → Prop} {mc ms : Nat}
theorem z_iret {v : Int32} (hr : ret = some .int) (h : nc ≤ mc ∧ ns ≤ ms) (hd : decode cc pc = .ok (.ireturn, 1)) (hp : post (some (.int v)) G) : Z p l e R s m args below meth c y cc nL ret κ (MQ below (zQc κ post) args s mc ms (zA κ)) nc ns G L pc [.int v] := fun C H locs ls hg hs hl => W.widen h.1 h.2 (W.iret C.1 C.2.1 (C.2.2.2.2.2.2.1.trans hr) (fun t ht hW => ⟨⟨_, G, rfl, hp, by rw [ht]; exact hg⟩, hs.F ht⟩) hs.2.2 hd (hlocks := C.2.2.2.2.2.2.2.1))
theorem z_zret {v : Int32} (hr : ret = some .boolean) (hv : narrow .boolean (.int v) = .int v) (h : nc ≤ mc ∧ ns ≤ ms) (hd : decode cc pc = .ok (.ireturn, 1)) (hp : post (some (.int v)) G) : Z p l e R s m args below meth c y cc nL ret κ (MQ below (zQc κ post) args s mc ms (zA κ)) nc ns G L pc [.int v] := fun C H locs ls hg hs hl => W.widen h.1 h.2 (W.zret C.1 C.2.1 (C.2.2.2.2.2.2.1.trans hr) hv (fun t ht hW => ⟨⟨_, G, rfl, hp, by rw [ht]; exact hg⟩, hs.F ht⟩) hs.2.2 hd (hlocks := C.2.2.2.2.2.2.2.1))
theorem z_vret (hr : ret = none) (h : nc ≤ mc ∧ ns ≤ ms) (hd : decode cc pc = .ok (.return_, 1)) (hp : post none G) : Z p l e R s m args below meth c y cc nL ret κ (MQ below (zQc κ post) args s mc ms (zA κ)) nc ns G L pc [] := fun C H locs ls hg hs hl => W.widen h.1 h.2 (W.vret C.1 C.2.1 (C.2.2.2.2.2.2.1.trans hr) (fun t ht hW => ⟨⟨_, G, rfl, hp, by rw [ht]; exact hg⟩, hs.F ht⟩) hs.2.2 hd (hlocks := C.2.2.2.2.2.2.2.1))
theorem z_aret {v : Value} {rt : FieldType} (o : Option Nat) (hv : v = va_rf o) (hr : ret = some rt) (hrt : (∃ n, rt = .object n) ∨ ∃ t, rt = .array t) (h : nc ≤ mc ∧ ns ≤ ms) (hd : decode cc pc = .ok (.areturn, 1)) (hp : post (some (va_rf o)) G) : Z p l e R s m args below meth c y cc nL ret κ (MQ below (zQc κ post) args s mc ms (zA κ)) nc ns G L pc [v] := fun C H locs ls hg hs hl => by
  subst hv
  exact W.widen h.1 h.2 (W.aret C.1 C.2.1 (C.2.2.2.2.2.2.1.trans hr) hrt (by cases o with | none => exact Or.inl rfl | some a => exact Or.inr ⟨a, rfl⟩) (fun t ht hW => ⟨⟨_, G, rfl, hp, by rw [ht]; exact hg⟩, hs.F ht⟩) hs.2.2 hd (hlocks := C.2.2.2.2.2.2.2.1))
end ZRET
theorem z_objInit {a : Nat} {index : Nat} (w1 : Cond.methodLink y.cls index objectInit ∈ TB) (w2 : Cond.instanceMethod objectInit ∈ TB) (w3 : Cond.code objectInit ⟨#[0xb1]⟩ 1 none ∈ TB) (hR : 1 ≤ R.frames ∧ 12 + (st.map fun v => v.category).sum ≤ R.locals) (hd : decode cc pc = .ok (.invokespecial index, 3)) (kk : Z p l e R s m args below meth c y cc nL ret κ Q nc ns G L (pc + 3) st) : Z p l e R s m args below meth c y cc nL ret κ Q nc ns G L pc (.ref a :: st) := fun C H locs ls hg hs hl =>
  W.objInit C.1 C.2.1 C.2.2.2.1 (C.2.2.2.2.1 _ w1) (C.2.2.2.2.1 _ w2) (C.2.2.2.2.1 _ w3) rfl (by rw [C.2.2.1]; exact hl.1) rfl hd hR.1 (by have := hR.2; show 2 * 0 + _ + 12 ≤ _; omega) (W.eq rfl (kk C H locs ls hg hs hl))
def zcM (y2 : MethodName) (n : Nat) : Prop := y2.cls ≠ "java/lang/invoke/MethodHandle" ∧ y2.cls ≠ "java/lang/invoke/VarHandle" ∧ (parseMethodDescriptor y2.desc).map (fun d => d.parameters.length) = some n
def zcV (y2 : MethodName) (cc2 : ByteArray) (nL2 : Nat) (ret2 : Option FieldType) (n : Nat) : Prop := Cond.instanceMethod y2 ∈ TB ∧ Cond.selects y2.cls y2 y2 ∈ TB ∧ Cond.initialized y2.cls ∈ TB ∧ Cond.code y2 cc2 nL2 ret2 ∈ TB ∧ zcM y2 n
def zcS (y2 : MethodName) (cc2 : ByteArray) (nL2 : Nat) (ret2 : Option FieldType) (n : Nat) : Prop := Cond.static y2 ∈ TB ∧ Cond.initialized y2.cls ∈ TB ∧ Cond.code y2 cc2 nL2 ret2 ∈ TB ∧ zcM y2 n
def zcI (y2 : MethodName) (cc2 : ByteArray) (nL2 : Nat) (n : Nat) : Prop := Cond.instanceMethod y2 ∈ TB ∧ Cond.initialized y2.cls ∈ TB ∧ Cond.code y2 cc2 nL2 none ∈ TB ∧ y2.name = "<init>" ∧ zcM y2 n
theorem zgi {y2 : MethodName} {cc2 : ByteArray} {nL2 : Nat} {ret2 : Option FieldType} (w : Cond.code y2 cc2 nL2 ret2 ∈ TB) : GoodIn TB (.code y2 cc2 nL2 ret2 :: TB) := fun x hx => by
  have : x ∈ TB := by
    rcases List.mem_cons.mp hx with h | h
    · rw [h]; exact w
    · exact h
  exact ⟨this, TB_good x this⟩
theorem zgi_cons {w : Cond} {ws : List Cond} (h : w ∈ TB) (g : GoodIn TB ws) : GoodIn TB (w :: ws) := fun x hx => by
  rcases List.mem_cons.mp hx with h1 | h1
  · rw [h1]; exact ⟨h, TB_good w h⟩
  · exact g x h1
theorem zblind {κ : zK} {av : List Value} {G : zH} : FrameBlind (va_Pc av (fun U => zOK κ U ∧ zh κ G U.heap)) := fun a U g mk q => by
  obtain ⟨q0, q1, q2⟩ := q
  exact ⟨q0, q1.call, q2⟩
theorem z_run {post : Option Value → zH → Prop} {av rest st0 : List Value} {mc ms : Nat} (C : zCx p s m args meth c y cc nL ret κ) {H : Heap} {locs : List Loc} {ls : Array Slot} (hs : va_S (zA κ) s.heap H locs) (hl : zlh ls nL L)
    (hr : va_Run p l e R s m args below meth c H locs nc ns mc ms (F0 m pc ls st0) rest (zQc κ post av.toArray) (zA κ)) (k : ∀ (r : Option Value) (G' : zH), post r G' → Z p l e R s m args below meth c y cc nL ret κ Q (nc + mc) (ns + ms) G' L (pc + 3) (r.toList ++ rest)) : W p l e R s m args below meth c H locs nc ns Q (F0 m pc ls st0) := by
  intro T hT X
  obtain ⟨v, st₀, t, T', Lc, h0, X', hL, e1, e2, ⟨⟨r, G', hr1, hp, hg1⟩, hF⟩, stp⟩ := hr T hT X
  cases hr1
  have hS1 : va_S (zA κ) s.heap T'.heap (locs ++ Lc) := by
    refine ⟨Nat.le_trans hs.1 (by rw [e1, ← h0]; exact hF.1), fun q h1 h2 => ?_, fun q hq => ?_⟩
    · rw [e1, hF.2 q (by rw [h0]; exact Nat.lt_of_lt_of_le h1 hs.1) h2, h0]
      exact hs.2.1 q h1 h2
    · rcases List.mem_append.mp hq with h | h
      · exact hs.2.2 q h
      · exact hL q h
  obtain ⟨t2, a1, b1⟩ := k v G' hp C T'.heap (locs ++ Lc) ls (by rw [e1]; exact hg1) hS1 hl T' rfl X'
  exact ⟨t2, stp t2 a1, b1⟩
theorem z_callV {post : Option Value → zH → Prop} {y2 : MethodName} {cc2 : ByteArray} {nL2 : Nat} {ret2 : Option FieldType} {rm2 : Room} {As rest : List Value} {index : Nat} {b : Nat} {rr : zR} {ci : Nat} {fs : List Value} {vc : vw_C} (G0 : zH) (hC : Ct l y2 cc2 nL2 ret2 rm2 κ (.ref b :: As) G0 post) (hG : G = G0) (hb : G b = some (rr, .inr (ci, fs))) (hcl : vwCl[ci]? = some vc) (hvc : vc.1 = y2.cls) (w1 : Cond.methodLink y.cls index y2 ∈ TB) (hV : zcV y2 cc2 nL2 ret2 As.length) (hR : rm2.frames + 1 ≤ R.frames ∧ 8 + (nL2 + 11) + rm2.locals ≤ R.locals ∧ nc + rm2.cells ≤ R.cells ∧ ns + rm2.slots ≤ R.slots) (hst : st = As.reverse ++ .ref b :: rest) (hW : (rest.map fun v => v.category).sum ≤ 8) (hd : decode cc pc = .ok (.invokevirtual index, 3)) (k : ∀ (r : Option Value) (G' : zH), post r G' → Z p l e R s m args below meth c y cc nL ret κ Q (nc + rm2.cells) (ns + rm2.slots) G' L (pc + 3) (r.toList ++ rest)) : Z p l e R s m args below meth c y cc nL ret κ Q nc ns G L pc st := fun C H locs ls hg hs hl => by
  subst hG
  obtain ⟨q0, hq⟩ := zen_ix hg hb
  have hPV : PreV s H y2.cls b (va_Pc (.ref b :: As) (fun U => zOK κ U ∧ zh κ G U.heap)) As := ⟨zblind, by rw [← hvc]; exact va_recv C.2.2.2.2.2.1.2.1 (zen_P hg) hcl hq, fun U hU hW => ⟨rfl, C.2.2.2.2.2.1.at hs hU hW, by rw [hU]; exact hg⟩⟩
  exact z_run (av := .ref b :: As) C hs hl (va_runV (C := y2.cls) (As := As) (rest := rest) ⟨C.1, C.2.1, C.2.2.1, C.2.2.2.1, C.2.2.2.2.1⟩ hC (cwV (C := y2.cls) As.length C.2.2.2.2.1 (zgi_cons w1 (zgi_cons hV.1 (zgi_cons hV.2.1 (zgi_cons hV.2.2.1 (zgi hV.2.2.2.1))))) rfl rfl rfl ⟨rfl, hV.2.2.2.2⟩ ⟨hR.1, hR.2.1⟩) hPV rfl rfl hl.1 hst (lv_room hW) hd ⟨hR.2.2.1, hR.2.2.2⟩) k
theorem z_callVi {P : Int32 → zH → Prop} {y2 : MethodName} {cc2 : ByteArray} {nL2 : Nat} {ret2 : Option FieldType} {rm2 : Room} {As rest : List Value} {index : Nat} {b : Nat} {rr : zR} {ci : Nat} {fs : List Value} {vc : vw_C} (G0 : zH) (hC : Ct l y2 cc2 nL2 ret2 rm2 κ (.ref b :: As) G0 (pI P)) (hG : G = G0) (hb : G b = some (rr, .inr (ci, fs))) (hcl : vwCl[ci]? = some vc) (hvc : vc.1 = y2.cls) (w1 : Cond.methodLink y.cls index y2 ∈ TB) (hV : zcV y2 cc2 nL2 ret2 As.length) (hR : rm2.frames + 1 ≤ R.frames ∧ 8 + (nL2 + 11) + rm2.locals ≤ R.locals ∧ nc + rm2.cells ≤ R.cells ∧ ns + rm2.slots ≤ R.slots) (hst : st = As.reverse ++ .ref b :: rest) (hW : (rest.map fun v => v.category).sum ≤ 8) (hd : decode cc pc = .ok (.invokevirtual index, 3)) (k : ∀ (v : Int32) (G' : zH), P v G' → Z p l e R s m args below meth c y cc nL ret κ Q (nc + rm2.cells) (ns + rm2.slots) G' L (pc + 3) (.int v :: rest)) : Z p l e R s m args below meth c y cc nL ret κ Q nc ns G L pc st := z_callV G0 hC hG hb hcl hvc w1 hV hR hst hW hd (fun r G' h => by
  obtain ⟨v, rfl, h⟩ := h
  exact k v G' h)
theorem z_callVv {P : zH → Prop} {y2 : MethodName} {cc2 : ByteArray} {nL2 : Nat} {ret2 : Option FieldType} {rm2 : Room} {As rest : List Value} {index : Nat} {b : Nat} {rr : zR} {ci : Nat} {fs : List Value} {vc : vw_C} (G0 : zH) (hC : Ct l y2 cc2 nL2 ret2 rm2 κ (.ref b :: As) G0 (pV P)) (hG : G = G0) (hb : G b = some (rr, .inr (ci, fs))) (hcl : vwCl[ci]? = some vc) (hvc : vc.1 = y2.cls) (w1 : Cond.methodLink y.cls index y2 ∈ TB) (hV : zcV y2 cc2 nL2 ret2 As.length) (hR : rm2.frames + 1 ≤ R.frames ∧ 8 + (nL2 + 11) + rm2.locals ≤ R.locals ∧ nc + rm2.cells ≤ R.cells ∧ ns + rm2.slots ≤ R.slots) (hst : st = As.reverse ++ .ref b :: rest) (hW : (rest.map fun v => v.category).sum ≤ 8) (hd : decode cc pc = .ok (.invokevirtual index, 3)) (k : ∀ (G' : zH), P G' → Z p l e R s m args below meth c y cc nL ret κ Q (nc + rm2.cells) (ns + rm2.slots) G' L (pc + 3) rest) : Z p l e R s m args below meth c y cc nL ret κ Q nc ns G L pc st := z_callV G0 hC hG hb hcl hvc w1 hV hR hst hW hd (fun r G' h => by
  obtain ⟨rfl, h⟩ := h
  exact k G' h)
theorem z_callVa {P : Option Nat → zH → Prop} {y2 : MethodName} {cc2 : ByteArray} {nL2 : Nat} {ret2 : Option FieldType} {rm2 : Room} {As rest : List Value} {index : Nat} {b : Nat} {rr : zR} {ci : Nat} {fs : List Value} {vc : vw_C} (G0 : zH) (hC : Ct l y2 cc2 nL2 ret2 rm2 κ (.ref b :: As) G0 (pA P)) (hG : G = G0) (hb : G b = some (rr, .inr (ci, fs))) (hcl : vwCl[ci]? = some vc) (hvc : vc.1 = y2.cls) (w1 : Cond.methodLink y.cls index y2 ∈ TB) (hV : zcV y2 cc2 nL2 ret2 As.length) (hR : rm2.frames + 1 ≤ R.frames ∧ 8 + (nL2 + 11) + rm2.locals ≤ R.locals ∧ nc + rm2.cells ≤ R.cells ∧ ns + rm2.slots ≤ R.slots) (hst : st = As.reverse ++ .ref b :: rest) (hW : (rest.map fun v => v.category).sum ≤ 8) (hd : decode cc pc = .ok (.invokevirtual index, 3)) (k : ∀ (v : Option Nat) (G' : zH), P v G' → Z p l e R s m args below meth c y cc nL ret κ Q (nc + rm2.cells) (ns + rm2.slots) G' L (pc + 3) (va_rf v :: rest)) : Z p l e R s m args below meth c y cc nL ret κ Q nc ns G L pc st := z_callV G0 hC hG hb hcl hvc w1 hV hR hst hW hd (fun r G' h => by
  obtain ⟨v, rfl, h⟩ := h
  exact k v G' h)
theorem z_callVN {post : Option Value → zH → Prop} {y2 : MethodName} {cc2 : ByteArray} {nL2 : Nat} {ret2 : Option FieldType} {rm2 : Room} {As rest : List Value} {index : Nat} {host : String} {b : Nat} {rr : zR} {ci : Nat} {fs : List Value} {vc : vw_C} (G0 : zH) (hC : Ct l y2 cc2 nL2 ret2 rm2 κ (.ref b :: As) G0 post) (hG : G = G0) (hb : G b = some (rr, .inr (ci, fs))) (hcl : vwCl[ci]? = some vc) (hvc : vc.1 = y2.cls) (w1 : Cond.methodLinkNest y.cls index y2 host ∈ NB) (hV : zcV y2 cc2 nL2 ret2 As.length) (hR : rm2.frames + 1 ≤ R.frames ∧ 8 + (nL2 + 11) + rm2.locals ≤ R.locals ∧ nc + rm2.cells ≤ R.cells ∧ ns + rm2.slots ≤ R.slots) (hst : st = As.reverse ++ .ref b :: rest) (hW : (rest.map fun v => v.category).sum ≤ 8) (hd : decode cc pc = .ok (.invokevirtual index, 3)) (k : ∀ (r : Option Value) (G' : zH), post r G' → Z p l e R s m args below meth c y cc nL ret κ Q (nc + rm2.cells) (ns + rm2.slots) G' L (pc + 3) (r.toList ++ rest)) : Z p l e R s m args below meth c y cc nL ret κ Q nc ns G L pc st := fun C H locs ls hg hs hl => by
  subst hG
  obtain ⟨q0, hq⟩ := zen_ix hg hb
  have hPV : PreV s H y2.cls b (va_Pc (.ref b :: As) (fun U => zOK κ U ∧ zh κ G U.heap)) As := ⟨zblind, by rw [← hvc]; exact va_recv C.2.2.2.2.2.1.2.1 (zen_P hg) hcl hq, fun U hU hW => ⟨rfl, C.2.2.2.2.2.1.at hs hU hW, by rw [hU]; exact hg⟩⟩
  exact z_run (av := .ref b :: As) C hs hl (va_runVN (C := y2.cls) (As := As) (rest := rest) ⟨C.1, C.2.1, C.2.2.1, C.2.2.2.1, C.2.2.2.2.1⟩ hC (⟨va_cnB As.length C.2.2.2.2.1 (zgi hV.2.2.2.1) rfl rfl rfl (C.2.2.2.2.2.1.2.2.2.1 _ w1) (C.2.2.2.2.1 _ hV.2.2.1) hV.2.2.2.2 ⟨hR.1, hR.2.1⟩, C.2.2.2.2.1 _ hV.1, C.2.2.2.2.1 _ hV.2.1⟩) hPV rfl rfl hl.1 hst (lv_room hW) hd ⟨hR.2.2.1, hR.2.2.2⟩) k
theorem z_callVNi {P : Int32 → zH → Prop} {y2 : MethodName} {cc2 : ByteArray} {nL2 : Nat} {ret2 : Option FieldType} {rm2 : Room} {As rest : List Value} {index : Nat} {host : String} {b : Nat} {rr : zR} {ci : Nat} {fs : List Value} {vc : vw_C} (G0 : zH) (hC : Ct l y2 cc2 nL2 ret2 rm2 κ (.ref b :: As) G0 (pI P)) (hG : G = G0) (hb : G b = some (rr, .inr (ci, fs))) (hcl : vwCl[ci]? = some vc) (hvc : vc.1 = y2.cls) (w1 : Cond.methodLinkNest y.cls index y2 host ∈ NB) (hV : zcV y2 cc2 nL2 ret2 As.length) (hR : rm2.frames + 1 ≤ R.frames ∧ 8 + (nL2 + 11) + rm2.locals ≤ R.locals ∧ nc + rm2.cells ≤ R.cells ∧ ns + rm2.slots ≤ R.slots) (hst : st = As.reverse ++ .ref b :: rest) (hW : (rest.map fun v => v.category).sum ≤ 8) (hd : decode cc pc = .ok (.invokevirtual index, 3)) (k : ∀ (v : Int32) (G' : zH), P v G' → Z p l e R s m args below meth c y cc nL ret κ Q (nc + rm2.cells) (ns + rm2.slots) G' L (pc + 3) (.int v :: rest)) : Z p l e R s m args below meth c y cc nL ret κ Q nc ns G L pc st := z_callVN G0 hC hG hb hcl hvc w1 hV hR hst hW hd (fun r G' h => by
  obtain ⟨v, rfl, h⟩ := h
  exact k v G' h)
theorem z_callVNv {P : zH → Prop} {y2 : MethodName} {cc2 : ByteArray} {nL2 : Nat} {ret2 : Option FieldType} {rm2 : Room} {As rest : List Value} {index : Nat} {host : String} {b : Nat} {rr : zR} {ci : Nat} {fs : List Value} {vc : vw_C} (G0 : zH) (hC : Ct l y2 cc2 nL2 ret2 rm2 κ (.ref b :: As) G0 (pV P)) (hG : G = G0) (hb : G b = some (rr, .inr (ci, fs))) (hcl : vwCl[ci]? = some vc) (hvc : vc.1 = y2.cls) (w1 : Cond.methodLinkNest y.cls index y2 host ∈ NB) (hV : zcV y2 cc2 nL2 ret2 As.length) (hR : rm2.frames + 1 ≤ R.frames ∧ 8 + (nL2 + 11) + rm2.locals ≤ R.locals ∧ nc + rm2.cells ≤ R.cells ∧ ns + rm2.slots ≤ R.slots) (hst : st = As.reverse ++ .ref b :: rest) (hW : (rest.map fun v => v.category).sum ≤ 8) (hd : decode cc pc = .ok (.invokevirtual index, 3)) (k : ∀ (G' : zH), P G' → Z p l e R s m args below meth c y cc nL ret κ Q (nc + rm2.cells) (ns + rm2.slots) G' L (pc + 3) rest) : Z p l e R s m args below meth c y cc nL ret κ Q nc ns G L pc st := z_callVN G0 hC hG hb hcl hvc w1 hV hR hst hW hd (fun r G' h => by
  obtain ⟨rfl, h⟩ := h
  exact k G' h)
theorem z_callVNa {P : Option Nat → zH → Prop} {y2 : MethodName} {cc2 : ByteArray} {nL2 : Nat} {ret2 : Option FieldType} {rm2 : Room} {As rest : List Value} {index : Nat} {host : String} {b : Nat} {rr : zR} {ci : Nat} {fs : List Value} {vc : vw_C} (G0 : zH) (hC : Ct l y2 cc2 nL2 ret2 rm2 κ (.ref b :: As) G0 (pA P)) (hG : G = G0) (hb : G b = some (rr, .inr (ci, fs))) (hcl : vwCl[ci]? = some vc) (hvc : vc.1 = y2.cls) (w1 : Cond.methodLinkNest y.cls index y2 host ∈ NB) (hV : zcV y2 cc2 nL2 ret2 As.length) (hR : rm2.frames + 1 ≤ R.frames ∧ 8 + (nL2 + 11) + rm2.locals ≤ R.locals ∧ nc + rm2.cells ≤ R.cells ∧ ns + rm2.slots ≤ R.slots) (hst : st = As.reverse ++ .ref b :: rest) (hW : (rest.map fun v => v.category).sum ≤ 8) (hd : decode cc pc = .ok (.invokevirtual index, 3)) (k : ∀ (v : Option Nat) (G' : zH), P v G' → Z p l e R s m args below meth c y cc nL ret κ Q (nc + rm2.cells) (ns + rm2.slots) G' L (pc + 3) (va_rf v :: rest)) : Z p l e R s m args below meth c y cc nL ret κ Q nc ns G L pc st := z_callVN G0 hC hG hb hcl hvc w1 hV hR hst hW hd (fun r G' h => by
  obtain ⟨v, rfl, h⟩ := h
  exact k v G' h)
theorem z_callS {post : Option Value → zH → Prop} {y2 : MethodName} {cc2 : ByteArray} {nL2 : Nat} {ret2 : Option FieldType} {rm2 : Room} {As rest : List Value} {index : Nat} (G0 : zH) (hC : Ct l y2 cc2 nL2 ret2 rm2 κ As G0 post) (hG : G = G0) (w1 : Cond.methodLink y.cls index y2 ∈ TB) (hV : zcS y2 cc2 nL2 ret2 As.length) (hR : rm2.frames + 1 ≤ R.frames ∧ 8 + (nL2 + 11) + rm2.locals ≤ R.locals ∧ nc + rm2.cells ≤ R.cells ∧ ns + rm2.slots ≤ R.slots) (hst : st = As.reverse ++ rest) (hW : (rest.map fun v => v.category).sum ≤ 8) (hd : decode cc pc = .ok (.invokestatic index, 3)) (k : ∀ (r : Option Value) (G' : zH), post r G' → Z p l e R s m args below meth c y cc nL ret κ Q (nc + rm2.cells) (ns + rm2.slots) G' L (pc + 3) (r.toList ++ rest)) : Z p l e R s m args below meth c y cc nL ret κ Q nc ns G L pc st := fun C H locs ls hg hs hl => by
  subst hG
  exact z_run (av := As) C hs hl (va_runS (As := As) (rest := rest) ⟨C.1, C.2.1, C.2.2.1, C.2.2.2.1, C.2.2.2.2.1⟩ hC (va_cwS As.length C.2.2.2.2.1 (zgi_cons w1 (zgi_cons hV.1 (zgi_cons hV.2.1 (zgi hV.2.2.1)))) rfl rfl rfl hV.2.2.2 ⟨hR.1, hR.2.1⟩) ⟨zblind (G := G), fun U hU hW => ⟨rfl, C.2.2.2.2.2.1.at hs hU hW, by rw [hU]; exact hg⟩⟩ rfl rfl hl.1 hst (lv_room hW) hd ⟨hR.2.2.1, hR.2.2.2⟩) k
theorem z_callSi {P : Int32 → zH → Prop} {y2 : MethodName} {cc2 : ByteArray} {nL2 : Nat} {ret2 : Option FieldType} {rm2 : Room} {As rest : List Value} {index : Nat} (G0 : zH) (hC : Ct l y2 cc2 nL2 ret2 rm2 κ As G0 (pI P)) (hG : G = G0) (w1 : Cond.methodLink y.cls index y2 ∈ TB) (hV : zcS y2 cc2 nL2 ret2 As.length) (hR : rm2.frames + 1 ≤ R.frames ∧ 8 + (nL2 + 11) + rm2.locals ≤ R.locals ∧ nc + rm2.cells ≤ R.cells ∧ ns + rm2.slots ≤ R.slots) (hst : st = As.reverse ++ rest) (hW : (rest.map fun v => v.category).sum ≤ 8) (hd : decode cc pc = .ok (.invokestatic index, 3)) (k : ∀ (v : Int32) (G' : zH), P v G' → Z p l e R s m args below meth c y cc nL ret κ Q (nc + rm2.cells) (ns + rm2.slots) G' L (pc + 3) (.int v :: rest)) : Z p l e R s m args below meth c y cc nL ret κ Q nc ns G L pc st := z_callS G0 hC hG w1 hV hR hst hW hd (fun r G' h => by
  obtain ⟨v, rfl, h⟩ := h
  exact k v G' h)
theorem z_callSv {P : zH → Prop} {y2 : MethodName} {cc2 : ByteArray} {nL2 : Nat} {ret2 : Option FieldType} {rm2 : Room} {As rest : List Value} {index : Nat} (G0 : zH) (hC : Ct l y2 cc2 nL2 ret2 rm2 κ As G0 (pV P)) (hG : G = G0) (w1 : Cond.methodLink y.cls index y2 ∈ TB) (hV : zcS y2 cc2 nL2 ret2 As.length) (hR : rm2.frames + 1 ≤ R.frames ∧ 8 + (nL2 + 11) + rm2.locals ≤ R.locals ∧ nc + rm2.cells ≤ R.cells ∧ ns + rm2.slots ≤ R.slots) (hst : st = As.reverse ++ rest) (hW : (rest.map fun v => v.category).sum ≤ 8) (hd : decode cc pc = .ok (.invokestatic index, 3)) (k : ∀ (G' : zH), P G' → Z p l e R s m args below meth c y cc nL ret κ Q (nc + rm2.cells) (ns + rm2.slots) G' L (pc + 3) rest) : Z p l e R s m args below meth c y cc nL ret κ Q nc ns G L pc st := z_callS G0 hC hG w1 hV hR hst hW hd (fun r G' h => by
  obtain ⟨rfl, h⟩ := h
  exact k G' h)
theorem z_callSa {P : Option Nat → zH → Prop} {y2 : MethodName} {cc2 : ByteArray} {nL2 : Nat} {ret2 : Option FieldType} {rm2 : Room} {As rest : List Value} {index : Nat} (G0 : zH) (hC : Ct l y2 cc2 nL2 ret2 rm2 κ As G0 (pA P)) (hG : G = G0) (w1 : Cond.methodLink y.cls index y2 ∈ TB) (hV : zcS y2 cc2 nL2 ret2 As.length) (hR : rm2.frames + 1 ≤ R.frames ∧ 8 + (nL2 + 11) + rm2.locals ≤ R.locals ∧ nc + rm2.cells ≤ R.cells ∧ ns + rm2.slots ≤ R.slots) (hst : st = As.reverse ++ rest) (hW : (rest.map fun v => v.category).sum ≤ 8) (hd : decode cc pc = .ok (.invokestatic index, 3)) (k : ∀ (v : Option Nat) (G' : zH), P v G' → Z p l e R s m args below meth c y cc nL ret κ Q (nc + rm2.cells) (ns + rm2.slots) G' L (pc + 3) (va_rf v :: rest)) : Z p l e R s m args below meth c y cc nL ret κ Q nc ns G L pc st := z_callS G0 hC hG w1 hV hR hst hW hd (fun r G' h => by
  obtain ⟨v, rfl, h⟩ := h
  exact k v G' h)
theorem z_callSN {post : Option Value → zH → Prop} {y2 : MethodName} {cc2 : ByteArray} {nL2 : Nat} {ret2 : Option FieldType} {rm2 : Room} {As rest : List Value} {index : Nat} {host : String} (G0 : zH) (hC : Ct l y2 cc2 nL2 ret2 rm2 κ As G0 post) (hG : G = G0) (w1 : Cond.methodLinkNest y.cls index y2 host ∈ NB) (hV : zcS y2 cc2 nL2 ret2 As.length) (hR : rm2.frames + 1 ≤ R.frames ∧ 8 + (nL2 + 11) + rm2.locals ≤ R.locals ∧ nc + rm2.cells ≤ R.cells ∧ ns + rm2.slots ≤ R.slots) (hst : st = As.reverse ++ rest) (hW : (rest.map fun v => v.category).sum ≤ 8) (hd : decode cc pc = .ok (.invokestatic index, 3)) (k : ∀ (r : Option Value) (G' : zH), post r G' → Z p l e R s m args below meth c y cc nL ret κ Q (nc + rm2.cells) (ns + rm2.slots) G' L (pc + 3) (r.toList ++ rest)) : Z p l e R s m args below meth c y cc nL ret κ Q nc ns G L pc st := fun C H locs ls hg hs hl => by
  subst hG
  exact z_run (av := As) C hs hl (va_runSN (As := As) (rest := rest) ⟨C.1, C.2.1, C.2.2.1, C.2.2.2.1, C.2.2.2.2.1⟩ hC (⟨va_cnB As.length C.2.2.2.2.1 (zgi hV.2.2.1) rfl rfl rfl (C.2.2.2.2.2.1.2.2.2.1 _ w1) (C.2.2.2.2.1 _ hV.2.1) hV.2.2.2 ⟨hR.1, hR.2.1⟩, C.2.2.2.2.1 _ hV.1, trivial⟩) ⟨zblind (G := G), fun U hU hW => ⟨rfl, C.2.2.2.2.2.1.at hs hU hW, by rw [hU]; exact hg⟩⟩ rfl rfl hl.1 hst (lv_room hW) hd ⟨hR.2.2.1, hR.2.2.2⟩) k
theorem z_callSNi {P : Int32 → zH → Prop} {y2 : MethodName} {cc2 : ByteArray} {nL2 : Nat} {ret2 : Option FieldType} {rm2 : Room} {As rest : List Value} {index : Nat} {host : String} (G0 : zH) (hC : Ct l y2 cc2 nL2 ret2 rm2 κ As G0 (pI P)) (hG : G = G0) (w1 : Cond.methodLinkNest y.cls index y2 host ∈ NB) (hV : zcS y2 cc2 nL2 ret2 As.length) (hR : rm2.frames + 1 ≤ R.frames ∧ 8 + (nL2 + 11) + rm2.locals ≤ R.locals ∧ nc + rm2.cells ≤ R.cells ∧ ns + rm2.slots ≤ R.slots) (hst : st = As.reverse ++ rest) (hW : (rest.map fun v => v.category).sum ≤ 8) (hd : decode cc pc = .ok (.invokestatic index, 3)) (k : ∀ (v : Int32) (G' : zH), P v G' → Z p l e R s m args below meth c y cc nL ret κ Q (nc + rm2.cells) (ns + rm2.slots) G' L (pc + 3) (.int v :: rest)) : Z p l e R s m args below meth c y cc nL ret κ Q nc ns G L pc st := z_callSN G0 hC hG w1 hV hR hst hW hd (fun r G' h => by
  obtain ⟨v, rfl, h⟩ := h
  exact k v G' h)
theorem z_callSNv {P : zH → Prop} {y2 : MethodName} {cc2 : ByteArray} {nL2 : Nat} {ret2 : Option FieldType} {rm2 : Room} {As rest : List Value} {index : Nat} {host : String} (G0 : zH) (hC : Ct l y2 cc2 nL2 ret2 rm2 κ As G0 (pV P)) (hG : G = G0) (w1 : Cond.methodLinkNest y.cls index y2 host ∈ NB) (hV : zcS y2 cc2 nL2 ret2 As.length) (hR : rm2.frames + 1 ≤ R.frames ∧ 8 + (nL2 + 11) + rm2.locals ≤ R.locals ∧ nc + rm2.cells ≤ R.cells ∧ ns + rm2.slots ≤ R.slots) (hst : st = As.reverse ++ rest) (hW : (rest.map fun v => v.category).sum ≤ 8) (hd : decode cc pc = .ok (.invokestatic index, 3)) (k : ∀ (G' : zH), P G' → Z p l e R s m args below meth c y cc nL ret κ Q (nc + rm2.cells) (ns + rm2.slots) G' L (pc + 3) rest) : Z p l e R s m args below meth c y cc nL ret κ Q nc ns G L pc st := z_callSN G0 hC hG w1 hV hR hst hW hd (fun r G' h => by
  obtain ⟨rfl, h⟩ := h
  exact k G' h)
theorem z_callSNa {P : Option Nat → zH → Prop} {y2 : MethodName} {cc2 : ByteArray} {nL2 : Nat} {ret2 : Option FieldType} {rm2 : Room} {As rest : List Value} {index : Nat} {host : String} (G0 : zH) (hC : Ct l y2 cc2 nL2 ret2 rm2 κ As G0 (pA P)) (hG : G = G0) (w1 : Cond.methodLinkNest y.cls index y2 host ∈ NB) (hV : zcS y2 cc2 nL2 ret2 As.length) (hR : rm2.frames + 1 ≤ R.frames ∧ 8 + (nL2 + 11) + rm2.locals ≤ R.locals ∧ nc + rm2.cells ≤ R.cells ∧ ns + rm2.slots ≤ R.slots) (hst : st = As.reverse ++ rest) (hW : (rest.map fun v => v.category).sum ≤ 8) (hd : decode cc pc = .ok (.invokestatic index, 3)) (k : ∀ (v : Option Nat) (G' : zH), P v G' → Z p l e R s m args below meth c y cc nL ret κ Q (nc + rm2.cells) (ns + rm2.slots) G' L (pc + 3) (va_rf v :: rest)) : Z p l e R s m args below meth c y cc nL ret κ Q nc ns G L pc st := z_callSN G0 hC hG w1 hV hR hst hW hd (fun r G' h => by
  obtain ⟨v, rfl, h⟩ := h
  exact k v G' h)
theorem z_callI {post : Option Value → zH → Prop} {y2 : MethodName} {cc2 : ByteArray} {nL2 : Nat} {rm2 : Room} {As rest : List Value} {index : Nat} {b : Nat} (G0 : zH) (hC : Ct l y2 cc2 nL2 none rm2 κ (.ref b :: As) G0 post) (hG : G = G0) (w1 : Cond.methodLink y.cls index y2 ∈ TB) (hV : zcI y2 cc2 nL2 As.length) (hR : rm2.frames + 1 ≤ R.frames ∧ 8 + (nL2 + 11) + rm2.locals ≤ R.locals ∧ nc + rm2.cells ≤ R.cells ∧ ns + rm2.slots ≤ R.slots) (hst : st = As.reverse ++ .ref b :: rest) (hW : (rest.map fun v => v.category).sum ≤ 8) (hd : decode cc pc = .ok (.invokespecial index, 3)) (k : ∀ (r : Option Value) (G' : zH), post r G' → Z p l e R s m args below meth c y cc nL ret κ Q (nc + rm2.cells) (ns + rm2.slots) G' L (pc + 3) (r.toList ++ rest)) : Z p l e R s m args below meth c y cc nL ret κ Q nc ns G L pc st := fun C H locs ls hg hs hl => by
  subst hG
  exact z_run (av := .ref b :: As) C hs hl (va_runI (As := As) (rest := rest) ⟨C.1, C.2.1, C.2.2.1, C.2.2.2.1, C.2.2.2.2.1⟩ hC (cwI As.length C.2.2.2.2.1 (zgi hV.2.2.1) rfl rfl rfl (C.2.2.2.2.1 _ hV.2.1) (C.2.2.2.2.1 _ w1) (C.2.2.2.2.1 _ hV.1) hV.2.2.2.1 hV.2.2.2.2 ⟨hR.1, hR.2.1⟩) ⟨zblind (G := G), fun U hU hW => ⟨rfl, C.2.2.2.2.2.1.at hs hU hW, by rw [hU]; exact hg⟩⟩ rfl rfl hl.1 hst (lv_room hW) hd ⟨hR.2.2.1, hR.2.2.2⟩) k
theorem z_callIv {P : zH → Prop} {y2 : MethodName} {cc2 : ByteArray} {nL2 : Nat} {rm2 : Room} {As rest : List Value} {index : Nat} {b : Nat} (G0 : zH) (hC : Ct l y2 cc2 nL2 none rm2 κ (.ref b :: As) G0 (pV P)) (hG : G = G0) (w1 : Cond.methodLink y.cls index y2 ∈ TB) (hV : zcI y2 cc2 nL2 As.length) (hR : rm2.frames + 1 ≤ R.frames ∧ 8 + (nL2 + 11) + rm2.locals ≤ R.locals ∧ nc + rm2.cells ≤ R.cells ∧ ns + rm2.slots ≤ R.slots) (hst : st = As.reverse ++ .ref b :: rest) (hW : (rest.map fun v => v.category).sum ≤ 8) (hd : decode cc pc = .ok (.invokespecial index, 3)) (k : ∀ (G' : zH), P G' → Z p l e R s m args below meth c y cc nL ret κ Q (nc + rm2.cells) (ns + rm2.slots) G' L (pc + 3) rest) : Z p l e R s m args below meth c y cc nL ret κ Q nc ns G L pc st := z_callI G0 hC hG w1 hV hR hst hW hd (fun r G' h => by
  obtain ⟨rfl, h⟩ := h
  exact k G' h)
theorem z_callIN {post : Option Value → zH → Prop} {y2 : MethodName} {cc2 : ByteArray} {nL2 : Nat} {rm2 : Room} {As rest : List Value} {index : Nat} {host : String} {b : Nat} (G0 : zH) (hC : Ct l y2 cc2 nL2 none rm2 κ (.ref b :: As) G0 post) (hG : G = G0) (w1 : Cond.methodLinkNest y.cls index y2 host ∈ NB) (hV : zcI y2 cc2 nL2 As.length) (hR : rm2.frames + 1 ≤ R.frames ∧ 8 + (nL2 + 11) + rm2.locals ≤ R.locals ∧ nc + rm2.cells ≤ R.cells ∧ ns + rm2.slots ≤ R.slots) (hst : st = As.reverse ++ .ref b :: rest) (hW : (rest.map fun v => v.category).sum ≤ 8) (hd : decode cc pc = .ok (.invokespecial index, 3)) (k : ∀ (r : Option Value) (G' : zH), post r G' → Z p l e R s m args below meth c y cc nL ret κ Q (nc + rm2.cells) (ns + rm2.slots) G' L (pc + 3) (r.toList ++ rest)) : Z p l e R s m args below meth c y cc nL ret κ Q nc ns G L pc st := fun C H locs ls hg hs hl => by
  subst hG
  exact z_run (av := .ref b :: As) C hs hl (va_runIN (As := As) (rest := rest) ⟨C.1, C.2.1, C.2.2.1, C.2.2.2.1, C.2.2.2.2.1⟩ hC (⟨va_cnB As.length C.2.2.2.2.1 (zgi hV.2.2.1) rfl rfl rfl (C.2.2.2.2.2.1.2.2.2.1 _ w1) (C.2.2.2.2.1 _ hV.2.1) hV.2.2.2.2 ⟨hR.1, hR.2.1⟩, hV.2.2.2.1, C.2.2.2.2.1 _ hV.1⟩) ⟨zblind (G := G), fun U hU hW => ⟨rfl, C.2.2.2.2.2.1.at hs hU hW, by rw [hU]; exact hg⟩⟩ rfl rfl hl.1 hst (lv_room hW) hd ⟨hR.2.2.1, hR.2.2.2⟩) k
theorem z_callINv {P : zH → Prop} {y2 : MethodName} {cc2 : ByteArray} {nL2 : Nat} {rm2 : Room} {As rest : List Value} {index : Nat} {host : String} {b : Nat} (G0 : zH) (hC : Ct l y2 cc2 nL2 none rm2 κ (.ref b :: As) G0 (pV P)) (hG : G = G0) (w1 : Cond.methodLinkNest y.cls index y2 host ∈ NB) (hV : zcI y2 cc2 nL2 As.length) (hR : rm2.frames + 1 ≤ R.frames ∧ 8 + (nL2 + 11) + rm2.locals ≤ R.locals ∧ nc + rm2.cells ≤ R.cells ∧ ns + rm2.slots ≤ R.slots) (hst : st = As.reverse ++ .ref b :: rest) (hW : (rest.map fun v => v.category).sum ≤ 8) (hd : decode cc pc = .ok (.invokespecial index, 3)) (k : ∀ (G' : zH), P G' → Z p l e R s m args below meth c y cc nL ret κ Q (nc + rm2.cells) (ns + rm2.slots) G' L (pc + 3) rest) : Z p l e R s m args below meth c y cc nL ret κ Q nc ns G L pc st := z_callIN G0 hC hG w1 hV hR hst hW hd (fun r G' h => by
  obtain ⟨rfl, h⟩ := h
  exact k G' h)
theorem z_mmin {x w : Int32} {index : Nat} (w1 : Cond.methodLink y.cls index Lib.Math.min.name ∈ TB) (w2 : Cond.static Lib.Math.min.name ∈ TB) (w3 : Cond.initialized "java/lang/Math" ∈ TB) (w4 : Cond.code Lib.Math.min.name Lib.Math.min.code 2 (some .int) ∈ TB) (hR : 1 ≤ R.frames ∧ 21 ≤ R.locals ∧ nc ≤ R.cells ∧ ns ≤ R.slots) (hW : (st.map fun v => v.category).sum ≤ 8) (hd : decode cc pc = .ok (.invokestatic index, 3)) (kk : Z p l e R s m args below meth c y cc nL ret κ Q nc ns G L (pc + 3) (.int (if w < x then w else x) :: st)) : Z p l e R s m args below meth c y cc nL ret κ Q nc ns G L pc (.int w :: .int x :: st) := fun C H locs ls hg hs hl => va_mmin C.1 C.2.1 (by rw [C.2.2.1]; exact hl.1.symm) C.2.2.2.1 (C.2.2.2.2.1 _ w1) (C.2.2.2.2.1 _ w2) (C.2.2.2.2.1 _ w3) (C.2.2.2.2.1 _ w4) hR.1 (by have := hR.2.1; omega) hR.2.2.1 hR.2.2.2 hd (kk C H locs ls hg hs hl)
theorem z_mmax {x w : Int32} {index : Nat} (w1 : Cond.methodLink y.cls index Lib.Math.max.name ∈ TB) (w2 : Cond.static Lib.Math.max.name ∈ TB) (w3 : Cond.initialized "java/lang/Math" ∈ TB) (w4 : Cond.code Lib.Math.max.name Lib.Math.max.code 2 (some .int) ∈ TB) (hR : 1 ≤ R.frames ∧ 21 ≤ R.locals ∧ nc ≤ R.cells ∧ ns ≤ R.slots) (hW : (st.map fun v => v.category).sum ≤ 8) (hd : decode cc pc = .ok (.invokestatic index, 3)) (kk : Z p l e R s m args below meth c y cc nL ret κ Q nc ns G L (pc + 3) (.int (if x < w then w else x) :: st)) : Z p l e R s m args below meth c y cc nL ret κ Q nc ns G L pc (.int w :: .int x :: st) := fun C H locs ls hg hs hl => va_mmax C.1 C.2.1 (by rw [C.2.2.1]; exact hl.1.symm) C.2.2.2.1 (C.2.2.2.2.1 _ w1) (C.2.2.2.2.1 _ w2) (C.2.2.2.2.1 _ w3) (C.2.2.2.2.1 _ w4) hR.1 (by have := hR.2.1; omega) hR.2.2.1 hR.2.2.2 hd (kk C H locs ls hg hs hl)
theorem z_mabs {x : Int32} {index : Nat} (w1 : Cond.methodLink y.cls index Lib.Math.abs.name ∈ TB) (w2 : Cond.static Lib.Math.abs.name ∈ TB) (w3 : Cond.initialized "java/lang/Math" ∈ TB) (w4 : Cond.code Lib.Math.abs.name Lib.Math.abs.code 1 (some .int) ∈ TB) (hR : 1 ≤ R.frames ∧ 21 ≤ R.locals ∧ nc ≤ R.cells ∧ ns ≤ R.slots) (hW : (st.map fun v => v.category).sum ≤ 8) (hd : decode cc pc = .ok (.invokestatic index, 3)) (kk : Z p l e R s m args below meth c y cc nL ret κ Q nc ns G L (pc + 3) (.int (if 0 ≤ x then x else 0 - x) :: st)) : Z p l e R s m args below meth c y cc nL ret κ Q nc ns G L pc (.int x :: st) := fun C H locs ls hg hs hl => va_mabs C.1 C.2.1 (by rw [C.2.2.1]; exact hl.1.symm) C.2.2.2.1 (C.2.2.2.2.1 _ w1) (C.2.2.2.2.1 _ w2) (C.2.2.2.2.1 _ w3) (C.2.2.2.2.1 _ w4) hR.1 (by have := hR.2.1; omega) hR.2.2.1 hR.2.2.2 hd (kk C H locs ls hg hs hl)
theorem z_gets {C n d ref : String} {v : Value} {index : Nat} (hZ : zS κ s s.heap → va_Z C n d v (zA κ) s s.heap) (hw : Cond.fieldLink y.cls index C n d ∈ TB) (hd : decode cc pc = .ok (.getstatic index, 3)) (kk : Z p l e R s m args below meth c y cc nL ret κ Q nc ns G L (pc + 3) (v :: st)) : Z p l e R s m args below meth c y cc nL ret κ Q nc ns G L pc st := fun C H locs ls hg hs hl =>
  va_gets C.1 C.2.1 (hZ C.2.2.2.2.2.1.2.2.1) hs C.2.2.2.1 (C.2.2.2.2.1 _ hw) (fun _ h => h) hd (kk C H locs ls hg hs hl)
theorem z_ti {t N : Nat} {f : Nat → Value} {v : Value} {i : Int32} (j : Nat) (hT : zS κ s s.heap → va_T .int t N f (zA κ) s s.heap) (hi : i = nI j) (hj : j < N) (hN : N < 2 ^ 31) (hv : f j = v) (hd : decode cc pc = .ok (.iaload, 1)) (kk : Z p l e R s m args below meth c y cc nL ret κ Q nc ns G L (pc + 1) (v :: st)) : Z p l e R s m args below meth c y cc nL ret κ Q nc ns G L pc (.int i :: .ref t :: st) := fun C H locs ls hg hs hl => by
  subst hi
  exact va_ti C.1 C.2.1 (hT C.2.2.2.2.2.1.2.2.1) hs (vp_in_nI hj hN) (by rw [nI_clamp (Nat.lt_trans hj hN)]; exact hv) hd (kk C H locs ls hg hs hl)
theorem z_tlen {ty : FieldType} {t N : Nat} {f : Nat → Value} {v : Int32} (hT : zS κ s s.heap → va_T ty t N f (zA κ) s s.heap) (hv : Int32.ofNat N = v) (hd : decode cc pc = .ok (.arraylength, 1)) (kk : Z p l e R s m args below meth c y cc nL ret κ Q nc ns G L (pc + 1) (.int v :: st)) : Z p l e R s m args below meth c y cc nL ret κ Q nc ns G L pc (.ref t :: st) := fun C H locs ls hg hs hl =>
  va_tlen C.1 C.2.1 (hT C.2.2.2.2.2.1.2.2.1) hs hv hd (kk C H locs ls hg hs hl)
end ZR
end
section
abbrev rmK (f c s l : Nat) : Room := { frames := f, cells := c, slots := s, locals := l }
section ZR2
variable {p : Program} {l : Launch} {e : Env} {R : Room} {s : State} {m : MethodId} {args : Array Value} {below : List Frame} {meth : Method} {c : Code} {y : MethodName} {cc : ByteArray} {nL : Nat} {ret : Option FieldType} {κ : zK} {Q : State → Prop} {nc ns : Nat} {G : zH} {L : List (Option Value)} {pc : Nat} {st : List Value}
theorem z_il0 {t : List (Option Value)} {x : Int32} (hd : decode cc pc = .ok (.iload_n 0, 1)) (k : Z p l e R s m args below meth c y cc nL ret κ Q nc ns G (some (.int x) :: t) (pc + 1) (.int x :: st)) : Z p l e R s m args below meth c y cc nL ret κ Q nc ns G (some (.int x) :: t) pc st := z_iload_n 0 hd rfl rfl k
theorem z_al0 {t : List (Option Value)} {x : Nat} (hd : decode cc pc = .ok (.aload_n 0, 1)) (k : Z p l e R s m args below meth c y cc nL ret κ Q nc ns G (some (.ref x) :: t) (pc + 1) (.ref x :: st)) : Z p l e R s m args below meth c y cc nL ret κ Q nc ns G (some (.ref x) :: t) pc st := z_aload_n 0 hd rfl rfl ⟨some x, rfl⟩ k
theorem z_al0N {t : List (Option Value)} (hd : decode cc pc = .ok (.aload_n 0, 1)) (k : Z p l e R s m args below meth c y cc nL ret κ Q nc ns G (some .null :: t) (pc + 1) (.null :: st)) : Z p l e R s m args below meth c y cc nL ret κ Q nc ns G (some .null :: t) pc st := z_aload_n 0 hd rfl rfl ⟨none, rfl⟩ k
theorem z_al0q {t : List (Option Value)} {x : Option Nat} (hd : decode cc pc = .ok (.aload_n 0, 1)) (k : Z p l e R s m args below meth c y cc nL ret κ Q nc ns G (some (va_rf x) :: t) (pc + 1) (va_rf x :: st)) : Z p l e R s m args below meth c y cc nL ret κ Q nc ns G (some (va_rf x) :: t) pc st := z_aload_n 0 hd rfl rfl ⟨x, rfl⟩ k
theorem z_is0 {w : Option Value} {t : List (Option Value)} {x : Int32} (hd : decode cc pc = .ok (.istore_n 0, 1)) (hn : 0 < nL) (k : Z p l e R s m args below meth c y cc nL ret κ Q nc ns G (some (.int x) :: t) (pc + 1) st) : Z p l e R s m args below meth c y cc nL ret κ Q nc ns G (w :: t) pc (.int x :: st) := z_istore_n 0 hd rfl hn rfl k
theorem z_as0 {w : Option Value} {t : List (Option Value)} {x : Nat} (hd : decode cc pc = .ok (.astore_n 0, 1)) (hn : 0 < nL) (k : Z p l e R s m args below meth c y cc nL ret κ Q nc ns G (some (.ref x) :: t) (pc + 1) st) : Z p l e R s m args below meth c y cc nL ret κ Q nc ns G (w :: t) pc (.ref x :: st) := z_astore_n 0 hd rfl hn ⟨some x, rfl⟩ rfl k
theorem z_as0N {w : Option Value} {t : List (Option Value)} (hd : decode cc pc = .ok (.astore_n 0, 1)) (hn : 0 < nL) (k : Z p l e R s m args below meth c y cc nL ret κ Q nc ns G (some .null :: t) (pc + 1) st) : Z p l e R s m args below meth c y cc nL ret κ Q nc ns G (w :: t) pc (.null :: st) := z_astore_n 0 hd rfl hn ⟨none, rfl⟩ rfl k
theorem z_as0q {w : Option Value} {t : List (Option Value)} {x : Option Nat} (hd : decode cc pc = .ok (.astore_n 0, 1)) (hn : 0 < nL) (k : Z p l e R s m args below meth c y cc nL ret κ Q nc ns G (some (va_rf x) :: t) (pc + 1) st) : Z p l e R s m args below meth c y cc nL ret κ Q nc ns G (w :: t) pc (va_rf x :: st) := z_astore_n 0 hd rfl hn ⟨x, rfl⟩ rfl k
theorem z_ii0 {t : List (Option Value)} {x : Int32} {n : Int} (v : Int32) (hd : decode cc pc = .ok (.iinc 0 n, 3)) (hv : x + Int32.ofInt n = v) (hn : 0 < nL) (k : Z p l e R s m args below meth c y cc nL ret κ Q nc ns G (some (.int v) :: t) (pc + 3) st) : Z p l e R s m args below meth c y cc nL ret κ Q nc ns G (some (.int x) :: t) pc st := z_iinc 0 hd rfl hv hn rfl k
theorem z_il1 {x0 : Option Value} {t : List (Option Value)} {x : Int32} (hd : decode cc pc = .ok (.iload_n 1, 1)) (k : Z p l e R s m args below meth c y cc nL ret κ Q nc ns G (x0 :: some (.int x) :: t) (pc + 1) (.int x :: st)) : Z p l e R s m args below meth c y cc nL ret κ Q nc ns G (x0 :: some (.int x) :: t) pc st := z_iload_n 1 hd rfl rfl k
theorem z_al1 {x0 : Option Value} {t : List (Option Value)} {x : Nat} (hd : decode cc pc = .ok (.aload_n 1, 1)) (k : Z p l e R s m args below meth c y cc nL ret κ Q nc ns G (x0 :: some (.ref x) :: t) (pc + 1) (.ref x :: st)) : Z p l e R s m args below meth c y cc nL ret κ Q nc ns G (x0 :: some (.ref x) :: t) pc st := z_aload_n 1 hd rfl rfl ⟨some x, rfl⟩ k
theorem z_al1N {x0 : Option Value} {t : List (Option Value)} (hd : decode cc pc = .ok (.aload_n 1, 1)) (k : Z p l e R s m args below meth c y cc nL ret κ Q nc ns G (x0 :: some .null :: t) (pc + 1) (.null :: st)) : Z p l e R s m args below meth c y cc nL ret κ Q nc ns G (x0 :: some .null :: t) pc st := z_aload_n 1 hd rfl rfl ⟨none, rfl⟩ k
theorem z_al1q {x0 : Option Value} {t : List (Option Value)} {x : Option Nat} (hd : decode cc pc = .ok (.aload_n 1, 1)) (k : Z p l e R s m args below meth c y cc nL ret κ Q nc ns G (x0 :: some (va_rf x) :: t) (pc + 1) (va_rf x :: st)) : Z p l e R s m args below meth c y cc nL ret κ Q nc ns G (x0 :: some (va_rf x) :: t) pc st := z_aload_n 1 hd rfl rfl ⟨x, rfl⟩ k
theorem z_is1 {x0 : Option Value} {w : Option Value} {t : List (Option Value)} {x : Int32} (hd : decode cc pc = .ok (.istore_n 1, 1)) (hn : 1 < nL) (k : Z p l e R s m args below meth c y cc nL ret κ Q nc ns G (x0 :: some (.int x) :: t) (pc + 1) st) : Z p l e R s m args below meth c y cc nL ret κ Q nc ns G (x0 :: w :: t) pc (.int x :: st) := z_istore_n 1 hd rfl hn rfl k
theorem z_as1 {x0 : Option Value} {w : Option Value} {t : List (Option Value)} {x : Nat} (hd : decode cc pc = .ok (.astore_n 1, 1)) (hn : 1 < nL) (k : Z p l e R s m args below meth c y cc nL ret κ Q nc ns G (x0 :: some (.ref x) :: t) (pc + 1) st) : Z p l e R s m args below meth c y cc nL ret κ Q nc ns G (x0 :: w :: t) pc (.ref x :: st) := z_astore_n 1 hd rfl hn ⟨some x, rfl⟩ rfl k
theorem z_as1N {x0 : Option Value} {w : Option Value} {t : List (Option Value)} (hd : decode cc pc = .ok (.astore_n 1, 1)) (hn : 1 < nL) (k : Z p l e R s m args below meth c y cc nL ret κ Q nc ns G (x0 :: some .null :: t) (pc + 1) st) : Z p l e R s m args below meth c y cc nL ret κ Q nc ns G (x0 :: w :: t) pc (.null :: st) := z_astore_n 1 hd rfl hn ⟨none, rfl⟩ rfl k
theorem z_as1q {x0 : Option Value} {w : Option Value} {t : List (Option Value)} {x : Option Nat} (hd : decode cc pc = .ok (.astore_n 1, 1)) (hn : 1 < nL) (k : Z p l e R s m args below meth c y cc nL ret κ Q nc ns G (x0 :: some (va_rf x) :: t) (pc + 1) st) : Z p l e R s m args below meth c y cc nL ret κ Q nc ns G (x0 :: w :: t) pc (va_rf x :: st) := z_astore_n 1 hd rfl hn ⟨x, rfl⟩ rfl k
theorem z_ii1 {x0 : Option Value} {t : List (Option Value)} {x : Int32} {n : Int} (v : Int32) (hd : decode cc pc = .ok (.iinc 1 n, 3)) (hv : x + Int32.ofInt n = v) (hn : 1 < nL) (k : Z p l e R s m args below meth c y cc nL ret κ Q nc ns G (x0 :: some (.int v) :: t) (pc + 3) st) : Z p l e R s m args below meth c y cc nL ret κ Q nc ns G (x0 :: some (.int x) :: t) pc st := z_iinc 1 hd rfl hv hn rfl k
theorem z_il2 {x0 x1 : Option Value} {t : List (Option Value)} {x : Int32} (hd : decode cc pc = .ok (.iload_n 2, 1)) (k : Z p l e R s m args below meth c y cc nL ret κ Q nc ns G (x0 :: x1 :: some (.int x) :: t) (pc + 1) (.int x :: st)) : Z p l e R s m args below meth c y cc nL ret κ Q nc ns G (x0 :: x1 :: some (.int x) :: t) pc st := z_iload_n 2 hd rfl rfl k
theorem z_al2 {x0 x1 : Option Value} {t : List (Option Value)} {x : Nat} (hd : decode cc pc = .ok (.aload_n 2, 1)) (k : Z p l e R s m args below meth c y cc nL ret κ Q nc ns G (x0 :: x1 :: some (.ref x) :: t) (pc + 1) (.ref x :: st)) : Z p l e R s m args below meth c y cc nL ret κ Q nc ns G (x0 :: x1 :: some (.ref x) :: t) pc st := z_aload_n 2 hd rfl rfl ⟨some x, rfl⟩ k
theorem z_al2N {x0 x1 : Option Value} {t : List (Option Value)} (hd : decode cc pc = .ok (.aload_n 2, 1)) (k : Z p l e R s m args below meth c y cc nL ret κ Q nc ns G (x0 :: x1 :: some .null :: t) (pc + 1) (.null :: st)) : Z p l e R s m args below meth c y cc nL ret κ Q nc ns G (x0 :: x1 :: some .null :: t) pc st := z_aload_n 2 hd rfl rfl ⟨none, rfl⟩ k
theorem z_al2q {x0 x1 : Option Value} {t : List (Option Value)} {x : Option Nat} (hd : decode cc pc = .ok (.aload_n 2, 1)) (k : Z p l e R s m args below meth c y cc nL ret κ Q nc ns G (x0 :: x1 :: some (va_rf x) :: t) (pc + 1) (va_rf x :: st)) : Z p l e R s m args below meth c y cc nL ret κ Q nc ns G (x0 :: x1 :: some (va_rf x) :: t) pc st := z_aload_n 2 hd rfl rfl ⟨x, rfl⟩ k
theorem z_is2 {x0 x1 : Option Value} {w : Option Value} {t : List (Option Value)} {x : Int32} (hd : decode cc pc = .ok (.istore_n 2, 1)) (hn : 2 < nL) (k : Z p l e R s m args below meth c y cc nL ret κ Q nc ns G (x0 :: x1 :: some (.int x) :: t) (pc + 1) st) : Z p l e R s m args below meth c y cc nL ret κ Q nc ns G (x0 :: x1 :: w :: t) pc (.int x :: st) := z_istore_n 2 hd rfl hn rfl k
theorem z_as2 {x0 x1 : Option Value} {w : Option Value} {t : List (Option Value)} {x : Nat} (hd : decode cc pc = .ok (.astore_n 2, 1)) (hn : 2 < nL) (k : Z p l e R s m args below meth c y cc nL ret κ Q nc ns G (x0 :: x1 :: some (.ref x) :: t) (pc + 1) st) : Z p l e R s m args below meth c y cc nL ret κ Q nc ns G (x0 :: x1 :: w :: t) pc (.ref x :: st) := z_astore_n 2 hd rfl hn ⟨some x, rfl⟩ rfl k
theorem z_as2N {x0 x1 : Option Value} {w : Option Value} {t : List (Option Value)} (hd : decode cc pc = .ok (.astore_n 2, 1)) (hn : 2 < nL) (k : Z p l e R s m args below meth c y cc nL ret κ Q nc ns G (x0 :: x1 :: some .null :: t) (pc + 1) st) : Z p l e R s m args below meth c y cc nL ret κ Q nc ns G (x0 :: x1 :: w :: t) pc (.null :: st) := z_astore_n 2 hd rfl hn ⟨none, rfl⟩ rfl k
theorem z_as2q {x0 x1 : Option Value} {w : Option Value} {t : List (Option Value)} {x : Option Nat} (hd : decode cc pc = .ok (.astore_n 2, 1)) (hn : 2 < nL) (k : Z p l e R s m args below meth c y cc nL ret κ Q nc ns G (x0 :: x1 :: some (va_rf x) :: t) (pc + 1) st) : Z p l e R s m args below meth c y cc nL ret κ Q nc ns G (x0 :: x1 :: w :: t) pc (va_rf x :: st) := z_astore_n 2 hd rfl hn ⟨x, rfl⟩ rfl k
theorem z_ii2 {x0 x1 : Option Value} {t : List (Option Value)} {x : Int32} {n : Int} (v : Int32) (hd : decode cc pc = .ok (.iinc 2 n, 3)) (hv : x + Int32.ofInt n = v) (hn : 2 < nL) (k : Z p l e R s m args below meth c y cc nL ret κ Q nc ns G (x0 :: x1 :: some (.int v) :: t) (pc + 3) st) : Z p l e R s m args below meth c y cc nL ret κ Q nc ns G (x0 :: x1 :: some (.int x) :: t) pc st := z_iinc 2 hd rfl hv hn rfl k
theorem z_il3 {x0 x1 x2 : Option Value} {t : List (Option Value)} {x : Int32} (hd : decode cc pc = .ok (.iload_n 3, 1)) (k : Z p l e R s m args below meth c y cc nL ret κ Q nc ns G (x0 :: x1 :: x2 :: some (.int x) :: t) (pc + 1) (.int x :: st)) : Z p l e R s m args below meth c y cc nL ret κ Q nc ns G (x0 :: x1 :: x2 :: some (.int x) :: t) pc st := z_iload_n 3 hd rfl rfl k
theorem z_al3 {x0 x1 x2 : Option Value} {t : List (Option Value)} {x : Nat} (hd : decode cc pc = .ok (.aload_n 3, 1)) (k : Z p l e R s m args below meth c y cc nL ret κ Q nc ns G (x0 :: x1 :: x2 :: some (.ref x) :: t) (pc + 1) (.ref x :: st)) : Z p l e R s m args below meth c y cc nL ret κ Q nc ns G (x0 :: x1 :: x2 :: some (.ref x) :: t) pc st := z_aload_n 3 hd rfl rfl ⟨some x, rfl⟩ k
theorem z_al3N {x0 x1 x2 : Option Value} {t : List (Option Value)} (hd : decode cc pc = .ok (.aload_n 3, 1)) (k : Z p l e R s m args below meth c y cc nL ret κ Q nc ns G (x0 :: x1 :: x2 :: some .null :: t) (pc + 1) (.null :: st)) : Z p l e R s m args below meth c y cc nL ret κ Q nc ns G (x0 :: x1 :: x2 :: some .null :: t) pc st := z_aload_n 3 hd rfl rfl ⟨none, rfl⟩ k
theorem z_al3q {x0 x1 x2 : Option Value} {t : List (Option Value)} {x : Option Nat} (hd : decode cc pc = .ok (.aload_n 3, 1)) (k : Z p l e R s m args below meth c y cc nL ret κ Q nc ns G (x0 :: x1 :: x2 :: some (va_rf x) :: t) (pc + 1) (va_rf x :: st)) : Z p l e R s m args below meth c y cc nL ret κ Q nc ns G (x0 :: x1 :: x2 :: some (va_rf x) :: t) pc st := z_aload_n 3 hd rfl rfl ⟨x, rfl⟩ k
theorem z_is3 {x0 x1 x2 : Option Value} {w : Option Value} {t : List (Option Value)} {x : Int32} (hd : decode cc pc = .ok (.istore_n 3, 1)) (hn : 3 < nL) (k : Z p l e R s m args below meth c y cc nL ret κ Q nc ns G (x0 :: x1 :: x2 :: some (.int x) :: t) (pc + 1) st) : Z p l e R s m args below meth c y cc nL ret κ Q nc ns G (x0 :: x1 :: x2 :: w :: t) pc (.int x :: st) := z_istore_n 3 hd rfl hn rfl k
theorem z_as3 {x0 x1 x2 : Option Value} {w : Option Value} {t : List (Option Value)} {x : Nat} (hd : decode cc pc = .ok (.astore_n 3, 1)) (hn : 3 < nL) (k : Z p l e R s m args below meth c y cc nL ret κ Q nc ns G (x0 :: x1 :: x2 :: some (.ref x) :: t) (pc + 1) st) : Z p l e R s m args below meth c y cc nL ret κ Q nc ns G (x0 :: x1 :: x2 :: w :: t) pc (.ref x :: st) := z_astore_n 3 hd rfl hn ⟨some x, rfl⟩ rfl k
theorem z_as3N {x0 x1 x2 : Option Value} {w : Option Value} {t : List (Option Value)} (hd : decode cc pc = .ok (.astore_n 3, 1)) (hn : 3 < nL) (k : Z p l e R s m args below meth c y cc nL ret κ Q nc ns G (x0 :: x1 :: x2 :: some .null :: t) (pc + 1) st) : Z p l e R s m args below meth c y cc nL ret κ Q nc ns G (x0 :: x1 :: x2 :: w :: t) pc (.null :: st) := z_astore_n 3 hd rfl hn ⟨none, rfl⟩ rfl k
theorem z_as3q {x0 x1 x2 : Option Value} {w : Option Value} {t : List (Option Value)} {x : Option Nat} (hd : decode cc pc = .ok (.astore_n 3, 1)) (hn : 3 < nL) (k : Z p l e R s m args below meth c y cc nL ret κ Q nc ns G (x0 :: x1 :: x2 :: some (va_rf x) :: t) (pc + 1) st) : Z p l e R s m args below meth c y cc nL ret κ Q nc ns G (x0 :: x1 :: x2 :: w :: t) pc (va_rf x :: st) := z_astore_n 3 hd rfl hn ⟨x, rfl⟩ rfl k
theorem z_ii3 {x0 x1 x2 : Option Value} {t : List (Option Value)} {x : Int32} {n : Int} (v : Int32) (hd : decode cc pc = .ok (.iinc 3 n, 3)) (hv : x + Int32.ofInt n = v) (hn : 3 < nL) (k : Z p l e R s m args below meth c y cc nL ret κ Q nc ns G (x0 :: x1 :: x2 :: some (.int v) :: t) (pc + 3) st) : Z p l e R s m args below meth c y cc nL ret κ Q nc ns G (x0 :: x1 :: x2 :: some (.int x) :: t) pc st := z_iinc 3 hd rfl hv hn rfl k
theorem z_il4 {x0 x1 x2 x3 : Option Value} {t : List (Option Value)} {x : Int32} (hd : decode cc pc = .ok (.iload 4, 2)) (k : Z p l e R s m args below meth c y cc nL ret κ Q nc ns G (x0 :: x1 :: x2 :: x3 :: some (.int x) :: t) (pc + 2) (.int x :: st)) : Z p l e R s m args below meth c y cc nL ret κ Q nc ns G (x0 :: x1 :: x2 :: x3 :: some (.int x) :: t) pc st := z_iload 4 hd rfl k
theorem z_al4 {x0 x1 x2 x3 : Option Value} {t : List (Option Value)} {x : Nat} (hd : decode cc pc = .ok (.aload 4, 2)) (k : Z p l e R s m args below meth c y cc nL ret κ Q nc ns G (x0 :: x1 :: x2 :: x3 :: some (.ref x) :: t) (pc + 2) (.ref x :: st)) : Z p l e R s m args below meth c y cc nL ret κ Q nc ns G (x0 :: x1 :: x2 :: x3 :: some (.ref x) :: t) pc st := z_aload 4 hd rfl ⟨some x, rfl⟩ k
theorem z_al4N {x0 x1 x2 x3 : Option Value} {t : List (Option Value)} (hd : decode cc pc = .ok (.aload 4, 2)) (k : Z p l e R s m args below meth c y cc nL ret κ Q nc ns G (x0 :: x1 :: x2 :: x3 :: some .null :: t) (pc + 2) (.null :: st)) : Z p l e R s m args below meth c y cc nL ret κ Q nc ns G (x0 :: x1 :: x2 :: x3 :: some .null :: t) pc st := z_aload 4 hd rfl ⟨none, rfl⟩ k
theorem z_al4q {x0 x1 x2 x3 : Option Value} {t : List (Option Value)} {x : Option Nat} (hd : decode cc pc = .ok (.aload 4, 2)) (k : Z p l e R s m args below meth c y cc nL ret κ Q nc ns G (x0 :: x1 :: x2 :: x3 :: some (va_rf x) :: t) (pc + 2) (va_rf x :: st)) : Z p l e R s m args below meth c y cc nL ret κ Q nc ns G (x0 :: x1 :: x2 :: x3 :: some (va_rf x) :: t) pc st := z_aload 4 hd rfl ⟨x, rfl⟩ k
theorem z_is4 {x0 x1 x2 x3 : Option Value} {w : Option Value} {t : List (Option Value)} {x : Int32} (hd : decode cc pc = .ok (.istore 4, 2)) (hn : 4 < nL) (k : Z p l e R s m args below meth c y cc nL ret κ Q nc ns G (x0 :: x1 :: x2 :: x3 :: some (.int x) :: t) (pc + 2) st) : Z p l e R s m args below meth c y cc nL ret κ Q nc ns G (x0 :: x1 :: x2 :: x3 :: w :: t) pc (.int x :: st) := z_istore 4 hd hn rfl k
theorem z_as4 {x0 x1 x2 x3 : Option Value} {w : Option Value} {t : List (Option Value)} {x : Nat} (hd : decode cc pc = .ok (.astore 4, 2)) (hn : 4 < nL) (k : Z p l e R s m args below meth c y cc nL ret κ Q nc ns G (x0 :: x1 :: x2 :: x3 :: some (.ref x) :: t) (pc + 2) st) : Z p l e R s m args below meth c y cc nL ret κ Q nc ns G (x0 :: x1 :: x2 :: x3 :: w :: t) pc (.ref x :: st) := z_astore 4 hd hn ⟨some x, rfl⟩ rfl k
theorem z_as4N {x0 x1 x2 x3 : Option Value} {w : Option Value} {t : List (Option Value)} (hd : decode cc pc = .ok (.astore 4, 2)) (hn : 4 < nL) (k : Z p l e R s m args below meth c y cc nL ret κ Q nc ns G (x0 :: x1 :: x2 :: x3 :: some .null :: t) (pc + 2) st) : Z p l e R s m args below meth c y cc nL ret κ Q nc ns G (x0 :: x1 :: x2 :: x3 :: w :: t) pc (.null :: st) := z_astore 4 hd hn ⟨none, rfl⟩ rfl k
theorem z_as4q {x0 x1 x2 x3 : Option Value} {w : Option Value} {t : List (Option Value)} {x : Option Nat} (hd : decode cc pc = .ok (.astore 4, 2)) (hn : 4 < nL) (k : Z p l e R s m args below meth c y cc nL ret κ Q nc ns G (x0 :: x1 :: x2 :: x3 :: some (va_rf x) :: t) (pc + 2) st) : Z p l e R s m args below meth c y cc nL ret κ Q nc ns G (x0 :: x1 :: x2 :: x3 :: w :: t) pc (va_rf x :: st) := z_astore 4 hd hn ⟨x, rfl⟩ rfl k
theorem z_ii4 {x0 x1 x2 x3 : Option Value} {t : List (Option Value)} {x : Int32} {n : Int} (v : Int32) (hd : decode cc pc = .ok (.iinc 4 n, 3)) (hv : x + Int32.ofInt n = v) (hn : 4 < nL) (k : Z p l e R s m args below meth c y cc nL ret κ Q nc ns G (x0 :: x1 :: x2 :: x3 :: some (.int v) :: t) (pc + 3) st) : Z p l e R s m args below meth c y cc nL ret κ Q nc ns G (x0 :: x1 :: x2 :: x3 :: some (.int x) :: t) pc st := z_iinc 4 hd rfl hv hn rfl k
theorem z_il5 {x0 x1 x2 x3 x4 : Option Value} {t : List (Option Value)} {x : Int32} (hd : decode cc pc = .ok (.iload 5, 2)) (k : Z p l e R s m args below meth c y cc nL ret κ Q nc ns G (x0 :: x1 :: x2 :: x3 :: x4 :: some (.int x) :: t) (pc + 2) (.int x :: st)) : Z p l e R s m args below meth c y cc nL ret κ Q nc ns G (x0 :: x1 :: x2 :: x3 :: x4 :: some (.int x) :: t) pc st := z_iload 5 hd rfl k
theorem z_al5 {x0 x1 x2 x3 x4 : Option Value} {t : List (Option Value)} {x : Nat} (hd : decode cc pc = .ok (.aload 5, 2)) (k : Z p l e R s m args below meth c y cc nL ret κ Q nc ns G (x0 :: x1 :: x2 :: x3 :: x4 :: some (.ref x) :: t) (pc + 2) (.ref x :: st)) : Z p l e R s m args below meth c y cc nL ret κ Q nc ns G (x0 :: x1 :: x2 :: x3 :: x4 :: some (.ref x) :: t) pc st := z_aload 5 hd rfl ⟨some x, rfl⟩ k
theorem z_al5N {x0 x1 x2 x3 x4 : Option Value} {t : List (Option Value)} (hd : decode cc pc = .ok (.aload 5, 2)) (k : Z p l e R s m args below meth c y cc nL ret κ Q nc ns G (x0 :: x1 :: x2 :: x3 :: x4 :: some .null :: t) (pc + 2) (.null :: st)) : Z p l e R s m args below meth c y cc nL ret κ Q nc ns G (x0 :: x1 :: x2 :: x3 :: x4 :: some .null :: t) pc st := z_aload 5 hd rfl ⟨none, rfl⟩ k
theorem z_al5q {x0 x1 x2 x3 x4 : Option Value} {t : List (Option Value)} {x : Option Nat} (hd : decode cc pc = .ok (.aload 5, 2)) (k : Z p l e R s m args below meth c y cc nL ret κ Q nc ns G (x0 :: x1 :: x2 :: x3 :: x4 :: some (va_rf x) :: t) (pc + 2) (va_rf x :: st)) : Z p l e R s m args below meth c y cc nL ret κ Q nc ns G (x0 :: x1 :: x2 :: x3 :: x4 :: some (va_rf x) :: t) pc st := z_aload 5 hd rfl ⟨x, rfl⟩ k
theorem z_is5 {x0 x1 x2 x3 x4 : Option Value} {w : Option Value} {t : List (Option Value)} {x : Int32} (hd : decode cc pc = .ok (.istore 5, 2)) (hn : 5 < nL) (k : Z p l e R s m args below meth c y cc nL ret κ Q nc ns G (x0 :: x1 :: x2 :: x3 :: x4 :: some (.int x) :: t) (pc + 2) st) : Z p l e R s m args below meth c y cc nL ret κ Q nc ns G (x0 :: x1 :: x2 :: x3 :: x4 :: w :: t) pc (.int x :: st) := z_istore 5 hd hn rfl k
theorem z_as5 {x0 x1 x2 x3 x4 : Option Value} {w : Option Value} {t : List (Option Value)} {x : Nat} (hd : decode cc pc = .ok (.astore 5, 2)) (hn : 5 < nL) (k : Z p l e R s m args below meth c y cc nL ret κ Q nc ns G (x0 :: x1 :: x2 :: x3 :: x4 :: some (.ref x) :: t) (pc + 2) st) : Z p l e R s m args below meth c y cc nL ret κ Q nc ns G (x0 :: x1 :: x2 :: x3 :: x4 :: w :: t) pc (.ref x :: st) := z_astore 5 hd hn ⟨some x, rfl⟩ rfl k
theorem z_as5N {x0 x1 x2 x3 x4 : Option Value} {w : Option Value} {t : List (Option Value)} (hd : decode cc pc = .ok (.astore 5, 2)) (hn : 5 < nL) (k : Z p l e R s m args below meth c y cc nL ret κ Q nc ns G (x0 :: x1 :: x2 :: x3 :: x4 :: some .null :: t) (pc + 2) st) : Z p l e R s m args below meth c y cc nL ret κ Q nc ns G (x0 :: x1 :: x2 :: x3 :: x4 :: w :: t) pc (.null :: st) := z_astore 5 hd hn ⟨none, rfl⟩ rfl k
theorem z_as5q {x0 x1 x2 x3 x4 : Option Value} {w : Option Value} {t : List (Option Value)} {x : Option Nat} (hd : decode cc pc = .ok (.astore 5, 2)) (hn : 5 < nL) (k : Z p l e R s m args below meth c y cc nL ret κ Q nc ns G (x0 :: x1 :: x2 :: x3 :: x4 :: some (va_rf x) :: t) (pc + 2) st) : Z p l e R s m args below meth c y cc nL ret κ Q nc ns G (x0 :: x1 :: x2 :: x3 :: x4 :: w :: t) pc (va_rf x :: st) := z_astore 5 hd hn ⟨x, rfl⟩ rfl k
theorem z_ii5 {x0 x1 x2 x3 x4 : Option Value} {t : List (Option Value)} {x : Int32} {n : Int} (v : Int32) (hd : decode cc pc = .ok (.iinc 5 n, 3)) (hv : x + Int32.ofInt n = v) (hn : 5 < nL) (k : Z p l e R s m args below meth c y cc nL ret κ Q nc ns G (x0 :: x1 :: x2 :: x3 :: x4 :: some (.int v) :: t) (pc + 3) st) : Z p l e R s m args below meth c y cc nL ret κ Q nc ns G (x0 :: x1 :: x2 :: x3 :: x4 :: some (.int x) :: t) pc st := z_iinc 5 hd rfl hv hn rfl k
theorem z_il6 {x0 x1 x2 x3 x4 x5 : Option Value} {t : List (Option Value)} {x : Int32} (hd : decode cc pc = .ok (.iload 6, 2)) (k : Z p l e R s m args below meth c y cc nL ret κ Q nc ns G (x0 :: x1 :: x2 :: x3 :: x4 :: x5 :: some (.int x) :: t) (pc + 2) (.int x :: st)) : Z p l e R s m args below meth c y cc nL ret κ Q nc ns G (x0 :: x1 :: x2 :: x3 :: x4 :: x5 :: some (.int x) :: t) pc st := z_iload 6 hd rfl k
theorem z_al6 {x0 x1 x2 x3 x4 x5 : Option Value} {t : List (Option Value)} {x : Nat} (hd : decode cc pc = .ok (.aload 6, 2)) (k : Z p l e R s m args below meth c y cc nL ret κ Q nc ns G (x0 :: x1 :: x2 :: x3 :: x4 :: x5 :: some (.ref x) :: t) (pc + 2) (.ref x :: st)) : Z p l e R s m args below meth c y cc nL ret κ Q nc ns G (x0 :: x1 :: x2 :: x3 :: x4 :: x5 :: some (.ref x) :: t) pc st := z_aload 6 hd rfl ⟨some x, rfl⟩ k
theorem z_al6N {x0 x1 x2 x3 x4 x5 : Option Value} {t : List (Option Value)} (hd : decode cc pc = .ok (.aload 6, 2)) (k : Z p l e R s m args below meth c y cc nL ret κ Q nc ns G (x0 :: x1 :: x2 :: x3 :: x4 :: x5 :: some .null :: t) (pc + 2) (.null :: st)) : Z p l e R s m args below meth c y cc nL ret κ Q nc ns G (x0 :: x1 :: x2 :: x3 :: x4 :: x5 :: some .null :: t) pc st := z_aload 6 hd rfl ⟨none, rfl⟩ k
theorem z_al6q {x0 x1 x2 x3 x4 x5 : Option Value} {t : List (Option Value)} {x : Option Nat} (hd : decode cc pc = .ok (.aload 6, 2)) (k : Z p l e R s m args below meth c y cc nL ret κ Q nc ns G (x0 :: x1 :: x2 :: x3 :: x4 :: x5 :: some (va_rf x) :: t) (pc + 2) (va_rf x :: st)) : Z p l e R s m args below meth c y cc nL ret κ Q nc ns G (x0 :: x1 :: x2 :: x3 :: x4 :: x5 :: some (va_rf x) :: t) pc st := z_aload 6 hd rfl ⟨x, rfl⟩ k
theorem z_is6 {x0 x1 x2 x3 x4 x5 : Option Value} {w : Option Value} {t : List (Option Value)} {x : Int32} (hd : decode cc pc = .ok (.istore 6, 2)) (hn : 6 < nL) (k : Z p l e R s m args below meth c y cc nL ret κ Q nc ns G (x0 :: x1 :: x2 :: x3 :: x4 :: x5 :: some (.int x) :: t) (pc + 2) st) : Z p l e R s m args below meth c y cc nL ret κ Q nc ns G (x0 :: x1 :: x2 :: x3 :: x4 :: x5 :: w :: t) pc (.int x :: st) := z_istore 6 hd hn rfl k
theorem z_as6 {x0 x1 x2 x3 x4 x5 : Option Value} {w : Option Value} {t : List (Option Value)} {x : Nat} (hd : decode cc pc = .ok (.astore 6, 2)) (hn : 6 < nL) (k : Z p l e R s m args below meth c y cc nL ret κ Q nc ns G (x0 :: x1 :: x2 :: x3 :: x4 :: x5 :: some (.ref x) :: t) (pc + 2) st) : Z p l e R s m args below meth c y cc nL ret κ Q nc ns G (x0 :: x1 :: x2 :: x3 :: x4 :: x5 :: w :: t) pc (.ref x :: st) := z_astore 6 hd hn ⟨some x, rfl⟩ rfl k
theorem z_as6N {x0 x1 x2 x3 x4 x5 : Option Value} {w : Option Value} {t : List (Option Value)} (hd : decode cc pc = .ok (.astore 6, 2)) (hn : 6 < nL) (k : Z p l e R s m args below meth c y cc nL ret κ Q nc ns G (x0 :: x1 :: x2 :: x3 :: x4 :: x5 :: some .null :: t) (pc + 2) st) : Z p l e R s m args below meth c y cc nL ret κ Q nc ns G (x0 :: x1 :: x2 :: x3 :: x4 :: x5 :: w :: t) pc (.null :: st) := z_astore 6 hd hn ⟨none, rfl⟩ rfl k
theorem z_as6q {x0 x1 x2 x3 x4 x5 : Option Value} {w : Option Value} {t : List (Option Value)} {x : Option Nat} (hd : decode cc pc = .ok (.astore 6, 2)) (hn : 6 < nL) (k : Z p l e R s m args below meth c y cc nL ret κ Q nc ns G (x0 :: x1 :: x2 :: x3 :: x4 :: x5 :: some (va_rf x) :: t) (pc + 2) st) : Z p l e R s m args below meth c y cc nL ret κ Q nc ns G (x0 :: x1 :: x2 :: x3 :: x4 :: x5 :: w :: t) pc (va_rf x :: st) := z_astore 6 hd hn ⟨x, rfl⟩ rfl k
theorem z_ii6 {x0 x1 x2 x3 x4 x5 : Option Value} {t : List (Option Value)} {x : Int32} {n : Int} (v : Int32) (hd : decode cc pc = .ok (.iinc 6 n, 3)) (hv : x + Int32.ofInt n = v) (hn : 6 < nL) (k : Z p l e R s m args below meth c y cc nL ret κ Q nc ns G (x0 :: x1 :: x2 :: x3 :: x4 :: x5 :: some (.int v) :: t) (pc + 3) st) : Z p l e R s m args below meth c y cc nL ret κ Q nc ns G (x0 :: x1 :: x2 :: x3 :: x4 :: x5 :: some (.int x) :: t) pc st := z_iinc 6 hd rfl hv hn rfl k
theorem z_il7 {x0 x1 x2 x3 x4 x5 x6 : Option Value} {t : List (Option Value)} {x : Int32} (hd : decode cc pc = .ok (.iload 7, 2)) (k : Z p l e R s m args below meth c y cc nL ret κ Q nc ns G (x0 :: x1 :: x2 :: x3 :: x4 :: x5 :: x6 :: some (.int x) :: t) (pc + 2) (.int x :: st)) : Z p l e R s m args below meth c y cc nL ret κ Q nc ns G (x0 :: x1 :: x2 :: x3 :: x4 :: x5 :: x6 :: some (.int x) :: t) pc st := z_iload 7 hd rfl k
theorem z_al7 {x0 x1 x2 x3 x4 x5 x6 : Option Value} {t : List (Option Value)} {x : Nat} (hd : decode cc pc = .ok (.aload 7, 2)) (k : Z p l e R s m args below meth c y cc nL ret κ Q nc ns G (x0 :: x1 :: x2 :: x3 :: x4 :: x5 :: x6 :: some (.ref x) :: t) (pc + 2) (.ref x :: st)) : Z p l e R s m args below meth c y cc nL ret κ Q nc ns G (x0 :: x1 :: x2 :: x3 :: x4 :: x5 :: x6 :: some (.ref x) :: t) pc st := z_aload 7 hd rfl ⟨some x, rfl⟩ k
theorem z_al7N {x0 x1 x2 x3 x4 x5 x6 : Option Value} {t : List (Option Value)} (hd : decode cc pc = .ok (.aload 7, 2)) (k : Z p l e R s m args below meth c y cc nL ret κ Q nc ns G (x0 :: x1 :: x2 :: x3 :: x4 :: x5 :: x6 :: some .null :: t) (pc + 2) (.null :: st)) : Z p l e R s m args below meth c y cc nL ret κ Q nc ns G (x0 :: x1 :: x2 :: x3 :: x4 :: x5 :: x6 :: some .null :: t) pc st := z_aload 7 hd rfl ⟨none, rfl⟩ k
theorem z_al7q {x0 x1 x2 x3 x4 x5 x6 : Option Value} {t : List (Option Value)} {x : Option Nat} (hd : decode cc pc = .ok (.aload 7, 2)) (k : Z p l e R s m args below meth c y cc nL ret κ Q nc ns G (x0 :: x1 :: x2 :: x3 :: x4 :: x5 :: x6 :: some (va_rf x) :: t) (pc + 2) (va_rf x :: st)) : Z p l e R s m args below meth c y cc nL ret κ Q nc ns G (x0 :: x1 :: x2 :: x3 :: x4 :: x5 :: x6 :: some (va_rf x) :: t) pc st := z_aload 7 hd rfl ⟨x, rfl⟩ k
theorem z_is7 {x0 x1 x2 x3 x4 x5 x6 : Option Value} {w : Option Value} {t : List (Option Value)} {x : Int32} (hd : decode cc pc = .ok (.istore 7, 2)) (hn : 7 < nL) (k : Z p l e R s m args below meth c y cc nL ret κ Q nc ns G (x0 :: x1 :: x2 :: x3 :: x4 :: x5 :: x6 :: some (.int x) :: t) (pc + 2) st) : Z p l e R s m args below meth c y cc nL ret κ Q nc ns G (x0 :: x1 :: x2 :: x3 :: x4 :: x5 :: x6 :: w :: t) pc (.int x :: st) := z_istore 7 hd hn rfl k
theorem z_as7 {x0 x1 x2 x3 x4 x5 x6 : Option Value} {w : Option Value} {t : List (Option Value)} {x : Nat} (hd : decode cc pc = .ok (.astore 7, 2)) (hn : 7 < nL) (k : Z p l e R s m args below meth c y cc nL ret κ Q nc ns G (x0 :: x1 :: x2 :: x3 :: x4 :: x5 :: x6 :: some (.ref x) :: t) (pc + 2) st) : Z p l e R s m args below meth c y cc nL ret κ Q nc ns G (x0 :: x1 :: x2 :: x3 :: x4 :: x5 :: x6 :: w :: t) pc (.ref x :: st) := z_astore 7 hd hn ⟨some x, rfl⟩ rfl k
theorem z_as7N {x0 x1 x2 x3 x4 x5 x6 : Option Value} {w : Option Value} {t : List (Option Value)} (hd : decode cc pc = .ok (.astore 7, 2)) (hn : 7 < nL) (k : Z p l e R s m args below meth c y cc nL ret κ Q nc ns G (x0 :: x1 :: x2 :: x3 :: x4 :: x5 :: x6 :: some .null :: t) (pc + 2) st) : Z p l e R s m args below meth c y cc nL ret κ Q nc ns G (x0 :: x1 :: x2 :: x3 :: x4 :: x5 :: x6 :: w :: t) pc (.null :: st) := z_astore 7 hd hn ⟨none, rfl⟩ rfl k
theorem z_as7q {x0 x1 x2 x3 x4 x5 x6 : Option Value} {w : Option Value} {t : List (Option Value)} {x : Option Nat} (hd : decode cc pc = .ok (.astore 7, 2)) (hn : 7 < nL) (k : Z p l e R s m args below meth c y cc nL ret κ Q nc ns G (x0 :: x1 :: x2 :: x3 :: x4 :: x5 :: x6 :: some (va_rf x) :: t) (pc + 2) st) : Z p l e R s m args below meth c y cc nL ret κ Q nc ns G (x0 :: x1 :: x2 :: x3 :: x4 :: x5 :: x6 :: w :: t) pc (va_rf x :: st) := z_astore 7 hd hn ⟨x, rfl⟩ rfl k
theorem z_ii7 {x0 x1 x2 x3 x4 x5 x6 : Option Value} {t : List (Option Value)} {x : Int32} {n : Int} (v : Int32) (hd : decode cc pc = .ok (.iinc 7 n, 3)) (hv : x + Int32.ofInt n = v) (hn : 7 < nL) (k : Z p l e R s m args below meth c y cc nL ret κ Q nc ns G (x0 :: x1 :: x2 :: x3 :: x4 :: x5 :: x6 :: some (.int v) :: t) (pc + 3) st) : Z p l e R s m args below meth c y cc nL ret κ Q nc ns G (x0 :: x1 :: x2 :: x3 :: x4 :: x5 :: x6 :: some (.int x) :: t) pc st := z_iinc 7 hd rfl hv hn rfl k
theorem z_il8 {x0 x1 x2 x3 x4 x5 x6 x7 : Option Value} {t : List (Option Value)} {x : Int32} (hd : decode cc pc = .ok (.iload 8, 2)) (k : Z p l e R s m args below meth c y cc nL ret κ Q nc ns G (x0 :: x1 :: x2 :: x3 :: x4 :: x5 :: x6 :: x7 :: some (.int x) :: t) (pc + 2) (.int x :: st)) : Z p l e R s m args below meth c y cc nL ret κ Q nc ns G (x0 :: x1 :: x2 :: x3 :: x4 :: x5 :: x6 :: x7 :: some (.int x) :: t) pc st := z_iload 8 hd rfl k
theorem z_al8 {x0 x1 x2 x3 x4 x5 x6 x7 : Option Value} {t : List (Option Value)} {x : Nat} (hd : decode cc pc = .ok (.aload 8, 2)) (k : Z p l e R s m args below meth c y cc nL ret κ Q nc ns G (x0 :: x1 :: x2 :: x3 :: x4 :: x5 :: x6 :: x7 :: some (.ref x) :: t) (pc + 2) (.ref x :: st)) : Z p l e R s m args below meth c y cc nL ret κ Q nc ns G (x0 :: x1 :: x2 :: x3 :: x4 :: x5 :: x6 :: x7 :: some (.ref x) :: t) pc st := z_aload 8 hd rfl ⟨some x, rfl⟩ k
theorem z_al8N {x0 x1 x2 x3 x4 x5 x6 x7 : Option Value} {t : List (Option Value)} (hd : decode cc pc = .ok (.aload 8, 2)) (k : Z p l e R s m args below meth c y cc nL ret κ Q nc ns G (x0 :: x1 :: x2 :: x3 :: x4 :: x5 :: x6 :: x7 :: some .null :: t) (pc + 2) (.null :: st)) : Z p l e R s m args below meth c y cc nL ret κ Q nc ns G (x0 :: x1 :: x2 :: x3 :: x4 :: x5 :: x6 :: x7 :: some .null :: t) pc st := z_aload 8 hd rfl ⟨none, rfl⟩ k
theorem z_al8q {x0 x1 x2 x3 x4 x5 x6 x7 : Option Value} {t : List (Option Value)} {x : Option Nat} (hd : decode cc pc = .ok (.aload 8, 2)) (k : Z p l e R s m args below meth c y cc nL ret κ Q nc ns G (x0 :: x1 :: x2 :: x3 :: x4 :: x5 :: x6 :: x7 :: some (va_rf x) :: t) (pc + 2) (va_rf x :: st)) : Z p l e R s m args below meth c y cc nL ret κ Q nc ns G (x0 :: x1 :: x2 :: x3 :: x4 :: x5 :: x6 :: x7 :: some (va_rf x) :: t) pc st := z_aload 8 hd rfl ⟨x, rfl⟩ k
theorem z_is8 {x0 x1 x2 x3 x4 x5 x6 x7 : Option Value} {w : Option Value} {t : List (Option Value)} {x : Int32} (hd : decode cc pc = .ok (.istore 8, 2)) (hn : 8 < nL) (k : Z p l e R s m args below meth c y cc nL ret κ Q nc ns G (x0 :: x1 :: x2 :: x3 :: x4 :: x5 :: x6 :: x7 :: some (.int x) :: t) (pc + 2) st) : Z p l e R s m args below meth c y cc nL ret κ Q nc ns G (x0 :: x1 :: x2 :: x3 :: x4 :: x5 :: x6 :: x7 :: w :: t) pc (.int x :: st) := z_istore 8 hd hn rfl k
theorem z_as8 {x0 x1 x2 x3 x4 x5 x6 x7 : Option Value} {w : Option Value} {t : List (Option Value)} {x : Nat} (hd : decode cc pc = .ok (.astore 8, 2)) (hn : 8 < nL) (k : Z p l e R s m args below meth c y cc nL ret κ Q nc ns G (x0 :: x1 :: x2 :: x3 :: x4 :: x5 :: x6 :: x7 :: some (.ref x) :: t) (pc + 2) st) : Z p l e R s m args below meth c y cc nL ret κ Q nc ns G (x0 :: x1 :: x2 :: x3 :: x4 :: x5 :: x6 :: x7 :: w :: t) pc (.ref x :: st) := z_astore 8 hd hn ⟨some x, rfl⟩ rfl k
theorem z_as8N {x0 x1 x2 x3 x4 x5 x6 x7 : Option Value} {w : Option Value} {t : List (Option Value)} (hd : decode cc pc = .ok (.astore 8, 2)) (hn : 8 < nL) (k : Z p l e R s m args below meth c y cc nL ret κ Q nc ns G (x0 :: x1 :: x2 :: x3 :: x4 :: x5 :: x6 :: x7 :: some .null :: t) (pc + 2) st) : Z p l e R s m args below meth c y cc nL ret κ Q nc ns G (x0 :: x1 :: x2 :: x3 :: x4 :: x5 :: x6 :: x7 :: w :: t) pc (.null :: st) := z_astore 8 hd hn ⟨none, rfl⟩ rfl k
theorem z_as8q {x0 x1 x2 x3 x4 x5 x6 x7 : Option Value} {w : Option Value} {t : List (Option Value)} {x : Option Nat} (hd : decode cc pc = .ok (.astore 8, 2)) (hn : 8 < nL) (k : Z p l e R s m args below meth c y cc nL ret κ Q nc ns G (x0 :: x1 :: x2 :: x3 :: x4 :: x5 :: x6 :: x7 :: some (va_rf x) :: t) (pc + 2) st) : Z p l e R s m args below meth c y cc nL ret κ Q nc ns G (x0 :: x1 :: x2 :: x3 :: x4 :: x5 :: x6 :: x7 :: w :: t) pc (va_rf x :: st) := z_astore 8 hd hn ⟨x, rfl⟩ rfl k
theorem z_ii8 {x0 x1 x2 x3 x4 x5 x6 x7 : Option Value} {t : List (Option Value)} {x : Int32} {n : Int} (v : Int32) (hd : decode cc pc = .ok (.iinc 8 n, 3)) (hv : x + Int32.ofInt n = v) (hn : 8 < nL) (k : Z p l e R s m args below meth c y cc nL ret κ Q nc ns G (x0 :: x1 :: x2 :: x3 :: x4 :: x5 :: x6 :: x7 :: some (.int v) :: t) (pc + 3) st) : Z p l e R s m args below meth c y cc nL ret κ Q nc ns G (x0 :: x1 :: x2 :: x3 :: x4 :: x5 :: x6 :: x7 :: some (.int x) :: t) pc st := z_iinc 8 hd rfl hv hn rfl k
theorem z_il9 {x0 x1 x2 x3 x4 x5 x6 x7 x8 : Option Value} {t : List (Option Value)} {x : Int32} (hd : decode cc pc = .ok (.iload 9, 2)) (k : Z p l e R s m args below meth c y cc nL ret κ Q nc ns G (x0 :: x1 :: x2 :: x3 :: x4 :: x5 :: x6 :: x7 :: x8 :: some (.int x) :: t) (pc + 2) (.int x :: st)) : Z p l e R s m args below meth c y cc nL ret κ Q nc ns G (x0 :: x1 :: x2 :: x3 :: x4 :: x5 :: x6 :: x7 :: x8 :: some (.int x) :: t) pc st := z_iload 9 hd rfl k
theorem z_al9 {x0 x1 x2 x3 x4 x5 x6 x7 x8 : Option Value} {t : List (Option Value)} {x : Nat} (hd : decode cc pc = .ok (.aload 9, 2)) (k : Z p l e R s m args below meth c y cc nL ret κ Q nc ns G (x0 :: x1 :: x2 :: x3 :: x4 :: x5 :: x6 :: x7 :: x8 :: some (.ref x) :: t) (pc + 2) (.ref x :: st)) : Z p l e R s m args below meth c y cc nL ret κ Q nc ns G (x0 :: x1 :: x2 :: x3 :: x4 :: x5 :: x6 :: x7 :: x8 :: some (.ref x) :: t) pc st := z_aload 9 hd rfl ⟨some x, rfl⟩ k
theorem z_al9N {x0 x1 x2 x3 x4 x5 x6 x7 x8 : Option Value} {t : List (Option Value)} (hd : decode cc pc = .ok (.aload 9, 2)) (k : Z p l e R s m args below meth c y cc nL ret κ Q nc ns G (x0 :: x1 :: x2 :: x3 :: x4 :: x5 :: x6 :: x7 :: x8 :: some .null :: t) (pc + 2) (.null :: st)) : Z p l e R s m args below meth c y cc nL ret κ Q nc ns G (x0 :: x1 :: x2 :: x3 :: x4 :: x5 :: x6 :: x7 :: x8 :: some .null :: t) pc st := z_aload 9 hd rfl ⟨none, rfl⟩ k
theorem z_al9q {x0 x1 x2 x3 x4 x5 x6 x7 x8 : Option Value} {t : List (Option Value)} {x : Option Nat} (hd : decode cc pc = .ok (.aload 9, 2)) (k : Z p l e R s m args below meth c y cc nL ret κ Q nc ns G (x0 :: x1 :: x2 :: x3 :: x4 :: x5 :: x6 :: x7 :: x8 :: some (va_rf x) :: t) (pc + 2) (va_rf x :: st)) : Z p l e R s m args below meth c y cc nL ret κ Q nc ns G (x0 :: x1 :: x2 :: x3 :: x4 :: x5 :: x6 :: x7 :: x8 :: some (va_rf x) :: t) pc st := z_aload 9 hd rfl ⟨x, rfl⟩ k
theorem z_is9 {x0 x1 x2 x3 x4 x5 x6 x7 x8 : Option Value} {w : Option Value} {t : List (Option Value)} {x : Int32} (hd : decode cc pc = .ok (.istore 9, 2)) (hn : 9 < nL) (k : Z p l e R s m args below meth c y cc nL ret κ Q nc ns G (x0 :: x1 :: x2 :: x3 :: x4 :: x5 :: x6 :: x7 :: x8 :: some (.int x) :: t) (pc + 2) st) : Z p l e R s m args below meth c y cc nL ret κ Q nc ns G (x0 :: x1 :: x2 :: x3 :: x4 :: x5 :: x6 :: x7 :: x8 :: w :: t) pc (.int x :: st) := z_istore 9 hd hn rfl k
theorem z_as9 {x0 x1 x2 x3 x4 x5 x6 x7 x8 : Option Value} {w : Option Value} {t : List (Option Value)} {x : Nat} (hd : decode cc pc = .ok (.astore 9, 2)) (hn : 9 < nL) (k : Z p l e R s m args below meth c y cc nL ret κ Q nc ns G (x0 :: x1 :: x2 :: x3 :: x4 :: x5 :: x6 :: x7 :: x8 :: some (.ref x) :: t) (pc + 2) st) : Z p l e R s m args below meth c y cc nL ret κ Q nc ns G (x0 :: x1 :: x2 :: x3 :: x4 :: x5 :: x6 :: x7 :: x8 :: w :: t) pc (.ref x :: st) := z_astore 9 hd hn ⟨some x, rfl⟩ rfl k
theorem z_as9N {x0 x1 x2 x3 x4 x5 x6 x7 x8 : Option Value} {w : Option Value} {t : List (Option Value)} (hd : decode cc pc = .ok (.astore 9, 2)) (hn : 9 < nL) (k : Z p l e R s m args below meth c y cc nL ret κ Q nc ns G (x0 :: x1 :: x2 :: x3 :: x4 :: x5 :: x6 :: x7 :: x8 :: some .null :: t) (pc + 2) st) : Z p l e R s m args below meth c y cc nL ret κ Q nc ns G (x0 :: x1 :: x2 :: x3 :: x4 :: x5 :: x6 :: x7 :: x8 :: w :: t) pc (.null :: st) := z_astore 9 hd hn ⟨none, rfl⟩ rfl k
theorem z_as9q {x0 x1 x2 x3 x4 x5 x6 x7 x8 : Option Value} {w : Option Value} {t : List (Option Value)} {x : Option Nat} (hd : decode cc pc = .ok (.astore 9, 2)) (hn : 9 < nL) (k : Z p l e R s m args below meth c y cc nL ret κ Q nc ns G (x0 :: x1 :: x2 :: x3 :: x4 :: x5 :: x6 :: x7 :: x8 :: some (va_rf x) :: t) (pc + 2) st) : Z p l e R s m args below meth c y cc nL ret κ Q nc ns G (x0 :: x1 :: x2 :: x3 :: x4 :: x5 :: x6 :: x7 :: x8 :: w :: t) pc (va_rf x :: st) := z_astore 9 hd hn ⟨x, rfl⟩ rfl k
theorem z_ii9 {x0 x1 x2 x3 x4 x5 x6 x7 x8 : Option Value} {t : List (Option Value)} {x : Int32} {n : Int} (v : Int32) (hd : decode cc pc = .ok (.iinc 9 n, 3)) (hv : x + Int32.ofInt n = v) (hn : 9 < nL) (k : Z p l e R s m args below meth c y cc nL ret κ Q nc ns G (x0 :: x1 :: x2 :: x3 :: x4 :: x5 :: x6 :: x7 :: x8 :: some (.int v) :: t) (pc + 3) st) : Z p l e R s m args below meth c y cc nL ret κ Q nc ns G (x0 :: x1 :: x2 :: x3 :: x4 :: x5 :: x6 :: x7 :: x8 :: some (.int x) :: t) pc st := z_iinc 9 hd rfl hv hn rfl k
theorem z_il10 {x0 x1 x2 x3 x4 x5 x6 x7 x8 x9 : Option Value} {t : List (Option Value)} {x : Int32} (hd : decode cc pc = .ok (.iload 10, 2)) (k : Z p l e R s m args below meth c y cc nL ret κ Q nc ns G (x0 :: x1 :: x2 :: x3 :: x4 :: x5 :: x6 :: x7 :: x8 :: x9 :: some (.int x) :: t) (pc + 2) (.int x :: st)) : Z p l e R s m args below meth c y cc nL ret κ Q nc ns G (x0 :: x1 :: x2 :: x3 :: x4 :: x5 :: x6 :: x7 :: x8 :: x9 :: some (.int x) :: t) pc st := z_iload 10 hd rfl k
theorem z_al10 {x0 x1 x2 x3 x4 x5 x6 x7 x8 x9 : Option Value} {t : List (Option Value)} {x : Nat} (hd : decode cc pc = .ok (.aload 10, 2)) (k : Z p l e R s m args below meth c y cc nL ret κ Q nc ns G (x0 :: x1 :: x2 :: x3 :: x4 :: x5 :: x6 :: x7 :: x8 :: x9 :: some (.ref x) :: t) (pc + 2) (.ref x :: st)) : Z p l e R s m args below meth c y cc nL ret κ Q nc ns G (x0 :: x1 :: x2 :: x3 :: x4 :: x5 :: x6 :: x7 :: x8 :: x9 :: some (.ref x) :: t) pc st := z_aload 10 hd rfl ⟨some x, rfl⟩ k
theorem z_al10N {x0 x1 x2 x3 x4 x5 x6 x7 x8 x9 : Option Value} {t : List (Option Value)} (hd : decode cc pc = .ok (.aload 10, 2)) (k : Z p l e R s m args below meth c y cc nL ret κ Q nc ns G (x0 :: x1 :: x2 :: x3 :: x4 :: x5 :: x6 :: x7 :: x8 :: x9 :: some .null :: t) (pc + 2) (.null :: st)) : Z p l e R s m args below meth c y cc nL ret κ Q nc ns G (x0 :: x1 :: x2 :: x3 :: x4 :: x5 :: x6 :: x7 :: x8 :: x9 :: some .null :: t) pc st := z_aload 10 hd rfl ⟨none, rfl⟩ k
theorem z_al10q {x0 x1 x2 x3 x4 x5 x6 x7 x8 x9 : Option Value} {t : List (Option Value)} {x : Option Nat} (hd : decode cc pc = .ok (.aload 10, 2)) (k : Z p l e R s m args below meth c y cc nL ret κ Q nc ns G (x0 :: x1 :: x2 :: x3 :: x4 :: x5 :: x6 :: x7 :: x8 :: x9 :: some (va_rf x) :: t) (pc + 2) (va_rf x :: st)) : Z p l e R s m args below meth c y cc nL ret κ Q nc ns G (x0 :: x1 :: x2 :: x3 :: x4 :: x5 :: x6 :: x7 :: x8 :: x9 :: some (va_rf x) :: t) pc st := z_aload 10 hd rfl ⟨x, rfl⟩ k
theorem z_is10 {x0 x1 x2 x3 x4 x5 x6 x7 x8 x9 : Option Value} {w : Option Value} {t : List (Option Value)} {x : Int32} (hd : decode cc pc = .ok (.istore 10, 2)) (hn : 10 < nL) (k : Z p l e R s m args below meth c y cc nL ret κ Q nc ns G (x0 :: x1 :: x2 :: x3 :: x4 :: x5 :: x6 :: x7 :: x8 :: x9 :: some (.int x) :: t) (pc + 2) st) : Z p l e R s m args below meth c y cc nL ret κ Q nc ns G (x0 :: x1 :: x2 :: x3 :: x4 :: x5 :: x6 :: x7 :: x8 :: x9 :: w :: t) pc (.int x :: st) := z_istore 10 hd hn rfl k
theorem z_as10 {x0 x1 x2 x3 x4 x5 x6 x7 x8 x9 : Option Value} {w : Option Value} {t : List (Option Value)} {x : Nat} (hd : decode cc pc = .ok (.astore 10, 2)) (hn : 10 < nL) (k : Z p l e R s m args below meth c y cc nL ret κ Q nc ns G (x0 :: x1 :: x2 :: x3 :: x4 :: x5 :: x6 :: x7 :: x8 :: x9 :: some (.ref x) :: t) (pc + 2) st) : Z p l e R s m args below meth c y cc nL ret κ Q nc ns G (x0 :: x1 :: x2 :: x3 :: x4 :: x5 :: x6 :: x7 :: x8 :: x9 :: w :: t) pc (.ref x :: st) := z_astore 10 hd hn ⟨some x, rfl⟩ rfl k
theorem z_as10N {x0 x1 x2 x3 x4 x5 x6 x7 x8 x9 : Option Value} {w : Option Value} {t : List (Option Value)} (hd : decode cc pc = .ok (.astore 10, 2)) (hn : 10 < nL) (k : Z p l e R s m args below meth c y cc nL ret κ Q nc ns G (x0 :: x1 :: x2 :: x3 :: x4 :: x5 :: x6 :: x7 :: x8 :: x9 :: some .null :: t) (pc + 2) st) : Z p l e R s m args below meth c y cc nL ret κ Q nc ns G (x0 :: x1 :: x2 :: x3 :: x4 :: x5 :: x6 :: x7 :: x8 :: x9 :: w :: t) pc (.null :: st) := z_astore 10 hd hn ⟨none, rfl⟩ rfl k
theorem z_as10q {x0 x1 x2 x3 x4 x5 x6 x7 x8 x9 : Option Value} {w : Option Value} {t : List (Option Value)} {x : Option Nat} (hd : decode cc pc = .ok (.astore 10, 2)) (hn : 10 < nL) (k : Z p l e R s m args below meth c y cc nL ret κ Q nc ns G (x0 :: x1 :: x2 :: x3 :: x4 :: x5 :: x6 :: x7 :: x8 :: x9 :: some (va_rf x) :: t) (pc + 2) st) : Z p l e R s m args below meth c y cc nL ret κ Q nc ns G (x0 :: x1 :: x2 :: x3 :: x4 :: x5 :: x6 :: x7 :: x8 :: x9 :: w :: t) pc (va_rf x :: st) := z_astore 10 hd hn ⟨x, rfl⟩ rfl k
theorem z_ii10 {x0 x1 x2 x3 x4 x5 x6 x7 x8 x9 : Option Value} {t : List (Option Value)} {x : Int32} {n : Int} (v : Int32) (hd : decode cc pc = .ok (.iinc 10 n, 3)) (hv : x + Int32.ofInt n = v) (hn : 10 < nL) (k : Z p l e R s m args below meth c y cc nL ret κ Q nc ns G (x0 :: x1 :: x2 :: x3 :: x4 :: x5 :: x6 :: x7 :: x8 :: x9 :: some (.int v) :: t) (pc + 3) st) : Z p l e R s m args below meth c y cc nL ret κ Q nc ns G (x0 :: x1 :: x2 :: x3 :: x4 :: x5 :: x6 :: x7 :: x8 :: x9 :: some (.int x) :: t) pc st := z_iinc 10 hd rfl hv hn rfl k
theorem z_il11 {x0 x1 x2 x3 x4 x5 x6 x7 x8 x9 x10 : Option Value} {t : List (Option Value)} {x : Int32} (hd : decode cc pc = .ok (.iload 11, 2)) (k : Z p l e R s m args below meth c y cc nL ret κ Q nc ns G (x0 :: x1 :: x2 :: x3 :: x4 :: x5 :: x6 :: x7 :: x8 :: x9 :: x10 :: some (.int x) :: t) (pc + 2) (.int x :: st)) : Z p l e R s m args below meth c y cc nL ret κ Q nc ns G (x0 :: x1 :: x2 :: x3 :: x4 :: x5 :: x6 :: x7 :: x8 :: x9 :: x10 :: some (.int x) :: t) pc st := z_iload 11 hd rfl k
theorem z_al11 {x0 x1 x2 x3 x4 x5 x6 x7 x8 x9 x10 : Option Value} {t : List (Option Value)} {x : Nat} (hd : decode cc pc = .ok (.aload 11, 2)) (k : Z p l e R s m args below meth c y cc nL ret κ Q nc ns G (x0 :: x1 :: x2 :: x3 :: x4 :: x5 :: x6 :: x7 :: x8 :: x9 :: x10 :: some (.ref x) :: t) (pc + 2) (.ref x :: st)) : Z p l e R s m args below meth c y cc nL ret κ Q nc ns G (x0 :: x1 :: x2 :: x3 :: x4 :: x5 :: x6 :: x7 :: x8 :: x9 :: x10 :: some (.ref x) :: t) pc st := z_aload 11 hd rfl ⟨some x, rfl⟩ k
theorem z_al11N {x0 x1 x2 x3 x4 x5 x6 x7 x8 x9 x10 : Option Value} {t : List (Option Value)} (hd : decode cc pc = .ok (.aload 11, 2)) (k : Z p l e R s m args below meth c y cc nL ret κ Q nc ns G (x0 :: x1 :: x2 :: x3 :: x4 :: x5 :: x6 :: x7 :: x8 :: x9 :: x10 :: some .null :: t) (pc + 2) (.null :: st)) : Z p l e R s m args below meth c y cc nL ret κ Q nc ns G (x0 :: x1 :: x2 :: x3 :: x4 :: x5 :: x6 :: x7 :: x8 :: x9 :: x10 :: some .null :: t) pc st := z_aload 11 hd rfl ⟨none, rfl⟩ k
theorem z_al11q {x0 x1 x2 x3 x4 x5 x6 x7 x8 x9 x10 : Option Value} {t : List (Option Value)} {x : Option Nat} (hd : decode cc pc = .ok (.aload 11, 2)) (k : Z p l e R s m args below meth c y cc nL ret κ Q nc ns G (x0 :: x1 :: x2 :: x3 :: x4 :: x5 :: x6 :: x7 :: x8 :: x9 :: x10 :: some (va_rf x) :: t) (pc + 2) (va_rf x :: st)) : Z p l e R s m args below meth c y cc nL ret κ Q nc ns G (x0 :: x1 :: x2 :: x3 :: x4 :: x5 :: x6 :: x7 :: x8 :: x9 :: x10 :: some (va_rf x) :: t) pc st := z_aload 11 hd rfl ⟨x, rfl⟩ k
theorem z_is11 {x0 x1 x2 x3 x4 x5 x6 x7 x8 x9 x10 : Option Value} {w : Option Value} {t : List (Option Value)} {x : Int32} (hd : decode cc pc = .ok (.istore 11, 2)) (hn : 11 < nL) (k : Z p l e R s m args below meth c y cc nL ret κ Q nc ns G (x0 :: x1 :: x2 :: x3 :: x4 :: x5 :: x6 :: x7 :: x8 :: x9 :: x10 :: some (.int x) :: t) (pc + 2) st) : Z p l e R s m args below meth c y cc nL ret κ Q nc ns G (x0 :: x1 :: x2 :: x3 :: x4 :: x5 :: x6 :: x7 :: x8 :: x9 :: x10 :: w :: t) pc (.int x :: st) := z_istore 11 hd hn rfl k
theorem z_as11 {x0 x1 x2 x3 x4 x5 x6 x7 x8 x9 x10 : Option Value} {w : Option Value} {t : List (Option Value)} {x : Nat} (hd : decode cc pc = .ok (.astore 11, 2)) (hn : 11 < nL) (k : Z p l e R s m args below meth c y cc nL ret κ Q nc ns G (x0 :: x1 :: x2 :: x3 :: x4 :: x5 :: x6 :: x7 :: x8 :: x9 :: x10 :: some (.ref x) :: t) (pc + 2) st) : Z p l e R s m args below meth c y cc nL ret κ Q nc ns G (x0 :: x1 :: x2 :: x3 :: x4 :: x5 :: x6 :: x7 :: x8 :: x9 :: x10 :: w :: t) pc (.ref x :: st) := z_astore 11 hd hn ⟨some x, rfl⟩ rfl k
theorem z_as11N {x0 x1 x2 x3 x4 x5 x6 x7 x8 x9 x10 : Option Value} {w : Option Value} {t : List (Option Value)} (hd : decode cc pc = .ok (.astore 11, 2)) (hn : 11 < nL) (k : Z p l e R s m args below meth c y cc nL ret κ Q nc ns G (x0 :: x1 :: x2 :: x3 :: x4 :: x5 :: x6 :: x7 :: x8 :: x9 :: x10 :: some .null :: t) (pc + 2) st) : Z p l e R s m args below meth c y cc nL ret κ Q nc ns G (x0 :: x1 :: x2 :: x3 :: x4 :: x5 :: x6 :: x7 :: x8 :: x9 :: x10 :: w :: t) pc (.null :: st) := z_astore 11 hd hn ⟨none, rfl⟩ rfl k
theorem z_as11q {x0 x1 x2 x3 x4 x5 x6 x7 x8 x9 x10 : Option Value} {w : Option Value} {t : List (Option Value)} {x : Option Nat} (hd : decode cc pc = .ok (.astore 11, 2)) (hn : 11 < nL) (k : Z p l e R s m args below meth c y cc nL ret κ Q nc ns G (x0 :: x1 :: x2 :: x3 :: x4 :: x5 :: x6 :: x7 :: x8 :: x9 :: x10 :: some (va_rf x) :: t) (pc + 2) st) : Z p l e R s m args below meth c y cc nL ret κ Q nc ns G (x0 :: x1 :: x2 :: x3 :: x4 :: x5 :: x6 :: x7 :: x8 :: x9 :: x10 :: w :: t) pc (va_rf x :: st) := z_astore 11 hd hn ⟨x, rfl⟩ rfl k
theorem z_ii11 {x0 x1 x2 x3 x4 x5 x6 x7 x8 x9 x10 : Option Value} {t : List (Option Value)} {x : Int32} {n : Int} (v : Int32) (hd : decode cc pc = .ok (.iinc 11 n, 3)) (hv : x + Int32.ofInt n = v) (hn : 11 < nL) (k : Z p l e R s m args below meth c y cc nL ret κ Q nc ns G (x0 :: x1 :: x2 :: x3 :: x4 :: x5 :: x6 :: x7 :: x8 :: x9 :: x10 :: some (.int v) :: t) (pc + 3) st) : Z p l e R s m args below meth c y cc nL ret κ Q nc ns G (x0 :: x1 :: x2 :: x3 :: x4 :: x5 :: x6 :: x7 :: x8 :: x9 :: x10 :: some (.int x) :: t) pc st := z_iinc 11 hd rfl hv hn rfl k
theorem z_il12 {x0 x1 x2 x3 x4 x5 x6 x7 x8 x9 x10 x11 : Option Value} {t : List (Option Value)} {x : Int32} (hd : decode cc pc = .ok (.iload 12, 2)) (k : Z p l e R s m args below meth c y cc nL ret κ Q nc ns G (x0 :: x1 :: x2 :: x3 :: x4 :: x5 :: x6 :: x7 :: x8 :: x9 :: x10 :: x11 :: some (.int x) :: t) (pc + 2) (.int x :: st)) : Z p l e R s m args below meth c y cc nL ret κ Q nc ns G (x0 :: x1 :: x2 :: x3 :: x4 :: x5 :: x6 :: x7 :: x8 :: x9 :: x10 :: x11 :: some (.int x) :: t) pc st := z_iload 12 hd rfl k
theorem z_al12 {x0 x1 x2 x3 x4 x5 x6 x7 x8 x9 x10 x11 : Option Value} {t : List (Option Value)} {x : Nat} (hd : decode cc pc = .ok (.aload 12, 2)) (k : Z p l e R s m args below meth c y cc nL ret κ Q nc ns G (x0 :: x1 :: x2 :: x3 :: x4 :: x5 :: x6 :: x7 :: x8 :: x9 :: x10 :: x11 :: some (.ref x) :: t) (pc + 2) (.ref x :: st)) : Z p l e R s m args below meth c y cc nL ret κ Q nc ns G (x0 :: x1 :: x2 :: x3 :: x4 :: x5 :: x6 :: x7 :: x8 :: x9 :: x10 :: x11 :: some (.ref x) :: t) pc st := z_aload 12 hd rfl ⟨some x, rfl⟩ k
theorem z_al12N {x0 x1 x2 x3 x4 x5 x6 x7 x8 x9 x10 x11 : Option Value} {t : List (Option Value)} (hd : decode cc pc = .ok (.aload 12, 2)) (k : Z p l e R s m args below meth c y cc nL ret κ Q nc ns G (x0 :: x1 :: x2 :: x3 :: x4 :: x5 :: x6 :: x7 :: x8 :: x9 :: x10 :: x11 :: some .null :: t) (pc + 2) (.null :: st)) : Z p l e R s m args below meth c y cc nL ret κ Q nc ns G (x0 :: x1 :: x2 :: x3 :: x4 :: x5 :: x6 :: x7 :: x8 :: x9 :: x10 :: x11 :: some .null :: t) pc st := z_aload 12 hd rfl ⟨none, rfl⟩ k
theorem z_al12q {x0 x1 x2 x3 x4 x5 x6 x7 x8 x9 x10 x11 : Option Value} {t : List (Option Value)} {x : Option Nat} (hd : decode cc pc = .ok (.aload 12, 2)) (k : Z p l e R s m args below meth c y cc nL ret κ Q nc ns G (x0 :: x1 :: x2 :: x3 :: x4 :: x5 :: x6 :: x7 :: x8 :: x9 :: x10 :: x11 :: some (va_rf x) :: t) (pc + 2) (va_rf x :: st)) : Z p l e R s m args below meth c y cc nL ret κ Q nc ns G (x0 :: x1 :: x2 :: x3 :: x4 :: x5 :: x6 :: x7 :: x8 :: x9 :: x10 :: x11 :: some (va_rf x) :: t) pc st := z_aload 12 hd rfl ⟨x, rfl⟩ k
theorem z_is12 {x0 x1 x2 x3 x4 x5 x6 x7 x8 x9 x10 x11 : Option Value} {w : Option Value} {t : List (Option Value)} {x : Int32} (hd : decode cc pc = .ok (.istore 12, 2)) (hn : 12 < nL) (k : Z p l e R s m args below meth c y cc nL ret κ Q nc ns G (x0 :: x1 :: x2 :: x3 :: x4 :: x5 :: x6 :: x7 :: x8 :: x9 :: x10 :: x11 :: some (.int x) :: t) (pc + 2) st) : Z p l e R s m args below meth c y cc nL ret κ Q nc ns G (x0 :: x1 :: x2 :: x3 :: x4 :: x5 :: x6 :: x7 :: x8 :: x9 :: x10 :: x11 :: w :: t) pc (.int x :: st) := z_istore 12 hd hn rfl k
theorem z_as12 {x0 x1 x2 x3 x4 x5 x6 x7 x8 x9 x10 x11 : Option Value} {w : Option Value} {t : List (Option Value)} {x : Nat} (hd : decode cc pc = .ok (.astore 12, 2)) (hn : 12 < nL) (k : Z p l e R s m args below meth c y cc nL ret κ Q nc ns G (x0 :: x1 :: x2 :: x3 :: x4 :: x5 :: x6 :: x7 :: x8 :: x9 :: x10 :: x11 :: some (.ref x) :: t) (pc + 2) st) : Z p l e R s m args below meth c y cc nL ret κ Q nc ns G (x0 :: x1 :: x2 :: x3 :: x4 :: x5 :: x6 :: x7 :: x8 :: x9 :: x10 :: x11 :: w :: t) pc (.ref x :: st) := z_astore 12 hd hn ⟨some x, rfl⟩ rfl k
theorem z_as12N {x0 x1 x2 x3 x4 x5 x6 x7 x8 x9 x10 x11 : Option Value} {w : Option Value} {t : List (Option Value)} (hd : decode cc pc = .ok (.astore 12, 2)) (hn : 12 < nL) (k : Z p l e R s m args below meth c y cc nL ret κ Q nc ns G (x0 :: x1 :: x2 :: x3 :: x4 :: x5 :: x6 :: x7 :: x8 :: x9 :: x10 :: x11 :: some .null :: t) (pc + 2) st) : Z p l e R s m args below meth c y cc nL ret κ Q nc ns G (x0 :: x1 :: x2 :: x3 :: x4 :: x5 :: x6 :: x7 :: x8 :: x9 :: x10 :: x11 :: w :: t) pc (.null :: st) := z_astore 12 hd hn ⟨none, rfl⟩ rfl k
theorem z_as12q {x0 x1 x2 x3 x4 x5 x6 x7 x8 x9 x10 x11 : Option Value} {w : Option Value} {t : List (Option Value)} {x : Option Nat} (hd : decode cc pc = .ok (.astore 12, 2)) (hn : 12 < nL) (k : Z p l e R s m args below meth c y cc nL ret κ Q nc ns G (x0 :: x1 :: x2 :: x3 :: x4 :: x5 :: x6 :: x7 :: x8 :: x9 :: x10 :: x11 :: some (va_rf x) :: t) (pc + 2) st) : Z p l e R s m args below meth c y cc nL ret κ Q nc ns G (x0 :: x1 :: x2 :: x3 :: x4 :: x5 :: x6 :: x7 :: x8 :: x9 :: x10 :: x11 :: w :: t) pc (va_rf x :: st) := z_astore 12 hd hn ⟨x, rfl⟩ rfl k
theorem z_ii12 {x0 x1 x2 x3 x4 x5 x6 x7 x8 x9 x10 x11 : Option Value} {t : List (Option Value)} {x : Int32} {n : Int} (v : Int32) (hd : decode cc pc = .ok (.iinc 12 n, 3)) (hv : x + Int32.ofInt n = v) (hn : 12 < nL) (k : Z p l e R s m args below meth c y cc nL ret κ Q nc ns G (x0 :: x1 :: x2 :: x3 :: x4 :: x5 :: x6 :: x7 :: x8 :: x9 :: x10 :: x11 :: some (.int v) :: t) (pc + 3) st) : Z p l e R s m args below meth c y cc nL ret κ Q nc ns G (x0 :: x1 :: x2 :: x3 :: x4 :: x5 :: x6 :: x7 :: x8 :: x9 :: x10 :: x11 :: some (.int x) :: t) pc st := z_iinc 12 hd rfl hv hn rfl k
theorem z_il13 {x0 x1 x2 x3 x4 x5 x6 x7 x8 x9 x10 x11 x12 : Option Value} {t : List (Option Value)} {x : Int32} (hd : decode cc pc = .ok (.iload 13, 2)) (k : Z p l e R s m args below meth c y cc nL ret κ Q nc ns G (x0 :: x1 :: x2 :: x3 :: x4 :: x5 :: x6 :: x7 :: x8 :: x9 :: x10 :: x11 :: x12 :: some (.int x) :: t) (pc + 2) (.int x :: st)) : Z p l e R s m args below meth c y cc nL ret κ Q nc ns G (x0 :: x1 :: x2 :: x3 :: x4 :: x5 :: x6 :: x7 :: x8 :: x9 :: x10 :: x11 :: x12 :: some (.int x) :: t) pc st := z_iload 13 hd rfl k
theorem z_al13 {x0 x1 x2 x3 x4 x5 x6 x7 x8 x9 x10 x11 x12 : Option Value} {t : List (Option Value)} {x : Nat} (hd : decode cc pc = .ok (.aload 13, 2)) (k : Z p l e R s m args below meth c y cc nL ret κ Q nc ns G (x0 :: x1 :: x2 :: x3 :: x4 :: x5 :: x6 :: x7 :: x8 :: x9 :: x10 :: x11 :: x12 :: some (.ref x) :: t) (pc + 2) (.ref x :: st)) : Z p l e R s m args below meth c y cc nL ret κ Q nc ns G (x0 :: x1 :: x2 :: x3 :: x4 :: x5 :: x6 :: x7 :: x8 :: x9 :: x10 :: x11 :: x12 :: some (.ref x) :: t) pc st := z_aload 13 hd rfl ⟨some x, rfl⟩ k
theorem z_al13N {x0 x1 x2 x3 x4 x5 x6 x7 x8 x9 x10 x11 x12 : Option Value} {t : List (Option Value)} (hd : decode cc pc = .ok (.aload 13, 2)) (k : Z p l e R s m args below meth c y cc nL ret κ Q nc ns G (x0 :: x1 :: x2 :: x3 :: x4 :: x5 :: x6 :: x7 :: x8 :: x9 :: x10 :: x11 :: x12 :: some .null :: t) (pc + 2) (.null :: st)) : Z p l e R s m args below meth c y cc nL ret κ Q nc ns G (x0 :: x1 :: x2 :: x3 :: x4 :: x5 :: x6 :: x7 :: x8 :: x9 :: x10 :: x11 :: x12 :: some .null :: t) pc st := z_aload 13 hd rfl ⟨none, rfl⟩ k
theorem z_al13q {x0 x1 x2 x3 x4 x5 x6 x7 x8 x9 x10 x11 x12 : Option Value} {t : List (Option Value)} {x : Option Nat} (hd : decode cc pc = .ok (.aload 13, 2)) (k : Z p l e R s m args below meth c y cc nL ret κ Q nc ns G (x0 :: x1 :: x2 :: x3 :: x4 :: x5 :: x6 :: x7 :: x8 :: x9 :: x10 :: x11 :: x12 :: some (va_rf x) :: t) (pc + 2) (va_rf x :: st)) : Z p l e R s m args below meth c y cc nL ret κ Q nc ns G (x0 :: x1 :: x2 :: x3 :: x4 :: x5 :: x6 :: x7 :: x8 :: x9 :: x10 :: x11 :: x12 :: some (va_rf x) :: t) pc st := z_aload 13 hd rfl ⟨x, rfl⟩ k
theorem z_is13 {x0 x1 x2 x3 x4 x5 x6 x7 x8 x9 x10 x11 x12 : Option Value} {w : Option Value} {t : List (Option Value)} {x : Int32} (hd : decode cc pc = .ok (.istore 13, 2)) (hn : 13 < nL) (k : Z p l e R s m args below meth c y cc nL ret κ Q nc ns G (x0 :: x1 :: x2 :: x3 :: x4 :: x5 :: x6 :: x7 :: x8 :: x9 :: x10 :: x11 :: x12 :: some (.int x) :: t) (pc + 2) st) : Z p l e R s m args below meth c y cc nL ret κ Q nc ns G (x0 :: x1 :: x2 :: x3 :: x4 :: x5 :: x6 :: x7 :: x8 :: x9 :: x10 :: x11 :: x12 :: w :: t) pc (.int x :: st) := z_istore 13 hd hn rfl k
theorem z_as13 {x0 x1 x2 x3 x4 x5 x6 x7 x8 x9 x10 x11 x12 : Option Value} {w : Option Value} {t : List (Option Value)} {x : Nat} (hd : decode cc pc = .ok (.astore 13, 2)) (hn : 13 < nL) (k : Z p l e R s m args below meth c y cc nL ret κ Q nc ns G (x0 :: x1 :: x2 :: x3 :: x4 :: x5 :: x6 :: x7 :: x8 :: x9 :: x10 :: x11 :: x12 :: some (.ref x) :: t) (pc + 2) st) : Z p l e R s m args below meth c y cc nL ret κ Q nc ns G (x0 :: x1 :: x2 :: x3 :: x4 :: x5 :: x6 :: x7 :: x8 :: x9 :: x10 :: x11 :: x12 :: w :: t) pc (.ref x :: st) := z_astore 13 hd hn ⟨some x, rfl⟩ rfl k
theorem z_as13N {x0 x1 x2 x3 x4 x5 x6 x7 x8 x9 x10 x11 x12 : Option Value} {w : Option Value} {t : List (Option Value)} (hd : decode cc pc = .ok (.astore 13, 2)) (hn : 13 < nL) (k : Z p l e R s m args below meth c y cc nL ret κ Q nc ns G (x0 :: x1 :: x2 :: x3 :: x4 :: x5 :: x6 :: x7 :: x8 :: x9 :: x10 :: x11 :: x12 :: some .null :: t) (pc + 2) st) : Z p l e R s m args below meth c y cc nL ret κ Q nc ns G (x0 :: x1 :: x2 :: x3 :: x4 :: x5 :: x6 :: x7 :: x8 :: x9 :: x10 :: x11 :: x12 :: w :: t) pc (.null :: st) := z_astore 13 hd hn ⟨none, rfl⟩ rfl k
theorem z_as13q {x0 x1 x2 x3 x4 x5 x6 x7 x8 x9 x10 x11 x12 : Option Value} {w : Option Value} {t : List (Option Value)} {x : Option Nat} (hd : decode cc pc = .ok (.astore 13, 2)) (hn : 13 < nL) (k : Z p l e R s m args below meth c y cc nL ret κ Q nc ns G (x0 :: x1 :: x2 :: x3 :: x4 :: x5 :: x6 :: x7 :: x8 :: x9 :: x10 :: x11 :: x12 :: some (va_rf x) :: t) (pc + 2) st) : Z p l e R s m args below meth c y cc nL ret κ Q nc ns G (x0 :: x1 :: x2 :: x3 :: x4 :: x5 :: x6 :: x7 :: x8 :: x9 :: x10 :: x11 :: x12 :: w :: t) pc (va_rf x :: st) := z_astore 13 hd hn ⟨x, rfl⟩ rfl k
theorem z_ii13 {x0 x1 x2 x3 x4 x5 x6 x7 x8 x9 x10 x11 x12 : Option Value} {t : List (Option Value)} {x : Int32} {n : Int} (v : Int32) (hd : decode cc pc = .ok (.iinc 13 n, 3)) (hv : x + Int32.ofInt n = v) (hn : 13 < nL) (k : Z p l e R s m args below meth c y cc nL ret κ Q nc ns G (x0 :: x1 :: x2 :: x3 :: x4 :: x5 :: x6 :: x7 :: x8 :: x9 :: x10 :: x11 :: x12 :: some (.int v) :: t) (pc + 3) st) : Z p l e R s m args below meth c y cc nL ret κ Q nc ns G (x0 :: x1 :: x2 :: x3 :: x4 :: x5 :: x6 :: x7 :: x8 :: x9 :: x10 :: x11 :: x12 :: some (.int x) :: t) pc st := z_iinc 13 hd rfl hv hn rfl k
theorem z_il14 {x0 x1 x2 x3 x4 x5 x6 x7 x8 x9 x10 x11 x12 x13 : Option Value} {t : List (Option Value)} {x : Int32} (hd : decode cc pc = .ok (.iload 14, 2)) (k : Z p l e R s m args below meth c y cc nL ret κ Q nc ns G (x0 :: x1 :: x2 :: x3 :: x4 :: x5 :: x6 :: x7 :: x8 :: x9 :: x10 :: x11 :: x12 :: x13 :: some (.int x) :: t) (pc + 2) (.int x :: st)) : Z p l e R s m args below meth c y cc nL ret κ Q nc ns G (x0 :: x1 :: x2 :: x3 :: x4 :: x5 :: x6 :: x7 :: x8 :: x9 :: x10 :: x11 :: x12 :: x13 :: some (.int x) :: t) pc st := z_iload 14 hd rfl k
theorem z_al14 {x0 x1 x2 x3 x4 x5 x6 x7 x8 x9 x10 x11 x12 x13 : Option Value} {t : List (Option Value)} {x : Nat} (hd : decode cc pc = .ok (.aload 14, 2)) (k : Z p l e R s m args below meth c y cc nL ret κ Q nc ns G (x0 :: x1 :: x2 :: x3 :: x4 :: x5 :: x6 :: x7 :: x8 :: x9 :: x10 :: x11 :: x12 :: x13 :: some (.ref x) :: t) (pc + 2) (.ref x :: st)) : Z p l e R s m args below meth c y cc nL ret κ Q nc ns G (x0 :: x1 :: x2 :: x3 :: x4 :: x5 :: x6 :: x7 :: x8 :: x9 :: x10 :: x11 :: x12 :: x13 :: some (.ref x) :: t) pc st := z_aload 14 hd rfl ⟨some x, rfl⟩ k
theorem z_al14N {x0 x1 x2 x3 x4 x5 x6 x7 x8 x9 x10 x11 x12 x13 : Option Value} {t : List (Option Value)} (hd : decode cc pc = .ok (.aload 14, 2)) (k : Z p l e R s m args below meth c y cc nL ret κ Q nc ns G (x0 :: x1 :: x2 :: x3 :: x4 :: x5 :: x6 :: x7 :: x8 :: x9 :: x10 :: x11 :: x12 :: x13 :: some .null :: t) (pc + 2) (.null :: st)) : Z p l e R s m args below meth c y cc nL ret κ Q nc ns G (x0 :: x1 :: x2 :: x3 :: x4 :: x5 :: x6 :: x7 :: x8 :: x9 :: x10 :: x11 :: x12 :: x13 :: some .null :: t) pc st := z_aload 14 hd rfl ⟨none, rfl⟩ k
theorem z_al14q {x0 x1 x2 x3 x4 x5 x6 x7 x8 x9 x10 x11 x12 x13 : Option Value} {t : List (Option Value)} {x : Option Nat} (hd : decode cc pc = .ok (.aload 14, 2)) (k : Z p l e R s m args below meth c y cc nL ret κ Q nc ns G (x0 :: x1 :: x2 :: x3 :: x4 :: x5 :: x6 :: x7 :: x8 :: x9 :: x10 :: x11 :: x12 :: x13 :: some (va_rf x) :: t) (pc + 2) (va_rf x :: st)) : Z p l e R s m args below meth c y cc nL ret κ Q nc ns G (x0 :: x1 :: x2 :: x3 :: x4 :: x5 :: x6 :: x7 :: x8 :: x9 :: x10 :: x11 :: x12 :: x13 :: some (va_rf x) :: t) pc st := z_aload 14 hd rfl ⟨x, rfl⟩ k
theorem z_is14 {x0 x1 x2 x3 x4 x5 x6 x7 x8 x9 x10 x11 x12 x13 : Option Value} {w : Option Value} {t : List (Option Value)} {x : Int32} (hd : decode cc pc = .ok (.istore 14, 2)) (hn : 14 < nL) (k : Z p l e R s m args below meth c y cc nL ret κ Q nc ns G (x0 :: x1 :: x2 :: x3 :: x4 :: x5 :: x6 :: x7 :: x8 :: x9 :: x10 :: x11 :: x12 :: x13 :: some (.int x) :: t) (pc + 2) st) : Z p l e R s m args below meth c y cc nL ret κ Q nc ns G (x0 :: x1 :: x2 :: x3 :: x4 :: x5 :: x6 :: x7 :: x8 :: x9 :: x10 :: x11 :: x12 :: x13 :: w :: t) pc (.int x :: st) := z_istore 14 hd hn rfl k
theorem z_as14 {x0 x1 x2 x3 x4 x5 x6 x7 x8 x9 x10 x11 x12 x13 : Option Value} {w : Option Value} {t : List (Option Value)} {x : Nat} (hd : decode cc pc = .ok (.astore 14, 2)) (hn : 14 < nL) (k : Z p l e R s m args below meth c y cc nL ret κ Q nc ns G (x0 :: x1 :: x2 :: x3 :: x4 :: x5 :: x6 :: x7 :: x8 :: x9 :: x10 :: x11 :: x12 :: x13 :: some (.ref x) :: t) (pc + 2) st) : Z p l e R s m args below meth c y cc nL ret κ Q nc ns G (x0 :: x1 :: x2 :: x3 :: x4 :: x5 :: x6 :: x7 :: x8 :: x9 :: x10 :: x11 :: x12 :: x13 :: w :: t) pc (.ref x :: st) := z_astore 14 hd hn ⟨some x, rfl⟩ rfl k
theorem z_as14N {x0 x1 x2 x3 x4 x5 x6 x7 x8 x9 x10 x11 x12 x13 : Option Value} {w : Option Value} {t : List (Option Value)} (hd : decode cc pc = .ok (.astore 14, 2)) (hn : 14 < nL) (k : Z p l e R s m args below meth c y cc nL ret κ Q nc ns G (x0 :: x1 :: x2 :: x3 :: x4 :: x5 :: x6 :: x7 :: x8 :: x9 :: x10 :: x11 :: x12 :: x13 :: some .null :: t) (pc + 2) st) : Z p l e R s m args below meth c y cc nL ret κ Q nc ns G (x0 :: x1 :: x2 :: x3 :: x4 :: x5 :: x6 :: x7 :: x8 :: x9 :: x10 :: x11 :: x12 :: x13 :: w :: t) pc (.null :: st) := z_astore 14 hd hn ⟨none, rfl⟩ rfl k
theorem z_as14q {x0 x1 x2 x3 x4 x5 x6 x7 x8 x9 x10 x11 x12 x13 : Option Value} {w : Option Value} {t : List (Option Value)} {x : Option Nat} (hd : decode cc pc = .ok (.astore 14, 2)) (hn : 14 < nL) (k : Z p l e R s m args below meth c y cc nL ret κ Q nc ns G (x0 :: x1 :: x2 :: x3 :: x4 :: x5 :: x6 :: x7 :: x8 :: x9 :: x10 :: x11 :: x12 :: x13 :: some (va_rf x) :: t) (pc + 2) st) : Z p l e R s m args below meth c y cc nL ret κ Q nc ns G (x0 :: x1 :: x2 :: x3 :: x4 :: x5 :: x6 :: x7 :: x8 :: x9 :: x10 :: x11 :: x12 :: x13 :: w :: t) pc (va_rf x :: st) := z_astore 14 hd hn ⟨x, rfl⟩ rfl k
theorem z_ii14 {x0 x1 x2 x3 x4 x5 x6 x7 x8 x9 x10 x11 x12 x13 : Option Value} {t : List (Option Value)} {x : Int32} {n : Int} (v : Int32) (hd : decode cc pc = .ok (.iinc 14 n, 3)) (hv : x + Int32.ofInt n = v) (hn : 14 < nL) (k : Z p l e R s m args below meth c y cc nL ret κ Q nc ns G (x0 :: x1 :: x2 :: x3 :: x4 :: x5 :: x6 :: x7 :: x8 :: x9 :: x10 :: x11 :: x12 :: x13 :: some (.int v) :: t) (pc + 3) st) : Z p l e R s m args below meth c y cc nL ret κ Q nc ns G (x0 :: x1 :: x2 :: x3 :: x4 :: x5 :: x6 :: x7 :: x8 :: x9 :: x10 :: x11 :: x12 :: x13 :: some (.int x) :: t) pc st := z_iinc 14 hd rfl hv hn rfl k
theorem z_il15 {x0 x1 x2 x3 x4 x5 x6 x7 x8 x9 x10 x11 x12 x13 x14 : Option Value} {t : List (Option Value)} {x : Int32} (hd : decode cc pc = .ok (.iload 15, 2)) (k : Z p l e R s m args below meth c y cc nL ret κ Q nc ns G (x0 :: x1 :: x2 :: x3 :: x4 :: x5 :: x6 :: x7 :: x8 :: x9 :: x10 :: x11 :: x12 :: x13 :: x14 :: some (.int x) :: t) (pc + 2) (.int x :: st)) : Z p l e R s m args below meth c y cc nL ret κ Q nc ns G (x0 :: x1 :: x2 :: x3 :: x4 :: x5 :: x6 :: x7 :: x8 :: x9 :: x10 :: x11 :: x12 :: x13 :: x14 :: some (.int x) :: t) pc st := z_iload 15 hd rfl k
theorem z_al15 {x0 x1 x2 x3 x4 x5 x6 x7 x8 x9 x10 x11 x12 x13 x14 : Option Value} {t : List (Option Value)} {x : Nat} (hd : decode cc pc = .ok (.aload 15, 2)) (k : Z p l e R s m args below meth c y cc nL ret κ Q nc ns G (x0 :: x1 :: x2 :: x3 :: x4 :: x5 :: x6 :: x7 :: x8 :: x9 :: x10 :: x11 :: x12 :: x13 :: x14 :: some (.ref x) :: t) (pc + 2) (.ref x :: st)) : Z p l e R s m args below meth c y cc nL ret κ Q nc ns G (x0 :: x1 :: x2 :: x3 :: x4 :: x5 :: x6 :: x7 :: x8 :: x9 :: x10 :: x11 :: x12 :: x13 :: x14 :: some (.ref x) :: t) pc st := z_aload 15 hd rfl ⟨some x, rfl⟩ k
theorem z_al15N {x0 x1 x2 x3 x4 x5 x6 x7 x8 x9 x10 x11 x12 x13 x14 : Option Value} {t : List (Option Value)} (hd : decode cc pc = .ok (.aload 15, 2)) (k : Z p l e R s m args below meth c y cc nL ret κ Q nc ns G (x0 :: x1 :: x2 :: x3 :: x4 :: x5 :: x6 :: x7 :: x8 :: x9 :: x10 :: x11 :: x12 :: x13 :: x14 :: some .null :: t) (pc + 2) (.null :: st)) : Z p l e R s m args below meth c y cc nL ret κ Q nc ns G (x0 :: x1 :: x2 :: x3 :: x4 :: x5 :: x6 :: x7 :: x8 :: x9 :: x10 :: x11 :: x12 :: x13 :: x14 :: some .null :: t) pc st := z_aload 15 hd rfl ⟨none, rfl⟩ k
theorem z_al15q {x0 x1 x2 x3 x4 x5 x6 x7 x8 x9 x10 x11 x12 x13 x14 : Option Value} {t : List (Option Value)} {x : Option Nat} (hd : decode cc pc = .ok (.aload 15, 2)) (k : Z p l e R s m args below meth c y cc nL ret κ Q nc ns G (x0 :: x1 :: x2 :: x3 :: x4 :: x5 :: x6 :: x7 :: x8 :: x9 :: x10 :: x11 :: x12 :: x13 :: x14 :: some (va_rf x) :: t) (pc + 2) (va_rf x :: st)) : Z p l e R s m args below meth c y cc nL ret κ Q nc ns G (x0 :: x1 :: x2 :: x3 :: x4 :: x5 :: x6 :: x7 :: x8 :: x9 :: x10 :: x11 :: x12 :: x13 :: x14 :: some (va_rf x) :: t) pc st := z_aload 15 hd rfl ⟨x, rfl⟩ k
theorem z_is15 {x0 x1 x2 x3 x4 x5 x6 x7 x8 x9 x10 x11 x12 x13 x14 : Option Value} {w : Option Value} {t : List (Option Value)} {x : Int32} (hd : decode cc pc = .ok (.istore 15, 2)) (hn : 15 < nL) (k : Z p l e R s m args below meth c y cc nL ret κ Q nc ns G (x0 :: x1 :: x2 :: x3 :: x4 :: x5 :: x6 :: x7 :: x8 :: x9 :: x10 :: x11 :: x12 :: x13 :: x14 :: some (.int x) :: t) (pc + 2) st) : Z p l e R s m args below meth c y cc nL ret κ Q nc ns G (x0 :: x1 :: x2 :: x3 :: x4 :: x5 :: x6 :: x7 :: x8 :: x9 :: x10 :: x11 :: x12 :: x13 :: x14 :: w :: t) pc (.int x :: st) := z_istore 15 hd hn rfl k
theorem z_as15 {x0 x1 x2 x3 x4 x5 x6 x7 x8 x9 x10 x11 x12 x13 x14 : Option Value} {w : Option Value} {t : List (Option Value)} {x : Nat} (hd : decode cc pc = .ok (.astore 15, 2)) (hn : 15 < nL) (k : Z p l e R s m args below meth c y cc nL ret κ Q nc ns G (x0 :: x1 :: x2 :: x3 :: x4 :: x5 :: x6 :: x7 :: x8 :: x9 :: x10 :: x11 :: x12 :: x13 :: x14 :: some (.ref x) :: t) (pc + 2) st) : Z p l e R s m args below meth c y cc nL ret κ Q nc ns G (x0 :: x1 :: x2 :: x3 :: x4 :: x5 :: x6 :: x7 :: x8 :: x9 :: x10 :: x11 :: x12 :: x13 :: x14 :: w :: t) pc (.ref x :: st) := z_astore 15 hd hn ⟨some x, rfl⟩ rfl k
theorem z_as15N {x0 x1 x2 x3 x4 x5 x6 x7 x8 x9 x10 x11 x12 x13 x14 : Option Value} {w : Option Value} {t : List (Option Value)} (hd : decode cc pc = .ok (.astore 15, 2)) (hn : 15 < nL) (k : Z p l e R s m args below meth c y cc nL ret κ Q nc ns G (x0 :: x1 :: x2 :: x3 :: x4 :: x5 :: x6 :: x7 :: x8 :: x9 :: x10 :: x11 :: x12 :: x13 :: x14 :: some .null :: t) (pc + 2) st) : Z p l e R s m args below meth c y cc nL ret κ Q nc ns G (x0 :: x1 :: x2 :: x3 :: x4 :: x5 :: x6 :: x7 :: x8 :: x9 :: x10 :: x11 :: x12 :: x13 :: x14 :: w :: t) pc (.null :: st) := z_astore 15 hd hn ⟨none, rfl⟩ rfl k
theorem z_as15q {x0 x1 x2 x3 x4 x5 x6 x7 x8 x9 x10 x11 x12 x13 x14 : Option Value} {w : Option Value} {t : List (Option Value)} {x : Option Nat} (hd : decode cc pc = .ok (.astore 15, 2)) (hn : 15 < nL) (k : Z p l e R s m args below meth c y cc nL ret κ Q nc ns G (x0 :: x1 :: x2 :: x3 :: x4 :: x5 :: x6 :: x7 :: x8 :: x9 :: x10 :: x11 :: x12 :: x13 :: x14 :: some (va_rf x) :: t) (pc + 2) st) : Z p l e R s m args below meth c y cc nL ret κ Q nc ns G (x0 :: x1 :: x2 :: x3 :: x4 :: x5 :: x6 :: x7 :: x8 :: x9 :: x10 :: x11 :: x12 :: x13 :: x14 :: w :: t) pc (va_rf x :: st) := z_astore 15 hd hn ⟨x, rfl⟩ rfl k
theorem z_ii15 {x0 x1 x2 x3 x4 x5 x6 x7 x8 x9 x10 x11 x12 x13 x14 : Option Value} {t : List (Option Value)} {x : Int32} {n : Int} (v : Int32) (hd : decode cc pc = .ok (.iinc 15 n, 3)) (hv : x + Int32.ofInt n = v) (hn : 15 < nL) (k : Z p l e R s m args below meth c y cc nL ret κ Q nc ns G (x0 :: x1 :: x2 :: x3 :: x4 :: x5 :: x6 :: x7 :: x8 :: x9 :: x10 :: x11 :: x12 :: x13 :: x14 :: some (.int v) :: t) (pc + 3) st) : Z p l e R s m args below meth c y cc nL ret κ Q nc ns G (x0 :: x1 :: x2 :: x3 :: x4 :: x5 :: x6 :: x7 :: x8 :: x9 :: x10 :: x11 :: x12 :: x13 :: x14 :: some (.int x) :: t) pc st := z_iinc 15 hd rfl hv hn rfl k
theorem z_il16 {x0 x1 x2 x3 x4 x5 x6 x7 x8 x9 x10 x11 x12 x13 x14 x15 : Option Value} {t : List (Option Value)} {x : Int32} (hd : decode cc pc = .ok (.iload 16, 2)) (k : Z p l e R s m args below meth c y cc nL ret κ Q nc ns G (x0 :: x1 :: x2 :: x3 :: x4 :: x5 :: x6 :: x7 :: x8 :: x9 :: x10 :: x11 :: x12 :: x13 :: x14 :: x15 :: some (.int x) :: t) (pc + 2) (.int x :: st)) : Z p l e R s m args below meth c y cc nL ret κ Q nc ns G (x0 :: x1 :: x2 :: x3 :: x4 :: x5 :: x6 :: x7 :: x8 :: x9 :: x10 :: x11 :: x12 :: x13 :: x14 :: x15 :: some (.int x) :: t) pc st := z_iload 16 hd rfl k
theorem z_al16 {x0 x1 x2 x3 x4 x5 x6 x7 x8 x9 x10 x11 x12 x13 x14 x15 : Option Value} {t : List (Option Value)} {x : Nat} (hd : decode cc pc = .ok (.aload 16, 2)) (k : Z p l e R s m args below meth c y cc nL ret κ Q nc ns G (x0 :: x1 :: x2 :: x3 :: x4 :: x5 :: x6 :: x7 :: x8 :: x9 :: x10 :: x11 :: x12 :: x13 :: x14 :: x15 :: some (.ref x) :: t) (pc + 2) (.ref x :: st)) : Z p l e R s m args below meth c y cc nL ret κ Q nc ns G (x0 :: x1 :: x2 :: x3 :: x4 :: x5 :: x6 :: x7 :: x8 :: x9 :: x10 :: x11 :: x12 :: x13 :: x14 :: x15 :: some (.ref x) :: t) pc st := z_aload 16 hd rfl ⟨some x, rfl⟩ k
theorem z_al16N {x0 x1 x2 x3 x4 x5 x6 x7 x8 x9 x10 x11 x12 x13 x14 x15 : Option Value} {t : List (Option Value)} (hd : decode cc pc = .ok (.aload 16, 2)) (k : Z p l e R s m args below meth c y cc nL ret κ Q nc ns G (x0 :: x1 :: x2 :: x3 :: x4 :: x5 :: x6 :: x7 :: x8 :: x9 :: x10 :: x11 :: x12 :: x13 :: x14 :: x15 :: some .null :: t) (pc + 2) (.null :: st)) : Z p l e R s m args below meth c y cc nL ret κ Q nc ns G (x0 :: x1 :: x2 :: x3 :: x4 :: x5 :: x6 :: x7 :: x8 :: x9 :: x10 :: x11 :: x12 :: x13 :: x14 :: x15 :: some .null :: t) pc st := z_aload 16 hd rfl ⟨none, rfl⟩ k
theorem z_al16q {x0 x1 x2 x3 x4 x5 x6 x7 x8 x9 x10 x11 x12 x13 x14 x15 : Option Value} {t : List (Option Value)} {x : Option Nat} (hd : decode cc pc = .ok (.aload 16, 2)) (k : Z p l e R s m args below meth c y cc nL ret κ Q nc ns G (x0 :: x1 :: x2 :: x3 :: x4 :: x5 :: x6 :: x7 :: x8 :: x9 :: x10 :: x11 :: x12 :: x13 :: x14 :: x15 :: some (va_rf x) :: t) (pc + 2) (va_rf x :: st)) : Z p l e R s m args below meth c y cc nL ret κ Q nc ns G (x0 :: x1 :: x2 :: x3 :: x4 :: x5 :: x6 :: x7 :: x8 :: x9 :: x10 :: x11 :: x12 :: x13 :: x14 :: x15 :: some (va_rf x) :: t) pc st := z_aload 16 hd rfl ⟨x, rfl⟩ k
theorem z_is16 {x0 x1 x2 x3 x4 x5 x6 x7 x8 x9 x10 x11 x12 x13 x14 x15 : Option Value} {w : Option Value} {t : List (Option Value)} {x : Int32} (hd : decode cc pc = .ok (.istore 16, 2)) (hn : 16 < nL) (k : Z p l e R s m args below meth c y cc nL ret κ Q nc ns G (x0 :: x1 :: x2 :: x3 :: x4 :: x5 :: x6 :: x7 :: x8 :: x9 :: x10 :: x11 :: x12 :: x13 :: x14 :: x15 :: some (.int x) :: t) (pc + 2) st) : Z p l e R s m args below meth c y cc nL ret κ Q nc ns G (x0 :: x1 :: x2 :: x3 :: x4 :: x5 :: x6 :: x7 :: x8 :: x9 :: x10 :: x11 :: x12 :: x13 :: x14 :: x15 :: w :: t) pc (.int x :: st) := z_istore 16 hd hn rfl k
theorem z_as16 {x0 x1 x2 x3 x4 x5 x6 x7 x8 x9 x10 x11 x12 x13 x14 x15 : Option Value} {w : Option Value} {t : List (Option Value)} {x : Nat} (hd : decode cc pc = .ok (.astore 16, 2)) (hn : 16 < nL) (k : Z p l e R s m args below meth c y cc nL ret κ Q nc ns G (x0 :: x1 :: x2 :: x3 :: x4 :: x5 :: x6 :: x7 :: x8 :: x9 :: x10 :: x11 :: x12 :: x13 :: x14 :: x15 :: some (.ref x) :: t) (pc + 2) st) : Z p l e R s m args below meth c y cc nL ret κ Q nc ns G (x0 :: x1 :: x2 :: x3 :: x4 :: x5 :: x6 :: x7 :: x8 :: x9 :: x10 :: x11 :: x12 :: x13 :: x14 :: x15 :: w :: t) pc (.ref x :: st) := z_astore 16 hd hn ⟨some x, rfl⟩ rfl k
theorem z_as16N {x0 x1 x2 x3 x4 x5 x6 x7 x8 x9 x10 x11 x12 x13 x14 x15 : Option Value} {w : Option Value} {t : List (Option Value)} (hd : decode cc pc = .ok (.astore 16, 2)) (hn : 16 < nL) (k : Z p l e R s m args below meth c y cc nL ret κ Q nc ns G (x0 :: x1 :: x2 :: x3 :: x4 :: x5 :: x6 :: x7 :: x8 :: x9 :: x10 :: x11 :: x12 :: x13 :: x14 :: x15 :: some .null :: t) (pc + 2) st) : Z p l e R s m args below meth c y cc nL ret κ Q nc ns G (x0 :: x1 :: x2 :: x3 :: x4 :: x5 :: x6 :: x7 :: x8 :: x9 :: x10 :: x11 :: x12 :: x13 :: x14 :: x15 :: w :: t) pc (.null :: st) := z_astore 16 hd hn ⟨none, rfl⟩ rfl k
theorem z_as16q {x0 x1 x2 x3 x4 x5 x6 x7 x8 x9 x10 x11 x12 x13 x14 x15 : Option Value} {w : Option Value} {t : List (Option Value)} {x : Option Nat} (hd : decode cc pc = .ok (.astore 16, 2)) (hn : 16 < nL) (k : Z p l e R s m args below meth c y cc nL ret κ Q nc ns G (x0 :: x1 :: x2 :: x3 :: x4 :: x5 :: x6 :: x7 :: x8 :: x9 :: x10 :: x11 :: x12 :: x13 :: x14 :: x15 :: some (va_rf x) :: t) (pc + 2) st) : Z p l e R s m args below meth c y cc nL ret κ Q nc ns G (x0 :: x1 :: x2 :: x3 :: x4 :: x5 :: x6 :: x7 :: x8 :: x9 :: x10 :: x11 :: x12 :: x13 :: x14 :: x15 :: w :: t) pc (va_rf x :: st) := z_astore 16 hd hn ⟨x, rfl⟩ rfl k
theorem z_ii16 {x0 x1 x2 x3 x4 x5 x6 x7 x8 x9 x10 x11 x12 x13 x14 x15 : Option Value} {t : List (Option Value)} {x : Int32} {n : Int} (v : Int32) (hd : decode cc pc = .ok (.iinc 16 n, 3)) (hv : x + Int32.ofInt n = v) (hn : 16 < nL) (k : Z p l e R s m args below meth c y cc nL ret κ Q nc ns G (x0 :: x1 :: x2 :: x3 :: x4 :: x5 :: x6 :: x7 :: x8 :: x9 :: x10 :: x11 :: x12 :: x13 :: x14 :: x15 :: some (.int v) :: t) (pc + 3) st) : Z p l e R s m args below meth c y cc nL ret κ Q nc ns G (x0 :: x1 :: x2 :: x3 :: x4 :: x5 :: x6 :: x7 :: x8 :: x9 :: x10 :: x11 :: x12 :: x13 :: x14 :: x15 :: some (.int x) :: t) pc st := z_iinc 16 hd rfl hv hn rfl k
theorem z_il17 {x0 x1 x2 x3 x4 x5 x6 x7 x8 x9 x10 x11 x12 x13 x14 x15 x16 : Option Value} {t : List (Option Value)} {x : Int32} (hd : decode cc pc = .ok (.iload 17, 2)) (k : Z p l e R s m args below meth c y cc nL ret κ Q nc ns G (x0 :: x1 :: x2 :: x3 :: x4 :: x5 :: x6 :: x7 :: x8 :: x9 :: x10 :: x11 :: x12 :: x13 :: x14 :: x15 :: x16 :: some (.int x) :: t) (pc + 2) (.int x :: st)) : Z p l e R s m args below meth c y cc nL ret κ Q nc ns G (x0 :: x1 :: x2 :: x3 :: x4 :: x5 :: x6 :: x7 :: x8 :: x9 :: x10 :: x11 :: x12 :: x13 :: x14 :: x15 :: x16 :: some (.int x) :: t) pc st := z_iload 17 hd rfl k
theorem z_al17 {x0 x1 x2 x3 x4 x5 x6 x7 x8 x9 x10 x11 x12 x13 x14 x15 x16 : Option Value} {t : List (Option Value)} {x : Nat} (hd : decode cc pc = .ok (.aload 17, 2)) (k : Z p l e R s m args below meth c y cc nL ret κ Q nc ns G (x0 :: x1 :: x2 :: x3 :: x4 :: x5 :: x6 :: x7 :: x8 :: x9 :: x10 :: x11 :: x12 :: x13 :: x14 :: x15 :: x16 :: some (.ref x) :: t) (pc + 2) (.ref x :: st)) : Z p l e R s m args below meth c y cc nL ret κ Q nc ns G (x0 :: x1 :: x2 :: x3 :: x4 :: x5 :: x6 :: x7 :: x8 :: x9 :: x10 :: x11 :: x12 :: x13 :: x14 :: x15 :: x16 :: some (.ref x) :: t) pc st := z_aload 17 hd rfl ⟨some x, rfl⟩ k
theorem z_al17N {x0 x1 x2 x3 x4 x5 x6 x7 x8 x9 x10 x11 x12 x13 x14 x15 x16 : Option Value} {t : List (Option Value)} (hd : decode cc pc = .ok (.aload 17, 2)) (k : Z p l e R s m args below meth c y cc nL ret κ Q nc ns G (x0 :: x1 :: x2 :: x3 :: x4 :: x5 :: x6 :: x7 :: x8 :: x9 :: x10 :: x11 :: x12 :: x13 :: x14 :: x15 :: x16 :: some .null :: t) (pc + 2) (.null :: st)) : Z p l e R s m args below meth c y cc nL ret κ Q nc ns G (x0 :: x1 :: x2 :: x3 :: x4 :: x5 :: x6 :: x7 :: x8 :: x9 :: x10 :: x11 :: x12 :: x13 :: x14 :: x15 :: x16 :: some .null :: t) pc st := z_aload 17 hd rfl ⟨none, rfl⟩ k
theorem z_al17q {x0 x1 x2 x3 x4 x5 x6 x7 x8 x9 x10 x11 x12 x13 x14 x15 x16 : Option Value} {t : List (Option Value)} {x : Option Nat} (hd : decode cc pc = .ok (.aload 17, 2)) (k : Z p l e R s m args below meth c y cc nL ret κ Q nc ns G (x0 :: x1 :: x2 :: x3 :: x4 :: x5 :: x6 :: x7 :: x8 :: x9 :: x10 :: x11 :: x12 :: x13 :: x14 :: x15 :: x16 :: some (va_rf x) :: t) (pc + 2) (va_rf x :: st)) : Z p l e R s m args below meth c y cc nL ret κ Q nc ns G (x0 :: x1 :: x2 :: x3 :: x4 :: x5 :: x6 :: x7 :: x8 :: x9 :: x10 :: x11 :: x12 :: x13 :: x14 :: x15 :: x16 :: some (va_rf x) :: t) pc st := z_aload 17 hd rfl ⟨x, rfl⟩ k
theorem z_is17 {x0 x1 x2 x3 x4 x5 x6 x7 x8 x9 x10 x11 x12 x13 x14 x15 x16 : Option Value} {w : Option Value} {t : List (Option Value)} {x : Int32} (hd : decode cc pc = .ok (.istore 17, 2)) (hn : 17 < nL) (k : Z p l e R s m args below meth c y cc nL ret κ Q nc ns G (x0 :: x1 :: x2 :: x3 :: x4 :: x5 :: x6 :: x7 :: x8 :: x9 :: x10 :: x11 :: x12 :: x13 :: x14 :: x15 :: x16 :: some (.int x) :: t) (pc + 2) st) : Z p l e R s m args below meth c y cc nL ret κ Q nc ns G (x0 :: x1 :: x2 :: x3 :: x4 :: x5 :: x6 :: x7 :: x8 :: x9 :: x10 :: x11 :: x12 :: x13 :: x14 :: x15 :: x16 :: w :: t) pc (.int x :: st) := z_istore 17 hd hn rfl k
theorem z_as17 {x0 x1 x2 x3 x4 x5 x6 x7 x8 x9 x10 x11 x12 x13 x14 x15 x16 : Option Value} {w : Option Value} {t : List (Option Value)} {x : Nat} (hd : decode cc pc = .ok (.astore 17, 2)) (hn : 17 < nL) (k : Z p l e R s m args below meth c y cc nL ret κ Q nc ns G (x0 :: x1 :: x2 :: x3 :: x4 :: x5 :: x6 :: x7 :: x8 :: x9 :: x10 :: x11 :: x12 :: x13 :: x14 :: x15 :: x16 :: some (.ref x) :: t) (pc + 2) st) : Z p l e R s m args below meth c y cc nL ret κ Q nc ns G (x0 :: x1 :: x2 :: x3 :: x4 :: x5 :: x6 :: x7 :: x8 :: x9 :: x10 :: x11 :: x12 :: x13 :: x14 :: x15 :: x16 :: w :: t) pc (.ref x :: st) := z_astore 17 hd hn ⟨some x, rfl⟩ rfl k
theorem z_as17N {x0 x1 x2 x3 x4 x5 x6 x7 x8 x9 x10 x11 x12 x13 x14 x15 x16 : Option Value} {w : Option Value} {t : List (Option Value)} (hd : decode cc pc = .ok (.astore 17, 2)) (hn : 17 < nL) (k : Z p l e R s m args below meth c y cc nL ret κ Q nc ns G (x0 :: x1 :: x2 :: x3 :: x4 :: x5 :: x6 :: x7 :: x8 :: x9 :: x10 :: x11 :: x12 :: x13 :: x14 :: x15 :: x16 :: some .null :: t) (pc + 2) st) : Z p l e R s m args below meth c y cc nL ret κ Q nc ns G (x0 :: x1 :: x2 :: x3 :: x4 :: x5 :: x6 :: x7 :: x8 :: x9 :: x10 :: x11 :: x12 :: x13 :: x14 :: x15 :: x16 :: w :: t) pc (.null :: st) := z_astore 17 hd hn ⟨none, rfl⟩ rfl k
theorem z_as17q {x0 x1 x2 x3 x4 x5 x6 x7 x8 x9 x10 x11 x12 x13 x14 x15 x16 : Option Value} {w : Option Value} {t : List (Option Value)} {x : Option Nat} (hd : decode cc pc = .ok (.astore 17, 2)) (hn : 17 < nL) (k : Z p l e R s m args below meth c y cc nL ret κ Q nc ns G (x0 :: x1 :: x2 :: x3 :: x4 :: x5 :: x6 :: x7 :: x8 :: x9 :: x10 :: x11 :: x12 :: x13 :: x14 :: x15 :: x16 :: some (va_rf x) :: t) (pc + 2) st) : Z p l e R s m args below meth c y cc nL ret κ Q nc ns G (x0 :: x1 :: x2 :: x3 :: x4 :: x5 :: x6 :: x7 :: x8 :: x9 :: x10 :: x11 :: x12 :: x13 :: x14 :: x15 :: x16 :: w :: t) pc (va_rf x :: st) := z_astore 17 hd hn ⟨x, rfl⟩ rfl k
theorem z_ii17 {x0 x1 x2 x3 x4 x5 x6 x7 x8 x9 x10 x11 x12 x13 x14 x15 x16 : Option Value} {t : List (Option Value)} {x : Int32} {n : Int} (v : Int32) (hd : decode cc pc = .ok (.iinc 17 n, 3)) (hv : x + Int32.ofInt n = v) (hn : 17 < nL) (k : Z p l e R s m args below meth c y cc nL ret κ Q nc ns G (x0 :: x1 :: x2 :: x3 :: x4 :: x5 :: x6 :: x7 :: x8 :: x9 :: x10 :: x11 :: x12 :: x13 :: x14 :: x15 :: x16 :: some (.int v) :: t) (pc + 3) st) : Z p l e R s m args below meth c y cc nL ret κ Q nc ns G (x0 :: x1 :: x2 :: x3 :: x4 :: x5 :: x6 :: x7 :: x8 :: x9 :: x10 :: x11 :: x12 :: x13 :: x14 :: x15 :: x16 :: some (.int x) :: t) pc st := z_iinc 17 hd rfl hv hn rfl k
/-- a truth value as the machine holds it -/
def zb (P : Prop) [Decidable P] : Int32 := if P then 1 else 0
theorem zb_0 {P : Prop} [Decidable P] : zb P = 0 ↔ ¬ P := by unfold zb; split <;> simp_all
theorem zb_1 {P : Prop} [Decidable P] : ¬ zb P = 0 ↔ P := by rw [zb_0]; exact Decidable.not_not
theorem zb_t {P : Prop} [Decidable P] (h : P) : zb P = 1 := if_pos h
theorem zb_f {P : Prop} [Decidable P] (h : ¬ P) : zb P = 0 := if_neg h
theorem zb_n {P : Prop} [Decidable P] : narrow .boolean (.int (zb P)) = .int (zb P) := by unfold zb; split <;> rfl
theorem zb_c {P P2 : Prop} [Decidable P] [Decidable P2] (h : P ↔ P2) : zb P = zb P2 := by unfold zb; simp only [h]
theorem z_ifz_eq {P : Prop} [Decidable P] {off : Int} (tgt : Nat) (hd : decode cc pc = .ok (.ifCond .eq off, 3)) (ht : (pc : Int) + off = (tgt : Int)) (kt : ¬ P → Z p l e R s m args below meth c y cc nL ret κ Q nc ns G L tgt st) (kf : P → Z p l e R s m args below meth c y cc nL ret κ Q nc ns G L (pc + 3) st) : Z p l e R s m args below meth c y cc nL ret κ Q nc ns G L pc (.int (zb P) :: st) := z_if_eq tgt hd ht (fun h => kt (zb_0.mp h)) (fun h => kf (zb_1.mp h))
theorem z_ifz_ne {P : Prop} [Decidable P] {off : Int} (tgt : Nat) (hd : decode cc pc = .ok (.ifCond .ne off, 3)) (ht : (pc : Int) + off = (tgt : Int)) (kt : P → Z p l e R s m args below meth c y cc nL ret κ Q nc ns G L tgt st) (kf : ¬ P → Z p l e R s m args below meth c y cc nL ret κ Q nc ns G L (pc + 3) st) : Z p l e R s m args below meth c y cc nL ret κ Q nc ns G L pc (.int (zb P) :: st) := z_if_ne tgt hd ht (fun h => kt (zb_1.mp h)) (fun h => kf (zb_0.mp h))
abbrev zP (f : Int32) (G : zH) : Option Value → zH → Prop := pI (fun v G' => v = f ∧ G' = G)
theorem z_nc0 {a b : Nat} (h1 : a = 0) (h2 : b = 0) (k : Z p l e R s m args below meth c y cc nL ret κ Q nc ns G L pc st) : Z p l e R s m args below meth c y cc nL ret κ Q (nc + a) (ns + b) G L pc st := by subst h1; subst h2; exact k
theorem z_callSr {y2 : MethodName} {cc2 : ByteArray} {nL2 : Nat} {ret2 : Option FieldType} {rm2 : Room} {As rest : List Value} {index : Nat} {f : Int32} (hC : Ct l y2 cc2 nL2 ret2 rm2 κ As G (zP f G)) (w1 : Cond.methodLink y.cls index y2 ∈ TB) (hV : zcS y2 cc2 nL2 ret2 As.length) (hR : rm2.frames + 1 ≤ R.frames ∧ 8 + (nL2 + 11) + rm2.locals ≤ R.locals ∧ nc + rm2.cells ≤ R.cells ∧ ns + rm2.slots ≤ R.slots) (hz : rm2.cells = 0 ∧ rm2.slots = 0) (hst : st = As.reverse ++ rest) (hW : (rest.map fun v => v.category).sum ≤ 8) (hd : decode cc pc = .ok (.invokestatic index, 3)) (k : Z p l e R s m args below meth c y cc nL ret κ Q nc ns G L (pc + 3) (.int f :: rest)) : Z p l e R s m args below meth c y cc nL ret κ Q nc ns G L pc st := z_callSi G hC rfl w1 hV hR hst hW hd (fun v G' h => by
  obtain ⟨rfl, rfl⟩ := h
  exact z_nc0 hz.1 hz.2 k)
theorem z_callVr {y2 : MethodName} {cc2 : ByteArray} {nL2 : Nat} {ret2 : Option FieldType} {rm2 : Room} {As rest : List Value} {index : Nat} {f : Int32} {b : Nat} {rr : zR} {ci : Nat} {fs : List Value} {vc : vw_C} (hC : Ct l y2 cc2 nL2 ret2 rm2 κ (.ref b :: As) G (zP f G)) (hb : G b = some (rr, .inr (ci, fs))) (hcl : vwCl[ci]? = some vc) (hvc : vc.1 = y2.cls) (w1 : Cond.methodLink y.cls index y2 ∈ TB) (hV : zcV y2 cc2 nL2 ret2 As.length) (hR : rm2.frames + 1 ≤ R.frames ∧ 8 + (nL2 + 11) + rm2.locals ≤ R.locals ∧ nc + rm2.cells ≤ R.cells ∧ ns + rm2.slots ≤ R.slots) (hz : rm2.cells = 0 ∧ rm2.slots = 0) (hst : st = As.reverse ++ .ref b :: rest) (hW : (rest.map fun v => v.category).sum ≤ 8) (hd : decode cc pc = .ok (.invokevirtual index, 3)) (k : Z p l e R s m args below meth c y cc nL ret κ Q nc ns G L (pc + 3) (.int f :: rest)) : Z p l e R s m args below meth c y cc nL ret κ Q nc ns G L pc st := z_callVi G hC rfl hb hcl hvc w1 hV hR hst hW hd (fun v G' h => by
  obtain ⟨rfl, rfl⟩ := h
  exact z_nc0 hz.1 hz.2 k)
theorem z_callSNr {y2 : MethodName} {cc2 : ByteArray} {nL2 : Nat} {ret2 : Option FieldType} {rm2 : Room} {As rest : List Value} {index : Nat} {host : String} {f : Int32} (hC : Ct l y2 cc2 nL2 ret2 rm2 κ As G (zP f G)) (w1 : Cond.methodLinkNest y.cls index y2 host ∈ NB) (hV : zcS y2 cc2 nL2 ret2 As.length) (hR : rm2.frames + 1 ≤ R.frames ∧ 8 + (nL2 + 11) + rm2.locals ≤ R.locals ∧ nc + rm2.cells ≤ R.cells ∧ ns + rm2.slots ≤ R.slots) (hz : rm2.cells = 0 ∧ rm2.slots = 0) (hst : st = As.reverse ++ rest) (hW : (rest.map fun v => v.category).sum ≤ 8) (hd : decode cc pc = .ok (.invokestatic index, 3)) (k : Z p l e R s m args below meth c y cc nL ret κ Q nc ns G L (pc + 3) (.int f :: rest)) : Z p l e R s m args below meth c y cc nL ret κ Q nc ns G L pc st := z_callSNi G hC rfl w1 hV hR hst hW hd (fun v G' h => by
  obtain ⟨rfl, rfl⟩ := h
  exact z_nc0 hz.1 hz.2 k)
theorem z_callVNr {y2 : MethodName} {cc2 : ByteArray} {nL2 : Nat} {ret2 : Option FieldType} {rm2 : Room} {As rest : List Value} {index : Nat} {host : String} {f : Int32} {b : Nat} {rr : zR} {ci : Nat} {fs : List Value} {vc : vw_C} (hC : Ct l y2 cc2 nL2 ret2 rm2 κ (.ref b :: As) G (zP f G)) (hb : G b = some (rr, .inr (ci, fs))) (hcl : vwCl[ci]? = some vc) (hvc : vc.1 = y2.cls) (w1 : Cond.methodLinkNest y.cls index y2 host ∈ NB) (hV : zcV y2 cc2 nL2 ret2 As.length) (hR : rm2.frames + 1 ≤ R.frames ∧ 8 + (nL2 + 11) + rm2.locals ≤ R.locals ∧ nc + rm2.cells ≤ R.cells ∧ ns + rm2.slots ≤ R.slots) (hz : rm2.cells = 0 ∧ rm2.slots = 0) (hst : st = As.reverse ++ .ref b :: rest) (hW : (rest.map fun v => v.category).sum ≤ 8) (hd : decode cc pc = .ok (.invokevirtual index, 3)) (k : Z p l e R s m args below meth c y cc nL ret κ Q nc ns G L (pc + 3) (.int f :: rest)) : Z p l e R s m args below meth c y cc nL ret κ Q nc ns G L pc st := z_callVNi G hC rfl hb hcl hvc w1 hV hR hst hW hd (fun v G' h => by
  obtain ⟨rfl, rfl⟩ := h
  exact z_nc0 hz.1 hz.2 k)
theorem z_wkQ {post : Option Value → zH → Prop} {mc ms : Nat} (k : Z p l e R s m args below meth c y cc nL ret κ (MQ below (zQc κ post) args s mc ms (zA κ)) mc ms G L pc st) (h : nc ≤ mc ∧ ns ≤ ms) : Z p l e R s m args below meth c y cc nL ret κ (MQ below (zQc κ post) args s mc ms (zA κ)) nc ns G L pc st := z_wk h.1 h.2 k
end ZR2
theorem zc_X7_init : zcI yX7_init cX7_init 1 0 := ⟨kw_26, kw_1, kw_27, rfl, ⟨by decide +kernel, by decide +kernel, by decide +kernel⟩⟩
theorem zc_X4_init : zcI yX4_init cX4_init 1 0 := ⟨kw_34, kw_2, kw_35, rfl, ⟨by decide +kernel, by decide +kernel, by decide +kernel⟩⟩
theorem zc_X0_init : zcI yX0_init cX0_init 2 1 := ⟨kw_45, kw_3, kw_46, rfl, ⟨by decide +kernel, by decide +kernel, by decide +kernel⟩⟩
theorem zc_X2_init : zcI yX2_init cX2_init 2 1 := ⟨kw_75, kw_4, kw_76, rfl, ⟨by decide +kernel, by decide +kernel, by decide +kernel⟩⟩
theorem zc_Jx4a65c_init_da8c8 : zcI yJx4a65c_init_da8c8 cJx4a65c_init_da8c8 1 0 := ⟨kw_95, kw_7, kw_96, rfl, ⟨by decide +kernel, by decide +kernel, by decide +kernel⟩⟩
theorem zc_Jxc12de_init_da8c8 : zcI yJxc12de_init_da8c8 cJxc12de_init_da8c8 1 0 := ⟨kw_98, kw_6, kw_99, rfl, ⟨by decide +kernel, by decide +kernel, by decide +kernel⟩⟩
theorem zc_Jxa1e45_init_da8c8 : zcI yJxa1e45_init_da8c8 cJxa1e45_init_da8c8 1 0 := ⟨kw_101, kw_5, kw_102, rfl, ⟨by decide +kernel, by decide +kernel, by decide +kernel⟩⟩
theorem zc_X7_sheet : zcV yX7_sheet cX7_sheet 5 (some FieldType.int) 3 := ⟨kw_150, kw_151, kw_1, kw_152, ⟨by decide +kernel, by decide +kernel, by decide +kernel⟩⟩
theorem zc_Jx4a65c_size_8abf5 : zcV yJx4a65c_size_8abf5 cJx4a65c_size_8abf5 1 (some FieldType.int) 0 := ⟨kw_154, kw_155, kw_7, kw_156, ⟨by decide +kernel, by decide +kernel, by decide +kernel⟩⟩
theorem zc_X7_isHand : zcS yX7_isHand cX7_isHand 1 (some FieldType.boolean) 1 := ⟨kw_158, kw_1, kw_159, ⟨by decide +kernel, by decide +kernel, by decide +kernel⟩⟩
theorem zc_X7_isWithin : zcS yX7_isWithin cX7_isWithin 2 (some FieldType.boolean) 2 := ⟨kw_161, kw_1, kw_162, ⟨by decide +kernel, by decide +kernel, by decide +kernel⟩⟩
theorem zc_X7_isWords : zcS yX7_isWords cX7_isWords 1 (some FieldType.boolean) 1 := ⟨kw_164, kw_1, kw_165, ⟨by decide +kernel, by decide +kernel, by decide +kernel⟩⟩
theorem zc_X5_init : zcI yX5_init cX5_init 5 4 := ⟨kw_169, kw_9, kw_170, rfl, ⟨by decide +kernel, by decide +kernel, by decide +kernel⟩⟩
theorem zc_X6_init : zcI yX6_init cX6_init 1 0 := ⟨kw_175, kw_10, kw_176, rfl, ⟨by decide +kernel, by decide +kernel, by decide +kernel⟩⟩
theorem zc_Jx4a65c_add_9ea2d : zcV yJx4a65c_add_9ea2d cJx4a65c_add_9ea2d 2 (some FieldType.boolean) 1 := ⟨kw_230, kw_231, kw_7, kw_232, ⟨by decide +kernel, by decide +kernel, by decide +kernel⟩⟩
theorem zc_Jx4a65c_add_72be8 : zcV yJx4a65c_add_72be8 cJx4a65c_add_72be8 4 none 3 := ⟨kw_235, kw_s0, kw_7, kw_236, ⟨by decide +kernel, by decide +kernel, by decide +kernel⟩⟩
theorem zc_Jx4a65c_grow_d5877 : zcV yJx4a65c_grow_d5877 cJx4a65c_grow_d5877 1 (some (FieldType.array (FieldType.object "java/lang/Object"))) 0 := ⟨kw_239, kw_s1, kw_7, kw_240, ⟨by decide +kernel, by decide +kernel, by decide +kernel⟩⟩
theorem zc_Jx4a65c_grow_92f84 : zcV yJx4a65c_grow_92f84 cJx4a65c_grow_92f84 4 (some (FieldType.array (FieldType.object "java/lang/Object"))) 1 := ⟨kw_243, kw_s2, kw_7, kw_244, ⟨by decide +kernel, by decide +kernel, by decide +kernel⟩⟩
theorem zc_J8_newLength_cabcc : zcS yJ8_newLength_cabcc cJ8_newLength_cabcc 4 (some FieldType.int) 3 := ⟨kw_246, kw_11, kw_247, ⟨by decide +kernel, by decide +kernel, by decide +kernel⟩⟩
theorem zc_J9_max_7cf53 : zcS yJ9_max_7cf53 cJ9_max_7cf53 2 (some FieldType.int) 2 := ⟨kw_249, kw_12, kw_250, ⟨by decide +kernel, by decide +kernel, by decide +kernel⟩⟩
theorem zc_J8_hugeLength_7cf53 : zcS yJ8_hugeLength_7cf53 cJ8_hugeLength_7cf53 3 (some FieldType.int) 2 := ⟨kw_253, kw_11, kw_254, ⟨by decide +kernel, by decide +kernel, by decide +kernel⟩⟩
theorem zc_J7_copyOf_1904c : zcS yJ7_copyOf_1904c cJ7_copyOf_1904c 2 (some (FieldType.array (FieldType.object "java/lang/Object"))) 2 := ⟨kw_256, kw_13, kw_257, ⟨by decide +kernel, by decide +kernel, by decide +kernel⟩⟩
theorem zc_J7_copyOf_6403c : zcS yJ7_copyOf_6403c cJ7_copyOf_6403c 4 (some (FieldType.array (FieldType.object "java/lang/Object"))) 3 := ⟨kw_274, kw_13, kw_275, ⟨by decide +kernel, by decide +kernel, by decide +kernel⟩⟩
theorem zc_J9_min_7cf53 : zcS yJ9_min_7cf53 cJ9_min_7cf53 2 (some FieldType.int) 2 := ⟨kw_280, kw_12, kw_281, ⟨by decide +kernel, by decide +kernel, by decide +kernel⟩⟩
theorem zc_X7_note : zcV yX7_note cX7_note 5 (some FieldType.int) 3 := ⟨kw_288, kw_289, kw_1, kw_290, ⟨by decide +kernel, by decide +kernel, by decide +kernel⟩⟩
theorem zc_X7_find : zcV yX7_find cX7_find 2 (some (FieldType.object "TuneHouse$Sheet")) 1 := ⟨kw_293, kw_s3, kw_1, kw_294, ⟨by decide +kernel, by decide +kernel, by decide +kernel⟩⟩
theorem zc_Jx4a65c_get_915e3 : zcV yJx4a65c_get_915e3 cJx4a65c_get_915e3 2 (some (FieldType.object "java/lang/Object")) 1 := ⟨kw_296, kw_297, kw_7, kw_298, ⟨by decide +kernel, by decide +kernel, by decide +kernel⟩⟩
theorem zc_J15_checkIndex_7cf53 : zcS yJ15_checkIndex_7cf53 cJ15_checkIndex_7cf53 2 (some FieldType.int) 2 := ⟨kw_300, kw_15, kw_301, ⟨by decide +kernel, by decide +kernel, by decide +kernel⟩⟩
theorem zc_J3_checkIndex_8e157 : zcS yJ3_checkIndex_8e157 cJ3_checkIndex_8e157 3 (some FieldType.int) 3 := ⟨kw_303, kw_16, kw_304, ⟨by decide +kernel, by decide +kernel, by decide +kernel⟩⟩
theorem zc_Jx4a65c_elementData_915e3 : zcV yJx4a65c_elementData_915e3 cJx4a65c_elementData_915e3 2 (some (FieldType.object "java/lang/Object")) 1 := ⟨kw_306, kw_307, kw_7, kw_308, ⟨by decide +kernel, by decide +kernel, by decide +kernel⟩⟩
theorem zc_X7_isNote : zcS yX7_isNote cX7_isNote 2 (some FieldType.boolean) 2 := ⟨kw_310, kw_1, kw_311, ⟨by decide +kernel, by decide +kernel, by decide +kernel⟩⟩
theorem zc_X5_append : zcV yX5_append cX5_append 3 (some FieldType.boolean) 2 := ⟨kw_313, kw_314, kw_9, kw_315, ⟨by decide +kernel, by decide +kernel, by decide +kernel⟩⟩
theorem zc_X6_append : zcV yX6_append cX6_append 3 (some FieldType.boolean) 2 := ⟨kw_317, kw_318, kw_10, kw_319, ⟨by decide +kernel, by decide +kernel, by decide +kernel⟩⟩
theorem zc_X6_put : zcV yX6_put cX6_put 4 none 3 := ⟨kw_321, kw_322, kw_10, kw_323, ⟨by decide +kernel, by decide +kernel, by decide +kernel⟩⟩
theorem zc_X6_has : zcV yX6_has cX6_has 2 (some FieldType.boolean) 1 := ⟨kw_325, kw_326, kw_10, kw_327, ⟨by decide +kernel, by decide +kernel, by decide +kernel⟩⟩
theorem zc_X5_length : zcV yX5_length cX5_length 1 (some FieldType.int) 0 := ⟨kw_329, kw_330, kw_9, kw_331, ⟨by decide +kernel, by decide +kernel, by decide +kernel⟩⟩
theorem zc_X6_length : zcV yX6_length cX6_length 1 (some FieldType.int) 0 := ⟨kw_333, kw_334, kw_10, kw_335, ⟨by decide +kernel, by decide +kernel, by decide +kernel⟩⟩
theorem zc_X7_correct : zcV yX7_correct cX7_correct 6 (some FieldType.boolean) 4 := ⟨kw_337, kw_338, kw_1, kw_339, ⟨by decide +kernel, by decide +kernel, by decide +kernel⟩⟩
theorem zc_X5_has : zcV yX5_has cX5_has 2 (some FieldType.boolean) 1 := ⟨kw_341, kw_342, kw_9, kw_343, ⟨by decide +kernel, by decide +kernel, by decide +kernel⟩⟩
theorem zc_X1_init : zcI yX1_init cX1_init 5 4 := ⟨kw_348, kw_17, kw_349, rfl, ⟨by decide +kernel, by decide +kernel, by decide +kernel⟩⟩
theorem zc_X5_amend : zcV yX5_amend cX5_amend 2 none 1 := ⟨kw_369, kw_370, kw_9, kw_371, ⟨by decide +kernel, by decide +kernel, by decide +kernel⟩⟩
theorem zc_X7_forge : zcV yX7_forge cX7_forge 3 (some FieldType.boolean) 1 := ⟨kw_374, kw_375, kw_1, kw_376, ⟨by decide +kernel, by decide +kernel, by decide +kernel⟩⟩
theorem zc_X5_isForgedBy : zcV yX5_isForgedBy cX5_isForgedBy 2 (some FieldType.boolean) 1 := ⟨kw_378, kw_379, kw_9, kw_380, ⟨by decide +kernel, by decide +kernel, by decide +kernel⟩⟩
theorem zc_X5_markForged : zcV yX5_markForged cX5_markForged 2 none 1 := ⟨kw_382, kw_383, kw_9, kw_384, ⟨by decide +kernel, by decide +kernel, by decide +kernel⟩⟩
theorem zc_X7_doubles : zcV yX7_doubles cX7_doubles 5 (some FieldType.boolean) 2 := ⟨kw_386, kw_387, kw_1, kw_388, ⟨by decide +kernel, by decide +kernel, by decide +kernel⟩⟩
theorem zc_X7_isPair : zcV yX7_isPair cX7_isPair 4 (some FieldType.boolean) 2 := ⟨kw_391, kw_s4, kw_1, kw_392, ⟨by decide +kernel, by decide +kernel, by decide +kernel⟩⟩
theorem zc_X3_joins : zcV yX3_joins cX3_joins 3 (some FieldType.boolean) 2 := ⟨kw_395, kw_396, kw_18, kw_397, ⟨by decide +kernel, by decide +kernel, by decide +kernel⟩⟩
theorem zc_X3_init : zcI yX3_init cX3_init 3 2 := ⟨kw_400, kw_18, kw_401, rfl, ⟨by decide +kernel, by decide +kernel, by decide +kernel⟩⟩
theorem zc_X7_days : zcV yX7_days cX7_days 2 (some FieldType.int) 1 := ⟨kw_411, kw_412, kw_1, kw_413, ⟨by decide +kernel, by decide +kernel, by decide +kernel⟩⟩
theorem zc_X7_price : zcV yX7_price cX7_price 3 (some FieldType.boolean) 2 := ⟨kw_415, kw_416, kw_1, kw_417, ⟨by decide +kernel, by decide +kernel, by decide +kernel⟩⟩
theorem zc_X4_set : zcV yX4_set cX4_set 3 (some FieldType.boolean) 2 := ⟨kw_419, kw_420, kw_2, kw_421, ⟨by decide +kernel, by decide +kernel, by decide +kernel⟩⟩
theorem zc_X2_forgetAll : zcV yX2_forgetAll cX2_forgetAll 2 none 0 := ⟨kw_426, kw_427, kw_4, kw_428, ⟨by decide +kernel, by decide +kernel, by decide +kernel⟩⟩
theorem zc_X7_distance : zcV yX7_distance cX7_distance 6 (some FieldType.int) 3 := ⟨kw_430, kw_431, kw_1, kw_432, ⟨by decide +kernel, by decide +kernel, by decide +kernel⟩⟩
theorem zc_X7_isDay : zcV yX7_isDay cX7_isDay 2 (some FieldType.boolean) 1 := ⟨kw_435, kw_s5, kw_1, kw_436, ⟨by decide +kernel, by decide +kernel, by decide +kernel⟩⟩
theorem zc_X7_turnTo : zcV yX7_turnTo cX7_turnTo 4 none 1 := ⟨kw_439, kw_s6, kw_1, kw_440, ⟨by decide +kernel, by decide +kernel, by decide +kernel⟩⟩
theorem zc_X5_openOn : zcV yX5_openOn cX5_openOn 5 (some FieldType.boolean) 1 := ⟨kw_442, kw_443, kw_9, kw_444, ⟨by decide +kernel, by decide +kernel, by decide +kernel⟩⟩
theorem zc_X5_amendedBy : zcV yX5_amendedBy cX5_amendedBy 3 (some FieldType.int) 1 := ⟨kw_447, kw_s7, kw_9, kw_448, ⟨by decide +kernel, by decide +kernel, by decide +kernel⟩⟩
theorem zc_X6_copy : zcV yX6_copy cX6_copy 3 none 1 := ⟨kw_453, kw_454, kw_10, kw_455, ⟨by decide +kernel, by decide +kernel, by decide +kernel⟩⟩
theorem zc_X2_forget : zcV yX2_forget cX2_forget 3 none 1 := ⟨kw_458, kw_459, kw_4, kw_460, ⟨by decide +kernel, by decide +kernel, by decide +kernel⟩⟩
theorem zc_X2_apart : zcV yX2_apart cX2_apart 3 (some FieldType.int) 2 := ⟨kw_462, kw_463, kw_4, kw_464, ⟨by decide +kernel, by decide +kernel, by decide +kernel⟩⟩
theorem zc_X2_learn : zcV yX2_learn cX2_learn 8 (some FieldType.int) 2 := ⟨kw_467, kw_s8, kw_4, kw_468, ⟨by decide +kernel, by decide +kernel, by decide +kernel⟩⟩
theorem zc_X0_leastSum : zcV yX0_leastSum cX0_leastSum 18 (some FieldType.int) 4 := ⟨kw_471, kw_472, kw_3, kw_473, ⟨by decide +kernel, by decide +kernel, by decide +kernel⟩⟩
theorem zc_X4_out : zcV yX4_out cX4_out 1 (some FieldType.int) 0 := ⟨kw_475, kw_476, kw_2, kw_477, ⟨by decide +kernel, by decide +kernel, by decide +kernel⟩⟩
theorem zc_X0_fillFirstRow : zcV yX0_fillFirstRow cX0_fillFirstRow 5 none 2 := ⟨kw_480, kw_s9, kw_3, kw_481, ⟨by decide +kernel, by decide +kernel, by decide +kernel⟩⟩
theorem zc_X4_ofNotes : zcV yX4_ofNotes cX4_ofNotes 5 (some FieldType.int) 2 := ⟨kw_483, kw_484, kw_2, kw_485, ⟨by decide +kernel, by decide +kernel, by decide +kernel⟩⟩
theorem zc_X7_key : zcV yX7_key cX7_key 6 (some FieldType.int) 3 := ⟨kw_487, kw_488, kw_1, kw_489, ⟨by decide +kernel, by decide +kernel, by decide +kernel⟩⟩
theorem zc_X2_toldKey : zcV yX2_toldKey cX2_toldKey 3 (some FieldType.int) 2 := ⟨kw_491, kw_492, kw_4, kw_493, ⟨by decide +kernel, by decide +kernel, by decide +kernel⟩⟩
theorem zc_X7_column : zcV yX7_column cX7_column 8 (some FieldType.int) 5 := ⟨kw_495, kw_496, kw_1, kw_497, ⟨by decide +kernel, by decide +kernel, by decide +kernel⟩⟩
theorem zc_X7_layOut : zcV yX7_layOut cX7_layOut 3 none 2 := ⟨kw_500, kw_s10, kw_1, kw_501, ⟨by decide +kernel, by decide +kernel, by decide +kernel⟩⟩
theorem zc_X0_layOut : zcV yX0_layOut cX0_layOut 6 none 3 := ⟨kw_503, kw_504, kw_3, kw_505, ⟨by decide +kernel, by decide +kernel, by decide +kernel⟩⟩
theorem zc_X0_takesTwo : zcV yX0_takesTwo cX0_takesTwo 6 (some FieldType.boolean) 5 := ⟨kw_511, kw_s11, kw_3, kw_512, ⟨by decide +kernel, by decide +kernel, by decide +kernel⟩⟩
theorem zc_X4_ofTwo : zcV yX4_ofTwo cX4_ofTwo 8 (some FieldType.int) 5 := ⟨kw_514, kw_515, kw_2, kw_516, ⟨by decide +kernel, by decide +kernel, by decide +kernel⟩⟩
theorem zc_X6_pitchAt : zcV yX6_pitchAt cX6_pitchAt 2 (some FieldType.int) 1 := ⟨kw_518, kw_519, kw_10, kw_520, ⟨by decide +kernel, by decide +kernel, by decide +kernel⟩⟩
theorem zc_X6_beatsAt : zcV yX6_beatsAt cX6_beatsAt 2 (some FieldType.int) 1 := ⟨kw_522, kw_523, kw_10, kw_524, ⟨by decide +kernel, by decide +kernel, by decide +kernel⟩⟩
theorem zc_X0_put : zcV yX0_put cX0_put 4 none 3 := ⟨kw_528, kw_s12, kw_3, kw_529, ⟨by decide +kernel, by decide +kernel, by decide +kernel⟩⟩
theorem zc_X0_takesOne : zcV yX0_takesOne cX0_takesOne 4 (some FieldType.boolean) 3 := ⟨kw_532, kw_s13, kw_3, kw_533, ⟨by decide +kernel, by decide +kernel, by decide +kernel⟩⟩
theorem zc_X4_ofOne : zcV yX4_ofOne cX4_ofOne 3 (some FieldType.int) 2 := ⟨kw_535, kw_536, kw_2, kw_537, ⟨by decide +kernel, by decide +kernel, by decide +kernel⟩⟩
theorem zc_X0_toldOf : zcV yX0_toldOf cX0_toldOf 4 (some FieldType.int) 2 := ⟨kw_539, kw_540, kw_3, kw_541, ⟨by decide +kernel, by decide +kernel, by decide +kernel⟩⟩
theorem zc_X7_family : zcV yX7_family cX7_family 6 (some FieldType.int) 3 := ⟨kw_543, kw_544, kw_1, kw_545, ⟨by decide +kernel, by decide +kernel, by decide +kernel⟩⟩
theorem zc_X7_gather : zcV yX7_gather cX7_gather 6 (some FieldType.boolean) 3 := ⟨kw_548, kw_s14, kw_1, kw_549, ⟨by decide +kernel, by decide +kernel, by decide +kernel⟩⟩
theorem zc_Jx4a65c_clear_da8c8 : zcV yJx4a65c_clear_da8c8 cJx4a65c_clear_da8c8 4 none 0 := ⟨kw_551, kw_552, kw_7, kw_553, ⟨by decide +kernel, by decide +kernel, by decide +kernel⟩⟩
theorem zc_X7_findTrue : zcV yX7_findTrue cX7_findTrue 4 (some (FieldType.object "TuneHouse$Sheet")) 2 := ⟨kw_556, kw_s15, kw_1, kw_557, ⟨by decide +kernel, by decide +kernel, by decide +kernel⟩⟩
theorem zc_X7_addLinked : zcV yX7_addLinked cX7_addLinked 6 none 3 := ⟨kw_560, kw_s16, kw_1, kw_561, ⟨by decide +kernel, by decide +kernel, by decide +kernel⟩⟩
theorem zc_X7_isGathered : zcV yX7_isGathered cX7_isGathered 3 (some FieldType.boolean) 1 := ⟨kw_564, kw_s17, kw_1, kw_565, ⟨by decide +kernel, by decide +kernel, by decide +kernel⟩⟩
theorem zc_X7_kin : zcV yX7_kin cX7_kin 4 (some FieldType.int) 3 := ⟨kw_568, kw_569, kw_1, kw_570, ⟨by decide +kernel, by decide +kernel, by decide +kernel⟩⟩
theorem zc_X7_sung : zcV yX7_sung cX7_sung 6 (some FieldType.int) 3 := ⟨kw_572, kw_573, kw_1, kw_574, ⟨by decide +kernel, by decide +kernel, by decide +kernel⟩⟩
theorem zc_X7_source : zcV yX7_source cX7_source 5 (some FieldType.int) 2 := ⟨kw_576, kw_577, kw_1, kw_578, ⟨by decide +kernel, by decide +kernel, by decide +kernel⟩⟩
theorem zc_X7_sourceOf : zcV yX7_sourceOf cX7_sourceOf 9 (some (FieldType.object "TuneHouse$Sheet")) 2 := ⟨kw_581, kw_s18, kw_1, kw_582, ⟨by decide +kernel, by decide +kernel, by decide +kernel⟩⟩
theorem zc_X4_anew : zcV yX4_anew cX4_anew 1 (some FieldType.int) 0 := ⟨kw_584, kw_585, kw_2, kw_586, ⟨by decide +kernel, by decide +kernel, by decide +kernel⟩⟩
theorem zc_X5_isEarlierThan : zcV yX5_isEarlierThan cX5_isEarlierThan 2 (some FieldType.boolean) 1 := ⟨kw_588, kw_589, kw_9, kw_590, ⟨by decide +kernel, by decide +kernel, by decide +kernel⟩⟩
theorem zc_X7_changes : zcV yX7_changes cX7_changes 4 (some FieldType.int) 2 := ⟨kw_592, kw_593, kw_1, kw_594, ⟨by decide +kernel, by decide +kernel, by decide +kernel⟩⟩
theorem zc_X7_changesOf : zcV yX7_changesOf cX7_changesOf 4 (some FieldType.int) 2 := ⟨kw_597, kw_s19, kw_1, kw_598, ⟨by decide +kernel, by decide +kernel, by decide +kernel⟩⟩
theorem zc_X7_all : zcV yX7_all cX7_all 5 (some FieldType.int) 1 := ⟨kw_600, kw_601, kw_1, kw_602, ⟨by decide +kernel, by decide +kernel, by decide +kernel⟩⟩
theorem zc_X7_doubt : zcV yX7_doubt cX7_doubt 6 (some FieldType.int) 3 := ⟨kw_604, kw_605, kw_1, kw_606, ⟨by decide +kernel, by decide +kernel, by decide +kernel⟩⟩
theorem zc_X7_rivalsOf : zcV yX7_rivalsOf cX7_rivalsOf 10 (some FieldType.int) 4 := ⟨kw_609, kw_s20, kw_1, kw_610, ⟨by decide +kernel, by decide +kernel, by decide +kernel⟩⟩
theorem zc_X7_habit : zcV yX7_habit cX7_habit 10 (some FieldType.int) 4 := ⟨kw_612, kw_613, kw_1, kw_614, ⟨by decide +kernel, by decide +kernel, by decide +kernel⟩⟩
theorem zc_X3_sheetOf : zcV yX3_sheetOf cX3_sheetOf 2 (some (FieldType.object "TuneHouse$Sheet")) 1 := ⟨kw_617, kw_618, kw_18, kw_619, ⟨by decide +kernel, by decide +kernel, by decide +kernel⟩⟩
theorem zc_X7_habitIn : zcV yX7_habitIn cX7_habitIn 4 (some FieldType.int) 3 := ⟨kw_622, kw_s21, kw_1, kw_623, ⟨by decide +kernel, by decide +kernel, by decide +kernel⟩⟩
theorem zc_X0_rise : zcV yX0_rise cX0_rise 5 (some FieldType.int) 2 := ⟨kw_625, kw_626, kw_3, kw_627, ⟨by decide +kernel, by decide +kernel, by decide +kernel⟩⟩
theorem zc_X0_isMeeting : zcV yX0_isMeeting cX0_isMeeting 4 (some FieldType.boolean) 3 := ⟨kw_630, kw_s22, kw_3, kw_631, ⟨by decide +kernel, by decide +kernel, by decide +kernel⟩⟩
theorem zc_X0_met : zcV yX0_met cX0_met 5 (some FieldType.int) 2 := ⟨kw_634, kw_635, kw_3, kw_636, ⟨by decide +kernel, by decide +kernel, by decide +kernel⟩⟩
theorem zc_X7_span : zcV yX7_span cX7_span 8 (some FieldType.int) 3 := ⟨kw_638, kw_639, kw_1, kw_640, ⟨by decide +kernel, by decide +kernel, by decide +kernel⟩⟩
theorem zc_X7_count : zcV yX7_count cX7_count 2 (some FieldType.int) 1 := ⟨kw_642, kw_643, kw_1, kw_644, ⟨by decide +kernel, by decide +kernel, by decide +kernel⟩⟩
theorem zc_X7_at : zcV yX7_at cX7_at 6 (some FieldType.int) 4 := ⟨kw_650, kw_651, kw_1, kw_652, ⟨by decide +kernel, by decide +kernel, by decide +kernel⟩⟩
theorem zc_X8_init : zcI yX8_init cX8_init 1 0 := ⟨kw_719, kw_8, kw_720, rfl, ⟨by decide +kernel, by decide +kernel, by decide +kernel⟩⟩
theorem zc_X8_thrown : zcV yX8_thrown cX8_thrown 1 (some FieldType.int) 0 := ⟨kw_829, kw_830, kw_8, kw_831, ⟨by decide +kernel, by decide +kernel, by decide +kernel⟩⟩
theorem zc_X8_sheet : zcV yX8_sheet cX8_sheet 4 (some FieldType.int) 3 := ⟨kw_833, kw_834, kw_8, kw_835, ⟨by decide +kernel, by decide +kernel, by decide +kernel⟩⟩
theorem zc_X8_isIn : zcS yX8_isIn cX8_isIn 3 (some FieldType.boolean) 3 := ⟨kw_837, kw_8, kw_838, ⟨by decide +kernel, by decide +kernel, by decide +kernel⟩⟩
theorem zc_X8_note : zcV yX8_note cX8_note 4 (some FieldType.int) 3 := ⟨kw_840, kw_841, kw_8, kw_842, ⟨by decide +kernel, by decide +kernel, by decide +kernel⟩⟩
theorem zc_X8_isSheet : zcV yX8_isSheet cX8_isSheet 2 (some FieldType.boolean) 1 := ⟨kw_845, kw_s24, kw_8, kw_846, ⟨by decide +kernel, by decide +kernel, by decide +kernel⟩⟩
theorem zc_X8_isNote : zcS yX8_isNote cX8_isNote 2 (some FieldType.boolean) 2 := ⟨kw_848, kw_8, kw_849, ⟨by decide +kernel, by decide +kernel, by decide +kernel⟩⟩
theorem zc_X8_correct : zcV yX8_correct cX8_correct 5 (some FieldType.boolean) 4 := ⟨kw_851, kw_852, kw_8, kw_853, ⟨by decide +kernel, by decide +kernel, by decide +kernel⟩⟩
theorem zc_X8_forge : zcV yX8_forge cX8_forge 2 (some FieldType.boolean) 1 := ⟨kw_855, kw_856, kw_8, kw_857, ⟨by decide +kernel, by decide +kernel, by decide +kernel⟩⟩
theorem zc_X8_doubles : zcV yX8_doubles cX8_doubles 4 (some FieldType.boolean) 2 := ⟨kw_859, kw_860, kw_8, kw_861, ⟨by decide +kernel, by decide +kernel, by decide +kernel⟩⟩
theorem zc_X8_days : zcV yX8_days cX8_days 2 (some FieldType.int) 1 := ⟨kw_863, kw_864, kw_8, kw_865, ⟨by decide +kernel, by decide +kernel, by decide +kernel⟩⟩
theorem zc_X8_price : zcV yX8_price cX8_price 3 (some FieldType.boolean) 2 := ⟨kw_867, kw_868, kw_8, kw_869, ⟨by decide +kernel, by decide +kernel, by decide +kernel⟩⟩
theorem zc_X8_at : zcV yX8_at cX8_at 5 (some FieldType.int) 4 := ⟨kw_871, kw_872, kw_8, kw_873, ⟨by decide +kernel, by decide +kernel, by decide +kernel⟩⟩
theorem zc_X8_isDay : zcV yX8_isDay cX8_isDay 2 (some FieldType.boolean) 1 := ⟨kw_876, kw_s25, kw_8, kw_877, ⟨by decide +kernel, by decide +kernel, by decide +kernel⟩⟩
theorem zc_X8_known : zcV yX8_known cX8_known 7 (some FieldType.int) 4 := ⟨kw_880, kw_s26, kw_8, kw_881, ⟨by decide +kernel, by decide +kernel, by decide +kernel⟩⟩
theorem zc_X8_distance : zcV yX8_distance cX8_distance 4 (some FieldType.int) 3 := ⟨kw_883, kw_884, kw_8, kw_885, ⟨by decide +kernel, by decide +kernel, by decide +kernel⟩⟩
theorem zc_X8_isPair : zcV yX8_isPair cX8_isPair 4 (some FieldType.boolean) 3 := ⟨kw_888, kw_s27, kw_8, kw_889, ⟨by decide +kernel, by decide +kernel, by decide +kernel⟩⟩
theorem zc_X8_far : zcV yX8_far cX8_far 7 (some FieldType.int) 3 := ⟨kw_892, kw_s28, kw_8, kw_893, ⟨by decide +kernel, by decide +kernel, by decide +kernel⟩⟩
theorem zc_X8_ready : zcV yX8_ready cX8_ready 5 none 3 := ⟨kw_896, kw_s29, kw_8, kw_897, ⟨by decide +kernel, by decide +kernel, by decide +kernel⟩⟩
theorem zc_X8_lay : zcV yX8_lay cX8_lay 5 (some FieldType.int) 1 := ⟨kw_901, kw_s30, kw_8, kw_902, ⟨by decide +kernel, by decide +kernel, by decide +kernel⟩⟩
theorem zc_X8_ofTwo : zcV yX8_ofTwo cX8_ofTwo 4 (some FieldType.int) 3 := ⟨kw_905, kw_s31, kw_8, kw_906, ⟨by decide +kernel, by decide +kernel, by decide +kernel⟩⟩
theorem zc_J9_abs_0f7a4 : zcS yJ9_abs_0f7a4 cJ9_abs_0f7a4 1 (some FieldType.int) 1 := ⟨kw_908, kw_12, kw_909, ⟨by decide +kernel, by decide +kernel, by decide +kernel⟩⟩
theorem zc_X8_alone : zcV yX8_alone cX8_alone 2 (some FieldType.int) 1 := ⟨kw_913, kw_s32, kw_8, kw_914, ⟨by decide +kernel, by decide +kernel, by decide +kernel⟩⟩
theorem zc_X8_key : zcV yX8_key cX8_key 5 (some FieldType.int) 3 := ⟨kw_916, kw_917, kw_8, kw_918, ⟨by decide +kernel, by decide +kernel, by decide +kernel⟩⟩
theorem zc_X8_column : zcV yX8_column cX8_column 7 (some FieldType.int) 5 := ⟨kw_920, kw_921, kw_8, kw_922, ⟨by decide +kernel, by decide +kernel, by decide +kernel⟩⟩
theorem zc_X8_align : zcV yX8_align cX8_align 10 none 3 := ⟨kw_925, kw_s33, kw_8, kw_926, ⟨by decide +kernel, by decide +kernel, by decide +kernel⟩⟩
theorem zc_X8_family : zcV yX8_family cX8_family 4 (some FieldType.int) 3 := ⟨kw_928, kw_929, kw_8, kw_930, ⟨by decide +kernel, by decide +kernel, by decide +kernel⟩⟩
theorem zc_X8_families : zcV yX8_families cX8_families 9 (some FieldType.boolean) 3 := ⟨kw_933, kw_s34, kw_8, kw_934, ⟨by decide +kernel, by decide +kernel, by decide +kernel⟩⟩
theorem zc_X8_isForged : zcV yX8_isForged cX8_isForged 3 (some FieldType.boolean) 2 := ⟨kw_937, kw_s35, kw_8, kw_938, ⟨by decide +kernel, by decide +kernel, by decide +kernel⟩⟩
theorem zc_X8_kin : zcV yX8_kin cX8_kin 6 (some FieldType.int) 3 := ⟨kw_940, kw_941, kw_8, kw_942, ⟨by decide +kernel, by decide +kernel, by decide +kernel⟩⟩
theorem zc_X8_sung : zcV yX8_sung cX8_sung 6 (some FieldType.int) 3 := ⟨kw_944, kw_945, kw_8, kw_946, ⟨by decide +kernel, by decide +kernel, by decide +kernel⟩⟩
theorem zc_X8_source : zcV yX8_source cX8_source 3 (some FieldType.int) 2 := ⟨kw_948, kw_949, kw_8, kw_950, ⟨by decide +kernel, by decide +kernel, by decide +kernel⟩⟩
theorem zc_X8_isAsked : zcV yX8_isAsked cX8_isAsked 3 (some FieldType.boolean) 2 := ⟨kw_953, kw_s36, kw_8, kw_954, ⟨by decide +kernel, by decide +kernel, by decide +kernel⟩⟩
theorem zc_X8_sourceOf : zcV yX8_sourceOf cX8_sourceOf 6 (some FieldType.int) 2 := ⟨kw_957, kw_s37, kw_8, kw_958, ⟨by decide +kernel, by decide +kernel, by decide +kernel⟩⟩
theorem zc_X8_isEarlier : zcV yX8_isEarlier cX8_isEarlier 3 (some FieldType.boolean) 2 := ⟨kw_961, kw_s38, kw_8, kw_962, ⟨by decide +kernel, by decide +kernel, by decide +kernel⟩⟩
theorem zc_X8_changes : zcV yX8_changes cX8_changes 3 (some FieldType.int) 2 := ⟨kw_964, kw_965, kw_8, kw_966, ⟨by decide +kernel, by decide +kernel, by decide +kernel⟩⟩
theorem zc_X8_changesOf : zcV yX8_changesOf cX8_changesOf 3 (some FieldType.int) 2 := ⟨kw_969, kw_s39, kw_8, kw_970, ⟨by decide +kernel, by decide +kernel, by decide +kernel⟩⟩
theorem zc_X8_all : zcV yX8_all cX8_all 4 (some FieldType.int) 1 := ⟨kw_972, kw_973, kw_8, kw_974, ⟨by decide +kernel, by decide +kernel, by decide +kernel⟩⟩
theorem zc_X8_doubt : zcV yX8_doubt cX8_doubt 8 (some FieldType.int) 3 := ⟨kw_976, kw_977, kw_8, kw_978, ⟨by decide +kernel, by decide +kernel, by decide +kernel⟩⟩
theorem zc_X8_habit : zcV yX8_habit cX8_habit 13 (some FieldType.int) 4 := ⟨kw_980, kw_981, kw_8, kw_982, ⟨by decide +kernel, by decide +kernel, by decide +kernel⟩⟩
theorem zc_X8_span : zcV yX8_span cX8_span 6 (some FieldType.int) 3 := ⟨kw_985, kw_986, kw_8, kw_987, ⟨by decide +kernel, by decide +kernel, by decide +kernel⟩⟩
theorem zc_X8_count : zcV yX8_count cX8_count 4 (some FieldType.int) 1 := ⟨kw_989, kw_990, kw_8, kw_991, ⟨by decide +kernel, by decide +kernel, by decide +kernel⟩⟩
end
section
/-! plain facts on 32-bit numbers -/
theorem i_lt (a b : Int32) : a < b ↔ a.toInt < b.toInt := Int32.lt_iff_toInt_lt
theorem i_le (a b : Int32) : a ≤ b ↔ a.toInt ≤ b.toInt := Int32.le_iff_toInt_le
theorem i_eq (a b : Int32) : a = b ↔ a.toInt = b.toInt := Int32.toInt_inj.symm
theorem i_lit (n : Nat) (h : n < 2 ^ 31) : (OfNat.ofNat n : Int32).toInt = (n : Int) := nI_toInt h
theorem i_0 : (0 : Int32).toInt = 0 := rfl
theorem i_m1 : (-1 : Int32).toInt = -1 := rfl
theorem i_n1 : (1 : Int32).toInt = 1 := rfl
theorem i_n2 : (2 : Int32).toInt = 2 := rfl
theorem i_n3 : (3 : Int32).toInt = 3 := rfl
theorem i_n4 : (4 : Int32).toInt = 4 := rfl
theorem i_n5 : (5 : Int32).toInt = 5 := rfl
theorem i_n6 : (6 : Int32).toInt = 6 := rfl
theorem i_n9 : (9 : Int32).toInt = 9 := rfl
theorem i_n12 : (12 : Int32).toInt = 12 := rfl
theorem i_n16 : (16 : Int32).toInt = 16 := rfl
theorem i_n19 : (19 : Int32).toInt = 19 := rfl
theorem i_n20 : (20 : Int32).toInt = 20 := rfl
theorem i_n24 : (24 : Int32).toInt = 24 := rfl
theorem i_n25 : (25 : Int32).toInt = 25 := rfl
theorem i_n48 : (48 : Int32).toInt = 48 := rfl
theorem i_n60 : (60 : Int32).toInt = 60 := rfl
theorem i_n100 : (100 : Int32).toInt = 100 := rfl
theorem i_n200 : (200 : Int32).toInt = 200 := rfl
theorem i_n400 : (400 : Int32).toInt = 400 := rfl
theorem i_n480 : (480 : Int32).toInt = 480 := rfl
theorem i_n1000 : (1000 : Int32).toInt = 1000 := rfl
theorem i_n3000 : (3000 : Int32).toInt = 3000 := rfl
theorem i_n10000 : (10000 : Int32).toInt = 10000 := rfl
theorem i_n2147483647 : (2147483647 : Int32).toInt = 2147483647 := rfl
theorem i_rng (x : Int32) : -2147483648 ≤ x.toInt ∧ x.toInt < 2147483648 := ⟨by have := Int32.minValue_le_toInt x; simpa using this, by have := Int32.toInt_lt x; simpa using this⟩
theorem ix_of (a k b : Nat) : nI a * nI k + nI b = nI (a * k + b) := by rw [pk_mul, nI_add]
theorem ix24 (k b : Nat) : (24 : Int32) * nI k + nI b = nI (24 * k + b) := ix_of 24 k b
theorem ix25 (k b : Nat) : (25 : Int32) * nI k + nI b = nI (25 * k + b) := ix_of 25 k b
theorem ix20 (k b : Nat) : (20 : Int32) * nI k + nI b = nI (20 * k + b) := ix_of 20 k b
/-- an index that was looked at is a number -/
theorem ix_in {x : Int32} {n : Nat} (h0 : 0 ≤ x) (h : x < nI n) (hn : n < 2 ^ 31) : ∃ j, x = nI j ∧ j < n := by
  obtain ⟨j, hj, rfl⟩ := nI_of (x := x) (by rw [i_le, i_0] at h0; rw [i_lt, i_0]; omega)
  exact ⟨j, rfl, (nI_ltI hj hn).mp h⟩
/-! frames in words of roles -/
def zF (n : Nat) (G G' : zH) : Prop := (∀ (a : Nat) (r : zR) (e : va_E), r.1 ≠ n → G a = some (r, e) → G' a = some (r, e)) ∧ ∀ a : Nat, G' a = none → G a = none
theorem zF.rf {n : Nat} {G : zH} : zF n G G := ⟨fun _ _ _ _ h => h, fun _ h => h⟩
theorem zF.trans {n : Nat} {G1 G2 G3 : zH} (h1 : zF n G1 G2) (h2 : zF n G2 G3) : zF n G1 G3 := ⟨fun a r e hr h => h2.1 a r e hr (h1.1 a r e hr h), fun a h => h1.2 a (h2.2 a h)⟩
theorem zu_no {G : zH} {a b : Nat} {x : zR × va_E} (h : zu G a x b = none) : G b = none := by
  unfold zu at h
  split at h
  · cases h
  · exact h
theorem zF.up {n : Nat} {G : zH} {a : Nat} {r : zR} {e e' : va_E} (h : G a = some (r, e)) (hr : r.1 = n) : zF n G (zu G a (r, e')) := ⟨fun b r2 e2 h2 hb => zu_r h hb (fun q => h2 (by rw [q]; exact hr)), fun _ h => zu_no h⟩
theorem zF.push {n : Nat} {G : zH} {a : Nat} {x : zR × va_E} (h : G a = none) : zF n G (zu G a x) := ⟨fun b r2 e2 h2 hb => by rw [zu_n (fun q => by rw [q, h] at hb; cases hb)]; exact hb, fun _ h => zu_no h⟩
/-! THE MODEL's STATE: its numbers and its arrays, by the fields' places -/
def mlen (k : Nat) : Nat := match k with
  | 1 => 20
  | 2 => 20
  | 3 => 20
  | 4 => 20
  | 5 => 20
  | 6 => 480
  | 7 => 480
  | 8 => 200
  | 9 => 200
  | 10 => 200
  | 11 => 200
  | 12 => 200
  | 13 => 60
  | 14 => 60
  | 15 => 5
  | 20 => 24
  | 21 => 24
  | 22 => 24
  | 23 => 24
  | 24 => 625
  | 29 => 48
  | 30 => 48
  | 31 => 48
  | 33 => 20
  | _ => 0
def fsM (ad : Nat → Nat) (sc : Nat → Int32) : List Value := [.int (sc 0), .ref (ad 1), .ref (ad 2), .ref (ad 3), .ref (ad 4), .ref (ad 5), .ref (ad 6), .ref (ad 7), .ref (ad 8), .ref (ad 9), .ref (ad 10), .ref (ad 11), .ref (ad 12), .ref (ad 13), .ref (ad 14), .ref (ad 15), .int (sc 16), .int (sc 17), .int (sc 18), .int (sc 19), .ref (ad 20), .ref (ad 21), .ref (ad 22), .ref (ad 23), .ref (ad 24), .int (sc 25), .int (sc 26), .int (sc 27), .int (sc 28), .ref (ad 29), .ref (ad 30), .ref (ad 31), .int (sc 32), .ref (ad 33), .int (sc 34)]
def RM (κ : zK) (G : zH) (x : Nat) (ad : Nat → Nat) (sc : Nat → Int32) (ar : Nat → Nat → Int32) : Prop :=
  G x = some ((1, 0, 0), .inr (9, fsM ad sc)) ∧ ∀ k, 0 < mlen k → G (ad k) = some ((1, 1, k), .inl (κ.2.1 0, mlen k, .inl (ar k)))
def sup (sc : Nat → Int32) (k : Nat) (v : Int32) : Nat → Int32 := fun j => if j = k then v else sc j
def aup (ar : Nat → Nat → Int32) (k i : Nat) (v : Int32) : Nat → Nat → Int32 := fun k2 => if k2 = k then upd (ar k) i v else ar k2
theorem RM.keep {κ : zK} {G G' : zH} {x : Nat} {ad : Nat → Nat} {sc : Nat → Int32} {ar : Nat → Nat → Int32} {n : Nat} (h : RM κ G x ad sc ar) (hF : zF n G G') (hn : n ≠ 1) : RM κ G' x ad sc ar :=
  ⟨hF.1 _ _ _ (fun q => hn q.symm) h.1, fun k hk => hF.1 _ _ _ (fun q => hn q.symm) (h.2 k hk)⟩
theorem RM.sc_up {κ : zK} {G : zH} {x : Nat} {ad : Nat → Nat} {sc sc2 : Nat → Int32} {ar : Nat → Nat → Int32} {fs : List Value} (h : RM κ G x ad sc ar) (hf : fs = fsM ad sc2) : RM κ (zu G x ((1, 0, 0), .inr (9, fs))) x ad sc2 ar := by
  subst hf
  exact ⟨zu_s, fun k hk => zu_r h.1 (h.2 k hk) (fun q => by cases q)⟩
theorem RM.ar_up {κ : zK} {G : zH} {x : Nat} {ad : Nat → Nat} {sc : Nat → Int32} {ar : Nat → Nat → Int32} (h : RM κ G x ad sc ar) (k i : Nat) (v : Int32) (hk : 0 < mlen k) : RM κ (zu G (ad k) ((1, 1, k), .inl (κ.2.1 0, mlen k, .inl (upd (ar k) i v)))) x ad sc (aup ar k i v) := by
  refine ⟨zu_r (h.2 k hk) h.1 (fun q => by cases q), fun k2 hk2 => ?_⟩
  by_cases hq : k2 = k
  · subst hq
    rw [zu_s]
    unfold aup
    rw [if_pos rfl]
  · rw [zu_r (h.2 k hk) (h.2 k2 hk2) (fun q => hq (by cases q; rfl))]
    unfold aup
    rw [if_neg hq]
theorem fsM_s0 (ad : Nat → Nat) (sc : Nat → Int32) (v : Int32) : (fsM ad sc).set 0 (.int v) = fsM ad (sup sc 0 v) := by simp [fsM, sup]
theorem fsM_s16 (ad : Nat → Nat) (sc : Nat → Int32) (v : Int32) : (fsM ad sc).set 16 (.int v) = fsM ad (sup sc 16 v) := by simp [fsM, sup]
theorem fsM_s17 (ad : Nat → Nat) (sc : Nat → Int32) (v : Int32) : (fsM ad sc).set 17 (.int v) = fsM ad (sup sc 17 v) := by simp [fsM, sup]
theorem fsM_s18 (ad : Nat → Nat) (sc : Nat → Int32) (v : Int32) : (fsM ad sc).set 18 (.int v) = fsM ad (sup sc 18 v) := by simp [fsM, sup]
theorem fsM_s19 (ad : Nat → Nat) (sc : Nat → Int32) (v : Int32) : (fsM ad sc).set 19 (.int v) = fsM ad (sup sc 19 v) := by simp [fsM, sup]
theorem fsM_s25 (ad : Nat → Nat) (sc : Nat → Int32) (v : Int32) : (fsM ad sc).set 25 (.int v) = fsM ad (sup sc 25 v) := by simp [fsM, sup]
theorem fsM_s26 (ad : Nat → Nat) (sc : Nat → Int32) (v : Int32) : (fsM ad sc).set 26 (.int v) = fsM ad (sup sc 26 v) := by simp [fsM, sup]
theorem fsM_s27 (ad : Nat → Nat) (sc : Nat → Int32) (v : Int32) : (fsM ad sc).set 27 (.int v) = fsM ad (sup sc 27 v) := by simp [fsM, sup]
theorem fsM_s28 (ad : Nat → Nat) (sc : Nat → Int32) (v : Int32) : (fsM ad sc).set 28 (.int v) = fsM ad (sup sc 28 v) := by simp [fsM, sup]
theorem fsM_s32 (ad : Nat → Nat) (sc : Nat → Int32) (v : Int32) : (fsM ad sc).set 32 (.int v) = fsM ad (sup sc 32 v) := by simp [fsM, sup]
theorem fsM_s34 (ad : Nat → Nat) (sc : Nat → Int32) (v : Int32) : (fsM ad sc).set 34 (.int v) = fsM ad (sup sc 34 v) := by simp [fsM, sup]
section ZR3
variable {p : Program} {l : Launch} {e : Env} {R : Room} {s : State} {m : MethodId} {args : Array Value} {below : List Frame} {meth : Method} {c : Code} {y : MethodName} {cc : ByteArray} {nL : Nat} {ret : Option FieldType} {κ : zK} {Q : State → Prop} {nc ns : Nat} {G : zH} {L : List (Option Value)} {pc : Nat} {st : List Value}
variable {x : Nat} {ad : Nat → Nat} {sc : Nat → Int32} {ar : Nat → Nat → Int32}
theorem z_mg0 (hM : RM κ G x ad sc ar) (hy : y.cls = RX8) (hd : decode cc pc = .ok (.getfield 82, 3)) (kk : Z p l e R s m args below meth c y cc nL ret κ Q nc ns G L (pc + 3) (.int (sc 0) :: st)) : Z p l e R s m args below meth c y cc nL ret κ Q nc ns G L pc (.ref x :: st) := z_get 0 hM.1 rfl iw_X8 (by decide) (by rw [hy]; exact kw_722) rfl hd kk
theorem z_mp0 {v : Int32} (hM : RM κ G x ad sc ar) (hy : y.cls = RX8) (hd : decode cc pc = .ok (.putfield 82, 3)) (kk : ∀ G1 : zH, RM κ G1 x ad (sup sc 0 v) ar → zF 1 G G1 → Z p l e R s m args below meth c y cc nL ret κ Q nc ns G1 L (pc + 3) st) : Z p l e R s m args below meth c y cc nL ret κ Q nc ns G L pc (.int v :: .ref x :: st) := z_put 0 hM.1 rfl iw_X8 tyX8 tyX8_ok nmX8 (by decide) (by rw [hy]; exact kw_722) rfl rfl rfl rfl (Nat.le_of_ble_eq_true rfl) hd (kk _ (hM.sc_up (fsM_s0 ad sc v)) (zF.up hM.1 rfl))
theorem z_mg1 (hM : RM κ G x ad sc ar) (hy : y.cls = RX8) (hd : decode cc pc = .ok (.getfield 9, 3)) (kk : Z p l e R s m args below meth c y cc nL ret κ Q nc ns G L (pc + 3) (.ref (ad 1) :: st)) : Z p l e R s m args below meth c y cc nL ret κ Q nc ns G L pc (.ref x :: st) := z_get 1 hM.1 rfl iw_X8 (by decide) (by rw [hy]; exact kw_723) rfl hd kk
theorem z_mg2 (hM : RM κ G x ad sc ar) (hy : y.cls = RX8) (hd : decode cc pc = .ok (.getfield 13, 3)) (kk : Z p l e R s m args below meth c y cc nL ret κ Q nc ns G L (pc + 3) (.ref (ad 2) :: st)) : Z p l e R s m args below meth c y cc nL ret κ Q nc ns G L pc (.ref x :: st) := z_get 2 hM.1 rfl iw_X8 (by decide) (by rw [hy]; exact kw_724) rfl hd kk
theorem z_mg3 (hM : RM κ G x ad sc ar) (hy : y.cls = RX8) (hd : decode cc pc = .ok (.getfield 16, 3)) (kk : Z p l e R s m args below meth c y cc nL ret κ Q nc ns G L (pc + 3) (.ref (ad 3) :: st)) : Z p l e R s m args below meth c y cc nL ret κ Q nc ns G L pc (.ref x :: st) := z_get 3 hM.1 rfl iw_X8 (by decide) (by rw [hy]; exact kw_725) rfl hd kk
theorem z_mg4 (hM : RM κ G x ad sc ar) (hy : y.cls = RX8) (hd : decode cc pc = .ok (.getfield 19, 3)) (kk : Z p l e R s m args below meth c y cc nL ret κ Q nc ns G L (pc + 3) (.ref (ad 4) :: st)) : Z p l e R s m args below meth c y cc nL ret κ Q nc ns G L pc (.ref x :: st) := z_get 4 hM.1 rfl iw_X8 (by decide) (by rw [hy]; exact kw_726) rfl hd kk
theorem z_mg5 (hM : RM κ G x ad sc ar) (hy : y.cls = RX8) (hd : decode cc pc = .ok (.getfield 22, 3)) (kk : Z p l e R s m args below meth c y cc nL ret κ Q nc ns G L (pc + 3) (.ref (ad 5) :: st)) : Z p l e R s m args below meth c y cc nL ret κ Q nc ns G L pc (.ref x :: st) := z_get 5 hM.1 rfl iw_X8 (by decide) (by rw [hy]; exact kw_727) rfl hd kk
theorem z_mg6 (hM : RM κ G x ad sc ar) (hy : y.cls = RX8) (hd : decode cc pc = .ok (.getfield 25, 3)) (kk : Z p l e R s m args below meth c y cc nL ret κ Q nc ns G L (pc + 3) (.ref (ad 6) :: st)) : Z p l e R s m args below meth c y cc nL ret κ Q nc ns G L pc (.ref x :: st) := z_get 6 hM.1 rfl iw_X8 (by decide) (by rw [hy]; exact kw_728) rfl hd kk
theorem z_mg7 (hM : RM κ G x ad sc ar) (hy : y.cls = RX8) (hd : decode cc pc = .ok (.getfield 28, 3)) (kk : Z p l e R s m args below meth c y cc nL ret κ Q nc ns G L (pc + 3) (.ref (ad 7) :: st)) : Z p l e R s m args below meth c y cc nL ret κ Q nc ns G L pc (.ref x :: st) := z_get 7 hM.1 rfl iw_X8 (by decide) (by rw [hy]; exact kw_729) rfl hd kk
theorem z_mg8 (hM : RM κ G x ad sc ar) (hy : y.cls = RX8) (hd : decode cc pc = .ok (.getfield 31, 3)) (kk : Z p l e R s m args below meth c y cc nL ret κ Q nc ns G L (pc + 3) (.ref (ad 8) :: st)) : Z p l e R s m args below meth c y cc nL ret κ Q nc ns G L pc (.ref x :: st) := z_get 8 hM.1 rfl iw_X8 (by decide) (by rw [hy]; exact kw_730) rfl hd kk
theorem z_mg9 (hM : RM κ G x ad sc ar) (hy : y.cls = RX8) (hd : decode cc pc = .ok (.getfield 34, 3)) (kk : Z p l e R s m args below meth c y cc nL ret κ Q nc ns G L (pc + 3) (.ref (ad 9) :: st)) : Z p l e R s m args below meth c y cc nL ret κ Q nc ns G L pc (.ref x :: st) := z_get 9 hM.1 rfl iw_X8 (by decide) (by rw [hy]; exact kw_731) rfl hd kk
theorem z_mg10 (hM : RM κ G x ad sc ar) (hy : y.cls = RX8) (hd : decode cc pc = .ok (.getfield 37, 3)) (kk : Z p l e R s m args below meth c y cc nL ret κ Q nc ns G L (pc + 3) (.ref (ad 10) :: st)) : Z p l e R s m args below meth c y cc nL ret κ Q nc ns G L pc (.ref x :: st) := z_get 10 hM.1 rfl iw_X8 (by decide) (by rw [hy]; exact kw_732) rfl hd kk
theorem z_mg11 (hM : RM κ G x ad sc ar) (hy : y.cls = RX8) (hd : decode cc pc = .ok (.getfield 40, 3)) (kk : Z p l e R s m args below meth c y cc nL ret κ Q nc ns G L (pc + 3) (.ref (ad 11) :: st)) : Z p l e R s m args below meth c y cc nL ret κ Q nc ns G L pc (.ref x :: st) := z_get 11 hM.1 rfl iw_X8 (by decide) (by rw [hy]; exact kw_733) rfl hd kk
theorem z_mg12 (hM : RM κ G x ad sc ar) (hy : y.cls = RX8) (hd : decode cc pc = .ok (.getfield 43, 3)) (kk : Z p l e R s m args below meth c y cc nL ret κ Q nc ns G L (pc + 3) (.ref (ad 12) :: st)) : Z p l e R s m args below meth c y cc nL ret κ Q nc ns G L pc (.ref x :: st) := z_get 12 hM.1 rfl iw_X8 (by decide) (by rw [hy]; exact kw_734) rfl hd kk
theorem z_mg13 (hM : RM κ G x ad sc ar) (hy : y.cls = RX8) (hd : decode cc pc = .ok (.getfield 46, 3)) (kk : Z p l e R s m args below meth c y cc nL ret κ Q nc ns G L (pc + 3) (.ref (ad 13) :: st)) : Z p l e R s m args below meth c y cc nL ret κ Q nc ns G L pc (.ref x :: st) := z_get 13 hM.1 rfl iw_X8 (by decide) (by rw [hy]; exact kw_735) rfl hd kk
theorem z_mg14 (hM : RM κ G x ad sc ar) (hy : y.cls = RX8) (hd : decode cc pc = .ok (.getfield 49, 3)) (kk : Z p l e R s m args below meth c y cc nL ret κ Q nc ns G L (pc + 3) (.ref (ad 14) :: st)) : Z p l e R s m args below meth c y cc nL ret κ Q nc ns G L pc (.ref x :: st) := z_get 14 hM.1 rfl iw_X8 (by decide) (by rw [hy]; exact kw_736) rfl hd kk
theorem z_mg15 (hM : RM κ G x ad sc ar) (hy : y.cls = RX8) (hd : decode cc pc = .ok (.getfield 52, 3)) (kk : Z p l e R s m args below meth c y cc nL ret κ Q nc ns G L (pc + 3) (.ref (ad 15) :: st)) : Z p l e R s m args below meth c y cc nL ret κ Q nc ns G L pc (.ref x :: st) := z_get 15 hM.1 rfl iw_X8 (by decide) (by rw [hy]; exact kw_737) rfl hd kk
theorem z_mg16 (hM : RM κ G x ad sc ar) (hy : y.cls = RX8) (hd : decode cc pc = .ok (.getfield 86, 3)) (kk : Z p l e R s m args below meth c y cc nL ret κ Q nc ns G L (pc + 3) (.int (sc 16) :: st)) : Z p l e R s m args below meth c y cc nL ret κ Q nc ns G L pc (.ref x :: st) := z_get 16 hM.1 rfl iw_X8 (by decide) (by rw [hy]; exact kw_738) rfl hd kk
theorem z_mp16 {v : Int32} (hM : RM κ G x ad sc ar) (hy : y.cls = RX8) (hd : decode cc pc = .ok (.putfield 86, 3)) (kk : ∀ G1 : zH, RM κ G1 x ad (sup sc 16 v) ar → zF 1 G G1 → Z p l e R s m args below meth c y cc nL ret κ Q nc ns G1 L (pc + 3) st) : Z p l e R s m args below meth c y cc nL ret κ Q nc ns G L pc (.int v :: .ref x :: st) := z_put 16 hM.1 rfl iw_X8 tyX8 tyX8_ok nmX8 (by decide) (by rw [hy]; exact kw_738) rfl rfl rfl rfl (Nat.le_of_ble_eq_true rfl) hd (kk _ (hM.sc_up (fsM_s16 ad sc v)) (zF.up hM.1 rfl))
theorem z_mg17 (hM : RM κ G x ad sc ar) (hy : y.cls = RX8) (hd : decode cc pc = .ok (.getfield 104, 3)) (kk : Z p l e R s m args below meth c y cc nL ret κ Q nc ns G L (pc + 3) (.int (sc 17) :: st)) : Z p l e R s m args below meth c y cc nL ret κ Q nc ns G L pc (.ref x :: st) := z_get 17 hM.1 rfl iw_X8 (by decide) (by rw [hy]; exact kw_739) rfl hd kk
theorem z_mp17 {v : Int32} (hM : RM κ G x ad sc ar) (hy : y.cls = RX8) (hd : decode cc pc = .ok (.putfield 104, 3)) (kk : ∀ G1 : zH, RM κ G1 x ad (sup sc 17 v) ar → zF 1 G G1 → Z p l e R s m args below meth c y cc nL ret κ Q nc ns G1 L (pc + 3) st) : Z p l e R s m args below meth c y cc nL ret κ Q nc ns G L pc (.int v :: .ref x :: st) := z_put 17 hM.1 rfl iw_X8 tyX8 tyX8_ok nmX8 (by decide) (by rw [hy]; exact kw_739) rfl rfl rfl rfl (Nat.le_of_ble_eq_true rfl) hd (kk _ (hM.sc_up (fsM_s17 ad sc v)) (zF.up hM.1 rfl))
theorem z_mg18 (hM : RM κ G x ad sc ar) (hy : y.cls = RX8) (hd : decode cc pc = .ok (.getfield 107, 3)) (kk : Z p l e R s m args below meth c y cc nL ret κ Q nc ns G L (pc + 3) (.int (sc 18) :: st)) : Z p l e R s m args below meth c y cc nL ret κ Q nc ns G L pc (.ref x :: st) := z_get 18 hM.1 rfl iw_X8 (by decide) (by rw [hy]; exact kw_740) rfl hd kk
theorem z_mp18 {v : Int32} (hM : RM κ G x ad sc ar) (hy : y.cls = RX8) (hd : decode cc pc = .ok (.putfield 107, 3)) (kk : ∀ G1 : zH, RM κ G1 x ad (sup sc 18 v) ar → zF 1 G G1 → Z p l e R s m args below meth c y cc nL ret κ Q nc ns G1 L (pc + 3) st) : Z p l e R s m args below meth c y cc nL ret κ Q nc ns G L pc (.int v :: .ref x :: st) := z_put 18 hM.1 rfl iw_X8 tyX8 tyX8_ok nmX8 (by decide) (by rw [hy]; exact kw_740) rfl rfl rfl rfl (Nat.le_of_ble_eq_true rfl) hd (kk _ (hM.sc_up (fsM_s18 ad sc v)) (zF.up hM.1 rfl))
theorem z_mg19 (hM : RM κ G x ad sc ar) (hy : y.cls = RX8) (hd : decode cc pc = .ok (.getfield 89, 3)) (kk : Z p l e R s m args below meth c y cc nL ret κ Q nc ns G L (pc + 3) (.int (sc 19) :: st)) : Z p l e R s m args below meth c y cc nL ret κ Q nc ns G L pc (.ref x :: st) := z_get 19 hM.1 rfl iw_X8 (by decide) (by rw [hy]; exact kw_741) rfl hd kk
theorem z_mp19 {v : Int32} (hM : RM κ G x ad sc ar) (hy : y.cls = RX8) (hd : decode cc pc = .ok (.putfield 89, 3)) (kk : ∀ G1 : zH, RM κ G1 x ad (sup sc 19 v) ar → zF 1 G G1 → Z p l e R s m args below meth c y cc nL ret κ Q nc ns G1 L (pc + 3) st) : Z p l e R s m args below meth c y cc nL ret κ Q nc ns G L pc (.int v :: .ref x :: st) := z_put 19 hM.1 rfl iw_X8 tyX8 tyX8_ok nmX8 (by decide) (by rw [hy]; exact kw_741) rfl rfl rfl rfl (Nat.le_of_ble_eq_true rfl) hd (kk _ (hM.sc_up (fsM_s19 ad sc v)) (zF.up hM.1 rfl))
theorem z_mg20 (hM : RM κ G x ad sc ar) (hy : y.cls = RX8) (hd : decode cc pc = .ok (.getfield 55, 3)) (kk : Z p l e R s m args below meth c y cc nL ret κ Q nc ns G L (pc + 3) (.ref (ad 20) :: st)) : Z p l e R s m args below meth c y cc nL ret κ Q nc ns G L pc (.ref x :: st) := z_get 20 hM.1 rfl iw_X8 (by decide) (by rw [hy]; exact kw_742) rfl hd kk
theorem z_mg21 (hM : RM κ G x ad sc ar) (hy : y.cls = RX8) (hd : decode cc pc = .ok (.getfield 58, 3)) (kk : Z p l e R s m args below meth c y cc nL ret κ Q nc ns G L (pc + 3) (.ref (ad 21) :: st)) : Z p l e R s m args below meth c y cc nL ret κ Q nc ns G L pc (.ref x :: st) := z_get 21 hM.1 rfl iw_X8 (by decide) (by rw [hy]; exact kw_743) rfl hd kk
theorem z_mg22 (hM : RM κ G x ad sc ar) (hy : y.cls = RX8) (hd : decode cc pc = .ok (.getfield 61, 3)) (kk : Z p l e R s m args below meth c y cc nL ret κ Q nc ns G L (pc + 3) (.ref (ad 22) :: st)) : Z p l e R s m args below meth c y cc nL ret κ Q nc ns G L pc (.ref x :: st) := z_get 22 hM.1 rfl iw_X8 (by decide) (by rw [hy]; exact kw_744) rfl hd kk
theorem z_mg23 (hM : RM κ G x ad sc ar) (hy : y.cls = RX8) (hd : decode cc pc = .ok (.getfield 64, 3)) (kk : Z p l e R s m args below meth c y cc nL ret κ Q nc ns G L (pc + 3) (.ref (ad 23) :: st)) : Z p l e R s m args below meth c y cc nL ret κ Q nc ns G L pc (.ref x :: st) := z_get 23 hM.1 rfl iw_X8 (by decide) (by rw [hy]; exact kw_745) rfl hd kk
theorem z_mg24 (hM : RM κ G x ad sc ar) (hy : y.cls = RX8) (hd : decode cc pc = .ok (.getfield 67, 3)) (kk : Z p l e R s m args below meth c y cc nL ret κ Q nc ns G L (pc + 3) (.ref (ad 24) :: st)) : Z p l e R s m args below meth c y cc nL ret κ Q nc ns G L pc (.ref x :: st) := z_get 24 hM.1 rfl iw_X8 (by decide) (by rw [hy]; exact kw_746) rfl hd kk
theorem z_mg25 (hM : RM κ G x ad sc ar) (hy : y.cls = RX8) (hd : decode cc pc = .ok (.getfield 117, 3)) (kk : Z p l e R s m args below meth c y cc nL ret κ Q nc ns G L (pc + 3) (.int (sc 25) :: st)) : Z p l e R s m args below meth c y cc nL ret κ Q nc ns G L pc (.ref x :: st) := z_get 25 hM.1 rfl iw_X8 (by decide) (by rw [hy]; exact kw_747) rfl hd kk
theorem z_mp25 {v : Int32} (hM : RM κ G x ad sc ar) (hy : y.cls = RX8) (hd : decode cc pc = .ok (.putfield 117, 3)) (kk : ∀ G1 : zH, RM κ G1 x ad (sup sc 25 v) ar → zF 1 G G1 → Z p l e R s m args below meth c y cc nL ret κ Q nc ns G1 L (pc + 3) st) : Z p l e R s m args below meth c y cc nL ret κ Q nc ns G L pc (.int v :: .ref x :: st) := z_put 25 hM.1 rfl iw_X8 tyX8 tyX8_ok nmX8 (by decide) (by rw [hy]; exact kw_747) rfl rfl rfl rfl (Nat.le_of_ble_eq_true rfl) hd (kk _ (hM.sc_up (fsM_s25 ad sc v)) (zF.up hM.1 rfl))
theorem z_mg26 (hM : RM κ G x ad sc ar) (hy : y.cls = RX8) (hd : decode cc pc = .ok (.getfield 120, 3)) (kk : Z p l e R s m args below meth c y cc nL ret κ Q nc ns G L (pc + 3) (.int (sc 26) :: st)) : Z p l e R s m args below meth c y cc nL ret κ Q nc ns G L pc (.ref x :: st) := z_get 26 hM.1 rfl iw_X8 (by decide) (by rw [hy]; exact kw_748) rfl hd kk
theorem z_mp26 {v : Int32} (hM : RM κ G x ad sc ar) (hy : y.cls = RX8) (hd : decode cc pc = .ok (.putfield 120, 3)) (kk : ∀ G1 : zH, RM κ G1 x ad (sup sc 26 v) ar → zF 1 G G1 → Z p l e R s m args below meth c y cc nL ret κ Q nc ns G1 L (pc + 3) st) : Z p l e R s m args below meth c y cc nL ret κ Q nc ns G L pc (.int v :: .ref x :: st) := z_put 26 hM.1 rfl iw_X8 tyX8 tyX8_ok nmX8 (by decide) (by rw [hy]; exact kw_748) rfl rfl rfl rfl (Nat.le_of_ble_eq_true rfl) hd (kk _ (hM.sc_up (fsM_s26 ad sc v)) (zF.up hM.1 rfl))
theorem z_mg27 (hM : RM κ G x ad sc ar) (hy : y.cls = RX8) (hd : decode cc pc = .ok (.getfield 147, 3)) (kk : Z p l e R s m args below meth c y cc nL ret κ Q nc ns G L (pc + 3) (.int (sc 27) :: st)) : Z p l e R s m args below meth c y cc nL ret κ Q nc ns G L pc (.ref x :: st) := z_get 27 hM.1 rfl iw_X8 (by decide) (by rw [hy]; exact kw_749) rfl hd kk
theorem z_mp27 {v : Int32} (hM : RM κ G x ad sc ar) (hy : y.cls = RX8) (hd : decode cc pc = .ok (.putfield 147, 3)) (kk : ∀ G1 : zH, RM κ G1 x ad (sup sc 27 v) ar → zF 1 G G1 → Z p l e R s m args below meth c y cc nL ret κ Q nc ns G1 L (pc + 3) st) : Z p l e R s m args below meth c y cc nL ret κ Q nc ns G L pc (.int v :: .ref x :: st) := z_put 27 hM.1 rfl iw_X8 tyX8 tyX8_ok nmX8 (by decide) (by rw [hy]; exact kw_749) rfl rfl rfl rfl (Nat.le_of_ble_eq_true rfl) hd (kk _ (hM.sc_up (fsM_s27 ad sc v)) (zF.up hM.1 rfl))
theorem z_mg28 (hM : RM κ G x ad sc ar) (hy : y.cls = RX8) (hd : decode cc pc = .ok (.getfield 153, 3)) (kk : Z p l e R s m args below meth c y cc nL ret κ Q nc ns G L (pc + 3) (.int (sc 28) :: st)) : Z p l e R s m args below meth c y cc nL ret κ Q nc ns G L pc (.ref x :: st) := z_get 28 hM.1 rfl iw_X8 (by decide) (by rw [hy]; exact kw_750) rfl hd kk
theorem z_mp28 {v : Int32} (hM : RM κ G x ad sc ar) (hy : y.cls = RX8) (hd : decode cc pc = .ok (.putfield 153, 3)) (kk : ∀ G1 : zH, RM κ G1 x ad (sup sc 28 v) ar → zF 1 G G1 → Z p l e R s m args below meth c y cc nL ret κ Q nc ns G1 L (pc + 3) st) : Z p l e R s m args below meth c y cc nL ret κ Q nc ns G L pc (.int v :: .ref x :: st) := z_put 28 hM.1 rfl iw_X8 tyX8 tyX8_ok nmX8 (by decide) (by rw [hy]; exact kw_750) rfl rfl rfl rfl (Nat.le_of_ble_eq_true rfl) hd (kk _ (hM.sc_up (fsM_s28 ad sc v)) (zF.up hM.1 rfl))
theorem z_mg29 (hM : RM κ G x ad sc ar) (hy : y.cls = RX8) (hd : decode cc pc = .ok (.getfield 70, 3)) (kk : Z p l e R s m args below meth c y cc nL ret κ Q nc ns G L (pc + 3) (.ref (ad 29) :: st)) : Z p l e R s m args below meth c y cc nL ret κ Q nc ns G L pc (.ref x :: st) := z_get 29 hM.1 rfl iw_X8 (by decide) (by rw [hy]; exact kw_751) rfl hd kk
theorem z_mg30 (hM : RM κ G x ad sc ar) (hy : y.cls = RX8) (hd : decode cc pc = .ok (.getfield 73, 3)) (kk : Z p l e R s m args below meth c y cc nL ret κ Q nc ns G L (pc + 3) (.ref (ad 30) :: st)) : Z p l e R s m args below meth c y cc nL ret κ Q nc ns G L pc (.ref x :: st) := z_get 30 hM.1 rfl iw_X8 (by decide) (by rw [hy]; exact kw_752) rfl hd kk
theorem z_mg31 (hM : RM κ G x ad sc ar) (hy : y.cls = RX8) (hd : decode cc pc = .ok (.getfield 76, 3)) (kk : Z p l e R s m args below meth c y cc nL ret κ Q nc ns G L (pc + 3) (.ref (ad 31) :: st)) : Z p l e R s m args below meth c y cc nL ret κ Q nc ns G L pc (.ref x :: st) := z_get 31 hM.1 rfl iw_X8 (by decide) (by rw [hy]; exact kw_753) rfl hd kk
theorem z_mg32 (hM : RM κ G x ad sc ar) (hy : y.cls = RX8) (hd : decode cc pc = .ok (.getfield 162, 3)) (kk : Z p l e R s m args below meth c y cc nL ret κ Q nc ns G L (pc + 3) (.int (sc 32) :: st)) : Z p l e R s m args below meth c y cc nL ret κ Q nc ns G L pc (.ref x :: st) := z_get 32 hM.1 rfl iw_X8 (by decide) (by rw [hy]; exact kw_754) rfl hd kk
theorem z_mp32 {v : Int32} (hM : RM κ G x ad sc ar) (hy : y.cls = RX8) (hd : decode cc pc = .ok (.putfield 162, 3)) (kk : ∀ G1 : zH, RM κ G1 x ad (sup sc 32 v) ar → zF 1 G G1 → Z p l e R s m args below meth c y cc nL ret κ Q nc ns G1 L (pc + 3) st) : Z p l e R s m args below meth c y cc nL ret κ Q nc ns G L pc (.int v :: .ref x :: st) := z_put 32 hM.1 rfl iw_X8 tyX8 tyX8_ok nmX8 (by decide) (by rw [hy]; exact kw_754) rfl rfl rfl rfl (Nat.le_of_ble_eq_true rfl) hd (kk _ (hM.sc_up (fsM_s32 ad sc v)) (zF.up hM.1 rfl))
theorem z_mg33 (hM : RM κ G x ad sc ar) (hy : y.cls = RX8) (hd : decode cc pc = .ok (.getfield 79, 3)) (kk : Z p l e R s m args below meth c y cc nL ret κ Q nc ns G L (pc + 3) (.ref (ad 33) :: st)) : Z p l e R s m args below meth c y cc nL ret κ Q nc ns G L pc (.ref x :: st) := z_get 33 hM.1 rfl iw_X8 (by decide) (by rw [hy]; exact kw_755) rfl hd kk
theorem z_mg34 (hM : RM κ G x ad sc ar) (hy : y.cls = RX8) (hd : decode cc pc = .ok (.getfield 177, 3)) (kk : Z p l e R s m args below meth c y cc nL ret κ Q nc ns G L (pc + 3) (.int (sc 34) :: st)) : Z p l e R s m args below meth c y cc nL ret κ Q nc ns G L pc (.ref x :: st) := z_get 34 hM.1 rfl iw_X8 (by decide) (by rw [hy]; exact kw_756) rfl hd kk
theorem z_mp34 {v : Int32} (hM : RM κ G x ad sc ar) (hy : y.cls = RX8) (hd : decode cc pc = .ok (.putfield 177, 3)) (kk : ∀ G1 : zH, RM κ G1 x ad (sup sc 34 v) ar → zF 1 G G1 → Z p l e R s m args below meth c y cc nL ret κ Q nc ns G1 L (pc + 3) st) : Z p l e R s m args below meth c y cc nL ret κ Q nc ns G L pc (.int v :: .ref x :: st) := z_put 34 hM.1 rfl iw_X8 tyX8 tyX8_ok nmX8 (by decide) (by rw [hy]; exact kw_756) rfl rfl rfl rfl (Nat.le_of_ble_eq_true rfl) hd (kk _ (hM.sc_up (fsM_s34 ad sc v)) (zF.up hM.1 rfl))
theorem z_mld {i : Int32} {j : Nat} (k n : Nat) (hM : RM κ G x ad sc ar) (hk : mlen k = n) (hn : 0 < n ∧ n < 2 ^ 31) (hi : i = nI j) (hj : j < n) (hd : decode cc pc = .ok (.iaload, 1)) (kk : Z p l e R s m args below meth c y cc nL ret κ Q nc ns G L (pc + 1) (.int (ar k j) :: st)) : Z p l e R s m args below meth c y cc nL ret κ Q nc ns G L pc (.int i :: .ref (ad k) :: st) := z_iald j (hM.2 k (by rw [hk]; exact hn.1)) hi (by rw [hk]; exact hj) (by rw [hk]; exact hn.2) hd kk
theorem z_mst {i v : Int32} {j : Nat} (k n : Nat) (hM : RM κ G x ad sc ar) (hk : mlen k = n) (hn : 0 < n ∧ n < 2 ^ 31) (hi : i = nI j) (hj : j < n) (hd : decode cc pc = .ok (.iastore, 1)) (kk : ∀ G1 : zH, RM κ G1 x ad sc (aup ar k j v) → zF 1 G G1 → Z p l e R s m args below meth c y cc nL ret κ Q nc ns G1 L (pc + 1) st) : Z p l e R s m args below meth c y cc nL ret κ Q nc ns G L pc (.int v :: .int i :: .ref (ad k) :: st) := z_iast j (hM.2 k (by rw [hk]; exact hn.1)) hi (by rw [hk]; exact hj) (by rw [hk]; exact hn.2) hd (kk _ (hM.ar_up k j v (by rw [hk]; exact hn.1)) (zF.up (hM.2 k (by rw [hk]; exact hn.1)) rfl))
theorem z_dia {P : Int32 → Prop} {pcj : Nat} {st0 : List Value} (kj : ∀ v : Int32, P v → Z p l e R s m args below meth c y cc nL ret κ Q nc ns G L pcj (.int v :: st)) (kd : (∀ v : Int32, P v → Z p l e R s m args below meth c y cc nL ret κ Q nc ns G L pcj (.int v :: st)) → Z p l e R s m args below meth c y cc nL ret κ Q nc ns G L pc st0) : Z p l e R s m args below meth c y cc nL ret κ Q nc ns G L pc st0 := kd kj
end ZR3
end
section
abbrev rX8_isIn : Room := rmK 0 0 0 0
set_option maxRecDepth 100000 in
set_option maxHeartbeats 400000 in
/-- isIn -/
theorem c_mIsIn (l : Launch) {κ : zK} {G : zH} (v a b : Int32)  : Ct l yX8_isIn cX8_isIn 3 (some FieldType.boolean) rX8_isIn κ [.int v, .int a, .int b] G (zP (zb (a ≤ v ∧ v ≤ b)) G) := by
  refine Ct.of (by decide +kernel) (fun v hv => by
    simp only [List.mem_cons, List.mem_nil_iff, or_false, List.not_mem_nil] at hv
    rcases hv with rfl | rfl | rfl <;> rfl) (Nat.le_of_ble_eq_true rfl) ?_
  intro p e s m args below meth cC
  refine z_L (L' := [some (.int v), some (.int a), some (.int b)]) rfl ?_
  generalize hQx : MQ below (zQc κ _) args s _ _ (zA κ) = Qx
  refine z_il0 (pc := 0) dX8_isIn_0 ?_
  refine z_il1 (pc := 1) dX8_isIn_1 ?_
  refine z_icmp_lt (pc := 2) 14 dX8_isIn_2 rfl (fun c2 => ?_) (fun c2 => ?_)
  · refine z_iconst (pc := 14) (0) (by decide) dX8_isIn_14 ?_
    rw [← hQx]
    refine z_zret (pc := 15) rfl rfl (by decide) dX8_isIn_15 (⟨_, rfl, (zb_f (by simp only [i_lt, i_le, i_0] at *; omega)).symm, rfl⟩)
  · refine z_il0 (pc := 5) dX8_isIn_5 ?_
    refine z_il2 (pc := 6) dX8_isIn_6 ?_
    refine z_icmp_gt (pc := 7) 14 dX8_isIn_7 rfl (fun c7 => ?_) (fun c7 => ?_)
    · refine z_iconst (pc := 14) (0) (by decide) dX8_isIn_14 ?_
      rw [← hQx]
      refine z_zret (pc := 15) rfl rfl (by decide) dX8_isIn_15 (⟨_, rfl, (zb_f (by simp only [i_lt, i_le, i_0] at *; omega)).symm, rfl⟩)
    · refine z_iconst (pc := 10) (1) (by decide) dX8_isIn_10 ?_
      refine z_goto (pc := 11) 15 dX8_isIn_11 rfl ?_
      rw [← hQx]
      refine z_zret (pc := 15) rfl rfl (by decide) dX8_isIn_15 (⟨_, rfl, (zb_t (by simp only [i_lt, i_le, i_0] at *; omega)).symm, rfl⟩)
abbrev rX8_isSheet : Room := rmK 0 0 0 0
set_option maxRecDepth 100000 in
set_option maxHeartbeats 400000 in
theorem c_mIsSheet (l : Launch) {κ : zK} {G : zH} {x : Nat} {ad : Nat → Nat} {sc : Nat → Int32} {ar : Nat → Nat → Int32} (v : Int32) (hM : RM κ G x ad sc ar) : Ct l yX8_isSheet cX8_isSheet 2 (some FieldType.boolean) rX8_isSheet κ [.ref x, .int v] G (zP (zb (0 ≤ v ∧ v < sc 16)) G) := by
  refine Ct.of (by decide +kernel) (fun v hv => by
    simp only [List.mem_cons, List.mem_nil_iff, or_false, List.not_mem_nil] at hv
    rcases hv with rfl | rfl <;> rfl) (Nat.le_of_ble_eq_true rfl) ?_
  intro p e s m args below meth cC
  refine z_L (L' := [some (.ref x), some (.int v)]) rfl ?_
  generalize hQx : MQ below (zQc κ _) args s _ _ (zA κ) = Qx
  refine z_il1 (pc := 0) dX8_isSheet_0 ?_
  refine z_if_lt (pc := 1) 16 dX8_isSheet_1 rfl (fun c1 => ?_) (fun c1 => ?_)
  · refine z_iconst (pc := 16) (0) (by decide) dX8_isSheet_16 ?_
    rw [← hQx]
    refine z_zret (pc := 17) rfl rfl (by decide) dX8_isSheet_17 (⟨_, rfl, (zb_f (by simp only [i_lt, i_le, i_0] at *; omega)).symm, rfl⟩)
  · refine z_il1 (pc := 4) dX8_isSheet_4 ?_
    refine z_al0 (pc := 5) dX8_isSheet_5 ?_
    refine z_mg16 (pc := 6) hM rfl dX8_isSheet_6 ?_
    refine z_icmp_ge (pc := 9) 16 dX8_isSheet_9 rfl (fun c9 => ?_) (fun c9 => ?_)
    · refine z_iconst (pc := 16) (0) (by decide) dX8_isSheet_16 ?_
      rw [← hQx]
      refine z_zret (pc := 17) rfl rfl (by decide) dX8_isSheet_17 (⟨_, rfl, (zb_f (by simp only [i_lt, i_le, i_0] at *; omega)).symm, rfl⟩)
    · refine z_iconst (pc := 12) (1) (by decide) dX8_isSheet_12 ?_
      refine z_goto (pc := 13) 17 dX8_isSheet_13 rfl ?_
      rw [← hQx]
      refine z_zret (pc := 17) rfl rfl (by decide) dX8_isSheet_17 (⟨_, rfl, (zb_t (by simp only [i_lt, i_le, i_0] at *; omega)).symm, rfl⟩)
abbrev rX8_isDay : Room := rmK 1 0 0 22
set_option maxRecDepth 100000 in
set_option maxHeartbeats 400000 in
theorem c_mIsDay (l : Launch) {κ : zK} {G : zH} {x : Nat} {ad : Nat → Nat} {sc : Nat → Int32} {ar : Nat → Nat → Int32} (v : Int32) (hM : RM κ G x ad sc ar) : Ct l yX8_isDay cX8_isDay 2 (some FieldType.boolean) rX8_isDay κ [.ref x, .int v] G (zP (zb (0 ≤ v ∧ v ≤ sc 19)) G) := by
  refine Ct.of (by decide +kernel) (fun v hv => by
    simp only [List.mem_cons, List.mem_nil_iff, or_false, List.not_mem_nil] at hv
    rcases hv with rfl | rfl <;> rfl) (Nat.le_of_ble_eq_true rfl) ?_
  intro p e s m args below meth cC
  refine z_L (L' := [some (.ref x), some (.int v)]) rfl ?_
  generalize hQx : MQ below (zQc κ _) args s _ _ (zA κ) = Qx
  refine z_il1 (pc := 0) dX8_isDay_0 ?_
  refine z_iconst (pc := 1) (0) (by decide) dX8_isDay_1 ?_
  refine z_al0 (pc := 2) dX8_isDay_2 ?_
  refine z_mg19 (pc := 3) hM rfl dX8_isDay_3 ?_
  refine z_callSr (pc := 6) (c_mIsIn l v 0 (sc 19)) kw_836 zc_X8_isIn (by decide) (by decide) rfl (Nat.le_of_ble_eq_true rfl) dX8_isDay_6 ?_
  rw [← hQx]
  refine z_zret (pc := 9) rfl zb_n (by decide) dX8_isDay_9 (⟨_, rfl, rfl, rfl⟩)
abbrev rX8_thrown : Room := rmK 0 0 0 0
set_option maxRecDepth 100000 in
set_option maxHeartbeats 400000 in
theorem c_mThrown (l : Launch) {κ : zK} {G : zH} {x : Nat} {ad : Nat → Nat} {sc : Nat → Int32} {ar : Nat → Nat → Int32} (hM : RM κ G x ad sc ar) : Ct l yX8_thrown cX8_thrown 1 (some FieldType.int) rX8_thrown κ [.ref x] G (zP (sc 0) G) := by
  refine Ct.of (by decide +kernel) (fun v hv => by
    simp only [List.mem_cons, List.mem_nil_iff, or_false, List.not_mem_nil] at hv
    rcases hv with rfl <;> rfl) (Nat.le_of_ble_eq_true rfl) ?_
  intro p e s m args below meth cC
  refine z_L (L' := [some (.ref x)]) rfl ?_
  generalize hQx : MQ below (zQc κ _) args s _ _ (zA κ) = Qx
  refine z_al0 (pc := 0) dX8_thrown_0 ?_
  refine z_mg0 (pc := 1) hM rfl dX8_thrown_1 ?_
  rw [← hQx]
  refine z_iret (pc := 4) rfl (by decide) dX8_thrown_4 (⟨_, rfl, rfl, rfl⟩)
end
section
/-! the pure words of the reference -/
def iabs (x : Int32) : Int32 := if 0 ≤ x then x else 0 - x
def imin (a b : Int32) : Int32 := if b < a then b else a
def imax (a b : Int32) : Int32 := if a < b then b else a
/-- what a column of two costs, and one alone -/
def co2 (pr : Nat → Int32) (p b p2 b2 k : Int32) : Int32 := if p = -1 ∨ p2 = -1 then 0 else imin (pr 1) (pr 0 * iabs (p + k - p2)) + pr 2 * iabs (b - b2)
def co1 (pr : Nat → Int32) (p : Int32) : Int32 := if p = -1 then 0 else pr 3
def dpr0 (c1 : Nat → Int32) : Nat → Int32
  | 0 => 0
  | j + 1 => dpr0 c1 j + c1 j
def dpr (prev : Nat → Int32) (a : Int32) (c2 c1 : Nat → Int32) : Nat → Int32
  | 0 => prev 0 + a
  | j + 1 => imin (imin (prev j + c2 j) (prev (j + 1) + a)) (dpr prev a c2 c1 j + c1 j)
/-- the least sum of the first i notes and the first j, with a key -/
def dp (pr tp tb up ub : Nat → Int32) (k : Int32) : Nat → Nat → Int32
  | 0 => dpr0 (fun j => co1 pr (up j))
  | i + 1 => dpr (dp pr tp tb up ub k i) (co1 pr (tp i)) (fun j => co2 pr (tp i) (tb i) (up j) (ub j) k) (fun j => co1 pr (up j))
/-- a note as known on a day, out of the first c corrections -/
def kn (ar : Nat → Nat → Int32) (s i : Nat) (q : Int32) (b : Bool) : Nat → Int32
  | 0 => if b = true then ar 7 (24 * s + i) else ar 6 (24 * s + i)
  | k + 1 => if ar 8 k = nI s ∧ ar 9 k = nI i ∧ ar 12 k ≤ q then (if b = true then ar 11 k else ar 10 k) else kn ar s i q b k
theorem kn_congr {ar ar2 : Nat → Nat → Int32} (h : ∀ k, k < 20 → ar2 k = ar k) (s i : Nat) (q : Int32) (b : Bool) : ∀ c, kn ar2 s i q b c = kn ar s i q b c
  | 0 => by unfold kn; rw [h 7 (by omega), h 6 (by omega)]
  | c + 1 => by unfold kn; rw [kn_congr h s i q b c, h 8 (by omega), h 9 (by omega), h 10 (by omega), h 11 (by omega), h 12 (by omega)]
abbrev rX8_isNote : Room := rmK 1 0 0 22
set_option maxRecDepth 100000 in
set_option maxHeartbeats 400000 in
theorem c_mIsNote (l : Launch) {κ : zK} {G : zH} (v b : Int32)  : Ct l yX8_isNote cX8_isNote 2 (some FieldType.boolean) rX8_isNote κ [.int v, .int b] G (zP (zb (v = -1 ∨ (0 ≤ v ∧ v ≤ 60) ∧ 1 ≤ b ∧ b ≤ 16)) G) := by
  refine Ct.of (by decide +kernel) (fun v hv => by
    simp only [List.mem_cons, List.mem_nil_iff, or_false, List.not_mem_nil] at hv
    rcases hv with rfl | rfl <;> rfl) (Nat.le_of_ble_eq_true rfl) ?_
  intro p e s m args below meth cC
  refine z_L (L' := [some (.int v), some (.int b)]) rfl ?_
  generalize hQx : MQ below (zQc κ _) args s _ _ (zA κ) = Qx
  refine z_il0 (pc := 0) dX8_isNote_0 ?_
  refine z_iconst (pc := 1) (-1) (by decide) dX8_isNote_1 ?_
  refine z_icmp_eq (pc := 2) 25 dX8_isNote_2 rfl (fun c2 => ?_) (fun c2 => ?_)
  · refine z_iconst (pc := 25) (1) (by decide) dX8_isNote_25 ?_
    refine z_goto (pc := 26) 30 dX8_isNote_26 rfl ?_
    rw [← hQx]
    refine z_zret (pc := 30) rfl rfl (by decide) dX8_isNote_30 (⟨_, rfl, (zb_t (by simp only [i_lt, i_le, i_eq, i_0, i_m1, i_lit, Nat.reduceLT, Nat.reducePow, ne_eq] at *; omega)).symm, rfl⟩)
  · refine z_il0 (pc := 5) dX8_isNote_5 ?_
    refine z_iconst (pc := 6) (0) (by decide) dX8_isNote_6 ?_
    refine z_bipush (pc := 7) (60) (by decide) dX8_isNote_7 ?_
    refine z_callSr (pc := 9) (c_mIsIn l v 0 60) kw_836 zc_X8_isIn (by decide) (by decide) rfl (Nat.le_of_ble_eq_true rfl) dX8_isNote_9 ?_
    refine z_ifz_eq (pc := 12) 29 dX8_isNote_12 rfl (fun c12 => ?_) (fun c12 => ?_)
    · refine z_iconst (pc := 29) (0) (by decide) dX8_isNote_29 ?_
      rw [← hQx]
      refine z_zret (pc := 30) rfl rfl (by decide) dX8_isNote_30 (⟨_, rfl, (zb_f (by simp only [i_lt, i_le, i_eq, i_0, i_m1, i_lit, Nat.reduceLT, Nat.reducePow, ne_eq] at *; omega)).symm, rfl⟩)
    · refine z_il1 (pc := 15) dX8_isNote_15 ?_
      refine z_iconst (pc := 16) (1) (by decide) dX8_isNote_16 ?_
      refine z_bipush (pc := 17) (16) (by decide) dX8_isNote_17 ?_
      refine z_callSr (pc := 19) (c_mIsIn l b 1 16) kw_836 zc_X8_isIn (by decide) (by decide) rfl (Nat.le_of_ble_eq_true rfl) dX8_isNote_19 ?_
      refine z_ifz_eq (pc := 22) 29 dX8_isNote_22 rfl (fun c22 => ?_) (fun c22 => ?_)
      · refine z_iconst (pc := 29) (0) (by decide) dX8_isNote_29 ?_
        rw [← hQx]
        refine z_zret (pc := 30) rfl rfl (by decide) dX8_isNote_30 (⟨_, rfl, (zb_f (by simp only [i_lt, i_le, i_eq, i_0, i_m1, i_lit, Nat.reduceLT, Nat.reducePow, ne_eq] at *; omega)).symm, rfl⟩)
      · refine z_iconst (pc := 25) (1) (by decide) dX8_isNote_25 ?_
        refine z_goto (pc := 26) 30 dX8_isNote_26 rfl ?_
        rw [← hQx]
        refine z_zret (pc := 30) rfl rfl (by decide) dX8_isNote_30 (⟨_, rfl, (zb_t (by simp only [i_lt, i_le, i_eq, i_0, i_m1, i_lit, Nat.reduceLT, Nat.reducePow, ne_eq] at *; omega)).symm, rfl⟩)
abbrev rX8_isForged : Room := rmK 0 0 0 0
set_option maxRecDepth 100000 in
set_option maxHeartbeats 400000 in
theorem c_mIsForged (l : Launch) {κ : zK} {G : zH} {x : Nat} {ad : Nat → Nat} {sc : Nat → Int32} {ar : Nat → Nat → Int32} (j : Nat) (q : Int32) (hM : RM κ G x ad sc ar) (hj : j < 20) : Ct l yX8_isForged cX8_isForged 3 (some FieldType.boolean) rX8_isForged κ [.ref x, .int (nI j), .int q] G (zP (zb (ar 5 j ≠ -1 ∧ ar 5 j ≤ q)) G) := by
  refine Ct.of (by decide +kernel) (fun v hv => by
    simp only [List.mem_cons, List.mem_nil_iff, or_false, List.not_mem_nil] at hv
    rcases hv with rfl | rfl | rfl <;> rfl) (Nat.le_of_ble_eq_true rfl) ?_
  intro p e s m args below meth cC
  refine z_L (L' := [some (.ref x), some (.int (nI j)), some (.int q)]) rfl ?_
  generalize hQx : MQ below (zQc κ _) args s _ _ (zA κ) = Qx
  refine z_al0 (pc := 0) dX8_isForged_0 ?_
  refine z_mg5 (pc := 1) hM rfl dX8_isForged_1 ?_
  refine z_il1 (pc := 4) dX8_isForged_4 ?_
  refine z_mld (pc := 5) 5 20 hM rfl (by decide) rfl (by omega) dX8_isForged_5 ?_
  refine z_iconst (pc := 6) (-1) (by decide) dX8_isForged_6 ?_
  refine z_icmp_eq (pc := 7) 24 dX8_isForged_7 rfl (fun c7 => ?_) (fun c7 => ?_)
  · refine z_iconst (pc := 24) (0) (by decide) dX8_isForged_24 ?_
    rw [← hQx]
    refine z_zret (pc := 25) rfl rfl (by decide) dX8_isForged_25 (⟨_, rfl, (zb_f (by simp only [i_lt, i_le, i_eq, ne_eq] at *; omega)).symm, rfl⟩)
  · refine z_al0 (pc := 10) dX8_isForged_10 ?_
    refine z_mg5 (pc := 11) hM rfl dX8_isForged_11 ?_
    refine z_il1 (pc := 14) dX8_isForged_14 ?_
    refine z_mld (pc := 15) 5 20 hM rfl (by decide) rfl (by omega) dX8_isForged_15 ?_
    refine z_il2 (pc := 16) dX8_isForged_16 ?_
    refine z_icmp_gt (pc := 17) 24 dX8_isForged_17 rfl (fun c17 => ?_) (fun c17 => ?_)
    · refine z_iconst (pc := 24) (0) (by decide) dX8_isForged_24 ?_
      rw [← hQx]
      refine z_zret (pc := 25) rfl rfl (by decide) dX8_isForged_25 (⟨_, rfl, (zb_f (by simp only [i_lt, i_le, i_eq, ne_eq] at *; omega)).symm, rfl⟩)
    · refine z_iconst (pc := 20) (1) (by decide) dX8_isForged_20 ?_
      refine z_goto (pc := 21) 25 dX8_isForged_21 rfl ?_
      rw [← hQx]
      refine z_zret (pc := 25) rfl rfl (by decide) dX8_isForged_25 (⟨_, rfl, (zb_t (by simp only [i_lt, i_le, i_eq, ne_eq] at *; omega)).symm, rfl⟩)
abbrev rX8_alone : Room := rmK 0 0 0 0
set_option maxRecDepth 100000 in
set_option maxHeartbeats 400000 in
theorem c_mAlone (l : Launch) {κ : zK} {G : zH} {x : Nat} {ad : Nat → Nat} {sc : Nat → Int32} {ar : Nat → Nat → Int32} (v : Int32) (hM : RM κ G x ad sc ar) : Ct l yX8_alone cX8_alone 2 (some FieldType.int) rX8_alone κ [.ref x, .int v] G (zP (co1 (ar 15) v) G) := by
  refine Ct.of (by decide +kernel) (fun v hv => by
    simp only [List.mem_cons, List.mem_nil_iff, or_false, List.not_mem_nil] at hv
    rcases hv with rfl | rfl <;> rfl) (Nat.le_of_ble_eq_true rfl) ?_
  intro p e s m args below meth cC
  refine z_L (L' := [some (.ref x), some (.int v)]) rfl ?_
  generalize hQx : MQ below (zQc κ _) args s _ _ (zA κ) = Qx
  refine z_il1 (pc := 0) dX8_alone_0 ?_
  refine z_iconst (pc := 1) (-1) (by decide) dX8_alone_1 ?_
  refine z_icmp_ne (pc := 2) 9 dX8_alone_2 rfl (fun c2 => ?_) (fun c2 => ?_)
  · refine z_al0 (pc := 9) dX8_alone_9 ?_
    refine z_mg15 (pc := 10) hM rfl dX8_alone_10 ?_
    refine z_iconst (pc := 13) (3) (by decide) dX8_alone_13 ?_
    refine z_mld (pc := 14) 15 5 hM rfl (by decide) (show (3 : Int32) = nI 3 from rfl) (by decide) dX8_alone_14 ?_
    rw [← hQx]
    refine z_iret (pc := 15) rfl (by decide) dX8_alone_15 (⟨_, rfl, by simp_all [co1], rfl⟩)
  · refine z_iconst (pc := 5) (0) (by decide) dX8_alone_5 ?_
    refine z_goto (pc := 6) 15 dX8_alone_6 rfl ?_
    rw [← hQx]
    refine z_iret (pc := 15) rfl (by decide) dX8_alone_15 (⟨_, rfl, by simp_all [co1], rfl⟩)
abbrev rX8_ofTwo : Room := rmK 1 0 0 21
set_option maxRecDepth 100000 in
set_option maxHeartbeats 400000 in
theorem c_mOfTwo (l : Launch) {κ : zK} {G : zH} {x : Nat} {ad : Nat → Nat} {sc : Nat → Int32} {ar : Nat → Nat → Int32} (i j : Nat) (key : Int32) (hM : RM κ G x ad sc ar) (hi : i < 24) (hj : j < 24) : Ct l yX8_ofTwo cX8_ofTwo 4 (some FieldType.int) rX8_ofTwo κ [.ref x, .int (nI i), .int (nI j), .int key] G (zP (co2 (ar 15) (ar 20 i) (ar 21 i) (ar 22 j) (ar 23 j) key) G) := by
  refine Ct.of (by decide +kernel) (fun v hv => by
    simp only [List.mem_cons, List.mem_nil_iff, or_false, List.not_mem_nil] at hv
    rcases hv with rfl | rfl | rfl | rfl <;> rfl) (Nat.le_of_ble_eq_true rfl) ?_
  intro p e s m args below meth cC
  refine z_L (L' := [some (.ref x), some (.int (nI i)), some (.int (nI j)), some (.int key)]) rfl ?_
  generalize hQx : MQ below (zQc κ _) args s _ _ (zA κ) = Qx
  refine z_al0 (pc := 0) dX8_ofTwo_0 ?_
  refine z_mg20 (pc := 1) hM rfl dX8_ofTwo_1 ?_
  refine z_il1 (pc := 4) dX8_ofTwo_4 ?_
  refine z_mld (pc := 5) 20 24 hM rfl (by decide) rfl (by omega) dX8_ofTwo_5 ?_
  refine z_iconst (pc := 6) (-1) (by decide) dX8_ofTwo_6 ?_
  refine z_icmp_eq (pc := 7) 20 dX8_ofTwo_7 rfl (fun c7 => ?_) (fun c7 => ?_)
  · refine z_iconst (pc := 20) (0) (by decide) dX8_ofTwo_20 ?_
    rw [← hQx]
    refine z_iret (pc := 21) rfl (by decide) dX8_ofTwo_21 (⟨_, rfl, by simp_all [co2, imin, iabs], rfl⟩)
  · refine z_al0 (pc := 10) dX8_ofTwo_10 ?_
    refine z_mg22 (pc := 11) hM rfl dX8_ofTwo_11 ?_
    refine z_il2 (pc := 14) dX8_ofTwo_14 ?_
    refine z_mld (pc := 15) 22 24 hM rfl (by decide) rfl (by omega) dX8_ofTwo_15 ?_
    refine z_iconst (pc := 16) (-1) (by decide) dX8_ofTwo_16 ?_
    refine z_icmp_ne (pc := 17) 22 dX8_ofTwo_17 rfl (fun c17 => ?_) (fun c17 => ?_)
    · refine z_al0 (pc := 22) dX8_ofTwo_22 ?_
      refine z_mg15 (pc := 23) hM rfl dX8_ofTwo_23 ?_
      refine z_iconst (pc := 26) (1) (by decide) dX8_ofTwo_26 ?_
      refine z_mld (pc := 27) 15 5 hM rfl (by decide) (show (1 : Int32) = nI 1 from rfl) (by omega) dX8_ofTwo_27 ?_
      refine z_al0 (pc := 28) dX8_ofTwo_28 ?_
      refine z_mg15 (pc := 29) hM rfl dX8_ofTwo_29 ?_
      refine z_iconst (pc := 32) (0) (by decide) dX8_ofTwo_32 ?_
      refine z_mld (pc := 33) 15 5 hM rfl (by decide) (show (0 : Int32) = nI 0 from rfl) (by omega) dX8_ofTwo_33 ?_
      refine z_al0 (pc := 34) dX8_ofTwo_34 ?_
      refine z_mg20 (pc := 35) hM rfl dX8_ofTwo_35 ?_
      refine z_il1 (pc := 38) dX8_ofTwo_38 ?_
      refine z_mld (pc := 39) 20 24 hM rfl (by decide) rfl (by omega) dX8_ofTwo_39 ?_
      refine z_il3 (pc := 40) dX8_ofTwo_40 ?_
      refine z_iadd (pc := 41) dX8_ofTwo_41 ?_
      refine z_al0 (pc := 42) dX8_ofTwo_42 ?_
      refine z_mg22 (pc := 43) hM rfl dX8_ofTwo_43 ?_
      refine z_il2 (pc := 46) dX8_ofTwo_46 ?_
      refine z_mld (pc := 47) 22 24 hM rfl (by decide) rfl (by omega) dX8_ofTwo_47 ?_
      refine z_isub (pc := 48) dX8_ofTwo_48 ?_
      refine z_mabs (pc := 49) kw_907 kw_908 kw_12 kw_909 (by decide) (Nat.le_of_ble_eq_true rfl) dX8_ofTwo_49 ?_
      refine z_imul (pc := 52) dX8_ofTwo_52 ?_
      refine z_mmin (pc := 53) kw_910 kw_280 kw_12 kw_281 (by decide) (Nat.le_of_ble_eq_true rfl) dX8_ofTwo_53 ?_
      refine z_al0 (pc := 56) dX8_ofTwo_56 ?_
      refine z_mg15 (pc := 57) hM rfl dX8_ofTwo_57 ?_
      refine z_iconst (pc := 60) (2) (by decide) dX8_ofTwo_60 ?_
      refine z_mld (pc := 61) 15 5 hM rfl (by decide) (show (2 : Int32) = nI 2 from rfl) (by omega) dX8_ofTwo_61 ?_
      refine z_al0 (pc := 62) dX8_ofTwo_62 ?_
      refine z_mg21 (pc := 63) hM rfl dX8_ofTwo_63 ?_
      refine z_il1 (pc := 66) dX8_ofTwo_66 ?_
      refine z_mld (pc := 67) 21 24 hM rfl (by decide) rfl (by omega) dX8_ofTwo_67 ?_
      refine z_al0 (pc := 68) dX8_ofTwo_68 ?_
      refine z_mg23 (pc := 69) hM rfl dX8_ofTwo_69 ?_
      refine z_il2 (pc := 72) dX8_ofTwo_72 ?_
      refine z_mld (pc := 73) 23 24 hM rfl (by decide) rfl (by omega) dX8_ofTwo_73 ?_
      refine z_isub (pc := 74) dX8_ofTwo_74 ?_
      refine z_mabs (pc := 75) kw_907 kw_908 kw_12 kw_909 (by decide) (Nat.le_of_ble_eq_true rfl) dX8_ofTwo_75 ?_
      refine z_imul (pc := 78) dX8_ofTwo_78 ?_
      refine z_iadd (pc := 79) dX8_ofTwo_79 ?_
      rw [← hQx]
      refine z_iret (pc := 80) rfl (by decide) dX8_ofTwo_80 (⟨_, rfl, by simp_all [co2, imin, iabs], rfl⟩)
    · refine z_iconst (pc := 20) (0) (by decide) dX8_ofTwo_20 ?_
      rw [← hQx]
      refine z_iret (pc := 21) rfl (by decide) dX8_ofTwo_21 (⟨_, rfl, by simp_all [co2, imin, iabs], rfl⟩)
abbrev rX8_known : Room := rmK 0 0 0 0
set_option maxRecDepth 100000 in
set_option maxHeartbeats 400000 in
theorem c_mKnown (l : Launch) {κ : zK} {G : zH} {x : Nat} {ad : Nat → Nat} {sc : Nat → Int32} {ar : Nat → Nat → Int32} (s0 i0 c0 : Nat) (q : Int32) (b : Bool) (hM : RM κ G x ad sc ar) (hs0 : s0 < 20) (hi0 : i0 < 24) (hc : sc 17 = nI c0) (hc2 : c0 ≤ 200) : Ct l yX8_known cX8_known 7 (some FieldType.int) rX8_known κ [.ref x, .int (nI s0), .int (nI i0), .int q, .int (zb (b = true))] G (zP (kn ar s0 i0 q b c0) G) := by
  refine Ct.of (by decide +kernel) (fun v hv => by
    simp only [List.mem_cons, List.mem_nil_iff, or_false, List.not_mem_nil] at hv
    rcases hv with rfl | rfl | rfl | rfl | rfl <;> rfl) (Nat.le_of_ble_eq_true rfl) ?_
  intro p e s m args below meth cC
  refine z_L (L' := [some (.ref x), some (.int (nI s0)), some (.int (nI i0)), some (.int q), some (.int (zb (b = true))), none, none]) rfl ?_
  generalize hQx : MQ below (zQc κ _) args s _ _ (zA κ) = Qx
  have hF : True := trivial
  have lp : ∀ (d k : Nat), k + d = c0 → Z p l e rX8_known s m args below meth cC yX8_known cX8_known 7 (some FieldType.int) κ Qx 0 0 G [some (.ref x), some (.int (nI s0)), some (.int (nI i0)), some (.int q), some (.int (zb (b = true))), some (.int (kn ar s0 i0 q b k)), some (.int (nI k))] 35 [] := by
    intro d
    induction d with
    | zero =>
      intro k hk
      refine z_il6 (pc := 35) dX8_known_35 ?_
      refine z_al0 (pc := 37) dX8_known_37 ?_
      refine z_mg17 (pc := 38) hM rfl dX8_known_38 ?_
      rw [hc]
      refine z_icmp_ge (pc := 41) 107 dX8_known_41 rfl (fun c41 => ?_) (fun c41 => absurd (by rw [show k = c0 by omega]; exact Int32.le_refl _) c41)
      rw [show k = c0 by omega]
      refine z_il5 (pc := 107) dX8_known_107 ?_
      rw [← hQx]
      refine z_iret (pc := 109) rfl (by decide) dX8_known_109 (⟨_, rfl, rfl, rfl⟩)
    | succ d ih =>
      intro k hk
      refine z_il6 (pc := 35) dX8_known_35 ?_
      refine z_al0 (pc := 37) dX8_known_37 ?_
      refine z_mg17 (pc := 38) hM rfl dX8_known_38 ?_
      rw [hc]
      refine z_icmp_ge (pc := 41) 107 dX8_known_41 rfl (fun c41 => absurd c41 (by rw [nI_leI (by omega) (by omega)]; omega)) (fun c41 => ?_)
      refine z_al0 (pc := 44) dX8_known_44 ?_
      refine z_mg8 (pc := 45) hM rfl dX8_known_45 ?_
      refine z_il6 (pc := 48) dX8_known_48 ?_
      refine z_mld (pc := 50) 8 200 hM rfl (by decide) rfl (by omega) dX8_known_50 ?_
      refine z_il1 (pc := 51) dX8_known_51 ?_
      refine z_icmp_ne (pc := 52) 101 dX8_known_52 rfl (fun c52 => ?_) (fun c52 => ?_)
      · refine z_ii6 (pc := 101) _ dX8_known_101 rfl (by decide) ?_
        refine z_goto (pc := 104) 35 dX8_known_104 rfl ?_
        rw [show nI k + Int32.ofInt 1 = nI (k + 1) from nI_1 k]
        refine z_L (L' := [some (.ref x), some (.int (nI s0)), some (.int (nI i0)), some (.int q), some (.int (zb (b = true))), some (.int (kn ar s0 i0 q b (k + 1))), some (.int (nI (k + 1)))]) (by simp_all [kn, ← Int32.not_le]) ?_
        exact ih (k + 1) (by omega)
      · refine z_al0 (pc := 55) dX8_known_55 ?_
        refine z_mg9 (pc := 56) hM rfl dX8_known_56 ?_
        refine z_il6 (pc := 59) dX8_known_59 ?_
        refine z_mld (pc := 61) 9 200 hM rfl (by decide) rfl (by omega) dX8_known_61 ?_
        refine z_il2 (pc := 62) dX8_known_62 ?_
        refine z_icmp_ne (pc := 63) 101 dX8_known_63 rfl (fun c63 => ?_) (fun c63 => ?_)
        · refine z_ii6 (pc := 101) _ dX8_known_101 rfl (by decide) ?_
          refine z_goto (pc := 104) 35 dX8_known_104 rfl ?_
          rw [show nI k + Int32.ofInt 1 = nI (k + 1) from nI_1 k]
          refine z_L (L' := [some (.ref x), some (.int (nI s0)), some (.int (nI i0)), some (.int q), some (.int (zb (b = true))), some (.int (kn ar s0 i0 q b (k + 1))), some (.int (nI (k + 1)))]) (by simp_all [kn, ← Int32.not_le]) ?_
          exact ih (k + 1) (by omega)
        · refine z_al0 (pc := 66) dX8_known_66 ?_
          refine z_mg12 (pc := 67) hM rfl dX8_known_67 ?_
          refine z_il6 (pc := 70) dX8_known_70 ?_
          refine z_mld (pc := 72) 12 200 hM rfl (by decide) rfl (by omega) dX8_known_72 ?_
          refine z_il3 (pc := 73) dX8_known_73 ?_
          refine z_icmp_gt (pc := 74) 101 dX8_known_74 rfl (fun c74 => ?_) (fun c74 => ?_)
          · refine z_ii6 (pc := 101) _ dX8_known_101 rfl (by decide) ?_
            refine z_goto (pc := 104) 35 dX8_known_104 rfl ?_
            rw [show nI k + Int32.ofInt 1 = nI (k + 1) from nI_1 k]
            refine z_L (L' := [some (.ref x), some (.int (nI s0)), some (.int (nI i0)), some (.int q), some (.int (zb (b = true))), some (.int (kn ar s0 i0 q b (k + 1))), some (.int (nI (k + 1)))]) (by simp_all [kn, ← Int32.not_le]) ?_
            exact ih (k + 1) (by omega)
          · refine z_il4 (pc := 77) dX8_known_77 ?_
            refine z_ifz_eq (pc := 79) 92 dX8_known_79 rfl (fun c79 => ?_) (fun c79 => ?_)
            · refine z_al0 (pc := 92) dX8_known_92 ?_
              refine z_mg10 (pc := 93) hM rfl dX8_known_93 ?_
              refine z_il6 (pc := 96) dX8_known_96 ?_
              refine z_mld (pc := 98) 10 200 hM rfl (by decide) rfl (by omega) dX8_known_98 ?_
              refine z_is5 (pc := 99) dX8_known_99 (by decide) ?_
              refine z_ii6 (pc := 101) _ dX8_known_101 rfl (by decide) ?_
              refine z_goto (pc := 104) 35 dX8_known_104 rfl ?_
              rw [show nI k + Int32.ofInt 1 = nI (k + 1) from nI_1 k]
              refine z_L (L' := [some (.ref x), some (.int (nI s0)), some (.int (nI i0)), some (.int q), some (.int (zb (b = true))), some (.int (kn ar s0 i0 q b (k + 1))), some (.int (nI (k + 1)))]) (by simp_all [kn, ← Int32.not_le]) ?_
              exact ih (k + 1) (by omega)
            · refine z_al0 (pc := 82) dX8_known_82 ?_
              refine z_mg11 (pc := 83) hM rfl dX8_known_83 ?_
              refine z_il6 (pc := 86) dX8_known_86 ?_
              refine z_mld (pc := 88) 11 200 hM rfl (by decide) rfl (by omega) dX8_known_88 ?_
              refine z_goto (pc := 89) 99 dX8_known_89 rfl ?_
              refine z_is5 (pc := 99) dX8_known_99 (by decide) ?_
              refine z_ii6 (pc := 101) _ dX8_known_101 rfl (by decide) ?_
              refine z_goto (pc := 104) 35 dX8_known_104 rfl ?_
              rw [show nI k + Int32.ofInt 1 = nI (k + 1) from nI_1 k]
              refine z_L (L' := [some (.ref x), some (.int (nI s0)), some (.int (nI i0)), some (.int q), some (.int (zb (b = true))), some (.int (kn ar s0 i0 q b (k + 1))), some (.int (nI (k + 1)))]) (by simp_all [kn, ← Int32.not_le]) ?_
              exact ih (k + 1) (by omega)
  refine z_il4 (pc := 0) dX8_known_0 ?_
  refine z_ifz_eq (pc := 2) 19 dX8_known_2 rfl (fun c2 => ?_) (fun c2 => ?_)
  · refine z_al0 (pc := 19) dX8_known_19 ?_
    refine z_mg6 (pc := 20) hM rfl dX8_known_20 ?_
    refine z_bipush (pc := 23) (24) (by decide) dX8_known_23 ?_
    refine z_il1 (pc := 25) dX8_known_25 ?_
    refine z_imul (pc := 26) dX8_known_26 ?_
    refine z_il2 (pc := 27) dX8_known_27 ?_
    refine z_iadd (pc := 28) dX8_known_28 ?_
    refine z_mld (pc := 29) 6 480 hM rfl (by decide) (ix24 _ _) (by omega) dX8_known_29 ?_
    refine z_is5 (pc := 30) dX8_known_30 (by decide) ?_
    refine z_iconst (pc := 32) (0) (by decide) dX8_known_32 ?_
    refine z_is6 (pc := 33) dX8_known_33 (by decide) ?_
    refine z_L (L' := [some (.ref x), some (.int (nI s0)), some (.int (nI i0)), some (.int q), some (.int (zb (b = true))), some (.int (kn ar s0 i0 q b 0)), some (.int (nI 0))]) (by simp_all [kn, nI_0]) ?_
    exact lp c0 0 (by omega)
  · refine z_al0 (pc := 5) dX8_known_5 ?_
    refine z_mg7 (pc := 6) hM rfl dX8_known_6 ?_
    refine z_bipush (pc := 9) (24) (by decide) dX8_known_9 ?_
    refine z_il1 (pc := 11) dX8_known_11 ?_
    refine z_imul (pc := 12) dX8_known_12 ?_
    refine z_il2 (pc := 13) dX8_known_13 ?_
    refine z_iadd (pc := 14) dX8_known_14 ?_
    refine z_mld (pc := 15) 7 480 hM rfl (by decide) (ix24 _ _) (by omega) dX8_known_15 ?_
    refine z_goto (pc := 16) 30 dX8_known_16 rfl ?_
    refine z_is5 (pc := 30) dX8_known_30 (by decide) ?_
    refine z_iconst (pc := 32) (0) (by decide) dX8_known_32 ?_
    refine z_is6 (pc := 33) dX8_known_33 (by decide) ?_
    refine z_L (L' := [some (.ref x), some (.int (nI s0)), some (.int (nI i0)), some (.int q), some (.int (zb (b = true))), some (.int (kn ar s0 i0 q b 0)), some (.int (nI 0))]) (by simp_all [kn, nI_0]) ?_
    exact lp c0 0 (by omega)
end
section
theorem imin_top (v : Int32) : (if v < 2147483647 then v else 2147483647) = v := by
  split
  · rfl
  · rename_i h
    rw [i_eq]
    rw [i_lt, i_lit 2147483647 (by decide)] at h
    rw [i_lit 2147483647 (by decide)]
    have := (i_rng v).2
    omega
theorem dp_congr {pr pr2 tp tb up ub tp2 tb2 up2 ub2 : Nat → Int32} {k : Int32} {n m : Nat} (hp : pr2 = pr) (ht : ∀ i, i < n → tp2 i = tp i ∧ tb2 i = tb i) (hu : ∀ j, j < m → up2 j = up j ∧ ub2 j = ub j) : ∀ i j, i ≤ n → j ≤ m → dp pr2 tp2 tb2 up2 ub2 k i j = dp pr tp tb up ub k i j := by
  subst hp
  intro i
  induction i with
  | zero =>
    intro j
    induction j with
    | zero => intro _ _; rfl
    | succ j ih =>
      intro h1 h2
      show dpr0 _ j + co1 pr2 (up2 j) = dpr0 _ j + co1 pr2 (up j)
      have := ih h1 (by omega)
      rw [(hu j (by omega)).1]
      exact congrArg (· + co1 pr2 (up j)) this
  | succ i ihi =>
    intro j
    induction j with
    | zero =>
      intro h1 h2
      show dp pr2 tp2 tb2 up2 ub2 k i 0 + co1 pr2 (tp2 i) = dp pr2 tp tb up ub k i 0 + co1 pr2 (tp i)
      rw [ihi 0 (by omega) h2, (ht i (by omega)).1]
    | succ j ihj =>
      intro h1 h2
      have e1 := ihi j (by omega) (by omega)
      have e2 := ihi (j + 1) (by omega) h2
      have e3 := ihj h1 (by omega)
      show imin (imin (dp pr2 tp2 tb2 up2 ub2 k i j + co2 pr2 (tp2 i) (tb2 i) (up2 j) (ub2 j) k) (dp pr2 tp2 tb2 up2 ub2 k i (j + 1) + co1 pr2 (tp2 i))) (dp pr2 tp2 tb2 up2 ub2 k (i + 1) j + co1 pr2 (up2 j)) = imin (imin (dp pr2 tp tb up ub k i j + co2 pr2 (tp i) (tb i) (up j) (ub j) k) (dp pr2 tp tb up ub k i (j + 1) + co1 pr2 (tp i))) (dp pr2 tp tb up ub k (i + 1) j + co1 pr2 (up j))
      rw [e1, e2, e3, (ht i (by omega)).1, (ht i (by omega)).2, (hu j (by omega)).1, (hu j (by omega)).2]
/-! ready: the two tunes as known lie in the arrays 20 to 23 -/
def RI (ar ar1 : Nat → Nat → Int32) (t0 u0 : Nat) (q : Int32) (c0 i j : Nat) : Prop := (∀ k, k ≠ 20 → k ≠ 21 → k ≠ 22 → k ≠ 23 → ar1 k = ar k) ∧ (∀ a, a < i → ar1 20 a = kn ar t0 a q false c0 ∧ ar1 21 a = kn ar t0 a q true c0) ∧ (∀ a, a < j → ar1 22 a = kn ar u0 a q false c0 ∧ ar1 23 a = kn ar u0 a q true c0)
abbrev kn0 := @kn
theorem RI.kn {ar ar1 : Nat → Nat → Int32} {t0 u0 : Nat} {q : Int32} {c0 i j : Nat} (h : RI ar ar1 t0 u0 q c0 i j) (s a : Nat) (b : Bool) : kn0 ar1 s a q b c0 = kn0 ar s a q b c0 := kn_congr (fun k hk => h.1 k (by omega) (by omega) (by omega) (by omega)) s a q b c0
theorem RI.kn2 {ar ar1 : Nat → Nat → Int32} {t0 u0 : Nat} {q : Int32} {c0 i j : Nat} (h : RI ar ar1 t0 u0 q c0 i j) (s a k i2 : Nat) (v : Int32) (hk : 20 ≤ k) (b : Bool) : kn0 (aup ar1 k i2 v) s a q b c0 = kn0 ar s a q b c0 := by
  rw [← h.kn s a b]
  exact kn_congr (fun k2 hk2 => by unfold aup; rw [if_neg (by omega)]) s a q b c0
theorem RI.t {ar ar1 : Nat → Nat → Int32} {t0 u0 : Nat} {q : Int32} {c0 i j : Nat} {v1 v2 : Int32} (h : RI ar ar1 t0 u0 q c0 i j) (h1 : v1 = kn0 ar t0 i q false c0) (h2 : v2 = kn0 ar t0 i q true c0) : RI ar (aup (aup ar1 20 i v1) 21 i v2) t0 u0 q c0 (i + 1) j := by
  refine ⟨fun k a1 a2 a3 a4 => ?_, fun a ha => ?_, fun a ha => ?_⟩
  · simp only [aup, a1, a2, if_false]; exact h.1 k a1 a2 a3 a4
  · by_cases e : a = i
    · subst e; simp [aup, upd, h1, h2]
    · have := h.2.1 a (by omega); simp [aup, upd, e, this]
  · have := h.2.2 a ha; simp [aup, this]
theorem RI.u {ar ar1 : Nat → Nat → Int32} {t0 u0 : Nat} {q : Int32} {c0 i j : Nat} {v1 v2 : Int32} (h : RI ar ar1 t0 u0 q c0 i j) (h1 : v1 = kn0 ar u0 j q false c0) (h2 : v2 = kn0 ar u0 j q true c0) : RI ar (aup (aup ar1 22 j v1) 23 j v2) t0 u0 q c0 i (j + 1) := by
  refine ⟨fun k a1 a2 a3 a4 => ?_, fun a ha => ?_, fun a ha => ?_⟩
  · simp only [aup, a3, a4, if_false]; exact h.1 k a1 a2 a3 a4
  · have := h.2.1 a ha; simp [aup, this]
  · by_cases e : a = j
    · subst e; simp [aup, upd, h1, h2]
    · have := h.2.2 a (by omega); simp [aup, upd, e, this]
abbrev rX8_ready : Room := rmK 1 0 0 26
set_option maxRecDepth 100000 in
set_option maxHeartbeats 400000 in
theorem c_mReady (l : Launch) {κ : zK} {G : zH} {x : Nat} {ad : Nat → Nat} {sc : Nat → Int32} {ar : Nat → Nat → Int32} (t0 u0 nt nu c0 : Nat) (q : Int32) (hM : RM κ G x ad sc ar) (ht : t0 < 20) (hu : u0 < 20) (hlt : ar 4 t0 = nI nt) (hnt : nt ≤ 24) (hlu : ar 4 u0 = nI nu) (hnu : nu ≤ 24) (hc : sc 17 = nI c0) (hc2 : c0 ≤ 200) : Ct l yX8_ready cX8_ready 5 none rX8_ready κ [.ref x, .int (nI t0), .int (nI u0), .int q] G (pV (fun G2 => ∃ ar2, RM κ G2 x ad (sup (sup sc 25 (nI nt)) 26 (nI nu)) ar2 ∧ zF 1 G G2 ∧ RI ar ar2 t0 u0 q c0 nt nu)) := by
  refine Ct.of (by decide +kernel) (fun v hv => by
    simp only [List.mem_cons, List.mem_nil_iff, or_false, List.not_mem_nil] at hv
    rcases hv with rfl | rfl | rfl | rfl <;> rfl) (Nat.le_of_ble_eq_true rfl) ?_
  intro p e s m args below meth cC
  refine z_L (L' := [some (.ref x), some (.int (nI t0)), some (.int (nI u0)), some (.int q), none]) rfl ?_
  generalize hQx : MQ below (zQc κ _) args s _ _ (zA κ) = Qx
  have lp2 : ∀ (d i : Nat) (G1 : zH) (ar1 : Nat → Nat → Int32), i + d = nu → RM κ G1 x ad (sup (sup sc 25 (nI nt)) 26 (nI nu)) ar1 → zF 1 G G1 → RI ar ar1 t0 u0 q c0 nt i → Z p l e rX8_ready s m args below meth cC yX8_ready cX8_ready 5 none κ Qx 0 0 G1 [some (.ref x), some (.int (nI t0)), some (.int (nI u0)), some (.int q), some (.int (nI i))] 73 [] := by
    intro d
    induction d with
    | zero =>
      intro i G1 ar1 hid hM hF hI
      refine z_il4 (pc := 73) dX8_ready_73 ?_
      refine z_al0 (pc := 75) dX8_ready_75 ?_
      refine z_mg26 (pc := 76) hM rfl dX8_ready_76 ?_
      rw [show sup (sup sc 25 (nI nt)) 26 (nI nu) 26 = nI nu from rfl]
      refine z_icmp_ge (pc := 79) 120 dX8_ready_79 rfl (fun c79 => ?_) (fun c79 => absurd (by rw [show i = nu by omega]; exact Int32.le_refl _) c79)
      rw [show i = nu by omega] at hI
      rw [← hQx]
      refine z_vret (pc := 120) rfl (by decide) dX8_ready_120 (⟨rfl, _, hM, hF, hI⟩)
    | succ d ih =>
      intro i G1 ar1 hid hM hF hI
      refine z_il4 (pc := 73) dX8_ready_73 ?_
      refine z_al0 (pc := 75) dX8_ready_75 ?_
      refine z_mg26 (pc := 76) hM rfl dX8_ready_76 ?_
      rw [show sup (sup sc 25 (nI nt)) 26 (nI nu) 26 = nI nu from rfl]
      refine z_icmp_ge (pc := 79) 120 dX8_ready_79 rfl (fun c79 => absurd c79 (by rw [nI_leI (by omega) (by omega)]; omega)) (fun c79 => ?_)
      refine z_al0 (pc := 82) dX8_ready_82 ?_
      refine z_mg22 (pc := 83) hM rfl dX8_ready_83 ?_
      refine z_il4 (pc := 86) dX8_ready_86 ?_
      refine z_al0 (pc := 88) dX8_ready_88 ?_
      refine z_il2 (pc := 89) dX8_ready_89 ?_
      refine z_il4 (pc := 90) dX8_ready_90 ?_
      refine z_il3 (pc := 92) dX8_ready_92 ?_
      refine z_iconst (pc := 93) (0) (by decide) dX8_ready_93 ?_
      refine z_callVr (pc := 94) (c_mKnown l u0 i c0 q false hM (by omega) (by omega) hc (by omega)) hM.1 rfl rfl kw_878 zc_X8_known (by decide) (by decide) rfl (Nat.le_of_ble_eq_true rfl) dX8_ready_94 ?_
      refine z_mst (pc := 97) 22 24 hM rfl (by decide) rfl (by omega) dX8_ready_97 (fun G1 hM1 hF1 => ?_)
      have hF := zF.trans hF hF1
      clear hF1
      replace hM := hM1
      clear hM1
      refine z_al0 (pc := 98) dX8_ready_98 ?_
      refine z_mg23 (pc := 99) hM rfl dX8_ready_99 ?_
      refine z_il4 (pc := 102) dX8_ready_102 ?_
      refine z_al0 (pc := 104) dX8_ready_104 ?_
      refine z_il2 (pc := 105) dX8_ready_105 ?_
      refine z_il4 (pc := 106) dX8_ready_106 ?_
      refine z_il3 (pc := 108) dX8_ready_108 ?_
      refine z_iconst (pc := 109) (1) (by decide) dX8_ready_109 ?_
      refine z_callVr (pc := 110) (c_mKnown l u0 i c0 q true hM (by omega) (by omega) hc (by omega)) hM.1 rfl rfl kw_878 zc_X8_known (by decide) (by decide) rfl (Nat.le_of_ble_eq_true rfl) dX8_ready_110 ?_
      refine z_mst (pc := 113) 23 24 hM rfl (by decide) rfl (by omega) dX8_ready_113 (fun G1 hM1 hF1 => ?_)
      have hF := zF.trans hF hF1
      clear hF1
      replace hM := hM1
      clear hM1
      refine z_ii4 (pc := 114) (nI (i + 1)) dX8_ready_114 (nI_1 _) (by decide) ?_
      refine z_goto (pc := 117) 73 dX8_ready_117 rfl ?_
      exact ih (i + 1) _ _ (by omega) hM hF (hI.u (hI.kn u0 i false) (hI.kn2 u0 i 22 i _ (by omega) true))
  have lp1 : ∀ (d i : Nat) (G1 : zH) (ar1 : Nat → Nat → Int32), i + d = nt → RM κ G1 x ad (sup (sup sc 25 (nI nt)) 26 (nI nu)) ar1 → zF 1 G G1 → RI ar ar1 t0 u0 q c0 i 0 → Z p l e rX8_ready s m args below meth cC yX8_ready cX8_ready 5 none κ Qx 0 0 G1 [some (.ref x), some (.int (nI t0)), some (.int (nI u0)), some (.int q), some (.int (nI i))] 23 [] := by
    intro d
    induction d with
    | zero =>
      intro i G1 ar1 hid hM hF hI
      refine z_il4 (pc := 23) dX8_ready_23 ?_
      refine z_al0 (pc := 25) dX8_ready_25 ?_
      refine z_mg25 (pc := 26) hM rfl dX8_ready_26 ?_
      rw [show sup (sup sc 25 (nI nt)) 26 (nI nu) 25 = nI nt from rfl]
      refine z_icmp_ge (pc := 29) 70 dX8_ready_29 rfl (fun c29 => ?_) (fun c29 => absurd (by rw [show i = nt by omega]; exact Int32.le_refl _) c29)
      refine z_iconst (pc := 70) (0) (by decide) dX8_ready_70 ?_
      refine z_is4 (pc := 71) dX8_ready_71 (by decide) ?_
      exact lp2 nu 0 _ _ (by omega) hM hF (by rw [← show i = nt by omega]; exact hI)
    | succ d ih =>
      intro i G1 ar1 hid hM hF hI
      refine z_il4 (pc := 23) dX8_ready_23 ?_
      refine z_al0 (pc := 25) dX8_ready_25 ?_
      refine z_mg25 (pc := 26) hM rfl dX8_ready_26 ?_
      rw [show sup (sup sc 25 (nI nt)) 26 (nI nu) 25 = nI nt from rfl]
      refine z_icmp_ge (pc := 29) 70 dX8_ready_29 rfl (fun c29 => absurd c29 (by rw [nI_leI (by omega) (by omega)]; omega)) (fun c29 => ?_)
      refine z_al0 (pc := 32) dX8_ready_32 ?_
      refine z_mg20 (pc := 33) hM rfl dX8_ready_33 ?_
      refine z_il4 (pc := 36) dX8_ready_36 ?_
      refine z_al0 (pc := 38) dX8_ready_38 ?_
      refine z_il1 (pc := 39) dX8_ready_39 ?_
      refine z_il4 (pc := 40) dX8_ready_40 ?_
      refine z_il3 (pc := 42) dX8_ready_42 ?_
      refine z_iconst (pc := 43) (0) (by decide) dX8_ready_43 ?_
      refine z_callVr (pc := 44) (c_mKnown l t0 i c0 q false hM (by omega) (by omega) hc (by omega)) hM.1 rfl rfl kw_878 zc_X8_known (by decide) (by decide) rfl (Nat.le_of_ble_eq_true rfl) dX8_ready_44 ?_
      refine z_mst (pc := 47) 20 24 hM rfl (by decide) rfl (by omega) dX8_ready_47 (fun G1 hM1 hF1 => ?_)
      have hF := zF.trans hF hF1
      clear hF1
      replace hM := hM1
      clear hM1
      refine z_al0 (pc := 48) dX8_ready_48 ?_
      refine z_mg21 (pc := 49) hM rfl dX8_ready_49 ?_
      refine z_il4 (pc := 52) dX8_ready_52 ?_
      refine z_al0 (pc := 54) dX8_ready_54 ?_
      refine z_il1 (pc := 55) dX8_ready_55 ?_
      refine z_il4 (pc := 56) dX8_ready_56 ?_
      refine z_il3 (pc := 58) dX8_ready_58 ?_
      refine z_iconst (pc := 59) (1) (by decide) dX8_ready_59 ?_
      refine z_callVr (pc := 60) (c_mKnown l t0 i c0 q true hM (by omega) (by omega) hc (by omega)) hM.1 rfl rfl kw_878 zc_X8_known (by decide) (by decide) rfl (Nat.le_of_ble_eq_true rfl) dX8_ready_60 ?_
      refine z_mst (pc := 63) 21 24 hM rfl (by decide) rfl (by omega) dX8_ready_63 (fun G1 hM1 hF1 => ?_)
      have hF := zF.trans hF hF1
      clear hF1
      replace hM := hM1
      clear hM1
      refine z_ii4 (pc := 64) (nI (i + 1)) dX8_ready_64 (nI_1 _) (by decide) ?_
      refine z_goto (pc := 67) 23 dX8_ready_67 rfl ?_
      exact ih (i + 1) _ _ (by omega) hM hF (hI.t (hI.kn t0 i false) (hI.kn2 t0 i 20 i _ (by omega) true))
  have hF : zF 1 G G := zF.rf
  refine z_al0 (pc := 0) dX8_ready_0 ?_
  refine z_al0 (pc := 1) dX8_ready_1 ?_
  refine z_mg4 (pc := 2) hM rfl dX8_ready_2 ?_
  refine z_il1 (pc := 5) dX8_ready_5 ?_
  refine z_mld (pc := 6) 4 20 hM rfl (by decide) rfl (by omega) dX8_ready_6 ?_
  rw [hlt]
  refine z_mp25 (pc := 7) hM rfl dX8_ready_7 (fun G1 hM1 hF1 => ?_)
  have hF := zF.trans hF hF1
  clear hF1
  replace hM := hM1
  clear hM1
  refine z_al0 (pc := 10) dX8_ready_10 ?_
  refine z_al0 (pc := 11) dX8_ready_11 ?_
  refine z_mg4 (pc := 12) hM rfl dX8_ready_12 ?_
  refine z_il2 (pc := 15) dX8_ready_15 ?_
  refine z_mld (pc := 16) 4 20 hM rfl (by decide) rfl (by omega) dX8_ready_16 ?_
  rw [hlu]
  refine z_mp26 (pc := 17) hM rfl dX8_ready_17 (fun G1 hM1 hF1 => ?_)
  have hF := zF.trans hF hF1
  clear hF1
  replace hM := hM1
  clear hM1
  refine z_iconst (pc := 20) (0) (by decide) dX8_ready_20 ?_
  refine z_is4 (pc := 21) dX8_ready_21 (by decide) ?_
  exact lp1 nt 0 _ _ (by omega) hM hF ⟨fun _ _ _ _ _ => rfl, fun _ h => absurd h (Nat.not_lt_zero _), fun _ h => absurd h (Nat.not_lt_zero _)⟩
end
section
/-! lay: the table of sums -/
def LI (ar ar1 : Nat → Nat → Int32) (key : Int32) (m0 i j : Nat) : Prop := (∀ k, k ≠ 24 → ar1 k = ar k) ∧ ∀ a b, b ≤ m0 → (a < i ∨ (a = i ∧ b < j)) → ar1 24 (25 * a + b) = dp (ar 15) (ar 20) (ar 21) (ar 22) (ar 23) key a b
theorem LI.up {ar ar1 : Nat → Nat → Int32} {key v : Int32} {m0 i j : Nat} (h : LI ar ar1 key m0 i j) (hm : m0 ≤ 24) (hj : j ≤ m0) (hv : v = dp (ar 15) (ar 20) (ar 21) (ar 22) (ar 23) key i j) : LI ar (aup ar1 24 (25 * i + j) v) key m0 i (j + 1) := by
  refine ⟨fun k hk => ?_, fun a b hb hab => ?_⟩
  · unfold aup; rw [if_neg hk]; exact h.1 k hk
  · unfold aup upd
    rw [if_pos rfl]
    by_cases e : 25 * a + b = 25 * i + j
    · have : a = i := by omega
      have : b = j := by omega
      subst a; subst b
      rw [if_pos rfl]; exact hv
    · rw [if_neg e]
      refine h.2 a b hb ?_
      rcases hab with q | ⟨q1, q2⟩
      · exact Or.inl q
      · refine Or.inr ⟨q1, ?_⟩
        subst q1
        have : b ≠ j := fun q => e (by rw [q])
        omega
theorem LI.row {ar ar1 : Nat → Nat → Int32} {key : Int32} {m0 i : Nat} (h : LI ar ar1 key m0 i (m0 + 1)) : LI ar ar1 key m0 (i + 1) 0 := ⟨h.1, fun a b hb hab => h.2 a b hb (by omega)⟩
abbrev rX8_lay : Room := rmK 2 0 0 44
set_option maxRecDepth 100000 in
set_option maxHeartbeats 400000 in
theorem c_mLay (l : Launch) {κ : zK} {G : zH} {x : Nat} {ad : Nat → Nat} {sc : Nat → Int32} {ar : Nat → Nat → Int32} (n m0 : Nat) (key : Int32) (hM : RM κ G x ad sc ar) (hn : sc 25 = nI n) (hn2 : n ≤ 24) (hm : sc 26 = nI m0) (hm2 : m0 ≤ 24) : Ct l yX8_lay cX8_lay 5 (some FieldType.int) rX8_lay κ [.ref x, .int key] G (pI (fun r G2 => r = dp (ar 15) (ar 20) (ar 21) (ar 22) (ar 23) key n m0 ∧ ∃ ar2, RM κ G2 x ad sc ar2 ∧ zF 1 G G2 ∧ (∀ k, k ≠ 24 → ar2 k = ar k) ∧ ∀ a c0, a ≤ n → c0 ≤ m0 → ar2 24 (25 * a + c0) = dp (ar 15) (ar 20) (ar 21) (ar 22) (ar 23) key a c0)) := by
  refine Ct.of (by decide +kernel) (fun v hv => by
    simp only [List.mem_cons, List.mem_nil_iff, or_false, List.not_mem_nil] at hv
    rcases hv with rfl | rfl <;> rfl) (Nat.le_of_ble_eq_true rfl) ?_
  intro p e s m args below meth cC
  refine z_L (L' := [some (.ref x), some (.int key), none, none, none]) rfl ?_
  generalize hQx : MQ below (zQc κ _) args s _ _ (zA κ) = Qx
  have hF : zF 1 G G := zF.rf
  have inner : ∀ (i : Nat), i ≤ n → (∀ (G1 : zH) (ar1 : Nat → Nat → Int32) (w4 : Option Value), RM κ G1 x ad sc ar1 → zF 1 G G1 → LI ar ar1 key m0 i (m0 + 1) → Z p l e rX8_lay s m args below meth cC yX8_lay cX8_lay 5 (some FieldType.int) κ Qx 0 0 G1 [some (.ref x), some (.int key), some (.int (nI i)), some (.int (nI (m0 + 1))), w4] 166 []) → ∀ (d j : Nat) (G1 : zH) (ar1 : Nat → Nat → Int32) (w4 : Option Value), j + d = m0 + 1 → RM κ G1 x ad sc ar1 → zF 1 G G1 → LI ar ar1 key m0 i j → Z p l e rX8_lay s m args below meth cC yX8_lay cX8_lay 5 (some FieldType.int) κ Qx 0 0 G1 [some (.ref x), some (.int key), some (.int (nI i)), some (.int (nI j)), w4] 12 [] := by
    intro i hin hk d
    induction d with
    | zero =>
      intro j G1 ar1 w4 hjd hM hF hI
      refine z_il3 (pc := 12) dX8_lay_12 ?_
      refine z_al0 (pc := 13) dX8_lay_13 ?_
      refine z_mg26 (pc := 14) hM rfl dX8_lay_14 ?_
      rw [hm]
      refine z_icmp_gt (pc := 17) 166 dX8_lay_17 rfl (fun c17 => ?_) (fun c17 => absurd (by rw [nI_ltI (by omega) (by omega)]; omega) c17)
      rw [show j = m0 + 1 by omega] at hI ⊢
      exact hk _ _ _ hM hF hI
    | succ d ih =>
      intro j G1 ar1 w4 hjd hM hF hI
      have hjm : j ≤ m0 := by omega
      rcases i with _ | i
      · rcases j with _ | j
        · refine z_il3 (pc := 12) dX8_lay_12 ?_
          refine z_al0 (pc := 13) dX8_lay_13 ?_
          refine z_mg26 (pc := 14) hM rfl dX8_lay_14 ?_
          rw [hm]
          refine z_icmp_gt (pc := 17) 166 dX8_lay_17 rfl (fun c17 => absurd c17 (by rw [nI_ltI (by omega) (by omega)]; omega)) (fun c17 => ?_)
          refine z_il2 (pc := 20) dX8_lay_20 ?_
          refine z_if_ne (pc := 21) 32 dX8_lay_21 rfl (fun c21 => absurd c21 (fun h => h nI_0)) (fun c21 => ?_)
          refine z_il3 (pc := 24) dX8_lay_24 ?_
          refine z_if_ne (pc := 25) 32 dX8_lay_25 rfl (fun c25 => absurd c25 (fun h => h nI_0)) (fun c25 => ?_)
          refine z_iconst (pc := 28) (0) (by decide) dX8_lay_28 ?_
          refine z_goto (pc := 29) 34 dX8_lay_29 rfl ?_
          refine z_is4 (pc := 34) dX8_lay_34 (by decide) ?_
          refine z_il2 (pc := 36) dX8_lay_36 ?_
          refine z_if_le (pc := 37) 73 dX8_lay_37 rfl (fun c37 => ?_) (fun c37 => absurd (by rw [nI_0]; exact Int32.le_refl _) c37)
          refine z_il2 (pc := 73) dX8_lay_73 ?_
          refine z_if_le (pc := 74) 110 dX8_lay_74 rfl (fun c74 => ?_) (fun c74 => absurd (by rw [nI_0]; exact Int32.le_refl _) c74)
          refine z_il3 (pc := 110) dX8_lay_110 ?_
          refine z_if_le (pc := 111) 147 dX8_lay_111 rfl (fun c111 => ?_) (fun c111 => absurd (by rw [nI_0]; exact Int32.le_refl _) c111)
          refine z_al0 (pc := 147) dX8_lay_147 ?_
          refine z_mg24 (pc := 148) hM rfl dX8_lay_148 ?_
          refine z_bipush (pc := 151) (25) (by decide) dX8_lay_151 ?_
          refine z_il2 (pc := 153) dX8_lay_153 ?_
          refine z_imul (pc := 154) dX8_lay_154 ?_
          refine z_il3 (pc := 155) dX8_lay_155 ?_
          refine z_iadd (pc := 156) dX8_lay_156 ?_
          refine z_il4 (pc := 157) dX8_lay_157 ?_
          rw [ix25]
          refine z_mst (pc := 159) 24 625 hM rfl (by decide) rfl (by omega) dX8_lay_159 (fun G1 hM1 hF1 => ?_)
          have hF := zF.trans hF hF1
          clear hF1
          replace hM := hM1
          clear hM1
          refine z_ii3 (pc := 160) (nI (0 + 1)) dX8_lay_160 (nI_1 _) (by decide) ?_
          refine z_goto (pc := 163) 12 dX8_lay_163 rfl ?_
          exact ih (0 + 1) _ _ _ (by omega) hM hF (hI.up hm2 hjm (by
            have hk15 := hI.1 15 (by omega)
            have hk20 := hI.1 20 (by omega)
            have hk21 := hI.1 21 (by omega)
            have hk22 := hI.1 22 (by omega)
            have hk23 := hI.1 23 (by omega)
            rfl))
        · refine z_il3 (pc := 12) dX8_lay_12 ?_
          refine z_al0 (pc := 13) dX8_lay_13 ?_
          refine z_mg26 (pc := 14) hM rfl dX8_lay_14 ?_
          rw [hm]
          refine z_icmp_gt (pc := 17) 166 dX8_lay_17 rfl (fun c17 => absurd c17 (by rw [nI_ltI (by omega) (by omega)]; omega)) (fun c17 => ?_)
          refine z_il2 (pc := 20) dX8_lay_20 ?_
          refine z_if_ne (pc := 21) 32 dX8_lay_21 rfl (fun c21 => absurd c21 (fun h => h nI_0)) (fun c21 => ?_)
          refine z_il3 (pc := 24) dX8_lay_24 ?_
          refine z_if_ne (pc := 25) 32 dX8_lay_25 rfl (fun c25 => ?_) (fun c25 => absurd c25 (nI_ne0 (by omega) (by omega)))
          refine z_ldc (pc := 32) kw_898 dX8_lay_32 ?_
          refine z_is4 (pc := 34) dX8_lay_34 (by decide) ?_
          refine z_il2 (pc := 36) dX8_lay_36 ?_
          refine z_if_le (pc := 37) 73 dX8_lay_37 rfl (fun c37 => ?_) (fun c37 => absurd (by rw [nI_0]; exact Int32.le_refl _) c37)
          refine z_il2 (pc := 73) dX8_lay_73 ?_
          refine z_if_le (pc := 74) 110 dX8_lay_74 rfl (fun c74 => ?_) (fun c74 => absurd (by rw [nI_0]; exact Int32.le_refl _) c74)
          refine z_il3 (pc := 110) dX8_lay_110 ?_
          refine z_if_le (pc := 111) 147 dX8_lay_111 rfl (fun c111 => absurd c111 (nI_nle (by omega) (by omega))) (fun c111 => ?_)
          refine z_il4 (pc := 114) dX8_lay_114 ?_
          refine z_al0 (pc := 116) dX8_lay_116 ?_
          refine z_mg24 (pc := 117) hM rfl dX8_lay_117 ?_
          refine z_bipush (pc := 120) (25) (by decide) dX8_lay_120 ?_
          refine z_il2 (pc := 122) dX8_lay_122 ?_
          refine z_imul (pc := 123) dX8_lay_123 ?_
          refine z_il3 (pc := 124) dX8_lay_124 ?_
          refine z_iadd (pc := 125) dX8_lay_125 ?_
          refine z_iconst (pc := 126) (1) (by decide) dX8_lay_126 ?_
          refine z_isub (pc := 127) dX8_lay_127 ?_
          rw [ix25, show nI (25 * 0 + (j + 1)) - 1 = nI (25 * 0 + j) from nI_pred _]
          refine z_mld (pc := 128) 24 625 hM rfl (by decide) rfl (by omega) dX8_lay_128 ?_
          refine z_al0 (pc := 129) dX8_lay_129 ?_
          refine z_al0 (pc := 130) dX8_lay_130 ?_
          refine z_mg22 (pc := 131) hM rfl dX8_lay_131 ?_
          refine z_il3 (pc := 134) dX8_lay_134 ?_
          refine z_iconst (pc := 135) (1) (by decide) dX8_lay_135 ?_
          refine z_isub (pc := 136) dX8_lay_136 ?_
          rw [nI_pred]
          refine z_mld (pc := 137) 22 24 hM rfl (by decide) rfl (by omega) dX8_lay_137 ?_
          refine z_callVr (pc := 138) (c_mAlone l _ hM) hM.1 rfl rfl kw_911 zc_X8_alone (by decide) (by decide) rfl (Nat.le_of_ble_eq_true rfl) dX8_lay_138 ?_
          refine z_iadd (pc := 141) dX8_lay_141 ?_
          refine z_mmin (pc := 142) kw_910 kw_280 kw_12 kw_281 (by decide) (Nat.le_of_ble_eq_true rfl) dX8_lay_142 ?_
          refine z_is4 (pc := 145) dX8_lay_145 (by decide) ?_
          refine z_al0 (pc := 147) dX8_lay_147 ?_
          refine z_mg24 (pc := 148) hM rfl dX8_lay_148 ?_
          refine z_bipush (pc := 151) (25) (by decide) dX8_lay_151 ?_
          refine z_il2 (pc := 153) dX8_lay_153 ?_
          refine z_imul (pc := 154) dX8_lay_154 ?_
          refine z_il3 (pc := 155) dX8_lay_155 ?_
          refine z_iadd (pc := 156) dX8_lay_156 ?_
          refine z_il4 (pc := 157) dX8_lay_157 ?_
          rw [ix25]
          refine z_mst (pc := 159) 24 625 hM rfl (by decide) rfl (by omega) dX8_lay_159 (fun G1 hM1 hF1 => ?_)
          have hF := zF.trans hF hF1
          clear hF1
          replace hM := hM1
          clear hM1
          refine z_ii3 (pc := 160) (nI (j + 1 + 1)) dX8_lay_160 (nI_1 _) (by decide) ?_
          refine z_goto (pc := 163) 12 dX8_lay_163 rfl ?_
          exact ih (j + 1 + 1) _ _ _ (by omega) hM hF (hI.up hm2 hjm (by
            have hk15 := hI.1 15 (by omega)
            have hk20 := hI.1 20 (by omega)
            have hk21 := hI.1 21 (by omega)
            have hk22 := hI.1 22 (by omega)
            have hk23 := hI.1 23 (by omega)
            have e1 := hI.2 0 j (by omega) (by omega)
            rw [e1, imin_top, hk15, hk22]
            rfl))
      · rcases j with _ | j
        · refine z_il3 (pc := 12) dX8_lay_12 ?_
          refine z_al0 (pc := 13) dX8_lay_13 ?_
          refine z_mg26 (pc := 14) hM rfl dX8_lay_14 ?_
          rw [hm]
          refine z_icmp_gt (pc := 17) 166 dX8_lay_17 rfl (fun c17 => absurd c17 (by rw [nI_ltI (by omega) (by omega)]; omega)) (fun c17 => ?_)
          refine z_il2 (pc := 20) dX8_lay_20 ?_
          refine z_if_ne (pc := 21) 32 dX8_lay_21 rfl (fun c21 => ?_) (fun c21 => absurd c21 (nI_ne0 (by omega) (by omega)))
          refine z_ldc (pc := 32) kw_898 dX8_lay_32 ?_
          refine z_is4 (pc := 34) dX8_lay_34 (by decide) ?_
          refine z_il2 (pc := 36) dX8_lay_36 ?_
          refine z_if_le (pc := 37) 73 dX8_lay_37 rfl (fun c37 => absurd c37 (nI_nle (by omega) (by omega))) (fun c37 => ?_)
          refine z_il3 (pc := 40) dX8_lay_40 ?_
          refine z_if_le (pc := 41) 73 dX8_lay_41 rfl (fun c41 => ?_) (fun c41 => absurd (by rw [nI_0]; exact Int32.le_refl _) c41)
          refine z_il2 (pc := 73) dX8_lay_73 ?_
          refine z_if_le (pc := 74) 110 dX8_lay_74 rfl (fun c74 => absurd c74 (nI_nle (by omega) (by omega))) (fun c74 => ?_)
          refine z_il4 (pc := 77) dX8_lay_77 ?_
          refine z_al0 (pc := 79) dX8_lay_79 ?_
          refine z_mg24 (pc := 80) hM rfl dX8_lay_80 ?_
          refine z_bipush (pc := 83) (25) (by decide) dX8_lay_83 ?_
          refine z_il2 (pc := 85) dX8_lay_85 ?_
          refine z_iconst (pc := 86) (1) (by decide) dX8_lay_86 ?_
          refine z_isub (pc := 87) dX8_lay_87 ?_
          rw [nI_pred]
          refine z_imul (pc := 88) dX8_lay_88 ?_
          refine z_il3 (pc := 89) dX8_lay_89 ?_
          refine z_iadd (pc := 90) dX8_lay_90 ?_
          rw [ix25]
          refine z_mld (pc := 91) 24 625 hM rfl (by decide) rfl (by omega) dX8_lay_91 ?_
          refine z_al0 (pc := 92) dX8_lay_92 ?_
          refine z_al0 (pc := 93) dX8_lay_93 ?_
          refine z_mg20 (pc := 94) hM rfl dX8_lay_94 ?_
          refine z_il2 (pc := 97) dX8_lay_97 ?_
          refine z_iconst (pc := 98) (1) (by decide) dX8_lay_98 ?_
          refine z_isub (pc := 99) dX8_lay_99 ?_
          rw [nI_pred]
          refine z_mld (pc := 100) 20 24 hM rfl (by decide) rfl (by omega) dX8_lay_100 ?_
          refine z_callVr (pc := 101) (c_mAlone l _ hM) hM.1 rfl rfl kw_911 zc_X8_alone (by decide) (by decide) rfl (Nat.le_of_ble_eq_true rfl) dX8_lay_101 ?_
          refine z_iadd (pc := 104) dX8_lay_104 ?_
          refine z_mmin (pc := 105) kw_910 kw_280 kw_12 kw_281 (by decide) (Nat.le_of_ble_eq_true rfl) dX8_lay_105 ?_
          refine z_is4 (pc := 108) dX8_lay_108 (by decide) ?_
          refine z_il3 (pc := 110) dX8_lay_110 ?_
          refine z_if_le (pc := 111) 147 dX8_lay_111 rfl (fun c111 => ?_) (fun c111 => absurd (by rw [nI_0]; exact Int32.le_refl _) c111)
          refine z_al0 (pc := 147) dX8_lay_147 ?_
          refine z_mg24 (pc := 148) hM rfl dX8_lay_148 ?_
          refine z_bipush (pc := 151) (25) (by decide) dX8_lay_151 ?_
          refine z_il2 (pc := 153) dX8_lay_153 ?_
          refine z_imul (pc := 154) dX8_lay_154 ?_
          refine z_il3 (pc := 155) dX8_lay_155 ?_
          refine z_iadd (pc := 156) dX8_lay_156 ?_
          refine z_il4 (pc := 157) dX8_lay_157 ?_
          rw [ix25]
          refine z_mst (pc := 159) 24 625 hM rfl (by decide) rfl (by omega) dX8_lay_159 (fun G1 hM1 hF1 => ?_)
          have hF := zF.trans hF hF1
          clear hF1
          replace hM := hM1
          clear hM1
          refine z_ii3 (pc := 160) (nI (0 + 1)) dX8_lay_160 (nI_1 _) (by decide) ?_
          refine z_goto (pc := 163) 12 dX8_lay_163 rfl ?_
          exact ih (0 + 1) _ _ _ (by omega) hM hF (hI.up hm2 hjm (by
            have hk15 := hI.1 15 (by omega)
            have hk20 := hI.1 20 (by omega)
            have hk21 := hI.1 21 (by omega)
            have hk22 := hI.1 22 (by omega)
            have hk23 := hI.1 23 (by omega)
            have e1 := hI.2 i 0 (by omega) (by omega)
            rw [e1, imin_top, hk15, hk20]
            rfl))
        · refine z_il3 (pc := 12) dX8_lay_12 ?_
          refine z_al0 (pc := 13) dX8_lay_13 ?_
          refine z_mg26 (pc := 14) hM rfl dX8_lay_14 ?_
          rw [hm]
          refine z_icmp_gt (pc := 17) 166 dX8_lay_17 rfl (fun c17 => absurd c17 (by rw [nI_ltI (by omega) (by omega)]; omega)) (fun c17 => ?_)
          refine z_il2 (pc := 20) dX8_lay_20 ?_
          refine z_if_ne (pc := 21) 32 dX8_lay_21 rfl (fun c21 => ?_) (fun c21 => absurd c21 (nI_ne0 (by omega) (by omega)))
          refine z_ldc (pc := 32) kw_898 dX8_lay_32 ?_
          refine z_is4 (pc := 34) dX8_lay_34 (by decide) ?_
          refine z_il2 (pc := 36) dX8_lay_36 ?_
          refine z_if_le (pc := 37) 73 dX8_lay_37 rfl (fun c37 => absurd c37 (nI_nle (by omega) (by omega))) (fun c37 => ?_)
          refine z_il3 (pc := 40) dX8_lay_40 ?_
          refine z_if_le (pc := 41) 73 dX8_lay_41 rfl (fun c41 => absurd c41 (nI_nle (by omega) (by omega))) (fun c41 => ?_)
          refine z_al0 (pc := 44) dX8_lay_44 ?_
          refine z_mg24 (pc := 45) hM rfl dX8_lay_45 ?_
          refine z_bipush (pc := 48) (25) (by decide) dX8_lay_48 ?_
          refine z_il2 (pc := 50) dX8_lay_50 ?_
          refine z_iconst (pc := 51) (1) (by decide) dX8_lay_51 ?_
          refine z_isub (pc := 52) dX8_lay_52 ?_
          rw [nI_pred]
          refine z_imul (pc := 53) dX8_lay_53 ?_
          refine z_il3 (pc := 54) dX8_lay_54 ?_
          refine z_iadd (pc := 55) dX8_lay_55 ?_
          refine z_iconst (pc := 56) (1) (by decide) dX8_lay_56 ?_
          refine z_isub (pc := 57) dX8_lay_57 ?_
          rw [ix25, show nI (25 * i + (j + 1)) - 1 = nI (25 * i + j) from nI_pred _]
          refine z_mld (pc := 58) 24 625 hM rfl (by decide) rfl (by omega) dX8_lay_58 ?_
          refine z_al0 (pc := 59) dX8_lay_59 ?_
          refine z_il2 (pc := 60) dX8_lay_60 ?_
          refine z_iconst (pc := 61) (1) (by decide) dX8_lay_61 ?_
          refine z_isub (pc := 62) dX8_lay_62 ?_
          refine z_il3 (pc := 63) dX8_lay_63 ?_
          rw [nI_pred]
          refine z_iconst (pc := 64) (1) (by decide) dX8_lay_64 ?_
          refine z_isub (pc := 65) dX8_lay_65 ?_
          rw [nI_pred]
          refine z_il1 (pc := 66) dX8_lay_66 ?_
          refine z_callVr (pc := 67) (c_mOfTwo l i j key hM (by omega) (by omega)) hM.1 rfl rfl kw_903 zc_X8_ofTwo (by decide) (by decide) rfl (Nat.le_of_ble_eq_true rfl) dX8_lay_67 ?_
          refine z_iadd (pc := 70) dX8_lay_70 ?_
          refine z_is4 (pc := 71) dX8_lay_71 (by decide) ?_
          refine z_il2 (pc := 73) dX8_lay_73 ?_
          refine z_if_le (pc := 74) 110 dX8_lay_74 rfl (fun c74 => absurd c74 (nI_nle (by omega) (by omega))) (fun c74 => ?_)
          refine z_il4 (pc := 77) dX8_lay_77 ?_
          refine z_al0 (pc := 79) dX8_lay_79 ?_
          refine z_mg24 (pc := 80) hM rfl dX8_lay_80 ?_
          refine z_bipush (pc := 83) (25) (by decide) dX8_lay_83 ?_
          refine z_il2 (pc := 85) dX8_lay_85 ?_
          refine z_iconst (pc := 86) (1) (by decide) dX8_lay_86 ?_
          refine z_isub (pc := 87) dX8_lay_87 ?_
          rw [nI_pred]
          refine z_imul (pc := 88) dX8_lay_88 ?_
          refine z_il3 (pc := 89) dX8_lay_89 ?_
          refine z_iadd (pc := 90) dX8_lay_90 ?_
          rw [ix25]
          refine z_mld (pc := 91) 24 625 hM rfl (by decide) rfl (by omega) dX8_lay_91 ?_
          refine z_al0 (pc := 92) dX8_lay_92 ?_
          refine z_al0 (pc := 93) dX8_lay_93 ?_
          refine z_mg20 (pc := 94) hM rfl dX8_lay_94 ?_
          refine z_il2 (pc := 97) dX8_lay_97 ?_
          refine z_iconst (pc := 98) (1) (by decide) dX8_lay_98 ?_
          refine z_isub (pc := 99) dX8_lay_99 ?_
          rw [nI_pred]
          refine z_mld (pc := 100) 20 24 hM rfl (by decide) rfl (by omega) dX8_lay_100 ?_
          refine z_callVr (pc := 101) (c_mAlone l _ hM) hM.1 rfl rfl kw_911 zc_X8_alone (by decide) (by decide) rfl (Nat.le_of_ble_eq_true rfl) dX8_lay_101 ?_
          refine z_iadd (pc := 104) dX8_lay_104 ?_
          refine z_mmin (pc := 105) kw_910 kw_280 kw_12 kw_281 (by decide) (Nat.le_of_ble_eq_true rfl) dX8_lay_105 ?_
          refine z_is4 (pc := 108) dX8_lay_108 (by decide) ?_
          refine z_il3 (pc := 110) dX8_lay_110 ?_
          refine z_if_le (pc := 111) 147 dX8_lay_111 rfl (fun c111 => absurd c111 (nI_nle (by omega) (by omega))) (fun c111 => ?_)
          refine z_il4 (pc := 114) dX8_lay_114 ?_
          refine z_al0 (pc := 116) dX8_lay_116 ?_
          refine z_mg24 (pc := 117) hM rfl dX8_lay_117 ?_
          refine z_bipush (pc := 120) (25) (by decide) dX8_lay_120 ?_
          refine z_il2 (pc := 122) dX8_lay_122 ?_
          refine z_imul (pc := 123) dX8_lay_123 ?_
          refine z_il3 (pc := 124) dX8_lay_124 ?_
          refine z_iadd (pc := 125) dX8_lay_125 ?_
          refine z_iconst (pc := 126) (1) (by decide) dX8_lay_126 ?_
          refine z_isub (pc := 127) dX8_lay_127 ?_
          rw [ix25, show nI (25 * (i + 1) + (j + 1)) - 1 = nI (25 * (i + 1) + j) from nI_pred _]
          refine z_mld (pc := 128) 24 625 hM rfl (by decide) rfl (by omega) dX8_lay_128 ?_
          refine z_al0 (pc := 129) dX8_lay_129 ?_
          refine z_al0 (pc := 130) dX8_lay_130 ?_
          refine z_mg22 (pc := 131) hM rfl dX8_lay_131 ?_
          refine z_il3 (pc := 134) dX8_lay_134 ?_
          refine z_iconst (pc := 135) (1) (by decide) dX8_lay_135 ?_
          refine z_isub (pc := 136) dX8_lay_136 ?_
          rw [nI_pred]
          refine z_mld (pc := 137) 22 24 hM rfl (by decide) rfl (by omega) dX8_lay_137 ?_
          refine z_callVr (pc := 138) (c_mAlone l _ hM) hM.1 rfl rfl kw_911 zc_X8_alone (by decide) (by decide) rfl (Nat.le_of_ble_eq_true rfl) dX8_lay_138 ?_
          refine z_iadd (pc := 141) dX8_lay_141 ?_
          refine z_mmin (pc := 142) kw_910 kw_280 kw_12 kw_281 (by decide) (Nat.le_of_ble_eq_true rfl) dX8_lay_142 ?_
          refine z_is4 (pc := 145) dX8_lay_145 (by decide) ?_
          refine z_al0 (pc := 147) dX8_lay_147 ?_
          refine z_mg24 (pc := 148) hM rfl dX8_lay_148 ?_
          refine z_bipush (pc := 151) (25) (by decide) dX8_lay_151 ?_
          refine z_il2 (pc := 153) dX8_lay_153 ?_
          refine z_imul (pc := 154) dX8_lay_154 ?_
          refine z_il3 (pc := 155) dX8_lay_155 ?_
          refine z_iadd (pc := 156) dX8_lay_156 ?_
          refine z_il4 (pc := 157) dX8_lay_157 ?_
          rw [ix25]
          refine z_mst (pc := 159) 24 625 hM rfl (by decide) rfl (by omega) dX8_lay_159 (fun G1 hM1 hF1 => ?_)
          have hF := zF.trans hF hF1
          clear hF1
          replace hM := hM1
          clear hM1
          refine z_ii3 (pc := 160) (nI (j + 1 + 1)) dX8_lay_160 (nI_1 _) (by decide) ?_
          refine z_goto (pc := 163) 12 dX8_lay_163 rfl ?_
          exact ih (j + 1 + 1) _ _ _ (by omega) hM hF (hI.up hm2 hjm (by
            have hk15 := hI.1 15 (by omega)
            have hk20 := hI.1 20 (by omega)
            have hk21 := hI.1 21 (by omega)
            have hk22 := hI.1 22 (by omega)
            have hk23 := hI.1 23 (by omega)
            have e1 := hI.2 i j (by omega) (by omega)
            have e2 := hI.2 i (j + 1) (by omega) (by omega)
            have e3 := hI.2 (i + 1) j (by omega) (by omega)
            rw [e1, e2, e3, hk15, hk20, hk21, hk22, hk23]
            rfl))
  have outer : ∀ (d i : Nat) (G1 : zH) (ar1 : Nat → Nat → Int32) (w3 w4 : Option Value), i + d = n + 1 → RM κ G1 x ad sc ar1 → zF 1 G G1 → LI ar ar1 key m0 i 0 → Z p l e rX8_lay s m args below meth cC yX8_lay cX8_lay 5 (some FieldType.int) κ Qx 0 0 G1 [some (.ref x), some (.int key), some (.int (nI i)), w3, w4] 2 [] := by
    intro d
    induction d with
    | zero =>
      intro i G1 ar1 w3 w4 hid hM hF hI
      refine z_il2 (pc := 2) dX8_lay_2 ?_
      refine z_al0 (pc := 3) dX8_lay_3 ?_
      refine z_mg25 (pc := 4) hM rfl dX8_lay_4 ?_
      rw [hn]
      refine z_icmp_gt (pc := 7) 172 dX8_lay_7 rfl (fun c7 => ?_) (fun c7 => absurd (by rw [nI_ltI (by omega) (by omega)]; omega) c7)
      rw [show i = n + 1 by omega] at hI
      refine z_al0 (pc := 172) dX8_lay_172 ?_
      refine z_mg24 (pc := 173) hM rfl dX8_lay_173 ?_
      refine z_bipush (pc := 176) (25) (by decide) dX8_lay_176 ?_
      refine z_al0 (pc := 178) dX8_lay_178 ?_
      refine z_mg25 (pc := 179) hM rfl dX8_lay_179 ?_
      refine z_imul (pc := 182) dX8_lay_182 ?_
      refine z_al0 (pc := 183) dX8_lay_183 ?_
      refine z_mg26 (pc := 184) hM rfl dX8_lay_184 ?_
      refine z_iadd (pc := 187) dX8_lay_187 ?_
      rw [hn, hm, ix25]
      refine z_mld (pc := 188) 24 625 hM rfl (by decide) rfl (by omega) dX8_lay_188 ?_
      rw [← hQx]
      refine z_iret (pc := 189) rfl (by decide) dX8_lay_189 (⟨_, rfl, by rw [hI.2 n m0 (Nat.le_refl _) (by omega)], _, hM, hF, hI.1, fun a c0 ha hb => hI.2 a c0 hb (by omega)⟩)
    | succ d ih =>
      intro i G1 ar1 w3 w4 hid hM hF hI
      refine z_il2 (pc := 2) dX8_lay_2 ?_
      refine z_al0 (pc := 3) dX8_lay_3 ?_
      refine z_mg25 (pc := 4) hM rfl dX8_lay_4 ?_
      rw [hn]
      refine z_icmp_gt (pc := 7) 172 dX8_lay_7 rfl (fun c7 => absurd c7 (by rw [nI_ltI (by omega) (by omega)]; omega)) (fun c7 => ?_)
      refine z_iconst (pc := 10) (0) (by decide) dX8_lay_10 ?_
      refine z_is3 (pc := 11) dX8_lay_11 (by decide) ?_
      refine inner i (by omega) (fun G1 ar1 w4 hM hF hI => ?_) (m0 + 1) 0 _ _ _ (by omega) hM hF hI
      refine z_ii2 (pc := 166) (nI (i + 1)) dX8_lay_166 (nI_1 _) (by decide) ?_
      refine z_goto (pc := 169) 2 dX8_lay_169 rfl ?_
      exact ih (i + 1) _ _ _ _ (by omega) hM hF hI.row
  refine z_iconst (pc := 0) (0) (by decide) dX8_lay_0 ?_
  refine z_is2 (pc := 1) dX8_lay_1 (by decide) ?_
  exact outer (n + 1) 0 _ _ _ _ (by omega) hM hF ⟨fun _ _ => rfl, fun a c0 _ h => by omega⟩
end
section
/-! far: the keys one after the other; the first with the least sum -/
/-- the keys in the order in which they are tried: 0, -1, 1, -2, 2 .. -/
def keyAt (n : Nat) : Int32 := if n % 2 = 0 then nI (n / 2) else -1 * nI ((n + 1) / 2)
def tl (f : Nat → Int32) (k0 : Int32) : Nat → Int32 × Int32
  | 0 => (2147483647, k0)
  | n + 1 => if f n < (tl f k0 n).1 then (f n, keyAt n) else tl f k0 n
/-- the sum of two tunes as known on a day, by the number of the key -/
def dK (ar : Nat → Nat → Int32) (c0 : Nat) (q : Int32) (t0 u0 nt nu : Nat) (key : Int32) : Int32 := dp (ar 15) (fun i => kn ar t0 i q false c0) (fun i => kn ar t0 i q true c0) (fun i => kn ar u0 i q false c0) (fun i => kn ar u0 i q true c0) key nt nu
def FI (sc : Nat → Int32) (ar : Nat → Nat → Int32) (sc1 : Nat → Int32) (ar1 : Nat → Nat → Int32) (t0 u0 nt nu c0 : Nat) (q : Int32) (N : Nat) : Prop :=
  (∀ k, k ≠ 25 → k ≠ 26 → k ≠ 27 → k ≠ 28 → sc1 k = sc k) ∧ sc1 25 = nI nt ∧ sc1 26 = nI nu ∧ (sc1 27, sc1 28) = tl (fun n => dK ar c0 q t0 u0 nt nu (keyAt n)) (sc 28) N ∧ (∀ k, k ≠ 20 → k ≠ 21 → k ≠ 22 → k ≠ 23 → k ≠ 24 → ar1 k = ar k) ∧
  (∀ a, a < nt → ar1 20 a = kn ar t0 a q false c0 ∧ ar1 21 a = kn ar t0 a q true c0) ∧ (∀ a, a < nu → ar1 22 a = kn ar u0 a q false c0 ∧ ar1 23 a = kn ar u0 a q true c0)
theorem FI.dp {sc sc1 : Nat → Int32} {ar ar1 : Nat → Nat → Int32} {t0 u0 nt nu c0 N : Nat} {q : Int32} (h : FI sc ar sc1 ar1 t0 u0 nt nu c0 q N) (key : Int32) : ∀ i j, i ≤ nt → j ≤ nu → dp (ar1 15) (ar1 20) (ar1 21) (ar1 22) (ar1 23) key i j = dp (ar 15) (fun i => kn ar t0 i q false c0) (fun i => kn ar t0 i q true c0) (fun i => kn ar u0 i q false c0) (fun i => kn ar u0 i q true c0) key i j :=
  dp_congr (h.2.2.2.2.1 15 (by omega) (by omega) (by omega) (by omega) (by omega)) (fun i hi => h.2.2.2.2.2.1 i hi) (fun j hj => h.2.2.2.2.2.2 j hj)
theorem FI.lay {sc sc1 : Nat → Int32} {ar ar1 ar2 : Nat → Nat → Int32} {t0 u0 nt nu c0 N : Nat} {q : Int32} (h : FI sc ar sc1 ar1 t0 u0 nt nu c0 q N) (h2 : ∀ k, k ≠ 24 → ar2 k = ar1 k) : FI sc ar sc1 ar2 t0 u0 nt nu c0 q N :=
  ⟨h.1, h.2.1, h.2.2.1, h.2.2.2.1, fun k a1 a2 a3 a4 a5 => by rw [h2 k a5]; exact h.2.2.2.2.1 k a1 a2 a3 a4 a5, fun a ha => by rw [h2 20 (by omega), h2 21 (by omega)]; exact h.2.2.2.2.2.1 a ha, fun a ha => by rw [h2 22 (by omega), h2 23 (by omega)]; exact h.2.2.2.2.2.2 a ha⟩
theorem FI.no {sc sc1 : Nat → Int32} {ar ar1 : Nat → Nat → Int32} {t0 u0 nt nu c0 N : Nat} {q key : Int32} (h : FI sc ar sc1 ar1 t0 u0 nt nu c0 q N) (hk : key = keyAt N) (hn : ¬ dK ar c0 q t0 u0 nt nu key < sc1 27) : FI sc ar sc1 ar1 t0 u0 nt nu c0 q (N + 1) := by
  refine ⟨h.1, h.2.1, h.2.2.1, ?_, h.2.2.2.2⟩
  have e : sc1 27 = (tl (fun n => dK ar c0 q t0 u0 nt nu (keyAt n)) (sc 28) N).1 := by rw [← h.2.2.2.1]
  subst hk
  show _ = if dK ar c0 q t0 u0 nt nu (keyAt N) < (tl (fun n => dK ar c0 q t0 u0 nt nu (keyAt n)) (sc 28) N).1 then (dK ar c0 q t0 u0 nt nu (keyAt N), keyAt N) else tl (fun n => dK ar c0 q t0 u0 nt nu (keyAt n)) (sc 28) N
  rw [← e, if_neg hn]
  exact h.2.2.2.1
theorem FI.yes {sc sc1 : Nat → Int32} {ar ar1 : Nat → Nat → Int32} {t0 u0 nt nu c0 N : Nat} {q key : Int32} (h : FI sc ar sc1 ar1 t0 u0 nt nu c0 q N) (hk : key = keyAt N) (hn : dK ar c0 q t0 u0 nt nu key < sc1 27) : FI sc ar (sup (sup sc1 27 (dK ar c0 q t0 u0 nt nu key)) 28 key) ar1 t0 u0 nt nu c0 q (N + 1) := by
  refine ⟨fun k a1 a2 a3 a4 => ?_, h.2.1, h.2.2.1, ?_, h.2.2.2.2⟩
  · simp only [sup, a3, a4, if_false]; exact h.1 k a1 a2 a3 a4
  have e : sc1 27 = (tl (fun n => dK ar c0 q t0 u0 nt nu (keyAt n)) (sc 28) N).1 := by rw [← h.2.2.2.1]
  subst hk
  show _ = if dK ar c0 q t0 u0 nt nu (keyAt N) < (tl (fun n => dK ar c0 q t0 u0 nt nu (keyAt n)) (sc 28) N).1 then (dK ar c0 q t0 u0 nt nu (keyAt N), keyAt N) else tl (fun n => dK ar c0 q t0 u0 nt nu (keyAt n)) (sc 28) N
  rw [← e, if_pos hn]
  rfl
theorem keyAt_o (k : Nat) : -1 * nI (k + 1) = keyAt (2 * k + 1) := by unfold keyAt; rw [if_neg (by omega), show (2 * k + 1 + 1) / 2 = k + 1 by omega]
theorem keyAt_e (k : Nat) : (1 : Int32) * nI (k + 1) = keyAt (2 * k + 1 + 1) := by unfold keyAt; rw [if_pos (by omega), show (2 * k + 1 + 1) / 2 = k + 1 by omega, Int32.one_mul]
theorem keyAt_z : (-1 : Int32) * nI 0 = keyAt 0 := by decide
abbrev rX8_far : Room := rmK 3 0 0 68
set_option maxRecDepth 100000 in
set_option maxHeartbeats 400000 in
theorem c_mFar (l : Launch) {κ : zK} {G : zH} {x : Nat} {ad : Nat → Nat} {sc : Nat → Int32} {ar : Nat → Nat → Int32} (t0 u0 nt nu c0 : Nat) (q : Int32) (hM : RM κ G x ad sc ar) (ht : t0 < 20) (hu : u0 < 20) (hlt : ar 4 t0 = nI nt) (hnt : nt ≤ 24) (hlu : ar 4 u0 = nI nu) (hnu : nu ≤ 24) (hc : sc 17 = nI c0) (hc2 : c0 ≤ 200) : Ct l yX8_far cX8_far 7 (some FieldType.int) rX8_far κ [.ref x, .int (nI t0), .int (nI u0), .int q] G (pI (fun r G2 => ∃ sc2 ar2, r = sc2 27 ∧ RM κ G2 x ad sc2 ar2 ∧ zF 1 G G2 ∧ FI sc ar sc2 ar2 t0 u0 nt nu c0 q 25)) := by
  refine Ct.of (by decide +kernel) (fun v hv => by
    simp only [List.mem_cons, List.mem_nil_iff, or_false, List.not_mem_nil] at hv
    rcases hv with rfl | rfl | rfl | rfl <;> rfl) (Nat.le_of_ble_eq_true rfl) ?_
  intro p e s m args below meth cC
  refine z_L (L' := [some (.ref x), some (.int (nI t0)), some (.int (nI u0)), some (.int q), none, none, none]) rfl ?_
  generalize hQx : MQ below (zQc κ _) args s _ _ (zA κ) = Qx
  have hF : zF 1 G G := zF.rf
  have lp : ∀ (d k : Nat) (G1 : zH) (sc1 : Nat → Int32) (ar1 : Nat → Nat → Int32) (w5 w6 : Option Value), k + d = 13 → RM κ G1 x ad sc1 ar1 → zF 1 G G1 → FI sc ar sc1 ar1 t0 u0 nt nu c0 q (2 * k - 1) → Z p l e rX8_far s m args below meth cC yX8_far cX8_far 7 (some FieldType.int) κ Qx 0 0 G1 [some (.ref x), some (.int (nI t0)), some (.int (nI u0)), some (.int q), some (.int (nI k)), w5, w6] 16 [] := by
    intro d
    induction d with
    | zero =>
      intro k G1 sc1 ar1 w5 w6 hkd hM hF hI
      refine z_il4 (pc := 16) dX8_far_16 ?_
      refine z_bipush (pc := 18) (12) (by decide) dX8_far_18 ?_
      refine z_icmp_gt (pc := 20) 95 dX8_far_20 rfl (fun c20 => ?_) (fun c20 => absurd (by rw [show k = 13 by omega]; decide) c20)
      rw [show 2 * k - 1 = 25 by omega] at hI
      refine z_al0 (pc := 95) dX8_far_95 ?_
      refine z_mg27 (pc := 96) hM rfl dX8_far_96 ?_
      rw [← hQx]
      refine z_iret (pc := 99) rfl (by decide) dX8_far_99 (⟨_, rfl, _, _, rfl, hM, hF, hI⟩)
    | succ d ih =>
      intro k G1 sc1 ar1 w5 w6 hkd hM hF hI
      have hk12 : k ≤ 12 := by omega
      rcases k with _ | k
      · refine z_il4 (pc := 16) dX8_far_16 ?_
        refine z_bipush (pc := 18) (12) (by decide) dX8_far_18 ?_
        refine z_icmp_gt (pc := 20) 95 dX8_far_20 rfl (fun c20 => absurd c20 (by rw [show (12 : Int32) = nI 12 from rfl, nI_ltI (by omega) (by omega)]; omega)) (fun c20 => ?_)
        refine z_iconst (pc := 23) (-1) (by decide) dX8_far_23 ?_
        refine z_is5 (pc := 24) dX8_far_24 (by decide) ?_
        refine z_il5 (pc := 26) dX8_far_26 ?_
        refine z_iconst (pc := 28) (2) (by decide) dX8_far_28 ?_
        refine z_icmp_ge (pc := 29) 89 dX8_far_29 rfl (fun c29 => absurd c29 (by decide)) (fun c29 => ?_)
        refine z_il4 (pc := 32) dX8_far_32 ?_
        refine z_if_ne (pc := 34) 45 dX8_far_34 rfl (fun c34 => absurd c34 (fun h => h nI_0)) (fun c34 => ?_)
        refine z_il5 (pc := 37) dX8_far_37 ?_
        refine z_if_le (pc := 39) 45 dX8_far_39 rfl (fun c39 => ?_) (fun c39 => absurd (by decide) c39)
        refine z_al0 (pc := 45) dX8_far_45 ?_
        refine z_il5 (pc := 46) dX8_far_46 ?_
        refine z_il4 (pc := 48) dX8_far_48 ?_
        refine z_imul (pc := 50) dX8_far_50 ?_
        refine z_callVi (pc := 51) _ (c_mLay l nt nu (-1 * nI 0) hM hI.2.1 (by omega) hI.2.2.1 (by omega)) rfl hM.1 rfl rfl kw_899 zc_X8_lay (by decide) rfl (Nat.le_of_ble_eq_true rfl) dX8_far_51 (fun r G1 h => ?_)
        obtain ⟨rfl, ar1, hM1, hF1, hL1, -⟩ := h
        rw [show dp _ _ _ _ _ (-1 * nI 0) nt nu = dK ar c0 q t0 u0 nt nu (-1 * nI 0) from hI.dp (-1 * nI 0) nt nu (Nat.le_refl _) (Nat.le_refl _)]
        replace hI := hI.lay hL1
        clear hL1
        have hF := zF.trans hF hF1
        clear hF1
        replace hM := hM1
        clear hM1
        refine z_is6 (pc := 54) dX8_far_54 (by decide) ?_
        refine z_il6 (pc := 56) dX8_far_56 ?_
        refine z_al0 (pc := 58) dX8_far_58 ?_
        refine z_mg27 (pc := 59) hM rfl dX8_far_59 ?_
        refine z_icmp_lt (pc := 62) 68 dX8_far_62 rfl (fun c62 => ?_) (fun c62 => ?_)
        · refine z_al0 (pc := 68) dX8_far_68 ?_
          refine z_il6 (pc := 69) dX8_far_69 ?_
          refine z_mp27 (pc := 71) hM rfl dX8_far_71 (fun G1 hM1 hF1 => ?_)
          have hF := zF.trans hF hF1
          clear hF1
          replace hM := hM1
          clear hM1
          refine z_al0 (pc := 74) dX8_far_74 ?_
          refine z_il5 (pc := 75) dX8_far_75 ?_
          refine z_il4 (pc := 77) dX8_far_77 ?_
          refine z_imul (pc := 79) dX8_far_79 ?_
          refine z_mp28 (pc := 80) hM rfl dX8_far_80 (fun G1 hM1 hF1 => ?_)
          have hF := zF.trans hF hF1
          clear hF1
          replace hM := hM1
          clear hM1
          first
            | replace hI := hI.yes keyAt_z ‹_›
            | replace hI := hI.no keyAt_z ‹_›
          refine z_ii5 (pc := 83) (1) dX8_far_83 (by decide) (by decide) ?_
          refine z_goto (pc := 86) 26 dX8_far_86 rfl ?_
          refine z_il5 (pc := 26) dX8_far_26 ?_
          refine z_iconst (pc := 28) (2) (by decide) dX8_far_28 ?_
          refine z_icmp_ge (pc := 29) 89 dX8_far_29 rfl (fun c29 => absurd c29 (by decide)) (fun c29 => ?_)
          refine z_il4 (pc := 32) dX8_far_32 ?_
          refine z_if_ne (pc := 34) 45 dX8_far_34 rfl (fun c34 => absurd c34 (fun h => h nI_0)) (fun c34 => ?_)
          refine z_il5 (pc := 37) dX8_far_37 ?_
          refine z_if_le (pc := 39) 45 dX8_far_39 rfl (fun c39 => absurd c39 (by decide)) (fun c39 => ?_)
          refine z_goto (pc := 42) 83 dX8_far_42 rfl ?_
          skip
          refine z_ii5 (pc := 83) (3) dX8_far_83 (by decide) (by decide) ?_
          refine z_goto (pc := 86) 26 dX8_far_86 rfl ?_
          refine z_il5 (pc := 26) dX8_far_26 ?_
          refine z_iconst (pc := 28) (2) (by decide) dX8_far_28 ?_
          refine z_icmp_ge (pc := 29) 89 dX8_far_29 rfl (fun c29 => ?_) (fun c29 => absurd (by decide) c29)
          refine z_ii4 (pc := 89) (nI (0 + 1)) dX8_far_89 (nI_1 _) (by decide) ?_
          refine z_goto (pc := 92) 16 dX8_far_92 rfl ?_
          exact ih 1 _ _ _ _ _ (by omega) hM hF hI
        · refine z_goto (pc := 65) 83 dX8_far_65 rfl ?_
          first
            | replace hI := hI.yes keyAt_z ‹_›
            | replace hI := hI.no keyAt_z ‹_›
          refine z_ii5 (pc := 83) (1) dX8_far_83 (by decide) (by decide) ?_
          refine z_goto (pc := 86) 26 dX8_far_86 rfl ?_
          refine z_il5 (pc := 26) dX8_far_26 ?_
          refine z_iconst (pc := 28) (2) (by decide) dX8_far_28 ?_
          refine z_icmp_ge (pc := 29) 89 dX8_far_29 rfl (fun c29 => absurd c29 (by decide)) (fun c29 => ?_)
          refine z_il4 (pc := 32) dX8_far_32 ?_
          refine z_if_ne (pc := 34) 45 dX8_far_34 rfl (fun c34 => absurd c34 (fun h => h nI_0)) (fun c34 => ?_)
          refine z_il5 (pc := 37) dX8_far_37 ?_
          refine z_if_le (pc := 39) 45 dX8_far_39 rfl (fun c39 => absurd c39 (by decide)) (fun c39 => ?_)
          refine z_goto (pc := 42) 83 dX8_far_42 rfl ?_
          skip
          refine z_ii5 (pc := 83) (3) dX8_far_83 (by decide) (by decide) ?_
          refine z_goto (pc := 86) 26 dX8_far_86 rfl ?_
          refine z_il5 (pc := 26) dX8_far_26 ?_
          refine z_iconst (pc := 28) (2) (by decide) dX8_far_28 ?_
          refine z_icmp_ge (pc := 29) 89 dX8_far_29 rfl (fun c29 => ?_) (fun c29 => absurd (by decide) c29)
          refine z_ii4 (pc := 89) (nI (0 + 1)) dX8_far_89 (nI_1 _) (by decide) ?_
          refine z_goto (pc := 92) 16 dX8_far_92 rfl ?_
          exact ih 1 _ _ _ _ _ (by omega) hM hF hI
      · refine z_il4 (pc := 16) dX8_far_16 ?_
        refine z_bipush (pc := 18) (12) (by decide) dX8_far_18 ?_
        refine z_icmp_gt (pc := 20) 95 dX8_far_20 rfl (fun c20 => absurd c20 (by rw [show (12 : Int32) = nI 12 from rfl, nI_ltI (by omega) (by omega)]; omega)) (fun c20 => ?_)
        refine z_iconst (pc := 23) (-1) (by decide) dX8_far_23 ?_
        refine z_is5 (pc := 24) dX8_far_24 (by decide) ?_
        refine z_il5 (pc := 26) dX8_far_26 ?_
        refine z_iconst (pc := 28) (2) (by decide) dX8_far_28 ?_
        refine z_icmp_ge (pc := 29) 89 dX8_far_29 rfl (fun c29 => absurd c29 (by decide)) (fun c29 => ?_)
        refine z_il4 (pc := 32) dX8_far_32 ?_
        refine z_if_ne (pc := 34) 45 dX8_far_34 rfl (fun c34 => ?_) (fun c34 => absurd c34 (nI_ne0 (by omega) (by omega)))
        refine z_al0 (pc := 45) dX8_far_45 ?_
        refine z_il5 (pc := 46) dX8_far_46 ?_
        refine z_il4 (pc := 48) dX8_far_48 ?_
        refine z_imul (pc := 50) dX8_far_50 ?_
        refine z_callVi (pc := 51) _ (c_mLay l nt nu (-1 * nI (k + 1)) hM hI.2.1 (by omega) hI.2.2.1 (by omega)) rfl hM.1 rfl rfl kw_899 zc_X8_lay (by decide) rfl (Nat.le_of_ble_eq_true rfl) dX8_far_51 (fun r G1 h => ?_)
        obtain ⟨rfl, ar1, hM1, hF1, hL1, -⟩ := h
        rw [show dp _ _ _ _ _ (-1 * nI (k + 1)) nt nu = dK ar c0 q t0 u0 nt nu (-1 * nI (k + 1)) from hI.dp (-1 * nI (k + 1)) nt nu (Nat.le_refl _) (Nat.le_refl _)]
        replace hI := hI.lay hL1
        clear hL1
        have hF := zF.trans hF hF1
        clear hF1
        replace hM := hM1
        clear hM1
        refine z_is6 (pc := 54) dX8_far_54 (by decide) ?_
        refine z_il6 (pc := 56) dX8_far_56 ?_
        refine z_al0 (pc := 58) dX8_far_58 ?_
        refine z_mg27 (pc := 59) hM rfl dX8_far_59 ?_
        refine z_icmp_lt (pc := 62) 68 dX8_far_62 rfl (fun c62 => ?_) (fun c62 => ?_)
        · refine z_al0 (pc := 68) dX8_far_68 ?_
          refine z_il6 (pc := 69) dX8_far_69 ?_
          refine z_mp27 (pc := 71) hM rfl dX8_far_71 (fun G1 hM1 hF1 => ?_)
          have hF := zF.trans hF hF1
          clear hF1
          replace hM := hM1
          clear hM1
          refine z_al0 (pc := 74) dX8_far_74 ?_
          refine z_il5 (pc := 75) dX8_far_75 ?_
          refine z_il4 (pc := 77) dX8_far_77 ?_
          refine z_imul (pc := 79) dX8_far_79 ?_
          refine z_mp28 (pc := 80) hM rfl dX8_far_80 (fun G1 hM1 hF1 => ?_)
          have hF := zF.trans hF hF1
          clear hF1
          replace hM := hM1
          clear hM1
          first
            | replace hI := hI.yes (keyAt_o k) ‹_›
            | replace hI := hI.no (keyAt_o k) ‹_›
          refine z_ii5 (pc := 83) (1) dX8_far_83 (by decide) (by decide) ?_
          refine z_goto (pc := 86) 26 dX8_far_86 rfl ?_
          refine z_il5 (pc := 26) dX8_far_26 ?_
          refine z_iconst (pc := 28) (2) (by decide) dX8_far_28 ?_
          refine z_icmp_ge (pc := 29) 89 dX8_far_29 rfl (fun c29 => absurd c29 (by decide)) (fun c29 => ?_)
          refine z_il4 (pc := 32) dX8_far_32 ?_
          refine z_if_ne (pc := 34) 45 dX8_far_34 rfl (fun c34 => ?_) (fun c34 => absurd c34 (nI_ne0 (by omega) (by omega)))
          refine z_al0 (pc := 45) dX8_far_45 ?_
          refine z_il5 (pc := 46) dX8_far_46 ?_
          refine z_il4 (pc := 48) dX8_far_48 ?_
          refine z_imul (pc := 50) dX8_far_50 ?_
          refine z_callVi (pc := 51) _ (c_mLay l nt nu (1 * nI (k + 1)) hM hI.2.1 (by omega) hI.2.2.1 (by omega)) rfl hM.1 rfl rfl kw_899 zc_X8_lay (by decide) rfl (Nat.le_of_ble_eq_true rfl) dX8_far_51 (fun r G1 h => ?_)
          obtain ⟨rfl, ar1, hM1, hF1, hL1, -⟩ := h
          rw [show dp _ _ _ _ _ (1 * nI (k + 1)) nt nu = dK ar c0 q t0 u0 nt nu (1 * nI (k + 1)) from hI.dp (1 * nI (k + 1)) nt nu (Nat.le_refl _) (Nat.le_refl _)]
          replace hI := hI.lay hL1
          clear hL1
          have hF := zF.trans hF hF1
          clear hF1
          replace hM := hM1
          clear hM1
          refine z_is6 (pc := 54) dX8_far_54 (by decide) ?_
          refine z_il6 (pc := 56) dX8_far_56 ?_
          refine z_al0 (pc := 58) dX8_far_58 ?_
          refine z_mg27 (pc := 59) hM rfl dX8_far_59 ?_
          refine z_icmp_lt (pc := 62) 68 dX8_far_62 rfl (fun c62 => ?_) (fun c62 => ?_)
          · refine z_al0 (pc := 68) dX8_far_68 ?_
            refine z_il6 (pc := 69) dX8_far_69 ?_
            refine z_mp27 (pc := 71) hM rfl dX8_far_71 (fun G1 hM1 hF1 => ?_)
            have hF := zF.trans hF hF1
            clear hF1
            replace hM := hM1
            clear hM1
            refine z_al0 (pc := 74) dX8_far_74 ?_
            refine z_il5 (pc := 75) dX8_far_75 ?_
            refine z_il4 (pc := 77) dX8_far_77 ?_
            refine z_imul (pc := 79) dX8_far_79 ?_
            refine z_mp28 (pc := 80) hM rfl dX8_far_80 (fun G1 hM1 hF1 => ?_)
            have hF := zF.trans hF hF1
            clear hF1
            replace hM := hM1
            clear hM1
            first
              | replace hI := hI.yes (keyAt_e k) ‹_›
              | replace hI := hI.no (keyAt_e k) ‹_›
            refine z_ii5 (pc := 83) (3) dX8_far_83 (by decide) (by decide) ?_
            refine z_goto (pc := 86) 26 dX8_far_86 rfl ?_
            refine z_il5 (pc := 26) dX8_far_26 ?_
            refine z_iconst (pc := 28) (2) (by decide) dX8_far_28 ?_
            refine z_icmp_ge (pc := 29) 89 dX8_far_29 rfl (fun c29 => ?_) (fun c29 => absurd (by decide) c29)
            refine z_ii4 (pc := 89) (nI (k + 1 + 1)) dX8_far_89 (nI_1 _) (by decide) ?_
            refine z_goto (pc := 92) 16 dX8_far_92 rfl ?_
            exact ih (k + 1 + 1) _ _ _ _ _ (by omega) hM hF hI
          · refine z_goto (pc := 65) 83 dX8_far_65 rfl ?_
            first
              | replace hI := hI.yes (keyAt_e k) ‹_›
              | replace hI := hI.no (keyAt_e k) ‹_›
            refine z_ii5 (pc := 83) (3) dX8_far_83 (by decide) (by decide) ?_
            refine z_goto (pc := 86) 26 dX8_far_86 rfl ?_
            refine z_il5 (pc := 26) dX8_far_26 ?_
            refine z_iconst (pc := 28) (2) (by decide) dX8_far_28 ?_
            refine z_icmp_ge (pc := 29) 89 dX8_far_29 rfl (fun c29 => ?_) (fun c29 => absurd (by decide) c29)
            refine z_ii4 (pc := 89) (nI (k + 1 + 1)) dX8_far_89 (nI_1 _) (by decide) ?_
            refine z_goto (pc := 92) 16 dX8_far_92 rfl ?_
            exact ih (k + 1 + 1) _ _ _ _ _ (by omega) hM hF hI
        · refine z_goto (pc := 65) 83 dX8_far_65 rfl ?_
          first
            | replace hI := hI.yes (keyAt_o k) ‹_›
            | replace hI := hI.no (keyAt_o k) ‹_›
          refine z_ii5 (pc := 83) (1) dX8_far_83 (by decide) (by decide) ?_
          refine z_goto (pc := 86) 26 dX8_far_86 rfl ?_
          refine z_il5 (pc := 26) dX8_far_26 ?_
          refine z_iconst (pc := 28) (2) (by decide) dX8_far_28 ?_
          refine z_icmp_ge (pc := 29) 89 dX8_far_29 rfl (fun c29 => absurd c29 (by decide)) (fun c29 => ?_)
          refine z_il4 (pc := 32) dX8_far_32 ?_
          refine z_if_ne (pc := 34) 45 dX8_far_34 rfl (fun c34 => ?_) (fun c34 => absurd c34 (nI_ne0 (by omega) (by omega)))
          refine z_al0 (pc := 45) dX8_far_45 ?_
          refine z_il5 (pc := 46) dX8_far_46 ?_
          refine z_il4 (pc := 48) dX8_far_48 ?_
          refine z_imul (pc := 50) dX8_far_50 ?_
          refine z_callVi (pc := 51) _ (c_mLay l nt nu (1 * nI (k + 1)) hM hI.2.1 (by omega) hI.2.2.1 (by omega)) rfl hM.1 rfl rfl kw_899 zc_X8_lay (by decide) rfl (Nat.le_of_ble_eq_true rfl) dX8_far_51 (fun r G1 h => ?_)
          obtain ⟨rfl, ar1, hM1, hF1, hL1, -⟩ := h
          rw [show dp _ _ _ _ _ (1 * nI (k + 1)) nt nu = dK ar c0 q t0 u0 nt nu (1 * nI (k + 1)) from hI.dp (1 * nI (k + 1)) nt nu (Nat.le_refl _) (Nat.le_refl _)]
          replace hI := hI.lay hL1
          clear hL1
          have hF := zF.trans hF hF1
          clear hF1
          replace hM := hM1
          clear hM1
          refine z_is6 (pc := 54) dX8_far_54 (by decide) ?_
          refine z_il6 (pc := 56) dX8_far_56 ?_
          refine z_al0 (pc := 58) dX8_far_58 ?_
          refine z_mg27 (pc := 59) hM rfl dX8_far_59 ?_
          refine z_icmp_lt (pc := 62) 68 dX8_far_62 rfl (fun c62 => ?_) (fun c62 => ?_)
          · refine z_al0 (pc := 68) dX8_far_68 ?_
            refine z_il6 (pc := 69) dX8_far_69 ?_
            refine z_mp27 (pc := 71) hM rfl dX8_far_71 (fun G1 hM1 hF1 => ?_)
            have hF := zF.trans hF hF1
            clear hF1
            replace hM := hM1
            clear hM1
            refine z_al0 (pc := 74) dX8_far_74 ?_
            refine z_il5 (pc := 75) dX8_far_75 ?_
            refine z_il4 (pc := 77) dX8_far_77 ?_
            refine z_imul (pc := 79) dX8_far_79 ?_
            refine z_mp28 (pc := 80) hM rfl dX8_far_80 (fun G1 hM1 hF1 => ?_)
            have hF := zF.trans hF hF1
            clear hF1
            replace hM := hM1
            clear hM1
            first
              | replace hI := hI.yes (keyAt_e k) ‹_›
              | replace hI := hI.no (keyAt_e k) ‹_›
            refine z_ii5 (pc := 83) (3) dX8_far_83 (by decide) (by decide) ?_
            refine z_goto (pc := 86) 26 dX8_far_86 rfl ?_
            refine z_il5 (pc := 26) dX8_far_26 ?_
            refine z_iconst (pc := 28) (2) (by decide) dX8_far_28 ?_
            refine z_icmp_ge (pc := 29) 89 dX8_far_29 rfl (fun c29 => ?_) (fun c29 => absurd (by decide) c29)
            refine z_ii4 (pc := 89) (nI (k + 1 + 1)) dX8_far_89 (nI_1 _) (by decide) ?_
            refine z_goto (pc := 92) 16 dX8_far_92 rfl ?_
            exact ih (k + 1 + 1) _ _ _ _ _ (by omega) hM hF hI
          · refine z_goto (pc := 65) 83 dX8_far_65 rfl ?_
            first
              | replace hI := hI.yes (keyAt_e k) ‹_›
              | replace hI := hI.no (keyAt_e k) ‹_›
            refine z_ii5 (pc := 83) (3) dX8_far_83 (by decide) (by decide) ?_
            refine z_goto (pc := 86) 26 dX8_far_86 rfl ?_
            refine z_il5 (pc := 26) dX8_far_26 ?_
            refine z_iconst (pc := 28) (2) (by decide) dX8_far_28 ?_
            refine z_icmp_ge (pc := 29) 89 dX8_far_29 rfl (fun c29 => ?_) (fun c29 => absurd (by decide) c29)
            refine z_ii4 (pc := 89) (nI (k + 1 + 1)) dX8_far_89 (nI_1 _) (by decide) ?_
            refine z_goto (pc := 92) 16 dX8_far_92 rfl ?_
            exact ih (k + 1 + 1) _ _ _ _ _ (by omega) hM hF hI
  refine z_al0 (pc := 0) dX8_far_0 ?_
  refine z_il1 (pc := 1) dX8_far_1 ?_
  refine z_il2 (pc := 2) dX8_far_2 ?_
  refine z_il3 (pc := 3) dX8_far_3 ?_
  refine z_callVv (pc := 4) _ (c_mReady l t0 u0 nt nu c0 q hM (by omega) (by omega) hlt (by omega) hlu (by omega) hc (by omega)) rfl hM.1 rfl rfl kw_894 zc_X8_ready (by decide) rfl (Nat.le_of_ble_eq_true rfl) dX8_far_4 (fun G1 h => ?_)
  obtain ⟨ar1, hM1, hF1, hR⟩ := h
  have hF := zF.trans hF hF1
  clear hF1
  replace hM := hM1
  clear hM1
  refine z_al0 (pc := 7) dX8_far_7 ?_
  refine z_ldc (pc := 8) kw_898 dX8_far_8 ?_
  refine z_mp27 (pc := 10) hM rfl dX8_far_10 (fun G1 hM1 hF1 => ?_)
  have hF := zF.trans hF hF1
  clear hF1
  replace hM := hM1
  clear hM1
  refine z_iconst (pc := 13) (0) (by decide) dX8_far_13 ?_
  refine z_is4 (pc := 14) dX8_far_14 (by decide) ?_
  exact lp 13 0 _ _ _ _ _ (by omega) hM hF ⟨fun k a1 a2 a3 a4 => by simp only [sup, a1, a2, a3, if_false], rfl, rfl, rfl, fun k a1 a2 a3 a4 _ => hR.1 k a1 a2 a3 a4, hR.2.1, hR.2.2⟩
end
section
/-! the alignment told: columns from the last one back -/
abbrev tw (D c2 : Nat → Nat → Int32) (i j : Nat) : Prop := 0 < i ∧ 0 < j ∧ D (i - 1) (j - 1) + c2 (i - 1) (j - 1) = D i j
abbrev fi (D c2 : Nat → Nat → Int32) (a1 : Nat → Int32) (i j : Nat) : Prop := ¬ tw D c2 i j ∧ 0 < i ∧ D (i - 1) j + a1 (i - 1) = D i j
def nxt (D c2 : Nat → Nat → Int32) (a1 : Nat → Int32) (x : Nat × Nat) : Nat × Nat := if tw D c2 x.1 x.2 then (x.1 - 1, x.2 - 1) else if fi D c2 a1 x.1 x.2 then (x.1 - 1, x.2) else (x.1, x.2 - 1)
def pst (D c2 : Nat → Nat → Int32) (a1 : Nat → Int32) (x0 : Nat × Nat) : Nat → Nat × Nat
  | 0 => x0
  | s + 1 => nxt D c2 a1 (pst D c2 a1 x0 s)
def eT (D c2 : Nat → Nat → Int32) (a1 : Nat → Int32) (x : Nat × Nat) : Int32 := if tw D c2 x.1 x.2 ∨ fi D c2 a1 x.1 x.2 then nI (x.1 - 1) else -1
def eU (D c2 : Nat → Nat → Int32) (a1 : Nat → Int32) (x : Nat × Nat) : Int32 := if fi D c2 a1 x.1 x.2 then -1 else nI (x.2 - 1)
def eC (D c2 : Nat → Nat → Int32) (a1 b1 : Nat → Int32) (x : Nat × Nat) : Int32 := if tw D c2 x.1 x.2 then c2 (x.1 - 1) (x.2 - 1) else if fi D c2 a1 x.1 x.2 then a1 (x.1 - 1) else b1 (x.2 - 1)
def AV (D c2 : Nat → Nat → Int32) (a1 b1 : Nat → Int32) (nt nu : Nat) (arP ar1 : Nat → Nat → Int32) (s i j : Nat) : Prop :=
  (∀ k, k ≠ 29 → k ≠ 30 → k ≠ 31 → ar1 k = arP k) ∧ (i, j) = pst D c2 a1 (nt, nu) s ∧ s + i + j ≤ nt + nu ∧ i ≤ nt ∧ j ≤ nu ∧ ∀ a, a < s → pst D c2 a1 (nt, nu) a ≠ (0, 0) ∧ ar1 29 a = eT D c2 a1 (pst D c2 a1 (nt, nu) a) ∧ ar1 30 a = eU D c2 a1 (pst D c2 a1 (nt, nu) a) ∧ ar1 31 a = eC D c2 a1 b1 (pst D c2 a1 (nt, nu) a)
theorem AV.step {D c2 : Nat → Nat → Int32} {a1 b1 : Nat → Int32} {nt nu : Nat} {arP ar1 : Nat → Nat → Int32} {s i j i2 j2 : Nat} {v1 v2 v3 : Int32} (h : AV D c2 a1 b1 nt nu arP ar1 s i j) (hn : (i, j) ≠ (0, 0)) (hx : nxt D c2 a1 (i, j) = (i2, j2)) (hd : i2 + j2 + 1 ≤ i + j ∧ i2 ≤ i ∧ j2 ≤ j)
    (e1 : v1 = eT D c2 a1 (i, j)) (e2 : v2 = eU D c2 a1 (i, j)) (e3 : v3 = eC D c2 a1 b1 (i, j)) : AV D c2 a1 b1 nt nu arP (aup (aup (aup ar1 29 s v1) 30 s v2) 31 s v3) (s + 1) i2 j2 := by
  obtain ⟨h1, h2, h3, h4, h5, h6⟩ := h
  refine ⟨fun k q1 q2 q3 => by simp [aup, q1, q2, q3, h1], ?_, by omega, by omega, by omega, fun a ha => ?_⟩
  · show _ = nxt D c2 a1 (pst D c2 a1 (nt, nu) s)
    rw [← h2, hx]
  · by_cases q : a = s
    · subst q
      rw [← h2]
      refine ⟨hn, ?_, ?_, ?_⟩ <;> simp [aup, upd, e1, e2, e3]
    · have := h6 a (by omega)
      refine ⟨this.1, ?_, ?_, ?_⟩ <;> simp [aup, upd, q, this]
theorem st_t {D c2 : Nat → Nat → Int32} {a1 b1 : Nat → Int32} {i j : Nat} (h : tw D c2 i j) : nxt D c2 a1 (i, j) = (i - 1, j - 1) ∧ eT D c2 a1 (i, j) = nI (i - 1) ∧ eU D c2 a1 (i, j) = nI (j - 1) ∧ eC D c2 a1 b1 (i, j) = c2 (i - 1) (j - 1) := by
  have hf : ¬ fi D c2 a1 i j := fun q => q.1 h
  exact ⟨if_pos h, if_pos (Or.inl h), if_neg hf, if_pos h⟩
theorem st_f {D c2 : Nat → Nat → Int32} {a1 b1 : Nat → Int32} {i j : Nat} (h : fi D c2 a1 i j) : nxt D c2 a1 (i, j) = (i - 1, j) ∧ eT D c2 a1 (i, j) = nI (i - 1) ∧ eU D c2 a1 (i, j) = -1 ∧ eC D c2 a1 b1 (i, j) = a1 (i - 1) :=
  ⟨(if_neg h.1).trans (if_pos h), if_pos (Or.inr h), if_pos h, (if_neg h.1).trans (if_pos h)⟩
theorem st_n {D c2 : Nat → Nat → Int32} {a1 b1 : Nat → Int32} {i j : Nat} (h : ¬ tw D c2 i j) (hf : ¬ fi D c2 a1 i j) : nxt D c2 a1 (i, j) = (i, j - 1) ∧ eT D c2 a1 (i, j) = -1 ∧ eU D c2 a1 (i, j) = nI (j - 1) ∧ eC D c2 a1 b1 (i, j) = b1 (j - 1) :=
  ⟨(if_neg h).trans (if_neg hf), if_neg (fun q => q.elim h hf), if_neg hf, (if_neg h).trans (if_neg hf)⟩
theorem sup_sup (sc : Nat → Int32) (k : Nat) (a b : Int32) : sup (sup sc k a) k b = sup sc k b := by
  funext j
  unfold sup
  split <;> rfl
/-- what lasts from call to call -/
def PS (sc : Nat → Int32) (ar : Nat → Nat → Int32) (sc2 : Nat → Int32) (ar2 : Nat → Nat → Int32) : Prop := (∀ k, 16 ≤ k → k < 20 → sc2 k = sc k) ∧ ∀ k, 1 ≤ k → k < 16 → ar2 k = ar k
theorem PS.rf {sc : Nat → Int32} {ar : Nat → Nat → Int32} : PS sc ar sc ar := ⟨fun _ _ _ => rfl, fun _ _ _ => rfl⟩
theorem PS.trans {sc sc2 sc3 : Nat → Int32} {ar ar2 ar3 : Nat → Nat → Int32} (h : PS sc ar sc2 ar2) (g : PS sc2 ar2 sc3 ar3) : PS sc ar sc3 ar3 := ⟨fun k a b => (g.1 k a b).trans (h.1 k a b), fun k a b => (g.2 k a b).trans (h.2 k a b)⟩
theorem PS.sc0 {sc : Nat → Int32} {ar : Nat → Nat → Int32} (k : Nat) (v : Int32) (hk : k < 16 ∨ 20 ≤ k) : PS sc ar (sup sc k v) ar := ⟨fun j a b => by unfold sup; rw [if_neg (by omega)], fun _ _ _ => rfl⟩
theorem FI.ps {sc sc1 : Nat → Int32} {ar ar1 : Nat → Nat → Int32} {t0 u0 nt nu c0 N : Nat} {q : Int32} (h : FI sc ar sc1 ar1 t0 u0 nt nu c0 q N) : PS sc ar sc1 ar1 := ⟨fun k a b => h.1 k (by omega) (by omega) (by omega) (by omega), fun k a b => h.2.2.2.2.1 k (by omega) (by omega) (by omega) (by omega) (by omega)⟩
/-- dp, column by column, of two tunes as known -/
def dD (ar : Nat → Nat → Int32) (c0 : Nat) (q : Int32) (t0 u0 : Nat) (key : Int32) (i j : Nat) : Int32 := dp (ar 15) (fun i => kn ar t0 i q false c0) (fun i => kn ar t0 i q true c0) (fun i => kn ar u0 i q false c0) (fun i => kn ar u0 i q true c0) key i j
def dC (ar : Nat → Nat → Int32) (c0 : Nat) (q : Int32) (t0 u0 : Nat) (key : Int32) (i j : Nat) : Int32 := co2 (ar 15) (kn ar t0 i q false c0) (kn ar t0 i q true c0) (kn ar u0 j q false c0) (kn ar u0 j q true c0) key
def dA (ar : Nat → Nat → Int32) (c0 : Nat) (q : Int32) (t0 : Nat) (i : Nat) : Int32 := co1 (ar 15) (kn ar t0 i q false c0)
theorem dD_00 (ar : Nat → Nat → Int32) (c0 : Nat) (q : Int32) (t0 u0 : Nat) (key : Int32) (i : Nat) : dD ar c0 q t0 u0 key i 0 + dA ar c0 q t0 i = dD ar c0 q t0 u0 key (i + 1) 0 := rfl
/-- what align leaves: the columns of the alignment told, s0 of them -/
def AL (sc : Nat → Int32) (ar : Nat → Nat → Int32) (sc2 : Nat → Int32) (ar2 : Nat → Nat → Int32) (t0 u0 nt nu c0 : Nat) (q key : Int32) (s0 : Nat) : Prop :=
  PS sc ar sc2 ar2 ∧ sc2 28 = key ∧ sc2 32 = nI s0 ∧ (∀ a, a < nt → ar2 20 a = kn ar t0 a q false c0) ∧ (∀ a, a < nu → ar2 22 a = kn ar u0 a q false c0) ∧
  ∃ arP, AV (dD ar c0 q t0 u0 key) (dC ar c0 q t0 u0 key) (dA ar c0 q t0) (dA ar c0 q u0) nt nu arP ar2 s0 0 0
abbrev rX8_align : Room := rmK 4 0 0 94
set_option maxRecDepth 100000 in
set_option maxHeartbeats 400000 in
theorem c_mAlign (l : Launch) {κ : zK} {G : zH} {x : Nat} {ad : Nat → Nat} {sc : Nat → Int32} {ar : Nat → Nat → Int32} (t0 u0 nt nu c0 : Nat) (q : Int32) (hM : RM κ G x ad sc ar) (ht : t0 < 20) (hu : u0 < 20) (hlt : ar 4 t0 = nI nt) (hnt : nt ≤ 24) (hlu : ar 4 u0 = nI nu) (hnu : nu ≤ 24) (hc : sc 17 = nI c0) (hc2 : c0 ≤ 200) : Ct l yX8_align cX8_align 10 none rX8_align κ [.ref x, .int (nI t0), .int (nI u0), .int q] G (pV (fun G2 => ∃ sc2 ar2 s0, RM κ G2 x ad sc2 ar2 ∧ zF 1 G G2 ∧ AL sc ar sc2 ar2 t0 u0 nt nu c0 q (tl (fun n => dK ar c0 q t0 u0 nt nu (keyAt n)) (sc 28) 25).2 s0)) := by
  refine Ct.of (by decide +kernel) (fun v hv => by
    simp only [List.mem_cons, List.mem_nil_iff, or_false, List.not_mem_nil] at hv
    rcases hv with rfl | rfl | rfl | rfl <;> rfl) (Nat.le_of_ble_eq_true rfl) ?_
  intro p e s m args below meth cC
  refine z_L (L' := [some (.ref x), some (.int (nI t0)), some (.int (nI u0)), some (.int q), none, none, none, none, none, none]) rfl ?_
  generalize hQx : MQ below (zQc κ _) args s _ _ (zA κ) = Qx
  have hF : zF 1 G G := zF.rf
  refine z_al0 (pc := 0) dX8_align_0 ?_
  refine z_il1 (pc := 1) dX8_align_1 ?_
  refine z_il2 (pc := 2) dX8_align_2 ?_
  refine z_il3 (pc := 3) dX8_align_3 ?_
  refine z_callVi (pc := 4) _ (c_mFar l t0 u0 nt nu c0 q hM (by omega) (by omega) hlt (by omega) hlu (by omega) hc (by omega)) rfl hM.1 rfl rfl kw_890 zc_X8_far (by decide) rfl (Nat.le_of_ble_eq_true rfl) dX8_align_4 (fun r G1 h => ?_)
  obtain ⟨sc1, ar1, rfl, hM1, hF1, hI⟩ := h
  have hF := zF.trans hF hF1
  clear hF1
  replace hM := hM1
  clear hM1
  refine z_is4 (pc := 7) dX8_align_7 (by decide) ?_
  refine z_al0 (pc := 9) dX8_align_9 ?_
  refine z_al0 (pc := 10) dX8_align_10 ?_
  refine z_mg28 (pc := 11) hM rfl dX8_align_11 ?_
  refine z_callVi (pc := 14) _ (c_mLay l nt nu _ hM hI.2.1 (by omega) hI.2.2.1 (by omega)) rfl hM.1 rfl rfl kw_899 zc_X8_lay (by decide) rfl (Nat.le_of_ble_eq_true rfl) dX8_align_14 (fun r G1 h => ?_)
  obtain ⟨rfl, arP, hM1, hF1, hL1, hT1⟩ := h
  have hF := zF.trans hF hF1
  clear hF1
  replace hM := hM1
  clear hM1
  refine z_is4 (pc := 17) dX8_align_17 (by decide) ?_
  refine z_al0 (pc := 19) dX8_align_19 ?_
  refine z_iconst (pc := 20) (0) (by decide) dX8_align_20 ?_
  refine z_mp32 (pc := 21) hM rfl dX8_align_21 (fun G1 hM1 hF1 => ?_)
  have hF := zF.trans hF hF1
  clear hF1
  replace hM := hM1
  clear hM1
  refine z_al0 (pc := 24) dX8_align_24 ?_
  refine z_mg25 (pc := 25) hM rfl dX8_align_25 ?_
  rw [show sup sc1 32 0 25 = nI nt from hI.2.1]
  refine z_is5 (pc := 28) dX8_align_28 (by decide) ?_
  refine z_al0 (pc := 30) dX8_align_30 ?_
  refine z_mg26 (pc := 31) hM rfl dX8_align_31 ?_
  rw [show sup sc1 32 0 26 = nI nu from hI.2.2.1]
  refine z_is6 (pc := 34) dX8_align_34 (by decide) ?_
  have hkey : sc1 28 = (tl (fun n => dK ar c0 q t0 u0 nt nu (keyAt n)) (sc 28) 25).2 := by rw [← hI.2.2.2.1]
  generalize hKK : (tl (fun n => dK ar c0 q t0 u0 nt nu (keyAt n)) (sc 28) 25).2 = key at hkey ⊢
  rw [hkey] at hT1
  have h15 : arP 15 = ar 15 := by rw [hL1 15 (by omega)]; exact hI.2.2.2.2.1 15 (by omega) (by omega) (by omega) (by omega) (by omega)
  have hT : ∀ a b, a ≤ nt → b ≤ nu → arP 24 (25 * a + b) = dD ar c0 q t0 u0 key a b := fun a b ha hb => by rw [hT1 a b ha hb]; exact hI.dp key a b ha hb
  have h2t : ∀ a, a < nt → arP 20 a = kn ar t0 a q false c0 ∧ arP 21 a = kn ar t0 a q true c0 := fun a ha => by rw [hL1 20 (by omega), hL1 21 (by omega)]; exact hI.2.2.2.2.2.1 a ha
  have h2u : ∀ a, a < nu → arP 22 a = kn ar u0 a q false c0 ∧ arP 23 a = kn ar u0 a q true c0 := fun a ha => by rw [hL1 22 (by omega), hL1 23 (by omega)]; exact hI.2.2.2.2.2.2 a ha
  have hps : ∀ (s0 : Nat) (ar1 : Nat → Nat → Int32), (∀ k, k ≠ 29 → k ≠ 30 → k ≠ 31 → ar1 k = arP k) → PS sc ar (sup sc1 32 (nI s0)) ar1 := fun s0 ar1 hv => hI.ps.trans ⟨fun k a b => by unfold sup; rw [if_neg (by omega)], fun k a b => by rw [hv k (by omega) (by omega) (by omega), hL1 k (by omega)]⟩
  have lp : ∀ (d s0 i j : Nat) (G1 : zH) (ar1 : Nat → Nat → Int32) (w4 w7 w8 w9 : Option Value), i + j ≤ d → RM κ G1 x ad (sup sc1 32 (nI s0)) ar1 → zF 1 G G1 → AV (dD ar c0 q t0 u0 key) (dC ar c0 q t0 u0 key) (dA ar c0 q t0) (dA ar c0 q u0) nt nu arP ar1 s0 i j → Z p l e rX8_align s m args below meth cC yX8_align cX8_align 10 none κ Qx 0 0 G1 [some (.ref x), some (.int (nI t0)), some (.int (nI u0)), some (.int q), w4, some (.int (nI i)), some (.int (nI j)), w7, w8, w9] 36 [] := by
    intro d
    induction d with
    | zero =>
      intro s0 i j G1 ar1 w4 w7 w8 w9 hij hM hF hV
      obtain rfl : i = 0 := by omega
      obtain rfl : j = 0 := by omega
      refine z_il5 (pc := 36) dX8_align_36 ?_
      refine z_if_gt (pc := 38) 46 dX8_align_38 rfl (fun c38 => absurd c38 (by rw [nI_0]; decide)) (fun c38 => ?_)
      refine z_il6 (pc := 41) dX8_align_41 ?_
      refine z_if_le (pc := 43) 318 dX8_align_43 rfl (fun c43 => ?_) (fun c43 => absurd (by rw [nI_0]; exact Int32.le_refl _) c43)
      rw [← hQx]
      refine z_vret (pc := 318) rfl (by decide) dX8_align_318 (by rw [hKK]; exact ⟨rfl, _, _, s0, hM, hF, hps s0 ar1 hV.1, hkey, rfl, fun a ha => (congrFun (hV.1 20 (by omega) (by omega) (by omega)) a).trans (h2t a ha).1, fun a ha => (congrFun (hV.1 22 (by omega) (by omega) (by omega)) a).trans (h2u a ha).1, arP, hV⟩)
    | succ d ih =>
      intro s0 i j G1 ar1 w4 w7 w8 w9 hij hM hF hV
      have hV3 := hV.2.2.1
      have hV4 := hV.2.2.2.1
      have hV5 := hV.2.2.2.2.1
      rcases i with _ | i
      · rcases j with _ | j
        · refine z_il5 (pc := 36) dX8_align_36 ?_
          refine z_if_gt (pc := 38) 46 dX8_align_38 rfl (fun c38 => absurd c38 (by rw [nI_0]; decide)) (fun c38 => ?_)
          refine z_il6 (pc := 41) dX8_align_41 ?_
          refine z_if_le (pc := 43) 318 dX8_align_43 rfl (fun c43 => ?_) (fun c43 => absurd (by rw [nI_0]; exact Int32.le_refl _) c43)
          rw [← hQx]
          refine z_vret (pc := 318) rfl (by decide) dX8_align_318 (by rw [hKK]; exact ⟨rfl, _, _, s0, hM, hF, hps s0 ar1 hV.1, hkey, rfl, fun a ha => (congrFun (hV.1 20 (by omega) (by omega) (by omega)) a).trans (h2t a ha).1, fun a ha => (congrFun (hV.1 22 (by omega) (by omega) (by omega)) a).trans (h2u a ha).1, arP, hV⟩)
        · refine z_il5 (pc := 36) dX8_align_36 ?_
          refine z_if_gt (pc := 38) 46 dX8_align_38 rfl (fun c38 => absurd c38 (by rw [nI_0]; decide)) (fun c38 => ?_)
          refine z_il6 (pc := 41) dX8_align_41 ?_
          refine z_if_le (pc := 43) 318 dX8_align_43 rfl (fun c43 => absurd c43 (nI_nle (by omega) (by omega))) (fun c43 => ?_)
          refine z_al0 (pc := 46) dX8_align_46 ?_
          refine z_mg24 (pc := 47) hM rfl dX8_align_47 ?_
          refine z_bipush (pc := 50) (25) (by decide) dX8_align_50 ?_
          refine z_il5 (pc := 52) dX8_align_52 ?_
          refine z_imul (pc := 54) dX8_align_54 ?_
          refine z_il6 (pc := 55) dX8_align_55 ?_
          refine z_iadd (pc := 57) dX8_align_57 ?_
          refine z_mld (pc := 58) 24 625 hM rfl (by decide) (ix25 _ _) (by omega) dX8_align_58 ?_
          rw [hV.1 24 (by omega) (by omega) (by omega), hT 0 (j + 1) (by omega) (by omega)]
          refine z_is7 (pc := 59) dX8_align_59 (by decide) ?_
          refine z_il5 (pc := 61) dX8_align_61 ?_
          refine z_if_le (pc := 63) 114 dX8_align_63 rfl (fun c63 => ?_) (fun c63 => absurd (by rw [nI_0]; exact Int32.le_refl _) c63)
          refine z_iconst (pc := 114) (0) (by decide) dX8_align_114 ?_
          refine z_is8 (pc := 115) dX8_align_115 (by decide) ?_
          refine z_il8 (pc := 117) dX8_align_117 ?_
          refine z_if_ne (pc := 119) 165 dX8_align_119 rfl (fun h => absurd h (by decide)) (fun _ => ?_)
          refine z_il5 (pc := 122) dX8_align_122 ?_
          refine z_if_le (pc := 124) 165 dX8_align_124 rfl (fun c124 => ?_) (fun c124 => absurd (by rw [nI_0]; exact Int32.le_refl _) c124)
          refine z_iconst (pc := 165) (0) (by decide) dX8_align_165 ?_
          refine z_is9 (pc := 166) dX8_align_166 (by decide) ?_
          refine z_al0 (pc := 168) dX8_align_168 ?_
          refine z_mg29 (pc := 169) hM rfl dX8_align_169 ?_
          refine z_al0 (pc := 172) dX8_align_172 ?_
          refine z_mg32 (pc := 173) hM rfl dX8_align_173 ?_
          rw [show sup sc1 32 (nI s0) 32 = nI s0 from rfl]
          refine z_il8 (pc := 176) dX8_align_176 ?_
          refine z_if_ne (pc := 178) 186 dX8_align_178 rfl (fun h => absurd h (by decide)) (fun _ => ?_)
          refine z_il9 (pc := 181) dX8_align_181 ?_
          refine z_if_eq (pc := 183) 193 dX8_align_183 rfl (fun _ => ?_) (fun h => absurd (by decide) h)
          refine z_iconst (pc := 193) (-1) (by decide) dX8_align_193 ?_
          refine z_mst (pc := 194) 29 48 hM rfl (by decide) rfl (by omega) dX8_align_194 (fun G1 hM1 hF1 => ?_)
          have hF := zF.trans hF hF1
          clear hF1
          replace hM := hM1
          clear hM1
          refine z_al0 (pc := 195) dX8_align_195 ?_
          refine z_mg30 (pc := 196) hM rfl dX8_align_196 ?_
          refine z_al0 (pc := 199) dX8_align_199 ?_
          refine z_mg32 (pc := 200) hM rfl dX8_align_200 ?_
          rw [show sup sc1 32 (nI s0) 32 = nI s0 from rfl]
          refine z_il9 (pc := 203) dX8_align_203 ?_
          refine z_if_eq (pc := 205) 212 dX8_align_205 rfl (fun _ => ?_) (fun h => absurd (by decide) h)
          refine z_il6 (pc := 212) dX8_align_212 ?_
          refine z_iconst (pc := 214) (1) (by decide) dX8_align_214 ?_
          refine z_isub (pc := 215) dX8_align_215 ?_
          rw [nI_pred]
          refine z_mst (pc := 216) 30 48 hM rfl (by decide) rfl (by omega) dX8_align_216 (fun G1 hM1 hF1 => ?_)
          have hF := zF.trans hF hF1
          clear hF1
          replace hM := hM1
          clear hM1
          skip
          refine z_al0 (pc := 217) dX8_align_217 ?_
          refine z_mg31 (pc := 218) hM rfl dX8_align_218 ?_
          refine z_al0 (pc := 221) dX8_align_221 ?_
          refine z_mg32 (pc := 222) hM rfl dX8_align_222 ?_
          rw [show sup sc1 32 (nI s0) 32 = nI s0 from rfl]
          refine z_il8 (pc := 225) dX8_align_225 ?_
          refine z_if_eq (pc := 227) 249 dX8_align_227 rfl (fun _ => ?_) (fun h => absurd (by decide) h)
          refine z_il9 (pc := 249) dX8_align_249 ?_
          refine z_if_eq (pc := 251) 270 dX8_align_251 rfl (fun _ => ?_) (fun h => absurd (by decide) h)
          refine z_al0 (pc := 270) dX8_align_270 ?_
          refine z_al0 (pc := 271) dX8_align_271 ?_
          refine z_mg22 (pc := 272) hM rfl dX8_align_272 ?_
          refine z_il6 (pc := 275) dX8_align_275 ?_
          refine z_iconst (pc := 277) (1) (by decide) dX8_align_277 ?_
          refine z_isub (pc := 278) dX8_align_278 ?_
          rw [nI_pred]
          refine z_mld (pc := 279) 22 24 hM rfl (by decide) rfl (by omega) dX8_align_279 ?_
          refine z_callVr (pc := 280) (c_mAlone l _ hM) hM.1 rfl rfl kw_911 zc_X8_alone (by decide) (by decide) rfl (Nat.le_of_ble_eq_true rfl) dX8_align_280 ?_
          simp only [aup, reduceIte, Nat.reduceEqDiff]
          rw [hV.1 15 (by omega) (by omega) (by omega), hV.1 22 (by omega) (by omega) (by omega), h15, (h2u j (by omega)).1]
          rw [show co1 (ar 15) _ = dA ar c0 q u0 j from rfl]
          refine z_mst (pc := 283) 31 48 hM rfl (by decide) rfl (by omega) dX8_align_283 (fun G1 hM1 hF1 => ?_)
          have hF := zF.trans hF hF1
          clear hF1
          replace hM := hM1
          clear hM1
          refine z_il8 (pc := 284) dX8_align_284 ?_
          refine z_if_ne (pc := 286) 294 dX8_align_286 rfl (fun h => absurd h (by decide)) (fun _ => ?_)
          refine z_il9 (pc := 289) dX8_align_289 ?_
          refine z_if_eq (pc := 291) 297 dX8_align_291 rfl (fun _ => ?_) (fun h => absurd (by decide) h)
          refine z_il9 (pc := 297) dX8_align_297 ?_
          refine z_if_ne (pc := 299) 305 dX8_align_299 rfl (fun h => absurd h (by decide)) (fun _ => ?_)
          skip
          refine z_ii6 (pc := 302) (nI j) dX8_align_302 (pk_m1 _) (by decide) ?_
          refine z_al0 (pc := 305) dX8_align_305 ?_
          refine z_dup (pc := 306) rfl dX8_align_306 ?_
          refine z_mg32 (pc := 307) hM rfl dX8_align_307 ?_
          refine z_iconst (pc := 310) (1) (by decide) dX8_align_310 ?_
          refine z_iadd (pc := 311) dX8_align_311 ?_
          rw [show sup sc1 32 (nI s0) 32 + 1 = nI (s0 + 1) from nI_1 s0]
          refine z_mp32 (pc := 312) hM rfl dX8_align_312 (fun G1 hM1 hF1 => ?_)
          have hF := zF.trans hF hF1
          clear hF1
          replace hM := hM1
          clear hM1
          rw [sup_sup] at hM
          refine z_goto (pc := 315) 36 dX8_align_315 rfl ?_
          have ht : ¬ tw (dD ar c0 q t0 u0 key) (dC ar c0 q t0 u0 key) 0 (j + 1) := fun h => by have := h.1; omega
          have hf : ¬ fi (dD ar c0 q t0 u0 key) (dC ar c0 q t0 u0 key) (dA ar c0 q t0) 0 (j + 1) := fun h => by have := h.2.1; omega
          refine ih (s0 + 1) 0 j _ _ _ _ _ _ (by omega) hM hF (hV.step (i2 := 0) (j2 := j) (by simp) (st_n (b1 := dA ar c0 q u0) ht hf).1 (by omega) (st_n (b1 := dA ar c0 q u0) ht hf).2.1.symm (st_n (b1 := dA ar c0 q u0) ht hf).2.2.1.symm (st_n (b1 := dA ar c0 q u0) ht hf).2.2.2.symm)
      · rcases j with _ | j
        · refine z_il5 (pc := 36) dX8_align_36 ?_
          refine z_if_gt (pc := 38) 46 dX8_align_38 rfl (fun c38 => ?_) (fun c38 => absurd (by rw [Int32.lt_iff_toInt_lt, nI_toInt (by omega), i_0]; omega) c38)
          refine z_al0 (pc := 46) dX8_align_46 ?_
          refine z_mg24 (pc := 47) hM rfl dX8_align_47 ?_
          refine z_bipush (pc := 50) (25) (by decide) dX8_align_50 ?_
          refine z_il5 (pc := 52) dX8_align_52 ?_
          refine z_imul (pc := 54) dX8_align_54 ?_
          refine z_il6 (pc := 55) dX8_align_55 ?_
          refine z_iadd (pc := 57) dX8_align_57 ?_
          refine z_mld (pc := 58) 24 625 hM rfl (by decide) (ix25 _ _) (by omega) dX8_align_58 ?_
          rw [hV.1 24 (by omega) (by omega) (by omega), hT (i + 1) 0 (by omega) (by omega)]
          refine z_is7 (pc := 59) dX8_align_59 (by decide) ?_
          refine z_il5 (pc := 61) dX8_align_61 ?_
          refine z_if_le (pc := 63) 114 dX8_align_63 rfl (fun c63 => absurd c63 (nI_nle (by omega) (by omega))) (fun c63 => ?_)
          refine z_il6 (pc := 66) dX8_align_66 ?_
          refine z_if_le (pc := 68) 114 dX8_align_68 rfl (fun c68 => ?_) (fun c68 => absurd (by rw [nI_0]; exact Int32.le_refl _) c68)
          refine z_iconst (pc := 114) (0) (by decide) dX8_align_114 ?_
          refine z_is8 (pc := 115) dX8_align_115 (by decide) ?_
          refine z_il8 (pc := 117) dX8_align_117 ?_
          refine z_if_ne (pc := 119) 165 dX8_align_119 rfl (fun h => absurd h (by decide)) (fun _ => ?_)
          refine z_il5 (pc := 122) dX8_align_122 ?_
          refine z_if_le (pc := 124) 165 dX8_align_124 rfl (fun c124 => absurd c124 (nI_nle (by omega) (by omega))) (fun c124 => ?_)
          refine z_al0 (pc := 127) dX8_align_127 ?_
          refine z_mg24 (pc := 128) hM rfl dX8_align_128 ?_
          refine z_bipush (pc := 131) (25) (by decide) dX8_align_131 ?_
          refine z_il5 (pc := 133) dX8_align_133 ?_
          refine z_iconst (pc := 135) (1) (by decide) dX8_align_135 ?_
          refine z_isub (pc := 136) dX8_align_136 ?_
          rw [nI_pred]
          refine z_imul (pc := 137) dX8_align_137 ?_
          refine z_il6 (pc := 138) dX8_align_138 ?_
          refine z_iadd (pc := 140) dX8_align_140 ?_
          rw [ix25]
          refine z_mld (pc := 141) 24 625 hM rfl (by decide) rfl (by omega) dX8_align_141 ?_
          rw [hV.1 24 (by omega) (by omega) (by omega), hT i 0 (by omega) (by omega)]
          refine z_al0 (pc := 142) dX8_align_142 ?_
          refine z_al0 (pc := 143) dX8_align_143 ?_
          refine z_mg20 (pc := 144) hM rfl dX8_align_144 ?_
          refine z_il5 (pc := 147) dX8_align_147 ?_
          refine z_iconst (pc := 149) (1) (by decide) dX8_align_149 ?_
          refine z_isub (pc := 150) dX8_align_150 ?_
          rw [nI_pred]
          refine z_mld (pc := 151) 20 24 hM rfl (by decide) rfl (by omega) dX8_align_151 ?_
          refine z_callVr (pc := 152) (c_mAlone l _ hM) hM.1 rfl rfl kw_911 zc_X8_alone (by decide) (by decide) rfl (Nat.le_of_ble_eq_true rfl) dX8_align_152 ?_
          rw [hV.1 15 (by omega) (by omega) (by omega), hV.1 20 (by omega) (by omega) (by omega), h15, (h2t i (by omega)).1]
          rw [show co1 (ar 15) _ = dA ar c0 q t0 i from rfl]
          refine z_iadd (pc := 155) dX8_align_155 ?_
          refine z_il7 (pc := 156) dX8_align_156 ?_
          refine z_icmp_ne (pc := 158) 165 dX8_align_158 rfl (fun c158 => absurd c158 (fun h => h (dD_00 ar c0 q t0 u0 key i))) (fun c158 => ?_)
          refine z_iconst (pc := 161) (1) (by decide) dX8_align_161 ?_
          refine z_goto (pc := 162) 166 dX8_align_162 rfl ?_
          refine z_is9 (pc := 166) dX8_align_166 (by decide) ?_
          refine z_al0 (pc := 168) dX8_align_168 ?_
          refine z_mg29 (pc := 169) hM rfl dX8_align_169 ?_
          refine z_al0 (pc := 172) dX8_align_172 ?_
          refine z_mg32 (pc := 173) hM rfl dX8_align_173 ?_
          rw [show sup sc1 32 (nI s0) 32 = nI s0 from rfl]
          refine z_il8 (pc := 176) dX8_align_176 ?_
          refine z_if_ne (pc := 178) 186 dX8_align_178 rfl (fun h => absurd h (by decide)) (fun _ => ?_)
          refine z_il9 (pc := 181) dX8_align_181 ?_
          refine z_if_eq (pc := 183) 193 dX8_align_183 rfl (fun h => absurd h (by decide)) (fun _ => ?_)
          refine z_il5 (pc := 186) dX8_align_186 ?_
          refine z_iconst (pc := 188) (1) (by decide) dX8_align_188 ?_
          refine z_isub (pc := 189) dX8_align_189 ?_
          rw [nI_pred]
          refine z_goto (pc := 190) 194 dX8_align_190 rfl ?_
          refine z_mst (pc := 194) 29 48 hM rfl (by decide) rfl (by omega) dX8_align_194 (fun G1 hM1 hF1 => ?_)
          have hF := zF.trans hF hF1
          clear hF1
          replace hM := hM1
          clear hM1
          refine z_al0 (pc := 195) dX8_align_195 ?_
          refine z_mg30 (pc := 196) hM rfl dX8_align_196 ?_
          refine z_al0 (pc := 199) dX8_align_199 ?_
          refine z_mg32 (pc := 200) hM rfl dX8_align_200 ?_
          rw [show sup sc1 32 (nI s0) 32 = nI s0 from rfl]
          refine z_il9 (pc := 203) dX8_align_203 ?_
          refine z_if_eq (pc := 205) 212 dX8_align_205 rfl (fun h => absurd h (by decide)) (fun _ => ?_)
          refine z_iconst (pc := 208) (-1) (by decide) dX8_align_208 ?_
          refine z_goto (pc := 209) 216 dX8_align_209 rfl ?_
          skip
          refine z_mst (pc := 216) 30 48 hM rfl (by decide) rfl (by omega) dX8_align_216 (fun G1 hM1 hF1 => ?_)
          have hF := zF.trans hF hF1
          clear hF1
          replace hM := hM1
          clear hM1
          skip
          refine z_al0 (pc := 217) dX8_align_217 ?_
          refine z_mg31 (pc := 218) hM rfl dX8_align_218 ?_
          refine z_al0 (pc := 221) dX8_align_221 ?_
          refine z_mg32 (pc := 222) hM rfl dX8_align_222 ?_
          rw [show sup sc1 32 (nI s0) 32 = nI s0 from rfl]
          refine z_il8 (pc := 225) dX8_align_225 ?_
          refine z_if_eq (pc := 227) 249 dX8_align_227 rfl (fun _ => ?_) (fun h => absurd (by decide) h)
          refine z_il9 (pc := 249) dX8_align_249 ?_
          refine z_if_eq (pc := 251) 270 dX8_align_251 rfl (fun h => absurd h (by decide)) (fun _ => ?_)
          refine z_al0 (pc := 254) dX8_align_254 ?_
          refine z_al0 (pc := 255) dX8_align_255 ?_
          refine z_mg20 (pc := 256) hM rfl dX8_align_256 ?_
          refine z_il5 (pc := 259) dX8_align_259 ?_
          refine z_iconst (pc := 261) (1) (by decide) dX8_align_261 ?_
          refine z_isub (pc := 262) dX8_align_262 ?_
          rw [nI_pred]
          refine z_mld (pc := 263) 20 24 hM rfl (by decide) rfl (by omega) dX8_align_263 ?_
          refine z_callVr (pc := 264) (c_mAlone l _ hM) hM.1 rfl rfl kw_911 zc_X8_alone (by decide) (by decide) rfl (Nat.le_of_ble_eq_true rfl) dX8_align_264 ?_
          simp only [aup, reduceIte, Nat.reduceEqDiff]
          rw [hV.1 15 (by omega) (by omega) (by omega), hV.1 20 (by omega) (by omega) (by omega), h15, (h2t i (by omega)).1]
          rw [show co1 (ar 15) _ = dA ar c0 q t0 i from rfl]
          refine z_goto (pc := 267) 283 dX8_align_267 rfl ?_
          skip
          refine z_mst (pc := 283) 31 48 hM rfl (by decide) rfl (by omega) dX8_align_283 (fun G1 hM1 hF1 => ?_)
          have hF := zF.trans hF hF1
          clear hF1
          replace hM := hM1
          clear hM1
          refine z_il8 (pc := 284) dX8_align_284 ?_
          refine z_if_ne (pc := 286) 294 dX8_align_286 rfl (fun h => absurd h (by decide)) (fun _ => ?_)
          refine z_il9 (pc := 289) dX8_align_289 ?_
          refine z_if_eq (pc := 291) 297 dX8_align_291 rfl (fun h => absurd h (by decide)) (fun _ => ?_)
          refine z_ii5 (pc := 294) (nI i) dX8_align_294 (pk_m1 _) (by decide) ?_
          refine z_il9 (pc := 297) dX8_align_297 ?_
          refine z_if_ne (pc := 299) 305 dX8_align_299 rfl (fun _ => ?_) (fun h => absurd h (by decide))
          refine z_al0 (pc := 305) dX8_align_305 ?_
          refine z_dup (pc := 306) rfl dX8_align_306 ?_
          refine z_mg32 (pc := 307) hM rfl dX8_align_307 ?_
          refine z_iconst (pc := 310) (1) (by decide) dX8_align_310 ?_
          refine z_iadd (pc := 311) dX8_align_311 ?_
          rw [show sup sc1 32 (nI s0) 32 + 1 = nI (s0 + 1) from nI_1 s0]
          refine z_mp32 (pc := 312) hM rfl dX8_align_312 (fun G1 hM1 hF1 => ?_)
          have hF := zF.trans hF hF1
          clear hF1
          replace hM := hM1
          clear hM1
          rw [sup_sup] at hM
          refine z_goto (pc := 315) 36 dX8_align_315 rfl ?_
          have ht : ¬ tw (dD ar c0 q t0 u0 key) (dC ar c0 q t0 u0 key) (i + 1) 0 := fun h => by have := h.2.1; omega
          have hf : fi (dD ar c0 q t0 u0 key) (dC ar c0 q t0 u0 key) (dA ar c0 q t0) (i + 1) 0 := ⟨ht, by omega, dD_00 ar c0 q t0 u0 key i⟩
          refine ih (s0 + 1) i 0 _ _ _ _ _ _ (by omega) hM hF (hV.step (i2 := i) (j2 := 0) (by simp) (st_f (b1 := dA ar c0 q u0) hf).1 (by omega) (st_f (b1 := dA ar c0 q u0) hf).2.1.symm (st_f (b1 := dA ar c0 q u0) hf).2.2.1.symm (st_f (b1 := dA ar c0 q u0) hf).2.2.2.symm)
        · refine z_il5 (pc := 36) dX8_align_36 ?_
          refine z_if_gt (pc := 38) 46 dX8_align_38 rfl (fun c38 => ?_) (fun c38 => absurd (by rw [Int32.lt_iff_toInt_lt, nI_toInt (by omega), i_0]; omega) c38)
          refine z_al0 (pc := 46) dX8_align_46 ?_
          refine z_mg24 (pc := 47) hM rfl dX8_align_47 ?_
          refine z_bipush (pc := 50) (25) (by decide) dX8_align_50 ?_
          refine z_il5 (pc := 52) dX8_align_52 ?_
          refine z_imul (pc := 54) dX8_align_54 ?_
          refine z_il6 (pc := 55) dX8_align_55 ?_
          refine z_iadd (pc := 57) dX8_align_57 ?_
          refine z_mld (pc := 58) 24 625 hM rfl (by decide) (ix25 _ _) (by omega) dX8_align_58 ?_
          rw [hV.1 24 (by omega) (by omega) (by omega), hT (i + 1) (j + 1) (by omega) (by omega)]
          refine z_is7 (pc := 59) dX8_align_59 (by decide) ?_
          refine z_il5 (pc := 61) dX8_align_61 ?_
          refine z_if_le (pc := 63) 114 dX8_align_63 rfl (fun c63 => absurd c63 (nI_nle (by omega) (by omega))) (fun c63 => ?_)
          refine z_il6 (pc := 66) dX8_align_66 ?_
          refine z_if_le (pc := 68) 114 dX8_align_68 rfl (fun c68 => absurd c68 (nI_nle (by omega) (by omega))) (fun c68 => ?_)
          refine z_al0 (pc := 71) dX8_align_71 ?_
          refine z_mg24 (pc := 72) hM rfl dX8_align_72 ?_
          refine z_bipush (pc := 75) (25) (by decide) dX8_align_75 ?_
          refine z_il5 (pc := 77) dX8_align_77 ?_
          refine z_iconst (pc := 79) (1) (by decide) dX8_align_79 ?_
          refine z_isub (pc := 80) dX8_align_80 ?_
          rw [nI_pred]
          refine z_imul (pc := 81) dX8_align_81 ?_
          refine z_il6 (pc := 82) dX8_align_82 ?_
          refine z_iadd (pc := 84) dX8_align_84 ?_
          refine z_iconst (pc := 85) (1) (by decide) dX8_align_85 ?_
          refine z_isub (pc := 86) dX8_align_86 ?_
          rw [ix25, show nI (25 * i + (j + 1)) - 1 = nI (25 * i + j) from nI_pred _]
          refine z_mld (pc := 87) 24 625 hM rfl (by decide) rfl (by omega) dX8_align_87 ?_
          rw [hV.1 24 (by omega) (by omega) (by omega), hT i j (by omega) (by omega)]
          refine z_al0 (pc := 88) dX8_align_88 ?_
          refine z_il5 (pc := 89) dX8_align_89 ?_
          refine z_iconst (pc := 91) (1) (by decide) dX8_align_91 ?_
          refine z_isub (pc := 92) dX8_align_92 ?_
          rw [nI_pred]
          refine z_il6 (pc := 93) dX8_align_93 ?_
          refine z_iconst (pc := 95) (1) (by decide) dX8_align_95 ?_
          refine z_isub (pc := 96) dX8_align_96 ?_
          rw [nI_pred]
          refine z_al0 (pc := 97) dX8_align_97 ?_
          refine z_mg28 (pc := 98) hM rfl dX8_align_98 ?_
          rw [show sup sc1 32 (nI s0) 28 = key from hkey]
          refine z_callVr (pc := 101) (c_mOfTwo l i j key hM (by omega) (by omega)) hM.1 rfl rfl kw_903 zc_X8_ofTwo (by decide) (by decide) rfl (Nat.le_of_ble_eq_true rfl) dX8_align_101 ?_
          rw [hV.1 15 (by omega) (by omega) (by omega), hV.1 20 (by omega) (by omega) (by omega), hV.1 21 (by omega) (by omega) (by omega), hV.1 22 (by omega) (by omega) (by omega), hV.1 23 (by omega) (by omega) (by omega), h15, (h2t i (by omega)).1, (h2t i (by omega)).2, (h2u j (by omega)).1, (h2u j (by omega)).2]
          rw [show co2 (ar 15) _ _ _ _ key = dC ar c0 q t0 u0 key i j from rfl]
          refine z_iadd (pc := 104) dX8_align_104 ?_
          refine z_il7 (pc := 105) dX8_align_105 ?_
          refine z_icmp_ne (pc := 107) 114 dX8_align_107 rfl (fun c107 => ?_) (fun c107 => ?_)
          · refine z_iconst (pc := 114) (0) (by decide) dX8_align_114 ?_
            refine z_is8 (pc := 115) dX8_align_115 (by decide) ?_
            refine z_il8 (pc := 117) dX8_align_117 ?_
            refine z_if_ne (pc := 119) 165 dX8_align_119 rfl (fun h => absurd h (by decide)) (fun _ => ?_)
            refine z_il5 (pc := 122) dX8_align_122 ?_
            refine z_if_le (pc := 124) 165 dX8_align_124 rfl (fun c124 => absurd c124 (nI_nle (by omega) (by omega))) (fun c124 => ?_)
            refine z_al0 (pc := 127) dX8_align_127 ?_
            refine z_mg24 (pc := 128) hM rfl dX8_align_128 ?_
            refine z_bipush (pc := 131) (25) (by decide) dX8_align_131 ?_
            refine z_il5 (pc := 133) dX8_align_133 ?_
            refine z_iconst (pc := 135) (1) (by decide) dX8_align_135 ?_
            refine z_isub (pc := 136) dX8_align_136 ?_
            rw [nI_pred]
            refine z_imul (pc := 137) dX8_align_137 ?_
            refine z_il6 (pc := 138) dX8_align_138 ?_
            refine z_iadd (pc := 140) dX8_align_140 ?_
            rw [ix25]
            refine z_mld (pc := 141) 24 625 hM rfl (by decide) rfl (by omega) dX8_align_141 ?_
            rw [hV.1 24 (by omega) (by omega) (by omega), hT i (j + 1) (by omega) (by omega)]
            refine z_al0 (pc := 142) dX8_align_142 ?_
            refine z_al0 (pc := 143) dX8_align_143 ?_
            refine z_mg20 (pc := 144) hM rfl dX8_align_144 ?_
            refine z_il5 (pc := 147) dX8_align_147 ?_
            refine z_iconst (pc := 149) (1) (by decide) dX8_align_149 ?_
            refine z_isub (pc := 150) dX8_align_150 ?_
            rw [nI_pred]
            refine z_mld (pc := 151) 20 24 hM rfl (by decide) rfl (by omega) dX8_align_151 ?_
            refine z_callVr (pc := 152) (c_mAlone l _ hM) hM.1 rfl rfl kw_911 zc_X8_alone (by decide) (by decide) rfl (Nat.le_of_ble_eq_true rfl) dX8_align_152 ?_
            rw [hV.1 15 (by omega) (by omega) (by omega), hV.1 20 (by omega) (by omega) (by omega), h15, (h2t i (by omega)).1]
            rw [show co1 (ar 15) _ = dA ar c0 q t0 i from rfl]
            refine z_iadd (pc := 155) dX8_align_155 ?_
            refine z_il7 (pc := 156) dX8_align_156 ?_
            refine z_icmp_ne (pc := 158) 165 dX8_align_158 rfl (fun c158 => ?_) (fun c158 => ?_)
            · refine z_iconst (pc := 165) (0) (by decide) dX8_align_165 ?_
              refine z_is9 (pc := 166) dX8_align_166 (by decide) ?_
              refine z_al0 (pc := 168) dX8_align_168 ?_
              refine z_mg29 (pc := 169) hM rfl dX8_align_169 ?_
              refine z_al0 (pc := 172) dX8_align_172 ?_
              refine z_mg32 (pc := 173) hM rfl dX8_align_173 ?_
              rw [show sup sc1 32 (nI s0) 32 = nI s0 from rfl]
              refine z_il8 (pc := 176) dX8_align_176 ?_
              refine z_if_ne (pc := 178) 186 dX8_align_178 rfl (fun h => absurd h (by decide)) (fun _ => ?_)
              refine z_il9 (pc := 181) dX8_align_181 ?_
              refine z_if_eq (pc := 183) 193 dX8_align_183 rfl (fun _ => ?_) (fun h => absurd (by decide) h)
              refine z_iconst (pc := 193) (-1) (by decide) dX8_align_193 ?_
              refine z_mst (pc := 194) 29 48 hM rfl (by decide) rfl (by omega) dX8_align_194 (fun G1 hM1 hF1 => ?_)
              have hF := zF.trans hF hF1
              clear hF1
              replace hM := hM1
              clear hM1
              refine z_al0 (pc := 195) dX8_align_195 ?_
              refine z_mg30 (pc := 196) hM rfl dX8_align_196 ?_
              refine z_al0 (pc := 199) dX8_align_199 ?_
              refine z_mg32 (pc := 200) hM rfl dX8_align_200 ?_
              rw [show sup sc1 32 (nI s0) 32 = nI s0 from rfl]
              refine z_il9 (pc := 203) dX8_align_203 ?_
              refine z_if_eq (pc := 205) 212 dX8_align_205 rfl (fun _ => ?_) (fun h => absurd (by decide) h)
              refine z_il6 (pc := 212) dX8_align_212 ?_
              refine z_iconst (pc := 214) (1) (by decide) dX8_align_214 ?_
              refine z_isub (pc := 215) dX8_align_215 ?_
              rw [nI_pred]
              refine z_mst (pc := 216) 30 48 hM rfl (by decide) rfl (by omega) dX8_align_216 (fun G1 hM1 hF1 => ?_)
              have hF := zF.trans hF hF1
              clear hF1
              replace hM := hM1
              clear hM1
              skip
              refine z_al0 (pc := 217) dX8_align_217 ?_
              refine z_mg31 (pc := 218) hM rfl dX8_align_218 ?_
              refine z_al0 (pc := 221) dX8_align_221 ?_
              refine z_mg32 (pc := 222) hM rfl dX8_align_222 ?_
              rw [show sup sc1 32 (nI s0) 32 = nI s0 from rfl]
              refine z_il8 (pc := 225) dX8_align_225 ?_
              refine z_if_eq (pc := 227) 249 dX8_align_227 rfl (fun _ => ?_) (fun h => absurd (by decide) h)
              refine z_il9 (pc := 249) dX8_align_249 ?_
              refine z_if_eq (pc := 251) 270 dX8_align_251 rfl (fun _ => ?_) (fun h => absurd (by decide) h)
              refine z_al0 (pc := 270) dX8_align_270 ?_
              refine z_al0 (pc := 271) dX8_align_271 ?_
              refine z_mg22 (pc := 272) hM rfl dX8_align_272 ?_
              refine z_il6 (pc := 275) dX8_align_275 ?_
              refine z_iconst (pc := 277) (1) (by decide) dX8_align_277 ?_
              refine z_isub (pc := 278) dX8_align_278 ?_
              rw [nI_pred]
              refine z_mld (pc := 279) 22 24 hM rfl (by decide) rfl (by omega) dX8_align_279 ?_
              refine z_callVr (pc := 280) (c_mAlone l _ hM) hM.1 rfl rfl kw_911 zc_X8_alone (by decide) (by decide) rfl (Nat.le_of_ble_eq_true rfl) dX8_align_280 ?_
              simp only [aup, reduceIte, Nat.reduceEqDiff]
              rw [hV.1 15 (by omega) (by omega) (by omega), hV.1 22 (by omega) (by omega) (by omega), h15, (h2u j (by omega)).1]
              rw [show co1 (ar 15) _ = dA ar c0 q u0 j from rfl]
              refine z_mst (pc := 283) 31 48 hM rfl (by decide) rfl (by omega) dX8_align_283 (fun G1 hM1 hF1 => ?_)
              have hF := zF.trans hF hF1
              clear hF1
              replace hM := hM1
              clear hM1
              refine z_il8 (pc := 284) dX8_align_284 ?_
              refine z_if_ne (pc := 286) 294 dX8_align_286 rfl (fun h => absurd h (by decide)) (fun _ => ?_)
              refine z_il9 (pc := 289) dX8_align_289 ?_
              refine z_if_eq (pc := 291) 297 dX8_align_291 rfl (fun _ => ?_) (fun h => absurd (by decide) h)
              refine z_il9 (pc := 297) dX8_align_297 ?_
              refine z_if_ne (pc := 299) 305 dX8_align_299 rfl (fun h => absurd h (by decide)) (fun _ => ?_)
              skip
              refine z_ii6 (pc := 302) (nI j) dX8_align_302 (pk_m1 _) (by decide) ?_
              refine z_al0 (pc := 305) dX8_align_305 ?_
              refine z_dup (pc := 306) rfl dX8_align_306 ?_
              refine z_mg32 (pc := 307) hM rfl dX8_align_307 ?_
              refine z_iconst (pc := 310) (1) (by decide) dX8_align_310 ?_
              refine z_iadd (pc := 311) dX8_align_311 ?_
              rw [show sup sc1 32 (nI s0) 32 + 1 = nI (s0 + 1) from nI_1 s0]
              refine z_mp32 (pc := 312) hM rfl dX8_align_312 (fun G1 hM1 hF1 => ?_)
              have hF := zF.trans hF hF1
              clear hF1
              replace hM := hM1
              clear hM1
              rw [sup_sup] at hM
              refine z_goto (pc := 315) 36 dX8_align_315 rfl ?_
              have ht : ¬ tw (dD ar c0 q t0 u0 key) (dC ar c0 q t0 u0 key) (i + 1) (j + 1) := fun h => c107 h.2.2
              have hf : ¬ fi (dD ar c0 q t0 u0 key) (dC ar c0 q t0 u0 key) (dA ar c0 q t0) (i + 1) (j + 1) := fun h => c158 h.2.2
              refine ih (s0 + 1) (i + 1) j _ _ _ _ _ _ (by omega) hM hF (hV.step (i2 := (i + 1)) (j2 := j) (by simp) (st_n (b1 := dA ar c0 q u0) ht hf).1 (by omega) (st_n (b1 := dA ar c0 q u0) ht hf).2.1.symm (st_n (b1 := dA ar c0 q u0) ht hf).2.2.1.symm (st_n (b1 := dA ar c0 q u0) ht hf).2.2.2.symm)
            · refine z_iconst (pc := 161) (1) (by decide) dX8_align_161 ?_
              refine z_goto (pc := 162) 166 dX8_align_162 rfl ?_
              refine z_is9 (pc := 166) dX8_align_166 (by decide) ?_
              refine z_al0 (pc := 168) dX8_align_168 ?_
              refine z_mg29 (pc := 169) hM rfl dX8_align_169 ?_
              refine z_al0 (pc := 172) dX8_align_172 ?_
              refine z_mg32 (pc := 173) hM rfl dX8_align_173 ?_
              rw [show sup sc1 32 (nI s0) 32 = nI s0 from rfl]
              refine z_il8 (pc := 176) dX8_align_176 ?_
              refine z_if_ne (pc := 178) 186 dX8_align_178 rfl (fun h => absurd h (by decide)) (fun _ => ?_)
              refine z_il9 (pc := 181) dX8_align_181 ?_
              refine z_if_eq (pc := 183) 193 dX8_align_183 rfl (fun h => absurd h (by decide)) (fun _ => ?_)
              refine z_il5 (pc := 186) dX8_align_186 ?_
              refine z_iconst (pc := 188) (1) (by decide) dX8_align_188 ?_
              refine z_isub (pc := 189) dX8_align_189 ?_
              rw [nI_pred]
              refine z_goto (pc := 190) 194 dX8_align_190 rfl ?_
              refine z_mst (pc := 194) 29 48 hM rfl (by decide) rfl (by omega) dX8_align_194 (fun G1 hM1 hF1 => ?_)
              have hF := zF.trans hF hF1
              clear hF1
              replace hM := hM1
              clear hM1
              refine z_al0 (pc := 195) dX8_align_195 ?_
              refine z_mg30 (pc := 196) hM rfl dX8_align_196 ?_
              refine z_al0 (pc := 199) dX8_align_199 ?_
              refine z_mg32 (pc := 200) hM rfl dX8_align_200 ?_
              rw [show sup sc1 32 (nI s0) 32 = nI s0 from rfl]
              refine z_il9 (pc := 203) dX8_align_203 ?_
              refine z_if_eq (pc := 205) 212 dX8_align_205 rfl (fun h => absurd h (by decide)) (fun _ => ?_)
              refine z_iconst (pc := 208) (-1) (by decide) dX8_align_208 ?_
              refine z_goto (pc := 209) 216 dX8_align_209 rfl ?_
              skip
              refine z_mst (pc := 216) 30 48 hM rfl (by decide) rfl (by omega) dX8_align_216 (fun G1 hM1 hF1 => ?_)
              have hF := zF.trans hF hF1
              clear hF1
              replace hM := hM1
              clear hM1
              skip
              refine z_al0 (pc := 217) dX8_align_217 ?_
              refine z_mg31 (pc := 218) hM rfl dX8_align_218 ?_
              refine z_al0 (pc := 221) dX8_align_221 ?_
              refine z_mg32 (pc := 222) hM rfl dX8_align_222 ?_
              rw [show sup sc1 32 (nI s0) 32 = nI s0 from rfl]
              refine z_il8 (pc := 225) dX8_align_225 ?_
              refine z_if_eq (pc := 227) 249 dX8_align_227 rfl (fun _ => ?_) (fun h => absurd (by decide) h)
              refine z_il9 (pc := 249) dX8_align_249 ?_
              refine z_if_eq (pc := 251) 270 dX8_align_251 rfl (fun h => absurd h (by decide)) (fun _ => ?_)
              refine z_al0 (pc := 254) dX8_align_254 ?_
              refine z_al0 (pc := 255) dX8_align_255 ?_
              refine z_mg20 (pc := 256) hM rfl dX8_align_256 ?_
              refine z_il5 (pc := 259) dX8_align_259 ?_
              refine z_iconst (pc := 261) (1) (by decide) dX8_align_261 ?_
              refine z_isub (pc := 262) dX8_align_262 ?_
              rw [nI_pred]
              refine z_mld (pc := 263) 20 24 hM rfl (by decide) rfl (by omega) dX8_align_263 ?_
              refine z_callVr (pc := 264) (c_mAlone l _ hM) hM.1 rfl rfl kw_911 zc_X8_alone (by decide) (by decide) rfl (Nat.le_of_ble_eq_true rfl) dX8_align_264 ?_
              simp only [aup, reduceIte, Nat.reduceEqDiff]
              rw [hV.1 15 (by omega) (by omega) (by omega), hV.1 20 (by omega) (by omega) (by omega), h15, (h2t i (by omega)).1]
              rw [show co1 (ar 15) _ = dA ar c0 q t0 i from rfl]
              refine z_goto (pc := 267) 283 dX8_align_267 rfl ?_
              skip
              refine z_mst (pc := 283) 31 48 hM rfl (by decide) rfl (by omega) dX8_align_283 (fun G1 hM1 hF1 => ?_)
              have hF := zF.trans hF hF1
              clear hF1
              replace hM := hM1
              clear hM1
              refine z_il8 (pc := 284) dX8_align_284 ?_
              refine z_if_ne (pc := 286) 294 dX8_align_286 rfl (fun h => absurd h (by decide)) (fun _ => ?_)
              refine z_il9 (pc := 289) dX8_align_289 ?_
              refine z_if_eq (pc := 291) 297 dX8_align_291 rfl (fun h => absurd h (by decide)) (fun _ => ?_)
              refine z_ii5 (pc := 294) (nI i) dX8_align_294 (pk_m1 _) (by decide) ?_
              refine z_il9 (pc := 297) dX8_align_297 ?_
              refine z_if_ne (pc := 299) 305 dX8_align_299 rfl (fun _ => ?_) (fun h => absurd h (by decide))
              refine z_al0 (pc := 305) dX8_align_305 ?_
              refine z_dup (pc := 306) rfl dX8_align_306 ?_
              refine z_mg32 (pc := 307) hM rfl dX8_align_307 ?_
              refine z_iconst (pc := 310) (1) (by decide) dX8_align_310 ?_
              refine z_iadd (pc := 311) dX8_align_311 ?_
              rw [show sup sc1 32 (nI s0) 32 + 1 = nI (s0 + 1) from nI_1 s0]
              refine z_mp32 (pc := 312) hM rfl dX8_align_312 (fun G1 hM1 hF1 => ?_)
              have hF := zF.trans hF hF1
              clear hF1
              replace hM := hM1
              clear hM1
              rw [sup_sup] at hM
              refine z_goto (pc := 315) 36 dX8_align_315 rfl ?_
              have ht : ¬ tw (dD ar c0 q t0 u0 key) (dC ar c0 q t0 u0 key) (i + 1) (j + 1) := fun h => c107 h.2.2
              have hf : fi (dD ar c0 q t0 u0 key) (dC ar c0 q t0 u0 key) (dA ar c0 q t0) (i + 1) (j + 1) := ⟨ht, by omega, c158⟩
              refine ih (s0 + 1) i (j + 1) _ _ _ _ _ _ (by omega) hM hF (hV.step (i2 := i) (j2 := (j + 1)) (by simp) (st_f (b1 := dA ar c0 q u0) hf).1 (by omega) (st_f (b1 := dA ar c0 q u0) hf).2.1.symm (st_f (b1 := dA ar c0 q u0) hf).2.2.1.symm (st_f (b1 := dA ar c0 q u0) hf).2.2.2.symm)
          · refine z_iconst (pc := 110) (1) (by decide) dX8_align_110 ?_
            refine z_goto (pc := 111) 115 dX8_align_111 rfl ?_
            refine z_is8 (pc := 115) dX8_align_115 (by decide) ?_
            refine z_il8 (pc := 117) dX8_align_117 ?_
            refine z_if_ne (pc := 119) 165 dX8_align_119 rfl (fun _ => ?_) (fun h => absurd h (by decide))
            refine z_iconst (pc := 165) (0) (by decide) dX8_align_165 ?_
            refine z_is9 (pc := 166) dX8_align_166 (by decide) ?_
            refine z_al0 (pc := 168) dX8_align_168 ?_
            refine z_mg29 (pc := 169) hM rfl dX8_align_169 ?_
            refine z_al0 (pc := 172) dX8_align_172 ?_
            refine z_mg32 (pc := 173) hM rfl dX8_align_173 ?_
            rw [show sup sc1 32 (nI s0) 32 = nI s0 from rfl]
            refine z_il8 (pc := 176) dX8_align_176 ?_
            refine z_if_ne (pc := 178) 186 dX8_align_178 rfl (fun _ => ?_) (fun h => absurd h (by decide))
            refine z_il5 (pc := 186) dX8_align_186 ?_
            refine z_iconst (pc := 188) (1) (by decide) dX8_align_188 ?_
            refine z_isub (pc := 189) dX8_align_189 ?_
            rw [nI_pred]
            refine z_goto (pc := 190) 194 dX8_align_190 rfl ?_
            refine z_mst (pc := 194) 29 48 hM rfl (by decide) rfl (by omega) dX8_align_194 (fun G1 hM1 hF1 => ?_)
            have hF := zF.trans hF hF1
            clear hF1
            replace hM := hM1
            clear hM1
            refine z_al0 (pc := 195) dX8_align_195 ?_
            refine z_mg30 (pc := 196) hM rfl dX8_align_196 ?_
            refine z_al0 (pc := 199) dX8_align_199 ?_
            refine z_mg32 (pc := 200) hM rfl dX8_align_200 ?_
            rw [show sup sc1 32 (nI s0) 32 = nI s0 from rfl]
            refine z_il9 (pc := 203) dX8_align_203 ?_
            refine z_if_eq (pc := 205) 212 dX8_align_205 rfl (fun _ => ?_) (fun h => absurd (by decide) h)
            refine z_il6 (pc := 212) dX8_align_212 ?_
            refine z_iconst (pc := 214) (1) (by decide) dX8_align_214 ?_
            refine z_isub (pc := 215) dX8_align_215 ?_
            rw [nI_pred]
            refine z_mst (pc := 216) 30 48 hM rfl (by decide) rfl (by omega) dX8_align_216 (fun G1 hM1 hF1 => ?_)
            have hF := zF.trans hF hF1
            clear hF1
            replace hM := hM1
            clear hM1
            skip
            refine z_al0 (pc := 217) dX8_align_217 ?_
            refine z_mg31 (pc := 218) hM rfl dX8_align_218 ?_
            refine z_al0 (pc := 221) dX8_align_221 ?_
            refine z_mg32 (pc := 222) hM rfl dX8_align_222 ?_
            rw [show sup sc1 32 (nI s0) 32 = nI s0 from rfl]
            refine z_il8 (pc := 225) dX8_align_225 ?_
            refine z_if_eq (pc := 227) 249 dX8_align_227 rfl (fun h => absurd h (by decide)) (fun _ => ?_)
            refine z_al0 (pc := 230) dX8_align_230 ?_
            refine z_il5 (pc := 231) dX8_align_231 ?_
            refine z_iconst (pc := 233) (1) (by decide) dX8_align_233 ?_
            refine z_isub (pc := 234) dX8_align_234 ?_
            rw [nI_pred]
            refine z_il6 (pc := 235) dX8_align_235 ?_
            refine z_iconst (pc := 237) (1) (by decide) dX8_align_237 ?_
            refine z_isub (pc := 238) dX8_align_238 ?_
            rw [nI_pred]
            refine z_al0 (pc := 239) dX8_align_239 ?_
            refine z_mg28 (pc := 240) hM rfl dX8_align_240 ?_
            rw [show sup sc1 32 (nI s0) 28 = key from hkey]
            refine z_callVr (pc := 243) (c_mOfTwo l i j key hM (by omega) (by omega)) hM.1 rfl rfl kw_903 zc_X8_ofTwo (by decide) (by decide) rfl (Nat.le_of_ble_eq_true rfl) dX8_align_243 ?_
            simp only [aup, reduceIte, Nat.reduceEqDiff]
            rw [hV.1 15 (by omega) (by omega) (by omega), hV.1 20 (by omega) (by omega) (by omega), hV.1 21 (by omega) (by omega) (by omega), hV.1 22 (by omega) (by omega) (by omega), hV.1 23 (by omega) (by omega) (by omega), h15, (h2t i (by omega)).1, (h2t i (by omega)).2, (h2u j (by omega)).1, (h2u j (by omega)).2]
            rw [show co2 (ar 15) _ _ _ _ key = dC ar c0 q t0 u0 key i j from rfl]
            refine z_goto (pc := 246) 283 dX8_align_246 rfl ?_
            skip
            refine z_mst (pc := 283) 31 48 hM rfl (by decide) rfl (by omega) dX8_align_283 (fun G1 hM1 hF1 => ?_)
            have hF := zF.trans hF hF1
            clear hF1
            replace hM := hM1
            clear hM1
            refine z_il8 (pc := 284) dX8_align_284 ?_
            refine z_if_ne (pc := 286) 294 dX8_align_286 rfl (fun _ => ?_) (fun h => absurd h (by decide))
            refine z_ii5 (pc := 294) (nI i) dX8_align_294 (pk_m1 _) (by decide) ?_
            refine z_il9 (pc := 297) dX8_align_297 ?_
            refine z_if_ne (pc := 299) 305 dX8_align_299 rfl (fun h => absurd h (by decide)) (fun _ => ?_)
            skip
            refine z_ii6 (pc := 302) (nI j) dX8_align_302 (pk_m1 _) (by decide) ?_
            refine z_al0 (pc := 305) dX8_align_305 ?_
            refine z_dup (pc := 306) rfl dX8_align_306 ?_
            refine z_mg32 (pc := 307) hM rfl dX8_align_307 ?_
            refine z_iconst (pc := 310) (1) (by decide) dX8_align_310 ?_
            refine z_iadd (pc := 311) dX8_align_311 ?_
            rw [show sup sc1 32 (nI s0) 32 + 1 = nI (s0 + 1) from nI_1 s0]
            refine z_mp32 (pc := 312) hM rfl dX8_align_312 (fun G1 hM1 hF1 => ?_)
            have hF := zF.trans hF hF1
            clear hF1
            replace hM := hM1
            clear hM1
            rw [sup_sup] at hM
            refine z_goto (pc := 315) 36 dX8_align_315 rfl ?_
            have ht : tw (dD ar c0 q t0 u0 key) (dC ar c0 q t0 u0 key) (i + 1) (j + 1) := ⟨by omega, by omega, c107⟩
            have hf : ¬ fi (dD ar c0 q t0 u0 key) (dC ar c0 q t0 u0 key) (dA ar c0 q t0) (i + 1) (j + 1) := fun h => h.1 ht
            refine ih (s0 + 1) i j _ _ _ _ _ _ (by omega) hM hF (hV.step (i2 := i) (j2 := j) (by simp) (st_t (a1 := dA ar c0 q t0) (b1 := dA ar c0 q u0) ht).1 (by omega) (st_t (a1 := dA ar c0 q t0) (b1 := dA ar c0 q u0) ht).2.1.symm (st_t (a1 := dA ar c0 q t0) (b1 := dA ar c0 q u0) ht).2.2.1.symm (st_t (a1 := dA ar c0 q t0) (b1 := dA ar c0 q u0) ht).2.2.2.symm)
  exact lp (nt + nu) 0 nt nu _ _ _ _ _ _ (Nat.le_refl _) hM hF ⟨fun _ _ _ _ => rfl, rfl, by omega, Nat.le_refl _, Nat.le_refl _, fun a h => absurd h (Nat.not_lt_zero _)⟩
end
section
/-! what holds of the state between calls, as far as the walk needs it: n sheets, c corrections, d doubles, day w, ln i notes of sheet i -/
def MJ (n c d w : Nat) (ln : Nat → Nat) (sc : Nat → Int32) (ar : Nat → Nat → Int32) : Prop :=
  sc 16 = nI n ∧ n ≤ 20 ∧ sc 17 = nI c ∧ c ≤ 200 ∧ sc 18 = nI d ∧ d ≤ 60 ∧ sc 19 = nI w ∧ w ≤ 1000 ∧ (∀ i, i < n → ar 4 i = nI (ln i) ∧ ln i ≤ 24) ∧ ∀ k, k < d → ∃ a b, a < n ∧ b < n ∧ ar 13 k = nI a ∧ ar 14 k = nI b
theorem MJ.ps {n c d w : Nat} {ln : Nat → Nat} {sc sc2 : Nat → Int32} {ar ar2 : Nat → Nat → Int32} (h : MJ n c d w ln sc ar) (g : PS sc ar sc2 ar2) : MJ n c d w ln sc2 ar2 := by
  obtain ⟨h1, h2, h3, h4, h5, h6, h7, h8, h9, h10⟩ := h
  refine ⟨by rw [g.1 16 (by omega) (by omega)]; exact h1, h2, by rw [g.1 17 (by omega) (by omega)]; exact h3, h4, by rw [g.1 18 (by omega) (by omega)]; exact h5, h6, by rw [g.1 19 (by omega) (by omega)]; exact h7, h8, ?_, ?_⟩
  · rw [g.2 4 (by omega) (by omega)]; exact h9
  · rw [g.2 13 (by omega) (by omega), g.2 14 (by omega) (by omega)]; exact h10
abbrev iN (x : Int32) : Nat := x.toNatClampNeg
theorem iN_nI {n : Nat} (h : n < 2 ^ 31) : iN (nI n) = n := nI_clamp h
abbrev okS (n : Nat) (a : Int32) : Prop := 0 ≤ a ∧ a < nI n
abbrev ok2 (n w : Nat) (a b q : Int32) : Prop := okS n a ∧ okS n b ∧ 0 ≤ q ∧ q ≤ nI w
abbrev frg (ar : Nat → Nat → Int32) (j : Nat) (q : Int32) : Prop := ar 5 j ≠ -1 ∧ ar 5 j ≤ q
abbrev erl (ar : Nat → Nat → Int32) (s t : Nat) : Prop := ar 2 s < ar 2 t ∨ ar 2 s = ar 2 t ∧ nI s < nI t
/-- the distance, and the key told -/
def sTL (ar : Nat → Nat → Int32) (c : Nat) (ln : Nat → Nat) (q : Int32) (a b : Nat) (k0 : Int32) : Int32 × Int32 := tl (fun i => dK ar c q a b (ln a) (ln b) (keyAt i)) k0 25
def sD (ar : Nat → Nat → Int32) (c : Nat) (ln : Nat → Nat) (q : Int32) (a b : Nat) : Int32 := (sTL ar c ln q a b 0).1
def sK (ar : Nat → Nat → Int32) (c : Nat) (ln : Nat → Nat) (q : Int32) (a b : Nat) : Int32 := (sTL ar c ln q a b 0).2
theorem tl_fst (f : Nat → Int32) (k0 k1 : Int32) : ∀ n, (tl f k0 n).1 = (tl f k1 n).1
  | 0 => rfl
  | n + 1 => by
    unfold tl
    rw [tl_fst f k0 k1 n]
    split
    · rfl
    · exact tl_fst f k0 k1 n
/-- the key told doesn't hang on the key that was told before -/
def TLok (ar : Nat → Nat → Int32) (c n : Nat) (ln : Nat → Nat) : Prop := ∀ (a b : Nat) (q k0 : Int32), a < n → b < n → sTL ar c ln q a b k0 = sTL ar c ln q a b 0
theorem dK_congr {ar ar2 : Nat → Nat → Int32} (h : ∀ k, k < 20 → ar2 k = ar k) (c : Nat) (q : Int32) (t u nt nu : Nat) (key : Int32) : dK ar2 c q t u nt nu key = dK ar c q t u nt nu key := by
  unfold dK
  rw [h 15 (by omega)]
  simp only [fun s i b => kn_congr h s i q b c]
theorem dK_ps {sc sc2 : Nat → Int32} {ar ar2 : Nat → Nat → Int32} (g : PS sc ar sc2 ar2) (c : Nat) (q : Int32) (t u nt nu : Nat) (key : Int32) : dK ar2 c q t u nt nu key = dK ar c q t u nt nu key := by
  unfold dK
  rw [g.2 15 (by omega) (by omega)]
  have hk : ∀ s i b cc, kn ar2 s i q b cc = kn ar s i q b cc := by
    intro s i b cc
    induction cc with
    | zero => unfold kn; rw [g.2 6 (by omega) (by omega), g.2 7 (by omega) (by omega)]
    | succ cc ih => unfold kn; rw [ih, g.2 8 (by omega) (by omega), g.2 9 (by omega) (by omega), g.2 10 (by omega) (by omega), g.2 11 (by omega) (by omega), g.2 12 (by omega) (by omega)]
  simp only [hk]
theorem sTL_ps {sc sc2 : Nat → Int32} {ar ar2 : Nat → Nat → Int32} (g : PS sc ar sc2 ar2) (c : Nat) (ln : Nat → Nat) (q : Int32) (a b : Nat) (k0 : Int32) : sTL ar2 c ln q a b k0 = sTL ar c ln q a b k0 := by
  unfold sTL
  simp only [dK_ps g]
theorem sD_ps {sc sc2 : Nat → Int32} {ar ar2 : Nat → Nat → Int32} (g : PS sc ar sc2 ar2) (c : Nat) (ln : Nat → Nat) (q : Int32) (a b : Nat) : sD ar2 c ln q a b = sD ar c ln q a b := by unfold sD; rw [sTL_ps g]
/-- an answer that leaves what lasts as it was -/
abbrev qP (F : Int32) (κ : zK) (G : zH) (x : Nat) (ad : Nat → Nat) (sc : Nat → Int32) (ar : Nat → Nat → Int32) : Option Value → zH → Prop := pI (fun r G2 => r = F ∧ ∃ sc2 ar2, RM κ G2 x ad sc2 ar2 ∧ zF 1 G G2 ∧ PS sc ar sc2 ar2)
theorem FI.d {sc sc1 : Nat → Int32} {ar ar1 : Nat → Nat → Int32} {a b c : Nat} {q : Int32} {ln : Nat → Nat} (h : FI sc ar sc1 ar1 a b (ln a) (ln b) c q 25) : sc1 27 = sD ar c ln q a b := by
  have := h.2.2.2.1
  unfold sD sTL
  rw [tl_fst _ 0 (sc 28), ← this]
abbrev rX8_isPair : Room := rmK 2 0 0 43
set_option maxRecDepth 100000 in
set_option maxHeartbeats 400000 in
theorem c_mIsPair (l : Launch) {κ : zK} {G : zH} {x : Nat} {ad : Nat → Nat} {sc : Nat → Int32} {ar : Nat → Nat → Int32} (n c d w : Nat) (ln : Nat → Nat) (a0 b0 q : Int32) (hM : RM κ G x ad sc ar) (hJ : MJ n c d w ln sc ar) : Ct l yX8_isPair cX8_isPair 4 (some FieldType.boolean) rX8_isPair κ [.ref x, .int a0, .int b0, .int q] G (pI (fun r G2 => r = zb (ok2 n w a0 b0 q) ∧ RM κ G2 x ad (sup sc 0 0) ar ∧ zF 1 G G2)) := by
  refine Ct.of (by decide +kernel) (fun v hv => by
    simp only [List.mem_cons, List.mem_nil_iff, or_false, List.not_mem_nil] at hv
    rcases hv with rfl | rfl | rfl | rfl <;> rfl) (Nat.le_of_ble_eq_true rfl) ?_
  intro p e s m args below meth cC
  refine z_L (L' := [some (.ref x), some (.int a0), some (.int b0), some (.int q)]) rfl ?_
  generalize hQx : MQ below (zQc κ _) args s _ _ (zA κ) = Qx
  have hF : zF 1 G G := zF.rf
  refine z_al0 (pc := 0) dX8_isPair_0 ?_
  refine z_iconst (pc := 1) (0) (by decide) dX8_isPair_1 ?_
  refine z_mp0 (pc := 2) hM rfl dX8_isPair_2 (fun G1 hM1 hF1 => ?_)
  have hF := zF.trans hF hF1
  clear hF1
  replace hM := hM1
  clear hM1
  have e16 : sup sc 0 0 16 = nI n := hJ.1
  have e19 : sup sc 0 0 19 = nI w := hJ.2.2.2.2.2.2.1
  refine z_al0 (pc := 5) dX8_isPair_5 ?_
  refine z_il1 (pc := 6) dX8_isPair_6 ?_
  refine z_callVr (pc := 7) (c_mIsSheet l a0 hM) hM.1 rfl rfl kw_843 zc_X8_isSheet (by decide) (by decide) rfl (Nat.le_of_ble_eq_true rfl) dX8_isPair_7 ?_
  rw [e16]
  refine z_ifz_eq (pc := 10) 33 dX8_isPair_10 rfl (fun c10 => ?_) (fun c10 => ?_)
  · refine z_iconst (pc := 33) (0) (by decide) dX8_isPair_33 ?_
    rw [← hQx]
    refine z_zret (pc := 34) rfl rfl (by decide) dX8_isPair_34 (by first | exact ⟨_, rfl, (zb_t ⟨c10, c18, c26⟩).symm, hM, hF⟩ | exact ⟨_, rfl, (zb_f (fun h => c10 h.1)).symm, hM, hF⟩ | exact ⟨_, rfl, (zb_f (fun h => c18 h.2.1)).symm, hM, hF⟩ | exact ⟨_, rfl, (zb_f (fun h => c26 h.2.2)).symm, hM, hF⟩)
  · refine z_al0 (pc := 13) dX8_isPair_13 ?_
    refine z_il2 (pc := 14) dX8_isPair_14 ?_
    refine z_callVr (pc := 15) (c_mIsSheet l b0 hM) hM.1 rfl rfl kw_843 zc_X8_isSheet (by decide) (by decide) rfl (Nat.le_of_ble_eq_true rfl) dX8_isPair_15 ?_
    rw [e16]
    refine z_ifz_eq (pc := 18) 33 dX8_isPair_18 rfl (fun c18 => ?_) (fun c18 => ?_)
    · refine z_iconst (pc := 33) (0) (by decide) dX8_isPair_33 ?_
      rw [← hQx]
      refine z_zret (pc := 34) rfl rfl (by decide) dX8_isPair_34 (by first | exact ⟨_, rfl, (zb_t ⟨c10, c18, c26⟩).symm, hM, hF⟩ | exact ⟨_, rfl, (zb_f (fun h => c10 h.1)).symm, hM, hF⟩ | exact ⟨_, rfl, (zb_f (fun h => c18 h.2.1)).symm, hM, hF⟩ | exact ⟨_, rfl, (zb_f (fun h => c26 h.2.2)).symm, hM, hF⟩)
    · refine z_al0 (pc := 21) dX8_isPair_21 ?_
      refine z_il3 (pc := 22) dX8_isPair_22 ?_
      refine z_callVr (pc := 23) (c_mIsDay l q hM) hM.1 rfl rfl kw_874 zc_X8_isDay (by decide) (by decide) rfl (Nat.le_of_ble_eq_true rfl) dX8_isPair_23 ?_
      rw [e19]
      refine z_ifz_eq (pc := 26) 33 dX8_isPair_26 rfl (fun c26 => ?_) (fun c26 => ?_)
      · refine z_iconst (pc := 33) (0) (by decide) dX8_isPair_33 ?_
        rw [← hQx]
        refine z_zret (pc := 34) rfl rfl (by decide) dX8_isPair_34 (by first | exact ⟨_, rfl, (zb_t ⟨c10, c18, c26⟩).symm, hM, hF⟩ | exact ⟨_, rfl, (zb_f (fun h => c10 h.1)).symm, hM, hF⟩ | exact ⟨_, rfl, (zb_f (fun h => c18 h.2.1)).symm, hM, hF⟩ | exact ⟨_, rfl, (zb_f (fun h => c26 h.2.2)).symm, hM, hF⟩)
      · refine z_iconst (pc := 29) (1) (by decide) dX8_isPair_29 ?_
        refine z_goto (pc := 30) 34 dX8_isPair_30 rfl ?_
        rw [← hQx]
        refine z_zret (pc := 34) rfl rfl (by decide) dX8_isPair_34 (by first | exact ⟨_, rfl, (zb_t ⟨c10, c18, c26⟩).symm, hM, hF⟩ | exact ⟨_, rfl, (zb_f (fun h => c10 h.1)).symm, hM, hF⟩ | exact ⟨_, rfl, (zb_f (fun h => c18 h.2.1)).symm, hM, hF⟩ | exact ⟨_, rfl, (zb_f (fun h => c26 h.2.2)).symm, hM, hF⟩)
abbrev rX8_distance : Room := rmK 4 0 0 94
set_option maxRecDepth 100000 in
set_option maxHeartbeats 400000 in
theorem c_mDistance (l : Launch) {κ : zK} {G : zH} {x : Nat} {ad : Nat → Nat} {sc : Nat → Int32} {ar : Nat → Nat → Int32} (n c d w : Nat) (ln : Nat → Nat) (a0 b0 q : Int32) (hM : RM κ G x ad sc ar) (hJ : MJ n c d w ln sc ar) : Ct l yX8_distance cX8_distance 4 (some FieldType.int) rX8_distance κ [.ref x, .int a0, .int b0, .int q] G (qP (if ok2 n w a0 b0 q then sD ar c ln q (iN a0) (iN b0) else -1) κ G x ad sc ar) := by
  refine Ct.of (by decide +kernel) (fun v hv => by
    simp only [List.mem_cons, List.mem_nil_iff, or_false, List.not_mem_nil] at hv
    rcases hv with rfl | rfl | rfl | rfl <;> rfl) (Nat.le_of_ble_eq_true rfl) ?_
  intro p e s m args below meth cC
  refine z_L (L' := [some (.ref x), some (.int a0), some (.int b0), some (.int q)]) rfl ?_
  generalize hQx : MQ below (zQc κ _) args s _ _ (zA κ) = Qx
  have hF : zF 1 G G := zF.rf
  refine z_al0 (pc := 0) dX8_distance_0 ?_
  refine z_il1 (pc := 1) dX8_distance_1 ?_
  refine z_il2 (pc := 2) dX8_distance_2 ?_
  refine z_il3 (pc := 3) dX8_distance_3 ?_
  refine z_callVi (pc := 4) _ (c_mIsPair l n c d w ln a0 b0 q hM hJ) rfl hM.1 rfl rfl kw_886 zc_X8_isPair (by decide) rfl (Nat.le_of_ble_eq_true rfl) dX8_distance_4 (fun r G1 h => ?_)
  obtain ⟨rfl, hM1, hF1⟩ := h
  have hF := zF.trans hF hF1
  clear hF1
  replace hM := hM1
  clear hM1
  refine z_ifz_eq (pc := 7) 20 dX8_distance_7 rfl (fun c7 => ?_) (fun c7 => ?_)
  · refine z_iconst (pc := 20) (-1) (by decide) dX8_distance_20 ?_
    rw [← hQx]
    refine z_iret (pc := 21) rfl (by decide) dX8_distance_21 (⟨_, rfl, (if_neg c7).symm, _, _, hM, hF, PS.sc0 0 0 (by omega)⟩)
  · obtain ⟨⟨ha0, ha1⟩, ⟨hb0, hb1⟩, hq⟩ := c7
    obtain ⟨a, rfl, ha⟩ := ix_in ha0 ha1 (by have := hJ.2.1; omega)
    obtain ⟨b, rfl, hb⟩ := ix_in hb0 hb1 (by have := hJ.2.1; omega)
    have hn20 := hJ.2.1
    have hla := hJ.2.2.2.2.2.2.2.2.1 a ha
    have hlb := hJ.2.2.2.2.2.2.2.2.1 b hb
    have hok : ok2 n w (nI a) (nI b) q := ⟨⟨ha0, ha1⟩, ⟨hb0, hb1⟩, hq⟩
    have hPS : PS sc ar (sup sc 0 0) ar := PS.sc0 0 0 (by omega)
    refine z_al0 (pc := 10) dX8_distance_10 ?_
    refine z_il1 (pc := 11) dX8_distance_11 ?_
    refine z_il2 (pc := 12) dX8_distance_12 ?_
    refine z_il3 (pc := 13) dX8_distance_13 ?_
    refine z_callVi (pc := 14) _ (c_mFar l a b (ln a) (ln b) c q hM (by omega) (by omega) hla.1 hla.2 hlb.1 hlb.2 hJ.2.2.1 hJ.2.2.2.1) rfl hM.1 rfl rfl kw_890 zc_X8_far (by decide) rfl (Nat.le_of_ble_eq_true rfl) dX8_distance_14 (fun r G1 h => ?_)
    obtain ⟨sc1, ar1, rfl, hM1, hF1, hI⟩ := h
    have hF := zF.trans hF hF1
    clear hF1
    replace hM := hM1
    clear hM1
    refine z_goto (pc := 17) 21 dX8_distance_17 rfl ?_
    rw [← hQx]
    refine z_iret (pc := 21) rfl (by decide) dX8_distance_21 (⟨_, rfl, by rw [if_pos hok, iN_nI (by omega), iN_nI (by omega)]; exact hI.d, _, _, hM, hF, hPS.trans hI.ps⟩)
abbrev rX8_key : Room := rmK 4 0 0 94
set_option maxRecDepth 100000 in
set_option maxHeartbeats 400000 in
theorem c_mKey (l : Launch) {κ : zK} {G : zH} {x : Nat} {ad : Nat → Nat} {sc : Nat → Int32} {ar : Nat → Nat → Int32} (n c d w : Nat) (ln : Nat → Nat) (a0 b0 q : Int32) (hM : RM κ G x ad sc ar) (hJ : MJ n c d w ln sc ar) (hTL : TLok ar c n ln) : Ct l yX8_key cX8_key 5 (some FieldType.int) rX8_key κ [.ref x, .int a0, .int b0, .int q] G (qP (if ok2 n w a0 b0 q then sK ar c ln q (iN a0) (iN b0) else 100) κ G x ad sc ar) := by
  refine Ct.of (by decide +kernel) (fun v hv => by
    simp only [List.mem_cons, List.mem_nil_iff, or_false, List.not_mem_nil] at hv
    rcases hv with rfl | rfl | rfl | rfl <;> rfl) (Nat.le_of_ble_eq_true rfl) ?_
  intro p e s m args below meth cC
  refine z_L (L' := [some (.ref x), some (.int a0), some (.int b0), some (.int q), none]) rfl ?_
  generalize hQx : MQ below (zQc κ _) args s _ _ (zA κ) = Qx
  have hF : zF 1 G G := zF.rf
  refine z_al0 (pc := 0) dX8_key_0 ?_
  refine z_il1 (pc := 1) dX8_key_1 ?_
  refine z_il2 (pc := 2) dX8_key_2 ?_
  refine z_il3 (pc := 3) dX8_key_3 ?_
  refine z_callVi (pc := 4) _ (c_mIsPair l n c d w ln a0 b0 q hM hJ) rfl hM.1 rfl rfl kw_886 zc_X8_isPair (by decide) rfl (Nat.le_of_ble_eq_true rfl) dX8_key_4 (fun r G1 h => ?_)
  obtain ⟨rfl, hM1, hF1⟩ := h
  have hF := zF.trans hF hF1
  clear hF1
  replace hM := hM1
  clear hM1
  refine z_ifz_ne (pc := 7) 13 dX8_key_7 rfl (fun c7 => ?_) (fun c7 => ?_)
  · obtain ⟨⟨ha0, ha1⟩, ⟨hb0, hb1⟩, hq⟩ := c7
    obtain ⟨a, rfl, ha⟩ := ix_in ha0 ha1 (by have := hJ.2.1; omega)
    obtain ⟨b, rfl, hb⟩ := ix_in hb0 hb1 (by have := hJ.2.1; omega)
    have hn20 := hJ.2.1
    have hla := hJ.2.2.2.2.2.2.2.2.1 a ha
    have hlb := hJ.2.2.2.2.2.2.2.2.1 b hb
    have hok : ok2 n w (nI a) (nI b) q := ⟨⟨ha0, ha1⟩, ⟨hb0, hb1⟩, hq⟩
    have hPS : PS sc ar (sup sc 0 0) ar := PS.sc0 0 0 (by omega)
    refine z_al0 (pc := 13) dX8_key_13 ?_
    refine z_il1 (pc := 14) dX8_key_14 ?_
    refine z_il2 (pc := 15) dX8_key_15 ?_
    refine z_il3 (pc := 16) dX8_key_16 ?_
    refine z_callVi (pc := 17) _ (c_mFar l a b (ln a) (ln b) c q hM (by omega) (by omega) hla.1 hla.2 hlb.1 hlb.2 hJ.2.2.1 hJ.2.2.2.1) rfl hM.1 rfl rfl kw_890 zc_X8_far (by decide) rfl (Nat.le_of_ble_eq_true rfl) dX8_key_17 (fun r G1 h => ?_)
    obtain ⟨sc1, ar1, rfl, hM1, hF1, hI⟩ := h
    have hF := zF.trans hF hF1
    clear hF1
    replace hM := hM1
    clear hM1
    refine z_is4 (pc := 20) dX8_key_20 (by decide) ?_
    refine z_al0 (pc := 22) dX8_key_22 ?_
    refine z_mg28 (pc := 23) hM rfl dX8_key_23 ?_
    rw [← hQx]
    refine z_iret (pc := 26) rfl (by decide) dX8_key_26 (⟨_, rfl, by rw [if_pos hok, iN_nI (by omega), iN_nI (by omega)]; exact (congrArg Prod.snd hI.2.2.2.1).trans (congrArg Prod.snd (hTL a b q _ ha hb)), _, _, hM, hF, hPS.trans hI.ps⟩)
  · refine z_bipush (pc := 10) (100) (by decide) dX8_key_10 ?_
    rw [← hQx]
    refine z_iret (pc := 12) rfl (by decide) dX8_key_12 (⟨_, rfl, (if_neg c7).symm, _, _, hM, hF, PS.sc0 0 0 (by omega)⟩)
/-- the columns of the alignment told: s0 of them, counted from the last one back -/
def PT (ar : Nat → Nat → Int32) (c : Nat) (ln : Nat → Nat) (q : Int32) (a b : Nat) (s : Nat) : Nat × Nat := pst (dD ar c q a b (sK ar c ln q a b)) (dC ar c q a b (sK ar c ln q a b)) (dA ar c q a) (ln a, ln b) s
def isCols (ar : Nat → Nat → Int32) (c : Nat) (ln : Nat → Nat) (q : Int32) (a b s0 : Nat) : Prop := PT ar c ln q a b s0 = (0, 0) ∧ s0 ≤ 48 ∧ ∀ k, k < s0 → PT ar c ln q a b k ≠ (0, 0)
def colT (ar : Nat → Nat → Int32) (c : Nat) (ln : Nat → Nat) (q : Int32) (a b k : Nat) : Int32 := eT (dD ar c q a b (sK ar c ln q a b)) (dC ar c q a b (sK ar c ln q a b)) (dA ar c q a) (PT ar c ln q a b k)
def colU (ar : Nat → Nat → Int32) (c : Nat) (ln : Nat → Nat) (q : Int32) (a b k : Nat) : Int32 := eU (dD ar c q a b (sK ar c ln q a b)) (dC ar c q a b (sK ar c ln q a b)) (dA ar c q a) (PT ar c ln q a b k)
def colC (ar : Nat → Nat → Int32) (c : Nat) (ln : Nat → Nat) (q : Int32) (a b k : Nat) : Int32 := eC (dD ar c q a b (sK ar c ln q a b)) (dC ar c q a b (sK ar c ln q a b)) (dA ar c q a) (dA ar c q b) (PT ar c ln q a b k)
theorem isCols.one {ar : Nat → Nat → Int32} {c : Nat} {ln : Nat → Nat} {q : Int32} {a b s0 s1 : Nat} (h : isCols ar c ln q a b s0) (g : isCols ar c ln q a b s1) : s0 = s1 := by
  rcases Nat.lt_trichotomy s0 s1 with q1 | q1 | q1
  · exact absurd h.1 (g.2.2 s0 q1)
  · exact q1
  · exact absurd g.1 (h.2.2 s1 q1)
theorem AL.cols {sc sc2 : Nat → Int32} {ar ar2 : Nat → Nat → Int32} {a b c s0 : Nat} {q : Int32} {ln : Nat → Nat} (h : AL sc ar sc2 ar2 a b (ln a) (ln b) c q (sK ar c ln q a b) s0) (ha : ln a ≤ 24) (hb : ln b ≤ 24) : isCols ar c ln q a b s0 ∧ ∀ k, k < s0 → ar2 29 k = colT ar c ln q a b k ∧ ar2 30 k = colU ar c ln q a b k ∧ ar2 31 k = colC ar c ln q a b k := by
  obtain ⟨-, -, -, -, -, arP, hV⟩ := h
  obtain ⟨-, h2, h3, -, -, h6⟩ := hV
  exact ⟨⟨h2.symm, by omega, fun k hk => (h6 k hk).1⟩, fun k hk => (h6 k hk).2⟩
/-- what column answers, the number of columns being s0 -/
def sCol (ar : Nat → Nat → Int32) (c : Nat) (ln : Nat → Nat) (q : Int32) (a b s0 : Nat) (i what : Int32) : Int32 :=
  if 0 ≤ i ∧ i < nI s0 then (if what = 0 then colT ar c ln q a b (s0 - 1 - iN i) else if what = 1 then colU ar c ln q a b (s0 - 1 - iN i) else if what = 2 then colC ar c ln q a b (s0 - 1 - iN i) else -1) else -1
abbrev rX8_column : Room := rmK 5 0 0 123
set_option maxRecDepth 100000 in
set_option maxHeartbeats 400000 in
theorem c_mColumn (l : Launch) {κ : zK} {G : zH} {x : Nat} {ad : Nat → Nat} {sc : Nat → Int32} {ar : Nat → Nat → Int32} (n c d w : Nat) (ln : Nat → Nat) (a0 b0 q i0 what : Int32) (hM : RM κ G x ad sc ar) (hJ : MJ n c d w ln sc ar) (hTL : TLok ar c n ln) : Ct l yX8_column cX8_column 7 (some FieldType.int) rX8_column κ [.ref x, .int a0, .int b0, .int q, .int i0, .int what] G (pI (fun r G2 => ∃ sc2 ar2, RM κ G2 x ad sc2 ar2 ∧ zF 1 G G2 ∧ PS sc ar sc2 ar2 ∧ ((¬ ok2 n w a0 b0 q ∧ r = -1) ∨ (ok2 n w a0 b0 q ∧ ∃ s0, isCols ar c ln q (iN a0) (iN b0) s0 ∧ r = sCol ar c ln q (iN a0) (iN b0) s0 i0 what)))) := by
  refine Ct.of (by decide +kernel) (fun v hv => by
    simp only [List.mem_cons, List.mem_nil_iff, or_false, List.not_mem_nil] at hv
    rcases hv with rfl | rfl | rfl | rfl | rfl | rfl <;> rfl) (Nat.le_of_ble_eq_true rfl) ?_
  intro p e s m args below meth cC
  refine z_L (L' := [some (.ref x), some (.int a0), some (.int b0), some (.int q), some (.int i0), some (.int what), none]) rfl ?_
  generalize hQx : MQ below (zQc κ _) args s _ _ (zA κ) = Qx
  have hF : zF 1 G G := zF.rf
  refine z_al0 (pc := 0) dX8_column_0 ?_
  refine z_il1 (pc := 1) dX8_column_1 ?_
  refine z_il2 (pc := 2) dX8_column_2 ?_
  refine z_il3 (pc := 3) dX8_column_3 ?_
  refine z_callVi (pc := 4) _ (c_mIsPair l n c d w ln a0 b0 q hM hJ) rfl hM.1 rfl rfl kw_886 zc_X8_isPair (by decide) rfl (Nat.le_of_ble_eq_true rfl) dX8_column_4 (fun r G1 h => ?_)
  obtain ⟨rfl, hM1, hF1⟩ := h
  have hF := zF.trans hF hF1
  clear hF1
  replace hM := hM1
  clear hM1
  refine z_ifz_ne (pc := 7) 12 dX8_column_7 rfl (fun c7 => ?_) (fun c7 => ?_)
  · obtain ⟨⟨ha0, ha1⟩, ⟨hb0, hb1⟩, hq⟩ := c7
    obtain ⟨a, rfl, ha⟩ := ix_in ha0 ha1 (by have := hJ.2.1; omega)
    obtain ⟨b, rfl, hb⟩ := ix_in hb0 hb1 (by have := hJ.2.1; omega)
    have hn20 := hJ.2.1
    have hla := hJ.2.2.2.2.2.2.2.2.1 a ha
    have hlb := hJ.2.2.2.2.2.2.2.2.1 b hb
    have hok : ok2 n w (nI a) (nI b) q := ⟨⟨ha0, ha1⟩, ⟨hb0, hb1⟩, hq⟩
    have hPS : PS sc ar (sup sc 0 0) ar := PS.sc0 0 0 (by omega)
    refine z_al0 (pc := 12) dX8_column_12 ?_
    refine z_il1 (pc := 13) dX8_column_13 ?_
    refine z_il2 (pc := 14) dX8_column_14 ?_
    refine z_il3 (pc := 15) dX8_column_15 ?_
    refine z_callVv (pc := 16) _ (c_mAlign l a b (ln a) (ln b) c q hM (by omega) (by omega) hla.1 hla.2 hlb.1 hlb.2 hJ.2.2.1 hJ.2.2.2.1) rfl hM.1 rfl rfl kw_923 zc_X8_align (by decide) rfl (Nat.le_of_ble_eq_true rfl) dX8_column_16 (fun G1 h => ?_)
    obtain ⟨sc1, ar1, s0, hM1, hF1, hI⟩ := h
    rw [show (tl _ _ 25).2 = sK ar c ln q a b from congrArg Prod.snd (hTL a b q _ ha hb)] at hI
    have hF := zF.trans hF hF1
    clear hF1
    replace hM := hM1
    clear hM1
    have hC := hI.cols hla.2 hlb.2
    have hs48 := hC.1.2.1
    have e32 : sc1 32 = nI s0 := hI.2.2.1
    refine z_il4 (pc := 19) dX8_column_19 ?_
    refine z_if_lt (pc := 21) 33 dX8_column_21 rfl (fun c21 => ?_) (fun c21 => ?_)
    · refine z_iconst (pc := 33) (-1) (by decide) dX8_column_33 ?_
      rw [← hQx]
      refine z_iret (pc := 34) rfl (by decide) dX8_column_34 (⟨_, rfl, _, _, hM, hF, hPS.trans hI.1, Or.inr ⟨hok, s0, by rw [iN_nI (by omega), iN_nI (by omega)]; exact hC.1, by rw [iN_nI (by omega), iN_nI (by omega)]; unfold sCol; rw [if_neg]; first | exact fun h => absurd h.1 (Int32.not_le.mpr c21) | exact fun h => c30 h.2⟩⟩)
    · refine z_il4 (pc := 24) dX8_column_24 ?_
      refine z_al0 (pc := 26) dX8_column_26 ?_
      refine z_mg32 (pc := 27) hM rfl dX8_column_27 ?_
      rw [e32]
      refine z_icmp_lt (pc := 30) 35 dX8_column_30 rfl (fun c30 => ?_) (fun c30 => ?_)
      · have hi0 : 0 ≤ i0 := Int32.not_lt.mp c21
        have hi1 : i0 < nI s0 := c30
        obtain ⟨i, rfl, hi⟩ := ix_in hi0 hi1 (by omega)
        refine z_al0 (pc := 35) dX8_column_35 ?_
        refine z_mg32 (pc := 36) hM rfl dX8_column_36 ?_
        rw [e32]
        refine z_iconst (pc := 39) (1) (by decide) dX8_column_39 ?_
        refine z_isub (pc := 40) dX8_column_40 ?_
        refine z_il4 (pc := 41) dX8_column_41 ?_
        refine z_isub (pc := 43) dX8_column_43 ?_
        rw [show nI s0 - 1 - nI i = nI (s0 - 1 - i) from by rw [show (1 : Int32) = nI 1 from rfl, pk_sub (by omega), pk_sub (by omega)]]
        refine z_is6 (pc := 44) dX8_column_44 (by decide) ?_
        refine z_il5 (pc := 46) dX8_column_46 ?_
        skip
        refine z_if_ne (pc := 48) 61 dX8_column_48 rfl (fun c48 => ?_) (fun c48 => ?_)
        · refine z_il5 (pc := 61) dX8_column_61 ?_
          refine z_iconst (pc := 63) (1) (by decide) dX8_column_63 ?_
          skip
          refine z_icmp_ne (pc := 64) 77 dX8_column_64 rfl (fun c64 => ?_) (fun c64 => ?_)
          · refine z_il5 (pc := 77) dX8_column_77 ?_
            refine z_iconst (pc := 79) (2) (by decide) dX8_column_79 ?_
            skip
            refine z_icmp_ne (pc := 80) 93 dX8_column_80 rfl (fun c80 => ?_) (fun c80 => ?_)
            · refine z_iconst (pc := 93) (-1) (by decide) dX8_column_93 ?_
              rw [← hQx]
              refine z_iret (pc := 94) rfl (by decide) dX8_column_94 (⟨_, rfl, _, _, hM, hF, hPS.trans hI.1, Or.inr ⟨hok, s0, by rw [iN_nI (by omega), iN_nI (by omega)]; exact hC.1, by rw [iN_nI (by omega), iN_nI (by omega)]; unfold sCol; rw [iN_nI (by omega), if_pos ⟨hi0, hi1⟩]; first | rw [if_pos ‹what = 0›]; exact (hC.2 _ (by omega)).1 | rw [if_neg ‹¬ what = 0›, if_pos ‹what = 1›]; exact (hC.2 _ (by omega)).2.1 | rw [if_neg ‹¬ what = 0›, if_neg ‹¬ what = 1›, if_pos ‹what = 2›]; exact (hC.2 _ (by omega)).2.2 | rw [if_neg ‹¬ what = 0›, if_neg ‹¬ what = 1›, if_neg ‹¬ what = 2›]⟩⟩)
            · refine z_al0 (pc := 83) dX8_column_83 ?_
              refine z_mg31 (pc := 84) hM rfl dX8_column_84 ?_
              refine z_il6 (pc := 87) dX8_column_87 ?_
              refine z_mld (pc := 89) 31 48 hM rfl (by decide) rfl (by omega) dX8_column_89 ?_
              refine z_goto (pc := 90) 94 dX8_column_90 rfl ?_
              rw [← hQx]
              refine z_iret (pc := 94) rfl (by decide) dX8_column_94 (⟨_, rfl, _, _, hM, hF, hPS.trans hI.1, Or.inr ⟨hok, s0, by rw [iN_nI (by omega), iN_nI (by omega)]; exact hC.1, by rw [iN_nI (by omega), iN_nI (by omega)]; unfold sCol; rw [iN_nI (by omega), if_pos ⟨hi0, hi1⟩]; first | rw [if_pos ‹what = 0›]; exact (hC.2 _ (by omega)).1 | rw [if_neg ‹¬ what = 0›, if_pos ‹what = 1›]; exact (hC.2 _ (by omega)).2.1 | rw [if_neg ‹¬ what = 0›, if_neg ‹¬ what = 1›, if_pos ‹what = 2›]; exact (hC.2 _ (by omega)).2.2 | rw [if_neg ‹¬ what = 0›, if_neg ‹¬ what = 1›, if_neg ‹¬ what = 2›]⟩⟩)
          · refine z_al0 (pc := 67) dX8_column_67 ?_
            refine z_mg30 (pc := 68) hM rfl dX8_column_68 ?_
            refine z_il6 (pc := 71) dX8_column_71 ?_
            refine z_mld (pc := 73) 30 48 hM rfl (by decide) rfl (by omega) dX8_column_73 ?_
            refine z_goto (pc := 74) 94 dX8_column_74 rfl ?_
            rw [← hQx]
            refine z_iret (pc := 94) rfl (by decide) dX8_column_94 (⟨_, rfl, _, _, hM, hF, hPS.trans hI.1, Or.inr ⟨hok, s0, by rw [iN_nI (by omega), iN_nI (by omega)]; exact hC.1, by rw [iN_nI (by omega), iN_nI (by omega)]; unfold sCol; rw [iN_nI (by omega), if_pos ⟨hi0, hi1⟩]; first | rw [if_pos ‹what = 0›]; exact (hC.2 _ (by omega)).1 | rw [if_neg ‹¬ what = 0›, if_pos ‹what = 1›]; exact (hC.2 _ (by omega)).2.1 | rw [if_neg ‹¬ what = 0›, if_neg ‹¬ what = 1›, if_pos ‹what = 2›]; exact (hC.2 _ (by omega)).2.2 | rw [if_neg ‹¬ what = 0›, if_neg ‹¬ what = 1›, if_neg ‹¬ what = 2›]⟩⟩)
        · refine z_al0 (pc := 51) dX8_column_51 ?_
          refine z_mg29 (pc := 52) hM rfl dX8_column_52 ?_
          refine z_il6 (pc := 55) dX8_column_55 ?_
          refine z_mld (pc := 57) 29 48 hM rfl (by decide) rfl (by omega) dX8_column_57 ?_
          refine z_goto (pc := 58) 94 dX8_column_58 rfl ?_
          rw [← hQx]
          refine z_iret (pc := 94) rfl (by decide) dX8_column_94 (⟨_, rfl, _, _, hM, hF, hPS.trans hI.1, Or.inr ⟨hok, s0, by rw [iN_nI (by omega), iN_nI (by omega)]; exact hC.1, by rw [iN_nI (by omega), iN_nI (by omega)]; unfold sCol; rw [iN_nI (by omega), if_pos ⟨hi0, hi1⟩]; first | rw [if_pos ‹what = 0›]; exact (hC.2 _ (by omega)).1 | rw [if_neg ‹¬ what = 0›, if_pos ‹what = 1›]; exact (hC.2 _ (by omega)).2.1 | rw [if_neg ‹¬ what = 0›, if_neg ‹¬ what = 1›, if_pos ‹what = 2›]; exact (hC.2 _ (by omega)).2.2 | rw [if_neg ‹¬ what = 0›, if_neg ‹¬ what = 1›, if_neg ‹¬ what = 2›]⟩⟩)
      · refine z_iconst (pc := 33) (-1) (by decide) dX8_column_33 ?_
        rw [← hQx]
        refine z_iret (pc := 34) rfl (by decide) dX8_column_34 (⟨_, rfl, _, _, hM, hF, hPS.trans hI.1, Or.inr ⟨hok, s0, by rw [iN_nI (by omega), iN_nI (by omega)]; exact hC.1, by rw [iN_nI (by omega), iN_nI (by omega)]; unfold sCol; rw [if_neg]; first | exact fun h => absurd h.1 (Int32.not_le.mpr c21) | exact fun h => c30 h.2⟩⟩)
  · refine z_iconst (pc := 10) (-1) (by decide) dX8_column_10 ?_
    rw [← hQx]
    refine z_iret (pc := 11) rfl (by decide) dX8_column_11 (⟨_, rfl, _, _, hM, hF, PS.sc0 0 0 (by omega), Or.inl ⟨c7, rfl⟩⟩)
end
section
abbrev okA (n w : Nat) (ar : Nat → Nat → Int32) (a q : Int32) : Prop := okS n a ∧ (0 ≤ q ∧ q ≤ nI w) ∧ ¬ frg ar (iN a) q
theorem frg_ps {sc sc2 : Nat → Int32} {ar ar2 : Nat → Nat → Int32} (g : PS sc ar sc2 ar2) (j : Nat) (q : Int32) : frg ar2 j q ↔ frg ar j q := by unfold frg; rw [g.2 5 (by omega) (by omega)]
theorem erl_ps {sc sc2 : Nat → Int32} {ar ar2 : Nat → Nat → Int32} (g : PS sc ar sc2 ar2) (s t : Nat) : erl ar2 s t ↔ erl ar s t := by unfold erl; rw [g.2 2 (by omega) (by omega)]
/-- the source as the reference looks for it -/
def srcM (ar : Nat → Nat → Int32) (D : Nat → Int32) (a : Nat) (q : Int32) : Nat → Option (Nat × Int32)
  | 0 => none
  | k + 1 => if k = a ∨ ¬ erl ar k a ∨ frg ar k q then srcM ar D a q k else match srcM ar D a q k with
    | none => some (k, D k)
    | some (b, f) => if f < D k ∨ (D k = f ∧ ¬ erl ar k b) then some (b, f) else some (k, D k)
def bM (o : Option (Nat × Int32)) : Int32 := match o with
  | none => -1
  | some (b, _) => nI b
def srcR (ar : Nat → Nat → Int32) (o : Option (Nat × Int32)) : Int32 := match o with
  | none => -1
  | some (b, f) => if f < ar 15 4 then nI b else -1
def chgR (ar : Nat → Nat → Int32) (o : Option (Nat × Int32)) : Int32 := match o with
  | none => ar 15 4
  | some (_, f) => if f < ar 15 4 then f else ar 15 4
theorem srcM_lt (ar : Nat → Nat → Int32) (D : Nat → Int32) (a : Nat) (q : Int32) : ∀ k b f, srcM ar D a q k = some (b, f) → b < k
  | 0, _, _, h => by cases h
  | k + 1, b, f, h => by
    unfold srcM at h
    split at h
    · have := srcM_lt ar D a q k b f h; omega
    · cases h2 : srcM ar D a q k with
      | none => rw [h2] at h; cases h; omega
      | some y =>
        obtain ⟨b2, f2⟩ := y
        rw [h2] at h
        simp only at h
        split at h
        · cases h; have := srcM_lt ar D a q k _ _ h2; omega
        · cases h; omega
theorem srcM_skip {ar : Nat → Nat → Int32} {D : Nat → Int32} {a k : Nat} {q : Int32} (h : k = a ∨ ¬ erl ar k a ∨ frg ar k q) : srcM ar D a q (k + 1) = srcM ar D a q k := if_pos h
theorem srcM_none {ar : Nat → Nat → Int32} {D : Nat → Int32} {a k : Nat} {q : Int32} (h : ¬ (k = a ∨ ¬ erl ar k a ∨ frg ar k q)) (h2 : srcM ar D a q k = none) : srcM ar D a q (k + 1) = some (k, D k) := by
  unfold srcM; rw [if_neg h, h2]
theorem srcM_old {ar : Nat → Nat → Int32} {D : Nat → Int32} {a k b : Nat} {f q : Int32} (h : ¬ (k = a ∨ ¬ erl ar k a ∨ frg ar k q)) (h2 : srcM ar D a q k = some (b, f)) (h3 : f < D k ∨ (D k = f ∧ ¬ erl ar k b)) : srcM ar D a q (k + 1) = some (b, f) := by
  unfold srcM; rw [if_neg h, h2]; exact if_pos h3
theorem srcM_new {ar : Nat → Nat → Int32} {D : Nat → Int32} {a k b : Nat} {f q : Int32} (h : ¬ (k = a ∨ ¬ erl ar k a ∨ frg ar k q)) (h2 : srcM ar D a q k = some (b, f)) (h3 : ¬ (f < D k ∨ (D k = f ∧ ¬ erl ar k b))) : srcM ar D a q (k + 1) = some (k, D k) := by
  unfold srcM; rw [if_neg h, h2]; exact if_neg h3
theorem nI_m1 {n : Nat} (h : n < 2 ^ 31) : ¬ nI n = -1 := fun q => by rw [i_eq, nI_toInt h, i_m1] at q; omega
abbrev rX8_isEarlier : Room := rmK 0 0 0 0
set_option maxRecDepth 100000 in
set_option maxHeartbeats 400000 in
theorem c_mIsEarlier (l : Launch) {κ : zK} {G : zH} {x : Nat} {ad : Nat → Nat} {sc : Nat → Int32} {ar : Nat → Nat → Int32} (a b : Nat) (hM : RM κ G x ad sc ar) (ha : a < 20) (hb : b < 20) : Ct l yX8_isEarlier cX8_isEarlier 3 (some FieldType.boolean) rX8_isEarlier κ [.ref x, .int (nI a), .int (nI b)] G (zP (zb (erl ar a b)) G) := by
  refine Ct.of (by decide +kernel) (fun v hv => by
    simp only [List.mem_cons, List.mem_nil_iff, or_false, List.not_mem_nil] at hv
    rcases hv with rfl | rfl | rfl <;> rfl) (Nat.le_of_ble_eq_true rfl) ?_
  intro p e s m args below meth cC
  refine z_L (L' := [some (.ref x), some (.int (nI a)), some (.int (nI b))]) rfl ?_
  generalize hQx : MQ below (zQc κ _) args s _ _ (zA κ) = Qx
  refine z_al0 (pc := 0) dX8_isEarlier_0 ?_
  refine z_mg2 (pc := 1) hM rfl dX8_isEarlier_1 ?_
  refine z_il1 (pc := 4) dX8_isEarlier_4 ?_
  refine z_mld (pc := 5) 2 20 hM rfl (by decide) rfl (by omega) dX8_isEarlier_5 ?_
  refine z_al0 (pc := 6) dX8_isEarlier_6 ?_
  refine z_mg2 (pc := 7) hM rfl dX8_isEarlier_7 ?_
  refine z_il2 (pc := 10) dX8_isEarlier_10 ?_
  refine z_mld (pc := 11) 2 20 hM rfl (by decide) rfl (by omega) dX8_isEarlier_11 ?_
  refine z_icmp_lt (pc := 12) 35 dX8_isEarlier_12 rfl (fun c12 => ?_) (fun c12 => ?_)
  · refine z_iconst (pc := 35) (1) (by decide) dX8_isEarlier_35 ?_
    refine z_goto (pc := 36) 40 dX8_isEarlier_36 rfl ?_
    rw [← hQx]
    refine z_zret (pc := 40) rfl rfl (by decide) dX8_isEarlier_40 (⟨_, rfl, (zb_t (by unfold erl; simp only [i_lt, i_le, i_eq] at *; omega)).symm, rfl⟩)
  · refine z_al0 (pc := 15) dX8_isEarlier_15 ?_
    refine z_mg2 (pc := 16) hM rfl dX8_isEarlier_16 ?_
    refine z_il1 (pc := 19) dX8_isEarlier_19 ?_
    refine z_mld (pc := 20) 2 20 hM rfl (by decide) rfl (by omega) dX8_isEarlier_20 ?_
    refine z_al0 (pc := 21) dX8_isEarlier_21 ?_
    refine z_mg2 (pc := 22) hM rfl dX8_isEarlier_22 ?_
    refine z_il2 (pc := 25) dX8_isEarlier_25 ?_
    refine z_mld (pc := 26) 2 20 hM rfl (by decide) rfl (by omega) dX8_isEarlier_26 ?_
    refine z_icmp_ne (pc := 27) 39 dX8_isEarlier_27 rfl (fun c27 => ?_) (fun c27 => ?_)
    · refine z_iconst (pc := 39) (0) (by decide) dX8_isEarlier_39 ?_
      rw [← hQx]
      refine z_zret (pc := 40) rfl rfl (by decide) dX8_isEarlier_40 (⟨_, rfl, (zb_f (by unfold erl; simp only [i_lt, i_le, i_eq] at *; omega)).symm, rfl⟩)
    · refine z_il1 (pc := 30) dX8_isEarlier_30 ?_
      refine z_il2 (pc := 31) dX8_isEarlier_31 ?_
      refine z_icmp_ge (pc := 32) 39 dX8_isEarlier_32 rfl (fun c32 => ?_) (fun c32 => ?_)
      · refine z_iconst (pc := 39) (0) (by decide) dX8_isEarlier_39 ?_
        rw [← hQx]
        refine z_zret (pc := 40) rfl rfl (by decide) dX8_isEarlier_40 (⟨_, rfl, (zb_f (by unfold erl; simp only [i_lt, i_le, i_eq] at *; omega)).symm, rfl⟩)
      · refine z_iconst (pc := 35) (1) (by decide) dX8_isEarlier_35 ?_
        refine z_goto (pc := 36) 40 dX8_isEarlier_36 rfl ?_
        rw [← hQx]
        refine z_zret (pc := 40) rfl rfl (by decide) dX8_isEarlier_40 (⟨_, rfl, (zb_t (by unfold erl; simp only [i_lt, i_le, i_eq] at *; omega)).symm, rfl⟩)
abbrev rX8_isAsked : Room := rmK 2 0 0 43
set_option maxRecDepth 100000 in
set_option maxHeartbeats 400000 in
theorem c_mIsAsked (l : Launch) {κ : zK} {G : zH} {x : Nat} {ad : Nat → Nat} {sc : Nat → Int32} {ar : Nat → Nat → Int32} (n c d w : Nat) (ln : Nat → Nat) (a0 q : Int32) (hM : RM κ G x ad sc ar) (hJ : MJ n c d w ln sc ar) : Ct l yX8_isAsked cX8_isAsked 3 (some FieldType.boolean) rX8_isAsked κ [.ref x, .int a0, .int q] G (pI (fun r G2 => r = zb (okA n w ar a0 q) ∧ RM κ G2 x ad (sup sc 0 0) ar ∧ zF 1 G G2)) := by
  refine Ct.of (by decide +kernel) (fun v hv => by
    simp only [List.mem_cons, List.mem_nil_iff, or_false, List.not_mem_nil] at hv
    rcases hv with rfl | rfl | rfl <;> rfl) (Nat.le_of_ble_eq_true rfl) ?_
  intro p e s m args below meth cC
  refine z_L (L' := [some (.ref x), some (.int a0), some (.int q)]) rfl ?_
  generalize hQx : MQ below (zQc κ _) args s _ _ (zA κ) = Qx
  have hF : zF 1 G G := zF.rf
  refine z_al0 (pc := 0) dX8_isAsked_0 ?_
  refine z_iconst (pc := 1) (0) (by decide) dX8_isAsked_1 ?_
  refine z_mp0 (pc := 2) hM rfl dX8_isAsked_2 (fun G1 hM1 hF1 => ?_)
  have hF := zF.trans hF hF1
  clear hF1
  replace hM := hM1
  clear hM1
  have e16 : sup sc 0 0 16 = nI n := hJ.1
  have e19 : sup sc 0 0 19 = nI w := hJ.2.2.2.2.2.2.1
  refine z_al0 (pc := 5) dX8_isAsked_5 ?_
  refine z_il1 (pc := 6) dX8_isAsked_6 ?_
  refine z_callVr (pc := 7) (c_mIsSheet l a0 hM) hM.1 rfl rfl kw_843 zc_X8_isSheet (by decide) (by decide) rfl (Nat.le_of_ble_eq_true rfl) dX8_isAsked_7 ?_
  rw [e16]
  refine z_ifz_eq (pc := 10) 34 dX8_isAsked_10 rfl (fun c10 => ?_) (fun c10 => ?_)
  · refine z_iconst (pc := 34) (0) (by decide) dX8_isAsked_34 ?_
    rw [← hQx]
    refine z_zret (pc := 35) rfl rfl (by decide) dX8_isAsked_35 (by first | exact ⟨_, rfl, (zb_t ⟨c10, c18, by rw [iN_nI (by omega)]; exact c27⟩).symm, hM, hF⟩ | exact ⟨_, rfl, (zb_f (fun h => c10 h.1)).symm, hM, hF⟩ | exact ⟨_, rfl, (zb_f (fun h => c18 h.2.1)).symm, hM, hF⟩ | exact ⟨_, rfl, (zb_f (fun h => h.2.2 (by rw [iN_nI (by omega)]; exact c27))).symm, hM, hF⟩)
  · refine z_al0 (pc := 13) dX8_isAsked_13 ?_
    refine z_il2 (pc := 14) dX8_isAsked_14 ?_
    refine z_callVr (pc := 15) (c_mIsDay l q hM) hM.1 rfl rfl kw_874 zc_X8_isDay (by decide) (by decide) rfl (Nat.le_of_ble_eq_true rfl) dX8_isAsked_15 ?_
    rw [e19]
    refine z_ifz_eq (pc := 18) 34 dX8_isAsked_18 rfl (fun c18 => ?_) (fun c18 => ?_)
    · refine z_iconst (pc := 34) (0) (by decide) dX8_isAsked_34 ?_
      rw [← hQx]
      refine z_zret (pc := 35) rfl rfl (by decide) dX8_isAsked_35 (by first | exact ⟨_, rfl, (zb_t ⟨c10, c18, by rw [iN_nI (by omega)]; exact c27⟩).symm, hM, hF⟩ | exact ⟨_, rfl, (zb_f (fun h => c10 h.1)).symm, hM, hF⟩ | exact ⟨_, rfl, (zb_f (fun h => c18 h.2.1)).symm, hM, hF⟩ | exact ⟨_, rfl, (zb_f (fun h => h.2.2 (by rw [iN_nI (by omega)]; exact c27))).symm, hM, hF⟩)
    · have hn20 := hJ.2.1
      obtain ⟨ha0, ha1⟩ := id c10
      obtain ⟨a, rfl, ha⟩ := ix_in ha0 ha1 (by omega)
      refine z_al0 (pc := 21) dX8_isAsked_21 ?_
      refine z_il1 (pc := 22) dX8_isAsked_22 ?_
      refine z_il2 (pc := 23) dX8_isAsked_23 ?_
      refine z_callVr (pc := 24) (c_mIsForged l a q hM (by omega)) hM.1 rfl rfl kw_935 zc_X8_isForged (by decide) (by decide) rfl (Nat.le_of_ble_eq_true rfl) dX8_isAsked_24 ?_
      refine z_ifz_ne (pc := 27) 34 dX8_isAsked_27 rfl (fun c27 => ?_) (fun c27 => ?_)
      · refine z_iconst (pc := 34) (0) (by decide) dX8_isAsked_34 ?_
        rw [← hQx]
        refine z_zret (pc := 35) rfl rfl (by decide) dX8_isAsked_35 (by first | exact ⟨_, rfl, (zb_t ⟨c10, c18, by rw [iN_nI (by omega)]; exact c27⟩).symm, hM, hF⟩ | exact ⟨_, rfl, (zb_f (fun h => c10 h.1)).symm, hM, hF⟩ | exact ⟨_, rfl, (zb_f (fun h => c18 h.2.1)).symm, hM, hF⟩ | exact ⟨_, rfl, (zb_f (fun h => h.2.2 (by rw [iN_nI (by omega)]; exact c27))).symm, hM, hF⟩)
      · refine z_iconst (pc := 30) (1) (by decide) dX8_isAsked_30 ?_
        refine z_goto (pc := 31) 35 dX8_isAsked_31 rfl ?_
        rw [← hQx]
        refine z_zret (pc := 35) rfl rfl (by decide) dX8_isAsked_35 (by first | exact ⟨_, rfl, (zb_t ⟨c10, c18, by rw [iN_nI (by omega)]; exact c27⟩).symm, hM, hF⟩ | exact ⟨_, rfl, (zb_f (fun h => c10 h.1)).symm, hM, hF⟩ | exact ⟨_, rfl, (zb_f (fun h => c18 h.2.1)).symm, hM, hF⟩ | exact ⟨_, rfl, (zb_f (fun h => h.2.2 (by rw [iN_nI (by omega)]; exact c27))).symm, hM, hF⟩)
abbrev rX8_sourceOf : Room := rmK 4 0 0 94
set_option maxRecDepth 100000 in
set_option maxHeartbeats 400000 in
theorem c_mSourceOf (l : Launch) {κ : zK} {G : zH} {x : Nat} {ad : Nat → Nat} {sc : Nat → Int32} {ar : Nat → Nat → Int32} (n c d w : Nat) (ln : Nat → Nat) (a : Nat) (q : Int32) (hM : RM κ G x ad sc ar) (hJ : MJ n c d w ln sc ar) (ha : a < n) : Ct l yX8_sourceOf cX8_sourceOf 6 (some FieldType.int) rX8_sourceOf κ [.ref x, .int (nI a), .int q] G (pI (fun r G2 => r = srcR ar (srcM ar (sD ar c ln q a) a q n) ∧ ∃ sc2 ar2, RM κ G2 x ad sc2 ar2 ∧ zF 1 G G2 ∧ PS sc ar sc2 ar2 ∧ (∀ b f, (srcM ar (sD ar c ln q a) a q n) = some (b, f) → sc2 34 = f))) := by
  refine Ct.of (by decide +kernel) (fun v hv => by
    simp only [List.mem_cons, List.mem_nil_iff, or_false, List.not_mem_nil] at hv
    rcases hv with rfl | rfl | rfl <;> rfl) (Nat.le_of_ble_eq_true rfl) ?_
  intro p e s m args below meth cC
  refine z_L (L' := [some (.ref x), some (.int (nI a)), some (.int q), none, none, none]) rfl ?_
  generalize hQx : MQ below (zQc κ _) args s _ _ (zA κ) = Qx
  have hF : zF 1 G G := zF.rf
  have hn20 := hJ.2.1
  have lp : ∀ (dd k : Nat) (G1 : zH) (sc1 : Nat → Int32) (ar1 : Nat → Nat → Int32) (w5 : Option Value), k + dd = n → RM κ G1 x ad sc1 ar1 → zF 1 G G1 → PS sc ar sc1 ar1 → (∀ b f, (srcM ar (sD ar c ln q a) a q k) = some (b, f) → sc1 34 = f) → Z p l e rX8_sourceOf s m args below meth cC yX8_sourceOf cX8_sourceOf 6 (some FieldType.int) κ Qx 0 0 G1 [some (.ref x), some (.int (nI a)), some (.int q), some (.int (bM (srcM ar (sD ar c ln q a) a q k))), some (.int (nI k)), w5] 5 [] := by
    intro dd
    induction dd with
    | zero =>
      intro k G1 sc1 ar1 w5 hkd hM hF hPS h34
      rcases hs : (srcM ar (sD ar c ln q a) a q k) with _ | ⟨b, f⟩
      · refine z_il4 (pc := 5) dX8_sourceOf_5 ?_
        refine z_al0 (pc := 7) dX8_sourceOf_7 ?_
        refine z_mg16 (pc := 8) hM rfl dX8_sourceOf_8 ?_
        rw [show sc1 16 = nI n from (hPS.1 16 (by omega) (by omega)).trans hJ.1]
        refine z_icmp_ge (pc := 11) 104 dX8_sourceOf_11 rfl (fun c11 => ?_) (fun c11 => absurd (by rw [show k = n by omega]; exact Int32.le_refl _) c11)
        rw [show k = n by omega] at hs h34 ⊢
        refine z_il3 (pc := 104) dX8_sourceOf_104 ?_
        refine z_iconst (pc := 105) (-1) (by decide) dX8_sourceOf_105 ?_
        refine z_icmp_eq (pc := 106) 126 dX8_sourceOf_106 rfl (fun c106 => ?_) (fun c106 => absurd (rfl) c106)
        skip
        refine z_iconst (pc := 126) (-1) (by decide) dX8_sourceOf_126 ?_
        rw [← hQx]
        refine z_iret (pc := 127) rfl (by decide) dX8_sourceOf_127 (⟨_, rfl, by unfold srcR; rw [hs], _, _, hM, hF, hPS, h34⟩)
      · refine z_il4 (pc := 5) dX8_sourceOf_5 ?_
        refine z_al0 (pc := 7) dX8_sourceOf_7 ?_
        refine z_mg16 (pc := 8) hM rfl dX8_sourceOf_8 ?_
        rw [show sc1 16 = nI n from (hPS.1 16 (by omega) (by omega)).trans hJ.1]
        refine z_icmp_ge (pc := 11) 104 dX8_sourceOf_11 rfl (fun c11 => ?_) (fun c11 => absurd (by rw [show k = n by omega]; exact Int32.le_refl _) c11)
        rw [show k = n by omega] at hs h34 ⊢
        refine z_il3 (pc := 104) dX8_sourceOf_104 ?_
        refine z_iconst (pc := 105) (-1) (by decide) dX8_sourceOf_105 ?_
        refine z_icmp_eq (pc := 106) 126 dX8_sourceOf_106 rfl (fun c106 => absurd c106 (nI_m1 (by have := srcM_lt _ _ _ _ _ _ _ hs; omega))) (fun c106 => ?_)
        refine z_al0 (pc := 109) dX8_sourceOf_109 ?_
        refine z_mg34 (pc := 110) hM rfl dX8_sourceOf_110 ?_
        refine z_al0 (pc := 113) dX8_sourceOf_113 ?_
        refine z_mg15 (pc := 114) hM rfl dX8_sourceOf_114 ?_
        refine z_iconst (pc := 117) (4) (by decide) dX8_sourceOf_117 ?_
        refine z_mld (pc := 118) 15 5 hM rfl (by decide) (show (4 : Int32) = nI 4 from rfl) (by decide) dX8_sourceOf_118 ?_
        rw [hPS.2 15 (by omega) (by omega), h34 _ _ hs]
        refine z_icmp_ge (pc := 119) 126 dX8_sourceOf_119 rfl (fun c119 => ?_) (fun c119 => ?_)
        · refine z_iconst (pc := 126) (-1) (by decide) dX8_sourceOf_126 ?_
          rw [← hQx]
          refine z_iret (pc := 127) rfl (by decide) dX8_sourceOf_127 (⟨_, rfl, by unfold srcR; rw [hs]; exact (if_neg (Int32.not_lt.mpr c119)).symm, _, _, hM, hF, hPS, h34⟩)
        · refine z_il3 (pc := 122) dX8_sourceOf_122 ?_
          refine z_goto (pc := 123) 127 dX8_sourceOf_123 rfl ?_
          rw [← hQx]
          refine z_iret (pc := 127) rfl (by decide) dX8_sourceOf_127 (⟨_, rfl, by unfold srcR; rw [hs]; exact (if_pos (Int32.not_le.mp c119)).symm, _, _, hM, hF, hPS, h34⟩)
    | succ dd ih =>
      intro k G1 sc1 ar1 w5 hkd hM hF hPS h34
      have hkn : k < n := by omega
      have hJ1 := hJ.ps hPS
      have hlk := hJ1.2.2.2.2.2.2.2.2.1 k hkn
      have hla := hJ1.2.2.2.2.2.2.2.2.1 a ha
      rcases hs : (srcM ar (sD ar c ln q a) a q k) with _ | ⟨b, f⟩
      · refine z_il4 (pc := 5) dX8_sourceOf_5 ?_
        refine z_al0 (pc := 7) dX8_sourceOf_7 ?_
        refine z_mg16 (pc := 8) hM rfl dX8_sourceOf_8 ?_
        rw [show sc1 16 = nI n from (hPS.1 16 (by omega) (by omega)).trans hJ.1]
        refine z_icmp_ge (pc := 11) 104 dX8_sourceOf_11 rfl (fun c11 => absurd c11 (by rw [nI_leI (by omega) (by omega)]; omega)) (fun c11 => ?_)
        refine z_il4 (pc := 14) dX8_sourceOf_14 ?_
        refine z_il1 (pc := 16) dX8_sourceOf_16 ?_
        skip
        refine z_icmp_eq (pc := 17) 98 dX8_sourceOf_17 rfl (fun c17 => ?_) (fun c17 => ?_)
        · refine z_ii4 (pc := 98) (nI (k + 1)) dX8_sourceOf_98 (nI_1 _) (by decide) ?_
          refine z_goto (pc := 101) 5 dX8_sourceOf_101 rfl ?_
          have hn := (srcM_skip (D := (sD ar c ln q a)) (Or.inl ((nI_eq (by omega) (by omega)).mp c17))).trans hs
          refine z_L (L' := [some (.ref x), some (.int (nI a)), some (.int q), some (.int (bM (srcM ar (sD ar c ln q a) a q (k + 1)))), some (.int (nI (k + 1))), w5]) (by rw [hn]) ?_
          exact ih (k + 1) _ _ _ _ (by omega) hM hF hPS (fun b f h => h34 b f (hs.trans (hn.symm.trans h)))
        · refine z_al0 (pc := 20) dX8_sourceOf_20 ?_
          refine z_il4 (pc := 21) dX8_sourceOf_21 ?_
          refine z_il1 (pc := 23) dX8_sourceOf_23 ?_
          refine z_callVr (pc := 24) (c_mIsEarlier l k a hM (by omega) (by omega)) hM.1 rfl rfl kw_959 zc_X8_isEarlier (by decide) (by decide) rfl (Nat.le_of_ble_eq_true rfl) dX8_sourceOf_24 ?_
          rw [zb_c (erl_ps hPS k a)]
          refine z_ifz_eq (pc := 27) 98 dX8_sourceOf_27 rfl (fun c27 => ?_) (fun c27 => ?_)
          · refine z_ii4 (pc := 98) (nI (k + 1)) dX8_sourceOf_98 (nI_1 _) (by decide) ?_
            refine z_goto (pc := 101) 5 dX8_sourceOf_101 rfl ?_
            have hn := (srcM_skip (D := (sD ar c ln q a)) (Or.inr (Or.inl c27))).trans hs
            refine z_L (L' := [some (.ref x), some (.int (nI a)), some (.int q), some (.int (bM (srcM ar (sD ar c ln q a) a q (k + 1)))), some (.int (nI (k + 1))), w5]) (by rw [hn]) ?_
            exact ih (k + 1) _ _ _ _ (by omega) hM hF hPS (fun b f h => h34 b f (hs.trans (hn.symm.trans h)))
          · refine z_al0 (pc := 30) dX8_sourceOf_30 ?_
            refine z_il4 (pc := 31) dX8_sourceOf_31 ?_
            refine z_il2 (pc := 33) dX8_sourceOf_33 ?_
            refine z_callVr (pc := 34) (c_mIsForged l k q hM (by omega)) hM.1 rfl rfl kw_935 zc_X8_isForged (by decide) (by decide) rfl (Nat.le_of_ble_eq_true rfl) dX8_sourceOf_34 ?_
            rw [zb_c (frg_ps hPS k q)]
            refine z_ifz_eq (pc := 37) 43 dX8_sourceOf_37 rfl (fun c37 => ?_) (fun c37 => ?_)
            · refine z_al0 (pc := 43) dX8_sourceOf_43 ?_
              refine z_il1 (pc := 44) dX8_sourceOf_44 ?_
              refine z_il4 (pc := 45) dX8_sourceOf_45 ?_
              refine z_il2 (pc := 47) dX8_sourceOf_47 ?_
              refine z_callVi (pc := 48) _ (c_mFar l a k (ln a) (ln k) c q hM (by omega) (by omega) hla.1 hla.2 hlk.1 hlk.2 hJ1.2.2.1 hJ1.2.2.2.1) rfl hM.1 rfl rfl kw_890 zc_X8_far (by decide) rfl (Nat.le_of_ble_eq_true rfl) dX8_sourceOf_48 (fun r G1 h => ?_)
              obtain ⟨sc2, ar2, rfl, hM1, hF1, hI⟩ := h
              have hPS2 := hPS.trans hI.ps
              rw [show sc2 27 = sD ar c ln q a k from hI.d.trans (sD_ps hPS c ln q a k)]
              have h34b : sc2 34 = sc1 34 := hI.1 34 (by omega) (by omega) (by omega) (by omega)
              have hF := zF.trans hF hF1
              clear hF1
              replace hM := hM1
              clear hM1
              refine z_is5 (pc := 51) dX8_sourceOf_51 (by decide) ?_
              refine z_il3 (pc := 53) dX8_sourceOf_53 ?_
              refine z_iconst (pc := 54) (-1) (by decide) dX8_sourceOf_54 ?_
              refine z_icmp_eq (pc := 55) 89 dX8_sourceOf_55 rfl (fun c55 => ?_) (fun c55 => absurd (rfl) c55)
              refine z_il4 (pc := 89) dX8_sourceOf_89 ?_
              refine z_is3 (pc := 91) dX8_sourceOf_91 (by decide) ?_
              refine z_al0 (pc := 92) dX8_sourceOf_92 ?_
              refine z_il5 (pc := 93) dX8_sourceOf_93 ?_
              refine z_mp34 (pc := 95) hM rfl dX8_sourceOf_95 (fun G1 hM1 hF1 => ?_)
              have hF := zF.trans hF hF1
              clear hF1
              replace hM := hM1
              clear hM1
              refine z_ii4 (pc := 98) (nI (k + 1)) dX8_sourceOf_98 (nI_1 _) (by decide) ?_
              refine z_goto (pc := 101) 5 dX8_sourceOf_101 rfl ?_
              have hPS3 := hPS2.trans (PS.sc0 34 (sD ar c ln q a k) (by omega))
              have hn := srcM_none (D := (sD ar c ln q a)) (fun h => h.elim (fun h => c17 ((nI_eq (by omega) (by omega)).mpr h)) (fun h => h.elim (fun h => h c27) (fun h => c37 h))) hs
              refine z_L (L' := [some (.ref x), some (.int (nI a)), some (.int q), some (.int (bM (srcM ar (sD ar c ln q a) a q (k + 1)))), some (.int (nI (k + 1))), _]) (by rw [hn]; rfl) ?_
              exact ih (k + 1) _ _ _ _ (by omega) hM hF hPS3 (fun b f h => by rw [hn] at h; cases h; rfl)
            · refine z_goto (pc := 40) 98 dX8_sourceOf_40 rfl ?_
              refine z_ii4 (pc := 98) (nI (k + 1)) dX8_sourceOf_98 (nI_1 _) (by decide) ?_
              refine z_goto (pc := 101) 5 dX8_sourceOf_101 rfl ?_
              have hn := (srcM_skip (D := (sD ar c ln q a)) (Or.inr (Or.inr c37))).trans hs
              refine z_L (L' := [some (.ref x), some (.int (nI a)), some (.int q), some (.int (bM (srcM ar (sD ar c ln q a) a q (k + 1)))), some (.int (nI (k + 1))), w5]) (by rw [hn]) ?_
              exact ih (k + 1) _ _ _ _ (by omega) hM hF hPS (fun b f h => h34 b f (hs.trans (hn.symm.trans h)))
      · refine z_il4 (pc := 5) dX8_sourceOf_5 ?_
        refine z_al0 (pc := 7) dX8_sourceOf_7 ?_
        refine z_mg16 (pc := 8) hM rfl dX8_sourceOf_8 ?_
        rw [show sc1 16 = nI n from (hPS.1 16 (by omega) (by omega)).trans hJ.1]
        refine z_icmp_ge (pc := 11) 104 dX8_sourceOf_11 rfl (fun c11 => absurd c11 (by rw [nI_leI (by omega) (by omega)]; omega)) (fun c11 => ?_)
        refine z_il4 (pc := 14) dX8_sourceOf_14 ?_
        refine z_il1 (pc := 16) dX8_sourceOf_16 ?_
        skip
        refine z_icmp_eq (pc := 17) 98 dX8_sourceOf_17 rfl (fun c17 => ?_) (fun c17 => ?_)
        · refine z_ii4 (pc := 98) (nI (k + 1)) dX8_sourceOf_98 (nI_1 _) (by decide) ?_
          refine z_goto (pc := 101) 5 dX8_sourceOf_101 rfl ?_
          have hn := (srcM_skip (D := (sD ar c ln q a)) (Or.inl ((nI_eq (by omega) (by omega)).mp c17))).trans hs
          refine z_L (L' := [some (.ref x), some (.int (nI a)), some (.int q), some (.int (bM (srcM ar (sD ar c ln q a) a q (k + 1)))), some (.int (nI (k + 1))), w5]) (by rw [hn]) ?_
          exact ih (k + 1) _ _ _ _ (by omega) hM hF hPS (fun b f h => h34 b f (hs.trans (hn.symm.trans h)))
        · refine z_al0 (pc := 20) dX8_sourceOf_20 ?_
          refine z_il4 (pc := 21) dX8_sourceOf_21 ?_
          refine z_il1 (pc := 23) dX8_sourceOf_23 ?_
          refine z_callVr (pc := 24) (c_mIsEarlier l k a hM (by omega) (by omega)) hM.1 rfl rfl kw_959 zc_X8_isEarlier (by decide) (by decide) rfl (Nat.le_of_ble_eq_true rfl) dX8_sourceOf_24 ?_
          rw [zb_c (erl_ps hPS k a)]
          refine z_ifz_eq (pc := 27) 98 dX8_sourceOf_27 rfl (fun c27 => ?_) (fun c27 => ?_)
          · refine z_ii4 (pc := 98) (nI (k + 1)) dX8_sourceOf_98 (nI_1 _) (by decide) ?_
            refine z_goto (pc := 101) 5 dX8_sourceOf_101 rfl ?_
            have hn := (srcM_skip (D := (sD ar c ln q a)) (Or.inr (Or.inl c27))).trans hs
            refine z_L (L' := [some (.ref x), some (.int (nI a)), some (.int q), some (.int (bM (srcM ar (sD ar c ln q a) a q (k + 1)))), some (.int (nI (k + 1))), w5]) (by rw [hn]) ?_
            exact ih (k + 1) _ _ _ _ (by omega) hM hF hPS (fun b f h => h34 b f (hs.trans (hn.symm.trans h)))
          · refine z_al0 (pc := 30) dX8_sourceOf_30 ?_
            refine z_il4 (pc := 31) dX8_sourceOf_31 ?_
            refine z_il2 (pc := 33) dX8_sourceOf_33 ?_
            refine z_callVr (pc := 34) (c_mIsForged l k q hM (by omega)) hM.1 rfl rfl kw_935 zc_X8_isForged (by decide) (by decide) rfl (Nat.le_of_ble_eq_true rfl) dX8_sourceOf_34 ?_
            rw [zb_c (frg_ps hPS k q)]
            refine z_ifz_eq (pc := 37) 43 dX8_sourceOf_37 rfl (fun c37 => ?_) (fun c37 => ?_)
            · refine z_al0 (pc := 43) dX8_sourceOf_43 ?_
              refine z_il1 (pc := 44) dX8_sourceOf_44 ?_
              refine z_il4 (pc := 45) dX8_sourceOf_45 ?_
              refine z_il2 (pc := 47) dX8_sourceOf_47 ?_
              refine z_callVi (pc := 48) _ (c_mFar l a k (ln a) (ln k) c q hM (by omega) (by omega) hla.1 hla.2 hlk.1 hlk.2 hJ1.2.2.1 hJ1.2.2.2.1) rfl hM.1 rfl rfl kw_890 zc_X8_far (by decide) rfl (Nat.le_of_ble_eq_true rfl) dX8_sourceOf_48 (fun r G1 h => ?_)
              obtain ⟨sc2, ar2, rfl, hM1, hF1, hI⟩ := h
              have hPS2 := hPS.trans hI.ps
              rw [show sc2 27 = sD ar c ln q a k from hI.d.trans (sD_ps hPS c ln q a k)]
              have h34b : sc2 34 = sc1 34 := hI.1 34 (by omega) (by omega) (by omega) (by omega)
              have hF := zF.trans hF hF1
              clear hF1
              replace hM := hM1
              clear hM1
              refine z_is5 (pc := 51) dX8_sourceOf_51 (by decide) ?_
              refine z_il3 (pc := 53) dX8_sourceOf_53 ?_
              refine z_iconst (pc := 54) (-1) (by decide) dX8_sourceOf_54 ?_
              refine z_icmp_eq (pc := 55) 89 dX8_sourceOf_55 rfl (fun c55 => absurd c55 (nI_m1 (by have := srcM_lt _ _ _ _ _ _ _ hs; omega))) (fun c55 => ?_)
              refine z_il5 (pc := 58) dX8_sourceOf_58 ?_
              refine z_al0 (pc := 60) dX8_sourceOf_60 ?_
              refine z_mg34 (pc := 61) hM rfl dX8_sourceOf_61 ?_
              rw [h34b, h34 _ _ hs]
              refine z_icmp_gt (pc := 64) 98 dX8_sourceOf_64 rfl (fun c64 => ?_) (fun c64 => ?_)
              · refine z_ii4 (pc := 98) (nI (k + 1)) dX8_sourceOf_98 (nI_1 _) (by decide) ?_
                refine z_goto (pc := 101) 5 dX8_sourceOf_101 rfl ?_
                have hn := srcM_old (fun h => h.elim (fun h => c17 ((nI_eq (by omega) (by omega)).mpr h)) (fun h => h.elim (fun h => h c27) (fun h => c37 h))) hs (Or.inl c64)
                refine z_L (L' := [some (.ref x), some (.int (nI a)), some (.int q), some (.int (bM (srcM ar (sD ar c ln q a) a q (k + 1)))), some (.int (nI (k + 1))), _]) (by rw [hn]) ?_
                exact ih (k + 1) _ _ _ _ (by omega) hM hF hPS2 (fun b f h => by rw [h34b]; exact h34 b f (hs.trans (hn.symm.trans h)))
              · refine z_il5 (pc := 67) dX8_sourceOf_67 ?_
                refine z_al0 (pc := 69) dX8_sourceOf_69 ?_
                refine z_mg34 (pc := 70) hM rfl dX8_sourceOf_70 ?_
                rw [h34b, h34 _ _ hs]
                refine z_icmp_ne (pc := 73) 89 dX8_sourceOf_73 rfl (fun c73 => ?_) (fun c73 => ?_)
                · refine z_il4 (pc := 89) dX8_sourceOf_89 ?_
                  refine z_is3 (pc := 91) dX8_sourceOf_91 (by decide) ?_
                  refine z_al0 (pc := 92) dX8_sourceOf_92 ?_
                  refine z_il5 (pc := 93) dX8_sourceOf_93 ?_
                  refine z_mp34 (pc := 95) hM rfl dX8_sourceOf_95 (fun G1 hM1 hF1 => ?_)
                  have hF := zF.trans hF hF1
                  clear hF1
                  replace hM := hM1
                  clear hM1
                  refine z_ii4 (pc := 98) (nI (k + 1)) dX8_sourceOf_98 (nI_1 _) (by decide) ?_
                  refine z_goto (pc := 101) 5 dX8_sourceOf_101 rfl ?_
                  have hPS3 := hPS2.trans (PS.sc0 34 (sD ar c ln q a k) (by omega))
                  have hn := srcM_new (fun h => h.elim (fun h => c17 ((nI_eq (by omega) (by omega)).mpr h)) (fun h => h.elim (fun h => h c27) (fun h => c37 h))) hs (fun h => h.elim c64 (fun h => c73 h.1))
                  refine z_L (L' := [some (.ref x), some (.int (nI a)), some (.int q), some (.int (bM (srcM ar (sD ar c ln q a) a q (k + 1)))), some (.int (nI (k + 1))), _]) (by rw [hn]; rfl) ?_
                  exact ih (k + 1) _ _ _ _ (by omega) hM hF hPS3 (fun b f h => by rw [hn] at h; cases h; rfl)
                · refine z_al0 (pc := 76) dX8_sourceOf_76 ?_
                  refine z_il4 (pc := 77) dX8_sourceOf_77 ?_
                  refine z_il3 (pc := 79) dX8_sourceOf_79 ?_
                  refine z_callVr (pc := 80) (c_mIsEarlier l k b hM (by omega) (by have := srcM_lt _ _ _ _ _ _ _ hs; omega)) hM.1 rfl rfl kw_959 zc_X8_isEarlier (by decide) (by decide) rfl (Nat.le_of_ble_eq_true rfl) dX8_sourceOf_80 ?_
                  rw [zb_c (erl_ps hPS2 k b)]
                  refine z_ifz_ne (pc := 83) 89 dX8_sourceOf_83 rfl (fun c83 => ?_) (fun c83 => ?_)
                  · refine z_il4 (pc := 89) dX8_sourceOf_89 ?_
                    refine z_is3 (pc := 91) dX8_sourceOf_91 (by decide) ?_
                    refine z_al0 (pc := 92) dX8_sourceOf_92 ?_
                    refine z_il5 (pc := 93) dX8_sourceOf_93 ?_
                    refine z_mp34 (pc := 95) hM rfl dX8_sourceOf_95 (fun G1 hM1 hF1 => ?_)
                    have hF := zF.trans hF hF1
                    clear hF1
                    replace hM := hM1
                    clear hM1
                    refine z_ii4 (pc := 98) (nI (k + 1)) dX8_sourceOf_98 (nI_1 _) (by decide) ?_
                    refine z_goto (pc := 101) 5 dX8_sourceOf_101 rfl ?_
                    have hPS3 := hPS2.trans (PS.sc0 34 (sD ar c ln q a k) (by omega))
                    have hn := srcM_new (fun h => h.elim (fun h => c17 ((nI_eq (by omega) (by omega)).mpr h)) (fun h => h.elim (fun h => h c27) (fun h => c37 h))) hs (fun h => h.elim c64 (fun h => h.2 c83))
                    refine z_L (L' := [some (.ref x), some (.int (nI a)), some (.int q), some (.int (bM (srcM ar (sD ar c ln q a) a q (k + 1)))), some (.int (nI (k + 1))), _]) (by rw [hn]; rfl) ?_
                    exact ih (k + 1) _ _ _ _ (by omega) hM hF hPS3 (fun b f h => by rw [hn] at h; cases h; rfl)
                  · refine z_goto (pc := 86) 98 dX8_sourceOf_86 rfl ?_
                    refine z_ii4 (pc := 98) (nI (k + 1)) dX8_sourceOf_98 (nI_1 _) (by decide) ?_
                    refine z_goto (pc := 101) 5 dX8_sourceOf_101 rfl ?_
                    have hn := srcM_old (fun h => h.elim (fun h => c17 ((nI_eq (by omega) (by omega)).mpr h)) (fun h => h.elim (fun h => h c27) (fun h => c37 h))) hs (Or.inr ⟨c73, c83⟩)
                    refine z_L (L' := [some (.ref x), some (.int (nI a)), some (.int q), some (.int (bM (srcM ar (sD ar c ln q a) a q (k + 1)))), some (.int (nI (k + 1))), _]) (by rw [hn]) ?_
                    exact ih (k + 1) _ _ _ _ (by omega) hM hF hPS2 (fun b f h => by rw [h34b]; exact h34 b f (hs.trans (hn.symm.trans h)))
            · refine z_goto (pc := 40) 98 dX8_sourceOf_40 rfl ?_
              refine z_ii4 (pc := 98) (nI (k + 1)) dX8_sourceOf_98 (nI_1 _) (by decide) ?_
              refine z_goto (pc := 101) 5 dX8_sourceOf_101 rfl ?_
              have hn := (srcM_skip (D := (sD ar c ln q a)) (Or.inr (Or.inr c37))).trans hs
              refine z_L (L' := [some (.ref x), some (.int (nI a)), some (.int q), some (.int (bM (srcM ar (sD ar c ln q a) a q (k + 1)))), some (.int (nI (k + 1))), w5]) (by rw [hn]) ?_
              exact ih (k + 1) _ _ _ _ (by omega) hM hF hPS (fun b f h => h34 b f (hs.trans (hn.symm.trans h)))
  refine z_iconst (pc := 0) (-1) (by decide) dX8_sourceOf_0 ?_
  refine z_is3 (pc := 1) dX8_sourceOf_1 (by decide) ?_
  refine z_iconst (pc := 2) (0) (by decide) dX8_sourceOf_2 ?_
  refine z_is4 (pc := 3) dX8_sourceOf_3 (by decide) ?_
  exact lp n 0 _ _ _ _ (by omega) hM hF PS.rf (fun b f h => by cases h)
end
section
def sSrc (ar : Nat → Nat → Int32) (c : Nat) (ln : Nat → Nat) (n : Nat) (q : Int32) (a : Nat) : Option (Nat × Int32) := srcM ar (sD ar c ln q a) a q n
theorem srcM_ps {sc sc2 : Nat → Int32} {ar ar2 : Nat → Nat → Int32} (g : PS sc ar sc2 ar2) (D : Nat → Int32) (a : Nat) (q : Int32) : ∀ k, srcM ar2 D a q k = srcM ar D a q k
  | 0 => rfl
  | k + 1 => by
    unfold srcM
    rw [srcM_ps g D a q k]
    simp only [erl_ps g, frg_ps g]
theorem sSrc_ps {sc sc2 : Nat → Int32} {ar ar2 : Nat → Nat → Int32} (g : PS sc ar sc2 ar2) (c : Nat) (ln : Nat → Nat) (n : Nat) (q : Int32) (a : Nat) : sSrc ar2 c ln n q a = sSrc ar c ln n q a := by
  unfold sSrc
  rw [srcM_ps g, show sD ar2 c ln q a = sD ar c ln q a from funext fun b => sD_ps g c ln q a b]
theorem srcR_ps {sc sc2 : Nat → Int32} {ar ar2 : Nat → Nat → Int32} (g : PS sc ar sc2 ar2) (o : Option (Nat × Int32)) : srcR ar2 o = srcR ar o := by unfold srcR; rw [g.2 15 (by omega) (by omega)]
theorem chgR_ps {sc sc2 : Nat → Int32} {ar ar2 : Nat → Nat → Int32} (g : PS sc ar sc2 ar2) (o : Option (Nat × Int32)) : chgR ar2 o = chgR ar o := by unfold chgR; rw [g.2 15 (by omega) (by omega)]
/-- the sum of the changes of the first k sheets -/
def sAll (ar : Nat → Nat → Int32) (c : Nat) (ln : Nat → Nat) (n : Nat) (q : Int32) : Nat → Int32
  | 0 => 0
  | k + 1 => sAll ar c ln n q k + (if frg ar k q then 0 else chgR ar (sSrc ar c ln n q k))
/-- how many of the first k sheets are as near to a as 'most' -/
def sDbt (ar : Nat → Nat → Int32) (D : Nat → Int32) (a b : Nat) (q most : Int32) : Nat → Int32
  | 0 => 0
  | k + 1 => sDbt ar D a b q most k + zb (k ≠ b ∧ k ≠ a ∧ erl ar k a ∧ ¬ frg ar k q ∧ D k ≤ most)
def dbtR (ar : Nat → Nat → Int32) (D : Nat → Int32) (a : Nat) (q margin : Int32) (n : Nat) (o : Option (Nat × Int32)) : Int32 := match o with
  | none => 0
  | some (b, f) => if f < ar 15 4 then sDbt ar D a b q (f + margin) n else 0
abbrev rX8_source : Room := rmK 5 0 0 119
set_option maxRecDepth 100000 in
set_option maxHeartbeats 400000 in
theorem c_mSource (l : Launch) {κ : zK} {G : zH} {x : Nat} {ad : Nat → Nat} {sc : Nat → Int32} {ar : Nat → Nat → Int32} (n c d w : Nat) (ln : Nat → Nat) (a0 q : Int32) (hM : RM κ G x ad sc ar) (hJ : MJ n c d w ln sc ar) : Ct l yX8_source cX8_source 3 (some FieldType.int) rX8_source κ [.ref x, .int a0, .int q] G (qP (if okA n w ar a0 q then srcR ar (sSrc ar c ln n q (iN a0)) else -1) κ G x ad sc ar) := by
  refine Ct.of (by decide +kernel) (fun v hv => by
    simp only [List.mem_cons, List.mem_nil_iff, or_false, List.not_mem_nil] at hv
    rcases hv with rfl | rfl | rfl <;> rfl) (Nat.le_of_ble_eq_true rfl) ?_
  intro p e s m args below meth cC
  refine z_L (L' := [some (.ref x), some (.int a0), some (.int q)]) rfl ?_
  generalize hQx : MQ below (zQc κ _) args s _ _ (zA κ) = Qx
  have hF : zF 1 G G := zF.rf
  refine z_al0 (pc := 0) dX8_source_0 ?_
  refine z_il1 (pc := 1) dX8_source_1 ?_
  refine z_il2 (pc := 2) dX8_source_2 ?_
  refine z_callVi (pc := 3) _ (c_mIsAsked l n c d w ln a0 q hM hJ) rfl hM.1 rfl rfl kw_951 zc_X8_isAsked (by decide) rfl (Nat.le_of_ble_eq_true rfl) dX8_source_3 (fun r G1 h => ?_)
  obtain ⟨rfl, hM1, hF1⟩ := h
  have hF := zF.trans hF hF1
  clear hF1
  replace hM := hM1
  clear hM1
  refine z_ifz_eq (pc := 6) 18 dX8_source_6 rfl (fun c6 => ?_) (fun c6 => ?_)
  · refine z_iconst (pc := 18) (-1) (by decide) dX8_source_18 ?_
    rw [← hQx]
    refine z_iret (pc := 19) rfl (by decide) dX8_source_19 (⟨_, rfl, (if_neg c6).symm, _, _, hM, hF, PS.sc0 0 0 (by omega)⟩)
  · obtain ⟨⟨ha0, ha1⟩, hq, hfr⟩ := id c6
    have hn20 := hJ.2.1
    obtain ⟨a, rfl, ha⟩ := ix_in ha0 ha1 (by omega)
    have hPS : PS sc ar (sup sc 0 0) ar := PS.sc0 0 0 (by omega)
    have hJ1 := hJ.ps hPS
    refine z_al0 (pc := 9) dX8_source_9 ?_
    refine z_il1 (pc := 10) dX8_source_10 ?_
    refine z_il2 (pc := 11) dX8_source_11 ?_
    refine z_callVi (pc := 12) _ (c_mSourceOf l n c d w ln a q hM hJ1 ha) rfl hM.1 rfl rfl kw_955 zc_X8_sourceOf (by decide) rfl (Nat.le_of_ble_eq_true rfl) dX8_source_12 (fun r G1 h => ?_)
    obtain ⟨rfl, sc2, ar2, hM1, hF1, hPS2, h34⟩ := h
    replace hPS := hPS.trans hPS2
    have hF := zF.trans hF hF1
    clear hF1
    replace hM := hM1
    clear hM1
    refine z_goto (pc := 15) 19 dX8_source_15 rfl ?_
    rw [← hQx]
    refine z_iret (pc := 19) rfl (by decide) dX8_source_19 (⟨_, rfl, by rw [if_pos c6, iN_nI (by omega)]; rfl, _, _, hM, hF, hPS⟩)
abbrev rX8_changesOf : Room := rmK 5 0 0 119
set_option maxRecDepth 100000 in
set_option maxHeartbeats 400000 in
theorem c_mChangesOf (l : Launch) {κ : zK} {G : zH} {x : Nat} {ad : Nat → Nat} {sc : Nat → Int32} {ar : Nat → Nat → Int32} (n c d w : Nat) (ln : Nat → Nat) (a : Nat) (q : Int32) (hM : RM κ G x ad sc ar) (hJ : MJ n c d w ln sc ar) (ha : a < n) : Ct l yX8_changesOf cX8_changesOf 3 (some FieldType.int) rX8_changesOf κ [.ref x, .int (nI a), .int q] G (qP (chgR ar (sSrc ar c ln n q a)) κ G x ad sc ar) := by
  refine Ct.of (by decide +kernel) (fun v hv => by
    simp only [List.mem_cons, List.mem_nil_iff, or_false, List.not_mem_nil] at hv
    rcases hv with rfl | rfl | rfl <;> rfl) (Nat.le_of_ble_eq_true rfl) ?_
  intro p e s m args below meth cC
  refine z_L (L' := [some (.ref x), some (.int (nI a)), some (.int q)]) rfl ?_
  generalize hQx : MQ below (zQc κ _) args s _ _ (zA κ) = Qx
  have hF : zF 1 G G := zF.rf
  refine z_al0 (pc := 0) dX8_changesOf_0 ?_
  refine z_il1 (pc := 1) dX8_changesOf_1 ?_
  refine z_il2 (pc := 2) dX8_changesOf_2 ?_
  refine z_callVi (pc := 3) _ (c_mSourceOf l n c d w ln a q hM hJ ha) rfl hM.1 rfl rfl kw_955 zc_X8_sourceOf (by decide) rfl (Nat.le_of_ble_eq_true rfl) dX8_changesOf_3 (fun r G1 h => ?_)
  obtain ⟨rfl, sc2, ar2, hM1, hF1, hPS, h34⟩ := h
  have hF := zF.trans hF hF1
  clear hF1
  replace hM := hM1
  clear hM1
  have h34 : ∀ b f, sSrc ar c ln n q a = some (b, f) → sc2 34 = f := h34
  rw [show srcM ar (sD ar c ln q a) a q n = sSrc ar c ln n q a from rfl]
  have hlt : ∀ b f, sSrc ar c ln n q a = some (b, f) → b < n := srcM_lt _ _ _ _ _
  generalize hs : sSrc ar c ln n q a = so at h34 hlt ⊢
  refine z_iconst (pc := 6) (-1) (by decide) dX8_changesOf_6 ?_
  refine z_icmp_ne (pc := 7) 19 dX8_changesOf_7 rfl (fun c7 => ?_) (fun c7 => ?_)
  · refine z_al0 (pc := 19) dX8_changesOf_19 ?_
    refine z_mg34 (pc := 20) hM rfl dX8_changesOf_20 ?_
    rw [← hQx]
    refine z_iret (pc := 23) rfl (by decide) dX8_changesOf_23 (⟨_, rfl, by
      rcases so with _ | ⟨b, f⟩
      · exact absurd rfl c7
      · rw [h34 b f rfl, hs]
        unfold srcR at c7
        unfold chgR
        by_cases hf : f < ar 15 4
        · exact (if_pos hf).symm
        · exact absurd (if_neg hf) c7, _, _, hM, hF, hPS⟩)
  · refine z_al0 (pc := 10) dX8_changesOf_10 ?_
    refine z_mg15 (pc := 11) hM rfl dX8_changesOf_11 ?_
    refine z_iconst (pc := 14) (4) (by decide) dX8_changesOf_14 ?_
    refine z_mld (pc := 15) 15 5 hM rfl (by decide) (show (4 : Int32) = nI 4 from rfl) (by decide) dX8_changesOf_15 ?_
    refine z_goto (pc := 16) 23 dX8_changesOf_16 rfl ?_
    rw [← hQx]
    refine z_iret (pc := 23) rfl (by decide) dX8_changesOf_23 (⟨_, rfl, by
      rw [hPS.2 15 (by omega) (by omega)]
      rcases so with _ | ⟨b, f⟩
      · rw [hs]; rfl
      · rw [hs]
        unfold srcR at c7
        unfold chgR
        by_cases hf : f < ar 15 4
        · have := (if_pos hf).symm.trans c7
          exact absurd this (nI_m1 (by have := hlt b f rfl; have := hJ.2.1; omega))
        · exact (if_neg hf).symm, _, _, hM, hF, hPS⟩)
abbrev rX8_changes : Room := rmK 6 0 0 141
set_option maxRecDepth 100000 in
set_option maxHeartbeats 400000 in
theorem c_mChanges (l : Launch) {κ : zK} {G : zH} {x : Nat} {ad : Nat → Nat} {sc : Nat → Int32} {ar : Nat → Nat → Int32} (n c d w : Nat) (ln : Nat → Nat) (a0 q : Int32) (hM : RM κ G x ad sc ar) (hJ : MJ n c d w ln sc ar) : Ct l yX8_changes cX8_changes 3 (some FieldType.int) rX8_changes κ [.ref x, .int a0, .int q] G (qP (if okA n w ar a0 q then chgR ar (sSrc ar c ln n q (iN a0)) else -1) κ G x ad sc ar) := by
  refine Ct.of (by decide +kernel) (fun v hv => by
    simp only [List.mem_cons, List.mem_nil_iff, or_false, List.not_mem_nil] at hv
    rcases hv with rfl | rfl | rfl <;> rfl) (Nat.le_of_ble_eq_true rfl) ?_
  intro p e s m args below meth cC
  refine z_L (L' := [some (.ref x), some (.int a0), some (.int q)]) rfl ?_
  generalize hQx : MQ below (zQc κ _) args s _ _ (zA κ) = Qx
  have hF : zF 1 G G := zF.rf
  refine z_al0 (pc := 0) dX8_changes_0 ?_
  refine z_il1 (pc := 1) dX8_changes_1 ?_
  refine z_il2 (pc := 2) dX8_changes_2 ?_
  refine z_callVi (pc := 3) _ (c_mIsAsked l n c d w ln a0 q hM hJ) rfl hM.1 rfl rfl kw_951 zc_X8_isAsked (by decide) rfl (Nat.le_of_ble_eq_true rfl) dX8_changes_3 (fun r G1 h => ?_)
  obtain ⟨rfl, hM1, hF1⟩ := h
  have hF := zF.trans hF hF1
  clear hF1
  replace hM := hM1
  clear hM1
  refine z_ifz_eq (pc := 6) 18 dX8_changes_6 rfl (fun c6 => ?_) (fun c6 => ?_)
  · refine z_iconst (pc := 18) (-1) (by decide) dX8_changes_18 ?_
    rw [← hQx]
    refine z_iret (pc := 19) rfl (by decide) dX8_changes_19 (⟨_, rfl, (if_neg c6).symm, _, _, hM, hF, PS.sc0 0 0 (by omega)⟩)
  · obtain ⟨⟨ha0, ha1⟩, hq, hfr⟩ := id c6
    have hn20 := hJ.2.1
    obtain ⟨a, rfl, ha⟩ := ix_in ha0 ha1 (by omega)
    have hPS : PS sc ar (sup sc 0 0) ar := PS.sc0 0 0 (by omega)
    have hJ1 := hJ.ps hPS
    refine z_al0 (pc := 9) dX8_changes_9 ?_
    refine z_il1 (pc := 10) dX8_changes_10 ?_
    refine z_il2 (pc := 11) dX8_changes_11 ?_
    refine z_callVi (pc := 12) _ (c_mChangesOf l n c d w ln a q hM hJ1 ha) rfl hM.1 rfl rfl kw_967 zc_X8_changesOf (by decide) rfl (Nat.le_of_ble_eq_true rfl) dX8_changes_12 (fun r G1 h => ?_)
    obtain ⟨rfl, sc2, ar2, hM1, hF1, hPS2⟩ := h
    replace hPS := hPS.trans hPS2
    have hF := zF.trans hF hF1
    clear hF1
    replace hM := hM1
    clear hM1
    refine z_goto (pc := 15) 19 dX8_changes_15 rfl ?_
    rw [← hQx]
    refine z_iret (pc := 19) rfl (by decide) dX8_changes_19 (⟨_, rfl, by rw [if_pos c6, iN_nI (by omega)], _, _, hM, hF, hPS⟩)
abbrev rX8_all : Room := rmK 6 0 0 141
set_option maxRecDepth 100000 in
set_option maxHeartbeats 400000 in
theorem c_mAll (l : Launch) {κ : zK} {G : zH} {x : Nat} {ad : Nat → Nat} {sc : Nat → Int32} {ar : Nat → Nat → Int32} (n c d w : Nat) (ln : Nat → Nat) (q : Int32) (hM : RM κ G x ad sc ar) (hJ : MJ n c d w ln sc ar) : Ct l yX8_all cX8_all 4 (some FieldType.int) rX8_all κ [.ref x, .int q] G (qP (if 0 ≤ q ∧ q ≤ nI w then sAll ar c ln n q n else -1) κ G x ad sc ar) := by
  refine Ct.of (by decide +kernel) (fun v hv => by
    simp only [List.mem_cons, List.mem_nil_iff, or_false, List.not_mem_nil] at hv
    rcases hv with rfl | rfl <;> rfl) (Nat.le_of_ble_eq_true rfl) ?_
  intro p e s m args below meth cC
  refine z_L (L' := [some (.ref x), some (.int q), none, none]) rfl ?_
  generalize hQx : MQ below (zQc κ _) args s _ _ (zA κ) = Qx
  have hF : zF 1 G G := zF.rf
  have hn20 := hJ.2.1
  have e19 : sup sc 0 0 19 = nI w := hJ.2.2.2.2.2.2.1
  have lp : (0 ≤ q ∧ q ≤ nI w) → ∀ (dd k : Nat) (G1 : zH) (sc1 : Nat → Int32) (ar1 : Nat → Nat → Int32), k + dd = n → RM κ G1 x ad sc1 ar1 → zF 1 G G1 → PS sc ar sc1 ar1 → Z p l e rX8_all s m args below meth cC yX8_all cX8_all 4 (some FieldType.int) κ Qx 0 0 G1 [some (.ref x), some (.int q), some (.int (sAll ar c ln n q k)), some (.int (nI k))] 19 [] := by
    intro hq dd
    induction dd with
    | zero =>
      intro k G1 sc1 ar1 hkd hM hF hPS
      refine z_il3 (pc := 19) dX8_all_19 ?_
      refine z_al0 (pc := 20) dX8_all_20 ?_
      refine z_mg16 (pc := 21) hM rfl dX8_all_21 ?_
      rw [show sc1 16 = nI n from (hPS.1 16 (by omega) (by omega)).trans hJ.1]
      refine z_icmp_ge (pc := 24) 55 dX8_all_24 rfl (fun c24 => ?_) (fun c24 => absurd (by rw [show k = n by omega]; exact Int32.le_refl _) c24)
      rw [show k = n by omega]
      refine z_il2 (pc := 55) dX8_all_55 ?_
      rw [← hQx]
      refine z_iret (pc := 56) rfl (by decide) dX8_all_56 (⟨_, rfl, (if_pos hq).symm, _, _, hM, hF, hPS⟩)
    | succ dd ih =>
      intro k G1 sc1 ar1 hkd hM hF hPS
      refine z_il3 (pc := 19) dX8_all_19 ?_
      refine z_al0 (pc := 20) dX8_all_20 ?_
      refine z_mg16 (pc := 21) hM rfl dX8_all_21 ?_
      rw [show sc1 16 = nI n from (hPS.1 16 (by omega) (by omega)).trans hJ.1]
      refine z_icmp_ge (pc := 24) 55 dX8_all_24 rfl (fun c24 => absurd c24 (by rw [nI_leI (by omega) (by omega)]; omega)) (fun c24 => ?_)
      have hkn : k < n := by omega
      refine z_il2 (pc := 27) dX8_all_27 ?_
      refine z_al0 (pc := 28) dX8_all_28 ?_
      refine z_il3 (pc := 29) dX8_all_29 ?_
      refine z_il1 (pc := 30) dX8_all_30 ?_
      refine z_callVr (pc := 31) (c_mIsForged l k q hM (by omega)) hM.1 rfl rfl kw_935 zc_X8_isForged (by decide) (by decide) rfl (Nat.le_of_ble_eq_true rfl) dX8_all_31 ?_
      rw [zb_c (frg_ps hPS k q)]
      refine z_ifz_eq (pc := 34) 41 dX8_all_34 rfl (fun c34 => ?_) (fun c34 => ?_)
      · refine z_al0 (pc := 41) dX8_all_41 ?_
        refine z_il3 (pc := 42) dX8_all_42 ?_
        refine z_il1 (pc := 43) dX8_all_43 ?_
        refine z_callVi (pc := 44) _ (c_mChangesOf l n c d w ln k q hM (hJ.ps hPS) hkn) rfl hM.1 rfl rfl kw_967 zc_X8_changesOf (by decide) rfl (Nat.le_of_ble_eq_true rfl) dX8_all_44 (fun r G1 h => ?_)
        obtain ⟨rfl, sc2, ar2, hM1, hF1, hPS2⟩ := h
        rw [chgR_ps hPS, sSrc_ps hPS]
        replace hPS := hPS.trans hPS2
        have hF := zF.trans hF hF1
        clear hF1
        replace hM := hM1
        clear hM1
        refine z_iadd (pc := 47) dX8_all_47 ?_
        refine z_is2 (pc := 48) dX8_all_48 (by decide) ?_
        refine z_ii3 (pc := 49) (nI (k + 1)) dX8_all_49 (nI_1 _) (by decide) ?_
        refine z_goto (pc := 52) 19 dX8_all_52 rfl ?_
        refine z_L (L' := [some (.ref x), some (.int q), some (.int (sAll ar c ln n q (k + 1))), some (.int (nI (k + 1)))]) (by rw [show sAll ar c ln n q (k + 1) = sAll ar c ln n q k + (if frg ar k q then 0 else chgR ar (sSrc ar c ln n q k)) from rfl, if_neg c34]) ?_
        exact ih (k + 1) _ _ _ (by omega) hM hF hPS
      · refine z_iconst (pc := 37) (0) (by decide) dX8_all_37 ?_
        refine z_goto (pc := 38) 47 dX8_all_38 rfl ?_
        refine z_iadd (pc := 47) dX8_all_47 ?_
        refine z_is2 (pc := 48) dX8_all_48 (by decide) ?_
        refine z_ii3 (pc := 49) (nI (k + 1)) dX8_all_49 (nI_1 _) (by decide) ?_
        refine z_goto (pc := 52) 19 dX8_all_52 rfl ?_
        refine z_L (L' := [some (.ref x), some (.int q), some (.int (sAll ar c ln n q (k + 1))), some (.int (nI (k + 1)))]) (by rw [show sAll ar c ln n q (k + 1) = sAll ar c ln n q k + (if frg ar k q then 0 else chgR ar (sSrc ar c ln n q k)) from rfl, if_pos c34]) ?_
        exact ih (k + 1) _ _ _ (by omega) hM hF hPS
  refine z_al0 (pc := 0) dX8_all_0 ?_
  refine z_iconst (pc := 1) (0) (by decide) dX8_all_1 ?_
  refine z_mp0 (pc := 2) hM rfl dX8_all_2 (fun G1 hM1 hF1 => ?_)
  have hF := zF.trans hF hF1
  clear hF1
  replace hM := hM1
  clear hM1
  refine z_al0 (pc := 5) dX8_all_5 ?_
  refine z_il1 (pc := 6) dX8_all_6 ?_
  refine z_callVr (pc := 7) (c_mIsDay l q hM) hM.1 rfl rfl kw_874 zc_X8_isDay (by decide) (by decide) rfl (Nat.le_of_ble_eq_true rfl) dX8_all_7 ?_
  rw [e19]
  refine z_ifz_ne (pc := 10) 15 dX8_all_10 rfl (fun c10 => ?_) (fun c10 => ?_)
  · refine z_iconst (pc := 15) (0) (by decide) dX8_all_15 ?_
    refine z_is2 (pc := 16) dX8_all_16 (by decide) ?_
    refine z_iconst (pc := 17) (0) (by decide) dX8_all_17 ?_
    refine z_is3 (pc := 18) dX8_all_18 (by decide) ?_
    exact lp c10 n 0 _ _ _ (by omega) hM hF (PS.sc0 0 0 (by omega))
  · refine z_iconst (pc := 13) (-1) (by decide) dX8_all_13 ?_
    rw [← hQx]
    refine z_iret (pc := 14) rfl (by decide) dX8_all_14 (⟨_, rfl, (if_neg c10).symm, _, _, hM, hF, PS.sc0 0 0 (by omega)⟩)
abbrev rX8_doubt : Room := rmK 5 0 0 119
set_option maxRecDepth 100000 in
set_option maxHeartbeats 400000 in
theorem c_mDoubt (l : Launch) {κ : zK} {G : zH} {x : Nat} {ad : Nat → Nat} {sc : Nat → Int32} {ar : Nat → Nat → Int32} (n c d w : Nat) (ln : Nat → Nat) (a0 mg q : Int32) (hM : RM κ G x ad sc ar) (hJ : MJ n c d w ln sc ar) : Ct l yX8_doubt cX8_doubt 8 (some FieldType.int) rX8_doubt κ [.ref x, .int a0, .int mg, .int q] G (qP (if okA n w ar a0 q ∧ 0 ≤ mg ∧ mg ≤ 10000 then dbtR ar (sD ar c ln q (iN a0)) (iN a0) q mg n (sSrc ar c ln n q (iN a0)) else -1) κ G x ad sc ar) := by
  refine Ct.of (by decide +kernel) (fun v hv => by
    simp only [List.mem_cons, List.mem_nil_iff, or_false, List.not_mem_nil] at hv
    rcases hv with rfl | rfl | rfl | rfl <;> rfl) (Nat.le_of_ble_eq_true rfl) ?_
  intro p e s m args below meth cC
  refine z_L (L' := [some (.ref x), some (.int a0), some (.int mg), some (.int q), none, none, none, none]) rfl ?_
  generalize hQx : MQ below (zQc κ _) args s _ _ (zA κ) = Qx
  have hF : zF 1 G G := zF.rf
  have hn20 := hJ.2.1
  refine z_al0 (pc := 0) dX8_doubt_0 ?_
  refine z_il1 (pc := 1) dX8_doubt_1 ?_
  refine z_il3 (pc := 2) dX8_doubt_2 ?_
  refine z_callVi (pc := 3) _ (c_mIsAsked l n c d w ln a0 q hM hJ) rfl hM.1 rfl rfl kw_951 zc_X8_isAsked (by decide) rfl (Nat.le_of_ble_eq_true rfl) dX8_doubt_3 (fun r G1 h => ?_)
  obtain ⟨rfl, hM1, hF1⟩ := h
  have hF := zF.trans hF hF1
  clear hF1
  replace hM := hM1
  clear hM1
  refine z_ifz_eq (pc := 6) 20 dX8_doubt_6 rfl (fun c6 => ?_) (fun c6 => ?_)
  · refine z_iconst (pc := 20) (-1) (by decide) dX8_doubt_20 ?_
    rw [← hQx]
    refine z_iret (pc := 21) rfl (by decide) dX8_doubt_21 (⟨_, rfl, (if_neg (fun h => c6 h.1)).symm, _, _, hM, hF, PS.sc0 0 0 (by omega)⟩)
  · refine z_il2 (pc := 9) dX8_doubt_9 ?_
    refine z_iconst (pc := 10) (0) (by decide) dX8_doubt_10 ?_
    refine z_sipush (pc := 11) (10000) (by decide) dX8_doubt_11 ?_
    refine z_callSr (pc := 14) (c_mIsIn l mg 0 10000) kw_836 zc_X8_isIn (by decide) (by decide) rfl (Nat.le_of_ble_eq_true rfl) dX8_doubt_14 ?_
    refine z_ifz_ne (pc := 17) 22 dX8_doubt_17 rfl (fun c17 => ?_) (fun c17 => ?_)
    · obtain ⟨⟨ha0, ha1⟩, hq, hfr⟩ := id c6
      have hn20 := hJ.2.1
      obtain ⟨a, rfl, ha⟩ := ix_in ha0 ha1 (by omega)
      have hPS : PS sc ar (sup sc 0 0) ar := PS.sc0 0 0 (by omega)
      have hJ1 := hJ.ps hPS
      refine z_al0 (pc := 22) dX8_doubt_22 ?_
      refine z_il1 (pc := 23) dX8_doubt_23 ?_
      refine z_il3 (pc := 24) dX8_doubt_24 ?_
      refine z_callVi (pc := 25) _ (c_mSourceOf l n c d w ln a q hM hJ1 ha) rfl hM.1 rfl rfl kw_955 zc_X8_sourceOf (by decide) rfl (Nat.le_of_ble_eq_true rfl) dX8_doubt_25 (fun r G1 h => ?_)
      obtain ⟨rfl, sc2, ar2, hM1, hF1, hPS2, h34⟩ := h
      replace hPS := hPS.trans hPS2
      have hF := zF.trans hF hF1
      clear hF1
      replace hM := hM1
      clear hM1
      have h34 : ∀ b f, sSrc ar c ln n q a = some (b, f) → sc2 34 = f := h34
      have hltn : ∀ b f, sSrc ar c ln n q a = some (b, f) → b < n := srcM_lt _ _ _ _ _
      have hok : okA n w ar (nI a) q := c6
      have hmg : 0 ≤ mg ∧ mg ≤ 10000 := c17
      refine z_is4 (pc := 28) dX8_doubt_28 (by decide) ?_
      rw [show srcM ar (sD ar c ln q a) a q n = sSrc ar c ln n q a from rfl]
      rcases hs : sSrc ar c ln n q a with _ | ⟨b, f⟩
      · refine z_il4 (pc := 30) dX8_doubt_30 ?_
        refine z_iconst (pc := 32) (-1) (by decide) dX8_doubt_32 ?_
        refine z_icmp_ne (pc := 33) 38 dX8_doubt_33 rfl (fun c33 => absurd c33 (fun h => h rfl)) (fun c33 => ?_)
        refine z_iconst (pc := 36) (0) (by decide) dX8_doubt_36 ?_
        rw [← hQx]
        refine z_iret (pc := 37) rfl (by decide) dX8_doubt_37 (⟨_, rfl, by rw [if_pos ⟨hok, hmg⟩, iN_nI (by omega), hs]; rfl, _, _, hM, hF, hPS⟩)
      · by_cases hlt : f < ar 15 4
        · rw [show srcR ar (some (b, f)) = nI b from if_pos hlt]
          have hb : b < n := hltn b f hs
          refine z_il4 (pc := 30) dX8_doubt_30 ?_
          refine z_iconst (pc := 32) (-1) (by decide) dX8_doubt_32 ?_
          refine z_icmp_ne (pc := 33) 38 dX8_doubt_33 rfl (fun c33 => ?_) (fun c33 => absurd c33 (nI_m1 (by omega)))
          refine z_al0 (pc := 38) dX8_doubt_38 ?_
          refine z_mg34 (pc := 39) hM rfl dX8_doubt_39 ?_
          rw [h34 b f hs]
          refine z_il2 (pc := 42) dX8_doubt_42 ?_
          refine z_iadd (pc := 43) dX8_doubt_43 ?_
          refine z_is5 (pc := 44) dX8_doubt_44 (by decide) ?_
          refine z_iconst (pc := 46) (0) (by decide) dX8_doubt_46 ?_
          refine z_is6 (pc := 47) dX8_doubt_47 (by decide) ?_
          refine z_iconst (pc := 49) (0) (by decide) dX8_doubt_49 ?_
          refine z_is7 (pc := 50) dX8_doubt_50 (by decide) ?_
          have lp : ∀ (dd k : Nat) (G1 : zH) (sc1 : Nat → Int32) (ar1 : Nat → Nat → Int32), k + dd = n → RM κ G1 x ad sc1 ar1 → zF 1 G G1 → PS sc ar sc1 ar1 → Z p l e rX8_doubt s m args below meth cC yX8_doubt cX8_doubt 8 (some FieldType.int) κ Qx 0 0 G1 [some (.ref x), some (.int (nI a)), some (.int mg), some (.int q), some (.int (nI b)), some (.int (f + mg)), some (.int (sDbt ar (sD ar c ln q a) a b q (f + mg) k)), some (.int (nI k))] 52 [] := by
            intro dd
            induction dd with
            | zero =>
              intro k G1 sc1 ar1 hkd hM hF hPS
              refine z_il7 (pc := 52) dX8_doubt_52 ?_
              refine z_al0 (pc := 54) dX8_doubt_54 ?_
              refine z_mg16 (pc := 55) hM rfl dX8_doubt_55 ?_
              rw [show sc1 16 = nI n from (hPS.1 16 (by omega) (by omega)).trans hJ.1]
              refine z_icmp_ge (pc := 58) 123 dX8_doubt_58 rfl (fun c58 => ?_) (fun c58 => absurd (by rw [show k = n by omega]; exact Int32.le_refl _) c58)
              rw [show k = n by omega]
              refine z_il6 (pc := 123) dX8_doubt_123 ?_
              rw [← hQx]
              refine z_iret (pc := 125) rfl (by decide) dX8_doubt_125 (⟨_, rfl, by rw [if_pos ⟨hok, hmg⟩, iN_nI (by omega), hs]; unfold dbtR; exact (if_pos hlt).symm, _, _, hM, hF, hPS⟩)
            | succ dd ih =>
              intro k G1 sc1 ar1 hkd hM hF hPS
              refine z_il7 (pc := 52) dX8_doubt_52 ?_
              refine z_al0 (pc := 54) dX8_doubt_54 ?_
              refine z_mg16 (pc := 55) hM rfl dX8_doubt_55 ?_
              rw [show sc1 16 = nI n from (hPS.1 16 (by omega) (by omega)).trans hJ.1]
              refine z_icmp_ge (pc := 58) 123 dX8_doubt_58 rfl (fun c58 => absurd c58 (by rw [nI_leI (by omega) (by omega)]; omega)) (fun c58 => ?_)
              have hkn : k < n := by omega
              have hJ1 := hJ.ps hPS
              have hlk := hJ1.2.2.2.2.2.2.2.2.1 k hkn
              have hla := hJ1.2.2.2.2.2.2.2.2.1 a ha
              refine z_il6 (pc := 61) dX8_doubt_61 ?_
              refine z_il7 (pc := 63) dX8_doubt_63 ?_
              refine z_il4 (pc := 65) dX8_doubt_65 ?_
              refine z_icmp_eq (pc := 67) 113 dX8_doubt_67 rfl (fun c67 => ?_) (fun c67 => ?_)
              · refine z_iconst (pc := 113) (0) (by decide) dX8_doubt_113 ?_
                refine z_iadd (pc := 114) dX8_doubt_114 ?_
                refine z_is6 (pc := 115) dX8_doubt_115 (by decide) ?_
                refine z_ii7 (pc := 117) (nI (k + 1)) dX8_doubt_117 (nI_1 _) (by decide) ?_
                refine z_goto (pc := 120) 52 dX8_doubt_120 rfl ?_
                refine z_L (L' := [some (.ref x), some (.int (nI a)), some (.int mg), some (.int q), some (.int (nI b)), some (.int (f + mg)), some (.int (sDbt ar (sD ar c ln q a) a b q (f + mg) (k + 1))), some (.int (nI (k + 1)))]) (by rw [show sDbt ar (sD ar c ln q a) a b q (f + mg) (k + 1) = sDbt ar (sD ar c ln q a) a b q (f + mg) k + zb _ from rfl, zb_f (fun h => h.1 ((nI_eq (by omega) (by omega)).mp c67))]) ?_
                exact ih (k + 1) _ _ _ (by omega) hM hF hPS
              · refine z_il7 (pc := 70) dX8_doubt_70 ?_
                refine z_il1 (pc := 72) dX8_doubt_72 ?_
                refine z_icmp_eq (pc := 73) 113 dX8_doubt_73 rfl (fun c73 => ?_) (fun c73 => ?_)
                · refine z_iconst (pc := 113) (0) (by decide) dX8_doubt_113 ?_
                  refine z_iadd (pc := 114) dX8_doubt_114 ?_
                  refine z_is6 (pc := 115) dX8_doubt_115 (by decide) ?_
                  refine z_ii7 (pc := 117) (nI (k + 1)) dX8_doubt_117 (nI_1 _) (by decide) ?_
                  refine z_goto (pc := 120) 52 dX8_doubt_120 rfl ?_
                  refine z_L (L' := [some (.ref x), some (.int (nI a)), some (.int mg), some (.int q), some (.int (nI b)), some (.int (f + mg)), some (.int (sDbt ar (sD ar c ln q a) a b q (f + mg) (k + 1))), some (.int (nI (k + 1)))]) (by rw [show sDbt ar (sD ar c ln q a) a b q (f + mg) (k + 1) = sDbt ar (sD ar c ln q a) a b q (f + mg) k + zb _ from rfl, zb_f (fun h => h.2.1 ((nI_eq (by omega) (by omega)).mp c73))]) ?_
                  exact ih (k + 1) _ _ _ (by omega) hM hF hPS
                · refine z_al0 (pc := 76) dX8_doubt_76 ?_
                  refine z_il7 (pc := 77) dX8_doubt_77 ?_
                  refine z_il1 (pc := 79) dX8_doubt_79 ?_
                  refine z_callVr (pc := 80) (c_mIsEarlier l k a hM (by omega) (by omega)) hM.1 rfl rfl kw_959 zc_X8_isEarlier (by decide) (by decide) rfl (Nat.le_of_ble_eq_true rfl) dX8_doubt_80 ?_
                  rw [zb_c (erl_ps hPS k a)]
                  refine z_ifz_eq (pc := 83) 113 dX8_doubt_83 rfl (fun c83 => ?_) (fun c83 => ?_)
                  · refine z_iconst (pc := 113) (0) (by decide) dX8_doubt_113 ?_
                    refine z_iadd (pc := 114) dX8_doubt_114 ?_
                    refine z_is6 (pc := 115) dX8_doubt_115 (by decide) ?_
                    refine z_ii7 (pc := 117) (nI (k + 1)) dX8_doubt_117 (nI_1 _) (by decide) ?_
                    refine z_goto (pc := 120) 52 dX8_doubt_120 rfl ?_
                    refine z_L (L' := [some (.ref x), some (.int (nI a)), some (.int mg), some (.int q), some (.int (nI b)), some (.int (f + mg)), some (.int (sDbt ar (sD ar c ln q a) a b q (f + mg) (k + 1))), some (.int (nI (k + 1)))]) (by rw [show sDbt ar (sD ar c ln q a) a b q (f + mg) (k + 1) = sDbt ar (sD ar c ln q a) a b q (f + mg) k + zb _ from rfl, zb_f (fun h => c83 h.2.2.1)]) ?_
                    exact ih (k + 1) _ _ _ (by omega) hM hF hPS
                  · refine z_al0 (pc := 86) dX8_doubt_86 ?_
                    refine z_il7 (pc := 87) dX8_doubt_87 ?_
                    refine z_il3 (pc := 89) dX8_doubt_89 ?_
                    refine z_callVr (pc := 90) (c_mIsForged l k q hM (by omega)) hM.1 rfl rfl kw_935 zc_X8_isForged (by decide) (by decide) rfl (Nat.le_of_ble_eq_true rfl) dX8_doubt_90 ?_
                    rw [zb_c (frg_ps hPS k q)]
                    refine z_ifz_ne (pc := 93) 113 dX8_doubt_93 rfl (fun c93 => ?_) (fun c93 => ?_)
                    · refine z_iconst (pc := 113) (0) (by decide) dX8_doubt_113 ?_
                      refine z_iadd (pc := 114) dX8_doubt_114 ?_
                      refine z_is6 (pc := 115) dX8_doubt_115 (by decide) ?_
                      refine z_ii7 (pc := 117) (nI (k + 1)) dX8_doubt_117 (nI_1 _) (by decide) ?_
                      refine z_goto (pc := 120) 52 dX8_doubt_120 rfl ?_
                      refine z_L (L' := [some (.ref x), some (.int (nI a)), some (.int mg), some (.int q), some (.int (nI b)), some (.int (f + mg)), some (.int (sDbt ar (sD ar c ln q a) a b q (f + mg) (k + 1))), some (.int (nI (k + 1)))]) (by rw [show sDbt ar (sD ar c ln q a) a b q (f + mg) (k + 1) = sDbt ar (sD ar c ln q a) a b q (f + mg) k + zb _ from rfl, zb_f (fun h => h.2.2.2.1 c93)]) ?_
                      exact ih (k + 1) _ _ _ (by omega) hM hF hPS
                    · refine z_al0 (pc := 96) dX8_doubt_96 ?_
                      refine z_il1 (pc := 97) dX8_doubt_97 ?_
                      refine z_il7 (pc := 98) dX8_doubt_98 ?_
                      refine z_il3 (pc := 100) dX8_doubt_100 ?_
                      refine z_callVi (pc := 101) _ (c_mFar l a k (ln a) (ln k) c q hM (by omega) (by omega) hla.1 hla.2 hlk.1 hlk.2 hJ1.2.2.1 hJ1.2.2.2.1) rfl hM.1 rfl rfl kw_890 zc_X8_far (by decide) rfl (Nat.le_of_ble_eq_true rfl) dX8_doubt_101 (fun r G1 h => ?_)
                      obtain ⟨sc2, ar2, rfl, hM1, hF1, hI⟩ := h
                      rw [show sc2 27 = sD ar c ln q a k from hI.d.trans (sD_ps hPS c ln q a k)]
                      replace hPS := hPS.trans hI.ps
                      have hF := zF.trans hF hF1
                      clear hF1
                      replace hM := hM1
                      clear hM1
                      refine z_il5 (pc := 104) dX8_doubt_104 ?_
                      refine z_icmp_gt (pc := 106) 113 dX8_doubt_106 rfl (fun c106 => ?_) (fun c106 => ?_)
                      · refine z_iconst (pc := 113) (0) (by decide) dX8_doubt_113 ?_
                        refine z_iadd (pc := 114) dX8_doubt_114 ?_
                        refine z_is6 (pc := 115) dX8_doubt_115 (by decide) ?_
                        refine z_ii7 (pc := 117) (nI (k + 1)) dX8_doubt_117 (nI_1 _) (by decide) ?_
                        refine z_goto (pc := 120) 52 dX8_doubt_120 rfl ?_
                        refine z_L (L' := [some (.ref x), some (.int (nI a)), some (.int mg), some (.int q), some (.int (nI b)), some (.int (f + mg)), some (.int (sDbt ar (sD ar c ln q a) a b q (f + mg) (k + 1))), some (.int (nI (k + 1)))]) (by rw [show sDbt ar (sD ar c ln q a) a b q (f + mg) (k + 1) = sDbt ar (sD ar c ln q a) a b q (f + mg) k + zb _ from rfl, zb_f (fun h => absurd h.2.2.2.2 (Int32.not_le.mpr c106))]) ?_
                        exact ih (k + 1) _ _ _ (by omega) hM hF hPS
                      · refine z_iconst (pc := 109) (1) (by decide) dX8_doubt_109 ?_
                        refine z_goto (pc := 110) 114 dX8_doubt_110 rfl ?_
                        refine z_iadd (pc := 114) dX8_doubt_114 ?_
                        refine z_is6 (pc := 115) dX8_doubt_115 (by decide) ?_
                        refine z_ii7 (pc := 117) (nI (k + 1)) dX8_doubt_117 (nI_1 _) (by decide) ?_
                        refine z_goto (pc := 120) 52 dX8_doubt_120 rfl ?_
                        refine z_L (L' := [some (.ref x), some (.int (nI a)), some (.int mg), some (.int q), some (.int (nI b)), some (.int (f + mg)), some (.int (sDbt ar (sD ar c ln q a) a b q (f + mg) (k + 1))), some (.int (nI (k + 1)))]) (by rw [show sDbt ar (sD ar c ln q a) a b q (f + mg) (k + 1) = sDbt ar (sD ar c ln q a) a b q (f + mg) k + zb _ from rfl, zb_t ⟨fun h => c67 ((nI_eq (by omega) (by omega)).mpr h), fun h => c73 ((nI_eq (by omega) (by omega)).mpr h), c83, c93, Int32.not_lt.mp c106⟩]) ?_
                        exact ih (k + 1) _ _ _ (by omega) hM hF hPS
          exact lp n 0 _ _ _ (by omega) hM hF hPS
        · rw [show srcR ar (some (b, f)) = -1 from if_neg hlt]
          refine z_il4 (pc := 30) dX8_doubt_30 ?_
          refine z_iconst (pc := 32) (-1) (by decide) dX8_doubt_32 ?_
          refine z_icmp_ne (pc := 33) 38 dX8_doubt_33 rfl (fun c33 => absurd c33 (fun h => h rfl)) (fun c33 => ?_)
          refine z_iconst (pc := 36) (0) (by decide) dX8_doubt_36 ?_
          rw [← hQx]
          refine z_iret (pc := 37) rfl (by decide) dX8_doubt_37 (⟨_, rfl, by rw [if_pos ⟨hok, hmg⟩, iN_nI (by omega), hs]; exact (if_neg hlt).symm, _, _, hM, hF, hPS⟩)
    · refine z_iconst (pc := 20) (-1) (by decide) dX8_doubt_20 ?_
      rw [← hQx]
      refine z_iret (pc := 21) rfl (by decide) dX8_doubt_21 (⟨_, rfl, (if_neg (fun h => c17 h.2)).symm, _, _, hM, hF, PS.sc0 0 0 (by omega)⟩)
end
section
abbrev isNt (p b : Int32) : Prop := p = -1 ∨ (0 ≤ p ∧ p ≤ 60) ∧ 1 ≤ b ∧ b ≤ 16
abbrev okSheet (n : Nat) (h y v : Int32) : Prop := n ≠ 20 ∧ (0 ≤ h ∧ h ≤ 5) ∧ (0 ≤ y ∧ y ≤ 3000) ∧ 0 ≤ v ∧ v ≤ 9
def oSheet (n : Nat) (ar : Nat → Nat → Int32) (h y v : Int32) : Nat → Nat → Int32 := aup (aup (aup (aup (aup ar 1 n h) 2 n y) 3 n v) 4 n 0) 5 n (-1)
abbrev okNote (n : Nat) (ln : Nat → Nat) (s0 p b : Int32) : Prop := okS n s0 ∧ isNt p b ∧ ln (iN s0) ≠ 24
def oNote (ar : Nat → Nat → Int32) (s l : Nat) (p b : Int32) : Nat → Nat → Int32 := aup (aup (aup ar 6 (24 * s + l) p) 7 (24 * s + l) (if p = -1 then 0 else b)) 4 s (nI (l + 1))
abbrev okCor (n c : Nat) (ln : Nat → Nat) (s0 i p b : Int32) : Prop := okS n s0 ∧ (0 ≤ i ∧ i < nI (ln (iN s0))) ∧ isNt p b ∧ c ≠ 200
def oCor (ar : Nat → Nat → Int32) (c w : Nat) (s0 i p b : Int32) : Nat → Nat → Int32 := aup (aup (aup (aup (aup ar 8 c s0) 9 c i) 10 c p) 11 c (if p = -1 then 0 else b)) 12 c (nI w)
abbrev okFor (n : Nat) (ar : Nat → Nat → Int32) (s0 : Int32) : Prop := okS n s0 ∧ ar 5 (iN s0) = -1
abbrev okDbl (n d : Nat) (ar : Nat → Nat → Int32) (a0 b0 : Int32) : Prop := okS n a0 ∧ okS n b0 ∧ ar 1 (iN a0) ≠ ar 1 (iN b0) ∧ d ≠ 60 ∧ ∀ k, k < d → ¬ ((ar 13 k = a0 ∧ ar 14 k = b0) ∨ (ar 13 k = b0 ∧ ar 14 k = a0))
def oDbl (ar : Nat → Nat → Int32) (d : Nat) (a0 b0 : Int32) : Nat → Nat → Int32 := aup (aup ar 13 d a0) 14 d b0
abbrev okDay (w : Nat) (m : Int32) : Prop := (0 ≤ m ∧ m ≤ 1000) ∧ nI w + m ≤ 1000
abbrev okPri (k v : Int32) : Prop := (0 ≤ k ∧ k ≤ 4) ∧ 0 ≤ v ∧ v ≤ (if k = 4 then 10000 else if k = 0 ∨ k = 2 then 20 else 200)
abbrev okAt (n w : Nat) (ln : Nat → Nat) (s0 i q what : Int32) : Prop := okS n s0 ∧ (0 ≤ i ∧ i < nI (ln (iN s0))) ∧ (0 ≤ q ∧ q ≤ nI w) ∧ 0 ≤ what ∧ what ≤ 1
abbrev rX8_sheet : Room := rmK 1 0 0 22
set_option maxRecDepth 100000 in
set_option maxHeartbeats 400000 in
theorem c_mSheet (l : Launch) {κ : zK} {G : zH} {x : Nat} {ad : Nat → Nat} {sc : Nat → Int32} {ar : Nat → Nat → Int32} (n c d w : Nat) (ln : Nat → Nat) (h0 y0 v0 : Int32) (hM : RM κ G x ad sc ar) (hJ : MJ n c d w ln sc ar) : Ct l yX8_sheet cX8_sheet 4 (some FieldType.int) rX8_sheet κ [.ref x, .int h0, .int y0, .int v0] G (pI (fun r G2 => ∃ sc2 ar2, RM κ G2 x ad sc2 ar2 ∧ zF 1 G G2 ∧ ((okSheet n h0 y0 v0 ∧ r = nI n ∧ sc2 = sup (sup sc 0 0) 16 (nI (n + 1)) ∧ ar2 = oSheet n ar h0 y0 v0) ∨ (¬ okSheet n h0 y0 v0 ∧ r = -1 ∧ sc2 = sup sc 0 0 ∧ ar2 = ar)))) := by
  refine Ct.of (by decide +kernel) (fun v hv => by
    simp only [List.mem_cons, List.mem_nil_iff, or_false, List.not_mem_nil] at hv
    rcases hv with rfl | rfl | rfl | rfl <;> rfl) (Nat.le_of_ble_eq_true rfl) ?_
  intro p e s m args below meth cC
  refine z_L (L' := [some (.ref x), some (.int h0), some (.int y0), some (.int v0)]) rfl ?_
  generalize hQx : MQ below (zQc κ _) args s _ _ (zA κ) = Qx
  have hF : zF 1 G G := zF.rf
  refine z_al0 (pc := 0) dX8_sheet_0 ?_
  refine z_iconst (pc := 1) (0) (by decide) dX8_sheet_1 ?_
  refine z_mp0 (pc := 2) hM rfl dX8_sheet_2 (fun G1 hM1 hF1 => ?_)
  have hF := zF.trans hF hF1
  clear hF1
  replace hM := hM1
  clear hM1
  have e16 : sup sc 0 0 16 = nI n := hJ.1
  have e17 : sup sc 0 0 17 = nI c := hJ.2.2.1
  have e18 : sup sc 0 0 18 = nI d := hJ.2.2.2.2.1
  have e19 : sup sc 0 0 19 = nI w := hJ.2.2.2.2.2.2.1
  have hn20 := hJ.2.1
  have hc200 := hJ.2.2.2.1
  have hd60 := hJ.2.2.2.2.2.1
  have hw1000 := hJ.2.2.2.2.2.2.2.1
  refine z_al0 (pc := 5) dX8_sheet_5 ?_
  refine z_mg16 (pc := 6) hM rfl dX8_sheet_6 ?_
  rw [e16]
  refine z_bipush (pc := 9) (20) (by decide) dX8_sheet_9 ?_
  refine z_icmp_eq (pc := 11) 44 dX8_sheet_11 rfl (fun c11 => ?_) (fun c11 => ?_)
  · refine z_iconst (pc := 44) (-1) (by decide) dX8_sheet_44 ?_
    rw [← hQx]
    refine z_iret (pc := 45) rfl (by decide) dX8_sheet_45 (by
      refine ⟨_, rfl, _, _, hM, hF, Or.inr ⟨?_, rfl, rfl, rfl⟩⟩
      first | exact (fun h => absurd h.1 (fun q => q ((nI_eq (by omega) (by omega)).mp (by rw [show nI 20 = 20 from rfl]; exact c11)))) | exact (fun h => c20 h.2.1) | exact (fun h => c31 h.2.2.1) | exact (fun h => c41 h.2.2.2))
  · refine z_il1 (pc := 14) dX8_sheet_14 ?_
    refine z_iconst (pc := 15) (0) (by decide) dX8_sheet_15 ?_
    refine z_iconst (pc := 16) (5) (by decide) dX8_sheet_16 ?_
    refine z_callSr (pc := 17) (c_mIsIn l h0 0 5) kw_836 zc_X8_isIn (by decide) (by decide) rfl (Nat.le_of_ble_eq_true rfl) dX8_sheet_17 ?_
    refine z_ifz_eq (pc := 20) 44 dX8_sheet_20 rfl (fun c20 => ?_) (fun c20 => ?_)
    · refine z_iconst (pc := 44) (-1) (by decide) dX8_sheet_44 ?_
      rw [← hQx]
      refine z_iret (pc := 45) rfl (by decide) dX8_sheet_45 (by
      refine ⟨_, rfl, _, _, hM, hF, Or.inr ⟨?_, rfl, rfl, rfl⟩⟩
      first | exact (fun h => absurd h.1 (fun q => q ((nI_eq (by omega) (by omega)).mp (by rw [show nI 20 = 20 from rfl]; exact c11)))) | exact (fun h => c20 h.2.1) | exact (fun h => c31 h.2.2.1) | exact (fun h => c41 h.2.2.2))
    · refine z_il2 (pc := 23) dX8_sheet_23 ?_
      refine z_iconst (pc := 24) (0) (by decide) dX8_sheet_24 ?_
      refine z_sipush (pc := 25) (3000) (by decide) dX8_sheet_25 ?_
      refine z_callSr (pc := 28) (c_mIsIn l y0 0 3000) kw_836 zc_X8_isIn (by decide) (by decide) rfl (Nat.le_of_ble_eq_true rfl) dX8_sheet_28 ?_
      refine z_ifz_eq (pc := 31) 44 dX8_sheet_31 rfl (fun c31 => ?_) (fun c31 => ?_)
      · refine z_iconst (pc := 44) (-1) (by decide) dX8_sheet_44 ?_
        rw [← hQx]
        refine z_iret (pc := 45) rfl (by decide) dX8_sheet_45 (by
      refine ⟨_, rfl, _, _, hM, hF, Or.inr ⟨?_, rfl, rfl, rfl⟩⟩
      first | exact (fun h => absurd h.1 (fun q => q ((nI_eq (by omega) (by omega)).mp (by rw [show nI 20 = 20 from rfl]; exact c11)))) | exact (fun h => c20 h.2.1) | exact (fun h => c31 h.2.2.1) | exact (fun h => c41 h.2.2.2))
      · refine z_il3 (pc := 34) dX8_sheet_34 ?_
        refine z_iconst (pc := 35) (0) (by decide) dX8_sheet_35 ?_
        refine z_bipush (pc := 36) (9) (by decide) dX8_sheet_36 ?_
        refine z_callSr (pc := 38) (c_mIsIn l v0 0 9) kw_836 zc_X8_isIn (by decide) (by decide) rfl (Nat.le_of_ble_eq_true rfl) dX8_sheet_38 ?_
        refine z_ifz_ne (pc := 41) 46 dX8_sheet_41 rfl (fun c41 => ?_) (fun c41 => ?_)
        · have hok : okSheet n h0 y0 v0 := ⟨fun q => c11 (by rw [q]; rfl), c20, c31, c41⟩
          have hn19 : n ≠ 20 := hok.1
          refine z_al0 (pc := 46) dX8_sheet_46 ?_
          refine z_mg1 (pc := 47) hM rfl dX8_sheet_47 ?_
          refine z_al0 (pc := 50) dX8_sheet_50 ?_
          refine z_mg16 (pc := 51) hM rfl dX8_sheet_51 ?_
          refine z_il1 (pc := 54) dX8_sheet_54 ?_
          rw [e16]
          refine z_mst (pc := 55) 1 20 hM rfl (by decide) rfl (by omega) dX8_sheet_55 (fun G1 hM1 hF1 => ?_)
          have hF := zF.trans hF hF1
          clear hF1
          replace hM := hM1
          clear hM1
          refine z_al0 (pc := 56) dX8_sheet_56 ?_
          refine z_mg2 (pc := 57) hM rfl dX8_sheet_57 ?_
          refine z_al0 (pc := 60) dX8_sheet_60 ?_
          refine z_mg16 (pc := 61) hM rfl dX8_sheet_61 ?_
          refine z_il2 (pc := 64) dX8_sheet_64 ?_
          rw [e16]
          refine z_mst (pc := 65) 2 20 hM rfl (by decide) rfl (by omega) dX8_sheet_65 (fun G1 hM1 hF1 => ?_)
          have hF := zF.trans hF hF1
          clear hF1
          replace hM := hM1
          clear hM1
          refine z_al0 (pc := 66) dX8_sheet_66 ?_
          refine z_mg3 (pc := 67) hM rfl dX8_sheet_67 ?_
          refine z_al0 (pc := 70) dX8_sheet_70 ?_
          refine z_mg16 (pc := 71) hM rfl dX8_sheet_71 ?_
          refine z_il3 (pc := 74) dX8_sheet_74 ?_
          rw [e16]
          refine z_mst (pc := 75) 3 20 hM rfl (by decide) rfl (by omega) dX8_sheet_75 (fun G1 hM1 hF1 => ?_)
          have hF := zF.trans hF hF1
          clear hF1
          replace hM := hM1
          clear hM1
          refine z_al0 (pc := 76) dX8_sheet_76 ?_
          refine z_mg4 (pc := 77) hM rfl dX8_sheet_77 ?_
          refine z_al0 (pc := 80) dX8_sheet_80 ?_
          refine z_mg16 (pc := 81) hM rfl dX8_sheet_81 ?_
          refine z_iconst (pc := 84) (0) (by decide) dX8_sheet_84 ?_
          rw [e16]
          refine z_mst (pc := 85) 4 20 hM rfl (by decide) rfl (by omega) dX8_sheet_85 (fun G1 hM1 hF1 => ?_)
          have hF := zF.trans hF hF1
          clear hF1
          replace hM := hM1
          clear hM1
          refine z_al0 (pc := 86) dX8_sheet_86 ?_
          refine z_mg5 (pc := 87) hM rfl dX8_sheet_87 ?_
          refine z_al0 (pc := 90) dX8_sheet_90 ?_
          refine z_mg16 (pc := 91) hM rfl dX8_sheet_91 ?_
          refine z_iconst (pc := 94) (-1) (by decide) dX8_sheet_94 ?_
          rw [e16]
          refine z_mst (pc := 95) 5 20 hM rfl (by decide) rfl (by omega) dX8_sheet_95 (fun G1 hM1 hF1 => ?_)
          have hF := zF.trans hF hF1
          clear hF1
          replace hM := hM1
          clear hM1
          refine z_al0 (pc := 96) dX8_sheet_96 ?_
          refine z_dup (pc := 97) rfl dX8_sheet_97 ?_
          refine z_mg16 (pc := 98) hM rfl dX8_sheet_98 ?_
          refine z_iconst (pc := 101) (1) (by decide) dX8_sheet_101 ?_
          refine z_iadd (pc := 102) dX8_sheet_102 ?_
          rw [e16, nI_1]
          refine z_mp16 (pc := 103) hM rfl dX8_sheet_103 (fun G1 hM1 hF1 => ?_)
          have hF := zF.trans hF hF1
          clear hF1
          replace hM := hM1
          clear hM1
          refine z_al0 (pc := 106) dX8_sheet_106 ?_
          refine z_mg16 (pc := 107) hM rfl dX8_sheet_107 ?_
          refine z_iconst (pc := 110) (1) (by decide) dX8_sheet_110 ?_
          refine z_isub (pc := 111) dX8_sheet_111 ?_
          rw [show sup (sup sc 0 0) 16 (nI (n + 1)) 16 - 1 = nI n from nI_pred n]
          rw [← hQx]
          refine z_iret (pc := 112) rfl (by decide) dX8_sheet_112 (⟨_, rfl, _, _, hM, hF, Or.inl ⟨hok, rfl, rfl, rfl⟩⟩)
        · refine z_iconst (pc := 44) (-1) (by decide) dX8_sheet_44 ?_
          rw [← hQx]
          refine z_iret (pc := 45) rfl (by decide) dX8_sheet_45 (by
      refine ⟨_, rfl, _, _, hM, hF, Or.inr ⟨?_, rfl, rfl, rfl⟩⟩
      first | exact (fun h => absurd h.1 (fun q => q ((nI_eq (by omega) (by omega)).mp (by rw [show nI 20 = 20 from rfl]; exact c11)))) | exact (fun h => c20 h.2.1) | exact (fun h => c31 h.2.2.1) | exact (fun h => c41 h.2.2.2))
abbrev rX8_note : Room := rmK 2 0 0 43
set_option maxRecDepth 100000 in
set_option maxHeartbeats 400000 in
theorem c_mNote (l : Launch) {κ : zK} {G : zH} {x : Nat} {ad : Nat → Nat} {sc : Nat → Int32} {ar : Nat → Nat → Int32} (n c d w : Nat) (ln : Nat → Nat) (s0 p0 b0 : Int32) (hM : RM κ G x ad sc ar) (hJ : MJ n c d w ln sc ar) : Ct l yX8_note cX8_note 4 (some FieldType.int) rX8_note κ [.ref x, .int s0, .int p0, .int b0] G (pI (fun r G2 => ∃ sc2 ar2, RM κ G2 x ad sc2 ar2 ∧ zF 1 G G2 ∧ ((okNote n ln s0 p0 b0 ∧ r = nI (ln (iN s0) + 1) ∧ sc2 = sup sc 0 0 ∧ ar2 = oNote ar (iN s0) (ln (iN s0)) p0 b0) ∨ (¬ okNote n ln s0 p0 b0 ∧ r = -1 ∧ sc2 = sup sc 0 0 ∧ ar2 = ar)))) := by
  refine Ct.of (by decide +kernel) (fun v hv => by
    simp only [List.mem_cons, List.mem_nil_iff, or_false, List.not_mem_nil] at hv
    rcases hv with rfl | rfl | rfl | rfl <;> rfl) (Nat.le_of_ble_eq_true rfl) ?_
  intro p e s m args below meth cC
  refine z_L (L' := [some (.ref x), some (.int s0), some (.int p0), some (.int b0)]) rfl ?_
  generalize hQx : MQ below (zQc κ _) args s _ _ (zA κ) = Qx
  have hF : zF 1 G G := zF.rf
  refine z_al0 (pc := 0) dX8_note_0 ?_
  refine z_iconst (pc := 1) (0) (by decide) dX8_note_1 ?_
  refine z_mp0 (pc := 2) hM rfl dX8_note_2 (fun G1 hM1 hF1 => ?_)
  have hF := zF.trans hF hF1
  clear hF1
  replace hM := hM1
  clear hM1
  have e16 : sup sc 0 0 16 = nI n := hJ.1
  have e17 : sup sc 0 0 17 = nI c := hJ.2.2.1
  have e18 : sup sc 0 0 18 = nI d := hJ.2.2.2.2.1
  have e19 : sup sc 0 0 19 = nI w := hJ.2.2.2.2.2.2.1
  have hn20 := hJ.2.1
  have hc200 := hJ.2.2.2.1
  have hd60 := hJ.2.2.2.2.2.1
  have hw1000 := hJ.2.2.2.2.2.2.2.1
  refine z_al0 (pc := 5) dX8_note_5 ?_
  refine z_il1 (pc := 6) dX8_note_6 ?_
  refine z_callVr (pc := 7) (c_mIsSheet l s0 hM) hM.1 rfl rfl kw_843 zc_X8_isSheet (by decide) (by decide) rfl (Nat.le_of_ble_eq_true rfl) dX8_note_7 ?_
  rw [e16]
  refine z_ifz_eq (pc := 10) 32 dX8_note_10 rfl (fun c10 => ?_) (fun c10 => ?_)
  · refine z_iconst (pc := 32) (-1) (by decide) dX8_note_32 ?_
    rw [← hQx]
    refine z_iret (pc := 33) rfl (by decide) dX8_note_33 (by
      refine ⟨_, rfl, _, _, hM, hF, Or.inr ⟨?_, rfl, rfl, rfl⟩⟩
      first | exact (fun h => absurd h.1 c10) | exact (fun h => absurd h.2.1 c18) | exact (fun h => h.2.2 (by rw [iN_nI (by omega)]; exact (nI_eq (by omega) (by omega)).mp (by rw [show nI 24 = 24 from rfl]; exact c29))))
  · refine z_il2 (pc := 13) dX8_note_13 ?_
    refine z_il3 (pc := 14) dX8_note_14 ?_
    refine z_callSr (pc := 15) (c_mIsNote l p0 b0) kw_847 zc_X8_isNote (by decide) (by decide) rfl (Nat.le_of_ble_eq_true rfl) dX8_note_15 ?_
    refine z_ifz_eq (pc := 18) 32 dX8_note_18 rfl (fun c18 => ?_) (fun c18 => ?_)
    · refine z_iconst (pc := 32) (-1) (by decide) dX8_note_32 ?_
      rw [← hQx]
      refine z_iret (pc := 33) rfl (by decide) dX8_note_33 (by
      refine ⟨_, rfl, _, _, hM, hF, Or.inr ⟨?_, rfl, rfl, rfl⟩⟩
      first | exact (fun h => absurd h.1 c10) | exact (fun h => absurd h.2.1 c18) | exact (fun h => h.2.2 (by rw [iN_nI (by omega)]; exact (nI_eq (by omega) (by omega)).mp (by rw [show nI 24 = 24 from rfl]; exact c29))))
    · obtain ⟨ha0, ha1⟩ := id c10
      obtain ⟨a, rfl, ha⟩ := ix_in ha0 ha1 (by omega)
      have hla := hJ.2.2.2.2.2.2.2.2.1 a ha
      have hl24 := hla.2
      refine z_al0 (pc := 21) dX8_note_21 ?_
      refine z_mg4 (pc := 22) hM rfl dX8_note_22 ?_
      refine z_il1 (pc := 25) dX8_note_25 ?_
      refine z_mld (pc := 26) 4 20 hM rfl (by decide) rfl (by omega) dX8_note_26 ?_
      rw [hla.1]
      refine z_bipush (pc := 27) (24) (by decide) dX8_note_27 ?_
      refine z_icmp_ne (pc := 29) 34 dX8_note_29 rfl (fun c29 => ?_) (fun c29 => ?_)
      · have hln : ln a ≠ 24 := fun q => c29 (by rw [q]; rfl)
        have hok : okNote n ln (nI a) p0 b0 := ⟨c10, c18, by rw [iN_nI (by omega)]; exact hln⟩
        refine z_al0 (pc := 34) dX8_note_34 ?_
        refine z_mg6 (pc := 35) hM rfl dX8_note_35 ?_
        refine z_bipush (pc := 38) (24) (by decide) dX8_note_38 ?_
        refine z_il1 (pc := 40) dX8_note_40 ?_
        refine z_imul (pc := 41) dX8_note_41 ?_
        refine z_al0 (pc := 42) dX8_note_42 ?_
        refine z_mg4 (pc := 43) hM rfl dX8_note_43 ?_
        refine z_il1 (pc := 46) dX8_note_46 ?_
        refine z_mld (pc := 47) 4 20 hM rfl (by decide) rfl (by omega) dX8_note_47 ?_
        rw [hla.1]
        refine z_iadd (pc := 48) dX8_note_48 ?_
        refine z_il2 (pc := 49) dX8_note_49 ?_
        rw [ix24]
        refine z_mst (pc := 50) 6 480 hM rfl (by decide) rfl (by omega) dX8_note_50 (fun G1 hM1 hF1 => ?_)
        have hF := zF.trans hF hF1
        clear hF1
        replace hM := hM1
        clear hM1
        refine z_al0 (pc := 51) dX8_note_51 ?_
        refine z_mg7 (pc := 52) hM rfl dX8_note_52 ?_
        refine z_bipush (pc := 55) (24) (by decide) dX8_note_55 ?_
        refine z_il1 (pc := 57) dX8_note_57 ?_
        refine z_imul (pc := 58) dX8_note_58 ?_
        refine z_al0 (pc := 59) dX8_note_59 ?_
        refine z_mg4 (pc := 60) hM rfl dX8_note_60 ?_
        refine z_il1 (pc := 63) dX8_note_63 ?_
        refine z_mld (pc := 64) 4 20 hM rfl (by decide) rfl (by omega) dX8_note_64 ?_
        rw [show aup ar 6 (24 * a + ln a) p0 4 a = nI (ln a) from hla.1]
        refine z_iadd (pc := 65) dX8_note_65 ?_
        refine z_il2 (pc := 66) dX8_note_66 ?_
        refine z_iconst (pc := 67) (-1) (by decide) dX8_note_67 ?_
        skip
        refine z_icmp_ne (pc := 68) 75 dX8_note_68 rfl (fun c68 => ?_) (fun c68 => ?_)
        · refine z_il3 (pc := 75) dX8_note_75 ?_
          rw [ix24]
          refine z_mst (pc := 76) 7 480 hM rfl (by decide) rfl (by omega) dX8_note_76 (fun G1 hM1 hF1 => ?_)
          have hF := zF.trans hF hF1
          clear hF1
          replace hM := hM1
          clear hM1
          refine z_al0 (pc := 77) dX8_note_77 ?_
          refine z_mg4 (pc := 78) hM rfl dX8_note_78 ?_
          refine z_il1 (pc := 81) dX8_note_81 ?_
          refine z_dup2 (pc := 82) rfl rfl dX8_note_82 ?_
          refine z_mld (pc := 83) 4 20 hM rfl (by decide) rfl (by omega) dX8_note_83 ?_
          refine z_iconst (pc := 84) (1) (by decide) dX8_note_84 ?_
          refine z_iadd (pc := 85) dX8_note_85 ?_
          rw [show aup (aup ar 6 (24 * a + ln a) p0) 7 (24 * a + ln a) _ 4 a + 1 = nI (ln a + 1) from by show ar 4 a + 1 = _; rw [hla.1]; exact nI_1 _]
          refine z_mst (pc := 86) 4 20 hM rfl (by decide) rfl (by omega) dX8_note_86 (fun G1 hM1 hF1 => ?_)
          have hF := zF.trans hF hF1
          clear hF1
          replace hM := hM1
          clear hM1
          refine z_al0 (pc := 87) dX8_note_87 ?_
          refine z_mg4 (pc := 88) hM rfl dX8_note_88 ?_
          refine z_il1 (pc := 91) dX8_note_91 ?_
          refine z_mld (pc := 92) 4 20 hM rfl (by decide) rfl (by omega) dX8_note_92 ?_
          rw [← hQx]
          refine z_iret (pc := 93) rfl (by decide) dX8_note_93 (⟨_, rfl, _, _, hM, hF, Or.inl ⟨hok, by rw [iN_nI (by omega)]; simp [aup, upd], rfl, by rw [iN_nI (by omega)]; unfold oNote; rw [if_neg c68]⟩⟩)
        · refine z_iconst (pc := 71) (0) (by decide) dX8_note_71 ?_
          refine z_goto (pc := 72) 76 dX8_note_72 rfl ?_
          rw [ix24]
          refine z_mst (pc := 76) 7 480 hM rfl (by decide) rfl (by omega) dX8_note_76 (fun G1 hM1 hF1 => ?_)
          have hF := zF.trans hF hF1
          clear hF1
          replace hM := hM1
          clear hM1
          refine z_al0 (pc := 77) dX8_note_77 ?_
          refine z_mg4 (pc := 78) hM rfl dX8_note_78 ?_
          refine z_il1 (pc := 81) dX8_note_81 ?_
          refine z_dup2 (pc := 82) rfl rfl dX8_note_82 ?_
          refine z_mld (pc := 83) 4 20 hM rfl (by decide) rfl (by omega) dX8_note_83 ?_
          refine z_iconst (pc := 84) (1) (by decide) dX8_note_84 ?_
          refine z_iadd (pc := 85) dX8_note_85 ?_
          rw [show aup (aup ar 6 (24 * a + ln a) p0) 7 (24 * a + ln a) _ 4 a + 1 = nI (ln a + 1) from by show ar 4 a + 1 = _; rw [hla.1]; exact nI_1 _]
          refine z_mst (pc := 86) 4 20 hM rfl (by decide) rfl (by omega) dX8_note_86 (fun G1 hM1 hF1 => ?_)
          have hF := zF.trans hF hF1
          clear hF1
          replace hM := hM1
          clear hM1
          refine z_al0 (pc := 87) dX8_note_87 ?_
          refine z_mg4 (pc := 88) hM rfl dX8_note_88 ?_
          refine z_il1 (pc := 91) dX8_note_91 ?_
          refine z_mld (pc := 92) 4 20 hM rfl (by decide) rfl (by omega) dX8_note_92 ?_
          rw [← hQx]
          refine z_iret (pc := 93) rfl (by decide) dX8_note_93 (⟨_, rfl, _, _, hM, hF, Or.inl ⟨hok, by rw [iN_nI (by omega)]; simp [aup, upd], rfl, by rw [iN_nI (by omega)]; unfold oNote; rw [if_pos c68]⟩⟩)
      · refine z_iconst (pc := 32) (-1) (by decide) dX8_note_32 ?_
        rw [← hQx]
        refine z_iret (pc := 33) rfl (by decide) dX8_note_33 (by
      refine ⟨_, rfl, _, _, hM, hF, Or.inr ⟨?_, rfl, rfl, rfl⟩⟩
      first | exact (fun h => absurd h.1 c10) | exact (fun h => absurd h.2.1 c18) | exact (fun h => h.2.2 (by rw [iN_nI (by omega)]; exact (nI_eq (by omega) (by omega)).mp (by rw [show nI 24 = 24 from rfl]; exact c29))))
abbrev rX8_correct : Room := rmK 2 0 0 43
set_option maxRecDepth 100000 in
set_option maxHeartbeats 400000 in
theorem c_mCorrect (l : Launch) {κ : zK} {G : zH} {x : Nat} {ad : Nat → Nat} {sc : Nat → Int32} {ar : Nat → Nat → Int32} (n c d w : Nat) (ln : Nat → Nat) (s0 i0 p0 b0 : Int32) (hM : RM κ G x ad sc ar) (hJ : MJ n c d w ln sc ar) : Ct l yX8_correct cX8_correct 5 (some FieldType.boolean) rX8_correct κ [.ref x, .int s0, .int i0, .int p0, .int b0] G (pI (fun r G2 => ∃ sc2 ar2, RM κ G2 x ad sc2 ar2 ∧ zF 1 G G2 ∧ ((okCor n c ln s0 i0 p0 b0 ∧ r = 1 ∧ sc2 = sup (sup sc 0 0) 17 (nI (c + 1)) ∧ ar2 = oCor ar c w s0 i0 p0 b0) ∨ (¬ okCor n c ln s0 i0 p0 b0 ∧ r = 0 ∧ sc2 = sup sc 0 0 ∧ ar2 = ar)))) := by
  refine Ct.of (by decide +kernel) (fun v hv => by
    simp only [List.mem_cons, List.mem_nil_iff, or_false, List.not_mem_nil] at hv
    rcases hv with rfl | rfl | rfl | rfl | rfl <;> rfl) (Nat.le_of_ble_eq_true rfl) ?_
  intro p e s m args below meth cC
  refine z_L (L' := [some (.ref x), some (.int s0), some (.int i0), some (.int p0), some (.int b0)]) rfl ?_
  generalize hQx : MQ below (zQc κ _) args s _ _ (zA κ) = Qx
  have hF : zF 1 G G := zF.rf
  refine z_al0 (pc := 0) dX8_correct_0 ?_
  refine z_iconst (pc := 1) (0) (by decide) dX8_correct_1 ?_
  refine z_mp0 (pc := 2) hM rfl dX8_correct_2 (fun G1 hM1 hF1 => ?_)
  have hF := zF.trans hF hF1
  clear hF1
  replace hM := hM1
  clear hM1
  have e16 : sup sc 0 0 16 = nI n := hJ.1
  have e17 : sup sc 0 0 17 = nI c := hJ.2.2.1
  have e18 : sup sc 0 0 18 = nI d := hJ.2.2.2.2.1
  have e19 : sup sc 0 0 19 = nI w := hJ.2.2.2.2.2.2.1
  have hn20 := hJ.2.1
  have hc200 := hJ.2.2.2.1
  have hd60 := hJ.2.2.2.2.2.1
  have hw1000 := hJ.2.2.2.2.2.2.2.1
  refine z_al0 (pc := 5) dX8_correct_5 ?_
  refine z_il1 (pc := 6) dX8_correct_6 ?_
  refine z_callVr (pc := 7) (c_mIsSheet l s0 hM) hM.1 rfl rfl kw_843 zc_X8_isSheet (by decide) (by decide) rfl (Nat.le_of_ble_eq_true rfl) dX8_correct_7 ?_
  rw [e16]
  refine z_ifz_eq (pc := 10) 46 dX8_correct_10 rfl (fun c10 => ?_) (fun c10 => ?_)
  · refine z_iconst (pc := 46) (0) (by decide) dX8_correct_46 ?_
    rw [← hQx]
    refine z_zret (pc := 47) rfl rfl (by decide) dX8_correct_47 (by
      refine ⟨_, rfl, _, _, hM, hF, Or.inr ⟨?_, rfl, rfl, rfl⟩⟩
      first | exact (fun h => absurd h.1 c10) | exact (fun h => absurd h.2.1.1 (Int32.not_le.mpr c14)) | exact (fun h => c24 (by have := h.2.1.2; rwa [iN_nI (by omega)] at this)) | exact (fun h => absurd h.2.1.2 (by rw [iN_nI (by omega)]; exact Int32.not_lt.mpr c24)) | exact (fun h => absurd h.2.2.1 c33) | exact (fun h => h.2.2.2 ((nI_eq (by omega) (by omega)).mp (by rw [show nI 200 = 200 from rfl]; exact c43))))
  · obtain ⟨ha0, ha1⟩ := id c10
    obtain ⟨a, rfl, ha⟩ := ix_in ha0 ha1 (by omega)
    have hla := hJ.2.2.2.2.2.2.2.2.1 a ha
    have hl24 := hla.2
    refine z_il2 (pc := 13) dX8_correct_13 ?_
    refine z_if_lt (pc := 14) 46 dX8_correct_14 rfl (fun c14 => ?_) (fun c14 => ?_)
    · refine z_iconst (pc := 46) (0) (by decide) dX8_correct_46 ?_
      rw [← hQx]
      refine z_zret (pc := 47) rfl rfl (by decide) dX8_correct_47 (by
      refine ⟨_, rfl, _, _, hM, hF, Or.inr ⟨?_, rfl, rfl, rfl⟩⟩
      first | exact (fun h => absurd h.1 c10) | exact (fun h => absurd h.2.1.1 (Int32.not_le.mpr c14)) | exact (fun h => c24 (by have := h.2.1.2; rwa [iN_nI (by omega)] at this)) | exact (fun h => absurd h.2.1.2 (by rw [iN_nI (by omega)]; exact Int32.not_lt.mpr c24)) | exact (fun h => absurd h.2.2.1 c33) | exact (fun h => h.2.2.2 ((nI_eq (by omega) (by omega)).mp (by rw [show nI 200 = 200 from rfl]; exact c43))))
    · refine z_il2 (pc := 17) dX8_correct_17 ?_
      refine z_al0 (pc := 18) dX8_correct_18 ?_
      refine z_mg4 (pc := 19) hM rfl dX8_correct_19 ?_
      refine z_il1 (pc := 22) dX8_correct_22 ?_
      refine z_mld (pc := 23) 4 20 hM rfl (by decide) rfl (by omega) dX8_correct_23 ?_
      rw [hla.1]
      refine z_icmp_ge (pc := 24) 46 dX8_correct_24 rfl (fun c24 => ?_) (fun c24 => ?_)
      · refine z_iconst (pc := 46) (0) (by decide) dX8_correct_46 ?_
        rw [← hQx]
        refine z_zret (pc := 47) rfl rfl (by decide) dX8_correct_47 (by
      refine ⟨_, rfl, _, _, hM, hF, Or.inr ⟨?_, rfl, rfl, rfl⟩⟩
      first | exact (fun h => absurd h.1 c10) | exact (fun h => absurd h.2.1.1 (Int32.not_le.mpr c14)) | exact (fun h => c24 (by have := h.2.1.2; rwa [iN_nI (by omega)] at this)) | exact (fun h => absurd h.2.1.2 (by rw [iN_nI (by omega)]; exact Int32.not_lt.mpr c24)) | exact (fun h => absurd h.2.2.1 c33) | exact (fun h => h.2.2.2 ((nI_eq (by omega) (by omega)).mp (by rw [show nI 200 = 200 from rfl]; exact c43))))
      · refine z_il3 (pc := 27) dX8_correct_27 ?_
        refine z_il4 (pc := 28) dX8_correct_28 ?_
        refine z_callSr (pc := 30) (c_mIsNote l p0 b0) kw_847 zc_X8_isNote (by decide) (by decide) rfl (Nat.le_of_ble_eq_true rfl) dX8_correct_30 ?_
        refine z_ifz_eq (pc := 33) 46 dX8_correct_33 rfl (fun c33 => ?_) (fun c33 => ?_)
        · refine z_iconst (pc := 46) (0) (by decide) dX8_correct_46 ?_
          rw [← hQx]
          refine z_zret (pc := 47) rfl rfl (by decide) dX8_correct_47 (by
      refine ⟨_, rfl, _, _, hM, hF, Or.inr ⟨?_, rfl, rfl, rfl⟩⟩
      first | exact (fun h => absurd h.1 c10) | exact (fun h => absurd h.2.1.1 (Int32.not_le.mpr c14)) | exact (fun h => c24 (by have := h.2.1.2; rwa [iN_nI (by omega)] at this)) | exact (fun h => absurd h.2.1.2 (by rw [iN_nI (by omega)]; exact Int32.not_lt.mpr c24)) | exact (fun h => absurd h.2.2.1 c33) | exact (fun h => h.2.2.2 ((nI_eq (by omega) (by omega)).mp (by rw [show nI 200 = 200 from rfl]; exact c43))))
        · refine z_al0 (pc := 36) dX8_correct_36 ?_
          refine z_mg17 (pc := 37) hM rfl dX8_correct_37 ?_
          rw [e17]
          refine z_sipush (pc := 40) (200) (by decide) dX8_correct_40 ?_
          refine z_icmp_ne (pc := 43) 48 dX8_correct_43 rfl (fun c43 => ?_) (fun c43 => ?_)
          · have hcc : c ≠ 200 := fun q => c43 (by rw [q]; rfl)
            have hok : okCor n c ln (nI a) i0 p0 b0 := ⟨c10, ⟨Int32.not_lt.mp c14, by rw [iN_nI (by omega)]; exact Int32.not_le.mp c24⟩, c33, hcc⟩
            refine z_al0 (pc := 48) dX8_correct_48 ?_
            refine z_mg8 (pc := 49) hM rfl dX8_correct_49 ?_
            refine z_al0 (pc := 52) dX8_correct_52 ?_
            refine z_mg17 (pc := 53) hM rfl dX8_correct_53 ?_
            rw [e17]
            refine z_il1 (pc := 56) dX8_correct_56 ?_
            refine z_mst (pc := 57) 8 200 hM rfl (by decide) rfl (by omega) dX8_correct_57 (fun G1 hM1 hF1 => ?_)
            have hF := zF.trans hF hF1
            clear hF1
            replace hM := hM1
            clear hM1
            refine z_al0 (pc := 58) dX8_correct_58 ?_
            refine z_mg9 (pc := 59) hM rfl dX8_correct_59 ?_
            refine z_al0 (pc := 62) dX8_correct_62 ?_
            refine z_mg17 (pc := 63) hM rfl dX8_correct_63 ?_
            rw [e17]
            refine z_il2 (pc := 66) dX8_correct_66 ?_
            refine z_mst (pc := 67) 9 200 hM rfl (by decide) rfl (by omega) dX8_correct_67 (fun G1 hM1 hF1 => ?_)
            have hF := zF.trans hF hF1
            clear hF1
            replace hM := hM1
            clear hM1
            refine z_al0 (pc := 68) dX8_correct_68 ?_
            refine z_mg10 (pc := 69) hM rfl dX8_correct_69 ?_
            refine z_al0 (pc := 72) dX8_correct_72 ?_
            refine z_mg17 (pc := 73) hM rfl dX8_correct_73 ?_
            rw [e17]
            refine z_il3 (pc := 76) dX8_correct_76 ?_
            refine z_mst (pc := 77) 10 200 hM rfl (by decide) rfl (by omega) dX8_correct_77 (fun G1 hM1 hF1 => ?_)
            have hF := zF.trans hF hF1
            clear hF1
            replace hM := hM1
            clear hM1
            refine z_al0 (pc := 78) dX8_correct_78 ?_
            refine z_mg11 (pc := 79) hM rfl dX8_correct_79 ?_
            refine z_al0 (pc := 82) dX8_correct_82 ?_
            refine z_mg17 (pc := 83) hM rfl dX8_correct_83 ?_
            rw [e17]
            refine z_il3 (pc := 86) dX8_correct_86 ?_
            refine z_iconst (pc := 87) (-1) (by decide) dX8_correct_87 ?_
            refine z_icmp_ne (pc := 88) 95 dX8_correct_88 rfl (fun c88 => ?_) (fun c88 => ?_)
            · refine z_il4 (pc := 95) dX8_correct_95 ?_
              refine z_mst (pc := 97) 11 200 hM rfl (by decide) rfl (by omega) dX8_correct_97 (fun G1 hM1 hF1 => ?_)
              have hF := zF.trans hF hF1
              clear hF1
              replace hM := hM1
              clear hM1
              refine z_al0 (pc := 98) dX8_correct_98 ?_
              refine z_mg12 (pc := 99) hM rfl dX8_correct_99 ?_
              refine z_al0 (pc := 102) dX8_correct_102 ?_
              refine z_mg17 (pc := 103) hM rfl dX8_correct_103 ?_
              rw [e17]
              refine z_al0 (pc := 106) dX8_correct_106 ?_
              refine z_mg19 (pc := 107) hM rfl dX8_correct_107 ?_
              rw [e19]
              refine z_mst (pc := 110) 12 200 hM rfl (by decide) rfl (by omega) dX8_correct_110 (fun G1 hM1 hF1 => ?_)
              have hF := zF.trans hF hF1
              clear hF1
              replace hM := hM1
              clear hM1
              refine z_al0 (pc := 111) dX8_correct_111 ?_
              refine z_dup (pc := 112) rfl dX8_correct_112 ?_
              refine z_mg17 (pc := 113) hM rfl dX8_correct_113 ?_
              refine z_iconst (pc := 116) (1) (by decide) dX8_correct_116 ?_
              refine z_iadd (pc := 117) dX8_correct_117 ?_
              rw [e17, nI_1]
              refine z_mp17 (pc := 118) hM rfl dX8_correct_118 (fun G1 hM1 hF1 => ?_)
              have hF := zF.trans hF hF1
              clear hF1
              replace hM := hM1
              clear hM1
              refine z_iconst (pc := 121) (1) (by decide) dX8_correct_121 ?_
              rw [← hQx]
              refine z_zret (pc := 122) rfl rfl (by decide) dX8_correct_122 (⟨_, rfl, _, _, hM, hF, Or.inl ⟨hok, rfl, rfl, by unfold oCor; rw [if_neg c88]⟩⟩)
            · refine z_iconst (pc := 91) (0) (by decide) dX8_correct_91 ?_
              refine z_goto (pc := 92) 97 dX8_correct_92 rfl ?_
              refine z_mst (pc := 97) 11 200 hM rfl (by decide) rfl (by omega) dX8_correct_97 (fun G1 hM1 hF1 => ?_)
              have hF := zF.trans hF hF1
              clear hF1
              replace hM := hM1
              clear hM1
              refine z_al0 (pc := 98) dX8_correct_98 ?_
              refine z_mg12 (pc := 99) hM rfl dX8_correct_99 ?_
              refine z_al0 (pc := 102) dX8_correct_102 ?_
              refine z_mg17 (pc := 103) hM rfl dX8_correct_103 ?_
              rw [e17]
              refine z_al0 (pc := 106) dX8_correct_106 ?_
              refine z_mg19 (pc := 107) hM rfl dX8_correct_107 ?_
              rw [e19]
              refine z_mst (pc := 110) 12 200 hM rfl (by decide) rfl (by omega) dX8_correct_110 (fun G1 hM1 hF1 => ?_)
              have hF := zF.trans hF hF1
              clear hF1
              replace hM := hM1
              clear hM1
              refine z_al0 (pc := 111) dX8_correct_111 ?_
              refine z_dup (pc := 112) rfl dX8_correct_112 ?_
              refine z_mg17 (pc := 113) hM rfl dX8_correct_113 ?_
              refine z_iconst (pc := 116) (1) (by decide) dX8_correct_116 ?_
              refine z_iadd (pc := 117) dX8_correct_117 ?_
              rw [e17, nI_1]
              refine z_mp17 (pc := 118) hM rfl dX8_correct_118 (fun G1 hM1 hF1 => ?_)
              have hF := zF.trans hF hF1
              clear hF1
              replace hM := hM1
              clear hM1
              refine z_iconst (pc := 121) (1) (by decide) dX8_correct_121 ?_
              rw [← hQx]
              refine z_zret (pc := 122) rfl rfl (by decide) dX8_correct_122 (⟨_, rfl, _, _, hM, hF, Or.inl ⟨hok, rfl, rfl, by unfold oCor; rw [if_pos c88]⟩⟩)
          · refine z_iconst (pc := 46) (0) (by decide) dX8_correct_46 ?_
            rw [← hQx]
            refine z_zret (pc := 47) rfl rfl (by decide) dX8_correct_47 (by
      refine ⟨_, rfl, _, _, hM, hF, Or.inr ⟨?_, rfl, rfl, rfl⟩⟩
      first | exact (fun h => absurd h.1 c10) | exact (fun h => absurd h.2.1.1 (Int32.not_le.mpr c14)) | exact (fun h => c24 (by have := h.2.1.2; rwa [iN_nI (by omega)] at this)) | exact (fun h => absurd h.2.1.2 (by rw [iN_nI (by omega)]; exact Int32.not_lt.mpr c24)) | exact (fun h => absurd h.2.2.1 c33) | exact (fun h => h.2.2.2 ((nI_eq (by omega) (by omega)).mp (by rw [show nI 200 = 200 from rfl]; exact c43))))
abbrev rX8_forge : Room := rmK 1 0 0 21
set_option maxRecDepth 100000 in
set_option maxHeartbeats 400000 in
theorem c_mForge (l : Launch) {κ : zK} {G : zH} {x : Nat} {ad : Nat → Nat} {sc : Nat → Int32} {ar : Nat → Nat → Int32} (n c d w : Nat) (ln : Nat → Nat) (s0 : Int32) (hM : RM κ G x ad sc ar) (hJ : MJ n c d w ln sc ar) : Ct l yX8_forge cX8_forge 2 (some FieldType.boolean) rX8_forge κ [.ref x, .int s0] G (pI (fun r G2 => ∃ sc2 ar2, RM κ G2 x ad sc2 ar2 ∧ zF 1 G G2 ∧ ((okFor n ar s0 ∧ r = 1 ∧ sc2 = sup sc 0 0 ∧ ar2 = aup ar 5 (iN s0) (nI w)) ∨ (¬ okFor n ar s0 ∧ r = 0 ∧ sc2 = sup sc 0 0 ∧ ar2 = ar)))) := by
  refine Ct.of (by decide +kernel) (fun v hv => by
    simp only [List.mem_cons, List.mem_nil_iff, or_false, List.not_mem_nil] at hv
    rcases hv with rfl | rfl <;> rfl) (Nat.le_of_ble_eq_true rfl) ?_
  intro p e s m args below meth cC
  refine z_L (L' := [some (.ref x), some (.int s0)]) rfl ?_
  generalize hQx : MQ below (zQc κ _) args s _ _ (zA κ) = Qx
  have hF : zF 1 G G := zF.rf
  refine z_al0 (pc := 0) dX8_forge_0 ?_
  refine z_iconst (pc := 1) (0) (by decide) dX8_forge_1 ?_
  refine z_mp0 (pc := 2) hM rfl dX8_forge_2 (fun G1 hM1 hF1 => ?_)
  have hF := zF.trans hF hF1
  clear hF1
  replace hM := hM1
  clear hM1
  have e16 : sup sc 0 0 16 = nI n := hJ.1
  have e17 : sup sc 0 0 17 = nI c := hJ.2.2.1
  have e18 : sup sc 0 0 18 = nI d := hJ.2.2.2.2.1
  have e19 : sup sc 0 0 19 = nI w := hJ.2.2.2.2.2.2.1
  have hn20 := hJ.2.1
  have hc200 := hJ.2.2.2.1
  have hd60 := hJ.2.2.2.2.2.1
  have hw1000 := hJ.2.2.2.2.2.2.2.1
  refine z_al0 (pc := 5) dX8_forge_5 ?_
  refine z_il1 (pc := 6) dX8_forge_6 ?_
  refine z_callVr (pc := 7) (c_mIsSheet l s0 hM) hM.1 rfl rfl kw_843 zc_X8_isSheet (by decide) (by decide) rfl (Nat.le_of_ble_eq_true rfl) dX8_forge_7 ?_
  rw [e16]
  refine z_ifz_eq (pc := 10) 23 dX8_forge_10 rfl (fun c10 => ?_) (fun c10 => ?_)
  · refine z_iconst (pc := 23) (0) (by decide) dX8_forge_23 ?_
    rw [← hQx]
    refine z_zret (pc := 24) rfl rfl (by decide) dX8_forge_24 (by
      refine ⟨_, rfl, _, _, hM, hF, Or.inr ⟨?_, rfl, rfl, rfl⟩⟩
      first | exact (fun h => absurd h.1 c10) | exact (fun h => c20 (by have := h.2; rwa [iN_nI (by omega)] at this)))
  · obtain ⟨ha0, ha1⟩ := id c10
    obtain ⟨a, rfl, ha⟩ := ix_in ha0 ha1 (by omega)
    have hla := hJ.2.2.2.2.2.2.2.2.1 a ha
    have hl24 := hla.2
    refine z_al0 (pc := 13) dX8_forge_13 ?_
    refine z_mg5 (pc := 14) hM rfl dX8_forge_14 ?_
    refine z_il1 (pc := 17) dX8_forge_17 ?_
    refine z_mld (pc := 18) 5 20 hM rfl (by decide) rfl (by omega) dX8_forge_18 ?_
    refine z_iconst (pc := 19) (-1) (by decide) dX8_forge_19 ?_
    refine z_icmp_eq (pc := 20) 25 dX8_forge_20 rfl (fun c20 => ?_) (fun c20 => ?_)
    · refine z_al0 (pc := 25) dX8_forge_25 ?_
      refine z_mg5 (pc := 26) hM rfl dX8_forge_26 ?_
      refine z_il1 (pc := 29) dX8_forge_29 ?_
      refine z_al0 (pc := 30) dX8_forge_30 ?_
      refine z_mg19 (pc := 31) hM rfl dX8_forge_31 ?_
      rw [e19]
      refine z_mst (pc := 34) 5 20 hM rfl (by decide) rfl (by omega) dX8_forge_34 (fun G1 hM1 hF1 => ?_)
      have hF := zF.trans hF hF1
      clear hF1
      replace hM := hM1
      clear hM1
      refine z_iconst (pc := 35) (1) (by decide) dX8_forge_35 ?_
      rw [← hQx]
      refine z_zret (pc := 36) rfl rfl (by decide) dX8_forge_36 (⟨_, rfl, _, _, hM, hF, Or.inl ⟨⟨c10, by rw [iN_nI (by omega)]; exact c20⟩, rfl, rfl, by rw [iN_nI (by omega)]⟩⟩)
    · refine z_iconst (pc := 23) (0) (by decide) dX8_forge_23 ?_
      rw [← hQx]
      refine z_zret (pc := 24) rfl rfl (by decide) dX8_forge_24 (by
      refine ⟨_, rfl, _, _, hM, hF, Or.inr ⟨?_, rfl, rfl, rfl⟩⟩
      first | exact (fun h => absurd h.1 c10) | exact (fun h => c20 (by have := h.2; rwa [iN_nI (by omega)] at this)))
abbrev rX8_days : Room := rmK 1 0 0 22
set_option maxRecDepth 100000 in
set_option maxHeartbeats 400000 in
theorem c_mDays (l : Launch) {κ : zK} {G : zH} {x : Nat} {ad : Nat → Nat} {sc : Nat → Int32} {ar : Nat → Nat → Int32} (n c d w : Nat) (ln : Nat → Nat) (m0 : Int32) (hM : RM κ G x ad sc ar) (hJ : MJ n c d w ln sc ar) : Ct l yX8_days cX8_days 2 (some FieldType.int) rX8_days κ [.ref x, .int m0] G (pI (fun r G2 => ∃ sc2 ar2, RM κ G2 x ad sc2 ar2 ∧ zF 1 G G2 ∧ ((okDay w m0 ∧ r = nI w + m0 ∧ sc2 = sup (sup sc 0 0) 19 (nI w + m0) ∧ ar2 = ar) ∨ (¬ okDay w m0 ∧ r = -1 ∧ sc2 = sup sc 0 0 ∧ ar2 = ar)))) := by
  refine Ct.of (by decide +kernel) (fun v hv => by
    simp only [List.mem_cons, List.mem_nil_iff, or_false, List.not_mem_nil] at hv
    rcases hv with rfl | rfl <;> rfl) (Nat.le_of_ble_eq_true rfl) ?_
  intro p e s m args below meth cC
  refine z_L (L' := [some (.ref x), some (.int m0)]) rfl ?_
  generalize hQx : MQ below (zQc κ _) args s _ _ (zA κ) = Qx
  have hF : zF 1 G G := zF.rf
  refine z_al0 (pc := 0) dX8_days_0 ?_
  refine z_iconst (pc := 1) (0) (by decide) dX8_days_1 ?_
  refine z_mp0 (pc := 2) hM rfl dX8_days_2 (fun G1 hM1 hF1 => ?_)
  have hF := zF.trans hF hF1
  clear hF1
  replace hM := hM1
  clear hM1
  have e16 : sup sc 0 0 16 = nI n := hJ.1
  have e17 : sup sc 0 0 17 = nI c := hJ.2.2.1
  have e18 : sup sc 0 0 18 = nI d := hJ.2.2.2.2.1
  have e19 : sup sc 0 0 19 = nI w := hJ.2.2.2.2.2.2.1
  have hn20 := hJ.2.1
  have hc200 := hJ.2.2.2.1
  have hd60 := hJ.2.2.2.2.2.1
  have hw1000 := hJ.2.2.2.2.2.2.2.1
  refine z_il1 (pc := 5) dX8_days_5 ?_
  refine z_iconst (pc := 6) (0) (by decide) dX8_days_6 ?_
  refine z_sipush (pc := 7) (1000) (by decide) dX8_days_7 ?_
  refine z_callSr (pc := 10) (c_mIsIn l m0 0 1000) kw_836 zc_X8_isIn (by decide) (by decide) rfl (Nat.le_of_ble_eq_true rfl) dX8_days_10 ?_
  refine z_ifz_eq (pc := 13) 28 dX8_days_13 rfl (fun c13 => ?_) (fun c13 => ?_)
  · refine z_iconst (pc := 28) (-1) (by decide) dX8_days_28 ?_
    rw [← hQx]
    refine z_iret (pc := 29) rfl (by decide) dX8_days_29 (by
      refine ⟨_, rfl, _, _, hM, hF, Or.inr ⟨?_, rfl, rfl, rfl⟩⟩
      first | exact (fun h => absurd h.1 c13) | exact (fun h => absurd h.2 (Int32.not_le.mpr (Int32.not_le.mp c25))) | exact (fun h => c25 h.2))
  · refine z_al0 (pc := 16) dX8_days_16 ?_
    refine z_mg19 (pc := 17) hM rfl dX8_days_17 ?_
    rw [e19]
    refine z_il1 (pc := 20) dX8_days_20 ?_
    refine z_iadd (pc := 21) dX8_days_21 ?_
    refine z_sipush (pc := 22) (1000) (by decide) dX8_days_22 ?_
    refine z_icmp_le (pc := 25) 30 dX8_days_25 rfl (fun c25 => ?_) (fun c25 => ?_)
    · refine z_al0 (pc := 30) dX8_days_30 ?_
      refine z_dup (pc := 31) rfl dX8_days_31 ?_
      refine z_mg19 (pc := 32) hM rfl dX8_days_32 ?_
      rw [e19]
      refine z_il1 (pc := 35) dX8_days_35 ?_
      refine z_iadd (pc := 36) dX8_days_36 ?_
      refine z_mp19 (pc := 37) hM rfl dX8_days_37 (fun G1 hM1 hF1 => ?_)
      have hF := zF.trans hF hF1
      clear hF1
      replace hM := hM1
      clear hM1
      refine z_al0 (pc := 40) dX8_days_40 ?_
      refine z_mg19 (pc := 41) hM rfl dX8_days_41 ?_
      rw [← hQx]
      refine z_iret (pc := 44) rfl (by decide) dX8_days_44 (⟨_, rfl, _, _, hM, hF, Or.inl ⟨⟨c13, c25⟩, rfl, rfl, rfl⟩⟩)
    · refine z_iconst (pc := 28) (-1) (by decide) dX8_days_28 ?_
      rw [← hQx]
      refine z_iret (pc := 29) rfl (by decide) dX8_days_29 (by
      refine ⟨_, rfl, _, _, hM, hF, Or.inr ⟨?_, rfl, rfl, rfl⟩⟩
      first | exact (fun h => absurd h.1 c13) | exact (fun h => absurd h.2 (Int32.not_le.mpr (Int32.not_le.mp c25))) | exact (fun h => c25 h.2))
abbrev rX8_price : Room := rmK 1 0 0 22
set_option maxRecDepth 100000 in
set_option maxHeartbeats 400000 in
theorem c_mPrice (l : Launch) {κ : zK} {G : zH} {x : Nat} {ad : Nat → Nat} {sc : Nat → Int32} {ar : Nat → Nat → Int32} (n c d w : Nat) (ln : Nat → Nat) (k0 v0 : Int32) (hM : RM κ G x ad sc ar) (hJ : MJ n c d w ln sc ar) : Ct l yX8_price cX8_price 3 (some FieldType.boolean) rX8_price κ [.ref x, .int k0, .int v0] G (pI (fun r G2 => ∃ sc2 ar2, RM κ G2 x ad sc2 ar2 ∧ zF 1 G G2 ∧ ((okPri k0 v0 ∧ r = 1 ∧ sc2 = sup sc 0 0 ∧ ar2 = aup ar 15 (iN k0) v0) ∨ (¬ okPri k0 v0 ∧ r = 0 ∧ sc2 = sup sc 0 0 ∧ ar2 = ar)))) := by
  refine Ct.of (by decide +kernel) (fun v hv => by
    simp only [List.mem_cons, List.mem_nil_iff, or_false, List.not_mem_nil] at hv
    rcases hv with rfl | rfl | rfl <;> rfl) (Nat.le_of_ble_eq_true rfl) ?_
  intro p e s m args below meth cC
  refine z_L (L' := [some (.ref x), some (.int k0), some (.int v0)]) rfl ?_
  generalize hQx : MQ below (zQc κ _) args s _ _ (zA κ) = Qx
  have hF : zF 1 G G := zF.rf
  refine z_al0 (pc := 0) dX8_price_0 ?_
  refine z_iconst (pc := 1) (0) (by decide) dX8_price_1 ?_
  refine z_mp0 (pc := 2) hM rfl dX8_price_2 (fun G1 hM1 hF1 => ?_)
  have hF := zF.trans hF hF1
  clear hF1
  replace hM := hM1
  clear hM1
  have e16 : sup sc 0 0 16 = nI n := hJ.1
  have e17 : sup sc 0 0 17 = nI c := hJ.2.2.1
  have e18 : sup sc 0 0 18 = nI d := hJ.2.2.2.2.1
  have e19 : sup sc 0 0 19 = nI w := hJ.2.2.2.2.2.2.1
  have hn20 := hJ.2.1
  have hc200 := hJ.2.2.2.1
  have hd60 := hJ.2.2.2.2.2.1
  have hw1000 := hJ.2.2.2.2.2.2.2.1
  refine z_il1 (pc := 5) dX8_price_5 ?_
  refine z_iconst (pc := 6) (0) (by decide) dX8_price_6 ?_
  refine z_iconst (pc := 7) (4) (by decide) dX8_price_7 ?_
  refine z_callSr (pc := 8) (c_mIsIn l k0 0 4) kw_836 zc_X8_isIn (by decide) (by decide) rfl (Nat.le_of_ble_eq_true rfl) dX8_price_8 ?_
  refine z_ifz_eq (pc := 11) 50 dX8_price_11 rfl (fun c11 => ?_) (fun c11 => ?_)
  · refine z_iconst (pc := 50) (0) (by decide) dX8_price_50 ?_
    rw [← hQx]
    refine z_zret (pc := 51) rfl rfl (by decide) dX8_price_51 (by
      refine ⟨_, rfl, _, _, hM, hF, Or.inr ⟨?_, rfl, rfl, rfl⟩⟩
      first | exact (fun h => c11 h.1) | exact (fun h => c47 (by have := h.2; simp_all)))
  · refine z_il2 (pc := 14) dX8_price_14 ?_
    refine z_iconst (pc := 15) (0) (by decide) dX8_price_15 ?_
    refine z_il1 (pc := 16) dX8_price_16 ?_
    refine z_iconst (pc := 17) (4) (by decide) dX8_price_17 ?_
    refine z_icmp_ne (pc := 18) 27 dX8_price_18 rfl (fun c18 => ?_) (fun c18 => ?_)
    · refine z_il1 (pc := 27) dX8_price_27 ?_
      refine z_if_eq (pc := 28) 36 dX8_price_28 rfl (fun c28 => ?_) (fun c28 => ?_)
      · refine z_bipush (pc := 36) (20) (by decide) dX8_price_36 ?_
        refine z_goto (pc := 38) 44 dX8_price_38 rfl ?_
        refine z_callSr (pc := 44) (c_mIsIn l v0 0 20) kw_836 zc_X8_isIn (by decide) (by decide) rfl (Nat.le_of_ble_eq_true rfl) dX8_price_44 ?_
        refine z_ifz_ne (pc := 47) 52 dX8_price_47 rfl (fun c47 => ?_) (fun c47 => ?_)
        · refine z_al0 (pc := 52) dX8_price_52 ?_
          refine z_mg15 (pc := 53) hM rfl dX8_price_53 ?_
          refine z_il1 (pc := 56) dX8_price_56 ?_
          refine z_il2 (pc := 57) dX8_price_57 ?_
          obtain ⟨j, rfl, hj⟩ := ix_in c11.1 (show k0 < nI 5 by have := c11.2; rw [show nI 5 = (5 : Int32) from rfl]; simp only [i_lt, i_le, i_n4, i_n5] at *; omega) (by omega)
          refine z_mst (pc := 58) 15 5 hM rfl (by decide) rfl (by omega) dX8_price_58 (fun G1 hM1 hF1 => ?_)
          have hF := zF.trans hF hF1
          clear hF1
          replace hM := hM1
          clear hM1
          refine z_iconst (pc := 59) (1) (by decide) dX8_price_59 ?_
          rw [← hQx]
          refine z_zret (pc := 60) rfl rfl (by decide) dX8_price_60 (⟨_, rfl, _, _, hM, hF, Or.inl ⟨⟨c11, by simp_all⟩, rfl, rfl, by rw [iN_nI (by omega)]⟩⟩)
        · refine z_iconst (pc := 50) (0) (by decide) dX8_price_50 ?_
          rw [← hQx]
          refine z_zret (pc := 51) rfl rfl (by decide) dX8_price_51 (by
      refine ⟨_, rfl, _, _, hM, hF, Or.inr ⟨?_, rfl, rfl, rfl⟩⟩
      first | exact (fun h => c11 h.1) | exact (fun h => c47 (by have := h.2; simp_all)))
      · refine z_il1 (pc := 31) dX8_price_31 ?_
        refine z_iconst (pc := 32) (2) (by decide) dX8_price_32 ?_
        refine z_icmp_ne (pc := 33) 41 dX8_price_33 rfl (fun c33 => ?_) (fun c33 => ?_)
        · refine z_sipush (pc := 41) (200) (by decide) dX8_price_41 ?_
          refine z_callSr (pc := 44) (c_mIsIn l v0 0 200) kw_836 zc_X8_isIn (by decide) (by decide) rfl (Nat.le_of_ble_eq_true rfl) dX8_price_44 ?_
          refine z_ifz_ne (pc := 47) 52 dX8_price_47 rfl (fun c47 => ?_) (fun c47 => ?_)
          · refine z_al0 (pc := 52) dX8_price_52 ?_
            refine z_mg15 (pc := 53) hM rfl dX8_price_53 ?_
            refine z_il1 (pc := 56) dX8_price_56 ?_
            refine z_il2 (pc := 57) dX8_price_57 ?_
            obtain ⟨j, rfl, hj⟩ := ix_in c11.1 (show k0 < nI 5 by have := c11.2; rw [show nI 5 = (5 : Int32) from rfl]; simp only [i_lt, i_le, i_n4, i_n5] at *; omega) (by omega)
            refine z_mst (pc := 58) 15 5 hM rfl (by decide) rfl (by omega) dX8_price_58 (fun G1 hM1 hF1 => ?_)
            have hF := zF.trans hF hF1
            clear hF1
            replace hM := hM1
            clear hM1
            refine z_iconst (pc := 59) (1) (by decide) dX8_price_59 ?_
            rw [← hQx]
            refine z_zret (pc := 60) rfl rfl (by decide) dX8_price_60 (⟨_, rfl, _, _, hM, hF, Or.inl ⟨⟨c11, by simp_all⟩, rfl, rfl, by rw [iN_nI (by omega)]⟩⟩)
          · refine z_iconst (pc := 50) (0) (by decide) dX8_price_50 ?_
            rw [← hQx]
            refine z_zret (pc := 51) rfl rfl (by decide) dX8_price_51 (by
      refine ⟨_, rfl, _, _, hM, hF, Or.inr ⟨?_, rfl, rfl, rfl⟩⟩
      first | exact (fun h => c11 h.1) | exact (fun h => c47 (by have := h.2; simp_all)))
        · refine z_bipush (pc := 36) (20) (by decide) dX8_price_36 ?_
          refine z_goto (pc := 38) 44 dX8_price_38 rfl ?_
          refine z_callSr (pc := 44) (c_mIsIn l v0 0 20) kw_836 zc_X8_isIn (by decide) (by decide) rfl (Nat.le_of_ble_eq_true rfl) dX8_price_44 ?_
          refine z_ifz_ne (pc := 47) 52 dX8_price_47 rfl (fun c47 => ?_) (fun c47 => ?_)
          · refine z_al0 (pc := 52) dX8_price_52 ?_
            refine z_mg15 (pc := 53) hM rfl dX8_price_53 ?_
            refine z_il1 (pc := 56) dX8_price_56 ?_
            refine z_il2 (pc := 57) dX8_price_57 ?_
            obtain ⟨j, rfl, hj⟩ := ix_in c11.1 (show k0 < nI 5 by have := c11.2; rw [show nI 5 = (5 : Int32) from rfl]; simp only [i_lt, i_le, i_n4, i_n5] at *; omega) (by omega)
            refine z_mst (pc := 58) 15 5 hM rfl (by decide) rfl (by omega) dX8_price_58 (fun G1 hM1 hF1 => ?_)
            have hF := zF.trans hF hF1
            clear hF1
            replace hM := hM1
            clear hM1
            refine z_iconst (pc := 59) (1) (by decide) dX8_price_59 ?_
            rw [← hQx]
            refine z_zret (pc := 60) rfl rfl (by decide) dX8_price_60 (⟨_, rfl, _, _, hM, hF, Or.inl ⟨⟨c11, by simp_all⟩, rfl, rfl, by rw [iN_nI (by omega)]⟩⟩)
          · refine z_iconst (pc := 50) (0) (by decide) dX8_price_50 ?_
            rw [← hQx]
            refine z_zret (pc := 51) rfl rfl (by decide) dX8_price_51 (by
      refine ⟨_, rfl, _, _, hM, hF, Or.inr ⟨?_, rfl, rfl, rfl⟩⟩
      first | exact (fun h => c11 h.1) | exact (fun h => c47 (by have := h.2; simp_all)))
    · refine z_sipush (pc := 21) (10000) (by decide) dX8_price_21 ?_
      refine z_goto (pc := 24) 44 dX8_price_24 rfl ?_
      refine z_callSr (pc := 44) (c_mIsIn l v0 0 10000) kw_836 zc_X8_isIn (by decide) (by decide) rfl (Nat.le_of_ble_eq_true rfl) dX8_price_44 ?_
      refine z_ifz_ne (pc := 47) 52 dX8_price_47 rfl (fun c47 => ?_) (fun c47 => ?_)
      · refine z_al0 (pc := 52) dX8_price_52 ?_
        refine z_mg15 (pc := 53) hM rfl dX8_price_53 ?_
        refine z_il1 (pc := 56) dX8_price_56 ?_
        refine z_il2 (pc := 57) dX8_price_57 ?_
        obtain ⟨j, rfl, hj⟩ := ix_in c11.1 (show k0 < nI 5 by have := c11.2; rw [show nI 5 = (5 : Int32) from rfl]; simp only [i_lt, i_le, i_n4, i_n5] at *; omega) (by omega)
        refine z_mst (pc := 58) 15 5 hM rfl (by decide) rfl (by omega) dX8_price_58 (fun G1 hM1 hF1 => ?_)
        have hF := zF.trans hF hF1
        clear hF1
        replace hM := hM1
        clear hM1
        refine z_iconst (pc := 59) (1) (by decide) dX8_price_59 ?_
        rw [← hQx]
        refine z_zret (pc := 60) rfl rfl (by decide) dX8_price_60 (⟨_, rfl, _, _, hM, hF, Or.inl ⟨⟨c11, by simp_all⟩, rfl, rfl, by rw [iN_nI (by omega)]⟩⟩)
      · refine z_iconst (pc := 50) (0) (by decide) dX8_price_50 ?_
        rw [← hQx]
        refine z_zret (pc := 51) rfl rfl (by decide) dX8_price_51 (by
      refine ⟨_, rfl, _, _, hM, hF, Or.inr ⟨?_, rfl, rfl, rfl⟩⟩
      first | exact (fun h => c11 h.1) | exact (fun h => c47 (by have := h.2; simp_all)))
end
section
/-- the span of words v, as the reference goes through the sheets -/
def spanM (ar : Nat → Nat → Int32) (v q g : Int32) : Nat → Int32
  | 0 => -1
  | k + 1 => if ar 3 k = v ∧ ¬ frg ar k q ∧ (spanM ar v q g k = -1 ∨ (if g = 0 then ar 2 k < spanM ar v q g k else spanM ar v q g k < ar 2 k)) then ar 2 k else spanM ar v q g k
def cntF (ar : Nat → Nat → Int32) : Nat → Int32
  | 0 => 0
  | k + 1 => cntF ar k + zb (ar 5 k ≠ -1)
def lenS (ar : Nat → Nat → Int32) : Nat → Int32
  | 0 => 0
  | k + 1 => lenS ar k + ar 4 k
def cntR (n c d w : Nat) (ar : Nat → Nat → Int32) (what : Int32) : Int32 := if what = 0 then nI w else if what = 1 then nI n else if what = 2 then cntF ar n else if what = 3 then lenS ar n else if what = 4 then nI c else if what = 5 then nI d else -1
theorem w6 (v : Int32) : v = 0 ∨ v = 1 ∨ v = 2 ∨ v = 3 ∨ v = 4 ∨ v = 5 ∨ ((v.toInt < 0 ∨ 5 < v.toInt) ∧ v ≠ 0 ∧ v ≠ 1 ∧ v ≠ 2 ∧ v ≠ 3 ∧ v ≠ 4 ∧ v ≠ 5) := by
  simp only [ne_eq, i_eq, i_0, i_n1, i_n2, i_n3, i_n4, i_n5]
  omega
abbrev rX8_doubles : Room := rmK 1 0 0 21
set_option maxRecDepth 100000 in
set_option maxHeartbeats 400000 in
theorem c_mDoubles (l : Launch) {κ : zK} {G : zH} {x : Nat} {ad : Nat → Nat} {sc : Nat → Int32} {ar : Nat → Nat → Int32} (n c d w : Nat) (ln : Nat → Nat) (a0 b0 : Int32) (hM : RM κ G x ad sc ar) (hJ : MJ n c d w ln sc ar) : Ct l yX8_doubles cX8_doubles 4 (some FieldType.boolean) rX8_doubles κ [.ref x, .int a0, .int b0] G (pI (fun r G2 => ∃ sc2 ar2, RM κ G2 x ad sc2 ar2 ∧ zF 1 G G2 ∧ ((okDbl n d ar a0 b0 ∧ r = 1 ∧ sc2 = sup (sup sc 0 0) 18 (nI (d + 1)) ∧ ar2 = oDbl ar d a0 b0) ∨ (¬ okDbl n d ar a0 b0 ∧ r = 0 ∧ sc2 = sup sc 0 0 ∧ ar2 = ar)))) := by
  refine Ct.of (by decide +kernel) (fun v hv => by
    simp only [List.mem_cons, List.mem_nil_iff, or_false, List.not_mem_nil] at hv
    rcases hv with rfl | rfl | rfl <;> rfl) (Nat.le_of_ble_eq_true rfl) ?_
  intro p e s m args below meth cC
  refine z_L (L' := [some (.ref x), some (.int a0), some (.int b0), none]) rfl ?_
  generalize hQx : MQ below (zQc κ _) args s _ _ (zA κ) = Qx
  have hF : zF 1 G G := zF.rf
  refine z_al0 (pc := 0) dX8_doubles_0 ?_
  refine z_iconst (pc := 1) (0) (by decide) dX8_doubles_1 ?_
  refine z_mp0 (pc := 2) hM rfl dX8_doubles_2 (fun G1 hM1 hF1 => ?_)
  have hF := zF.trans hF hF1
  clear hF1
  replace hM := hM1
  clear hM1
  have e16 : sup sc 0 0 16 = nI n := hJ.1
  have e17 : sup sc 0 0 17 = nI c := hJ.2.2.1
  have e18 : sup sc 0 0 18 = nI d := hJ.2.2.2.2.1
  have e19 : sup sc 0 0 19 = nI w := hJ.2.2.2.2.2.2.1
  have hn20 := hJ.2.1
  have hc200 := hJ.2.2.2.1
  have hd60 := hJ.2.2.2.2.2.1
  have hw1000 := hJ.2.2.2.2.2.2.2.1
  refine z_al0 (pc := 5) dX8_doubles_5 ?_
  refine z_il1 (pc := 6) dX8_doubles_6 ?_
  refine z_callVr (pc := 7) (c_mIsSheet l a0 hM) hM.1 rfl rfl kw_843 zc_X8_isSheet (by decide) (by decide) rfl (Nat.le_of_ble_eq_true rfl) dX8_doubles_7 ?_
  rw [e16]
  refine z_ifz_eq (pc := 10) 45 dX8_doubles_10 rfl (fun c10 => ?_) (fun c10 => ?_)
  · refine z_iconst (pc := 45) (0) (by decide) dX8_doubles_45 ?_
    rw [← hQx]
    refine z_zret (pc := 46) rfl rfl (by decide) dX8_doubles_46 (by
      refine ⟨_, rfl, _, _, hM, hF, Or.inr ⟨?_, rfl, rfl, rfl⟩⟩
      first | exact (fun h => absurd h.1 c10) | exact (fun h => absurd h.2.1 c18) | exact (fun h => h.2.2.1 (by rw [iN_nI (by omega), iN_nI (by omega)]; exact c33)) | exact (fun h => h.2.2.2.1 ((nI_eq (by omega) (by omega)).mp (by rw [show nI 60 = 60 from rfl]; exact c40))) | exact (fun h => h.2.2.2.1 ((nI_eq (by omega) (by omega)).mp (by rw [show nI 60 = 60 from rfl]; exact c42))))
  · refine z_al0 (pc := 13) dX8_doubles_13 ?_
    refine z_il2 (pc := 14) dX8_doubles_14 ?_
    refine z_callVr (pc := 15) (c_mIsSheet l b0 hM) hM.1 rfl rfl kw_843 zc_X8_isSheet (by decide) (by decide) rfl (Nat.le_of_ble_eq_true rfl) dX8_doubles_15 ?_
    rw [e16]
    refine z_ifz_eq (pc := 18) 45 dX8_doubles_18 rfl (fun c18 => ?_) (fun c18 => ?_)
    · refine z_iconst (pc := 45) (0) (by decide) dX8_doubles_45 ?_
      rw [← hQx]
      refine z_zret (pc := 46) rfl rfl (by decide) dX8_doubles_46 (by
      refine ⟨_, rfl, _, _, hM, hF, Or.inr ⟨?_, rfl, rfl, rfl⟩⟩
      first | exact (fun h => absurd h.1 c10) | exact (fun h => absurd h.2.1 c18) | exact (fun h => h.2.2.1 (by rw [iN_nI (by omega), iN_nI (by omega)]; exact c33)) | exact (fun h => h.2.2.2.1 ((nI_eq (by omega) (by omega)).mp (by rw [show nI 60 = 60 from rfl]; exact c40))) | exact (fun h => h.2.2.2.1 ((nI_eq (by omega) (by omega)).mp (by rw [show nI 60 = 60 from rfl]; exact c42))))
    · obtain ⟨ha0, ha1⟩ := id c10
      obtain ⟨a, rfl, ha⟩ := ix_in ha0 ha1 (by omega)
      obtain ⟨hb0, hb1⟩ := id c18
      obtain ⟨b, rfl, hb⟩ := ix_in hb0 hb1 (by omega)
      refine z_al0 (pc := 21) dX8_doubles_21 ?_
      refine z_mg1 (pc := 22) hM rfl dX8_doubles_22 ?_
      refine z_il1 (pc := 25) dX8_doubles_25 ?_
      refine z_mld (pc := 26) 1 20 hM rfl (by decide) rfl (by omega) dX8_doubles_26 ?_
      refine z_al0 (pc := 27) dX8_doubles_27 ?_
      refine z_mg1 (pc := 28) hM rfl dX8_doubles_28 ?_
      refine z_il2 (pc := 31) dX8_doubles_31 ?_
      refine z_mld (pc := 32) 1 20 hM rfl (by decide) rfl (by omega) dX8_doubles_32 ?_
      refine z_icmp_eq (pc := 33) 45 dX8_doubles_33 rfl (fun c33 => ?_) (fun c33 => ?_)
      · refine z_iconst (pc := 45) (0) (by decide) dX8_doubles_45 ?_
        rw [← hQx]
        refine z_zret (pc := 46) rfl rfl (by decide) dX8_doubles_46 (by
      refine ⟨_, rfl, _, _, hM, hF, Or.inr ⟨?_, rfl, rfl, rfl⟩⟩
      first | exact (fun h => absurd h.1 c10) | exact (fun h => absurd h.2.1 c18) | exact (fun h => h.2.2.1 (by rw [iN_nI (by omega), iN_nI (by omega)]; exact c33)) | exact (fun h => h.2.2.2.1 ((nI_eq (by omega) (by omega)).mp (by rw [show nI 60 = 60 from rfl]; exact c40))) | exact (fun h => h.2.2.2.1 ((nI_eq (by omega) (by omega)).mp (by rw [show nI 60 = 60 from rfl]; exact c42))))
      · refine z_al0 (pc := 36) dX8_doubles_36 ?_
        refine z_mg18 (pc := 37) hM rfl dX8_doubles_37 ?_
        rw [e18]
        refine z_bipush (pc := 40) (60) (by decide) dX8_doubles_40 ?_
        refine z_icmp_ne (pc := 42) 47 dX8_doubles_42 rfl (fun c42 => ?_) (fun c42 => ?_)
        · have hd0 : d ≠ 60 := fun q => c42 (by rw [q]; rfl)
          refine z_iconst (pc := 47) (0) (by decide) dX8_doubles_47 ?_
          refine z_is3 (pc := 48) dX8_doubles_48 (by decide) ?_
          have lp : ∀ (dd k : Nat), k + dd = d → (∀ j, j < k → ¬ ((ar 13 j = nI a ∧ ar 14 j = nI b) ∨ (ar 13 j = nI b ∧ ar 14 j = nI a))) → Z p l e rX8_doubles s m args below meth cC yX8_doubles cX8_doubles 4 (some FieldType.boolean) κ Qx 0 0 G1 [some (.ref x), some (.int (nI a)), some (.int (nI b)), some (.int (nI k))] 49 [] := by
            intro dd
            induction dd with
            | zero =>
              intro k hkd hI
              refine z_il3 (pc := 49) dX8_doubles_49 ?_
              refine z_al0 (pc := 50) dX8_doubles_50 ?_
              refine z_mg18 (pc := 51) hM rfl dX8_doubles_51 ?_
              rw [e18]
              refine z_icmp_ge (pc := 54) 105 dX8_doubles_54 rfl (fun c54 => ?_) (fun c54 => absurd (by rw [show k = d by omega]; exact Int32.le_refl _) c54)
              refine z_al0 (pc := 105) dX8_doubles_105 ?_
              refine z_mg13 (pc := 106) hM rfl dX8_doubles_106 ?_
              refine z_al0 (pc := 109) dX8_doubles_109 ?_
              refine z_mg18 (pc := 110) hM rfl dX8_doubles_110 ?_
              rw [e18]
              refine z_il1 (pc := 113) dX8_doubles_113 ?_
              refine z_mst (pc := 114) 13 60 hM rfl (by decide) rfl (by omega) dX8_doubles_114 (fun G1 hM1 hF1 => ?_)
              have hF := zF.trans hF hF1
              clear hF1
              replace hM := hM1
              clear hM1
              refine z_al0 (pc := 115) dX8_doubles_115 ?_
              refine z_mg14 (pc := 116) hM rfl dX8_doubles_116 ?_
              refine z_al0 (pc := 119) dX8_doubles_119 ?_
              refine z_mg18 (pc := 120) hM rfl dX8_doubles_120 ?_
              rw [e18]
              refine z_il2 (pc := 123) dX8_doubles_123 ?_
              refine z_mst (pc := 124) 14 60 hM rfl (by decide) rfl (by omega) dX8_doubles_124 (fun G1 hM1 hF1 => ?_)
              have hF := zF.trans hF hF1
              clear hF1
              replace hM := hM1
              clear hM1
              refine z_al0 (pc := 125) dX8_doubles_125 ?_
              refine z_dup (pc := 126) rfl dX8_doubles_126 ?_
              refine z_mg18 (pc := 127) hM rfl dX8_doubles_127 ?_
              refine z_iconst (pc := 130) (1) (by decide) dX8_doubles_130 ?_
              refine z_iadd (pc := 131) dX8_doubles_131 ?_
              rw [e18, nI_1]
              refine z_mp18 (pc := 132) hM rfl dX8_doubles_132 (fun G1 hM1 hF1 => ?_)
              have hF := zF.trans hF hF1
              clear hF1
              replace hM := hM1
              clear hM1
              refine z_iconst (pc := 135) (1) (by decide) dX8_doubles_135 ?_
              rw [← hQx]
              refine z_zret (pc := 136) rfl rfl (by decide) dX8_doubles_136 (⟨_, rfl, _, _, hM, hF, Or.inl ⟨⟨c10, c18, by rw [iN_nI (by omega), iN_nI (by omega)]; exact c33, hd0, fun j hj => hI j (by omega)⟩, rfl, rfl, rfl⟩⟩)
            | succ dd ih =>
              intro k hkd hI
              refine z_il3 (pc := 49) dX8_doubles_49 ?_
              refine z_al0 (pc := 50) dX8_doubles_50 ?_
              refine z_mg18 (pc := 51) hM rfl dX8_doubles_51 ?_
              rw [e18]
              refine z_icmp_ge (pc := 54) 105 dX8_doubles_54 rfl (fun c54 => absurd c54 (by rw [nI_leI (by omega) (by omega)]; omega)) (fun c54 => ?_)
              have hkd2 : k < d := by omega
              refine z_al0 (pc := 57) dX8_doubles_57 ?_
              refine z_mg13 (pc := 58) hM rfl dX8_doubles_58 ?_
              refine z_il3 (pc := 61) dX8_doubles_61 ?_
              refine z_mld (pc := 62) 13 60 hM rfl (by decide) rfl (by omega) dX8_doubles_62 ?_
              refine z_il1 (pc := 63) dX8_doubles_63 ?_
              refine z_icmp_ne (pc := 64) 77 dX8_doubles_64 rfl (fun c64 => ?_) (fun c64 => ?_)
              · refine z_al0 (pc := 77) dX8_doubles_77 ?_
                refine z_mg13 (pc := 78) hM rfl dX8_doubles_78 ?_
                refine z_il3 (pc := 81) dX8_doubles_81 ?_
                refine z_mld (pc := 82) 13 60 hM rfl (by decide) rfl (by omega) dX8_doubles_82 ?_
                refine z_il2 (pc := 83) dX8_doubles_83 ?_
                refine z_icmp_ne (pc := 84) 99 dX8_doubles_84 rfl (fun c84 => ?_) (fun c84 => ?_)
                · refine z_ii3 (pc := 99) (nI (k + 1)) dX8_doubles_99 (nI_1 _) (by decide) ?_
                  refine z_goto (pc := 102) 49 dX8_doubles_102 rfl ?_
                  exact ih (k + 1) (by omega) (fun j hj => by
                    by_cases e : j = k
                    · subst e
                      exact fun h => h.elim (fun h => c64 h.1) (fun h => c84 h.1)
                    · exact hI j (by omega))
                · refine z_al0 (pc := 87) dX8_doubles_87 ?_
                  refine z_mg14 (pc := 88) hM rfl dX8_doubles_88 ?_
                  refine z_il3 (pc := 91) dX8_doubles_91 ?_
                  refine z_mld (pc := 92) 14 60 hM rfl (by decide) rfl (by omega) dX8_doubles_92 ?_
                  refine z_il1 (pc := 93) dX8_doubles_93 ?_
                  refine z_icmp_ne (pc := 94) 99 dX8_doubles_94 rfl (fun c94 => ?_) (fun c94 => ?_)
                  · refine z_ii3 (pc := 99) (nI (k + 1)) dX8_doubles_99 (nI_1 _) (by decide) ?_
                    refine z_goto (pc := 102) 49 dX8_doubles_102 rfl ?_
                    exact ih (k + 1) (by omega) (fun j hj => by
                      by_cases e : j = k
                      · subst e
                        exact fun h => h.elim (fun h => c64 h.1) (fun h => c94 h.2)
                      · exact hI j (by omega))
                  · refine z_iconst (pc := 97) (0) (by decide) dX8_doubles_97 ?_
                    rw [← hQx]
                    refine z_zret (pc := 98) rfl rfl (by decide) dX8_doubles_98 (⟨_, rfl, _, _, hM, hF, Or.inr ⟨fun h => h.2.2.2.2 k hkd2 (Or.inr ⟨c84, c94⟩), rfl, rfl, rfl⟩⟩)
              · refine z_al0 (pc := 67) dX8_doubles_67 ?_
                refine z_mg14 (pc := 68) hM rfl dX8_doubles_68 ?_
                refine z_il3 (pc := 71) dX8_doubles_71 ?_
                refine z_mld (pc := 72) 14 60 hM rfl (by decide) rfl (by omega) dX8_doubles_72 ?_
                refine z_il2 (pc := 73) dX8_doubles_73 ?_
                refine z_icmp_eq (pc := 74) 97 dX8_doubles_74 rfl (fun c74 => ?_) (fun c74 => ?_)
                · refine z_iconst (pc := 97) (0) (by decide) dX8_doubles_97 ?_
                  rw [← hQx]
                  refine z_zret (pc := 98) rfl rfl (by decide) dX8_doubles_98 (⟨_, rfl, _, _, hM, hF, Or.inr ⟨fun h => h.2.2.2.2 k hkd2 (Or.inl ⟨c64, c74⟩), rfl, rfl, rfl⟩⟩)
                · refine z_al0 (pc := 77) dX8_doubles_77 ?_
                  refine z_mg13 (pc := 78) hM rfl dX8_doubles_78 ?_
                  refine z_il3 (pc := 81) dX8_doubles_81 ?_
                  refine z_mld (pc := 82) 13 60 hM rfl (by decide) rfl (by omega) dX8_doubles_82 ?_
                  refine z_il2 (pc := 83) dX8_doubles_83 ?_
                  refine z_icmp_ne (pc := 84) 99 dX8_doubles_84 rfl (fun c84 => ?_) (fun c84 => ?_)
                  · refine z_ii3 (pc := 99) (nI (k + 1)) dX8_doubles_99 (nI_1 _) (by decide) ?_
                    refine z_goto (pc := 102) 49 dX8_doubles_102 rfl ?_
                    exact ih (k + 1) (by omega) (fun j hj => by
                      by_cases e : j = k
                      · subst e
                        exact fun h => h.elim (fun h => c74 h.2) (fun h => c84 h.1)
                      · exact hI j (by omega))
                  · refine z_al0 (pc := 87) dX8_doubles_87 ?_
                    refine z_mg14 (pc := 88) hM rfl dX8_doubles_88 ?_
                    refine z_il3 (pc := 91) dX8_doubles_91 ?_
                    refine z_mld (pc := 92) 14 60 hM rfl (by decide) rfl (by omega) dX8_doubles_92 ?_
                    refine z_il1 (pc := 93) dX8_doubles_93 ?_
                    refine z_icmp_ne (pc := 94) 99 dX8_doubles_94 rfl (fun c94 => ?_) (fun c94 => ?_)
                    · refine z_ii3 (pc := 99) (nI (k + 1)) dX8_doubles_99 (nI_1 _) (by decide) ?_
                      refine z_goto (pc := 102) 49 dX8_doubles_102 rfl ?_
                      exact ih (k + 1) (by omega) (fun j hj => by
                        by_cases e : j = k
                        · subst e
                          exact fun h => h.elim (fun h => c74 h.2) (fun h => c94 h.2)
                        · exact hI j (by omega))
                    · refine z_iconst (pc := 97) (0) (by decide) dX8_doubles_97 ?_
                      rw [← hQx]
                      refine z_zret (pc := 98) rfl rfl (by decide) dX8_doubles_98 (⟨_, rfl, _, _, hM, hF, Or.inr ⟨fun h => h.2.2.2.2 k hkd2 (Or.inr ⟨c84, c94⟩), rfl, rfl, rfl⟩⟩)
          exact lp d 0 (by omega) (fun j h => absurd h (Nat.not_lt_zero _))
        · refine z_iconst (pc := 45) (0) (by decide) dX8_doubles_45 ?_
          rw [← hQx]
          refine z_zret (pc := 46) rfl rfl (by decide) dX8_doubles_46 (by
      refine ⟨_, rfl, _, _, hM, hF, Or.inr ⟨?_, rfl, rfl, rfl⟩⟩
      first | exact (fun h => absurd h.1 c10) | exact (fun h => absurd h.2.1 c18) | exact (fun h => h.2.2.1 (by rw [iN_nI (by omega), iN_nI (by omega)]; exact c33)) | exact (fun h => h.2.2.2.1 ((nI_eq (by omega) (by omega)).mp (by rw [show nI 60 = 60 from rfl]; exact c40))) | exact (fun h => h.2.2.2.1 ((nI_eq (by omega) (by omega)).mp (by rw [show nI 60 = 60 from rfl]; exact c42))))
abbrev rX8_at : Room := rmK 2 0 0 43
set_option maxRecDepth 100000 in
set_option maxHeartbeats 400000 in
theorem c_mAt (l : Launch) {κ : zK} {G : zH} {x : Nat} {ad : Nat → Nat} {sc : Nat → Int32} {ar : Nat → Nat → Int32} (n c d w : Nat) (ln : Nat → Nat) (s0 i0 q what : Int32) (hM : RM κ G x ad sc ar) (hJ : MJ n c d w ln sc ar) : Ct l yX8_at cX8_at 5 (some FieldType.int) rX8_at κ [.ref x, .int s0, .int i0, .int q, .int what] G (pI (fun r G2 => RM κ G2 x ad (sup sc 0 (zb (¬ okAt n w ln s0 i0 q what))) ar ∧ zF 1 G G2 ∧ r = if okAt n w ln s0 i0 q what then kn ar (iN s0) (iN i0) q (decide (what = 1)) c else 0)) := by
  refine Ct.of (by decide +kernel) (fun v hv => by
    simp only [List.mem_cons, List.mem_nil_iff, or_false, List.not_mem_nil] at hv
    rcases hv with rfl | rfl | rfl | rfl | rfl <;> rfl) (Nat.le_of_ble_eq_true rfl) ?_
  intro p e s m args below meth cC
  refine z_L (L' := [some (.ref x), some (.int s0), some (.int i0), some (.int q), some (.int what)]) rfl ?_
  generalize hQx : MQ below (zQc κ _) args s _ _ (zA κ) = Qx
  have hF : zF 1 G G := zF.rf
  have e16 : sc 16 = nI n := hJ.1
  have e17 : sc 17 = nI c := hJ.2.2.1
  have e18 : sc 18 = nI d := hJ.2.2.2.2.1
  have e19 : sc 19 = nI w := hJ.2.2.2.2.2.2.1
  have hn20 := hJ.2.1
  have hc200 := hJ.2.2.2.1
  have hd60 := hJ.2.2.2.2.2.1
  have hw1000 := hJ.2.2.2.2.2.2.2.1
  skip
  refine z_al0 (pc := 0) dX8_at_0 ?_
  refine z_al0 (pc := 1) dX8_at_1 ?_
  refine z_il1 (pc := 2) dX8_at_2 ?_
  refine z_callVr (pc := 3) (c_mIsSheet l s0 hM) hM.1 rfl rfl kw_843 zc_X8_isSheet (by decide) (by decide) rfl (Nat.le_of_ble_eq_true rfl) dX8_at_3 ?_
  rw [e16]
  refine z_ifz_eq (pc := 6) 41 dX8_at_6 rfl (fun c6 => ?_) (fun c6 => ?_)
  · refine z_iconst (pc := 41) (1) (by decide) dX8_at_41 ?_
    refine z_goto (pc := 42) 46 dX8_at_42 rfl ?_
    refine z_mp0 (pc := 46) hM rfl dX8_at_46 (fun G1 hM1 hF1 => ?_)
    have hF := zF.trans hF hF1
    clear hF1
    replace hM := hM1
    clear hM1
    refine z_al0 (pc := 49) dX8_at_49 ?_
    refine z_mg0 (pc := 50) hM rfl dX8_at_50 ?_
    rw [show sup sc 0 1 0 = 1 from rfl]
    refine z_if_le (pc := 53) 60 dX8_at_53 rfl (fun c53 => absurd c53 (by decide)) (fun c53 => ?_)
    refine z_iconst (pc := 56) (0) (by decide) dX8_at_56 ?_
    refine z_goto (pc := 57) 78 dX8_at_57 rfl ?_
    rw [← hQx]
    refine z_iret (pc := 78) rfl (by decide) dX8_at_78 (by
      have hno : ¬ okAt n w ln s0 i0 q what := by
        first | exact (fun h => absurd h.1 c6) | exact (fun h => absurd h.2.1.1 (Int32.not_le.mpr c10)) | exact (fun h => absurd h.2.1.2 (by rw [iN_nI (by omega)]; exact Int32.not_lt.mpr c20)) | exact (fun h => absurd h.2.2.1 c28) | exact (fun h => absurd h.2.2.2 c38)
      exact ⟨_, rfl, by rw [zb_t hno]; exact hM, hF, (if_neg hno).symm⟩)
  · obtain ⟨ha0, ha1⟩ := id c6
    obtain ⟨a, rfl, ha⟩ := ix_in ha0 ha1 (by omega)
    have hla := hJ.2.2.2.2.2.2.2.2.1 a ha
    have hl24 := hla.2
    refine z_il2 (pc := 9) dX8_at_9 ?_
    refine z_if_lt (pc := 10) 41 dX8_at_10 rfl (fun c10 => ?_) (fun c10 => ?_)
    · refine z_iconst (pc := 41) (1) (by decide) dX8_at_41 ?_
      refine z_goto (pc := 42) 46 dX8_at_42 rfl ?_
      refine z_mp0 (pc := 46) hM rfl dX8_at_46 (fun G1 hM1 hF1 => ?_)
      have hF := zF.trans hF hF1
      clear hF1
      replace hM := hM1
      clear hM1
      refine z_al0 (pc := 49) dX8_at_49 ?_
      refine z_mg0 (pc := 50) hM rfl dX8_at_50 ?_
      rw [show sup sc 0 1 0 = 1 from rfl]
      refine z_if_le (pc := 53) 60 dX8_at_53 rfl (fun c53 => absurd c53 (by decide)) (fun c53 => ?_)
      refine z_iconst (pc := 56) (0) (by decide) dX8_at_56 ?_
      refine z_goto (pc := 57) 78 dX8_at_57 rfl ?_
      rw [← hQx]
      refine z_iret (pc := 78) rfl (by decide) dX8_at_78 (by
      have hno : ¬ okAt n w ln (nI a) i0 q what := by
        first | exact (fun h => absurd h.1 c6) | exact (fun h => absurd h.2.1.1 (Int32.not_le.mpr c10)) | exact (fun h => absurd h.2.1.2 (by rw [iN_nI (by omega)]; exact Int32.not_lt.mpr c20)) | exact (fun h => absurd h.2.2.1 c28) | exact (fun h => absurd h.2.2.2 c38)
      exact ⟨_, rfl, by rw [zb_t hno]; exact hM, hF, (if_neg hno).symm⟩)
    · refine z_il2 (pc := 13) dX8_at_13 ?_
      refine z_al0 (pc := 14) dX8_at_14 ?_
      refine z_mg4 (pc := 15) hM rfl dX8_at_15 ?_
      refine z_il1 (pc := 18) dX8_at_18 ?_
      refine z_mld (pc := 19) 4 20 hM rfl (by decide) rfl (by omega) dX8_at_19 ?_
      rw [hla.1]
      refine z_icmp_ge (pc := 20) 41 dX8_at_20 rfl (fun c20 => ?_) (fun c20 => ?_)
      · refine z_iconst (pc := 41) (1) (by decide) dX8_at_41 ?_
        refine z_goto (pc := 42) 46 dX8_at_42 rfl ?_
        refine z_mp0 (pc := 46) hM rfl dX8_at_46 (fun G1 hM1 hF1 => ?_)
        have hF := zF.trans hF hF1
        clear hF1
        replace hM := hM1
        clear hM1
        refine z_al0 (pc := 49) dX8_at_49 ?_
        refine z_mg0 (pc := 50) hM rfl dX8_at_50 ?_
        rw [show sup sc 0 1 0 = 1 from rfl]
        refine z_if_le (pc := 53) 60 dX8_at_53 rfl (fun c53 => absurd c53 (by decide)) (fun c53 => ?_)
        refine z_iconst (pc := 56) (0) (by decide) dX8_at_56 ?_
        refine z_goto (pc := 57) 78 dX8_at_57 rfl ?_
        rw [← hQx]
        refine z_iret (pc := 78) rfl (by decide) dX8_at_78 (by
      have hno : ¬ okAt n w ln (nI a) i0 q what := by
        first | exact (fun h => absurd h.1 c6) | exact (fun h => absurd h.2.1.1 (Int32.not_le.mpr c10)) | exact (fun h => absurd h.2.1.2 (by rw [iN_nI (by omega)]; exact Int32.not_lt.mpr c20)) | exact (fun h => absurd h.2.2.1 c28) | exact (fun h => absurd h.2.2.2 c38)
      exact ⟨_, rfl, by rw [zb_t hno]; exact hM, hF, (if_neg hno).symm⟩)
      · refine z_al0 (pc := 23) dX8_at_23 ?_
        refine z_il3 (pc := 24) dX8_at_24 ?_
        refine z_callVr (pc := 25) (c_mIsDay l q hM) hM.1 rfl rfl kw_874 zc_X8_isDay (by decide) (by decide) rfl (Nat.le_of_ble_eq_true rfl) dX8_at_25 ?_
        rw [e19]
        refine z_ifz_eq (pc := 28) 41 dX8_at_28 rfl (fun c28 => ?_) (fun c28 => ?_)
        · refine z_iconst (pc := 41) (1) (by decide) dX8_at_41 ?_
          refine z_goto (pc := 42) 46 dX8_at_42 rfl ?_
          refine z_mp0 (pc := 46) hM rfl dX8_at_46 (fun G1 hM1 hF1 => ?_)
          have hF := zF.trans hF hF1
          clear hF1
          replace hM := hM1
          clear hM1
          refine z_al0 (pc := 49) dX8_at_49 ?_
          refine z_mg0 (pc := 50) hM rfl dX8_at_50 ?_
          rw [show sup sc 0 1 0 = 1 from rfl]
          refine z_if_le (pc := 53) 60 dX8_at_53 rfl (fun c53 => absurd c53 (by decide)) (fun c53 => ?_)
          refine z_iconst (pc := 56) (0) (by decide) dX8_at_56 ?_
          refine z_goto (pc := 57) 78 dX8_at_57 rfl ?_
          rw [← hQx]
          refine z_iret (pc := 78) rfl (by decide) dX8_at_78 (by
      have hno : ¬ okAt n w ln (nI a) i0 q what := by
        first | exact (fun h => absurd h.1 c6) | exact (fun h => absurd h.2.1.1 (Int32.not_le.mpr c10)) | exact (fun h => absurd h.2.1.2 (by rw [iN_nI (by omega)]; exact Int32.not_lt.mpr c20)) | exact (fun h => absurd h.2.2.1 c28) | exact (fun h => absurd h.2.2.2 c38)
      exact ⟨_, rfl, by rw [zb_t hno]; exact hM, hF, (if_neg hno).symm⟩)
        · refine z_il4 (pc := 31) dX8_at_31 ?_
          refine z_iconst (pc := 33) (0) (by decide) dX8_at_33 ?_
          refine z_iconst (pc := 34) (1) (by decide) dX8_at_34 ?_
          refine z_callSr (pc := 35) (c_mIsIn l what 0 1) kw_836 zc_X8_isIn (by decide) (by decide) rfl (Nat.le_of_ble_eq_true rfl) dX8_at_35 ?_
          refine z_ifz_ne (pc := 38) 45 dX8_at_38 rfl (fun c38 => ?_) (fun c38 => ?_)
          · have hok : okAt n w ln (nI a) i0 q what := ⟨c6, ⟨Int32.not_lt.mp c10, by rw [iN_nI (by omega)]; exact Int32.not_le.mp c20⟩, c28, c38⟩
            obtain ⟨i, rfl, hi⟩ := ix_in (Int32.not_lt.mp c10) (Int32.not_le.mp c20) (by omega)
            refine z_iconst (pc := 45) (0) (by decide) dX8_at_45 ?_
            refine z_mp0 (pc := 46) hM rfl dX8_at_46 (fun G1 hM1 hF1 => ?_)
            have hF := zF.trans hF hF1
            clear hF1
            replace hM := hM1
            clear hM1
            refine z_al0 (pc := 49) dX8_at_49 ?_
            refine z_mg0 (pc := 50) hM rfl dX8_at_50 ?_
            rw [show sup sc 0 0 0 = 0 from rfl]
            refine z_if_le (pc := 53) 60 dX8_at_53 rfl (fun c53 => ?_) (fun c53 => absurd (by decide) c53)
            refine z_al0 (pc := 60) dX8_at_60 ?_
            refine z_il1 (pc := 61) dX8_at_61 ?_
            refine z_il2 (pc := 62) dX8_at_62 ?_
            refine z_il3 (pc := 63) dX8_at_63 ?_
            refine z_il4 (pc := 64) dX8_at_64 ?_
            refine z_iconst (pc := 66) (1) (by decide) dX8_at_66 ?_
            refine z_icmp_ne (pc := 67) 74 dX8_at_67 rfl (fun c67 => ?_) (fun c67 => ?_)
            · refine z_iconst (pc := 74) (0) (by decide) dX8_at_74 ?_
              refine z_callVr (pc := 75) (c_mKnown l a i c q false hM (by omega) (by omega) hJ.2.2.1 hJ.2.2.2.1) hM.1 rfl rfl kw_878 zc_X8_known (by decide) (by decide) rfl (Nat.le_of_ble_eq_true rfl) dX8_at_75 ?_
              rw [← hQx]
              refine z_iret (pc := 78) rfl (by decide) dX8_at_78 (⟨_, rfl, by rw [zb_f (fun h => h hok)]; exact hM, hF, by rw [if_pos hok, iN_nI (by omega), iN_nI (by omega)]; rw [show decide (what = 1) = false from decide_eq_false c67]⟩)
            · refine z_iconst (pc := 70) (1) (by decide) dX8_at_70 ?_
              refine z_goto (pc := 71) 75 dX8_at_71 rfl ?_
              refine z_callVr (pc := 75) (c_mKnown l a i c q true hM (by omega) (by omega) hJ.2.2.1 hJ.2.2.2.1) hM.1 rfl rfl kw_878 zc_X8_known (by decide) (by decide) rfl (Nat.le_of_ble_eq_true rfl) dX8_at_75 ?_
              rw [← hQx]
              refine z_iret (pc := 78) rfl (by decide) dX8_at_78 (⟨_, rfl, by rw [zb_f (fun h => h hok)]; exact hM, hF, by rw [if_pos hok, iN_nI (by omega), iN_nI (by omega)]; rw [show decide (what = 1) = true from decide_eq_true c67]⟩)
          · refine z_iconst (pc := 41) (1) (by decide) dX8_at_41 ?_
            refine z_goto (pc := 42) 46 dX8_at_42 rfl ?_
            refine z_mp0 (pc := 46) hM rfl dX8_at_46 (fun G1 hM1 hF1 => ?_)
            have hF := zF.trans hF hF1
            clear hF1
            replace hM := hM1
            clear hM1
            refine z_al0 (pc := 49) dX8_at_49 ?_
            refine z_mg0 (pc := 50) hM rfl dX8_at_50 ?_
            rw [show sup sc 0 1 0 = 1 from rfl]
            refine z_if_le (pc := 53) 60 dX8_at_53 rfl (fun c53 => absurd c53 (by decide)) (fun c53 => ?_)
            refine z_iconst (pc := 56) (0) (by decide) dX8_at_56 ?_
            refine z_goto (pc := 57) 78 dX8_at_57 rfl ?_
            rw [← hQx]
            refine z_iret (pc := 78) rfl (by decide) dX8_at_78 (by
      have hno : ¬ okAt n w ln (nI a) i0 q what := by
        first | exact (fun h => absurd h.1 c6) | exact (fun h => absurd h.2.1.1 (Int32.not_le.mpr c10)) | exact (fun h => absurd h.2.1.2 (by rw [iN_nI (by omega)]; exact Int32.not_lt.mpr c20)) | exact (fun h => absurd h.2.2.1 c28) | exact (fun h => absurd h.2.2.2 c38)
      exact ⟨_, rfl, by rw [zb_t hno]; exact hM, hF, (if_neg hno).symm⟩)
abbrev rX8_span : Room := rmK 2 0 0 43
set_option maxRecDepth 100000 in
set_option maxHeartbeats 400000 in
theorem c_mSpan (l : Launch) {κ : zK} {G : zH} {x : Nat} {ad : Nat → Nat} {sc : Nat → Int32} {ar : Nat → Nat → Int32} (n c d w : Nat) (ln : Nat → Nat) (v0 q g0 : Int32) (hM : RM κ G x ad sc ar) (hJ : MJ n c d w ln sc ar) : Ct l yX8_span cX8_span 6 (some FieldType.int) rX8_span κ [.ref x, .int v0, .int q, .int g0] G (qP (if (0 ≤ v0 ∧ v0 ≤ 9) ∧ 0 ≤ q ∧ q ≤ nI w then spanM ar v0 q g0 n else -1) κ G x ad sc ar) := by
  refine Ct.of (by decide +kernel) (fun v hv => by
    simp only [List.mem_cons, List.mem_nil_iff, or_false, List.not_mem_nil] at hv
    rcases hv with rfl | rfl | rfl | rfl <;> rfl) (Nat.le_of_ble_eq_true rfl) ?_
  intro p e s m args below meth cC
  refine z_L (L' := [some (.ref x), some (.int v0), some (.int q), some (.int g0), none, none]) rfl ?_
  generalize hQx : MQ below (zQc κ _) args s _ _ (zA κ) = Qx
  have hF : zF 1 G G := zF.rf
  refine z_al0 (pc := 0) dX8_span_0 ?_
  refine z_iconst (pc := 1) (0) (by decide) dX8_span_1 ?_
  refine z_mp0 (pc := 2) hM rfl dX8_span_2 (fun G1 hM1 hF1 => ?_)
  have hF := zF.trans hF hF1
  clear hF1
  replace hM := hM1
  clear hM1
  have e16 : sup sc 0 0 16 = nI n := hJ.1
  have e17 : sup sc 0 0 17 = nI c := hJ.2.2.1
  have e18 : sup sc 0 0 18 = nI d := hJ.2.2.2.2.1
  have e19 : sup sc 0 0 19 = nI w := hJ.2.2.2.2.2.2.1
  have hn20 := hJ.2.1
  have hc200 := hJ.2.2.2.1
  have hd60 := hJ.2.2.2.2.2.1
  have hw1000 := hJ.2.2.2.2.2.2.2.1
  refine z_il1 (pc := 5) dX8_span_5 ?_
  refine z_iconst (pc := 6) (0) (by decide) dX8_span_6 ?_
  refine z_bipush (pc := 7) (9) (by decide) dX8_span_7 ?_
  refine z_callSr (pc := 9) (c_mIsIn l v0 0 9) kw_836 zc_X8_isIn (by decide) (by decide) rfl (Nat.le_of_ble_eq_true rfl) dX8_span_9 ?_
  refine z_ifz_eq (pc := 12) 23 dX8_span_12 rfl (fun c12 => ?_) (fun c12 => ?_)
  · refine z_iconst (pc := 23) (-1) (by decide) dX8_span_23 ?_
    rw [← hQx]
    refine z_iret (pc := 24) rfl (by decide) dX8_span_24 (⟨_, rfl, (if_neg (fun h => c12 h.1)).symm, _, _, hM, hF, PS.sc0 0 0 (by omega)⟩)
  · refine z_al0 (pc := 15) dX8_span_15 ?_
    refine z_il2 (pc := 16) dX8_span_16 ?_
    refine z_callVr (pc := 17) (c_mIsDay l q hM) hM.1 rfl rfl kw_874 zc_X8_isDay (by decide) (by decide) rfl (Nat.le_of_ble_eq_true rfl) dX8_span_17 ?_
    rw [e19]
    refine z_ifz_ne (pc := 20) 25 dX8_span_20 rfl (fun c20 => ?_) (fun c20 => ?_)
    · have hok : (0 ≤ v0 ∧ v0 ≤ 9) ∧ 0 ≤ q ∧ q ≤ nI w := ⟨c12, c20⟩
      refine z_iconst (pc := 25) (-1) (by decide) dX8_span_25 ?_
      refine z_is4 (pc := 26) dX8_span_26 (by decide) ?_
      refine z_iconst (pc := 28) (0) (by decide) dX8_span_28 ?_
      refine z_is5 (pc := 29) dX8_span_29 (by decide) ?_
      have lp : ∀ (dd k : Nat), k + dd = n → Z p l e rX8_span s m args below meth cC yX8_span cX8_span 6 (some FieldType.int) κ Qx 0 0 G1 [some (.ref x), some (.int v0), some (.int q), some (.int g0), some (.int (spanM ar v0 q g0 k)), some (.int (nI k))] 31 [] := by
        intro dd
        induction dd with
        | zero =>
          intro k hkd
          refine z_il5 (pc := 31) dX8_span_31 ?_
          refine z_al0 (pc := 33) dX8_span_33 ?_
          refine z_mg16 (pc := 34) hM rfl dX8_span_34 ?_
          rw [e16]
          refine z_icmp_ge (pc := 37) 113 dX8_span_37 rfl (fun c37 => ?_) (fun c37 => absurd (by rw [show k = n by omega]; exact Int32.le_refl _) c37)
          rw [show k = n by omega]
          refine z_il4 (pc := 113) dX8_span_113 ?_
          rw [← hQx]
          refine z_iret (pc := 115) rfl (by decide) dX8_span_115 (⟨_, rfl, (if_pos hok).symm, _, _, hM, hF, PS.sc0 0 0 (by omega)⟩)
        | succ dd ih =>
          intro k hkd
          refine z_il5 (pc := 31) dX8_span_31 ?_
          refine z_al0 (pc := 33) dX8_span_33 ?_
          refine z_mg16 (pc := 34) hM rfl dX8_span_34 ?_
          rw [e16]
          refine z_icmp_ge (pc := 37) 113 dX8_span_37 rfl (fun c37 => absurd c37 (by rw [nI_leI (by omega) (by omega)]; omega)) (fun c37 => ?_)
          refine z_al0 (pc := 40) dX8_span_40 ?_
          refine z_mg3 (pc := 41) hM rfl dX8_span_41 ?_
          refine z_il5 (pc := 44) dX8_span_44 ?_
          refine z_mld (pc := 46) 3 20 hM rfl (by decide) rfl (by omega) dX8_span_46 ?_
          refine z_il1 (pc := 47) dX8_span_47 ?_
          refine z_icmp_ne (pc := 48) 107 dX8_span_48 rfl (fun c48 => ?_) (fun c48 => ?_)
          · refine z_ii5 (pc := 107) (nI (k + 1)) dX8_span_107 (nI_1 _) (by decide) ?_
            refine z_goto (pc := 110) 31 dX8_span_110 rfl ?_
            refine z_L (L' := [some (.ref x), some (.int v0), some (.int q), some (.int g0), some (.int (spanM ar v0 q g0 (k + 1))), some (.int (nI (k + 1)))]) (by rw [show spanM ar v0 q g0 (k + 1) = _ from if_neg (fun h => c48 h.1)]) ?_
            exact ih (k + 1) (by omega)
          · refine z_al0 (pc := 51) dX8_span_51 ?_
            refine z_il5 (pc := 52) dX8_span_52 ?_
            refine z_il2 (pc := 54) dX8_span_54 ?_
            refine z_callVr (pc := 55) (c_mIsForged l k q hM (by omega)) hM.1 rfl rfl kw_935 zc_X8_isForged (by decide) (by decide) rfl (Nat.le_of_ble_eq_true rfl) dX8_span_55 ?_
            refine z_ifz_ne (pc := 58) 107 dX8_span_58 rfl (fun c58 => ?_) (fun c58 => ?_)
            · refine z_ii5 (pc := 107) (nI (k + 1)) dX8_span_107 (nI_1 _) (by decide) ?_
              refine z_goto (pc := 110) 31 dX8_span_110 rfl ?_
              refine z_L (L' := [some (.ref x), some (.int v0), some (.int q), some (.int g0), some (.int (spanM ar v0 q g0 (k + 1))), some (.int (nI (k + 1)))]) (by rw [show spanM ar v0 q g0 (k + 1) = _ from if_neg (fun h => h.2.1 c58)]) ?_
              exact ih (k + 1) (by omega)
            · refine z_il4 (pc := 61) dX8_span_61 ?_
              refine z_iconst (pc := 63) (-1) (by decide) dX8_span_63 ?_
              refine z_icmp_eq (pc := 64) 98 dX8_span_64 rfl (fun c64 => ?_) (fun c64 => ?_)
              · refine z_al0 (pc := 98) dX8_span_98 ?_
                refine z_mg2 (pc := 99) hM rfl dX8_span_99 ?_
                refine z_il5 (pc := 102) dX8_span_102 ?_
                refine z_mld (pc := 104) 2 20 hM rfl (by decide) rfl (by omega) dX8_span_104 ?_
                refine z_is4 (pc := 105) dX8_span_105 (by decide) ?_
                refine z_ii5 (pc := 107) (nI (k + 1)) dX8_span_107 (nI_1 _) (by decide) ?_
                refine z_goto (pc := 110) 31 dX8_span_110 rfl ?_
                refine z_L (L' := [some (.ref x), some (.int v0), some (.int q), some (.int g0), some (.int (spanM ar v0 q g0 (k + 1))), some (.int (nI (k + 1)))]) (by rw [show spanM ar v0 q g0 (k + 1) = _ from if_pos ⟨c48, c58, Or.inl c64⟩]) ?_
                exact ih (k + 1) (by omega)
              · refine z_il3 (pc := 67) dX8_span_67 ?_
                refine z_if_eq (pc := 68) 86 dX8_span_68 rfl (fun c68 => ?_) (fun c68 => ?_)
                · refine z_al0 (pc := 86) dX8_span_86 ?_
                  refine z_mg2 (pc := 87) hM rfl dX8_span_87 ?_
                  refine z_il5 (pc := 90) dX8_span_90 ?_
                  refine z_mld (pc := 92) 2 20 hM rfl (by decide) rfl (by omega) dX8_span_92 ?_
                  refine z_il4 (pc := 93) dX8_span_93 ?_
                  refine z_icmp_ge (pc := 95) 107 dX8_span_95 rfl (fun c95 => ?_) (fun c95 => ?_)
                  · refine z_ii5 (pc := 107) (nI (k + 1)) dX8_span_107 (nI_1 _) (by decide) ?_
                    refine z_goto (pc := 110) 31 dX8_span_110 rfl ?_
                    refine z_L (L' := [some (.ref x), some (.int v0), some (.int q), some (.int g0), some (.int (spanM ar v0 q g0 (k + 1))), some (.int (nI (k + 1)))]) (by rw [show spanM ar v0 q g0 (k + 1) = _ from if_neg (fun h => h.2.2.elim c64 (fun h => by rw [if_pos c68] at h; exact absurd h (Int32.not_lt.mpr c95)))]) ?_
                    exact ih (k + 1) (by omega)
                  · refine z_al0 (pc := 98) dX8_span_98 ?_
                    refine z_mg2 (pc := 99) hM rfl dX8_span_99 ?_
                    refine z_il5 (pc := 102) dX8_span_102 ?_
                    refine z_mld (pc := 104) 2 20 hM rfl (by decide) rfl (by omega) dX8_span_104 ?_
                    refine z_is4 (pc := 105) dX8_span_105 (by decide) ?_
                    refine z_ii5 (pc := 107) (nI (k + 1)) dX8_span_107 (nI_1 _) (by decide) ?_
                    refine z_goto (pc := 110) 31 dX8_span_110 rfl ?_
                    refine z_L (L' := [some (.ref x), some (.int v0), some (.int q), some (.int g0), some (.int (spanM ar v0 q g0 (k + 1))), some (.int (nI (k + 1)))]) (by rw [show spanM ar v0 q g0 (k + 1) = _ from if_pos ⟨c48, c58, Or.inr (by rw [if_pos c68]; exact Int32.not_le.mp c95)⟩]) ?_
                    exact ih (k + 1) (by omega)
                · refine z_al0 (pc := 71) dX8_span_71 ?_
                  refine z_mg2 (pc := 72) hM rfl dX8_span_72 ?_
                  refine z_il5 (pc := 75) dX8_span_75 ?_
                  refine z_mld (pc := 77) 2 20 hM rfl (by decide) rfl (by omega) dX8_span_77 ?_
                  refine z_il4 (pc := 78) dX8_span_78 ?_
                  refine z_icmp_le (pc := 80) 107 dX8_span_80 rfl (fun c80 => ?_) (fun c80 => ?_)
                  · refine z_ii5 (pc := 107) (nI (k + 1)) dX8_span_107 (nI_1 _) (by decide) ?_
                    refine z_goto (pc := 110) 31 dX8_span_110 rfl ?_
                    refine z_L (L' := [some (.ref x), some (.int v0), some (.int q), some (.int g0), some (.int (spanM ar v0 q g0 (k + 1))), some (.int (nI (k + 1)))]) (by rw [show spanM ar v0 q g0 (k + 1) = _ from if_neg (fun h => h.2.2.elim c64 (fun h => by rw [if_neg c68] at h; exact absurd h (Int32.not_lt.mpr c80)))]) ?_
                    exact ih (k + 1) (by omega)
                  · refine z_goto (pc := 83) 98 dX8_span_83 rfl ?_
                    refine z_al0 (pc := 98) dX8_span_98 ?_
                    refine z_mg2 (pc := 99) hM rfl dX8_span_99 ?_
                    refine z_il5 (pc := 102) dX8_span_102 ?_
                    refine z_mld (pc := 104) 2 20 hM rfl (by decide) rfl (by omega) dX8_span_104 ?_
                    refine z_is4 (pc := 105) dX8_span_105 (by decide) ?_
                    refine z_ii5 (pc := 107) (nI (k + 1)) dX8_span_107 (nI_1 _) (by decide) ?_
                    refine z_goto (pc := 110) 31 dX8_span_110 rfl ?_
                    refine z_L (L' := [some (.ref x), some (.int v0), some (.int q), some (.int g0), some (.int (spanM ar v0 q g0 (k + 1))), some (.int (nI (k + 1)))]) (by rw [show spanM ar v0 q g0 (k + 1) = _ from if_pos ⟨c48, c58, Or.inr (by rw [if_neg c68]; exact Int32.not_le.mp c80)⟩]) ?_
                    exact ih (k + 1) (by omega)
      exact lp n 0 (by omega)
    · refine z_iconst (pc := 23) (-1) (by decide) dX8_span_23 ?_
      rw [← hQx]
      refine z_iret (pc := 24) rfl (by decide) dX8_span_24 (⟨_, rfl, (if_neg (fun h => c20 h.2)).symm, _, _, hM, hF, PS.sc0 0 0 (by omega)⟩)
abbrev rX8_count : Room := rmK 0 0 0 0
set_option maxRecDepth 100000 in
set_option maxHeartbeats 400000 in
theorem c_mCount (l : Launch) {κ : zK} {G : zH} {x : Nat} {ad : Nat → Nat} {sc : Nat → Int32} {ar : Nat → Nat → Int32} (n c d w : Nat) (ln : Nat → Nat) (what : Int32) (hM : RM κ G x ad sc ar) (hJ : MJ n c d w ln sc ar) : Ct l yX8_count cX8_count 4 (some FieldType.int) rX8_count κ [.ref x, .int what] G (qP (cntR n c d w ar what) κ G x ad sc ar) := by
  refine Ct.of (by decide +kernel) (fun v hv => by
    simp only [List.mem_cons, List.mem_nil_iff, or_false, List.not_mem_nil] at hv
    rcases hv with rfl | rfl <;> rfl) (Nat.le_of_ble_eq_true rfl) ?_
  intro p e s m args below meth cC
  refine z_L (L' := [some (.ref x), some (.int what), none, none]) rfl ?_
  generalize hQx : MQ below (zQc κ _) args s _ _ (zA κ) = Qx
  have hF : zF 1 G G := zF.rf
  refine z_al0 (pc := 0) dX8_count_0 ?_
  refine z_iconst (pc := 1) (0) (by decide) dX8_count_1 ?_
  refine z_mp0 (pc := 2) hM rfl dX8_count_2 (fun G1 hM1 hF1 => ?_)
  have hF := zF.trans hF hF1
  clear hF1
  replace hM := hM1
  clear hM1
  have e16 : sup sc 0 0 16 = nI n := hJ.1
  have e17 : sup sc 0 0 17 = nI c := hJ.2.2.1
  have e18 : sup sc 0 0 18 = nI d := hJ.2.2.2.2.1
  have e19 : sup sc 0 0 19 = nI w := hJ.2.2.2.2.2.2.1
  have hn20 := hJ.2.1
  have hc200 := hJ.2.2.2.1
  have hd60 := hJ.2.2.2.2.2.1
  have hw1000 := hJ.2.2.2.2.2.2.2.1
  refine z_iconst (pc := 5) (0) (by decide) dX8_count_5 ?_
  refine z_is2 (pc := 6) dX8_count_6 (by decide) ?_
  refine z_il1 (pc := 7) dX8_count_7 ?_
  rcases w6 what with h | h | h | h | h | h | ⟨h, h0, h1, h2, h3, h4, h5⟩
  · subst h
    refine z_tableIn (pc := 8) 48 dX8_count_8 (by decide) (by decide) rfl rfl ?_
    refine z_al0 (pc := 48) dX8_count_48 ?_
    refine z_mg19 (pc := 49) hM rfl dX8_count_49 ?_
    rw [← hQx]
    refine z_iret (pc := 52) rfl (by decide) dX8_count_52 (⟨_, rfl, by exact e19, _, _, hM, hF, PS.sc0 0 0 (by omega)⟩)
  · subst h
    refine z_tableIn (pc := 8) 53 dX8_count_8 (by decide) (by decide) rfl rfl ?_
    refine z_al0 (pc := 53) dX8_count_53 ?_
    refine z_mg16 (pc := 54) hM rfl dX8_count_54 ?_
    rw [← hQx]
    refine z_iret (pc := 57) rfl (by decide) dX8_count_57 (⟨_, rfl, by exact e16, _, _, hM, hF, PS.sc0 0 0 (by omega)⟩)
  · subst h
    refine z_tableIn (pc := 8) 58 dX8_count_8 (by decide) (by decide) rfl rfl ?_
    refine z_iconst (pc := 58) (0) (by decide) dX8_count_58 ?_
    refine z_is3 (pc := 59) dX8_count_59 (by decide) ?_
    have lp : ∀ (dd k : Nat), k + dd = n → Z p l e rX8_count s m args below meth cC yX8_count cX8_count 4 (some FieldType.int) κ Qx 0 0 G1 [some (.ref x), some (.int 2), some (.int (cntF ar k)), some (.int (nI k))] 60 [] := by
      intro dd
      induction dd with
      | zero =>
        intro k hkd
        refine z_il3 (pc := 60) dX8_count_60 ?_
        refine z_al0 (pc := 61) dX8_count_61 ?_
        refine z_mg16 (pc := 62) hM rfl dX8_count_62 ?_
        rw [e16]
        refine z_icmp_ge (pc := 65) 92 dX8_count_65 rfl (fun c65 => ?_) (fun c65 => absurd (by rw [show k = n by omega]; exact Int32.le_refl _) c65)
        rw [show k = n by omega]
        refine z_il2 (pc := 92) dX8_count_92 ?_
        rw [← hQx]
        refine z_iret (pc := 93) rfl (by decide) dX8_count_93 (⟨_, rfl, by rfl, _, _, hM, hF, PS.sc0 0 0 (by omega)⟩)
      | succ dd ih =>
        intro k hkd
        refine z_il3 (pc := 60) dX8_count_60 ?_
        refine z_al0 (pc := 61) dX8_count_61 ?_
        refine z_mg16 (pc := 62) hM rfl dX8_count_62 ?_
        rw [e16]
        refine z_icmp_ge (pc := 65) 92 dX8_count_65 rfl (fun c65 => absurd c65 (by rw [nI_leI (by omega) (by omega)]; omega)) (fun c65 => ?_)
        refine z_il2 (pc := 68) dX8_count_68 ?_
        refine z_al0 (pc := 69) dX8_count_69 ?_
        refine z_mg5 (pc := 70) hM rfl dX8_count_70 ?_
        refine z_il3 (pc := 73) dX8_count_73 ?_
        refine z_mld (pc := 74) 5 20 hM rfl (by decide) rfl (by omega) dX8_count_74 ?_
        refine z_iconst (pc := 75) (-1) (by decide) dX8_count_75 ?_
        refine z_icmp_eq (pc := 76) 83 dX8_count_76 rfl (fun c76 => ?_) (fun c76 => ?_)
        · refine z_iconst (pc := 83) (0) (by decide) dX8_count_83 ?_
          refine z_iadd (pc := 84) dX8_count_84 ?_
          refine z_is2 (pc := 85) dX8_count_85 (by decide) ?_
          refine z_ii3 (pc := 86) (nI (k + 1)) dX8_count_86 (nI_1 _) (by decide) ?_
          refine z_goto (pc := 89) 60 dX8_count_89 rfl ?_
          refine z_L (L' := [some (.ref x), some (.int 2), some (.int (cntF ar (k + 1))), some (.int (nI (k + 1)))]) (by rw [show cntF ar (k + 1) = cntF ar k + zb (ar 5 k ≠ -1) from rfl, zb_f (fun h => h c76)]) ?_
          exact ih (k + 1) (by omega)
        · refine z_iconst (pc := 79) (1) (by decide) dX8_count_79 ?_
          refine z_goto (pc := 80) 84 dX8_count_80 rfl ?_
          refine z_iadd (pc := 84) dX8_count_84 ?_
          refine z_is2 (pc := 85) dX8_count_85 (by decide) ?_
          refine z_ii3 (pc := 86) (nI (k + 1)) dX8_count_86 (nI_1 _) (by decide) ?_
          refine z_goto (pc := 89) 60 dX8_count_89 rfl ?_
          refine z_L (L' := [some (.ref x), some (.int 2), some (.int (cntF ar (k + 1))), some (.int (nI (k + 1)))]) (by rw [show cntF ar (k + 1) = cntF ar k + zb (ar 5 k ≠ -1) from rfl, zb_t c76]) ?_
          exact ih (k + 1) (by omega)
    exact lp n 0 (by omega)
  · subst h
    refine z_tableIn (pc := 8) 94 dX8_count_8 (by decide) (by decide) rfl rfl ?_
    refine z_iconst (pc := 94) (0) (by decide) dX8_count_94 ?_
    refine z_is3 (pc := 95) dX8_count_95 (by decide) ?_
    have lp : ∀ (dd k : Nat), k + dd = n → Z p l e rX8_count s m args below meth cC yX8_count cX8_count 4 (some FieldType.int) κ Qx 0 0 G1 [some (.ref x), some (.int 3), some (.int (lenS ar k)), some (.int (nI k))] 96 [] := by
      intro dd
      induction dd with
      | zero =>
        intro k hkd
        refine z_il3 (pc := 96) dX8_count_96 ?_
        refine z_al0 (pc := 97) dX8_count_97 ?_
        refine z_mg16 (pc := 98) hM rfl dX8_count_98 ?_
        rw [e16]
        refine z_icmp_ge (pc := 101) 119 dX8_count_101 rfl (fun c101 => ?_) (fun c101 => absurd (by rw [show k = n by omega]; exact Int32.le_refl _) c101)
        rw [show k = n by omega]
        refine z_il2 (pc := 119) dX8_count_119 ?_
        rw [← hQx]
        refine z_iret (pc := 120) rfl (by decide) dX8_count_120 (⟨_, rfl, by rfl, _, _, hM, hF, PS.sc0 0 0 (by omega)⟩)
      | succ dd ih =>
        intro k hkd
        refine z_il3 (pc := 96) dX8_count_96 ?_
        refine z_al0 (pc := 97) dX8_count_97 ?_
        refine z_mg16 (pc := 98) hM rfl dX8_count_98 ?_
        rw [e16]
        refine z_icmp_ge (pc := 101) 119 dX8_count_101 rfl (fun c101 => absurd c101 (by rw [nI_leI (by omega) (by omega)]; omega)) (fun c101 => ?_)
        refine z_il2 (pc := 104) dX8_count_104 ?_
        refine z_al0 (pc := 105) dX8_count_105 ?_
        refine z_mg4 (pc := 106) hM rfl dX8_count_106 ?_
        refine z_il3 (pc := 109) dX8_count_109 ?_
        refine z_mld (pc := 110) 4 20 hM rfl (by decide) rfl (by omega) dX8_count_110 ?_
        refine z_iadd (pc := 111) dX8_count_111 ?_
        refine z_is2 (pc := 112) dX8_count_112 (by decide) ?_
        refine z_ii3 (pc := 113) (nI (k + 1)) dX8_count_113 (nI_1 _) (by decide) ?_
        refine z_goto (pc := 116) 96 dX8_count_116 rfl ?_
        exact ih (k + 1) (by omega)
    exact lp n 0 (by omega)
  · subst h
    refine z_tableIn (pc := 8) 121 dX8_count_8 (by decide) (by decide) rfl rfl ?_
    refine z_al0 (pc := 121) dX8_count_121 ?_
    refine z_mg17 (pc := 122) hM rfl dX8_count_122 ?_
    rw [← hQx]
    refine z_iret (pc := 125) rfl (by decide) dX8_count_125 (⟨_, rfl, by exact e17, _, _, hM, hF, PS.sc0 0 0 (by omega)⟩)
  · subst h
    refine z_tableIn (pc := 8) 126 dX8_count_8 (by decide) (by decide) rfl rfl ?_
    refine z_al0 (pc := 126) dX8_count_126 ?_
    refine z_mg18 (pc := 127) hM rfl dX8_count_127 ?_
    rw [← hQx]
    refine z_iret (pc := 130) rfl (by decide) dX8_count_130 (⟨_, rfl, by exact e18, _, _, hM, hF, PS.sc0 0 0 (by omega)⟩)
  · refine z_tableOut (pc := 8) 131 dX8_count_8 h rfl ?_
    refine z_iconst (pc := 131) (-1) (by decide) dX8_count_131 ?_
    rw [← hQx]
    refine z_iret (pc := 132) rfl (by decide) dX8_count_132 (⟨_, rfl, by unfold cntR; rw [if_neg h0, if_neg h1, if_neg h2, if_neg h3, if_neg h4, if_neg h5], _, _, hM, hF, PS.sc0 0 0 (by omega)⟩)
end
section
/-! families: links, and what they join -/
abbrev Lk (ar : Nat → Nat → Int32) (c : Nat) (ln : Nat → Nat) (q bar : Int32) (a b : Nat) : Prop := ¬ frg ar a q ∧ ¬ frg ar b q ∧ sD ar c ln q a b ≤ bar
def Rch (n : Nat) (L : Nat → Nat → Prop) (a b : Nat) : Prop := ∀ P : Nat → Prop, P a → (∀ x y, x < n → y < n → P x → (L x y ∨ L y x) → P y) → P b
theorem Rch.rf {n : Nat} {L : Nat → Nat → Prop} {a : Nat} : Rch n L a a := fun _ h _ => h
theorem Rch.step {n : Nat} {L : Nat → Nat → Prop} {a x y : Nat} (h : Rch n L a x) (hx : x < n) (hy : y < n) (hl : L x y ∨ L y x) : Rch n L a y := fun P h0 hs => hs x y hx hy (h P h0 hs) hl
theorem Rch.trans {n : Nat} {L : Nat → Nat → Prop} {a b e : Nat} (h : Rch n L a b) (g : Rch n L b e) : Rch n L a e := fun P h0 hs => g P (h P h0 hs) hs
abbrev okFam (n w : Nat) (ar : Nat → Nat → Int32) (s0 bar q : Int32) : Prop := okS n s0 ∧ (0 ≤ bar ∧ bar ≤ 10000) ∧ (0 ≤ q ∧ q ≤ nI w) ∧ ¬ frg ar (iN s0) q
def FL (n : Nat) (ar : Nat → Nat → Int32) (c : Nat) (ln : Nat → Nat) (q bar : Int32) (lab : Nat → Nat) : Prop :=
  (∀ k, k < n → ¬ frg ar k q → lab k ≤ k ∧ Rch n (Lk ar c ln q bar) k (lab k)) ∧ ∀ s t, t < s → s < n → Lk ar c ln q bar s t → lab s = lab t
def smN (f : Nat → Nat) : Nat → Nat
  | 0 => 0
  | k + 1 => smN f k + f k
theorem smN_le {f g : Nat → Nat} : ∀ {n : Nat}, (∀ k, k < n → f k ≤ g k) → smN f n ≤ smN g n
  | 0, _ => Nat.le_refl _
  | n + 1, h => Nat.add_le_add (smN_le (fun k hk => h k (by omega))) (h n (by omega))
theorem smN_lt {f g : Nat → Nat} : ∀ {n i : Nat}, (∀ k, k < n → f k ≤ g k) → i < n → f i < g i → smN f n < smN g n
  | 0, _, _, h, _ => absurd h (Nat.not_lt_zero _)
  | n + 1, i, h, hi, hl => by
    show smN f n + f n < smN g n + g n
    have h1 := h n (by omega)
    by_cases e : i = n
    · subst e
      have := smN_le (f := f) (g := g) (n := i) (fun k hk => h k (by omega))
      omega
    · have := smN_lt (f := f) (g := g) (n := n) (i := i) (fun k hk => h k (by omega)) (by omega) hl
      omega
theorem zF.fresh {m : Nat} {G G1 : zH} {la : Nat} {y : zR × va_E} (h : zF m G G1) (hl : G la = none) : zF m G (zu G1 la y) := ⟨fun a r e hr ha => by
  rw [zu_n (fun q => by rw [q, hl] at ha; cases ha)]
  exact h.1 a r e hr ha, fun a ha => h.2 a (zu_no ha)⟩
/-- a label as it lies in the array -/
def lb (ar : Nat → Nat → Int32) (q : Int32) (lab : Nat → Nat) (k : Nat) : Int32 := if frg ar k q then -1 else nI (lab k)
theorem lb_n {ar : Nat → Nat → Int32} {q : Int32} {lab : Nat → Nat} {k : Nat} (h : ¬ frg ar k q) : lb ar q lab k = nI (lab k) := if_neg h
def upN (f : Nat → Nat) (i v : Nat) : Nat → Nat := fun k => if k = i then v else f k
def PM (n : Nat) (ar : Nat → Nat → Int32) (c : Nat) (ln : Nat → Nat) (q bar : Int32) (lab lab0 : Nat → Nat) (i t : Nat) (mv : Int32) : Prop :=
  (∀ k, k < n → ¬ frg ar k q → lab k ≤ k ∧ Rch n (Lk ar c ln q bar) k (lab k)) ∧
  ((mv = 0 ∧ lab = lab0 ∧ ∀ i2 t2, t2 < i2 → (i2 < i ∨ (i2 = i ∧ t2 < t)) → Lk ar c ln q bar i2 t2 → lab i2 = lab t2) ∨ (mv = 1 ∧ smN lab n < smN lab0 n))
theorem PM.skip {n : Nat} {ar : Nat → Nat → Int32} {c : Nat} {ln : Nat → Nat} {q bar mv : Int32} {lab lab0 : Nat → Nat} {i t : Nat} (h : PM n ar c ln q bar lab lab0 i t mv) (hs : Lk ar c ln q bar i t → lab i = lab t) : PM n ar c ln q bar lab lab0 i (t + 1) mv := by
  refine ⟨h.1, h.2.elim (fun g => Or.inl ⟨g.1, g.2.1, fun i2 t2 h1 h2 hl => ?_⟩) Or.inr⟩
  by_cases e : i2 = i ∧ t2 = t
  · obtain ⟨rfl, rfl⟩ := e
    exact hs hl
  · exact g.2.2 i2 t2 h1 (by omega) hl
theorem PM.row {n : Nat} {ar : Nat → Nat → Int32} {c : Nat} {ln : Nat → Nat} {q bar mv : Int32} {lab lab0 : Nat → Nat} {i : Nat} (h : PM n ar c ln q bar lab lab0 i i mv) : PM n ar c ln q bar lab lab0 (i + 1) 0 mv :=
  ⟨h.1, h.2.elim (fun g => Or.inl ⟨g.1, g.2.1, fun i2 t2 h1 h2 hl => g.2.2 i2 t2 h1 (by omega) hl⟩) Or.inr⟩
theorem PM.join {n : Nat} {ar : Nat → Nat → Int32} {c : Nat} {ln : Nat → Nat} {q bar mv : Int32} {lab lab0 : Nat → Nat} {i t : Nat} (h : PM n ar c ln q bar lab lab0 i t mv) (hi : i < n) (ht : t < i) (hl : Lk ar c ln q bar i t) (hne : lab i ≠ lab t) : PM n ar c ln q bar (upN (upN lab i (min (lab i) (lab t))) t (min (lab i) (lab t))) lab0 i (t + 1) 1 := by
  have h1 := h.1 i hi hl.1
  have h2 := h.1 t (by omega) hl.2.1
  have hm : Rch n (Lk ar c ln q bar) i (min (lab i) (lab t)) := by
    rcases Nat.le_total (lab i) (lab t) with e | e
    · rw [Nat.min_eq_left e]; exact h1.2
    · rw [Nat.min_eq_right e]; exact (Rch.rf.step hi (by omega) (Or.inl hl)).trans h2.2
  have hm2 : Rch n (Lk ar c ln q bar) t (min (lab i) (lab t)) := (Rch.rf.step (by omega) hi (Or.inr hl)).trans hm
  have hle : ∀ k, k < n → upN (upN lab i (min (lab i) (lab t))) t (min (lab i) (lab t)) k ≤ lab k := by
    intro k _
    unfold upN
    split
    · rename_i e; subst e; omega
    · split
      · rename_i e; subst e; omega
      · exact Nat.le_refl _
  refine ⟨fun k hk hf => ?_, Or.inr ⟨rfl, ?_⟩⟩
  · have := h.1 k hk hf
    unfold upN
    split
    · rename_i e; subst e; exact ⟨by omega, hm2⟩
    · split
      · rename_i e; subst e; exact ⟨by omega, hm⟩
      · exact this
  · have hlt : smN (upN (upN lab i (min (lab i) (lab t))) t (min (lab i) (lab t))) n < smN lab n := by
      by_cases e : lab i < lab t
      · refine smN_lt hle (i := t) (by omega) ?_
        unfold upN; rw [if_pos rfl]; omega
      · refine smN_lt hle (i := i) hi ?_
        unfold upN; rw [if_neg (by omega), if_pos rfl]; omega
    rcases h.2 with g | g
    · rw [← g.2.1]; exact hlt
    · omega
abbrev rX8_families : Room := rmK 4 1 400 94
set_option maxRecDepth 100000 in
set_option maxHeartbeats 400000 in
theorem c_mFamilies (l : Launch) {κ : zK} {G : zH} {x : Nat} {ad : Nat → Nat} {sc : Nat → Int32} {ar : Nat → Nat → Int32} (n c d w : Nat) (ln : Nat → Nat) (s0 bar q : Int32) (hM : RM κ G x ad sc ar) (hJ : MJ n c d w ln sc ar) : Ct l yX8_families cX8_families 9 (some FieldType.boolean) rX8_families κ [.ref x, .int s0, .int bar, .int q] G (pI (fun r G2 => ∃ sc2 ar2, RM κ G2 x ad sc2 ar2 ∧ zF 1 G G2 ∧ PS sc ar sc2 ar2 ∧ ((¬ okFam n w ar s0 bar q ∧ r = 0) ∨ (okFam n w ar s0 bar q ∧ r = 1 ∧ ∃ lab, (∀ k, k < n → ar2 33 k = lb ar q lab k) ∧ FL n ar c ln q bar lab)))) := by
  refine Ct.of (by decide +kernel) (fun v hv => by
    simp only [List.mem_cons, List.mem_nil_iff, or_false, List.not_mem_nil] at hv
    rcases hv with rfl | rfl | rfl | rfl <;> rfl) (Nat.le_of_ble_eq_true rfl) ?_
  intro p e s m args below meth cC
  refine z_L (L' := [some (.ref x), some (.int s0), some (.int bar), some (.int q), none, none, none, none, none]) rfl ?_
  generalize hQx : MQ below (zQc κ _) args s _ _ (zA κ) = Qx
  have hF : zF 1 G G := zF.rf
  refine z_al0 (pc := 0) dX8_families_0 ?_
  refine z_iconst (pc := 1) (0) (by decide) dX8_families_1 ?_
  refine z_mp0 (pc := 2) hM rfl dX8_families_2 (fun G1 hM1 hF1 => ?_)
  have hF := zF.trans hF hF1
  clear hF1
  replace hM := hM1
  clear hM1
  have e16 : sup sc 0 0 16 = nI n := hJ.1
  have e19 : sup sc 0 0 19 = nI w := hJ.2.2.2.2.2.2.1
  have hn20 := hJ.2.1
  refine z_al0 (pc := 5) dX8_families_5 ?_
  refine z_il1 (pc := 6) dX8_families_6 ?_
  refine z_callVr (pc := 7) (c_mIsSheet l s0 hM) hM.1 rfl rfl kw_843 zc_X8_isSheet (by decide) (by decide) rfl (Nat.le_of_ble_eq_true rfl) dX8_families_7 ?_
  rw [e16]
  refine z_ifz_eq (pc := 10) 41 dX8_families_10 rfl (fun c10 => ?_) (fun c10 => ?_)
  · refine z_iconst (pc := 41) (0) (by decide) dX8_families_41 ?_
    rw [← hQx]
    refine z_zret (pc := 42) rfl rfl (by decide) dX8_families_42 (by
      refine ⟨_, rfl, _, _, hM, hF, PS.sc0 0 0 (by omega), Or.inl ⟨?_, rfl⟩⟩
      first | exact (fun h => absurd h.1 c10) | exact (fun h => absurd h.2.1 c21) | exact (fun h => absurd h.2.2.1 c29) | exact (fun h => h.2.2.2 (by rw [iN_nI (by omega)]; exact c38)))
  · refine z_il2 (pc := 13) dX8_families_13 ?_
    refine z_iconst (pc := 14) (0) (by decide) dX8_families_14 ?_
    refine z_sipush (pc := 15) (10000) (by decide) dX8_families_15 ?_
    refine z_callSr (pc := 18) (c_mIsIn l bar 0 10000) kw_836 zc_X8_isIn (by decide) (by decide) rfl (Nat.le_of_ble_eq_true rfl) dX8_families_18 ?_
    refine z_ifz_eq (pc := 21) 41 dX8_families_21 rfl (fun c21 => ?_) (fun c21 => ?_)
    · refine z_iconst (pc := 41) (0) (by decide) dX8_families_41 ?_
      rw [← hQx]
      refine z_zret (pc := 42) rfl rfl (by decide) dX8_families_42 (by
      refine ⟨_, rfl, _, _, hM, hF, PS.sc0 0 0 (by omega), Or.inl ⟨?_, rfl⟩⟩
      first | exact (fun h => absurd h.1 c10) | exact (fun h => absurd h.2.1 c21) | exact (fun h => absurd h.2.2.1 c29) | exact (fun h => h.2.2.2 (by rw [iN_nI (by omega)]; exact c38)))
    · refine z_al0 (pc := 24) dX8_families_24 ?_
      refine z_il3 (pc := 25) dX8_families_25 ?_
      refine z_callVr (pc := 26) (c_mIsDay l q hM) hM.1 rfl rfl kw_874 zc_X8_isDay (by decide) (by decide) rfl (Nat.le_of_ble_eq_true rfl) dX8_families_26 ?_
      rw [e19]
      refine z_ifz_eq (pc := 29) 41 dX8_families_29 rfl (fun c29 => ?_) (fun c29 => ?_)
      · refine z_iconst (pc := 41) (0) (by decide) dX8_families_41 ?_
        rw [← hQx]
        refine z_zret (pc := 42) rfl rfl (by decide) dX8_families_42 (by
      refine ⟨_, rfl, _, _, hM, hF, PS.sc0 0 0 (by omega), Or.inl ⟨?_, rfl⟩⟩
      first | exact (fun h => absurd h.1 c10) | exact (fun h => absurd h.2.1 c21) | exact (fun h => absurd h.2.2.1 c29) | exact (fun h => h.2.2.2 (by rw [iN_nI (by omega)]; exact c38)))
      · obtain ⟨ha0, ha1⟩ := id c10
        obtain ⟨a, rfl, ha⟩ := ix_in ha0 ha1 (by omega)
        refine z_al0 (pc := 32) dX8_families_32 ?_
        refine z_il1 (pc := 33) dX8_families_33 ?_
        refine z_il3 (pc := 34) dX8_families_34 ?_
        refine z_callVr (pc := 35) (c_mIsForged l a q hM (by omega)) hM.1 rfl rfl kw_935 zc_X8_isForged (by decide) (by decide) rfl (Nat.le_of_ble_eq_true rfl) dX8_families_35 ?_
        refine z_ifz_eq (pc := 38) 43 dX8_families_38 rfl (fun c38 => ?_) (fun c38 => ?_)
        · have hok : okFam n w ar (nI a) bar q := ⟨c10, c21, c29, by rw [iN_nI (by omega)]; exact c38⟩
          generalize nI a = s0 at hok hQx ⊢
          refine z_sipush (pc := 43) (400) (by decide) dX8_families_43 ?_
          refine z_newa (pc := 46) (atype := .boolean) (ty := .boolean) (3, 0, 0) 400 (400, .inl (fun _ => 0)) 1 kw_91 rfl rfl (fun C h => by cases h) (fun _ => rfl) rfl (by decide) (by decide) dX8_families_46 (fun la hla1 hla2 => ?_)
          have hla0 : G la = none := hF.2 la hla1
          have hM1 := hM.keep (zF.push (n := 0) (x := ((3, 0, 0), .inl (κ.2.1 1, 400, .inl (fun _ => (0 : Int32))))) hla1) (by decide)
          have hF1 := hF.fresh (la := la) (y := ((3, 0, 0), .inl (κ.2.1 1, 400, .inl (fun _ => (0 : Int32))))) hla0
          have hLk : zu _ la ((3, 0, 0), .inl (κ.2.1 1, 400, .inl (fun _ => (0 : Int32)))) la = _ := zu_s (G := G1)
          generalize zu _ la ((3, 0, 0), .inl (κ.2.1 1, 400, .inl (fun _ => (0 : Int32)))) = G2 at hM1 hF1 hLk ⊢
          replace hM := hM1
          clear hM1
          have hF := hF1
          clear hF1
          refine z_as4 (pc := 48) dX8_families_48 (by decide) ?_
          refine z_iconst (pc := 50) (0) (by decide) dX8_families_50 ?_
          refine z_is5 (pc := 51) dX8_families_51 (by decide) ?_
          have inner1 : ∀ (i : Nat), i < n → ∀ (w7 w8 : Option Value), (∀ (G1 : zH) (sc1 : Nat → Int32) (ar1 : Nat → Nat → Int32) (f : Nat → Int32), RM κ G1 x ad sc1 ar1 → zF 1 G G1 → PS sc ar sc1 ar1 → G1 la = some ((3, 0, 0), .inl (κ.2.1 1, 400, .inl f)) → (∀ k, k < i + 1 → ar1 33 k = lb ar q (fun k => k) k) → (∀ i2 t2, t2 < i2 → i2 < 20 → i2 < i + 1 → f (20 * i2 + t2) = zb (Lk ar c ln q bar i2 t2)) → Z p l e rX8_families s m args below meth cC yX8_families cX8_families 9 (some FieldType.boolean) κ Qx (0 + 1) (0 + 400) G1 [some (.ref x), some (.int s0), some (.int bar), some (.int q), some (.ref la), some (.int (nI i)), some (.int (nI i)), w7, w8] 150 []) → ∀ (dd t : Nat) (G1 : zH) (sc1 : Nat → Int32) (ar1 : Nat → Nat → Int32) (f : Nat → Int32), t + dd = i → RM κ G1 x ad sc1 ar1 → zF 1 G G1 → PS sc ar sc1 ar1 → G1 la = some ((3, 0, 0), .inl (κ.2.1 1, 400, .inl f)) → (∀ k, k < i + 1 → ar1 33 k = lb ar q (fun k => k) k) → (∀ i2 t2, t2 < i2 → i2 < 20 → (i2 < i ∨ (i2 = i ∧ t2 < t)) → f (20 * i2 + t2) = zb (Lk ar c ln q bar i2 t2)) → Z p l e rX8_families s m args below meth cC yX8_families cX8_families 9 (some FieldType.boolean) κ Qx (0 + 1) (0 + 400) G1 [some (.ref x), some (.int s0), some (.int bar), some (.int q), some (.ref la), some (.int (nI i)), some (.int (nI t)), w7, w8] 88 [] := by
            intro i hin w7 w8 hk dd
            induction dd with
            | zero =>
              intro t G1 sc1 ar1 f htd hM hF hPS hLk h33 hf
              refine z_il6 (pc := 88) dX8_families_88 ?_
              refine z_il5 (pc := 90) dX8_families_90 ?_
              refine z_icmp_ge (pc := 92) 150 dX8_families_92 rfl (fun c92 => ?_) (fun c92 => absurd (by rw [show t = i by omega]; exact Int32.le_refl _) c92)
              rw [show t = i by omega] at hf ⊢
              exact hk _ _ _ _ hM hF hPS hLk h33 (fun i2 t2 a1 a3 a2 => hf i2 t2 a1 a3 (by omega))
            | succ dd ih =>
              intro t G1 sc1 ar1 f htd hM hF hPS hLk h33 hf
              refine z_il6 (pc := 88) dX8_families_88 ?_
              refine z_il5 (pc := 90) dX8_families_90 ?_
              refine z_icmp_ge (pc := 92) 150 dX8_families_92 rfl (fun c92 => absurd c92 (by rw [nI_leI (by omega) (by omega)]; omega)) (fun c92 => ?_)
              have hJ1 := hJ.ps hPS
              have hli := hJ1.2.2.2.2.2.2.2.2.1 i hin
              have hlt := hJ1.2.2.2.2.2.2.2.2.1 t (by omega)
              refine z_al4 (pc := 95) dX8_families_95 ?_
              refine z_bipush (pc := 97) (20) (by decide) dX8_families_97 ?_
              refine z_il5 (pc := 99) dX8_families_99 ?_
              refine z_imul (pc := 101) dX8_families_101 ?_
              refine z_il6 (pc := 102) dX8_families_102 ?_
              refine z_iadd (pc := 104) dX8_families_104 ?_
              refine z_al0 (pc := 105) dX8_families_105 ?_
              refine z_il5 (pc := 106) dX8_families_106 ?_
              refine z_il3 (pc := 108) dX8_families_108 ?_
              refine z_callVr (pc := 109) (c_mIsForged l i q hM (by omega)) hM.1 rfl rfl kw_935 zc_X8_isForged (by decide) (by decide) rfl (Nat.le_of_ble_eq_true rfl) dX8_families_109 ?_
              rw [zb_c (frg_ps hPS i q)]
              refine z_ifz_ne (pc := 112) 142 dX8_families_112 rfl (fun c112 => ?_) (fun c112 => ?_)
              · refine z_iconst (pc := 142) (0) (by decide) dX8_families_142 ?_
                refine z_zast (pc := 143) _ hLk (ix20 _ _) (by omega) (by decide) dX8_families_143 ?_
                have hM1 := hM.keep (zF.up (e' := .inl (κ.2.1 1, 400, .inl (upd f (20 * i + t) (vp_nar .boolean 0)))) hLk rfl) (by decide)
                have hF1 := hF.fresh (la := la) (y := ((3, 0, 0), .inl (κ.2.1 1, 400, .inl (upd f (20 * i + t) (vp_nar .boolean 0))))) hla0
                have hLk1 : zu _ la ((3, 0, 0), .inl (κ.2.1 1, 400, .inl (upd f (20 * i + t) (vp_nar .boolean 0)))) la = _ := zu_s (G := G1)
                have hv : vp_nar .boolean 0 = zb (Lk ar c ln q bar i t) := (show vp_nar .boolean 0 = 0 from rfl).trans (zb_f (fun h => h.1 c112)).symm
                rw [hv] at hM1 hF1 hLk1 ⊢
                generalize zu _ la ((3, 0, 0), .inl (κ.2.1 1, 400, .inl (upd f (20 * i + t) (zb (Lk ar c ln q bar i t))))) = G2 at hM1 hF1 hLk1 ⊢
                refine z_ii6 (pc := 144) (nI (t + 1)) dX8_families_144 (nI_1 _) (by decide) ?_
                refine z_goto (pc := 147) 88 dX8_families_147 rfl ?_
                exact ih (t + 1) _ _ _ _ (by omega) hM1 hF1 hPS hLk1 h33 (fun i2 t2 a1 a3 a2 => by
                  unfold upd
                  by_cases e : 20 * i2 + t2 = 20 * i + t
                  · have e1 : i2 = i := by omega
                    have e2 : t2 = t := by omega
                    subst e1; subst e2
                    rw [if_pos rfl]
                  · rw [if_neg e]
                    exact hf i2 t2 a1 a3 (by omega))
              · refine z_al0 (pc := 115) dX8_families_115 ?_
                refine z_il6 (pc := 116) dX8_families_116 ?_
                refine z_il3 (pc := 118) dX8_families_118 ?_
                refine z_callVr (pc := 119) (c_mIsForged l t q hM (by omega)) hM.1 rfl rfl kw_935 zc_X8_isForged (by decide) (by decide) rfl (Nat.le_of_ble_eq_true rfl) dX8_families_119 ?_
                rw [zb_c (frg_ps hPS t q)]
                refine z_ifz_ne (pc := 122) 142 dX8_families_122 rfl (fun c122 => ?_) (fun c122 => ?_)
                · refine z_iconst (pc := 142) (0) (by decide) dX8_families_142 ?_
                  refine z_zast (pc := 143) _ hLk (ix20 _ _) (by omega) (by decide) dX8_families_143 ?_
                  have hM1 := hM.keep (zF.up (e' := .inl (κ.2.1 1, 400, .inl (upd f (20 * i + t) (vp_nar .boolean 0)))) hLk rfl) (by decide)
                  have hF1 := hF.fresh (la := la) (y := ((3, 0, 0), .inl (κ.2.1 1, 400, .inl (upd f (20 * i + t) (vp_nar .boolean 0))))) hla0
                  have hLk1 : zu _ la ((3, 0, 0), .inl (κ.2.1 1, 400, .inl (upd f (20 * i + t) (vp_nar .boolean 0)))) la = _ := zu_s (G := G1)
                  have hv : vp_nar .boolean 0 = zb (Lk ar c ln q bar i t) := (show vp_nar .boolean 0 = 0 from rfl).trans (zb_f (fun h => h.2.1 c122)).symm
                  rw [hv] at hM1 hF1 hLk1 ⊢
                  generalize zu _ la ((3, 0, 0), .inl (κ.2.1 1, 400, .inl (upd f (20 * i + t) (zb (Lk ar c ln q bar i t))))) = G2 at hM1 hF1 hLk1 ⊢
                  refine z_ii6 (pc := 144) (nI (t + 1)) dX8_families_144 (nI_1 _) (by decide) ?_
                  refine z_goto (pc := 147) 88 dX8_families_147 rfl ?_
                  exact ih (t + 1) _ _ _ _ (by omega) hM1 hF1 hPS hLk1 h33 (fun i2 t2 a1 a3 a2 => by
                    unfold upd
                    by_cases e : 20 * i2 + t2 = 20 * i + t
                    · have e1 : i2 = i := by omega
                      have e2 : t2 = t := by omega
                      subst e1; subst e2
                      rw [if_pos rfl]
                    · rw [if_neg e]
                      exact hf i2 t2 a1 a3 (by omega))
                · refine z_al0 (pc := 125) dX8_families_125 ?_
                  refine z_il5 (pc := 126) dX8_families_126 ?_
                  refine z_il6 (pc := 128) dX8_families_128 ?_
                  refine z_il3 (pc := 130) dX8_families_130 ?_
                  refine z_callVi (pc := 131) _ (c_mFar l i t (ln i) (ln t) c q hM (by omega) (by omega) hli.1 hli.2 hlt.1 hlt.2 hJ1.2.2.1 hJ1.2.2.2.1) rfl hM.1 rfl rfl kw_890 zc_X8_far (by decide) rfl (Nat.le_of_ble_eq_true rfl) dX8_families_131 (fun r G1 h => ?_)
                  obtain ⟨sc2, ar2, rfl, hM1, hF1, hI⟩ := h
                  rw [show sc2 27 = sD ar c ln q i t from hI.d.trans (sD_ps hPS c ln q i t)]
                  have hPS2 := hPS.trans hI.ps
                  have h33b : ar2 33 = ar1 33 := hI.2.2.2.2.1 33 (by omega) (by omega) (by omega) (by omega) (by omega)
                  have hF := zF.trans hF hF1
                  replace hLk := hF1.1 _ _ _ (by decide) hLk
                  clear hF1
                  replace hM := hM1
                  clear hM1
                  refine z_il2 (pc := 134) dX8_families_134 ?_
                  refine z_icmp_gt (pc := 135) 142 dX8_families_135 rfl (fun c135 => ?_) (fun c135 => ?_)
                  · refine z_iconst (pc := 142) (0) (by decide) dX8_families_142 ?_
                    refine z_zast (pc := 143) _ hLk (ix20 _ _) (by omega) (by decide) dX8_families_143 ?_
                    have hM1 := hM.keep (zF.up (e' := .inl (κ.2.1 1, 400, .inl (upd f (20 * i + t) (vp_nar .boolean 0)))) hLk rfl) (by decide)
                    have hF1 := hF.fresh (la := la) (y := ((3, 0, 0), .inl (κ.2.1 1, 400, .inl (upd f (20 * i + t) (vp_nar .boolean 0))))) hla0
                    have hLk1 : zu _ la ((3, 0, 0), .inl (κ.2.1 1, 400, .inl (upd f (20 * i + t) (vp_nar .boolean 0)))) la = _ := zu_s (G := G1)
                    have hv : vp_nar .boolean 0 = zb (Lk ar c ln q bar i t) := (show vp_nar .boolean 0 = 0 from rfl).trans (zb_f (fun h => absurd h.2.2 (Int32.not_le.mpr c135))).symm
                    rw [hv] at hM1 hF1 hLk1 ⊢
                    generalize zu _ la ((3, 0, 0), .inl (κ.2.1 1, 400, .inl (upd f (20 * i + t) (zb (Lk ar c ln q bar i t))))) = G2 at hM1 hF1 hLk1 ⊢
                    refine z_ii6 (pc := 144) (nI (t + 1)) dX8_families_144 (nI_1 _) (by decide) ?_
                    refine z_goto (pc := 147) 88 dX8_families_147 rfl ?_
                    exact ih (t + 1) _ _ _ _ (by omega) hM1 hF1 hPS2 hLk1 (fun k hk => by rw [h33b]; exact h33 k hk) (fun i2 t2 a1 a3 a2 => by
                      unfold upd
                      by_cases e : 20 * i2 + t2 = 20 * i + t
                      · have e1 : i2 = i := by omega
                        have e2 : t2 = t := by omega
                        subst e1; subst e2
                        rw [if_pos rfl]
                      · rw [if_neg e]
                        exact hf i2 t2 a1 a3 (by omega))
                  · refine z_iconst (pc := 138) (1) (by decide) dX8_families_138 ?_
                    refine z_goto (pc := 139) 143 dX8_families_139 rfl ?_
                    refine z_zast (pc := 143) _ hLk (ix20 _ _) (by omega) (by decide) dX8_families_143 ?_
                    have hM1 := hM.keep (zF.up (e' := .inl (κ.2.1 1, 400, .inl (upd f (20 * i + t) (vp_nar .boolean 1)))) hLk rfl) (by decide)
                    have hF1 := hF.fresh (la := la) (y := ((3, 0, 0), .inl (κ.2.1 1, 400, .inl (upd f (20 * i + t) (vp_nar .boolean 1))))) hla0
                    have hLk1 : zu _ la ((3, 0, 0), .inl (κ.2.1 1, 400, .inl (upd f (20 * i + t) (vp_nar .boolean 1)))) la = _ := zu_s (G := G1)
                    have hv : vp_nar .boolean 1 = zb (Lk ar c ln q bar i t) := (show vp_nar .boolean 1 = 1 from rfl).trans (zb_t ⟨c112, c122, Int32.not_lt.mp c135⟩).symm
                    rw [hv] at hM1 hF1 hLk1 ⊢
                    generalize zu _ la ((3, 0, 0), .inl (κ.2.1 1, 400, .inl (upd f (20 * i + t) (zb (Lk ar c ln q bar i t))))) = G2 at hM1 hF1 hLk1 ⊢
                    refine z_ii6 (pc := 144) (nI (t + 1)) dX8_families_144 (nI_1 _) (by decide) ?_
                    refine z_goto (pc := 147) 88 dX8_families_147 rfl ?_
                    exact ih (t + 1) _ _ _ _ (by omega) hM1 hF1 hPS2 hLk1 (fun k hk => by rw [h33b]; exact h33 k hk) (fun i2 t2 a1 a3 a2 => by
                      unfold upd
                      by_cases e : 20 * i2 + t2 = 20 * i + t
                      · have e1 : i2 = i := by omega
                        have e2 : t2 = t := by omega
                        subst e1; subst e2
                        rw [if_pos rfl]
                      · rw [if_neg e]
                        exact hf i2 t2 a1 a3 (by omega))
          have ex2 : ∀ (sc1 : Nat → Int32) (ar1 : Nat → Nat → Int32) (lab0 : Nat → Nat) (G1 : zH) (w6 w7 w8 : Option Value), PS sc ar sc1 ar1 → RM κ G1 x ad sc1 ar1 → zF 1 G G1 → (∀ k, k < n → ar1 33 k = lb ar q lab0 k) → FL n ar c ln q bar lab0 → Z p l e rX8_families s m args below meth cC yX8_families cX8_families 9 (some FieldType.boolean) κ Qx (0 + 1) (0 + 400) G1 [some (.ref x), some (.int s0), some (.int bar), some (.int q), some (.ref la), some (.int (0)), w6, w7, w8] 159 [] := by
            intro sc1 ar1 lab0 G1 w6 w7 w8 hPS hM hF h33 hFL
            refine z_il5 (pc := 159) dX8_families_159 ?_
            refine z_if_eq (pc := 161) 278 dX8_families_161 rfl (fun _ => ?_) (fun h => absurd (by decide) h)
            refine z_iconst (pc := 278) (1) (by decide) dX8_families_278 ?_
            rw [← hQx]
            refine z_zret (pc := 279) rfl rfl (by decide) dX8_families_279 (⟨_, rfl, _, _, hM, hF, hPS, Or.inr ⟨hok, rfl, lab0, h33, hFL⟩⟩)
          have ph2 : ∀ (sc1 : Nat → Int32) (arP : Nat → Nat → Int32) (f : Nat → Int32), PS sc ar sc1 arP → (∀ i2 t2, t2 < i2 → i2 < n → f (20 * i2 + t2) = zb (Lk ar c ln q bar i2 t2)) → ∀ (M0 : Nat) (lab : Nat → Nat) (G1 : zH) (ar1 : Nat → Nat → Int32) (w6 w7 w8 : Option Value), smN lab n < M0 → RM κ G1 x ad sc1 ar1 → zF 1 G G1 → G1 la = some ((3, 0, 0), .inl (κ.2.1 1, 400, .inl f)) → (∀ k, k ≠ 33 → ar1 k = arP k) → (∀ k, k < n → ar1 33 k = lb ar q lab k) → (∀ k, k < n → ¬ frg ar k q → lab k ≤ k ∧ Rch n (Lk ar c ln q bar) k (lab k)) → Z p l e rX8_families s m args below meth cC yX8_families cX8_families 9 (some FieldType.boolean) κ Qx (0 + 1) (0 + 400) G1 [some (.ref x), some (.int s0), some (.int bar), some (.int q), some (.ref la), some (.int (1)), w6, w7, w8] 159 [] := by
            intro sc1 arP f hPS hf M0
            induction M0 with
            | zero =>
              intro lab G1 ar1 w6 w7 w8 hm
              exact absurd hm (Nat.not_lt_zero _)
            | succ M0 ihM =>
              intro lab0 G1 ar1 w6 w7 w8 hm hM hF hLk hne h33 hlab
              have inner2 : ∀ (i : Nat), i < n → (∀ (G1 : zH) (ar1 : Nat → Nat → Int32) (lab : Nat → Nat) (mv : Int32) (w8 : Option Value), RM κ G1 x ad sc1 ar1 → zF 1 G G1 → G1 la = some ((3, 0, 0), .inl (κ.2.1 1, 400, .inl f)) → (∀ k, k ≠ 33 → ar1 k = arP k) → (∀ k, k < n → ar1 33 k = lb ar q lab k) → PM n ar c ln q bar lab lab0 i i mv → Z p l e rX8_families s m args below meth cC yX8_families cX8_families 9 (some FieldType.boolean) κ Qx (0 + 1) (0 + 400) G1 [some (.ref x), some (.int s0), some (.int bar), some (.int q), some (.ref la), some (.int mv), some (.int (nI i)), some (.int (nI i)), w8] 269 []) → ∀ (dd t : Nat), t + dd = i → ∀ (G1 : zH) (ar1 : Nat → Nat → Int32) (lab : Nat → Nat) (mv : Int32) (w8 : Option Value), RM κ G1 x ad sc1 ar1 → zF 1 G G1 → G1 la = some ((3, 0, 0), .inl (κ.2.1 1, 400, .inl f)) → (∀ k, k ≠ 33 → ar1 k = arP k) → (∀ k, k < n → ar1 33 k = lb ar q lab k) → PM n ar c ln q bar lab lab0 i t mv → Z p l e rX8_families s m args below meth cC yX8_families cX8_families 9 (some FieldType.boolean) κ Qx (0 + 1) (0 + 400) G1 [some (.ref x), some (.int s0), some (.int bar), some (.int q), some (.ref la), some (.int mv), some (.int (nI i)), some (.int (nI t)), w8] 182 [] := by
                intro i hin hk dd
                induction dd with
                | zero =>
                  intro t htd G1 ar1 lab mv w8 hM hF hLk hne h33 hP
                  refine z_il7 (pc := 182) dX8_families_182 ?_
                  refine z_il6 (pc := 184) dX8_families_184 ?_
                  refine z_icmp_ge (pc := 186) 269 dX8_families_186 rfl (fun c186 => ?_) (fun c186 => absurd (by rw [show t = i by omega]; exact Int32.le_refl _) c186)
                  rw [show t = i by omega] at hP ⊢
                  exact hk _ _ _ _ _ hM hF hLk hne h33 hP
                | succ dd ih =>
                  intro t htd G1 ar1 lab mv w8 hM hF hLk hne h33 hP
                  refine z_il7 (pc := 182) dX8_families_182 ?_
                  refine z_il6 (pc := 184) dX8_families_184 ?_
                  refine z_icmp_ge (pc := 186) 269 dX8_families_186 rfl (fun c186 => absurd c186 (by rw [nI_leI (by omega) (by omega)]; omega)) (fun c186 => ?_)
                  refine z_al4 (pc := 189) dX8_families_189 ?_
                  refine z_bipush (pc := 191) (20) (by decide) dX8_families_191 ?_
                  refine z_il6 (pc := 193) dX8_families_193 ?_
                  refine z_imul (pc := 195) dX8_families_195 ?_
                  refine z_il7 (pc := 196) dX8_families_196 ?_
                  refine z_iadd (pc := 198) dX8_families_198 ?_
                  refine z_zald (pc := 199) _ hLk (ix20 _ _) (by omega) (by decide) dX8_families_199 ?_
                  rw [hf i t (by omega) (by omega)]
                  refine z_ifz_eq (pc := 200) 263 dX8_families_200 rfl (fun c200 => ?_) (fun c200 => ?_)
                  · refine z_ii7 (pc := 263) (nI (t + 1)) dX8_families_263 (nI_1 _) (by decide) ?_
                    refine z_goto (pc := 266) 182 dX8_families_266 rfl ?_
                    exact ih (t + 1) (by omega) _ _ _ _ _ hM hF hLk hne h33 (hP.skip (fun h => absurd h c200))
                  · refine z_al0 (pc := 203) dX8_families_203 ?_
                    refine z_mg33 (pc := 204) hM rfl dX8_families_204 ?_
                    refine z_il6 (pc := 207) dX8_families_207 ?_
                    refine z_mld (pc := 209) 33 20 hM rfl (by decide) rfl (by omega) dX8_families_209 ?_
                    refine z_al0 (pc := 210) dX8_families_210 ?_
                    refine z_mg33 (pc := 211) hM rfl dX8_families_211 ?_
                    refine z_il7 (pc := 214) dX8_families_214 ?_
                    refine z_mld (pc := 216) 33 20 hM rfl (by decide) rfl (by omega) dX8_families_216 ?_
                    rw [h33 i hin, h33 t (by omega)]
                    refine z_icmp_ne (pc := 217) 223 dX8_families_217 rfl (fun c217 => ?_) (fun c217 => ?_)
                    · refine z_al0 (pc := 223) dX8_families_223 ?_
                      refine z_mg33 (pc := 224) hM rfl dX8_families_224 ?_
                      refine z_il6 (pc := 227) dX8_families_227 ?_
                      refine z_mld (pc := 229) 33 20 hM rfl (by decide) rfl (by omega) dX8_families_229 ?_
                      refine z_al0 (pc := 230) dX8_families_230 ?_
                      refine z_mg33 (pc := 231) hM rfl dX8_families_231 ?_
                      refine z_il7 (pc := 234) dX8_families_234 ?_
                      refine z_mld (pc := 236) 33 20 hM rfl (by decide) rfl (by omega) dX8_families_236 ?_
                      refine z_mmin (pc := 237) kw_910 kw_280 kw_12 kw_281 (by decide) (Nat.le_of_ble_eq_true rfl) dX8_families_237 ?_
                      rw [h33 i hin, h33 t (by omega)]
                      have hl : Lk ar c ln q bar i t := c200
                      have hb1 := (hP.1 i hin hl.1).1
                      have hb2 := (hP.1 t (by omega) hl.2.1).1
                      rw [lb_n hl.1, lb_n hl.2.1]
                      rw [show (if nI (lab t) < nI (lab i) then nI (lab t) else nI (lab i)) = nI (min (lab i) (lab t)) from by
                        split
                        · rename_i e; rw [nI_ltI (by omega) (by omega)] at e; rw [Nat.min_eq_right (by omega)]
                        · rename_i e; rw [nI_ltI (by omega) (by omega)] at e; rw [Nat.min_eq_left (by omega)]]
                      refine z_is8 (pc := 240) dX8_families_240 (by decide) ?_
                      refine z_al0 (pc := 242) dX8_families_242 ?_
                      refine z_mg33 (pc := 243) hM rfl dX8_families_243 ?_
                      refine z_il6 (pc := 246) dX8_families_246 ?_
                      refine z_il8 (pc := 248) dX8_families_248 ?_
                      refine z_mst (pc := 250) 33 20 hM rfl (by decide) rfl (by omega) dX8_families_250 (fun G1 hM1 hF1 => ?_)
                      have hF := zF.trans hF hF1
                      replace hLk := hF1.1 _ _ _ (by decide) hLk
                      clear hF1
                      replace hM := hM1
                      clear hM1
                      refine z_al0 (pc := 251) dX8_families_251 ?_
                      refine z_mg33 (pc := 252) hM rfl dX8_families_252 ?_
                      refine z_il7 (pc := 255) dX8_families_255 ?_
                      refine z_il8 (pc := 257) dX8_families_257 ?_
                      refine z_mst (pc := 259) 33 20 hM rfl (by decide) rfl (by omega) dX8_families_259 (fun G1 hM1 hF1 => ?_)
                      have hF := zF.trans hF hF1
                      replace hLk := hF1.1 _ _ _ (by decide) hLk
                      clear hF1
                      replace hM := hM1
                      clear hM1
                      refine z_iconst (pc := 260) (1) (by decide) dX8_families_260 ?_
                      refine z_is5 (pc := 261) dX8_families_261 (by decide) ?_
                      refine z_ii7 (pc := 263) (nI (t + 1)) dX8_families_263 (nI_1 _) (by decide) ?_
                      refine z_goto (pc := 266) 182 dX8_families_266 rfl ?_
                      exact ih (t + 1) (by omega) _ _ _ _ _ hM hF hLk (fun k hk => by simp only [aup, hk, if_false]; exact hne k hk) (fun k hk => by
                        unfold lb upN aup upd
                        by_cases e1 : k = t
                        · subst e1
                          simp [hl.2.1]
                        · by_cases e2 : k = i
                          · subst e2
                            simp [e1, hl.1]
                          · simp [e1, e2]
                            exact h33 k hk) (hP.join hin (by omega) hl (fun e => c217 (by rw [lb_n hl.1, lb_n hl.2.1, e])))
                    · refine z_goto (pc := 220) 263 dX8_families_220 rfl ?_
                      refine z_ii7 (pc := 263) (nI (t + 1)) dX8_families_263 (nI_1 _) (by decide) ?_
                      refine z_goto (pc := 266) 182 dX8_families_266 rfl ?_
                      exact ih (t + 1) (by omega) _ _ _ _ _ hM hF hLk hne h33 (hP.skip (fun h => by rw [lb_n h.1, lb_n h.2.1] at c217; exact (nI_eq (by have := (hP.1 i hin h.1).1; omega) (by have := (hP.1 t (by omega) h.2.1).1; omega)).mp c217))
              have mid2 : (∀ (G1 : zH) (ar1 : Nat → Nat → Int32) (lab : Nat → Nat) (mv : Int32) (w6 w7 w8 : Option Value), RM κ G1 x ad sc1 ar1 → zF 1 G G1 → G1 la = some ((3, 0, 0), .inl (κ.2.1 1, 400, .inl f)) → (∀ k, k ≠ 33 → ar1 k = arP k) → (∀ k, k < n → ar1 33 k = lb ar q lab k) → PM n ar c ln q bar lab lab0 n 0 mv → Z p l e rX8_families s m args below meth cC yX8_families cX8_families 9 (some FieldType.boolean) κ Qx (0 + 1) (0 + 400) G1 [some (.ref x), some (.int s0), some (.int bar), some (.int q), some (.ref la), some (.int mv), w6, w7, w8] 275 []) → ∀ (dd i : Nat), i + dd = n → ∀ (G1 : zH) (ar1 : Nat → Nat → Int32) (lab : Nat → Nat) (mv : Int32) (w7 w8 : Option Value), RM κ G1 x ad sc1 ar1 → zF 1 G G1 → G1 la = some ((3, 0, 0), .inl (κ.2.1 1, 400, .inl f)) → (∀ k, k ≠ 33 → ar1 k = arP k) → (∀ k, k < n → ar1 33 k = lb ar q lab k) → PM n ar c ln q bar lab lab0 i 0 mv → Z p l e rX8_families s m args below meth cC yX8_families cX8_families 9 (some FieldType.boolean) κ Qx (0 + 1) (0 + 400) G1 [some (.ref x), some (.int s0), some (.int bar), some (.int q), some (.ref la), some (.int mv), some (.int (nI i)), w7, w8] 170 [] := by
                intro hk dd
                induction dd with
                | zero =>
                  intro i hid G1 ar1 lab mv w7 w8 hM hF hLk hne h33 hP
                  refine z_il6 (pc := 170) dX8_families_170 ?_
                  refine z_al0 (pc := 172) dX8_families_172 ?_
                  refine z_mg16 (pc := 173) hM rfl dX8_families_173 ?_
                  rw [show sc1 16 = nI n from (hPS.1 16 (by omega) (by omega)).trans hJ.1]
                  refine z_icmp_ge (pc := 176) 275 dX8_families_176 rfl (fun c176 => ?_) (fun c176 => absurd (by rw [show i = n by omega]; exact Int32.le_refl _) c176)
                  rw [show i = n by omega] at hP ⊢
                  exact hk _ _ _ _ _ _ _ hM hF hLk hne h33 hP
                | succ dd ih =>
                  intro i hid G1 ar1 lab mv w7 w8 hM hF hLk hne h33 hP
                  refine z_il6 (pc := 170) dX8_families_170 ?_
                  refine z_al0 (pc := 172) dX8_families_172 ?_
                  refine z_mg16 (pc := 173) hM rfl dX8_families_173 ?_
                  rw [show sc1 16 = nI n from (hPS.1 16 (by omega) (by omega)).trans hJ.1]
                  refine z_icmp_ge (pc := 176) 275 dX8_families_176 rfl (fun c176 => absurd c176 (by rw [nI_leI (by omega) (by omega)]; omega)) (fun c176 => ?_)
                  refine z_iconst (pc := 179) (0) (by decide) dX8_families_179 ?_
                  refine z_is7 (pc := 180) dX8_families_180 (by decide) ?_
                  refine inner2 i (by omega) (fun G1 ar1 lab mv w8 hM hF hLk hne h33 hP => ?_) i 0 (by omega) _ _ _ _ _ hM hF hLk hne h33 hP
                  refine z_ii6 (pc := 269) (nI (i + 1)) dX8_families_269 (nI_1 _) (by decide) ?_
                  refine z_goto (pc := 272) 170 dX8_families_272 rfl ?_
                  exact ih (i + 1) (by omega) _ _ _ _ _ _ hM hF hLk hne h33 hP.row
              refine z_il5 (pc := 159) dX8_families_159 ?_
              refine z_if_eq (pc := 161) 278 dX8_families_161 rfl (fun h => absurd h (by decide)) (fun _ => ?_)
              refine z_iconst (pc := 164) (0) (by decide) dX8_families_164 ?_
              refine z_is5 (pc := 165) dX8_families_165 (by decide) ?_
              refine z_iconst (pc := 167) (0) (by decide) dX8_families_167 ?_
              refine z_is6 (pc := 168) dX8_families_168 (by decide) ?_
              refine mid2 (fun G1 ar1 lab mv w6 w7 w8 hM hF hLk hne h33 hP => ?_) n 0 (by omega) _ _ lab0 0 _ _ hM hF hLk hne h33 ⟨hlab, Or.inl ⟨rfl, rfl, fun _ _ _ h => absurd h (by omega)⟩⟩
              refine z_goto (pc := 275) 159 dX8_families_275 rfl ?_
              rcases hP.2 with ⟨rfl, -, g⟩ | ⟨rfl, g⟩
              · exact ex2 sc1 ar1 lab _ _ _ _ (hPS.trans ⟨fun _ _ _ => rfl, fun k a b => hne k (by omega)⟩) hM hF h33 ⟨hP.1, fun s t h1 h2 hl => g s t h1 (by omega) hl⟩
              · exact ihM lab _ _ _ _ _ (by omega) hM hF hLk hne h33 hP.1
          have outer1 : ∀ (dd i : Nat) (G1 : zH) (sc1 : Nat → Int32) (ar1 : Nat → Nat → Int32) (f : Nat → Int32) (w6 w7 w8 : Option Value), i + dd = n → RM κ G1 x ad sc1 ar1 → zF 1 G G1 → PS sc ar sc1 ar1 → G1 la = some ((3, 0, 0), .inl (κ.2.1 1, 400, .inl f)) → (∀ k, k < i → ar1 33 k = lb ar q (fun k => k) k) → (∀ i2 t2, t2 < i2 → i2 < 20 → i2 < i → f (20 * i2 + t2) = zb (Lk ar c ln q bar i2 t2)) → Z p l e rX8_families s m args below meth cC yX8_families cX8_families 9 (some FieldType.boolean) κ Qx (0 + 1) (0 + 400) G1 [some (.ref x), some (.int s0), some (.int bar), some (.int q), some (.ref la), some (.int (nI i)), w6, w7, w8] 53 [] := by
            intro dd
            induction dd with
            | zero =>
              intro i G1 sc1 ar1 f w6 w7 w8 hid hM hF hPS hLk h33 hf
              refine z_il5 (pc := 53) dX8_families_53 ?_
              refine z_al0 (pc := 55) dX8_families_55 ?_
              refine z_mg16 (pc := 56) hM rfl dX8_families_56 ?_
              rw [show sc1 16 = nI n from (hPS.1 16 (by omega) (by omega)).trans hJ.1]
              refine z_icmp_ge (pc := 59) 156 dX8_families_59 rfl (fun c59 => ?_) (fun c59 => absurd (by rw [show i = n by omega]; exact Int32.le_refl _) c59)
              refine z_iconst (pc := 156) (1) (by decide) dX8_families_156 ?_
              refine z_is5 (pc := 157) dX8_families_157 (by decide) ?_
              rw [show i = n by omega] at h33 hf
              exact ph2 sc1 ar1 f hPS (fun i2 t2 a1 a2 => hf i2 t2 a1 (by omega) a2) (smN (fun k => k) n + 1) (fun k => k) _ ar1 _ _ _ (by omega) hM hF hLk (fun _ _ => rfl) h33 (fun k _ _ => ⟨Nat.le_refl _, Rch.rf⟩)
            | succ dd ih =>
              intro i G1 sc1 ar1 f w6 w7 w8 hid hM hF hPS hLk h33 hf
              refine z_il5 (pc := 53) dX8_families_53 ?_
              refine z_al0 (pc := 55) dX8_families_55 ?_
              refine z_mg16 (pc := 56) hM rfl dX8_families_56 ?_
              rw [show sc1 16 = nI n from (hPS.1 16 (by omega) (by omega)).trans hJ.1]
              refine z_icmp_ge (pc := 59) 156 dX8_families_59 rfl (fun c59 => absurd c59 (by rw [nI_leI (by omega) (by omega)]; omega)) (fun c59 => ?_)
              refine z_al0 (pc := 62) dX8_families_62 ?_
              refine z_mg33 (pc := 63) hM rfl dX8_families_63 ?_
              refine z_il5 (pc := 66) dX8_families_66 ?_
              refine z_al0 (pc := 68) dX8_families_68 ?_
              refine z_il5 (pc := 69) dX8_families_69 ?_
              refine z_il3 (pc := 71) dX8_families_71 ?_
              refine z_callVr (pc := 72) (c_mIsForged l i q hM (by omega)) hM.1 rfl rfl kw_935 zc_X8_isForged (by decide) (by decide) rfl (Nat.le_of_ble_eq_true rfl) dX8_families_72 ?_
              rw [zb_c (frg_ps hPS i q)]
              refine z_ifz_eq (pc := 75) 82 dX8_families_75 rfl (fun c75 => ?_) (fun c75 => ?_)
              · refine z_il5 (pc := 82) dX8_families_82 ?_
                refine z_mst (pc := 84) 33 20 hM rfl (by decide) rfl (by omega) dX8_families_84 (fun G1 hM1 hF1 => ?_)
                have hF := zF.trans hF hF1
                replace hLk := hF1.1 _ _ _ (by decide) hLk
                clear hF1
                replace hM := hM1
                clear hM1
                refine z_iconst (pc := 85) (0) (by decide) dX8_families_85 ?_
                refine z_is6 (pc := 86) dX8_families_86 (by decide) ?_
                refine inner1 i (by omega) _ _ (fun G1 sc1 ar1 f hM hF hPS hLk h33 hf => ?_) i 0 _ _ _ _ (by omega) hM hF (hPS.trans ⟨fun _ _ _ => rfl, fun k a b => by simp only [aup]; rw [if_neg (by omega)]⟩) hLk (fun k hk => by
                  unfold aup upd
                  by_cases e : k = i
                  · subst e
                    rw [if_pos rfl, if_pos rfl]
                    exact (if_neg c75).symm
                  · rw [if_pos rfl, if_neg e]
                    exact h33 k (by omega)) (fun i2 t2 a1 a3 a2 => hf i2 t2 a1 a3 (by omega))
                refine z_ii5 (pc := 150) (nI (i + 1)) dX8_families_150 (nI_1 _) (by decide) ?_
                refine z_goto (pc := 153) 53 dX8_families_153 rfl ?_
                exact ih (i + 1) _ _ _ _ _ _ _ (by omega) hM hF hPS hLk h33 hf
              · refine z_iconst (pc := 78) (-1) (by decide) dX8_families_78 ?_
                refine z_goto (pc := 79) 84 dX8_families_79 rfl ?_
                refine z_mst (pc := 84) 33 20 hM rfl (by decide) rfl (by omega) dX8_families_84 (fun G1 hM1 hF1 => ?_)
                have hF := zF.trans hF hF1
                replace hLk := hF1.1 _ _ _ (by decide) hLk
                clear hF1
                replace hM := hM1
                clear hM1
                refine z_iconst (pc := 85) (0) (by decide) dX8_families_85 ?_
                refine z_is6 (pc := 86) dX8_families_86 (by decide) ?_
                refine inner1 i (by omega) _ _ (fun G1 sc1 ar1 f hM hF hPS hLk h33 hf => ?_) i 0 _ _ _ _ (by omega) hM hF (hPS.trans ⟨fun _ _ _ => rfl, fun k a b => by simp only [aup]; rw [if_neg (by omega)]⟩) hLk (fun k hk => by
                  unfold aup upd
                  by_cases e : k = i
                  · subst e
                    rw [if_pos rfl, if_pos rfl]
                    exact (if_pos c75).symm
                  · rw [if_pos rfl, if_neg e]
                    exact h33 k (by omega)) (fun i2 t2 a1 a3 a2 => hf i2 t2 a1 a3 (by omega))
                refine z_ii5 (pc := 150) (nI (i + 1)) dX8_families_150 (nI_1 _) (by decide) ?_
                refine z_goto (pc := 153) 53 dX8_families_153 rfl ?_
                exact ih (i + 1) _ _ _ _ _ _ _ (by omega) hM hF hPS hLk h33 hf
          exact outer1 n 0 _ _ _ _ _ _ _ (by omega) hM hF (PS.sc0 0 0 (by omega)) hLk (fun k h => absurd h (Nat.not_lt_zero _)) (fun _ _ _ _ h => absurd h (Nat.not_lt_zero _))
        · refine z_iconst (pc := 41) (0) (by decide) dX8_families_41 ?_
          rw [← hQx]
          refine z_zret (pc := 42) rfl rfl (by decide) dX8_families_42 (by
      refine ⟨_, rfl, _, _, hM, hF, PS.sc0 0 0 (by omega), Or.inl ⟨?_, rfl⟩⟩
      first | exact (fun h => absurd h.1 c10) | exact (fun h => absurd h.2.1 c21) | exact (fun h => absurd h.2.2.1 c29) | exact (fun h => h.2.2.2 (by rw [iN_nI (by omega)]; exact c38)))
end
section
def kinM (ar : Nat → Nat → Int32) (q : Int32) (lab : Nat → Nat) (a : Nat) : Nat → Int32
  | 0 => 0
  | k + 1 => kinM ar q lab a k + zb (¬ frg ar k q ∧ lab k = lab a)
def sungM (ar : Nat → Nat → Int32) (q : Int32) (lab : Nat → Nat) (a : Nat) : Nat → Int32
  | 0 => 0
  | k + 1 => sungM ar q lab a k ||| (if ¬ frg ar k q ∧ lab k = lab a then 1 <<< (ar 3 k &&& 31) else 0)
theorem lb_eq {ar : Nat → Nat → Int32} {q : Int32} {lab : Nat → Nat} {k a n : Nat} (hn : n ≤ 20) (hk : k < n) (ha : a < n) (hf : ¬ frg ar a q) (h : ∀ k, k < n → ¬ frg ar k q → lab k ≤ k) : lb ar q lab k = lb ar q lab a ↔ (¬ frg ar k q ∧ lab k = lab a) := by
  have h2 := h a ha hf
  rw [lb_n hf]
  by_cases hk2 : frg ar k q
  · unfold lb
    rw [if_pos hk2]
    exact ⟨fun e => absurd e.symm (nI_m1 (by omega)), fun e => absurd hk2 e.1⟩
  · rw [lb_n hk2]
    have h1 := h k hk hk2
    rw [nI_eq (by omega) (by omega)]
    exact ⟨fun e => ⟨hk2, e⟩, fun e => e.2⟩
abbrev rX8_family : Room := rmK 5 1 400 122
set_option maxRecDepth 100000 in
set_option maxHeartbeats 400000 in
theorem c_mFamily (l : Launch) {κ : zK} {G : zH} {x : Nat} {ad : Nat → Nat} {sc : Nat → Int32} {ar : Nat → Nat → Int32} (n c d w : Nat) (ln : Nat → Nat) (s0 bar q : Int32) (hM : RM κ G x ad sc ar) (hJ : MJ n c d w ln sc ar) : Ct l yX8_family cX8_family 4 (some FieldType.int) rX8_family κ [.ref x, .int s0, .int bar, .int q] G (pI (fun r G2 => ∃ sc2 ar2, RM κ G2 x ad sc2 ar2 ∧ zF 1 G G2 ∧ PS sc ar sc2 ar2 ∧ ((¬ okFam n w ar s0 bar q ∧ r = -1) ∨ (okFam n w ar s0 bar q ∧ ∃ lab, FL n ar c ln q bar lab ∧ r = nI (lab (iN s0)))))) := by
  refine Ct.of (by decide +kernel) (fun v hv => by
    simp only [List.mem_cons, List.mem_nil_iff, or_false, List.not_mem_nil] at hv
    rcases hv with rfl | rfl | rfl | rfl <;> rfl) (Nat.le_of_ble_eq_true rfl) ?_
  intro p e s m args below meth cC
  refine z_L (L' := [some (.ref x), some (.int s0), some (.int bar), some (.int q)]) rfl ?_
  generalize hQx : MQ below (zQc κ _) args s _ _ (zA κ) = Qx
  have hF : zF 1 G G := zF.rf
  refine z_al0 (pc := 0) dX8_family_0 ?_
  refine z_il1 (pc := 1) dX8_family_1 ?_
  refine z_il2 (pc := 2) dX8_family_2 ?_
  refine z_il3 (pc := 3) dX8_family_3 ?_
  refine z_callVi (pc := 4) _ (c_mFamilies l n c d w ln s0 bar q hM hJ) rfl hM.1 rfl rfl kw_931 zc_X8_families (by decide) rfl (Nat.le_of_ble_eq_true rfl) dX8_family_4 (fun r G1 h => ?_)
  obtain ⟨sc1, ar1, hM1, hF1, hPS, h0⟩ := h
  have hF := zF.trans hF hF1
  clear hF1
  replace hM := hM1
  clear hM1
  obtain ⟨b0, hb0, hr0, h⟩ : ∃ b : Prop, ∃ _ : Decidable b, r = zb b ∧ ((¬ okFam n w ar s0 bar q ∧ ¬ b) ∨ (okFam n w ar s0 bar q ∧ b ∧ ∃ lab, (∀ k, k < n → ar1 33 k = lb ar q lab k) ∧ FL n ar c ln q bar lab)) := by
    rcases h0 with ⟨h1, h2⟩ | ⟨h1, h2, h3⟩
    · exact ⟨False, inferInstance, h2, Or.inl ⟨h1, fun q => q⟩⟩
    · exact ⟨True, inferInstance, h2, Or.inr ⟨h1, trivial, h3⟩⟩
  clear h0
  subst hr0
  refine z_ifz_eq (pc := 7) 19 dX8_family_7 rfl (fun c7 => ?_) (fun c7 => ?_)
  · refine z_iconst (pc := 19) (-1) (by decide) dX8_family_19 ?_
    rw [← hQx]
    refine z_iret (pc := 20) rfl (by decide) dX8_family_20 (⟨_, rfl, _, _, hM, hF, hPS, Or.inl ⟨(h.resolve_right (fun g => c7 g.2.1)).1, rfl⟩⟩)
  · obtain ⟨hok, -, lab, h33, hFL⟩ := h.resolve_left (fun g => g.2 c7)
    obtain ⟨⟨ha0, ha1⟩, -, -, hfr⟩ := id hok
    have hn20 := hJ.2.1
    obtain ⟨a, rfl, ha⟩ := ix_in ha0 ha1 (by omega)
    rw [iN_nI (by omega)] at hfr
    have e16 : sc1 16 = nI n := (hPS.1 16 (by omega) (by omega)).trans hJ.1
    refine z_al0 (pc := 10) dX8_family_10 ?_
    refine z_mg33 (pc := 11) hM rfl dX8_family_11 ?_
    refine z_il1 (pc := 14) dX8_family_14 ?_
    refine z_mld (pc := 15) 33 20 hM rfl (by decide) rfl (by omega) dX8_family_15 ?_
    refine z_goto (pc := 16) 20 dX8_family_16 rfl ?_
    rw [← hQx]
    refine z_iret (pc := 20) rfl (by decide) dX8_family_20 (⟨_, rfl, _, _, hM, hF, hPS, Or.inr ⟨hok, lab, hFL, by rw [iN_nI (by omega), h33 a ha]; exact lb_n hfr⟩⟩)
abbrev rX8_kin : Room := rmK 5 1 400 122
set_option maxRecDepth 100000 in
set_option maxHeartbeats 400000 in
theorem c_mKin (l : Launch) {κ : zK} {G : zH} {x : Nat} {ad : Nat → Nat} {sc : Nat → Int32} {ar : Nat → Nat → Int32} (n c d w : Nat) (ln : Nat → Nat) (s0 bar q : Int32) (hM : RM κ G x ad sc ar) (hJ : MJ n c d w ln sc ar) : Ct l yX8_kin cX8_kin 6 (some FieldType.int) rX8_kin κ [.ref x, .int s0, .int bar, .int q] G (pI (fun r G2 => ∃ sc2 ar2, RM κ G2 x ad sc2 ar2 ∧ zF 1 G G2 ∧ PS sc ar sc2 ar2 ∧ ((¬ okFam n w ar s0 bar q ∧ r = -1) ∨ (okFam n w ar s0 bar q ∧ ∃ lab, FL n ar c ln q bar lab ∧ r = kinM ar q lab (iN s0) n)))) := by
  refine Ct.of (by decide +kernel) (fun v hv => by
    simp only [List.mem_cons, List.mem_nil_iff, or_false, List.not_mem_nil] at hv
    rcases hv with rfl | rfl | rfl | rfl <;> rfl) (Nat.le_of_ble_eq_true rfl) ?_
  intro p e s m args below meth cC
  refine z_L (L' := [some (.ref x), some (.int s0), some (.int bar), some (.int q), none, none]) rfl ?_
  generalize hQx : MQ below (zQc κ _) args s _ _ (zA κ) = Qx
  have hF : zF 1 G G := zF.rf
  refine z_al0 (pc := 0) dX8_kin_0 ?_
  refine z_il1 (pc := 1) dX8_kin_1 ?_
  refine z_il2 (pc := 2) dX8_kin_2 ?_
  refine z_il3 (pc := 3) dX8_kin_3 ?_
  refine z_callVi (pc := 4) _ (c_mFamilies l n c d w ln s0 bar q hM hJ) rfl hM.1 rfl rfl kw_931 zc_X8_families (by decide) rfl (Nat.le_of_ble_eq_true rfl) dX8_kin_4 (fun r G1 h => ?_)
  obtain ⟨sc1, ar1, hM1, hF1, hPS, h0⟩ := h
  have hF := zF.trans hF hF1
  clear hF1
  replace hM := hM1
  clear hM1
  obtain ⟨b0, hb0, hr0, h⟩ : ∃ b : Prop, ∃ _ : Decidable b, r = zb b ∧ ((¬ okFam n w ar s0 bar q ∧ ¬ b) ∨ (okFam n w ar s0 bar q ∧ b ∧ ∃ lab, (∀ k, k < n → ar1 33 k = lb ar q lab k) ∧ FL n ar c ln q bar lab)) := by
    rcases h0 with ⟨h1, h2⟩ | ⟨h1, h2, h3⟩
    · exact ⟨False, inferInstance, h2, Or.inl ⟨h1, fun q => q⟩⟩
    · exact ⟨True, inferInstance, h2, Or.inr ⟨h1, trivial, h3⟩⟩
  clear h0
  subst hr0
  refine z_ifz_ne (pc := 7) 12 dX8_kin_7 rfl (fun c7 => ?_) (fun c7 => ?_)
  · obtain ⟨hok, -, lab, h33, hFL⟩ := h.resolve_left (fun g => g.2 c7)
    obtain ⟨⟨ha0, ha1⟩, -, -, hfr⟩ := id hok
    have hn20 := hJ.2.1
    obtain ⟨a, rfl, ha⟩ := ix_in ha0 ha1 (by omega)
    rw [iN_nI (by omega)] at hfr
    have e16 : sc1 16 = nI n := (hPS.1 16 (by omega) (by omega)).trans hJ.1
    refine z_iconst (pc := 12) (0) (by decide) dX8_kin_12 ?_
    refine z_is4 (pc := 13) dX8_kin_13 (by decide) ?_
    refine z_iconst (pc := 15) (0) (by decide) dX8_kin_15 ?_
    refine z_is5 (pc := 16) dX8_kin_16 (by decide) ?_
    have lp : ∀ (dd k : Nat), k + dd = n → Z p l e rX8_kin s m args below meth cC yX8_kin cX8_kin 6 (some FieldType.int) κ Qx (0 + rX8_families.cells) (0 + rX8_families.slots) G1 [some (.ref x), some (.int (nI a)), some (.int bar), some (.int q), some (.int (kinM ar q lab a k)), some (.int (nI k))] 18 [] := by
      intro dd
      induction dd with
      | zero =>
        intro k hkd
        refine z_il5 (pc := 18) dX8_kin_18 ?_
        refine z_al0 (pc := 20) dX8_kin_20 ?_
        refine z_mg16 (pc := 21) hM rfl dX8_kin_21 ?_
        rw [e16]
        refine z_icmp_ge (pc := 24) 59 dX8_kin_24 rfl (fun c24 => ?_) (fun c24 => absurd (by rw [show k = n by omega]; exact Int32.le_refl _) c24)
        rw [show k = n by omega]
        refine z_il4 (pc := 59) dX8_kin_59 ?_
        rw [← hQx]
        refine z_iret (pc := 61) rfl (by decide) dX8_kin_61 (⟨_, rfl, _, _, hM, hF, hPS, Or.inr ⟨hok, lab, hFL, by rw [iN_nI (by omega)]⟩⟩)
      | succ dd ih =>
        intro k hkd
        refine z_il5 (pc := 18) dX8_kin_18 ?_
        refine z_al0 (pc := 20) dX8_kin_20 ?_
        refine z_mg16 (pc := 21) hM rfl dX8_kin_21 ?_
        rw [e16]
        refine z_icmp_ge (pc := 24) 59 dX8_kin_24 rfl (fun c24 => absurd c24 (by rw [nI_leI (by omega) (by omega)]; omega)) (fun c24 => ?_)
        have hkn : k < n := by omega
        refine z_il4 (pc := 27) dX8_kin_27 ?_
        refine z_al0 (pc := 29) dX8_kin_29 ?_
        refine z_mg33 (pc := 30) hM rfl dX8_kin_30 ?_
        refine z_il5 (pc := 33) dX8_kin_33 ?_
        refine z_mld (pc := 35) 33 20 hM rfl (by decide) rfl (by omega) dX8_kin_35 ?_
        refine z_al0 (pc := 36) dX8_kin_36 ?_
        refine z_mg33 (pc := 37) hM rfl dX8_kin_37 ?_
        refine z_il1 (pc := 40) dX8_kin_40 ?_
        refine z_mld (pc := 41) 33 20 hM rfl (by decide) rfl (by omega) dX8_kin_41 ?_
        rw [h33 k hkn, h33 a ha]
        refine z_icmp_ne (pc := 42) 49 dX8_kin_42 rfl (fun c42 => ?_) (fun c42 => ?_)
        · refine z_iconst (pc := 49) (0) (by decide) dX8_kin_49 ?_
          refine z_iadd (pc := 50) dX8_kin_50 ?_
          refine z_is4 (pc := 51) dX8_kin_51 (by decide) ?_
          refine z_ii5 (pc := 53) (nI (k + 1)) dX8_kin_53 (nI_1 _) (by decide) ?_
          refine z_goto (pc := 56) 18 dX8_kin_56 rfl ?_
          have hle := lb_eq (lab := lab) hn20 hkn ha hfr (fun k h1 h2 => (hFL.1 k h1 h2).1)
          refine z_L (L' := [some (.ref x), some (.int (nI a)), some (.int bar), some (.int q), some (.int (kinM ar q lab a (k + 1))), some (.int (nI (k + 1)))]) (by rw [show kinM ar q lab a (k + 1) = kinM ar q lab a k + zb (¬ frg ar k q ∧ lab k = lab a) from rfl, zb_f (fun h => c42 (hle.mpr h))]) ?_
          exact ih (k + 1) (by omega)
        · refine z_iconst (pc := 45) (1) (by decide) dX8_kin_45 ?_
          refine z_goto (pc := 46) 50 dX8_kin_46 rfl ?_
          refine z_iadd (pc := 50) dX8_kin_50 ?_
          refine z_is4 (pc := 51) dX8_kin_51 (by decide) ?_
          refine z_ii5 (pc := 53) (nI (k + 1)) dX8_kin_53 (nI_1 _) (by decide) ?_
          refine z_goto (pc := 56) 18 dX8_kin_56 rfl ?_
          have hle := lb_eq (lab := lab) hn20 hkn ha hfr (fun k h1 h2 => (hFL.1 k h1 h2).1)
          refine z_L (L' := [some (.ref x), some (.int (nI a)), some (.int bar), some (.int q), some (.int (kinM ar q lab a (k + 1))), some (.int (nI (k + 1)))]) (by rw [show kinM ar q lab a (k + 1) = kinM ar q lab a k + zb (¬ frg ar k q ∧ lab k = lab a) from rfl, zb_t (hle.mp c42)]) ?_
          exact ih (k + 1) (by omega)
    exact lp n 0 (by omega)
  · refine z_iconst (pc := 10) (-1) (by decide) dX8_kin_10 ?_
    rw [← hQx]
    refine z_iret (pc := 11) rfl (by decide) dX8_kin_11 (⟨_, rfl, _, _, hM, hF, hPS, Or.inl ⟨(h.resolve_right (fun g => c7 g.2.1)).1, rfl⟩⟩)
abbrev rX8_sung : Room := rmK 5 1 400 122
set_option maxRecDepth 100000 in
set_option maxHeartbeats 400000 in
theorem c_mSung (l : Launch) {κ : zK} {G : zH} {x : Nat} {ad : Nat → Nat} {sc : Nat → Int32} {ar : Nat → Nat → Int32} (n c d w : Nat) (ln : Nat → Nat) (s0 bar q : Int32) (hM : RM κ G x ad sc ar) (hJ : MJ n c d w ln sc ar) : Ct l yX8_sung cX8_sung 6 (some FieldType.int) rX8_sung κ [.ref x, .int s0, .int bar, .int q] G (pI (fun r G2 => ∃ sc2 ar2, RM κ G2 x ad sc2 ar2 ∧ zF 1 G G2 ∧ PS sc ar sc2 ar2 ∧ ((¬ okFam n w ar s0 bar q ∧ r = -1) ∨ (okFam n w ar s0 bar q ∧ ∃ lab, FL n ar c ln q bar lab ∧ r = sungM ar q lab (iN s0) n)))) := by
  refine Ct.of (by decide +kernel) (fun v hv => by
    simp only [List.mem_cons, List.mem_nil_iff, or_false, List.not_mem_nil] at hv
    rcases hv with rfl | rfl | rfl | rfl <;> rfl) (Nat.le_of_ble_eq_true rfl) ?_
  intro p e s m args below meth cC
  refine z_L (L' := [some (.ref x), some (.int s0), some (.int bar), some (.int q), none, none]) rfl ?_
  generalize hQx : MQ below (zQc κ _) args s _ _ (zA κ) = Qx
  have hF : zF 1 G G := zF.rf
  refine z_al0 (pc := 0) dX8_sung_0 ?_
  refine z_il1 (pc := 1) dX8_sung_1 ?_
  refine z_il2 (pc := 2) dX8_sung_2 ?_
  refine z_il3 (pc := 3) dX8_sung_3 ?_
  refine z_callVi (pc := 4) _ (c_mFamilies l n c d w ln s0 bar q hM hJ) rfl hM.1 rfl rfl kw_931 zc_X8_families (by decide) rfl (Nat.le_of_ble_eq_true rfl) dX8_sung_4 (fun r G1 h => ?_)
  obtain ⟨sc1, ar1, hM1, hF1, hPS, h0⟩ := h
  have hF := zF.trans hF hF1
  clear hF1
  replace hM := hM1
  clear hM1
  obtain ⟨b0, hb0, hr0, h⟩ : ∃ b : Prop, ∃ _ : Decidable b, r = zb b ∧ ((¬ okFam n w ar s0 bar q ∧ ¬ b) ∨ (okFam n w ar s0 bar q ∧ b ∧ ∃ lab, (∀ k, k < n → ar1 33 k = lb ar q lab k) ∧ FL n ar c ln q bar lab)) := by
    rcases h0 with ⟨h1, h2⟩ | ⟨h1, h2, h3⟩
    · exact ⟨False, inferInstance, h2, Or.inl ⟨h1, fun q => q⟩⟩
    · exact ⟨True, inferInstance, h2, Or.inr ⟨h1, trivial, h3⟩⟩
  clear h0
  subst hr0
  refine z_ifz_ne (pc := 7) 12 dX8_sung_7 rfl (fun c7 => ?_) (fun c7 => ?_)
  · obtain ⟨hok, -, lab, h33, hFL⟩ := h.resolve_left (fun g => g.2 c7)
    obtain ⟨⟨ha0, ha1⟩, -, -, hfr⟩ := id hok
    have hn20 := hJ.2.1
    obtain ⟨a, rfl, ha⟩ := ix_in ha0 ha1 (by omega)
    rw [iN_nI (by omega)] at hfr
    have e16 : sc1 16 = nI n := (hPS.1 16 (by omega) (by omega)).trans hJ.1
    refine z_iconst (pc := 12) (0) (by decide) dX8_sung_12 ?_
    refine z_is4 (pc := 13) dX8_sung_13 (by decide) ?_
    refine z_iconst (pc := 15) (0) (by decide) dX8_sung_15 ?_
    refine z_is5 (pc := 16) dX8_sung_16 (by decide) ?_
    have lp : ∀ (dd k : Nat), k + dd = n → Z p l e rX8_sung s m args below meth cC yX8_sung cX8_sung 6 (some FieldType.int) κ Qx (0 + rX8_families.cells) (0 + rX8_families.slots) G1 [some (.ref x), some (.int (nI a)), some (.int bar), some (.int q), some (.int (sungM ar q lab a k)), some (.int (nI k))] 18 [] := by
      intro dd
      induction dd with
      | zero =>
        intro k hkd
        refine z_il5 (pc := 18) dX8_sung_18 ?_
        refine z_al0 (pc := 20) dX8_sung_20 ?_
        refine z_mg16 (pc := 21) hM rfl dX8_sung_21 ?_
        rw [e16]
        refine z_icmp_ge (pc := 24) 67 dX8_sung_24 rfl (fun c24 => ?_) (fun c24 => absurd (by rw [show k = n by omega]; exact Int32.le_refl _) c24)
        rw [show k = n by omega]
        refine z_il4 (pc := 67) dX8_sung_67 ?_
        rw [← hQx]
        refine z_iret (pc := 69) rfl (by decide) dX8_sung_69 (⟨_, rfl, _, _, hM, hF, hPS, Or.inr ⟨hok, lab, hFL, by rw [iN_nI (by omega)]⟩⟩)
      | succ dd ih =>
        intro k hkd
        refine z_il5 (pc := 18) dX8_sung_18 ?_
        refine z_al0 (pc := 20) dX8_sung_20 ?_
        refine z_mg16 (pc := 21) hM rfl dX8_sung_21 ?_
        rw [e16]
        refine z_icmp_ge (pc := 24) 67 dX8_sung_24 rfl (fun c24 => absurd c24 (by rw [nI_leI (by omega) (by omega)]; omega)) (fun c24 => ?_)
        have hkn : k < n := by omega
        refine z_il4 (pc := 27) dX8_sung_27 ?_
        refine z_al0 (pc := 29) dX8_sung_29 ?_
        refine z_mg33 (pc := 30) hM rfl dX8_sung_30 ?_
        refine z_il5 (pc := 33) dX8_sung_33 ?_
        refine z_mld (pc := 35) 33 20 hM rfl (by decide) rfl (by omega) dX8_sung_35 ?_
        refine z_al0 (pc := 36) dX8_sung_36 ?_
        refine z_mg33 (pc := 37) hM rfl dX8_sung_37 ?_
        refine z_il1 (pc := 40) dX8_sung_40 ?_
        refine z_mld (pc := 41) 33 20 hM rfl (by decide) rfl (by omega) dX8_sung_41 ?_
        rw [h33 k hkn, h33 a ha]
        refine z_icmp_ne (pc := 42) 57 dX8_sung_42 rfl (fun c42 => ?_) (fun c42 => ?_)
        · refine z_iconst (pc := 57) (0) (by decide) dX8_sung_57 ?_
          refine z_ior (pc := 58) dX8_sung_58 ?_
          refine z_is4 (pc := 59) dX8_sung_59 (by decide) ?_
          refine z_ii5 (pc := 61) (nI (k + 1)) dX8_sung_61 (nI_1 _) (by decide) ?_
          refine z_goto (pc := 64) 18 dX8_sung_64 rfl ?_
          have hle := lb_eq (lab := lab) hn20 hkn ha hfr (fun k h1 h2 => (hFL.1 k h1 h2).1)
          refine z_L (L' := [some (.ref x), some (.int (nI a)), some (.int bar), some (.int q), some (.int (sungM ar q lab a (k + 1))), some (.int (nI (k + 1)))]) (by rw [show sungM ar q lab a (k + 1) = sungM ar q lab a k ||| (if ¬ frg ar k q ∧ lab k = lab a then 1 <<< (ar 3 k &&& 31) else 0) from rfl, if_neg (fun h => c42 (hle.mpr h))]) ?_
          exact ih (k + 1) (by omega)
        · refine z_iconst (pc := 45) (1) (by decide) dX8_sung_45 ?_
          refine z_al0 (pc := 46) dX8_sung_46 ?_
          refine z_mg3 (pc := 47) hM rfl dX8_sung_47 ?_
          refine z_il5 (pc := 50) dX8_sung_50 ?_
          refine z_mld (pc := 52) 3 20 hM rfl (by decide) rfl (by omega) dX8_sung_52 ?_
          refine z_ishl (pc := 53) dX8_sung_53 ?_
          refine z_goto (pc := 54) 58 dX8_sung_54 rfl ?_
          refine z_ior (pc := 58) dX8_sung_58 ?_
          refine z_is4 (pc := 59) dX8_sung_59 (by decide) ?_
          refine z_ii5 (pc := 61) (nI (k + 1)) dX8_sung_61 (nI_1 _) (by decide) ?_
          refine z_goto (pc := 64) 18 dX8_sung_64 rfl ?_
          have hle := lb_eq (lab := lab) hn20 hkn ha hfr (fun k h1 h2 => (hFL.1 k h1 h2).1)
          refine z_L (L' := [some (.ref x), some (.int (nI a)), some (.int bar), some (.int q), some (.int (sungM ar q lab a (k + 1))), some (.int (nI (k + 1)))]) (by rw [show sungM ar q lab a (k + 1) = sungM ar q lab a k ||| (if ¬ frg ar k q ∧ lab k = lab a then 1 <<< (ar 3 k &&& 31) else 0) from rfl, if_pos (hle.mp c42), hPS.2 3 (by omega) (by omega)]) ?_
          exact ih (k + 1) (by omega)
    exact lp n 0 (by omega)
  · refine z_iconst (pc := 10) (-1) (by decide) dX8_sung_10 ?_
    rw [← hQx]
    refine z_iret (pc := 11) rfl (by decide) dX8_sung_11 (⟨_, rfl, _, _, hM, hF, hPS, Or.inl ⟨(h.resolve_right (fun g => c7 g.2.1)).1, rfl⟩⟩)
end
