section
-- ===== PART A: goes FIRST, ahead of the names: the tables' words, and 'selects' of the private methods out of them =====
/-- a private method of a class that the tables say can be made, by its rows of tables_1 -/
def lw_okq (q : MethodName × Nat) : Prop := (q.1.cls ≠ "java/lang/invoke/MethodHandle" ∧ q.1.cls ≠ "java/lang/invoke/VarHandle") ∧ Cond.instantiable q.1.cls q.2 ∈ tables_1 ∧ Cond.privateMethod q.1 ∈ tables_1 ∧ Cond.instanceMethod q.1 ∈ tables_1
theorem lw_p0 : lw_okq (⟨"java/util/ArrayList", "add", "(Ljava/lang/Object;[Ljava/lang/Object;I)V"⟩, 3) := ⟨⟨by decide +kernel, by decide +kernel⟩, List.mem_of_getElem? (i := 93) (by decide +kernel), List.mem_of_getElem? (i := 234) (by decide +kernel), List.mem_of_getElem? (i := 235) (by decide +kernel)⟩
theorem lw_p1 : lw_okq (⟨"java/util/ArrayList", "grow", "()[Ljava/lang/Object;"⟩, 3) := ⟨⟨by decide +kernel, by decide +kernel⟩, List.mem_of_getElem? (i := 93) (by decide +kernel), List.mem_of_getElem? (i := 238) (by decide +kernel), List.mem_of_getElem? (i := 239) (by decide +kernel)⟩
theorem lw_p2 : lw_okq (⟨"java/util/ArrayList", "grow", "(I)[Ljava/lang/Object;"⟩, 3) := ⟨⟨by decide +kernel, by decide +kernel⟩, List.mem_of_getElem? (i := 93) (by decide +kernel), List.mem_of_getElem? (i := 242) (by decide +kernel), List.mem_of_getElem? (i := 243) (by decide +kernel)⟩
theorem lw_p3 : lw_okq (⟨"TuneHouse", "find", "(I)LTuneHouse$Sheet;"⟩, 10) := ⟨⟨by decide +kernel, by decide +kernel⟩, List.mem_of_getElem? (i := 24) (by decide +kernel), List.mem_of_getElem? (i := 292) (by decide +kernel), List.mem_of_getElem? (i := 293) (by decide +kernel)⟩
theorem lw_p4 : lw_okq (⟨"TuneHouse", "isPair", "(LTuneHouse$Sheet;LTuneHouse$Sheet;)Z"⟩, 10) := ⟨⟨by decide +kernel, by decide +kernel⟩, List.mem_of_getElem? (i := 24) (by decide +kernel), List.mem_of_getElem? (i := 390) (by decide +kernel), List.mem_of_getElem? (i := 391) (by decide +kernel)⟩
theorem lw_p5 : lw_okq (⟨"TuneHouse", "isDay", "(I)Z"⟩, 10) := ⟨⟨by decide +kernel, by decide +kernel⟩, List.mem_of_getElem? (i := 24) (by decide +kernel), List.mem_of_getElem? (i := 434) (by decide +kernel), List.mem_of_getElem? (i := 435) (by decide +kernel)⟩
theorem lw_p6 : lw_okq (⟨"TuneHouse", "turnTo", "(I)V"⟩, 10) := ⟨⟨by decide +kernel, by decide +kernel⟩, List.mem_of_getElem? (i := 24) (by decide +kernel), List.mem_of_getElem? (i := 438) (by decide +kernel), List.mem_of_getElem? (i := 439) (by decide +kernel)⟩
theorem lw_p7 : lw_okq (⟨"TuneHouse$Sheet", "amendedBy", "(I)I"⟩, 9) := ⟨⟨by decide +kernel, by decide +kernel⟩, List.mem_of_getElem? (i := 167) (by decide +kernel), List.mem_of_getElem? (i := 446) (by decide +kernel), List.mem_of_getElem? (i := 447) (by decide +kernel)⟩
theorem lw_p8 : lw_okq (⟨"TuneHouse$Likeness", "learn", "(LTuneHouse$Sheet;LTuneHouse$Sheet;)I"⟩, 4) := ⟨⟨by decide +kernel, by decide +kernel⟩, List.mem_of_getElem? (i := 73) (by decide +kernel), List.mem_of_getElem? (i := 466) (by decide +kernel), List.mem_of_getElem? (i := 467) (by decide +kernel)⟩
theorem lw_p9 : lw_okq (⟨"TuneHouse$Aligner", "fillFirstRow", "(LTuneHouse$Tune;I)V"⟩, 7) := ⟨⟨by decide +kernel, by decide +kernel⟩, List.mem_of_getElem? (i := 43) (by decide +kernel), List.mem_of_getElem? (i := 479) (by decide +kernel), List.mem_of_getElem? (i := 480) (by decide +kernel)⟩
theorem lw_p10 : lw_okq (⟨"TuneHouse", "layOut", "(LTuneHouse$Sheet;LTuneHouse$Sheet;)V"⟩, 10) := ⟨⟨by decide +kernel, by decide +kernel⟩, List.mem_of_getElem? (i := 24) (by decide +kernel), List.mem_of_getElem? (i := 499) (by decide +kernel), List.mem_of_getElem? (i := 500) (by decide +kernel)⟩
theorem lw_p11 : lw_okq (⟨"TuneHouse$Aligner", "takesTwo", "(LTuneHouse$Tune;ILTuneHouse$Tune;II)Z"⟩, 7) := ⟨⟨by decide +kernel, by decide +kernel⟩, List.mem_of_getElem? (i := 43) (by decide +kernel), List.mem_of_getElem? (i := 510) (by decide +kernel), List.mem_of_getElem? (i := 511) (by decide +kernel)⟩
theorem lw_p12 : lw_okq (⟨"TuneHouse$Aligner", "put", "(III)V"⟩, 7) := ⟨⟨by decide +kernel, by decide +kernel⟩, List.mem_of_getElem? (i := 43) (by decide +kernel), List.mem_of_getElem? (i := 527) (by decide +kernel), List.mem_of_getElem? (i := 528) (by decide +kernel)⟩
theorem lw_p13 : lw_okq (⟨"TuneHouse$Aligner", "takesOne", "(LTuneHouse$Tune;II)Z"⟩, 7) := ⟨⟨by decide +kernel, by decide +kernel⟩, List.mem_of_getElem? (i := 43) (by decide +kernel), List.mem_of_getElem? (i := 531) (by decide +kernel), List.mem_of_getElem? (i := 532) (by decide +kernel)⟩
theorem lw_p14 : lw_okq (⟨"TuneHouse", "gather", "(III)Z"⟩, 10) := ⟨⟨by decide +kernel, by decide +kernel⟩, List.mem_of_getElem? (i := 24) (by decide +kernel), List.mem_of_getElem? (i := 547) (by decide +kernel), List.mem_of_getElem? (i := 548) (by decide +kernel)⟩
theorem lw_p15 : lw_okq (⟨"TuneHouse", "findTrue", "(II)LTuneHouse$Sheet;"⟩, 10) := ⟨⟨by decide +kernel, by decide +kernel⟩, List.mem_of_getElem? (i := 24) (by decide +kernel), List.mem_of_getElem? (i := 555) (by decide +kernel), List.mem_of_getElem? (i := 556) (by decide +kernel)⟩
def lw_privs_1 : List (MethodName × Nat) := [(⟨"java/util/ArrayList", "add", "(Ljava/lang/Object;[Ljava/lang/Object;I)V"⟩, 3), (⟨"java/util/ArrayList", "grow", "()[Ljava/lang/Object;"⟩, 3), (⟨"java/util/ArrayList", "grow", "(I)[Ljava/lang/Object;"⟩, 3), (⟨"TuneHouse", "find", "(I)LTuneHouse$Sheet;"⟩, 10), (⟨"TuneHouse", "isPair", "(LTuneHouse$Sheet;LTuneHouse$Sheet;)Z"⟩, 10), (⟨"TuneHouse", "isDay", "(I)Z"⟩, 10), (⟨"TuneHouse", "turnTo", "(I)V"⟩, 10), (⟨"TuneHouse$Sheet", "amendedBy", "(I)I"⟩, 9), (⟨"TuneHouse$Likeness", "learn", "(LTuneHouse$Sheet;LTuneHouse$Sheet;)I"⟩, 4), (⟨"TuneHouse$Aligner", "fillFirstRow", "(LTuneHouse$Tune;I)V"⟩, 7), (⟨"TuneHouse", "layOut", "(LTuneHouse$Sheet;LTuneHouse$Sheet;)V"⟩, 10), (⟨"TuneHouse$Aligner", "takesTwo", "(LTuneHouse$Tune;ILTuneHouse$Tune;II)Z"⟩, 7), (⟨"TuneHouse$Aligner", "put", "(III)V"⟩, 7), (⟨"TuneHouse$Aligner", "takesOne", "(LTuneHouse$Tune;II)Z"⟩, 7), (⟨"TuneHouse", "gather", "(III)Z"⟩, 10), (⟨"TuneHouse", "findTrue", "(II)LTuneHouse$Sheet;"⟩, 10)]
theorem lw_r1 : ∀ q ∈ lw_privs_1, lw_okq q := List.forall_mem_cons.mpr ⟨lw_p0, List.forall_mem_cons.mpr ⟨lw_p1, List.forall_mem_cons.mpr ⟨lw_p2, List.forall_mem_cons.mpr ⟨lw_p3, List.forall_mem_cons.mpr ⟨lw_p4, List.forall_mem_cons.mpr ⟨lw_p5, List.forall_mem_cons.mpr ⟨lw_p6, List.forall_mem_cons.mpr ⟨lw_p7, List.forall_mem_cons.mpr ⟨lw_p8, List.forall_mem_cons.mpr ⟨lw_p9, List.forall_mem_cons.mpr ⟨lw_p10, List.forall_mem_cons.mpr ⟨lw_p11, List.forall_mem_cons.mpr ⟨lw_p12, List.forall_mem_cons.mpr ⟨lw_p13, List.forall_mem_cons.mpr ⟨lw_p14, List.forall_mem_cons.mpr ⟨lw_p15, fun _ h => absurd h List.not_mem_nil⟩⟩⟩⟩⟩⟩⟩⟩⟩⟩⟩⟩⟩⟩⟩⟩
theorem lw_p16 : lw_okq (⟨"TuneHouse", "addLinked", "(LTuneHouse$Sheet;II)V"⟩, 10) := ⟨⟨by decide +kernel, by decide +kernel⟩, List.mem_of_getElem? (i := 24) (by decide +kernel), List.mem_of_getElem? (i := 559) (by decide +kernel), List.mem_of_getElem? (i := 560) (by decide +kernel)⟩
theorem lw_p17 : lw_okq (⟨"TuneHouse", "isGathered", "(LTuneHouse$Sheet;)Z"⟩, 10) := ⟨⟨by decide +kernel, by decide +kernel⟩, List.mem_of_getElem? (i := 24) (by decide +kernel), List.mem_of_getElem? (i := 563) (by decide +kernel), List.mem_of_getElem? (i := 564) (by decide +kernel)⟩
theorem lw_p18 : lw_okq (⟨"TuneHouse", "sourceOf", "(LTuneHouse$Sheet;I)LTuneHouse$Sheet;"⟩, 10) := ⟨⟨by decide +kernel, by decide +kernel⟩, List.mem_of_getElem? (i := 24) (by decide +kernel), List.mem_of_getElem? (i := 580) (by decide +kernel), List.mem_of_getElem? (i := 581) (by decide +kernel)⟩
theorem lw_p19 : lw_okq (⟨"TuneHouse", "changesOf", "(LTuneHouse$Sheet;I)I"⟩, 10) := ⟨⟨by decide +kernel, by decide +kernel⟩, List.mem_of_getElem? (i := 24) (by decide +kernel), List.mem_of_getElem? (i := 596) (by decide +kernel), List.mem_of_getElem? (i := 597) (by decide +kernel)⟩
theorem lw_p20 : lw_okq (⟨"TuneHouse", "rivalsOf", "(LTuneHouse$Sheet;LTuneHouse$Sheet;II)I"⟩, 10) := ⟨⟨by decide +kernel, by decide +kernel⟩, List.mem_of_getElem? (i := 24) (by decide +kernel), List.mem_of_getElem? (i := 608) (by decide +kernel), List.mem_of_getElem? (i := 609) (by decide +kernel)⟩
theorem lw_p21 : lw_okq (⟨"TuneHouse", "habitIn", "(LTuneHouse$Sheet;LTuneHouse$Sheet;I)I"⟩, 10) := ⟨⟨by decide +kernel, by decide +kernel⟩, List.mem_of_getElem? (i := 24) (by decide +kernel), List.mem_of_getElem? (i := 621) (by decide +kernel), List.mem_of_getElem? (i := 622) (by decide +kernel)⟩
theorem lw_p22 : lw_okq (⟨"TuneHouse$Aligner", "isMeeting", "(LTuneHouse$Tune;LTuneHouse$Tune;I)Z"⟩, 7) := ⟨⟨by decide +kernel, by decide +kernel⟩, List.mem_of_getElem? (i := 43) (by decide +kernel), List.mem_of_getElem? (i := 629) (by decide +kernel), List.mem_of_getElem? (i := 630) (by decide +kernel)⟩
theorem lw_p23 : lw_okq (⟨"java/lang/Throwable", "fillInStackTrace", "(I)Ljava/lang/Throwable;"⟩, 6) := ⟨⟨by decide +kernel, by decide +kernel⟩, List.mem_of_getElem? (i := 690) (by decide +kernel), List.mem_of_getElem? (i := 688) (by decide +kernel), List.mem_of_getElem? (i := 689) (by decide +kernel)⟩
theorem lw_p24 : lw_okq (⟨"TuneHouseModel", "isSheet", "(I)Z"⟩, 35) := ⟨⟨by decide +kernel, by decide +kernel⟩, List.mem_of_getElem? (i := 717) (by decide +kernel), List.mem_of_getElem? (i := 844) (by decide +kernel), List.mem_of_getElem? (i := 845) (by decide +kernel)⟩
theorem lw_p25 : lw_okq (⟨"TuneHouseModel", "isDay", "(I)Z"⟩, 35) := ⟨⟨by decide +kernel, by decide +kernel⟩, List.mem_of_getElem? (i := 717) (by decide +kernel), List.mem_of_getElem? (i := 875) (by decide +kernel), List.mem_of_getElem? (i := 876) (by decide +kernel)⟩
theorem lw_p26 : lw_okq (⟨"TuneHouseModel", "known", "(IIIZ)I"⟩, 35) := ⟨⟨by decide +kernel, by decide +kernel⟩, List.mem_of_getElem? (i := 717) (by decide +kernel), List.mem_of_getElem? (i := 879) (by decide +kernel), List.mem_of_getElem? (i := 880) (by decide +kernel)⟩
theorem lw_p27 : lw_okq (⟨"TuneHouseModel", "isPair", "(III)Z"⟩, 35) := ⟨⟨by decide +kernel, by decide +kernel⟩, List.mem_of_getElem? (i := 717) (by decide +kernel), List.mem_of_getElem? (i := 887) (by decide +kernel), List.mem_of_getElem? (i := 888) (by decide +kernel)⟩
theorem lw_p28 : lw_okq (⟨"TuneHouseModel", "far", "(III)I"⟩, 35) := ⟨⟨by decide +kernel, by decide +kernel⟩, List.mem_of_getElem? (i := 717) (by decide +kernel), List.mem_of_getElem? (i := 891) (by decide +kernel), List.mem_of_getElem? (i := 892) (by decide +kernel)⟩
theorem lw_p29 : lw_okq (⟨"TuneHouseModel", "ready", "(III)V"⟩, 35) := ⟨⟨by decide +kernel, by decide +kernel⟩, List.mem_of_getElem? (i := 717) (by decide +kernel), List.mem_of_getElem? (i := 895) (by decide +kernel), List.mem_of_getElem? (i := 896) (by decide +kernel)⟩
theorem lw_p30 : lw_okq (⟨"TuneHouseModel", "lay", "(I)I"⟩, 35) := ⟨⟨by decide +kernel, by decide +kernel⟩, List.mem_of_getElem? (i := 717) (by decide +kernel), List.mem_of_getElem? (i := 900) (by decide +kernel), List.mem_of_getElem? (i := 901) (by decide +kernel)⟩
theorem lw_p31 : lw_okq (⟨"TuneHouseModel", "ofTwo", "(III)I"⟩, 35) := ⟨⟨by decide +kernel, by decide +kernel⟩, List.mem_of_getElem? (i := 717) (by decide +kernel), List.mem_of_getElem? (i := 904) (by decide +kernel), List.mem_of_getElem? (i := 905) (by decide +kernel)⟩
def lw_privs_2 : List (MethodName × Nat) := [(⟨"TuneHouse", "addLinked", "(LTuneHouse$Sheet;II)V"⟩, 10), (⟨"TuneHouse", "isGathered", "(LTuneHouse$Sheet;)Z"⟩, 10), (⟨"TuneHouse", "sourceOf", "(LTuneHouse$Sheet;I)LTuneHouse$Sheet;"⟩, 10), (⟨"TuneHouse", "changesOf", "(LTuneHouse$Sheet;I)I"⟩, 10), (⟨"TuneHouse", "rivalsOf", "(LTuneHouse$Sheet;LTuneHouse$Sheet;II)I"⟩, 10), (⟨"TuneHouse", "habitIn", "(LTuneHouse$Sheet;LTuneHouse$Sheet;I)I"⟩, 10), (⟨"TuneHouse$Aligner", "isMeeting", "(LTuneHouse$Tune;LTuneHouse$Tune;I)Z"⟩, 7), (⟨"java/lang/Throwable", "fillInStackTrace", "(I)Ljava/lang/Throwable;"⟩, 6), (⟨"TuneHouseModel", "isSheet", "(I)Z"⟩, 35), (⟨"TuneHouseModel", "isDay", "(I)Z"⟩, 35), (⟨"TuneHouseModel", "known", "(IIIZ)I"⟩, 35), (⟨"TuneHouseModel", "isPair", "(III)Z"⟩, 35), (⟨"TuneHouseModel", "far", "(III)I"⟩, 35), (⟨"TuneHouseModel", "ready", "(III)V"⟩, 35), (⟨"TuneHouseModel", "lay", "(I)I"⟩, 35), (⟨"TuneHouseModel", "ofTwo", "(III)I"⟩, 35)]
theorem lw_r2 : ∀ q ∈ lw_privs_2, lw_okq q := List.forall_mem_cons.mpr ⟨lw_p16, List.forall_mem_cons.mpr ⟨lw_p17, List.forall_mem_cons.mpr ⟨lw_p18, List.forall_mem_cons.mpr ⟨lw_p19, List.forall_mem_cons.mpr ⟨lw_p20, List.forall_mem_cons.mpr ⟨lw_p21, List.forall_mem_cons.mpr ⟨lw_p22, List.forall_mem_cons.mpr ⟨lw_p23, List.forall_mem_cons.mpr ⟨lw_p24, List.forall_mem_cons.mpr ⟨lw_p25, List.forall_mem_cons.mpr ⟨lw_p26, List.forall_mem_cons.mpr ⟨lw_p27, List.forall_mem_cons.mpr ⟨lw_p28, List.forall_mem_cons.mpr ⟨lw_p29, List.forall_mem_cons.mpr ⟨lw_p30, List.forall_mem_cons.mpr ⟨lw_p31, fun _ h => absurd h List.not_mem_nil⟩⟩⟩⟩⟩⟩⟩⟩⟩⟩⟩⟩⟩⟩⟩⟩
theorem lw_p32 : lw_okq (⟨"TuneHouseModel", "alone", "(I)I"⟩, 35) := ⟨⟨by decide +kernel, by decide +kernel⟩, List.mem_of_getElem? (i := 717) (by decide +kernel), List.mem_of_getElem? (i := 912) (by decide +kernel), List.mem_of_getElem? (i := 913) (by decide +kernel)⟩
theorem lw_p33 : lw_okq (⟨"TuneHouseModel", "align", "(III)V"⟩, 35) := ⟨⟨by decide +kernel, by decide +kernel⟩, List.mem_of_getElem? (i := 717) (by decide +kernel), List.mem_of_getElem? (i := 924) (by decide +kernel), List.mem_of_getElem? (i := 925) (by decide +kernel)⟩
theorem lw_p34 : lw_okq (⟨"TuneHouseModel", "families", "(III)Z"⟩, 35) := ⟨⟨by decide +kernel, by decide +kernel⟩, List.mem_of_getElem? (i := 717) (by decide +kernel), List.mem_of_getElem? (i := 932) (by decide +kernel), List.mem_of_getElem? (i := 933) (by decide +kernel)⟩
theorem lw_p35 : lw_okq (⟨"TuneHouseModel", "isForged", "(II)Z"⟩, 35) := ⟨⟨by decide +kernel, by decide +kernel⟩, List.mem_of_getElem? (i := 717) (by decide +kernel), List.mem_of_getElem? (i := 936) (by decide +kernel), List.mem_of_getElem? (i := 937) (by decide +kernel)⟩
theorem lw_p36 : lw_okq (⟨"TuneHouseModel", "isAsked", "(II)Z"⟩, 35) := ⟨⟨by decide +kernel, by decide +kernel⟩, List.mem_of_getElem? (i := 717) (by decide +kernel), List.mem_of_getElem? (i := 952) (by decide +kernel), List.mem_of_getElem? (i := 953) (by decide +kernel)⟩
theorem lw_p37 : lw_okq (⟨"TuneHouseModel", "sourceOf", "(II)I"⟩, 35) := ⟨⟨by decide +kernel, by decide +kernel⟩, List.mem_of_getElem? (i := 717) (by decide +kernel), List.mem_of_getElem? (i := 956) (by decide +kernel), List.mem_of_getElem? (i := 957) (by decide +kernel)⟩
theorem lw_p38 : lw_okq (⟨"TuneHouseModel", "isEarlier", "(II)Z"⟩, 35) := ⟨⟨by decide +kernel, by decide +kernel⟩, List.mem_of_getElem? (i := 717) (by decide +kernel), List.mem_of_getElem? (i := 960) (by decide +kernel), List.mem_of_getElem? (i := 961) (by decide +kernel)⟩
theorem lw_p39 : lw_okq (⟨"TuneHouseModel", "changesOf", "(II)I"⟩, 35) := ⟨⟨by decide +kernel, by decide +kernel⟩, List.mem_of_getElem? (i := 717) (by decide +kernel), List.mem_of_getElem? (i := 968) (by decide +kernel), List.mem_of_getElem? (i := 969) (by decide +kernel)⟩
def lw_privs_3 : List (MethodName × Nat) := [(⟨"TuneHouseModel", "alone", "(I)I"⟩, 35), (⟨"TuneHouseModel", "align", "(III)V"⟩, 35), (⟨"TuneHouseModel", "families", "(III)Z"⟩, 35), (⟨"TuneHouseModel", "isForged", "(II)Z"⟩, 35), (⟨"TuneHouseModel", "isAsked", "(II)Z"⟩, 35), (⟨"TuneHouseModel", "sourceOf", "(II)I"⟩, 35), (⟨"TuneHouseModel", "isEarlier", "(II)Z"⟩, 35), (⟨"TuneHouseModel", "changesOf", "(II)I"⟩, 35)]
theorem lw_r3 : ∀ q ∈ lw_privs_3, lw_okq q := List.forall_mem_cons.mpr ⟨lw_p32, List.forall_mem_cons.mpr ⟨lw_p33, List.forall_mem_cons.mpr ⟨lw_p34, List.forall_mem_cons.mpr ⟨lw_p35, List.forall_mem_cons.mpr ⟨lw_p36, List.forall_mem_cons.mpr ⟨lw_p37, List.forall_mem_cons.mpr ⟨lw_p38, List.forall_mem_cons.mpr ⟨lw_p39, fun _ h => absurd h List.not_mem_nil⟩⟩⟩⟩⟩⟩⟩⟩
def lw_privs : List (MethodName × Nat) := lw_privs_1 ++ (lw_privs_2 ++ (lw_privs_3))
def lw_tbl : List Cond := k2_sels lw_privs ++ tables_1
theorem lw_privs_ok : ∀ q ∈ lw_privs, lw_okq q := by
  show ∀ q ∈ lw_privs_1 ++ (lw_privs_2 ++ (lw_privs_3)), lw_okq q
  exact List.forall_mem_append.mpr ⟨lw_r1, List.forall_mem_append.mpr ⟨lw_r2, lw_r3⟩⟩
def RX0 : String := "TuneHouse$Aligner"
def TX0 : u_T := fun k => match k with
  | 0 => ("TuneHouse$Aligner", "prices", "LTuneHouse$Prices;", true)
  | 1 => ("TuneHouse$Aligner", "sums", "[[I", true)
  | 2 => ("TuneHouse$Aligner", "ofT", "[I", true)
  | 3 => ("TuneHouse$Aligner", "ofU", "[I", true)
  | 4 => ("TuneHouse$Aligner", "costs", "[I", true)
  | 5 => ("TuneHouse$Aligner", "columns", "I", false)
  | _ => ("TuneHouse$Aligner", "laidKey", "I", false)
def tyX0 : Nat → FieldType := fun k => match k with
  | 0 => .object "TuneHouse$Prices"
  | 1 => .array (.array .int)
  | 2 => .array .int
  | 3 => .array .int
  | 4 => .array .int
  | 5 => .int
  | _ => .int
abbrev wsX00 : List Cond := u_ws RX0 TX0 7
theorem nmX0 : ∀ a, a < 7 → ∀ b, b < 7 → a ≠ b → (TX0 a).2.1 ≠ (TX0 b).2.1 := by decide +kernel
theorem tyX0_ok : ∀ k, k < 7 → parseFieldDescriptor (TX0 k).2.2.1 = some (tyX0 k) := by decide +kernel
abbrev cX0_init : ByteArray := prog_2_method_1_code
def yX0_init : MethodName := ⟨RX0, "<init>", "(LTuneHouse$Prices;)V"⟩
abbrev cX0_leastSum : ByteArray := prog_2_method_2_code
def yX0_leastSum : MethodName := ⟨RX0, "leastSum", "(LTuneHouse$Tune;LTuneHouse$Tune;II)I"⟩
abbrev cX0_fillFirstRow : ByteArray := prog_2_method_3_code
def yX0_fillFirstRow : MethodName := ⟨RX0, "fillFirstRow", "(LTuneHouse$Tune;I)V"⟩
abbrev cX0_layOut : ByteArray := prog_2_method_4_code
def yX0_layOut : MethodName := ⟨RX0, "layOut", "(LTuneHouse$Tune;LTuneHouse$Tune;I)V"⟩
abbrev cX0_takesTwo : ByteArray := prog_2_method_5_code
def yX0_takesTwo : MethodName := ⟨RX0, "takesTwo", "(LTuneHouse$Tune;ILTuneHouse$Tune;II)Z"⟩
abbrev cX0_takesOne : ByteArray := prog_2_method_6_code
def yX0_takesOne : MethodName := ⟨RX0, "takesOne", "(LTuneHouse$Tune;II)Z"⟩
abbrev cX0_put : ByteArray := prog_2_method_7_code
def yX0_put : MethodName := ⟨RX0, "put", "(III)V"⟩
abbrev cX0_toldOf : ByteArray := prog_2_method_8_code
def yX0_toldOf : MethodName := ⟨RX0, "toldOf", "(II)I"⟩
abbrev cX0_rise : ByteArray := prog_2_method_9_code
def yX0_rise : MethodName := ⟨RX0, "rise", "(LTuneHouse$Tune;LTuneHouse$Tune;)I"⟩
abbrev cX0_met : ByteArray := prog_2_method_10_code
def yX0_met : MethodName := ⟨RX0, "met", "(LTuneHouse$Tune;LTuneHouse$Tune;)I"⟩
abbrev cX0_isMeeting : ByteArray := prog_2_method_11_code
def yX0_isMeeting : MethodName := ⟨RX0, "isMeeting", "(LTuneHouse$Tune;LTuneHouse$Tune;I)Z"⟩
def RX1 : String := "TuneHouse$Correction"
def TX1 : u_T := fun k => match k with
  | 0 => ("TuneHouse$Correction", "since", "I", true)
  | 1 => ("TuneHouse$Correction", "place", "I", true)
  | 2 => ("TuneHouse$Correction", "pitch", "I", true)
  | _ => ("TuneHouse$Correction", "beats", "I", true)
def tyX1 : Nat → FieldType := fun k => match k with
  | 0 => .int
  | 1 => .int
  | 2 => .int
  | _ => .int
abbrev wsX10 : List Cond := u_ws RX1 TX1 4
theorem nmX1 : ∀ a, a < 4 → ∀ b, b < 4 → a ≠ b → (TX1 a).2.1 ≠ (TX1 b).2.1 := by decide +kernel
theorem tyX1_ok : ∀ k, k < 4 → parseFieldDescriptor (TX1 k).2.2.1 = some (tyX1 k) := by decide +kernel
abbrev cX1_init : ByteArray := prog_3_method_1_code
def yX1_init : MethodName := ⟨RX1, "<init>", "(IIII)V"⟩
def RX2 : String := "TuneHouse$Likeness"
def TX2 : u_T := fun k => match k with
  | 0 => ("TuneHouse$Likeness", "aligner", "LTuneHouse$Aligner;", true)
  | 1 => ("TuneHouse$Likeness", "isKept", "[Z", true)
  | 2 => ("TuneHouse$Likeness", "sums", "[I", true)
  | _ => ("TuneHouse$Likeness", "keys", "[I", true)
def tyX2 : Nat → FieldType := fun k => match k with
  | 0 => .object "TuneHouse$Aligner"
  | 1 => .array .boolean
  | 2 => .array .int
  | _ => .array .int
abbrev wsX20 : List Cond := u_ws RX2 TX2 4
theorem nmX2 : ∀ a, a < 4 → ∀ b, b < 4 → a ≠ b → (TX2 a).2.1 ≠ (TX2 b).2.1 := by decide +kernel
theorem tyX2_ok : ∀ k, k < 4 → parseFieldDescriptor (TX2 k).2.2.1 = some (tyX2 k) := by decide +kernel
abbrev cX2_init : ByteArray := prog_4_method_1_code
def yX2_init : MethodName := ⟨RX2, "<init>", "(LTuneHouse$Aligner;)V"⟩
abbrev cX2_apart : ByteArray := prog_4_method_2_code
def yX2_apart : MethodName := ⟨RX2, "apart", "(LTuneHouse$Sheet;LTuneHouse$Sheet;)I"⟩
abbrev cX2_toldKey : ByteArray := prog_4_method_3_code
def yX2_toldKey : MethodName := ⟨RX2, "toldKey", "(LTuneHouse$Sheet;LTuneHouse$Sheet;)I"⟩
abbrev cX2_forget : ByteArray := prog_4_method_4_code
def yX2_forget : MethodName := ⟨RX2, "forget", "(LTuneHouse$Sheet;)V"⟩
abbrev cX2_forgetAll : ByteArray := prog_4_method_5_code
def yX2_forgetAll : MethodName := ⟨RX2, "forgetAll", "()V"⟩
abbrev cX2_learn : ByteArray := prog_4_method_6_code
def yX2_learn : MethodName := ⟨RX2, "learn", "(LTuneHouse$Sheet;LTuneHouse$Sheet;)I"⟩
def RX3 : String := "TuneHouse$Pair"
def TX3 : u_T := fun k => match k with
  | 0 => ("TuneHouse$Pair", "one", "LTuneHouse$Sheet;", true)
  | _ => ("TuneHouse$Pair", "other", "LTuneHouse$Sheet;", true)
def tyX3 : Nat → FieldType := fun k => match k with
  | 0 => .object "TuneHouse$Sheet"
  | _ => .object "TuneHouse$Sheet"
abbrev wsX30 : List Cond := u_ws RX3 TX3 2
theorem nmX3 : ∀ a, a < 2 → ∀ b, b < 2 → a ≠ b → (TX3 a).2.1 ≠ (TX3 b).2.1 := by decide +kernel
theorem tyX3_ok : ∀ k, k < 2 → parseFieldDescriptor (TX3 k).2.2.1 = some (tyX3 k) := by decide +kernel
abbrev cX3_init : ByteArray := prog_5_method_1_code
def yX3_init : MethodName := ⟨RX3, "<init>", "(LTuneHouse$Sheet;LTuneHouse$Sheet;)V"⟩
abbrev cX3_joins : ByteArray := prog_5_method_2_code
def yX3_joins : MethodName := ⟨RX3, "joins", "(LTuneHouse$Sheet;LTuneHouse$Sheet;)Z"⟩
abbrev cX3_sheetOf : ByteArray := prog_5_method_3_code
def yX3_sheetOf : MethodName := ⟨RX3, "sheetOf", "(I)LTuneHouse$Sheet;"⟩
def RX4 : String := "TuneHouse$Prices"
def TX4 : u_T := fun k => match k with
  | _ => ("TuneHouse$Prices", "coins", "[I", true)
def tyX4 : Nat → FieldType := fun k => match k with
  | _ => .array .int
abbrev wsX40 : List Cond := u_ws RX4 TX4 1
theorem nmX4 : ∀ a, a < 1 → ∀ b, b < 1 → a ≠ b → (TX4 a).2.1 ≠ (TX4 b).2.1 := by decide +kernel
theorem tyX4_ok : ∀ k, k < 1 → parseFieldDescriptor (TX4 k).2.2.1 = some (tyX4 k) := by decide +kernel
abbrev cX4_init : ByteArray := prog_6_method_1_code
def yX4_init : MethodName := ⟨RX4, "<init>", "()V"⟩
abbrev cX4_set : ByteArray := prog_6_method_2_code
def yX4_set : MethodName := ⟨RX4, "set", "(II)Z"⟩
abbrev cX4_anew : ByteArray := prog_6_method_3_code
def yX4_anew : MethodName := ⟨RX4, "anew", "()I"⟩
abbrev cX4_out : ByteArray := prog_6_method_4_code
def yX4_out : MethodName := ⟨RX4, "out", "()I"⟩
abbrev cX4_ofNotes : ByteArray := prog_6_method_5_code
def yX4_ofNotes : MethodName := ⟨RX4, "ofNotes", "(II)I"⟩
abbrev cX4_ofTwo : ByteArray := prog_6_method_6_code
def yX4_ofTwo : MethodName := ⟨RX4, "ofTwo", "(LTuneHouse$Tune;ILTuneHouse$Tune;II)I"⟩
abbrev cX4_ofOne : ByteArray := prog_6_method_7_code
def yX4_ofOne : MethodName := ⟨RX4, "ofOne", "(LTuneHouse$Tune;I)I"⟩
def RX5 : String := "TuneHouse$Sheet"
def TX5 : u_T := fun k => match k with
  | 0 => ("TuneHouse$Sheet", "number", "I", true)
  | 1 => ("TuneHouse$Sheet", "hand", "I", true)
  | 2 => ("TuneHouse$Sheet", "year", "I", true)
  | 3 => ("TuneHouse$Sheet", "words", "I", true)
  | 4 => ("TuneHouse$Sheet", "known", "LTuneHouse$Tune;", true)
  | 5 => ("TuneHouse$Sheet", "told", "LTuneHouse$Tune;", true)
  | 6 => ("TuneHouse$Sheet", "amended", "Ljava/util/ArrayList;", true)
  | 7 => ("TuneHouse$Sheet", "applied", "I", false)
  | _ => ("TuneHouse$Sheet", "forgedOn", "I", false)
def tyX5 : Nat → FieldType := fun k => match k with
  | 0 => .int
  | 1 => .int
  | 2 => .int
  | 3 => .int
  | 4 => .object "TuneHouse$Tune"
  | 5 => .object "TuneHouse$Tune"
  | 6 => .object "java/util/ArrayList"
  | 7 => .int
  | _ => .int
abbrev wsX50 : List Cond := u_ws RX5 TX5 9
theorem nmX5 : ∀ a, a < 9 → ∀ b, b < 9 → a ≠ b → (TX5 a).2.1 ≠ (TX5 b).2.1 := by decide +kernel
theorem tyX5_ok : ∀ k, k < 9 → parseFieldDescriptor (TX5 k).2.2.1 = some (tyX5 k) := by decide +kernel
abbrev cX5_init : ByteArray := prog_7_method_1_code
def yX5_init : MethodName := ⟨RX5, "<init>", "(IIII)V"⟩
abbrev cX5_length : ByteArray := prog_7_method_2_code
def yX5_length : MethodName := ⟨RX5, "length", "()I"⟩
abbrev cX5_has : ByteArray := prog_7_method_3_code
def yX5_has : MethodName := ⟨RX5, "has", "(I)Z"⟩
abbrev cX5_append : ByteArray := prog_7_method_4_code
def yX5_append : MethodName := ⟨RX5, "append", "(II)Z"⟩
abbrev cX5_amend : ByteArray := prog_7_method_5_code
def yX5_amend : MethodName := ⟨RX5, "amend", "(LTuneHouse$Correction;)V"⟩
abbrev cX5_markForged : ByteArray := prog_7_method_6_code
def yX5_markForged : MethodName := ⟨RX5, "markForged", "(I)V"⟩
abbrev cX5_isForgedBy : ByteArray := prog_7_method_7_code
def yX5_isForgedBy : MethodName := ⟨RX5, "isForgedBy", "(I)Z"⟩
abbrev cX5_isEarlierThan : ByteArray := prog_7_method_8_code
def yX5_isEarlierThan : MethodName := ⟨RX5, "isEarlierThan", "(LTuneHouse$Sheet;)Z"⟩
abbrev cX5_openOn : ByteArray := prog_7_method_9_code
def yX5_openOn : MethodName := ⟨RX5, "openOn", "(I)Z"⟩
abbrev cX5_amendedBy : ByteArray := prog_7_method_10_code
def yX5_amendedBy : MethodName := ⟨RX5, "amendedBy", "(I)I"⟩
def RX6 : String := "TuneHouse$Tune"
def TX6 : u_T := fun k => match k with
  | 0 => ("TuneHouse$Tune", "pitches", "[I", true)
  | 1 => ("TuneHouse$Tune", "beats", "[I", true)
  | _ => ("TuneHouse$Tune", "length", "I", false)
def tyX6 : Nat → FieldType := fun k => match k with
  | 0 => .array .int
  | 1 => .array .int
  | _ => .int
abbrev wsX60 : List Cond := u_ws RX6 TX6 3
theorem nmX6 : ∀ a, a < 3 → ∀ b, b < 3 → a ≠ b → (TX6 a).2.1 ≠ (TX6 b).2.1 := by decide +kernel
theorem tyX6_ok : ∀ k, k < 3 → parseFieldDescriptor (TX6 k).2.2.1 = some (tyX6 k) := by decide +kernel
abbrev cX6_init : ByteArray := prog_8_method_1_code
def yX6_init : MethodName := ⟨RX6, "<init>", "()V"⟩
abbrev cX6_length : ByteArray := prog_8_method_2_code
def yX6_length : MethodName := ⟨RX6, "length", "()I"⟩
abbrev cX6_has : ByteArray := prog_8_method_3_code
def yX6_has : MethodName := ⟨RX6, "has", "(I)Z"⟩
abbrev cX6_pitchAt : ByteArray := prog_8_method_4_code
def yX6_pitchAt : MethodName := ⟨RX6, "pitchAt", "(I)I"⟩
abbrev cX6_beatsAt : ByteArray := prog_8_method_5_code
def yX6_beatsAt : MethodName := ⟨RX6, "beatsAt", "(I)I"⟩
abbrev cX6_append : ByteArray := prog_8_method_6_code
def yX6_append : MethodName := ⟨RX6, "append", "(II)Z"⟩
abbrev cX6_put : ByteArray := prog_8_method_7_code
def yX6_put : MethodName := ⟨RX6, "put", "(III)V"⟩
abbrev cX6_copy : ByteArray := prog_8_method_8_code
def yX6_copy : MethodName := ⟨RX6, "copy", "(LTuneHouse$Tune;)V"⟩
def RX7 : String := "TuneHouse"
def TX7 : u_T := fun k => match k with
  | 0 => ("TuneHouse", "prices", "LTuneHouse$Prices;", true)
  | 1 => ("TuneHouse", "aligner", "LTuneHouse$Aligner;", true)
  | 2 => ("TuneHouse", "likeness", "LTuneHouse$Likeness;", true)
  | 3 => ("TuneHouse", "sheets", "Ljava/util/ArrayList;", true)
  | 4 => ("TuneHouse", "pairs", "Ljava/util/ArrayList;", true)
  | 5 => ("TuneHouse", "kinsfolk", "Ljava/util/ArrayList;", true)
  | 6 => ("TuneHouse", "now", "I", false)
  | 7 => ("TuneHouse", "forgeries", "I", false)
  | 8 => ("TuneHouse", "notesTold", "I", false)
  | _ => ("TuneHouse", "corrections", "I", false)
def tyX7 : Nat → FieldType := fun k => match k with
  | 0 => .object "TuneHouse$Prices"
  | 1 => .object "TuneHouse$Aligner"
  | 2 => .object "TuneHouse$Likeness"
  | 3 => .object "java/util/ArrayList"
  | 4 => .object "java/util/ArrayList"
  | 5 => .object "java/util/ArrayList"
  | 6 => .int
  | 7 => .int
  | 8 => .int
  | _ => .int
abbrev wsX70 : List Cond := u_ws RX7 TX7 10
theorem nmX7 : ∀ a, a < 10 → ∀ b, b < 10 → a ≠ b → (TX7 a).2.1 ≠ (TX7 b).2.1 := by decide +kernel
theorem tyX7_ok : ∀ k, k < 10 → parseFieldDescriptor (TX7 k).2.2.1 = some (tyX7 k) := by decide +kernel
abbrev cX7_init : ByteArray := prog_1_method_1_code
def yX7_init : MethodName := ⟨RX7, "<init>", "()V"⟩
abbrev cX7_sheet : ByteArray := prog_1_method_2_code
def yX7_sheet : MethodName := ⟨RX7, "sheet", "(III)I"⟩
abbrev cX7_note : ByteArray := prog_1_method_3_code
def yX7_note : MethodName := ⟨RX7, "note", "(III)I"⟩
abbrev cX7_correct : ByteArray := prog_1_method_4_code
def yX7_correct : MethodName := ⟨RX7, "correct", "(IIII)Z"⟩
abbrev cX7_forge : ByteArray := prog_1_method_5_code
def yX7_forge : MethodName := ⟨RX7, "forge", "(I)Z"⟩
abbrev cX7_doubles : ByteArray := prog_1_method_6_code
def yX7_doubles : MethodName := ⟨RX7, "doubles", "(II)Z"⟩
abbrev cX7_days : ByteArray := prog_1_method_7_code
def yX7_days : MethodName := ⟨RX7, "days", "(I)I"⟩
abbrev cX7_price : ByteArray := prog_1_method_8_code
def yX7_price : MethodName := ⟨RX7, "price", "(II)Z"⟩
abbrev cX7_at : ByteArray := prog_1_method_9_code
def yX7_at : MethodName := ⟨RX7, "at", "(IIII)I"⟩
abbrev cX7_distance : ByteArray := prog_1_method_10_code
def yX7_distance : MethodName := ⟨RX7, "distance", "(III)I"⟩
abbrev cX7_key : ByteArray := prog_1_method_11_code
def yX7_key : MethodName := ⟨RX7, "key", "(III)I"⟩
abbrev cX7_column : ByteArray := prog_1_method_12_code
def yX7_column : MethodName := ⟨RX7, "column", "(IIIII)I"⟩
abbrev cX7_family : ByteArray := prog_1_method_13_code
def yX7_family : MethodName := ⟨RX7, "family", "(III)I"⟩
abbrev cX7_kin : ByteArray := prog_1_method_14_code
def yX7_kin : MethodName := ⟨RX7, "kin", "(III)I"⟩
abbrev cX7_sung : ByteArray := prog_1_method_15_code
def yX7_sung : MethodName := ⟨RX7, "sung", "(III)I"⟩
abbrev cX7_source : ByteArray := prog_1_method_16_code
def yX7_source : MethodName := ⟨RX7, "source", "(II)I"⟩
abbrev cX7_changes : ByteArray := prog_1_method_17_code
def yX7_changes : MethodName := ⟨RX7, "changes", "(II)I"⟩
abbrev cX7_all : ByteArray := prog_1_method_18_code
def yX7_all : MethodName := ⟨RX7, "all", "(I)I"⟩
abbrev cX7_doubt : ByteArray := prog_1_method_19_code
def yX7_doubt : MethodName := ⟨RX7, "doubt", "(III)I"⟩
abbrev cX7_habit : ByteArray := prog_1_method_20_code
def yX7_habit : MethodName := ⟨RX7, "habit", "(IIII)I"⟩
abbrev cX7_span : ByteArray := prog_1_method_21_code
def yX7_span : MethodName := ⟨RX7, "span", "(IIZ)I"⟩
abbrev cX7_count : ByteArray := prog_1_method_22_code
def yX7_count : MethodName := ⟨RX7, "count", "(I)I"⟩
abbrev cX7_isWithin : ByteArray := prog_1_method_23_code
def yX7_isWithin : MethodName := ⟨RX7, "isWithin", "(II)Z"⟩
abbrev cX7_isHand : ByteArray := prog_1_method_24_code
def yX7_isHand : MethodName := ⟨RX7, "isHand", "(I)Z"⟩
abbrev cX7_isWords : ByteArray := prog_1_method_25_code
def yX7_isWords : MethodName := ⟨RX7, "isWords", "(I)Z"⟩
abbrev cX7_isNote : ByteArray := prog_1_method_26_code
def yX7_isNote : MethodName := ⟨RX7, "isNote", "(II)Z"⟩
abbrev cX7_isDay : ByteArray := prog_1_method_27_code
def yX7_isDay : MethodName := ⟨RX7, "isDay", "(I)Z"⟩
abbrev cX7_isPair : ByteArray := prog_1_method_28_code
def yX7_isPair : MethodName := ⟨RX7, "isPair", "(LTuneHouse$Sheet;LTuneHouse$Sheet;)Z"⟩
abbrev cX7_find : ByteArray := prog_1_method_29_code
def yX7_find : MethodName := ⟨RX7, "find", "(I)LTuneHouse$Sheet;"⟩
abbrev cX7_findTrue : ByteArray := prog_1_method_30_code
def yX7_findTrue : MethodName := ⟨RX7, "findTrue", "(II)LTuneHouse$Sheet;"⟩
abbrev cX7_turnTo : ByteArray := prog_1_method_31_code
def yX7_turnTo : MethodName := ⟨RX7, "turnTo", "(I)V"⟩
abbrev cX7_layOut : ByteArray := prog_1_method_32_code
def yX7_layOut : MethodName := ⟨RX7, "layOut", "(LTuneHouse$Sheet;LTuneHouse$Sheet;)V"⟩
abbrev cX7_gather : ByteArray := prog_1_method_33_code
def yX7_gather : MethodName := ⟨RX7, "gather", "(III)Z"⟩
abbrev cX7_addLinked : ByteArray := prog_1_method_34_code
def yX7_addLinked : MethodName := ⟨RX7, "addLinked", "(LTuneHouse$Sheet;II)V"⟩
abbrev cX7_isGathered : ByteArray := prog_1_method_35_code
def yX7_isGathered : MethodName := ⟨RX7, "isGathered", "(LTuneHouse$Sheet;)Z"⟩
abbrev cX7_sourceOf : ByteArray := prog_1_method_36_code
def yX7_sourceOf : MethodName := ⟨RX7, "sourceOf", "(LTuneHouse$Sheet;I)LTuneHouse$Sheet;"⟩
abbrev cX7_changesOf : ByteArray := prog_1_method_37_code
def yX7_changesOf : MethodName := ⟨RX7, "changesOf", "(LTuneHouse$Sheet;I)I"⟩
abbrev cX7_rivalsOf : ByteArray := prog_1_method_38_code
def yX7_rivalsOf : MethodName := ⟨RX7, "rivalsOf", "(LTuneHouse$Sheet;LTuneHouse$Sheet;II)I"⟩
abbrev cX7_habitIn : ByteArray := prog_1_method_39_code
def yX7_habitIn : MethodName := ⟨RX7, "habitIn", "(LTuneHouse$Sheet;LTuneHouse$Sheet;I)I"⟩
def RX8 : String := "TuneHouseModel"
def TX8 : u_T := fun k => match k with
  | 0 => ("TuneHouseModel", "thrown", "I", false)
  | 1 => ("TuneHouseModel", "hand", "[I", true)
  | 2 => ("TuneHouseModel", "year", "[I", true)
  | 3 => ("TuneHouseModel", "words", "[I", true)
  | 4 => ("TuneHouseModel", "length", "[I", true)
  | 5 => ("TuneHouseModel", "forged", "[I", true)
  | 6 => ("TuneHouseModel", "notePitch", "[I", true)
  | 7 => ("TuneHouseModel", "noteBeats", "[I", true)
  | 8 => ("TuneHouseModel", "correctedSheet", "[I", true)
  | 9 => ("TuneHouseModel", "correctedNote", "[I", true)
  | 10 => ("TuneHouseModel", "correctedPitch", "[I", true)
  | 11 => ("TuneHouseModel", "correctedBeats", "[I", true)
  | 12 => ("TuneHouseModel", "correctedDay", "[I", true)
  | 13 => ("TuneHouseModel", "doubleOne", "[I", true)
  | 14 => ("TuneHouseModel", "doubleOther", "[I", true)
  | 15 => ("TuneHouseModel", "price", "[I", true)
  | 16 => ("TuneHouseModel", "sheets", "I", false)
  | 17 => ("TuneHouseModel", "corrections", "I", false)
  | 18 => ("TuneHouseModel", "doubles", "I", false)
  | 19 => ("TuneHouseModel", "now", "I", false)
  | 20 => ("TuneHouseModel", "firstPitch", "[I", true)
  | 21 => ("TuneHouseModel", "firstBeats", "[I", true)
  | 22 => ("TuneHouseModel", "secondPitch", "[I", true)
  | 23 => ("TuneHouseModel", "secondBeats", "[I", true)
  | 24 => ("TuneHouseModel", "sums", "[I", true)
  | 25 => ("TuneHouseModel", "firstLong", "I", false)
  | 26 => ("TuneHouseModel", "secondLong", "I", false)
  | 27 => ("TuneHouseModel", "told", "I", false)
  | 28 => ("TuneHouseModel", "toldKey", "I", false)
  | 29 => ("TuneHouseModel", "columnFirst", "[I", true)
  | 30 => ("TuneHouseModel", "columnSecond", "[I", true)
  | 31 => ("TuneHouseModel", "columnPrice", "[I", true)
  | 32 => ("TuneHouseModel", "columns", "I", false)
  | 33 => ("TuneHouseModel", "family", "[I", true)
  | _ => ("TuneHouseModel", "sourceFar", "I", false)
def tyX8 : Nat → FieldType := fun k => match k with
  | 0 => .int
  | 1 => .array .int
  | 2 => .array .int
  | 3 => .array .int
  | 4 => .array .int
  | 5 => .array .int
  | 6 => .array .int
  | 7 => .array .int
  | 8 => .array .int
  | 9 => .array .int
  | 10 => .array .int
  | 11 => .array .int
  | 12 => .array .int
  | 13 => .array .int
  | 14 => .array .int
  | 15 => .array .int
  | 16 => .int
  | 17 => .int
  | 18 => .int
  | 19 => .int
  | 20 => .array .int
  | 21 => .array .int
  | 22 => .array .int
  | 23 => .array .int
  | 24 => .array .int
  | 25 => .int
  | 26 => .int
  | 27 => .int
  | 28 => .int
  | 29 => .array .int
  | 30 => .array .int
  | 31 => .array .int
  | 32 => .int
  | 33 => .array .int
  | _ => .int
abbrev wsX80 : List Cond := u_ws RX8 TX8 35
theorem nmX8 : ∀ a, a < 35 → ∀ b, b < 35 → a ≠ b → (TX8 a).2.1 ≠ (TX8 b).2.1 := by decide +kernel
theorem tyX8_ok : ∀ k, k < 35 → parseFieldDescriptor (TX8 k).2.2.1 = some (tyX8 k) := by decide +kernel
abbrev cX8_init : ByteArray := prog_10_method_1_code
def yX8_init : MethodName := ⟨RX8, "<init>", "()V"⟩
abbrev cX8_thrown : ByteArray := prog_10_method_2_code
def yX8_thrown : MethodName := ⟨RX8, "thrown", "()I"⟩
abbrev cX8_isIn : ByteArray := prog_10_method_3_code
def yX8_isIn : MethodName := ⟨RX8, "isIn", "(III)Z"⟩
abbrev cX8_isSheet : ByteArray := prog_10_method_4_code
def yX8_isSheet : MethodName := ⟨RX8, "isSheet", "(I)Z"⟩
abbrev cX8_isDay : ByteArray := prog_10_method_5_code
def yX8_isDay : MethodName := ⟨RX8, "isDay", "(I)Z"⟩
abbrev cX8_sheet : ByteArray := prog_10_method_6_code
def yX8_sheet : MethodName := ⟨RX8, "sheet", "(III)I"⟩
abbrev cX8_isNote : ByteArray := prog_10_method_7_code
def yX8_isNote : MethodName := ⟨RX8, "isNote", "(II)Z"⟩
abbrev cX8_note : ByteArray := prog_10_method_8_code
def yX8_note : MethodName := ⟨RX8, "note", "(III)I"⟩
abbrev cX8_correct : ByteArray := prog_10_method_9_code
def yX8_correct : MethodName := ⟨RX8, "correct", "(IIII)Z"⟩
abbrev cX8_forge : ByteArray := prog_10_method_10_code
def yX8_forge : MethodName := ⟨RX8, "forge", "(I)Z"⟩
abbrev cX8_doubles : ByteArray := prog_10_method_11_code
def yX8_doubles : MethodName := ⟨RX8, "doubles", "(II)Z"⟩
abbrev cX8_days : ByteArray := prog_10_method_12_code
def yX8_days : MethodName := ⟨RX8, "days", "(I)I"⟩
abbrev cX8_price : ByteArray := prog_10_method_13_code
def yX8_price : MethodName := ⟨RX8, "price", "(II)Z"⟩
abbrev cX8_known : ByteArray := prog_10_method_14_code
def yX8_known : MethodName := ⟨RX8, "known", "(IIIZ)I"⟩
abbrev cX8_isForged : ByteArray := prog_10_method_15_code
def yX8_isForged : MethodName := ⟨RX8, "isForged", "(II)Z"⟩
abbrev cX8_at : ByteArray := prog_10_method_16_code
def yX8_at : MethodName := ⟨RX8, "at", "(IIII)I"⟩
abbrev cX8_ready : ByteArray := prog_10_method_17_code
def yX8_ready : MethodName := ⟨RX8, "ready", "(III)V"⟩
abbrev cX8_ofTwo : ByteArray := prog_10_method_18_code
def yX8_ofTwo : MethodName := ⟨RX8, "ofTwo", "(III)I"⟩
abbrev cX8_alone : ByteArray := prog_10_method_19_code
def yX8_alone : MethodName := ⟨RX8, "alone", "(I)I"⟩
abbrev cX8_lay : ByteArray := prog_10_method_20_code
def yX8_lay : MethodName := ⟨RX8, "lay", "(I)I"⟩
abbrev cX8_far : ByteArray := prog_10_method_21_code
def yX8_far : MethodName := ⟨RX8, "far", "(III)I"⟩
abbrev cX8_isPair : ByteArray := prog_10_method_22_code
def yX8_isPair : MethodName := ⟨RX8, "isPair", "(III)Z"⟩
abbrev cX8_distance : ByteArray := prog_10_method_23_code
def yX8_distance : MethodName := ⟨RX8, "distance", "(III)I"⟩
abbrev cX8_key : ByteArray := prog_10_method_24_code
def yX8_key : MethodName := ⟨RX8, "key", "(III)I"⟩
abbrev cX8_align : ByteArray := prog_10_method_25_code
def yX8_align : MethodName := ⟨RX8, "align", "(III)V"⟩
abbrev cX8_column : ByteArray := prog_10_method_26_code
def yX8_column : MethodName := ⟨RX8, "column", "(IIIII)I"⟩
abbrev cX8_families : ByteArray := prog_10_method_27_code
def yX8_families : MethodName := ⟨RX8, "families", "(III)Z"⟩
abbrev cX8_family : ByteArray := prog_10_method_28_code
def yX8_family : MethodName := ⟨RX8, "family", "(III)I"⟩
abbrev cX8_kin : ByteArray := prog_10_method_29_code
def yX8_kin : MethodName := ⟨RX8, "kin", "(III)I"⟩
abbrev cX8_sung : ByteArray := prog_10_method_30_code
def yX8_sung : MethodName := ⟨RX8, "sung", "(III)I"⟩
abbrev cX8_isEarlier : ByteArray := prog_10_method_31_code
def yX8_isEarlier : MethodName := ⟨RX8, "isEarlier", "(II)Z"⟩
abbrev cX8_sourceOf : ByteArray := prog_10_method_32_code
def yX8_sourceOf : MethodName := ⟨RX8, "sourceOf", "(II)I"⟩
abbrev cX8_isAsked : ByteArray := prog_10_method_33_code
def yX8_isAsked : MethodName := ⟨RX8, "isAsked", "(II)Z"⟩
abbrev cX8_source : ByteArray := prog_10_method_34_code
def yX8_source : MethodName := ⟨RX8, "source", "(II)I"⟩
abbrev cX8_changesOf : ByteArray := prog_10_method_35_code
def yX8_changesOf : MethodName := ⟨RX8, "changesOf", "(II)I"⟩
abbrev cX8_changes : ByteArray := prog_10_method_36_code
def yX8_changes : MethodName := ⟨RX8, "changes", "(II)I"⟩
abbrev cX8_all : ByteArray := prog_10_method_37_code
def yX8_all : MethodName := ⟨RX8, "all", "(I)I"⟩
abbrev cX8_doubt : ByteArray := prog_10_method_38_code
def yX8_doubt : MethodName := ⟨RX8, "doubt", "(III)I"⟩
abbrev cX8_habit : ByteArray := prog_10_method_39_code
def yX8_habit : MethodName := ⟨RX8, "habit", "(IIII)I"⟩
abbrev cX8_span : ByteArray := prog_10_method_40_code
def yX8_span : MethodName := ⟨RX8, "span", "(IIZ)I"⟩
abbrev cX8_count : ByteArray := prog_10_method_41_code
def yX8_count : MethodName := ⟨RX8, "count", "(I)I"⟩
def RJx145de : String := "java/io/Serializable"
def TJx145de : u_T := fun k => match k with
  | _ => ("", "", "", false)
def tyJx145de : Nat → FieldType := fun k => match k with
  | _ => .int
abbrev wsJx145de0 : List Cond := u_ws RJx145de TJx145de 0
theorem nmJx145de : ∀ a, a < 0 → ∀ b, b < 0 → a ≠ b → (TJx145de a).2.1 ≠ (TJx145de b).2.1 := by decide +kernel
theorem tyJx145de_ok : ∀ k, k < 0 → parseFieldDescriptor (TJx145de k).2.2.1 = some (tyJx145de k) := by decide +kernel
def RJx8e188 : String := "java/lang/Cloneable"
def TJx8e188 : u_T := fun k => match k with
  | _ => ("", "", "", false)
def tyJx8e188 : Nat → FieldType := fun k => match k with
  | _ => .int
abbrev wsJx8e1880 : List Cond := u_ws RJx8e188 TJx8e188 0
theorem nmJx8e188 : ∀ a, a < 0 → ∀ b, b < 0 → a ≠ b → (TJx8e188 a).2.1 ≠ (TJx8e188 b).2.1 := by decide +kernel
theorem tyJx8e188_ok : ∀ k, k < 0 → parseFieldDescriptor (TJx8e188 k).2.2.1 = some (tyJx8e188 k) := by decide +kernel
def RJxab1ab : String := "java/lang/Iterable"
def TJxab1ab : u_T := fun k => match k with
  | _ => ("", "", "", false)
def tyJxab1ab : Nat → FieldType := fun k => match k with
  | _ => .int
abbrev wsJxab1ab0 : List Cond := u_ws RJxab1ab TJxab1ab 0
theorem nmJxab1ab : ∀ a, a < 0 → ∀ b, b < 0 → a ≠ b → (TJxab1ab a).2.1 ≠ (TJxab1ab b).2.1 := by decide +kernel
theorem tyJxab1ab_ok : ∀ k, k < 0 → parseFieldDescriptor (TJxab1ab k).2.2.1 = some (tyJxab1ab k) := by decide +kernel
def RJ9 : String := "java/lang/Math"
def TJ9 : u_T := fun k => match k with
  | _ => ("", "", "", false)
def tyJ9 : Nat → FieldType := fun k => match k with
  | _ => .int
abbrev wsJ90 : List Cond := u_ws RJ9 TJ9 0
theorem nmJ9 : ∀ a, a < 0 → ∀ b, b < 0 → a ≠ b → (TJ9 a).2.1 ≠ (TJ9 b).2.1 := by decide +kernel
theorem tyJ9_ok : ∀ k, k < 0 → parseFieldDescriptor (TJ9 k).2.2.1 = some (tyJ9 k) := by decide +kernel
abbrev cJ9_abs_0f7a4 : ByteArray := prog_15_method_59_code
def yJ9_abs_0f7a4 : MethodName := ⟨RJ9, "abs", "(I)I"⟩
abbrev cJ9_max_7cf53 : ByteArray := prog_15_method_65_code
def yJ9_max_7cf53 : MethodName := ⟨RJ9, "max", "(II)I"⟩
abbrev cJ9_min_7cf53 : ByteArray := prog_15_method_69_code
def yJ9_min_7cf53 : MethodName := ⟨RJ9, "min", "(II)I"⟩
def RJ10 : String := "java/lang/System"
def TJ10 : u_T := fun k => match k with
  | _ => ("", "", "", false)
def tyJ10 : Nat → FieldType := fun k => match k with
  | _ => .int
abbrev wsJ100 : List Cond := u_ws RJ10 TJ10 0
theorem nmJ10 : ∀ a, a < 0 → ∀ b, b < 0 → a ≠ b → (TJ10 a).2.1 ≠ (TJ10 b).2.1 := by decide +kernel
theorem tyJ10_ok : ∀ k, k < 0 → parseFieldDescriptor (TJ10 k).2.2.1 = some (tyJ10 k) := by decide +kernel
def RJxa1e45 : String := "java/util/AbstractCollection"
def TJxa1e45 : u_T := fun k => match k with
  | _ => ("", "", "", false)
def tyJxa1e45 : Nat → FieldType := fun k => match k with
  | _ => .int
abbrev wsJxa1e450 : List Cond := u_ws RJxa1e45 TJxa1e45 0
theorem nmJxa1e45 : ∀ a, a < 0 → ∀ b, b < 0 → a ≠ b → (TJxa1e45 a).2.1 ≠ (TJxa1e45 b).2.1 := by decide +kernel
theorem tyJxa1e45_ok : ∀ k, k < 0 → parseFieldDescriptor (TJxa1e45 k).2.2.1 = some (tyJxa1e45 k) := by decide +kernel
abbrev cJxa1e45_init_da8c8 : ByteArray := prog_19_method_1_code
def yJxa1e45_init_da8c8 : MethodName := ⟨RJxa1e45, "<init>", "()V"⟩
def RJxc12de : String := "java/util/AbstractList"
def TJxc12de : u_T := fun k => match k with
  | _ => ("", "", "", false)
def tyJxc12de : Nat → FieldType := fun k => match k with
  | _ => .int
abbrev wsJxc12de0 : List Cond := u_ws RJxc12de TJxc12de 0
theorem nmJxc12de : ∀ a, a < 0 → ∀ b, b < 0 → a ≠ b → (TJxc12de a).2.1 ≠ (TJxc12de b).2.1 := by decide +kernel
theorem tyJxc12de_ok : ∀ k, k < 0 → parseFieldDescriptor (TJxc12de k).2.2.1 = some (tyJxc12de k) := by decide +kernel
abbrev cJxc12de_init_da8c8 : ByteArray := prog_20_method_1_code
def yJxc12de_init_da8c8 : MethodName := ⟨RJxc12de, "<init>", "()V"⟩
def RJx4a65c : String := "java/util/ArrayList"
def TJx4a65c : u_T := fun k => match k with
  | 0 => ("java/util/AbstractList", "modCount", "I", false)
  | 1 => ("java/util/ArrayList", "elementData", "[Ljava/lang/Object;", false)
  | _ => ("java/util/ArrayList", "size", "I", false)
def tyJx4a65c : Nat → FieldType := fun k => match k with
  | 0 => .int
  | 1 => .array (.object "java/lang/Object")
  | _ => .int
abbrev wsJx4a65c0 : List Cond := u_ws RJx4a65c TJx4a65c 3
theorem nmJx4a65c : ∀ a, a < 3 → ∀ b, b < 3 → a ≠ b → (TJx4a65c a).2.1 ≠ (TJx4a65c b).2.1 := by decide +kernel
theorem tyJx4a65c_ok : ∀ k, k < 3 → parseFieldDescriptor (TJx4a65c k).2.2.1 = some (tyJx4a65c k) := by decide +kernel
abbrev cJx4a65c_init_da8c8 : ByteArray := prog_21_method_2_code
def yJx4a65c_init_da8c8 : MethodName := ⟨RJx4a65c, "<init>", "()V"⟩
abbrev cJx4a65c_grow_92f84 : ByteArray := prog_21_method_6_code
def yJx4a65c_grow_92f84 : MethodName := ⟨RJx4a65c, "grow", "(I)[Ljava/lang/Object;"⟩
abbrev cJx4a65c_grow_d5877 : ByteArray := prog_21_method_7_code
def yJx4a65c_grow_d5877 : MethodName := ⟨RJx4a65c, "grow", "()[Ljava/lang/Object;"⟩
abbrev cJx4a65c_size_8abf5 : ByteArray := prog_21_method_8_code
def yJx4a65c_size_8abf5 : MethodName := ⟨RJx4a65c, "size", "()I"⟩
abbrev cJx4a65c_elementData_915e3 : ByteArray := prog_21_method_18_code
def yJx4a65c_elementData_915e3 : MethodName := ⟨RJx4a65c, "elementData", "(I)Ljava/lang/Object;"⟩
abbrev cJx4a65c_get_915e3 : ByteArray := prog_21_method_20_code
def yJx4a65c_get_915e3 : MethodName := ⟨RJx4a65c, "get", "(I)Ljava/lang/Object;"⟩
abbrev cJx4a65c_add_72be8 : ByteArray := prog_21_method_24_code
def yJx4a65c_add_72be8 : MethodName := ⟨RJx4a65c, "add", "(Ljava/lang/Object;[Ljava/lang/Object;I)V"⟩
abbrev cJx4a65c_add_9ea2d : ByteArray := prog_21_method_25_code
def yJx4a65c_add_9ea2d : MethodName := ⟨RJx4a65c, "add", "(Ljava/lang/Object;)Z"⟩
abbrev cJx4a65c_clear_da8c8 : ByteArray := prog_21_method_40_code
def yJx4a65c_clear_da8c8 : MethodName := ⟨RJx4a65c, "clear", "()V"⟩
def RJ7 : String := "java/util/Arrays"
def TJ7 : u_T := fun k => match k with
  | _ => ("", "", "", false)
def tyJ7 : Nat → FieldType := fun k => match k with
  | _ => .int
abbrev wsJ70 : List Cond := u_ws RJ7 TJ7 0
theorem nmJ7 : ∀ a, a < 0 → ∀ b, b < 0 → a ≠ b → (TJ7 a).2.1 ≠ (TJ7 b).2.1 := by decide +kernel
theorem tyJ7_ok : ∀ k, k < 0 → parseFieldDescriptor (TJ7 k).2.2.1 = some (tyJ7 k) := by decide +kernel
abbrev cJ7_copyOf_1904c : ByteArray := prog_22_method_119_code
def yJ7_copyOf_1904c : MethodName := ⟨RJ7, "copyOf", "([Ljava/lang/Object;I)[Ljava/lang/Object;"⟩
abbrev cJ7_copyOf_6403c : ByteArray := prog_22_method_120_code
def yJ7_copyOf_6403c : MethodName := ⟨RJ7, "copyOf", "([Ljava/lang/Object;ILjava/lang/Class;)[Ljava/lang/Object;"⟩
def RJx5ef63 : String := "java/util/Collection"
def TJx5ef63 : u_T := fun k => match k with
  | _ => ("", "", "", false)
def tyJx5ef63 : Nat → FieldType := fun k => match k with
  | _ => .int
abbrev wsJx5ef630 : List Cond := u_ws RJx5ef63 TJx5ef63 0
theorem nmJx5ef63 : ∀ a, a < 0 → ∀ b, b < 0 → a ≠ b → (TJx5ef63 a).2.1 ≠ (TJx5ef63 b).2.1 := by decide +kernel
theorem tyJx5ef63_ok : ∀ k, k < 0 → parseFieldDescriptor (TJx5ef63 k).2.2.1 = some (tyJx5ef63 k) := by decide +kernel
def RJxbd725 : String := "java/util/List"
def TJxbd725 : u_T := fun k => match k with
  | _ => ("", "", "", false)
def tyJxbd725 : Nat → FieldType := fun k => match k with
  | _ => .int
abbrev wsJxbd7250 : List Cond := u_ws RJxbd725 TJxbd725 0
theorem nmJxbd725 : ∀ a, a < 0 → ∀ b, b < 0 → a ≠ b → (TJxbd725 a).2.1 ≠ (TJxbd725 b).2.1 := by decide +kernel
theorem tyJxbd725_ok : ∀ k, k < 0 → parseFieldDescriptor (TJxbd725 k).2.2.1 = some (tyJxbd725 k) := by decide +kernel
def RJ15 : String := "java/util/Objects"
def TJ15 : u_T := fun k => match k with
  | _ => ("", "", "", false)
def tyJ15 : Nat → FieldType := fun k => match k with
  | _ => .int
abbrev wsJ150 : List Cond := u_ws RJ15 TJ15 0
theorem nmJ15 : ∀ a, a < 0 → ∀ b, b < 0 → a ≠ b → (TJ15 a).2.1 ≠ (TJ15 b).2.1 := by decide +kernel
theorem tyJ15_ok : ∀ k, k < 0 → parseFieldDescriptor (TJ15 k).2.2.1 = some (tyJ15 k) := by decide +kernel
abbrev cJ15_checkIndex_7cf53 : ByteArray := prog_26_method_17_code
def yJ15_checkIndex_7cf53 : MethodName := ⟨RJ15, "checkIndex", "(II)I"⟩
def RJxf0a74 : String := "java/util/RandomAccess"
def TJxf0a74 : u_T := fun k => match k with
  | _ => ("", "", "", false)
def tyJxf0a74 : Nat → FieldType := fun k => match k with
  | _ => .int
abbrev wsJxf0a740 : List Cond := u_ws RJxf0a74 TJxf0a74 0
theorem nmJxf0a74 : ∀ a, a < 0 → ∀ b, b < 0 → a ≠ b → (TJxf0a74 a).2.1 ≠ (TJxf0a74 b).2.1 := by decide +kernel
theorem tyJxf0a74_ok : ∀ k, k < 0 → parseFieldDescriptor (TJxf0a74 k).2.2.1 = some (tyJxf0a74 k) := by decide +kernel
def RJxa66e6 : String := "java/util/SequencedCollection"
def TJxa66e6 : u_T := fun k => match k with
  | _ => ("", "", "", false)
def tyJxa66e6 : Nat → FieldType := fun k => match k with
  | _ => .int
abbrev wsJxa66e60 : List Cond := u_ws RJxa66e6 TJxa66e6 0
theorem nmJxa66e6 : ∀ a, a < 0 → ∀ b, b < 0 → a ≠ b → (TJxa66e6 a).2.1 ≠ (TJxa66e6 b).2.1 := by decide +kernel
theorem tyJxa66e6_ok : ∀ k, k < 0 → parseFieldDescriptor (TJxa66e6 k).2.2.1 = some (tyJxa66e6 k) := by decide +kernel
def RJ8 : String := "jdk/internal/util/ArraysSupport"
def TJ8 : u_T := fun k => match k with
  | _ => ("", "", "", false)
def tyJ8 : Nat → FieldType := fun k => match k with
  | _ => .int
abbrev wsJ80 : List Cond := u_ws RJ8 TJ8 0
theorem nmJ8 : ∀ a, a < 0 → ∀ b, b < 0 → a ≠ b → (TJ8 a).2.1 ≠ (TJ8 b).2.1 := by decide +kernel
theorem tyJ8_ok : ∀ k, k < 0 → parseFieldDescriptor (TJ8 k).2.2.1 = some (tyJ8 k) := by decide +kernel
abbrev cJ8_newLength_cabcc : ByteArray := prog_29_method_27_code
def yJ8_newLength_cabcc : MethodName := ⟨RJ8, "newLength", "(III)I"⟩
abbrev cJ8_hugeLength_7cf53 : ByteArray := prog_29_method_28_code
def yJ8_hugeLength_7cf53 : MethodName := ⟨RJ8, "hugeLength", "(II)I"⟩
def RJ3 : String := "jdk/internal/util/Preconditions"
def TJ3 : u_T := fun k => match k with
  | _ => ("", "", "", false)
def tyJ3 : Nat → FieldType := fun k => match k with
  | _ => .int
abbrev wsJ30 : List Cond := u_ws RJ3 TJ3 0
theorem nmJ3 : ∀ a, a < 0 → ∀ b, b < 0 → a ≠ b → (TJ3 a).2.1 ≠ (TJ3 b).2.1 := by decide +kernel
theorem tyJ3_ok : ∀ k, k < 0 → parseFieldDescriptor (TJ3 k).2.2.1 = some (tyJ3 k) := by decide +kernel
abbrev cJ3_checkIndex_8e157 : ByteArray := prog_30_method_11_code
def yJ3_checkIndex_8e157 : MethodName := ⟨RJ3, "checkIndex", "(IILjava/util/function/BiFunction;)I"⟩
def RL : String := "TuneHouseLaw"
abbrev cL_at : ByteArray := method_3_code
def yL_at : MethodName := ⟨RL, "at", "(LTuneHouse;IIII[J)I"⟩
abbrev cL_law : ByteArray := code
def yL_law : MethodName := ⟨RL, "law", "([I)Z"⟩
abbrev vwCl : List vw_C := [(RJx4a65c, TJx4a65c, 3), (RX0, TX0, 7), (RX1, TX1, 4), (RX2, TX2, 4), (RX3, TX3, 2), (RX4, TX4, 1), (RX5, TX5, 9), (RX6, TX6, 3), (RX7, TX7, 10), (RX8, TX8, 35)]
/-! the words, all of them good ones -/
def TB : List Cond := lw_tbl.filter goodWord
theorem TB_in {w : Cond} (n : Nat) (h : lw_tbl[n]? = some w) (g : goodWord w = true) : w ∈ TB := List.mem_filter.mpr ⟨List.mem_of_getElem? h, g⟩
theorem TB_good : ∀ w ∈ TB, (w.onTables && w.keeps) = true ∨ ∃ ty, w = .arrayClass ty := fun _ h => good_of_word (List.mem_filter.mp h).2
/-! words of the launch that a callee takes with its state -/
def isN : Cond → Bool
  | .methodLinkNest _ _ _ _ => true
  | .fieldLinkNest _ _ _ _ _ _ => true
  | .castable _ _ => true
  | .declares _ => true
  | _ => false
def NB : List Cond := lw_tbl.filter isN
theorem NB_in {w : Cond} (n : Nat) (h : lw_tbl[n]? = some w) (g : isN w = true) : w ∈ NB := List.mem_filter.mpr ⟨List.mem_of_getElem? h, g⟩
theorem kw_s0 : Cond.selects "java/util/ArrayList" yJx4a65c_add_72be8 yJx4a65c_add_72be8 ∈ TB := TB_in 0 (by decide +kernel) (by decide +kernel)
theorem kw_s1 : Cond.selects "java/util/ArrayList" yJx4a65c_grow_d5877 yJx4a65c_grow_d5877 ∈ TB := TB_in 1 (by decide +kernel) (by decide +kernel)
theorem kw_s2 : Cond.selects "java/util/ArrayList" yJx4a65c_grow_92f84 yJx4a65c_grow_92f84 ∈ TB := TB_in 2 (by decide +kernel) (by decide +kernel)
theorem kw_s3 : Cond.selects "TuneHouse" yX7_find yX7_find ∈ TB := TB_in 3 (by decide +kernel) (by decide +kernel)
theorem kw_s4 : Cond.selects "TuneHouse" yX7_isPair yX7_isPair ∈ TB := TB_in 4 (by decide +kernel) (by decide +kernel)
theorem kw_s5 : Cond.selects "TuneHouse" yX7_isDay yX7_isDay ∈ TB := TB_in 5 (by decide +kernel) (by decide +kernel)
theorem kw_s6 : Cond.selects "TuneHouse" yX7_turnTo yX7_turnTo ∈ TB := TB_in 6 (by decide +kernel) (by decide +kernel)
theorem kw_s7 : Cond.selects "TuneHouse$Sheet" yX5_amendedBy yX5_amendedBy ∈ TB := TB_in 7 (by decide +kernel) (by decide +kernel)
theorem kw_s8 : Cond.selects "TuneHouse$Likeness" yX2_learn yX2_learn ∈ TB := TB_in 8 (by decide +kernel) (by decide +kernel)
theorem kw_s9 : Cond.selects "TuneHouse$Aligner" yX0_fillFirstRow yX0_fillFirstRow ∈ TB := TB_in 9 (by decide +kernel) (by decide +kernel)
theorem kw_s10 : Cond.selects "TuneHouse" yX7_layOut yX7_layOut ∈ TB := TB_in 10 (by decide +kernel) (by decide +kernel)
theorem kw_s11 : Cond.selects "TuneHouse$Aligner" yX0_takesTwo yX0_takesTwo ∈ TB := TB_in 11 (by decide +kernel) (by decide +kernel)
theorem kw_s12 : Cond.selects "TuneHouse$Aligner" yX0_put yX0_put ∈ TB := TB_in 12 (by decide +kernel) (by decide +kernel)
theorem kw_s13 : Cond.selects "TuneHouse$Aligner" yX0_takesOne yX0_takesOne ∈ TB := TB_in 13 (by decide +kernel) (by decide +kernel)
theorem kw_s14 : Cond.selects "TuneHouse" yX7_gather yX7_gather ∈ TB := TB_in 14 (by decide +kernel) (by decide +kernel)
theorem kw_s15 : Cond.selects "TuneHouse" yX7_findTrue yX7_findTrue ∈ TB := TB_in 15 (by decide +kernel) (by decide +kernel)
theorem kw_s16 : Cond.selects "TuneHouse" yX7_addLinked yX7_addLinked ∈ TB := TB_in 16 (by decide +kernel) (by decide +kernel)
theorem kw_s17 : Cond.selects "TuneHouse" yX7_isGathered yX7_isGathered ∈ TB := TB_in 17 (by decide +kernel) (by decide +kernel)
theorem kw_s18 : Cond.selects "TuneHouse" yX7_sourceOf yX7_sourceOf ∈ TB := TB_in 18 (by decide +kernel) (by decide +kernel)
theorem kw_s19 : Cond.selects "TuneHouse" yX7_changesOf yX7_changesOf ∈ TB := TB_in 19 (by decide +kernel) (by decide +kernel)
theorem kw_s20 : Cond.selects "TuneHouse" yX7_rivalsOf yX7_rivalsOf ∈ TB := TB_in 20 (by decide +kernel) (by decide +kernel)
theorem kw_s21 : Cond.selects "TuneHouse" yX7_habitIn yX7_habitIn ∈ TB := TB_in 21 (by decide +kernel) (by decide +kernel)
theorem kw_s22 : Cond.selects "TuneHouse$Aligner" yX0_isMeeting yX0_isMeeting ∈ TB := TB_in 22 (by decide +kernel) (by decide +kernel)
theorem kw_s23 : Cond.selects "java/lang/Throwable" ⟨"java/lang/Throwable", "fillInStackTrace", "(I)Ljava/lang/Throwable;"⟩ ⟨"java/lang/Throwable", "fillInStackTrace", "(I)Ljava/lang/Throwable;"⟩ ∈ TB := TB_in 23 (by decide +kernel) (by decide +kernel)
theorem kw_s24 : Cond.selects "TuneHouseModel" yX8_isSheet yX8_isSheet ∈ TB := TB_in 24 (by decide +kernel) (by decide +kernel)
theorem kw_s25 : Cond.selects "TuneHouseModel" yX8_isDay yX8_isDay ∈ TB := TB_in 25 (by decide +kernel) (by decide +kernel)
theorem kw_s26 : Cond.selects "TuneHouseModel" yX8_known yX8_known ∈ TB := TB_in 26 (by decide +kernel) (by decide +kernel)
theorem kw_s27 : Cond.selects "TuneHouseModel" yX8_isPair yX8_isPair ∈ TB := TB_in 27 (by decide +kernel) (by decide +kernel)
theorem kw_s28 : Cond.selects "TuneHouseModel" yX8_far yX8_far ∈ TB := TB_in 28 (by decide +kernel) (by decide +kernel)
theorem kw_s29 : Cond.selects "TuneHouseModel" yX8_ready yX8_ready ∈ TB := TB_in 29 (by decide +kernel) (by decide +kernel)
theorem kw_s30 : Cond.selects "TuneHouseModel" yX8_lay yX8_lay ∈ TB := TB_in 30 (by decide +kernel) (by decide +kernel)
theorem kw_s31 : Cond.selects "TuneHouseModel" yX8_ofTwo yX8_ofTwo ∈ TB := TB_in 31 (by decide +kernel) (by decide +kernel)
theorem kw_s32 : Cond.selects "TuneHouseModel" yX8_alone yX8_alone ∈ TB := TB_in 32 (by decide +kernel) (by decide +kernel)
theorem kw_s33 : Cond.selects "TuneHouseModel" yX8_align yX8_align ∈ TB := TB_in 33 (by decide +kernel) (by decide +kernel)
theorem kw_s34 : Cond.selects "TuneHouseModel" yX8_families yX8_families ∈ TB := TB_in 34 (by decide +kernel) (by decide +kernel)
theorem kw_s35 : Cond.selects "TuneHouseModel" yX8_isForged yX8_isForged ∈ TB := TB_in 35 (by decide +kernel) (by decide +kernel)
theorem kw_s36 : Cond.selects "TuneHouseModel" yX8_isAsked yX8_isAsked ∈ TB := TB_in 36 (by decide +kernel) (by decide +kernel)
theorem kw_s37 : Cond.selects "TuneHouseModel" yX8_sourceOf yX8_sourceOf ∈ TB := TB_in 37 (by decide +kernel) (by decide +kernel)
theorem kw_s38 : Cond.selects "TuneHouseModel" yX8_isEarlier yX8_isEarlier ∈ TB := TB_in 38 (by decide +kernel) (by decide +kernel)
theorem kw_s39 : Cond.selects "TuneHouseModel" yX8_changesOf yX8_changesOf ∈ TB := TB_in 39 (by decide +kernel) (by decide +kernel)
theorem kw_0 : Cond.initialized "TuneHouseLaw" ∈ TB := TB_in 40 (by decide +kernel) (by decide +kernel)
theorem kw_1 : Cond.initialized "TuneHouse" ∈ TB := TB_in 41 (by decide +kernel) (by decide +kernel)
theorem kw_2 : Cond.initialized "TuneHouse$Prices" ∈ TB := TB_in 42 (by decide +kernel) (by decide +kernel)
theorem kw_3 : Cond.initialized "TuneHouse$Aligner" ∈ TB := TB_in 43 (by decide +kernel) (by decide +kernel)
theorem kw_4 : Cond.initialized "TuneHouse$Likeness" ∈ TB := TB_in 44 (by decide +kernel) (by decide +kernel)
theorem kw_5 : Cond.initialized "java/util/AbstractCollection" ∈ TB := TB_in 45 (by decide +kernel) (by decide +kernel)
theorem kw_6 : Cond.initialized "java/util/AbstractList" ∈ TB := TB_in 46 (by decide +kernel) (by decide +kernel)
theorem kw_7 : Cond.initialized "java/util/ArrayList" ∈ TB := TB_in 47 (by decide +kernel) (by decide +kernel)
theorem kw_8 : Cond.initialized "TuneHouseModel" ∈ TB := TB_in 48 (by decide +kernel) (by decide +kernel)
theorem kw_9 : Cond.initialized "TuneHouse$Sheet" ∈ TB := TB_in 49 (by decide +kernel) (by decide +kernel)
theorem kw_10 : Cond.initialized "TuneHouse$Tune" ∈ TB := TB_in 50 (by decide +kernel) (by decide +kernel)
theorem kw_11 : Cond.initialized "jdk/internal/util/ArraysSupport" ∈ TB := TB_in 51 (by decide +kernel) (by decide +kernel)
theorem kw_12 : Cond.initialized "java/lang/Math" ∈ TB := TB_in 52 (by decide +kernel) (by decide +kernel)
theorem kw_13 : Cond.initialized "java/util/Arrays" ∈ TB := TB_in 53 (by decide +kernel) (by decide +kernel)
theorem kw_14 : Cond.initialized "java/lang/System" ∈ TB := TB_in 54 (by decide +kernel) (by decide +kernel)
theorem kw_15 : Cond.initialized "java/util/Objects" ∈ TB := TB_in 55 (by decide +kernel) (by decide +kernel)
theorem kw_16 : Cond.initialized "jdk/internal/util/Preconditions" ∈ TB := TB_in 56 (by decide +kernel) (by decide +kernel)
theorem kw_17 : Cond.initialized "TuneHouse$Correction" ∈ TB := TB_in 57 (by decide +kernel) (by decide +kernel)
theorem kw_18 : Cond.initialized "TuneHouse$Pair" ∈ TB := TB_in 58 (by decide +kernel) (by decide +kernel)
theorem kw_19 : Cond.initialized "java/lang/Throwable" ∈ TB := TB_in 59 (by decide +kernel) (by decide +kernel)
theorem kw_20 : Cond.initialized "java/lang/Exception" ∈ TB := TB_in 60 (by decide +kernel) (by decide +kernel)
theorem kw_21 : Cond.initialized "java/lang/RuntimeException" ∈ TB := TB_in 61 (by decide +kernel) (by decide +kernel)
theorem kw_22 : Cond.initialized "java/util/NoSuchElementException" ∈ TB := TB_in 62 (by decide +kernel) (by decide +kernel)
theorem kw_23 : Cond.classLink "TuneHouseLaw" 8 "TuneHouse" ∈ TB := TB_in 63 (by decide +kernel) (by decide +kernel)
theorem kw_24 : Cond.instantiable "TuneHouse" 10 ∈ TB := TB_in 64 (by decide +kernel) (by decide +kernel)
theorem kw_25 : Cond.methodLink "TuneHouseLaw" 15 yX7_init ∈ TB := TB_in 65 (by decide +kernel) (by decide +kernel)
theorem kw_26 : Cond.instanceMethod yX7_init ∈ TB := TB_in 66 (by decide +kernel) (by decide +kernel)
theorem kw_27 : Cond.code yX7_init cX7_init 1 none ∈ TB := TB_in 67 (by decide +kernel) (by decide +kernel)
theorem kw_28 : Cond.methodLink "TuneHouse" 5 ⟨"java/lang/Object", "<init>", "()V"⟩ ∈ TB := TB_in 68 (by decide +kernel) (by decide +kernel)
theorem kw_29 : Cond.instanceMethod ⟨"java/lang/Object", "<init>", "()V"⟩ ∈ TB := TB_in 69 (by decide +kernel) (by decide +kernel)
theorem kw_30 : Cond.code ⟨"java/lang/Object", "<init>", "()V"⟩ object_method_1_code 1 none ∈ TB := TB_in 70 (by decide +kernel) (by decide +kernel)
theorem kw_31 : Cond.classLink "TuneHouse" 11 "TuneHouse$Prices" ∈ TB := TB_in 71 (by decide +kernel) (by decide +kernel)
theorem kw_32 : Cond.instantiable "TuneHouse$Prices" 1 ∈ TB := TB_in 72 (by decide +kernel) (by decide +kernel)
theorem kn_33 : Cond.methodLinkNest "TuneHouse" 13 yX4_init "TuneHouse" ∈ NB := NB_in 73 (by decide +kernel) rfl
theorem kw_34 : Cond.instanceMethod yX4_init ∈ TB := TB_in 74 (by decide +kernel) (by decide +kernel)
theorem kw_35 : Cond.code yX4_init cX4_init 1 none ∈ TB := TB_in 75 (by decide +kernel) (by decide +kernel)
theorem kw_36 : Cond.methodLink "TuneHouse$Prices" 3 ⟨"java/lang/Object", "<init>", "()V"⟩ ∈ TB := TB_in 76 (by decide +kernel) (by decide +kernel)
theorem kw_37 : Cond.fieldLink "TuneHouse$Prices" 9 "TuneHouse$Prices" "coins" "[I" ∈ TB := TB_in 77 (by decide +kernel) (by decide +kernel)
theorem kw_41 : Cond.arrayClass FieldType.int ∈ TB := TB_in 81 (by decide +kernel) (by decide +kernel)
theorem kw_42 : Cond.classLink "TuneHouse" 18 "TuneHouse$Aligner" ∈ TB := TB_in 82 (by decide +kernel) (by decide +kernel)
theorem kw_43 : Cond.instantiable "TuneHouse$Aligner" 7 ∈ TB := TB_in 83 (by decide +kernel) (by decide +kernel)
theorem kw_44 : Cond.methodLink "TuneHouse" 20 yX0_init ∈ TB := TB_in 84 (by decide +kernel) (by decide +kernel)
theorem kw_45 : Cond.instanceMethod yX0_init ∈ TB := TB_in 85 (by decide +kernel) (by decide +kernel)
theorem kw_46 : Cond.code yX0_init cX0_init 2 none ∈ TB := TB_in 86 (by decide +kernel) (by decide +kernel)
theorem kw_47 : Cond.methodLink "TuneHouse$Aligner" 3 ⟨"java/lang/Object", "<init>", "()V"⟩ ∈ TB := TB_in 87 (by decide +kernel) (by decide +kernel)
theorem kw_48 : Cond.classLink "TuneHouse$Aligner" 9 "[[I" ∈ TB := TB_in 88 (by decide +kernel) (by decide +kernel)
theorem kw_50 : Cond.fieldLink "TuneHouse$Aligner" 26 "TuneHouse$Aligner" "prices" "LTuneHouse$Prices;" ∈ TB := TB_in 90 (by decide +kernel) (by decide +kernel)
theorem kw_51 : Cond.fieldLink "TuneHouse$Aligner" 11 "TuneHouse$Aligner" "sums" "[[I" ∈ TB := TB_in 91 (by decide +kernel) (by decide +kernel)
theorem kw_52 : Cond.fieldLink "TuneHouse$Aligner" 16 "TuneHouse$Aligner" "ofT" "[I" ∈ TB := TB_in 92 (by decide +kernel) (by decide +kernel)
theorem kw_53 : Cond.fieldLink "TuneHouse$Aligner" 20 "TuneHouse$Aligner" "ofU" "[I" ∈ TB := TB_in 93 (by decide +kernel) (by decide +kernel)
theorem kw_54 : Cond.fieldLink "TuneHouse$Aligner" 23 "TuneHouse$Aligner" "costs" "[I" ∈ TB := TB_in 94 (by decide +kernel) (by decide +kernel)
theorem kw_55 : Cond.fieldLink "TuneHouse$Aligner" 64 "TuneHouse$Aligner" "columns" "I" ∈ TB := TB_in 95 (by decide +kernel) (by decide +kernel)
theorem kw_56 : Cond.fieldLink "TuneHouse$Aligner" 61 "TuneHouse$Aligner" "laidKey" "I" ∈ TB := TB_in 96 (by decide +kernel) (by decide +kernel)
theorem kw_72 : Cond.classLink "TuneHouse" 27 "TuneHouse$Likeness" ∈ TB := TB_in 112 (by decide +kernel) (by decide +kernel)
theorem kw_73 : Cond.instantiable "TuneHouse$Likeness" 4 ∈ TB := TB_in 113 (by decide +kernel) (by decide +kernel)
theorem kw_74 : Cond.methodLink "TuneHouse" 29 yX2_init ∈ TB := TB_in 114 (by decide +kernel) (by decide +kernel)
theorem kw_75 : Cond.instanceMethod yX2_init ∈ TB := TB_in 115 (by decide +kernel) (by decide +kernel)
theorem kw_76 : Cond.code yX2_init cX2_init 2 none ∈ TB := TB_in 116 (by decide +kernel) (by decide +kernel)
theorem kw_77 : Cond.methodLink "TuneHouse$Likeness" 3 ⟨"java/lang/Object", "<init>", "()V"⟩ ∈ TB := TB_in 117 (by decide +kernel) (by decide +kernel)
theorem kw_78 : Cond.fieldLink "TuneHouse$Likeness" 22 "TuneHouse$Likeness" "aligner" "LTuneHouse$Aligner;" ∈ TB := TB_in 118 (by decide +kernel) (by decide +kernel)
theorem kw_79 : Cond.fieldLink "TuneHouse$Likeness" 9 "TuneHouse$Likeness" "isKept" "[Z" ∈ TB := TB_in 119 (by decide +kernel) (by decide +kernel)
theorem kw_80 : Cond.fieldLink "TuneHouse$Likeness" 15 "TuneHouse$Likeness" "sums" "[I" ∈ TB := TB_in 120 (by decide +kernel) (by decide +kernel)
theorem kw_81 : Cond.fieldLink "TuneHouse$Likeness" 19 "TuneHouse$Likeness" "keys" "[I" ∈ TB := TB_in 121 (by decide +kernel) (by decide +kernel)
theorem kw_91 : Cond.arrayClass FieldType.boolean ∈ TB := TB_in 131 (by decide +kernel) (by decide +kernel)
theorem kw_92 : Cond.classLink "TuneHouse" 36 "java/util/ArrayList" ∈ TB := TB_in 132 (by decide +kernel) (by decide +kernel)
theorem kw_93 : Cond.instantiable "java/util/ArrayList" 3 ∈ TB := TB_in 133 (by decide +kernel) (by decide +kernel)
theorem kw_94 : Cond.methodLink "TuneHouse" 38 yJx4a65c_init_da8c8 ∈ TB := TB_in 134 (by decide +kernel) (by decide +kernel)
theorem kw_95 : Cond.instanceMethod yJx4a65c_init_da8c8 ∈ TB := TB_in 135 (by decide +kernel) (by decide +kernel)
theorem kw_96 : Cond.code yJx4a65c_init_da8c8 cJx4a65c_init_da8c8 1 none ∈ TB := TB_in 136 (by decide +kernel) (by decide +kernel)
theorem kw_97 : Cond.methodLink "java/util/ArrayList" 1 yJxc12de_init_da8c8 ∈ TB := TB_in 137 (by decide +kernel) (by decide +kernel)
theorem kw_98 : Cond.instanceMethod yJxc12de_init_da8c8 ∈ TB := TB_in 138 (by decide +kernel) (by decide +kernel)
theorem kw_99 : Cond.code yJxc12de_init_da8c8 cJxc12de_init_da8c8 1 none ∈ TB := TB_in 139 (by decide +kernel) (by decide +kernel)
theorem kw_100 : Cond.methodLink "java/util/AbstractList" 1 yJxa1e45_init_da8c8 ∈ TB := TB_in 140 (by decide +kernel) (by decide +kernel)
theorem kw_101 : Cond.instanceMethod yJxa1e45_init_da8c8 ∈ TB := TB_in 141 (by decide +kernel) (by decide +kernel)
theorem kw_102 : Cond.code yJxa1e45_init_da8c8 cJxa1e45_init_da8c8 1 none ∈ TB := TB_in 142 (by decide +kernel) (by decide +kernel)
theorem kw_103 : Cond.methodLink "java/util/AbstractCollection" 1 ⟨"java/lang/Object", "<init>", "()V"⟩ ∈ TB := TB_in 143 (by decide +kernel) (by decide +kernel)
theorem kw_104 : Cond.fieldLink "java/util/ArrayList" 39 "java/util/ArrayList" "DEFAULTCAPACITY_EMPTY_ELEMENTDATA" "[Ljava/lang/Object;" ∈ TB := TB_in 144 (by decide +kernel) (by decide +kernel)
theorem kw_106 : Cond.fieldLink "java/util/ArrayList" 9 "java/util/ArrayList" "elementData" "[Ljava/lang/Object;" ∈ TB := TB_in 146 (by decide +kernel) (by decide +kernel)
theorem kw_107 : Cond.fieldLink "java/util/ArrayList" 48 "java/util/ArrayList" "size" "I" ∈ TB := TB_in 147 (by decide +kernel) (by decide +kernel)
theorem kw_108 : Cond.fieldLink "java/util/AbstractList" 7 "java/util/AbstractList" "modCount" "I" ∈ TB := TB_in 148 (by decide +kernel) (by decide +kernel)
theorem kw_109 : Cond.fieldLink "java/util/ArrayList" 63 "java/util/ArrayList" "modCount" "I" ∈ TB := TB_in 149 (by decide +kernel) (by decide +kernel)
theorem kw_110 : Cond.sameField "java/util/ArrayList" "java/util/AbstractList" "modCount" "I" ∈ TB := TB_in 150 (by decide +kernel) (by decide +kernel)
theorem kw_118 : Cond.fieldLink "TuneHouse" 14 "TuneHouse" "prices" "LTuneHouse$Prices;" ∈ TB := TB_in 158 (by decide +kernel) (by decide +kernel)
theorem kw_119 : Cond.fieldLink "TuneHouse" 23 "TuneHouse" "aligner" "LTuneHouse$Aligner;" ∈ TB := TB_in 159 (by decide +kernel) (by decide +kernel)
theorem kw_120 : Cond.fieldLink "TuneHouse" 32 "TuneHouse" "likeness" "LTuneHouse$Likeness;" ∈ TB := TB_in 160 (by decide +kernel) (by decide +kernel)
theorem kw_121 : Cond.fieldLink "TuneHouse" 39 "TuneHouse" "sheets" "Ljava/util/ArrayList;" ∈ TB := TB_in 161 (by decide +kernel) (by decide +kernel)
theorem kw_122 : Cond.fieldLink "TuneHouse" 43 "TuneHouse" "pairs" "Ljava/util/ArrayList;" ∈ TB := TB_in 162 (by decide +kernel) (by decide +kernel)
theorem kw_123 : Cond.fieldLink "TuneHouse" 46 "TuneHouse" "kinsfolk" "Ljava/util/ArrayList;" ∈ TB := TB_in 163 (by decide +kernel) (by decide +kernel)
theorem kw_124 : Cond.fieldLink "TuneHouse" 49 "TuneHouse" "now" "I" ∈ TB := TB_in 164 (by decide +kernel) (by decide +kernel)
theorem kw_125 : Cond.fieldLink "TuneHouse" 113 "TuneHouse" "forgeries" "I" ∈ TB := TB_in 165 (by decide +kernel) (by decide +kernel)
theorem kw_126 : Cond.fieldLink "TuneHouse" 87 "TuneHouse" "notesTold" "I" ∈ TB := TB_in 166 (by decide +kernel) (by decide +kernel)
theorem kw_127 : Cond.fieldLink "TuneHouse" 96 "TuneHouse" "corrections" "I" ∈ TB := TB_in 167 (by decide +kernel) (by decide +kernel)
theorem kw_149 : Cond.methodLink "TuneHouseLaw" 19 yX7_sheet ∈ TB := TB_in 189 (by decide +kernel) (by decide +kernel)
theorem kw_150 : Cond.instanceMethod yX7_sheet ∈ TB := TB_in 190 (by decide +kernel) (by decide +kernel)
theorem kw_151 : Cond.selects "TuneHouse" yX7_sheet yX7_sheet ∈ TB := TB_in 191 (by decide +kernel) (by decide +kernel)
theorem kw_152 : Cond.code yX7_sheet cX7_sheet 5 (some FieldType.int) ∈ TB := TB_in 192 (by decide +kernel) (by decide +kernel)
theorem kw_153 : Cond.methodLink "TuneHouse" 53 yJx4a65c_size_8abf5 ∈ TB := TB_in 193 (by decide +kernel) (by decide +kernel)
theorem kw_154 : Cond.instanceMethod yJx4a65c_size_8abf5 ∈ TB := TB_in 194 (by decide +kernel) (by decide +kernel)
theorem kw_155 : Cond.selects "java/util/ArrayList" yJx4a65c_size_8abf5 yJx4a65c_size_8abf5 ∈ TB := TB_in 195 (by decide +kernel) (by decide +kernel)
theorem kw_156 : Cond.code yJx4a65c_size_8abf5 cJx4a65c_size_8abf5 1 (some FieldType.int) ∈ TB := TB_in 196 (by decide +kernel) (by decide +kernel)
theorem kw_157 : Cond.methodLink "TuneHouse" 57 yX7_isHand ∈ TB := TB_in 197 (by decide +kernel) (by decide +kernel)
theorem kw_158 : Cond.static yX7_isHand ∈ TB := TB_in 198 (by decide +kernel) (by decide +kernel)
theorem kw_159 : Cond.code yX7_isHand cX7_isHand 1 (some FieldType.boolean) ∈ TB := TB_in 199 (by decide +kernel) (by decide +kernel)
theorem kw_160 : Cond.methodLink "TuneHouse" 61 yX7_isWithin ∈ TB := TB_in 200 (by decide +kernel) (by decide +kernel)
theorem kw_161 : Cond.static yX7_isWithin ∈ TB := TB_in 201 (by decide +kernel) (by decide +kernel)
theorem kw_162 : Cond.code yX7_isWithin cX7_isWithin 2 (some FieldType.boolean) ∈ TB := TB_in 202 (by decide +kernel) (by decide +kernel)
theorem kw_163 : Cond.methodLink "TuneHouse" 65 yX7_isWords ∈ TB := TB_in 203 (by decide +kernel) (by decide +kernel)
theorem kw_164 : Cond.static yX7_isWords ∈ TB := TB_in 204 (by decide +kernel) (by decide +kernel)
theorem kw_165 : Cond.code yX7_isWords cX7_isWords 1 (some FieldType.boolean) ∈ TB := TB_in 205 (by decide +kernel) (by decide +kernel)
theorem kw_166 : Cond.classLink "TuneHouse" 68 "TuneHouse$Sheet" ∈ TB := TB_in 206 (by decide +kernel) (by decide +kernel)
theorem kw_167 : Cond.instantiable "TuneHouse$Sheet" 9 ∈ TB := TB_in 207 (by decide +kernel) (by decide +kernel)
theorem kw_168 : Cond.methodLink "TuneHouse" 70 yX5_init ∈ TB := TB_in 208 (by decide +kernel) (by decide +kernel)
theorem kw_169 : Cond.instanceMethod yX5_init ∈ TB := TB_in 209 (by decide +kernel) (by decide +kernel)
theorem kw_170 : Cond.code yX5_init cX5_init 5 none ∈ TB := TB_in 210 (by decide +kernel) (by decide +kernel)
theorem kw_171 : Cond.methodLink "TuneHouse$Sheet" 3 ⟨"java/lang/Object", "<init>", "()V"⟩ ∈ TB := TB_in 211 (by decide +kernel) (by decide +kernel)
theorem kw_172 : Cond.classLink "TuneHouse$Sheet" 9 "TuneHouse$Tune" ∈ TB := TB_in 212 (by decide +kernel) (by decide +kernel)
theorem kw_173 : Cond.instantiable "TuneHouse$Tune" 3 ∈ TB := TB_in 213 (by decide +kernel) (by decide +kernel)
theorem kn_174 : Cond.methodLinkNest "TuneHouse$Sheet" 11 yX6_init "TuneHouse" ∈ NB := NB_in 214 (by decide +kernel) rfl
theorem kw_175 : Cond.instanceMethod yX6_init ∈ TB := TB_in 215 (by decide +kernel) (by decide +kernel)
theorem kw_176 : Cond.code yX6_init cX6_init 1 none ∈ TB := TB_in 216 (by decide +kernel) (by decide +kernel)
theorem kw_177 : Cond.methodLink "TuneHouse$Tune" 3 ⟨"java/lang/Object", "<init>", "()V"⟩ ∈ TB := TB_in 217 (by decide +kernel) (by decide +kernel)
theorem kw_178 : Cond.fieldLink "TuneHouse$Tune" 9 "TuneHouse$Tune" "pitches" "[I" ∈ TB := TB_in 218 (by decide +kernel) (by decide +kernel)
theorem kn_179 : Cond.fieldLinkNest "TuneHouse$Aligner" 46 "TuneHouse$Tune" "pitches" "[I" "TuneHouse" ∈ NB := NB_in 219 (by decide +kernel) rfl
theorem kw_180 : Cond.fieldLink "TuneHouse$Tune" 15 "TuneHouse$Tune" "beats" "[I" ∈ TB := TB_in 220 (by decide +kernel) (by decide +kernel)
theorem kn_181 : Cond.fieldLinkNest "TuneHouse$Aligner" 49 "TuneHouse$Tune" "beats" "[I" "TuneHouse" ∈ NB := NB_in 221 (by decide +kernel) rfl
theorem kw_182 : Cond.fieldLink "TuneHouse$Tune" 18 "TuneHouse$Tune" "length" "I" ∈ TB := TB_in 222 (by decide +kernel) (by decide +kernel)
theorem kn_183 : Cond.fieldLinkNest "TuneHouse$Aligner" 40 "TuneHouse$Tune" "length" "I" "TuneHouse" ∈ NB := NB_in 223 (by decide +kernel) rfl
theorem kw_191 : Cond.classLink "TuneHouse$Sheet" 21 "java/util/ArrayList" ∈ TB := TB_in 231 (by decide +kernel) (by decide +kernel)
theorem kw_192 : Cond.methodLink "TuneHouse$Sheet" 23 yJx4a65c_init_da8c8 ∈ TB := TB_in 232 (by decide +kernel) (by decide +kernel)
theorem kw_193 : Cond.fieldLink "TuneHouse$Sheet" 32 "TuneHouse$Sheet" "number" "I" ∈ TB := TB_in 233 (by decide +kernel) (by decide +kernel)
theorem kw_194 : Cond.fieldLink "TuneHouse$Likeness" 26 "TuneHouse$Sheet" "number" "I" ∈ TB := TB_in 234 (by decide +kernel) (by decide +kernel)
theorem kw_195 : Cond.fieldLink "TuneHouse" 178 "TuneHouse$Sheet" "number" "I" ∈ TB := TB_in 235 (by decide +kernel) (by decide +kernel)
theorem kw_196 : Cond.fieldLink "TuneHouse$Sheet" 35 "TuneHouse$Sheet" "hand" "I" ∈ TB := TB_in 236 (by decide +kernel) (by decide +kernel)
theorem kw_197 : Cond.fieldLink "TuneHouse$Pair" 16 "TuneHouse$Sheet" "hand" "I" ∈ TB := TB_in 237 (by decide +kernel) (by decide +kernel)
theorem kw_198 : Cond.fieldLink "TuneHouse" 116 "TuneHouse$Sheet" "hand" "I" ∈ TB := TB_in 238 (by decide +kernel) (by decide +kernel)
theorem kw_199 : Cond.fieldLink "TuneHouse$Sheet" 38 "TuneHouse$Sheet" "year" "I" ∈ TB := TB_in 239 (by decide +kernel) (by decide +kernel)
theorem kw_200 : Cond.fieldLink "TuneHouse" 213 "TuneHouse$Sheet" "year" "I" ∈ TB := TB_in 240 (by decide +kernel) (by decide +kernel)
theorem kw_201 : Cond.fieldLink "TuneHouse$Sheet" 41 "TuneHouse$Sheet" "words" "I" ∈ TB := TB_in 241 (by decide +kernel) (by decide +kernel)
theorem kw_202 : Cond.fieldLink "TuneHouse" 186 "TuneHouse$Sheet" "words" "I" ∈ TB := TB_in 242 (by decide +kernel) (by decide +kernel)
theorem kw_203 : Cond.fieldLink "TuneHouse$Sheet" 12 "TuneHouse$Sheet" "known" "LTuneHouse$Tune;" ∈ TB := TB_in 243 (by decide +kernel) (by decide +kernel)
theorem kw_204 : Cond.fieldLink "TuneHouse$Likeness" 37 "TuneHouse$Sheet" "known" "LTuneHouse$Tune;" ∈ TB := TB_in 244 (by decide +kernel) (by decide +kernel)
theorem kw_205 : Cond.fieldLink "TuneHouse" 143 "TuneHouse$Sheet" "known" "LTuneHouse$Tune;" ∈ TB := TB_in 245 (by decide +kernel) (by decide +kernel)
theorem kw_206 : Cond.fieldLink "TuneHouse$Sheet" 18 "TuneHouse$Sheet" "told" "LTuneHouse$Tune;" ∈ TB := TB_in 246 (by decide +kernel) (by decide +kernel)
theorem kw_207 : Cond.fieldLink "TuneHouse$Sheet" 24 "TuneHouse$Sheet" "amended" "Ljava/util/ArrayList;" ∈ TB := TB_in 247 (by decide +kernel) (by decide +kernel)
theorem kw_208 : Cond.fieldLink "TuneHouse$Sheet" 64 "TuneHouse$Sheet" "applied" "I" ∈ TB := TB_in 248 (by decide +kernel) (by decide +kernel)
theorem kw_209 : Cond.fieldLink "TuneHouse$Sheet" 28 "TuneHouse$Sheet" "forgedOn" "I" ∈ TB := TB_in 249 (by decide +kernel) (by decide +kernel)
theorem kw_229 : Cond.methodLink "TuneHouse" 73 yJx4a65c_add_9ea2d ∈ TB := TB_in 269 (by decide +kernel) (by decide +kernel)
theorem kw_230 : Cond.instanceMethod yJx4a65c_add_9ea2d ∈ TB := TB_in 270 (by decide +kernel) (by decide +kernel)
theorem kw_231 : Cond.selects "java/util/ArrayList" yJx4a65c_add_9ea2d yJx4a65c_add_9ea2d ∈ TB := TB_in 271 (by decide +kernel) (by decide +kernel)
theorem kw_232 : Cond.code yJx4a65c_add_9ea2d cJx4a65c_add_9ea2d 2 (some FieldType.boolean) ∈ TB := TB_in 272 (by decide +kernel) (by decide +kernel)
theorem kw_233 : Cond.methodLink "java/util/ArrayList" 131 yJx4a65c_add_72be8 ∈ TB := TB_in 273 (by decide +kernel) (by decide +kernel)
theorem kw_235 : Cond.instanceMethod yJx4a65c_add_72be8 ∈ TB := TB_in 275 (by decide +kernel) (by decide +kernel)
theorem kw_236 : Cond.code yJx4a65c_add_72be8 cJx4a65c_add_72be8 4 none ∈ TB := TB_in 276 (by decide +kernel) (by decide +kernel)
theorem kw_237 : Cond.methodLink "java/util/ArrayList" 129 yJx4a65c_grow_d5877 ∈ TB := TB_in 277 (by decide +kernel) (by decide +kernel)
theorem kw_239 : Cond.instanceMethod yJx4a65c_grow_d5877 ∈ TB := TB_in 279 (by decide +kernel) (by decide +kernel)
theorem kw_240 : Cond.code yJx4a65c_grow_d5877 cJx4a65c_grow_d5877 1 (some (FieldType.array (FieldType.object "java/lang/Object"))) ∈ TB := TB_in 280 (by decide +kernel) (by decide +kernel)
theorem kw_241 : Cond.methodLink "java/util/ArrayList" 69 yJx4a65c_grow_92f84 ∈ TB := TB_in 281 (by decide +kernel) (by decide +kernel)
theorem kw_243 : Cond.instanceMethod yJx4a65c_grow_92f84 ∈ TB := TB_in 283 (by decide +kernel) (by decide +kernel)
theorem kw_244 : Cond.code yJx4a65c_grow_92f84 cJx4a65c_grow_92f84 4 (some (FieldType.array (FieldType.object "java/lang/Object"))) ∈ TB := TB_in 284 (by decide +kernel) (by decide +kernel)
theorem kw_245 : Cond.methodLink "java/util/ArrayList" 73 yJ8_newLength_cabcc ∈ TB := TB_in 285 (by decide +kernel) (by decide +kernel)
theorem kw_246 : Cond.static yJ8_newLength_cabcc ∈ TB := TB_in 286 (by decide +kernel) (by decide +kernel)
theorem kw_247 : Cond.code yJ8_newLength_cabcc cJ8_newLength_cabcc 4 (some FieldType.int) ∈ TB := TB_in 287 (by decide +kernel) (by decide +kernel)
theorem kw_248 : Cond.methodLink "jdk/internal/util/ArraysSupport" 194 yJ9_max_7cf53 ∈ TB := TB_in 288 (by decide +kernel) (by decide +kernel)
theorem kw_249 : Cond.static yJ9_max_7cf53 ∈ TB := TB_in 289 (by decide +kernel) (by decide +kernel)
theorem kw_250 : Cond.code yJ9_max_7cf53 cJ9_max_7cf53 2 (some FieldType.int) ∈ TB := TB_in 290 (by decide +kernel) (by decide +kernel)
theorem kw_251 : Cond.constant "jdk/internal/util/ArraysSupport" 200 (2147483639 : Int32) ∈ TB := TB_in 291 (by decide +kernel) (by decide +kernel)
theorem kw_252 : Cond.methodLink "jdk/internal/util/ArraysSupport" 201 yJ8_hugeLength_7cf53 ∈ TB := TB_in 292 (by decide +kernel) (by decide +kernel)
theorem kw_253 : Cond.static yJ8_hugeLength_7cf53 ∈ TB := TB_in 293 (by decide +kernel) (by decide +kernel)
theorem kw_254 : Cond.code yJ8_hugeLength_7cf53 cJ8_hugeLength_7cf53 3 (some FieldType.int) ∈ TB := TB_in 294 (by decide +kernel) (by decide +kernel)
theorem kw_255 : Cond.methodLink "java/util/ArrayList" 66 yJ7_copyOf_1904c ∈ TB := TB_in 295 (by decide +kernel) (by decide +kernel)
theorem kw_256 : Cond.static yJ7_copyOf_1904c ∈ TB := TB_in 296 (by decide +kernel) (by decide +kernel)
theorem kw_257 : Cond.code yJ7_copyOf_1904c cJ7_copyOf_1904c 2 (some (FieldType.array (FieldType.object "java/lang/Object"))) ∈ TB := TB_in 297 (by decide +kernel) (by decide +kernel)
theorem kw_258 : Cond.methodLink "java/util/Arrays" 86 ⟨"java/lang/Object", "getClass", "()Ljava/lang/Class;"⟩ ∈ TB := TB_in 298 (by decide +kernel) (by decide +kernel)
theorem kw_259 : Cond.instanceMethod ⟨"java/lang/Object", "getClass", "()Ljava/lang/Class;"⟩ ∈ TB := TB_in 299 (by decide +kernel) (by decide +kernel)
theorem kw_260 : Cond.sameMethod "java/lang/Object" "java/lang/Object" "getClass" "()Ljava/lang/Class;" ∈ TB := TB_in 300 (by decide +kernel) (by decide +kernel)
theorem kw_261 : Cond.selects "TuneHouse" ⟨"java/lang/Object", "getClass", "()Ljava/lang/Class;"⟩ ⟨"java/lang/Object", "getClass", "()Ljava/lang/Class;"⟩ ∈ TB := TB_in 301 (by decide +kernel) (by decide +kernel)
theorem kw_262 : Cond.selects "TuneHouse$Aligner" ⟨"java/lang/Object", "getClass", "()Ljava/lang/Class;"⟩ ⟨"java/lang/Object", "getClass", "()Ljava/lang/Class;"⟩ ∈ TB := TB_in 302 (by decide +kernel) (by decide +kernel)
theorem kw_263 : Cond.selects "TuneHouse$Correction" ⟨"java/lang/Object", "getClass", "()Ljava/lang/Class;"⟩ ⟨"java/lang/Object", "getClass", "()Ljava/lang/Class;"⟩ ∈ TB := TB_in 303 (by decide +kernel) (by decide +kernel)
theorem kw_264 : Cond.selects "TuneHouse$Likeness" ⟨"java/lang/Object", "getClass", "()Ljava/lang/Class;"⟩ ⟨"java/lang/Object", "getClass", "()Ljava/lang/Class;"⟩ ∈ TB := TB_in 304 (by decide +kernel) (by decide +kernel)
theorem kw_265 : Cond.selects "TuneHouse$Pair" ⟨"java/lang/Object", "getClass", "()Ljava/lang/Class;"⟩ ⟨"java/lang/Object", "getClass", "()Ljava/lang/Class;"⟩ ∈ TB := TB_in 305 (by decide +kernel) (by decide +kernel)
theorem kw_266 : Cond.selects "TuneHouse$Prices" ⟨"java/lang/Object", "getClass", "()Ljava/lang/Class;"⟩ ⟨"java/lang/Object", "getClass", "()Ljava/lang/Class;"⟩ ∈ TB := TB_in 306 (by decide +kernel) (by decide +kernel)
theorem kw_267 : Cond.selects "TuneHouse$Sheet" ⟨"java/lang/Object", "getClass", "()Ljava/lang/Class;"⟩ ⟨"java/lang/Object", "getClass", "()Ljava/lang/Class;"⟩ ∈ TB := TB_in 307 (by decide +kernel) (by decide +kernel)
theorem kw_268 : Cond.selects "TuneHouse$Tune" ⟨"java/lang/Object", "getClass", "()Ljava/lang/Class;"⟩ ⟨"java/lang/Object", "getClass", "()Ljava/lang/Class;"⟩ ∈ TB := TB_in 308 (by decide +kernel) (by decide +kernel)
theorem kw_269 : Cond.selects "TuneHouseModel" ⟨"java/lang/Object", "getClass", "()Ljava/lang/Class;"⟩ ⟨"java/lang/Object", "getClass", "()Ljava/lang/Class;"⟩ ∈ TB := TB_in 309 (by decide +kernel) (by decide +kernel)
theorem kw_270 : Cond.selects "java/util/ArrayList" ⟨"java/lang/Object", "getClass", "()Ljava/lang/Class;"⟩ ⟨"java/lang/Object", "getClass", "()Ljava/lang/Class;"⟩ ∈ TB := TB_in 310 (by decide +kernel) (by decide +kernel)
theorem kw_271 : Cond.selects "java/util/NoSuchElementException" ⟨"java/lang/Object", "getClass", "()Ljava/lang/Class;"⟩ ⟨"java/lang/Object", "getClass", "()Ljava/lang/Class;"⟩ ∈ TB := TB_in 311 (by decide +kernel) (by decide +kernel)
theorem kw_272 : Cond.native ⟨"java/lang/Object", "getClass", "()Ljava/lang/Class;"⟩ ∈ TB := TB_in 312 (by decide +kernel) (by decide +kernel)
theorem kw_273 : Cond.methodLink "java/util/Arrays" 300 yJ7_copyOf_6403c ∈ TB := TB_in 313 (by decide +kernel) (by decide +kernel)
theorem kw_274 : Cond.static yJ7_copyOf_6403c ∈ TB := TB_in 314 (by decide +kernel) (by decide +kernel)
theorem kw_275 : Cond.code yJ7_copyOf_6403c cJ7_copyOf_6403c 4 (some (FieldType.array (FieldType.object "java/lang/Object"))) ∈ TB := TB_in 315 (by decide +kernel) (by decide +kernel)
theorem kw_276 : Cond.classLink "java/util/Arrays" 110 "[Ljava/lang/Object;" ∈ TB := TB_in 316 (by decide +kernel) (by decide +kernel)
theorem kw_278 : Cond.classLink "java/util/Arrays" 2 "java/lang/Object" ∈ TB := TB_in 318 (by decide +kernel) (by decide +kernel)
theorem kw_279 : Cond.methodLink "java/util/Arrays" 304 yJ9_min_7cf53 ∈ TB := TB_in 319 (by decide +kernel) (by decide +kernel)
theorem kw_280 : Cond.static yJ9_min_7cf53 ∈ TB := TB_in 320 (by decide +kernel) (by decide +kernel)
theorem kw_281 : Cond.code yJ9_min_7cf53 cJ9_min_7cf53 2 (some FieldType.int) ∈ TB := TB_in 321 (by decide +kernel) (by decide +kernel)
theorem kw_282 : Cond.methodLink "java/util/Arrays" 150 ⟨"java/lang/System", "arraycopy", "(Ljava/lang/Object;ILjava/lang/Object;II)V"⟩ ∈ TB := TB_in 322 (by decide +kernel) (by decide +kernel)
theorem kw_283 : Cond.static ⟨"java/lang/System", "arraycopy", "(Ljava/lang/Object;ILjava/lang/Object;II)V"⟩ ∈ TB := TB_in 323 (by decide +kernel) (by decide +kernel)
theorem kw_284 : Cond.native ⟨"java/lang/System", "arraycopy", "(Ljava/lang/Object;ILjava/lang/Object;II)V"⟩ ∈ TB := TB_in 324 (by decide +kernel) (by decide +kernel)
theorem kw_285 : Cond.methodLink "java/util/ArrayList" 79 yJ9_max_7cf53 ∈ TB := TB_in 325 (by decide +kernel) (by decide +kernel)
theorem kw_286 : Cond.classLink "java/util/ArrayList" 7 "java/lang/Object" ∈ TB := TB_in 326 (by decide +kernel) (by decide +kernel)
theorem kw_287 : Cond.methodLink "TuneHouseLaw" 24 yX7_note ∈ TB := TB_in 327 (by decide +kernel) (by decide +kernel)
theorem kw_288 : Cond.instanceMethod yX7_note ∈ TB := TB_in 328 (by decide +kernel) (by decide +kernel)
theorem kw_289 : Cond.selects "TuneHouse" yX7_note yX7_note ∈ TB := TB_in 329 (by decide +kernel) (by decide +kernel)
theorem kw_290 : Cond.code yX7_note cX7_note 5 (some FieldType.int) ∈ TB := TB_in 330 (by decide +kernel) (by decide +kernel)
theorem kw_291 : Cond.methodLink "TuneHouse" 77 yX7_find ∈ TB := TB_in 331 (by decide +kernel) (by decide +kernel)
theorem kw_293 : Cond.instanceMethod yX7_find ∈ TB := TB_in 333 (by decide +kernel) (by decide +kernel)
theorem kw_294 : Cond.code yX7_find cX7_find 2 (some (FieldType.object "TuneHouse$Sheet")) ∈ TB := TB_in 334 (by decide +kernel) (by decide +kernel)
theorem kw_295 : Cond.methodLink "TuneHouse" 174 yJx4a65c_get_915e3 ∈ TB := TB_in 335 (by decide +kernel) (by decide +kernel)
theorem kw_296 : Cond.instanceMethod yJx4a65c_get_915e3 ∈ TB := TB_in 336 (by decide +kernel) (by decide +kernel)
theorem kw_297 : Cond.selects "java/util/ArrayList" yJx4a65c_get_915e3 yJx4a65c_get_915e3 ∈ TB := TB_in 337 (by decide +kernel) (by decide +kernel)
theorem kw_298 : Cond.code yJx4a65c_get_915e3 cJx4a65c_get_915e3 2 (some (FieldType.object "java/lang/Object")) ∈ TB := TB_in 338 (by decide +kernel) (by decide +kernel)
theorem kw_299 : Cond.methodLink "java/util/ArrayList" 118 yJ15_checkIndex_7cf53 ∈ TB := TB_in 339 (by decide +kernel) (by decide +kernel)
theorem kw_300 : Cond.static yJ15_checkIndex_7cf53 ∈ TB := TB_in 340 (by decide +kernel) (by decide +kernel)
theorem kw_301 : Cond.code yJ15_checkIndex_7cf53 cJ15_checkIndex_7cf53 2 (some FieldType.int) ∈ TB := TB_in 341 (by decide +kernel) (by decide +kernel)
theorem kw_302 : Cond.methodLink "java/util/Objects" 105 yJ3_checkIndex_8e157 ∈ TB := TB_in 342 (by decide +kernel) (by decide +kernel)
theorem kw_303 : Cond.static yJ3_checkIndex_8e157 ∈ TB := TB_in 343 (by decide +kernel) (by decide +kernel)
theorem kw_304 : Cond.code yJ3_checkIndex_8e157 cJ3_checkIndex_8e157 3 (some FieldType.int) ∈ TB := TB_in 344 (by decide +kernel) (by decide +kernel)
theorem kw_305 : Cond.methodLink "java/util/ArrayList" 123 yJx4a65c_elementData_915e3 ∈ TB := TB_in 345 (by decide +kernel) (by decide +kernel)
theorem kw_306 : Cond.instanceMethod yJx4a65c_elementData_915e3 ∈ TB := TB_in 346 (by decide +kernel) (by decide +kernel)
theorem kw_307 : Cond.selects "java/util/ArrayList" yJx4a65c_elementData_915e3 yJx4a65c_elementData_915e3 ∈ TB := TB_in 347 (by decide +kernel) (by decide +kernel)
theorem kw_308 : Cond.code yJx4a65c_elementData_915e3 cJx4a65c_elementData_915e3 2 (some (FieldType.object "java/lang/Object")) ∈ TB := TB_in 348 (by decide +kernel) (by decide +kernel)
theorem kw_309 : Cond.methodLink "TuneHouse" 81 yX7_isNote ∈ TB := TB_in 349 (by decide +kernel) (by decide +kernel)
theorem kw_310 : Cond.static yX7_isNote ∈ TB := TB_in 350 (by decide +kernel) (by decide +kernel)
theorem kw_311 : Cond.code yX7_isNote cX7_isNote 2 (some FieldType.boolean) ∈ TB := TB_in 351 (by decide +kernel) (by decide +kernel)
theorem kw_312 : Cond.methodLink "TuneHouse" 84 yX5_append ∈ TB := TB_in 352 (by decide +kernel) (by decide +kernel)
theorem kw_313 : Cond.instanceMethod yX5_append ∈ TB := TB_in 353 (by decide +kernel) (by decide +kernel)
theorem kw_314 : Cond.selects "TuneHouse$Sheet" yX5_append yX5_append ∈ TB := TB_in 354 (by decide +kernel) (by decide +kernel)
theorem kw_315 : Cond.code yX5_append cX5_append 3 (some FieldType.boolean) ∈ TB := TB_in 355 (by decide +kernel) (by decide +kernel)
theorem kw_316 : Cond.methodLink "TuneHouse$Sheet" 52 yX6_append ∈ TB := TB_in 356 (by decide +kernel) (by decide +kernel)
theorem kw_317 : Cond.instanceMethod yX6_append ∈ TB := TB_in 357 (by decide +kernel) (by decide +kernel)
theorem kw_318 : Cond.selects "TuneHouse$Tune" yX6_append yX6_append ∈ TB := TB_in 358 (by decide +kernel) (by decide +kernel)
theorem kw_319 : Cond.code yX6_append cX6_append 3 (some FieldType.boolean) ∈ TB := TB_in 359 (by decide +kernel) (by decide +kernel)
theorem kw_320 : Cond.methodLink "TuneHouse$Tune" 22 yX6_put ∈ TB := TB_in 360 (by decide +kernel) (by decide +kernel)
theorem kw_321 : Cond.instanceMethod yX6_put ∈ TB := TB_in 361 (by decide +kernel) (by decide +kernel)
theorem kw_322 : Cond.selects "TuneHouse$Tune" yX6_put yX6_put ∈ TB := TB_in 362 (by decide +kernel) (by decide +kernel)
theorem kw_323 : Cond.code yX6_put cX6_put 4 none ∈ TB := TB_in 363 (by decide +kernel) (by decide +kernel)
theorem kw_324 : Cond.methodLink "TuneHouse$Tune" 26 yX6_has ∈ TB := TB_in 364 (by decide +kernel) (by decide +kernel)
theorem kw_325 : Cond.instanceMethod yX6_has ∈ TB := TB_in 365 (by decide +kernel) (by decide +kernel)
theorem kw_326 : Cond.selects "TuneHouse$Tune" yX6_has yX6_has ∈ TB := TB_in 366 (by decide +kernel) (by decide +kernel)
theorem kw_327 : Cond.code yX6_has cX6_has 2 (some FieldType.boolean) ∈ TB := TB_in 367 (by decide +kernel) (by decide +kernel)
theorem kw_328 : Cond.methodLink "TuneHouse" 90 yX5_length ∈ TB := TB_in 368 (by decide +kernel) (by decide +kernel)
theorem kw_329 : Cond.instanceMethod yX5_length ∈ TB := TB_in 369 (by decide +kernel) (by decide +kernel)
theorem kw_330 : Cond.selects "TuneHouse$Sheet" yX5_length yX5_length ∈ TB := TB_in 370 (by decide +kernel) (by decide +kernel)
theorem kw_331 : Cond.code yX5_length cX5_length 1 (some FieldType.int) ∈ TB := TB_in 371 (by decide +kernel) (by decide +kernel)
theorem kw_332 : Cond.methodLink "TuneHouse$Sheet" 44 yX6_length ∈ TB := TB_in 372 (by decide +kernel) (by decide +kernel)
theorem kw_333 : Cond.instanceMethod yX6_length ∈ TB := TB_in 373 (by decide +kernel) (by decide +kernel)
theorem kw_334 : Cond.selects "TuneHouse$Tune" yX6_length yX6_length ∈ TB := TB_in 374 (by decide +kernel) (by decide +kernel)
theorem kw_335 : Cond.code yX6_length cX6_length 1 (some FieldType.int) ∈ TB := TB_in 375 (by decide +kernel) (by decide +kernel)
theorem kw_336 : Cond.methodLink "TuneHouseLaw" 28 yX7_correct ∈ TB := TB_in 376 (by decide +kernel) (by decide +kernel)
theorem kw_337 : Cond.instanceMethod yX7_correct ∈ TB := TB_in 377 (by decide +kernel) (by decide +kernel)
theorem kw_338 : Cond.selects "TuneHouse" yX7_correct yX7_correct ∈ TB := TB_in 378 (by decide +kernel) (by decide +kernel)
theorem kw_339 : Cond.code yX7_correct cX7_correct 6 (some FieldType.boolean) ∈ TB := TB_in 379 (by decide +kernel) (by decide +kernel)
theorem kw_340 : Cond.methodLink "TuneHouse" 93 yX5_has ∈ TB := TB_in 380 (by decide +kernel) (by decide +kernel)
theorem kw_341 : Cond.instanceMethod yX5_has ∈ TB := TB_in 381 (by decide +kernel) (by decide +kernel)
theorem kw_342 : Cond.selects "TuneHouse$Sheet" yX5_has yX5_has ∈ TB := TB_in 382 (by decide +kernel) (by decide +kernel)
theorem kw_343 : Cond.code yX5_has cX5_has 2 (some FieldType.boolean) ∈ TB := TB_in 383 (by decide +kernel) (by decide +kernel)
theorem kw_344 : Cond.methodLink "TuneHouse$Sheet" 48 yX6_has ∈ TB := TB_in 384 (by decide +kernel) (by decide +kernel)
theorem kw_345 : Cond.classLink "TuneHouse" 99 "TuneHouse$Correction" ∈ TB := TB_in 385 (by decide +kernel) (by decide +kernel)
theorem kw_346 : Cond.instantiable "TuneHouse$Correction" 4 ∈ TB := TB_in 386 (by decide +kernel) (by decide +kernel)
theorem kw_347 : Cond.methodLink "TuneHouse" 101 yX1_init ∈ TB := TB_in 387 (by decide +kernel) (by decide +kernel)
theorem kw_348 : Cond.instanceMethod yX1_init ∈ TB := TB_in 388 (by decide +kernel) (by decide +kernel)
theorem kw_349 : Cond.code yX1_init cX1_init 5 none ∈ TB := TB_in 389 (by decide +kernel) (by decide +kernel)
theorem kw_350 : Cond.methodLink "TuneHouse$Correction" 1 ⟨"java/lang/Object", "<init>", "()V"⟩ ∈ TB := TB_in 390 (by decide +kernel) (by decide +kernel)
theorem kw_351 : Cond.fieldLink "TuneHouse$Correction" 7 "TuneHouse$Correction" "since" "I" ∈ TB := TB_in 391 (by decide +kernel) (by decide +kernel)
theorem kw_352 : Cond.fieldLink "TuneHouse$Sheet" 93 "TuneHouse$Correction" "since" "I" ∈ TB := TB_in 392 (by decide +kernel) (by decide +kernel)
theorem kw_353 : Cond.fieldLink "TuneHouse$Correction" 13 "TuneHouse$Correction" "place" "I" ∈ TB := TB_in 393 (by decide +kernel) (by decide +kernel)
theorem kw_354 : Cond.fieldLink "TuneHouse$Sheet" 80 "TuneHouse$Correction" "place" "I" ∈ TB := TB_in 394 (by decide +kernel) (by decide +kernel)
theorem kw_355 : Cond.fieldLink "TuneHouse$Correction" 16 "TuneHouse$Correction" "pitch" "I" ∈ TB := TB_in 395 (by decide +kernel) (by decide +kernel)
theorem kw_356 : Cond.fieldLink "TuneHouse$Sheet" 83 "TuneHouse$Correction" "pitch" "I" ∈ TB := TB_in 396 (by decide +kernel) (by decide +kernel)
theorem kw_357 : Cond.fieldLink "TuneHouse$Correction" 19 "TuneHouse$Correction" "beats" "I" ∈ TB := TB_in 397 (by decide +kernel) (by decide +kernel)
theorem kw_358 : Cond.fieldLink "TuneHouse$Sheet" 86 "TuneHouse$Correction" "beats" "I" ∈ TB := TB_in 398 (by decide +kernel) (by decide +kernel)
theorem kw_368 : Cond.methodLink "TuneHouse" 102 yX5_amend ∈ TB := TB_in 408 (by decide +kernel) (by decide +kernel)
theorem kw_369 : Cond.instanceMethod yX5_amend ∈ TB := TB_in 409 (by decide +kernel) (by decide +kernel)
theorem kw_370 : Cond.selects "TuneHouse$Sheet" yX5_amend yX5_amend ∈ TB := TB_in 410 (by decide +kernel) (by decide +kernel)
theorem kw_371 : Cond.code yX5_amend cX5_amend 2 none ∈ TB := TB_in 411 (by decide +kernel) (by decide +kernel)
theorem kw_372 : Cond.methodLink "TuneHouse$Sheet" 56 yJx4a65c_add_9ea2d ∈ TB := TB_in 412 (by decide +kernel) (by decide +kernel)
theorem kw_373 : Cond.methodLink "TuneHouseLaw" 33 yX7_forge ∈ TB := TB_in 413 (by decide +kernel) (by decide +kernel)
theorem kw_374 : Cond.instanceMethod yX7_forge ∈ TB := TB_in 414 (by decide +kernel) (by decide +kernel)
theorem kw_375 : Cond.selects "TuneHouse" yX7_forge yX7_forge ∈ TB := TB_in 415 (by decide +kernel) (by decide +kernel)
theorem kw_376 : Cond.code yX7_forge cX7_forge 3 (some FieldType.boolean) ∈ TB := TB_in 416 (by decide +kernel) (by decide +kernel)
theorem kw_377 : Cond.methodLink "TuneHouse" 106 yX5_isForgedBy ∈ TB := TB_in 417 (by decide +kernel) (by decide +kernel)
theorem kw_378 : Cond.instanceMethod yX5_isForgedBy ∈ TB := TB_in 418 (by decide +kernel) (by decide +kernel)
theorem kw_379 : Cond.selects "TuneHouse$Sheet" yX5_isForgedBy yX5_isForgedBy ∈ TB := TB_in 419 (by decide +kernel) (by decide +kernel)
theorem kw_380 : Cond.code yX5_isForgedBy cX5_isForgedBy 2 (some FieldType.boolean) ∈ TB := TB_in 420 (by decide +kernel) (by decide +kernel)
theorem kw_381 : Cond.methodLink "TuneHouse" 109 yX5_markForged ∈ TB := TB_in 421 (by decide +kernel) (by decide +kernel)
theorem kw_382 : Cond.instanceMethod yX5_markForged ∈ TB := TB_in 422 (by decide +kernel) (by decide +kernel)
theorem kw_383 : Cond.selects "TuneHouse$Sheet" yX5_markForged yX5_markForged ∈ TB := TB_in 423 (by decide +kernel) (by decide +kernel)
theorem kw_384 : Cond.code yX5_markForged cX5_markForged 2 none ∈ TB := TB_in 424 (by decide +kernel) (by decide +kernel)
theorem kw_385 : Cond.methodLink "TuneHouseLaw" 38 yX7_doubles ∈ TB := TB_in 425 (by decide +kernel) (by decide +kernel)
theorem kw_386 : Cond.instanceMethod yX7_doubles ∈ TB := TB_in 426 (by decide +kernel) (by decide +kernel)
theorem kw_387 : Cond.selects "TuneHouse" yX7_doubles yX7_doubles ∈ TB := TB_in 427 (by decide +kernel) (by decide +kernel)
theorem kw_388 : Cond.code yX7_doubles cX7_doubles 5 (some FieldType.boolean) ∈ TB := TB_in 428 (by decide +kernel) (by decide +kernel)
theorem kw_389 : Cond.methodLink "TuneHouse" 119 yX7_isPair ∈ TB := TB_in 429 (by decide +kernel) (by decide +kernel)
theorem kw_391 : Cond.instanceMethod yX7_isPair ∈ TB := TB_in 431 (by decide +kernel) (by decide +kernel)
theorem kw_392 : Cond.code yX7_isPair cX7_isPair 4 (some FieldType.boolean) ∈ TB := TB_in 432 (by decide +kernel) (by decide +kernel)
theorem kw_393 : Cond.classLink "TuneHouse" 123 "TuneHouse$Pair" ∈ TB := TB_in 433 (by decide +kernel) (by decide +kernel)
theorem kw_394 : Cond.methodLink "TuneHouse" 216 yX3_joins ∈ TB := TB_in 434 (by decide +kernel) (by decide +kernel)
theorem kw_395 : Cond.instanceMethod yX3_joins ∈ TB := TB_in 435 (by decide +kernel) (by decide +kernel)
theorem kw_396 : Cond.selects "TuneHouse$Pair" yX3_joins yX3_joins ∈ TB := TB_in 436 (by decide +kernel) (by decide +kernel)
theorem kw_397 : Cond.code yX3_joins cX3_joins 3 (some FieldType.boolean) ∈ TB := TB_in 437 (by decide +kernel) (by decide +kernel)
theorem kw_398 : Cond.instantiable "TuneHouse$Pair" 2 ∈ TB := TB_in 438 (by decide +kernel) (by decide +kernel)
theorem kw_399 : Cond.methodLink "TuneHouse" 125 yX3_init ∈ TB := TB_in 439 (by decide +kernel) (by decide +kernel)
theorem kw_400 : Cond.instanceMethod yX3_init ∈ TB := TB_in 440 (by decide +kernel) (by decide +kernel)
theorem kw_401 : Cond.code yX3_init cX3_init 3 none ∈ TB := TB_in 441 (by decide +kernel) (by decide +kernel)
theorem kw_402 : Cond.methodLink "TuneHouse$Pair" 1 ⟨"java/lang/Object", "<init>", "()V"⟩ ∈ TB := TB_in 442 (by decide +kernel) (by decide +kernel)
theorem kw_403 : Cond.fieldLink "TuneHouse$Pair" 7 "TuneHouse$Pair" "one" "LTuneHouse$Sheet;" ∈ TB := TB_in 443 (by decide +kernel) (by decide +kernel)
theorem kw_404 : Cond.fieldLink "TuneHouse$Pair" 13 "TuneHouse$Pair" "other" "LTuneHouse$Sheet;" ∈ TB := TB_in 444 (by decide +kernel) (by decide +kernel)
theorem kw_410 : Cond.methodLink "TuneHouseLaw" 43 yX7_days ∈ TB := TB_in 450 (by decide +kernel) (by decide +kernel)
theorem kw_411 : Cond.instanceMethod yX7_days ∈ TB := TB_in 451 (by decide +kernel) (by decide +kernel)
theorem kw_412 : Cond.selects "TuneHouse" yX7_days yX7_days ∈ TB := TB_in 452 (by decide +kernel) (by decide +kernel)
theorem kw_413 : Cond.code yX7_days cX7_days 2 (some FieldType.int) ∈ TB := TB_in 453 (by decide +kernel) (by decide +kernel)
theorem kw_414 : Cond.methodLink "TuneHouseLaw" 48 yX7_price ∈ TB := TB_in 454 (by decide +kernel) (by decide +kernel)
theorem kw_415 : Cond.instanceMethod yX7_price ∈ TB := TB_in 455 (by decide +kernel) (by decide +kernel)
theorem kw_416 : Cond.selects "TuneHouse" yX7_price yX7_price ∈ TB := TB_in 456 (by decide +kernel) (by decide +kernel)
theorem kw_417 : Cond.code yX7_price cX7_price 3 (some FieldType.boolean) ∈ TB := TB_in 457 (by decide +kernel) (by decide +kernel)
theorem kw_418 : Cond.methodLink "TuneHouse" 128 yX4_set ∈ TB := TB_in 458 (by decide +kernel) (by decide +kernel)
theorem kw_419 : Cond.instanceMethod yX4_set ∈ TB := TB_in 459 (by decide +kernel) (by decide +kernel)
theorem kw_420 : Cond.selects "TuneHouse$Prices" yX4_set yX4_set ∈ TB := TB_in 460 (by decide +kernel) (by decide +kernel)
theorem kw_421 : Cond.code yX4_set cX4_set 3 (some FieldType.boolean) ∈ TB := TB_in 461 (by decide +kernel) (by decide +kernel)
theorem kw_422 : Cond.fieldLink "TuneHouse$Prices" 15 "TuneHouse$Prices" "TOPS" "[I" ∈ TB := TB_in 462 (by decide +kernel) (by decide +kernel)
theorem kn_424 : Cond.methodLinkNest "TuneHouse$Prices" 18 yX7_isWithin "TuneHouse" ∈ NB := NB_in 464 (by decide +kernel) rfl
theorem kw_425 : Cond.methodLink "TuneHouse" 131 yX2_forgetAll ∈ TB := TB_in 465 (by decide +kernel) (by decide +kernel)
theorem kw_426 : Cond.instanceMethod yX2_forgetAll ∈ TB := TB_in 466 (by decide +kernel) (by decide +kernel)
theorem kw_427 : Cond.selects "TuneHouse$Likeness" yX2_forgetAll yX2_forgetAll ∈ TB := TB_in 467 (by decide +kernel) (by decide +kernel)
theorem kw_428 : Cond.code yX2_forgetAll cX2_forgetAll 2 none ∈ TB := TB_in 468 (by decide +kernel) (by decide +kernel)
theorem kw_429 : Cond.methodLink "TuneHouseLaw" 62 yX7_distance ∈ TB := TB_in 469 (by decide +kernel) (by decide +kernel)
theorem kw_430 : Cond.instanceMethod yX7_distance ∈ TB := TB_in 470 (by decide +kernel) (by decide +kernel)
theorem kw_431 : Cond.selects "TuneHouse" yX7_distance yX7_distance ∈ TB := TB_in 471 (by decide +kernel) (by decide +kernel)
theorem kw_432 : Cond.code yX7_distance cX7_distance 6 (some FieldType.int) ∈ TB := TB_in 472 (by decide +kernel) (by decide +kernel)
theorem kw_433 : Cond.methodLink "TuneHouse" 134 yX7_isDay ∈ TB := TB_in 473 (by decide +kernel) (by decide +kernel)
theorem kw_435 : Cond.instanceMethod yX7_isDay ∈ TB := TB_in 475 (by decide +kernel) (by decide +kernel)
theorem kw_436 : Cond.code yX7_isDay cX7_isDay 2 (some FieldType.boolean) ∈ TB := TB_in 476 (by decide +kernel) (by decide +kernel)
theorem kw_437 : Cond.methodLink "TuneHouse" 140 yX7_turnTo ∈ TB := TB_in 477 (by decide +kernel) (by decide +kernel)
theorem kw_439 : Cond.instanceMethod yX7_turnTo ∈ TB := TB_in 479 (by decide +kernel) (by decide +kernel)
theorem kw_440 : Cond.code yX7_turnTo cX7_turnTo 4 none ∈ TB := TB_in 480 (by decide +kernel) (by decide +kernel)
theorem kw_441 : Cond.methodLink "TuneHouse" 219 yX5_openOn ∈ TB := TB_in 481 (by decide +kernel) (by decide +kernel)
theorem kw_442 : Cond.instanceMethod yX5_openOn ∈ TB := TB_in 482 (by decide +kernel) (by decide +kernel)
theorem kw_443 : Cond.selects "TuneHouse$Sheet" yX5_openOn yX5_openOn ∈ TB := TB_in 483 (by decide +kernel) (by decide +kernel)
theorem kw_444 : Cond.code yX5_openOn cX5_openOn 5 (some FieldType.boolean) ∈ TB := TB_in 484 (by decide +kernel) (by decide +kernel)
theorem kw_445 : Cond.methodLink "TuneHouse$Sheet" 60 yX5_amendedBy ∈ TB := TB_in 485 (by decide +kernel) (by decide +kernel)
theorem kw_447 : Cond.instanceMethod yX5_amendedBy ∈ TB := TB_in 487 (by decide +kernel) (by decide +kernel)
theorem kw_448 : Cond.code yX5_amendedBy cX5_amendedBy 3 (some FieldType.int) ∈ TB := TB_in 488 (by decide +kernel) (by decide +kernel)
theorem kw_449 : Cond.methodLink "TuneHouse$Sheet" 71 yJx4a65c_size_8abf5 ∈ TB := TB_in 489 (by decide +kernel) (by decide +kernel)
theorem kw_450 : Cond.methodLink "TuneHouse$Sheet" 74 yJx4a65c_get_915e3 ∈ TB := TB_in 490 (by decide +kernel) (by decide +kernel)
theorem kw_451 : Cond.classLink "TuneHouse$Sheet" 78 "TuneHouse$Correction" ∈ TB := TB_in 491 (by decide +kernel) (by decide +kernel)
theorem kw_452 : Cond.methodLink "TuneHouse$Sheet" 67 yX6_copy ∈ TB := TB_in 492 (by decide +kernel) (by decide +kernel)
theorem kw_453 : Cond.instanceMethod yX6_copy ∈ TB := TB_in 493 (by decide +kernel) (by decide +kernel)
theorem kw_454 : Cond.selects "TuneHouse$Tune" yX6_copy yX6_copy ∈ TB := TB_in 494 (by decide +kernel) (by decide +kernel)
theorem kw_455 : Cond.code yX6_copy cX6_copy 3 none ∈ TB := TB_in 495 (by decide +kernel) (by decide +kernel)
theorem kw_456 : Cond.methodLink "TuneHouse$Sheet" 89 yX6_put ∈ TB := TB_in 496 (by decide +kernel) (by decide +kernel)
theorem kw_457 : Cond.methodLink "TuneHouse" 222 yX2_forget ∈ TB := TB_in 497 (by decide +kernel) (by decide +kernel)
theorem kw_458 : Cond.instanceMethod yX2_forget ∈ TB := TB_in 498 (by decide +kernel) (by decide +kernel)
theorem kw_459 : Cond.selects "TuneHouse$Likeness" yX2_forget yX2_forget ∈ TB := TB_in 499 (by decide +kernel) (by decide +kernel)
theorem kw_460 : Cond.code yX2_forget cX2_forget 3 none ∈ TB := TB_in 500 (by decide +kernel) (by decide +kernel)
theorem kw_461 : Cond.methodLink "TuneHouse" 156 yX2_apart ∈ TB := TB_in 501 (by decide +kernel) (by decide +kernel)
theorem kw_462 : Cond.instanceMethod yX2_apart ∈ TB := TB_in 502 (by decide +kernel) (by decide +kernel)
theorem kw_463 : Cond.selects "TuneHouse$Likeness" yX2_apart yX2_apart ∈ TB := TB_in 503 (by decide +kernel) (by decide +kernel)
theorem kw_464 : Cond.code yX2_apart cX2_apart 3 (some FieldType.int) ∈ TB := TB_in 504 (by decide +kernel) (by decide +kernel)
theorem kw_465 : Cond.methodLink "TuneHouse$Likeness" 32 yX2_learn ∈ TB := TB_in 505 (by decide +kernel) (by decide +kernel)
theorem kw_467 : Cond.instanceMethod yX2_learn ∈ TB := TB_in 507 (by decide +kernel) (by decide +kernel)
theorem kw_468 : Cond.code yX2_learn cX2_learn 8 (some FieldType.int) ∈ TB := TB_in 508 (by decide +kernel) (by decide +kernel)
theorem kw_469 : Cond.constant "TuneHouse$Likeness" 36 (2147483647 : Int32) ∈ TB := TB_in 509 (by decide +kernel) (by decide +kernel)
theorem kw_470 : Cond.methodLink "TuneHouse$Likeness" 41 yX0_leastSum ∈ TB := TB_in 510 (by decide +kernel) (by decide +kernel)
theorem kw_471 : Cond.instanceMethod yX0_leastSum ∈ TB := TB_in 511 (by decide +kernel) (by decide +kernel)
theorem kw_472 : Cond.selects "TuneHouse$Aligner" yX0_leastSum yX0_leastSum ∈ TB := TB_in 512 (by decide +kernel) (by decide +kernel)
theorem kw_473 : Cond.code yX0_leastSum cX0_leastSum 18 (some FieldType.int) ∈ TB := TB_in 513 (by decide +kernel) (by decide +kernel)
theorem kw_474 : Cond.methodLink "TuneHouse$Aligner" 30 yX4_out ∈ TB := TB_in 514 (by decide +kernel) (by decide +kernel)
theorem kw_475 : Cond.instanceMethod yX4_out ∈ TB := TB_in 515 (by decide +kernel) (by decide +kernel)
theorem kw_476 : Cond.selects "TuneHouse$Prices" yX4_out yX4_out ∈ TB := TB_in 516 (by decide +kernel) (by decide +kernel)
theorem kw_477 : Cond.code yX4_out cX4_out 1 (some FieldType.int) ∈ TB := TB_in 517 (by decide +kernel) (by decide +kernel)
theorem kw_478 : Cond.methodLink "TuneHouse$Aligner" 36 yX0_fillFirstRow ∈ TB := TB_in 518 (by decide +kernel) (by decide +kernel)
theorem kw_480 : Cond.instanceMethod yX0_fillFirstRow ∈ TB := TB_in 520 (by decide +kernel) (by decide +kernel)
theorem kw_481 : Cond.code yX0_fillFirstRow cX0_fillFirstRow 5 none ∈ TB := TB_in 521 (by decide +kernel) (by decide +kernel)
theorem kw_482 : Cond.methodLink "TuneHouse$Aligner" 52 yX4_ofNotes ∈ TB := TB_in 522 (by decide +kernel) (by decide +kernel)
theorem kw_483 : Cond.instanceMethod yX4_ofNotes ∈ TB := TB_in 523 (by decide +kernel) (by decide +kernel)
theorem kw_484 : Cond.selects "TuneHouse$Prices" yX4_ofNotes yX4_ofNotes ∈ TB := TB_in 524 (by decide +kernel) (by decide +kernel)
theorem kw_485 : Cond.code yX4_ofNotes cX4_ofNotes 5 (some FieldType.int) ∈ TB := TB_in 525 (by decide +kernel) (by decide +kernel)
theorem kw_486 : Cond.methodLink "TuneHouseLaw" 66 yX7_key ∈ TB := TB_in 526 (by decide +kernel) (by decide +kernel)
theorem kw_487 : Cond.instanceMethod yX7_key ∈ TB := TB_in 527 (by decide +kernel) (by decide +kernel)
theorem kw_488 : Cond.selects "TuneHouse" yX7_key yX7_key ∈ TB := TB_in 528 (by decide +kernel) (by decide +kernel)
theorem kw_489 : Cond.code yX7_key cX7_key 6 (some FieldType.int) ∈ TB := TB_in 529 (by decide +kernel) (by decide +kernel)
theorem kw_490 : Cond.methodLink "TuneHouse" 160 yX2_toldKey ∈ TB := TB_in 530 (by decide +kernel) (by decide +kernel)
theorem kw_491 : Cond.instanceMethod yX2_toldKey ∈ TB := TB_in 531 (by decide +kernel) (by decide +kernel)
theorem kw_492 : Cond.selects "TuneHouse$Likeness" yX2_toldKey yX2_toldKey ∈ TB := TB_in 532 (by decide +kernel) (by decide +kernel)
theorem kw_493 : Cond.code yX2_toldKey cX2_toldKey 3 (some FieldType.int) ∈ TB := TB_in 533 (by decide +kernel) (by decide +kernel)
theorem kw_494 : Cond.methodLink "TuneHouseLaw" 70 yX7_column ∈ TB := TB_in 534 (by decide +kernel) (by decide +kernel)
theorem kw_495 : Cond.instanceMethod yX7_column ∈ TB := TB_in 535 (by decide +kernel) (by decide +kernel)
theorem kw_496 : Cond.selects "TuneHouse" yX7_column yX7_column ∈ TB := TB_in 536 (by decide +kernel) (by decide +kernel)
theorem kw_497 : Cond.code yX7_column cX7_column 8 (some FieldType.int) ∈ TB := TB_in 537 (by decide +kernel) (by decide +kernel)
theorem kw_498 : Cond.methodLink "TuneHouse" 163 yX7_layOut ∈ TB := TB_in 538 (by decide +kernel) (by decide +kernel)
theorem kw_500 : Cond.instanceMethod yX7_layOut ∈ TB := TB_in 540 (by decide +kernel) (by decide +kernel)
theorem kw_501 : Cond.code yX7_layOut cX7_layOut 3 none ∈ TB := TB_in 541 (by decide +kernel) (by decide +kernel)
theorem kw_502 : Cond.methodLink "TuneHouse" 226 yX0_layOut ∈ TB := TB_in 542 (by decide +kernel) (by decide +kernel)
theorem kw_503 : Cond.instanceMethod yX0_layOut ∈ TB := TB_in 543 (by decide +kernel) (by decide +kernel)
theorem kw_504 : Cond.selects "TuneHouse$Aligner" yX0_layOut yX0_layOut ∈ TB := TB_in 544 (by decide +kernel) (by decide +kernel)
theorem kw_505 : Cond.code yX0_layOut cX0_layOut 6 none ∈ TB := TB_in 545 (by decide +kernel) (by decide +kernel)
theorem kw_506 : Cond.constant "TuneHouse$Aligner" 56 (2147483647 : Int32) ∈ TB := TB_in 546 (by decide +kernel) (by decide +kernel)
theorem kw_507 : Cond.methodLink "TuneHouse$Aligner" 57 yX0_leastSum ∈ TB := TB_in 547 (by decide +kernel) (by decide +kernel)
theorem kw_508 : Cond.methodLink "TuneHouse$Aligner" 67 yX6_length ∈ TB := TB_in 548 (by decide +kernel) (by decide +kernel)
theorem kw_509 : Cond.methodLink "TuneHouse$Aligner" 69 yX0_takesTwo ∈ TB := TB_in 549 (by decide +kernel) (by decide +kernel)
theorem kw_511 : Cond.instanceMethod yX0_takesTwo ∈ TB := TB_in 551 (by decide +kernel) (by decide +kernel)
theorem kw_512 : Cond.code yX0_takesTwo cX0_takesTwo 6 (some FieldType.boolean) ∈ TB := TB_in 552 (by decide +kernel) (by decide +kernel)
theorem kw_513 : Cond.methodLink "TuneHouse$Aligner" 73 yX4_ofTwo ∈ TB := TB_in 553 (by decide +kernel) (by decide +kernel)
theorem kw_514 : Cond.instanceMethod yX4_ofTwo ∈ TB := TB_in 554 (by decide +kernel) (by decide +kernel)
theorem kw_515 : Cond.selects "TuneHouse$Prices" yX4_ofTwo yX4_ofTwo ∈ TB := TB_in 555 (by decide +kernel) (by decide +kernel)
theorem kw_516 : Cond.code yX4_ofTwo cX4_ofTwo 8 (some FieldType.int) ∈ TB := TB_in 556 (by decide +kernel) (by decide +kernel)
theorem kw_517 : Cond.methodLink "TuneHouse$Prices" 22 yX6_pitchAt ∈ TB := TB_in 557 (by decide +kernel) (by decide +kernel)
theorem kw_518 : Cond.instanceMethod yX6_pitchAt ∈ TB := TB_in 558 (by decide +kernel) (by decide +kernel)
theorem kw_519 : Cond.selects "TuneHouse$Tune" yX6_pitchAt yX6_pitchAt ∈ TB := TB_in 559 (by decide +kernel) (by decide +kernel)
theorem kw_520 : Cond.code yX6_pitchAt cX6_pitchAt 2 (some FieldType.int) ∈ TB := TB_in 560 (by decide +kernel) (by decide +kernel)
theorem kw_521 : Cond.methodLink "TuneHouse$Prices" 28 yX6_beatsAt ∈ TB := TB_in 561 (by decide +kernel) (by decide +kernel)
theorem kw_522 : Cond.instanceMethod yX6_beatsAt ∈ TB := TB_in 562 (by decide +kernel) (by decide +kernel)
theorem kw_523 : Cond.selects "TuneHouse$Tune" yX6_beatsAt yX6_beatsAt ∈ TB := TB_in 563 (by decide +kernel) (by decide +kernel)
theorem kw_524 : Cond.code yX6_beatsAt cX6_beatsAt 2 (some FieldType.int) ∈ TB := TB_in 564 (by decide +kernel) (by decide +kernel)
theorem kw_525 : Cond.methodLink "TuneHouse$Prices" 31 yX4_ofNotes ∈ TB := TB_in 565 (by decide +kernel) (by decide +kernel)
theorem kw_526 : Cond.methodLink "TuneHouse$Aligner" 77 yX0_put ∈ TB := TB_in 566 (by decide +kernel) (by decide +kernel)
theorem kw_528 : Cond.instanceMethod yX0_put ∈ TB := TB_in 568 (by decide +kernel) (by decide +kernel)
theorem kw_529 : Cond.code yX0_put cX0_put 4 none ∈ TB := TB_in 569 (by decide +kernel) (by decide +kernel)
theorem kw_530 : Cond.methodLink "TuneHouse$Aligner" 81 yX0_takesOne ∈ TB := TB_in 570 (by decide +kernel) (by decide +kernel)
theorem kw_532 : Cond.instanceMethod yX0_takesOne ∈ TB := TB_in 572 (by decide +kernel) (by decide +kernel)
theorem kw_533 : Cond.code yX0_takesOne cX0_takesOne 4 (some FieldType.boolean) ∈ TB := TB_in 573 (by decide +kernel) (by decide +kernel)
theorem kw_534 : Cond.methodLink "TuneHouse$Aligner" 85 yX4_ofOne ∈ TB := TB_in 574 (by decide +kernel) (by decide +kernel)
theorem kw_535 : Cond.instanceMethod yX4_ofOne ∈ TB := TB_in 575 (by decide +kernel) (by decide +kernel)
theorem kw_536 : Cond.selects "TuneHouse$Prices" yX4_ofOne yX4_ofOne ∈ TB := TB_in 576 (by decide +kernel) (by decide +kernel)
theorem kw_537 : Cond.code yX4_ofOne cX4_ofOne 3 (some FieldType.int) ∈ TB := TB_in 577 (by decide +kernel) (by decide +kernel)
theorem kw_538 : Cond.methodLink "TuneHouse" 166 yX0_toldOf ∈ TB := TB_in 578 (by decide +kernel) (by decide +kernel)
theorem kw_539 : Cond.instanceMethod yX0_toldOf ∈ TB := TB_in 579 (by decide +kernel) (by decide +kernel)
theorem kw_540 : Cond.selects "TuneHouse$Aligner" yX0_toldOf yX0_toldOf ∈ TB := TB_in 580 (by decide +kernel) (by decide +kernel)
theorem kw_541 : Cond.code yX0_toldOf cX0_toldOf 4 (some FieldType.int) ∈ TB := TB_in 581 (by decide +kernel) (by decide +kernel)
theorem kw_542 : Cond.methodLink "TuneHouseLaw" 75 yX7_family ∈ TB := TB_in 582 (by decide +kernel) (by decide +kernel)
theorem kw_543 : Cond.instanceMethod yX7_family ∈ TB := TB_in 583 (by decide +kernel) (by decide +kernel)
theorem kw_544 : Cond.selects "TuneHouse" yX7_family yX7_family ∈ TB := TB_in 584 (by decide +kernel) (by decide +kernel)
theorem kw_545 : Cond.code yX7_family cX7_family 6 (some FieldType.int) ∈ TB := TB_in 585 (by decide +kernel) (by decide +kernel)
theorem kw_546 : Cond.methodLink "TuneHouse" 170 yX7_gather ∈ TB := TB_in 586 (by decide +kernel) (by decide +kernel)
theorem kw_548 : Cond.instanceMethod yX7_gather ∈ TB := TB_in 588 (by decide +kernel) (by decide +kernel)
theorem kw_549 : Cond.code yX7_gather cX7_gather 6 (some FieldType.boolean) ∈ TB := TB_in 589 (by decide +kernel) (by decide +kernel)
theorem kw_550 : Cond.methodLink "TuneHouse" 229 yJx4a65c_clear_da8c8 ∈ TB := TB_in 590 (by decide +kernel) (by decide +kernel)
theorem kw_551 : Cond.instanceMethod yJx4a65c_clear_da8c8 ∈ TB := TB_in 591 (by decide +kernel) (by decide +kernel)
theorem kw_552 : Cond.selects "java/util/ArrayList" yJx4a65c_clear_da8c8 yJx4a65c_clear_da8c8 ∈ TB := TB_in 592 (by decide +kernel) (by decide +kernel)
theorem kw_553 : Cond.code yJx4a65c_clear_da8c8 cJx4a65c_clear_da8c8 4 none ∈ TB := TB_in 593 (by decide +kernel) (by decide +kernel)
theorem kw_554 : Cond.methodLink "TuneHouse" 189 yX7_findTrue ∈ TB := TB_in 594 (by decide +kernel) (by decide +kernel)
theorem kw_556 : Cond.instanceMethod yX7_findTrue ∈ TB := TB_in 596 (by decide +kernel) (by decide +kernel)
theorem kw_557 : Cond.code yX7_findTrue cX7_findTrue 4 (some (FieldType.object "TuneHouse$Sheet")) ∈ TB := TB_in 597 (by decide +kernel) (by decide +kernel)
theorem kw_558 : Cond.methodLink "TuneHouse" 232 yX7_addLinked ∈ TB := TB_in 598 (by decide +kernel) (by decide +kernel)
theorem kw_560 : Cond.instanceMethod yX7_addLinked ∈ TB := TB_in 600 (by decide +kernel) (by decide +kernel)
theorem kw_561 : Cond.code yX7_addLinked cX7_addLinked 6 none ∈ TB := TB_in 601 (by decide +kernel) (by decide +kernel)
theorem kw_562 : Cond.methodLink "TuneHouse" 236 yX7_isGathered ∈ TB := TB_in 602 (by decide +kernel) (by decide +kernel)
theorem kw_564 : Cond.instanceMethod yX7_isGathered ∈ TB := TB_in 604 (by decide +kernel) (by decide +kernel)
theorem kw_565 : Cond.code yX7_isGathered cX7_isGathered 3 (some FieldType.boolean) ∈ TB := TB_in 605 (by decide +kernel) (by decide +kernel)
theorem kw_566 : Cond.methodLink "TuneHouse" 181 yJ9_min_7cf53 ∈ TB := TB_in 606 (by decide +kernel) (by decide +kernel)
theorem kw_567 : Cond.methodLink "TuneHouseLaw" 79 yX7_kin ∈ TB := TB_in 607 (by decide +kernel) (by decide +kernel)
theorem kw_568 : Cond.instanceMethod yX7_kin ∈ TB := TB_in 608 (by decide +kernel) (by decide +kernel)
theorem kw_569 : Cond.selects "TuneHouse" yX7_kin yX7_kin ∈ TB := TB_in 609 (by decide +kernel) (by decide +kernel)
theorem kw_570 : Cond.code yX7_kin cX7_kin 4 (some FieldType.int) ∈ TB := TB_in 610 (by decide +kernel) (by decide +kernel)
theorem kw_571 : Cond.methodLink "TuneHouseLaw" 83 yX7_sung ∈ TB := TB_in 611 (by decide +kernel) (by decide +kernel)
theorem kw_572 : Cond.instanceMethod yX7_sung ∈ TB := TB_in 612 (by decide +kernel) (by decide +kernel)
theorem kw_573 : Cond.selects "TuneHouse" yX7_sung yX7_sung ∈ TB := TB_in 613 (by decide +kernel) (by decide +kernel)
theorem kw_574 : Cond.code yX7_sung cX7_sung 6 (some FieldType.int) ∈ TB := TB_in 614 (by decide +kernel) (by decide +kernel)
theorem kw_575 : Cond.methodLink "TuneHouseLaw" 87 yX7_source ∈ TB := TB_in 615 (by decide +kernel) (by decide +kernel)
theorem kw_576 : Cond.instanceMethod yX7_source ∈ TB := TB_in 616 (by decide +kernel) (by decide +kernel)
theorem kw_577 : Cond.selects "TuneHouse" yX7_source yX7_source ∈ TB := TB_in 617 (by decide +kernel) (by decide +kernel)
theorem kw_578 : Cond.code yX7_source cX7_source 5 (some FieldType.int) ∈ TB := TB_in 618 (by decide +kernel) (by decide +kernel)
theorem kw_579 : Cond.methodLink "TuneHouse" 193 yX7_sourceOf ∈ TB := TB_in 619 (by decide +kernel) (by decide +kernel)
theorem kw_581 : Cond.instanceMethod yX7_sourceOf ∈ TB := TB_in 621 (by decide +kernel) (by decide +kernel)
theorem kw_582 : Cond.code yX7_sourceOf cX7_sourceOf 9 (some (FieldType.object "TuneHouse$Sheet")) ∈ TB := TB_in 622 (by decide +kernel) (by decide +kernel)
theorem kw_583 : Cond.methodLink "TuneHouse" 240 yX4_anew ∈ TB := TB_in 623 (by decide +kernel) (by decide +kernel)
theorem kw_584 : Cond.instanceMethod yX4_anew ∈ TB := TB_in 624 (by decide +kernel) (by decide +kernel)
theorem kw_585 : Cond.selects "TuneHouse$Prices" yX4_anew yX4_anew ∈ TB := TB_in 625 (by decide +kernel) (by decide +kernel)
theorem kw_586 : Cond.code yX4_anew cX4_anew 1 (some FieldType.int) ∈ TB := TB_in 626 (by decide +kernel) (by decide +kernel)
theorem kw_587 : Cond.methodLink "TuneHouse" 243 yX5_isEarlierThan ∈ TB := TB_in 627 (by decide +kernel) (by decide +kernel)
theorem kw_588 : Cond.instanceMethod yX5_isEarlierThan ∈ TB := TB_in 628 (by decide +kernel) (by decide +kernel)
theorem kw_589 : Cond.selects "TuneHouse$Sheet" yX5_isEarlierThan yX5_isEarlierThan ∈ TB := TB_in 629 (by decide +kernel) (by decide +kernel)
theorem kw_590 : Cond.code yX5_isEarlierThan cX5_isEarlierThan 2 (some FieldType.boolean) ∈ TB := TB_in 630 (by decide +kernel) (by decide +kernel)
theorem kw_591 : Cond.methodLink "TuneHouseLaw" 92 yX7_changes ∈ TB := TB_in 631 (by decide +kernel) (by decide +kernel)
theorem kw_592 : Cond.instanceMethod yX7_changes ∈ TB := TB_in 632 (by decide +kernel) (by decide +kernel)
theorem kw_593 : Cond.selects "TuneHouse" yX7_changes yX7_changes ∈ TB := TB_in 633 (by decide +kernel) (by decide +kernel)
theorem kw_594 : Cond.code yX7_changes cX7_changes 4 (some FieldType.int) ∈ TB := TB_in 634 (by decide +kernel) (by decide +kernel)
theorem kw_595 : Cond.methodLink "TuneHouse" 197 yX7_changesOf ∈ TB := TB_in 635 (by decide +kernel) (by decide +kernel)
theorem kw_597 : Cond.instanceMethod yX7_changesOf ∈ TB := TB_in 637 (by decide +kernel) (by decide +kernel)
theorem kw_598 : Cond.code yX7_changesOf cX7_changesOf 4 (some FieldType.int) ∈ TB := TB_in 638 (by decide +kernel) (by decide +kernel)
theorem kw_599 : Cond.methodLink "TuneHouseLaw" 96 yX7_all ∈ TB := TB_in 639 (by decide +kernel) (by decide +kernel)
theorem kw_600 : Cond.instanceMethod yX7_all ∈ TB := TB_in 640 (by decide +kernel) (by decide +kernel)
theorem kw_601 : Cond.selects "TuneHouse" yX7_all yX7_all ∈ TB := TB_in 641 (by decide +kernel) (by decide +kernel)
theorem kw_602 : Cond.code yX7_all cX7_all 5 (some FieldType.int) ∈ TB := TB_in 642 (by decide +kernel) (by decide +kernel)
theorem kw_603 : Cond.methodLink "TuneHouseLaw" 100 yX7_doubt ∈ TB := TB_in 643 (by decide +kernel) (by decide +kernel)
theorem kw_604 : Cond.instanceMethod yX7_doubt ∈ TB := TB_in 644 (by decide +kernel) (by decide +kernel)
theorem kw_605 : Cond.selects "TuneHouse" yX7_doubt yX7_doubt ∈ TB := TB_in 645 (by decide +kernel) (by decide +kernel)
theorem kw_606 : Cond.code yX7_doubt cX7_doubt 6 (some FieldType.int) ∈ TB := TB_in 646 (by decide +kernel) (by decide +kernel)
theorem kw_607 : Cond.methodLink "TuneHouse" 201 yX7_rivalsOf ∈ TB := TB_in 647 (by decide +kernel) (by decide +kernel)
theorem kw_609 : Cond.instanceMethod yX7_rivalsOf ∈ TB := TB_in 649 (by decide +kernel) (by decide +kernel)
theorem kw_610 : Cond.code yX7_rivalsOf cX7_rivalsOf 10 (some FieldType.int) ∈ TB := TB_in 650 (by decide +kernel) (by decide +kernel)
theorem kw_611 : Cond.methodLink "TuneHouseLaw" 104 yX7_habit ∈ TB := TB_in 651 (by decide +kernel) (by decide +kernel)
theorem kw_612 : Cond.instanceMethod yX7_habit ∈ TB := TB_in 652 (by decide +kernel) (by decide +kernel)
theorem kw_613 : Cond.selects "TuneHouse" yX7_habit yX7_habit ∈ TB := TB_in 653 (by decide +kernel) (by decide +kernel)
theorem kw_614 : Cond.code yX7_habit cX7_habit 10 (some FieldType.int) ∈ TB := TB_in 654 (by decide +kernel) (by decide +kernel)
theorem kw_615 : Cond.constant "TuneHouse" 205 (-1000000 : Int32) ∈ TB := TB_in 655 (by decide +kernel) (by decide +kernel)
theorem kw_616 : Cond.methodLink "TuneHouse" 206 yX3_sheetOf ∈ TB := TB_in 656 (by decide +kernel) (by decide +kernel)
theorem kw_617 : Cond.instanceMethod yX3_sheetOf ∈ TB := TB_in 657 (by decide +kernel) (by decide +kernel)
theorem kw_618 : Cond.selects "TuneHouse$Pair" yX3_sheetOf yX3_sheetOf ∈ TB := TB_in 658 (by decide +kernel) (by decide +kernel)
theorem kw_619 : Cond.code yX3_sheetOf cX3_sheetOf 2 (some (FieldType.object "TuneHouse$Sheet")) ∈ TB := TB_in 659 (by decide +kernel) (by decide +kernel)
theorem kw_620 : Cond.methodLink "TuneHouse" 209 yX7_habitIn ∈ TB := TB_in 660 (by decide +kernel) (by decide +kernel)
theorem kw_622 : Cond.instanceMethod yX7_habitIn ∈ TB := TB_in 662 (by decide +kernel) (by decide +kernel)
theorem kw_623 : Cond.code yX7_habitIn cX7_habitIn 4 (some FieldType.int) ∈ TB := TB_in 663 (by decide +kernel) (by decide +kernel)
theorem kw_624 : Cond.methodLink "TuneHouse" 246 yX0_rise ∈ TB := TB_in 664 (by decide +kernel) (by decide +kernel)
theorem kw_625 : Cond.instanceMethod yX0_rise ∈ TB := TB_in 665 (by decide +kernel) (by decide +kernel)
theorem kw_626 : Cond.selects "TuneHouse$Aligner" yX0_rise yX0_rise ∈ TB := TB_in 666 (by decide +kernel) (by decide +kernel)
theorem kw_627 : Cond.code yX0_rise cX0_rise 5 (some FieldType.int) ∈ TB := TB_in 667 (by decide +kernel) (by decide +kernel)
theorem kw_628 : Cond.methodLink "TuneHouse$Aligner" 89 yX0_isMeeting ∈ TB := TB_in 668 (by decide +kernel) (by decide +kernel)
theorem kw_630 : Cond.instanceMethod yX0_isMeeting ∈ TB := TB_in 670 (by decide +kernel) (by decide +kernel)
theorem kw_631 : Cond.code yX0_isMeeting cX0_isMeeting 4 (some FieldType.boolean) ∈ TB := TB_in 671 (by decide +kernel) (by decide +kernel)
theorem kw_632 : Cond.methodLink "TuneHouse$Aligner" 93 yX6_pitchAt ∈ TB := TB_in 672 (by decide +kernel) (by decide +kernel)
theorem kw_633 : Cond.methodLink "TuneHouse" 250 yX0_met ∈ TB := TB_in 673 (by decide +kernel) (by decide +kernel)
theorem kw_634 : Cond.instanceMethod yX0_met ∈ TB := TB_in 674 (by decide +kernel) (by decide +kernel)
theorem kw_635 : Cond.selects "TuneHouse$Aligner" yX0_met yX0_met ∈ TB := TB_in 675 (by decide +kernel) (by decide +kernel)
theorem kw_636 : Cond.code yX0_met cX0_met 5 (some FieldType.int) ∈ TB := TB_in 676 (by decide +kernel) (by decide +kernel)
theorem kw_637 : Cond.methodLink "TuneHouseLaw" 108 yX7_span ∈ TB := TB_in 677 (by decide +kernel) (by decide +kernel)
theorem kw_638 : Cond.instanceMethod yX7_span ∈ TB := TB_in 678 (by decide +kernel) (by decide +kernel)
theorem kw_639 : Cond.selects "TuneHouse" yX7_span yX7_span ∈ TB := TB_in 679 (by decide +kernel) (by decide +kernel)
theorem kw_640 : Cond.code yX7_span cX7_span 8 (some FieldType.int) ∈ TB := TB_in 680 (by decide +kernel) (by decide +kernel)
theorem kw_641 : Cond.methodLink "TuneHouseLaw" 113 yX7_count ∈ TB := TB_in 681 (by decide +kernel) (by decide +kernel)
theorem kw_642 : Cond.instanceMethod yX7_count ∈ TB := TB_in 682 (by decide +kernel) (by decide +kernel)
theorem kw_643 : Cond.selects "TuneHouse" yX7_count yX7_count ∈ TB := TB_in 683 (by decide +kernel) (by decide +kernel)
theorem kw_644 : Cond.code yX7_count cX7_count 2 (some FieldType.int) ∈ TB := TB_in 684 (by decide +kernel) (by decide +kernel)
theorem kw_645 : Cond.methodLink "TuneHouseLaw" 52 yL_at ∈ TB := TB_in 685 (by decide +kernel) (by decide +kernel)
theorem kw_646 : Cond.static yL_at ∈ TB := TB_in 686 (by decide +kernel) (by decide +kernel)
theorem kw_647 : Cond.codeWith yL_at method_3_code 7 (some FieldType.int) [(0, 14, 17, 13)] ∈ TB := TB_in 687 (by decide +kernel) (by decide +kernel)
theorem kw_648 : Cond.classLink "TuneHouseLaw" 13 "java/util/NoSuchElementException" ∈ TB := TB_in 688 (by decide +kernel) (by decide +kernel)
theorem kw_649 : Cond.methodLink "TuneHouseLaw" 7 yX7_at ∈ TB := TB_in 689 (by decide +kernel) (by decide +kernel)
theorem kw_650 : Cond.instanceMethod yX7_at ∈ TB := TB_in 690 (by decide +kernel) (by decide +kernel)
theorem kw_651 : Cond.selects "TuneHouse" yX7_at yX7_at ∈ TB := TB_in 691 (by decide +kernel) (by decide +kernel)
theorem kw_652 : Cond.code yX7_at cX7_at 6 (some FieldType.int) ∈ TB := TB_in 692 (by decide +kernel) (by decide +kernel)
theorem kw_653 : Cond.classLink "TuneHouse" 137 "java/util/NoSuchElementException" ∈ TB := TB_in 693 (by decide +kernel) (by decide +kernel)
theorem kw_654 : Cond.instantiable "java/util/NoSuchElementException" 6 ∈ TB := TB_in 694 (by decide +kernel) (by decide +kernel)
theorem kn_655 : Cond.castable "java/util/NoSuchElementException" "java/util/NoSuchElementException" ∈ NB := NB_in 695 (by decide +kernel) rfl
theorem kn_656 : Cond.declares ⟨"java/lang/RuntimeException", "<init>", "()V"⟩ ∈ NB := NB_in 696 (by decide +kernel) rfl
theorem kn_657 : Cond.declares ⟨"java/lang/RuntimeException", "<init>", "(Ljava/lang/String;)V"⟩ ∈ NB := NB_in 697 (by decide +kernel) rfl
theorem kn_658 : Cond.declares ⟨"java/lang/Exception", "<init>", "()V"⟩ ∈ NB := NB_in 698 (by decide +kernel) rfl
theorem kn_659 : Cond.declares ⟨"java/lang/Exception", "<init>", "(Ljava/lang/String;)V"⟩ ∈ NB := NB_in 699 (by decide +kernel) rfl
theorem kn_660 : Cond.declares ⟨"java/lang/Throwable", "<init>", "()V"⟩ ∈ NB := NB_in 700 (by decide +kernel) rfl
theorem kn_661 : Cond.declares ⟨"java/lang/Throwable", "<init>", "(Ljava/lang/String;)V"⟩ ∈ NB := NB_in 701 (by decide +kernel) rfl
theorem kw_662 : Cond.selects "java/util/NoSuchElementException" ⟨"java/lang/Throwable", "fillInStackTrace", "(I)Ljava/lang/Throwable;"⟩ ⟨"java/lang/Throwable", "fillInStackTrace", "(I)Ljava/lang/Throwable;"⟩ ∈ TB := TB_in 702 (by decide +kernel) (by decide +kernel)
theorem kw_663 : Cond.selects "java/util/NoSuchElementException" ⟨"java/lang/Throwable", "fillInStackTrace", "()Ljava/lang/Throwable;"⟩ ⟨"java/lang/Throwable", "fillInStackTrace", "()Ljava/lang/Throwable;"⟩ ∈ TB := TB_in 703 (by decide +kernel) (by decide +kernel)
theorem kw_674 : Cond.fieldLink "java/lang/Throwable" 198 "java/lang/Throwable" "backtrace" "Ljava/lang/Object;" ∈ TB := TB_in 714 (by decide +kernel) (by decide +kernel)
theorem kw_676 : Cond.instanceMethod ⟨"java/lang/Throwable", "<init>", "()V"⟩ ∈ TB := TB_in 716 (by decide +kernel) (by decide +kernel)
theorem kw_677 : Cond.code ⟨"java/lang/Throwable", "<init>", "()V"⟩ prog_18_method_1_code 1 none ∈ TB := TB_in 717 (by decide +kernel) (by decide +kernel)
theorem kw_678 : Cond.methodLink "java/lang/Throwable" 1 ⟨"java/lang/Object", "<init>", "()V"⟩ ∈ TB := TB_in 718 (by decide +kernel) (by decide +kernel)
theorem kw_679 : Cond.fieldLink "java/lang/Throwable" 13 "java/lang/Throwable" "UNASSIGNED_STACK" "[Ljava/lang/StackTraceElement;" ∈ TB := TB_in 719 (by decide +kernel) (by decide +kernel)
theorem kw_681 : Cond.fieldLink "java/lang/Throwable" 20 "java/lang/Throwable" "SUPPRESSED_SENTINEL" "Ljava/util/List;" ∈ TB := TB_in 721 (by decide +kernel) (by decide +kernel)
theorem kw_683 : Cond.methodLink "java/lang/Throwable" 27 ⟨"java/lang/Throwable", "fillInStackTrace", "()Ljava/lang/Throwable;"⟩ ∈ TB := TB_in 723 (by decide +kernel) (by decide +kernel)
theorem kw_684 : Cond.instanceMethod ⟨"java/lang/Throwable", "fillInStackTrace", "()Ljava/lang/Throwable;"⟩ ∈ TB := TB_in 724 (by decide +kernel) (by decide +kernel)
theorem kw_685 : Cond.sameMethod "java/lang/Throwable" "java/lang/Throwable" "fillInStackTrace" "()Ljava/lang/Throwable;" ∈ TB := TB_in 725 (by decide +kernel) (by decide +kernel)
theorem kw_686 : Cond.codeSync ⟨"java/lang/Throwable", "fillInStackTrace", "()Ljava/lang/Throwable;"⟩ prog_18_method_18_code 1 (some (FieldType.object "java/lang/Throwable")) ∈ TB := TB_in 726 (by decide +kernel) (by decide +kernel)
theorem kw_687 : Cond.methodLink "java/lang/Throwable" 202 ⟨"java/lang/Throwable", "fillInStackTrace", "(I)Ljava/lang/Throwable;"⟩ ∈ TB := TB_in 727 (by decide +kernel) (by decide +kernel)
theorem kw_689 : Cond.instanceMethod ⟨"java/lang/Throwable", "fillInStackTrace", "(I)Ljava/lang/Throwable;"⟩ ∈ TB := TB_in 729 (by decide +kernel) (by decide +kernel)
theorem kw_690 : Cond.instantiable "java/lang/Throwable" 6 ∈ TB := TB_in 730 (by decide +kernel) (by decide +kernel)
theorem kw_691 : Cond.native ⟨"java/lang/Throwable", "fillInStackTrace", "(I)Ljava/lang/Throwable;"⟩ ∈ TB := TB_in 731 (by decide +kernel) (by decide +kernel)
theorem kw_692 : Cond.methodLink "TuneHouse" 139 ⟨"java/util/NoSuchElementException", "<init>", "()V"⟩ ∈ TB := TB_in 732 (by decide +kernel) (by decide +kernel)
theorem kw_693 : Cond.instanceMethod ⟨"java/util/NoSuchElementException", "<init>", "()V"⟩ ∈ TB := TB_in 733 (by decide +kernel) (by decide +kernel)
theorem kw_694 : Cond.code ⟨"java/util/NoSuchElementException", "<init>", "()V"⟩ prog_25_method_1_code 1 none ∈ TB := TB_in 734 (by decide +kernel) (by decide +kernel)
theorem kw_695 : Cond.methodLink "java/util/NoSuchElementException" 1 ⟨"java/lang/RuntimeException", "<init>", "()V"⟩ ∈ TB := TB_in 735 (by decide +kernel) (by decide +kernel)
theorem kw_696 : Cond.instanceMethod ⟨"java/lang/RuntimeException", "<init>", "()V"⟩ ∈ TB := TB_in 736 (by decide +kernel) (by decide +kernel)
theorem kw_697 : Cond.code ⟨"java/lang/RuntimeException", "<init>", "()V"⟩ prog_16_method_1_code 1 none ∈ TB := TB_in 737 (by decide +kernel) (by decide +kernel)
theorem kw_698 : Cond.methodLink "java/lang/RuntimeException" 1 ⟨"java/lang/Exception", "<init>", "()V"⟩ ∈ TB := TB_in 738 (by decide +kernel) (by decide +kernel)
theorem kw_699 : Cond.instanceMethod ⟨"java/lang/Exception", "<init>", "()V"⟩ ∈ TB := TB_in 739 (by decide +kernel) (by decide +kernel)
theorem kw_700 : Cond.code ⟨"java/lang/Exception", "<init>", "()V"⟩ prog_13_method_1_code 1 none ∈ TB := TB_in 740 (by decide +kernel) (by decide +kernel)
theorem kw_701 : Cond.methodLink "java/lang/Exception" 1 ⟨"java/lang/Throwable", "<init>", "()V"⟩ ∈ TB := TB_in 741 (by decide +kernel) (by decide +kernel)
theorem kw_703 : Cond.fieldLink "java/lang/Throwable" 7 "java/lang/Throwable" "cause" "Ljava/lang/Throwable;" ∈ TB := TB_in 743 (by decide +kernel) (by decide +kernel)
theorem kw_704 : Cond.fieldLink "java/lang/Throwable" 17 "java/lang/Throwable" "stackTrace" "[Ljava/lang/StackTraceElement;" ∈ TB := TB_in 744 (by decide +kernel) (by decide +kernel)
theorem kw_705 : Cond.fieldLink "java/lang/Throwable" 24 "java/lang/Throwable" "suppressedExceptions" "Ljava/util/List;" ∈ TB := TB_in 745 (by decide +kernel) (by decide +kernel)
theorem kw_714 : Cond.methodLink "TuneHouse" 147 yX6_pitchAt ∈ TB := TB_in 754 (by decide +kernel) (by decide +kernel)
theorem kw_715 : Cond.methodLink "TuneHouse" 153 yX6_beatsAt ∈ TB := TB_in 755 (by decide +kernel) (by decide +kernel)
theorem kw_716 : Cond.classLink "TuneHouseLaw" 16 "TuneHouseModel" ∈ TB := TB_in 756 (by decide +kernel) (by decide +kernel)
theorem kw_717 : Cond.instantiable "TuneHouseModel" 35 ∈ TB := TB_in 757 (by decide +kernel) (by decide +kernel)
theorem kw_718 : Cond.methodLink "TuneHouseLaw" 18 yX8_init ∈ TB := TB_in 758 (by decide +kernel) (by decide +kernel)
theorem kw_719 : Cond.instanceMethod yX8_init ∈ TB := TB_in 759 (by decide +kernel) (by decide +kernel)
theorem kw_720 : Cond.code yX8_init cX8_init 1 none ∈ TB := TB_in 760 (by decide +kernel) (by decide +kernel)
theorem kw_721 : Cond.methodLink "TuneHouseModel" 3 ⟨"java/lang/Object", "<init>", "()V"⟩ ∈ TB := TB_in 761 (by decide +kernel) (by decide +kernel)
theorem kw_722 : Cond.fieldLink "TuneHouseModel" 82 "TuneHouseModel" "thrown" "I" ∈ TB := TB_in 762 (by decide +kernel) (by decide +kernel)
theorem kw_723 : Cond.fieldLink "TuneHouseModel" 9 "TuneHouseModel" "hand" "[I" ∈ TB := TB_in 763 (by decide +kernel) (by decide +kernel)
theorem kw_724 : Cond.fieldLink "TuneHouseModel" 13 "TuneHouseModel" "year" "[I" ∈ TB := TB_in 764 (by decide +kernel) (by decide +kernel)
theorem kw_725 : Cond.fieldLink "TuneHouseModel" 16 "TuneHouseModel" "words" "[I" ∈ TB := TB_in 765 (by decide +kernel) (by decide +kernel)
theorem kw_726 : Cond.fieldLink "TuneHouseModel" 19 "TuneHouseModel" "length" "[I" ∈ TB := TB_in 766 (by decide +kernel) (by decide +kernel)
theorem kw_727 : Cond.fieldLink "TuneHouseModel" 22 "TuneHouseModel" "forged" "[I" ∈ TB := TB_in 767 (by decide +kernel) (by decide +kernel)
theorem kw_728 : Cond.fieldLink "TuneHouseModel" 25 "TuneHouseModel" "notePitch" "[I" ∈ TB := TB_in 768 (by decide +kernel) (by decide +kernel)
theorem kw_729 : Cond.fieldLink "TuneHouseModel" 28 "TuneHouseModel" "noteBeats" "[I" ∈ TB := TB_in 769 (by decide +kernel) (by decide +kernel)
theorem kw_730 : Cond.fieldLink "TuneHouseModel" 31 "TuneHouseModel" "correctedSheet" "[I" ∈ TB := TB_in 770 (by decide +kernel) (by decide +kernel)
theorem kw_731 : Cond.fieldLink "TuneHouseModel" 34 "TuneHouseModel" "correctedNote" "[I" ∈ TB := TB_in 771 (by decide +kernel) (by decide +kernel)
theorem kw_732 : Cond.fieldLink "TuneHouseModel" 37 "TuneHouseModel" "correctedPitch" "[I" ∈ TB := TB_in 772 (by decide +kernel) (by decide +kernel)
theorem kw_733 : Cond.fieldLink "TuneHouseModel" 40 "TuneHouseModel" "correctedBeats" "[I" ∈ TB := TB_in 773 (by decide +kernel) (by decide +kernel)
theorem kw_734 : Cond.fieldLink "TuneHouseModel" 43 "TuneHouseModel" "correctedDay" "[I" ∈ TB := TB_in 774 (by decide +kernel) (by decide +kernel)
theorem kw_735 : Cond.fieldLink "TuneHouseModel" 46 "TuneHouseModel" "doubleOne" "[I" ∈ TB := TB_in 775 (by decide +kernel) (by decide +kernel)
theorem kw_736 : Cond.fieldLink "TuneHouseModel" 49 "TuneHouseModel" "doubleOther" "[I" ∈ TB := TB_in 776 (by decide +kernel) (by decide +kernel)
theorem kw_737 : Cond.fieldLink "TuneHouseModel" 52 "TuneHouseModel" "price" "[I" ∈ TB := TB_in 777 (by decide +kernel) (by decide +kernel)
theorem kw_738 : Cond.fieldLink "TuneHouseModel" 86 "TuneHouseModel" "sheets" "I" ∈ TB := TB_in 778 (by decide +kernel) (by decide +kernel)
theorem kw_739 : Cond.fieldLink "TuneHouseModel" 104 "TuneHouseModel" "corrections" "I" ∈ TB := TB_in 779 (by decide +kernel) (by decide +kernel)
theorem kw_740 : Cond.fieldLink "TuneHouseModel" 107 "TuneHouseModel" "doubles" "I" ∈ TB := TB_in 780 (by decide +kernel) (by decide +kernel)
theorem kw_741 : Cond.fieldLink "TuneHouseModel" 89 "TuneHouseModel" "now" "I" ∈ TB := TB_in 781 (by decide +kernel) (by decide +kernel)
theorem kw_742 : Cond.fieldLink "TuneHouseModel" 55 "TuneHouseModel" "firstPitch" "[I" ∈ TB := TB_in 782 (by decide +kernel) (by decide +kernel)
theorem kw_743 : Cond.fieldLink "TuneHouseModel" 58 "TuneHouseModel" "firstBeats" "[I" ∈ TB := TB_in 783 (by decide +kernel) (by decide +kernel)
theorem kw_744 : Cond.fieldLink "TuneHouseModel" 61 "TuneHouseModel" "secondPitch" "[I" ∈ TB := TB_in 784 (by decide +kernel) (by decide +kernel)
theorem kw_745 : Cond.fieldLink "TuneHouseModel" 64 "TuneHouseModel" "secondBeats" "[I" ∈ TB := TB_in 785 (by decide +kernel) (by decide +kernel)
theorem kw_746 : Cond.fieldLink "TuneHouseModel" 67 "TuneHouseModel" "sums" "[I" ∈ TB := TB_in 786 (by decide +kernel) (by decide +kernel)
theorem kw_747 : Cond.fieldLink "TuneHouseModel" 117 "TuneHouseModel" "firstLong" "I" ∈ TB := TB_in 787 (by decide +kernel) (by decide +kernel)
theorem kw_748 : Cond.fieldLink "TuneHouseModel" 120 "TuneHouseModel" "secondLong" "I" ∈ TB := TB_in 788 (by decide +kernel) (by decide +kernel)
theorem kw_749 : Cond.fieldLink "TuneHouseModel" 147 "TuneHouseModel" "told" "I" ∈ TB := TB_in 789 (by decide +kernel) (by decide +kernel)
theorem kw_750 : Cond.fieldLink "TuneHouseModel" 153 "TuneHouseModel" "toldKey" "I" ∈ TB := TB_in 790 (by decide +kernel) (by decide +kernel)
theorem kw_751 : Cond.fieldLink "TuneHouseModel" 70 "TuneHouseModel" "columnFirst" "[I" ∈ TB := TB_in 791 (by decide +kernel) (by decide +kernel)
theorem kw_752 : Cond.fieldLink "TuneHouseModel" 73 "TuneHouseModel" "columnSecond" "[I" ∈ TB := TB_in 792 (by decide +kernel) (by decide +kernel)
theorem kw_753 : Cond.fieldLink "TuneHouseModel" 76 "TuneHouseModel" "columnPrice" "[I" ∈ TB := TB_in 793 (by decide +kernel) (by decide +kernel)
theorem kw_754 : Cond.fieldLink "TuneHouseModel" 162 "TuneHouseModel" "columns" "I" ∈ TB := TB_in 794 (by decide +kernel) (by decide +kernel)
theorem kw_755 : Cond.fieldLink "TuneHouseModel" 79 "TuneHouseModel" "family" "[I" ∈ TB := TB_in 795 (by decide +kernel) (by decide +kernel)
theorem kw_756 : Cond.fieldLink "TuneHouseModel" 177 "TuneHouseModel" "sourceFar" "I" ∈ TB := TB_in 796 (by decide +kernel) (by decide +kernel)
theorem kw_828 : Cond.methodLink "TuneHouseLaw" 58 yX8_thrown ∈ TB := TB_in 868 (by decide +kernel) (by decide +kernel)
theorem kw_829 : Cond.instanceMethod yX8_thrown ∈ TB := TB_in 869 (by decide +kernel) (by decide +kernel)
theorem kw_830 : Cond.selects "TuneHouseModel" yX8_thrown yX8_thrown ∈ TB := TB_in 870 (by decide +kernel) (by decide +kernel)
theorem kw_831 : Cond.code yX8_thrown cX8_thrown 1 (some FieldType.int) ∈ TB := TB_in 871 (by decide +kernel) (by decide +kernel)
theorem kw_832 : Cond.methodLink "TuneHouseLaw" 23 yX8_sheet ∈ TB := TB_in 872 (by decide +kernel) (by decide +kernel)
theorem kw_833 : Cond.instanceMethod yX8_sheet ∈ TB := TB_in 873 (by decide +kernel) (by decide +kernel)
theorem kw_834 : Cond.selects "TuneHouseModel" yX8_sheet yX8_sheet ∈ TB := TB_in 874 (by decide +kernel) (by decide +kernel)
theorem kw_835 : Cond.code yX8_sheet cX8_sheet 4 (some FieldType.int) ∈ TB := TB_in 875 (by decide +kernel) (by decide +kernel)
theorem kw_836 : Cond.methodLink "TuneHouseModel" 92 yX8_isIn ∈ TB := TB_in 876 (by decide +kernel) (by decide +kernel)
theorem kw_837 : Cond.static yX8_isIn ∈ TB := TB_in 877 (by decide +kernel) (by decide +kernel)
theorem kw_838 : Cond.code yX8_isIn cX8_isIn 3 (some FieldType.boolean) ∈ TB := TB_in 878 (by decide +kernel) (by decide +kernel)
theorem kw_839 : Cond.methodLink "TuneHouseLaw" 27 yX8_note ∈ TB := TB_in 879 (by decide +kernel) (by decide +kernel)
theorem kw_840 : Cond.instanceMethod yX8_note ∈ TB := TB_in 880 (by decide +kernel) (by decide +kernel)
theorem kw_841 : Cond.selects "TuneHouseModel" yX8_note yX8_note ∈ TB := TB_in 881 (by decide +kernel) (by decide +kernel)
theorem kw_842 : Cond.code yX8_note cX8_note 4 (some FieldType.int) ∈ TB := TB_in 882 (by decide +kernel) (by decide +kernel)
theorem kw_843 : Cond.methodLink "TuneHouseModel" 96 yX8_isSheet ∈ TB := TB_in 883 (by decide +kernel) (by decide +kernel)
theorem kw_845 : Cond.instanceMethod yX8_isSheet ∈ TB := TB_in 885 (by decide +kernel) (by decide +kernel)
theorem kw_846 : Cond.code yX8_isSheet cX8_isSheet 2 (some FieldType.boolean) ∈ TB := TB_in 886 (by decide +kernel) (by decide +kernel)
theorem kw_847 : Cond.methodLink "TuneHouseModel" 100 yX8_isNote ∈ TB := TB_in 887 (by decide +kernel) (by decide +kernel)
theorem kw_848 : Cond.static yX8_isNote ∈ TB := TB_in 888 (by decide +kernel) (by decide +kernel)
theorem kw_849 : Cond.code yX8_isNote cX8_isNote 2 (some FieldType.boolean) ∈ TB := TB_in 889 (by decide +kernel) (by decide +kernel)
theorem kw_850 : Cond.methodLink "TuneHouseLaw" 32 yX8_correct ∈ TB := TB_in 890 (by decide +kernel) (by decide +kernel)
theorem kw_851 : Cond.instanceMethod yX8_correct ∈ TB := TB_in 891 (by decide +kernel) (by decide +kernel)
theorem kw_852 : Cond.selects "TuneHouseModel" yX8_correct yX8_correct ∈ TB := TB_in 892 (by decide +kernel) (by decide +kernel)
theorem kw_853 : Cond.code yX8_correct cX8_correct 5 (some FieldType.boolean) ∈ TB := TB_in 893 (by decide +kernel) (by decide +kernel)
theorem kw_854 : Cond.methodLink "TuneHouseLaw" 37 yX8_forge ∈ TB := TB_in 894 (by decide +kernel) (by decide +kernel)
theorem kw_855 : Cond.instanceMethod yX8_forge ∈ TB := TB_in 895 (by decide +kernel) (by decide +kernel)
theorem kw_856 : Cond.selects "TuneHouseModel" yX8_forge yX8_forge ∈ TB := TB_in 896 (by decide +kernel) (by decide +kernel)
theorem kw_857 : Cond.code yX8_forge cX8_forge 2 (some FieldType.boolean) ∈ TB := TB_in 897 (by decide +kernel) (by decide +kernel)
theorem kw_858 : Cond.methodLink "TuneHouseLaw" 42 yX8_doubles ∈ TB := TB_in 898 (by decide +kernel) (by decide +kernel)
theorem kw_859 : Cond.instanceMethod yX8_doubles ∈ TB := TB_in 899 (by decide +kernel) (by decide +kernel)
theorem kw_860 : Cond.selects "TuneHouseModel" yX8_doubles yX8_doubles ∈ TB := TB_in 900 (by decide +kernel) (by decide +kernel)
theorem kw_861 : Cond.code yX8_doubles cX8_doubles 4 (some FieldType.boolean) ∈ TB := TB_in 901 (by decide +kernel) (by decide +kernel)
theorem kw_862 : Cond.methodLink "TuneHouseLaw" 47 yX8_days ∈ TB := TB_in 902 (by decide +kernel) (by decide +kernel)
theorem kw_863 : Cond.instanceMethod yX8_days ∈ TB := TB_in 903 (by decide +kernel) (by decide +kernel)
theorem kw_864 : Cond.selects "TuneHouseModel" yX8_days yX8_days ∈ TB := TB_in 904 (by decide +kernel) (by decide +kernel)
theorem kw_865 : Cond.code yX8_days cX8_days 2 (some FieldType.int) ∈ TB := TB_in 905 (by decide +kernel) (by decide +kernel)
theorem kw_866 : Cond.methodLink "TuneHouseLaw" 51 yX8_price ∈ TB := TB_in 906 (by decide +kernel) (by decide +kernel)
theorem kw_867 : Cond.instanceMethod yX8_price ∈ TB := TB_in 907 (by decide +kernel) (by decide +kernel)
theorem kw_868 : Cond.selects "TuneHouseModel" yX8_price yX8_price ∈ TB := TB_in 908 (by decide +kernel) (by decide +kernel)
theorem kw_869 : Cond.code yX8_price cX8_price 3 (some FieldType.boolean) ∈ TB := TB_in 909 (by decide +kernel) (by decide +kernel)
theorem kw_870 : Cond.methodLink "TuneHouseLaw" 57 yX8_at ∈ TB := TB_in 910 (by decide +kernel) (by decide +kernel)
theorem kw_871 : Cond.instanceMethod yX8_at ∈ TB := TB_in 911 (by decide +kernel) (by decide +kernel)
theorem kw_872 : Cond.selects "TuneHouseModel" yX8_at yX8_at ∈ TB := TB_in 912 (by decide +kernel) (by decide +kernel)
theorem kw_873 : Cond.code yX8_at cX8_at 5 (some FieldType.int) ∈ TB := TB_in 913 (by decide +kernel) (by decide +kernel)
theorem kw_874 : Cond.methodLink "TuneHouseModel" 110 yX8_isDay ∈ TB := TB_in 914 (by decide +kernel) (by decide +kernel)
theorem kw_876 : Cond.instanceMethod yX8_isDay ∈ TB := TB_in 916 (by decide +kernel) (by decide +kernel)
theorem kw_877 : Cond.code yX8_isDay cX8_isDay 2 (some FieldType.boolean) ∈ TB := TB_in 917 (by decide +kernel) (by decide +kernel)
theorem kw_878 : Cond.methodLink "TuneHouseModel" 113 yX8_known ∈ TB := TB_in 918 (by decide +kernel) (by decide +kernel)
theorem kw_880 : Cond.instanceMethod yX8_known ∈ TB := TB_in 920 (by decide +kernel) (by decide +kernel)
theorem kw_881 : Cond.code yX8_known cX8_known 7 (some FieldType.int) ∈ TB := TB_in 921 (by decide +kernel) (by decide +kernel)
theorem kw_882 : Cond.methodLink "TuneHouseLaw" 65 yX8_distance ∈ TB := TB_in 922 (by decide +kernel) (by decide +kernel)
theorem kw_883 : Cond.instanceMethod yX8_distance ∈ TB := TB_in 923 (by decide +kernel) (by decide +kernel)
theorem kw_884 : Cond.selects "TuneHouseModel" yX8_distance yX8_distance ∈ TB := TB_in 924 (by decide +kernel) (by decide +kernel)
theorem kw_885 : Cond.code yX8_distance cX8_distance 4 (some FieldType.int) ∈ TB := TB_in 925 (by decide +kernel) (by decide +kernel)
theorem kw_886 : Cond.methodLink "TuneHouseModel" 156 yX8_isPair ∈ TB := TB_in 926 (by decide +kernel) (by decide +kernel)
theorem kw_888 : Cond.instanceMethod yX8_isPair ∈ TB := TB_in 928 (by decide +kernel) (by decide +kernel)
theorem kw_889 : Cond.code yX8_isPair cX8_isPair 4 (some FieldType.boolean) ∈ TB := TB_in 929 (by decide +kernel) (by decide +kernel)
theorem kw_890 : Cond.methodLink "TuneHouseModel" 159 yX8_far ∈ TB := TB_in 930 (by decide +kernel) (by decide +kernel)
theorem kw_892 : Cond.instanceMethod yX8_far ∈ TB := TB_in 932 (by decide +kernel) (by decide +kernel)
theorem kw_893 : Cond.code yX8_far cX8_far 7 (some FieldType.int) ∈ TB := TB_in 933 (by decide +kernel) (by decide +kernel)
theorem kw_894 : Cond.methodLink "TuneHouseModel" 143 yX8_ready ∈ TB := TB_in 934 (by decide +kernel) (by decide +kernel)
theorem kw_896 : Cond.instanceMethod yX8_ready ∈ TB := TB_in 936 (by decide +kernel) (by decide +kernel)
theorem kw_897 : Cond.code yX8_ready cX8_ready 5 none ∈ TB := TB_in 937 (by decide +kernel) (by decide +kernel)
theorem kw_898 : Cond.constant "TuneHouseModel" 135 (2147483647 : Int32) ∈ TB := TB_in 938 (by decide +kernel) (by decide +kernel)
theorem kw_899 : Cond.methodLink "TuneHouseModel" 150 yX8_lay ∈ TB := TB_in 939 (by decide +kernel) (by decide +kernel)
theorem kw_901 : Cond.instanceMethod yX8_lay ∈ TB := TB_in 941 (by decide +kernel) (by decide +kernel)
theorem kw_902 : Cond.code yX8_lay cX8_lay 5 (some FieldType.int) ∈ TB := TB_in 942 (by decide +kernel) (by decide +kernel)
theorem kw_903 : Cond.methodLink "TuneHouseModel" 136 yX8_ofTwo ∈ TB := TB_in 943 (by decide +kernel) (by decide +kernel)
theorem kw_905 : Cond.instanceMethod yX8_ofTwo ∈ TB := TB_in 945 (by decide +kernel) (by decide +kernel)
theorem kw_906 : Cond.code yX8_ofTwo cX8_ofTwo 4 (some FieldType.int) ∈ TB := TB_in 946 (by decide +kernel) (by decide +kernel)
theorem kw_907 : Cond.methodLink "TuneHouseModel" 123 yJ9_abs_0f7a4 ∈ TB := TB_in 947 (by decide +kernel) (by decide +kernel)
theorem kw_908 : Cond.static yJ9_abs_0f7a4 ∈ TB := TB_in 948 (by decide +kernel) (by decide +kernel)
theorem kw_909 : Cond.code yJ9_abs_0f7a4 cJ9_abs_0f7a4 1 (some FieldType.int) ∈ TB := TB_in 949 (by decide +kernel) (by decide +kernel)
theorem kw_910 : Cond.methodLink "TuneHouseModel" 129 yJ9_min_7cf53 ∈ TB := TB_in 950 (by decide +kernel) (by decide +kernel)
theorem kw_911 : Cond.methodLink "TuneHouseModel" 140 yX8_alone ∈ TB := TB_in 951 (by decide +kernel) (by decide +kernel)
theorem kw_913 : Cond.instanceMethod yX8_alone ∈ TB := TB_in 953 (by decide +kernel) (by decide +kernel)
theorem kw_914 : Cond.code yX8_alone cX8_alone 2 (some FieldType.int) ∈ TB := TB_in 954 (by decide +kernel) (by decide +kernel)
theorem kw_915 : Cond.methodLink "TuneHouseLaw" 69 yX8_key ∈ TB := TB_in 955 (by decide +kernel) (by decide +kernel)
theorem kw_916 : Cond.instanceMethod yX8_key ∈ TB := TB_in 956 (by decide +kernel) (by decide +kernel)
theorem kw_917 : Cond.selects "TuneHouseModel" yX8_key yX8_key ∈ TB := TB_in 957 (by decide +kernel) (by decide +kernel)
theorem kw_918 : Cond.code yX8_key cX8_key 5 (some FieldType.int) ∈ TB := TB_in 958 (by decide +kernel) (by decide +kernel)
theorem kw_919 : Cond.methodLink "TuneHouseLaw" 74 yX8_column ∈ TB := TB_in 959 (by decide +kernel) (by decide +kernel)
theorem kw_920 : Cond.instanceMethod yX8_column ∈ TB := TB_in 960 (by decide +kernel) (by decide +kernel)
theorem kw_921 : Cond.selects "TuneHouseModel" yX8_column yX8_column ∈ TB := TB_in 961 (by decide +kernel) (by decide +kernel)
theorem kw_922 : Cond.code yX8_column cX8_column 7 (some FieldType.int) ∈ TB := TB_in 962 (by decide +kernel) (by decide +kernel)
theorem kw_923 : Cond.methodLink "TuneHouseModel" 165 yX8_align ∈ TB := TB_in 963 (by decide +kernel) (by decide +kernel)
theorem kw_925 : Cond.instanceMethod yX8_align ∈ TB := TB_in 965 (by decide +kernel) (by decide +kernel)
theorem kw_926 : Cond.code yX8_align cX8_align 10 none ∈ TB := TB_in 966 (by decide +kernel) (by decide +kernel)
theorem kw_927 : Cond.methodLink "TuneHouseLaw" 78 yX8_family ∈ TB := TB_in 967 (by decide +kernel) (by decide +kernel)
theorem kw_928 : Cond.instanceMethod yX8_family ∈ TB := TB_in 968 (by decide +kernel) (by decide +kernel)
theorem kw_929 : Cond.selects "TuneHouseModel" yX8_family yX8_family ∈ TB := TB_in 969 (by decide +kernel) (by decide +kernel)
theorem kw_930 : Cond.code yX8_family cX8_family 4 (some FieldType.int) ∈ TB := TB_in 970 (by decide +kernel) (by decide +kernel)
theorem kw_931 : Cond.methodLink "TuneHouseModel" 171 yX8_families ∈ TB := TB_in 971 (by decide +kernel) (by decide +kernel)
theorem kw_933 : Cond.instanceMethod yX8_families ∈ TB := TB_in 973 (by decide +kernel) (by decide +kernel)
theorem kw_934 : Cond.code yX8_families cX8_families 9 (some FieldType.boolean) ∈ TB := TB_in 974 (by decide +kernel) (by decide +kernel)
theorem kw_935 : Cond.methodLink "TuneHouseModel" 168 yX8_isForged ∈ TB := TB_in 975 (by decide +kernel) (by decide +kernel)
theorem kw_937 : Cond.instanceMethod yX8_isForged ∈ TB := TB_in 977 (by decide +kernel) (by decide +kernel)
theorem kw_938 : Cond.code yX8_isForged cX8_isForged 3 (some FieldType.boolean) ∈ TB := TB_in 978 (by decide +kernel) (by decide +kernel)
theorem kw_939 : Cond.methodLink "TuneHouseLaw" 82 yX8_kin ∈ TB := TB_in 979 (by decide +kernel) (by decide +kernel)
theorem kw_940 : Cond.instanceMethod yX8_kin ∈ TB := TB_in 980 (by decide +kernel) (by decide +kernel)
theorem kw_941 : Cond.selects "TuneHouseModel" yX8_kin yX8_kin ∈ TB := TB_in 981 (by decide +kernel) (by decide +kernel)
theorem kw_942 : Cond.code yX8_kin cX8_kin 6 (some FieldType.int) ∈ TB := TB_in 982 (by decide +kernel) (by decide +kernel)
theorem kw_943 : Cond.methodLink "TuneHouseLaw" 86 yX8_sung ∈ TB := TB_in 983 (by decide +kernel) (by decide +kernel)
theorem kw_944 : Cond.instanceMethod yX8_sung ∈ TB := TB_in 984 (by decide +kernel) (by decide +kernel)
theorem kw_945 : Cond.selects "TuneHouseModel" yX8_sung yX8_sung ∈ TB := TB_in 985 (by decide +kernel) (by decide +kernel)
theorem kw_946 : Cond.code yX8_sung cX8_sung 6 (some FieldType.int) ∈ TB := TB_in 986 (by decide +kernel) (by decide +kernel)
theorem kw_947 : Cond.methodLink "TuneHouseLaw" 91 yX8_source ∈ TB := TB_in 987 (by decide +kernel) (by decide +kernel)
theorem kw_948 : Cond.instanceMethod yX8_source ∈ TB := TB_in 988 (by decide +kernel) (by decide +kernel)
theorem kw_949 : Cond.selects "TuneHouseModel" yX8_source yX8_source ∈ TB := TB_in 989 (by decide +kernel) (by decide +kernel)
theorem kw_950 : Cond.code yX8_source cX8_source 3 (some FieldType.int) ∈ TB := TB_in 990 (by decide +kernel) (by decide +kernel)
theorem kw_951 : Cond.methodLink "TuneHouseModel" 180 yX8_isAsked ∈ TB := TB_in 991 (by decide +kernel) (by decide +kernel)
theorem kw_953 : Cond.instanceMethod yX8_isAsked ∈ TB := TB_in 993 (by decide +kernel) (by decide +kernel)
theorem kw_954 : Cond.code yX8_isAsked cX8_isAsked 3 (some FieldType.boolean) ∈ TB := TB_in 994 (by decide +kernel) (by decide +kernel)
theorem kw_955 : Cond.methodLink "TuneHouseModel" 183 yX8_sourceOf ∈ TB := TB_in 995 (by decide +kernel) (by decide +kernel)
theorem kw_957 : Cond.instanceMethod yX8_sourceOf ∈ TB := TB_in 997 (by decide +kernel) (by decide +kernel)
theorem kw_958 : Cond.code yX8_sourceOf cX8_sourceOf 6 (some FieldType.int) ∈ TB := TB_in 998 (by decide +kernel) (by decide +kernel)
theorem kw_959 : Cond.methodLink "TuneHouseModel" 174 yX8_isEarlier ∈ TB := TB_in 999 (by decide +kernel) (by decide +kernel)
theorem kw_961 : Cond.instanceMethod yX8_isEarlier ∈ TB := TB_in 1001 (by decide +kernel) (by decide +kernel)
theorem kw_962 : Cond.code yX8_isEarlier cX8_isEarlier 3 (some FieldType.boolean) ∈ TB := TB_in 1002 (by decide +kernel) (by decide +kernel)
theorem kw_963 : Cond.methodLink "TuneHouseLaw" 95 yX8_changes ∈ TB := TB_in 1003 (by decide +kernel) (by decide +kernel)
theorem kw_964 : Cond.instanceMethod yX8_changes ∈ TB := TB_in 1004 (by decide +kernel) (by decide +kernel)
theorem kw_965 : Cond.selects "TuneHouseModel" yX8_changes yX8_changes ∈ TB := TB_in 1005 (by decide +kernel) (by decide +kernel)
theorem kw_966 : Cond.code yX8_changes cX8_changes 3 (some FieldType.int) ∈ TB := TB_in 1006 (by decide +kernel) (by decide +kernel)
theorem kw_967 : Cond.methodLink "TuneHouseModel" 186 yX8_changesOf ∈ TB := TB_in 1007 (by decide +kernel) (by decide +kernel)
theorem kw_969 : Cond.instanceMethod yX8_changesOf ∈ TB := TB_in 1009 (by decide +kernel) (by decide +kernel)
theorem kw_970 : Cond.code yX8_changesOf cX8_changesOf 3 (some FieldType.int) ∈ TB := TB_in 1010 (by decide +kernel) (by decide +kernel)
theorem kw_971 : Cond.methodLink "TuneHouseLaw" 99 yX8_all ∈ TB := TB_in 1011 (by decide +kernel) (by decide +kernel)
theorem kw_972 : Cond.instanceMethod yX8_all ∈ TB := TB_in 1012 (by decide +kernel) (by decide +kernel)
theorem kw_973 : Cond.selects "TuneHouseModel" yX8_all yX8_all ∈ TB := TB_in 1013 (by decide +kernel) (by decide +kernel)
theorem kw_974 : Cond.code yX8_all cX8_all 4 (some FieldType.int) ∈ TB := TB_in 1014 (by decide +kernel) (by decide +kernel)
theorem kw_975 : Cond.methodLink "TuneHouseLaw" 103 yX8_doubt ∈ TB := TB_in 1015 (by decide +kernel) (by decide +kernel)
theorem kw_976 : Cond.instanceMethod yX8_doubt ∈ TB := TB_in 1016 (by decide +kernel) (by decide +kernel)
theorem kw_977 : Cond.selects "TuneHouseModel" yX8_doubt yX8_doubt ∈ TB := TB_in 1017 (by decide +kernel) (by decide +kernel)
theorem kw_978 : Cond.code yX8_doubt cX8_doubt 8 (some FieldType.int) ∈ TB := TB_in 1018 (by decide +kernel) (by decide +kernel)
theorem kw_979 : Cond.methodLink "TuneHouseLaw" 107 yX8_habit ∈ TB := TB_in 1019 (by decide +kernel) (by decide +kernel)
theorem kw_980 : Cond.instanceMethod yX8_habit ∈ TB := TB_in 1020 (by decide +kernel) (by decide +kernel)
theorem kw_981 : Cond.selects "TuneHouseModel" yX8_habit yX8_habit ∈ TB := TB_in 1021 (by decide +kernel) (by decide +kernel)
theorem kw_982 : Cond.code yX8_habit cX8_habit 13 (some FieldType.int) ∈ TB := TB_in 1022 (by decide +kernel) (by decide +kernel)
theorem kw_983 : Cond.constant "TuneHouseModel" 189 (-1000000 : Int32) ∈ TB := TB_in 1023 (by decide +kernel) (by decide +kernel)
theorem kw_984 : Cond.methodLink "TuneHouseLaw" 112 yX8_span ∈ TB := TB_in 1024 (by decide +kernel) (by decide +kernel)
theorem kw_985 : Cond.instanceMethod yX8_span ∈ TB := TB_in 1025 (by decide +kernel) (by decide +kernel)
theorem kw_986 : Cond.selects "TuneHouseModel" yX8_span yX8_span ∈ TB := TB_in 1026 (by decide +kernel) (by decide +kernel)
theorem kw_987 : Cond.code yX8_span cX8_span 6 (some FieldType.int) ∈ TB := TB_in 1027 (by decide +kernel) (by decide +kernel)
theorem kw_988 : Cond.methodLink "TuneHouseLaw" 116 yX8_count ∈ TB := TB_in 1028 (by decide +kernel) (by decide +kernel)
theorem kw_989 : Cond.instanceMethod yX8_count ∈ TB := TB_in 1029 (by decide +kernel) (by decide +kernel)
theorem kw_990 : Cond.selects "TuneHouseModel" yX8_count yX8_count ∈ TB := TB_in 1030 (by decide +kernel) (by decide +kernel)
theorem kw_991 : Cond.code yX8_count cX8_count 4 (some FieldType.int) ∈ TB := TB_in 1031 (by decide +kernel) (by decide +kernel)
theorem kw_992 : Cond.arrayClass FieldType.long ∈ TB := TB_in 1032 (by decide +kernel) (by decide +kernel)
theorem kw_993 : Cond.sameMethod "java/lang/Throwable" "java/lang/Throwable" "fillInStackTrace" "(I)Ljava/lang/Throwable;" ∈ TB := TB_in 1033 (by decide +kernel) (by decide +kernel)
theorem kn_994 : Cond.castable "TuneHouse" "java/lang/Object" ∈ NB := NB_in 1034 (by decide +kernel) rfl
theorem kn_995 : Cond.castable "TuneHouse$Prices" "java/lang/Object" ∈ NB := NB_in 1035 (by decide +kernel) rfl
theorem kn_996 : Cond.castable "TuneHouse$Aligner" "java/lang/Object" ∈ NB := NB_in 1036 (by decide +kernel) rfl
theorem kn_997 : Cond.castable "TuneHouse$Likeness" "java/lang/Object" ∈ NB := NB_in 1037 (by decide +kernel) rfl
theorem kn_998 : Cond.castable "java/util/ArrayList" "java/lang/Object" ∈ NB := NB_in 1038 (by decide +kernel) rfl
theorem kn_999 : Cond.castable "TuneHouseModel" "java/lang/Object" ∈ NB := NB_in 1039 (by decide +kernel) rfl
theorem kn_1000 : Cond.castable "TuneHouse$Sheet" "java/lang/Object" ∈ NB := NB_in 1040 (by decide +kernel) rfl
theorem kn_1001 : Cond.castable "TuneHouse$Tune" "java/lang/Object" ∈ NB := NB_in 1041 (by decide +kernel) rfl
theorem kn_1002 : Cond.castable "TuneHouse$Correction" "java/lang/Object" ∈ NB := NB_in 1042 (by decide +kernel) rfl
theorem kn_1003 : Cond.castable "TuneHouse$Pair" "java/lang/Object" ∈ NB := NB_in 1043 (by decide +kernel) rfl
theorem kn_1004 : Cond.castable "java/util/NoSuchElementException" "java/lang/Object" ∈ NB := NB_in 1044 (by decide +kernel) rfl
theorem kn_1005 : Cond.castable "java/lang/Throwable" "java/lang/Object" ∈ NB := NB_in 1045 (by decide +kernel) rfl
theorem kw_1006 : Cond.sameMethod "[Ljava/lang/Object;" "java/lang/Object" "getClass" "()Ljava/lang/Class;" ∈ TB := TB_in 1046 (by decide +kernel) (by decide +kernel)
theorem kw_1007 : Cond.selects "[Ljava/lang/Object;" ⟨"java/lang/Object", "getClass", "()Ljava/lang/Class;"⟩ ⟨"java/lang/Object", "getClass", "()Ljava/lang/Class;"⟩ ∈ TB := TB_in 1047 (by decide +kernel) (by decide +kernel)
theorem kn_1008 : Cond.declares ⟨"java/lang/Object", "getClass", "()Ljava/lang/Class;"⟩ ∈ NB := NB_in 1048 (by decide +kernel) rfl
theorem kn_1009 : Cond.castable "[I" "java/lang/Object" ∈ NB := NB_in 1049 (by decide +kernel) rfl
theorem kn_1010 : Cond.castable "[[I" "java/lang/Object" ∈ NB := NB_in 1050 (by decide +kernel) rfl
theorem kn_1011 : Cond.castable "[Z" "java/lang/Object" ∈ NB := NB_in 1051 (by decide +kernel) rfl
theorem kn_1012 : Cond.castable "[Ljava/lang/Object;" "java/lang/Object" ∈ NB := NB_in 1052 (by decide +kernel) rfl
theorem kn_1013 : Cond.castable "[J" "java/lang/Object" ∈ NB := NB_in 1053 (by decide +kernel) rfl
theorem iw_J : ∀ w ∈ u_ws RJx4a65c TJx4a65c 3, w ∈ TB := by
  intro w hw
  obtain ⟨k, hk, rfl⟩ := List.mem_map.mp hw
  have hk := List.mem_range.mp hk
  match k, hk with
  | 0, _ => exact TB_in 155 (by decide +kernel) (by decide +kernel)
  | 1, _ => exact TB_in 151 (by decide +kernel) (by decide +kernel)
  | 2, _ => exact TB_in 153 (by decide +kernel) (by decide +kernel)
  | k + 3, h => exact absurd h (by omega)
theorem iw_X0 : ∀ w ∈ u_ws RX0 TX0 7, w ∈ TB := by
  intro w hw
  obtain ⟨k, hk, rfl⟩ := List.mem_map.mp hw
  have hk := List.mem_range.mp hk
  match k, hk with
  | 0, _ => exact TB_in 97 (by decide +kernel) (by decide +kernel)
  | 1, _ => exact TB_in 99 (by decide +kernel) (by decide +kernel)
  | 2, _ => exact TB_in 101 (by decide +kernel) (by decide +kernel)
  | 3, _ => exact TB_in 103 (by decide +kernel) (by decide +kernel)
  | 4, _ => exact TB_in 105 (by decide +kernel) (by decide +kernel)
  | 5, _ => exact TB_in 107 (by decide +kernel) (by decide +kernel)
  | 6, _ => exact TB_in 109 (by decide +kernel) (by decide +kernel)
  | k + 7, h => exact absurd h (by omega)
theorem iw_X1 : ∀ w ∈ u_ws RX1 TX1 4, w ∈ TB := by
  intro w hw
  obtain ⟨k, hk, rfl⟩ := List.mem_map.mp hw
  have hk := List.mem_range.mp hk
  match k, hk with
  | 0, _ => exact TB_in 399 (by decide +kernel) (by decide +kernel)
  | 1, _ => exact TB_in 401 (by decide +kernel) (by decide +kernel)
  | 2, _ => exact TB_in 403 (by decide +kernel) (by decide +kernel)
  | 3, _ => exact TB_in 405 (by decide +kernel) (by decide +kernel)
  | k + 4, h => exact absurd h (by omega)
theorem iw_X2 : ∀ w ∈ u_ws RX2 TX2 4, w ∈ TB := by
  intro w hw
  obtain ⟨k, hk, rfl⟩ := List.mem_map.mp hw
  have hk := List.mem_range.mp hk
  match k, hk with
  | 0, _ => exact TB_in 122 (by decide +kernel) (by decide +kernel)
  | 1, _ => exact TB_in 124 (by decide +kernel) (by decide +kernel)
  | 2, _ => exact TB_in 126 (by decide +kernel) (by decide +kernel)
  | 3, _ => exact TB_in 128 (by decide +kernel) (by decide +kernel)
  | k + 4, h => exact absurd h (by omega)
theorem iw_X3 : ∀ w ∈ u_ws RX3 TX3 2, w ∈ TB := by
  intro w hw
  obtain ⟨k, hk, rfl⟩ := List.mem_map.mp hw
  have hk := List.mem_range.mp hk
  match k, hk with
  | 0, _ => exact TB_in 445 (by decide +kernel) (by decide +kernel)
  | 1, _ => exact TB_in 447 (by decide +kernel) (by decide +kernel)
  | k + 2, h => exact absurd h (by omega)
theorem iw_X4 : ∀ w ∈ u_ws RX4 TX4 1, w ∈ TB := by
  intro w hw
  obtain ⟨k, hk, rfl⟩ := List.mem_map.mp hw
  have hk := List.mem_range.mp hk
  match k, hk with
  | 0, _ => exact TB_in 78 (by decide +kernel) (by decide +kernel)
  | k + 1, h => exact absurd h (by omega)
theorem iw_X5 : ∀ w ∈ u_ws RX5 TX5 9, w ∈ TB := by
  intro w hw
  obtain ⟨k, hk, rfl⟩ := List.mem_map.mp hw
  have hk := List.mem_range.mp hk
  match k, hk with
  | 0, _ => exact TB_in 250 (by decide +kernel) (by decide +kernel)
  | 1, _ => exact TB_in 252 (by decide +kernel) (by decide +kernel)
  | 2, _ => exact TB_in 254 (by decide +kernel) (by decide +kernel)
  | 3, _ => exact TB_in 256 (by decide +kernel) (by decide +kernel)
  | 4, _ => exact TB_in 258 (by decide +kernel) (by decide +kernel)
  | 5, _ => exact TB_in 260 (by decide +kernel) (by decide +kernel)
  | 6, _ => exact TB_in 262 (by decide +kernel) (by decide +kernel)
  | 7, _ => exact TB_in 264 (by decide +kernel) (by decide +kernel)
  | 8, _ => exact TB_in 266 (by decide +kernel) (by decide +kernel)
  | k + 9, h => exact absurd h (by omega)
theorem iw_X6 : ∀ w ∈ u_ws RX6 TX6 3, w ∈ TB := by
  intro w hw
  obtain ⟨k, hk, rfl⟩ := List.mem_map.mp hw
  have hk := List.mem_range.mp hk
  match k, hk with
  | 0, _ => exact TB_in 224 (by decide +kernel) (by decide +kernel)
  | 1, _ => exact TB_in 226 (by decide +kernel) (by decide +kernel)
  | 2, _ => exact TB_in 228 (by decide +kernel) (by decide +kernel)
  | k + 3, h => exact absurd h (by omega)
theorem iw_X7 : ∀ w ∈ u_ws RX7 TX7 10, w ∈ TB := by
  intro w hw
  obtain ⟨k, hk, rfl⟩ := List.mem_map.mp hw
  have hk := List.mem_range.mp hk
  match k, hk with
  | 0, _ => exact TB_in 168 (by decide +kernel) (by decide +kernel)
  | 1, _ => exact TB_in 170 (by decide +kernel) (by decide +kernel)
  | 2, _ => exact TB_in 172 (by decide +kernel) (by decide +kernel)
  | 3, _ => exact TB_in 174 (by decide +kernel) (by decide +kernel)
  | 4, _ => exact TB_in 176 (by decide +kernel) (by decide +kernel)
  | 5, _ => exact TB_in 178 (by decide +kernel) (by decide +kernel)
  | 6, _ => exact TB_in 180 (by decide +kernel) (by decide +kernel)
  | 7, _ => exact TB_in 182 (by decide +kernel) (by decide +kernel)
  | 8, _ => exact TB_in 184 (by decide +kernel) (by decide +kernel)
  | 9, _ => exact TB_in 186 (by decide +kernel) (by decide +kernel)
  | k + 10, h => exact absurd h (by omega)
theorem iw_X8 : ∀ w ∈ u_ws RX8 TX8 35, w ∈ TB := by
  intro w hw
  obtain ⟨k, hk, rfl⟩ := List.mem_map.mp hw
  have hk := List.mem_range.mp hk
  match k, hk with
  | 0, _ => exact TB_in 797 (by decide +kernel) (by decide +kernel)
  | 1, _ => exact TB_in 799 (by decide +kernel) (by decide +kernel)
  | 2, _ => exact TB_in 801 (by decide +kernel) (by decide +kernel)
  | 3, _ => exact TB_in 803 (by decide +kernel) (by decide +kernel)
  | 4, _ => exact TB_in 805 (by decide +kernel) (by decide +kernel)
  | 5, _ => exact TB_in 807 (by decide +kernel) (by decide +kernel)
  | 6, _ => exact TB_in 809 (by decide +kernel) (by decide +kernel)
  | 7, _ => exact TB_in 811 (by decide +kernel) (by decide +kernel)
  | 8, _ => exact TB_in 813 (by decide +kernel) (by decide +kernel)
  | 9, _ => exact TB_in 815 (by decide +kernel) (by decide +kernel)
  | 10, _ => exact TB_in 817 (by decide +kernel) (by decide +kernel)
  | 11, _ => exact TB_in 819 (by decide +kernel) (by decide +kernel)
  | 12, _ => exact TB_in 821 (by decide +kernel) (by decide +kernel)
  | 13, _ => exact TB_in 823 (by decide +kernel) (by decide +kernel)
  | 14, _ => exact TB_in 825 (by decide +kernel) (by decide +kernel)
  | 15, _ => exact TB_in 827 (by decide +kernel) (by decide +kernel)
  | 16, _ => exact TB_in 829 (by decide +kernel) (by decide +kernel)
  | 17, _ => exact TB_in 831 (by decide +kernel) (by decide +kernel)
  | 18, _ => exact TB_in 833 (by decide +kernel) (by decide +kernel)
  | 19, _ => exact TB_in 835 (by decide +kernel) (by decide +kernel)
  | 20, _ => exact TB_in 837 (by decide +kernel) (by decide +kernel)
  | 21, _ => exact TB_in 839 (by decide +kernel) (by decide +kernel)
  | 22, _ => exact TB_in 841 (by decide +kernel) (by decide +kernel)
  | 23, _ => exact TB_in 843 (by decide +kernel) (by decide +kernel)
  | 24, _ => exact TB_in 845 (by decide +kernel) (by decide +kernel)
  | 25, _ => exact TB_in 847 (by decide +kernel) (by decide +kernel)
  | 26, _ => exact TB_in 849 (by decide +kernel) (by decide +kernel)
  | 27, _ => exact TB_in 851 (by decide +kernel) (by decide +kernel)
  | 28, _ => exact TB_in 853 (by decide +kernel) (by decide +kernel)
  | 29, _ => exact TB_in 855 (by decide +kernel) (by decide +kernel)
  | 30, _ => exact TB_in 857 (by decide +kernel) (by decide +kernel)
  | 31, _ => exact TB_in 859 (by decide +kernel) (by decide +kernel)
  | 32, _ => exact TB_in 861 (by decide +kernel) (by decide +kernel)
  | 33, _ => exact TB_in 863 (by decide +kernel) (by decide +kernel)
  | 34, _ => exact TB_in 865 (by decide +kernel) (by decide +kernel)
  | k + 35, h => exact absurd h (by omega)
end
section
/-! THE GHOST HEAP: what a method knows of the heap, an address its role and its content; a role tells addresses apart -/
abbrev zR : Type := Nat × Nat × Nat
abbrev zH : Type := Nat → Option (zR × va_E)
/-- classes and field places; array classes; numbers fixed for a launch (0: the first address that may be written; 1: the list's static empty array; 2: the table of price tops) -/
abbrev zK : Type := va_G × (Nat → ClassId) × (Nat → Nat)
def zu (G : zH) (a : Nat) (x : zR × va_E) : zH := fun b => if b = a then some x else G b
theorem zu_s {G : zH} {a : Nat} {x : zR × va_E} : zu G a x a = some x := if_pos rfl
theorem zu_n {G : zH} {a b : Nat} {x : zR × va_E} (h : b ≠ a) : zu G a x b = G b := if_neg h
theorem zr_n {G : zH} {a b : Nat} {r1 r2 : zR} {e1 e2 : va_E} (h1 : G a = some (r1, e1)) (h2 : G b = some (r2, e2)) (h : r1 ≠ r2) : a ≠ b := fun q => by
  subst q
  rw [h1] at h2
  cases h2
  exact h rfl
theorem zu_r {G : zH} {a b : Nat} {r1 r2 : zR} {e1 e2 : va_E} {x : zR × va_E} (h1 : G a = some (r1, e1)) (h2 : G b = some (r2, e2)) (h : r2 ≠ r1) : zu G a x b = some (r2, e2) := by
  rw [zu_n (zr_n h2 h1 h)]; exact h2
def zA (κ : zK) : Nat → Prop := fun q => κ.2.2 0 ≤ q
def zh (κ : zK) (G : zH) (H : Heap) : Prop := ∀ (a : Nat) (r : zR) (e : va_E), G a = some (r, e) → va_at κ.1 vwCl (a, e) H ∧ κ.2.2 0 ≤ a
def zt (κ : zK) : List (ClassId × FieldType) := [(κ.2.1 0, .int), (κ.2.1 1, .boolean), (κ.2.1 2, .object "java/lang/Object"), (κ.2.1 3, .array .int), (κ.2.1 4, .long)]
def zen (G : zH) (n : Nat) : va_W := (List.range n).filterMap (fun b => (G b).map (fun x => (b, x.2)))
theorem zen_mem {G : zH} {n a : Nat} {e : va_E} : (a, e) ∈ zen G n ↔ a < n ∧ ∃ r, G a = some (r, e) := by
  unfold zen
  simp only [List.mem_filterMap, List.mem_range, Option.map_eq_some_iff]
  constructor
  · rintro ⟨b, hb, ⟨r, e'⟩, hx, hy⟩
    cases hy
    exact ⟨hb, r, hx⟩
  · rintro ⟨h, r, hr⟩
    exact ⟨a, h, (r, e), hr, rfl⟩
theorem zen_nd {G : zH} {n : Nat} (i j : Nat) (p q : Nat × va_E) (hi : (zen G n)[i]? = some p) (hj : (zen G n)[j]? = some q) (h : p.1 = q.1) : i = j := by
  have hp : (zen G n).Pairwise (fun p q => p.1 ≠ q.1) := by
    unfold zen
    rw [List.pairwise_filterMap]
    refine List.Pairwise.imp ?_ List.nodup_range
    intro a b hab x hx y hy
    obtain ⟨_, _, rfl⟩ := Option.map_eq_some_iff.mp hx
    obtain ⟨_, _, rfl⟩ := Option.map_eq_some_iff.mp hy
    exact hab
  obtain ⟨h1, rfl⟩ := List.getElem?_eq_some_iff.mp hi
  obtain ⟨h2, rfl⟩ := List.getElem?_eq_some_iff.mp hj
  rcases Nat.lt_trichotomy i j with c | c | c
  · exact absurd h (List.pairwise_iff_getElem.mp hp i j h1 h2 c)
  · exact c
  · exact absurd h.symm (List.pairwise_iff_getElem.mp hp j i h2 h1 c)
theorem zen_P {κ : zK} {G : zH} {H : Heap} (h : zh κ G H) : va_P κ.1 vwCl (zen G H.size) H := fun k q hk => by
  obtain ⟨-, r, hr⟩ := zen_mem.mp (List.mem_of_getElem? (show (zen G H.size)[k]? = some (q.1, q.2) from hk))
  exact (h _ _ _ hr).1
theorem zen_D {κ : zK} {G : zH} {H : Heap} (h : zh κ G H) : va_D (zA κ) (zen G H.size) := ⟨zen_nd, fun k q hk => by
  obtain ⟨-, r, hr⟩ := zen_mem.mp (List.mem_of_getElem? (show (zen G H.size)[k]? = some (q.1, q.2) from hk))
  exact (h _ _ _ hr).2⟩
theorem zh_lt {κ : zK} {G : zH} {H : Heap} (h : zh κ G H) {a : Nat} {x : zR × va_E} (ha : G a = some x) : a < H.size := (h a x.1 x.2 ha).1.lt
theorem zen_ix {κ : zK} {G : zH} {H : Heap} (h : zh κ G H) {a : Nat} {r : zR} {e : va_E} (ha : G a = some (r, e)) : ∃ q0 : Nat, (zen G H.size)[q0]? = some (a, e) :=
  List.mem_iff_getElem?.mp (zen_mem.mpr ⟨zh_lt h ha, r, ha⟩)
theorem zen_set {κ : zK} {G : zH} {H H1 : Heap} (h : zh κ G H) {a q0 : Nat} {r : zR} {e e' : va_E} (ha : G a = some (r, e)) (hq : (zen G H.size)[q0]? = some (a, e)) (hP : va_P κ.1 vwCl ((zen G H.size).set q0 (a, e')) H1) : zh κ (zu G a (r, e')) H1 := by
  intro b rb eb hb
  have hl := (List.getElem?_eq_some_iff.mp hq).1
  by_cases hba : b = a
  · subst hba
    rw [zu_s] at hb
    cases hb
    exact ⟨hP q0 _ (by rw [List.getElem?_set]; simp [hl]), (h _ _ _ ha).2⟩
  · rw [zu_n hba] at hb
    obtain ⟨i, hi⟩ := zen_ix h hb
    have hne : q0 ≠ i := fun q => by
      subst q
      rw [hq] at hi
      cases hi
      exact hba rfl
    exact ⟨hP i _ (by rw [List.getElem?_set_ne hne]; exact hi), (h _ _ _ hb).2⟩
theorem zen_push {κ : zK} {G : zH} {H H1 : Heap} (h : zh κ G H) {q : Nat} (r : zR) {e : va_E} (hP : va_P κ.1 vwCl (zen G H.size ++ [(q, e)]) H1) (hD : va_D (zA κ) (zen G H.size ++ [(q, e)])) : G q = none ∧ κ.2.2 0 ≤ q ∧ zh κ (zu G q (r, e)) H1 := by
  have hlast : (zen G H.size ++ [(q, e)])[(zen G H.size).length]? = some (q, e) := by rw [List.getElem?_append_right (Nat.le_refl _)]; simp
  have hA : κ.2.2 0 ≤ q := hD.2 _ _ hlast
  have hn : G q = none := by
    cases hG : G q with
    | none => rfl
    | some x =>
      obtain ⟨i, hi⟩ := zen_ix h (show G q = some (x.1, x.2) from hG)
      have hil := (List.getElem?_eq_some_iff.mp hi).1
      have := hD.1 i _ (q, x.2) (q, e) (by rw [List.getElem?_append_left hil]; exact hi) hlast rfl
      omega
  refine ⟨hn, hA, fun b rb eb hb => ?_⟩
  by_cases hba : b = q
  · subst hba
    rw [zu_s] at hb
    cases hb
    exact ⟨hP _ _ hlast, hA⟩
  · rw [zu_n hba] at hb
    obtain ⟨i, hi⟩ := zen_ix h hb
    have hil := (List.getElem?_eq_some_iff.mp hi).1
    exact ⟨hP i _ (by rw [List.getElem?_append_left hil]; exact hi), (h _ _ _ hb).2⟩
/-! STATICS that nobody writes -/
def zTops (j : Nat) : Int32 := [20, 200, 20, 200, 10000].getD j 0
def zS (κ : zK) (U : State) (H : Heap) : Prop :=
  va_Z "java/util/ArrayList" "DEFAULTCAPACITY_EMPTY_ELEMENTDATA" "[Ljava/lang/Object;" (.ref (κ.2.2 1)) (zA κ) U H ∧
  va_T (.object "java/lang/Object") (κ.2.2 1) 0 (fun _ => .null) (zA κ) U H ∧
  va_Z "TuneHouse$Prices" "TOPS" "[I" (.ref (κ.2.2 2)) (zA κ) U H ∧
  va_T .int (κ.2.2 2) 5 (fun j => .int (zTops j)) (zA κ) U H
theorem zS.moved {κ : zK} {u U : State} {H : Heap} (hvm : u.vm.Alike U.vm) (h : zS κ u H) : zS κ U H := ⟨h.1.moved hvm, h.2.1.moved hvm, h.2.2.1.moved hvm, h.2.2.2.moved hvm⟩
theorem zS.kept {κ : zK} {U : State} {H H1 : Heap} {locs : List Loc} (h : zS κ U H) (hS : va_S (zA κ) H H1 locs) : zS κ U H1 := ⟨h.1.kept (fun a h1 h2 => hS.2.1 a h1 h2), h.2.1.kept (fun a h1 h2 => hS.2.1 a h1 h2), h.2.2.1.kept (fun a h1 h2 => hS.2.1 a h1 h2), h.2.2.2.kept (fun a h1 h2 => hS.2.1 a h1 h2)⟩
def zN (U : State) : Prop := (∀ w ∈ NB, va_Nw w U) ∧ va_AO "java/lang/Object" U
theorem zN.moved {s U : State} (hW : s.WarmedH U.vm) (h : zN s) : zN U := ⟨fun w hw => by
  have h1 := h.1 w hw
  have hi : isN w = true := (List.mem_filter.mp hw).2
  cases w
  case methodLinkNest => exact va_Nw.warmM hW h1
  case fieldLinkNest => exact va_Nw.warmF hW h1
  case castable => exact va_Nw.warmC hW h1
  case declares => exact va_Nw.warmD hW h1
  all_goals exact absurd hi (by simp [isN]), h.2.moved hW.alike⟩
theorem NB_tab : ∀ w ∈ NB, w.onTables = true := fun w hw => by
  have hi : isN w = true := (List.mem_filter.mp hw).2
  cases w
  case methodLinkNest => rfl
  case fieldLinkNest => rfl
  case castable => rfl
  case declares => rfl
  all_goals exact absurd hi (by simp [isN])
theorem zN.same {s U : State} (h0 : s.vm = U.vm) (h : zN s) : zN U := ⟨fun w hw => va_Nw.same (NB_tab w hw) h0 (h.1 w hw), h.2.moved (by rw [h0]; exact Vm.Alike.refl U.vm)⟩
def zOK (κ : zK) (U : State) : Prop := κ.2.2 0 ≤ U.heap.size ∧ va_K κ.1 vwCl (zt κ) U ∧ zS κ U U.heap ∧ zN U
theorem zOK.at {κ : zK} {s U : State} {H : Heap} {locs : List Loc} (h : zOK κ s) (hS : va_S (zA κ) s.heap H locs) (hU : U.heap = H) (hW : s.WarmedH U.vm) : zOK κ U := by
  subst hU
  exact ⟨Nat.le_trans h.1 hS.1, va_K.moved hW.alike h.2.1, (h.2.2.1.kept hS).moved hW.alike, h.2.2.2.moved hW⟩
theorem zOK.call {κ : zK} {U : State} {g : JFrame} {mk : MethodId} {a : Array Value} (h : zOK κ U) : zOK κ (U.calling g mk a) := ⟨h.1, va_K.moved (u := U) (Vm.Alike.refl U.vm) h.2.1, h.2.2.1.moved (u := U) (Vm.Alike.refl U.vm), h.2.2.2.same (s := U) rfl⟩
/-! LOCALS -/
def zlh (ls : Array Slot) (nL : Nat) (L : List (Option Value)) : Prop := ls.size = nL ∧ lv_wf ls ∧ ∀ (i : Nat) (v : Value), L[i]? = some (some v) → ls[i]? = some (.val v) ∧ v.category = 1
def zpr (L : List (Option Value)) : List (Nat × Value) := (List.range L.length).filterMap (fun i => match L[i]? with | some (some v) => some (i, v) | _ => none)
theorem zpr_mem {L : List (Option Value)} {i : Nat} {v : Value} : (i, v) ∈ zpr L ↔ L[i]? = some (some v) := by
  unfold zpr
  simp only [List.mem_filterMap, List.mem_range]
  constructor
  · rintro ⟨j, hj, h⟩
    cases h1 : L[j]? with
    | none => rw [h1] at h; cases h
    | some w => cases w with
      | none => rw [h1] at h; cases h
      | some w => rw [h1] at h; cases h; exact h1
  · intro h
    exact ⟨i, (List.getElem?_eq_some_iff.mp h).1, by rw [h]⟩
theorem zlh_has {ls : Array Slot} {nL : Nat} {L : List (Option Value)} (h : zlh ls nL L) : lv_has ls nL (zpr L) := ⟨h.1, h.2.1, fun q hq => (h.2.2 q.1 q.2 (zpr_mem.mp hq)).1⟩
theorem zlh_set {ls ls' : Array Slot} {nL i : Nat} {L L' : List (Option Value)} {x : Value} (h : zlh ls nL L) (hc : x.category = 1) (h' : lv_has ls' nL ((i, x) :: (zpr L).filter (fun q => !(q.1 == i) && !(q.1 + 1 == i && q.2.category == 2)))) (hs : L.set i (some x) = L') : zlh ls' nL L' := by
  subst hs
  refine ⟨h'.1, h'.2.1, fun j v hj => ?_⟩
  by_cases hji : j = i
  · subst hji
    have hl : j < L.length := by
      have := (List.getElem?_eq_some_iff.mp hj).1
      simpa using this
    rw [List.getElem?_set] at hj
    simp [hl] at hj
    subst hj
    exact ⟨h'.2.2 (j, x) List.mem_cons_self, hc⟩
  · rw [List.getElem?_set_ne (fun q => hji q.symm)] at hj
    have hv := h.2.2 j v hj
    refine ⟨h'.2.2 (j, v) (List.mem_cons_of_mem _ (List.mem_filter.mpr ⟨zpr_mem.mpr hj, ?_⟩)), hv.2⟩
    simp [hji, hv.2]
theorem zargs_mem : ∀ (vs : List Value) (k i : Nat) (v : Value), (∀ w ∈ vs, w.category = 1) → vs[i]? = some v → (k + i, v) ∈ lv_args k vs
  | [], _, _, _, _, h => by cases h
  | w :: vs, k, 0, v, _, h => by cases h; exact List.mem_cons_self
  | w :: vs, k, i + 1, v, hc, h => by
    have h1 : vs[i]? = some v := h
    have hw : ¬ w.category = 2 := by rw [hc w List.mem_cons_self]; decide
    have := zargs_mem vs (k + 1) i v (fun x hx => hc x (List.mem_cons_of_mem _ hx)) h1
    show (k + (i + 1), v) ∈ (k, w) :: lv_args (if w.category = 2 then k + 2 else k + 1) vs
    rw [if_neg hw]
    refine List.mem_cons_of_mem _ ?_
    rw [show k + (i + 1) = k + 1 + i by omega]
    exact this
/-! THE JUDGEMENT: with what is fixed given, from the frame at pc, over any heap that holds G, the walk comes to Q -/
def zCx (p : Program) (s : State) (m : MethodId) (args : Array Value) (meth : Method) (c : Code) (y : MethodName) (cc : ByteArray) (nL : Nat) (ret : Option FieldType) (κ : zK) : Prop :=
  p.tables.exec = Jvm.exec ∧ c.code = cc ∧ c.maxLocals = nL ∧ s.vm.findClass y.cls = some m.cls ∧ (∀ w ∈ TB, w.before args s = true) ∧ zOK κ s ∧ meth.sig.returnType = ret ∧ meth.locks = false ∧ meth.name = y.name
def Z (p : Program) (l : Launch) (e : Env) (R : Room) (s : State) (m : MethodId) (args : Array Value) (below : List Frame) (meth : Method) (c : Code) (y : MethodName) (cc : ByteArray) (nL : Nat) (ret : Option FieldType) (κ : zK) (Q : State → Prop) (nc ns : Nat) (G : zH) (L : List (Option Value)) (pc : Nat) (st : List Value) : Prop :=
  zCx p s m args meth c y cc nL ret κ → ∀ (H : Heap) (locs : List Loc) (ls : Array Slot), zh κ G H → va_S (zA κ) s.heap H locs → zlh ls nL L → W p l e R s m args below meth c H locs nc ns Q (F0 m pc ls st)
def zQc (κ : zK) (post : Option Value → zH → Prop) : Array Value → State → Outcome → State → Prop := fun _ st oc t => (∃ (r : Option Value) (G' : zH), oc = .returned r ∧ post r G' ∧ zh κ G' t.heap) ∧ va_F (zA κ) st t
/-- a method's contract: from the arguments av and the ghost heap G, it returns, and 'post' tells the answer and the ghost heap behind -/
def Ct (l : Launch) (y : MethodName) (cc : ByteArray) (nL : Nat) (ret : Option FieldType) (rm : Room) (κ : zK) (av : List Value) (G : zH) (post : Option Value → zH → Prop) : Prop :=
  Met l y (.code y cc nL ret :: TB) rm (va_Pc av (fun U => zOK κ U ∧ zh κ G U.heap)) (zQc κ post) rm.cells rm.slots (zA κ)
theorem zsl_len : ∀ (av : List Value), (∀ v ∈ av, v.category = 1) → (lg_sl av).length = av.length
  | [], _ => rfl
  | w :: vs, h => by
    have hw : ¬ w.category = 2 := by rw [h w List.mem_cons_self]; decide
    have ih := zsl_len vs (fun v hv => h v (List.mem_cons_of_mem _ hv))
    unfold lg_sl at ih ⊢
    simp only [List.flatMap_cons, hw, if_false, List.length_append, List.length_cons, List.length_nil]
    rw [ih]
    omega
theorem Ct.of {l : Launch} {y : MethodName} {cc : ByteArray} {nL : Nat} {ret : Option FieldType} {rm : Room} {κ : zK} {av : List Value} {G : zH} {post : Option Value → zH → Prop} (hy : plainName y.cls = true) (hav : ∀ v ∈ av, v.category = 1) (hn : av.length ≤ nL)
    (body : ∀ (p : Program) (e : Env) (s : State) (m : MethodId) (args : Array Value) (below : List Frame) (meth : Method) (c : Code), Z p l e rm s m args below meth c y cc nL ret κ (MQ below (zQc κ post) args s rm.cells rm.slots (zA κ)) 0 0 G (av.map some ++ List.replicate (nL - av.length) none) 0 []) : Ct l y cc nL ret rm κ av G post := by
  refine Met.ofW (cc := cc) (maxL := nL) (ret := ret) hy rfl ?_
  intro p e s m args below meth c s₁ B hml hv
  obtain ⟨rfl, hok, hgh⟩ := hv
  have hts := atoms_spec (ws := .code y cc nL ret :: TB) B.pre
  have hsl := zsl_len av hav
  have hl := lv_entry av (n := nL) (by rw [hsl]; exact hn)
  rw [lg_entry_eq]
  refine body p e s m _ below meth c ⟨B.exec, B.bytes, hml, findClass_of_methodNamed B.named, fun w h => hts w (List.mem_cons_of_mem _ h), hok, B.returns, B.notSynchronized, (name_of_methodNamed B.named B.method).1⟩ s.heap [] _ hgh va_S.rf ⟨hl.1, hl.2.1, fun i v hi => ?_⟩
  by_cases hia : i < av.length
  · rw [List.getElem?_append_left (by simpa using hia), List.getElem?_map] at hi
    cases hv : av[i]? with
    | none => rw [hv] at hi; cases hi
    | some w =>
      rw [hv] at hi
      cases hi
      refine ⟨hl.2.2 (i, v) ?_, hav v (List.mem_of_getElem? hv)⟩
      have := zargs_mem av 0 i v hav hv
      rwa [Nat.zero_add] at this
  · rw [List.getElem?_append_right (by simpa using hia), List.getElem?_replicate] at hi
    split at hi <;> cases hi
abbrev pI (P : Int32 → zH → Prop) : Option Value → zH → Prop := fun r G => ∃ v : Int32, r = some (.int v) ∧ P v G
abbrev pV (P : zH → Prop) : Option Value → zH → Prop := fun r G => r = none ∧ P G
abbrev pA (P : Option Nat → zH → Prop) : Option Value → zH → Prop := fun r G => ∃ v : Option Nat, r = some (va_rf v) ∧ P v G
section ZR
variable {p : Program} {l : Launch} {e : Env} {R : Room} {s : State} {m : MethodId} {args : Array Value} {below : List Frame} {meth : Method} {c : Code} {y : MethodName} {cc : ByteArray} {nL : Nat} {ret : Option FieldType} {κ : zK} {Q : State → Prop} {nc ns : Nat} {G : zH} {L : List (Option Value)} {pc : Nat} {st : List Value}
theorem z_iadd {x w : Int32} (hd : decode cc pc = .ok (.iadd, 1)) (k : Z p l e R s m args below meth c y cc nL ret κ Q nc ns G L (pc + 1) (.int (x + w) :: st)) : Z p l e R s m args below meth c y cc nL ret κ Q nc ns G L pc (.int w :: .int x :: st) := fun C H locs ls hg hs hl => lv_iadd C.1 C.2.1 hd (k C H locs ls hg hs hl)
theorem z_isub {x w : Int32} (hd : decode cc pc = .ok (.isub, 1)) (k : Z p l e R s m args below meth c y cc nL ret κ Q nc ns G L (pc + 1) (.int (x - w) :: st)) : Z p l e R s m args below meth c y cc nL ret κ Q nc ns G L pc (.int w :: .int x :: st) := fun C H locs ls hg hs hl => lv_isub C.1 C.2.1 hd (k C H locs ls hg hs hl)
theorem z_imul {x w : Int32} (hd : decode cc pc = .ok (.imul, 1)) (k : Z p l e R s m args below meth c y cc nL ret κ Q nc ns G L (pc + 1) (.int (x * w) :: st)) : Z p l e R s m args below meth c y cc nL ret κ Q nc ns G L pc (.int w :: .int x :: st) := fun C H locs ls hg hs hl => lv_imul C.1 C.2.1 hd (k C H locs ls hg hs hl)
theorem z_iand {x w : Int32} (hd : decode cc pc = .ok (.iand, 1)) (k : Z p l e R s m args below meth c y cc nL ret κ Q nc ns G L (pc + 1) (.int (x &&& w) :: st)) : Z p l e R s m args below meth c y cc nL ret κ Q nc ns G L pc (.int w :: .int x :: st) := fun C H locs ls hg hs hl => lv_iand C.1 C.2.1 hd (k C H locs ls hg hs hl)
theorem z_ior {x w : Int32} (hd : decode cc pc = .ok (.ior, 1)) (k : Z p l e R s m args below meth c y cc nL ret κ Q nc ns G L (pc + 1) (.int (x ||| w) :: st)) : Z p l e R s m args below meth c y cc nL ret κ Q nc ns G L pc (.int w :: .int x :: st) := fun C H locs ls hg hs hl => lv_ior C.1 C.2.1 hd (k C H locs ls hg hs hl)
theorem z_ishl {x w : Int32} (hd : decode cc pc = .ok (.ishl, 1)) (k : Z p l e R s m args below meth c y cc nL ret κ Q nc ns G L (pc + 1) (.int (x <<< (w &&& 31)) :: st)) : Z p l e R s m args below meth c y cc nL ret κ Q nc ns G L pc (.int w :: .int x :: st) := fun C H locs ls hg hs hl => lv_ishl C.1 C.2.1 hd (k C H locs ls hg hs hl)
theorem z_ishr {x w : Int32} (hd : decode cc pc = .ok (.ishr, 1)) (k : Z p l e R s m args below meth c y cc nL ret κ Q nc ns G L (pc + 1) (.int (x >>> (w &&& 31)) :: st)) : Z p l e R s m args below meth c y cc nL ret κ Q nc ns G L pc (.int w :: .int x :: st) := fun C H locs ls hg hs hl => lv_ishr C.1 C.2.1 hd (k C H locs ls hg hs hl)
theorem z_ineg {x : Int32} (hd : decode cc pc = .ok (.ineg, 1)) (k : Z p l e R s m args below meth c y cc nL ret κ Q nc ns G L (pc + 1) (.int (-x) :: st)) : Z p l e R s m args below meth c y cc nL ret κ Q nc ns G L pc (.int x :: st) := fun C H locs ls hg hs hl => lv_ineg C.1 C.2.1 hd (k C H locs ls hg hs hl)
theorem z_idiv {x w : Int32} (h0 : ¬ w = 0) (hd : decode cc pc = .ok (.idiv, 1)) (k : Z p l e R s m args below meth c y cc nL ret κ Q nc ns G L (pc + 1) (.int (x / w) :: st)) : Z p l e R s m args below meth c y cc nL ret κ Q nc ns G L pc (.int w :: .int x :: st) := fun C H locs ls hg hs hl => lv_idiv C.1 C.2.1 hd h0 (k C H locs ls hg hs hl)
theorem z_irem {x w : Int32} (h0 : ¬ w = 0) (hd : decode cc pc = .ok (.irem, 1)) (k : Z p l e R s m args below meth c y cc nL ret κ Q nc ns G L (pc + 1) (.int (x - x / w * w) :: st)) : Z p l e R s m args below meth c y cc nL ret κ Q nc ns G L pc (.int w :: .int x :: st) := fun C H locs ls hg hs hl => lv_irem C.1 C.2.1 hd h0 (k C H locs ls hg hs hl)
theorem z_i2l {x : Int32} (hd : decode cc pc = .ok (.i2l, 1)) (k : Z p l e R s m args below meth c y cc nL ret κ Q nc ns G L (pc + 1) (.long x.toInt64 :: st)) : Z p l e R s m args below meth c y cc nL ret κ Q nc ns G L pc (.int x :: st) := fun C H locs ls hg hs hl => lv_i2l C.1 C.2.1 hd rfl (k C H locs ls hg hs hl)
theorem z_iconst {n : Int} (v : Int32) (hv : Int32.ofInt n = v) (hd : decode cc pc = .ok (.iconst n, 1)) (k : Z p l e R s m args below meth c y cc nL ret κ Q nc ns G L (pc + 1) (.int v :: st)) : Z p l e R s m args below meth c y cc nL ret κ Q nc ns G L pc st := fun C H locs ls hg hs hl => lv_iconst C.1 C.2.1 hd hv (k C H locs ls hg hs hl)
theorem z_bipush {n : Int} (v : Int32) (hv : (Int8.ofInt n).toInt32 = v) (hd : decode cc pc = .ok (.bipush n, 2)) (k : Z p l e R s m args below meth c y cc nL ret κ Q nc ns G L (pc + 2) (.int v :: st)) : Z p l e R s m args below meth c y cc nL ret κ Q nc ns G L pc st := fun C H locs ls hg hs hl => lv_bipush C.1 C.2.1 hd hv (k C H locs ls hg hs hl)
theorem z_sipush {n : Int} (v : Int32) (hv : (Int16.ofInt n).toInt32 = v) (hd : decode cc pc = .ok (.sipush n, 3)) (k : Z p l e R s m args below meth c y cc nL ret κ Q nc ns G L (pc + 3) (.int v :: st)) : Z p l e R s m args below meth c y cc nL ret κ Q nc ns G L pc st := fun C H locs ls hg hs hl => lv_sipush C.1 C.2.1 hd hv (k C H locs ls hg hs hl)
theorem z_null  (hd : decode cc pc = .ok (.aconst_null, 1)) (k : Z p l e R s m args below meth c y cc nL ret κ Q nc ns G L (pc + 1) (.null :: st)) : Z p l e R s m args below meth c y cc nL ret κ Q nc ns G L pc st := fun C H locs ls hg hs hl => lv_null C.1 C.2.1 hd (k C H locs ls hg hs hl)
theorem z_dup {v : Value} (hv : v.category = 1) (hd : decode cc pc = .ok (.dup, 1)) (k : Z p l e R s m args below meth c y cc nL ret κ Q nc ns G L (pc + 1) (v :: v :: st)) : Z p l e R s m args below meth c y cc nL ret κ Q nc ns G L pc (v :: st) := fun C H locs ls hg hs hl => lv_dup C.1 C.2.1 hd hv (k C H locs ls hg hs hl)
theorem z_dup_x1 {v w : Value} (hv : v.category = 1) (hw : w.category = 1) (hd : decode cc pc = .ok (.dup_x1, 1)) (k : Z p l e R s m args below meth c y cc nL ret κ Q nc ns G L (pc + 1) (v :: w :: v :: st)) : Z p l e R s m args below meth c y cc nL ret κ Q nc ns G L pc (v :: w :: st) := fun C H locs ls hg hs hl => lv_dup_x1 C.1 C.2.1 hd hv hw (k C H locs ls hg hs hl)
theorem z_dup2 {v w : Value} (hv : v.category = 1) (hw : w.category = 1) (hd : decode cc pc = .ok (.dup2, 1)) (k : Z p l e R s m args below meth c y cc nL ret κ Q nc ns G L (pc + 1) (v :: w :: v :: w :: st)) : Z p l e R s m args below meth c y cc nL ret κ Q nc ns G L pc (v :: w :: st) := fun C H locs ls hg hs hl => lv_dup2_11 C.1 C.2.1 hd hv hw (k C H locs ls hg hs hl)
theorem z_pop {v : Value} (hv : v.category = 1) (hd : decode cc pc = .ok (.pop, 1)) (k : Z p l e R s m args below meth c y cc nL ret κ Q nc ns G L (pc + 1) st) : Z p l e R s m args below meth c y cc nL ret κ Q nc ns G L pc (v :: st) := fun C H locs ls hg hs hl => lv_pop C.1 C.2.1 hd hv (k C H locs ls hg hs hl)
theorem z_ldc {i : Nat} {v : Int32} (hw : Cond.constant y.cls i v ∈ TB) (hd : decode cc pc = .ok (.ldc i, 2)) (k : Z p l e R s m args below meth c y cc nL ret κ Q nc ns G L (pc + 2) (.int v :: st)) : Z p l e R s m args below meth c y cc nL ret κ Q nc ns G L pc st := fun C H locs ls hg hs hl => lv_ldc C.1 C.2.1 C.2.2.2.1 (C.2.2.2.2.1 _ hw) hd (k C H locs ls hg hs hl)
theorem z_goto {off : Int} (tgt : Nat) (ht : (pc : Int) + off = (tgt : Int)) (hd : decode cc pc = .ok (.goto off, 3)) (k : Z p l e R s m args below meth c y cc nL ret κ Q nc ns G L (tgt) st) : Z p l e R s m args below meth c y cc nL ret κ Q nc ns G L pc st := fun C H locs ls hg hs hl => lv_goto C.1 C.2.1 hd ht (k C H locs ls hg hs hl)
theorem z_iload_n {x : Int32} {k0 : Fin 4} (i : Nat) (hd : decode cc pc = .ok (.iload_n k0, 1)) (hi : (k0 : Nat) = i) (hL : L[i]? = some (some (.int x))) (k : Z p l e R s m args below meth c y cc nL ret κ Q nc ns G L (pc + 1) (.int x :: st)) : Z p l e R s m args below meth c y cc nL ret κ Q nc ns G L pc st := fun C H locs ls hg hs hl => lv_iload_n C.1 C.2.1 hd hi (hl.2.2 i _ hL).1 (k C H locs ls hg hs hl)
theorem z_aload_n {v : Value} {k0 : Fin 4} (i : Nat) (hd : decode cc pc = .ok (.aload_n k0, 1)) (hi : (k0 : Nat) = i) (hL : L[i]? = some (some v)) (hv : (∃ o, v = va_rf o)) (k : Z p l e R s m args below meth c y cc nL ret κ Q nc ns G L (pc + 1) (v :: st)) : Z p l e R s m args below meth c y cc nL ret κ Q nc ns G L pc st := fun C H locs ls hg hs hl => by
  obtain ⟨o, rfl⟩ := hv
  have hX := (hl.2.2 i _ hL).1
  have kk := k C H locs ls hg hs hl
  cases o with
  | none => exact lv_aload_nN C.1 C.2.1 hd hi hX kk
  | some a => exact lv_aload_n C.1 C.2.1 hd hi hX kk
theorem z_istore_n {x : Int32} {k0 : Fin 4} {L' : List (Option Value)} (i : Nat) (hd : decode cc pc = .ok (.istore_n k0, 1)) (hi : (k0 : Nat) = i) (hn : i < nL) (hs : L.set i (some (.int x)) = L') (k : Z p l e R s m args below meth c y cc nL ret κ Q nc ns G L' (pc + 1) st) : Z p l e R s m args below meth c y cc nL ret κ Q nc ns G L pc (.int x :: st) := fun C H locs ls hg hS hl => lv_istore_n C.1 C.2.1 hd hi (zlh_has hl) hn rfl (fun ls' h' => k C H locs ls' hg hS (zlh_set hl rfl h' hs))
theorem z_astore_n {v : Value} {k0 : Fin 4} {L' : List (Option Value)} (i : Nat) (hd : decode cc pc = .ok (.astore_n k0, 1)) (hi : (k0 : Nat) = i) (hn : i < nL) (hv : (∃ o, v = va_rf o)) (hs : L.set i (some v) = L') (k : Z p l e R s m args below meth c y cc nL ret κ Q nc ns G L' (pc + 1) st) : Z p l e R s m args below meth c y cc nL ret κ Q nc ns G L pc (v :: st) := fun C H locs ls hg hS hl => by
  obtain ⟨o, rfl⟩ := hv
  cases o with
  | none => exact lv_astore_nN C.1 C.2.1 hd hi (zlh_has hl) hn rfl (fun ls' h' => k C H locs ls' hg hS (zlh_set hl rfl h' hs))
  | some a => exact lv_astore_n C.1 C.2.1 hd hi (zlh_has hl) hn rfl (fun ls' h' => k C H locs ls' hg hS (zlh_set hl rfl h' hs))
theorem z_iload {x : Int32} (i : Nat) (hd : decode cc pc = .ok (.iload i, 2)) (hL : L[i]? = some (some (.int x))) (k : Z p l e R s m args below meth c y cc nL ret κ Q nc ns G L (pc + 2) (.int x :: st)) : Z p l e R s m args below meth c y cc nL ret κ Q nc ns G L pc st := fun C H locs ls hg hs hl => lv_iload C.1 C.2.1 hd (hl.2.2 i _ hL).1 (k C H locs ls hg hs hl)
theorem z_aload {v : Value} (i : Nat) (hd : decode cc pc = .ok (.aload i, 2)) (hL : L[i]? = some (some v)) (hv : (∃ o, v = va_rf o)) (k : Z p l e R s m args below meth c y cc nL ret κ Q nc ns G L (pc + 2) (v :: st)) : Z p l e R s m args below meth c y cc nL ret κ Q nc ns G L pc st := fun C H locs ls hg hs hl => by
  obtain ⟨o, rfl⟩ := hv
  have hX := (hl.2.2 i _ hL).1
  have kk := k C H locs ls hg hs hl
  cases o with
  | none => exact lv_aloadN C.1 C.2.1 hd hX kk
  | some a => exact lv_aload C.1 C.2.1 hd hX kk
theorem z_istore {x : Int32} {L' : List (Option Value)} (i : Nat) (hd : decode cc pc = .ok (.istore i, 2)) (hn : i < nL) (hs : L.set i (some (.int x)) = L') (k : Z p l e R s m args below meth c y cc nL ret κ Q nc ns G L' (pc + 2) st) : Z p l e R s m args below meth c y cc nL ret κ Q nc ns G L pc (.int x :: st) := fun C H locs ls hg hS hl => lv_istore C.1 C.2.1 hd (zlh_has hl) hn rfl (fun ls' h' => k C H locs ls' hg hS (zlh_set hl rfl h' hs))
theorem z_astore {v : Value} {L' : List (Option Value)} (i : Nat) (hd : decode cc pc = .ok (.astore i, 2)) (hn : i < nL) (hv : (∃ o, v = va_rf o)) (hs : L.set i (some v) = L') (k : Z p l e R s m args below meth c y cc nL ret κ Q nc ns G L' (pc + 2) st) : Z p l e R s m args below meth c y cc nL ret κ Q nc ns G L pc (v :: st) := fun C H locs ls hg hS hl => by
  obtain ⟨o, rfl⟩ := hv
  cases o with
  | none => exact lv_astoreN C.1 C.2.1 hd (zlh_has hl) hn rfl (fun ls' h' => k C H locs ls' hg hS (zlh_set hl rfl h' hs))
  | some a => exact lv_astore C.1 C.2.1 hd (zlh_has hl) hn rfl (fun ls' h' => k C H locs ls' hg hS (zlh_set hl rfl h' hs))
theorem z_iinc {x v : Int32} {n : Int} {L' : List (Option Value)} (i : Nat) (hd : decode cc pc = .ok (.iinc i n, 3)) (hL : L[i]? = some (some (.int x))) (hv : x + Int32.ofInt n = v) (hn : i < nL) (hs : L.set i (some (.int v)) = L') (k : Z p l e R s m args below meth c y cc nL ret κ Q nc ns G L' (pc + 3) st) : Z p l e R s m args below meth c y cc nL ret κ Q nc ns G L pc st := fun C H locs ls hg hS hl => by
  obtain ⟨j, hj⟩ := List.mem_iff_getElem?.mp (zpr_mem.mpr hL)
  exact lv_iinc C.1 C.2.1 hd (zlh_has hl) hj hv hn rfl (fun ls' h' => k C H locs ls' hg hS (zlh_set hl rfl h' hs))
theorem z_if_eq {x : Int32} {off : Int} (tgt : Nat) (hd : decode cc pc = .ok (.ifCond .eq off, 3)) (ht : (pc : Int) + off = (tgt : Int)) (kt : x = 0 → Z p l e R s m args below meth c y cc nL ret κ Q nc ns G L tgt st) (kf : ¬ (x = 0) → Z p l e R s m args below meth c y cc nL ret κ Q nc ns G L (pc + 3) st) : Z p l e R s m args below meth c y cc nL ret κ Q nc ns G L pc (.int x :: st) := fun C H locs ls hg hs hl => lv_if_eq C.1 C.2.1 hd ht (fun h => kt h C H locs ls hg hs hl) (fun h => kf h C H locs ls hg hs hl)
theorem z_if_ne {x : Int32} {off : Int} (tgt : Nat) (hd : decode cc pc = .ok (.ifCond .ne off, 3)) (ht : (pc : Int) + off = (tgt : Int)) (kt : ¬ x = 0 → Z p l e R s m args below meth c y cc nL ret κ Q nc ns G L tgt st) (kf : ¬ (¬ x = 0) → Z p l e R s m args below meth c y cc nL ret κ Q nc ns G L (pc + 3) st) : Z p l e R s m args below meth c y cc nL ret κ Q nc ns G L pc (.int x :: st) := fun C H locs ls hg hs hl => lv_if_ne C.1 C.2.1 hd ht (fun h => kt h C H locs ls hg hs hl) (fun h => kf (by first | exact h | exact fun q => q h) C H locs ls hg hs hl)
theorem z_if_lt {x : Int32} {off : Int} (tgt : Nat) (hd : decode cc pc = .ok (.ifCond .lt off, 3)) (ht : (pc : Int) + off = (tgt : Int)) (kt : x < 0 → Z p l e R s m args below meth c y cc nL ret κ Q nc ns G L tgt st) (kf : ¬ (x < 0) → Z p l e R s m args below meth c y cc nL ret κ Q nc ns G L (pc + 3) st) : Z p l e R s m args below meth c y cc nL ret κ Q nc ns G L pc (.int x :: st) := fun C H locs ls hg hs hl => lv_if_lt C.1 C.2.1 hd ht (fun h => kt h C H locs ls hg hs hl) (fun h => kf h C H locs ls hg hs hl)
theorem z_if_ge {x : Int32} {off : Int} (tgt : Nat) (hd : decode cc pc = .ok (.ifCond .ge off, 3)) (ht : (pc : Int) + off = (tgt : Int)) (kt : 0 ≤ x → Z p l e R s m args below meth c y cc nL ret κ Q nc ns G L tgt st) (kf : ¬ (0 ≤ x) → Z p l e R s m args below meth c y cc nL ret κ Q nc ns G L (pc + 3) st) : Z p l e R s m args below meth c y cc nL ret κ Q nc ns G L pc (.int x :: st) := fun C H locs ls hg hs hl => lv_if_ge C.1 C.2.1 hd ht (fun h => kt h C H locs ls hg hs hl) (fun h => kf h C H locs ls hg hs hl)
theorem z_if_gt {x : Int32} {off : Int} (tgt : Nat) (hd : decode cc pc = .ok (.ifCond .gt off, 3)) (ht : (pc : Int) + off = (tgt : Int)) (kt : 0 < x → Z p l e R s m args below meth c y cc nL ret κ Q nc ns G L tgt st) (kf : ¬ (0 < x) → Z p l e R s m args below meth c y cc nL ret κ Q nc ns G L (pc + 3) st) : Z p l e R s m args below meth c y cc nL ret κ Q nc ns G L pc (.int x :: st) := fun C H locs ls hg hs hl => lv_if_gt C.1 C.2.1 hd ht (fun h => kt h C H locs ls hg hs hl) (fun h => kf h C H locs ls hg hs hl)
theorem z_if_le {x : Int32} {off : Int} (tgt : Nat) (hd : decode cc pc = .ok (.ifCond .le off, 3)) (ht : (pc : Int) + off = (tgt : Int)) (kt : x ≤ 0 → Z p l e R s m args below meth c y cc nL ret κ Q nc ns G L tgt st) (kf : ¬ (x ≤ 0) → Z p l e R s m args below meth c y cc nL ret κ Q nc ns G L (pc + 3) st) : Z p l e R s m args below meth c y cc nL ret κ Q nc ns G L pc (.int x :: st) := fun C H locs ls hg hs hl => lv_if_le C.1 C.2.1 hd ht (fun h => kt h C H locs ls hg hs hl) (fun h => kf h C H locs ls hg hs hl)
theorem z_icmp_eq {x w : Int32} {off : Int} (tgt : Nat) (hd : decode cc pc = .ok (.if_icmp .eq off, 3)) (ht : (pc : Int) + off = (tgt : Int)) (kt : x = w → Z p l e R s m args below meth c y cc nL ret κ Q nc ns G L tgt st) (kf : ¬ (x = w) → Z p l e R s m args below meth c y cc nL ret κ Q nc ns G L (pc + 3) st) : Z p l e R s m args below meth c y cc nL ret κ Q nc ns G L pc (.int w :: .int x :: st) := fun C H locs ls hg hs hl => lv_icmp_eq C.1 C.2.1 hd ht (fun h => kt h C H locs ls hg hs hl) (fun h => kf h C H locs ls hg hs hl)
theorem z_icmp_ne {x w : Int32} {off : Int} (tgt : Nat) (hd : decode cc pc = .ok (.if_icmp .ne off, 3)) (ht : (pc : Int) + off = (tgt : Int)) (kt : ¬ x = w → Z p l e R s m args below meth c y cc nL ret κ Q nc ns G L tgt st) (kf : ¬ (¬ x = w) → Z p l e R s m args below meth c y cc nL ret κ Q nc ns G L (pc + 3) st) : Z p l e R s m args below meth c y cc nL ret κ Q nc ns G L pc (.int w :: .int x :: st) := fun C H locs ls hg hs hl => lv_icmp_ne C.1 C.2.1 hd ht (fun h => kt h C H locs ls hg hs hl) (fun h => kf (by first | exact h | exact fun q => q h) C H locs ls hg hs hl)
theorem z_icmp_lt {x w : Int32} {off : Int} (tgt : Nat) (hd : decode cc pc = .ok (.if_icmp .lt off, 3)) (ht : (pc : Int) + off = (tgt : Int)) (kt : x < w → Z p l e R s m args below meth c y cc nL ret κ Q nc ns G L tgt st) (kf : ¬ (x < w) → Z p l e R s m args below meth c y cc nL ret κ Q nc ns G L (pc + 3) st) : Z p l e R s m args below meth c y cc nL ret κ Q nc ns G L pc (.int w :: .int x :: st) := fun C H locs ls hg hs hl => lv_icmp_lt C.1 C.2.1 hd ht (fun h => kt h C H locs ls hg hs hl) (fun h => kf h C H locs ls hg hs hl)
theorem z_icmp_ge {x w : Int32} {off : Int} (tgt : Nat) (hd : decode cc pc = .ok (.if_icmp .ge off, 3)) (ht : (pc : Int) + off = (tgt : Int)) (kt : w ≤ x → Z p l e R s m args below meth c y cc nL ret κ Q nc ns G L tgt st) (kf : ¬ (w ≤ x) → Z p l e R s m args below meth c y cc nL ret κ Q nc ns G L (pc + 3) st) : Z p l e R s m args below meth c y cc nL ret κ Q nc ns G L pc (.int w :: .int x :: st) := fun C H locs ls hg hs hl => lv_icmp_ge C.1 C.2.1 hd ht (fun h => kt h C H locs ls hg hs hl) (fun h => kf h C H locs ls hg hs hl)
theorem z_icmp_gt {x w : Int32} {off : Int} (tgt : Nat) (hd : decode cc pc = .ok (.if_icmp .gt off, 3)) (ht : (pc : Int) + off = (tgt : Int)) (kt : w < x → Z p l e R s m args below meth c y cc nL ret κ Q nc ns G L tgt st) (kf : ¬ (w < x) → Z p l e R s m args below meth c y cc nL ret κ Q nc ns G L (pc + 3) st) : Z p l e R s m args below meth c y cc nL ret κ Q nc ns G L pc (.int w :: .int x :: st) := fun C H locs ls hg hs hl => lv_icmp_gt C.1 C.2.1 hd ht (fun h => kt h C H locs ls hg hs hl) (fun h => kf h C H locs ls hg hs hl)
theorem z_icmp_le {x w : Int32} {off : Int} (tgt : Nat) (hd : decode cc pc = .ok (.if_icmp .le off, 3)) (ht : (pc : Int) + off = (tgt : Int)) (kt : x ≤ w → Z p l e R s m args below meth c y cc nL ret κ Q nc ns G L tgt st) (kf : ¬ (x ≤ w) → Z p l e R s m args below meth c y cc nL ret κ Q nc ns G L (pc + 3) st) : Z p l e R s m args below meth c y cc nL ret κ Q nc ns G L pc (.int w :: .int x :: st) := fun C H locs ls hg hs hl => lv_icmp_le C.1 C.2.1 hd ht (fun h => kt h C H locs ls hg hs hl) (fun h => kf h C H locs ls hg hs hl)
theorem z_acmp_eq {rx ry : Option Nat} {v1 v2 : Value} {off : Int} (tgt : Nat) (hd : decode cc pc = .ok (.if_acmp .eq off, 3)) (ht : (pc : Int) + off = (tgt : Int)) (h1 : v1 = va_rf ry) (h2 : v2 = va_rf rx) (kt : rx = ry → Z p l e R s m args below meth c y cc nL ret κ Q nc ns G L tgt st) (kf : ¬ rx = ry → Z p l e R s m args below meth c y cc nL ret κ Q nc ns G L (pc + 3) st) : Z p l e R s m args below meth c y cc nL ret κ Q nc ns G L pc (v1 :: v2 :: st) := fun C H locs ls hg hs hl => by
  subst h1; subst h2
  exact lv_acmp_eq C.1 C.2.1 hd ht (fun h => kt h C H locs ls hg hs hl) (fun h => kf h C H locs ls hg hs hl)
theorem z_acmp_ne {rx ry : Option Nat} {v1 v2 : Value} {off : Int} (tgt : Nat) (hd : decode cc pc = .ok (.if_acmp .ne off, 3)) (ht : (pc : Int) + off = (tgt : Int)) (h1 : v1 = va_rf ry) (h2 : v2 = va_rf rx) (kt : ¬ rx = ry → Z p l e R s m args below meth c y cc nL ret κ Q nc ns G L tgt st) (kf : rx = ry → Z p l e R s m args below meth c y cc nL ret κ Q nc ns G L (pc + 3) st) : Z p l e R s m args below meth c y cc nL ret κ Q nc ns G L pc (v1 :: v2 :: st) := fun C H locs ls hg hs hl => by
  subst h1; subst h2
  exact lv_acmp_ne C.1 C.2.1 hd ht (fun h => kt h C H locs ls hg hs hl) (fun h => kf h C H locs ls hg hs hl)
theorem z_ifnullR {a : Nat} {off : Int} (hd : decode cc pc = .ok (.ifnull off, 3)) (k : Z p l e R s m args below meth c y cc nL ret κ Q nc ns G L (pc + 3) st) : Z p l e R s m args below meth c y cc nL ret κ Q nc ns G L pc (.ref a :: st) := fun C H locs ls hg hs hl => lv_ifnull C.1 C.2.1 hd (k C H locs ls hg hs hl)
theorem z_ifnullN {off : Int} (tgt : Nat) (hd : decode cc pc = .ok (.ifnull off, 3)) (ht : (pc : Int) + off = (tgt : Int)) (k : Z p l e R s m args below meth c y cc nL ret κ Q nc ns G L tgt st) : Z p l e R s m args below meth c y cc nL ret κ Q nc ns G L pc (.null :: st) := fun C H locs ls hg hs hl => lv_ifnullN C.1 C.2.1 hd ht (k C H locs ls hg hs hl)
theorem z_ifnonnullR {a : Nat} {off : Int} (tgt : Nat) (hd : decode cc pc = .ok (.ifnonnull off, 3)) (ht : (pc : Int) + off = (tgt : Int)) (k : Z p l e R s m args below meth c y cc nL ret κ Q nc ns G L tgt st) : Z p l e R s m args below meth c y cc nL ret κ Q nc ns G L pc (.ref a :: st) := fun C H locs ls hg hs hl => lv_ifnonnull C.1 C.2.1 hd ht (k C H locs ls hg hs hl)
theorem z_ifnonnullN {off : Int} (hd : decode cc pc = .ok (.ifnonnull off, 3)) (k : Z p l e R s m args below meth c y cc nL ret κ Q nc ns G L (pc + 3) st) : Z p l e R s m args below meth c y cc nL ret κ Q nc ns G L pc (.null :: st) := fun C H locs ls hg hs hl => lv_ifnonnullN C.1 C.2.1 hd (k C H locs ls hg hs hl)
theorem z_tableOut {dflt lo hi : Int} {offs : Array Int} {len : Nat} {x : Int32} (tgt : Nat) (hd : decode cc pc = .ok (.tableswitch dflt lo hi offs, len)) (h : x.toInt < lo ∨ hi < x.toInt) (ht : (pc : Int) + dflt = (tgt : Int)) (k : Z p l e R s m args below meth c y cc nL ret κ Q nc ns G L tgt st) : Z p l e R s m args below meth c y cc nL ret κ Q nc ns G L pc (.int x :: st) := fun C H locs ls hg hs hl => lv_tableOut C.1 C.2.1 hd h ht (k C H locs ls hg hs hl)
theorem z_tableIn {dflt lo hi : Int} {offs : Array Int} {len : Nat} {x : Int32} {off : Int} (tgt : Nat) (hd : decode cc pc = .ok (.tableswitch dflt lo hi offs, len)) (h1 : ¬ x.toInt < lo) (h2 : ¬ hi < x.toInt) (ho : offs[(x.toInt - lo).toNat]? = some off) (ht : (pc : Int) + off = (tgt : Int)) (k : Z p l e R s m args below meth c y cc nL ret κ Q nc ns G L tgt st) : Z p l e R s m args below meth c y cc nL ret κ Q nc ns G L pc (.int x :: st) := fun C H locs ls hg hs hl => lv_tableIn C.1 C.2.1 hd h1 h2 ho ht (k C H locs ls hg hs hl)
theorem z_topi {x : Int32} (k : ∀ v : Int32, v = x → Z p l e R s m args below meth c y cc nL ret κ Q nc ns G L pc (.int v :: st)) : Z p l e R s m args below meth c y cc nL ret κ Q nc ns G L pc (.int x :: st) := k x rfl
theorem z_eq {v w : Value} (h : v = w) (k : Z p l e R s m args below meth c y cc nL ret κ Q nc ns G L pc (w :: st)) : Z p l e R s m args below meth c y cc nL ret κ Q nc ns G L pc (v :: st) := h ▸ k
theorem z_L {L' : List (Option Value)} (h : L = L') (k : Z p l e R s m args below meth c y cc nL ret κ Q nc ns G L' pc st) : Z p l e R s m args below meth c y cc nL ret κ Q nc ns G L pc st := h ▸ k
theorem z_wk {n1 n2 : Nat} (h1 : nc ≤ n1) (h2 : ns ≤ n2) (k : Z p l e R s m args below meth c y cc nL ret κ Q n1 n2 G L pc st) : Z p l e R s m args below meth c y cc nL ret κ Q nc ns G L pc st := fun C H locs ls hg hs hl => W.widen h1 h2 (k C H locs ls hg hs hl)
theorem z_get {a : Nat} {r : zR} {ci : Nat} {fs : List Value} {C : String} {T : u_T} {N index : Nat} {v : Value} (k : Nat) (h0 : G a = some (r, .inr (ci, fs))) (hc : vwCl[ci]? = some (C, T, N)) (hin : ∀ w ∈ u_ws C T N, w ∈ TB) (hk : k < N) (hw : Cond.fieldLink y.cls index (T k).1 (T k).2.1 (T k).2.2.1 ∈ TB) (hv : fs[k]? = some v) (hd : decode cc pc = .ok (.getfield index, 3)) (kk : Z p l e R s m args below meth c y cc nL ret κ Q nc ns G L (pc + 3) (v :: st)) : Z p l e R s m args below meth c y cc nL ret κ Q nc ns G L pc (.ref a :: st) := fun C H locs ls hg hs hl => by
  obtain ⟨q0, hq⟩ := zen_ix hg h0
  exact va_get C.1 C.2.1 C.2.2.2.2.1 hin C.2.2.2.1 C.2.2.2.2.2.1.2.1 (zen_P hg) q0 hq hc k hk (C.2.2.2.2.1 _ hw) (fun _ h => h) hv hd (kk C H locs ls hg hs hl)
theorem z_put {a : Nat} {r : zR} {ci : Nat} {fs : List Value} {C : String} {T : u_T} {N index : Nat} {v : Value} {ty : FieldType} (k : Nat) (h0 : G a = some (r, .inr (ci, fs))) (hc : vwCl[ci]? = some (C, T, N)) (hin : ∀ w ∈ u_ws C T N, w ∈ TB) (ty0 : Nat → FieldType) (hty : ∀ k, k < N → parseFieldDescriptor (T k).2.2.1 = some (ty0 k)) (hnm : ∀ a, a < N → ∀ b, b < N → a ≠ b → (T a).2.1 ≠ (T b).2.1) (hk : k < N) (hw : Cond.fieldLink y.cls index (T k).1 (T k).2.1 (T k).2.2.1 ∈ TB) (hfin : (T k).2.2.2 = false) (ht : parseFieldDescriptor (T k).2.2.1 = some ty) (hn : narrow ty v = v) (hfit : fits ty v = true) (hlen : k < fs.length) (hd : decode cc pc = .ok (.putfield index, 3)) (kk : Z p l e R s m args below meth c y cc nL ret κ Q nc ns (zu G a (r, .inr (ci, fs.set k v))) L (pc + 3) st) : Z p l e R s m args below meth c y cc nL ret κ Q nc ns G L pc (v :: .ref a :: st) := fun C H locs ls hg hs hl => by
  obtain ⟨q0, hq⟩ := zen_ix hg h0
  exact va_put C.1 C.2.1 C.2.2.2.2.1 hin ty0 hty hnm C.2.2.2.1 C.2.2.2.2.2.1.2.1 (zen_P hg) (zen_D hg) hs q0 hq hc k hk (C.2.2.2.2.1 _ hw) (fun _ h => h) hfin ht hn hfit hlen hd (fun H1 locs1 hP _ hS => kk C H1 locs1 ls (zen_set hg h0 hq hP) hS hl)
theorem z_getN {a : Nat} {r : zR} {ci : Nat} {fs : List Value} {C : String} {T : u_T} {N index : Nat} {v : Value} {host : String} (k : Nat) (h0 : G a = some (r, .inr (ci, fs))) (hc : vwCl[ci]? = some (C, T, N)) (hin : ∀ w ∈ u_ws C T N, w ∈ TB) (hk : k < N) (hw : Cond.fieldLinkNest y.cls index (T k).1 (T k).2.1 (T k).2.2.1 host ∈ NB) (hv : fs[k]? = some v) (hd : decode cc pc = .ok (.getfield index, 3)) (kk : Z p l e R s m args below meth c y cc nL ret κ Q nc ns G L (pc + 3) (v :: st)) : Z p l e R s m args below meth c y cc nL ret κ Q nc ns G L pc (.ref a :: st) := fun C H locs ls hg hs hl => by
  obtain ⟨q0, hq⟩ := zen_ix hg h0
  exact va_getN C.1 C.2.1 C.2.2.2.2.1 hin C.2.2.2.1 C.2.2.2.2.2.1.2.1 (zen_P hg) q0 hq hc k hk (va_Nw.use rfl (C.2.2.2.2.2.1.2.2.2.1 _ hw)) (fun _ h => h) hv hd (kk C H locs ls hg hs hl)
theorem z_putN {a : Nat} {r : zR} {ci : Nat} {fs : List Value} {C : String} {T : u_T} {N index : Nat} {v : Value} {ty : FieldType} {host : String} (k : Nat) (h0 : G a = some (r, .inr (ci, fs))) (hc : vwCl[ci]? = some (C, T, N)) (hin : ∀ w ∈ u_ws C T N, w ∈ TB) (ty0 : Nat → FieldType) (hty : ∀ k, k < N → parseFieldDescriptor (T k).2.2.1 = some (ty0 k)) (hnm : ∀ a, a < N → ∀ b, b < N → a ≠ b → (T a).2.1 ≠ (T b).2.1) (hk : k < N) (hw : Cond.fieldLinkNest y.cls index (T k).1 (T k).2.1 (T k).2.2.1 host ∈ NB) (hfin : (T k).2.2.2 = false) (ht : parseFieldDescriptor (T k).2.2.1 = some ty) (hn : narrow ty v = v) (hfit : fits ty v = true) (hlen : k < fs.length) (hd : decode cc pc = .ok (.putfield index, 3)) (kk : Z p l e R s m args below meth c y cc nL ret κ Q nc ns (zu G a (r, .inr (ci, fs.set k v))) L (pc + 3) st) : Z p l e R s m args below meth c y cc nL ret κ Q nc ns G L pc (v :: .ref a :: st) := fun C H locs ls hg hs hl => by
  obtain ⟨q0, hq⟩ := zen_ix hg h0
  exact va_putN C.1 C.2.1 C.2.2.2.2.1 hin ty0 hty hnm C.2.2.2.1 C.2.2.2.2.2.1.2.1 (zen_P hg) (zen_D hg) hs q0 hq hc k hk (va_Nw.use rfl (C.2.2.2.2.2.1.2.2.2.1 _ hw)) (fun _ h => h) hfin ht hn hfit hlen hd (fun H1 locs1 hP _ hS => kk C H1 locs1 ls (zen_set hg h0 hq hP) hS hl)
theorem z_putF {a : Nat} {r : zR} {ci : Nat} {fs : List Value} {C : String} {T : u_T} {N index : Nat} {v : Value} {ty : FieldType} (k : Nat) (h0 : G a = some (r, .inr (ci, fs))) (hc : vwCl[ci]? = some (C, T, N)) (hin : ∀ w ∈ u_ws C T N, w ∈ TB) (ty0 : Nat → FieldType) (hty : ∀ k, k < N → parseFieldDescriptor (T k).2.2.1 = some (ty0 k)) (hnm : ∀ a, a < N → ∀ b, b < N → a ≠ b → (T a).2.1 ≠ (T b).2.1) (hk : k < N) (hw : Cond.fieldLink y.cls index (T k).1 (T k).2.1 (T k).2.2.1 ∈ TB) (hfin : (T k).2.2.2 = true) (hy1 : y.name = "<init>") (hy2 : (T k).1 = y.cls) (ht : parseFieldDescriptor (T k).2.2.1 = some ty) (hn : narrow ty v = v) (hfit : fits ty v = true) (hlen : k < fs.length) (hd : decode cc pc = .ok (.putfield index, 3)) (kk : Z p l e R s m args below meth c y cc nL ret κ Q nc ns (zu G a (r, .inr (ci, fs.set k v))) L (pc + 3) st) : Z p l e R s m args below meth c y cc nL ret κ Q nc ns G L pc (v :: .ref a :: st) := fun C H locs ls hg hs hl => by
  obtain ⟨q0, hq⟩ := zen_ix hg h0
  exact va_putF C.1 C.2.1 C.2.2.2.2.1 hin ty0 hty hnm C.2.2.2.1 C.2.2.2.2.2.1.2.1 (zen_P hg) (zen_D hg) hs q0 hq hc k hk (C.2.2.2.2.1 _ hw) (fun _ h => h) hfin (C.2.2.2.2.2.2.2.2.trans hy1) hy2 ht hn hfit hlen hd (fun H1 locs1 hP _ hS => kk C H1 locs1 ls (zen_set hg h0 hq hP) hS hl)
theorem z_new {ci : Nat} {C : String} {T : u_T} {N index : Nat} (r : zR) (fs : List Value) (hc : vwCl[ci]? = some (C, T, N)) (hin : ∀ w ∈ u_ws C T N, w ∈ TB) (ty : Nat → FieldType) (hty : ∀ k, k < N → parseFieldDescriptor (T k).2.2.1 = some (ty k)) (w1 : Cond.classLink y.cls index C ∈ TB) (w2 : Cond.instantiable C N ∈ TB) (w3 : Cond.initialized C ∈ TB) (hfs : ∀ j, j < N → defaultValue (ty j) = vp_V fs j) (hR : nc + 1 ≤ R.cells ∧ ns + N ≤ R.slots) (hd : decode cc pc = .ok (.new index, 3)) (kk : ∀ q : Nat, G q = none → κ.2.2 0 ≤ q → Z p l e R s m args below meth c y cc nL ret κ Q (nc + 1) (ns + N) (zu G q (r, .inr (ci, fs))) L (pc + 3) (.ref q :: st)) : Z p l e R s m args below meth c y cc nL ret κ Q nc ns G L pc st := fun C H locs ls hg hs hl =>
  va_new C.1 C.2.1 C.2.2.2.2.1 hin ty hty C.2.2.2.1 (C.2.2.2.2.1 _ w1) (C.2.2.2.2.1 _ w2) (C.2.2.2.2.1 _ w3) C.2.2.2.2.2.1.2.1 (zen_P hg) (zen_D hg) hs (fun q h => Nat.le_trans C.2.2.2.2.2.1.1 h) hc hfs hR.1 hR.2 hd (fun q H1 hP hD hS => by
    obtain ⟨h1, h2, h3⟩ := zen_push hg r hP hD
    exact kk q h1 h2 C H1 locs ls h3 hS hl)
theorem z_iald {a : Nat} {r : zR} {n : Nat} {f : Nat → Int32} {i : Int32} (j : Nat) (h0 : G a = some (r, .inl (κ.2.1 0, n, .inl f))) (hi : i = nI j) (hj : j < n) (hn : n < 2 ^ 31) (hd : decode cc pc = .ok (.iaload, 1)) (kk : Z p l e R s m args below meth c y cc nL ret κ Q nc ns G L (pc + 1) (.int (f j) :: st)) : Z p l e R s m args below meth c y cc nL ret κ Q nc ns G L pc (.int i :: .ref a :: st) := fun C H locs ls hg hs hl => by
  obtain ⟨q0, hq⟩ := zen_ix hg h0
  subst hi
  refine va_iald C.1 C.2.1 C.2.2.2.2.2.1.2.1 (zen_P hg) q0 0 hq rfl (vp_in_nI hj hn) hd ?_
  rw [nI_clamp (Nat.lt_trans hj hn)]
  exact kk C H locs ls hg hs hl
theorem z_iast {a : Nat} {r : zR} {n : Nat} {f : Nat → Int32} {i x : Int32} (j : Nat) (h0 : G a = some (r, .inl (κ.2.1 0, n, .inl f))) (hi : i = nI j) (hj : j < n) (hn : n < 2 ^ 31) (hd : decode cc pc = .ok (.iastore, 1)) (kk : Z p l e R s m args below meth c y cc nL ret κ Q nc ns (zu G a (r, .inl (κ.2.1 0, n, .inl (upd f j x)))) L (pc + 1) st) : Z p l e R s m args below meth c y cc nL ret κ Q nc ns G L pc (.int x :: .int i :: .ref a :: st) := fun C H locs ls hg hs hl => by
  obtain ⟨q0, hq⟩ := zen_ix hg h0
  subst hi
  refine va_iast C.1 C.2.1 C.2.2.2.2.2.1.2.1 (zen_P hg) (zen_D hg) hs q0 0 hq rfl (vp_in_nI hj hn) hd (fun H1 locs1 hP _ hS => ?_)
  rw [nI_clamp (Nat.lt_trans hj hn)] at hP
  exact kk C H1 locs1 ls (zen_set hg h0 hq hP) hS hl
theorem z_zald {a : Nat} {r : zR} {n : Nat} {f : Nat → Int32} {i : Int32} (j : Nat) (h0 : G a = some (r, .inl (κ.2.1 1, n, .inl f))) (hi : i = nI j) (hj : j < n) (hn : n < 2 ^ 31) (hd : decode cc pc = .ok (.baload, 1)) (kk : Z p l e R s m args below meth c y cc nL ret κ Q nc ns G L (pc + 1) (.int (f j) :: st)) : Z p l e R s m args below meth c y cc nL ret κ Q nc ns G L pc (.int i :: .ref a :: st) := fun C H locs ls hg hs hl => by
  obtain ⟨q0, hq⟩ := zen_ix hg h0
  subst hi
  refine va_zald C.1 C.2.1 C.2.2.2.2.2.1.2.1 (zen_P hg) q0 1 hq rfl (vp_in_nI hj hn) hd ?_
  rw [nI_clamp (Nat.lt_trans hj hn)]
  exact kk C H locs ls hg hs hl
theorem z_zast {a : Nat} {r : zR} {n : Nat} {f : Nat → Int32} {i x : Int32} (j : Nat) (h0 : G a = some (r, .inl (κ.2.1 1, n, .inl f))) (hi : i = nI j) (hj : j < n) (hn : n < 2 ^ 31) (hd : decode cc pc = .ok (.bastore, 1)) (kk : Z p l e R s m args below meth c y cc nL ret κ Q nc ns (zu G a (r, .inl (κ.2.1 1, n, .inl (upd f j (vp_nar .boolean x))))) L (pc + 1) st) : Z p l e R s m args below meth c y cc nL ret κ Q nc ns G L pc (.int x :: .int i :: .ref a :: st) := fun C H locs ls hg hs hl => by
  obtain ⟨q0, hq⟩ := zen_ix hg h0
  subst hi
  refine va_zast C.1 C.2.1 C.2.2.2.2.2.1.2.1 (zen_P hg) (zen_D hg) hs q0 1 hq rfl (vp_in_nI hj hn) hd (fun H1 locs1 hP _ hS => ?_)
  rw [nI_clamp (Nat.lt_trans hj hn)] at hP
  exact kk C H1 locs1 ls (zen_set hg h0 hq hP) hS hl
theorem z_alen {a : Nat} {r : zR} {x : vp_A} {ty : FieldType} {v : Int32} (t0 : Nat) (h0 : G a = some (r, .inl (κ.2.1 t0, x))) (ht : (zt κ)[t0]? = some (κ.2.1 t0, ty)) (hv : Int32.ofNat x.1 = v) (hd : decode cc pc = .ok (.arraylength, 1)) (kk : Z p l e R s m args below meth c y cc nL ret κ Q nc ns G L (pc + 1) (.int v :: st)) : Z p l e R s m args below meth c y cc nL ret κ Q nc ns G L pc (.ref a :: st) := fun C H locs ls hg hs hl => by
  obtain ⟨q0, hq⟩ := zen_ix hg h0
  exact va_alen C.1 C.2.1 C.2.2.2.2.2.1.2.1 (zen_P hg) q0 t0 hq ht hv hd (kk C H locs ls hg hs hl)
theorem z_newa {atype : ArrayType} {ty : FieldType} {n : Int32} (r : zR) (N' : Nat) (a0 : vp_A) (t0 : Nat) (hw : Cond.arrayClass (newarray.typeOf atype) ∈ TB) (hty : newarray.typeOf atype = ty) (ht : (zt κ)[t0]? = some (κ.2.1 t0, ty)) (hpr : ∀ C : String, ty ≠ .object C) (ha : ∀ cA : ClassId, vp_cell cA a0 = arrV cA N' (fun _ => defaultValue ty)) (hn : n = nI N') (hN : N' * componentBytes ty ≤ 536870912 ∧ N' < 2 ^ 31) (hR : nc + 1 ≤ R.cells ∧ ns + N' ≤ R.slots) (hd : decode cc pc = .ok (.newarray atype, 2)) (kk : ∀ q : Nat, G q = none → κ.2.2 0 ≤ q → Z p l e R s m args below meth c y cc nL ret κ Q (nc + 1) (ns + N') (zu G q (r, .inl (κ.2.1 t0, a0))) L (pc + 2) (.ref q :: st)) : Z p l e R s m args below meth c y cc nL ret κ Q nc ns G L pc (.int n :: st) := fun C H locs ls hg hs hl =>
  va_newa C.1 C.2.1 (C.2.2.2.2.1 _ hw) hty C.2.2.2.2.2.1.2.1 (zen_P hg) (zen_D hg) hs (fun q h => Nat.le_trans C.2.2.2.2.2.1.1 h) ha (by rw [hn]; exact nI_pos hN.2) (by rw [hn]; exact nI_clamp hN.2) hN.1 hR.1 hR.2 hd (fun q cA H1 hK hP hD hS => by
    have e1 := (hK.2 (zt κ).length (cA, ty) (by simp)).2
    have e2 := (C.2.2.2.2.2.1.2.1.2 t0 _ ht).2
    have e3 : cA = κ.2.1 t0 := by
      cases ty with
      | object D => exact absurd rfl (hpr D)
      | _ => exact Option.some.inj (e1.symm.trans e2)
    subst e3
    obtain ⟨h1, h2, h3⟩ := zen_push hg r hP hD
    exact kk q h1 h2 C H1 locs ls h3 hS hl)
theorem z_aald {a : Nat} {r : zR} {n : Nat} {f : Nat → Option Nat} {i : Int32} (j : Nat) (h0 : G a = some (r, .inl (κ.2.1 2, n, .inr (.inr (.inr (.inr f)))))) (hi : i = nI j) (hj : j < n) (hn : n < 2 ^ 31) (hd : decode cc pc = .ok (.aaload, 1)) (kk : Z p l e R s m args below meth c y cc nL ret κ Q nc ns G L (pc + 1) (va_rf (f j) :: st)) : Z p l e R s m args below meth c y cc nL ret κ Q nc ns G L pc (.int i :: .ref a :: st) := fun C H locs ls hg hs hl => by
  obtain ⟨q0, hq⟩ := zen_ix hg h0
  subst hi
  have hin := vp_in_nI hj hn
  have hlt : (nI j).toNatClampNeg < n := Nat.not_le.mp fun q => hin (Or.inr q)
  refine W.aald (v := va_rf (f (nI j).toNatClampNeg)) (ty := .object "java/lang/Object") C.1 C.2.1 (zen_P hg q0 _ hq) ((C.2.2.2.2.2.1.2.1.2 2 _ rfl).1 n (fun j => va_rf (f j))) rfl (fun q => by cases q) (by show ¬ (nI j < 0 ∨ (arrV _ _ _).slots.size ≤ _); rw [arrV_size]; exact hin) (by show (arrV _ _ _).slots[_]? = _; rw [arrV_read _ _ hlt]) rfl rfl hd ?_
  rw [nI_clamp (Nat.lt_trans hj hn)]
  exact kk C H locs ls hg hs hl
theorem z_aaldI {a : Nat} {r : zR} {n : Nat} {f : Nat → Option Nat} {i : Int32} (j : Nat) (h0 : G a = some (r, .inl (κ.2.1 3, n, .inr (.inr (.inr (.inr f)))))) (hi : i = nI j) (hj : j < n) (hn : n < 2 ^ 31) (hd : decode cc pc = .ok (.aaload, 1)) (kk : Z p l e R s m args below meth c y cc nL ret κ Q nc ns G L (pc + 1) (va_rf (f j) :: st)) : Z p l e R s m args below meth c y cc nL ret κ Q nc ns G L pc (.int i :: .ref a :: st) := fun C H locs ls hg hs hl => by
  obtain ⟨q0, hq⟩ := zen_ix hg h0
  subst hi
  have hin := vp_in_nI hj hn
  have hlt : (nI j).toNatClampNeg < n := Nat.not_le.mp fun q => hin (Or.inr q)
  refine W.aald (v := va_rf (f (nI j).toNatClampNeg)) (ty := .array .int) C.1 C.2.1 (zen_P hg q0 _ hq) ((C.2.2.2.2.2.1.2.1.2 3 _ rfl).1 n (fun j => va_rf (f j))) rfl (fun q => by cases q) (by show ¬ (nI j < 0 ∨ (arrV _ _ _).slots.size ≤ _); rw [arrV_size]; exact hin) (by show (arrV _ _ _).slots[_]? = _; rw [arrV_read _ _ hlt]) rfl rfl hd ?_
  rw [nI_clamp (Nat.lt_trans hj hn)]
  exact kk C H locs ls hg hs hl
section ZRET
variable {post : Option Value → zH → Prop} {mc ms : Nat}
theorem z_iret {v : Int32} (hr : ret = some .int) (h : nc ≤ mc ∧ ns ≤ ms) (hd : decode cc pc = .ok (.ireturn, 1)) (hp : post (some (.int v)) G) : Z p l e R s m args below meth c y cc nL ret κ (MQ below (zQc κ post) args s mc ms (zA κ)) nc ns G L pc [.int v] := fun C H locs ls hg hs hl => W.widen h.1 h.2 (W.iret C.1 C.2.1 (C.2.2.2.2.2.2.1.trans hr) (fun t ht hW => ⟨⟨_, G, rfl, hp, by rw [ht]; exact hg⟩, hs.F ht⟩) hs.2.2 hd (hlocks := C.2.2.2.2.2.2.2.1))
theorem z_zret {v : Int32} (hr : ret = some .boolean) (hv : narrow .boolean (.int v) = .int v) (h : nc ≤ mc ∧ ns ≤ ms) (hd : decode cc pc = .ok (.ireturn, 1)) (hp : post (some (.int v)) G) : Z p l e R s m args below meth c y cc nL ret κ (MQ below (zQc κ post) args s mc ms (zA κ)) nc ns G L pc [.int v] := fun C H locs ls hg hs hl => W.widen h.1 h.2 (W.zret C.1 C.2.1 (C.2.2.2.2.2.2.1.trans hr) hv (fun t ht hW => ⟨⟨_, G, rfl, hp, by rw [ht]; exact hg⟩, hs.F ht⟩) hs.2.2 hd (hlocks := C.2.2.2.2.2.2.2.1))
theorem z_vret (hr : ret = none) (h : nc ≤ mc ∧ ns ≤ ms) (hd : decode cc pc = .ok (.return_, 1)) (hp : post none G) : Z p l e R s m args below meth c y cc nL ret κ (MQ below (zQc κ post) args s mc ms (zA κ)) nc ns G L pc [] := fun C H locs ls hg hs hl => W.widen h.1 h.2 (W.vret C.1 C.2.1 (C.2.2.2.2.2.2.1.trans hr) (fun t ht hW => ⟨⟨_, G, rfl, hp, by rw [ht]; exact hg⟩, hs.F ht⟩) hs.2.2 hd (hlocks := C.2.2.2.2.2.2.2.1))
theorem z_aret {v : Value} {rt : FieldType} (o : Option Nat) (hv : v = va_rf o) (hr : ret = some rt) (hrt : (∃ n, rt = .object n) ∨ ∃ t, rt = .array t) (h : nc ≤ mc ∧ ns ≤ ms) (hd : decode cc pc = .ok (.areturn, 1)) (hp : post (some (va_rf o)) G) : Z p l e R s m args below meth c y cc nL ret κ (MQ below (zQc κ post) args s mc ms (zA κ)) nc ns G L pc [v] := fun C H locs ls hg hs hl => by
  subst hv
  exact W.widen h.1 h.2 (W.aret C.1 C.2.1 (C.2.2.2.2.2.2.1.trans hr) hrt (by cases o with | none => exact Or.inl rfl | some a => exact Or.inr ⟨a, rfl⟩) (fun t ht hW => ⟨⟨_, G, rfl, hp, by rw [ht]; exact hg⟩, hs.F ht⟩) hs.2.2 hd (hlocks := C.2.2.2.2.2.2.2.1))
end ZRET
theorem z_objInit {a : Nat} {index : Nat} (w1 : Cond.methodLink y.cls index objectInit ∈ TB) (w2 : Cond.instanceMethod objectInit ∈ TB) (w3 : Cond.code objectInit ⟨#[0xb1]⟩ 1 none ∈ TB) (hR : 1 ≤ R.frames ∧ 12 + (st.map fun v => v.category).sum ≤ R.locals) (hd : decode cc pc = .ok (.invokespecial index, 3)) (kk : Z p l e R s m args below meth c y cc nL ret κ Q nc ns G L (pc + 3) st) : Z p l e R s m args below meth c y cc nL ret κ Q nc ns G L pc (.ref a :: st) := fun C H locs ls hg hs hl =>
  W.objInit C.1 C.2.1 C.2.2.2.1 (C.2.2.2.2.1 _ w1) (C.2.2.2.2.1 _ w2) (C.2.2.2.2.1 _ w3) rfl (by rw [C.2.2.1]; exact hl.1) rfl hd hR.1 (by have := hR.2; show 2 * 0 + _ + 12 ≤ _; omega) (W.eq rfl (kk C H locs ls hg hs hl))
def zcM (y2 : MethodName) (n : Nat) : Prop := y2.cls ≠ "java/lang/invoke/MethodHandle" ∧ y2.cls ≠ "java/lang/invoke/VarHandle" ∧ (parseMethodDescriptor y2.desc).map (fun d => d.parameters.length) = some n
def zcV (y2 : MethodName) (cc2 : ByteArray) (nL2 : Nat) (ret2 : Option FieldType) (n : Nat) : Prop := Cond.instanceMethod y2 ∈ TB ∧ Cond.selects y2.cls y2 y2 ∈ TB ∧ Cond.initialized y2.cls ∈ TB ∧ Cond.code y2 cc2 nL2 ret2 ∈ TB ∧ zcM y2 n
def zcS (y2 : MethodName) (cc2 : ByteArray) (nL2 : Nat) (ret2 : Option FieldType) (n : Nat) : Prop := Cond.static y2 ∈ TB ∧ Cond.initialized y2.cls ∈ TB ∧ Cond.code y2 cc2 nL2 ret2 ∈ TB ∧ zcM y2 n
def zcI (y2 : MethodName) (cc2 : ByteArray) (nL2 : Nat) (n : Nat) : Prop := Cond.instanceMethod y2 ∈ TB ∧ Cond.initialized y2.cls ∈ TB ∧ Cond.code y2 cc2 nL2 none ∈ TB ∧ y2.name = "<init>" ∧ zcM y2 n
theorem zgi {y2 : MethodName} {cc2 : ByteArray} {nL2 : Nat} {ret2 : Option FieldType} (w : Cond.code y2 cc2 nL2 ret2 ∈ TB) : GoodIn TB (.code y2 cc2 nL2 ret2 :: TB) := fun x hx => by
  have : x ∈ TB := by
    rcases List.mem_cons.mp hx with h | h
    · rw [h]; exact w
    · exact h
  exact ⟨this, TB_good x this⟩
theorem zgi_cons {w : Cond} {ws : List Cond} (h : w ∈ TB) (g : GoodIn TB ws) : GoodIn TB (w :: ws) := fun x hx => by
  rcases List.mem_cons.mp hx with h1 | h1
  · rw [h1]; exact ⟨h, TB_good w h⟩
  · exact g x h1
theorem zblind {κ : zK} {av : List Value} {G : zH} : FrameBlind (va_Pc av (fun U => zOK κ U ∧ zh κ G U.heap)) := fun a U g mk q => by
  obtain ⟨q0, q1, q2⟩ := q
  exact ⟨q0, q1.call, q2⟩
theorem z_run {post : Option Value → zH → Prop} {av rest st0 : List Value} {mc ms : Nat} (C : zCx p s m args meth c y cc nL ret κ) {H : Heap} {locs : List Loc} {ls : Array Slot} (hs : va_S (zA κ) s.heap H locs) (hl : zlh ls nL L)
    (hr : va_Run p l e R s m args below meth c H locs nc ns mc ms (F0 m pc ls st0) rest (zQc κ post av.toArray) (zA κ)) (k : ∀ (r : Option Value) (G' : zH), post r G' → Z p l e R s m args below meth c y cc nL ret κ Q (nc + mc) (ns + ms) G' L (pc + 3) (r.toList ++ rest)) : W p l e R s m args below meth c H locs nc ns Q (F0 m pc ls st0) := by
  intro T hT X
  obtain ⟨v, st₀, t, T', Lc, h0, X', hL, e1, e2, ⟨⟨r, G', hr1, hp, hg1⟩, hF⟩, stp⟩ := hr T hT X
  cases hr1
  have hS1 : va_S (zA κ) s.heap T'.heap (locs ++ Lc) := by
    refine ⟨Nat.le_trans hs.1 (by rw [e1, ← h0]; exact hF.1), fun q h1 h2 => ?_, fun q hq => ?_⟩
    · rw [e1, hF.2 q (by rw [h0]; exact Nat.lt_of_lt_of_le h1 hs.1) h2, h0]
      exact hs.2.1 q h1 h2
    · rcases List.mem_append.mp hq with h | h
      · exact hs.2.2 q h
      · exact hL q h
  obtain ⟨t2, a1, b1⟩ := k v G' hp C T'.heap (locs ++ Lc) ls (by rw [e1]; exact hg1) hS1 hl T' rfl X'
  exact ⟨t2, stp t2 a1, b1⟩
theorem z_callV {post : Option Value → zH → Prop} {y2 : MethodName} {cc2 : ByteArray} {nL2 : Nat} {ret2 : Option FieldType} {rm2 : Room} {As rest : List Value} {index : Nat} {b : Nat} {rr : zR} {ci : Nat} {fs : List Value} {vc : vw_C} (G0 : zH) (hC : Ct l y2 cc2 nL2 ret2 rm2 κ (.ref b :: As) G0 post) (hG : G = G0) (hb : G b = some (rr, .inr (ci, fs))) (hcl : vwCl[ci]? = some vc) (hvc : vc.1 = y2.cls) (w1 : Cond.methodLink y.cls index y2 ∈ TB) (hV : zcV y2 cc2 nL2 ret2 As.length) (hR : rm2.frames + 1 ≤ R.frames ∧ 8 + (nL2 + 11) + rm2.locals ≤ R.locals ∧ nc + rm2.cells ≤ R.cells ∧ ns + rm2.slots ≤ R.slots) (hst : st = As.reverse ++ .ref b :: rest) (hW : (rest.map fun v => v.category).sum ≤ 8) (hd : decode cc pc = .ok (.invokevirtual index, 3)) (k : ∀ (r : Option Value) (G' : zH), post r G' → Z p l e R s m args below meth c y cc nL ret κ Q (nc + rm2.cells) (ns + rm2.slots) G' L (pc + 3) (r.toList ++ rest)) : Z p l e R s m args below meth c y cc nL ret κ Q nc ns G L pc st := fun C H locs ls hg hs hl => by
  subst hG
  obtain ⟨q0, hq⟩ := zen_ix hg hb
  have hPV : PreV s H y2.cls b (va_Pc (.ref b :: As) (fun U => zOK κ U ∧ zh κ G U.heap)) As := ⟨zblind, by rw [← hvc]; exact va_recv C.2.2.2.2.2.1.2.1 (zen_P hg) hcl hq, fun U hU hW => ⟨rfl, C.2.2.2.2.2.1.at hs hU hW, by rw [hU]; exact hg⟩⟩
  exact z_run (av := .ref b :: As) C hs hl (va_runV (C := y2.cls) (As := As) (rest := rest) ⟨C.1, C.2.1, C.2.2.1, C.2.2.2.1, C.2.2.2.2.1⟩ hC (cwV (C := y2.cls) As.length C.2.2.2.2.1 (zgi_cons w1 (zgi_cons hV.1 (zgi_cons hV.2.1 (zgi_cons hV.2.2.1 (zgi hV.2.2.2.1))))) rfl rfl rfl ⟨rfl, hV.2.2.2.2⟩ ⟨hR.1, hR.2.1⟩) hPV rfl rfl hl.1 hst (lv_room hW) hd ⟨hR.2.2.1, hR.2.2.2⟩) k
theorem z_callVi {P : Int32 → zH → Prop} {y2 : MethodName} {cc2 : ByteArray} {nL2 : Nat} {ret2 : Option FieldType} {rm2 : Room} {As rest : List Value} {index : Nat} {b : Nat} {rr : zR} {ci : Nat} {fs : List Value} {vc : vw_C} (G0 : zH) (hC : Ct l y2 cc2 nL2 ret2 rm2 κ (.ref b :: As) G0 (pI P)) (hG : G = G0) (hb : G b = some (rr, .inr (ci, fs))) (hcl : vwCl[ci]? = some vc) (hvc : vc.1 = y2.cls) (w1 : Cond.methodLink y.cls index y2 ∈ TB) (hV : zcV y2 cc2 nL2 ret2 As.length) (hR : rm2.frames + 1 ≤ R.frames ∧ 8 + (nL2 + 11) + rm2.locals ≤ R.locals ∧ nc + rm2.cells ≤ R.cells ∧ ns + rm2.slots ≤ R.slots) (hst : st = As.reverse ++ .ref b :: rest) (hW : (rest.map fun v => v.category).sum ≤ 8) (hd : decode cc pc = .ok (.invokevirtual index, 3)) (k : ∀ (v : Int32) (G' : zH), P v G' → Z p l e R s m args below meth c y cc nL ret κ Q (nc + rm2.cells) (ns + rm2.slots) G' L (pc + 3) (.int v :: rest)) : Z p l e R s m args below meth c y cc nL ret κ Q nc ns G L pc st := z_callV G0 hC hG hb hcl hvc w1 hV hR hst hW hd (fun r G' h => by
  obtain ⟨v, rfl, h⟩ := h
  exact k v G' h)
theorem z_callVv {P : zH → Prop} {y2 : MethodName} {cc2 : ByteArray} {nL2 : Nat} {ret2 : Option FieldType} {rm2 : Room} {As rest : List Value} {index : Nat} {b : Nat} {rr : zR} {ci : Nat} {fs : List Value} {vc : vw_C} (G0 : zH) (hC : Ct l y2 cc2 nL2 ret2 rm2 κ (.ref b :: As) G0 (pV P)) (hG : G = G0) (hb : G b = some (rr, .inr (ci, fs))) (hcl : vwCl[ci]? = some vc) (hvc : vc.1 = y2.cls) (w1 : Cond.methodLink y.cls index y2 ∈ TB) (hV : zcV y2 cc2 nL2 ret2 As.length) (hR : rm2.frames + 1 ≤ R.frames ∧ 8 + (nL2 + 11) + rm2.locals ≤ R.locals ∧ nc + rm2.cells ≤ R.cells ∧ ns + rm2.slots ≤ R.slots) (hst : st = As.reverse ++ .ref b :: rest) (hW : (rest.map fun v => v.category).sum ≤ 8) (hd : decode cc pc = .ok (.invokevirtual index, 3)) (k : ∀ (G' : zH), P G' → Z p l e R s m args below meth c y cc nL ret κ Q (nc + rm2.cells) (ns + rm2.slots) G' L (pc + 3) rest) : Z p l e R s m args below meth c y cc nL ret κ Q nc ns G L pc st := z_callV G0 hC hG hb hcl hvc w1 hV hR hst hW hd (fun r G' h => by
  obtain ⟨rfl, h⟩ := h
  exact k G' h)
theorem z_callVa {P : Option Nat → zH → Prop} {y2 : MethodName} {cc2 : ByteArray} {nL2 : Nat} {ret2 : Option FieldType} {rm2 : Room} {As rest : List Value} {index : Nat} {b : Nat} {rr : zR} {ci : Nat} {fs : List Value} {vc : vw_C} (G0 : zH) (hC : Ct l y2 cc2 nL2 ret2 rm2 κ (.ref b :: As) G0 (pA P)) (hG : G = G0) (hb : G b = some (rr, .inr (ci, fs))) (hcl : vwCl[ci]? = some vc) (hvc : vc.1 = y2.cls) (w1 : Cond.methodLink y.cls index y2 ∈ TB) (hV : zcV y2 cc2 nL2 ret2 As.length) (hR : rm2.frames + 1 ≤ R.frames ∧ 8 + (nL2 + 11) + rm2.locals ≤ R.locals ∧ nc + rm2.cells ≤ R.cells ∧ ns + rm2.slots ≤ R.slots) (hst : st = As.reverse ++ .ref b :: rest) (hW : (rest.map fun v => v.category).sum ≤ 8) (hd : decode cc pc = .ok (.invokevirtual index, 3)) (k : ∀ (v : Option Nat) (G' : zH), P v G' → Z p l e R s m args below meth c y cc nL ret κ Q (nc + rm2.cells) (ns + rm2.slots) G' L (pc + 3) (va_rf v :: rest)) : Z p l e R s m args below meth c y cc nL ret κ Q nc ns G L pc st := z_callV G0 hC hG hb hcl hvc w1 hV hR hst hW hd (fun r G' h => by
  obtain ⟨v, rfl, h⟩ := h
  exact k v G' h)
theorem z_callVN {post : Option Value → zH → Prop} {y2 : MethodName} {cc2 : ByteArray} {nL2 : Nat} {ret2 : Option FieldType} {rm2 : Room} {As rest : List Value} {index : Nat} {host : String} {b : Nat} {rr : zR} {ci : Nat} {fs : List Value} {vc : vw_C} (G0 : zH) (hC : Ct l y2 cc2 nL2 ret2 rm2 κ (.ref b :: As) G0 post) (hG : G = G0) (hb : G b = some (rr, .inr (ci, fs))) (hcl : vwCl[ci]? = some vc) (hvc : vc.1 = y2.cls) (w1 : Cond.methodLinkNest y.cls index y2 host ∈ NB) (hV : zcV y2 cc2 nL2 ret2 As.length) (hR : rm2.frames + 1 ≤ R.frames ∧ 8 + (nL2 + 11) + rm2.locals ≤ R.locals ∧ nc + rm2.cells ≤ R.cells ∧ ns + rm2.slots ≤ R.slots) (hst : st = As.reverse ++ .ref b :: rest) (hW : (rest.map fun v => v.category).sum ≤ 8) (hd : decode cc pc = .ok (.invokevirtual index, 3)) (k : ∀ (r : Option Value) (G' : zH), post r G' → Z p l e R s m args below meth c y cc nL ret κ Q (nc + rm2.cells) (ns + rm2.slots) G' L (pc + 3) (r.toList ++ rest)) : Z p l e R s m args below meth c y cc nL ret κ Q nc ns G L pc st := fun C H locs ls hg hs hl => by
  subst hG
  obtain ⟨q0, hq⟩ := zen_ix hg hb
  have hPV : PreV s H y2.cls b (va_Pc (.ref b :: As) (fun U => zOK κ U ∧ zh κ G U.heap)) As := ⟨zblind, by rw [← hvc]; exact va_recv C.2.2.2.2.2.1.2.1 (zen_P hg) hcl hq, fun U hU hW => ⟨rfl, C.2.2.2.2.2.1.at hs hU hW, by rw [hU]; exact hg⟩⟩
  exact z_run (av := .ref b :: As) C hs hl (va_runVN (C := y2.cls) (As := As) (rest := rest) ⟨C.1, C.2.1, C.2.2.1, C.2.2.2.1, C.2.2.2.2.1⟩ hC (⟨va_cnB As.length C.2.2.2.2.1 (zgi hV.2.2.2.1) rfl rfl rfl (C.2.2.2.2.2.1.2.2.2.1 _ w1) (C.2.2.2.2.1 _ hV.2.2.1) hV.2.2.2.2 ⟨hR.1, hR.2.1⟩, C.2.2.2.2.1 _ hV.1, C.2.2.2.2.1 _ hV.2.1⟩) hPV rfl rfl hl.1 hst (lv_room hW) hd ⟨hR.2.2.1, hR.2.2.2⟩) k
theorem z_callVNi {P : Int32 → zH → Prop} {y2 : MethodName} {cc2 : ByteArray} {nL2 : Nat} {ret2 : Option FieldType} {rm2 : Room} {As rest : List Value} {index : Nat} {host : String} {b : Nat} {rr : zR} {ci : Nat} {fs : List Value} {vc : vw_C} (G0 : zH) (hC : Ct l y2 cc2 nL2 ret2 rm2 κ (.ref b :: As) G0 (pI P)) (hG : G = G0) (hb : G b = some (rr, .inr (ci, fs))) (hcl : vwCl[ci]? = some vc) (hvc : vc.1 = y2.cls) (w1 : Cond.methodLinkNest y.cls index y2 host ∈ NB) (hV : zcV y2 cc2 nL2 ret2 As.length) (hR : rm2.frames + 1 ≤ R.frames ∧ 8 + (nL2 + 11) + rm2.locals ≤ R.locals ∧ nc + rm2.cells ≤ R.cells ∧ ns + rm2.slots ≤ R.slots) (hst : st = As.reverse ++ .ref b :: rest) (hW : (rest.map fun v => v.category).sum ≤ 8) (hd : decode cc pc = .ok (.invokevirtual index, 3)) (k : ∀ (v : Int32) (G' : zH), P v G' → Z p l e R s m args below meth c y cc nL ret κ Q (nc + rm2.cells) (ns + rm2.slots) G' L (pc + 3) (.int v :: rest)) : Z p l e R s m args below meth c y cc nL ret κ Q nc ns G L pc st := z_callVN G0 hC hG hb hcl hvc w1 hV hR hst hW hd (fun r G' h => by
  obtain ⟨v, rfl, h⟩ := h
  exact k v G' h)
theorem z_callVNv {P : zH → Prop} {y2 : MethodName} {cc2 : ByteArray} {nL2 : Nat} {ret2 : Option FieldType} {rm2 : Room} {As rest : List Value} {index : Nat} {host : String} {b : Nat} {rr : zR} {ci : Nat} {fs : List Value} {vc : vw_C} (G0 : zH) (hC : Ct l y2 cc2 nL2 ret2 rm2 κ (.ref b :: As) G0 (pV P)) (hG : G = G0) (hb : G b = some (rr, .inr (ci, fs))) (hcl : vwCl[ci]? = some vc) (hvc : vc.1 = y2.cls) (w1 : Cond.methodLinkNest y.cls index y2 host ∈ NB) (hV : zcV y2 cc2 nL2 ret2 As.length) (hR : rm2.frames + 1 ≤ R.frames ∧ 8 + (nL2 + 11) + rm2.locals ≤ R.locals ∧ nc + rm2.cells ≤ R.cells ∧ ns + rm2.slots ≤ R.slots) (hst : st = As.reverse ++ .ref b :: rest) (hW : (rest.map fun v => v.category).sum ≤ 8) (hd : decode cc pc = .ok (.invokevirtual index, 3)) (k : ∀ (G' : zH), P G' → Z p l e R s m args below meth c y cc nL ret κ Q (nc + rm2.cells) (ns + rm2.slots) G' L (pc + 3) rest) : Z p l e R s m args below meth c y cc nL ret κ Q nc ns G L pc st := z_callVN G0 hC hG hb hcl hvc w1 hV hR hst hW hd (fun r G' h => by
  obtain ⟨rfl, h⟩ := h
  exact k G' h)
theorem z_callVNa {P : Option Nat → zH → Prop} {y2 : MethodName} {cc2 : ByteArray} {nL2 : Nat} {ret2 : Option FieldType} {rm2 : Room} {As rest : List Value} {index : Nat} {host : String} {b : Nat} {rr : zR} {ci : Nat} {fs : List Value} {vc : vw_C} (G0 : zH) (hC : Ct l y2 cc2 nL2 ret2 rm2 κ (.ref b :: As) G0 (pA P)) (hG : G = G0) (hb : G b = some (rr, .inr (ci, fs))) (hcl : vwCl[ci]? = some vc) (hvc : vc.1 = y2.cls) (w1 : Cond.methodLinkNest y.cls index y2 host ∈ NB) (hV : zcV y2 cc2 nL2 ret2 As.length) (hR : rm2.frames + 1 ≤ R.frames ∧ 8 + (nL2 + 11) + rm2.locals ≤ R.locals ∧ nc + rm2.cells ≤ R.cells ∧ ns + rm2.slots ≤ R.slots) (hst : st = As.reverse ++ .ref b :: rest) (hW : (rest.map fun v => v.category).sum ≤ 8) (hd : decode cc pc = .ok (.invokevirtual index, 3)) (k : ∀ (v : Option Nat) (G' : zH), P v G' → Z p l e R s m args below meth c y cc nL ret κ Q (nc + rm2.cells) (ns + rm2.slots) G' L (pc + 3) (va_rf v :: rest)) : Z p l e R s m args below meth c y cc nL ret κ Q nc ns G L pc st := z_callVN G0 hC hG hb hcl hvc w1 hV hR hst hW hd (fun r G' h => by
  obtain ⟨v, rfl, h⟩ := h
  exact k v G' h)
theorem z_callS {post : Option Value → zH → Prop} {y2 : MethodName} {cc2 : ByteArray} {nL2 : Nat} {ret2 : Option FieldType} {rm2 : Room} {As rest : List Value} {index : Nat} (G0 : zH) (hC : Ct l y2 cc2 nL2 ret2 rm2 κ As G0 post) (hG : G = G0) (w1 : Cond.methodLink y.cls index y2 ∈ TB) (hV : zcS y2 cc2 nL2 ret2 As.length) (hR : rm2.frames + 1 ≤ R.frames ∧ 8 + (nL2 + 11) + rm2.locals ≤ R.locals ∧ nc + rm2.cells ≤ R.cells ∧ ns + rm2.slots ≤ R.slots) (hst : st = As.reverse ++ rest) (hW : (rest.map fun v => v.category).sum ≤ 8) (hd : decode cc pc = .ok (.invokestatic index, 3)) (k : ∀ (r : Option Value) (G' : zH), post r G' → Z p l e R s m args below meth c y cc nL ret κ Q (nc + rm2.cells) (ns + rm2.slots) G' L (pc + 3) (r.toList ++ rest)) : Z p l e R s m args below meth c y cc nL ret κ Q nc ns G L pc st := fun C H locs ls hg hs hl => by
  subst hG
  exact z_run (av := As) C hs hl (va_runS (As := As) (rest := rest) ⟨C.1, C.2.1, C.2.2.1, C.2.2.2.1, C.2.2.2.2.1⟩ hC (va_cwS As.length C.2.2.2.2.1 (zgi_cons w1 (zgi_cons hV.1 (zgi_cons hV.2.1 (zgi hV.2.2.1)))) rfl rfl rfl hV.2.2.2 ⟨hR.1, hR.2.1⟩) ⟨zblind (G := G), fun U hU hW => ⟨rfl, C.2.2.2.2.2.1.at hs hU hW, by rw [hU]; exact hg⟩⟩ rfl rfl hl.1 hst (lv_room hW) hd ⟨hR.2.2.1, hR.2.2.2⟩) k
theorem z_callSi {P : Int32 → zH → Prop} {y2 : MethodName} {cc2 : ByteArray} {nL2 : Nat} {ret2 : Option FieldType} {rm2 : Room} {As rest : List Value} {index : Nat} (G0 : zH) (hC : Ct l y2 cc2 nL2 ret2 rm2 κ As G0 (pI P)) (hG : G = G0) (w1 : Cond.methodLink y.cls index y2 ∈ TB) (hV : zcS y2 cc2 nL2 ret2 As.length) (hR : rm2.frames + 1 ≤ R.frames ∧ 8 + (nL2 + 11) + rm2.locals ≤ R.locals ∧ nc + rm2.cells ≤ R.cells ∧ ns + rm2.slots ≤ R.slots) (hst : st = As.reverse ++ rest) (hW : (rest.map fun v => v.category).sum ≤ 8) (hd : decode cc pc = .ok (.invokestatic index, 3)) (k : ∀ (v : Int32) (G' : zH), P v G' → Z p l e R s m args below meth c y cc nL ret κ Q (nc + rm2.cells) (ns + rm2.slots) G' L (pc + 3) (.int v :: rest)) : Z p l e R s m args below meth c y cc nL ret κ Q nc ns G L pc st := z_callS G0 hC hG w1 hV hR hst hW hd (fun r G' h => by
  obtain ⟨v, rfl, h⟩ := h
  exact k v G' h)
theorem z_callSv {P : zH → Prop} {y2 : MethodName} {cc2 : ByteArray} {nL2 : Nat} {ret2 : Option FieldType} {rm2 : Room} {As rest : List Value} {index : Nat} (G0 : zH) (hC : Ct l y2 cc2 nL2 ret2 rm2 κ As G0 (pV P)) (hG : G = G0) (w1 : Cond.methodLink y.cls index y2 ∈ TB) (hV : zcS y2 cc2 nL2 ret2 As.length) (hR : rm2.frames + 1 ≤ R.frames ∧ 8 + (nL2 + 11) + rm2.locals ≤ R.locals ∧ nc + rm2.cells ≤ R.cells ∧ ns + rm2.slots ≤ R.slots) (hst : st = As.reverse ++ rest) (hW : (rest.map fun v => v.category).sum ≤ 8) (hd : decode cc pc = .ok (.invokestatic index, 3)) (k : ∀ (G' : zH), P G' → Z p l e R s m args below meth c y cc nL ret κ Q (nc + rm2.cells) (ns + rm2.slots) G' L (pc + 3) rest) : Z p l e R s m args below meth c y cc nL ret κ Q nc ns G L pc st := z_callS G0 hC hG w1 hV hR hst hW hd (fun r G' h => by
  obtain ⟨rfl, h⟩ := h
  exact k G' h)
theorem z_callSa {P : Option Nat → zH → Prop} {y2 : MethodName} {cc2 : ByteArray} {nL2 : Nat} {ret2 : Option FieldType} {rm2 : Room} {As rest : List Value} {index : Nat} (G0 : zH) (hC : Ct l y2 cc2 nL2 ret2 rm2 κ As G0 (pA P)) (hG : G = G0) (w1 : Cond.methodLink y.cls index y2 ∈ TB) (hV : zcS y2 cc2 nL2 ret2 As.length) (hR : rm2.frames + 1 ≤ R.frames ∧ 8 + (nL2 + 11) + rm2.locals ≤ R.locals ∧ nc + rm2.cells ≤ R.cells ∧ ns + rm2.slots ≤ R.slots) (hst : st = As.reverse ++ rest) (hW : (rest.map fun v => v.category).sum ≤ 8) (hd : decode cc pc = .ok (.invokestatic index, 3)) (k : ∀ (v : Option Nat) (G' : zH), P v G' → Z p l e R s m args below meth c y cc nL ret κ Q (nc + rm2.cells) (ns + rm2.slots) G' L (pc + 3) (va_rf v :: rest)) : Z p l e R s m args below meth c y cc nL ret κ Q nc ns G L pc st := z_callS G0 hC hG w1 hV hR hst hW hd (fun r G' h => by
  obtain ⟨v, rfl, h⟩ := h
  exact k v G' h)
theorem z_callSN {post : Option Value → zH → Prop} {y2 : MethodName} {cc2 : ByteArray} {nL2 : Nat} {ret2 : Option FieldType} {rm2 : Room} {As rest : List Value} {index : Nat} {host : String} (G0 : zH) (hC : Ct l y2 cc2 nL2 ret2 rm2 κ As G0 post) (hG : G = G0) (w1 : Cond.methodLinkNest y.cls index y2 host ∈ NB) (hV : zcS y2 cc2 nL2 ret2 As.length) (hR : rm2.frames + 1 ≤ R.frames ∧ 8 + (nL2 + 11) + rm2.locals ≤ R.locals ∧ nc + rm2.cells ≤ R.cells ∧ ns + rm2.slots ≤ R.slots) (hst : st = As.reverse ++ rest) (hW : (rest.map fun v => v.category).sum ≤ 8) (hd : decode cc pc = .ok (.invokestatic index, 3)) (k : ∀ (r : Option Value) (G' : zH), post r G' → Z p l e R s m args below meth c y cc nL ret κ Q (nc + rm2.cells) (ns + rm2.slots) G' L (pc + 3) (r.toList ++ rest)) : Z p l e R s m args below meth c y cc nL ret κ Q nc ns G L pc st := fun C H locs ls hg hs hl => by
  subst hG
  exact z_run (av := As) C hs hl (va_runSN (As := As) (rest := rest) ⟨C.1, C.2.1, C.2.2.1, C.2.2.2.1, C.2.2.2.2.1⟩ hC (⟨va_cnB As.length C.2.2.2.2.1 (zgi hV.2.2.1) rfl rfl rfl (C.2.2.2.2.2.1.2.2.2.1 _ w1) (C.2.2.2.2.1 _ hV.2.1) hV.2.2.2 ⟨hR.1, hR.2.1⟩, C.2.2.2.2.1 _ hV.1, trivial⟩) ⟨zblind (G := G), fun U hU hW => ⟨rfl, C.2.2.2.2.2.1.at hs hU hW, by rw [hU]; exact hg⟩⟩ rfl rfl hl.1 hst (lv_room hW) hd ⟨hR.2.2.1, hR.2.2.2⟩) k
theorem z_callSNi {P : Int32 → zH → Prop} {y2 : MethodName} {cc2 : ByteArray} {nL2 : Nat} {ret2 : Option FieldType} {rm2 : Room} {As rest : List Value} {index : Nat} {host : String} (G0 : zH) (hC : Ct l y2 cc2 nL2 ret2 rm2 κ As G0 (pI P)) (hG : G = G0) (w1 : Cond.methodLinkNest y.cls index y2 host ∈ NB) (hV : zcS y2 cc2 nL2 ret2 As.length) (hR : rm2.frames + 1 ≤ R.frames ∧ 8 + (nL2 + 11) + rm2.locals ≤ R.locals ∧ nc + rm2.cells ≤ R.cells ∧ ns + rm2.slots ≤ R.slots) (hst : st = As.reverse ++ rest) (hW : (rest.map fun v => v.category).sum ≤ 8) (hd : decode cc pc = .ok (.invokestatic index, 3)) (k : ∀ (v : Int32) (G' : zH), P v G' → Z p l e R s m args below meth c y cc nL ret κ Q (nc + rm2.cells) (ns + rm2.slots) G' L (pc + 3) (.int v :: rest)) : Z p l e R s m args below meth c y cc nL ret κ Q nc ns G L pc st := z_callSN G0 hC hG w1 hV hR hst hW hd (fun r G' h => by
  obtain ⟨v, rfl, h⟩ := h
  exact k v G' h)
theorem z_callSNv {P : zH → Prop} {y2 : MethodName} {cc2 : ByteArray} {nL2 : Nat} {ret2 : Option FieldType} {rm2 : Room} {As rest : List Value} {index : Nat} {host : String} (G0 : zH) (hC : Ct l y2 cc2 nL2 ret2 rm2 κ As G0 (pV P)) (hG : G = G0) (w1 : Cond.methodLinkNest y.cls index y2 host ∈ NB) (hV : zcS y2 cc2 nL2 ret2 As.length) (hR : rm2.frames + 1 ≤ R.frames ∧ 8 + (nL2 + 11) + rm2.locals ≤ R.locals ∧ nc + rm2.cells ≤ R.cells ∧ ns + rm2.slots ≤ R.slots) (hst : st = As.reverse ++ rest) (hW : (rest.map fun v => v.category).sum ≤ 8) (hd : decode cc pc = .ok (.invokestatic index, 3)) (k : ∀ (G' : zH), P G' → Z p l e R s m args below meth c y cc nL ret κ Q (nc + rm2.cells) (ns + rm2.slots) G' L (pc + 3) rest) : Z p l e R s m args below meth c y cc nL ret κ Q nc ns G L pc st := z_callSN G0 hC hG w1 hV hR hst hW hd (fun r G' h => by
  obtain ⟨rfl, h⟩ := h
  exact k G' h)
theorem z_callSNa {P : Option Nat → zH → Prop} {y2 : MethodName} {cc2 : ByteArray} {nL2 : Nat} {ret2 : Option FieldType} {rm2 : Room} {As rest : List Value} {index : Nat} {host : String} (G0 : zH) (hC : Ct l y2 cc2 nL2 ret2 rm2 κ As G0 (pA P)) (hG : G = G0) (w1 : Cond.methodLinkNest y.cls index y2 host ∈ NB) (hV : zcS y2 cc2 nL2 ret2 As.length) (hR : rm2.frames + 1 ≤ R.frames ∧ 8 + (nL2 + 11) + rm2.locals ≤ R.locals ∧ nc + rm2.cells ≤ R.cells ∧ ns + rm2.slots ≤ R.slots) (hst : st = As.reverse ++ rest) (hW : (rest.map fun v => v.category).sum ≤ 8) (hd : decode cc pc = .ok (.invokestatic index, 3)) (k : ∀ (v : Option Nat) (G' : zH), P v G' → Z p l e R s m args below meth c y cc nL ret κ Q (nc + rm2.cells) (ns + rm2.slots) G' L (pc + 3) (va_rf v :: rest)) : Z p l e R s m args below meth c y cc nL ret κ Q nc ns G L pc st := z_callSN G0 hC hG w1 hV hR hst hW hd (fun r G' h => by
  obtain ⟨v, rfl, h⟩ := h
  exact k v G' h)
theorem z_callI {post : Option Value → zH → Prop} {y2 : MethodName} {cc2 : ByteArray} {nL2 : Nat} {rm2 : Room} {As rest : List Value} {index : Nat} {b : Nat} (G0 : zH) (hC : Ct l y2 cc2 nL2 none rm2 κ (.ref b :: As) G0 post) (hG : G = G0) (w1 : Cond.methodLink y.cls index y2 ∈ TB) (hV : zcI y2 cc2 nL2 As.length) (hR : rm2.frames + 1 ≤ R.frames ∧ 8 + (nL2 + 11) + rm2.locals ≤ R.locals ∧ nc + rm2.cells ≤ R.cells ∧ ns + rm2.slots ≤ R.slots) (hst : st = As.reverse ++ .ref b :: rest) (hW : (rest.map fun v => v.category).sum ≤ 8) (hd : decode cc pc = .ok (.invokespecial index, 3)) (k : ∀ (r : Option Value) (G' : zH), post r G' → Z p l e R s m args below meth c y cc nL ret κ Q (nc + rm2.cells) (ns + rm2.slots) G' L (pc + 3) (r.toList ++ rest)) : Z p l e R s m args below meth c y cc nL ret κ Q nc ns G L pc st := fun C H locs ls hg hs hl => by
  subst hG
  exact z_run (av := .ref b :: As) C hs hl (va_runI (As := As) (rest := rest) ⟨C.1, C.2.1, C.2.2.1, C.2.2.2.1, C.2.2.2.2.1⟩ hC (cwI As.length C.2.2.2.2.1 (zgi hV.2.2.1) rfl rfl rfl (C.2.2.2.2.1 _ hV.2.1) (C.2.2.2.2.1 _ w1) (C.2.2.2.2.1 _ hV.1) hV.2.2.2.1 hV.2.2.2.2 ⟨hR.1, hR.2.1⟩) ⟨zblind (G := G), fun U hU hW => ⟨rfl, C.2.2.2.2.2.1.at hs hU hW, by rw [hU]; exact hg⟩⟩ rfl rfl hl.1 hst (lv_room hW) hd ⟨hR.2.2.1, hR.2.2.2⟩) k
theorem z_callIv {P : zH → Prop} {y2 : MethodName} {cc2 : ByteArray} {nL2 : Nat} {rm2 : Room} {As rest : List Value} {index : Nat} {b : Nat} (G0 : zH) (hC : Ct l y2 cc2 nL2 none rm2 κ (.ref b :: As) G0 (pV P)) (hG : G = G0) (w1 : Cond.methodLink y.cls index y2 ∈ TB) (hV : zcI y2 cc2 nL2 As.length) (hR : rm2.frames + 1 ≤ R.frames ∧ 8 + (nL2 + 11) + rm2.locals ≤ R.locals ∧ nc + rm2.cells ≤ R.cells ∧ ns + rm2.slots ≤ R.slots) (hst : st = As.reverse ++ .ref b :: rest) (hW : (rest.map fun v => v.category).sum ≤ 8) (hd : decode cc pc = .ok (.invokespecial index, 3)) (k : ∀ (G' : zH), P G' → Z p l e R s m args below meth c y cc nL ret κ Q (nc + rm2.cells) (ns + rm2.slots) G' L (pc + 3) rest) : Z p l e R s m args below meth c y cc nL ret κ Q nc ns G L pc st := z_callI G0 hC hG w1 hV hR hst hW hd (fun r G' h => by
  obtain ⟨rfl, h⟩ := h
  exact k G' h)
theorem z_callIN {post : Option Value → zH → Prop} {y2 : MethodName} {cc2 : ByteArray} {nL2 : Nat} {rm2 : Room} {As rest : List Value} {index : Nat} {host : String} {b : Nat} (G0 : zH) (hC : Ct l y2 cc2 nL2 none rm2 κ (.ref b :: As) G0 post) (hG : G = G0) (w1 : Cond.methodLinkNest y.cls index y2 host ∈ NB) (hV : zcI y2 cc2 nL2 As.length) (hR : rm2.frames + 1 ≤ R.frames ∧ 8 + (nL2 + 11) + rm2.locals ≤ R.locals ∧ nc + rm2.cells ≤ R.cells ∧ ns + rm2.slots ≤ R.slots) (hst : st = As.reverse ++ .ref b :: rest) (hW : (rest.map fun v => v.category).sum ≤ 8) (hd : decode cc pc = .ok (.invokespecial index, 3)) (k : ∀ (r : Option Value) (G' : zH), post r G' → Z p l e R s m args below meth c y cc nL ret κ Q (nc + rm2.cells) (ns + rm2.slots) G' L (pc + 3) (r.toList ++ rest)) : Z p l e R s m args below meth c y cc nL ret κ Q nc ns G L pc st := fun C H locs ls hg hs hl => by
  subst hG
  exact z_run (av := .ref b :: As) C hs hl (va_runIN (As := As) (rest := rest) ⟨C.1, C.2.1, C.2.2.1, C.2.2.2.1, C.2.2.2.2.1⟩ hC (⟨va_cnB As.length C.2.2.2.2.1 (zgi hV.2.2.1) rfl rfl rfl (C.2.2.2.2.2.1.2.2.2.1 _ w1) (C.2.2.2.2.1 _ hV.2.1) hV.2.2.2.2 ⟨hR.1, hR.2.1⟩, hV.2.2.2.1, C.2.2.2.2.1 _ hV.1⟩) ⟨zblind (G := G), fun U hU hW => ⟨rfl, C.2.2.2.2.2.1.at hs hU hW, by rw [hU]; exact hg⟩⟩ rfl rfl hl.1 hst (lv_room hW) hd ⟨hR.2.2.1, hR.2.2.2⟩) k
theorem z_callINv {P : zH → Prop} {y2 : MethodName} {cc2 : ByteArray} {nL2 : Nat} {rm2 : Room} {As rest : List Value} {index : Nat} {host : String} {b : Nat} (G0 : zH) (hC : Ct l y2 cc2 nL2 none rm2 κ (.ref b :: As) G0 (pV P)) (hG : G = G0) (w1 : Cond.methodLinkNest y.cls index y2 host ∈ NB) (hV : zcI y2 cc2 nL2 As.length) (hR : rm2.frames + 1 ≤ R.frames ∧ 8 + (nL2 + 11) + rm2.locals ≤ R.locals ∧ nc + rm2.cells ≤ R.cells ∧ ns + rm2.slots ≤ R.slots) (hst : st = As.reverse ++ .ref b :: rest) (hW : (rest.map fun v => v.category).sum ≤ 8) (hd : decode cc pc = .ok (.invokespecial index, 3)) (k : ∀ (G' : zH), P G' → Z p l e R s m args below meth c y cc nL ret κ Q (nc + rm2.cells) (ns + rm2.slots) G' L (pc + 3) rest) : Z p l e R s m args below meth c y cc nL ret κ Q nc ns G L pc st := z_callIN G0 hC hG w1 hV hR hst hW hd (fun r G' h => by
  obtain ⟨rfl, h⟩ := h
  exact k G' h)
theorem z_gets {C n d ref : String} {v : Value} {index : Nat} (hZ : zS κ s s.heap → va_Z C n d v (zA κ) s s.heap) (hw : Cond.fieldLink y.cls index C n d ∈ TB) (hd : decode cc pc = .ok (.getstatic index, 3)) (kk : Z p l e R s m args below meth c y cc nL ret κ Q nc ns G L (pc + 3) (v :: st)) : Z p l e R s m args below meth c y cc nL ret κ Q nc ns G L pc st := fun C H locs ls hg hs hl =>
  va_gets C.1 C.2.1 (hZ C.2.2.2.2.2.1.2.2.1) hs C.2.2.2.1 (C.2.2.2.2.1 _ hw) (fun _ h => h) hd (kk C H locs ls hg hs hl)
theorem z_ti {t N : Nat} {f : Nat → Value} {v : Value} {i : Int32} (j : Nat) (hT : zS κ s s.heap → va_T .int t N f (zA κ) s s.heap) (hi : i = nI j) (hj : j < N) (hN : N < 2 ^ 31) (hv : f j = v) (hd : decode cc pc = .ok (.iaload, 1)) (kk : Z p l e R s m args below meth c y cc nL ret κ Q nc ns G L (pc + 1) (v :: st)) : Z p l e R s m args below meth c y cc nL ret κ Q nc ns G L pc (.int i :: .ref t :: st) := fun C H locs ls hg hs hl => by
  subst hi
  exact va_ti C.1 C.2.1 (hT C.2.2.2.2.2.1.2.2.1) hs (vp_in_nI hj hN) (by rw [nI_clamp (Nat.lt_trans hj hN)]; exact hv) hd (kk C H locs ls hg hs hl)
theorem z_tlen {ty : FieldType} {t N : Nat} {f : Nat → Value} {v : Int32} (hT : zS κ s s.heap → va_T ty t N f (zA κ) s s.heap) (hv : Int32.ofNat N = v) (hd : decode cc pc = .ok (.arraylength, 1)) (kk : Z p l e R s m args below meth c y cc nL ret κ Q nc ns G L (pc + 1) (.int v :: st)) : Z p l e R s m args below meth c y cc nL ret κ Q nc ns G L pc (.ref t :: st) := fun C H locs ls hg hs hl =>
  va_tlen C.1 C.2.1 (hT C.2.2.2.2.2.1.2.2.1) hs hv hd (kk C H locs ls hg hs hl)
end ZR
end
