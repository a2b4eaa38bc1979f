-- ===== PART A: goes FIRST, ahead of the names: the tables' words, and 'selects' of the private methods out of them =====
/-- a private method of a class that the tables say can be made, by its rows of tables_1 -/
def lw_okq (q : MethodName × Nat) : Prop := (q.1.cls ≠ "java/lang/invoke/MethodHandle" ∧ q.1.cls ≠ "java/lang/invoke/VarHandle") ∧ Cond.instantiable q.1.cls q.2 ∈ tables_1 ∧ Cond.privateMethod q.1 ∈ tables_1 ∧ Cond.instanceMethod q.1 ∈ tables_1
theorem lw_p0 : lw_okq (⟨"AgingStamps", "readInto", "(LAgingStamps$Post;)I"⟩, 15) := ⟨⟨by decide +kernel, by decide +kernel⟩, List.mem_of_getElem? (i := 11) (by decide +kernel), List.mem_of_getElem? (i := 179) (by decide +kernel), List.mem_of_getElem? (i := 180) (by decide +kernel)⟩
theorem lw_p1 : lw_okq (⟨"AgingStamps$Reader", "opens", "(ILAgingStamps$Post;)Z"⟩, 5) := ⟨⟨by decide +kernel, by decide +kernel⟩, List.mem_of_getElem? (i := 19) (by decide +kernel), List.mem_of_getElem? (i := 198) (by decide +kernel), List.mem_of_getElem? (i := 199) (by decide +kernel)⟩
theorem lw_p2 : lw_okq (⟨"AgingStamps$Reader", "takesOfStamp", "(ILAgingStamps$Post;)Z"⟩, 5) := ⟨⟨by decide +kernel, by decide +kernel⟩, List.mem_of_getElem? (i := 19) (by decide +kernel), List.mem_of_getElem? (i := 218) (by decide +kernel), List.mem_of_getElem? (i := 219) (by decide +kernel)⟩
theorem lw_p3 : lw_okq (⟨"AgingStamps$Reader", "hold", "(I)V"⟩, 5) := ⟨⟨by decide +kernel, by decide +kernel⟩, List.mem_of_getElem? (i := 19) (by decide +kernel), List.mem_of_getElem? (i := 222) (by decide +kernel), List.mem_of_getElem? (i := 223) (by decide +kernel)⟩
theorem lw_p4 : lw_okq (⟨"AgingStamps$Reader", "takesOfJoin", "(ILAgingStamps$Post;)Z"⟩, 5) := ⟨⟨by decide +kernel, by decide +kernel⟩, List.mem_of_getElem? (i := 19) (by decide +kernel), List.mem_of_getElem? (i := 230) (by decide +kernel), List.mem_of_getElem? (i := 231) (by decide +kernel)⟩
theorem lw_p5 : lw_okq (⟨"AgingStamps$Reader", "takesOfLetter", "(ILAgingStamps$Post;)Z"⟩, 5) := ⟨⟨by decide +kernel, by decide +kernel⟩, List.mem_of_getElem? (i := 19) (by decide +kernel), List.mem_of_getElem? (i := 247) (by decide +kernel), List.mem_of_getElem? (i := 248) (by decide +kernel)⟩
theorem lw_p6 : lw_okq (⟨"AgingStamps", "remember", "()V"⟩, 15) := ⟨⟨by decide +kernel, by decide +kernel⟩, List.mem_of_getElem? (i := 11) (by decide +kernel), List.mem_of_getElem? (i := 313) (by decide +kernel), List.mem_of_getElem? (i := 314) (by decide +kernel)⟩
theorem lw_p7 : lw_okq (⟨"AgingStamps$Memory", "holds", "(I)Z"⟩, 1) := ⟨⟨by decide +kernel, by decide +kernel⟩, List.mem_of_getElem? (i := 107) (by decide +kernel), List.mem_of_getElem? (i := 326) (by decide +kernel), List.mem_of_getElem? (i := 327) (by decide +kernel)⟩
theorem lw_p8 : lw_okq (⟨"AgingStamps$Post", "growOlder", "(II)V"⟩, 12) := ⟨⟨by decide +kernel, by decide +kernel⟩, List.mem_of_getElem? (i := 42) (by decide +kernel), List.mem_of_getElem? (i := 338) (by decide +kernel), List.mem_of_getElem? (i := 339) (by decide +kernel)⟩
theorem lw_p9 : lw_okq (⟨"AgingStamps$Post", "carry", "(I)V"⟩, 12) := ⟨⟨by decide +kernel, by decide +kernel⟩, List.mem_of_getElem? (i := 42) (by decide +kernel), List.mem_of_getElem? (i := 346) (by decide +kernel), List.mem_of_getElem? (i := 347) (by decide +kernel)⟩
theorem lw_p10 : lw_okq (⟨"AgingStamps", "tryToSend", "(II)I"⟩, 15) := ⟨⟨by decide +kernel, by decide +kernel⟩, List.mem_of_getElem? (i := 11) (by decide +kernel), List.mem_of_getElem? (i := 419) (by decide +kernel), List.mem_of_getElem? (i := 420) (by decide +kernel)⟩
theorem lw_p11 : lw_okq (⟨"AgingStamps", "agreesWithSeen", "(II)Z"⟩, 15) := ⟨⟨by decide +kernel, by decide +kernel⟩, List.mem_of_getElem? (i := 11) (by decide +kernel), List.mem_of_getElem? (i := 462) (by decide +kernel), List.mem_of_getElem? (i := 463) (by decide +kernel)⟩
theorem lw_p12 : lw_okq (⟨"AgingStamps", "tryWeeks", "(I)V"⟩, 15) := ⟨⟨by decide +kernel, by decide +kernel⟩, List.mem_of_getElem? (i := 11) (by decide +kernel), List.mem_of_getElem? (i := 516) (by decide +kernel), List.mem_of_getElem? (i := 517) (by decide +kernel)⟩
theorem lw_p13 : lw_okq (⟨"AgingStampsModel", "readText", "()I"⟩, 24) := ⟨⟨by decide +kernel, by decide +kernel⟩, List.mem_of_getElem? (i := 537) (by decide +kernel), List.mem_of_getElem? (i := 632) (by decide +kernel), List.mem_of_getElem? (i := 633) (by decide +kernel)⟩
theorem lw_p14 : lw_okq (⟨"AgingStampsModel", "readPart", "(I)V"⟩, 24) := ⟨⟨by decide +kernel, by decide +kernel⟩, List.mem_of_getElem? (i := 537) (by decide +kernel), List.mem_of_getElem? (i := 636) (by decide +kernel), List.mem_of_getElem? (i := 637) (by decide +kernel)⟩
theorem lw_p15 : lw_okq (⟨"AgingStampsModel", "figureOf", "(I)I"⟩, 24) := ⟨⟨by decide +kernel, by decide +kernel⟩, List.mem_of_getElem? (i := 537) (by decide +kernel), List.mem_of_getElem? (i := 640) (by decide +kernel), List.mem_of_getElem? (i := 641) (by decide +kernel)⟩
def lw_privs_1 : List (MethodName × Nat) := [(⟨"AgingStamps", "readInto", "(LAgingStamps$Post;)I"⟩, 15), (⟨"AgingStamps$Reader", "opens", "(ILAgingStamps$Post;)Z"⟩, 5), (⟨"AgingStamps$Reader", "takesOfStamp", "(ILAgingStamps$Post;)Z"⟩, 5), (⟨"AgingStamps$Reader", "hold", "(I)V"⟩, 5), (⟨"AgingStamps$Reader", "takesOfJoin", "(ILAgingStamps$Post;)Z"⟩, 5), (⟨"AgingStamps$Reader", "takesOfLetter", "(ILAgingStamps$Post;)Z"⟩, 5), (⟨"AgingStamps", "remember", "()V"⟩, 15), (⟨"AgingStamps$Memory", "holds", "(I)Z"⟩, 1), (⟨"AgingStamps$Post", "growOlder", "(II)V"⟩, 12), (⟨"AgingStamps$Post", "carry", "(I)V"⟩, 12), (⟨"AgingStamps", "tryToSend", "(II)I"⟩, 15), (⟨"AgingStamps", "agreesWithSeen", "(II)Z"⟩, 15), (⟨"AgingStamps", "tryWeeks", "(I)V"⟩, 15), (⟨"AgingStampsModel", "readText", "()I"⟩, 24), (⟨"AgingStampsModel", "readPart", "(I)V"⟩, 24), (⟨"AgingStampsModel", "figureOf", "(I)I"⟩, 24)]
theorem lw_r1 : ∀ q ∈ lw_privs_1, lw_okq q := List.forall_mem_cons.mpr ⟨lw_p0, List.forall_mem_cons.mpr ⟨lw_p1, List.forall_mem_cons.mpr ⟨lw_p2, List.forall_mem_cons.mpr ⟨lw_p3, List.forall_mem_cons.mpr ⟨lw_p4, List.forall_mem_cons.mpr ⟨lw_p5, List.forall_mem_cons.mpr ⟨lw_p6, List.forall_mem_cons.mpr ⟨lw_p7, List.forall_mem_cons.mpr ⟨lw_p8, List.forall_mem_cons.mpr ⟨lw_p9, List.forall_mem_cons.mpr ⟨lw_p10, List.forall_mem_cons.mpr ⟨lw_p11, List.forall_mem_cons.mpr ⟨lw_p12, List.forall_mem_cons.mpr ⟨lw_p13, List.forall_mem_cons.mpr ⟨lw_p14, List.forall_mem_cons.mpr ⟨lw_p15, fun _ h => absurd h List.not_mem_nil⟩⟩⟩⟩⟩⟩⟩⟩⟩⟩⟩⟩⟩⟩⟩⟩
theorem lw_p16 : lw_okq (⟨"AgingStampsModel", "firstsLeft", "()I"⟩, 24) := ⟨⟨by decide +kernel, by decide +kernel⟩, List.mem_of_getElem? (i := 537) (by decide +kernel), List.mem_of_getElem? (i := 648) (by decide +kernel), List.mem_of_getElem? (i := 649) (by decide +kernel)⟩
theorem lw_p17 : lw_okq (⟨"AgingStampsModel", "left", "(I)I"⟩, 24) := ⟨⟨by decide +kernel, by decide +kernel⟩, List.mem_of_getElem? (i := 537) (by decide +kernel), List.mem_of_getElem? (i := 652) (by decide +kernel), List.mem_of_getElem? (i := 653) (by decide +kernel)⟩
theorem lw_p18 : lw_okq (⟨"AgingStampsModel", "isStamp", "(I)Z"⟩, 24) := ⟨⟨by decide +kernel, by decide +kernel⟩, List.mem_of_getElem? (i := 537) (by decide +kernel), List.mem_of_getElem? (i := 664) (by decide +kernel), List.mem_of_getElem? (i := 665) (by decide +kernel)⟩
theorem lw_p19 : lw_okq (⟨"AgingStampsModel", "span", "(II)I"⟩, 24) := ⟨⟨by decide +kernel, by decide +kernel⟩, List.mem_of_getElem? (i := 537) (by decide +kernel), List.mem_of_getElem? (i := 668) (by decide +kernel), List.mem_of_getElem? (i := 669) (by decide +kernel)⟩
theorem lw_p20 : lw_okq (⟨"AgingStampsModel", "rate", "(II)I"⟩, 24) := ⟨⟨by decide +kernel, by decide +kernel⟩, List.mem_of_getElem? (i := 537) (by decide +kernel), List.mem_of_getElem? (i := 672) (by decide +kernel), List.mem_of_getElem? (i := 673) (by decide +kernel)⟩
theorem lw_p21 : lw_okq (⟨"AgingStampsModel", "isAlive", "(II)Z"⟩, 24) := ⟨⟨by decide +kernel, by decide +kernel⟩, List.mem_of_getElem? (i := 537) (by decide +kernel), List.mem_of_getElem? (i := 676) (by decide +kernel), List.mem_of_getElem? (i := 677) (by decide +kernel)⟩
theorem lw_p22 : lw_okq (⟨"AgingStampsModel", "isLetter", "(I)Z"⟩, 24) := ⟨⟨by decide +kernel, by decide +kernel⟩, List.mem_of_getElem? (i := 537) (by decide +kernel), List.mem_of_getElem? (i := 684) (by decide +kernel), List.mem_of_getElem? (i := 685) (by decide +kernel)⟩
theorem lw_p23 : lw_okq (⟨"AgingStampsModel", "onLetter", "(II)I"⟩, 24) := ⟨⟨by decide +kernel, by decide +kernel⟩, List.mem_of_getElem? (i := 537) (by decide +kernel), List.mem_of_getElem? (i := 688) (by decide +kernel), List.mem_of_getElem? (i := 689) (by decide +kernel)⟩
theorem lw_p24 : lw_okq (⟨"AgingStampsModel", "goodFor", "(II)I"⟩, 24) := ⟨⟨by decide +kernel, by decide +kernel⟩, List.mem_of_getElem? (i := 537) (by decide +kernel), List.mem_of_getElem? (i := 692) (by decide +kernel), List.mem_of_getElem? (i := 693) (by decide +kernel)⟩
theorem lw_p25 : lw_okq (⟨"AgingStampsModel", "keepAct", "()V"⟩, 24) := ⟨⟨by decide +kernel, by decide +kernel⟩, List.mem_of_getElem? (i := 537) (by decide +kernel), List.mem_of_getElem? (i := 700) (by decide +kernel), List.mem_of_getElem? (i := 701) (by decide +kernel)⟩
theorem lw_p26 : lw_okq (⟨"AgingStampsModel", "passOn", "(I)V"⟩, 24) := ⟨⟨by decide +kernel, by decide +kernel⟩, List.mem_of_getElem? (i := 537) (by decide +kernel), List.mem_of_getElem? (i := 704) (by decide +kernel), List.mem_of_getElem? (i := 705) (by decide +kernel)⟩
theorem lw_p27 : lw_okq (⟨"AgingStampsModel", "living", "(I)I"⟩, 24) := ⟨⟨by decide +kernel, by decide +kernel⟩, List.mem_of_getElem? (i := 537) (by decide +kernel), List.mem_of_getElem? (i := 708) (by decide +kernel), List.mem_of_getElem? (i := 709) (by decide +kernel)⟩
theorem lw_p28 : lw_okq (⟨"AgingStampsModel", "age", "(III)V"⟩, 24) := ⟨⟨by decide +kernel, by decide +kernel⟩, List.mem_of_getElem? (i := 537) (by decide +kernel), List.mem_of_getElem? (i := 712) (by decide +kernel), List.mem_of_getElem? (i := 713) (by decide +kernel)⟩
theorem lw_p29 : lw_okq (⟨"AgingStampsModel", "widows", "(I)I"⟩, 24) := ⟨⟨by decide +kernel, by decide +kernel⟩, List.mem_of_getElem? (i := 537) (by decide +kernel), List.mem_of_getElem? (i := 716) (by decide +kernel), List.mem_of_getElem? (i := 717) (by decide +kernel)⟩
theorem lw_p30 : lw_okq (⟨"AgingStampsModel", "canStick", "(III)Z"⟩, 24) := ⟨⟨by decide +kernel, by decide +kernel⟩, List.mem_of_getElem? (i := 537) (by decide +kernel), List.mem_of_getElem? (i := 727) (by decide +kernel), List.mem_of_getElem? (i := 728) (by decide +kernel)⟩
theorem lw_p31 : lw_okq (⟨"AgingStampsModel", "isFree", "(II)Z"⟩, 24) := ⟨⟨by decide +kernel, by decide +kernel⟩, List.mem_of_getElem? (i := 537) (by decide +kernel), List.mem_of_getElem? (i := 731) (by decide +kernel), List.mem_of_getElem? (i := 732) (by decide +kernel)⟩
def lw_privs_2 : List (MethodName × Nat) := [(⟨"AgingStampsModel", "firstsLeft", "()I"⟩, 24), (⟨"AgingStampsModel", "left", "(I)I"⟩, 24), (⟨"AgingStampsModel", "isStamp", "(I)Z"⟩, 24), (⟨"AgingStampsModel", "span", "(II)I"⟩, 24), (⟨"AgingStampsModel", "rate", "(II)I"⟩, 24), (⟨"AgingStampsModel", "isAlive", "(II)Z"⟩, 24), (⟨"AgingStampsModel", "isLetter", "(I)Z"⟩, 24), (⟨"AgingStampsModel", "onLetter", "(II)I"⟩, 24), (⟨"AgingStampsModel", "goodFor", "(II)I"⟩, 24), (⟨"AgingStampsModel", "keepAct", "()V"⟩, 24), (⟨"AgingStampsModel", "passOn", "(I)V"⟩, 24), (⟨"AgingStampsModel", "living", "(I)I"⟩, 24), (⟨"AgingStampsModel", "age", "(III)V"⟩, 24), (⟨"AgingStampsModel", "widows", "(I)I"⟩, 24), (⟨"AgingStampsModel", "canStick", "(III)Z"⟩, 24), (⟨"AgingStampsModel", "isFree", "(II)Z"⟩, 24)]
theorem lw_r2 : ∀ q ∈ lw_privs_2, lw_okq q := List.forall_mem_cons.mpr ⟨lw_p16, List.forall_mem_cons.mpr ⟨lw_p17, List.forall_mem_cons.mpr ⟨lw_p18, List.forall_mem_cons.mpr ⟨lw_p19, List.forall_mem_cons.mpr ⟨lw_p20, List.forall_mem_cons.mpr ⟨lw_p21, List.forall_mem_cons.mpr ⟨lw_p22, List.forall_mem_cons.mpr ⟨lw_p23, List.forall_mem_cons.mpr ⟨lw_p24, List.forall_mem_cons.mpr ⟨lw_p25, List.forall_mem_cons.mpr ⟨lw_p26, List.forall_mem_cons.mpr ⟨lw_p27, List.forall_mem_cons.mpr ⟨lw_p28, List.forall_mem_cons.mpr ⟨lw_p29, List.forall_mem_cons.mpr ⟨lw_p30, List.forall_mem_cons.mpr ⟨lw_p31, fun _ h => absurd h List.not_mem_nil⟩⟩⟩⟩⟩⟩⟩⟩⟩⟩⟩⟩⟩⟩⟩⟩
theorem lw_p32 : lw_okq (⟨"AgingStampsModel", "stickOn", "(III)V"⟩, 24) := ⟨⟨by decide +kernel, by decide +kernel⟩, List.mem_of_getElem? (i := 537) (by decide +kernel), List.mem_of_getElem? (i := 735) (by decide +kernel), List.mem_of_getElem? (i := 736) (by decide +kernel)⟩
theorem lw_p33 : lw_okq (⟨"AgingStampsModel", "canSend", "(II)Z"⟩, 24) := ⟨⟨by decide +kernel, by decide +kernel⟩, List.mem_of_getElem? (i := 537) (by decide +kernel), List.mem_of_getElem? (i := 743) (by decide +kernel), List.mem_of_getElem? (i := 744) (by decide +kernel)⟩
theorem lw_p34 : lw_okq (⟨"AgingStampsModel", "canPart", "(III)Z"⟩, 24) := ⟨⟨by decide +kernel, by decide +kernel⟩, List.mem_of_getElem? (i := 537) (by decide +kernel), List.mem_of_getElem? (i := 751) (by decide +kernel), List.mem_of_getElem? (i := 752) (by decide +kernel)⟩
theorem lw_p35 : lw_okq (⟨"AgingStampsModel", "partOn", "(III)V"⟩, 24) := ⟨⟨by decide +kernel, by decide +kernel⟩, List.mem_of_getElem? (i := 537) (by decide +kernel), List.mem_of_getElem? (i := 755) (by decide +kernel), List.mem_of_getElem? (i := 756) (by decide +kernel)⟩
theorem lw_p36 : lw_okq (⟨"AgingStampsModel", "layTrial", "()V"⟩, 24) := ⟨⟨by decide +kernel, by decide +kernel⟩, List.mem_of_getElem? (i := 537) (by decide +kernel), List.mem_of_getElem? (i := 771) (by decide +kernel), List.mem_of_getElem? (i := 772) (by decide +kernel)⟩
theorem lw_p37 : lw_okq (⟨"AgingStampsModel", "freeOnes", "()I"⟩, 24) := ⟨⟨by decide +kernel, by decide +kernel⟩, List.mem_of_getElem? (i := 537) (by decide +kernel), List.mem_of_getElem? (i := 779) (by decide +kernel), List.mem_of_getElem? (i := 780) (by decide +kernel)⟩
theorem lw_p38 : lw_okq (⟨"AgingStampsModel", "ends", "(II)I"⟩, 24) := ⟨⟨by decide +kernel, by decide +kernel⟩, List.mem_of_getElem? (i := 537) (by decide +kernel), List.mem_of_getElem? (i := 783) (by decide +kernel), List.mem_of_getElem? (i := 784) (by decide +kernel)⟩
theorem lw_p39 : lw_okq (⟨"AgingStampsModel", "tryThing", "(III)Z"⟩, 24) := ⟨⟨by decide +kernel, by decide +kernel⟩, List.mem_of_getElem? (i := 537) (by decide +kernel), List.mem_of_getElem? (i := 805) (by decide +kernel), List.mem_of_getElem? (i := 806) (by decide +kernel)⟩
theorem lw_p40 : lw_okq (⟨"AgingStampsModel", "paidBy", "(I)I"⟩, 24) := ⟨⟨by decide +kernel, by decide +kernel⟩, List.mem_of_getElem? (i := 537) (by decide +kernel), List.mem_of_getElem? (i := 829) (by decide +kernel), List.mem_of_getElem? (i := 830) (by decide +kernel)⟩
theorem lw_p41 : lw_okq (⟨"AgingStampsModel", "isRest", "(IIIII)Z"⟩, 24) := ⟨⟨by decide +kernel, by decide +kernel⟩, List.mem_of_getElem? (i := 537) (by decide +kernel), List.mem_of_getElem? (i := 840) (by decide +kernel), List.mem_of_getElem? (i := 841) (by decide +kernel)⟩
theorem lw_p42 : lw_okq (⟨"AgingStampsModel", "gain", "(IIII)I"⟩, 24) := ⟨⟨by decide +kernel, by decide +kernel⟩, List.mem_of_getElem? (i := 537) (by decide +kernel), List.mem_of_getElem? (i := 844) (by decide +kernel), List.mem_of_getElem? (i := 845) (by decide +kernel)⟩
theorem lw_p43 : lw_okq (⟨"AgingStampsModel", "lettersThatAre", "(I)I"⟩, 24) := ⟨⟨by decide +kernel, by decide +kernel⟩, List.mem_of_getElem? (i := 537) (by decide +kernel), List.mem_of_getElem? (i := 875) (by decide +kernel), List.mem_of_getElem? (i := 876) (by decide +kernel)⟩
def lw_privs_3 : List (MethodName × Nat) := [(⟨"AgingStampsModel", "stickOn", "(III)V"⟩, 24), (⟨"AgingStampsModel", "canSend", "(II)Z"⟩, 24), (⟨"AgingStampsModel", "canPart", "(III)Z"⟩, 24), (⟨"AgingStampsModel", "partOn", "(III)V"⟩, 24), (⟨"AgingStampsModel", "layTrial", "()V"⟩, 24), (⟨"AgingStampsModel", "freeOnes", "()I"⟩, 24), (⟨"AgingStampsModel", "ends", "(II)I"⟩, 24), (⟨"AgingStampsModel", "tryThing", "(III)Z"⟩, 24), (⟨"AgingStampsModel", "paidBy", "(I)I"⟩, 24), (⟨"AgingStampsModel", "isRest", "(IIIII)Z"⟩, 24), (⟨"AgingStampsModel", "gain", "(IIII)I"⟩, 24), (⟨"AgingStampsModel", "lettersThatAre", "(I)I"⟩, 24)]
theorem lw_r3 : ∀ q ∈ lw_privs_3, lw_okq q := List.forall_mem_cons.mpr ⟨lw_p32, List.forall_mem_cons.mpr ⟨lw_p33, List.forall_mem_cons.mpr ⟨lw_p34, List.forall_mem_cons.mpr ⟨lw_p35, List.forall_mem_cons.mpr ⟨lw_p36, List.forall_mem_cons.mpr ⟨lw_p37, List.forall_mem_cons.mpr ⟨lw_p38, List.forall_mem_cons.mpr ⟨lw_p39, List.forall_mem_cons.mpr ⟨lw_p40, List.forall_mem_cons.mpr ⟨lw_p41, List.forall_mem_cons.mpr ⟨lw_p42, List.forall_mem_cons.mpr ⟨lw_p43, fun _ h => absurd h List.not_mem_nil⟩⟩⟩⟩⟩⟩⟩⟩⟩⟩⟩⟩
def lw_privs : List (MethodName × Nat) := lw_privs_1 ++ (lw_privs_2 ++ (lw_privs_3))
def lw_tbl : List Cond := k2_sels lw_privs ++ tables_1
theorem lw_privs_ok : ∀ q ∈ lw_privs, lw_okq q := by
  show ∀ q ∈ lw_privs_1 ++ (lw_privs_2 ++ (lw_privs_3)), lw_okq q
  exact List.forall_mem_append.mpr ⟨lw_r1, List.forall_mem_append.mpr ⟨lw_r2, lw_r3⟩⟩
-- ===== end of PART A; then your names; then what follows =====
def RX0 : String := "AgingStamps$Memory"
def TX0 : u_T := fun k => match k with
  | _ => ("AgingStamps$Memory", "cells", "[I", true)
def tyX0 : Nat → FieldType := fun k => match k with
  | _ => .array .int
abbrev wsX00 : List Cond := u_ws RX0 TX0 1
theorem nmX0 : ∀ a, a < 1 → ∀ b, b < 1 → a ≠ b → (TX0 a).2.1 ≠ (TX0 b).2.1 := by decide +kernel
theorem tyX0_ok : ∀ k, k < 1 → parseFieldDescriptor (TX0 k).2.2.1 = some (tyX0 k) := by decide +kernel
abbrev cX0_init : ByteArray := prog_2_method_1_code
def yX0_init : MethodName := ⟨RX0, "<init>", "(I)V"⟩
abbrev cX0_holds : ByteArray := prog_2_method_2_code
def yX0_holds : MethodName := ⟨RX0, "holds", "(I)Z"⟩
abbrev cX0_store : ByteArray := prog_2_method_3_code
def yX0_store : MethodName := ⟨RX0, "store", "(ILAgingStamps$Post;)V"⟩
abbrev cX0_load : ByteArray := prog_2_method_4_code
def yX0_load : MethodName := ⟨RX0, "load", "(ILAgingStamps$Post;)V"⟩
abbrev cX0_forgetFirst : ByteArray := prog_2_method_5_code
def yX0_forgetFirst : MethodName := ⟨RX0, "forgetFirst", "()V"⟩
def RX1 : String := "AgingStamps$Post"
def TX1 : u_T := fun k => match k with
  | 0 => ("AgingStamps$Post", "stamps", "I", false)
  | 1 => ("AgingStamps$Post", "letters", "I", false)
  | 2 => ("AgingStamps$Post", "week", "I", false)
  | 3 => ("AgingStamps$Post", "damp", "Z", false)
  | 4 => ("AgingStamps$Post", "age", "[I", true)
  | 5 => ("AgingStamps$Post", "health", "[I", true)
  | 6 => ("AgingStamps$Post", "kind", "[I", true)
  | 7 => ("AgingStamps$Post", "joined", "[I", true)
  | 8 => ("AgingStamps$Post", "on", "[I", true)
  | 9 => ("AgingStamps$Post", "left", "[I", true)
  | 10 => ("AgingStamps$Post", "cost", "[I", true)
  | _ => ("AgingStamps$Post", "fate", "[I", true)
def tyX1 : Nat → FieldType := fun k => match k with
  | 0 => .int
  | 1 => .int
  | 2 => .int
  | 3 => .boolean
  | 4 => .array .int
  | 5 => .array .int
  | 6 => .array .int
  | 7 => .array .int
  | 8 => .array .int
  | 9 => .array .int
  | 10 => .array .int
  | _ => .array .int
abbrev wsX10 : List Cond := u_ws RX1 TX1 12
theorem nmX1 : ∀ a, a < 12 → ∀ b, b < 12 → a ≠ b → (TX1 a).2.1 ≠ (TX1 b).2.1 := by decide +kernel
theorem tyX1_ok : ∀ k, k < 12 → parseFieldDescriptor (TX1 k).2.2.1 = some (tyX1 k) := by decide +kernel
abbrev cX1_init : ByteArray := prog_3_method_1_code
def yX1_init : MethodName := ⟨RX1, "<init>", "()V"⟩
abbrev cX1_clear : ByteArray := prog_3_method_2_code
def yX1_clear : MethodName := ⟨RX1, "clear", "()V"⟩
abbrev cX1_copyFrom : ByteArray := prog_3_method_3_code
def yX1_copyFrom : MethodName := ⟨RX1, "copyFrom", "(LAgingStamps$Post;)V"⟩
abbrev cX1_hasStamp : ByteArray := prog_3_method_4_code
def yX1_hasStamp : MethodName := ⟨RX1, "hasStamp", "(I)Z"⟩
abbrev cX1_hasLetter : ByteArray := prog_3_method_5_code
def yX1_hasLetter : MethodName := ⟨RX1, "hasLetter", "(I)Z"⟩
abbrev cX1_allBits : ByteArray := prog_3_method_6_code
def yX1_allBits : MethodName := ⟨RX1, "allBits", "()I"⟩
abbrev cX1_addStamp : ByteArray := prog_3_method_7_code
def yX1_addStamp : MethodName := ⟨RX1, "addStamp", "(III)V"⟩
abbrev cX1_addLetter : ByteArray := prog_3_method_8_code
def yX1_addLetter : MethodName := ⟨RX1, "addLetter", "(II)V"⟩
abbrev cX1_joinTwo : ByteArray := prog_3_method_9_code
def yX1_joinTwo : MethodName := ⟨RX1, "joinTwo", "(II)V"⟩
abbrev cX1_areJoined : ByteArray := prog_3_method_10_code
def yX1_areJoined : MethodName := ⟨RX1, "areJoined", "(II)Z"⟩
abbrev cX1_canJoin : ByteArray := prog_3_method_11_code
def yX1_canJoin : MethodName := ⟨RX1, "canJoin", "(II)Z"⟩
abbrev cX1_canJoinSome : ByteArray := prog_3_method_12_code
def yX1_canJoinSome : MethodName := ⟨RX1, "canJoinSome", "(I)Z"⟩
abbrev cX1_canJoinAny : ByteArray := prog_3_method_13_code
def yX1_canJoinAny : MethodName := ⟨RX1, "canJoinAny", "()Z"⟩
abbrev cX1_joinedToAny : ByteArray := prog_3_method_14_code
def yX1_joinedToAny : MethodName := ⟨RX1, "joinedToAny", "(I)I"⟩
abbrev cX1_span : ByteArray := prog_3_method_15_code
def yX1_span : MethodName := ⟨RX1, "span", "(I)I"⟩
abbrev cX1_isAlive : ByteArray := prog_3_method_16_code
def yX1_isAlive : MethodName := ⟨RX1, "isAlive", "(I)Z"⟩
abbrev cX1_rate : ByteArray := prog_3_method_17_code
def yX1_rate : MethodName := ⟨RX1, "rate", "(I)I"⟩
abbrev cX1_aliveBits : ByteArray := prog_3_method_18_code
def yX1_aliveBits : MethodName := ⟨RX1, "aliveBits", "()I"⟩
abbrev cX1_widowBits : ByteArray := prog_3_method_19_code
def yX1_widowBits : MethodName := ⟨RX1, "widowBits", "()I"⟩
abbrev cX1_freeBits : ByteArray := prog_3_method_20_code
def yX1_freeBits : MethodName := ⟨RX1, "freeBits", "()I"⟩
abbrev cX1_stuckBits : ByteArray := prog_3_method_21_code
def yX1_stuckBits : MethodName := ⟨RX1, "stuckBits", "(I)I"⟩
abbrev cX1_fateBits : ByteArray := prog_3_method_22_code
def yX1_fateBits : MethodName := ⟨RX1, "fateBits", "(I)I"⟩
abbrev cX1_goodFor : ByteArray := prog_3_method_23_code
def yX1_goodFor : MethodName := ⟨RX1, "goodFor", "(I)I"⟩
abbrev cX1_affordable : ByteArray := prog_3_method_24_code
def yX1_affordable : MethodName := ⟨RX1, "affordable", "(I)I"⟩
abbrev cX1_livingPairs : ByteArray := prog_3_method_25_code
def yX1_livingPairs : MethodName := ⟨RX1, "livingPairs", "()I"⟩
abbrev cX1_canStick : ByteArray := prog_3_method_26_code
def yX1_canStick : MethodName := ⟨RX1, "canStick", "(II)Z"⟩
abbrev cX1_stickOn : ByteArray := prog_3_method_27_code
def yX1_stickOn : MethodName := ⟨RX1, "stickOn", "(II)V"⟩
abbrev cX1_canSend : ByteArray := prog_3_method_28_code
def yX1_canSend : MethodName := ⟨RX1, "canSend", "(I)Z"⟩
abbrev cX1_sendOff : ByteArray := prog_3_method_29_code
def yX1_sendOff : MethodName := ⟨RX1, "sendOff", "(I)V"⟩
abbrev cX1_partTwo : ByteArray := prog_3_method_30_code
def yX1_partTwo : MethodName := ⟨RX1, "partTwo", "(II)V"⟩
abbrev cX1_passWeek : ByteArray := prog_3_method_31_code
def yX1_passWeek : MethodName := ⟨RX1, "passWeek", "()V"⟩
abbrev cX1_growOlder : ByteArray := prog_3_method_32_code
def yX1_growOlder : MethodName := ⟨RX1, "growOlder", "(II)V"⟩
abbrev cX1_carry : ByteArray := prog_3_method_33_code
def yX1_carry : MethodName := ⟨RX1, "carry", "(I)V"⟩
abbrev cX1_does : ByteArray := prog_3_method_34_code
def yX1_does : MethodName := ⟨RX1, "does", "(I)Z"⟩
def RX2 : String := "AgingStamps$Reader"
def TX2 : u_T := fun k => match k with
  | 0 => ("AgingStamps$Reader", "begun", "Z", false)
  | 1 => ("AgingStamps$Reader", "part", "I", false)
  | 2 => ("AgingStamps$Reader", "figures", "I", false)
  | 3 => ("AgingStamps$Reader", "first", "I", false)
  | _ => ("AgingStamps$Reader", "second", "I", false)
def tyX2 : Nat → FieldType := fun k => match k with
  | 0 => .boolean
  | 1 => .int
  | 2 => .int
  | 3 => .int
  | _ => .int
abbrev wsX20 : List Cond := u_ws RX2 TX2 5
theorem nmX2 : ∀ a, a < 5 → ∀ b, b < 5 → a ≠ b → (TX2 a).2.1 ≠ (TX2 b).2.1 := by decide +kernel
theorem tyX2_ok : ∀ k, k < 5 → parseFieldDescriptor (TX2 k).2.2.1 = some (tyX2 k) := by decide +kernel
abbrev cX2_init : ByteArray := prog_4_method_1_code
def yX2_init : MethodName := ⟨RX2, "<init>", "()V"⟩
abbrev cX2_begin : ByteArray := prog_4_method_2_code
def yX2_begin : MethodName := ⟨RX2, "begin", "()V"⟩
abbrev cX2_mayEnd : ByteArray := prog_4_method_3_code
def yX2_mayEnd : MethodName := ⟨RX2, "mayEnd", "()Z"⟩
abbrev cX2_takes : ByteArray := prog_4_method_4_code
def yX2_takes : MethodName := ⟨RX2, "takes", "(ILAgingStamps$Post;)Z"⟩
abbrev cX2_opens : ByteArray := prog_4_method_5_code
def yX2_opens : MethodName := ⟨RX2, "opens", "(ILAgingStamps$Post;)Z"⟩
abbrev cX2_takesOfStamp : ByteArray := prog_4_method_6_code
def yX2_takesOfStamp : MethodName := ⟨RX2, "takesOfStamp", "(ILAgingStamps$Post;)Z"⟩
abbrev cX2_takesOfJoin : ByteArray := prog_4_method_7_code
def yX2_takesOfJoin : MethodName := ⟨RX2, "takesOfJoin", "(ILAgingStamps$Post;)Z"⟩
abbrev cX2_takesOfLetter : ByteArray := prog_4_method_8_code
def yX2_takesOfLetter : MethodName := ⟨RX2, "takesOfLetter", "(ILAgingStamps$Post;)Z"⟩
abbrev cX2_hold : ByteArray := prog_4_method_9_code
def yX2_hold : MethodName := ⟨RX2, "hold", "(I)V"⟩
def RX3 : String := "AgingStamps"
def TX3 : u_T := fun k => match k with
  | 0 => ("AgingStamps", "text", "[I", true)
  | 1 => ("AgingStamps", "length", "I", false)
  | 2 => ("AgingStamps", "reader", "LAgingStamps$Reader;", true)
  | 3 => ("AgingStamps", "now", "LAgingStamps$Post;", true)
  | 4 => ("AgingStamps", "trial", "LAgingStamps$Post;", true)
  | 5 => ("AgingStamps", "acts", "LAgingStamps$Memory;", true)
  | 6 => ("AgingStamps", "actCount", "I", false)
  | 7 => ("AgingStamps", "slots", "LAgingStamps$Memory;", true)
  | 8 => ("AgingStamps", "slotUsed", "[Z", true)
  | 9 => ("AgingStamps", "seenStamp", "[I", true)
  | 10 => ("AgingStamps", "seenWeeks", "[I", true)
  | 11 => ("AgingStamps", "seenAlive", "[Z", true)
  | 12 => ("AgingStamps", "seenCount", "I", false)
  | 13 => ("AgingStamps", "doings", "[I", true)
  | _ => ("AgingStamps", "seed", "J", false)
def tyX3 : Nat → FieldType := fun k => match k with
  | 0 => .array .int
  | 1 => .int
  | 2 => .object "AgingStamps$Reader"
  | 3 => .object "AgingStamps$Post"
  | 4 => .object "AgingStamps$Post"
  | 5 => .object "AgingStamps$Memory"
  | 6 => .int
  | 7 => .object "AgingStamps$Memory"
  | 8 => .array .boolean
  | 9 => .array .int
  | 10 => .array .int
  | 11 => .array .boolean
  | 12 => .int
  | 13 => .array .int
  | _ => .long
abbrev wsX30 : List Cond := u_ws RX3 TX3 15
theorem nmX3 : ∀ a, a < 15 → ∀ b, b < 15 → a ≠ b → (TX3 a).2.1 ≠ (TX3 b).2.1 := by decide +kernel
theorem tyX3_ok : ∀ k, k < 15 → parseFieldDescriptor (TX3 k).2.2.1 = some (tyX3 k) := by decide +kernel
abbrev cX3_init : ByteArray := prog_1_method_1_code
def yX3_init : MethodName := ⟨RX3, "<init>", "()V"⟩
abbrev cX3_write : ByteArray := prog_1_method_2_code
def yX3_write : MethodName := ⟨RX3, "write", "(I)I"⟩
abbrev cX3_wipe : ByteArray := prog_1_method_3_code
def yX3_wipe : MethodName := ⟨RX3, "wipe", "()I"⟩
abbrev cX3_fault : ByteArray := prog_1_method_4_code
def yX3_fault : MethodName := ⟨RX3, "fault", "()I"⟩
abbrev cX3_album : ByteArray := prog_1_method_5_code
def yX3_album : MethodName := ⟨RX3, "album", "()I"⟩
abbrev cX3_stamp : ByteArray := prog_1_method_6_code
def yX3_stamp : MethodName := ⟨RX3, "stamp", "(II)I"⟩
abbrev cX3_letter : ByteArray := prog_1_method_7_code
def yX3_letter : MethodName := ⟨RX3, "letter", "(II)I"⟩
abbrev cX3_week : ByteArray := prog_1_method_8_code
def yX3_week : MethodName := ⟨RX3, "week", "()I"⟩
abbrev cX3_stick : ByteArray := prog_1_method_9_code
def yX3_stick : MethodName := ⟨RX3, "stick", "(II)I"⟩
abbrev cX3_send : ByteArray := prog_1_method_10_code
def yX3_send : MethodName := ⟨RX3, "send", "(I)I"⟩
abbrev cX3_part : ByteArray := prog_1_method_11_code
def yX3_part : MethodName := ⟨RX3, "part", "(II)I"⟩
abbrev cX3_damp : ByteArray := prog_1_method_12_code
def yX3_damp : MethodName := ⟨RX3, "damp", "()I"⟩
abbrev cX3_undo : ByteArray := prog_1_method_13_code
def yX3_undo : MethodName := ⟨RX3, "undo", "()I"⟩
abbrev cX3_lives : ByteArray := prog_1_method_14_code
def yX3_lives : MethodName := ⟨RX3, "lives", "(I)I"⟩
abbrev cX3_comes : ByteArray := prog_1_method_15_code
def yX3_comes : MethodName := ⟨RX3, "comes", "(II)I"⟩
abbrev cX3_fewest : ByteArray := prog_1_method_16_code
def yX3_fewest : MethodName := ⟨RX3, "fewest", "(I)I"⟩
abbrev cX3_block : ByteArray := prog_1_method_17_code
def yX3_block : MethodName := ⟨RX3, "block", "(I)I"⟩
abbrev cX3_judge : ByteArray := prog_1_method_18_code
def yX3_judge : MethodName := ⟨RX3, "judge", "(IJ)I"⟩
abbrev cX3_see : ByteArray := prog_1_method_19_code
def yX3_see : MethodName := ⟨RX3, "see", "(III)I"⟩
abbrev cX3_unsee : ByteArray := prog_1_method_20_code
def yX3_unsee : MethodName := ⟨RX3, "unsee", "()I"⟩
abbrev cX3_bought : ByteArray := prog_1_method_21_code
def yX3_bought : MethodName := ⟨RX3, "bought", "(I)I"⟩
abbrev cX3_share : ByteArray := prog_1_method_22_code
def yX3_share : MethodName := ⟨RX3, "share", "(IZ)I"⟩
abbrev cX3_rests : ByteArray := prog_1_method_23_code
def yX3_rests : MethodName := ⟨RX3, "rests", "(IIII)I"⟩
abbrev cX3_born : ByteArray := prog_1_method_24_code
def yX3_born : MethodName := ⟨RX3, "born", "(IIZ)I"⟩
abbrev cX3_seed : ByteArray := prog_1_method_25_code
def yX3_seed : MethodName := ⟨RX3, "seed", "(J)J"⟩
abbrev cX3_years : ByteArray := prog_1_method_26_code
def yX3_years : MethodName := ⟨RX3, "years", "(I)I"⟩
abbrev cX3_keep : ByteArray := prog_1_method_27_code
def yX3_keep : MethodName := ⟨RX3, "keep", "(I)I"⟩
abbrev cX3_again : ByteArray := prog_1_method_28_code
def yX3_again : MethodName := ⟨RX3, "again", "(I)I"⟩
abbrev cX3_count : ByteArray := prog_1_method_29_code
def yX3_count : MethodName := ⟨RX3, "count", "(I)I"⟩
abbrev cX3_readInto : ByteArray := prog_1_method_30_code
def yX3_readInto : MethodName := ⟨RX3, "readInto", "(LAgingStamps$Post;)I"⟩
abbrev cX3_remember : ByteArray := prog_1_method_31_code
def yX3_remember : MethodName := ⟨RX3, "remember", "()V"⟩
abbrev cX3_tryToSend : ByteArray := prog_1_method_32_code
def yX3_tryToSend : MethodName := ⟨RX3, "tryToSend", "(II)I"⟩
abbrev cX3_agreesWithSeen : ByteArray := prog_1_method_33_code
def yX3_agreesWithSeen : MethodName := ⟨RX3, "agreesWithSeen", "(II)Z"⟩
abbrev cX3_tryWeeks : ByteArray := prog_1_method_34_code
def yX3_tryWeeks : MethodName := ⟨RX3, "tryWeeks", "(I)V"⟩
abbrev cX3_isContent : ByteArray := prog_1_method_35_code
def yX3_isContent : MethodName := ⟨RX3, "isContent", "(III)Z"⟩
abbrev cX3_toldPart : ByteArray := prog_1_method_36_code
def yX3_toldPart : MethodName := ⟨RX3, "toldPart", "(JJZ)I"⟩
abbrev cX3_commonDivisor : ByteArray := prog_1_method_37_code
def yX3_commonDivisor : MethodName := ⟨RX3, "commonDivisor", "(JJ)J"⟩
abbrev cX3_factorial : ByteArray := prog_1_method_38_code
def yX3_factorial : MethodName := ⟨RX3, "factorial", "(I)J"⟩
abbrev cX3_power : ByteArray := prog_1_method_39_code
def yX3_power : MethodName := ⟨RX3, "power", "(II)J"⟩
abbrev cX3_choose : ByteArray := prog_1_method_40_code
def yX3_choose : MethodName := ⟨RX3, "choose", "(II)J"⟩
def RX4 : String := "AgingStampsModel"
def TX4 : u_T := fun k => match k with
  | 0 => ("AgingStampsModel", "stamps", "I", false)
  | 1 => ("AgingStampsModel", "letters", "I", false)
  | 2 => ("AgingStampsModel", "kind", "[I", true)
  | 3 => ("AgingStampsModel", "cost", "[I", true)
  | 4 => ("AgingStampsModel", "now", "[I", true)
  | 5 => ("AgingStampsModel", "readStamp", "[I", true)
  | 6 => ("AgingStampsModel", "readJoined", "[I", true)
  | 7 => ("AgingStampsModel", "readLetter", "[I", true)
  | 8 => ("AgingStampsModel", "readStamps", "I", false)
  | 9 => ("AgingStampsModel", "readLetters", "I", false)
  | 10 => ("AgingStampsModel", "text", "[I", true)
  | 11 => ("AgingStampsModel", "length", "I", false)
  | 12 => ("AgingStampsModel", "at", "I", false)
  | 13 => ("AgingStampsModel", "faultAt", "I", false)
  | 14 => ("AgingStampsModel", "acts", "I", false)
  | 15 => ("AgingStampsModel", "next", "I", false)
  | 16 => ("AgingStampsModel", "row", "[I", true)
  | 17 => ("AgingStampsModel", "seen", "I", false)
  | 18 => ("AgingStampsModel", "seenOf", "[I", true)
  | 19 => ("AgingStampsModel", "seenAfter", "[I", true)
  | 20 => ("AgingStampsModel", "seenAlive", "[I", true)
  | 21 => ("AgingStampsModel", "seed", "J", false)
  | 22 => ("AgingStampsModel", "isKept", "[Z", true)
  | _ => ("AgingStampsModel", "kept", "[I", true)
def tyX4 : Nat → FieldType := fun k => match k with
  | 0 => .int
  | 1 => .int
  | 2 => .array .int
  | 3 => .array .int
  | 4 => .array .int
  | 5 => .array .int
  | 6 => .array .int
  | 7 => .array .int
  | 8 => .int
  | 9 => .int
  | 10 => .array .int
  | 11 => .int
  | 12 => .int
  | 13 => .int
  | 14 => .int
  | 15 => .int
  | 16 => .array .int
  | 17 => .int
  | 18 => .array .int
  | 19 => .array .int
  | 20 => .array .int
  | 21 => .long
  | 22 => .array .boolean
  | _ => .array .int
abbrev wsX40 : List Cond := u_ws RX4 TX4 24
theorem nmX4 : ∀ a, a < 24 → ∀ b, b < 24 → a ≠ b → (TX4 a).2.1 ≠ (TX4 b).2.1 := by decide +kernel
theorem tyX4_ok : ∀ k, k < 24 → parseFieldDescriptor (TX4 k).2.2.1 = some (tyX4 k) := by decide +kernel
abbrev cX4_init : ByteArray := prog_6_method_1_code
def yX4_init : MethodName := ⟨RX4, "<init>", "()V"⟩
abbrev cX4_in : ByteArray := prog_6_method_3_code
def yX4_in : MethodName := ⟨RX4, "in", "(JJJ)Z"⟩
abbrev cX4_has : ByteArray := prog_6_method_4_code
def yX4_has : MethodName := ⟨RX4, "has", "(II)Z"⟩
abbrev cX4_ones : ByteArray := prog_6_method_5_code
def yX4_ones : MethodName := ⟨RX4, "ones", "(I)I"⟩
abbrev cX4_write : ByteArray := prog_6_method_6_code
def yX4_write : MethodName := ⟨RX4, "write", "(I)I"⟩
abbrev cX4_wipe : ByteArray := prog_6_method_7_code
def yX4_wipe : MethodName := ⟨RX4, "wipe", "()I"⟩
abbrev cX4_figureOf : ByteArray := prog_6_method_8_code
def yX4_figureOf : MethodName := ⟨RX4, "figureOf", "(I)I"⟩
abbrev cX4_left : ByteArray := prog_6_method_9_code
def yX4_left : MethodName := ⟨RX4, "left", "(I)I"⟩
abbrev cX4_firstsLeft : ByteArray := prog_6_method_10_code
def yX4_firstsLeft : MethodName := ⟨RX4, "firstsLeft", "()I"⟩
abbrev cX4_readText : ByteArray := prog_6_method_11_code
def yX4_readText : MethodName := ⟨RX4, "readText", "()I"⟩
abbrev cX4_readPart : ByteArray := prog_6_method_12_code
def yX4_readPart : MethodName := ⟨RX4, "readPart", "(I)V"⟩
abbrev cX4_fault : ByteArray := prog_6_method_13_code
def yX4_fault : MethodName := ⟨RX4, "fault", "()I"⟩
abbrev cX4_album : ByteArray := prog_6_method_14_code
def yX4_album : MethodName := ⟨RX4, "album", "()I"⟩
abbrev cX4_isStamp : ByteArray := prog_6_method_15_code
def yX4_isStamp : MethodName := ⟨RX4, "isStamp", "(I)Z"⟩
abbrev cX4_isLetter : ByteArray := prog_6_method_16_code
def yX4_isLetter : MethodName := ⟨RX4, "isLetter", "(I)Z"⟩
abbrev cX4_span : ByteArray := prog_6_method_17_code
def yX4_span : MethodName := ⟨RX4, "span", "(II)I"⟩
abbrev cX4_isAlive : ByteArray := prog_6_method_18_code
def yX4_isAlive : MethodName := ⟨RX4, "isAlive", "(II)Z"⟩
abbrev cX4_living : ByteArray := prog_6_method_19_code
def yX4_living : MethodName := ⟨RX4, "living", "(I)I"⟩
abbrev cX4_rate : ByteArray := prog_6_method_20_code
def yX4_rate : MethodName := ⟨RX4, "rate", "(II)I"⟩
abbrev cX4_onLetter : ByteArray := prog_6_method_21_code
def yX4_onLetter : MethodName := ⟨RX4, "onLetter", "(II)I"⟩
abbrev cX4_goodFor : ByteArray := prog_6_method_22_code
def yX4_goodFor : MethodName := ⟨RX4, "goodFor", "(II)I"⟩
abbrev cX4_widows : ByteArray := prog_6_method_23_code
def yX4_widows : MethodName := ⟨RX4, "widows", "(I)I"⟩
abbrev cX4_age : ByteArray := prog_6_method_24_code
def yX4_age : MethodName := ⟨RX4, "age", "(III)V"⟩
abbrev cX4_passOn : ByteArray := prog_6_method_25_code
def yX4_passOn : MethodName := ⟨RX4, "passOn", "(I)V"⟩
abbrev cX4_stamp : ByteArray := prog_6_method_26_code
def yX4_stamp : MethodName := ⟨RX4, "stamp", "(II)I"⟩
abbrev cX4_letter : ByteArray := prog_6_method_27_code
def yX4_letter : MethodName := ⟨RX4, "letter", "(II)I"⟩
abbrev cX4_keepAct : ByteArray := prog_6_method_28_code
def yX4_keepAct : MethodName := ⟨RX4, "keepAct", "()V"⟩
abbrev cX4_week : ByteArray := prog_6_method_29_code
def yX4_week : MethodName := ⟨RX4, "week", "()I"⟩
abbrev cX4_isFree : ByteArray := prog_6_method_30_code
def yX4_isFree : MethodName := ⟨RX4, "isFree", "(II)Z"⟩
abbrev cX4_canStick : ByteArray := prog_6_method_31_code
def yX4_canStick : MethodName := ⟨RX4, "canStick", "(III)Z"⟩
abbrev cX4_stickOn : ByteArray := prog_6_method_32_code
def yX4_stickOn : MethodName := ⟨RX4, "stickOn", "(III)V"⟩
abbrev cX4_stick : ByteArray := prog_6_method_33_code
def yX4_stick : MethodName := ⟨RX4, "stick", "(II)I"⟩
abbrev cX4_canSend : ByteArray := prog_6_method_34_code
def yX4_canSend : MethodName := ⟨RX4, "canSend", "(II)Z"⟩
abbrev cX4_send : ByteArray := prog_6_method_35_code
def yX4_send : MethodName := ⟨RX4, "send", "(I)I"⟩
abbrev cX4_canPart : ByteArray := prog_6_method_36_code
def yX4_canPart : MethodName := ⟨RX4, "canPart", "(III)Z"⟩
abbrev cX4_partOn : ByteArray := prog_6_method_37_code
def yX4_partOn : MethodName := ⟨RX4, "partOn", "(III)V"⟩
abbrev cX4_part : ByteArray := prog_6_method_38_code
def yX4_part : MethodName := ⟨RX4, "part", "(II)I"⟩
abbrev cX4_damp : ByteArray := prog_6_method_39_code
def yX4_damp : MethodName := ⟨RX4, "damp", "()I"⟩
abbrev cX4_undo : ByteArray := prog_6_method_40_code
def yX4_undo : MethodName := ⟨RX4, "undo", "()I"⟩
abbrev cX4_layTrial : ByteArray := prog_6_method_41_code
def yX4_layTrial : MethodName := ⟨RX4, "layTrial", "()V"⟩
abbrev cX4_lives : ByteArray := prog_6_method_42_code
def yX4_lives : MethodName := ⟨RX4, "lives", "(I)I"⟩
abbrev cX4_ends : ByteArray := prog_6_method_43_code
def yX4_ends : MethodName := ⟨RX4, "ends", "(II)I"⟩
abbrev cX4_freeOnes : ByteArray := prog_6_method_44_code
def yX4_freeOnes : MethodName := ⟨RX4, "freeOnes", "()I"⟩
abbrev cX4_comes : ByteArray := prog_6_method_45_code
def yX4_comes : MethodName := ⟨RX4, "comes", "(II)I"⟩
abbrev cX4_fewest : ByteArray := prog_6_method_46_code
def yX4_fewest : MethodName := ⟨RX4, "fewest", "(I)I"⟩
abbrev cX4_block : ByteArray := prog_6_method_47_code
def yX4_block : MethodName := ⟨RX4, "block", "(I)I"⟩
abbrev cX4_tenTo : ByteArray := prog_6_method_48_code
def yX4_tenTo : MethodName := ⟨RX4, "tenTo", "(I)J"⟩
abbrev cX4_tryThing : ByteArray := prog_6_method_49_code
def yX4_tryThing : MethodName := ⟨RX4, "tryThing", "(III)Z"⟩
abbrev cX4_judge : ByteArray := prog_6_method_50_code
def yX4_judge : MethodName := ⟨RX4, "judge", "(IJ)I"⟩
abbrev cX4_see : ByteArray := prog_6_method_51_code
def yX4_see : MethodName := ⟨RX4, "see", "(III)I"⟩
abbrev cX4_unsee : ByteArray := prog_6_method_52_code
def yX4_unsee : MethodName := ⟨RX4, "unsee", "()I"⟩
abbrev cX4_bought : ByteArray := prog_6_method_53_code
def yX4_bought : MethodName := ⟨RX4, "bought", "(I)I"⟩
abbrev cX4_factorial : ByteArray := prog_6_method_54_code
def yX4_factorial : MethodName := ⟨RX4, "factorial", "(I)I"⟩
abbrev cX4_common : ByteArray := prog_6_method_55_code
def yX4_common : MethodName := ⟨RX4, "common", "(JJ)J"⟩
abbrev cX4_paidBy : ByteArray := prog_6_method_56_code
def yX4_paidBy : MethodName := ⟨RX4, "paidBy", "(I)I"⟩
abbrev cX4_share : ByteArray := prog_6_method_57_code
def yX4_share : MethodName := ⟨RX4, "share", "(IZ)I"⟩
abbrev cX4_gain : ByteArray := prog_6_method_58_code
def yX4_gain : MethodName := ⟨RX4, "gain", "(IIII)I"⟩
abbrev cX4_isRest : ByteArray := prog_6_method_59_code
def yX4_isRest : MethodName := ⟨RX4, "isRest", "(IIIII)Z"⟩
abbrev cX4_rests : ByteArray := prog_6_method_60_code
def yX4_rests : MethodName := ⟨RX4, "rests", "(IIII)I"⟩
abbrev cX4_born : ByteArray := prog_6_method_61_code
def yX4_born : MethodName := ⟨RX4, "born", "(IIZ)I"⟩
abbrev cX4_seed : ByteArray := prog_6_method_62_code
def yX4_seed : MethodName := ⟨RX4, "seed", "(J)J"⟩
abbrev cX4_years : ByteArray := prog_6_method_63_code
def yX4_years : MethodName := ⟨RX4, "years", "(I)I"⟩
abbrev cX4_keep : ByteArray := prog_6_method_64_code
def yX4_keep : MethodName := ⟨RX4, "keep", "(I)I"⟩
abbrev cX4_again : ByteArray := prog_6_method_65_code
def yX4_again : MethodName := ⟨RX4, "again", "(I)I"⟩
abbrev cX4_lettersThatAre : ByteArray := prog_6_method_66_code
def yX4_lettersThatAre : MethodName := ⟨RX4, "lettersThatAre", "(I)I"⟩
abbrev cX4_count : ByteArray := prog_6_method_67_code
def yX4_count : MethodName := ⟨RX4, "count", "(I)I"⟩
def RJ6 : String := "java/lang/Integer"
def TJ6 : u_T := fun k => match k with
  | _ => ("", "", "", false)
def tyJ6 : Nat → FieldType := fun k => match k with
  | _ => .int
abbrev cJ6_bitCount_0f7a4 : ByteArray := prog_7_method_49_code
def yJ6_bitCount_0f7a4 : MethodName := ⟨RJ6, "bitCount", "(I)I"⟩
def RJ9 : String := "java/lang/Math"
def TJ9 : u_T := fun k => match k with
  | _ => ("", "", "", false)
def tyJ9 : Nat → FieldType := fun k => match k with
  | _ => .int
abbrev cJ9_max_7cf53 : ByteArray := prog_8_method_65_code
def yJ9_max_7cf53 : MethodName := ⟨RJ9, "max", "(II)I"⟩
abbrev cJ9_min_7cf53 : ByteArray := prog_8_method_69_code
def yJ9_min_7cf53 : MethodName := ⟨RJ9, "min", "(II)I"⟩
def RJ7 : String := "java/util/Arrays"
def TJ7 : u_T := fun k => match k with
  | _ => ("", "", "", false)
def tyJ7 : Nat → FieldType := fun k => match k with
  | _ => .int
abbrev cJ7_fill_53178 : ByteArray := prog_10_method_103_code
def yJ7_fill_53178 : MethodName := ⟨RJ7, "fill", "([II)V"⟩
def RL : String := "AgingStampsLaw"
abbrev cL_law : ByteArray := code
def yL_law : MethodName := ⟨RL, "law", "([I)Z"⟩
abbrev vwCl : List vw_C := [(RX0, TX0, 1), (RX1, TX1, 12), (RX2, TX2, 5), (RX3, TX3, 15), (RX4, TX4, 24)]
