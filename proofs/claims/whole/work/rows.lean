section
-- ===== PART A: goes FIRST, ahead of the names: the tables' words, and 'selects' of the private methods out of them =====
/-- a private method of a class that the tables say can be made, by its rows of tables_1 -/
def lw_okq (q : MethodName × Nat) : Prop := (q.1.cls ≠ "java/lang/invoke/MethodHandle" ∧ q.1.cls ≠ "java/lang/invoke/VarHandle") ∧ Cond.instantiable q.1.cls q.2 ∈ tables_1 ∧ Cond.privateMethod q.1 ∈ tables_1 ∧ Cond.instanceMethod q.1 ∈ tables_1
theorem lw_p0 : lw_okq (⟨"AgingStamps", "readInto", "(LAgingStamps$Post;)I"⟩, 15) := ⟨⟨by decide +kernel, by decide +kernel⟩, List.mem_of_getElem? (i := 11) (by decide +kernel), List.mem_of_getElem? (i := 179) (by decide +kernel), List.mem_of_getElem? (i := 180) (by decide +kernel)⟩
theorem lw_p1 : lw_okq (⟨"AgingStamps$Reader", "opens", "(ILAgingStamps$Post;)Z"⟩, 5) := ⟨⟨by decide +kernel, by decide +kernel⟩, List.mem_of_getElem? (i := 19) (by decide +kernel), List.mem_of_getElem? (i := 198) (by decide +kernel), List.mem_of_getElem? (i := 199) (by decide +kernel)⟩
theorem lw_p2 : lw_okq (⟨"AgingStamps$Reader", "takesOfStamp", "(ILAgingStamps$Post;)Z"⟩, 5) := ⟨⟨by decide +kernel, by decide +kernel⟩, List.mem_of_getElem? (i := 19) (by decide +kernel), List.mem_of_getElem? (i := 218) (by decide +kernel), List.mem_of_getElem? (i := 219) (by decide +kernel)⟩
theorem lw_p3 : lw_okq (⟨"AgingStamps$Reader", "hold", "(I)V"⟩, 5) := ⟨⟨by decide +kernel, by decide +kernel⟩, List.mem_of_getElem? (i := 19) (by decide +kernel), List.mem_of_getElem? (i := 222) (by decide +kernel), List.mem_of_getElem? (i := 223) (by decide +kernel)⟩
theorem lw_p4 : lw_okq (⟨"AgingStamps$Reader", "takesOfJoin", "(ILAgingStamps$Post;)Z"⟩, 5) := ⟨⟨by decide +kernel, by decide +kernel⟩, List.mem_of_getElem? (i := 19) (by decide +kernel), List.mem_of_getElem? (i := 230) (by decide +kernel), List.mem_of_getElem? (i := 231) (by decide +kernel)⟩
theorem lw_p5 : lw_okq (⟨"AgingStamps$Reader", "takesOfLetter", "(ILAgingStamps$Post;)Z"⟩, 5) := ⟨⟨by decide +kernel, by decide +kernel⟩, List.mem_of_getElem? (i := 19) (by decide +kernel), List.mem_of_getElem? (i := 247) (by decide +kernel), List.mem_of_getElem? (i := 248) (by decide +kernel)⟩
theorem lw_p6 : lw_okq (⟨"AgingStamps", "remember", "()V"⟩, 15) := ⟨⟨by decide +kernel, by decide +kernel⟩, List.mem_of_getElem? (i := 11) (by decide +kernel), List.mem_of_getElem? (i := 313) (by decide +kernel), List.mem_of_getElem? (i := 314) (by decide +kernel)⟩
theorem lw_p7 : lw_okq (⟨"AgingStamps$Memory", "holds", "(I)Z"⟩, 1) := ⟨⟨by decide +kernel, by decide +kernel⟩, List.mem_of_getElem? (i := 107) (by decide +kernel), List.mem_of_getElem? (i := 326) (by decide +kernel), List.mem_of_getElem? (i := 327) (by decide +kernel)⟩
theorem lw_p8 : lw_okq (⟨"AgingStamps$Post", "growOlder", "(II)V"⟩, 12) := ⟨⟨by decide +kernel, by decide +kernel⟩, List.mem_of_getElem? (i := 42) (by decide +kernel), List.mem_of_getElem? (i := 338) (by decide +kernel), List.mem_of_getElem? (i := 339) (by decide +kernel)⟩
theorem lw_p9 : lw_okq (⟨"AgingStamps$Post", "carry", "(I)V"⟩, 12) := ⟨⟨by decide +kernel, by decide +kernel⟩, List.mem_of_getElem? (i := 42) (by decide +kernel), List.mem_of_getElem? (i := 346) (by decide +kernel), List.mem_of_getElem? (i := 347) (by decide +kernel)⟩
theorem lw_p10 : lw_okq (⟨"AgingStamps", "tryToSend", "(II)I"⟩, 15) := ⟨⟨by decide +kernel, by decide +kernel⟩, List.mem_of_getElem? (i := 11) (by decide +kernel), List.mem_of_getElem? (i := 419) (by decide +kernel), List.mem_of_getElem? (i := 420) (by decide +kernel)⟩
theorem lw_p11 : lw_okq (⟨"AgingStamps", "agreesWithSeen", "(II)Z"⟩, 15) := ⟨⟨by decide +kernel, by decide +kernel⟩, List.mem_of_getElem? (i := 11) (by decide +kernel), List.mem_of_getElem? (i := 462) (by decide +kernel), List.mem_of_getElem? (i := 463) (by decide +kernel)⟩
theorem lw_p12 : lw_okq (⟨"AgingStamps", "tryWeeks", "(I)V"⟩, 15) := ⟨⟨by decide +kernel, by decide +kernel⟩, List.mem_of_getElem? (i := 11) (by decide +kernel), List.mem_of_getElem? (i := 516) (by decide +kernel), List.mem_of_getElem? (i := 517) (by decide +kernel)⟩
theorem lw_p13 : lw_okq (⟨"AgingStampsModel", "readText", "()I"⟩, 24) := ⟨⟨by decide +kernel, by decide +kernel⟩, List.mem_of_getElem? (i := 537) (by decide +kernel), List.mem_of_getElem? (i := 632) (by decide +kernel), List.mem_of_getElem? (i := 633) (by decide +kernel)⟩
theorem lw_p14 : lw_okq (⟨"AgingStampsModel", "readPart", "(I)V"⟩, 24) := ⟨⟨by decide +kernel, by decide +kernel⟩, List.mem_of_getElem? (i := 537) (by decide +kernel), List.mem_of_getElem? (i := 636) (by decide +kernel), List.mem_of_getElem? (i := 637) (by decide +kernel)⟩
theorem lw_p15 : lw_okq (⟨"AgingStampsModel", "figureOf", "(I)I"⟩, 24) := ⟨⟨by decide +kernel, by decide +kernel⟩, List.mem_of_getElem? (i := 537) (by decide +kernel), List.mem_of_getElem? (i := 640) (by decide +kernel), List.mem_of_getElem? (i := 641) (by decide +kernel)⟩
def lw_privs_1 : List (MethodName × Nat) := [(⟨"AgingStamps", "readInto", "(LAgingStamps$Post;)I"⟩, 15), (⟨"AgingStamps$Reader", "opens", "(ILAgingStamps$Post;)Z"⟩, 5), (⟨"AgingStamps$Reader", "takesOfStamp", "(ILAgingStamps$Post;)Z"⟩, 5), (⟨"AgingStamps$Reader", "hold", "(I)V"⟩, 5), (⟨"AgingStamps$Reader", "takesOfJoin", "(ILAgingStamps$Post;)Z"⟩, 5), (⟨"AgingStamps$Reader", "takesOfLetter", "(ILAgingStamps$Post;)Z"⟩, 5), (⟨"AgingStamps", "remember", "()V"⟩, 15), (⟨"AgingStamps$Memory", "holds", "(I)Z"⟩, 1), (⟨"AgingStamps$Post", "growOlder", "(II)V"⟩, 12), (⟨"AgingStamps$Post", "carry", "(I)V"⟩, 12), (⟨"AgingStamps", "tryToSend", "(II)I"⟩, 15), (⟨"AgingStamps", "agreesWithSeen", "(II)Z"⟩, 15), (⟨"AgingStamps", "tryWeeks", "(I)V"⟩, 15), (⟨"AgingStampsModel", "readText", "()I"⟩, 24), (⟨"AgingStampsModel", "readPart", "(I)V"⟩, 24), (⟨"AgingStampsModel", "figureOf", "(I)I"⟩, 24)]
theorem lw_r1 : ∀ q ∈ lw_privs_1, lw_okq q := List.forall_mem_cons.mpr ⟨lw_p0, List.forall_mem_cons.mpr ⟨lw_p1, List.forall_mem_cons.mpr ⟨lw_p2, List.forall_mem_cons.mpr ⟨lw_p3, List.forall_mem_cons.mpr ⟨lw_p4, List.forall_mem_cons.mpr ⟨lw_p5, List.forall_mem_cons.mpr ⟨lw_p6, List.forall_mem_cons.mpr ⟨lw_p7, List.forall_mem_cons.mpr ⟨lw_p8, List.forall_mem_cons.mpr ⟨lw_p9, List.forall_mem_cons.mpr ⟨lw_p10, List.forall_mem_cons.mpr ⟨lw_p11, List.forall_mem_cons.mpr ⟨lw_p12, List.forall_mem_cons.mpr ⟨lw_p13, List.forall_mem_cons.mpr ⟨lw_p14, List.forall_mem_cons.mpr ⟨lw_p15, fun _ h => absurd h List.not_mem_nil⟩⟩⟩⟩⟩⟩⟩⟩⟩⟩⟩⟩⟩⟩⟩⟩
theorem lw_p16 : lw_okq (⟨"AgingStampsModel", "firstsLeft", "()I"⟩, 24) := ⟨⟨by decide +kernel, by decide +kernel⟩, List.mem_of_getElem? (i := 537) (by decide +kernel), List.mem_of_getElem? (i := 648) (by decide +kernel), List.mem_of_getElem? (i := 649) (by decide +kernel)⟩
theorem lw_p17 : lw_okq (⟨"AgingStampsModel", "left", "(I)I"⟩, 24) := ⟨⟨by decide +kernel, by decide +kernel⟩, List.mem_of_getElem? (i := 537) (by decide +kernel), List.mem_of_getElem? (i := 652) (by decide +kernel), List.mem_of_getElem? (i := 653) (by decide +kernel)⟩
theorem lw_p18 : lw_okq (⟨"AgingStampsModel", "isStamp", "(I)Z"⟩, 24) := ⟨⟨by decide +kernel, by decide +kernel⟩, List.mem_of_getElem? (i := 537) (by decide +kernel), List.mem_of_getElem? (i := 664) (by decide +kernel), List.mem_of_getElem? (i := 665) (by decide +kernel)⟩
theorem lw_p19 : lw_okq (⟨"AgingStampsModel", "span", "(II)I"⟩, 24) := ⟨⟨by decide +kernel, by decide +kernel⟩, List.mem_of_getElem? (i := 537) (by decide +kernel), List.mem_of_getElem? (i := 668) (by decide +kernel), List.mem_of_getElem? (i := 669) (by decide +kernel)⟩
theorem lw_p20 : lw_okq (⟨"AgingStampsModel", "rate", "(II)I"⟩, 24) := ⟨⟨by decide +kernel, by decide +kernel⟩, List.mem_of_getElem? (i := 537) (by decide +kernel), List.mem_of_getElem? (i := 672) (by decide +kernel), List.mem_of_getElem? (i := 673) (by decide +kernel)⟩
theorem lw_p21 : lw_okq (⟨"AgingStampsModel", "isAlive", "(II)Z"⟩, 24) := ⟨⟨by decide +kernel, by decide +kernel⟩, List.mem_of_getElem? (i := 537) (by decide +kernel), List.mem_of_getElem? (i := 676) (by decide +kernel), List.mem_of_getElem? (i := 677) (by decide +kernel)⟩
theorem lw_p22 : lw_okq (⟨"AgingStampsModel", "isLetter", "(I)Z"⟩, 24) := ⟨⟨by decide +kernel, by decide +kernel⟩, List.mem_of_getElem? (i := 537) (by decide +kernel), List.mem_of_getElem? (i := 684) (by decide +kernel), List.mem_of_getElem? (i := 685) (by decide +kernel)⟩
theorem lw_p23 : lw_okq (⟨"AgingStampsModel", "onLetter", "(II)I"⟩, 24) := ⟨⟨by decide +kernel, by decide +kernel⟩, List.mem_of_getElem? (i := 537) (by decide +kernel), List.mem_of_getElem? (i := 688) (by decide +kernel), List.mem_of_getElem? (i := 689) (by decide +kernel)⟩
theorem lw_p24 : lw_okq (⟨"AgingStampsModel", "goodFor", "(II)I"⟩, 24) := ⟨⟨by decide +kernel, by decide +kernel⟩, List.mem_of_getElem? (i := 537) (by decide +kernel), List.mem_of_getElem? (i := 692) (by decide +kernel), List.mem_of_getElem? (i := 693) (by decide +kernel)⟩
theorem lw_p25 : lw_okq (⟨"AgingStampsModel", "keepAct", "()V"⟩, 24) := ⟨⟨by decide +kernel, by decide +kernel⟩, List.mem_of_getElem? (i := 537) (by decide +kernel), List.mem_of_getElem? (i := 700) (by decide +kernel), List.mem_of_getElem? (i := 701) (by decide +kernel)⟩
theorem lw_p26 : lw_okq (⟨"AgingStampsModel", "passOn", "(I)V"⟩, 24) := ⟨⟨by decide +kernel, by decide +kernel⟩, List.mem_of_getElem? (i := 537) (by decide +kernel), List.mem_of_getElem? (i := 704) (by decide +kernel), List.mem_of_getElem? (i := 705) (by decide +kernel)⟩
theorem lw_p27 : lw_okq (⟨"AgingStampsModel", "living", "(I)I"⟩, 24) := ⟨⟨by decide +kernel, by decide +kernel⟩, List.mem_of_getElem? (i := 537) (by decide +kernel), List.mem_of_getElem? (i := 708) (by decide +kernel), List.mem_of_getElem? (i := 709) (by decide +kernel)⟩
theorem lw_p28 : lw_okq (⟨"AgingStampsModel", "age", "(III)V"⟩, 24) := ⟨⟨by decide +kernel, by decide +kernel⟩, List.mem_of_getElem? (i := 537) (by decide +kernel), List.mem_of_getElem? (i := 712) (by decide +kernel), List.mem_of_getElem? (i := 713) (by decide +kernel)⟩
theorem lw_p29 : lw_okq (⟨"AgingStampsModel", "widows", "(I)I"⟩, 24) := ⟨⟨by decide +kernel, by decide +kernel⟩, List.mem_of_getElem? (i := 537) (by decide +kernel), List.mem_of_getElem? (i := 716) (by decide +kernel), List.mem_of_getElem? (i := 717) (by decide +kernel)⟩
theorem lw_p30 : lw_okq (⟨"AgingStampsModel", "canStick", "(III)Z"⟩, 24) := ⟨⟨by decide +kernel, by decide +kernel⟩, List.mem_of_getElem? (i := 537) (by decide +kernel), List.mem_of_getElem? (i := 727) (by decide +kernel), List.mem_of_getElem? (i := 728) (by decide +kernel)⟩
theorem lw_p31 : lw_okq (⟨"AgingStampsModel", "isFree", "(II)Z"⟩, 24) := ⟨⟨by decide +kernel, by decide +kernel⟩, List.mem_of_getElem? (i := 537) (by decide +kernel), List.mem_of_getElem? (i := 731) (by decide +kernel), List.mem_of_getElem? (i := 732) (by decide +kernel)⟩
def lw_privs_2 : List (MethodName × Nat) := [(⟨"AgingStampsModel", "firstsLeft", "()I"⟩, 24), (⟨"AgingStampsModel", "left", "(I)I"⟩, 24), (⟨"AgingStampsModel", "isStamp", "(I)Z"⟩, 24), (⟨"AgingStampsModel", "span", "(II)I"⟩, 24), (⟨"AgingStampsModel", "rate", "(II)I"⟩, 24), (⟨"AgingStampsModel", "isAlive", "(II)Z"⟩, 24), (⟨"AgingStampsModel", "isLetter", "(I)Z"⟩, 24), (⟨"AgingStampsModel", "onLetter", "(II)I"⟩, 24), (⟨"AgingStampsModel", "goodFor", "(II)I"⟩, 24), (⟨"AgingStampsModel", "keepAct", "()V"⟩, 24), (⟨"AgingStampsModel", "passOn", "(I)V"⟩, 24), (⟨"AgingStampsModel", "living", "(I)I"⟩, 24), (⟨"AgingStampsModel", "age", "(III)V"⟩, 24), (⟨"AgingStampsModel", "widows", "(I)I"⟩, 24), (⟨"AgingStampsModel", "canStick", "(III)Z"⟩, 24), (⟨"AgingStampsModel", "isFree", "(II)Z"⟩, 24)]
theorem lw_r2 : ∀ q ∈ lw_privs_2, lw_okq q := List.forall_mem_cons.mpr ⟨lw_p16, List.forall_mem_cons.mpr ⟨lw_p17, List.forall_mem_cons.mpr ⟨lw_p18, List.forall_mem_cons.mpr ⟨lw_p19, List.forall_mem_cons.mpr ⟨lw_p20, List.forall_mem_cons.mpr ⟨lw_p21, List.forall_mem_cons.mpr ⟨lw_p22, List.forall_mem_cons.mpr ⟨lw_p23, List.forall_mem_cons.mpr ⟨lw_p24, List.forall_mem_cons.mpr ⟨lw_p25, List.forall_mem_cons.mpr ⟨lw_p26, List.forall_mem_cons.mpr ⟨lw_p27, List.forall_mem_cons.mpr ⟨lw_p28, List.forall_mem_cons.mpr ⟨lw_p29, List.forall_mem_cons.mpr ⟨lw_p30, List.forall_mem_cons.mpr ⟨lw_p31, fun _ h => absurd h List.not_mem_nil⟩⟩⟩⟩⟩⟩⟩⟩⟩⟩⟩⟩⟩⟩⟩⟩
theorem lw_p32 : lw_okq (⟨"AgingStampsModel", "stickOn", "(III)V"⟩, 24) := ⟨⟨by decide +kernel, by decide +kernel⟩, List.mem_of_getElem? (i := 537) (by decide +kernel), List.mem_of_getElem? (i := 735) (by decide +kernel), List.mem_of_getElem? (i := 736) (by decide +kernel)⟩
theorem lw_p33 : lw_okq (⟨"AgingStampsModel", "canSend", "(II)Z"⟩, 24) := ⟨⟨by decide +kernel, by decide +kernel⟩, List.mem_of_getElem? (i := 537) (by decide +kernel), List.mem_of_getElem? (i := 743) (by decide +kernel), List.mem_of_getElem? (i := 744) (by decide +kernel)⟩
theorem lw_p34 : lw_okq (⟨"AgingStampsModel", "canPart", "(III)Z"⟩, 24) := ⟨⟨by decide +kernel, by decide +kernel⟩, List.mem_of_getElem? (i := 537) (by decide +kernel), List.mem_of_getElem? (i := 751) (by decide +kernel), List.mem_of_getElem? (i := 752) (by decide +kernel)⟩
theorem lw_p35 : lw_okq (⟨"AgingStampsModel", "partOn", "(III)V"⟩, 24) := ⟨⟨by decide +kernel, by decide +kernel⟩, List.mem_of_getElem? (i := 537) (by decide +kernel), List.mem_of_getElem? (i := 755) (by decide +kernel), List.mem_of_getElem? (i := 756) (by decide +kernel)⟩
theorem lw_p36 : lw_okq (⟨"AgingStampsModel", "layTrial", "()V"⟩, 24) := ⟨⟨by decide +kernel, by decide +kernel⟩, List.mem_of_getElem? (i := 537) (by decide +kernel), List.mem_of_getElem? (i := 771) (by decide +kernel), List.mem_of_getElem? (i := 772) (by decide +kernel)⟩
theorem lw_p37 : lw_okq (⟨"AgingStampsModel", "freeOnes", "()I"⟩, 24) := ⟨⟨by decide +kernel, by decide +kernel⟩, List.mem_of_getElem? (i := 537) (by decide +kernel), List.mem_of_getElem? (i := 779) (by decide +kernel), List.mem_of_getElem? (i := 780) (by decide +kernel)⟩
theorem lw_p38 : lw_okq (⟨"AgingStampsModel", "ends", "(II)I"⟩, 24) := ⟨⟨by decide +kernel, by decide +kernel⟩, List.mem_of_getElem? (i := 537) (by decide +kernel), List.mem_of_getElem? (i := 783) (by decide +kernel), List.mem_of_getElem? (i := 784) (by decide +kernel)⟩
theorem lw_p39 : lw_okq (⟨"AgingStampsModel", "tryThing", "(III)Z"⟩, 24) := ⟨⟨by decide +kernel, by decide +kernel⟩, List.mem_of_getElem? (i := 537) (by decide +kernel), List.mem_of_getElem? (i := 805) (by decide +kernel), List.mem_of_getElem? (i := 806) (by decide +kernel)⟩
theorem lw_p40 : lw_okq (⟨"AgingStampsModel", "paidBy", "(I)I"⟩, 24) := ⟨⟨by decide +kernel, by decide +kernel⟩, List.mem_of_getElem? (i := 537) (by decide +kernel), List.mem_of_getElem? (i := 829) (by decide +kernel), List.mem_of_getElem? (i := 830) (by decide +kernel)⟩
theorem lw_p41 : lw_okq (⟨"AgingStampsModel", "isRest", "(IIIII)Z"⟩, 24) := ⟨⟨by decide +kernel, by decide +kernel⟩, List.mem_of_getElem? (i := 537) (by decide +kernel), List.mem_of_getElem? (i := 840) (by decide +kernel), List.mem_of_getElem? (i := 841) (by decide +kernel)⟩
theorem lw_p42 : lw_okq (⟨"AgingStampsModel", "gain", "(IIII)I"⟩, 24) := ⟨⟨by decide +kernel, by decide +kernel⟩, List.mem_of_getElem? (i := 537) (by decide +kernel), List.mem_of_getElem? (i := 844) (by decide +kernel), List.mem_of_getElem? (i := 845) (by decide +kernel)⟩
theorem lw_p43 : lw_okq (⟨"AgingStampsModel", "lettersThatAre", "(I)I"⟩, 24) := ⟨⟨by decide +kernel, by decide +kernel⟩, List.mem_of_getElem? (i := 537) (by decide +kernel), List.mem_of_getElem? (i := 875) (by decide +kernel), List.mem_of_getElem? (i := 876) (by decide +kernel)⟩
def lw_privs_3 : List (MethodName × Nat) := [(⟨"AgingStampsModel", "stickOn", "(III)V"⟩, 24), (⟨"AgingStampsModel", "canSend", "(II)Z"⟩, 24), (⟨"AgingStampsModel", "canPart", "(III)Z"⟩, 24), (⟨"AgingStampsModel", "partOn", "(III)V"⟩, 24), (⟨"AgingStampsModel", "layTrial", "()V"⟩, 24), (⟨"AgingStampsModel", "freeOnes", "()I"⟩, 24), (⟨"AgingStampsModel", "ends", "(II)I"⟩, 24), (⟨"AgingStampsModel", "tryThing", "(III)Z"⟩, 24), (⟨"AgingStampsModel", "paidBy", "(I)I"⟩, 24), (⟨"AgingStampsModel", "isRest", "(IIIII)Z"⟩, 24), (⟨"AgingStampsModel", "gain", "(IIII)I"⟩, 24), (⟨"AgingStampsModel", "lettersThatAre", "(I)I"⟩, 24)]
theorem lw_r3 : ∀ q ∈ lw_privs_3, lw_okq q := List.forall_mem_cons.mpr ⟨lw_p32, List.forall_mem_cons.mpr ⟨lw_p33, List.forall_mem_cons.mpr ⟨lw_p34, List.forall_mem_cons.mpr ⟨lw_p35, List.forall_mem_cons.mpr ⟨lw_p36, List.forall_mem_cons.mpr ⟨lw_p37, List.forall_mem_cons.mpr ⟨lw_p38, List.forall_mem_cons.mpr ⟨lw_p39, List.forall_mem_cons.mpr ⟨lw_p40, List.forall_mem_cons.mpr ⟨lw_p41, List.forall_mem_cons.mpr ⟨lw_p42, List.forall_mem_cons.mpr ⟨lw_p43, fun _ h => absurd h List.not_mem_nil⟩⟩⟩⟩⟩⟩⟩⟩⟩⟩⟩⟩
def lw_privs : List (MethodName × Nat) := lw_privs_1 ++ (lw_privs_2 ++ (lw_privs_3))
def lw_tbl : List Cond := k2_sels lw_privs ++ tables_1
theorem lw_privs_ok : ∀ q ∈ lw_privs, lw_okq q := by
  show ∀ q ∈ lw_privs_1 ++ (lw_privs_2 ++ (lw_privs_3)), lw_okq q
  exact List.forall_mem_append.mpr ⟨lw_r1, List.forall_mem_append.mpr ⟨lw_r2, lw_r3⟩⟩
-- ===== end of PART A; then your names; then what follows =====
def RX0 : String := "AgingStamps$Memory"
def TX0 : u_T := fun k => match k with
  | _ => ("AgingStamps$Memory", "cells", "[I", true)
def tyX0 : Nat → FieldType := fun k => match k with
  | _ => .array .int
abbrev wsX00 : List Cond := u_ws RX0 TX0 1
theorem nmX0 : ∀ a, a < 1 → ∀ b, b < 1 → a ≠ b → (TX0 a).2.1 ≠ (TX0 b).2.1 := by decide +kernel
theorem tyX0_ok : ∀ k, k < 1 → parseFieldDescriptor (TX0 k).2.2.1 = some (tyX0 k) := by decide +kernel
abbrev cX0_init : ByteArray := prog_2_method_1_code
def yX0_init : MethodName := ⟨RX0, "<init>", "(I)V"⟩
abbrev cX0_holds : ByteArray := prog_2_method_2_code
def yX0_holds : MethodName := ⟨RX0, "holds", "(I)Z"⟩
abbrev cX0_store : ByteArray := prog_2_method_3_code
def yX0_store : MethodName := ⟨RX0, "store", "(ILAgingStamps$Post;)V"⟩
abbrev cX0_load : ByteArray := prog_2_method_4_code
def yX0_load : MethodName := ⟨RX0, "load", "(ILAgingStamps$Post;)V"⟩
abbrev cX0_forgetFirst : ByteArray := prog_2_method_5_code
def yX0_forgetFirst : MethodName := ⟨RX0, "forgetFirst", "()V"⟩
def RX1 : String := "AgingStamps$Post"
def TX1 : u_T := fun k => match k with
  | 0 => ("AgingStamps$Post", "stamps", "I", false)
  | 1 => ("AgingStamps$Post", "letters", "I", false)
  | 2 => ("AgingStamps$Post", "week", "I", false)
  | 3 => ("AgingStamps$Post", "damp", "Z", false)
  | 4 => ("AgingStamps$Post", "age", "[I", true)
  | 5 => ("AgingStamps$Post", "health", "[I", true)
  | 6 => ("AgingStamps$Post", "kind", "[I", true)
  | 7 => ("AgingStamps$Post", "joined", "[I", true)
  | 8 => ("AgingStamps$Post", "on", "[I", true)
  | 9 => ("AgingStamps$Post", "left", "[I", true)
  | 10 => ("AgingStamps$Post", "cost", "[I", true)
  | _ => ("AgingStamps$Post", "fate", "[I", true)
def tyX1 : Nat → FieldType := fun k => match k with
  | 0 => .int
  | 1 => .int
  | 2 => .int
  | 3 => .boolean
  | 4 => .array .int
  | 5 => .array .int
  | 6 => .array .int
  | 7 => .array .int
  | 8 => .array .int
  | 9 => .array .int
  | 10 => .array .int
  | _ => .array .int
abbrev wsX10 : List Cond := u_ws RX1 TX1 12
theorem nmX1 : ∀ a, a < 12 → ∀ b, b < 12 → a ≠ b → (TX1 a).2.1 ≠ (TX1 b).2.1 := by decide +kernel
theorem tyX1_ok : ∀ k, k < 12 → parseFieldDescriptor (TX1 k).2.2.1 = some (tyX1 k) := by decide +kernel
abbrev cX1_init : ByteArray := prog_3_method_1_code
def yX1_init : MethodName := ⟨RX1, "<init>", "()V"⟩
abbrev cX1_clear : ByteArray := prog_3_method_2_code
def yX1_clear : MethodName := ⟨RX1, "clear", "()V"⟩
abbrev cX1_copyFrom : ByteArray := prog_3_method_3_code
def yX1_copyFrom : MethodName := ⟨RX1, "copyFrom", "(LAgingStamps$Post;)V"⟩
abbrev cX1_hasStamp : ByteArray := prog_3_method_4_code
def yX1_hasStamp : MethodName := ⟨RX1, "hasStamp", "(I)Z"⟩
abbrev cX1_hasLetter : ByteArray := prog_3_method_5_code
def yX1_hasLetter : MethodName := ⟨RX1, "hasLetter", "(I)Z"⟩
abbrev cX1_allBits : ByteArray := prog_3_method_6_code
def yX1_allBits : MethodName := ⟨RX1, "allBits", "()I"⟩
abbrev cX1_addStamp : ByteArray := prog_3_method_7_code
def yX1_addStamp : MethodName := ⟨RX1, "addStamp", "(III)V"⟩
abbrev cX1_addLetter : ByteArray := prog_3_method_8_code
def yX1_addLetter : MethodName := ⟨RX1, "addLetter", "(II)V"⟩
abbrev cX1_joinTwo : ByteArray := prog_3_method_9_code
def yX1_joinTwo : MethodName := ⟨RX1, "joinTwo", "(II)V"⟩
abbrev cX1_areJoined : ByteArray := prog_3_method_10_code
def yX1_areJoined : MethodName := ⟨RX1, "areJoined", "(II)Z"⟩
abbrev cX1_canJoin : ByteArray := prog_3_method_11_code
def yX1_canJoin : MethodName := ⟨RX1, "canJoin", "(II)Z"⟩
abbrev cX1_canJoinSome : ByteArray := prog_3_method_12_code
def yX1_canJoinSome : MethodName := ⟨RX1, "canJoinSome", "(I)Z"⟩
abbrev cX1_canJoinAny : ByteArray := prog_3_method_13_code
def yX1_canJoinAny : MethodName := ⟨RX1, "canJoinAny", "()Z"⟩
abbrev cX1_joinedToAny : ByteArray := prog_3_method_14_code
def yX1_joinedToAny : MethodName := ⟨RX1, "joinedToAny", "(I)I"⟩
abbrev cX1_span : ByteArray := prog_3_method_15_code
def yX1_span : MethodName := ⟨RX1, "span", "(I)I"⟩
abbrev cX1_isAlive : ByteArray := prog_3_method_16_code
def yX1_isAlive : MethodName := ⟨RX1, "isAlive", "(I)Z"⟩
abbrev cX1_rate : ByteArray := prog_3_method_17_code
def yX1_rate : MethodName := ⟨RX1, "rate", "(I)I"⟩
abbrev cX1_aliveBits : ByteArray := prog_3_method_18_code
def yX1_aliveBits : MethodName := ⟨RX1, "aliveBits", "()I"⟩
abbrev cX1_widowBits : ByteArray := prog_3_method_19_code
def yX1_widowBits : MethodName := ⟨RX1, "widowBits", "()I"⟩
abbrev cX1_freeBits : ByteArray := prog_3_method_20_code
def yX1_freeBits : MethodName := ⟨RX1, "freeBits", "()I"⟩
abbrev cX1_stuckBits : ByteArray := prog_3_method_21_code
def yX1_stuckBits : MethodName := ⟨RX1, "stuckBits", "(I)I"⟩
abbrev cX1_fateBits : ByteArray := prog_3_method_22_code
def yX1_fateBits : MethodName := ⟨RX1, "fateBits", "(I)I"⟩
abbrev cX1_goodFor : ByteArray := prog_3_method_23_code
def yX1_goodFor : MethodName := ⟨RX1, "goodFor", "(I)I"⟩
abbrev cX1_affordable : ByteArray := prog_3_method_24_code
def yX1_affordable : MethodName := ⟨RX1, "affordable", "(I)I"⟩
abbrev cX1_livingPairs : ByteArray := prog_3_method_25_code
def yX1_livingPairs : MethodName := ⟨RX1, "livingPairs", "()I"⟩
abbrev cX1_canStick : ByteArray := prog_3_method_26_code
def yX1_canStick : MethodName := ⟨RX1, "canStick", "(II)Z"⟩
abbrev cX1_stickOn : ByteArray := prog_3_method_27_code
def yX1_stickOn : MethodName := ⟨RX1, "stickOn", "(II)V"⟩
abbrev cX1_canSend : ByteArray := prog_3_method_28_code
def yX1_canSend : MethodName := ⟨RX1, "canSend", "(I)Z"⟩
abbrev cX1_sendOff : ByteArray := prog_3_method_29_code
def yX1_sendOff : MethodName := ⟨RX1, "sendOff", "(I)V"⟩
abbrev cX1_partTwo : ByteArray := prog_3_method_30_code
def yX1_partTwo : MethodName := ⟨RX1, "partTwo", "(II)V"⟩
abbrev cX1_passWeek : ByteArray := prog_3_method_31_code
def yX1_passWeek : MethodName := ⟨RX1, "passWeek", "()V"⟩
abbrev cX1_growOlder : ByteArray := prog_3_method_32_code
def yX1_growOlder : MethodName := ⟨RX1, "growOlder", "(II)V"⟩
abbrev cX1_carry : ByteArray := prog_3_method_33_code
def yX1_carry : MethodName := ⟨RX1, "carry", "(I)V"⟩
abbrev cX1_does : ByteArray := prog_3_method_34_code
def yX1_does : MethodName := ⟨RX1, "does", "(I)Z"⟩
def RX2 : String := "AgingStamps$Reader"
def TX2 : u_T := fun k => match k with
  | 0 => ("AgingStamps$Reader", "begun", "Z", false)
  | 1 => ("AgingStamps$Reader", "part", "I", false)
  | 2 => ("AgingStamps$Reader", "figures", "I", false)
  | 3 => ("AgingStamps$Reader", "first", "I", false)
  | _ => ("AgingStamps$Reader", "second", "I", false)
def tyX2 : Nat → FieldType := fun k => match k with
  | 0 => .boolean
  | 1 => .int
  | 2 => .int
  | 3 => .int
  | _ => .int
abbrev wsX20 : List Cond := u_ws RX2 TX2 5
theorem nmX2 : ∀ a, a < 5 → ∀ b, b < 5 → a ≠ b → (TX2 a).2.1 ≠ (TX2 b).2.1 := by decide +kernel
theorem tyX2_ok : ∀ k, k < 5 → parseFieldDescriptor (TX2 k).2.2.1 = some (tyX2 k) := by decide +kernel
abbrev cX2_init : ByteArray := prog_4_method_1_code
def yX2_init : MethodName := ⟨RX2, "<init>", "()V"⟩
abbrev cX2_begin : ByteArray := prog_4_method_2_code
def yX2_begin : MethodName := ⟨RX2, "begin", "()V"⟩
abbrev cX2_mayEnd : ByteArray := prog_4_method_3_code
def yX2_mayEnd : MethodName := ⟨RX2, "mayEnd", "()Z"⟩
abbrev cX2_takes : ByteArray := prog_4_method_4_code
def yX2_takes : MethodName := ⟨RX2, "takes", "(ILAgingStamps$Post;)Z"⟩
abbrev cX2_opens : ByteArray := prog_4_method_5_code
def yX2_opens : MethodName := ⟨RX2, "opens", "(ILAgingStamps$Post;)Z"⟩
abbrev cX2_takesOfStamp : ByteArray := prog_4_method_6_code
def yX2_takesOfStamp : MethodName := ⟨RX2, "takesOfStamp", "(ILAgingStamps$Post;)Z"⟩
abbrev cX2_takesOfJoin : ByteArray := prog_4_method_7_code
def yX2_takesOfJoin : MethodName := ⟨RX2, "takesOfJoin", "(ILAgingStamps$Post;)Z"⟩
abbrev cX2_takesOfLetter : ByteArray := prog_4_method_8_code
def yX2_takesOfLetter : MethodName := ⟨RX2, "takesOfLetter", "(ILAgingStamps$Post;)Z"⟩
abbrev cX2_hold : ByteArray := prog_4_method_9_code
def yX2_hold : MethodName := ⟨RX2, "hold", "(I)V"⟩
def RX3 : String := "AgingStamps"
def TX3 : u_T := fun k => match k with
  | 0 => ("AgingStamps", "text", "[I", true)
  | 1 => ("AgingStamps", "length", "I", false)
  | 2 => ("AgingStamps", "reader", "LAgingStamps$Reader;", true)
  | 3 => ("AgingStamps", "now", "LAgingStamps$Post;", true)
  | 4 => ("AgingStamps", "trial", "LAgingStamps$Post;", true)
  | 5 => ("AgingStamps", "acts", "LAgingStamps$Memory;", true)
  | 6 => ("AgingStamps", "actCount", "I", false)
  | 7 => ("AgingStamps", "slots", "LAgingStamps$Memory;", true)
  | 8 => ("AgingStamps", "slotUsed", "[Z", true)
  | 9 => ("AgingStamps", "seenStamp", "[I", true)
  | 10 => ("AgingStamps", "seenWeeks", "[I", true)
  | 11 => ("AgingStamps", "seenAlive", "[Z", true)
  | 12 => ("AgingStamps", "seenCount", "I", false)
  | 13 => ("AgingStamps", "doings", "[I", true)
  | _ => ("AgingStamps", "seed", "J", false)
def tyX3 : Nat → FieldType := fun k => match k with
  | 0 => .array .int
  | 1 => .int
  | 2 => .object "AgingStamps$Reader"
  | 3 => .object "AgingStamps$Post"
  | 4 => .object "AgingStamps$Post"
  | 5 => .object "AgingStamps$Memory"
  | 6 => .int
  | 7 => .object "AgingStamps$Memory"
  | 8 => .array .boolean
  | 9 => .array .int
  | 10 => .array .int
  | 11 => .array .boolean
  | 12 => .int
  | 13 => .array .int
  | _ => .long
abbrev wsX30 : List Cond := u_ws RX3 TX3 15
theorem nmX3 : ∀ a, a < 15 → ∀ b, b < 15 → a ≠ b → (TX3 a).2.1 ≠ (TX3 b).2.1 := by decide +kernel
theorem tyX3_ok : ∀ k, k < 15 → parseFieldDescriptor (TX3 k).2.2.1 = some (tyX3 k) := by decide +kernel
abbrev cX3_init : ByteArray := prog_1_method_1_code
def yX3_init : MethodName := ⟨RX3, "<init>", "()V"⟩
abbrev cX3_write : ByteArray := prog_1_method_2_code
def yX3_write : MethodName := ⟨RX3, "write", "(I)I"⟩
abbrev cX3_wipe : ByteArray := prog_1_method_3_code
def yX3_wipe : MethodName := ⟨RX3, "wipe", "()I"⟩
abbrev cX3_fault : ByteArray := prog_1_method_4_code
def yX3_fault : MethodName := ⟨RX3, "fault", "()I"⟩
abbrev cX3_album : ByteArray := prog_1_method_5_code
def yX3_album : MethodName := ⟨RX3, "album", "()I"⟩
abbrev cX3_stamp : ByteArray := prog_1_method_6_code
def yX3_stamp : MethodName := ⟨RX3, "stamp", "(II)I"⟩
abbrev cX3_letter : ByteArray := prog_1_method_7_code
def yX3_letter : MethodName := ⟨RX3, "letter", "(II)I"⟩
abbrev cX3_week : ByteArray := prog_1_method_8_code
def yX3_week : MethodName := ⟨RX3, "week", "()I"⟩
abbrev cX3_stick : ByteArray := prog_1_method_9_code
def yX3_stick : MethodName := ⟨RX3, "stick", "(II)I"⟩
abbrev cX3_send : ByteArray := prog_1_method_10_code
def yX3_send : MethodName := ⟨RX3, "send", "(I)I"⟩
abbrev cX3_part : ByteArray := prog_1_method_11_code
def yX3_part : MethodName := ⟨RX3, "part", "(II)I"⟩
abbrev cX3_damp : ByteArray := prog_1_method_12_code
def yX3_damp : MethodName := ⟨RX3, "damp", "()I"⟩
abbrev cX3_undo : ByteArray := prog_1_method_13_code
def yX3_undo : MethodName := ⟨RX3, "undo", "()I"⟩
abbrev cX3_lives : ByteArray := prog_1_method_14_code
def yX3_lives : MethodName := ⟨RX3, "lives", "(I)I"⟩
abbrev cX3_comes : ByteArray := prog_1_method_15_code
def yX3_comes : MethodName := ⟨RX3, "comes", "(II)I"⟩
abbrev cX3_fewest : ByteArray := prog_1_method_16_code
def yX3_fewest : MethodName := ⟨RX3, "fewest", "(I)I"⟩
abbrev cX3_block : ByteArray := prog_1_method_17_code
def yX3_block : MethodName := ⟨RX3, "block", "(I)I"⟩
abbrev cX3_judge : ByteArray := prog_1_method_18_code
def yX3_judge : MethodName := ⟨RX3, "judge", "(IJ)I"⟩
abbrev cX3_see : ByteArray := prog_1_method_19_code
def yX3_see : MethodName := ⟨RX3, "see", "(III)I"⟩
abbrev cX3_unsee : ByteArray := prog_1_method_20_code
def yX3_unsee : MethodName := ⟨RX3, "unsee", "()I"⟩
abbrev cX3_bought : ByteArray := prog_1_method_21_code
def yX3_bought : MethodName := ⟨RX3, "bought", "(I)I"⟩
abbrev cX3_share : ByteArray := prog_1_method_22_code
def yX3_share : MethodName := ⟨RX3, "share", "(IZ)I"⟩
abbrev cX3_rests : ByteArray := prog_1_method_23_code
def yX3_rests : MethodName := ⟨RX3, "rests", "(IIII)I"⟩
abbrev cX3_born : ByteArray := prog_1_method_24_code
def yX3_born : MethodName := ⟨RX3, "born", "(IIZ)I"⟩
abbrev cX3_seed : ByteArray := prog_1_method_25_code
def yX3_seed : MethodName := ⟨RX3, "seed", "(J)J"⟩
abbrev cX3_years : ByteArray := prog_1_method_26_code
def yX3_years : MethodName := ⟨RX3, "years", "(I)I"⟩
abbrev cX3_keep : ByteArray := prog_1_method_27_code
def yX3_keep : MethodName := ⟨RX3, "keep", "(I)I"⟩
abbrev cX3_again : ByteArray := prog_1_method_28_code
def yX3_again : MethodName := ⟨RX3, "again", "(I)I"⟩
abbrev cX3_count : ByteArray := prog_1_method_29_code
def yX3_count : MethodName := ⟨RX3, "count", "(I)I"⟩
abbrev cX3_readInto : ByteArray := prog_1_method_30_code
def yX3_readInto : MethodName := ⟨RX3, "readInto", "(LAgingStamps$Post;)I"⟩
abbrev cX3_remember : ByteArray := prog_1_method_31_code
def yX3_remember : MethodName := ⟨RX3, "remember", "()V"⟩
abbrev cX3_tryToSend : ByteArray := prog_1_method_32_code
def yX3_tryToSend : MethodName := ⟨RX3, "tryToSend", "(II)I"⟩
abbrev cX3_agreesWithSeen : ByteArray := prog_1_method_33_code
def yX3_agreesWithSeen : MethodName := ⟨RX3, "agreesWithSeen", "(II)Z"⟩
abbrev cX3_tryWeeks : ByteArray := prog_1_method_34_code
def yX3_tryWeeks : MethodName := ⟨RX3, "tryWeeks", "(I)V"⟩
abbrev cX3_isContent : ByteArray := prog_1_method_35_code
def yX3_isContent : MethodName := ⟨RX3, "isContent", "(III)Z"⟩
abbrev cX3_toldPart : ByteArray := prog_1_method_36_code
def yX3_toldPart : MethodName := ⟨RX3, "toldPart", "(JJZ)I"⟩
abbrev cX3_commonDivisor : ByteArray := prog_1_method_37_code
def yX3_commonDivisor : MethodName := ⟨RX3, "commonDivisor", "(JJ)J"⟩
abbrev cX3_factorial : ByteArray := prog_1_method_38_code
def yX3_factorial : MethodName := ⟨RX3, "factorial", "(I)J"⟩
abbrev cX3_power : ByteArray := prog_1_method_39_code
def yX3_power : MethodName := ⟨RX3, "power", "(II)J"⟩
abbrev cX3_choose : ByteArray := prog_1_method_40_code
def yX3_choose : MethodName := ⟨RX3, "choose", "(II)J"⟩
def RX4 : String := "AgingStampsModel"
def TX4 : u_T := fun k => match k with
  | 0 => ("AgingStampsModel", "stamps", "I", false)
  | 1 => ("AgingStampsModel", "letters", "I", false)
  | 2 => ("AgingStampsModel", "kind", "[I", true)
  | 3 => ("AgingStampsModel", "cost", "[I", true)
  | 4 => ("AgingStampsModel", "now", "[I", true)
  | 5 => ("AgingStampsModel", "readStamp", "[I", true)
  | 6 => ("AgingStampsModel", "readJoined", "[I", true)
  | 7 => ("AgingStampsModel", "readLetter", "[I", true)
  | 8 => ("AgingStampsModel", "readStamps", "I", false)
  | 9 => ("AgingStampsModel", "readLetters", "I", false)
  | 10 => ("AgingStampsModel", "text", "[I", true)
  | 11 => ("AgingStampsModel", "length", "I", false)
  | 12 => ("AgingStampsModel", "at", "I", false)
  | 13 => ("AgingStampsModel", "faultAt", "I", false)
  | 14 => ("AgingStampsModel", "acts", "I", false)
  | 15 => ("AgingStampsModel", "next", "I", false)
  | 16 => ("AgingStampsModel", "row", "[I", true)
  | 17 => ("AgingStampsModel", "seen", "I", false)
  | 18 => ("AgingStampsModel", "seenOf", "[I", true)
  | 19 => ("AgingStampsModel", "seenAfter", "[I", true)
  | 20 => ("AgingStampsModel", "seenAlive", "[I", true)
  | 21 => ("AgingStampsModel", "seed", "J", false)
  | 22 => ("AgingStampsModel", "isKept", "[Z", true)
  | _ => ("AgingStampsModel", "kept", "[I", true)
def tyX4 : Nat → FieldType := fun k => match k with
  | 0 => .int
  | 1 => .int
  | 2 => .array .int
  | 3 => .array .int
  | 4 => .array .int
  | 5 => .array .int
  | 6 => .array .int
  | 7 => .array .int
  | 8 => .int
  | 9 => .int
  | 10 => .array .int
  | 11 => .int
  | 12 => .int
  | 13 => .int
  | 14 => .int
  | 15 => .int
  | 16 => .array .int
  | 17 => .int
  | 18 => .array .int
  | 19 => .array .int
  | 20 => .array .int
  | 21 => .long
  | 22 => .array .boolean
  | _ => .array .int
abbrev wsX40 : List Cond := u_ws RX4 TX4 24
theorem nmX4 : ∀ a, a < 24 → ∀ b, b < 24 → a ≠ b → (TX4 a).2.1 ≠ (TX4 b).2.1 := by decide +kernel
theorem tyX4_ok : ∀ k, k < 24 → parseFieldDescriptor (TX4 k).2.2.1 = some (tyX4 k) := by decide +kernel
abbrev cX4_init : ByteArray := prog_6_method_1_code
def yX4_init : MethodName := ⟨RX4, "<init>", "()V"⟩
abbrev cX4_in : ByteArray := prog_6_method_3_code
def yX4_in : MethodName := ⟨RX4, "in", "(JJJ)Z"⟩
abbrev cX4_has : ByteArray := prog_6_method_4_code
def yX4_has : MethodName := ⟨RX4, "has", "(II)Z"⟩
abbrev cX4_ones : ByteArray := prog_6_method_5_code
def yX4_ones : MethodName := ⟨RX4, "ones", "(I)I"⟩
abbrev cX4_write : ByteArray := prog_6_method_6_code
def yX4_write : MethodName := ⟨RX4, "write", "(I)I"⟩
abbrev cX4_wipe : ByteArray := prog_6_method_7_code
def yX4_wipe : MethodName := ⟨RX4, "wipe", "()I"⟩
abbrev cX4_figureOf : ByteArray := prog_6_method_8_code
def yX4_figureOf : MethodName := ⟨RX4, "figureOf", "(I)I"⟩
abbrev cX4_left : ByteArray := prog_6_method_9_code
def yX4_left : MethodName := ⟨RX4, "left", "(I)I"⟩
abbrev cX4_firstsLeft : ByteArray := prog_6_method_10_code
def yX4_firstsLeft : MethodName := ⟨RX4, "firstsLeft", "()I"⟩
abbrev cX4_readText : ByteArray := prog_6_method_11_code
def yX4_readText : MethodName := ⟨RX4, "readText", "()I"⟩
abbrev cX4_readPart : ByteArray := prog_6_method_12_code
def yX4_readPart : MethodName := ⟨RX4, "readPart", "(I)V"⟩
abbrev cX4_fault : ByteArray := prog_6_method_13_code
def yX4_fault : MethodName := ⟨RX4, "fault", "()I"⟩
abbrev cX4_album : ByteArray := prog_6_method_14_code
def yX4_album : MethodName := ⟨RX4, "album", "()I"⟩
abbrev cX4_isStamp : ByteArray := prog_6_method_15_code
def yX4_isStamp : MethodName := ⟨RX4, "isStamp", "(I)Z"⟩
abbrev cX4_isLetter : ByteArray := prog_6_method_16_code
def yX4_isLetter : MethodName := ⟨RX4, "isLetter", "(I)Z"⟩
abbrev cX4_span : ByteArray := prog_6_method_17_code
def yX4_span : MethodName := ⟨RX4, "span", "(II)I"⟩
abbrev cX4_isAlive : ByteArray := prog_6_method_18_code
def yX4_isAlive : MethodName := ⟨RX4, "isAlive", "(II)Z"⟩
abbrev cX4_living : ByteArray := prog_6_method_19_code
def yX4_living : MethodName := ⟨RX4, "living", "(I)I"⟩
abbrev cX4_rate : ByteArray := prog_6_method_20_code
def yX4_rate : MethodName := ⟨RX4, "rate", "(II)I"⟩
abbrev cX4_onLetter : ByteArray := prog_6_method_21_code
def yX4_onLetter : MethodName := ⟨RX4, "onLetter", "(II)I"⟩
abbrev cX4_goodFor : ByteArray := prog_6_method_22_code
def yX4_goodFor : MethodName := ⟨RX4, "goodFor", "(II)I"⟩
abbrev cX4_widows : ByteArray := prog_6_method_23_code
def yX4_widows : MethodName := ⟨RX4, "widows", "(I)I"⟩
abbrev cX4_age : ByteArray := prog_6_method_24_code
def yX4_age : MethodName := ⟨RX4, "age", "(III)V"⟩
abbrev cX4_passOn : ByteArray := prog_6_method_25_code
def yX4_passOn : MethodName := ⟨RX4, "passOn", "(I)V"⟩
abbrev cX4_stamp : ByteArray := prog_6_method_26_code
def yX4_stamp : MethodName := ⟨RX4, "stamp", "(II)I"⟩
abbrev cX4_letter : ByteArray := prog_6_method_27_code
def yX4_letter : MethodName := ⟨RX4, "letter", "(II)I"⟩
abbrev cX4_keepAct : ByteArray := prog_6_method_28_code
def yX4_keepAct : MethodName := ⟨RX4, "keepAct", "()V"⟩
abbrev cX4_week : ByteArray := prog_6_method_29_code
def yX4_week : MethodName := ⟨RX4, "week", "()I"⟩
abbrev cX4_isFree : ByteArray := prog_6_method_30_code
def yX4_isFree : MethodName := ⟨RX4, "isFree", "(II)Z"⟩
abbrev cX4_canStick : ByteArray := prog_6_method_31_code
def yX4_canStick : MethodName := ⟨RX4, "canStick", "(III)Z"⟩
abbrev cX4_stickOn : ByteArray := prog_6_method_32_code
def yX4_stickOn : MethodName := ⟨RX4, "stickOn", "(III)V"⟩
abbrev cX4_stick : ByteArray := prog_6_method_33_code
def yX4_stick : MethodName := ⟨RX4, "stick", "(II)I"⟩
abbrev cX4_canSend : ByteArray := prog_6_method_34_code
def yX4_canSend : MethodName := ⟨RX4, "canSend", "(II)Z"⟩
abbrev cX4_send : ByteArray := prog_6_method_35_code
def yX4_send : MethodName := ⟨RX4, "send", "(I)I"⟩
abbrev cX4_canPart : ByteArray := prog_6_method_36_code
def yX4_canPart : MethodName := ⟨RX4, "canPart", "(III)Z"⟩
abbrev cX4_partOn : ByteArray := prog_6_method_37_code
def yX4_partOn : MethodName := ⟨RX4, "partOn", "(III)V"⟩
abbrev cX4_part : ByteArray := prog_6_method_38_code
def yX4_part : MethodName := ⟨RX4, "part", "(II)I"⟩
abbrev cX4_damp : ByteArray := prog_6_method_39_code
def yX4_damp : MethodName := ⟨RX4, "damp", "()I"⟩
abbrev cX4_undo : ByteArray := prog_6_method_40_code
def yX4_undo : MethodName := ⟨RX4, "undo", "()I"⟩
abbrev cX4_layTrial : ByteArray := prog_6_method_41_code
def yX4_layTrial : MethodName := ⟨RX4, "layTrial", "()V"⟩
abbrev cX4_lives : ByteArray := prog_6_method_42_code
def yX4_lives : MethodName := ⟨RX4, "lives", "(I)I"⟩
abbrev cX4_ends : ByteArray := prog_6_method_43_code
def yX4_ends : MethodName := ⟨RX4, "ends", "(II)I"⟩
abbrev cX4_freeOnes : ByteArray := prog_6_method_44_code
def yX4_freeOnes : MethodName := ⟨RX4, "freeOnes", "()I"⟩
abbrev cX4_comes : ByteArray := prog_6_method_45_code
def yX4_comes : MethodName := ⟨RX4, "comes", "(II)I"⟩
abbrev cX4_fewest : ByteArray := prog_6_method_46_code
def yX4_fewest : MethodName := ⟨RX4, "fewest", "(I)I"⟩
abbrev cX4_block : ByteArray := prog_6_method_47_code
def yX4_block : MethodName := ⟨RX4, "block", "(I)I"⟩
abbrev cX4_tenTo : ByteArray := prog_6_method_48_code
def yX4_tenTo : MethodName := ⟨RX4, "tenTo", "(I)J"⟩
abbrev cX4_tryThing : ByteArray := prog_6_method_49_code
def yX4_tryThing : MethodName := ⟨RX4, "tryThing", "(III)Z"⟩
abbrev cX4_judge : ByteArray := prog_6_method_50_code
def yX4_judge : MethodName := ⟨RX4, "judge", "(IJ)I"⟩
abbrev cX4_see : ByteArray := prog_6_method_51_code
def yX4_see : MethodName := ⟨RX4, "see", "(III)I"⟩
abbrev cX4_unsee : ByteArray := prog_6_method_52_code
def yX4_unsee : MethodName := ⟨RX4, "unsee", "()I"⟩
abbrev cX4_bought : ByteArray := prog_6_method_53_code
def yX4_bought : MethodName := ⟨RX4, "bought", "(I)I"⟩
abbrev cX4_factorial : ByteArray := prog_6_method_54_code
def yX4_factorial : MethodName := ⟨RX4, "factorial", "(I)I"⟩
abbrev cX4_common : ByteArray := prog_6_method_55_code
def yX4_common : MethodName := ⟨RX4, "common", "(JJ)J"⟩
abbrev cX4_paidBy : ByteArray := prog_6_method_56_code
def yX4_paidBy : MethodName := ⟨RX4, "paidBy", "(I)I"⟩
abbrev cX4_share : ByteArray := prog_6_method_57_code
def yX4_share : MethodName := ⟨RX4, "share", "(IZ)I"⟩
abbrev cX4_gain : ByteArray := prog_6_method_58_code
def yX4_gain : MethodName := ⟨RX4, "gain", "(IIII)I"⟩
abbrev cX4_isRest : ByteArray := prog_6_method_59_code
def yX4_isRest : MethodName := ⟨RX4, "isRest", "(IIIII)Z"⟩
abbrev cX4_rests : ByteArray := prog_6_method_60_code
def yX4_rests : MethodName := ⟨RX4, "rests", "(IIII)I"⟩
abbrev cX4_born : ByteArray := prog_6_method_61_code
def yX4_born : MethodName := ⟨RX4, "born", "(IIZ)I"⟩
abbrev cX4_seed : ByteArray := prog_6_method_62_code
def yX4_seed : MethodName := ⟨RX4, "seed", "(J)J"⟩
abbrev cX4_years : ByteArray := prog_6_method_63_code
def yX4_years : MethodName := ⟨RX4, "years", "(I)I"⟩
abbrev cX4_keep : ByteArray := prog_6_method_64_code
def yX4_keep : MethodName := ⟨RX4, "keep", "(I)I"⟩
abbrev cX4_again : ByteArray := prog_6_method_65_code
def yX4_again : MethodName := ⟨RX4, "again", "(I)I"⟩
abbrev cX4_lettersThatAre : ByteArray := prog_6_method_66_code
def yX4_lettersThatAre : MethodName := ⟨RX4, "lettersThatAre", "(I)I"⟩
abbrev cX4_count : ByteArray := prog_6_method_67_code
def yX4_count : MethodName := ⟨RX4, "count", "(I)I"⟩
def RJ6 : String := "java/lang/Integer"
def TJ6 : u_T := fun k => match k with
  | _ => ("", "", "", false)
def tyJ6 : Nat → FieldType := fun k => match k with
  | _ => .int
abbrev cJ6_bitCount_0f7a4 : ByteArray := prog_7_method_49_code
def yJ6_bitCount_0f7a4 : MethodName := ⟨RJ6, "bitCount", "(I)I"⟩
def RJ9 : String := "java/lang/Math"
def TJ9 : u_T := fun k => match k with
  | _ => ("", "", "", false)
def tyJ9 : Nat → FieldType := fun k => match k with
  | _ => .int
abbrev cJ9_max_7cf53 : ByteArray := prog_8_method_65_code
def yJ9_max_7cf53 : MethodName := ⟨RJ9, "max", "(II)I"⟩
abbrev cJ9_min_7cf53 : ByteArray := prog_8_method_69_code
def yJ9_min_7cf53 : MethodName := ⟨RJ9, "min", "(II)I"⟩
def RJ7 : String := "java/util/Arrays"
def TJ7 : u_T := fun k => match k with
  | _ => ("", "", "", false)
def tyJ7 : Nat → FieldType := fun k => match k with
  | _ => .int
abbrev cJ7_fill_53178 : ByteArray := prog_10_method_103_code
def yJ7_fill_53178 : MethodName := ⟨RJ7, "fill", "([II)V"⟩
def RL : String := "AgingStampsLaw"
abbrev cL_law : ByteArray := code
def yL_law : MethodName := ⟨RL, "law", "([I)Z"⟩
abbrev vwCl : List vw_C := [(RX0, TX0, 1), (RX1, TX1, 12), (RX2, TX2, 5), (RX3, TX3, 15), (RX4, TX4, 24)]
end
section
theorem dX0_init_0 : decode cX0_init 0 = .ok (.aload_n 0, 1) := by decide +kernel
theorem dX0_init_1 : decode cX0_init 1 = .ok (.invokespecial 5, 3) := by decide +kernel
theorem dX0_init_4 : decode cX0_init 4 = .ok (.aload_n 0, 1) := by decide +kernel
theorem dX0_init_5 : decode cX0_init 5 = .ok (.iconst 0, 1) := by decide +kernel
theorem dX0_init_6 : decode cX0_init 6 = .ok (.iload_n 1, 1) := by decide +kernel
theorem dX0_init_7 : decode cX0_init 7 = .ok (.invokestatic 11, 3) := by decide +kernel
theorem dX0_init_10 : decode cX0_init 10 = .ok (.bipush 30, 2) := by decide +kernel
theorem dX0_init_12 : decode cX0_init 12 = .ok (.imul, 1) := by decide +kernel
theorem dX0_init_13 : decode cX0_init 13 = .ok (.newarray .int, 2) := by decide +kernel
theorem dX0_init_15 : decode cX0_init 15 = .ok (.putfield 17, 3) := by decide +kernel
theorem dX0_init_18 : decode cX0_init 18 = .ok (.return_, 1) := by decide +kernel
theorem dX0_holds_0 : decode cX0_holds 0 = .ok (.iload_n 1, 1) := by decide +kernel
theorem dX0_holds_1 : decode cX0_holds 1 = .ok (.ifCond .lt 19, 3) := by decide +kernel
theorem dX0_holds_4 : decode cX0_holds 4 = .ok (.iload_n 1, 1) := by decide +kernel
theorem dX0_holds_5 : decode cX0_holds 5 = .ok (.aload_n 0, 1) := by decide +kernel
theorem dX0_holds_6 : decode cX0_holds 6 = .ok (.getfield 17, 3) := by decide +kernel
theorem dX0_holds_9 : decode cX0_holds 9 = .ok (.arraylength, 1) := by decide +kernel
theorem dX0_holds_10 : decode cX0_holds 10 = .ok (.bipush 30, 2) := by decide +kernel
theorem dX0_holds_12 : decode cX0_holds 12 = .ok (.idiv, 1) := by decide +kernel
theorem dX0_holds_13 : decode cX0_holds 13 = .ok (.if_icmp .ge 7, 3) := by decide +kernel
theorem dX0_holds_16 : decode cX0_holds 16 = .ok (.iconst 1, 1) := by decide +kernel
theorem dX0_holds_17 : decode cX0_holds 17 = .ok (.goto 4, 3) := by decide +kernel
theorem dX0_holds_20 : decode cX0_holds 20 = .ok (.iconst 0, 1) := by decide +kernel
theorem dX0_holds_21 : decode cX0_holds 21 = .ok (.ireturn, 1) := by decide +kernel
theorem dX0_store_0 : decode cX0_store 0 = .ok (.aload_n 0, 1) := by decide +kernel
theorem dX0_store_1 : decode cX0_store 1 = .ok (.iload_n 1, 1) := by decide +kernel
theorem dX0_store_2 : decode cX0_store 2 = .ok (.invokevirtual 21, 3) := by decide +kernel
theorem dX0_store_5 : decode cX0_store 5 = .ok (.ifCond .ne 4, 3) := by decide +kernel
theorem dX0_store_8 : decode cX0_store 8 = .ok (.return_, 1) := by decide +kernel
theorem dX0_store_9 : decode cX0_store 9 = .ok (.iload_n 1, 1) := by decide +kernel
theorem dX0_store_10 : decode cX0_store 10 = .ok (.bipush 30, 2) := by decide +kernel
theorem dX0_store_12 : decode cX0_store 12 = .ok (.imul, 1) := by decide +kernel
theorem dX0_store_13 : decode cX0_store 13 = .ok (.istore_n 3, 1) := by decide +kernel
theorem dX0_store_14 : decode cX0_store 14 = .ok (.aload_n 2, 1) := by decide +kernel
theorem dX0_store_15 : decode cX0_store 15 = .ok (.getfield 25, 3) := by decide +kernel
theorem dX0_store_18 : decode cX0_store 18 = .ok (.iconst 0, 1) := by decide +kernel
theorem dX0_store_19 : decode cX0_store 19 = .ok (.aload_n 0, 1) := by decide +kernel
theorem dX0_store_20 : decode cX0_store 20 = .ok (.getfield 17, 3) := by decide +kernel
theorem dX0_store_23 : decode cX0_store 23 = .ok (.iload_n 3, 1) := by decide +kernel
theorem dX0_store_24 : decode cX0_store 24 = .ok (.iconst 5, 1) := by decide +kernel
theorem dX0_store_25 : decode cX0_store 25 = .ok (.invokestatic 30, 3) := by decide +kernel
theorem dX0_store_28 : decode cX0_store 28 = .ok (.aload_n 2, 1) := by decide +kernel
theorem dX0_store_29 : decode cX0_store 29 = .ok (.getfield 36, 3) := by decide +kernel
theorem dX0_store_32 : decode cX0_store 32 = .ok (.iconst 0, 1) := by decide +kernel
theorem dX0_store_33 : decode cX0_store 33 = .ok (.aload_n 0, 1) := by decide +kernel
theorem dX0_store_34 : decode cX0_store 34 = .ok (.getfield 17, 3) := by decide +kernel
theorem dX0_store_37 : decode cX0_store 37 = .ok (.iload_n 3, 1) := by decide +kernel
theorem dX0_store_38 : decode cX0_store 38 = .ok (.iconst 5, 1) := by decide +kernel
theorem dX0_store_39 : decode cX0_store 39 = .ok (.iadd, 1) := by decide +kernel
theorem dX0_store_40 : decode cX0_store 40 = .ok (.iconst 5, 1) := by decide +kernel
theorem dX0_store_41 : decode cX0_store 41 = .ok (.invokestatic 30, 3) := by decide +kernel
theorem dX0_store_44 : decode cX0_store 44 = .ok (.aload_n 2, 1) := by decide +kernel
theorem dX0_store_45 : decode cX0_store 45 = .ok (.getfield 39, 3) := by decide +kernel
theorem dX0_store_48 : decode cX0_store 48 = .ok (.iconst 0, 1) := by decide +kernel
theorem dX0_store_49 : decode cX0_store 49 = .ok (.aload_n 0, 1) := by decide +kernel
theorem dX0_store_50 : decode cX0_store 50 = .ok (.getfield 17, 3) := by decide +kernel
theorem dX0_store_53 : decode cX0_store 53 = .ok (.iload_n 3, 1) := by decide +kernel
theorem dX0_store_54 : decode cX0_store 54 = .ok (.bipush 10, 2) := by decide +kernel
theorem dX0_store_56 : decode cX0_store 56 = .ok (.iadd, 1) := by decide +kernel
theorem dX0_store_57 : decode cX0_store 57 = .ok (.iconst 5, 1) := by decide +kernel
theorem dX0_store_58 : decode cX0_store 58 = .ok (.invokestatic 30, 3) := by decide +kernel
theorem dX0_store_61 : decode cX0_store 61 = .ok (.aload_n 2, 1) := by decide +kernel
theorem dX0_store_62 : decode cX0_store 62 = .ok (.getfield 42, 3) := by decide +kernel
theorem dX0_store_65 : decode cX0_store 65 = .ok (.iconst 0, 1) := by decide +kernel
theorem dX0_store_66 : decode cX0_store 66 = .ok (.aload_n 0, 1) := by decide +kernel
theorem dX0_store_67 : decode cX0_store 67 = .ok (.getfield 17, 3) := by decide +kernel
theorem dX0_store_70 : decode cX0_store 70 = .ok (.iload_n 3, 1) := by decide +kernel
theorem dX0_store_71 : decode cX0_store 71 = .ok (.bipush 15, 2) := by decide +kernel
theorem dX0_store_73 : decode cX0_store 73 = .ok (.iadd, 1) := by decide +kernel
theorem dX0_store_74 : decode cX0_store 74 = .ok (.iconst 5, 1) := by decide +kernel
theorem dX0_store_75 : decode cX0_store 75 = .ok (.invokestatic 30, 3) := by decide +kernel
theorem dX0_store_78 : decode cX0_store 78 = .ok (.aload_n 2, 1) := by decide +kernel
theorem dX0_store_79 : decode cX0_store 79 = .ok (.getfield 45, 3) := by decide +kernel
theorem dX0_store_82 : decode cX0_store 82 = .ok (.iconst 0, 1) := by decide +kernel
theorem dX0_store_83 : decode cX0_store 83 = .ok (.aload_n 0, 1) := by decide +kernel
theorem dX0_store_84 : decode cX0_store 84 = .ok (.getfield 17, 3) := by decide +kernel
theorem dX0_store_87 : decode cX0_store 87 = .ok (.iload_n 3, 1) := by decide +kernel
theorem dX0_store_88 : decode cX0_store 88 = .ok (.bipush 20, 2) := by decide +kernel
theorem dX0_store_90 : decode cX0_store 90 = .ok (.iadd, 1) := by decide +kernel
theorem dX0_store_91 : decode cX0_store 91 = .ok (.iconst 4, 1) := by decide +kernel
theorem dX0_store_92 : decode cX0_store 92 = .ok (.invokestatic 30, 3) := by decide +kernel
theorem dX0_store_95 : decode cX0_store 95 = .ok (.aload_n 2, 1) := by decide +kernel
theorem dX0_store_96 : decode cX0_store 96 = .ok (.getfield 48, 3) := by decide +kernel
theorem dX0_store_99 : decode cX0_store 99 = .ok (.iconst 0, 1) := by decide +kernel
theorem dX0_store_100 : decode cX0_store 100 = .ok (.aload_n 0, 1) := by decide +kernel
theorem dX0_store_101 : decode cX0_store 101 = .ok (.getfield 17, 3) := by decide +kernel
theorem dX0_store_104 : decode cX0_store 104 = .ok (.iload_n 3, 1) := by decide +kernel
theorem dX0_store_105 : decode cX0_store 105 = .ok (.bipush 24, 2) := by decide +kernel
theorem dX0_store_107 : decode cX0_store 107 = .ok (.iadd, 1) := by decide +kernel
theorem dX0_store_108 : decode cX0_store 108 = .ok (.iconst 4, 1) := by decide +kernel
theorem dX0_store_109 : decode cX0_store 109 = .ok (.invokestatic 30, 3) := by decide +kernel
theorem dX0_store_112 : decode cX0_store 112 = .ok (.aload_n 0, 1) := by decide +kernel
theorem dX0_store_113 : decode cX0_store 113 = .ok (.getfield 17, 3) := by decide +kernel
theorem dX0_store_116 : decode cX0_store 116 = .ok (.iload_n 3, 1) := by decide +kernel
theorem dX0_store_117 : decode cX0_store 117 = .ok (.bipush 28, 2) := by decide +kernel
theorem dX0_store_119 : decode cX0_store 119 = .ok (.iadd, 1) := by decide +kernel
theorem dX0_store_120 : decode cX0_store 120 = .ok (.aload_n 2, 1) := by decide +kernel
theorem dX0_store_121 : decode cX0_store 121 = .ok (.getfield 51, 3) := by decide +kernel
theorem dX0_store_124 : decode cX0_store 124 = .ok (.ifCond .eq 7, 3) := by decide +kernel
theorem dX0_store_127 : decode cX0_store 127 = .ok (.iconst 1, 1) := by decide +kernel
theorem dX0_store_128 : decode cX0_store 128 = .ok (.goto 4, 3) := by decide +kernel
theorem dX0_store_131 : decode cX0_store 131 = .ok (.iconst 0, 1) := by decide +kernel
theorem dX0_store_132 : decode cX0_store 132 = .ok (.iastore, 1) := by decide +kernel
theorem dX0_store_133 : decode cX0_store 133 = .ok (.aload_n 0, 1) := by decide +kernel
theorem dX0_store_134 : decode cX0_store 134 = .ok (.getfield 17, 3) := by decide +kernel
theorem dX0_store_137 : decode cX0_store 137 = .ok (.iload_n 3, 1) := by decide +kernel
theorem dX0_store_138 : decode cX0_store 138 = .ok (.bipush 29, 2) := by decide +kernel
theorem dX0_store_140 : decode cX0_store 140 = .ok (.iadd, 1) := by decide +kernel
theorem dX0_store_141 : decode cX0_store 141 = .ok (.aload_n 2, 1) := by decide +kernel
theorem dX0_store_142 : decode cX0_store 142 = .ok (.getfield 55, 3) := by decide +kernel
theorem dX0_store_145 : decode cX0_store 145 = .ok (.iastore, 1) := by decide +kernel
theorem dX0_store_146 : decode cX0_store 146 = .ok (.return_, 1) := by decide +kernel
theorem dX0_load_0 : decode cX0_load 0 = .ok (.aload_n 0, 1) := by decide +kernel
theorem dX0_load_1 : decode cX0_load 1 = .ok (.iload_n 1, 1) := by decide +kernel
theorem dX0_load_2 : decode cX0_load 2 = .ok (.invokevirtual 21, 3) := by decide +kernel
theorem dX0_load_5 : decode cX0_load 5 = .ok (.ifCond .ne 4, 3) := by decide +kernel
theorem dX0_load_8 : decode cX0_load 8 = .ok (.return_, 1) := by decide +kernel
theorem dX0_load_9 : decode cX0_load 9 = .ok (.iload_n 1, 1) := by decide +kernel
theorem dX0_load_10 : decode cX0_load 10 = .ok (.bipush 30, 2) := by decide +kernel
theorem dX0_load_12 : decode cX0_load 12 = .ok (.imul, 1) := by decide +kernel
theorem dX0_load_13 : decode cX0_load 13 = .ok (.istore_n 3, 1) := by decide +kernel
theorem dX0_load_14 : decode cX0_load 14 = .ok (.aload_n 0, 1) := by decide +kernel
theorem dX0_load_15 : decode cX0_load 15 = .ok (.getfield 17, 3) := by decide +kernel
theorem dX0_load_18 : decode cX0_load 18 = .ok (.iload_n 3, 1) := by decide +kernel
theorem dX0_load_19 : decode cX0_load 19 = .ok (.aload_n 2, 1) := by decide +kernel
theorem dX0_load_20 : decode cX0_load 20 = .ok (.getfield 25, 3) := by decide +kernel
theorem dX0_load_23 : decode cX0_load 23 = .ok (.iconst 0, 1) := by decide +kernel
theorem dX0_load_24 : decode cX0_load 24 = .ok (.iconst 5, 1) := by decide +kernel
theorem dX0_load_25 : decode cX0_load 25 = .ok (.invokestatic 30, 3) := by decide +kernel
theorem dX0_load_28 : decode cX0_load 28 = .ok (.aload_n 0, 1) := by decide +kernel
theorem dX0_load_29 : decode cX0_load 29 = .ok (.getfield 17, 3) := by decide +kernel
theorem dX0_load_32 : decode cX0_load 32 = .ok (.iload_n 3, 1) := by decide +kernel
theorem dX0_load_33 : decode cX0_load 33 = .ok (.iconst 5, 1) := by decide +kernel
theorem dX0_load_34 : decode cX0_load 34 = .ok (.iadd, 1) := by decide +kernel
theorem dX0_load_35 : decode cX0_load 35 = .ok (.aload_n 2, 1) := by decide +kernel
theorem dX0_load_36 : decode cX0_load 36 = .ok (.getfield 36, 3) := by decide +kernel
theorem dX0_load_39 : decode cX0_load 39 = .ok (.iconst 0, 1) := by decide +kernel
theorem dX0_load_40 : decode cX0_load 40 = .ok (.iconst 5, 1) := by decide +kernel
theorem dX0_load_41 : decode cX0_load 41 = .ok (.invokestatic 30, 3) := by decide +kernel
theorem dX0_load_44 : decode cX0_load 44 = .ok (.aload_n 0, 1) := by decide +kernel
theorem dX0_load_45 : decode cX0_load 45 = .ok (.getfield 17, 3) := by decide +kernel
theorem dX0_load_48 : decode cX0_load 48 = .ok (.iload_n 3, 1) := by decide +kernel
theorem dX0_load_49 : decode cX0_load 49 = .ok (.bipush 10, 2) := by decide +kernel
theorem dX0_load_51 : decode cX0_load 51 = .ok (.iadd, 1) := by decide +kernel
theorem dX0_load_52 : decode cX0_load 52 = .ok (.aload_n 2, 1) := by decide +kernel
theorem dX0_load_53 : decode cX0_load 53 = .ok (.getfield 39, 3) := by decide +kernel
theorem dX0_load_56 : decode cX0_load 56 = .ok (.iconst 0, 1) := by decide +kernel
theorem dX0_load_57 : decode cX0_load 57 = .ok (.iconst 5, 1) := by decide +kernel
theorem dX0_load_58 : decode cX0_load 58 = .ok (.invokestatic 30, 3) := by decide +kernel
theorem dX0_load_61 : decode cX0_load 61 = .ok (.aload_n 0, 1) := by decide +kernel
theorem dX0_load_62 : decode cX0_load 62 = .ok (.getfield 17, 3) := by decide +kernel
theorem dX0_load_65 : decode cX0_load 65 = .ok (.iload_n 3, 1) := by decide +kernel
theorem dX0_load_66 : decode cX0_load 66 = .ok (.bipush 15, 2) := by decide +kernel
theorem dX0_load_68 : decode cX0_load 68 = .ok (.iadd, 1) := by decide +kernel
theorem dX0_load_69 : decode cX0_load 69 = .ok (.aload_n 2, 1) := by decide +kernel
theorem dX0_load_70 : decode cX0_load 70 = .ok (.getfield 42, 3) := by decide +kernel
theorem dX0_load_73 : decode cX0_load 73 = .ok (.iconst 0, 1) := by decide +kernel
theorem dX0_load_74 : decode cX0_load 74 = .ok (.iconst 5, 1) := by decide +kernel
theorem dX0_load_75 : decode cX0_load 75 = .ok (.invokestatic 30, 3) := by decide +kernel
theorem dX0_load_78 : decode cX0_load 78 = .ok (.aload_n 0, 1) := by decide +kernel
theorem dX0_load_79 : decode cX0_load 79 = .ok (.getfield 17, 3) := by decide +kernel
theorem dX0_load_82 : decode cX0_load 82 = .ok (.iload_n 3, 1) := by decide +kernel
theorem dX0_load_83 : decode cX0_load 83 = .ok (.bipush 20, 2) := by decide +kernel
theorem dX0_load_85 : decode cX0_load 85 = .ok (.iadd, 1) := by decide +kernel
theorem dX0_load_86 : decode cX0_load 86 = .ok (.aload_n 2, 1) := by decide +kernel
theorem dX0_load_87 : decode cX0_load 87 = .ok (.getfield 45, 3) := by decide +kernel
theorem dX0_load_90 : decode cX0_load 90 = .ok (.iconst 0, 1) := by decide +kernel
theorem dX0_load_91 : decode cX0_load 91 = .ok (.iconst 4, 1) := by decide +kernel
theorem dX0_load_92 : decode cX0_load 92 = .ok (.invokestatic 30, 3) := by decide +kernel
theorem dX0_load_95 : decode cX0_load 95 = .ok (.aload_n 0, 1) := by decide +kernel
theorem dX0_load_96 : decode cX0_load 96 = .ok (.getfield 17, 3) := by decide +kernel
theorem dX0_load_99 : decode cX0_load 99 = .ok (.iload_n 3, 1) := by decide +kernel
theorem dX0_load_100 : decode cX0_load 100 = .ok (.bipush 24, 2) := by decide +kernel
theorem dX0_load_102 : decode cX0_load 102 = .ok (.iadd, 1) := by decide +kernel
theorem dX0_load_103 : decode cX0_load 103 = .ok (.aload_n 2, 1) := by decide +kernel
theorem dX0_load_104 : decode cX0_load 104 = .ok (.getfield 48, 3) := by decide +kernel
theorem dX0_load_107 : decode cX0_load 107 = .ok (.iconst 0, 1) := by decide +kernel
theorem dX0_load_108 : decode cX0_load 108 = .ok (.iconst 4, 1) := by decide +kernel
theorem dX0_load_109 : decode cX0_load 109 = .ok (.invokestatic 30, 3) := by decide +kernel
theorem dX0_load_112 : decode cX0_load 112 = .ok (.aload_n 2, 1) := by decide +kernel
theorem dX0_load_113 : decode cX0_load 113 = .ok (.aload_n 0, 1) := by decide +kernel
theorem dX0_load_114 : decode cX0_load 114 = .ok (.getfield 17, 3) := by decide +kernel
theorem dX0_load_117 : decode cX0_load 117 = .ok (.iload_n 3, 1) := by decide +kernel
theorem dX0_load_118 : decode cX0_load 118 = .ok (.bipush 28, 2) := by decide +kernel
theorem dX0_load_120 : decode cX0_load 120 = .ok (.iadd, 1) := by decide +kernel
theorem dX0_load_121 : decode cX0_load 121 = .ok (.iaload, 1) := by decide +kernel
theorem dX0_load_122 : decode cX0_load 122 = .ok (.iconst 1, 1) := by decide +kernel
theorem dX0_load_123 : decode cX0_load 123 = .ok (.if_icmp .ne 7, 3) := by decide +kernel
theorem dX0_load_126 : decode cX0_load 126 = .ok (.iconst 1, 1) := by decide +kernel
theorem dX0_load_127 : decode cX0_load 127 = .ok (.goto 4, 3) := by decide +kernel
theorem dX0_load_130 : decode cX0_load 130 = .ok (.iconst 0, 1) := by decide +kernel
theorem dX0_load_131 : decode cX0_load 131 = .ok (.putfield 51, 3) := by decide +kernel
theorem dX0_load_134 : decode cX0_load 134 = .ok (.aload_n 2, 1) := by decide +kernel
theorem dX0_load_135 : decode cX0_load 135 = .ok (.aload_n 0, 1) := by decide +kernel
theorem dX0_load_136 : decode cX0_load 136 = .ok (.getfield 17, 3) := by decide +kernel
theorem dX0_load_139 : decode cX0_load 139 = .ok (.iload_n 3, 1) := by decide +kernel
theorem dX0_load_140 : decode cX0_load 140 = .ok (.bipush 29, 2) := by decide +kernel
theorem dX0_load_142 : decode cX0_load 142 = .ok (.iadd, 1) := by decide +kernel
theorem dX0_load_143 : decode cX0_load 143 = .ok (.iaload, 1) := by decide +kernel
theorem dX0_load_144 : decode cX0_load 144 = .ok (.putfield 55, 3) := by decide +kernel
theorem dX0_load_147 : decode cX0_load 147 = .ok (.return_, 1) := by decide +kernel
theorem dX0_forgetFirst_0 : decode cX0_forgetFirst 0 = .ok (.aload_n 0, 1) := by decide +kernel
theorem dX0_forgetFirst_1 : decode cX0_forgetFirst 1 = .ok (.getfield 17, 3) := by decide +kernel
theorem dX0_forgetFirst_4 : decode cX0_forgetFirst 4 = .ok (.arraylength, 1) := by decide +kernel
theorem dX0_forgetFirst_5 : decode cX0_forgetFirst 5 = .ok (.bipush 30, 2) := by decide +kernel
theorem dX0_forgetFirst_7 : decode cX0_forgetFirst 7 = .ok (.if_icmp .lt 25, 3) := by decide +kernel
theorem dX0_forgetFirst_10 : decode cX0_forgetFirst 10 = .ok (.aload_n 0, 1) := by decide +kernel
theorem dX0_forgetFirst_11 : decode cX0_forgetFirst 11 = .ok (.getfield 17, 3) := by decide +kernel
theorem dX0_forgetFirst_14 : decode cX0_forgetFirst 14 = .ok (.bipush 30, 2) := by decide +kernel
theorem dX0_forgetFirst_16 : decode cX0_forgetFirst 16 = .ok (.aload_n 0, 1) := by decide +kernel
theorem dX0_forgetFirst_17 : decode cX0_forgetFirst 17 = .ok (.getfield 17, 3) := by decide +kernel
theorem dX0_forgetFirst_20 : decode cX0_forgetFirst 20 = .ok (.iconst 0, 1) := by decide +kernel
theorem dX0_forgetFirst_21 : decode cX0_forgetFirst 21 = .ok (.aload_n 0, 1) := by decide +kernel
theorem dX0_forgetFirst_22 : decode cX0_forgetFirst 22 = .ok (.getfield 17, 3) := by decide +kernel
theorem dX0_forgetFirst_25 : decode cX0_forgetFirst 25 = .ok (.arraylength, 1) := by decide +kernel
theorem dX0_forgetFirst_26 : decode cX0_forgetFirst 26 = .ok (.bipush 30, 2) := by decide +kernel
theorem dX0_forgetFirst_28 : decode cX0_forgetFirst 28 = .ok (.isub, 1) := by decide +kernel
theorem dX0_forgetFirst_29 : decode cX0_forgetFirst 29 = .ok (.invokestatic 30, 3) := by decide +kernel
theorem dX0_forgetFirst_32 : decode cX0_forgetFirst 32 = .ok (.return_, 1) := by decide +kernel
theorem dX1_init_0 : decode cX1_init 0 = .ok (.aload_n 0, 1) := by decide +kernel
theorem dX1_init_1 : decode cX1_init 1 = .ok (.invokespecial 3, 3) := by decide +kernel
theorem dX1_init_4 : decode cX1_init 4 = .ok (.aload_n 0, 1) := by decide +kernel
theorem dX1_init_5 : decode cX1_init 5 = .ok (.iconst 5, 1) := by decide +kernel
theorem dX1_init_6 : decode cX1_init 6 = .ok (.newarray .int, 2) := by decide +kernel
theorem dX1_init_8 : decode cX1_init 8 = .ok (.putfield 9, 3) := by decide +kernel
theorem dX1_init_11 : decode cX1_init 11 = .ok (.aload_n 0, 1) := by decide +kernel
theorem dX1_init_12 : decode cX1_init 12 = .ok (.iconst 5, 1) := by decide +kernel
theorem dX1_init_13 : decode cX1_init 13 = .ok (.newarray .int, 2) := by decide +kernel
theorem dX1_init_15 : decode cX1_init 15 = .ok (.putfield 15, 3) := by decide +kernel
theorem dX1_init_18 : decode cX1_init 18 = .ok (.aload_n 0, 1) := by decide +kernel
theorem dX1_init_19 : decode cX1_init 19 = .ok (.iconst 5, 1) := by decide +kernel
theorem dX1_init_20 : decode cX1_init 20 = .ok (.newarray .int, 2) := by decide +kernel
theorem dX1_init_22 : decode cX1_init 22 = .ok (.putfield 18, 3) := by decide +kernel
theorem dX1_init_25 : decode cX1_init 25 = .ok (.aload_n 0, 1) := by decide +kernel
theorem dX1_init_26 : decode cX1_init 26 = .ok (.iconst 5, 1) := by decide +kernel
theorem dX1_init_27 : decode cX1_init 27 = .ok (.newarray .int, 2) := by decide +kernel
theorem dX1_init_29 : decode cX1_init 29 = .ok (.putfield 21, 3) := by decide +kernel
theorem dX1_init_32 : decode cX1_init 32 = .ok (.aload_n 0, 1) := by decide +kernel
theorem dX1_init_33 : decode cX1_init 33 = .ok (.iconst 5, 1) := by decide +kernel
theorem dX1_init_34 : decode cX1_init 34 = .ok (.newarray .int, 2) := by decide +kernel
theorem dX1_init_36 : decode cX1_init 36 = .ok (.putfield 24, 3) := by decide +kernel
theorem dX1_init_39 : decode cX1_init 39 = .ok (.aload_n 0, 1) := by decide +kernel
theorem dX1_init_40 : decode cX1_init 40 = .ok (.iconst 4, 1) := by decide +kernel
theorem dX1_init_41 : decode cX1_init 41 = .ok (.newarray .int, 2) := by decide +kernel
theorem dX1_init_43 : decode cX1_init 43 = .ok (.putfield 27, 3) := by decide +kernel
theorem dX1_init_46 : decode cX1_init 46 = .ok (.aload_n 0, 1) := by decide +kernel
theorem dX1_init_47 : decode cX1_init 47 = .ok (.iconst 4, 1) := by decide +kernel
theorem dX1_init_48 : decode cX1_init 48 = .ok (.newarray .int, 2) := by decide +kernel
theorem dX1_init_50 : decode cX1_init 50 = .ok (.putfield 30, 3) := by decide +kernel
theorem dX1_init_53 : decode cX1_init 53 = .ok (.aload_n 0, 1) := by decide +kernel
theorem dX1_init_54 : decode cX1_init 54 = .ok (.iconst 4, 1) := by decide +kernel
theorem dX1_init_55 : decode cX1_init 55 = .ok (.newarray .int, 2) := by decide +kernel
theorem dX1_init_57 : decode cX1_init 57 = .ok (.putfield 33, 3) := by decide +kernel
theorem dX1_init_60 : decode cX1_init 60 = .ok (.return_, 1) := by decide +kernel
theorem dX1_clear_0 : decode cX1_clear 0 = .ok (.aload_n 0, 1) := by decide +kernel
theorem dX1_clear_1 : decode cX1_clear 1 = .ok (.iconst 0, 1) := by decide +kernel
theorem dX1_clear_2 : decode cX1_clear 2 = .ok (.putfield 36, 3) := by decide +kernel
theorem dX1_clear_5 : decode cX1_clear 5 = .ok (.aload_n 0, 1) := by decide +kernel
theorem dX1_clear_6 : decode cX1_clear 6 = .ok (.iconst 0, 1) := by decide +kernel
theorem dX1_clear_7 : decode cX1_clear 7 = .ok (.putfield 40, 3) := by decide +kernel
theorem dX1_clear_10 : decode cX1_clear 10 = .ok (.aload_n 0, 1) := by decide +kernel
theorem dX1_clear_11 : decode cX1_clear 11 = .ok (.iconst 0, 1) := by decide +kernel
theorem dX1_clear_12 : decode cX1_clear 12 = .ok (.putfield 43, 3) := by decide +kernel
theorem dX1_clear_15 : decode cX1_clear 15 = .ok (.aload_n 0, 1) := by decide +kernel
theorem dX1_clear_16 : decode cX1_clear 16 = .ok (.iconst 0, 1) := by decide +kernel
theorem dX1_clear_17 : decode cX1_clear 17 = .ok (.putfield 46, 3) := by decide +kernel
theorem dX1_clear_20 : decode cX1_clear 20 = .ok (.aload_n 0, 1) := by decide +kernel
theorem dX1_clear_21 : decode cX1_clear 21 = .ok (.getfield 21, 3) := by decide +kernel
theorem dX1_clear_24 : decode cX1_clear 24 = .ok (.iconst 0, 1) := by decide +kernel
theorem dX1_clear_25 : decode cX1_clear 25 = .ok (.invokestatic 50, 3) := by decide +kernel
theorem dX1_clear_28 : decode cX1_clear 28 = .ok (.aload_n 0, 1) := by decide +kernel
theorem dX1_clear_29 : decode cX1_clear 29 = .ok (.getfield 24, 3) := by decide +kernel
theorem dX1_clear_32 : decode cX1_clear 32 = .ok (.bipush (-9), 2) := by decide +kernel
theorem dX1_clear_34 : decode cX1_clear 34 = .ok (.invokestatic 50, 3) := by decide +kernel
theorem dX1_clear_37 : decode cX1_clear 37 = .ok (.aload_n 0, 1) := by decide +kernel
theorem dX1_clear_38 : decode cX1_clear 38 = .ok (.getfield 33, 3) := by decide +kernel
theorem dX1_clear_41 : decode cX1_clear 41 = .ok (.iconst 0, 1) := by decide +kernel
theorem dX1_clear_42 : decode cX1_clear 42 = .ok (.invokestatic 50, 3) := by decide +kernel
theorem dX1_clear_45 : decode cX1_clear 45 = .ok (.return_, 1) := by decide +kernel
theorem dX1_copyFrom_0 : decode cX1_copyFrom 0 = .ok (.aload_n 0, 1) := by decide +kernel
theorem dX1_copyFrom_1 : decode cX1_copyFrom 1 = .ok (.aload_n 1, 1) := by decide +kernel
theorem dX1_copyFrom_2 : decode cX1_copyFrom 2 = .ok (.getfield 36, 3) := by decide +kernel
theorem dX1_copyFrom_5 : decode cX1_copyFrom 5 = .ok (.putfield 36, 3) := by decide +kernel
theorem dX1_copyFrom_8 : decode cX1_copyFrom 8 = .ok (.aload_n 0, 1) := by decide +kernel
theorem dX1_copyFrom_9 : decode cX1_copyFrom 9 = .ok (.aload_n 1, 1) := by decide +kernel
theorem dX1_copyFrom_10 : decode cX1_copyFrom 10 = .ok (.getfield 40, 3) := by decide +kernel
theorem dX1_copyFrom_13 : decode cX1_copyFrom 13 = .ok (.putfield 40, 3) := by decide +kernel
theorem dX1_copyFrom_16 : decode cX1_copyFrom 16 = .ok (.aload_n 0, 1) := by decide +kernel
theorem dX1_copyFrom_17 : decode cX1_copyFrom 17 = .ok (.aload_n 1, 1) := by decide +kernel
theorem dX1_copyFrom_18 : decode cX1_copyFrom 18 = .ok (.getfield 43, 3) := by decide +kernel
theorem dX1_copyFrom_21 : decode cX1_copyFrom 21 = .ok (.putfield 43, 3) := by decide +kernel
theorem dX1_copyFrom_24 : decode cX1_copyFrom 24 = .ok (.aload_n 0, 1) := by decide +kernel
theorem dX1_copyFrom_25 : decode cX1_copyFrom 25 = .ok (.aload_n 1, 1) := by decide +kernel
theorem dX1_copyFrom_26 : decode cX1_copyFrom 26 = .ok (.getfield 46, 3) := by decide +kernel
theorem dX1_copyFrom_29 : decode cX1_copyFrom 29 = .ok (.putfield 46, 3) := by decide +kernel
theorem dX1_copyFrom_32 : decode cX1_copyFrom 32 = .ok (.aload_n 1, 1) := by decide +kernel
theorem dX1_copyFrom_33 : decode cX1_copyFrom 33 = .ok (.getfield 9, 3) := by decide +kernel
theorem dX1_copyFrom_36 : decode cX1_copyFrom 36 = .ok (.iconst 0, 1) := by decide +kernel
theorem dX1_copyFrom_37 : decode cX1_copyFrom 37 = .ok (.aload_n 0, 1) := by decide +kernel
theorem dX1_copyFrom_38 : decode cX1_copyFrom 38 = .ok (.getfield 9, 3) := by decide +kernel
theorem dX1_copyFrom_41 : decode cX1_copyFrom 41 = .ok (.iconst 0, 1) := by decide +kernel
theorem dX1_copyFrom_42 : decode cX1_copyFrom 42 = .ok (.iconst 5, 1) := by decide +kernel
theorem dX1_copyFrom_43 : decode cX1_copyFrom 43 = .ok (.invokestatic 56, 3) := by decide +kernel
theorem dX1_copyFrom_46 : decode cX1_copyFrom 46 = .ok (.aload_n 1, 1) := by decide +kernel
theorem dX1_copyFrom_47 : decode cX1_copyFrom 47 = .ok (.getfield 15, 3) := by decide +kernel
theorem dX1_copyFrom_50 : decode cX1_copyFrom 50 = .ok (.iconst 0, 1) := by decide +kernel
theorem dX1_copyFrom_51 : decode cX1_copyFrom 51 = .ok (.aload_n 0, 1) := by decide +kernel
theorem dX1_copyFrom_52 : decode cX1_copyFrom 52 = .ok (.getfield 15, 3) := by decide +kernel
theorem dX1_copyFrom_55 : decode cX1_copyFrom 55 = .ok (.iconst 0, 1) := by decide +kernel
theorem dX1_copyFrom_56 : decode cX1_copyFrom 56 = .ok (.iconst 5, 1) := by decide +kernel
theorem dX1_copyFrom_57 : decode cX1_copyFrom 57 = .ok (.invokestatic 56, 3) := by decide +kernel
theorem dX1_copyFrom_60 : decode cX1_copyFrom 60 = .ok (.aload_n 1, 1) := by decide +kernel
theorem dX1_copyFrom_61 : decode cX1_copyFrom 61 = .ok (.getfield 18, 3) := by decide +kernel
theorem dX1_copyFrom_64 : decode cX1_copyFrom 64 = .ok (.iconst 0, 1) := by decide +kernel
theorem dX1_copyFrom_65 : decode cX1_copyFrom 65 = .ok (.aload_n 0, 1) := by decide +kernel
theorem dX1_copyFrom_66 : decode cX1_copyFrom 66 = .ok (.getfield 18, 3) := by decide +kernel
theorem dX1_copyFrom_69 : decode cX1_copyFrom 69 = .ok (.iconst 0, 1) := by decide +kernel
theorem dX1_copyFrom_70 : decode cX1_copyFrom 70 = .ok (.iconst 5, 1) := by decide +kernel
theorem dX1_copyFrom_71 : decode cX1_copyFrom 71 = .ok (.invokestatic 56, 3) := by decide +kernel
theorem dX1_copyFrom_74 : decode cX1_copyFrom 74 = .ok (.aload_n 1, 1) := by decide +kernel
theorem dX1_copyFrom_75 : decode cX1_copyFrom 75 = .ok (.getfield 21, 3) := by decide +kernel
theorem dX1_copyFrom_78 : decode cX1_copyFrom 78 = .ok (.iconst 0, 1) := by decide +kernel
theorem dX1_copyFrom_79 : decode cX1_copyFrom 79 = .ok (.aload_n 0, 1) := by decide +kernel
theorem dX1_copyFrom_80 : decode cX1_copyFrom 80 = .ok (.getfield 21, 3) := by decide +kernel
theorem dX1_copyFrom_83 : decode cX1_copyFrom 83 = .ok (.iconst 0, 1) := by decide +kernel
theorem dX1_copyFrom_84 : decode cX1_copyFrom 84 = .ok (.iconst 5, 1) := by decide +kernel
theorem dX1_copyFrom_85 : decode cX1_copyFrom 85 = .ok (.invokestatic 56, 3) := by decide +kernel
theorem dX1_copyFrom_88 : decode cX1_copyFrom 88 = .ok (.aload_n 1, 1) := by decide +kernel
theorem dX1_copyFrom_89 : decode cX1_copyFrom 89 = .ok (.getfield 24, 3) := by decide +kernel
theorem dX1_copyFrom_92 : decode cX1_copyFrom 92 = .ok (.iconst 0, 1) := by decide +kernel
theorem dX1_copyFrom_93 : decode cX1_copyFrom 93 = .ok (.aload_n 0, 1) := by decide +kernel
theorem dX1_copyFrom_94 : decode cX1_copyFrom 94 = .ok (.getfield 24, 3) := by decide +kernel
theorem dX1_copyFrom_97 : decode cX1_copyFrom 97 = .ok (.iconst 0, 1) := by decide +kernel
theorem dX1_copyFrom_98 : decode cX1_copyFrom 98 = .ok (.iconst 5, 1) := by decide +kernel
theorem dX1_copyFrom_99 : decode cX1_copyFrom 99 = .ok (.invokestatic 56, 3) := by decide +kernel
theorem dX1_copyFrom_102 : decode cX1_copyFrom 102 = .ok (.aload_n 1, 1) := by decide +kernel
theorem dX1_copyFrom_103 : decode cX1_copyFrom 103 = .ok (.getfield 27, 3) := by decide +kernel
theorem dX1_copyFrom_106 : decode cX1_copyFrom 106 = .ok (.iconst 0, 1) := by decide +kernel
theorem dX1_copyFrom_107 : decode cX1_copyFrom 107 = .ok (.aload_n 0, 1) := by decide +kernel
theorem dX1_copyFrom_108 : decode cX1_copyFrom 108 = .ok (.getfield 27, 3) := by decide +kernel
theorem dX1_copyFrom_111 : decode cX1_copyFrom 111 = .ok (.iconst 0, 1) := by decide +kernel
theorem dX1_copyFrom_112 : decode cX1_copyFrom 112 = .ok (.iconst 4, 1) := by decide +kernel
theorem dX1_copyFrom_113 : decode cX1_copyFrom 113 = .ok (.invokestatic 56, 3) := by decide +kernel
theorem dX1_copyFrom_116 : decode cX1_copyFrom 116 = .ok (.aload_n 1, 1) := by decide +kernel
theorem dX1_copyFrom_117 : decode cX1_copyFrom 117 = .ok (.getfield 30, 3) := by decide +kernel
theorem dX1_copyFrom_120 : decode cX1_copyFrom 120 = .ok (.iconst 0, 1) := by decide +kernel
theorem dX1_copyFrom_121 : decode cX1_copyFrom 121 = .ok (.aload_n 0, 1) := by decide +kernel
theorem dX1_copyFrom_122 : decode cX1_copyFrom 122 = .ok (.getfield 30, 3) := by decide +kernel
theorem dX1_copyFrom_125 : decode cX1_copyFrom 125 = .ok (.iconst 0, 1) := by decide +kernel
theorem dX1_copyFrom_126 : decode cX1_copyFrom 126 = .ok (.iconst 4, 1) := by decide +kernel
theorem dX1_copyFrom_127 : decode cX1_copyFrom 127 = .ok (.invokestatic 56, 3) := by decide +kernel
theorem dX1_copyFrom_130 : decode cX1_copyFrom 130 = .ok (.aload_n 1, 1) := by decide +kernel
theorem dX1_copyFrom_131 : decode cX1_copyFrom 131 = .ok (.getfield 33, 3) := by decide +kernel
theorem dX1_copyFrom_134 : decode cX1_copyFrom 134 = .ok (.iconst 0, 1) := by decide +kernel
theorem dX1_copyFrom_135 : decode cX1_copyFrom 135 = .ok (.aload_n 0, 1) := by decide +kernel
theorem dX1_copyFrom_136 : decode cX1_copyFrom 136 = .ok (.getfield 33, 3) := by decide +kernel
theorem dX1_copyFrom_139 : decode cX1_copyFrom 139 = .ok (.iconst 0, 1) := by decide +kernel
theorem dX1_copyFrom_140 : decode cX1_copyFrom 140 = .ok (.iconst 4, 1) := by decide +kernel
theorem dX1_copyFrom_141 : decode cX1_copyFrom 141 = .ok (.invokestatic 56, 3) := by decide +kernel
theorem dX1_copyFrom_144 : decode cX1_copyFrom 144 = .ok (.return_, 1) := by decide +kernel
theorem dX1_hasStamp_0 : decode cX1_hasStamp 0 = .ok (.iload_n 1, 1) := by decide +kernel
theorem dX1_hasStamp_1 : decode cX1_hasStamp 1 = .ok (.ifCond .lt 15, 3) := by decide +kernel
theorem dX1_hasStamp_4 : decode cX1_hasStamp 4 = .ok (.iload_n 1, 1) := by decide +kernel
theorem dX1_hasStamp_5 : decode cX1_hasStamp 5 = .ok (.aload_n 0, 1) := by decide +kernel
theorem dX1_hasStamp_6 : decode cX1_hasStamp 6 = .ok (.getfield 36, 3) := by decide +kernel
theorem dX1_hasStamp_9 : decode cX1_hasStamp 9 = .ok (.if_icmp .ge 7, 3) := by decide +kernel
theorem dX1_hasStamp_12 : decode cX1_hasStamp 12 = .ok (.iconst 1, 1) := by decide +kernel
theorem dX1_hasStamp_13 : decode cX1_hasStamp 13 = .ok (.goto 4, 3) := by decide +kernel
theorem dX1_hasStamp_16 : decode cX1_hasStamp 16 = .ok (.iconst 0, 1) := by decide +kernel
theorem dX1_hasStamp_17 : decode cX1_hasStamp 17 = .ok (.ireturn, 1) := by decide +kernel
theorem dX1_hasLetter_0 : decode cX1_hasLetter 0 = .ok (.iload_n 1, 1) := by decide +kernel
theorem dX1_hasLetter_1 : decode cX1_hasLetter 1 = .ok (.ifCond .lt 15, 3) := by decide +kernel
theorem dX1_hasLetter_4 : decode cX1_hasLetter 4 = .ok (.iload_n 1, 1) := by decide +kernel
theorem dX1_hasLetter_5 : decode cX1_hasLetter 5 = .ok (.aload_n 0, 1) := by decide +kernel
theorem dX1_hasLetter_6 : decode cX1_hasLetter 6 = .ok (.getfield 40, 3) := by decide +kernel
theorem dX1_hasLetter_9 : decode cX1_hasLetter 9 = .ok (.if_icmp .ge 7, 3) := by decide +kernel
theorem dX1_hasLetter_12 : decode cX1_hasLetter 12 = .ok (.iconst 1, 1) := by decide +kernel
theorem dX1_hasLetter_13 : decode cX1_hasLetter 13 = .ok (.goto 4, 3) := by decide +kernel
theorem dX1_hasLetter_16 : decode cX1_hasLetter 16 = .ok (.iconst 0, 1) := by decide +kernel
theorem dX1_hasLetter_17 : decode cX1_hasLetter 17 = .ok (.ireturn, 1) := by decide +kernel
theorem dX1_allBits_0 : decode cX1_allBits 0 = .ok (.iconst 1, 1) := by decide +kernel
theorem dX1_allBits_1 : decode cX1_allBits 1 = .ok (.aload_n 0, 1) := by decide +kernel
theorem dX1_allBits_2 : decode cX1_allBits 2 = .ok (.getfield 36, 3) := by decide +kernel
theorem dX1_allBits_5 : decode cX1_allBits 5 = .ok (.ishl, 1) := by decide +kernel
theorem dX1_allBits_6 : decode cX1_allBits 6 = .ok (.iconst 1, 1) := by decide +kernel
theorem dX1_allBits_7 : decode cX1_allBits 7 = .ok (.isub, 1) := by decide +kernel
theorem dX1_allBits_8 : decode cX1_allBits 8 = .ok (.ireturn, 1) := by decide +kernel
theorem dX1_addStamp_0 : decode cX1_addStamp 0 = .ok (.aload_n 0, 1) := by decide +kernel
theorem dX1_addStamp_1 : decode cX1_addStamp 1 = .ok (.getfield 36, 3) := by decide +kernel
theorem dX1_addStamp_4 : decode cX1_addStamp 4 = .ok (.iconst 5, 1) := by decide +kernel
theorem dX1_addStamp_5 : decode cX1_addStamp 5 = .ok (.if_icmp .ge 46, 3) := by decide +kernel
theorem dX1_addStamp_8 : decode cX1_addStamp 8 = .ok (.aload_n 0, 1) := by decide +kernel
theorem dX1_addStamp_9 : decode cX1_addStamp 9 = .ok (.getfield 9, 3) := by decide +kernel
theorem dX1_addStamp_12 : decode cX1_addStamp 12 = .ok (.aload_n 0, 1) := by decide +kernel
theorem dX1_addStamp_13 : decode cX1_addStamp 13 = .ok (.getfield 36, 3) := by decide +kernel
theorem dX1_addStamp_16 : decode cX1_addStamp 16 = .ok (.bipush 10, 2) := by decide +kernel
theorem dX1_addStamp_18 : decode cX1_addStamp 18 = .ok (.iload_n 1, 1) := by decide +kernel
theorem dX1_addStamp_19 : decode cX1_addStamp 19 = .ok (.imul, 1) := by decide +kernel
theorem dX1_addStamp_20 : decode cX1_addStamp 20 = .ok (.iastore, 1) := by decide +kernel
theorem dX1_addStamp_21 : decode cX1_addStamp 21 = .ok (.aload_n 0, 1) := by decide +kernel
theorem dX1_addStamp_22 : decode cX1_addStamp 22 = .ok (.getfield 15, 3) := by decide +kernel
theorem dX1_addStamp_25 : decode cX1_addStamp 25 = .ok (.aload_n 0, 1) := by decide +kernel
theorem dX1_addStamp_26 : decode cX1_addStamp 26 = .ok (.getfield 36, 3) := by decide +kernel
theorem dX1_addStamp_29 : decode cX1_addStamp 29 = .ok (.iload_n 2, 1) := by decide +kernel
theorem dX1_addStamp_30 : decode cX1_addStamp 30 = .ok (.iastore, 1) := by decide +kernel
theorem dX1_addStamp_31 : decode cX1_addStamp 31 = .ok (.aload_n 0, 1) := by decide +kernel
theorem dX1_addStamp_32 : decode cX1_addStamp 32 = .ok (.getfield 18, 3) := by decide +kernel
theorem dX1_addStamp_35 : decode cX1_addStamp 35 = .ok (.aload_n 0, 1) := by decide +kernel
theorem dX1_addStamp_36 : decode cX1_addStamp 36 = .ok (.getfield 36, 3) := by decide +kernel
theorem dX1_addStamp_39 : decode cX1_addStamp 39 = .ok (.iload_n 3, 1) := by decide +kernel
theorem dX1_addStamp_40 : decode cX1_addStamp 40 = .ok (.iastore, 1) := by decide +kernel
theorem dX1_addStamp_41 : decode cX1_addStamp 41 = .ok (.aload_n 0, 1) := by decide +kernel
theorem dX1_addStamp_42 : decode cX1_addStamp 42 = .ok (.dup, 1) := by decide +kernel
theorem dX1_addStamp_43 : decode cX1_addStamp 43 = .ok (.getfield 36, 3) := by decide +kernel
theorem dX1_addStamp_46 : decode cX1_addStamp 46 = .ok (.iconst 1, 1) := by decide +kernel
theorem dX1_addStamp_47 : decode cX1_addStamp 47 = .ok (.iadd, 1) := by decide +kernel
theorem dX1_addStamp_48 : decode cX1_addStamp 48 = .ok (.putfield 36, 3) := by decide +kernel
theorem dX1_addStamp_51 : decode cX1_addStamp 51 = .ok (.return_, 1) := by decide +kernel
theorem dX1_addLetter_0 : decode cX1_addLetter 0 = .ok (.aload_n 0, 1) := by decide +kernel
theorem dX1_addLetter_1 : decode cX1_addLetter 1 = .ok (.getfield 40, 3) := by decide +kernel
theorem dX1_addLetter_4 : decode cX1_addLetter 4 = .ok (.iconst 4, 1) := by decide +kernel
theorem dX1_addLetter_5 : decode cX1_addLetter 5 = .ok (.if_icmp .ge 33, 3) := by decide +kernel
theorem dX1_addLetter_8 : decode cX1_addLetter 8 = .ok (.aload_n 0, 1) := by decide +kernel
theorem dX1_addLetter_9 : decode cX1_addLetter 9 = .ok (.getfield 27, 3) := by decide +kernel
theorem dX1_addLetter_12 : decode cX1_addLetter 12 = .ok (.aload_n 0, 1) := by decide +kernel
theorem dX1_addLetter_13 : decode cX1_addLetter 13 = .ok (.getfield 40, 3) := by decide +kernel
theorem dX1_addLetter_16 : decode cX1_addLetter 16 = .ok (.iload_n 1, 1) := by decide +kernel
theorem dX1_addLetter_17 : decode cX1_addLetter 17 = .ok (.iastore, 1) := by decide +kernel
theorem dX1_addLetter_18 : decode cX1_addLetter 18 = .ok (.aload_n 0, 1) := by decide +kernel
theorem dX1_addLetter_19 : decode cX1_addLetter 19 = .ok (.getfield 30, 3) := by decide +kernel
theorem dX1_addLetter_22 : decode cX1_addLetter 22 = .ok (.aload_n 0, 1) := by decide +kernel
theorem dX1_addLetter_23 : decode cX1_addLetter 23 = .ok (.getfield 40, 3) := by decide +kernel
theorem dX1_addLetter_26 : decode cX1_addLetter 26 = .ok (.iload_n 2, 1) := by decide +kernel
theorem dX1_addLetter_27 : decode cX1_addLetter 27 = .ok (.iastore, 1) := by decide +kernel
theorem dX1_addLetter_28 : decode cX1_addLetter 28 = .ok (.aload_n 0, 1) := by decide +kernel
theorem dX1_addLetter_29 : decode cX1_addLetter 29 = .ok (.dup, 1) := by decide +kernel
theorem dX1_addLetter_30 : decode cX1_addLetter 30 = .ok (.getfield 40, 3) := by decide +kernel
theorem dX1_addLetter_33 : decode cX1_addLetter 33 = .ok (.iconst 1, 1) := by decide +kernel
theorem dX1_addLetter_34 : decode cX1_addLetter 34 = .ok (.iadd, 1) := by decide +kernel
theorem dX1_addLetter_35 : decode cX1_addLetter 35 = .ok (.putfield 40, 3) := by decide +kernel
theorem dX1_addLetter_38 : decode cX1_addLetter 38 = .ok (.return_, 1) := by decide +kernel
theorem dX1_joinTwo_0 : decode cX1_joinTwo 0 = .ok (.aload_n 0, 1) := by decide +kernel
theorem dX1_joinTwo_1 : decode cX1_joinTwo 1 = .ok (.getfield 21, 3) := by decide +kernel
theorem dX1_joinTwo_4 : decode cX1_joinTwo 4 = .ok (.iload_n 1, 1) := by decide +kernel
theorem dX1_joinTwo_5 : decode cX1_joinTwo 5 = .ok (.dup2, 1) := by decide +kernel
theorem dX1_joinTwo_6 : decode cX1_joinTwo 6 = .ok (.iaload, 1) := by decide +kernel
theorem dX1_joinTwo_7 : decode cX1_joinTwo 7 = .ok (.iconst 1, 1) := by decide +kernel
theorem dX1_joinTwo_8 : decode cX1_joinTwo 8 = .ok (.iload_n 2, 1) := by decide +kernel
theorem dX1_joinTwo_9 : decode cX1_joinTwo 9 = .ok (.ishl, 1) := by decide +kernel
theorem dX1_joinTwo_10 : decode cX1_joinTwo 10 = .ok (.ior, 1) := by decide +kernel
theorem dX1_joinTwo_11 : decode cX1_joinTwo 11 = .ok (.iastore, 1) := by decide +kernel
theorem dX1_joinTwo_12 : decode cX1_joinTwo 12 = .ok (.aload_n 0, 1) := by decide +kernel
theorem dX1_joinTwo_13 : decode cX1_joinTwo 13 = .ok (.getfield 21, 3) := by decide +kernel
theorem dX1_joinTwo_16 : decode cX1_joinTwo 16 = .ok (.iload_n 2, 1) := by decide +kernel
theorem dX1_joinTwo_17 : decode cX1_joinTwo 17 = .ok (.dup2, 1) := by decide +kernel
theorem dX1_joinTwo_18 : decode cX1_joinTwo 18 = .ok (.iaload, 1) := by decide +kernel
theorem dX1_joinTwo_19 : decode cX1_joinTwo 19 = .ok (.iconst 1, 1) := by decide +kernel
theorem dX1_joinTwo_20 : decode cX1_joinTwo 20 = .ok (.iload_n 1, 1) := by decide +kernel
theorem dX1_joinTwo_21 : decode cX1_joinTwo 21 = .ok (.ishl, 1) := by decide +kernel
theorem dX1_joinTwo_22 : decode cX1_joinTwo 22 = .ok (.ior, 1) := by decide +kernel
theorem dX1_joinTwo_23 : decode cX1_joinTwo 23 = .ok (.iastore, 1) := by decide +kernel
theorem dX1_joinTwo_24 : decode cX1_joinTwo 24 = .ok (.return_, 1) := by decide +kernel
theorem dX1_areJoined_0 : decode cX1_areJoined 0 = .ok (.aload_n 0, 1) := by decide +kernel
theorem dX1_areJoined_1 : decode cX1_areJoined 1 = .ok (.iload_n 1, 1) := by decide +kernel
theorem dX1_areJoined_2 : decode cX1_areJoined 2 = .ok (.invokevirtual 62, 3) := by decide +kernel
theorem dX1_areJoined_5 : decode cX1_areJoined 5 = .ok (.ifCond .eq 29, 3) := by decide +kernel
theorem dX1_areJoined_8 : decode cX1_areJoined 8 = .ok (.aload_n 0, 1) := by decide +kernel
theorem dX1_areJoined_9 : decode cX1_areJoined 9 = .ok (.iload_n 2, 1) := by decide +kernel
theorem dX1_areJoined_10 : decode cX1_areJoined 10 = .ok (.invokevirtual 62, 3) := by decide +kernel
theorem dX1_areJoined_13 : decode cX1_areJoined 13 = .ok (.ifCond .eq 21, 3) := by decide +kernel
theorem dX1_areJoined_16 : decode cX1_areJoined 16 = .ok (.aload_n 0, 1) := by decide +kernel
theorem dX1_areJoined_17 : decode cX1_areJoined 17 = .ok (.getfield 21, 3) := by decide +kernel
theorem dX1_areJoined_20 : decode cX1_areJoined 20 = .ok (.iload_n 1, 1) := by decide +kernel
theorem dX1_areJoined_21 : decode cX1_areJoined 21 = .ok (.iaload, 1) := by decide +kernel
theorem dX1_areJoined_22 : decode cX1_areJoined 22 = .ok (.iload_n 2, 1) := by decide +kernel
theorem dX1_areJoined_23 : decode cX1_areJoined 23 = .ok (.ishr, 1) := by decide +kernel
theorem dX1_areJoined_24 : decode cX1_areJoined 24 = .ok (.iconst 1, 1) := by decide +kernel
theorem dX1_areJoined_25 : decode cX1_areJoined 25 = .ok (.iand, 1) := by decide +kernel
theorem dX1_areJoined_26 : decode cX1_areJoined 26 = .ok (.iconst 1, 1) := by decide +kernel
theorem dX1_areJoined_27 : decode cX1_areJoined 27 = .ok (.if_icmp .ne 7, 3) := by decide +kernel
theorem dX1_areJoined_30 : decode cX1_areJoined 30 = .ok (.iconst 1, 1) := by decide +kernel
theorem dX1_areJoined_31 : decode cX1_areJoined 31 = .ok (.goto 4, 3) := by decide +kernel
theorem dX1_areJoined_34 : decode cX1_areJoined 34 = .ok (.iconst 0, 1) := by decide +kernel
theorem dX1_areJoined_35 : decode cX1_areJoined 35 = .ok (.ireturn, 1) := by decide +kernel
theorem dX1_canJoin_0 : decode cX1_canJoin 0 = .ok (.aload_n 0, 1) := by decide +kernel
theorem dX1_canJoin_1 : decode cX1_canJoin 1 = .ok (.iload_n 1, 1) := by decide +kernel
theorem dX1_canJoin_2 : decode cX1_canJoin 2 = .ok (.invokevirtual 62, 3) := by decide +kernel
theorem dX1_canJoin_5 : decode cX1_canJoin 5 = .ok (.ifCond .eq 29, 3) := by decide +kernel
theorem dX1_canJoin_8 : decode cX1_canJoin 8 = .ok (.aload_n 0, 1) := by decide +kernel
theorem dX1_canJoin_9 : decode cX1_canJoin 9 = .ok (.iload_n 2, 1) := by decide +kernel
theorem dX1_canJoin_10 : decode cX1_canJoin 10 = .ok (.invokevirtual 62, 3) := by decide +kernel
theorem dX1_canJoin_13 : decode cX1_canJoin 13 = .ok (.ifCond .eq 21, 3) := by decide +kernel
theorem dX1_canJoin_16 : decode cX1_canJoin 16 = .ok (.iload_n 1, 1) := by decide +kernel
theorem dX1_canJoin_17 : decode cX1_canJoin 17 = .ok (.iload_n 2, 1) := by decide +kernel
theorem dX1_canJoin_18 : decode cX1_canJoin 18 = .ok (.if_icmp .eq 16, 3) := by decide +kernel
theorem dX1_canJoin_21 : decode cX1_canJoin 21 = .ok (.aload_n 0, 1) := by decide +kernel
theorem dX1_canJoin_22 : decode cX1_canJoin 22 = .ok (.iload_n 1, 1) := by decide +kernel
theorem dX1_canJoin_23 : decode cX1_canJoin 23 = .ok (.iload_n 2, 1) := by decide +kernel
theorem dX1_canJoin_24 : decode cX1_canJoin 24 = .ok (.invokevirtual 66, 3) := by decide +kernel
theorem dX1_canJoin_27 : decode cX1_canJoin 27 = .ok (.ifCond .ne 7, 3) := by decide +kernel
theorem dX1_canJoin_30 : decode cX1_canJoin 30 = .ok (.iconst 1, 1) := by decide +kernel
theorem dX1_canJoin_31 : decode cX1_canJoin 31 = .ok (.goto 4, 3) := by decide +kernel
theorem dX1_canJoin_34 : decode cX1_canJoin 34 = .ok (.iconst 0, 1) := by decide +kernel
theorem dX1_canJoin_35 : decode cX1_canJoin 35 = .ok (.ireturn, 1) := by decide +kernel
theorem dX1_canJoinSome_0 : decode cX1_canJoinSome 0 = .ok (.aload_n 0, 1) := by decide +kernel
theorem dX1_canJoinSome_1 : decode cX1_canJoinSome 1 = .ok (.iload_n 1, 1) := by decide +kernel
theorem dX1_canJoinSome_2 : decode cX1_canJoinSome 2 = .ok (.invokevirtual 62, 3) := by decide +kernel
theorem dX1_canJoinSome_5 : decode cX1_canJoinSome 5 = .ok (.ifCond .eq 24, 3) := by decide +kernel
theorem dX1_canJoinSome_8 : decode cX1_canJoinSome 8 = .ok (.aload_n 0, 1) := by decide +kernel
theorem dX1_canJoinSome_9 : decode cX1_canJoinSome 9 = .ok (.getfield 21, 3) := by decide +kernel
theorem dX1_canJoinSome_12 : decode cX1_canJoinSome 12 = .ok (.iload_n 1, 1) := by decide +kernel
theorem dX1_canJoinSome_13 : decode cX1_canJoinSome 13 = .ok (.iaload, 1) := by decide +kernel
theorem dX1_canJoinSome_14 : decode cX1_canJoinSome 14 = .ok (.iconst 1, 1) := by decide +kernel
theorem dX1_canJoinSome_15 : decode cX1_canJoinSome 15 = .ok (.iload_n 1, 1) := by decide +kernel
theorem dX1_canJoinSome_16 : decode cX1_canJoinSome 16 = .ok (.ishl, 1) := by decide +kernel
theorem dX1_canJoinSome_17 : decode cX1_canJoinSome 17 = .ok (.ior, 1) := by decide +kernel
theorem dX1_canJoinSome_18 : decode cX1_canJoinSome 18 = .ok (.aload_n 0, 1) := by decide +kernel
theorem dX1_canJoinSome_19 : decode cX1_canJoinSome 19 = .ok (.invokevirtual 70, 3) := by decide +kernel
theorem dX1_canJoinSome_22 : decode cX1_canJoinSome 22 = .ok (.if_icmp .eq 7, 3) := by decide +kernel
theorem dX1_canJoinSome_25 : decode cX1_canJoinSome 25 = .ok (.iconst 1, 1) := by decide +kernel
theorem dX1_canJoinSome_26 : decode cX1_canJoinSome 26 = .ok (.goto 4, 3) := by decide +kernel
theorem dX1_canJoinSome_29 : decode cX1_canJoinSome 29 = .ok (.iconst 0, 1) := by decide +kernel
theorem dX1_canJoinSome_30 : decode cX1_canJoinSome 30 = .ok (.ireturn, 1) := by decide +kernel
theorem dX1_canJoinAny_0 : decode cX1_canJoinAny 0 = .ok (.iconst 0, 1) := by decide +kernel
theorem dX1_canJoinAny_1 : decode cX1_canJoinAny 1 = .ok (.istore_n 1, 1) := by decide +kernel
theorem dX1_canJoinAny_2 : decode cX1_canJoinAny 2 = .ok (.iload_n 1, 1) := by decide +kernel
theorem dX1_canJoinAny_3 : decode cX1_canJoinAny 3 = .ok (.aload_n 0, 1) := by decide +kernel
theorem dX1_canJoinAny_4 : decode cX1_canJoinAny 4 = .ok (.getfield 36, 3) := by decide +kernel
theorem dX1_canJoinAny_7 : decode cX1_canJoinAny 7 = .ok (.if_icmp .ge 19, 3) := by decide +kernel
theorem dX1_canJoinAny_10 : decode cX1_canJoinAny 10 = .ok (.aload_n 0, 1) := by decide +kernel
theorem dX1_canJoinAny_11 : decode cX1_canJoinAny 11 = .ok (.iload_n 1, 1) := by decide +kernel
theorem dX1_canJoinAny_12 : decode cX1_canJoinAny 12 = .ok (.invokevirtual 74, 3) := by decide +kernel
theorem dX1_canJoinAny_15 : decode cX1_canJoinAny 15 = .ok (.ifCond .eq 5, 3) := by decide +kernel
theorem dX1_canJoinAny_18 : decode cX1_canJoinAny 18 = .ok (.iconst 1, 1) := by decide +kernel
theorem dX1_canJoinAny_19 : decode cX1_canJoinAny 19 = .ok (.ireturn, 1) := by decide +kernel
theorem dX1_canJoinAny_20 : decode cX1_canJoinAny 20 = .ok (.iinc 1 1, 3) := by decide +kernel
theorem dX1_canJoinAny_23 : decode cX1_canJoinAny 23 = .ok (.goto (-21), 3) := by decide +kernel
theorem dX1_canJoinAny_26 : decode cX1_canJoinAny 26 = .ok (.iconst 0, 1) := by decide +kernel
theorem dX1_canJoinAny_27 : decode cX1_canJoinAny 27 = .ok (.ireturn, 1) := by decide +kernel
theorem dX1_joinedToAny_0 : decode cX1_joinedToAny 0 = .ok (.iconst 0, 1) := by decide +kernel
theorem dX1_joinedToAny_1 : decode cX1_joinedToAny 1 = .ok (.istore_n 2, 1) := by decide +kernel
theorem dX1_joinedToAny_2 : decode cX1_joinedToAny 2 = .ok (.iconst 0, 1) := by decide +kernel
theorem dX1_joinedToAny_3 : decode cX1_joinedToAny 3 = .ok (.istore_n 3, 1) := by decide +kernel
theorem dX1_joinedToAny_4 : decode cX1_joinedToAny 4 = .ok (.iload_n 3, 1) := by decide +kernel
theorem dX1_joinedToAny_5 : decode cX1_joinedToAny 5 = .ok (.aload_n 0, 1) := by decide +kernel
theorem dX1_joinedToAny_6 : decode cX1_joinedToAny 6 = .ok (.getfield 36, 3) := by decide +kernel
theorem dX1_joinedToAny_9 : decode cX1_joinedToAny 9 = .ok (.if_icmp .ge 27, 3) := by decide +kernel
theorem dX1_joinedToAny_12 : decode cX1_joinedToAny 12 = .ok (.iload_n 1, 1) := by decide +kernel
theorem dX1_joinedToAny_13 : decode cX1_joinedToAny 13 = .ok (.iload_n 3, 1) := by decide +kernel
theorem dX1_joinedToAny_14 : decode cX1_joinedToAny 14 = .ok (.ishr, 1) := by decide +kernel
theorem dX1_joinedToAny_15 : decode cX1_joinedToAny 15 = .ok (.iconst 1, 1) := by decide +kernel
theorem dX1_joinedToAny_16 : decode cX1_joinedToAny 16 = .ok (.iand, 1) := by decide +kernel
theorem dX1_joinedToAny_17 : decode cX1_joinedToAny 17 = .ok (.iconst 1, 1) := by decide +kernel
theorem dX1_joinedToAny_18 : decode cX1_joinedToAny 18 = .ok (.if_icmp .ne 12, 3) := by decide +kernel
theorem dX1_joinedToAny_21 : decode cX1_joinedToAny 21 = .ok (.iload_n 2, 1) := by decide +kernel
theorem dX1_joinedToAny_22 : decode cX1_joinedToAny 22 = .ok (.aload_n 0, 1) := by decide +kernel
theorem dX1_joinedToAny_23 : decode cX1_joinedToAny 23 = .ok (.getfield 21, 3) := by decide +kernel
theorem dX1_joinedToAny_26 : decode cX1_joinedToAny 26 = .ok (.iload_n 3, 1) := by decide +kernel
theorem dX1_joinedToAny_27 : decode cX1_joinedToAny 27 = .ok (.iaload, 1) := by decide +kernel
theorem dX1_joinedToAny_28 : decode cX1_joinedToAny 28 = .ok (.ior, 1) := by decide +kernel
theorem dX1_joinedToAny_29 : decode cX1_joinedToAny 29 = .ok (.istore_n 2, 1) := by decide +kernel
theorem dX1_joinedToAny_30 : decode cX1_joinedToAny 30 = .ok (.iinc 3 1, 3) := by decide +kernel
theorem dX1_joinedToAny_33 : decode cX1_joinedToAny 33 = .ok (.goto (-29), 3) := by decide +kernel
theorem dX1_joinedToAny_36 : decode cX1_joinedToAny 36 = .ok (.iload_n 2, 1) := by decide +kernel
theorem dX1_joinedToAny_37 : decode cX1_joinedToAny 37 = .ok (.ireturn, 1) := by decide +kernel
theorem dX1_span_0 : decode cX1_span 0 = .ok (.aload_n 0, 1) := by decide +kernel
theorem dX1_span_1 : decode cX1_span 1 = .ok (.getfield 18, 3) := by decide +kernel
theorem dX1_span_4 : decode cX1_span 4 = .ok (.iload_n 1, 1) := by decide +kernel
theorem dX1_span_5 : decode cX1_span 5 = .ok (.iaload, 1) := by decide +kernel
theorem dX1_span_6 : decode cX1_span 6 = .ok (.iconst 1, 1) := by decide +kernel
theorem dX1_span_7 : decode cX1_span 7 = .ok (.if_icmp .ne 8, 3) := by decide +kernel
theorem dX1_span_10 : decode cX1_span 10 = .ok (.bipush 10, 2) := by decide +kernel
theorem dX1_span_12 : decode cX1_span 12 = .ok (.goto 19, 3) := by decide +kernel
theorem dX1_span_15 : decode cX1_span 15 = .ok (.aload_n 0, 1) := by decide +kernel
theorem dX1_span_16 : decode cX1_span 16 = .ok (.getfield 18, 3) := by decide +kernel
theorem dX1_span_19 : decode cX1_span 19 = .ok (.iload_n 1, 1) := by decide +kernel
theorem dX1_span_20 : decode cX1_span 20 = .ok (.iaload, 1) := by decide +kernel
theorem dX1_span_21 : decode cX1_span 21 = .ok (.iconst 2, 1) := by decide +kernel
theorem dX1_span_22 : decode cX1_span 22 = .ok (.if_icmp .ne 8, 3) := by decide +kernel
theorem dX1_span_25 : decode cX1_span 25 = .ok (.bipush 15, 2) := by decide +kernel
theorem dX1_span_27 : decode cX1_span 27 = .ok (.goto 4, 3) := by decide +kernel
theorem dX1_span_30 : decode cX1_span 30 = .ok (.iconst 0, 1) := by decide +kernel
theorem dX1_span_31 : decode cX1_span 31 = .ok (.istore_n 2, 1) := by decide +kernel
theorem dX1_span_32 : decode cX1_span 32 = .ok (.bipush 60, 2) := by decide +kernel
theorem dX1_span_34 : decode cX1_span 34 = .ok (.iconst 3, 1) := by decide +kernel
theorem dX1_span_35 : decode cX1_span 35 = .ok (.aload_n 0, 1) := by decide +kernel
theorem dX1_span_36 : decode cX1_span 36 = .ok (.getfield 15, 3) := by decide +kernel
theorem dX1_span_39 : decode cX1_span 39 = .ok (.iload_n 1, 1) := by decide +kernel
theorem dX1_span_40 : decode cX1_span 40 = .ok (.iaload, 1) := by decide +kernel
theorem dX1_span_41 : decode cX1_span 41 = .ok (.imul, 1) := by decide +kernel
theorem dX1_span_42 : decode cX1_span 42 = .ok (.iadd, 1) := by decide +kernel
theorem dX1_span_43 : decode cX1_span 43 = .ok (.iload_n 2, 1) := by decide +kernel
theorem dX1_span_44 : decode cX1_span 44 = .ok (.iadd, 1) := by decide +kernel
theorem dX1_span_45 : decode cX1_span 45 = .ok (.ireturn, 1) := by decide +kernel
theorem dX1_isAlive_0 : decode cX1_isAlive 0 = .ok (.aload_n 0, 1) := by decide +kernel
theorem dX1_isAlive_1 : decode cX1_isAlive 1 = .ok (.getfield 9, 3) := by decide +kernel
theorem dX1_isAlive_4 : decode cX1_isAlive 4 = .ok (.iload_n 1, 1) := by decide +kernel
theorem dX1_isAlive_5 : decode cX1_isAlive 5 = .ok (.iaload, 1) := by decide +kernel
theorem dX1_isAlive_6 : decode cX1_isAlive 6 = .ok (.aload_n 0, 1) := by decide +kernel
theorem dX1_isAlive_7 : decode cX1_isAlive 7 = .ok (.iload_n 1, 1) := by decide +kernel
theorem dX1_isAlive_8 : decode cX1_isAlive 8 = .ok (.invokevirtual 77, 3) := by decide +kernel
theorem dX1_isAlive_11 : decode cX1_isAlive 11 = .ok (.if_icmp .ge 7, 3) := by decide +kernel
theorem dX1_isAlive_14 : decode cX1_isAlive 14 = .ok (.iconst 1, 1) := by decide +kernel
theorem dX1_isAlive_15 : decode cX1_isAlive 15 = .ok (.goto 4, 3) := by decide +kernel
theorem dX1_isAlive_18 : decode cX1_isAlive 18 = .ok (.iconst 0, 1) := by decide +kernel
theorem dX1_isAlive_19 : decode cX1_isAlive 19 = .ok (.ireturn, 1) := by decide +kernel
theorem dX1_rate_0 : decode cX1_rate 0 = .ok (.aload_n 0, 1) := by decide +kernel
theorem dX1_rate_1 : decode cX1_rate 1 = .ok (.getfield 18, 3) := by decide +kernel
theorem dX1_rate_4 : decode cX1_rate 4 = .ok (.iload_n 1, 1) := by decide +kernel
theorem dX1_rate_5 : decode cX1_rate 5 = .ok (.iaload, 1) := by decide +kernel
theorem dX1_rate_6 : decode cX1_rate 6 = .ok (.tableswitch 62 0 2 #[26, 43, 45], 26) := by decide +kernel
theorem dX1_rate_32 : decode cX1_rate 32 = .ok (.bipush 9, 2) := by decide +kernel
theorem dX1_rate_34 : decode cX1_rate 34 = .ok (.iconst 2, 1) := by decide +kernel
theorem dX1_rate_35 : decode cX1_rate 35 = .ok (.aload_n 0, 1) := by decide +kernel
theorem dX1_rate_36 : decode cX1_rate 36 = .ok (.getfield 9, 3) := by decide +kernel
theorem dX1_rate_39 : decode cX1_rate 39 = .ok (.iload_n 1, 1) := by decide +kernel
theorem dX1_rate_40 : decode cX1_rate 40 = .ok (.iaload, 1) := by decide +kernel
theorem dX1_rate_41 : decode cX1_rate 41 = .ok (.bipush 20, 2) := by decide +kernel
theorem dX1_rate_43 : decode cX1_rate 43 = .ok (.idiv, 1) := by decide +kernel
theorem dX1_rate_44 : decode cX1_rate 44 = .ok (.iadd, 1) := by decide +kernel
theorem dX1_rate_45 : decode cX1_rate 45 = .ok (.invokestatic 81, 3) := by decide +kernel
theorem dX1_rate_48 : decode cX1_rate 48 = .ok (.ireturn, 1) := by decide +kernel
theorem dX1_rate_49 : decode cX1_rate 49 = .ok (.iconst 1, 1) := by decide +kernel
theorem dX1_rate_50 : decode cX1_rate 50 = .ok (.ireturn, 1) := by decide +kernel
theorem dX1_rate_51 : decode cX1_rate 51 = .ok (.bipush 9, 2) := by decide +kernel
theorem dX1_rate_53 : decode cX1_rate 53 = .ok (.iconst 2, 1) := by decide +kernel
theorem dX1_rate_54 : decode cX1_rate 54 = .ok (.aload_n 0, 1) := by decide +kernel
theorem dX1_rate_55 : decode cX1_rate 55 = .ok (.getfield 9, 3) := by decide +kernel
theorem dX1_rate_58 : decode cX1_rate 58 = .ok (.iload_n 1, 1) := by decide +kernel
theorem dX1_rate_59 : decode cX1_rate 59 = .ok (.iaload, 1) := by decide +kernel
theorem dX1_rate_60 : decode cX1_rate 60 = .ok (.bipush 10, 2) := by decide +kernel
theorem dX1_rate_62 : decode cX1_rate 62 = .ok (.idiv, 1) := by decide +kernel
theorem dX1_rate_63 : decode cX1_rate 63 = .ok (.iadd, 1) := by decide +kernel
theorem dX1_rate_64 : decode cX1_rate 64 = .ok (.invokestatic 81, 3) := by decide +kernel
theorem dX1_rate_67 : decode cX1_rate 67 = .ok (.ireturn, 1) := by decide +kernel
theorem dX1_rate_68 : decode cX1_rate 68 = .ok (.iconst 0, 1) := by decide +kernel
theorem dX1_rate_69 : decode cX1_rate 69 = .ok (.ireturn, 1) := by decide +kernel
theorem dX1_aliveBits_0 : decode cX1_aliveBits 0 = .ok (.iconst 0, 1) := by decide +kernel
theorem dX1_aliveBits_1 : decode cX1_aliveBits 1 = .ok (.istore_n 1, 1) := by decide +kernel
theorem dX1_aliveBits_2 : decode cX1_aliveBits 2 = .ok (.iconst 0, 1) := by decide +kernel
theorem dX1_aliveBits_3 : decode cX1_aliveBits 3 = .ok (.istore_n 2, 1) := by decide +kernel
theorem dX1_aliveBits_4 : decode cX1_aliveBits 4 = .ok (.iload_n 2, 1) := by decide +kernel
theorem dX1_aliveBits_5 : decode cX1_aliveBits 5 = .ok (.aload_n 0, 1) := by decide +kernel
theorem dX1_aliveBits_6 : decode cX1_aliveBits 6 = .ok (.getfield 36, 3) := by decide +kernel
theorem dX1_aliveBits_9 : decode cX1_aliveBits 9 = .ok (.if_icmp .ge 27, 3) := by decide +kernel
theorem dX1_aliveBits_12 : decode cX1_aliveBits 12 = .ok (.iload_n 1, 1) := by decide +kernel
theorem dX1_aliveBits_13 : decode cX1_aliveBits 13 = .ok (.aload_n 0, 1) := by decide +kernel
theorem dX1_aliveBits_14 : decode cX1_aliveBits 14 = .ok (.iload_n 2, 1) := by decide +kernel
theorem dX1_aliveBits_15 : decode cX1_aliveBits 15 = .ok (.invokevirtual 87, 3) := by decide +kernel
theorem dX1_aliveBits_18 : decode cX1_aliveBits 18 = .ok (.ifCond .eq 9, 3) := by decide +kernel
theorem dX1_aliveBits_21 : decode cX1_aliveBits 21 = .ok (.iconst 1, 1) := by decide +kernel
theorem dX1_aliveBits_22 : decode cX1_aliveBits 22 = .ok (.iload_n 2, 1) := by decide +kernel
theorem dX1_aliveBits_23 : decode cX1_aliveBits 23 = .ok (.ishl, 1) := by decide +kernel
theorem dX1_aliveBits_24 : decode cX1_aliveBits 24 = .ok (.goto 4, 3) := by decide +kernel
theorem dX1_aliveBits_27 : decode cX1_aliveBits 27 = .ok (.iconst 0, 1) := by decide +kernel
theorem dX1_aliveBits_28 : decode cX1_aliveBits 28 = .ok (.ior, 1) := by decide +kernel
theorem dX1_aliveBits_29 : decode cX1_aliveBits 29 = .ok (.istore_n 1, 1) := by decide +kernel
theorem dX1_aliveBits_30 : decode cX1_aliveBits 30 = .ok (.iinc 2 1, 3) := by decide +kernel
theorem dX1_aliveBits_33 : decode cX1_aliveBits 33 = .ok (.goto (-29), 3) := by decide +kernel
theorem dX1_aliveBits_36 : decode cX1_aliveBits 36 = .ok (.iload_n 1, 1) := by decide +kernel
theorem dX1_aliveBits_37 : decode cX1_aliveBits 37 = .ok (.ireturn, 1) := by decide +kernel
theorem dX1_widowBits_0 : decode cX1_widowBits 0 = .ok (.aload_n 0, 1) := by decide +kernel
theorem dX1_widowBits_1 : decode cX1_widowBits 1 = .ok (.invokevirtual 90, 3) := by decide +kernel
theorem dX1_widowBits_4 : decode cX1_widowBits 4 = .ok (.istore_n 1, 1) := by decide +kernel
theorem dX1_widowBits_5 : decode cX1_widowBits 5 = .ok (.iconst 0, 1) := by decide +kernel
theorem dX1_widowBits_6 : decode cX1_widowBits 6 = .ok (.istore_n 2, 1) := by decide +kernel
theorem dX1_widowBits_7 : decode cX1_widowBits 7 = .ok (.iconst 0, 1) := by decide +kernel
theorem dX1_widowBits_8 : decode cX1_widowBits 8 = .ok (.istore_n 3, 1) := by decide +kernel
theorem dX1_widowBits_9 : decode cX1_widowBits 9 = .ok (.iload_n 3, 1) := by decide +kernel
theorem dX1_widowBits_10 : decode cX1_widowBits 10 = .ok (.aload_n 0, 1) := by decide +kernel
theorem dX1_widowBits_11 : decode cX1_widowBits 11 = .ok (.getfield 36, 3) := by decide +kernel
theorem dX1_widowBits_14 : decode cX1_widowBits 14 = .ok (.if_icmp .ge 53, 3) := by decide +kernel
theorem dX1_widowBits_17 : decode cX1_widowBits 17 = .ok (.iload_n 1, 1) := by decide +kernel
theorem dX1_widowBits_18 : decode cX1_widowBits 18 = .ok (.iload_n 3, 1) := by decide +kernel
theorem dX1_widowBits_19 : decode cX1_widowBits 19 = .ok (.ishr, 1) := by decide +kernel
theorem dX1_widowBits_20 : decode cX1_widowBits 20 = .ok (.iconst 1, 1) := by decide +kernel
theorem dX1_widowBits_21 : decode cX1_widowBits 21 = .ok (.iand, 1) := by decide +kernel
theorem dX1_widowBits_22 : decode cX1_widowBits 22 = .ok (.iconst 1, 1) := by decide +kernel
theorem dX1_widowBits_23 : decode cX1_widowBits 23 = .ok (.if_icmp .ne 20, 3) := by decide +kernel
theorem dX1_widowBits_26 : decode cX1_widowBits 26 = .ok (.aload_n 0, 1) := by decide +kernel
theorem dX1_widowBits_27 : decode cX1_widowBits 27 = .ok (.getfield 21, 3) := by decide +kernel
theorem dX1_widowBits_30 : decode cX1_widowBits 30 = .ok (.iload_n 3, 1) := by decide +kernel
theorem dX1_widowBits_31 : decode cX1_widowBits 31 = .ok (.iaload, 1) := by decide +kernel
theorem dX1_widowBits_32 : decode cX1_widowBits 32 = .ok (.iload_n 1, 1) := by decide +kernel
theorem dX1_widowBits_33 : decode cX1_widowBits 33 = .ok (.iconst (-1), 1) := by decide +kernel
theorem dX1_widowBits_34 : decode cX1_widowBits 34 = .ok (.ixor, 1) := by decide +kernel
theorem dX1_widowBits_35 : decode cX1_widowBits 35 = .ok (.iand, 1) := by decide +kernel
theorem dX1_widowBits_36 : decode cX1_widowBits 36 = .ok (.ifCond .eq 7, 3) := by decide +kernel
theorem dX1_widowBits_39 : decode cX1_widowBits 39 = .ok (.iconst 1, 1) := by decide +kernel
theorem dX1_widowBits_40 : decode cX1_widowBits 40 = .ok (.goto 4, 3) := by decide +kernel
theorem dX1_widowBits_43 : decode cX1_widowBits 43 = .ok (.iconst 0, 1) := by decide +kernel
theorem dX1_widowBits_44 : decode cX1_widowBits 44 = .ok (.istore 4, 2) := by decide +kernel
theorem dX1_widowBits_46 : decode cX1_widowBits 46 = .ok (.iload_n 2, 1) := by decide +kernel
theorem dX1_widowBits_47 : decode cX1_widowBits 47 = .ok (.iload 4, 2) := by decide +kernel
theorem dX1_widowBits_49 : decode cX1_widowBits 49 = .ok (.ifCond .eq 9, 3) := by decide +kernel
theorem dX1_widowBits_52 : decode cX1_widowBits 52 = .ok (.iconst 1, 1) := by decide +kernel
theorem dX1_widowBits_53 : decode cX1_widowBits 53 = .ok (.iload_n 3, 1) := by decide +kernel
theorem dX1_widowBits_54 : decode cX1_widowBits 54 = .ok (.ishl, 1) := by decide +kernel
theorem dX1_widowBits_55 : decode cX1_widowBits 55 = .ok (.goto 4, 3) := by decide +kernel
theorem dX1_widowBits_58 : decode cX1_widowBits 58 = .ok (.iconst 0, 1) := by decide +kernel
theorem dX1_widowBits_59 : decode cX1_widowBits 59 = .ok (.ior, 1) := by decide +kernel
theorem dX1_widowBits_60 : decode cX1_widowBits 60 = .ok (.istore_n 2, 1) := by decide +kernel
theorem dX1_widowBits_61 : decode cX1_widowBits 61 = .ok (.iinc 3 1, 3) := by decide +kernel
theorem dX1_widowBits_64 : decode cX1_widowBits 64 = .ok (.goto (-55), 3) := by decide +kernel
theorem dX1_widowBits_67 : decode cX1_widowBits 67 = .ok (.iload_n 2, 1) := by decide +kernel
theorem dX1_widowBits_68 : decode cX1_widowBits 68 = .ok (.ireturn, 1) := by decide +kernel
theorem dX1_freeBits_0 : decode cX1_freeBits 0 = .ok (.iconst 0, 1) := by decide +kernel
theorem dX1_freeBits_1 : decode cX1_freeBits 1 = .ok (.istore_n 1, 1) := by decide +kernel
theorem dX1_freeBits_2 : decode cX1_freeBits 2 = .ok (.iconst 0, 1) := by decide +kernel
theorem dX1_freeBits_3 : decode cX1_freeBits 3 = .ok (.istore_n 2, 1) := by decide +kernel
theorem dX1_freeBits_4 : decode cX1_freeBits 4 = .ok (.iload_n 2, 1) := by decide +kernel
theorem dX1_freeBits_5 : decode cX1_freeBits 5 = .ok (.aload_n 0, 1) := by decide +kernel
theorem dX1_freeBits_6 : decode cX1_freeBits 6 = .ok (.getfield 36, 3) := by decide +kernel
theorem dX1_freeBits_9 : decode cX1_freeBits 9 = .ok (.if_icmp .ge 38, 3) := by decide +kernel
theorem dX1_freeBits_12 : decode cX1_freeBits 12 = .ok (.iload_n 1, 1) := by decide +kernel
theorem dX1_freeBits_13 : decode cX1_freeBits 13 = .ok (.aload_n 0, 1) := by decide +kernel
theorem dX1_freeBits_14 : decode cX1_freeBits 14 = .ok (.iload_n 2, 1) := by decide +kernel
theorem dX1_freeBits_15 : decode cX1_freeBits 15 = .ok (.invokevirtual 87, 3) := by decide +kernel
theorem dX1_freeBits_18 : decode cX1_freeBits 18 = .ok (.ifCond .eq 20, 3) := by decide +kernel
theorem dX1_freeBits_21 : decode cX1_freeBits 21 = .ok (.aload_n 0, 1) := by decide +kernel
theorem dX1_freeBits_22 : decode cX1_freeBits 22 = .ok (.getfield 24, 3) := by decide +kernel
theorem dX1_freeBits_25 : decode cX1_freeBits 25 = .ok (.iload_n 2, 1) := by decide +kernel
theorem dX1_freeBits_26 : decode cX1_freeBits 26 = .ok (.iaload, 1) := by decide +kernel
theorem dX1_freeBits_27 : decode cX1_freeBits 27 = .ok (.bipush (-9), 2) := by decide +kernel
theorem dX1_freeBits_29 : decode cX1_freeBits 29 = .ok (.if_icmp .ne 9, 3) := by decide +kernel
theorem dX1_freeBits_32 : decode cX1_freeBits 32 = .ok (.iconst 1, 1) := by decide +kernel
theorem dX1_freeBits_33 : decode cX1_freeBits 33 = .ok (.iload_n 2, 1) := by decide +kernel
theorem dX1_freeBits_34 : decode cX1_freeBits 34 = .ok (.ishl, 1) := by decide +kernel
theorem dX1_freeBits_35 : decode cX1_freeBits 35 = .ok (.goto 4, 3) := by decide +kernel
theorem dX1_freeBits_38 : decode cX1_freeBits 38 = .ok (.iconst 0, 1) := by decide +kernel
theorem dX1_freeBits_39 : decode cX1_freeBits 39 = .ok (.ior, 1) := by decide +kernel
theorem dX1_freeBits_40 : decode cX1_freeBits 40 = .ok (.istore_n 1, 1) := by decide +kernel
theorem dX1_freeBits_41 : decode cX1_freeBits 41 = .ok (.iinc 2 1, 3) := by decide +kernel
theorem dX1_freeBits_44 : decode cX1_freeBits 44 = .ok (.goto (-40), 3) := by decide +kernel
theorem dX1_freeBits_47 : decode cX1_freeBits 47 = .ok (.iload_n 1, 1) := by decide +kernel
theorem dX1_freeBits_48 : decode cX1_freeBits 48 = .ok (.ireturn, 1) := by decide +kernel
theorem dX1_stuckBits_0 : decode cX1_stuckBits 0 = .ok (.iconst 0, 1) := by decide +kernel
theorem dX1_stuckBits_1 : decode cX1_stuckBits 1 = .ok (.istore_n 2, 1) := by decide +kernel
theorem dX1_stuckBits_2 : decode cX1_stuckBits 2 = .ok (.iconst 0, 1) := by decide +kernel
theorem dX1_stuckBits_3 : decode cX1_stuckBits 3 = .ok (.istore_n 3, 1) := by decide +kernel
theorem dX1_stuckBits_4 : decode cX1_stuckBits 4 = .ok (.iload_n 3, 1) := by decide +kernel
theorem dX1_stuckBits_5 : decode cX1_stuckBits 5 = .ok (.aload_n 0, 1) := by decide +kernel
theorem dX1_stuckBits_6 : decode cX1_stuckBits 6 = .ok (.getfield 36, 3) := by decide +kernel
theorem dX1_stuckBits_9 : decode cX1_stuckBits 9 = .ok (.if_icmp .ge 29, 3) := by decide +kernel
theorem dX1_stuckBits_12 : decode cX1_stuckBits 12 = .ok (.iload_n 2, 1) := by decide +kernel
theorem dX1_stuckBits_13 : decode cX1_stuckBits 13 = .ok (.aload_n 0, 1) := by decide +kernel
theorem dX1_stuckBits_14 : decode cX1_stuckBits 14 = .ok (.getfield 24, 3) := by decide +kernel
theorem dX1_stuckBits_17 : decode cX1_stuckBits 17 = .ok (.iload_n 3, 1) := by decide +kernel
theorem dX1_stuckBits_18 : decode cX1_stuckBits 18 = .ok (.iaload, 1) := by decide +kernel
theorem dX1_stuckBits_19 : decode cX1_stuckBits 19 = .ok (.iload_n 1, 1) := by decide +kernel
theorem dX1_stuckBits_20 : decode cX1_stuckBits 20 = .ok (.if_icmp .ne 9, 3) := by decide +kernel
theorem dX1_stuckBits_23 : decode cX1_stuckBits 23 = .ok (.iconst 1, 1) := by decide +kernel
theorem dX1_stuckBits_24 : decode cX1_stuckBits 24 = .ok (.iload_n 3, 1) := by decide +kernel
theorem dX1_stuckBits_25 : decode cX1_stuckBits 25 = .ok (.ishl, 1) := by decide +kernel
theorem dX1_stuckBits_26 : decode cX1_stuckBits 26 = .ok (.goto 4, 3) := by decide +kernel
theorem dX1_stuckBits_29 : decode cX1_stuckBits 29 = .ok (.iconst 0, 1) := by decide +kernel
theorem dX1_stuckBits_30 : decode cX1_stuckBits 30 = .ok (.ior, 1) := by decide +kernel
theorem dX1_stuckBits_31 : decode cX1_stuckBits 31 = .ok (.istore_n 2, 1) := by decide +kernel
theorem dX1_stuckBits_32 : decode cX1_stuckBits 32 = .ok (.iinc 3 1, 3) := by decide +kernel
theorem dX1_stuckBits_35 : decode cX1_stuckBits 35 = .ok (.goto (-31), 3) := by decide +kernel
theorem dX1_stuckBits_38 : decode cX1_stuckBits 38 = .ok (.iload_n 2, 1) := by decide +kernel
theorem dX1_stuckBits_39 : decode cX1_stuckBits 39 = .ok (.ireturn, 1) := by decide +kernel
theorem dX1_fateBits_0 : decode cX1_fateBits 0 = .ok (.iconst 0, 1) := by decide +kernel
theorem dX1_fateBits_1 : decode cX1_fateBits 1 = .ok (.istore_n 2, 1) := by decide +kernel
theorem dX1_fateBits_2 : decode cX1_fateBits 2 = .ok (.iconst 0, 1) := by decide +kernel
theorem dX1_fateBits_3 : decode cX1_fateBits 3 = .ok (.istore_n 3, 1) := by decide +kernel
theorem dX1_fateBits_4 : decode cX1_fateBits 4 = .ok (.iload_n 3, 1) := by decide +kernel
theorem dX1_fateBits_5 : decode cX1_fateBits 5 = .ok (.aload_n 0, 1) := by decide +kernel
theorem dX1_fateBits_6 : decode cX1_fateBits 6 = .ok (.getfield 40, 3) := by decide +kernel
theorem dX1_fateBits_9 : decode cX1_fateBits 9 = .ok (.if_icmp .ge 29, 3) := by decide +kernel
theorem dX1_fateBits_12 : decode cX1_fateBits 12 = .ok (.iload_n 2, 1) := by decide +kernel
theorem dX1_fateBits_13 : decode cX1_fateBits 13 = .ok (.aload_n 0, 1) := by decide +kernel
theorem dX1_fateBits_14 : decode cX1_fateBits 14 = .ok (.getfield 33, 3) := by decide +kernel
theorem dX1_fateBits_17 : decode cX1_fateBits 17 = .ok (.iload_n 3, 1) := by decide +kernel
theorem dX1_fateBits_18 : decode cX1_fateBits 18 = .ok (.iaload, 1) := by decide +kernel
theorem dX1_fateBits_19 : decode cX1_fateBits 19 = .ok (.iload_n 1, 1) := by decide +kernel
theorem dX1_fateBits_20 : decode cX1_fateBits 20 = .ok (.if_icmp .ne 9, 3) := by decide +kernel
theorem dX1_fateBits_23 : decode cX1_fateBits 23 = .ok (.iconst 1, 1) := by decide +kernel
theorem dX1_fateBits_24 : decode cX1_fateBits 24 = .ok (.iload_n 3, 1) := by decide +kernel
theorem dX1_fateBits_25 : decode cX1_fateBits 25 = .ok (.ishl, 1) := by decide +kernel
theorem dX1_fateBits_26 : decode cX1_fateBits 26 = .ok (.goto 4, 3) := by decide +kernel
theorem dX1_fateBits_29 : decode cX1_fateBits 29 = .ok (.iconst 0, 1) := by decide +kernel
theorem dX1_fateBits_30 : decode cX1_fateBits 30 = .ok (.ior, 1) := by decide +kernel
theorem dX1_fateBits_31 : decode cX1_fateBits 31 = .ok (.istore_n 2, 1) := by decide +kernel
theorem dX1_fateBits_32 : decode cX1_fateBits 32 = .ok (.iinc 3 1, 3) := by decide +kernel
theorem dX1_fateBits_35 : decode cX1_fateBits 35 = .ok (.goto (-31), 3) := by decide +kernel
theorem dX1_fateBits_38 : decode cX1_fateBits 38 = .ok (.iload_n 2, 1) := by decide +kernel
theorem dX1_fateBits_39 : decode cX1_fateBits 39 = .ok (.ireturn, 1) := by decide +kernel
theorem dX1_goodFor_0 : decode cX1_goodFor 0 = .ok (.iconst 0, 1) := by decide +kernel
theorem dX1_goodFor_1 : decode cX1_goodFor 1 = .ok (.istore_n 2, 1) := by decide +kernel
theorem dX1_goodFor_2 : decode cX1_goodFor 2 = .ok (.iconst 0, 1) := by decide +kernel
theorem dX1_goodFor_3 : decode cX1_goodFor 3 = .ok (.istore_n 3, 1) := by decide +kernel
theorem dX1_goodFor_4 : decode cX1_goodFor 4 = .ok (.iload_n 3, 1) := by decide +kernel
theorem dX1_goodFor_5 : decode cX1_goodFor 5 = .ok (.aload_n 0, 1) := by decide +kernel
theorem dX1_goodFor_6 : decode cX1_goodFor 6 = .ok (.getfield 36, 3) := by decide +kernel
theorem dX1_goodFor_9 : decode cX1_goodFor 9 = .ok (.if_icmp .ge 38, 3) := by decide +kernel
theorem dX1_goodFor_12 : decode cX1_goodFor 12 = .ok (.iload_n 2, 1) := by decide +kernel
theorem dX1_goodFor_13 : decode cX1_goodFor 13 = .ok (.iload_n 1, 1) := by decide +kernel
theorem dX1_goodFor_14 : decode cX1_goodFor 14 = .ok (.iload_n 3, 1) := by decide +kernel
theorem dX1_goodFor_15 : decode cX1_goodFor 15 = .ok (.ishr, 1) := by decide +kernel
theorem dX1_goodFor_16 : decode cX1_goodFor 16 = .ok (.iconst 1, 1) := by decide +kernel
theorem dX1_goodFor_17 : decode cX1_goodFor 17 = .ok (.iand, 1) := by decide +kernel
theorem dX1_goodFor_18 : decode cX1_goodFor 18 = .ok (.iconst 1, 1) := by decide +kernel
theorem dX1_goodFor_19 : decode cX1_goodFor 19 = .ok (.if_icmp .ne 19, 3) := by decide +kernel
theorem dX1_goodFor_22 : decode cX1_goodFor 22 = .ok (.aload_n 0, 1) := by decide +kernel
theorem dX1_goodFor_23 : decode cX1_goodFor 23 = .ok (.iload_n 3, 1) := by decide +kernel
theorem dX1_goodFor_24 : decode cX1_goodFor 24 = .ok (.invokevirtual 87, 3) := by decide +kernel
theorem dX1_goodFor_27 : decode cX1_goodFor 27 = .ok (.ifCond .eq 11, 3) := by decide +kernel
theorem dX1_goodFor_30 : decode cX1_goodFor 30 = .ok (.aload_n 0, 1) := by decide +kernel
theorem dX1_goodFor_31 : decode cX1_goodFor 31 = .ok (.iload_n 3, 1) := by decide +kernel
theorem dX1_goodFor_32 : decode cX1_goodFor 32 = .ok (.invokevirtual 93, 3) := by decide +kernel
theorem dX1_goodFor_35 : decode cX1_goodFor 35 = .ok (.goto 4, 3) := by decide +kernel
theorem dX1_goodFor_38 : decode cX1_goodFor 38 = .ok (.iconst 0, 1) := by decide +kernel
theorem dX1_goodFor_39 : decode cX1_goodFor 39 = .ok (.iadd, 1) := by decide +kernel
theorem dX1_goodFor_40 : decode cX1_goodFor 40 = .ok (.istore_n 2, 1) := by decide +kernel
theorem dX1_goodFor_41 : decode cX1_goodFor 41 = .ok (.iinc 3 1, 3) := by decide +kernel
theorem dX1_goodFor_44 : decode cX1_goodFor 44 = .ok (.goto (-40), 3) := by decide +kernel
theorem dX1_goodFor_47 : decode cX1_goodFor 47 = .ok (.iload_n 2, 1) := by decide +kernel
theorem dX1_goodFor_48 : decode cX1_goodFor 48 = .ok (.ireturn, 1) := by decide +kernel
theorem dX1_affordable_0 : decode cX1_affordable 0 = .ok (.aload_n 0, 1) := by decide +kernel
theorem dX1_affordable_1 : decode cX1_affordable 1 = .ok (.iload_n 1, 1) := by decide +kernel
theorem dX1_affordable_2 : decode cX1_affordable 2 = .ok (.invokevirtual 96, 3) := by decide +kernel
theorem dX1_affordable_5 : decode cX1_affordable 5 = .ok (.istore_n 2, 1) := by decide +kernel
theorem dX1_affordable_6 : decode cX1_affordable 6 = .ok (.iconst 0, 1) := by decide +kernel
theorem dX1_affordable_7 : decode cX1_affordable 7 = .ok (.istore_n 3, 1) := by decide +kernel
theorem dX1_affordable_8 : decode cX1_affordable 8 = .ok (.iconst 0, 1) := by decide +kernel
theorem dX1_affordable_9 : decode cX1_affordable 9 = .ok (.istore 4, 2) := by decide +kernel
theorem dX1_affordable_11 : decode cX1_affordable 11 = .ok (.iload 4, 2) := by decide +kernel
theorem dX1_affordable_13 : decode cX1_affordable 13 = .ok (.aload_n 0, 1) := by decide +kernel
theorem dX1_affordable_14 : decode cX1_affordable 14 = .ok (.getfield 40, 3) := by decide +kernel
theorem dX1_affordable_17 : decode cX1_affordable 17 = .ok (.if_icmp .ge 38, 3) := by decide +kernel
theorem dX1_affordable_20 : decode cX1_affordable 20 = .ok (.iload_n 3, 1) := by decide +kernel
theorem dX1_affordable_21 : decode cX1_affordable 21 = .ok (.aload_n 0, 1) := by decide +kernel
theorem dX1_affordable_22 : decode cX1_affordable 22 = .ok (.getfield 33, 3) := by decide +kernel
theorem dX1_affordable_25 : decode cX1_affordable 25 = .ok (.iload 4, 2) := by decide +kernel
theorem dX1_affordable_27 : decode cX1_affordable 27 = .ok (.iaload, 1) := by decide +kernel
theorem dX1_affordable_28 : decode cX1_affordable 28 = .ok (.ifCond .ne 18, 3) := by decide +kernel
theorem dX1_affordable_31 : decode cX1_affordable 31 = .ok (.aload_n 0, 1) := by decide +kernel
theorem dX1_affordable_32 : decode cX1_affordable 32 = .ok (.getfield 30, 3) := by decide +kernel
theorem dX1_affordable_35 : decode cX1_affordable 35 = .ok (.iload 4, 2) := by decide +kernel
theorem dX1_affordable_37 : decode cX1_affordable 37 = .ok (.iaload, 1) := by decide +kernel
theorem dX1_affordable_38 : decode cX1_affordable 38 = .ok (.iload_n 2, 1) := by decide +kernel
theorem dX1_affordable_39 : decode cX1_affordable 39 = .ok (.if_icmp .gt 7, 3) := by decide +kernel
theorem dX1_affordable_42 : decode cX1_affordable 42 = .ok (.iconst 1, 1) := by decide +kernel
theorem dX1_affordable_43 : decode cX1_affordable 43 = .ok (.goto 4, 3) := by decide +kernel
theorem dX1_affordable_46 : decode cX1_affordable 46 = .ok (.iconst 0, 1) := by decide +kernel
theorem dX1_affordable_47 : decode cX1_affordable 47 = .ok (.iadd, 1) := by decide +kernel
theorem dX1_affordable_48 : decode cX1_affordable 48 = .ok (.istore_n 3, 1) := by decide +kernel
theorem dX1_affordable_49 : decode cX1_affordable 49 = .ok (.iinc 4 1, 3) := by decide +kernel
theorem dX1_affordable_52 : decode cX1_affordable 52 = .ok (.goto (-41), 3) := by decide +kernel
theorem dX1_affordable_55 : decode cX1_affordable 55 = .ok (.iload_n 3, 1) := by decide +kernel
theorem dX1_affordable_56 : decode cX1_affordable 56 = .ok (.ireturn, 1) := by decide +kernel
theorem dX1_livingPairs_0 : decode cX1_livingPairs 0 = .ok (.aload_n 0, 1) := by decide +kernel
theorem dX1_livingPairs_1 : decode cX1_livingPairs 1 = .ok (.invokevirtual 90, 3) := by decide +kernel
theorem dX1_livingPairs_4 : decode cX1_livingPairs 4 = .ok (.istore_n 1, 1) := by decide +kernel
theorem dX1_livingPairs_5 : decode cX1_livingPairs 5 = .ok (.iconst 0, 1) := by decide +kernel
theorem dX1_livingPairs_6 : decode cX1_livingPairs 6 = .ok (.istore_n 2, 1) := by decide +kernel
theorem dX1_livingPairs_7 : decode cX1_livingPairs 7 = .ok (.iconst 0, 1) := by decide +kernel
theorem dX1_livingPairs_8 : decode cX1_livingPairs 8 = .ok (.istore_n 3, 1) := by decide +kernel
theorem dX1_livingPairs_9 : decode cX1_livingPairs 9 = .ok (.iload_n 3, 1) := by decide +kernel
theorem dX1_livingPairs_10 : decode cX1_livingPairs 10 = .ok (.aload_n 0, 1) := by decide +kernel
theorem dX1_livingPairs_11 : decode cX1_livingPairs 11 = .ok (.getfield 36, 3) := by decide +kernel
theorem dX1_livingPairs_14 : decode cX1_livingPairs 14 = .ok (.if_icmp .ge 36, 3) := by decide +kernel
theorem dX1_livingPairs_17 : decode cX1_livingPairs 17 = .ok (.iload_n 2, 1) := by decide +kernel
theorem dX1_livingPairs_18 : decode cX1_livingPairs 18 = .ok (.iload_n 1, 1) := by decide +kernel
theorem dX1_livingPairs_19 : decode cX1_livingPairs 19 = .ok (.iload_n 3, 1) := by decide +kernel
theorem dX1_livingPairs_20 : decode cX1_livingPairs 20 = .ok (.ishr, 1) := by decide +kernel
theorem dX1_livingPairs_21 : decode cX1_livingPairs 21 = .ok (.iconst 1, 1) := by decide +kernel
theorem dX1_livingPairs_22 : decode cX1_livingPairs 22 = .ok (.iand, 1) := by decide +kernel
theorem dX1_livingPairs_23 : decode cX1_livingPairs 23 = .ok (.iconst 1, 1) := by decide +kernel
theorem dX1_livingPairs_24 : decode cX1_livingPairs 24 = .ok (.if_icmp .ne 17, 3) := by decide +kernel
theorem dX1_livingPairs_27 : decode cX1_livingPairs 27 = .ok (.aload_n 0, 1) := by decide +kernel
theorem dX1_livingPairs_28 : decode cX1_livingPairs 28 = .ok (.getfield 21, 3) := by decide +kernel
theorem dX1_livingPairs_31 : decode cX1_livingPairs 31 = .ok (.iload_n 3, 1) := by decide +kernel
theorem dX1_livingPairs_32 : decode cX1_livingPairs 32 = .ok (.iaload, 1) := by decide +kernel
theorem dX1_livingPairs_33 : decode cX1_livingPairs 33 = .ok (.iload_n 1, 1) := by decide +kernel
theorem dX1_livingPairs_34 : decode cX1_livingPairs 34 = .ok (.iand, 1) := by decide +kernel
theorem dX1_livingPairs_35 : decode cX1_livingPairs 35 = .ok (.invokestatic 99, 3) := by decide +kernel
theorem dX1_livingPairs_38 : decode cX1_livingPairs 38 = .ok (.goto 4, 3) := by decide +kernel
theorem dX1_livingPairs_41 : decode cX1_livingPairs 41 = .ok (.iconst 0, 1) := by decide +kernel
theorem dX1_livingPairs_42 : decode cX1_livingPairs 42 = .ok (.iadd, 1) := by decide +kernel
theorem dX1_livingPairs_43 : decode cX1_livingPairs 43 = .ok (.istore_n 2, 1) := by decide +kernel
theorem dX1_livingPairs_44 : decode cX1_livingPairs 44 = .ok (.iinc 3 1, 3) := by decide +kernel
theorem dX1_livingPairs_47 : decode cX1_livingPairs 47 = .ok (.goto (-38), 3) := by decide +kernel
theorem dX1_livingPairs_50 : decode cX1_livingPairs 50 = .ok (.iload_n 2, 1) := by decide +kernel
theorem dX1_livingPairs_51 : decode cX1_livingPairs 51 = .ok (.iconst 2, 1) := by decide +kernel
theorem dX1_livingPairs_52 : decode cX1_livingPairs 52 = .ok (.idiv, 1) := by decide +kernel
theorem dX1_livingPairs_53 : decode cX1_livingPairs 53 = .ok (.ireturn, 1) := by decide +kernel
theorem dX1_canStick_0 : decode cX1_canStick 0 = .ok (.aload_n 0, 1) := by decide +kernel
theorem dX1_canStick_1 : decode cX1_canStick 1 = .ok (.iload_n 1, 1) := by decide +kernel
theorem dX1_canStick_2 : decode cX1_canStick 2 = .ok (.invokevirtual 62, 3) := by decide +kernel
theorem dX1_canStick_5 : decode cX1_canStick 5 = .ok (.ifCond .eq 43, 3) := by decide +kernel
theorem dX1_canStick_8 : decode cX1_canStick 8 = .ok (.aload_n 0, 1) := by decide +kernel
theorem dX1_canStick_9 : decode cX1_canStick 9 = .ok (.iload_n 2, 1) := by decide +kernel
theorem dX1_canStick_10 : decode cX1_canStick 10 = .ok (.invokevirtual 104, 3) := by decide +kernel
theorem dX1_canStick_13 : decode cX1_canStick 13 = .ok (.ifCond .eq 35, 3) := by decide +kernel
theorem dX1_canStick_16 : decode cX1_canStick 16 = .ok (.aload_n 0, 1) := by decide +kernel
theorem dX1_canStick_17 : decode cX1_canStick 17 = .ok (.iload_n 1, 1) := by decide +kernel
theorem dX1_canStick_18 : decode cX1_canStick 18 = .ok (.invokevirtual 87, 3) := by decide +kernel
theorem dX1_canStick_21 : decode cX1_canStick 21 = .ok (.ifCond .eq 27, 3) := by decide +kernel
theorem dX1_canStick_24 : decode cX1_canStick 24 = .ok (.aload_n 0, 1) := by decide +kernel
theorem dX1_canStick_25 : decode cX1_canStick 25 = .ok (.getfield 24, 3) := by decide +kernel
theorem dX1_canStick_28 : decode cX1_canStick 28 = .ok (.iload_n 1, 1) := by decide +kernel
theorem dX1_canStick_29 : decode cX1_canStick 29 = .ok (.iaload, 1) := by decide +kernel
theorem dX1_canStick_30 : decode cX1_canStick 30 = .ok (.bipush (-9), 2) := by decide +kernel
theorem dX1_canStick_32 : decode cX1_canStick 32 = .ok (.if_icmp .ne 16, 3) := by decide +kernel
theorem dX1_canStick_35 : decode cX1_canStick 35 = .ok (.aload_n 0, 1) := by decide +kernel
theorem dX1_canStick_36 : decode cX1_canStick 36 = .ok (.getfield 33, 3) := by decide +kernel
theorem dX1_canStick_39 : decode cX1_canStick 39 = .ok (.iload_n 2, 1) := by decide +kernel
theorem dX1_canStick_40 : decode cX1_canStick 40 = .ok (.iaload, 1) := by decide +kernel
theorem dX1_canStick_41 : decode cX1_canStick 41 = .ok (.ifCond .ne 7, 3) := by decide +kernel
theorem dX1_canStick_44 : decode cX1_canStick 44 = .ok (.iconst 1, 1) := by decide +kernel
theorem dX1_canStick_45 : decode cX1_canStick 45 = .ok (.goto 4, 3) := by decide +kernel
theorem dX1_canStick_48 : decode cX1_canStick 48 = .ok (.iconst 0, 1) := by decide +kernel
theorem dX1_canStick_49 : decode cX1_canStick 49 = .ok (.ireturn, 1) := by decide +kernel
theorem dX1_stickOn_0 : decode cX1_stickOn 0 = .ok (.aload_n 0, 1) := by decide +kernel
theorem dX1_stickOn_1 : decode cX1_stickOn 1 = .ok (.getfield 24, 3) := by decide +kernel
theorem dX1_stickOn_4 : decode cX1_stickOn 4 = .ok (.iload_n 1, 1) := by decide +kernel
theorem dX1_stickOn_5 : decode cX1_stickOn 5 = .ok (.iload_n 2, 1) := by decide +kernel
theorem dX1_stickOn_6 : decode cX1_stickOn 6 = .ok (.iastore, 1) := by decide +kernel
theorem dX1_stickOn_7 : decode cX1_stickOn 7 = .ok (.aload_n 0, 1) := by decide +kernel
theorem dX1_stickOn_8 : decode cX1_stickOn 8 = .ok (.getfield 15, 3) := by decide +kernel
theorem dX1_stickOn_11 : decode cX1_stickOn 11 = .ok (.iload_n 1, 1) := by decide +kernel
theorem dX1_stickOn_12 : decode cX1_stickOn 12 = .ok (.iconst 0, 1) := by decide +kernel
theorem dX1_stickOn_13 : decode cX1_stickOn 13 = .ok (.aload_n 0, 1) := by decide +kernel
theorem dX1_stickOn_14 : decode cX1_stickOn 14 = .ok (.getfield 15, 3) := by decide +kernel
theorem dX1_stickOn_17 : decode cX1_stickOn 17 = .ok (.iload_n 1, 1) := by decide +kernel
theorem dX1_stickOn_18 : decode cX1_stickOn 18 = .ok (.iaload, 1) := by decide +kernel
theorem dX1_stickOn_19 : decode cX1_stickOn 19 = .ok (.iconst 1, 1) := by decide +kernel
theorem dX1_stickOn_20 : decode cX1_stickOn 20 = .ok (.isub, 1) := by decide +kernel
theorem dX1_stickOn_21 : decode cX1_stickOn 21 = .ok (.invokestatic 107, 3) := by decide +kernel
theorem dX1_stickOn_24 : decode cX1_stickOn 24 = .ok (.iastore, 1) := by decide +kernel
theorem dX1_stickOn_25 : decode cX1_stickOn 25 = .ok (.return_, 1) := by decide +kernel
theorem dX1_canSend_0 : decode cX1_canSend 0 = .ok (.aload_n 0, 1) := by decide +kernel
theorem dX1_canSend_1 : decode cX1_canSend 1 = .ok (.iload_n 1, 1) := by decide +kernel
theorem dX1_canSend_2 : decode cX1_canSend 2 = .ok (.invokevirtual 104, 3) := by decide +kernel
theorem dX1_canSend_5 : decode cX1_canSend 5 = .ok (.ifCond .eq 34, 3) := by decide +kernel
theorem dX1_canSend_8 : decode cX1_canSend 8 = .ok (.aload_n 0, 1) := by decide +kernel
theorem dX1_canSend_9 : decode cX1_canSend 9 = .ok (.getfield 33, 3) := by decide +kernel
theorem dX1_canSend_12 : decode cX1_canSend 12 = .ok (.iload_n 1, 1) := by decide +kernel
theorem dX1_canSend_13 : decode cX1_canSend 13 = .ok (.iaload, 1) := by decide +kernel
theorem dX1_canSend_14 : decode cX1_canSend 14 = .ok (.ifCond .ne 25, 3) := by decide +kernel
theorem dX1_canSend_17 : decode cX1_canSend 17 = .ok (.aload_n 0, 1) := by decide +kernel
theorem dX1_canSend_18 : decode cX1_canSend 18 = .ok (.aload_n 0, 1) := by decide +kernel
theorem dX1_canSend_19 : decode cX1_canSend 19 = .ok (.iload_n 1, 1) := by decide +kernel
theorem dX1_canSend_20 : decode cX1_canSend 20 = .ok (.invokevirtual 110, 3) := by decide +kernel
theorem dX1_canSend_23 : decode cX1_canSend 23 = .ok (.invokevirtual 96, 3) := by decide +kernel
theorem dX1_canSend_26 : decode cX1_canSend 26 = .ok (.aload_n 0, 1) := by decide +kernel
theorem dX1_canSend_27 : decode cX1_canSend 27 = .ok (.getfield 30, 3) := by decide +kernel
theorem dX1_canSend_30 : decode cX1_canSend 30 = .ok (.iload_n 1, 1) := by decide +kernel
theorem dX1_canSend_31 : decode cX1_canSend 31 = .ok (.iaload, 1) := by decide +kernel
theorem dX1_canSend_32 : decode cX1_canSend 32 = .ok (.if_icmp .lt 7, 3) := by decide +kernel
theorem dX1_canSend_35 : decode cX1_canSend 35 = .ok (.iconst 1, 1) := by decide +kernel
theorem dX1_canSend_36 : decode cX1_canSend 36 = .ok (.goto 4, 3) := by decide +kernel
theorem dX1_canSend_39 : decode cX1_canSend 39 = .ok (.iconst 0, 1) := by decide +kernel
theorem dX1_canSend_40 : decode cX1_canSend 40 = .ok (.ireturn, 1) := by decide +kernel
theorem dX1_sendOff_0 : decode cX1_sendOff 0 = .ok (.aload_n 0, 1) := by decide +kernel
theorem dX1_sendOff_1 : decode cX1_sendOff 1 = .ok (.getfield 33, 3) := by decide +kernel
theorem dX1_sendOff_4 : decode cX1_sendOff 4 = .ok (.iload_n 1, 1) := by decide +kernel
theorem dX1_sendOff_5 : decode cX1_sendOff 5 = .ok (.iconst 1, 1) := by decide +kernel
theorem dX1_sendOff_6 : decode cX1_sendOff 6 = .ok (.iastore, 1) := by decide +kernel
theorem dX1_sendOff_7 : decode cX1_sendOff 7 = .ok (.return_, 1) := by decide +kernel
theorem dX1_partTwo_0 : decode cX1_partTwo 0 = .ok (.aload_n 0, 1) := by decide +kernel
theorem dX1_partTwo_1 : decode cX1_partTwo 1 = .ok (.getfield 21, 3) := by decide +kernel
theorem dX1_partTwo_4 : decode cX1_partTwo 4 = .ok (.iload_n 1, 1) := by decide +kernel
theorem dX1_partTwo_5 : decode cX1_partTwo 5 = .ok (.dup2, 1) := by decide +kernel
theorem dX1_partTwo_6 : decode cX1_partTwo 6 = .ok (.iaload, 1) := by decide +kernel
theorem dX1_partTwo_7 : decode cX1_partTwo 7 = .ok (.iconst 1, 1) := by decide +kernel
theorem dX1_partTwo_8 : decode cX1_partTwo 8 = .ok (.iload_n 2, 1) := by decide +kernel
theorem dX1_partTwo_9 : decode cX1_partTwo 9 = .ok (.ishl, 1) := by decide +kernel
theorem dX1_partTwo_10 : decode cX1_partTwo 10 = .ok (.iconst (-1), 1) := by decide +kernel
theorem dX1_partTwo_11 : decode cX1_partTwo 11 = .ok (.ixor, 1) := by decide +kernel
theorem dX1_partTwo_12 : decode cX1_partTwo 12 = .ok (.iand, 1) := by decide +kernel
theorem dX1_partTwo_13 : decode cX1_partTwo 13 = .ok (.iastore, 1) := by decide +kernel
theorem dX1_partTwo_14 : decode cX1_partTwo 14 = .ok (.aload_n 0, 1) := by decide +kernel
theorem dX1_partTwo_15 : decode cX1_partTwo 15 = .ok (.getfield 21, 3) := by decide +kernel
theorem dX1_partTwo_18 : decode cX1_partTwo 18 = .ok (.iload_n 2, 1) := by decide +kernel
theorem dX1_partTwo_19 : decode cX1_partTwo 19 = .ok (.dup2, 1) := by decide +kernel
theorem dX1_partTwo_20 : decode cX1_partTwo 20 = .ok (.iaload, 1) := by decide +kernel
theorem dX1_partTwo_21 : decode cX1_partTwo 21 = .ok (.iconst 1, 1) := by decide +kernel
theorem dX1_partTwo_22 : decode cX1_partTwo 22 = .ok (.iload_n 1, 1) := by decide +kernel
theorem dX1_partTwo_23 : decode cX1_partTwo 23 = .ok (.ishl, 1) := by decide +kernel
theorem dX1_partTwo_24 : decode cX1_partTwo 24 = .ok (.iconst (-1), 1) := by decide +kernel
theorem dX1_partTwo_25 : decode cX1_partTwo 25 = .ok (.ixor, 1) := by decide +kernel
theorem dX1_partTwo_26 : decode cX1_partTwo 26 = .ok (.iand, 1) := by decide +kernel
theorem dX1_partTwo_27 : decode cX1_partTwo 27 = .ok (.iastore, 1) := by decide +kernel
theorem dX1_partTwo_28 : decode cX1_partTwo 28 = .ok (.aload_n 0, 1) := by decide +kernel
theorem dX1_partTwo_29 : decode cX1_partTwo 29 = .ok (.iconst 1, 1) := by decide +kernel
theorem dX1_partTwo_30 : decode cX1_partTwo 30 = .ok (.iload_n 1, 1) := by decide +kernel
theorem dX1_partTwo_31 : decode cX1_partTwo 31 = .ok (.ishl, 1) := by decide +kernel
theorem dX1_partTwo_32 : decode cX1_partTwo 32 = .ok (.iconst 1, 1) := by decide +kernel
theorem dX1_partTwo_33 : decode cX1_partTwo 33 = .ok (.iload_n 2, 1) := by decide +kernel
theorem dX1_partTwo_34 : decode cX1_partTwo 34 = .ok (.ishl, 1) := by decide +kernel
theorem dX1_partTwo_35 : decode cX1_partTwo 35 = .ok (.ior, 1) := by decide +kernel
theorem dX1_partTwo_36 : decode cX1_partTwo 36 = .ok (.iconst 1, 1) := by decide +kernel
theorem dX1_partTwo_37 : decode cX1_partTwo 37 = .ok (.invokevirtual 113, 3) := by decide +kernel
theorem dX1_partTwo_40 : decode cX1_partTwo 40 = .ok (.return_, 1) := by decide +kernel
theorem dX1_passWeek_0 : decode cX1_passWeek 0 = .ok (.aload_n 0, 1) := by decide +kernel
theorem dX1_passWeek_1 : decode cX1_passWeek 1 = .ok (.aload_n 0, 1) := by decide +kernel
theorem dX1_passWeek_2 : decode cX1_passWeek 2 = .ok (.invokevirtual 90, 3) := by decide +kernel
theorem dX1_passWeek_5 : decode cX1_passWeek 5 = .ok (.aload_n 0, 1) := by decide +kernel
theorem dX1_passWeek_6 : decode cX1_passWeek 6 = .ok (.getfield 46, 3) := by decide +kernel
theorem dX1_passWeek_9 : decode cX1_passWeek 9 = .ok (.ifCond .eq 7, 3) := by decide +kernel
theorem dX1_passWeek_12 : decode cX1_passWeek 12 = .ok (.iconst 2, 1) := by decide +kernel
theorem dX1_passWeek_13 : decode cX1_passWeek 13 = .ok (.goto 4, 3) := by decide +kernel
theorem dX1_passWeek_16 : decode cX1_passWeek 16 = .ok (.iconst 1, 1) := by decide +kernel
theorem dX1_passWeek_17 : decode cX1_passWeek 17 = .ok (.invokevirtual 113, 3) := by decide +kernel
theorem dX1_passWeek_20 : decode cX1_passWeek 20 = .ok (.aload_n 0, 1) := by decide +kernel
theorem dX1_passWeek_21 : decode cX1_passWeek 21 = .ok (.aload_n 0, 1) := by decide +kernel
theorem dX1_passWeek_22 : decode cX1_passWeek 22 = .ok (.invokevirtual 117, 3) := by decide +kernel
theorem dX1_passWeek_25 : decode cX1_passWeek 25 = .ok (.iconst 2, 1) := by decide +kernel
theorem dX1_passWeek_26 : decode cX1_passWeek 26 = .ok (.invokevirtual 113, 3) := by decide +kernel
theorem dX1_passWeek_29 : decode cX1_passWeek 29 = .ok (.iconst 0, 1) := by decide +kernel
theorem dX1_passWeek_30 : decode cX1_passWeek 30 = .ok (.istore_n 1, 1) := by decide +kernel
theorem dX1_passWeek_31 : decode cX1_passWeek 31 = .ok (.iload_n 1, 1) := by decide +kernel
theorem dX1_passWeek_32 : decode cX1_passWeek 32 = .ok (.aload_n 0, 1) := by decide +kernel
theorem dX1_passWeek_33 : decode cX1_passWeek 33 = .ok (.getfield 40, 3) := by decide +kernel
theorem dX1_passWeek_36 : decode cX1_passWeek 36 = .ok (.if_icmp .ge 24, 3) := by decide +kernel
theorem dX1_passWeek_39 : decode cX1_passWeek 39 = .ok (.aload_n 0, 1) := by decide +kernel
theorem dX1_passWeek_40 : decode cX1_passWeek 40 = .ok (.getfield 33, 3) := by decide +kernel
theorem dX1_passWeek_43 : decode cX1_passWeek 43 = .ok (.iload_n 1, 1) := by decide +kernel
theorem dX1_passWeek_44 : decode cX1_passWeek 44 = .ok (.iaload, 1) := by decide +kernel
theorem dX1_passWeek_45 : decode cX1_passWeek 45 = .ok (.iconst 1, 1) := by decide +kernel
theorem dX1_passWeek_46 : decode cX1_passWeek 46 = .ok (.if_icmp .ne 8, 3) := by decide +kernel
theorem dX1_passWeek_49 : decode cX1_passWeek 49 = .ok (.aload_n 0, 1) := by decide +kernel
theorem dX1_passWeek_50 : decode cX1_passWeek 50 = .ok (.iload_n 1, 1) := by decide +kernel
theorem dX1_passWeek_51 : decode cX1_passWeek 51 = .ok (.invokevirtual 120, 3) := by decide +kernel
theorem dX1_passWeek_54 : decode cX1_passWeek 54 = .ok (.iinc 1 1, 3) := by decide +kernel
theorem dX1_passWeek_57 : decode cX1_passWeek 57 = .ok (.goto (-26), 3) := by decide +kernel
theorem dX1_passWeek_60 : decode cX1_passWeek 60 = .ok (.aload_n 0, 1) := by decide +kernel
theorem dX1_passWeek_61 : decode cX1_passWeek 61 = .ok (.dup, 1) := by decide +kernel
theorem dX1_passWeek_62 : decode cX1_passWeek 62 = .ok (.getfield 43, 3) := by decide +kernel
theorem dX1_passWeek_65 : decode cX1_passWeek 65 = .ok (.iconst 1, 1) := by decide +kernel
theorem dX1_passWeek_66 : decode cX1_passWeek 66 = .ok (.iadd, 1) := by decide +kernel
theorem dX1_passWeek_67 : decode cX1_passWeek 67 = .ok (.putfield 43, 3) := by decide +kernel
theorem dX1_passWeek_70 : decode cX1_passWeek 70 = .ok (.return_, 1) := by decide +kernel
theorem dX1_growOlder_0 : decode cX1_growOlder 0 = .ok (.iconst 0, 1) := by decide +kernel
theorem dX1_growOlder_1 : decode cX1_growOlder 1 = .ok (.istore_n 3, 1) := by decide +kernel
theorem dX1_growOlder_2 : decode cX1_growOlder 2 = .ok (.iload_n 3, 1) := by decide +kernel
theorem dX1_growOlder_3 : decode cX1_growOlder 3 = .ok (.aload_n 0, 1) := by decide +kernel
theorem dX1_growOlder_4 : decode cX1_growOlder 4 = .ok (.getfield 36, 3) := by decide +kernel
theorem dX1_growOlder_7 : decode cX1_growOlder 7 = .ok (.if_icmp .ge 38, 3) := by decide +kernel
theorem dX1_growOlder_10 : decode cX1_growOlder 10 = .ok (.iload_n 1, 1) := by decide +kernel
theorem dX1_growOlder_11 : decode cX1_growOlder 11 = .ok (.iload_n 3, 1) := by decide +kernel
theorem dX1_growOlder_12 : decode cX1_growOlder 12 = .ok (.ishr, 1) := by decide +kernel
theorem dX1_growOlder_13 : decode cX1_growOlder 13 = .ok (.iconst 1, 1) := by decide +kernel
theorem dX1_growOlder_14 : decode cX1_growOlder 14 = .ok (.iand, 1) := by decide +kernel
theorem dX1_growOlder_15 : decode cX1_growOlder 15 = .ok (.iconst 1, 1) := by decide +kernel
theorem dX1_growOlder_16 : decode cX1_growOlder 16 = .ok (.if_icmp .ne 23, 3) := by decide +kernel
theorem dX1_growOlder_19 : decode cX1_growOlder 19 = .ok (.aload_n 0, 1) := by decide +kernel
theorem dX1_growOlder_20 : decode cX1_growOlder 20 = .ok (.getfield 18, 3) := by decide +kernel
theorem dX1_growOlder_23 : decode cX1_growOlder 23 = .ok (.iload_n 3, 1) := by decide +kernel
theorem dX1_growOlder_24 : decode cX1_growOlder 24 = .ok (.iaload, 1) := by decide +kernel
theorem dX1_growOlder_25 : decode cX1_growOlder 25 = .ok (.iconst 3, 1) := by decide +kernel
theorem dX1_growOlder_26 : decode cX1_growOlder 26 = .ok (.if_icmp .eq 13, 3) := by decide +kernel
theorem dX1_growOlder_29 : decode cX1_growOlder 29 = .ok (.aload_n 0, 1) := by decide +kernel
theorem dX1_growOlder_30 : decode cX1_growOlder 30 = .ok (.getfield 9, 3) := by decide +kernel
theorem dX1_growOlder_33 : decode cX1_growOlder 33 = .ok (.iload_n 3, 1) := by decide +kernel
theorem dX1_growOlder_34 : decode cX1_growOlder 34 = .ok (.dup2, 1) := by decide +kernel
theorem dX1_growOlder_35 : decode cX1_growOlder 35 = .ok (.iaload, 1) := by decide +kernel
theorem dX1_growOlder_36 : decode cX1_growOlder 36 = .ok (.iload_n 2, 1) := by decide +kernel
theorem dX1_growOlder_37 : decode cX1_growOlder 37 = .ok (.iadd, 1) := by decide +kernel
theorem dX1_growOlder_38 : decode cX1_growOlder 38 = .ok (.iastore, 1) := by decide +kernel
theorem dX1_growOlder_39 : decode cX1_growOlder 39 = .ok (.iinc 3 1, 3) := by decide +kernel
theorem dX1_growOlder_42 : decode cX1_growOlder 42 = .ok (.goto (-40), 3) := by decide +kernel
theorem dX1_growOlder_45 : decode cX1_growOlder 45 = .ok (.return_, 1) := by decide +kernel
theorem dX1_carry_0 : decode cX1_carry 0 = .ok (.aload_n 0, 1) := by decide +kernel
theorem dX1_carry_1 : decode cX1_carry 1 = .ok (.getfield 27, 3) := by decide +kernel
theorem dX1_carry_4 : decode cX1_carry 4 = .ok (.iload_n 1, 1) := by decide +kernel
theorem dX1_carry_5 : decode cX1_carry 5 = .ok (.dup2, 1) := by decide +kernel
theorem dX1_carry_6 : decode cX1_carry 6 = .ok (.iaload, 1) := by decide +kernel
theorem dX1_carry_7 : decode cX1_carry 7 = .ok (.iconst 1, 1) := by decide +kernel
theorem dX1_carry_8 : decode cX1_carry 8 = .ok (.isub, 1) := by decide +kernel
theorem dX1_carry_9 : decode cX1_carry 9 = .ok (.iastore, 1) := by decide +kernel
theorem dX1_carry_10 : decode cX1_carry 10 = .ok (.aload_n 0, 1) := by decide +kernel
theorem dX1_carry_11 : decode cX1_carry 11 = .ok (.getfield 27, 3) := by decide +kernel
theorem dX1_carry_14 : decode cX1_carry 14 = .ok (.iload_n 1, 1) := by decide +kernel
theorem dX1_carry_15 : decode cX1_carry 15 = .ok (.iaload, 1) := by decide +kernel
theorem dX1_carry_16 : decode cX1_carry 16 = .ok (.ifCond .gt 27, 3) := by decide +kernel
theorem dX1_carry_19 : decode cX1_carry 19 = .ok (.aload_n 0, 1) := by decide +kernel
theorem dX1_carry_20 : decode cX1_carry 20 = .ok (.getfield 33, 3) := by decide +kernel
theorem dX1_carry_23 : decode cX1_carry 23 = .ok (.iload_n 1, 1) := by decide +kernel
theorem dX1_carry_24 : decode cX1_carry 24 = .ok (.aload_n 0, 1) := by decide +kernel
theorem dX1_carry_25 : decode cX1_carry 25 = .ok (.iload_n 1, 1) := by decide +kernel
theorem dX1_carry_26 : decode cX1_carry 26 = .ok (.invokevirtual 110, 3) := by decide +kernel
theorem dX1_carry_29 : decode cX1_carry 29 = .ok (.aload_n 0, 1) := by decide +kernel
theorem dX1_carry_30 : decode cX1_carry 30 = .ok (.invokevirtual 90, 3) := by decide +kernel
theorem dX1_carry_33 : decode cX1_carry 33 = .ok (.iand, 1) := by decide +kernel
theorem dX1_carry_34 : decode cX1_carry 34 = .ok (.ifCond .eq 7, 3) := by decide +kernel
theorem dX1_carry_37 : decode cX1_carry 37 = .ok (.iconst 2, 1) := by decide +kernel
theorem dX1_carry_38 : decode cX1_carry 38 = .ok (.goto 4, 3) := by decide +kernel
theorem dX1_carry_41 : decode cX1_carry 41 = .ok (.iconst 3, 1) := by decide +kernel
theorem dX1_carry_42 : decode cX1_carry 42 = .ok (.iastore, 1) := by decide +kernel
theorem dX1_carry_43 : decode cX1_carry 43 = .ok (.return_, 1) := by decide +kernel
theorem dX1_does_0 : decode cX1_does 0 = .ok (.iload_n 1, 1) := by decide +kernel
theorem dX1_does_1 : decode cX1_does 1 = .ok (.bipush 10, 2) := by decide +kernel
theorem dX1_does_3 : decode cX1_does 3 = .ok (.idiv, 1) := by decide +kernel
theorem dX1_does_4 : decode cX1_does 4 = .ok (.bipush 10, 2) := by decide +kernel
theorem dX1_does_6 : decode cX1_does 6 = .ok (.irem, 1) := by decide +kernel
theorem dX1_does_7 : decode cX1_does 7 = .ok (.istore_n 2, 1) := by decide +kernel
end
section
theorem dX1_does_8 : decode cX1_does 8 = .ok (.iload_n 1, 1) := by decide +kernel
theorem dX1_does_9 : decode cX1_does 9 = .ok (.bipush 10, 2) := by decide +kernel
theorem dX1_does_11 : decode cX1_does 11 = .ok (.irem, 1) := by decide +kernel
theorem dX1_does_12 : decode cX1_does 12 = .ok (.istore_n 3, 1) := by decide +kernel
theorem dX1_does_13 : decode cX1_does 13 = .ok (.iload_n 1, 1) := by decide +kernel
theorem dX1_does_14 : decode cX1_does 14 = .ok (.bipush 100, 2) := by decide +kernel
theorem dX1_does_16 : decode cX1_does 16 = .ok (.idiv, 1) := by decide +kernel
theorem dX1_does_17 : decode cX1_does 17 = .ok (.tableswitch 130 0 3 #[31, 54, 76, 108], 31) := by decide +kernel
theorem dX1_does_48 : decode cX1_does 48 = .ok (.iload_n 1, 1) := by decide +kernel
theorem dX1_does_49 : decode cX1_does 49 = .ok (.ifCond .ne 7, 3) := by decide +kernel
theorem dX1_does_52 : decode cX1_does 52 = .ok (.iconst 1, 1) := by decide +kernel
theorem dX1_does_53 : decode cX1_does 53 = .ok (.goto 4, 3) := by decide +kernel
theorem dX1_does_56 : decode cX1_does 56 = .ok (.iconst 0, 1) := by decide +kernel
theorem dX1_does_57 : decode cX1_does 57 = .ok (.istore 4, 2) := by decide +kernel
theorem dX1_does_59 : decode cX1_does 59 = .ok (.iload 4, 2) := by decide +kernel
theorem dX1_does_61 : decode cX1_does 61 = .ok (.ifCond .eq 7, 3) := by decide +kernel
theorem dX1_does_64 : decode cX1_does 64 = .ok (.aload_n 0, 1) := by decide +kernel
theorem dX1_does_65 : decode cX1_does 65 = .ok (.invokevirtual 124, 3) := by decide +kernel
theorem dX1_does_68 : decode cX1_does 68 = .ok (.iload 4, 2) := by decide +kernel
theorem dX1_does_70 : decode cX1_does 70 = .ok (.ireturn, 1) := by decide +kernel
theorem dX1_does_71 : decode cX1_does 71 = .ok (.aload_n 0, 1) := by decide +kernel
theorem dX1_does_72 : decode cX1_does 72 = .ok (.iload_n 2, 1) := by decide +kernel
theorem dX1_does_73 : decode cX1_does 73 = .ok (.iload_n 3, 1) := by decide +kernel
theorem dX1_does_74 : decode cX1_does 74 = .ok (.invokevirtual 127, 3) := by decide +kernel
theorem dX1_does_77 : decode cX1_does 77 = .ok (.istore 4, 2) := by decide +kernel
theorem dX1_does_79 : decode cX1_does 79 = .ok (.iload 4, 2) := by decide +kernel
theorem dX1_does_81 : decode cX1_does 81 = .ok (.ifCond .eq 9, 3) := by decide +kernel
theorem dX1_does_84 : decode cX1_does 84 = .ok (.aload_n 0, 1) := by decide +kernel
theorem dX1_does_85 : decode cX1_does 85 = .ok (.iload_n 2, 1) := by decide +kernel
theorem dX1_does_86 : decode cX1_does 86 = .ok (.iload_n 3, 1) := by decide +kernel
theorem dX1_does_87 : decode cX1_does 87 = .ok (.invokevirtual 130, 3) := by decide +kernel
theorem dX1_does_90 : decode cX1_does 90 = .ok (.iload 4, 2) := by decide +kernel
theorem dX1_does_92 : decode cX1_does 92 = .ok (.ireturn, 1) := by decide +kernel
theorem dX1_does_93 : decode cX1_does 93 = .ok (.iload_n 2, 1) := by decide +kernel
theorem dX1_does_94 : decode cX1_does 94 = .ok (.ifCond .ne 15, 3) := by decide +kernel
theorem dX1_does_97 : decode cX1_does 97 = .ok (.aload_n 0, 1) := by decide +kernel
theorem dX1_does_98 : decode cX1_does 98 = .ok (.iload_n 3, 1) := by decide +kernel
theorem dX1_does_99 : decode cX1_does 99 = .ok (.invokevirtual 133, 3) := by decide +kernel
theorem dX1_does_102 : decode cX1_does 102 = .ok (.ifCond .eq 7, 3) := by decide +kernel
theorem dX1_does_105 : decode cX1_does 105 = .ok (.iconst 1, 1) := by decide +kernel
theorem dX1_does_106 : decode cX1_does 106 = .ok (.goto 4, 3) := by decide +kernel
theorem dX1_does_109 : decode cX1_does 109 = .ok (.iconst 0, 1) := by decide +kernel
theorem dX1_does_110 : decode cX1_does 110 = .ok (.istore 4, 2) := by decide +kernel
theorem dX1_does_112 : decode cX1_does 112 = .ok (.iload 4, 2) := by decide +kernel
theorem dX1_does_114 : decode cX1_does 114 = .ok (.ifCond .eq 8, 3) := by decide +kernel
theorem dX1_does_117 : decode cX1_does 117 = .ok (.aload_n 0, 1) := by decide +kernel
theorem dX1_does_118 : decode cX1_does 118 = .ok (.iload_n 3, 1) := by decide +kernel
theorem dX1_does_119 : decode cX1_does 119 = .ok (.invokevirtual 136, 3) := by decide +kernel
theorem dX1_does_122 : decode cX1_does 122 = .ok (.iload 4, 2) := by decide +kernel
theorem dX1_does_124 : decode cX1_does 124 = .ok (.ireturn, 1) := by decide +kernel
theorem dX1_does_125 : decode cX1_does 125 = .ok (.aload_n 0, 1) := by decide +kernel
theorem dX1_does_126 : decode cX1_does 126 = .ok (.iload_n 2, 1) := by decide +kernel
theorem dX1_does_127 : decode cX1_does 127 = .ok (.iload_n 3, 1) := by decide +kernel
theorem dX1_does_128 : decode cX1_does 128 = .ok (.invokevirtual 66, 3) := by decide +kernel
theorem dX1_does_131 : decode cX1_does 131 = .ok (.istore 4, 2) := by decide +kernel
theorem dX1_does_133 : decode cX1_does 133 = .ok (.iload 4, 2) := by decide +kernel
theorem dX1_does_135 : decode cX1_does 135 = .ok (.ifCond .eq 9, 3) := by decide +kernel
theorem dX1_does_138 : decode cX1_does 138 = .ok (.aload_n 0, 1) := by decide +kernel
theorem dX1_does_139 : decode cX1_does 139 = .ok (.iload_n 2, 1) := by decide +kernel
theorem dX1_does_140 : decode cX1_does 140 = .ok (.iload_n 3, 1) := by decide +kernel
theorem dX1_does_141 : decode cX1_does 141 = .ok (.invokevirtual 139, 3) := by decide +kernel
theorem dX1_does_144 : decode cX1_does 144 = .ok (.iload 4, 2) := by decide +kernel
theorem dX1_does_146 : decode cX1_does 146 = .ok (.ireturn, 1) := by decide +kernel
theorem dX1_does_147 : decode cX1_does 147 = .ok (.iconst 0, 1) := by decide +kernel
theorem dX1_does_148 : decode cX1_does 148 = .ok (.ireturn, 1) := by decide +kernel
theorem dX2_init_0 : decode cX2_init 0 = .ok (.aload_n 0, 1) := by decide +kernel
theorem dX2_init_1 : decode cX2_init 1 = .ok (.invokespecial 3, 3) := by decide +kernel
theorem dX2_init_4 : decode cX2_init 4 = .ok (.return_, 1) := by decide +kernel
theorem dX2_begin_0 : decode cX2_begin 0 = .ok (.aload_n 0, 1) := by decide +kernel
theorem dX2_begin_1 : decode cX2_begin 1 = .ok (.iconst 0, 1) := by decide +kernel
theorem dX2_begin_2 : decode cX2_begin 2 = .ok (.putfield 9, 3) := by decide +kernel
theorem dX2_begin_5 : decode cX2_begin 5 = .ok (.aload_n 0, 1) := by decide +kernel
theorem dX2_begin_6 : decode cX2_begin 6 = .ok (.iconst 0, 1) := by decide +kernel
theorem dX2_begin_7 : decode cX2_begin 7 = .ok (.putfield 15, 3) := by decide +kernel
theorem dX2_begin_10 : decode cX2_begin 10 = .ok (.return_, 1) := by decide +kernel
theorem dX2_mayEnd_0 : decode cX2_mayEnd 0 = .ok (.aload_n 0, 1) := by decide +kernel
theorem dX2_mayEnd_1 : decode cX2_mayEnd 1 = .ok (.getfield 9, 3) := by decide +kernel
theorem dX2_mayEnd_4 : decode cX2_mayEnd 4 = .ok (.ifCond .eq 14, 3) := by decide +kernel
theorem dX2_mayEnd_7 : decode cX2_mayEnd 7 = .ok (.aload_n 0, 1) := by decide +kernel
theorem dX2_mayEnd_8 : decode cX2_mayEnd 8 = .ok (.getfield 15, 3) := by decide +kernel
theorem dX2_mayEnd_11 : decode cX2_mayEnd 11 = .ok (.ifCond .ne 7, 3) := by decide +kernel
theorem dX2_mayEnd_14 : decode cX2_mayEnd 14 = .ok (.iconst 1, 1) := by decide +kernel
theorem dX2_mayEnd_15 : decode cX2_mayEnd 15 = .ok (.goto 4, 3) := by decide +kernel
theorem dX2_mayEnd_18 : decode cX2_mayEnd 18 = .ok (.iconst 0, 1) := by decide +kernel
theorem dX2_mayEnd_19 : decode cX2_mayEnd 19 = .ok (.ireturn, 1) := by decide +kernel
theorem dX2_takes_0 : decode cX2_takes 0 = .ok (.aload_n 0, 1) := by decide +kernel
theorem dX2_takes_1 : decode cX2_takes 1 = .ok (.getfield 9, 3) := by decide +kernel
theorem dX2_takes_4 : decode cX2_takes 4 = .ok (.ifCond .ne 23, 3) := by decide +kernel
theorem dX2_takes_7 : decode cX2_takes 7 = .ok (.aload_n 0, 1) := by decide +kernel
theorem dX2_takes_8 : decode cX2_takes 8 = .ok (.iload_n 1, 1) := by decide +kernel
theorem dX2_takes_9 : decode cX2_takes 9 = .ok (.bipush 65, 2) := by decide +kernel
theorem dX2_takes_11 : decode cX2_takes 11 = .ok (.if_icmp .ne 7, 3) := by decide +kernel
theorem dX2_takes_14 : decode cX2_takes 14 = .ok (.iconst 1, 1) := by decide +kernel
theorem dX2_takes_15 : decode cX2_takes 15 = .ok (.goto 4, 3) := by decide +kernel
theorem dX2_takes_18 : decode cX2_takes 18 = .ok (.iconst 0, 1) := by decide +kernel
theorem dX2_takes_19 : decode cX2_takes 19 = .ok (.putfield 9, 3) := by decide +kernel
theorem dX2_takes_22 : decode cX2_takes 22 = .ok (.aload_n 0, 1) := by decide +kernel
theorem dX2_takes_23 : decode cX2_takes 23 = .ok (.getfield 9, 3) := by decide +kernel
theorem dX2_takes_26 : decode cX2_takes 26 = .ok (.ireturn, 1) := by decide +kernel
theorem dX2_takes_27 : decode cX2_takes 27 = .ok (.aload_n 0, 1) := by decide +kernel
theorem dX2_takes_28 : decode cX2_takes 28 = .ok (.getfield 15, 3) := by decide +kernel
theorem dX2_takes_31 : decode cX2_takes 31 = .ok (.ifCond .ne 10, 3) := by decide +kernel
theorem dX2_takes_34 : decode cX2_takes 34 = .ok (.aload_n 0, 1) := by decide +kernel
theorem dX2_takes_35 : decode cX2_takes 35 = .ok (.iload_n 1, 1) := by decide +kernel
theorem dX2_takes_36 : decode cX2_takes 36 = .ok (.aload_n 2, 1) := by decide +kernel
theorem dX2_takes_37 : decode cX2_takes 37 = .ok (.invokevirtual 19, 3) := by decide +kernel
theorem dX2_takes_40 : decode cX2_takes 40 = .ok (.ireturn, 1) := by decide +kernel
theorem dX2_takes_41 : decode cX2_takes 41 = .ok (.iload_n 1, 1) := by decide +kernel
theorem dX2_takes_42 : decode cX2_takes 42 = .ok (.bipush 48, 2) := by decide +kernel
theorem dX2_takes_44 : decode cX2_takes 44 = .ok (.isub, 1) := by decide +kernel
theorem dX2_takes_45 : decode cX2_takes 45 = .ok (.istore_n 3, 1) := by decide +kernel
theorem dX2_takes_46 : decode cX2_takes 46 = .ok (.iload_n 3, 1) := by decide +kernel
theorem dX2_takes_47 : decode cX2_takes 47 = .ok (.ifCond .lt 9, 3) := by decide +kernel
theorem dX2_takes_50 : decode cX2_takes 50 = .ok (.iload_n 3, 1) := by decide +kernel
theorem dX2_takes_51 : decode cX2_takes 51 = .ok (.bipush 9, 2) := by decide +kernel
theorem dX2_takes_53 : decode cX2_takes 53 = .ok (.if_icmp .le 5, 3) := by decide +kernel
theorem dX2_takes_56 : decode cX2_takes 56 = .ok (.iconst 0, 1) := by decide +kernel
theorem dX2_takes_57 : decode cX2_takes 57 = .ok (.ireturn, 1) := by decide +kernel
theorem dX2_takes_58 : decode cX2_takes 58 = .ok (.aload_n 0, 1) := by decide +kernel
theorem dX2_takes_59 : decode cX2_takes 59 = .ok (.getfield 15, 3) := by decide +kernel
theorem dX2_takes_62 : decode cX2_takes 62 = .ok (.lookupswitch 40 #[(74, 33), (83, 26)], 26) := by decide +kernel
theorem dX2_takes_88 : decode cX2_takes 88 = .ok (.aload_n 0, 1) := by decide +kernel
theorem dX2_takes_89 : decode cX2_takes 89 = .ok (.iload_n 3, 1) := by decide +kernel
theorem dX2_takes_90 : decode cX2_takes 90 = .ok (.aload_n 2, 1) := by decide +kernel
theorem dX2_takes_91 : decode cX2_takes 91 = .ok (.invokevirtual 23, 3) := by decide +kernel
theorem dX2_takes_94 : decode cX2_takes 94 = .ok (.ireturn, 1) := by decide +kernel
theorem dX2_takes_95 : decode cX2_takes 95 = .ok (.aload_n 0, 1) := by decide +kernel
theorem dX2_takes_96 : decode cX2_takes 96 = .ok (.iload_n 3, 1) := by decide +kernel
theorem dX2_takes_97 : decode cX2_takes 97 = .ok (.aload_n 2, 1) := by decide +kernel
theorem dX2_takes_98 : decode cX2_takes 98 = .ok (.invokevirtual 26, 3) := by decide +kernel
theorem dX2_takes_101 : decode cX2_takes 101 = .ok (.ireturn, 1) := by decide +kernel
theorem dX2_takes_102 : decode cX2_takes 102 = .ok (.aload_n 0, 1) := by decide +kernel
theorem dX2_takes_103 : decode cX2_takes 103 = .ok (.iload_n 3, 1) := by decide +kernel
theorem dX2_takes_104 : decode cX2_takes 104 = .ok (.aload_n 2, 1) := by decide +kernel
theorem dX2_takes_105 : decode cX2_takes 105 = .ok (.invokevirtual 29, 3) := by decide +kernel
theorem dX2_takes_108 : decode cX2_takes 108 = .ok (.ireturn, 1) := by decide +kernel
theorem dX2_opens_0 : decode cX2_opens 0 = .ok (.iload_n 1, 1) := by decide +kernel
theorem dX2_opens_1 : decode cX2_opens 1 = .ok (.bipush 83, 2) := by decide +kernel
theorem dX2_opens_3 : decode cX2_opens 3 = .ok (.if_icmp .ne 11, 3) := by decide +kernel
theorem dX2_opens_6 : decode cX2_opens 6 = .ok (.aload_n 2, 1) := by decide +kernel
theorem dX2_opens_7 : decode cX2_opens 7 = .ok (.getfield 32, 3) := by decide +kernel
theorem dX2_opens_10 : decode cX2_opens 10 = .ok (.iconst 5, 1) := by decide +kernel
theorem dX2_opens_11 : decode cX2_opens 11 = .ok (.if_icmp .lt 30, 3) := by decide +kernel
theorem dX2_opens_14 : decode cX2_opens 14 = .ok (.iload_n 1, 1) := by decide +kernel
theorem dX2_opens_15 : decode cX2_opens 15 = .ok (.bipush 74, 2) := by decide +kernel
theorem dX2_opens_17 : decode cX2_opens 17 = .ok (.if_icmp .ne 10, 3) := by decide +kernel
theorem dX2_opens_20 : decode cX2_opens 20 = .ok (.aload_n 2, 1) := by decide +kernel
theorem dX2_opens_21 : decode cX2_opens 21 = .ok (.invokevirtual 37, 3) := by decide +kernel
theorem dX2_opens_24 : decode cX2_opens 24 = .ok (.ifCond .ne 17, 3) := by decide +kernel
theorem dX2_opens_27 : decode cX2_opens 27 = .ok (.iload_n 1, 1) := by decide +kernel
theorem dX2_opens_28 : decode cX2_opens 28 = .ok (.bipush 76, 2) := by decide +kernel
theorem dX2_opens_30 : decode cX2_opens 30 = .ok (.if_icmp .ne 15, 3) := by decide +kernel
theorem dX2_opens_33 : decode cX2_opens 33 = .ok (.aload_n 2, 1) := by decide +kernel
theorem dX2_opens_34 : decode cX2_opens 34 = .ok (.getfield 41, 3) := by decide +kernel
theorem dX2_opens_37 : decode cX2_opens 37 = .ok (.iconst 4, 1) := by decide +kernel
theorem dX2_opens_38 : decode cX2_opens 38 = .ok (.if_icmp .ge 7, 3) := by decide +kernel
theorem dX2_opens_41 : decode cX2_opens 41 = .ok (.iconst 1, 1) := by decide +kernel
theorem dX2_opens_42 : decode cX2_opens 42 = .ok (.goto 4, 3) := by decide +kernel
theorem dX2_opens_45 : decode cX2_opens 45 = .ok (.iconst 0, 1) := by decide +kernel
theorem dX2_opens_46 : decode cX2_opens 46 = .ok (.istore_n 3, 1) := by decide +kernel
theorem dX2_opens_47 : decode cX2_opens 47 = .ok (.iload_n 3, 1) := by decide +kernel
theorem dX2_opens_48 : decode cX2_opens 48 = .ok (.ifCond .eq 13, 3) := by decide +kernel
theorem dX2_opens_51 : decode cX2_opens 51 = .ok (.aload_n 0, 1) := by decide +kernel
theorem dX2_opens_52 : decode cX2_opens 52 = .ok (.iload_n 1, 1) := by decide +kernel
theorem dX2_opens_53 : decode cX2_opens 53 = .ok (.putfield 15, 3) := by decide +kernel
theorem dX2_opens_56 : decode cX2_opens 56 = .ok (.aload_n 0, 1) := by decide +kernel
theorem dX2_opens_57 : decode cX2_opens 57 = .ok (.iconst 0, 1) := by decide +kernel
theorem dX2_opens_58 : decode cX2_opens 58 = .ok (.putfield 44, 3) := by decide +kernel
theorem dX2_opens_61 : decode cX2_opens 61 = .ok (.iload_n 3, 1) := by decide +kernel
theorem dX2_opens_62 : decode cX2_opens 62 = .ok (.ireturn, 1) := by decide +kernel
theorem dX2_takesOfStamp_0 : decode cX2_takesOfStamp 0 = .ok (.aload_n 0, 1) := by decide +kernel
theorem dX2_takesOfStamp_1 : decode cX2_takesOfStamp 1 = .ok (.getfield 44, 3) := by decide +kernel
theorem dX2_takesOfStamp_4 : decode cX2_takesOfStamp 4 = .ok (.iconst 2, 1) := by decide +kernel
theorem dX2_takesOfStamp_5 : decode cX2_takesOfStamp 5 = .ok (.if_icmp .ge 10, 3) := by decide +kernel
theorem dX2_takesOfStamp_8 : decode cX2_takesOfStamp 8 = .ok (.aload_n 0, 1) := by decide +kernel
theorem dX2_takesOfStamp_9 : decode cX2_takesOfStamp 9 = .ok (.iload_n 1, 1) := by decide +kernel
theorem dX2_takesOfStamp_10 : decode cX2_takesOfStamp 10 = .ok (.invokevirtual 47, 3) := by decide +kernel
theorem dX2_takesOfStamp_13 : decode cX2_takesOfStamp 13 = .ok (.iconst 1, 1) := by decide +kernel
theorem dX2_takesOfStamp_14 : decode cX2_takesOfStamp 14 = .ok (.ireturn, 1) := by decide +kernel
theorem dX2_takesOfStamp_15 : decode cX2_takesOfStamp 15 = .ok (.iload_n 1, 1) := by decide +kernel
theorem dX2_takesOfStamp_16 : decode cX2_takesOfStamp 16 = .ok (.iconst 3, 1) := by decide +kernel
theorem dX2_takesOfStamp_17 : decode cX2_takesOfStamp 17 = .ok (.if_icmp .le 5, 3) := by decide +kernel
theorem dX2_takesOfStamp_20 : decode cX2_takesOfStamp 20 = .ok (.iconst 0, 1) := by decide +kernel
theorem dX2_takesOfStamp_21 : decode cX2_takesOfStamp 21 = .ok (.ireturn, 1) := by decide +kernel
theorem dX2_takesOfStamp_22 : decode cX2_takesOfStamp 22 = .ok (.aload_n 2, 1) := by decide +kernel
theorem dX2_takesOfStamp_23 : decode cX2_takesOfStamp 23 = .ok (.aload_n 0, 1) := by decide +kernel
theorem dX2_takesOfStamp_24 : decode cX2_takesOfStamp 24 = .ok (.getfield 51, 3) := by decide +kernel
theorem dX2_takesOfStamp_27 : decode cX2_takesOfStamp 27 = .ok (.aload_n 0, 1) := by decide +kernel
theorem dX2_takesOfStamp_28 : decode cX2_takesOfStamp 28 = .ok (.getfield 54, 3) := by decide +kernel
theorem dX2_takesOfStamp_31 : decode cX2_takesOfStamp 31 = .ok (.iload_n 1, 1) := by decide +kernel
theorem dX2_takesOfStamp_32 : decode cX2_takesOfStamp 32 = .ok (.invokevirtual 57, 3) := by decide +kernel
theorem dX2_takesOfStamp_35 : decode cX2_takesOfStamp 35 = .ok (.aload_n 0, 1) := by decide +kernel
theorem dX2_takesOfStamp_36 : decode cX2_takesOfStamp 36 = .ok (.iconst 0, 1) := by decide +kernel
theorem dX2_takesOfStamp_37 : decode cX2_takesOfStamp 37 = .ok (.putfield 15, 3) := by decide +kernel
theorem dX2_takesOfStamp_40 : decode cX2_takesOfStamp 40 = .ok (.iconst 1, 1) := by decide +kernel
theorem dX2_takesOfStamp_41 : decode cX2_takesOfStamp 41 = .ok (.ireturn, 1) := by decide +kernel
theorem dX2_takesOfJoin_0 : decode cX2_takesOfJoin 0 = .ok (.aload_n 0, 1) := by decide +kernel
theorem dX2_takesOfJoin_1 : decode cX2_takesOfJoin 1 = .ok (.getfield 44, 3) := by decide +kernel
theorem dX2_takesOfJoin_4 : decode cX2_takesOfJoin 4 = .ok (.ifCond .ne 14, 3) := by decide +kernel
theorem dX2_takesOfJoin_7 : decode cX2_takesOfJoin 7 = .ok (.aload_n 0, 1) := by decide +kernel
theorem dX2_takesOfJoin_8 : decode cX2_takesOfJoin 8 = .ok (.iload_n 1, 1) := by decide +kernel
theorem dX2_takesOfJoin_9 : decode cX2_takesOfJoin 9 = .ok (.invokevirtual 47, 3) := by decide +kernel
theorem dX2_takesOfJoin_12 : decode cX2_takesOfJoin 12 = .ok (.aload_n 2, 1) := by decide +kernel
theorem dX2_takesOfJoin_13 : decode cX2_takesOfJoin 13 = .ok (.iload_n 1, 1) := by decide +kernel
theorem dX2_takesOfJoin_14 : decode cX2_takesOfJoin 14 = .ok (.invokevirtual 61, 3) := by decide +kernel
theorem dX2_takesOfJoin_17 : decode cX2_takesOfJoin 17 = .ok (.ireturn, 1) := by decide +kernel
theorem dX2_takesOfJoin_18 : decode cX2_takesOfJoin 18 = .ok (.aload_n 2, 1) := by decide +kernel
theorem dX2_takesOfJoin_19 : decode cX2_takesOfJoin 19 = .ok (.aload_n 0, 1) := by decide +kernel
theorem dX2_takesOfJoin_20 : decode cX2_takesOfJoin 20 = .ok (.getfield 51, 3) := by decide +kernel
theorem dX2_takesOfJoin_23 : decode cX2_takesOfJoin 23 = .ok (.iload_n 1, 1) := by decide +kernel
theorem dX2_takesOfJoin_24 : decode cX2_takesOfJoin 24 = .ok (.invokevirtual 65, 3) := by decide +kernel
theorem dX2_takesOfJoin_27 : decode cX2_takesOfJoin 27 = .ok (.ifCond .ne 5, 3) := by decide +kernel
theorem dX2_takesOfJoin_30 : decode cX2_takesOfJoin 30 = .ok (.iconst 0, 1) := by decide +kernel
theorem dX2_takesOfJoin_31 : decode cX2_takesOfJoin 31 = .ok (.ireturn, 1) := by decide +kernel
theorem dX2_takesOfJoin_32 : decode cX2_takesOfJoin 32 = .ok (.aload_n 2, 1) := by decide +kernel
theorem dX2_takesOfJoin_33 : decode cX2_takesOfJoin 33 = .ok (.aload_n 0, 1) := by decide +kernel
theorem dX2_takesOfJoin_34 : decode cX2_takesOfJoin 34 = .ok (.getfield 51, 3) := by decide +kernel
theorem dX2_takesOfJoin_37 : decode cX2_takesOfJoin 37 = .ok (.iload_n 1, 1) := by decide +kernel
theorem dX2_takesOfJoin_38 : decode cX2_takesOfJoin 38 = .ok (.invokevirtual 69, 3) := by decide +kernel
theorem dX2_takesOfJoin_41 : decode cX2_takesOfJoin 41 = .ok (.aload_n 0, 1) := by decide +kernel
theorem dX2_takesOfJoin_42 : decode cX2_takesOfJoin 42 = .ok (.iconst 0, 1) := by decide +kernel
theorem dX2_takesOfJoin_43 : decode cX2_takesOfJoin 43 = .ok (.putfield 15, 3) := by decide +kernel
theorem dX2_takesOfJoin_46 : decode cX2_takesOfJoin 46 = .ok (.iconst 1, 1) := by decide +kernel
theorem dX2_takesOfJoin_47 : decode cX2_takesOfJoin 47 = .ok (.ireturn, 1) := by decide +kernel
theorem dX2_takesOfLetter_0 : decode cX2_takesOfLetter 0 = .ok (.iload_n 1, 1) := by decide +kernel
theorem dX2_takesOfLetter_1 : decode cX2_takesOfLetter 1 = .ok (.iconst 1, 1) := by decide +kernel
theorem dX2_takesOfLetter_2 : decode cX2_takesOfLetter 2 = .ok (.if_icmp .ge 5, 3) := by decide +kernel
theorem dX2_takesOfLetter_5 : decode cX2_takesOfLetter 5 = .ok (.iconst 0, 1) := by decide +kernel
theorem dX2_takesOfLetter_6 : decode cX2_takesOfLetter 6 = .ok (.ireturn, 1) := by decide +kernel
theorem dX2_takesOfLetter_7 : decode cX2_takesOfLetter 7 = .ok (.aload_n 0, 1) := by decide +kernel
theorem dX2_takesOfLetter_8 : decode cX2_takesOfLetter 8 = .ok (.getfield 44, 3) := by decide +kernel
theorem dX2_takesOfLetter_11 : decode cX2_takesOfLetter 11 = .ok (.ifCond .ne 10, 3) := by decide +kernel
theorem dX2_takesOfLetter_14 : decode cX2_takesOfLetter 14 = .ok (.aload_n 0, 1) := by decide +kernel
theorem dX2_takesOfLetter_15 : decode cX2_takesOfLetter 15 = .ok (.iload_n 1, 1) := by decide +kernel
theorem dX2_takesOfLetter_16 : decode cX2_takesOfLetter 16 = .ok (.invokevirtual 47, 3) := by decide +kernel
theorem dX2_takesOfLetter_19 : decode cX2_takesOfLetter 19 = .ok (.iconst 1, 1) := by decide +kernel
theorem dX2_takesOfLetter_20 : decode cX2_takesOfLetter 20 = .ok (.ireturn, 1) := by decide +kernel
theorem dX2_takesOfLetter_21 : decode cX2_takesOfLetter 21 = .ok (.aload_n 2, 1) := by decide +kernel
theorem dX2_takesOfLetter_22 : decode cX2_takesOfLetter 22 = .ok (.aload_n 0, 1) := by decide +kernel
theorem dX2_takesOfLetter_23 : decode cX2_takesOfLetter 23 = .ok (.getfield 51, 3) := by decide +kernel
theorem dX2_takesOfLetter_26 : decode cX2_takesOfLetter 26 = .ok (.iload_n 1, 1) := by decide +kernel
theorem dX2_takesOfLetter_27 : decode cX2_takesOfLetter 27 = .ok (.invokevirtual 73, 3) := by decide +kernel
theorem dX2_takesOfLetter_30 : decode cX2_takesOfLetter 30 = .ok (.aload_n 0, 1) := by decide +kernel
theorem dX2_takesOfLetter_31 : decode cX2_takesOfLetter 31 = .ok (.iconst 0, 1) := by decide +kernel
theorem dX2_takesOfLetter_32 : decode cX2_takesOfLetter 32 = .ok (.putfield 15, 3) := by decide +kernel
theorem dX2_takesOfLetter_35 : decode cX2_takesOfLetter 35 = .ok (.iconst 1, 1) := by decide +kernel
theorem dX2_takesOfLetter_36 : decode cX2_takesOfLetter 36 = .ok (.ireturn, 1) := by decide +kernel
theorem dX2_hold_0 : decode cX2_hold 0 = .ok (.aload_n 0, 1) := by decide +kernel
theorem dX2_hold_1 : decode cX2_hold 1 = .ok (.getfield 44, 3) := by decide +kernel
theorem dX2_hold_4 : decode cX2_hold 4 = .ok (.ifCond .ne 11, 3) := by decide +kernel
theorem dX2_hold_7 : decode cX2_hold 7 = .ok (.aload_n 0, 1) := by decide +kernel
theorem dX2_hold_8 : decode cX2_hold 8 = .ok (.iload_n 1, 1) := by decide +kernel
theorem dX2_hold_9 : decode cX2_hold 9 = .ok (.putfield 51, 3) := by decide +kernel
theorem dX2_hold_12 : decode cX2_hold 12 = .ok (.goto 8, 3) := by decide +kernel
theorem dX2_hold_15 : decode cX2_hold 15 = .ok (.aload_n 0, 1) := by decide +kernel
theorem dX2_hold_16 : decode cX2_hold 16 = .ok (.iload_n 1, 1) := by decide +kernel
theorem dX2_hold_17 : decode cX2_hold 17 = .ok (.putfield 54, 3) := by decide +kernel
theorem dX2_hold_20 : decode cX2_hold 20 = .ok (.aload_n 0, 1) := by decide +kernel
theorem dX2_hold_21 : decode cX2_hold 21 = .ok (.dup, 1) := by decide +kernel
theorem dX2_hold_22 : decode cX2_hold 22 = .ok (.getfield 44, 3) := by decide +kernel
theorem dX2_hold_25 : decode cX2_hold 25 = .ok (.iconst 1, 1) := by decide +kernel
theorem dX2_hold_26 : decode cX2_hold 26 = .ok (.iadd, 1) := by decide +kernel
theorem dX2_hold_27 : decode cX2_hold 27 = .ok (.putfield 44, 3) := by decide +kernel
theorem dX2_hold_30 : decode cX2_hold 30 = .ok (.return_, 1) := by decide +kernel
theorem dX3_init_0 : decode cX3_init 0 = .ok (.aload_n 0, 1) := by decide +kernel
theorem dX3_init_1 : decode cX3_init 1 = .ok (.invokespecial 1, 3) := by decide +kernel
theorem dX3_init_4 : decode cX3_init 4 = .ok (.aload_n 0, 1) := by decide +kernel
theorem dX3_init_5 : decode cX3_init 5 = .ok (.bipush 48, 2) := by decide +kernel
theorem dX3_init_7 : decode cX3_init 7 = .ok (.newarray .int, 2) := by decide +kernel
theorem dX3_init_9 : decode cX3_init 9 = .ok (.putfield 9, 3) := by decide +kernel
theorem dX3_init_12 : decode cX3_init 12 = .ok (.aload_n 0, 1) := by decide +kernel
theorem dX3_init_13 : decode cX3_init 13 = .ok (.new 13, 3) := by decide +kernel
theorem dX3_init_16 : decode cX3_init 16 = .ok (.dup, 1) := by decide +kernel
theorem dX3_init_17 : decode cX3_init 17 = .ok (.invokespecial 15, 3) := by decide +kernel
theorem dX3_init_20 : decode cX3_init 20 = .ok (.putfield 16, 3) := by decide +kernel
theorem dX3_init_23 : decode cX3_init 23 = .ok (.aload_n 0, 1) := by decide +kernel
theorem dX3_init_24 : decode cX3_init 24 = .ok (.new 20, 3) := by decide +kernel
theorem dX3_init_27 : decode cX3_init 27 = .ok (.dup, 1) := by decide +kernel
theorem dX3_init_28 : decode cX3_init 28 = .ok (.invokespecial 22, 3) := by decide +kernel
theorem dX3_init_31 : decode cX3_init 31 = .ok (.putfield 23, 3) := by decide +kernel
theorem dX3_init_34 : decode cX3_init 34 = .ok (.aload_n 0, 1) := by decide +kernel
theorem dX3_init_35 : decode cX3_init 35 = .ok (.new 20, 3) := by decide +kernel
theorem dX3_init_38 : decode cX3_init 38 = .ok (.dup, 1) := by decide +kernel
theorem dX3_init_39 : decode cX3_init 39 = .ok (.invokespecial 22, 3) := by decide +kernel
theorem dX3_init_42 : decode cX3_init 42 = .ok (.putfield 27, 3) := by decide +kernel
theorem dX3_init_45 : decode cX3_init 45 = .ok (.aload_n 0, 1) := by decide +kernel
theorem dX3_init_46 : decode cX3_init 46 = .ok (.new 30, 3) := by decide +kernel
theorem dX3_init_49 : decode cX3_init 49 = .ok (.dup, 1) := by decide +kernel
theorem dX3_init_50 : decode cX3_init 50 = .ok (.bipush 14, 2) := by decide +kernel
theorem dX3_init_52 : decode cX3_init 52 = .ok (.invokespecial 32, 3) := by decide +kernel
theorem dX3_init_55 : decode cX3_init 55 = .ok (.putfield 35, 3) := by decide +kernel
theorem dX3_init_58 : decode cX3_init 58 = .ok (.aload_n 0, 1) := by decide +kernel
theorem dX3_init_59 : decode cX3_init 59 = .ok (.new 30, 3) := by decide +kernel
theorem dX3_init_62 : decode cX3_init 62 = .ok (.dup, 1) := by decide +kernel
theorem dX3_init_63 : decode cX3_init 63 = .ok (.iconst 2, 1) := by decide +kernel
theorem dX3_init_64 : decode cX3_init 64 = .ok (.invokespecial 32, 3) := by decide +kernel
theorem dX3_init_67 : decode cX3_init 67 = .ok (.putfield 39, 3) := by decide +kernel
theorem dX3_init_70 : decode cX3_init 70 = .ok (.aload_n 0, 1) := by decide +kernel
theorem dX3_init_71 : decode cX3_init 71 = .ok (.iconst 2, 1) := by decide +kernel
theorem dX3_init_72 : decode cX3_init 72 = .ok (.newarray .boolean, 2) := by decide +kernel
theorem dX3_init_74 : decode cX3_init 74 = .ok (.putfield 42, 3) := by decide +kernel
theorem dX3_init_77 : decode cX3_init 77 = .ok (.aload_n 0, 1) := by decide +kernel
theorem dX3_init_78 : decode cX3_init 78 = .ok (.bipush 6, 2) := by decide +kernel
theorem dX3_init_80 : decode cX3_init 80 = .ok (.newarray .int, 2) := by decide +kernel
theorem dX3_init_82 : decode cX3_init 82 = .ok (.putfield 46, 3) := by decide +kernel
theorem dX3_init_85 : decode cX3_init 85 = .ok (.aload_n 0, 1) := by decide +kernel
theorem dX3_init_86 : decode cX3_init 86 = .ok (.bipush 6, 2) := by decide +kernel
theorem dX3_init_88 : decode cX3_init 88 = .ok (.newarray .int, 2) := by decide +kernel
theorem dX3_init_90 : decode cX3_init 90 = .ok (.putfield 49, 3) := by decide +kernel
theorem dX3_init_93 : decode cX3_init 93 = .ok (.aload_n 0, 1) := by decide +kernel
theorem dX3_init_94 : decode cX3_init 94 = .ok (.bipush 6, 2) := by decide +kernel
theorem dX3_init_96 : decode cX3_init 96 = .ok (.newarray .boolean, 2) := by decide +kernel
theorem dX3_init_98 : decode cX3_init 98 = .ok (.putfield 52, 3) := by decide +kernel
theorem dX3_init_101 : decode cX3_init 101 = .ok (.aload_n 0, 1) := by decide +kernel
theorem dX3_init_102 : decode cX3_init 102 = .ok (.iconst 4, 1) := by decide +kernel
theorem dX3_init_103 : decode cX3_init 103 = .ok (.newarray .int, 2) := by decide +kernel
theorem dX3_init_105 : decode cX3_init 105 = .ok (.putfield 55, 3) := by decide +kernel
theorem dX3_init_108 : decode cX3_init 108 = .ok (.return_, 1) := by decide +kernel
theorem dX3_write_0 : decode cX3_write 0 = .ok (.iload_n 1, 1) := by decide +kernel
theorem dX3_write_1 : decode cX3_write 1 = .ok (.ifCond .lt 10, 3) := by decide +kernel
theorem dX3_write_4 : decode cX3_write 4 = .ok (.iload_n 1, 1) := by decide +kernel
theorem dX3_write_5 : decode cX3_write 5 = .ok (.sipush 255, 3) := by decide +kernel
theorem dX3_write_8 : decode cX3_write 8 = .ok (.if_icmp .le 6, 3) := by decide +kernel
theorem dX3_write_11 : decode cX3_write 11 = .ok (.bipush (-2), 2) := by decide +kernel
theorem dX3_write_13 : decode cX3_write 13 = .ok (.ireturn, 1) := by decide +kernel
theorem dX3_write_14 : decode cX3_write 14 = .ok (.aload_n 0, 1) := by decide +kernel
theorem dX3_write_15 : decode cX3_write 15 = .ok (.getfield 58, 3) := by decide +kernel
theorem dX3_write_18 : decode cX3_write 18 = .ok (.bipush 48, 2) := by decide +kernel
theorem dX3_write_20 : decode cX3_write 20 = .ok (.if_icmp .lt 6, 3) := by decide +kernel
theorem dX3_write_23 : decode cX3_write 23 = .ok (.bipush (-4), 2) := by decide +kernel
theorem dX3_write_25 : decode cX3_write 25 = .ok (.ireturn, 1) := by decide +kernel
theorem dX3_write_26 : decode cX3_write 26 = .ok (.aload_n 0, 1) := by decide +kernel
theorem dX3_write_27 : decode cX3_write 27 = .ok (.getfield 9, 3) := by decide +kernel
theorem dX3_write_30 : decode cX3_write 30 = .ok (.aload_n 0, 1) := by decide +kernel
theorem dX3_write_31 : decode cX3_write 31 = .ok (.getfield 58, 3) := by decide +kernel
theorem dX3_write_34 : decode cX3_write 34 = .ok (.iload_n 1, 1) := by decide +kernel
theorem dX3_write_35 : decode cX3_write 35 = .ok (.iastore, 1) := by decide +kernel
theorem dX3_write_36 : decode cX3_write 36 = .ok (.aload_n 0, 1) := by decide +kernel
theorem dX3_write_37 : decode cX3_write 37 = .ok (.dup, 1) := by decide +kernel
theorem dX3_write_38 : decode cX3_write 38 = .ok (.getfield 58, 3) := by decide +kernel
theorem dX3_write_41 : decode cX3_write 41 = .ok (.iconst 1, 1) := by decide +kernel
theorem dX3_write_42 : decode cX3_write 42 = .ok (.iadd, 1) := by decide +kernel
theorem dX3_write_43 : decode cX3_write 43 = .ok (.putfield 58, 3) := by decide +kernel
theorem dX3_write_46 : decode cX3_write 46 = .ok (.aload_n 0, 1) := by decide +kernel
theorem dX3_write_47 : decode cX3_write 47 = .ok (.getfield 58, 3) := by decide +kernel
theorem dX3_write_50 : decode cX3_write 50 = .ok (.ireturn, 1) := by decide +kernel
theorem dX3_wipe_0 : decode cX3_wipe 0 = .ok (.aload_n 0, 1) := by decide +kernel
theorem dX3_wipe_1 : decode cX3_wipe 1 = .ok (.getfield 58, 3) := by decide +kernel
theorem dX3_wipe_4 : decode cX3_wipe 4 = .ok (.istore_n 1, 1) := by decide +kernel
theorem dX3_wipe_5 : decode cX3_wipe 5 = .ok (.aload_n 0, 1) := by decide +kernel
theorem dX3_wipe_6 : decode cX3_wipe 6 = .ok (.iconst 0, 1) := by decide +kernel
theorem dX3_wipe_7 : decode cX3_wipe 7 = .ok (.putfield 58, 3) := by decide +kernel
theorem dX3_wipe_10 : decode cX3_wipe 10 = .ok (.iload_n 1, 1) := by decide +kernel
theorem dX3_wipe_11 : decode cX3_wipe 11 = .ok (.ireturn, 1) := by decide +kernel
theorem dX3_fault_0 : decode cX3_fault 0 = .ok (.aload_n 0, 1) := by decide +kernel
theorem dX3_fault_1 : decode cX3_fault 1 = .ok (.aload_n 0, 1) := by decide +kernel
theorem dX3_fault_2 : decode cX3_fault 2 = .ok (.getfield 27, 3) := by decide +kernel
theorem dX3_fault_5 : decode cX3_fault 5 = .ok (.invokevirtual 62, 3) := by decide +kernel
theorem dX3_fault_8 : decode cX3_fault 8 = .ok (.ireturn, 1) := by decide +kernel
theorem dX3_album_0 : decode cX3_album 0 = .ok (.aload_n 0, 1) := by decide +kernel
theorem dX3_album_1 : decode cX3_album 1 = .ok (.aload_n 0, 1) := by decide +kernel
theorem dX3_album_2 : decode cX3_album 2 = .ok (.getfield 27, 3) := by decide +kernel
theorem dX3_album_5 : decode cX3_album 5 = .ok (.invokevirtual 62, 3) := by decide +kernel
theorem dX3_album_8 : decode cX3_album 8 = .ok (.bipush (-9), 2) := by decide +kernel
theorem dX3_album_10 : decode cX3_album 10 = .ok (.if_icmp .eq 6, 3) := by decide +kernel
theorem dX3_album_13 : decode cX3_album 13 = .ok (.bipush (-3), 2) := by decide +kernel
theorem dX3_album_15 : decode cX3_album 15 = .ok (.ireturn, 1) := by decide +kernel
theorem dX3_album_16 : decode cX3_album 16 = .ok (.aload_n 0, 1) := by decide +kernel
theorem dX3_album_17 : decode cX3_album 17 = .ok (.getfield 23, 3) := by decide +kernel
theorem dX3_album_20 : decode cX3_album 20 = .ok (.aload_n 0, 1) := by decide +kernel
theorem dX3_album_21 : decode cX3_album 21 = .ok (.getfield 27, 3) := by decide +kernel
theorem dX3_album_24 : decode cX3_album 24 = .ok (.invokevirtual 66, 3) := by decide +kernel
theorem dX3_album_27 : decode cX3_album 27 = .ok (.aload_n 0, 1) := by decide +kernel
theorem dX3_album_28 : decode cX3_album 28 = .ok (.iconst 0, 1) := by decide +kernel
theorem dX3_album_29 : decode cX3_album 29 = .ok (.putfield 70, 3) := by decide +kernel
theorem dX3_album_32 : decode cX3_album 32 = .ok (.iconst 0, 1) := by decide +kernel
theorem dX3_album_33 : decode cX3_album 33 = .ok (.istore_n 1, 1) := by decide +kernel
theorem dX3_album_34 : decode cX3_album 34 = .ok (.iload_n 1, 1) := by decide +kernel
theorem dX3_album_35 : decode cX3_album 35 = .ok (.iconst 2, 1) := by decide +kernel
theorem dX3_album_36 : decode cX3_album 36 = .ok (.if_icmp .ge 16, 3) := by decide +kernel
theorem dX3_album_39 : decode cX3_album 39 = .ok (.aload_n 0, 1) := by decide +kernel
theorem dX3_album_40 : decode cX3_album 40 = .ok (.getfield 42, 3) := by decide +kernel
theorem dX3_album_43 : decode cX3_album 43 = .ok (.iload_n 1, 1) := by decide +kernel
theorem dX3_album_44 : decode cX3_album 44 = .ok (.iconst 0, 1) := by decide +kernel
theorem dX3_album_45 : decode cX3_album 45 = .ok (.bastore, 1) := by decide +kernel
theorem dX3_album_46 : decode cX3_album 46 = .ok (.iinc 1 1, 3) := by decide +kernel
theorem dX3_album_49 : decode cX3_album 49 = .ok (.goto (-15), 3) := by decide +kernel
theorem dX3_album_52 : decode cX3_album 52 = .ok (.bipush 10, 2) := by decide +kernel
theorem dX3_album_54 : decode cX3_album 54 = .ok (.aload_n 0, 1) := by decide +kernel
theorem dX3_album_55 : decode cX3_album 55 = .ok (.getfield 23, 3) := by decide +kernel
theorem dX3_album_58 : decode cX3_album 58 = .ok (.getfield 73, 3) := by decide +kernel
theorem dX3_album_61 : decode cX3_album 61 = .ok (.imul, 1) := by decide +kernel
theorem dX3_album_62 : decode cX3_album 62 = .ok (.aload_n 0, 1) := by decide +kernel
theorem dX3_album_63 : decode cX3_album 63 = .ok (.getfield 23, 3) := by decide +kernel
theorem dX3_album_66 : decode cX3_album 66 = .ok (.getfield 76, 3) := by decide +kernel
theorem dX3_album_69 : decode cX3_album 69 = .ok (.iadd, 1) := by decide +kernel
theorem dX3_album_70 : decode cX3_album 70 = .ok (.ireturn, 1) := by decide +kernel
theorem dX3_stamp_0 : decode cX3_stamp 0 = .ok (.aload_n 0, 1) := by decide +kernel
theorem dX3_stamp_1 : decode cX3_stamp 1 = .ok (.getfield 23, 3) := by decide +kernel
theorem dX3_stamp_4 : decode cX3_stamp 4 = .ok (.iload_n 1, 1) := by decide +kernel
theorem dX3_stamp_5 : decode cX3_stamp 5 = .ok (.invokevirtual 79, 3) := by decide +kernel
theorem dX3_stamp_8 : decode cX3_stamp 8 = .ok (.ifCond .ne 5, 3) := by decide +kernel
theorem dX3_stamp_11 : decode cX3_stamp 11 = .ok (.iconst (-1), 1) := by decide +kernel
theorem dX3_stamp_12 : decode cX3_stamp 12 = .ok (.ireturn, 1) := by decide +kernel
theorem dX3_stamp_13 : decode cX3_stamp 13 = .ok (.iload_n 2, 1) := by decide +kernel
theorem dX3_stamp_14 : decode cX3_stamp 14 = .ok (.tableswitch 131 0 7 #[46, 56, 66, 76, 85, 94, 111, 121], 46) := by decide +kernel
theorem dX3_stamp_60 : decode cX3_stamp 60 = .ok (.aload_n 0, 1) := by decide +kernel
theorem dX3_stamp_61 : decode cX3_stamp 61 = .ok (.getfield 23, 3) := by decide +kernel
theorem dX3_stamp_64 : decode cX3_stamp 64 = .ok (.getfield 83, 3) := by decide +kernel
theorem dX3_stamp_67 : decode cX3_stamp 67 = .ok (.iload_n 1, 1) := by decide +kernel
theorem dX3_stamp_68 : decode cX3_stamp 68 = .ok (.iaload, 1) := by decide +kernel
theorem dX3_stamp_69 : decode cX3_stamp 69 = .ok (.ireturn, 1) := by decide +kernel
theorem dX3_stamp_70 : decode cX3_stamp 70 = .ok (.aload_n 0, 1) := by decide +kernel
theorem dX3_stamp_71 : decode cX3_stamp 71 = .ok (.getfield 23, 3) := by decide +kernel
theorem dX3_stamp_74 : decode cX3_stamp 74 = .ok (.getfield 86, 3) := by decide +kernel
theorem dX3_stamp_77 : decode cX3_stamp 77 = .ok (.iload_n 1, 1) := by decide +kernel
theorem dX3_stamp_78 : decode cX3_stamp 78 = .ok (.iaload, 1) := by decide +kernel
theorem dX3_stamp_79 : decode cX3_stamp 79 = .ok (.ireturn, 1) := by decide +kernel
theorem dX3_stamp_80 : decode cX3_stamp 80 = .ok (.aload_n 0, 1) := by decide +kernel
theorem dX3_stamp_81 : decode cX3_stamp 81 = .ok (.getfield 23, 3) := by decide +kernel
theorem dX3_stamp_84 : decode cX3_stamp 84 = .ok (.getfield 89, 3) := by decide +kernel
theorem dX3_stamp_87 : decode cX3_stamp 87 = .ok (.iload_n 1, 1) := by decide +kernel
theorem dX3_stamp_88 : decode cX3_stamp 88 = .ok (.iaload, 1) := by decide +kernel
theorem dX3_stamp_89 : decode cX3_stamp 89 = .ok (.ireturn, 1) := by decide +kernel
theorem dX3_stamp_90 : decode cX3_stamp 90 = .ok (.aload_n 0, 1) := by decide +kernel
theorem dX3_stamp_91 : decode cX3_stamp 91 = .ok (.getfield 23, 3) := by decide +kernel
theorem dX3_stamp_94 : decode cX3_stamp 94 = .ok (.iload_n 1, 1) := by decide +kernel
theorem dX3_stamp_95 : decode cX3_stamp 95 = .ok (.invokevirtual 92, 3) := by decide +kernel
theorem dX3_stamp_98 : decode cX3_stamp 98 = .ok (.ireturn, 1) := by decide +kernel
theorem dX3_stamp_99 : decode cX3_stamp 99 = .ok (.aload_n 0, 1) := by decide +kernel
theorem dX3_stamp_100 : decode cX3_stamp 100 = .ok (.getfield 23, 3) := by decide +kernel
theorem dX3_stamp_103 : decode cX3_stamp 103 = .ok (.iload_n 1, 1) := by decide +kernel
theorem dX3_stamp_104 : decode cX3_stamp 104 = .ok (.invokevirtual 96, 3) := by decide +kernel
theorem dX3_stamp_107 : decode cX3_stamp 107 = .ok (.ireturn, 1) := by decide +kernel
theorem dX3_stamp_108 : decode cX3_stamp 108 = .ok (.aload_n 0, 1) := by decide +kernel
theorem dX3_stamp_109 : decode cX3_stamp 109 = .ok (.getfield 23, 3) := by decide +kernel
theorem dX3_stamp_112 : decode cX3_stamp 112 = .ok (.iload_n 1, 1) := by decide +kernel
theorem dX3_stamp_113 : decode cX3_stamp 113 = .ok (.invokevirtual 99, 3) := by decide +kernel
theorem dX3_stamp_116 : decode cX3_stamp 116 = .ok (.ifCond .eq 7, 3) := by decide +kernel
theorem dX3_stamp_119 : decode cX3_stamp 119 = .ok (.iconst 1, 1) := by decide +kernel
theorem dX3_stamp_120 : decode cX3_stamp 120 = .ok (.goto 4, 3) := by decide +kernel
theorem dX3_stamp_123 : decode cX3_stamp 123 = .ok (.iconst 0, 1) := by decide +kernel
theorem dX3_stamp_124 : decode cX3_stamp 124 = .ok (.ireturn, 1) := by decide +kernel
theorem dX3_stamp_125 : decode cX3_stamp 125 = .ok (.aload_n 0, 1) := by decide +kernel
theorem dX3_stamp_126 : decode cX3_stamp 126 = .ok (.getfield 23, 3) := by decide +kernel
theorem dX3_stamp_129 : decode cX3_stamp 129 = .ok (.getfield 102, 3) := by decide +kernel
theorem dX3_stamp_132 : decode cX3_stamp 132 = .ok (.iload_n 1, 1) := by decide +kernel
theorem dX3_stamp_133 : decode cX3_stamp 133 = .ok (.iaload, 1) := by decide +kernel
theorem dX3_stamp_134 : decode cX3_stamp 134 = .ok (.ireturn, 1) := by decide +kernel
theorem dX3_stamp_135 : decode cX3_stamp 135 = .ok (.aload_n 0, 1) := by decide +kernel
theorem dX3_stamp_136 : decode cX3_stamp 136 = .ok (.getfield 23, 3) := by decide +kernel
theorem dX3_stamp_139 : decode cX3_stamp 139 = .ok (.getfield 105, 3) := by decide +kernel
theorem dX3_stamp_142 : decode cX3_stamp 142 = .ok (.iload_n 1, 1) := by decide +kernel
theorem dX3_stamp_143 : decode cX3_stamp 143 = .ok (.iaload, 1) := by decide +kernel
theorem dX3_stamp_144 : decode cX3_stamp 144 = .ok (.ireturn, 1) := by decide +kernel
theorem dX3_stamp_145 : decode cX3_stamp 145 = .ok (.bipush (-2), 2) := by decide +kernel
theorem dX3_stamp_147 : decode cX3_stamp 147 = .ok (.ireturn, 1) := by decide +kernel
theorem dX3_letter_0 : decode cX3_letter 0 = .ok (.aload_n 0, 1) := by decide +kernel
theorem dX3_letter_1 : decode cX3_letter 1 = .ok (.getfield 23, 3) := by decide +kernel
theorem dX3_letter_4 : decode cX3_letter 4 = .ok (.iload_n 1, 1) := by decide +kernel
theorem dX3_letter_5 : decode cX3_letter 5 = .ok (.invokevirtual 108, 3) := by decide +kernel
theorem dX3_letter_8 : decode cX3_letter 8 = .ok (.ifCond .ne 5, 3) := by decide +kernel
theorem dX3_letter_11 : decode cX3_letter 11 = .ok (.iconst (-1), 1) := by decide +kernel
theorem dX3_letter_12 : decode cX3_letter 12 = .ok (.ireturn, 1) := by decide +kernel
theorem dX3_letter_13 : decode cX3_letter 13 = .ok (.iload_n 2, 1) := by decide +kernel
theorem dX3_letter_14 : decode cX3_letter 14 = .ok (.tableswitch 89 0 4 #[34, 44, 54, 63, 79], 34) := by decide +kernel
theorem dX3_letter_48 : decode cX3_letter 48 = .ok (.aload_n 0, 1) := by decide +kernel
theorem dX3_letter_49 : decode cX3_letter 49 = .ok (.getfield 23, 3) := by decide +kernel
theorem dX3_letter_52 : decode cX3_letter 52 = .ok (.getfield 111, 3) := by decide +kernel
theorem dX3_letter_55 : decode cX3_letter 55 = .ok (.iload_n 1, 1) := by decide +kernel
theorem dX3_letter_56 : decode cX3_letter 56 = .ok (.iaload, 1) := by decide +kernel
theorem dX3_letter_57 : decode cX3_letter 57 = .ok (.ireturn, 1) := by decide +kernel
theorem dX3_letter_58 : decode cX3_letter 58 = .ok (.aload_n 0, 1) := by decide +kernel
theorem dX3_letter_59 : decode cX3_letter 59 = .ok (.getfield 23, 3) := by decide +kernel
theorem dX3_letter_62 : decode cX3_letter 62 = .ok (.getfield 114, 3) := by decide +kernel
theorem dX3_letter_65 : decode cX3_letter 65 = .ok (.iload_n 1, 1) := by decide +kernel
theorem dX3_letter_66 : decode cX3_letter 66 = .ok (.iaload, 1) := by decide +kernel
theorem dX3_letter_67 : decode cX3_letter 67 = .ok (.ireturn, 1) := by decide +kernel
theorem dX3_letter_68 : decode cX3_letter 68 = .ok (.aload_n 0, 1) := by decide +kernel
theorem dX3_letter_69 : decode cX3_letter 69 = .ok (.getfield 23, 3) := by decide +kernel
theorem dX3_letter_72 : decode cX3_letter 72 = .ok (.iload_n 1, 1) := by decide +kernel
theorem dX3_letter_73 : decode cX3_letter 73 = .ok (.invokevirtual 117, 3) := by decide +kernel
theorem dX3_letter_76 : decode cX3_letter 76 = .ok (.ireturn, 1) := by decide +kernel
theorem dX3_letter_77 : decode cX3_letter 77 = .ok (.aload_n 0, 1) := by decide +kernel
theorem dX3_letter_78 : decode cX3_letter 78 = .ok (.getfield 23, 3) := by decide +kernel
theorem dX3_letter_81 : decode cX3_letter 81 = .ok (.aload_n 0, 1) := by decide +kernel
theorem dX3_letter_82 : decode cX3_letter 82 = .ok (.getfield 23, 3) := by decide +kernel
theorem dX3_letter_85 : decode cX3_letter 85 = .ok (.iload_n 1, 1) := by decide +kernel
theorem dX3_letter_86 : decode cX3_letter 86 = .ok (.invokevirtual 117, 3) := by decide +kernel
theorem dX3_letter_89 : decode cX3_letter 89 = .ok (.invokevirtual 120, 3) := by decide +kernel
theorem dX3_letter_92 : decode cX3_letter 92 = .ok (.ireturn, 1) := by decide +kernel
theorem dX3_letter_93 : decode cX3_letter 93 = .ok (.aload_n 0, 1) := by decide +kernel
theorem dX3_letter_94 : decode cX3_letter 94 = .ok (.getfield 23, 3) := by decide +kernel
theorem dX3_letter_97 : decode cX3_letter 97 = .ok (.getfield 123, 3) := by decide +kernel
theorem dX3_letter_100 : decode cX3_letter 100 = .ok (.iload_n 1, 1) := by decide +kernel
theorem dX3_letter_101 : decode cX3_letter 101 = .ok (.iaload, 1) := by decide +kernel
theorem dX3_letter_102 : decode cX3_letter 102 = .ok (.ireturn, 1) := by decide +kernel
theorem dX3_letter_103 : decode cX3_letter 103 = .ok (.bipush (-2), 2) := by decide +kernel
theorem dX3_letter_105 : decode cX3_letter 105 = .ok (.ireturn, 1) := by decide +kernel
theorem dX3_week_0 : decode cX3_week 0 = .ok (.aload_n 0, 1) := by decide +kernel
theorem dX3_week_1 : decode cX3_week 1 = .ok (.invokevirtual 126, 3) := by decide +kernel
theorem dX3_week_4 : decode cX3_week 4 = .ok (.aload_n 0, 1) := by decide +kernel
theorem dX3_week_5 : decode cX3_week 5 = .ok (.getfield 23, 3) := by decide +kernel
theorem dX3_week_8 : decode cX3_week 8 = .ok (.invokevirtual 129, 3) := by decide +kernel
theorem dX3_week_11 : decode cX3_week 11 = .ok (.aload_n 0, 1) := by decide +kernel
theorem dX3_week_12 : decode cX3_week 12 = .ok (.getfield 23, 3) := by decide +kernel
theorem dX3_week_15 : decode cX3_week 15 = .ok (.invokevirtual 132, 3) := by decide +kernel
theorem dX3_week_18 : decode cX3_week 18 = .ok (.invokestatic 136, 3) := by decide +kernel
theorem dX3_week_21 : decode cX3_week 21 = .ok (.ireturn, 1) := by decide +kernel
theorem dX3_stick_0 : decode cX3_stick 0 = .ok (.aload_n 0, 1) := by decide +kernel
theorem dX3_stick_1 : decode cX3_stick 1 = .ok (.getfield 23, 3) := by decide +kernel
theorem dX3_stick_4 : decode cX3_stick 4 = .ok (.iload_n 1, 1) := by decide +kernel
theorem dX3_stick_5 : decode cX3_stick 5 = .ok (.invokevirtual 79, 3) := by decide +kernel
theorem dX3_stick_8 : decode cX3_stick 8 = .ok (.ifCond .eq 14, 3) := by decide +kernel
theorem dX3_stick_11 : decode cX3_stick 11 = .ok (.aload_n 0, 1) := by decide +kernel
theorem dX3_stick_12 : decode cX3_stick 12 = .ok (.getfield 23, 3) := by decide +kernel
theorem dX3_stick_15 : decode cX3_stick 15 = .ok (.iload_n 2, 1) := by decide +kernel
theorem dX3_stick_16 : decode cX3_stick 16 = .ok (.invokevirtual 108, 3) := by decide +kernel
theorem dX3_stick_19 : decode cX3_stick 19 = .ok (.ifCond .ne 5, 3) := by decide +kernel
theorem dX3_stick_22 : decode cX3_stick 22 = .ok (.iconst (-1), 1) := by decide +kernel
theorem dX3_stick_23 : decode cX3_stick 23 = .ok (.ireturn, 1) := by decide +kernel
theorem dX3_stick_24 : decode cX3_stick 24 = .ok (.aload_n 0, 1) := by decide +kernel
theorem dX3_stick_25 : decode cX3_stick 25 = .ok (.getfield 23, 3) := by decide +kernel
theorem dX3_stick_28 : decode cX3_stick 28 = .ok (.iload_n 1, 1) := by decide +kernel
theorem dX3_stick_29 : decode cX3_stick 29 = .ok (.iload_n 2, 1) := by decide +kernel
theorem dX3_stick_30 : decode cX3_stick 30 = .ok (.invokevirtual 141, 3) := by decide +kernel
theorem dX3_stick_33 : decode cX3_stick 33 = .ok (.ifCond .ne 6, 3) := by decide +kernel
theorem dX3_stick_36 : decode cX3_stick 36 = .ok (.bipush (-3), 2) := by decide +kernel
theorem dX3_stick_38 : decode cX3_stick 38 = .ok (.ireturn, 1) := by decide +kernel
theorem dX3_stick_39 : decode cX3_stick 39 = .ok (.aload_n 0, 1) := by decide +kernel
theorem dX3_stick_40 : decode cX3_stick 40 = .ok (.invokevirtual 126, 3) := by decide +kernel
theorem dX3_stick_43 : decode cX3_stick 43 = .ok (.aload_n 0, 1) := by decide +kernel
theorem dX3_stick_44 : decode cX3_stick 44 = .ok (.getfield 23, 3) := by decide +kernel
theorem dX3_stick_47 : decode cX3_stick 47 = .ok (.iload_n 1, 1) := by decide +kernel
theorem dX3_stick_48 : decode cX3_stick 48 = .ok (.iload_n 2, 1) := by decide +kernel
theorem dX3_stick_49 : decode cX3_stick 49 = .ok (.invokevirtual 145, 3) := by decide +kernel
theorem dX3_stick_52 : decode cX3_stick 52 = .ok (.aload_n 0, 1) := by decide +kernel
theorem dX3_stick_53 : decode cX3_stick 53 = .ok (.getfield 23, 3) := by decide +kernel
theorem dX3_stick_56 : decode cX3_stick 56 = .ok (.iload_n 2, 1) := by decide +kernel
theorem dX3_stick_57 : decode cX3_stick 57 = .ok (.invokevirtual 117, 3) := by decide +kernel
theorem dX3_stick_60 : decode cX3_stick 60 = .ok (.invokestatic 136, 3) := by decide +kernel
theorem dX3_stick_63 : decode cX3_stick 63 = .ok (.ireturn, 1) := by decide +kernel
theorem dX3_send_0 : decode cX3_send 0 = .ok (.aload_n 0, 1) := by decide +kernel
theorem dX3_send_1 : decode cX3_send 1 = .ok (.getfield 23, 3) := by decide +kernel
theorem dX3_send_4 : decode cX3_send 4 = .ok (.iload_n 1, 1) := by decide +kernel
theorem dX3_send_5 : decode cX3_send 5 = .ok (.invokevirtual 108, 3) := by decide +kernel
theorem dX3_send_8 : decode cX3_send 8 = .ok (.ifCond .ne 5, 3) := by decide +kernel
theorem dX3_send_11 : decode cX3_send 11 = .ok (.iconst (-1), 1) := by decide +kernel
theorem dX3_send_12 : decode cX3_send 12 = .ok (.ireturn, 1) := by decide +kernel
theorem dX3_send_13 : decode cX3_send 13 = .ok (.aload_n 0, 1) := by decide +kernel
theorem dX3_send_14 : decode cX3_send 14 = .ok (.getfield 23, 3) := by decide +kernel
theorem dX3_send_17 : decode cX3_send 17 = .ok (.iload_n 1, 1) := by decide +kernel
theorem dX3_send_18 : decode cX3_send 18 = .ok (.invokevirtual 149, 3) := by decide +kernel
theorem dX3_send_21 : decode cX3_send 21 = .ok (.ifCond .ne 6, 3) := by decide +kernel
theorem dX3_send_24 : decode cX3_send 24 = .ok (.bipush (-3), 2) := by decide +kernel
theorem dX3_send_26 : decode cX3_send 26 = .ok (.ireturn, 1) := by decide +kernel
theorem dX3_send_27 : decode cX3_send 27 = .ok (.aload_n 0, 1) := by decide +kernel
theorem dX3_send_28 : decode cX3_send 28 = .ok (.invokevirtual 126, 3) := by decide +kernel
theorem dX3_send_31 : decode cX3_send 31 = .ok (.aload_n 0, 1) := by decide +kernel
theorem dX3_send_32 : decode cX3_send 32 = .ok (.getfield 23, 3) := by decide +kernel
theorem dX3_send_35 : decode cX3_send 35 = .ok (.iload_n 1, 1) := by decide +kernel
theorem dX3_send_36 : decode cX3_send 36 = .ok (.invokevirtual 152, 3) := by decide +kernel
theorem dX3_send_39 : decode cX3_send 39 = .ok (.aload_n 0, 1) := by decide +kernel
theorem dX3_send_40 : decode cX3_send 40 = .ok (.getfield 23, 3) := by decide +kernel
theorem dX3_send_43 : decode cX3_send 43 = .ok (.getfield 111, 3) := by decide +kernel
theorem dX3_send_46 : decode cX3_send 46 = .ok (.iload_n 1, 1) := by decide +kernel
theorem dX3_send_47 : decode cX3_send 47 = .ok (.iaload, 1) := by decide +kernel
theorem dX3_send_48 : decode cX3_send 48 = .ok (.ireturn, 1) := by decide +kernel
theorem dX3_part_0 : decode cX3_part 0 = .ok (.aload_n 0, 1) := by decide +kernel
theorem dX3_part_1 : decode cX3_part 1 = .ok (.getfield 23, 3) := by decide +kernel
theorem dX3_part_4 : decode cX3_part 4 = .ok (.iload_n 1, 1) := by decide +kernel
theorem dX3_part_5 : decode cX3_part 5 = .ok (.invokevirtual 79, 3) := by decide +kernel
theorem dX3_part_8 : decode cX3_part 8 = .ok (.ifCond .eq 14, 3) := by decide +kernel
theorem dX3_part_11 : decode cX3_part 11 = .ok (.aload_n 0, 1) := by decide +kernel
theorem dX3_part_12 : decode cX3_part 12 = .ok (.getfield 23, 3) := by decide +kernel
theorem dX3_part_15 : decode cX3_part 15 = .ok (.iload_n 2, 1) := by decide +kernel
theorem dX3_part_16 : decode cX3_part 16 = .ok (.invokevirtual 79, 3) := by decide +kernel
theorem dX3_part_19 : decode cX3_part 19 = .ok (.ifCond .ne 5, 3) := by decide +kernel
theorem dX3_part_22 : decode cX3_part 22 = .ok (.iconst (-1), 1) := by decide +kernel
theorem dX3_part_23 : decode cX3_part 23 = .ok (.ireturn, 1) := by decide +kernel
theorem dX3_part_24 : decode cX3_part 24 = .ok (.aload_n 0, 1) := by decide +kernel
theorem dX3_part_25 : decode cX3_part 25 = .ok (.getfield 23, 3) := by decide +kernel
theorem dX3_part_28 : decode cX3_part 28 = .ok (.iload_n 1, 1) := by decide +kernel
theorem dX3_part_29 : decode cX3_part 29 = .ok (.iload_n 2, 1) := by decide +kernel
theorem dX3_part_30 : decode cX3_part 30 = .ok (.invokevirtual 155, 3) := by decide +kernel
theorem dX3_part_33 : decode cX3_part 33 = .ok (.ifCond .ne 6, 3) := by decide +kernel
theorem dX3_part_36 : decode cX3_part 36 = .ok (.bipush (-3), 2) := by decide +kernel
theorem dX3_part_38 : decode cX3_part 38 = .ok (.ireturn, 1) := by decide +kernel
theorem dX3_part_39 : decode cX3_part 39 = .ok (.aload_n 0, 1) := by decide +kernel
theorem dX3_part_40 : decode cX3_part 40 = .ok (.invokevirtual 126, 3) := by decide +kernel
theorem dX3_part_43 : decode cX3_part 43 = .ok (.aload_n 0, 1) := by decide +kernel
theorem dX3_part_44 : decode cX3_part 44 = .ok (.getfield 23, 3) := by decide +kernel
theorem dX3_part_47 : decode cX3_part 47 = .ok (.iload_n 1, 1) := by decide +kernel
theorem dX3_part_48 : decode cX3_part 48 = .ok (.iload_n 2, 1) := by decide +kernel
theorem dX3_part_49 : decode cX3_part 49 = .ok (.invokevirtual 158, 3) := by decide +kernel
theorem dX3_part_52 : decode cX3_part 52 = .ok (.aload_n 0, 1) := by decide +kernel
theorem dX3_part_53 : decode cX3_part 53 = .ok (.getfield 23, 3) := by decide +kernel
theorem dX3_part_56 : decode cX3_part 56 = .ok (.getfield 105, 3) := by decide +kernel
theorem dX3_part_59 : decode cX3_part 59 = .ok (.iload_n 1, 1) := by decide +kernel
theorem dX3_part_60 : decode cX3_part 60 = .ok (.iaload, 1) := by decide +kernel
theorem dX3_part_61 : decode cX3_part 61 = .ok (.invokestatic 136, 3) := by decide +kernel
theorem dX3_part_64 : decode cX3_part 64 = .ok (.ireturn, 1) := by decide +kernel
theorem dX3_damp_0 : decode cX3_damp 0 = .ok (.aload_n 0, 1) := by decide +kernel
theorem dX3_damp_1 : decode cX3_damp 1 = .ok (.invokevirtual 126, 3) := by decide +kernel
theorem dX3_damp_4 : decode cX3_damp 4 = .ok (.aload_n 0, 1) := by decide +kernel
theorem dX3_damp_5 : decode cX3_damp 5 = .ok (.getfield 23, 3) := by decide +kernel
theorem dX3_damp_8 : decode cX3_damp 8 = .ok (.aload_n 0, 1) := by decide +kernel
theorem dX3_damp_9 : decode cX3_damp 9 = .ok (.getfield 23, 3) := by decide +kernel
theorem dX3_damp_12 : decode cX3_damp 12 = .ok (.getfield 161, 3) := by decide +kernel
theorem dX3_damp_15 : decode cX3_damp 15 = .ok (.ifCond .ne 7, 3) := by decide +kernel
theorem dX3_damp_18 : decode cX3_damp 18 = .ok (.iconst 1, 1) := by decide +kernel
theorem dX3_damp_19 : decode cX3_damp 19 = .ok (.goto 4, 3) := by decide +kernel
theorem dX3_damp_22 : decode cX3_damp 22 = .ok (.iconst 0, 1) := by decide +kernel
theorem dX3_damp_23 : decode cX3_damp 23 = .ok (.putfield 161, 3) := by decide +kernel
theorem dX3_damp_26 : decode cX3_damp 26 = .ok (.aload_n 0, 1) := by decide +kernel
theorem dX3_damp_27 : decode cX3_damp 27 = .ok (.getfield 23, 3) := by decide +kernel
theorem dX3_damp_30 : decode cX3_damp 30 = .ok (.getfield 161, 3) := by decide +kernel
theorem dX3_damp_33 : decode cX3_damp 33 = .ok (.ifCond .eq 7, 3) := by decide +kernel
theorem dX3_damp_36 : decode cX3_damp 36 = .ok (.iconst 1, 1) := by decide +kernel
theorem dX3_damp_37 : decode cX3_damp 37 = .ok (.goto 4, 3) := by decide +kernel
theorem dX3_damp_40 : decode cX3_damp 40 = .ok (.iconst 0, 1) := by decide +kernel
theorem dX3_damp_41 : decode cX3_damp 41 = .ok (.ireturn, 1) := by decide +kernel
theorem dX3_undo_0 : decode cX3_undo 0 = .ok (.aload_n 0, 1) := by decide +kernel
theorem dX3_undo_1 : decode cX3_undo 1 = .ok (.getfield 70, 3) := by decide +kernel
theorem dX3_undo_4 : decode cX3_undo 4 = .ok (.iconst 1, 1) := by decide +kernel
theorem dX3_undo_5 : decode cX3_undo 5 = .ok (.if_icmp .ge 6, 3) := by decide +kernel
theorem dX3_undo_8 : decode cX3_undo 8 = .ok (.bipush (-3), 2) := by decide +kernel
theorem dX3_undo_10 : decode cX3_undo 10 = .ok (.ireturn, 1) := by decide +kernel
theorem dX3_undo_11 : decode cX3_undo 11 = .ok (.aload_n 0, 1) := by decide +kernel
theorem dX3_undo_12 : decode cX3_undo 12 = .ok (.dup, 1) := by decide +kernel
theorem dX3_undo_13 : decode cX3_undo 13 = .ok (.getfield 70, 3) := by decide +kernel
theorem dX3_undo_16 : decode cX3_undo 16 = .ok (.iconst 1, 1) := by decide +kernel
theorem dX3_undo_17 : decode cX3_undo 17 = .ok (.isub, 1) := by decide +kernel
theorem dX3_undo_18 : decode cX3_undo 18 = .ok (.putfield 70, 3) := by decide +kernel
theorem dX3_undo_21 : decode cX3_undo 21 = .ok (.aload_n 0, 1) := by decide +kernel
theorem dX3_undo_22 : decode cX3_undo 22 = .ok (.getfield 35, 3) := by decide +kernel
theorem dX3_undo_25 : decode cX3_undo 25 = .ok (.aload_n 0, 1) := by decide +kernel
theorem dX3_undo_26 : decode cX3_undo 26 = .ok (.getfield 70, 3) := by decide +kernel
theorem dX3_undo_29 : decode cX3_undo 29 = .ok (.aload_n 0, 1) := by decide +kernel
theorem dX3_undo_30 : decode cX3_undo 30 = .ok (.getfield 23, 3) := by decide +kernel
theorem dX3_undo_33 : decode cX3_undo 33 = .ok (.invokevirtual 165, 3) := by decide +kernel
theorem dX3_undo_36 : decode cX3_undo 36 = .ok (.aload_n 0, 1) := by decide +kernel
theorem dX3_undo_37 : decode cX3_undo 37 = .ok (.getfield 70, 3) := by decide +kernel
theorem dX3_undo_40 : decode cX3_undo 40 = .ok (.ireturn, 1) := by decide +kernel
theorem dX3_lives_0 : decode cX3_lives 0 = .ok (.aload_n 0, 1) := by decide +kernel
theorem dX3_lives_1 : decode cX3_lives 1 = .ok (.getfield 23, 3) := by decide +kernel
theorem dX3_lives_4 : decode cX3_lives 4 = .ok (.iload_n 1, 1) := by decide +kernel
theorem dX3_lives_5 : decode cX3_lives 5 = .ok (.invokevirtual 79, 3) := by decide +kernel
theorem dX3_lives_8 : decode cX3_lives 8 = .ok (.ifCond .ne 5, 3) := by decide +kernel
theorem dX3_lives_11 : decode cX3_lives 11 = .ok (.iconst (-1), 1) := by decide +kernel
theorem dX3_lives_12 : decode cX3_lives 12 = .ok (.ireturn, 1) := by decide +kernel
theorem dX3_lives_13 : decode cX3_lives 13 = .ok (.aload_n 0, 1) := by decide +kernel
theorem dX3_lives_14 : decode cX3_lives 14 = .ok (.getfield 27, 3) := by decide +kernel
theorem dX3_lives_17 : decode cX3_lives 17 = .ok (.aload_n 0, 1) := by decide +kernel
theorem dX3_lives_18 : decode cX3_lives 18 = .ok (.getfield 23, 3) := by decide +kernel
theorem dX3_lives_21 : decode cX3_lives 21 = .ok (.invokevirtual 66, 3) := by decide +kernel
theorem dX3_lives_24 : decode cX3_lives 24 = .ok (.iconst 0, 1) := by decide +kernel
theorem dX3_lives_25 : decode cX3_lives 25 = .ok (.istore_n 2, 1) := by decide +kernel
theorem dX3_lives_26 : decode cX3_lives 26 = .ok (.iload_n 2, 1) := by decide +kernel
theorem dX3_lives_27 : decode cX3_lives 27 = .ok (.bipush 99, 2) := by decide +kernel
theorem dX3_lives_29 : decode cX3_lives 29 = .ok (.if_icmp .gt 29, 3) := by decide +kernel
theorem dX3_lives_32 : decode cX3_lives 32 = .ok (.aload_n 0, 1) := by decide +kernel
theorem dX3_lives_33 : decode cX3_lives 33 = .ok (.getfield 27, 3) := by decide +kernel
theorem dX3_lives_36 : decode cX3_lives 36 = .ok (.iload_n 1, 1) := by decide +kernel
theorem dX3_lives_37 : decode cX3_lives 37 = .ok (.invokevirtual 99, 3) := by decide +kernel
theorem dX3_lives_40 : decode cX3_lives 40 = .ok (.ifCond .ne 5, 3) := by decide +kernel
theorem dX3_lives_43 : decode cX3_lives 43 = .ok (.iload_n 2, 1) := by decide +kernel
theorem dX3_lives_44 : decode cX3_lives 44 = .ok (.ireturn, 1) := by decide +kernel
theorem dX3_lives_45 : decode cX3_lives 45 = .ok (.aload_n 0, 1) := by decide +kernel
theorem dX3_lives_46 : decode cX3_lives 46 = .ok (.getfield 27, 3) := by decide +kernel
theorem dX3_lives_49 : decode cX3_lives 49 = .ok (.invokevirtual 129, 3) := by decide +kernel
theorem dX3_lives_52 : decode cX3_lives 52 = .ok (.iinc 2 1, 3) := by decide +kernel
theorem dX3_lives_55 : decode cX3_lives 55 = .ok (.goto (-29), 3) := by decide +kernel
theorem dX3_lives_58 : decode cX3_lives 58 = .ok (.bipush (-9), 2) := by decide +kernel
theorem dX3_lives_60 : decode cX3_lives 60 = .ok (.ireturn, 1) := by decide +kernel
theorem dX3_comes_0 : decode cX3_comes 0 = .ok (.aload_n 0, 1) := by decide +kernel
theorem dX3_comes_1 : decode cX3_comes 1 = .ok (.getfield 23, 3) := by decide +kernel
theorem dX3_comes_4 : decode cX3_comes 4 = .ok (.iload_n 1, 1) := by decide +kernel
theorem dX3_comes_5 : decode cX3_comes 5 = .ok (.invokevirtual 108, 3) := by decide +kernel
theorem dX3_comes_8 : decode cX3_comes 8 = .ok (.ifCond .ne 5, 3) := by decide +kernel
theorem dX3_comes_11 : decode cX3_comes 11 = .ok (.iconst (-1), 1) := by decide +kernel
theorem dX3_comes_12 : decode cX3_comes 12 = .ok (.ireturn, 1) := by decide +kernel
theorem dX3_comes_13 : decode cX3_comes 13 = .ok (.iload_n 2, 1) := by decide +kernel
theorem dX3_comes_14 : decode cX3_comes 14 = .ok (.ifCond .lt 14, 3) := by decide +kernel
theorem dX3_comes_17 : decode cX3_comes 17 = .ok (.iload_n 2, 1) := by decide +kernel
theorem dX3_comes_18 : decode cX3_comes 18 = .ok (.aload_n 0, 1) := by decide +kernel
theorem dX3_comes_19 : decode cX3_comes 19 = .ok (.getfield 23, 3) := by decide +kernel
theorem dX3_comes_22 : decode cX3_comes 22 = .ok (.invokevirtual 169, 3) := by decide +kernel
theorem dX3_comes_25 : decode cX3_comes 25 = .ok (.if_icmp .le 6, 3) := by decide +kernel
theorem dX3_comes_28 : decode cX3_comes 28 = .ok (.bipush (-2), 2) := by decide +kernel
theorem dX3_comes_30 : decode cX3_comes 30 = .ok (.ireturn, 1) := by decide +kernel
theorem dX3_comes_31 : decode cX3_comes 31 = .ok (.aload_n 0, 1) := by decide +kernel
theorem dX3_comes_32 : decode cX3_comes 32 = .ok (.getfield 23, 3) := by decide +kernel
theorem dX3_comes_35 : decode cX3_comes 35 = .ok (.getfield 123, 3) := by decide +kernel
theorem dX3_comes_38 : decode cX3_comes 38 = .ok (.iload_n 1, 1) := by decide +kernel
theorem dX3_comes_39 : decode cX3_comes 39 = .ok (.iaload, 1) := by decide +kernel
theorem dX3_comes_40 : decode cX3_comes 40 = .ok (.ifCond .ne 17, 3) := by decide +kernel
theorem dX3_comes_43 : decode cX3_comes 43 = .ok (.iload_n 2, 1) := by decide +kernel
theorem dX3_comes_44 : decode cX3_comes 44 = .ok (.aload_n 0, 1) := by decide +kernel
theorem dX3_comes_45 : decode cX3_comes 45 = .ok (.getfield 23, 3) := by decide +kernel
theorem dX3_comes_48 : decode cX3_comes 48 = .ok (.invokevirtual 172, 3) := by decide +kernel
theorem dX3_comes_51 : decode cX3_comes 51 = .ok (.iconst (-1), 1) := by decide +kernel
theorem dX3_comes_52 : decode cX3_comes 52 = .ok (.ixor, 1) := by decide +kernel
theorem dX3_comes_53 : decode cX3_comes 53 = .ok (.iand, 1) := by decide +kernel
theorem dX3_comes_54 : decode cX3_comes 54 = .ok (.ifCond .eq 6, 3) := by decide +kernel
theorem dX3_comes_57 : decode cX3_comes 57 = .ok (.bipush (-3), 2) := by decide +kernel
theorem dX3_comes_59 : decode cX3_comes 59 = .ok (.ireturn, 1) := by decide +kernel
theorem dX3_comes_60 : decode cX3_comes 60 = .ok (.aload_n 0, 1) := by decide +kernel
theorem dX3_comes_61 : decode cX3_comes 61 = .ok (.iload_n 1, 1) := by decide +kernel
theorem dX3_comes_62 : decode cX3_comes 62 = .ok (.iload_n 2, 1) := by decide +kernel
theorem dX3_comes_63 : decode cX3_comes 63 = .ok (.invokevirtual 175, 3) := by decide +kernel
theorem dX3_comes_66 : decode cX3_comes 66 = .ok (.ireturn, 1) := by decide +kernel
theorem dX3_fewest_0 : decode cX3_fewest 0 = .ok (.aload_n 0, 1) := by decide +kernel
theorem dX3_fewest_1 : decode cX3_fewest 1 = .ok (.getfield 23, 3) := by decide +kernel
theorem dX3_fewest_4 : decode cX3_fewest 4 = .ok (.iload_n 1, 1) := by decide +kernel
theorem dX3_fewest_5 : decode cX3_fewest 5 = .ok (.invokevirtual 108, 3) := by decide +kernel
theorem dX3_fewest_8 : decode cX3_fewest 8 = .ok (.ifCond .ne 5, 3) := by decide +kernel
theorem dX3_fewest_11 : decode cX3_fewest 11 = .ok (.iconst (-1), 1) := by decide +kernel
theorem dX3_fewest_12 : decode cX3_fewest 12 = .ok (.ireturn, 1) := by decide +kernel
theorem dX3_fewest_13 : decode cX3_fewest 13 = .ok (.aload_n 0, 1) := by decide +kernel
theorem dX3_fewest_14 : decode cX3_fewest 14 = .ok (.getfield 23, 3) := by decide +kernel
theorem dX3_fewest_17 : decode cX3_fewest 17 = .ok (.getfield 123, 3) := by decide +kernel
theorem dX3_fewest_20 : decode cX3_fewest 20 = .ok (.iload_n 1, 1) := by decide +kernel
theorem dX3_fewest_21 : decode cX3_fewest 21 = .ok (.iaload, 1) := by decide +kernel
theorem dX3_fewest_22 : decode cX3_fewest 22 = .ok (.ifCond .eq 6, 3) := by decide +kernel
theorem dX3_fewest_25 : decode cX3_fewest 25 = .ok (.bipush (-3), 2) := by decide +kernel
theorem dX3_fewest_27 : decode cX3_fewest 27 = .ok (.ireturn, 1) := by decide +kernel
theorem dX3_fewest_28 : decode cX3_fewest 28 = .ok (.aload_n 0, 1) := by decide +kernel
theorem dX3_fewest_29 : decode cX3_fewest 29 = .ok (.getfield 23, 3) := by decide +kernel
theorem dX3_fewest_32 : decode cX3_fewest 32 = .ok (.invokevirtual 172, 3) := by decide +kernel
theorem dX3_fewest_35 : decode cX3_fewest 35 = .ok (.istore_n 2, 1) := by decide +kernel
theorem dX3_fewest_36 : decode cX3_fewest 36 = .ok (.iconst 0, 1) := by decide +kernel
theorem dX3_fewest_37 : decode cX3_fewest 37 = .ok (.istore_n 3, 1) := by decide +kernel
theorem dX3_fewest_38 : decode cX3_fewest 38 = .ok (.iload_n 3, 1) := by decide +kernel
theorem dX3_fewest_39 : decode cX3_fewest 39 = .ok (.aload_n 0, 1) := by decide +kernel
theorem dX3_fewest_40 : decode cX3_fewest 40 = .ok (.getfield 23, 3) := by decide +kernel
theorem dX3_fewest_43 : decode cX3_fewest 43 = .ok (.getfield 73, 3) := by decide +kernel
theorem dX3_fewest_46 : decode cX3_fewest 46 = .ok (.if_icmp .gt 68, 3) := by decide +kernel
theorem dX3_fewest_49 : decode cX3_fewest 49 = .ok (.iconst 0, 1) := by decide +kernel
theorem dX3_fewest_50 : decode cX3_fewest 50 = .ok (.istore 4, 2) := by decide +kernel
theorem dX3_fewest_52 : decode cX3_fewest 52 = .ok (.iload 4, 2) := by decide +kernel
theorem dX3_fewest_54 : decode cX3_fewest 54 = .ok (.iload_n 2, 1) := by decide +kernel
theorem dX3_fewest_55 : decode cX3_fewest 55 = .ok (.if_icmp .gt 53, 3) := by decide +kernel
theorem dX3_fewest_58 : decode cX3_fewest 58 = .ok (.iload 4, 2) := by decide +kernel
theorem dX3_fewest_60 : decode cX3_fewest 60 = .ok (.iload_n 2, 1) := by decide +kernel
theorem dX3_fewest_61 : decode cX3_fewest 61 = .ok (.iconst (-1), 1) := by decide +kernel
theorem dX3_fewest_62 : decode cX3_fewest 62 = .ok (.ixor, 1) := by decide +kernel
theorem dX3_fewest_63 : decode cX3_fewest 63 = .ok (.iand, 1) := by decide +kernel
theorem dX3_fewest_64 : decode cX3_fewest 64 = .ok (.ifCond .ne 16, 3) := by decide +kernel
theorem dX3_fewest_67 : decode cX3_fewest 67 = .ok (.iload 4, 2) := by decide +kernel
theorem dX3_fewest_69 : decode cX3_fewest 69 = .ok (.invokestatic 136, 3) := by decide +kernel
theorem dX3_fewest_72 : decode cX3_fewest 72 = .ok (.iload_n 3, 1) := by decide +kernel
theorem dX3_fewest_73 : decode cX3_fewest 73 = .ok (.if_icmp .ne 7, 3) := by decide +kernel
theorem dX3_fewest_76 : decode cX3_fewest 76 = .ok (.iconst 1, 1) := by decide +kernel
theorem dX3_fewest_77 : decode cX3_fewest 77 = .ok (.goto 4, 3) := by decide +kernel
theorem dX3_fewest_80 : decode cX3_fewest 80 = .ok (.iconst 0, 1) := by decide +kernel
theorem dX3_fewest_81 : decode cX3_fewest 81 = .ok (.istore 5, 2) := by decide +kernel
theorem dX3_fewest_83 : decode cX3_fewest 83 = .ok (.iload 5, 2) := by decide +kernel
theorem dX3_fewest_85 : decode cX3_fewest 85 = .ok (.ifCond .eq 17, 3) := by decide +kernel
theorem dX3_fewest_88 : decode cX3_fewest 88 = .ok (.aload_n 0, 1) := by decide +kernel
theorem dX3_fewest_89 : decode cX3_fewest 89 = .ok (.iload_n 1, 1) := by decide +kernel
theorem dX3_fewest_90 : decode cX3_fewest 90 = .ok (.iload 4, 2) := by decide +kernel
theorem dX3_fewest_92 : decode cX3_fewest 92 = .ok (.invokevirtual 175, 3) := by decide +kernel
theorem dX3_fewest_95 : decode cX3_fewest 95 = .ok (.iconst 1, 1) := by decide +kernel
theorem dX3_fewest_96 : decode cX3_fewest 96 = .ok (.if_icmp .ne 6, 3) := by decide +kernel
theorem dX3_fewest_99 : decode cX3_fewest 99 = .ok (.iload 4, 2) := by decide +kernel
theorem dX3_fewest_101 : decode cX3_fewest 101 = .ok (.ireturn, 1) := by decide +kernel
theorem dX3_fewest_102 : decode cX3_fewest 102 = .ok (.iinc 4 1, 3) := by decide +kernel
theorem dX3_fewest_105 : decode cX3_fewest 105 = .ok (.goto (-53), 3) := by decide +kernel
theorem dX3_fewest_108 : decode cX3_fewest 108 = .ok (.iinc 3 1, 3) := by decide +kernel
theorem dX3_fewest_111 : decode cX3_fewest 111 = .ok (.goto (-73), 3) := by decide +kernel
theorem dX3_fewest_114 : decode cX3_fewest 114 = .ok (.bipush (-9), 2) := by decide +kernel
theorem dX3_fewest_116 : decode cX3_fewest 116 = .ok (.ireturn, 1) := by decide +kernel
theorem dX3_block_0 : decode cX3_block 0 = .ok (.aload_n 0, 1) := by decide +kernel
theorem dX3_block_1 : decode cX3_block 1 = .ok (.getfield 23, 3) := by decide +kernel
theorem dX3_block_4 : decode cX3_block 4 = .ok (.iload_n 1, 1) := by decide +kernel
theorem dX3_block_5 : decode cX3_block 5 = .ok (.invokevirtual 79, 3) := by decide +kernel
theorem dX3_block_8 : decode cX3_block 8 = .ok (.ifCond .ne 5, 3) := by decide +kernel
theorem dX3_block_11 : decode cX3_block 11 = .ok (.iconst (-1), 1) := by decide +kernel
theorem dX3_block_12 : decode cX3_block 12 = .ok (.ireturn, 1) := by decide +kernel
theorem dX3_block_13 : decode cX3_block 13 = .ok (.iconst 1, 1) := by decide +kernel
theorem dX3_block_14 : decode cX3_block 14 = .ok (.iload_n 1, 1) := by decide +kernel
theorem dX3_block_15 : decode cX3_block 15 = .ok (.ishl, 1) := by decide +kernel
theorem dX3_block_16 : decode cX3_block 16 = .ok (.istore_n 2, 1) := by decide +kernel
theorem dX3_block_17 : decode cX3_block 17 = .ok (.iconst 0, 1) := by decide +kernel
theorem dX3_block_18 : decode cX3_block 18 = .ok (.istore_n 3, 1) := by decide +kernel
theorem dX3_block_19 : decode cX3_block 19 = .ok (.iload_n 3, 1) := by decide +kernel
theorem dX3_block_20 : decode cX3_block 20 = .ok (.aload_n 0, 1) := by decide +kernel
theorem dX3_block_21 : decode cX3_block 21 = .ok (.getfield 23, 3) := by decide +kernel
theorem dX3_block_24 : decode cX3_block 24 = .ok (.getfield 73, 3) := by decide +kernel
theorem dX3_block_27 : decode cX3_block 27 = .ok (.if_icmp .ge 20, 3) := by decide +kernel
theorem dX3_block_30 : decode cX3_block 30 = .ok (.iload_n 2, 1) := by decide +kernel
theorem dX3_block_31 : decode cX3_block 31 = .ok (.aload_n 0, 1) := by decide +kernel
theorem dX3_block_32 : decode cX3_block 32 = .ok (.getfield 23, 3) := by decide +kernel
theorem dX3_block_35 : decode cX3_block 35 = .ok (.iload_n 2, 1) := by decide +kernel
theorem dX3_block_36 : decode cX3_block 36 = .ok (.invokevirtual 179, 3) := by decide +kernel
theorem dX3_block_39 : decode cX3_block 39 = .ok (.ior, 1) := by decide +kernel
theorem dX3_block_40 : decode cX3_block 40 = .ok (.istore_n 2, 1) := by decide +kernel
theorem dX3_block_41 : decode cX3_block 41 = .ok (.iinc 3 1, 3) := by decide +kernel
theorem dX3_block_44 : decode cX3_block 44 = .ok (.goto (-25), 3) := by decide +kernel
theorem dX3_block_47 : decode cX3_block 47 = .ok (.iload_n 2, 1) := by decide +kernel
theorem dX3_block_48 : decode cX3_block 48 = .ok (.ireturn, 1) := by decide +kernel
theorem dX3_judge_0 : decode cX3_judge 0 = .ok (.iload_n 1, 1) := by decide +kernel
theorem dX3_judge_1 : decode cX3_judge 1 = .ok (.iconst 1, 1) := by decide +kernel
theorem dX3_judge_2 : decode cX3_judge 2 = .ok (.if_icmp .lt 14, 3) := by decide +kernel
theorem dX3_judge_5 : decode cX3_judge 5 = .ok (.iload_n 1, 1) := by decide +kernel
theorem dX3_judge_6 : decode cX3_judge 6 = .ok (.iconst 4, 1) := by decide +kernel
theorem dX3_judge_7 : decode cX3_judge 7 = .ok (.if_icmp .gt 9, 3) := by decide +kernel
theorem dX3_judge_10 : decode cX3_judge 10 = .ok (.lload_n 2, 1) := by decide +kernel
theorem dX3_judge_11 : decode cX3_judge 11 = .ok (.lconst 0, 1) := by decide +kernel
theorem dX3_judge_12 : decode cX3_judge 12 = .ok (.lcmp, 1) := by decide +kernel
theorem dX3_judge_13 : decode cX3_judge 13 = .ok (.ifCond .ge 6, 3) := by decide +kernel
theorem dX3_judge_16 : decode cX3_judge 16 = .ok (.bipush (-2), 2) := by decide +kernel
theorem dX3_judge_18 : decode cX3_judge 18 = .ok (.ireturn, 1) := by decide +kernel
theorem dX3_judge_19 : decode cX3_judge 19 = .ok (.lload_n 2, 1) := by decide +kernel
theorem dX3_judge_20 : decode cX3_judge 20 = .ok (.lstore 4, 2) := by decide +kernel
theorem dX3_judge_22 : decode cX3_judge 22 = .ok (.iload_n 1, 1) := by decide +kernel
theorem dX3_judge_23 : decode cX3_judge 23 = .ok (.iconst 1, 1) := by decide +kernel
theorem dX3_judge_24 : decode cX3_judge 24 = .ok (.isub, 1) := by decide +kernel
theorem dX3_judge_25 : decode cX3_judge 25 = .ok (.istore 6, 2) := by decide +kernel
theorem dX3_judge_27 : decode cX3_judge 27 = .ok (.iload 6, 2) := by decide +kernel
theorem dX3_judge_29 : decode cX3_judge 29 = .ok (.ifCond .lt 31, 3) := by decide +kernel
theorem dX3_judge_32 : decode cX3_judge 32 = .ok (.aload_n 0, 1) := by decide +kernel
theorem dX3_judge_33 : decode cX3_judge 33 = .ok (.getfield 55, 3) := by decide +kernel
theorem dX3_judge_36 : decode cX3_judge 36 = .ok (.iload 6, 2) := by decide +kernel
theorem dX3_judge_38 : decode cX3_judge 38 = .ok (.lload 4, 2) := by decide +kernel
theorem dX3_judge_40 : decode cX3_judge 40 = .ok (.ldc2_w 182, 3) := by decide +kernel
theorem dX3_judge_43 : decode cX3_judge 43 = .ok (.lrem, 1) := by decide +kernel
theorem dX3_judge_44 : decode cX3_judge 44 = .ok (.l2i, 1) := by decide +kernel
theorem dX3_judge_45 : decode cX3_judge 45 = .ok (.iastore, 1) := by decide +kernel
theorem dX3_judge_46 : decode cX3_judge 46 = .ok (.lload 4, 2) := by decide +kernel
theorem dX3_judge_48 : decode cX3_judge 48 = .ok (.ldc2_w 182, 3) := by decide +kernel
theorem dX3_judge_51 : decode cX3_judge 51 = .ok (.ldiv, 1) := by decide +kernel
theorem dX3_judge_52 : decode cX3_judge 52 = .ok (.lstore 4, 2) := by decide +kernel
theorem dX3_judge_54 : decode cX3_judge 54 = .ok (.iinc 6 (-1), 3) := by decide +kernel
theorem dX3_judge_57 : decode cX3_judge 57 = .ok (.goto (-30), 3) := by decide +kernel
theorem dX3_judge_60 : decode cX3_judge 60 = .ok (.lload 4, 2) := by decide +kernel
theorem dX3_judge_62 : decode cX3_judge 62 = .ok (.lconst 0, 1) := by decide +kernel
theorem dX3_judge_63 : decode cX3_judge 63 = .ok (.lcmp, 1) := by decide +kernel
theorem dX3_judge_64 : decode cX3_judge 64 = .ok (.ifCond .eq 6, 3) := by decide +kernel
theorem dX3_judge_67 : decode cX3_judge 67 = .ok (.bipush (-2), 2) := by decide +kernel
theorem dX3_judge_69 : decode cX3_judge 69 = .ok (.ireturn, 1) := by decide +kernel
theorem dX3_judge_70 : decode cX3_judge 70 = .ok (.aload_n 0, 1) := by decide +kernel
theorem dX3_judge_71 : decode cX3_judge 71 = .ok (.getfield 27, 3) := by decide +kernel
theorem dX3_judge_74 : decode cX3_judge 74 = .ok (.aload_n 0, 1) := by decide +kernel
theorem dX3_judge_75 : decode cX3_judge 75 = .ok (.getfield 23, 3) := by decide +kernel
theorem dX3_judge_78 : decode cX3_judge 78 = .ok (.invokevirtual 66, 3) := by decide +kernel
theorem dX3_judge_81 : decode cX3_judge 81 = .ok (.iconst 0, 1) := by decide +kernel
theorem dX3_judge_82 : decode cX3_judge 82 = .ok (.istore 6, 2) := by decide +kernel
theorem dX3_judge_84 : decode cX3_judge 84 = .ok (.iload 6, 2) := by decide +kernel
theorem dX3_judge_86 : decode cX3_judge 86 = .ok (.iload_n 1, 1) := by decide +kernel
theorem dX3_judge_87 : decode cX3_judge 87 = .ok (.if_icmp .ge 29, 3) := by decide +kernel
theorem dX3_judge_90 : decode cX3_judge 90 = .ok (.aload_n 0, 1) := by decide +kernel
theorem dX3_judge_91 : decode cX3_judge 91 = .ok (.getfield 27, 3) := by decide +kernel
theorem dX3_judge_94 : decode cX3_judge 94 = .ok (.aload_n 0, 1) := by decide +kernel
theorem dX3_judge_95 : decode cX3_judge 95 = .ok (.getfield 55, 3) := by decide +kernel
theorem dX3_judge_98 : decode cX3_judge 98 = .ok (.iload 6, 2) := by decide +kernel
theorem dX3_judge_100 : decode cX3_judge 100 = .ok (.iaload, 1) := by decide +kernel
theorem dX3_judge_101 : decode cX3_judge 101 = .ok (.invokevirtual 184, 3) := by decide +kernel
theorem dX3_judge_104 : decode cX3_judge 104 = .ok (.ifCond .ne 6, 3) := by decide +kernel
theorem dX3_judge_107 : decode cX3_judge 107 = .ok (.iload 6, 2) := by decide +kernel
theorem dX3_judge_109 : decode cX3_judge 109 = .ok (.ireturn, 1) := by decide +kernel
theorem dX3_judge_110 : decode cX3_judge 110 = .ok (.iinc 6 1, 3) := by decide +kernel
theorem dX3_judge_113 : decode cX3_judge 113 = .ok (.goto (-29), 3) := by decide +kernel
theorem dX3_judge_116 : decode cX3_judge 116 = .ok (.bipush (-9), 2) := by decide +kernel
theorem dX3_judge_118 : decode cX3_judge 118 = .ok (.ireturn, 1) := by decide +kernel
theorem dX3_see_0 : decode cX3_see 0 = .ok (.aload_n 0, 1) := by decide +kernel
theorem dX3_see_1 : decode cX3_see 1 = .ok (.getfield 23, 3) := by decide +kernel
theorem dX3_see_4 : decode cX3_see 4 = .ok (.iload_n 1, 1) := by decide +kernel
theorem dX3_see_5 : decode cX3_see 5 = .ok (.invokevirtual 79, 3) := by decide +kernel
theorem dX3_see_8 : decode cX3_see 8 = .ok (.ifCond .ne 5, 3) := by decide +kernel
theorem dX3_see_11 : decode cX3_see 11 = .ok (.iconst (-1), 1) := by decide +kernel
theorem dX3_see_12 : decode cX3_see 12 = .ok (.ireturn, 1) := by decide +kernel
theorem dX3_see_13 : decode cX3_see 13 = .ok (.iload_n 2, 1) := by decide +kernel
theorem dX3_see_14 : decode cX3_see 14 = .ok (.ifCond .lt 18, 3) := by decide +kernel
theorem dX3_see_17 : decode cX3_see 17 = .ok (.iload_n 2, 1) := by decide +kernel
theorem dX3_see_18 : decode cX3_see 18 = .ok (.bipush 99, 2) := by decide +kernel
theorem dX3_see_20 : decode cX3_see 20 = .ok (.if_icmp .gt 12, 3) := by decide +kernel
theorem dX3_see_23 : decode cX3_see 23 = .ok (.iload_n 3, 1) := by decide +kernel
theorem dX3_see_24 : decode cX3_see 24 = .ok (.ifCond .lt 8, 3) := by decide +kernel
theorem dX3_see_27 : decode cX3_see 27 = .ok (.iload_n 3, 1) := by decide +kernel
theorem dX3_see_28 : decode cX3_see 28 = .ok (.iconst 1, 1) := by decide +kernel
theorem dX3_see_29 : decode cX3_see 29 = .ok (.if_icmp .le 6, 3) := by decide +kernel
theorem dX3_see_32 : decode cX3_see 32 = .ok (.bipush (-2), 2) := by decide +kernel
theorem dX3_see_34 : decode cX3_see 34 = .ok (.ireturn, 1) := by decide +kernel
theorem dX3_see_35 : decode cX3_see 35 = .ok (.aload_n 0, 1) := by decide +kernel
theorem dX3_see_36 : decode cX3_see 36 = .ok (.getfield 187, 3) := by decide +kernel
theorem dX3_see_39 : decode cX3_see 39 = .ok (.bipush 6, 2) := by decide +kernel
theorem dX3_see_41 : decode cX3_see 41 = .ok (.if_icmp .lt 6, 3) := by decide +kernel
theorem dX3_see_44 : decode cX3_see 44 = .ok (.bipush (-4), 2) := by decide +kernel
theorem dX3_see_46 : decode cX3_see 46 = .ok (.ireturn, 1) := by decide +kernel
theorem dX3_see_47 : decode cX3_see 47 = .ok (.aload_n 0, 1) := by decide +kernel
theorem dX3_see_48 : decode cX3_see 48 = .ok (.getfield 46, 3) := by decide +kernel
theorem dX3_see_51 : decode cX3_see 51 = .ok (.aload_n 0, 1) := by decide +kernel
theorem dX3_see_52 : decode cX3_see 52 = .ok (.getfield 187, 3) := by decide +kernel
theorem dX3_see_55 : decode cX3_see 55 = .ok (.iload_n 1, 1) := by decide +kernel
theorem dX3_see_56 : decode cX3_see 56 = .ok (.iastore, 1) := by decide +kernel
theorem dX3_see_57 : decode cX3_see 57 = .ok (.aload_n 0, 1) := by decide +kernel
theorem dX3_see_58 : decode cX3_see 58 = .ok (.getfield 49, 3) := by decide +kernel
theorem dX3_see_61 : decode cX3_see 61 = .ok (.aload_n 0, 1) := by decide +kernel
theorem dX3_see_62 : decode cX3_see 62 = .ok (.getfield 187, 3) := by decide +kernel
theorem dX3_see_65 : decode cX3_see 65 = .ok (.iload_n 2, 1) := by decide +kernel
theorem dX3_see_66 : decode cX3_see 66 = .ok (.iastore, 1) := by decide +kernel
theorem dX3_see_67 : decode cX3_see 67 = .ok (.aload_n 0, 1) := by decide +kernel
theorem dX3_see_68 : decode cX3_see 68 = .ok (.getfield 52, 3) := by decide +kernel
theorem dX3_see_71 : decode cX3_see 71 = .ok (.aload_n 0, 1) := by decide +kernel
theorem dX3_see_72 : decode cX3_see 72 = .ok (.getfield 187, 3) := by decide +kernel
theorem dX3_see_75 : decode cX3_see 75 = .ok (.iload_n 3, 1) := by decide +kernel
theorem dX3_see_76 : decode cX3_see 76 = .ok (.iconst 1, 1) := by decide +kernel
theorem dX3_see_77 : decode cX3_see 77 = .ok (.if_icmp .ne 7, 3) := by decide +kernel
theorem dX3_see_80 : decode cX3_see 80 = .ok (.iconst 1, 1) := by decide +kernel
theorem dX3_see_81 : decode cX3_see 81 = .ok (.goto 4, 3) := by decide +kernel
theorem dX3_see_84 : decode cX3_see 84 = .ok (.iconst 0, 1) := by decide +kernel
theorem dX3_see_85 : decode cX3_see 85 = .ok (.bastore, 1) := by decide +kernel
theorem dX3_see_86 : decode cX3_see 86 = .ok (.aload_n 0, 1) := by decide +kernel
theorem dX3_see_87 : decode cX3_see 87 = .ok (.dup, 1) := by decide +kernel
theorem dX3_see_88 : decode cX3_see 88 = .ok (.getfield 187, 3) := by decide +kernel
theorem dX3_see_91 : decode cX3_see 91 = .ok (.iconst 1, 1) := by decide +kernel
theorem dX3_see_92 : decode cX3_see 92 = .ok (.iadd, 1) := by decide +kernel
theorem dX3_see_93 : decode cX3_see 93 = .ok (.putfield 187, 3) := by decide +kernel
theorem dX3_see_96 : decode cX3_see 96 = .ok (.aload_n 0, 1) := by decide +kernel
theorem dX3_see_97 : decode cX3_see 97 = .ok (.getfield 187, 3) := by decide +kernel
theorem dX3_see_100 : decode cX3_see 100 = .ok (.ireturn, 1) := by decide +kernel
theorem dX3_unsee_0 : decode cX3_unsee 0 = .ok (.aload_n 0, 1) := by decide +kernel
theorem dX3_unsee_1 : decode cX3_unsee 1 = .ok (.getfield 187, 3) := by decide +kernel
theorem dX3_unsee_4 : decode cX3_unsee 4 = .ok (.istore_n 1, 1) := by decide +kernel
theorem dX3_unsee_5 : decode cX3_unsee 5 = .ok (.aload_n 0, 1) := by decide +kernel
theorem dX3_unsee_6 : decode cX3_unsee 6 = .ok (.iconst 0, 1) := by decide +kernel
theorem dX3_unsee_7 : decode cX3_unsee 7 = .ok (.putfield 187, 3) := by decide +kernel
theorem dX3_unsee_10 : decode cX3_unsee 10 = .ok (.iload_n 1, 1) := by decide +kernel
theorem dX3_unsee_11 : decode cX3_unsee 11 = .ok (.ireturn, 1) := by decide +kernel
theorem dX3_bought_0 : decode cX3_bought 0 = .ok (.aload_n 0, 1) := by decide +kernel
theorem dX3_bought_1 : decode cX3_bought 1 = .ok (.getfield 23, 3) := by decide +kernel
theorem dX3_bought_4 : decode cX3_bought 4 = .ok (.iload_n 1, 1) := by decide +kernel
theorem dX3_bought_5 : decode cX3_bought 5 = .ok (.invokevirtual 79, 3) := by decide +kernel
theorem dX3_bought_8 : decode cX3_bought 8 = .ok (.ifCond .ne 5, 3) := by decide +kernel
theorem dX3_bought_11 : decode cX3_bought 11 = .ok (.iconst (-1), 1) := by decide +kernel
theorem dX3_bought_12 : decode cX3_bought 12 = .ok (.ireturn, 1) := by decide +kernel
theorem dX3_bought_13 : decode cX3_bought 13 = .ok (.iconst 0, 1) := by decide +kernel
theorem dX3_bought_14 : decode cX3_bought 14 = .ok (.istore_n 2, 1) := by decide +kernel
theorem dX3_bought_15 : decode cX3_bought 15 = .ok (.iconst 0, 1) := by decide +kernel
theorem dX3_bought_16 : decode cX3_bought 16 = .ok (.istore_n 3, 1) := by decide +kernel
theorem dX3_bought_17 : decode cX3_bought 17 = .ok (.iload_n 3, 1) := by decide +kernel
theorem dX3_bought_18 : decode cX3_bought 18 = .ok (.bipush 9, 2) := by decide +kernel
theorem dX3_bought_20 : decode cX3_bought 20 = .ok (.if_icmp .gt 27, 3) := by decide +kernel
theorem dX3_bought_23 : decode cX3_bought 23 = .ok (.aload_n 0, 1) := by decide +kernel
theorem dX3_bought_24 : decode cX3_bought 24 = .ok (.iload_n 1, 1) := by decide +kernel
theorem dX3_bought_25 : decode cX3_bought 25 = .ok (.bipush 10, 2) := by decide +kernel
theorem dX3_bought_27 : decode cX3_bought 27 = .ok (.iload_n 3, 1) := by decide +kernel
theorem dX3_bought_28 : decode cX3_bought 28 = .ok (.imul, 1) := by decide +kernel
theorem dX3_bought_29 : decode cX3_bought 29 = .ok (.invokevirtual 190, 3) := by decide +kernel
theorem dX3_bought_32 : decode cX3_bought 32 = .ok (.ifCond .eq 9, 3) := by decide +kernel
theorem dX3_bought_35 : decode cX3_bought 35 = .ok (.iload_n 2, 1) := by decide +kernel
theorem dX3_bought_36 : decode cX3_bought 36 = .ok (.iconst 1, 1) := by decide +kernel
theorem dX3_bought_37 : decode cX3_bought 37 = .ok (.iload_n 3, 1) := by decide +kernel
theorem dX3_bought_38 : decode cX3_bought 38 = .ok (.ishl, 1) := by decide +kernel
theorem dX3_bought_39 : decode cX3_bought 39 = .ok (.ior, 1) := by decide +kernel
theorem dX3_bought_40 : decode cX3_bought 40 = .ok (.istore_n 2, 1) := by decide +kernel
theorem dX3_bought_41 : decode cX3_bought 41 = .ok (.iinc 3 1, 3) := by decide +kernel
theorem dX3_bought_44 : decode cX3_bought 44 = .ok (.goto (-27), 3) := by decide +kernel
theorem dX3_bought_47 : decode cX3_bought 47 = .ok (.iload_n 2, 1) := by decide +kernel
theorem dX3_bought_48 : decode cX3_bought 48 = .ok (.ireturn, 1) := by decide +kernel
theorem dX3_share_0 : decode cX3_share 0 = .ok (.aload_n 0, 1) := by decide +kernel
theorem dX3_share_1 : decode cX3_share 1 = .ok (.getfield 23, 3) := by decide +kernel
theorem dX3_share_4 : decode cX3_share 4 = .ok (.iload_n 1, 1) := by decide +kernel
theorem dX3_share_5 : decode cX3_share 5 = .ok (.invokevirtual 79, 3) := by decide +kernel
theorem dX3_share_8 : decode cX3_share 8 = .ok (.ifCond .ne 5, 3) := by decide +kernel
theorem dX3_share_11 : decode cX3_share 11 = .ok (.iconst (-1), 1) := by decide +kernel
theorem dX3_share_12 : decode cX3_share 12 = .ok (.ireturn, 1) := by decide +kernel
theorem dX3_share_13 : decode cX3_share 13 = .ok (.iconst 1, 1) := by decide +kernel
theorem dX3_share_14 : decode cX3_share 14 = .ok (.iload_n 1, 1) := by decide +kernel
theorem dX3_share_15 : decode cX3_share 15 = .ok (.ishl, 1) := by decide +kernel
theorem dX3_share_16 : decode cX3_share 16 = .ok (.istore_n 3, 1) := by decide +kernel
theorem dX3_share_17 : decode cX3_share 17 = .ok (.lconst 0, 1) := by decide +kernel
theorem dX3_share_18 : decode cX3_share 18 = .ok (.lstore 4, 2) := by decide +kernel
theorem dX3_share_20 : decode cX3_share 20 = .ok (.iconst 0, 1) := by decide +kernel
theorem dX3_share_21 : decode cX3_share 21 = .ok (.istore 6, 2) := by decide +kernel
theorem dX3_share_23 : decode cX3_share 23 = .ok (.iload 6, 2) := by decide +kernel
theorem dX3_share_25 : decode cX3_share 25 = .ok (.aload_n 0, 1) := by decide +kernel
theorem dX3_share_26 : decode cX3_share 26 = .ok (.getfield 23, 3) := by decide +kernel
theorem dX3_share_29 : decode cX3_share 29 = .ok (.invokevirtual 169, 3) := by decide +kernel
theorem dX3_share_32 : decode cX3_share 32 = .ok (.if_icmp .gt 76, 3) := by decide +kernel
theorem dX3_share_35 : decode cX3_share 35 = .ok (.iload 6, 2) := by decide +kernel
theorem dX3_share_37 : decode cX3_share 37 = .ok (.iload_n 3, 1) := by decide +kernel
theorem dX3_share_38 : decode cX3_share 38 = .ok (.iand, 1) := by decide +kernel
theorem dX3_share_39 : decode cX3_share 39 = .ok (.ifCond .ne 63, 3) := by decide +kernel
theorem dX3_share_42 : decode cX3_share 42 = .ok (.iload 6, 2) := by decide +kernel
theorem dX3_share_44 : decode cX3_share 44 = .ok (.invokestatic 136, 3) := by decide +kernel
theorem dX3_share_47 : decode cX3_share 47 = .ok (.istore 7, 2) := by decide +kernel
theorem dX3_share_49 : decode cX3_share 49 = .ok (.iload 7, 2) := by decide +kernel
theorem dX3_share_51 : decode cX3_share 51 = .ok (.invokestatic 193, 3) := by decide +kernel
theorem dX3_share_54 : decode cX3_share 54 = .ok (.aload_n 0, 1) := by decide +kernel
theorem dX3_share_55 : decode cX3_share 55 = .ok (.getfield 23, 3) := by decide +kernel
theorem dX3_share_58 : decode cX3_share 58 = .ok (.getfield 73, 3) := by decide +kernel
theorem dX3_share_61 : decode cX3_share 61 = .ok (.iconst 1, 1) := by decide +kernel
theorem dX3_share_62 : decode cX3_share 62 = .ok (.isub, 1) := by decide +kernel
theorem dX3_share_63 : decode cX3_share 63 = .ok (.iload 7, 2) := by decide +kernel
theorem dX3_share_65 : decode cX3_share 65 = .ok (.isub, 1) := by decide +kernel
theorem dX3_share_66 : decode cX3_share 66 = .ok (.invokestatic 193, 3) := by decide +kernel
theorem dX3_share_69 : decode cX3_share 69 = .ok (.lmul, 1) := by decide +kernel
theorem dX3_share_70 : decode cX3_share 70 = .ok (.lstore 8, 2) := by decide +kernel
theorem dX3_share_72 : decode cX3_share 72 = .ok (.lload 4, 2) := by decide +kernel
theorem dX3_share_74 : decode cX3_share 74 = .ok (.lload 8, 2) := by decide +kernel
theorem dX3_share_76 : decode cX3_share 76 = .ok (.aload_n 0, 1) := by decide +kernel
theorem dX3_share_77 : decode cX3_share 77 = .ok (.getfield 23, 3) := by decide +kernel
theorem dX3_share_80 : decode cX3_share 80 = .ok (.iload 6, 2) := by decide +kernel
theorem dX3_share_82 : decode cX3_share 82 = .ok (.iload_n 3, 1) := by decide +kernel
theorem dX3_share_83 : decode cX3_share 83 = .ok (.ior, 1) := by decide +kernel
theorem dX3_share_84 : decode cX3_share 84 = .ok (.invokevirtual 197, 3) := by decide +kernel
theorem dX3_share_87 : decode cX3_share 87 = .ok (.aload_n 0, 1) := by decide +kernel
theorem dX3_share_88 : decode cX3_share 88 = .ok (.getfield 23, 3) := by decide +kernel
theorem dX3_share_91 : decode cX3_share 91 = .ok (.iload 6, 2) := by decide +kernel
theorem dX3_share_93 : decode cX3_share 93 = .ok (.invokevirtual 197, 3) := by decide +kernel
theorem dX3_share_96 : decode cX3_share 96 = .ok (.isub, 1) := by decide +kernel
theorem dX3_share_97 : decode cX3_share 97 = .ok (.i2l, 1) := by decide +kernel
theorem dX3_share_98 : decode cX3_share 98 = .ok (.lmul, 1) := by decide +kernel
theorem dX3_share_99 : decode cX3_share 99 = .ok (.ladd, 1) := by decide +kernel
theorem dX3_share_100 : decode cX3_share 100 = .ok (.lstore 4, 2) := by decide +kernel
theorem dX3_share_102 : decode cX3_share 102 = .ok (.iinc 6 1, 3) := by decide +kernel
theorem dX3_share_105 : decode cX3_share 105 = .ok (.goto (-82), 3) := by decide +kernel
theorem dX3_share_108 : decode cX3_share 108 = .ok (.lload 4, 2) := by decide +kernel
theorem dX3_share_110 : decode cX3_share 110 = .ok (.aload_n 0, 1) := by decide +kernel
theorem dX3_share_111 : decode cX3_share 111 = .ok (.getfield 23, 3) := by decide +kernel
theorem dX3_share_114 : decode cX3_share 114 = .ok (.getfield 73, 3) := by decide +kernel
theorem dX3_share_117 : decode cX3_share 117 = .ok (.invokestatic 193, 3) := by decide +kernel
theorem dX3_share_120 : decode cX3_share 120 = .ok (.iload_n 2, 1) := by decide +kernel
theorem dX3_share_121 : decode cX3_share 121 = .ok (.invokestatic 200, 3) := by decide +kernel
theorem dX3_share_124 : decode cX3_share 124 = .ok (.ireturn, 1) := by decide +kernel
theorem dX3_rests_0 : decode cX3_rests 0 = .ok (.aload_n 0, 1) := by decide +kernel
theorem dX3_rests_1 : decode cX3_rests 1 = .ok (.getfield 23, 3) := by decide +kernel
theorem dX3_rests_4 : decode cX3_rests 4 = .ok (.iload_n 1, 1) := by decide +kernel
theorem dX3_rests_5 : decode cX3_rests 5 = .ok (.invokevirtual 108, 3) := by decide +kernel
theorem dX3_rests_8 : decode cX3_rests 8 = .ok (.ifCond .eq 25, 3) := by decide +kernel
theorem dX3_rests_11 : decode cX3_rests 11 = .ok (.aload_n 0, 1) := by decide +kernel
theorem dX3_rests_12 : decode cX3_rests 12 = .ok (.getfield 23, 3) := by decide +kernel
theorem dX3_rests_15 : decode cX3_rests 15 = .ok (.iload_n 2, 1) := by decide +kernel
theorem dX3_rests_16 : decode cX3_rests 16 = .ok (.invokevirtual 108, 3) := by decide +kernel
theorem dX3_rests_19 : decode cX3_rests 19 = .ok (.ifCond .eq 14, 3) := by decide +kernel
theorem dX3_rests_22 : decode cX3_rests 22 = .ok (.aload_n 0, 1) := by decide +kernel
theorem dX3_rests_23 : decode cX3_rests 23 = .ok (.getfield 23, 3) := by decide +kernel
theorem dX3_rests_26 : decode cX3_rests 26 = .ok (.iload_n 3, 1) := by decide +kernel
theorem dX3_rests_27 : decode cX3_rests 27 = .ok (.invokevirtual 79, 3) := by decide +kernel
theorem dX3_rests_30 : decode cX3_rests 30 = .ok (.ifCond .ne 5, 3) := by decide +kernel
theorem dX3_rests_33 : decode cX3_rests 33 = .ok (.iconst (-1), 1) := by decide +kernel
theorem dX3_rests_34 : decode cX3_rests 34 = .ok (.ireturn, 1) := by decide +kernel
theorem dX3_rests_35 : decode cX3_rests 35 = .ok (.iload_n 1, 1) := by decide +kernel
theorem dX3_rests_36 : decode cX3_rests 36 = .ok (.iload_n 2, 1) := by decide +kernel
theorem dX3_rests_37 : decode cX3_rests 37 = .ok (.if_icmp .eq 14, 3) := by decide +kernel
theorem dX3_rests_40 : decode cX3_rests 40 = .ok (.iload 4, 2) := by decide +kernel
theorem dX3_rests_42 : decode cX3_rests 42 = .ok (.ifCond .lt 9, 3) := by decide +kernel
theorem dX3_rests_45 : decode cX3_rests 45 = .ok (.iload 4, 2) := by decide +kernel
theorem dX3_rests_47 : decode cX3_rests 47 = .ok (.iconst 1, 1) := by decide +kernel
theorem dX3_rests_48 : decode cX3_rests 48 = .ok (.if_icmp .le 6, 3) := by decide +kernel
theorem dX3_rests_51 : decode cX3_rests 51 = .ok (.bipush (-2), 2) := by decide +kernel
theorem dX3_rests_53 : decode cX3_rests 53 = .ok (.ireturn, 1) := by decide +kernel
theorem dX3_rests_54 : decode cX3_rests 54 = .ok (.aload_n 0, 1) := by decide +kernel
theorem dX3_rests_55 : decode cX3_rests 55 = .ok (.getfield 23, 3) := by decide +kernel
theorem dX3_rests_58 : decode cX3_rests 58 = .ok (.getfield 123, 3) := by decide +kernel
theorem dX3_rests_61 : decode cX3_rests 61 = .ok (.iload_n 1, 1) := by decide +kernel
theorem dX3_rests_62 : decode cX3_rests 62 = .ok (.iaload, 1) := by decide +kernel
theorem dX3_rests_63 : decode cX3_rests 63 = .ok (.ifCond .ne 15, 3) := by decide +kernel
theorem dX3_rests_66 : decode cX3_rests 66 = .ok (.aload_n 0, 1) := by decide +kernel
theorem dX3_rests_67 : decode cX3_rests 67 = .ok (.getfield 23, 3) := by decide +kernel
theorem dX3_rests_70 : decode cX3_rests 70 = .ok (.getfield 123, 3) := by decide +kernel
theorem dX3_rests_73 : decode cX3_rests 73 = .ok (.iload_n 2, 1) := by decide +kernel
theorem dX3_rests_74 : decode cX3_rests 74 = .ok (.iaload, 1) := by decide +kernel
theorem dX3_rests_75 : decode cX3_rests 75 = .ok (.ifCond .eq 6, 3) := by decide +kernel
theorem dX3_rests_78 : decode cX3_rests 78 = .ok (.bipush (-3), 2) := by decide +kernel
theorem dX3_rests_80 : decode cX3_rests 80 = .ok (.ireturn, 1) := by decide +kernel
theorem dX3_rests_81 : decode cX3_rests 81 = .ok (.aload_n 0, 1) := by decide +kernel
theorem dX3_rests_82 : decode cX3_rests 82 = .ok (.getfield 23, 3) := by decide +kernel
theorem dX3_rests_85 : decode cX3_rests 85 = .ok (.iload_n 3, 1) := by decide +kernel
theorem dX3_rests_86 : decode cX3_rests 86 = .ok (.invokevirtual 96, 3) := by decide +kernel
theorem dX3_rests_89 : decode cX3_rests 89 = .ok (.aload_n 0, 1) := by decide +kernel
theorem dX3_rests_90 : decode cX3_rests 90 = .ok (.getfield 23, 3) := by decide +kernel
theorem dX3_rests_93 : decode cX3_rests 93 = .ok (.getfield 111, 3) := by decide +kernel
theorem dX3_rests_96 : decode cX3_rests 96 = .ok (.iload_n 1, 1) := by decide +kernel
theorem dX3_rests_97 : decode cX3_rests 97 = .ok (.iaload, 1) := by decide +kernel
theorem dX3_rests_98 : decode cX3_rests 98 = .ok (.iconst 3, 1) := by decide +kernel
theorem dX3_rests_99 : decode cX3_rests 99 = .ok (.idiv, 1) := by decide +kernel
theorem dX3_rests_100 : decode cX3_rests 100 = .ok (.isub, 1) := by decide +kernel
theorem dX3_rests_101 : decode cX3_rests 101 = .ok (.istore 5, 2) := by decide +kernel
theorem dX3_rests_103 : decode cX3_rests 103 = .ok (.aload_n 0, 1) := by decide +kernel
theorem dX3_rests_104 : decode cX3_rests 104 = .ok (.getfield 23, 3) := by decide +kernel
theorem dX3_rests_107 : decode cX3_rests 107 = .ok (.iload_n 3, 1) := by decide +kernel
theorem dX3_rests_108 : decode cX3_rests 108 = .ok (.invokevirtual 96, 3) := by decide +kernel
theorem dX3_rests_111 : decode cX3_rests 111 = .ok (.aload_n 0, 1) := by decide +kernel
theorem dX3_rests_112 : decode cX3_rests 112 = .ok (.getfield 23, 3) := by decide +kernel
theorem dX3_rests_115 : decode cX3_rests 115 = .ok (.getfield 111, 3) := by decide +kernel
theorem dX3_rests_118 : decode cX3_rests 118 = .ok (.iload_n 2, 1) := by decide +kernel
theorem dX3_rests_119 : decode cX3_rests 119 = .ok (.iaload, 1) := by decide +kernel
theorem dX3_rests_120 : decode cX3_rests 120 = .ok (.iconst 3, 1) := by decide +kernel
theorem dX3_rests_121 : decode cX3_rests 121 = .ok (.idiv, 1) := by decide +kernel
theorem dX3_rests_122 : decode cX3_rests 122 = .ok (.isub, 1) := by decide +kernel
theorem dX3_rests_123 : decode cX3_rests 123 = .ok (.istore 6, 2) := by decide +kernel
theorem dX3_rests_125 : decode cX3_rests 125 = .ok (.iconst 0, 1) := by decide +kernel
theorem dX3_rests_126 : decode cX3_rests 126 = .ok (.istore 7, 2) := by decide +kernel
theorem dX3_rests_128 : decode cX3_rests 128 = .ok (.bipush (-9), 2) := by decide +kernel
theorem dX3_rests_130 : decode cX3_rests 130 = .ok (.istore 8, 2) := by decide +kernel
theorem dX3_rests_132 : decode cX3_rests 132 = .ok (.iconst 0, 1) := by decide +kernel
end
section
theorem dX3_rests_133 : decode cX3_rests 133 = .ok (.istore 9, 2) := by decide +kernel
theorem dX3_rests_135 : decode cX3_rests 135 = .ok (.iload 9, 2) := by decide +kernel
theorem dX3_rests_137 : decode cX3_rests 137 = .ok (.iconst 4, 1) := by decide +kernel
theorem dX3_rests_138 : decode cX3_rests 138 = .ok (.if_icmp .ge 68, 3) := by decide +kernel
theorem dX3_rests_141 : decode cX3_rests 141 = .ok (.iload 9, 2) := by decide +kernel
theorem dX3_rests_143 : decode cX3_rests 143 = .ok (.iconst 2, 1) := by decide +kernel
theorem dX3_rests_144 : decode cX3_rests 144 = .ok (.idiv, 1) := by decide +kernel
theorem dX3_rests_145 : decode cX3_rests 145 = .ok (.istore 10, 2) := by decide +kernel
theorem dX3_rests_147 : decode cX3_rests 147 = .ok (.iload 9, 2) := by decide +kernel
theorem dX3_rests_149 : decode cX3_rests 149 = .ok (.iconst 2, 1) := by decide +kernel
theorem dX3_rests_150 : decode cX3_rests 150 = .ok (.irem, 1) := by decide +kernel
theorem dX3_rests_151 : decode cX3_rests 151 = .ok (.istore 11, 2) := by decide +kernel
theorem dX3_rests_153 : decode cX3_rests 153 = .ok (.iload 5, 2) := by decide +kernel
theorem dX3_rests_155 : decode cX3_rests 155 = .ok (.iload 10, 2) := by decide +kernel
theorem dX3_rests_157 : decode cX3_rests 157 = .ok (.iload 11, 2) := by decide +kernel
theorem dX3_rests_159 : decode cX3_rests 159 = .ok (.invokestatic 204, 3) := by decide +kernel
theorem dX3_rests_162 : decode cX3_rests 162 = .ok (.ifCond .eq 38, 3) := by decide +kernel
theorem dX3_rests_165 : decode cX3_rests 165 = .ok (.iload 6, 2) := by decide +kernel
theorem dX3_rests_167 : decode cX3_rests 167 = .ok (.iload 11, 2) := by decide +kernel
theorem dX3_rests_169 : decode cX3_rests 169 = .ok (.iload 10, 2) := by decide +kernel
theorem dX3_rests_171 : decode cX3_rests 171 = .ok (.invokestatic 204, 3) := by decide +kernel
theorem dX3_rests_174 : decode cX3_rests 174 = .ok (.ifCond .eq 26, 3) := by decide +kernel
theorem dX3_rests_177 : decode cX3_rests 177 = .ok (.iload 7, 2) := by decide +kernel
theorem dX3_rests_179 : decode cX3_rests 179 = .ok (.ifCond .ne 14, 3) := by decide +kernel
theorem dX3_rests_182 : decode cX3_rests 182 = .ok (.bipush 10, 2) := by decide +kernel
theorem dX3_rests_184 : decode cX3_rests 184 = .ok (.iload 10, 2) := by decide +kernel
theorem dX3_rests_186 : decode cX3_rests 186 = .ok (.imul, 1) := by decide +kernel
theorem dX3_rests_187 : decode cX3_rests 187 = .ok (.iload 11, 2) := by decide +kernel
theorem dX3_rests_189 : decode cX3_rests 189 = .ok (.iadd, 1) := by decide +kernel
theorem dX3_rests_190 : decode cX3_rests 190 = .ok (.goto 5, 3) := by decide +kernel
theorem dX3_rests_193 : decode cX3_rests 193 = .ok (.iload 8, 2) := by decide +kernel
theorem dX3_rests_195 : decode cX3_rests 195 = .ok (.istore 8, 2) := by decide +kernel
theorem dX3_rests_197 : decode cX3_rests 197 = .ok (.iinc 7 1, 3) := by decide +kernel
theorem dX3_rests_200 : decode cX3_rests 200 = .ok (.iinc 9 1, 3) := by decide +kernel
theorem dX3_rests_203 : decode cX3_rests 203 = .ok (.goto (-68), 3) := by decide +kernel
theorem dX3_rests_206 : decode cX3_rests 206 = .ok (.iload 4, 2) := by decide +kernel
theorem dX3_rests_208 : decode cX3_rests 208 = .ok (.ifCond .ne 8, 3) := by decide +kernel
theorem dX3_rests_211 : decode cX3_rests 211 = .ok (.iload 7, 2) := by decide +kernel
theorem dX3_rests_213 : decode cX3_rests 213 = .ok (.goto 5, 3) := by decide +kernel
theorem dX3_rests_216 : decode cX3_rests 216 = .ok (.iload 8, 2) := by decide +kernel
theorem dX3_rests_218 : decode cX3_rests 218 = .ok (.ireturn, 1) := by decide +kernel
theorem dX3_born_0 : decode cX3_born 0 = .ok (.iload_n 1, 1) := by decide +kernel
theorem dX3_born_1 : decode cX3_born 1 = .ok (.ifCond .lt 19, 3) := by decide +kernel
theorem dX3_born_4 : decode cX3_born 4 = .ok (.iload_n 1, 1) := by decide +kernel
theorem dX3_born_5 : decode cX3_born 5 = .ok (.bipush 9, 2) := by decide +kernel
theorem dX3_born_7 : decode cX3_born 7 = .ok (.if_icmp .gt 13, 3) := by decide +kernel
theorem dX3_born_10 : decode cX3_born 10 = .ok (.iload_n 2, 1) := by decide +kernel
theorem dX3_born_11 : decode cX3_born 11 = .ok (.ifCond .lt 9, 3) := by decide +kernel
theorem dX3_born_14 : decode cX3_born 14 = .ok (.iload_n 2, 1) := by decide +kernel
theorem dX3_born_15 : decode cX3_born 15 = .ok (.bipush 10, 2) := by decide +kernel
theorem dX3_born_17 : decode cX3_born 17 = .ok (.if_icmp .le 6, 3) := by decide +kernel
theorem dX3_born_20 : decode cX3_born 20 = .ok (.bipush (-2), 2) := by decide +kernel
theorem dX3_born_22 : decode cX3_born 22 = .ok (.ireturn, 1) := by decide +kernel
theorem dX3_born_23 : decode cX3_born 23 = .ok (.aload_n 0, 1) := by decide +kernel
theorem dX3_born_24 : decode cX3_born 24 = .ok (.getfield 23, 3) := by decide +kernel
theorem dX3_born_27 : decode cX3_born 27 = .ok (.invokevirtual 208, 3) := by decide +kernel
theorem dX3_born_30 : decode cX3_born 30 = .ok (.istore 4, 2) := by decide +kernel
theorem dX3_born_32 : decode cX3_born 32 = .ok (.iload_n 1, 1) := by decide +kernel
theorem dX3_born_33 : decode cX3_born 33 = .ok (.iload 4, 2) := by decide +kernel
theorem dX3_born_35 : decode cX3_born 35 = .ok (.if_icmp .le 10, 3) := by decide +kernel
theorem dX3_born_38 : decode cX3_born 38 = .ok (.lconst 0, 1) := by decide +kernel
theorem dX3_born_39 : decode cX3_born 39 = .ok (.lconst 1, 1) := by decide +kernel
theorem dX3_born_40 : decode cX3_born 40 = .ok (.iload_n 3, 1) := by decide +kernel
theorem dX3_born_41 : decode cX3_born 41 = .ok (.invokestatic 200, 3) := by decide +kernel
theorem dX3_born_44 : decode cX3_born 44 = .ok (.ireturn, 1) := by decide +kernel
theorem dX3_born_45 : decode cX3_born 45 = .ok (.iload 4, 2) := by decide +kernel
theorem dX3_born_47 : decode cX3_born 47 = .ok (.iload_n 1, 1) := by decide +kernel
theorem dX3_born_48 : decode cX3_born 48 = .ok (.invokestatic 211, 3) := by decide +kernel
theorem dX3_born_51 : decode cX3_born 51 = .ok (.iload_n 2, 1) := by decide +kernel
theorem dX3_born_52 : decode cX3_born 52 = .ok (.iload_n 1, 1) := by decide +kernel
theorem dX3_born_53 : decode cX3_born 53 = .ok (.invokestatic 215, 3) := by decide +kernel
theorem dX3_born_56 : decode cX3_born 56 = .ok (.lmul, 1) := by decide +kernel
theorem dX3_born_57 : decode cX3_born 57 = .ok (.bipush 10, 2) := by decide +kernel
theorem dX3_born_59 : decode cX3_born 59 = .ok (.iload_n 2, 1) := by decide +kernel
theorem dX3_born_60 : decode cX3_born 60 = .ok (.isub, 1) := by decide +kernel
theorem dX3_born_61 : decode cX3_born 61 = .ok (.iload 4, 2) := by decide +kernel
theorem dX3_born_63 : decode cX3_born 63 = .ok (.iload_n 1, 1) := by decide +kernel
theorem dX3_born_64 : decode cX3_born 64 = .ok (.isub, 1) := by decide +kernel
theorem dX3_born_65 : decode cX3_born 65 = .ok (.invokestatic 215, 3) := by decide +kernel
theorem dX3_born_68 : decode cX3_born 68 = .ok (.lmul, 1) := by decide +kernel
theorem dX3_born_69 : decode cX3_born 69 = .ok (.lstore 5, 2) := by decide +kernel
theorem dX3_born_71 : decode cX3_born 71 = .ok (.lload 5, 2) := by decide +kernel
theorem dX3_born_73 : decode cX3_born 73 = .ok (.bipush 10, 2) := by decide +kernel
theorem dX3_born_75 : decode cX3_born 75 = .ok (.iload 4, 2) := by decide +kernel
theorem dX3_born_77 : decode cX3_born 77 = .ok (.invokestatic 215, 3) := by decide +kernel
theorem dX3_born_80 : decode cX3_born 80 = .ok (.iload_n 3, 1) := by decide +kernel
theorem dX3_born_81 : decode cX3_born 81 = .ok (.invokestatic 200, 3) := by decide +kernel
theorem dX3_born_84 : decode cX3_born 84 = .ok (.ireturn, 1) := by decide +kernel
theorem dX3_seed_0 : decode cX3_seed 0 = .ok (.aload_n 0, 1) := by decide +kernel
theorem dX3_seed_1 : decode cX3_seed 1 = .ok (.getfield 218, 3) := by decide +kernel
theorem dX3_seed_4 : decode cX3_seed 4 = .ok (.lstore_n 3, 1) := by decide +kernel
theorem dX3_seed_5 : decode cX3_seed 5 = .ok (.aload_n 0, 1) := by decide +kernel
theorem dX3_seed_6 : decode cX3_seed 6 = .ok (.lload_n 1, 1) := by decide +kernel
theorem dX3_seed_7 : decode cX3_seed 7 = .ok (.putfield 218, 3) := by decide +kernel
theorem dX3_seed_10 : decode cX3_seed 10 = .ok (.lload_n 3, 1) := by decide +kernel
theorem dX3_seed_11 : decode cX3_seed 11 = .ok (.lreturn, 1) := by decide +kernel
theorem dX3_years_0 : decode cX3_years 0 = .ok (.iload_n 1, 1) := by decide +kernel
theorem dX3_years_1 : decode cX3_years 1 = .ok (.iconst 1, 1) := by decide +kernel
theorem dX3_years_2 : decode cX3_years 2 = .ok (.if_icmp .lt 9, 3) := by decide +kernel
theorem dX3_years_5 : decode cX3_years 5 = .ok (.iload_n 1, 1) := by decide +kernel
theorem dX3_years_6 : decode cX3_years 6 = .ok (.bipush 30, 2) := by decide +kernel
theorem dX3_years_8 : decode cX3_years 8 = .ok (.if_icmp .le 6, 3) := by decide +kernel
theorem dX3_years_11 : decode cX3_years 11 = .ok (.bipush (-2), 2) := by decide +kernel
theorem dX3_years_13 : decode cX3_years 13 = .ok (.ireturn, 1) := by decide +kernel
theorem dX3_years_14 : decode cX3_years 14 = .ok (.aload_n 0, 1) := by decide +kernel
theorem dX3_years_15 : decode cX3_years 15 = .ok (.getfield 27, 3) := by decide +kernel
theorem dX3_years_18 : decode cX3_years 18 = .ok (.aload_n 0, 1) := by decide +kernel
theorem dX3_years_19 : decode cX3_years 19 = .ok (.getfield 23, 3) := by decide +kernel
theorem dX3_years_22 : decode cX3_years 22 = .ok (.invokevirtual 66, 3) := by decide +kernel
theorem dX3_years_25 : decode cX3_years 25 = .ok (.iconst 0, 1) := by decide +kernel
theorem dX3_years_26 : decode cX3_years 26 = .ok (.istore_n 2, 1) := by decide +kernel
theorem dX3_years_27 : decode cX3_years 27 = .ok (.iconst 0, 1) := by decide +kernel
theorem dX3_years_28 : decode cX3_years 28 = .ok (.istore_n 3, 1) := by decide +kernel
theorem dX3_years_29 : decode cX3_years 29 = .ok (.iload_n 3, 1) := by decide +kernel
theorem dX3_years_30 : decode cX3_years 30 = .ok (.iload_n 1, 1) := by decide +kernel
theorem dX3_years_31 : decode cX3_years 31 = .ok (.if_icmp .ge 54, 3) := by decide +kernel
theorem dX3_years_34 : decode cX3_years 34 = .ok (.aload_n 0, 1) := by decide +kernel
theorem dX3_years_35 : decode cX3_years 35 = .ok (.aload_n 0, 1) := by decide +kernel
theorem dX3_years_36 : decode cX3_years 36 = .ok (.getfield 218, 3) := by decide +kernel
theorem dX3_years_39 : decode cX3_years 39 = .ok (.ldc2_w 222, 3) := by decide +kernel
theorem dX3_years_42 : decode cX3_years 42 = .ok (.lmul, 1) := by decide +kernel
theorem dX3_years_43 : decode cX3_years 43 = .ok (.ldc2_w 224, 3) := by decide +kernel
theorem dX3_years_46 : decode cX3_years 46 = .ok (.ladd, 1) := by decide +kernel
theorem dX3_years_47 : decode cX3_years 47 = .ok (.putfield 218, 3) := by decide +kernel
theorem dX3_years_50 : decode cX3_years 50 = .ok (.aload_n 0, 1) := by decide +kernel
theorem dX3_years_51 : decode cX3_years 51 = .ok (.aload_n 0, 1) := by decide +kernel
theorem dX3_years_52 : decode cX3_years 52 = .ok (.getfield 218, 3) := by decide +kernel
theorem dX3_years_55 : decode cX3_years 55 = .ok (.bipush 33, 2) := by decide +kernel
theorem dX3_years_57 : decode cX3_years 57 = .ok (.lushr, 1) := by decide +kernel
theorem dX3_years_58 : decode cX3_years 58 = .ok (.ldc2_w 226, 3) := by decide +kernel
theorem dX3_years_61 : decode cX3_years 61 = .ok (.lrem, 1) := by decide +kernel
theorem dX3_years_62 : decode cX3_years 62 = .ok (.l2i, 1) := by decide +kernel
theorem dX3_years_63 : decode cX3_years 63 = .ok (.invokevirtual 228, 3) := by decide +kernel
theorem dX3_years_66 : decode cX3_years 66 = .ok (.iload_n 2, 1) := by decide +kernel
theorem dX3_years_67 : decode cX3_years 67 = .ok (.aload_n 0, 1) := by decide +kernel
theorem dX3_years_68 : decode cX3_years 68 = .ok (.getfield 27, 3) := by decide +kernel
theorem dX3_years_71 : decode cX3_years 71 = .ok (.invokevirtual 132, 3) := by decide +kernel
theorem dX3_years_74 : decode cX3_years 74 = .ok (.invokestatic 136, 3) := by decide +kernel
theorem dX3_years_77 : decode cX3_years 77 = .ok (.iadd, 1) := by decide +kernel
theorem dX3_years_78 : decode cX3_years 78 = .ok (.istore_n 2, 1) := by decide +kernel
theorem dX3_years_79 : decode cX3_years 79 = .ok (.iinc 3 1, 3) := by decide +kernel
theorem dX3_years_82 : decode cX3_years 82 = .ok (.goto (-53), 3) := by decide +kernel
theorem dX3_years_85 : decode cX3_years 85 = .ok (.iload_n 2, 1) := by decide +kernel
theorem dX3_years_86 : decode cX3_years 86 = .ok (.ireturn, 1) := by decide +kernel
theorem dX3_keep_0 : decode cX3_keep 0 = .ok (.iload_n 1, 1) := by decide +kernel
theorem dX3_keep_1 : decode cX3_keep 1 = .ok (.ifCond .lt 8, 3) := by decide +kernel
theorem dX3_keep_4 : decode cX3_keep 4 = .ok (.iload_n 1, 1) := by decide +kernel
theorem dX3_keep_5 : decode cX3_keep 5 = .ok (.iconst 2, 1) := by decide +kernel
theorem dX3_keep_6 : decode cX3_keep 6 = .ok (.if_icmp .lt 5, 3) := by decide +kernel
theorem dX3_keep_9 : decode cX3_keep 9 = .ok (.iconst (-1), 1) := by decide +kernel
theorem dX3_keep_10 : decode cX3_keep 10 = .ok (.ireturn, 1) := by decide +kernel
theorem dX3_keep_11 : decode cX3_keep 11 = .ok (.aload_n 0, 1) := by decide +kernel
theorem dX3_keep_12 : decode cX3_keep 12 = .ok (.getfield 39, 3) := by decide +kernel
theorem dX3_keep_15 : decode cX3_keep 15 = .ok (.iload_n 1, 1) := by decide +kernel
theorem dX3_keep_16 : decode cX3_keep 16 = .ok (.aload_n 0, 1) := by decide +kernel
theorem dX3_keep_17 : decode cX3_keep 17 = .ok (.getfield 23, 3) := by decide +kernel
theorem dX3_keep_20 : decode cX3_keep 20 = .ok (.invokevirtual 231, 3) := by decide +kernel
theorem dX3_keep_23 : decode cX3_keep 23 = .ok (.aload_n 0, 1) := by decide +kernel
theorem dX3_keep_24 : decode cX3_keep 24 = .ok (.getfield 42, 3) := by decide +kernel
theorem dX3_keep_27 : decode cX3_keep 27 = .ok (.iload_n 1, 1) := by decide +kernel
theorem dX3_keep_28 : decode cX3_keep 28 = .ok (.iconst 1, 1) := by decide +kernel
theorem dX3_keep_29 : decode cX3_keep 29 = .ok (.bastore, 1) := by decide +kernel
theorem dX3_keep_30 : decode cX3_keep 30 = .ok (.aload_n 0, 1) := by decide +kernel
theorem dX3_keep_31 : decode cX3_keep 31 = .ok (.getfield 23, 3) := by decide +kernel
theorem dX3_keep_34 : decode cX3_keep 34 = .ok (.getfield 234, 3) := by decide +kernel
theorem dX3_keep_37 : decode cX3_keep 37 = .ok (.ireturn, 1) := by decide +kernel
theorem dX3_again_0 : decode cX3_again 0 = .ok (.iload_n 1, 1) := by decide +kernel
theorem dX3_again_1 : decode cX3_again 1 = .ok (.ifCond .lt 8, 3) := by decide +kernel
theorem dX3_again_4 : decode cX3_again 4 = .ok (.iload_n 1, 1) := by decide +kernel
theorem dX3_again_5 : decode cX3_again 5 = .ok (.iconst 2, 1) := by decide +kernel
theorem dX3_again_6 : decode cX3_again 6 = .ok (.if_icmp .lt 5, 3) := by decide +kernel
theorem dX3_again_9 : decode cX3_again 9 = .ok (.iconst (-1), 1) := by decide +kernel
theorem dX3_again_10 : decode cX3_again 10 = .ok (.ireturn, 1) := by decide +kernel
theorem dX3_again_11 : decode cX3_again 11 = .ok (.aload_n 0, 1) := by decide +kernel
theorem dX3_again_12 : decode cX3_again 12 = .ok (.getfield 42, 3) := by decide +kernel
theorem dX3_again_15 : decode cX3_again 15 = .ok (.iload_n 1, 1) := by decide +kernel
theorem dX3_again_16 : decode cX3_again 16 = .ok (.baload, 1) := by decide +kernel
theorem dX3_again_17 : decode cX3_again 17 = .ok (.ifCond .ne 6, 3) := by decide +kernel
theorem dX3_again_20 : decode cX3_again 20 = .ok (.bipush (-3), 2) := by decide +kernel
theorem dX3_again_22 : decode cX3_again 22 = .ok (.ireturn, 1) := by decide +kernel
theorem dX3_again_23 : decode cX3_again 23 = .ok (.aload_n 0, 1) := by decide +kernel
theorem dX3_again_24 : decode cX3_again 24 = .ok (.getfield 39, 3) := by decide +kernel
theorem dX3_again_27 : decode cX3_again 27 = .ok (.iload_n 1, 1) := by decide +kernel
theorem dX3_again_28 : decode cX3_again 28 = .ok (.aload_n 0, 1) := by decide +kernel
theorem dX3_again_29 : decode cX3_again 29 = .ok (.getfield 23, 3) := by decide +kernel
theorem dX3_again_32 : decode cX3_again 32 = .ok (.invokevirtual 165, 3) := by decide +kernel
theorem dX3_again_35 : decode cX3_again 35 = .ok (.aload_n 0, 1) := by decide +kernel
theorem dX3_again_36 : decode cX3_again 36 = .ok (.iconst 0, 1) := by decide +kernel
theorem dX3_again_37 : decode cX3_again 37 = .ok (.putfield 70, 3) := by decide +kernel
theorem dX3_again_40 : decode cX3_again 40 = .ok (.aload_n 0, 1) := by decide +kernel
theorem dX3_again_41 : decode cX3_again 41 = .ok (.getfield 23, 3) := by decide +kernel
theorem dX3_again_44 : decode cX3_again 44 = .ok (.getfield 234, 3) := by decide +kernel
theorem dX3_again_47 : decode cX3_again 47 = .ok (.ireturn, 1) := by decide +kernel
theorem dX3_count_0 : decode cX3_count 0 = .ok (.iload_n 1, 1) := by decide +kernel
theorem dX3_count_1 : decode cX3_count 1 = .ok (.tableswitch 148 0 10 #[59, 64, 72, 80, 88, 104, 112, 120, 129, 138, 143], 59) := by decide +kernel
theorem dX3_count_60 : decode cX3_count 60 = .ok (.aload_n 0, 1) := by decide +kernel
theorem dX3_count_61 : decode cX3_count 61 = .ok (.getfield 58, 3) := by decide +kernel
theorem dX3_count_64 : decode cX3_count 64 = .ok (.ireturn, 1) := by decide +kernel
theorem dX3_count_65 : decode cX3_count 65 = .ok (.aload_n 0, 1) := by decide +kernel
theorem dX3_count_66 : decode cX3_count 66 = .ok (.getfield 23, 3) := by decide +kernel
theorem dX3_count_69 : decode cX3_count 69 = .ok (.getfield 73, 3) := by decide +kernel
theorem dX3_count_72 : decode cX3_count 72 = .ok (.ireturn, 1) := by decide +kernel
theorem dX3_count_73 : decode cX3_count 73 = .ok (.aload_n 0, 1) := by decide +kernel
theorem dX3_count_74 : decode cX3_count 74 = .ok (.getfield 23, 3) := by decide +kernel
theorem dX3_count_77 : decode cX3_count 77 = .ok (.getfield 76, 3) := by decide +kernel
theorem dX3_count_80 : decode cX3_count 80 = .ok (.ireturn, 1) := by decide +kernel
theorem dX3_count_81 : decode cX3_count 81 = .ok (.aload_n 0, 1) := by decide +kernel
theorem dX3_count_82 : decode cX3_count 82 = .ok (.getfield 23, 3) := by decide +kernel
theorem dX3_count_85 : decode cX3_count 85 = .ok (.getfield 234, 3) := by decide +kernel
theorem dX3_count_88 : decode cX3_count 88 = .ok (.ireturn, 1) := by decide +kernel
theorem dX3_count_89 : decode cX3_count 89 = .ok (.aload_n 0, 1) := by decide +kernel
theorem dX3_count_90 : decode cX3_count 90 = .ok (.getfield 23, 3) := by decide +kernel
theorem dX3_count_93 : decode cX3_count 93 = .ok (.getfield 161, 3) := by decide +kernel
theorem dX3_count_96 : decode cX3_count 96 = .ok (.ifCond .eq 7, 3) := by decide +kernel
theorem dX3_count_99 : decode cX3_count 99 = .ok (.iconst 1, 1) := by decide +kernel
theorem dX3_count_100 : decode cX3_count 100 = .ok (.goto 4, 3) := by decide +kernel
theorem dX3_count_103 : decode cX3_count 103 = .ok (.iconst 0, 1) := by decide +kernel
theorem dX3_count_104 : decode cX3_count 104 = .ok (.ireturn, 1) := by decide +kernel
theorem dX3_count_105 : decode cX3_count 105 = .ok (.aload_n 0, 1) := by decide +kernel
theorem dX3_count_106 : decode cX3_count 106 = .ok (.getfield 23, 3) := by decide +kernel
theorem dX3_count_109 : decode cX3_count 109 = .ok (.invokevirtual 132, 3) := by decide +kernel
theorem dX3_count_112 : decode cX3_count 112 = .ok (.ireturn, 1) := by decide +kernel
theorem dX3_count_113 : decode cX3_count 113 = .ok (.aload_n 0, 1) := by decide +kernel
theorem dX3_count_114 : decode cX3_count 114 = .ok (.getfield 23, 3) := by decide +kernel
theorem dX3_count_117 : decode cX3_count 117 = .ok (.invokevirtual 237, 3) := by decide +kernel
theorem dX3_count_120 : decode cX3_count 120 = .ok (.ireturn, 1) := by decide +kernel
theorem dX3_count_121 : decode cX3_count 121 = .ok (.aload_n 0, 1) := by decide +kernel
theorem dX3_count_122 : decode cX3_count 122 = .ok (.getfield 23, 3) := by decide +kernel
theorem dX3_count_125 : decode cX3_count 125 = .ok (.iconst 2, 1) := by decide +kernel
theorem dX3_count_126 : decode cX3_count 126 = .ok (.invokevirtual 240, 3) := by decide +kernel
theorem dX3_count_129 : decode cX3_count 129 = .ok (.ireturn, 1) := by decide +kernel
theorem dX3_count_130 : decode cX3_count 130 = .ok (.aload_n 0, 1) := by decide +kernel
theorem dX3_count_131 : decode cX3_count 131 = .ok (.getfield 23, 3) := by decide +kernel
theorem dX3_count_134 : decode cX3_count 134 = .ok (.iconst 3, 1) := by decide +kernel
theorem dX3_count_135 : decode cX3_count 135 = .ok (.invokevirtual 240, 3) := by decide +kernel
theorem dX3_count_138 : decode cX3_count 138 = .ok (.ireturn, 1) := by decide +kernel
theorem dX3_count_139 : decode cX3_count 139 = .ok (.aload_n 0, 1) := by decide +kernel
theorem dX3_count_140 : decode cX3_count 140 = .ok (.getfield 70, 3) := by decide +kernel
theorem dX3_count_143 : decode cX3_count 143 = .ok (.ireturn, 1) := by decide +kernel
theorem dX3_count_144 : decode cX3_count 144 = .ok (.aload_n 0, 1) := by decide +kernel
theorem dX3_count_145 : decode cX3_count 145 = .ok (.getfield 187, 3) := by decide +kernel
theorem dX3_count_148 : decode cX3_count 148 = .ok (.ireturn, 1) := by decide +kernel
theorem dX3_count_149 : decode cX3_count 149 = .ok (.bipush (-2), 2) := by decide +kernel
theorem dX3_count_151 : decode cX3_count 151 = .ok (.ireturn, 1) := by decide +kernel
theorem dX3_readInto_0 : decode cX3_readInto 0 = .ok (.aload_n 1, 1) := by decide +kernel
theorem dX3_readInto_1 : decode cX3_readInto 1 = .ok (.invokevirtual 243, 3) := by decide +kernel
theorem dX3_readInto_4 : decode cX3_readInto 4 = .ok (.aload_n 0, 1) := by decide +kernel
theorem dX3_readInto_5 : decode cX3_readInto 5 = .ok (.getfield 16, 3) := by decide +kernel
theorem dX3_readInto_8 : decode cX3_readInto 8 = .ok (.invokevirtual 246, 3) := by decide +kernel
theorem dX3_readInto_11 : decode cX3_readInto 11 = .ok (.iconst 0, 1) := by decide +kernel
theorem dX3_readInto_12 : decode cX3_readInto 12 = .ok (.istore_n 2, 1) := by decide +kernel
theorem dX3_readInto_13 : decode cX3_readInto 13 = .ok (.iload_n 2, 1) := by decide +kernel
theorem dX3_readInto_14 : decode cX3_readInto 14 = .ok (.aload_n 0, 1) := by decide +kernel
theorem dX3_readInto_15 : decode cX3_readInto 15 = .ok (.getfield 58, 3) := by decide +kernel
theorem dX3_readInto_18 : decode cX3_readInto 18 = .ok (.if_icmp .ge 28, 3) := by decide +kernel
theorem dX3_readInto_21 : decode cX3_readInto 21 = .ok (.aload_n 0, 1) := by decide +kernel
theorem dX3_readInto_22 : decode cX3_readInto 22 = .ok (.getfield 16, 3) := by decide +kernel
theorem dX3_readInto_25 : decode cX3_readInto 25 = .ok (.aload_n 0, 1) := by decide +kernel
theorem dX3_readInto_26 : decode cX3_readInto 26 = .ok (.getfield 9, 3) := by decide +kernel
theorem dX3_readInto_29 : decode cX3_readInto 29 = .ok (.iload_n 2, 1) := by decide +kernel
theorem dX3_readInto_30 : decode cX3_readInto 30 = .ok (.iaload, 1) := by decide +kernel
theorem dX3_readInto_31 : decode cX3_readInto 31 = .ok (.aload_n 1, 1) := by decide +kernel
theorem dX3_readInto_32 : decode cX3_readInto 32 = .ok (.invokevirtual 249, 3) := by decide +kernel
theorem dX3_readInto_35 : decode cX3_readInto 35 = .ok (.ifCond .ne 5, 3) := by decide +kernel
theorem dX3_readInto_38 : decode cX3_readInto 38 = .ok (.iload_n 2, 1) := by decide +kernel
theorem dX3_readInto_39 : decode cX3_readInto 39 = .ok (.ireturn, 1) := by decide +kernel
theorem dX3_readInto_40 : decode cX3_readInto 40 = .ok (.iinc 2 1, 3) := by decide +kernel
theorem dX3_readInto_43 : decode cX3_readInto 43 = .ok (.goto (-30), 3) := by decide +kernel
theorem dX3_readInto_46 : decode cX3_readInto 46 = .ok (.aload_n 0, 1) := by decide +kernel
theorem dX3_readInto_47 : decode cX3_readInto 47 = .ok (.getfield 16, 3) := by decide +kernel
theorem dX3_readInto_50 : decode cX3_readInto 50 = .ok (.invokevirtual 253, 3) := by decide +kernel
theorem dX3_readInto_53 : decode cX3_readInto 53 = .ok (.ifCond .eq 8, 3) := by decide +kernel
theorem dX3_readInto_56 : decode cX3_readInto 56 = .ok (.bipush (-9), 2) := by decide +kernel
theorem dX3_readInto_58 : decode cX3_readInto 58 = .ok (.goto 7, 3) := by decide +kernel
theorem dX3_readInto_61 : decode cX3_readInto 61 = .ok (.aload_n 0, 1) := by decide +kernel
theorem dX3_readInto_62 : decode cX3_readInto 62 = .ok (.getfield 58, 3) := by decide +kernel
theorem dX3_readInto_65 : decode cX3_readInto 65 = .ok (.ireturn, 1) := by decide +kernel
theorem dX3_remember_0 : decode cX3_remember 0 = .ok (.aload_n 0, 1) := by decide +kernel
theorem dX3_remember_1 : decode cX3_remember 1 = .ok (.getfield 70, 3) := by decide +kernel
theorem dX3_remember_4 : decode cX3_remember 4 = .ok (.bipush 14, 2) := by decide +kernel
theorem dX3_remember_6 : decode cX3_remember 6 = .ok (.if_icmp .lt 16, 3) := by decide +kernel
theorem dX3_remember_9 : decode cX3_remember 9 = .ok (.aload_n 0, 1) := by decide +kernel
theorem dX3_remember_10 : decode cX3_remember 10 = .ok (.getfield 35, 3) := by decide +kernel
theorem dX3_remember_13 : decode cX3_remember 13 = .ok (.invokevirtual 257, 3) := by decide +kernel
theorem dX3_remember_16 : decode cX3_remember 16 = .ok (.aload_n 0, 1) := by decide +kernel
theorem dX3_remember_17 : decode cX3_remember 17 = .ok (.bipush 13, 2) := by decide +kernel
theorem dX3_remember_19 : decode cX3_remember 19 = .ok (.putfield 70, 3) := by decide +kernel
theorem dX3_remember_22 : decode cX3_remember 22 = .ok (.aload_n 0, 1) := by decide +kernel
theorem dX3_remember_23 : decode cX3_remember 23 = .ok (.getfield 35, 3) := by decide +kernel
theorem dX3_remember_26 : decode cX3_remember 26 = .ok (.aload_n 0, 1) := by decide +kernel
theorem dX3_remember_27 : decode cX3_remember 27 = .ok (.getfield 70, 3) := by decide +kernel
theorem dX3_remember_30 : decode cX3_remember 30 = .ok (.aload_n 0, 1) := by decide +kernel
theorem dX3_remember_31 : decode cX3_remember 31 = .ok (.getfield 23, 3) := by decide +kernel
theorem dX3_remember_34 : decode cX3_remember 34 = .ok (.invokevirtual 231, 3) := by decide +kernel
theorem dX3_remember_37 : decode cX3_remember 37 = .ok (.aload_n 0, 1) := by decide +kernel
theorem dX3_remember_38 : decode cX3_remember 38 = .ok (.dup, 1) := by decide +kernel
theorem dX3_remember_39 : decode cX3_remember 39 = .ok (.getfield 70, 3) := by decide +kernel
theorem dX3_remember_42 : decode cX3_remember 42 = .ok (.iconst 1, 1) := by decide +kernel
theorem dX3_remember_43 : decode cX3_remember 43 = .ok (.iadd, 1) := by decide +kernel
theorem dX3_remember_44 : decode cX3_remember 44 = .ok (.putfield 70, 3) := by decide +kernel
theorem dX3_remember_47 : decode cX3_remember 47 = .ok (.return_, 1) := by decide +kernel
theorem dX3_tryToSend_0 : decode cX3_tryToSend 0 = .ok (.aload_n 0, 1) := by decide +kernel
theorem dX3_tryToSend_1 : decode cX3_tryToSend 1 = .ok (.getfield 27, 3) := by decide +kernel
theorem dX3_tryToSend_4 : decode cX3_tryToSend 4 = .ok (.aload_n 0, 1) := by decide +kernel
theorem dX3_tryToSend_5 : decode cX3_tryToSend 5 = .ok (.getfield 23, 3) := by decide +kernel
theorem dX3_tryToSend_8 : decode cX3_tryToSend 8 = .ok (.invokevirtual 66, 3) := by decide +kernel
theorem dX3_tryToSend_11 : decode cX3_tryToSend 11 = .ok (.iconst 0, 1) := by decide +kernel
theorem dX3_tryToSend_12 : decode cX3_tryToSend 12 = .ok (.istore_n 3, 1) := by decide +kernel
theorem dX3_tryToSend_13 : decode cX3_tryToSend 13 = .ok (.iload_n 3, 1) := by decide +kernel
theorem dX3_tryToSend_14 : decode cX3_tryToSend 14 = .ok (.aload_n 0, 1) := by decide +kernel
theorem dX3_tryToSend_15 : decode cX3_tryToSend 15 = .ok (.getfield 27, 3) := by decide +kernel
theorem dX3_tryToSend_18 : decode cX3_tryToSend 18 = .ok (.getfield 73, 3) := by decide +kernel
theorem dX3_tryToSend_21 : decode cX3_tryToSend 21 = .ok (.if_icmp .ge 27, 3) := by decide +kernel
theorem dX3_tryToSend_24 : decode cX3_tryToSend 24 = .ok (.iload_n 2, 1) := by decide +kernel
theorem dX3_tryToSend_25 : decode cX3_tryToSend 25 = .ok (.iload_n 3, 1) := by decide +kernel
theorem dX3_tryToSend_26 : decode cX3_tryToSend 26 = .ok (.ishr, 1) := by decide +kernel
theorem dX3_tryToSend_27 : decode cX3_tryToSend 27 = .ok (.iconst 1, 1) := by decide +kernel
theorem dX3_tryToSend_28 : decode cX3_tryToSend 28 = .ok (.iand, 1) := by decide +kernel
theorem dX3_tryToSend_29 : decode cX3_tryToSend 29 = .ok (.iconst 1, 1) := by decide +kernel
theorem dX3_tryToSend_30 : decode cX3_tryToSend 30 = .ok (.if_icmp .ne 12, 3) := by decide +kernel
theorem dX3_tryToSend_33 : decode cX3_tryToSend 33 = .ok (.aload_n 0, 1) := by decide +kernel
theorem dX3_tryToSend_34 : decode cX3_tryToSend 34 = .ok (.getfield 27, 3) := by decide +kernel
theorem dX3_tryToSend_37 : decode cX3_tryToSend 37 = .ok (.iload_n 3, 1) := by decide +kernel
theorem dX3_tryToSend_38 : decode cX3_tryToSend 38 = .ok (.iload_n 1, 1) := by decide +kernel
theorem dX3_tryToSend_39 : decode cX3_tryToSend 39 = .ok (.invokevirtual 145, 3) := by decide +kernel
theorem dX3_tryToSend_42 : decode cX3_tryToSend 42 = .ok (.iinc 3 1, 3) := by decide +kernel
theorem dX3_tryToSend_45 : decode cX3_tryToSend 45 = .ok (.goto (-32), 3) := by decide +kernel
theorem dX3_tryToSend_48 : decode cX3_tryToSend 48 = .ok (.aload_n 0, 1) := by decide +kernel
theorem dX3_tryToSend_49 : decode cX3_tryToSend 49 = .ok (.getfield 27, 3) := by decide +kernel
theorem dX3_tryToSend_52 : decode cX3_tryToSend 52 = .ok (.iload_n 1, 1) := by decide +kernel
theorem dX3_tryToSend_53 : decode cX3_tryToSend 53 = .ok (.invokevirtual 149, 3) := by decide +kernel
theorem dX3_tryToSend_56 : decode cX3_tryToSend 56 = .ok (.ifCond .ne 6, 3) := by decide +kernel
theorem dX3_tryToSend_59 : decode cX3_tryToSend 59 = .ok (.bipush (-9), 2) := by decide +kernel
theorem dX3_tryToSend_61 : decode cX3_tryToSend 61 = .ok (.ireturn, 1) := by decide +kernel
theorem dX3_tryToSend_62 : decode cX3_tryToSend 62 = .ok (.aload_n 0, 1) := by decide +kernel
theorem dX3_tryToSend_63 : decode cX3_tryToSend 63 = .ok (.getfield 27, 3) := by decide +kernel
theorem dX3_tryToSend_66 : decode cX3_tryToSend 66 = .ok (.iload_n 1, 1) := by decide +kernel
theorem dX3_tryToSend_67 : decode cX3_tryToSend 67 = .ok (.invokevirtual 152, 3) := by decide +kernel
theorem dX3_tryToSend_70 : decode cX3_tryToSend 70 = .ok (.aload_n 0, 1) := by decide +kernel
theorem dX3_tryToSend_71 : decode cX3_tryToSend 71 = .ok (.getfield 27, 3) := by decide +kernel
theorem dX3_tryToSend_74 : decode cX3_tryToSend 74 = .ok (.getfield 111, 3) := by decide +kernel
theorem dX3_tryToSend_77 : decode cX3_tryToSend 77 = .ok (.iload_n 1, 1) := by decide +kernel
theorem dX3_tryToSend_78 : decode cX3_tryToSend 78 = .ok (.iaload, 1) := by decide +kernel
theorem dX3_tryToSend_79 : decode cX3_tryToSend 79 = .ok (.istore_n 3, 1) := by decide +kernel
theorem dX3_tryToSend_80 : decode cX3_tryToSend 80 = .ok (.iconst 0, 1) := by decide +kernel
theorem dX3_tryToSend_81 : decode cX3_tryToSend 81 = .ok (.istore 4, 2) := by decide +kernel
theorem dX3_tryToSend_83 : decode cX3_tryToSend 83 = .ok (.iload 4, 2) := by decide +kernel
theorem dX3_tryToSend_85 : decode cX3_tryToSend 85 = .ok (.iload_n 3, 1) := by decide +kernel
theorem dX3_tryToSend_86 : decode cX3_tryToSend 86 = .ok (.if_icmp .ge 16, 3) := by decide +kernel
theorem dX3_tryToSend_89 : decode cX3_tryToSend 89 = .ok (.aload_n 0, 1) := by decide +kernel
theorem dX3_tryToSend_90 : decode cX3_tryToSend 90 = .ok (.getfield 27, 3) := by decide +kernel
theorem dX3_tryToSend_93 : decode cX3_tryToSend 93 = .ok (.invokevirtual 129, 3) := by decide +kernel
theorem dX3_tryToSend_96 : decode cX3_tryToSend 96 = .ok (.iinc 4 1, 3) := by decide +kernel
theorem dX3_tryToSend_99 : decode cX3_tryToSend 99 = .ok (.goto (-16), 3) := by decide +kernel
theorem dX3_tryToSend_102 : decode cX3_tryToSend 102 = .ok (.aload_n 0, 1) := by decide +kernel
theorem dX3_tryToSend_103 : decode cX3_tryToSend 103 = .ok (.getfield 27, 3) := by decide +kernel
theorem dX3_tryToSend_106 : decode cX3_tryToSend 106 = .ok (.getfield 123, 3) := by decide +kernel
theorem dX3_tryToSend_109 : decode cX3_tryToSend 109 = .ok (.iload_n 1, 1) := by decide +kernel
theorem dX3_tryToSend_110 : decode cX3_tryToSend 110 = .ok (.iaload, 1) := by decide +kernel
theorem dX3_tryToSend_111 : decode cX3_tryToSend 111 = .ok (.iconst 2, 1) := by decide +kernel
theorem dX3_tryToSend_112 : decode cX3_tryToSend 112 = .ok (.if_icmp .ne 7, 3) := by decide +kernel
theorem dX3_tryToSend_115 : decode cX3_tryToSend 115 = .ok (.iconst 1, 1) := by decide +kernel
theorem dX3_tryToSend_116 : decode cX3_tryToSend 116 = .ok (.goto 4, 3) := by decide +kernel
theorem dX3_tryToSend_119 : decode cX3_tryToSend 119 = .ok (.iconst 0, 1) := by decide +kernel
theorem dX3_tryToSend_120 : decode cX3_tryToSend 120 = .ok (.ireturn, 1) := by decide +kernel
theorem dX3_agreesWithSeen_0 : decode cX3_agreesWithSeen 0 = .ok (.iconst 0, 1) := by decide +kernel
theorem dX3_agreesWithSeen_1 : decode cX3_agreesWithSeen 1 = .ok (.istore_n 3, 1) := by decide +kernel
theorem dX3_agreesWithSeen_2 : decode cX3_agreesWithSeen 2 = .ok (.iload_n 3, 1) := by decide +kernel
theorem dX3_agreesWithSeen_3 : decode cX3_agreesWithSeen 3 = .ok (.aload_n 0, 1) := by decide +kernel
theorem dX3_agreesWithSeen_4 : decode cX3_agreesWithSeen 4 = .ok (.getfield 187, 3) := by decide +kernel
theorem dX3_agreesWithSeen_7 : decode cX3_agreesWithSeen 7 = .ok (.if_icmp .ge 75, 3) := by decide +kernel
theorem dX3_agreesWithSeen_10 : decode cX3_agreesWithSeen 10 = .ok (.aload_n 0, 1) := by decide +kernel
theorem dX3_agreesWithSeen_11 : decode cX3_agreesWithSeen 11 = .ok (.getfield 46, 3) := by decide +kernel
theorem dX3_agreesWithSeen_14 : decode cX3_agreesWithSeen 14 = .ok (.iload_n 3, 1) := by decide +kernel
theorem dX3_agreesWithSeen_15 : decode cX3_agreesWithSeen 15 = .ok (.iaload, 1) := by decide +kernel
theorem dX3_agreesWithSeen_16 : decode cX3_agreesWithSeen 16 = .ok (.iload_n 1, 1) := by decide +kernel
theorem dX3_agreesWithSeen_17 : decode cX3_agreesWithSeen 17 = .ok (.if_icmp .ne 59, 3) := by decide +kernel
theorem dX3_agreesWithSeen_20 : decode cX3_agreesWithSeen 20 = .ok (.aload_n 0, 1) := by decide +kernel
theorem dX3_agreesWithSeen_21 : decode cX3_agreesWithSeen 21 = .ok (.getfield 23, 3) := by decide +kernel
theorem dX3_agreesWithSeen_24 : decode cX3_agreesWithSeen 24 = .ok (.getfield 89, 3) := by decide +kernel
theorem dX3_agreesWithSeen_27 : decode cX3_agreesWithSeen 27 = .ok (.iload_n 1, 1) := by decide +kernel
theorem dX3_agreesWithSeen_28 : decode cX3_agreesWithSeen 28 = .ok (.iaload, 1) := by decide +kernel
theorem dX3_agreesWithSeen_29 : decode cX3_agreesWithSeen 29 = .ok (.iconst 3, 1) := by decide +kernel
theorem dX3_agreesWithSeen_30 : decode cX3_agreesWithSeen 30 = .ok (.if_icmp .ne 7, 3) := by decide +kernel
theorem dX3_agreesWithSeen_33 : decode cX3_agreesWithSeen 33 = .ok (.iload_n 2, 1) := by decide +kernel
theorem dX3_agreesWithSeen_34 : decode cX3_agreesWithSeen 34 = .ok (.goto 11, 3) := by decide +kernel
theorem dX3_agreesWithSeen_37 : decode cX3_agreesWithSeen 37 = .ok (.iload_n 2, 1) := by decide +kernel
theorem dX3_agreesWithSeen_38 : decode cX3_agreesWithSeen 38 = .ok (.aload_n 0, 1) := by decide +kernel
theorem dX3_agreesWithSeen_39 : decode cX3_agreesWithSeen 39 = .ok (.getfield 49, 3) := by decide +kernel
theorem dX3_agreesWithSeen_42 : decode cX3_agreesWithSeen 42 = .ok (.iload_n 3, 1) := by decide +kernel
theorem dX3_agreesWithSeen_43 : decode cX3_agreesWithSeen 43 = .ok (.iaload, 1) := by decide +kernel
theorem dX3_agreesWithSeen_44 : decode cX3_agreesWithSeen 44 = .ok (.iadd, 1) := by decide +kernel
theorem dX3_agreesWithSeen_45 : decode cX3_agreesWithSeen 45 = .ok (.istore 4, 2) := by decide +kernel
theorem dX3_agreesWithSeen_47 : decode cX3_agreesWithSeen 47 = .ok (.iload 4, 2) := by decide +kernel
theorem dX3_agreesWithSeen_49 : decode cX3_agreesWithSeen 49 = .ok (.aload_n 0, 1) := by decide +kernel
theorem dX3_agreesWithSeen_50 : decode cX3_agreesWithSeen 50 = .ok (.getfield 23, 3) := by decide +kernel
theorem dX3_agreesWithSeen_53 : decode cX3_agreesWithSeen 53 = .ok (.iload_n 1, 1) := by decide +kernel
theorem dX3_agreesWithSeen_54 : decode cX3_agreesWithSeen 54 = .ok (.invokevirtual 92, 3) := by decide +kernel
theorem dX3_agreesWithSeen_57 : decode cX3_agreesWithSeen 57 = .ok (.if_icmp .ge 7, 3) := by decide +kernel
theorem dX3_agreesWithSeen_60 : decode cX3_agreesWithSeen 60 = .ok (.iconst 1, 1) := by decide +kernel
theorem dX3_agreesWithSeen_61 : decode cX3_agreesWithSeen 61 = .ok (.goto 4, 3) := by decide +kernel
theorem dX3_agreesWithSeen_64 : decode cX3_agreesWithSeen 64 = .ok (.iconst 0, 1) := by decide +kernel
theorem dX3_agreesWithSeen_65 : decode cX3_agreesWithSeen 65 = .ok (.aload_n 0, 1) := by decide +kernel
theorem dX3_agreesWithSeen_66 : decode cX3_agreesWithSeen 66 = .ok (.getfield 52, 3) := by decide +kernel
theorem dX3_agreesWithSeen_69 : decode cX3_agreesWithSeen 69 = .ok (.iload_n 3, 1) := by decide +kernel
theorem dX3_agreesWithSeen_70 : decode cX3_agreesWithSeen 70 = .ok (.baload, 1) := by decide +kernel
theorem dX3_agreesWithSeen_71 : decode cX3_agreesWithSeen 71 = .ok (.if_icmp .eq 5, 3) := by decide +kernel
theorem dX3_agreesWithSeen_74 : decode cX3_agreesWithSeen 74 = .ok (.iconst 0, 1) := by decide +kernel
theorem dX3_agreesWithSeen_75 : decode cX3_agreesWithSeen 75 = .ok (.ireturn, 1) := by decide +kernel
theorem dX3_agreesWithSeen_76 : decode cX3_agreesWithSeen 76 = .ok (.iinc 3 1, 3) := by decide +kernel
theorem dX3_agreesWithSeen_79 : decode cX3_agreesWithSeen 79 = .ok (.goto (-77), 3) := by decide +kernel
theorem dX3_agreesWithSeen_82 : decode cX3_agreesWithSeen 82 = .ok (.iconst 1, 1) := by decide +kernel
theorem dX3_agreesWithSeen_83 : decode cX3_agreesWithSeen 83 = .ok (.ireturn, 1) := by decide +kernel
theorem dX3_tryWeeks_0 : decode cX3_tryWeeks 0 = .ok (.iconst 1, 1) := by decide +kernel
theorem dX3_tryWeeks_1 : decode cX3_tryWeeks 1 = .ok (.istore_n 2, 1) := by decide +kernel
theorem dX3_tryWeeks_2 : decode cX3_tryWeeks 2 = .ok (.iload_n 2, 1) := by decide +kernel
theorem dX3_tryWeeks_3 : decode cX3_tryWeeks 3 = .ok (.iload_n 1, 1) := by decide +kernel
theorem dX3_tryWeeks_4 : decode cX3_tryWeeks 4 = .ok (.if_icmp .gt 60, 3) := by decide +kernel
theorem dX3_tryWeeks_7 : decode cX3_tryWeeks 7 = .ok (.iload_n 2, 1) := by decide +kernel
theorem dX3_tryWeeks_8 : decode cX3_tryWeeks 8 = .ok (.iload_n 1, 1) := by decide +kernel
theorem dX3_tryWeeks_9 : decode cX3_tryWeeks 9 = .ok (.if_icmp .ne 14, 3) := by decide +kernel
theorem dX3_tryWeeks_12 : decode cX3_tryWeeks 12 = .ok (.iload_n 1, 1) := by decide +kernel
theorem dX3_tryWeeks_13 : decode cX3_tryWeeks 13 = .ok (.iconst 2, 1) := by decide +kernel
theorem dX3_tryWeeks_14 : decode cX3_tryWeeks 14 = .ok (.irem, 1) := by decide +kernel
theorem dX3_tryWeeks_15 : decode cX3_tryWeeks 15 = .ok (.iconst 1, 1) := by decide +kernel
theorem dX3_tryWeeks_16 : decode cX3_tryWeeks 16 = .ok (.if_icmp .ne 7, 3) := by decide +kernel
theorem dX3_tryWeeks_19 : decode cX3_tryWeeks 19 = .ok (.iconst 1, 1) := by decide +kernel
theorem dX3_tryWeeks_20 : decode cX3_tryWeeks 20 = .ok (.goto 4, 3) := by decide +kernel
theorem dX3_tryWeeks_23 : decode cX3_tryWeeks 23 = .ok (.iconst 0, 1) := by decide +kernel
theorem dX3_tryWeeks_24 : decode cX3_tryWeeks 24 = .ok (.istore_n 3, 1) := by decide +kernel
theorem dX3_tryWeeks_25 : decode cX3_tryWeeks 25 = .ok (.aload_n 0, 1) := by decide +kernel
theorem dX3_tryWeeks_26 : decode cX3_tryWeeks 26 = .ok (.getfield 27, 3) := by decide +kernel
theorem dX3_tryWeeks_29 : decode cX3_tryWeeks 29 = .ok (.aload_n 0, 1) := by decide +kernel
theorem dX3_tryWeeks_30 : decode cX3_tryWeeks 30 = .ok (.getfield 23, 3) := by decide +kernel
theorem dX3_tryWeeks_33 : decode cX3_tryWeeks 33 = .ok (.getfield 161, 3) := by decide +kernel
theorem dX3_tryWeeks_36 : decode cX3_tryWeeks 36 = .ok (.ifCond .ne 7, 3) := by decide +kernel
theorem dX3_tryWeeks_39 : decode cX3_tryWeeks 39 = .ok (.iload_n 3, 1) := by decide +kernel
theorem dX3_tryWeeks_40 : decode cX3_tryWeeks 40 = .ok (.ifCond .eq 7, 3) := by decide +kernel
theorem dX3_tryWeeks_43 : decode cX3_tryWeeks 43 = .ok (.iconst 1, 1) := by decide +kernel
theorem dX3_tryWeeks_44 : decode cX3_tryWeeks 44 = .ok (.goto 4, 3) := by decide +kernel
theorem dX3_tryWeeks_47 : decode cX3_tryWeeks 47 = .ok (.iconst 0, 1) := by decide +kernel
theorem dX3_tryWeeks_48 : decode cX3_tryWeeks 48 = .ok (.putfield 161, 3) := by decide +kernel
theorem dX3_tryWeeks_51 : decode cX3_tryWeeks 51 = .ok (.aload_n 0, 1) := by decide +kernel
theorem dX3_tryWeeks_52 : decode cX3_tryWeeks 52 = .ok (.getfield 27, 3) := by decide +kernel
theorem dX3_tryWeeks_55 : decode cX3_tryWeeks 55 = .ok (.invokevirtual 129, 3) := by decide +kernel
theorem dX3_tryWeeks_58 : decode cX3_tryWeeks 58 = .ok (.iinc 2 1, 3) := by decide +kernel
theorem dX3_tryWeeks_61 : decode cX3_tryWeeks 61 = .ok (.goto (-59), 3) := by decide +kernel
theorem dX3_tryWeeks_64 : decode cX3_tryWeeks 64 = .ok (.return_, 1) := by decide +kernel
theorem dX3_isContent_0 : decode cX3_isContent 0 = .ok (.iload_n 2, 1) := by decide +kernel
theorem dX3_isContent_1 : decode cX3_isContent 1 = .ok (.iconst 1, 1) := by decide +kernel
theorem dX3_isContent_2 : decode cX3_isContent 2 = .ok (.if_icmp .ne 9, 3) := by decide +kernel
theorem dX3_isContent_5 : decode cX3_isContent 5 = .ok (.iload_n 0, 1) := by decide +kernel
theorem dX3_isContent_6 : decode cX3_isContent 6 = .ok (.iconst 3, 1) := by decide +kernel
theorem dX3_isContent_7 : decode cX3_isContent 7 = .ok (.isub, 1) := by decide +kernel
theorem dX3_isContent_8 : decode cX3_isContent 8 = .ok (.goto 4, 3) := by decide +kernel
theorem dX3_isContent_11 : decode cX3_isContent 11 = .ok (.iload_n 0, 1) := by decide +kernel
theorem dX3_isContent_12 : decode cX3_isContent 12 = .ok (.istore_n 3, 1) := by decide +kernel
theorem dX3_isContent_13 : decode cX3_isContent 13 = .ok (.iload_n 1, 1) := by decide +kernel
theorem dX3_isContent_14 : decode cX3_isContent 14 = .ok (.iconst 1, 1) := by decide +kernel
theorem dX3_isContent_15 : decode cX3_isContent 15 = .ok (.if_icmp .ne 15, 3) := by decide +kernel
theorem dX3_isContent_18 : decode cX3_isContent 18 = .ok (.iload_n 3, 1) := by decide +kernel
theorem dX3_isContent_19 : decode cX3_isContent 19 = .ok (.ifCond .lt 7, 3) := by decide +kernel
theorem dX3_isContent_22 : decode cX3_isContent 22 = .ok (.iconst 1, 1) := by decide +kernel
theorem dX3_isContent_23 : decode cX3_isContent 23 = .ok (.goto 16, 3) := by decide +kernel
theorem dX3_isContent_26 : decode cX3_isContent 26 = .ok (.iconst 0, 1) := by decide +kernel
theorem dX3_isContent_27 : decode cX3_isContent 27 = .ok (.goto 12, 3) := by decide +kernel
theorem dX3_isContent_30 : decode cX3_isContent 30 = .ok (.iload_n 3, 1) := by decide +kernel
theorem dX3_isContent_31 : decode cX3_isContent 31 = .ok (.ifCond .gt 7, 3) := by decide +kernel
theorem dX3_isContent_34 : decode cX3_isContent 34 = .ok (.iconst 1, 1) := by decide +kernel
theorem dX3_isContent_35 : decode cX3_isContent 35 = .ok (.goto 4, 3) := by decide +kernel
theorem dX3_isContent_38 : decode cX3_isContent 38 = .ok (.iconst 0, 1) := by decide +kernel
theorem dX3_isContent_39 : decode cX3_isContent 39 = .ok (.ireturn, 1) := by decide +kernel
theorem dX3_toldPart_0 : decode cX3_toldPart 0 = .ok (.lload_n 0, 1) := by decide +kernel
theorem dX3_toldPart_1 : decode cX3_toldPart 1 = .ok (.lload_n 2, 1) := by decide +kernel
theorem dX3_toldPart_2 : decode cX3_toldPart 2 = .ok (.invokestatic 260, 3) := by decide +kernel
theorem dX3_toldPart_5 : decode cX3_toldPart 5 = .ok (.lstore 5, 2) := by decide +kernel
theorem dX3_toldPart_7 : decode cX3_toldPart 7 = .ok (.iload 4, 2) := by decide +kernel
theorem dX3_toldPart_9 : decode cX3_toldPart 9 = .ok (.ifCond .eq 7, 3) := by decide +kernel
theorem dX3_toldPart_12 : decode cX3_toldPart 12 = .ok (.lload_n 0, 1) := by decide +kernel
theorem dX3_toldPart_13 : decode cX3_toldPart 13 = .ok (.goto 4, 3) := by decide +kernel
theorem dX3_toldPart_16 : decode cX3_toldPart 16 = .ok (.lload_n 2, 1) := by decide +kernel
theorem dX3_toldPart_17 : decode cX3_toldPart 17 = .ok (.lstore 7, 2) := by decide +kernel
theorem dX3_toldPart_19 : decode cX3_toldPart 19 = .ok (.lload 5, 2) := by decide +kernel
theorem dX3_toldPart_21 : decode cX3_toldPart 21 = .ok (.lconst 1, 1) := by decide +kernel
theorem dX3_toldPart_22 : decode cX3_toldPart 22 = .ok (.lcmp, 1) := by decide +kernel
theorem dX3_toldPart_23 : decode cX3_toldPart 23 = .ok (.ifCond .le 12, 3) := by decide +kernel
theorem dX3_toldPart_26 : decode cX3_toldPart 26 = .ok (.lload 7, 2) := by decide +kernel
theorem dX3_toldPart_28 : decode cX3_toldPart 28 = .ok (.lload 5, 2) := by decide +kernel
theorem dX3_toldPart_30 : decode cX3_toldPart 30 = .ok (.ldiv, 1) := by decide +kernel
theorem dX3_toldPart_31 : decode cX3_toldPart 31 = .ok (.l2i, 1) := by decide +kernel
theorem dX3_toldPart_32 : decode cX3_toldPart 32 = .ok (.goto 6, 3) := by decide +kernel
theorem dX3_toldPart_35 : decode cX3_toldPart 35 = .ok (.lload 7, 2) := by decide +kernel
theorem dX3_toldPart_37 : decode cX3_toldPart 37 = .ok (.l2i, 1) := by decide +kernel
theorem dX3_toldPart_38 : decode cX3_toldPart 38 = .ok (.ireturn, 1) := by decide +kernel
theorem dX3_commonDivisor_0 : decode cX3_commonDivisor 0 = .ok (.lload_n 0, 1) := by decide +kernel
theorem dX3_commonDivisor_1 : decode cX3_commonDivisor 1 = .ok (.lstore 4, 2) := by decide +kernel
theorem dX3_commonDivisor_3 : decode cX3_commonDivisor 3 = .ok (.lload_n 2, 1) := by decide +kernel
theorem dX3_commonDivisor_4 : decode cX3_commonDivisor 4 = .ok (.lstore 6, 2) := by decide +kernel
theorem dX3_commonDivisor_6 : decode cX3_commonDivisor 6 = .ok (.iconst 0, 1) := by decide +kernel
theorem dX3_commonDivisor_7 : decode cX3_commonDivisor 7 = .ok (.istore 8, 2) := by decide +kernel
theorem dX3_commonDivisor_9 : decode cX3_commonDivisor 9 = .ok (.iload 8, 2) := by decide +kernel
theorem dX3_commonDivisor_11 : decode cX3_commonDivisor 11 = .ok (.bipush 100, 2) := by decide +kernel
theorem dX3_commonDivisor_13 : decode cX3_commonDivisor 13 = .ok (.if_icmp .ge 31, 3) := by decide +kernel
theorem dX3_commonDivisor_16 : decode cX3_commonDivisor 16 = .ok (.lload 6, 2) := by decide +kernel
theorem dX3_commonDivisor_18 : decode cX3_commonDivisor 18 = .ok (.lconst 0, 1) := by decide +kernel
theorem dX3_commonDivisor_19 : decode cX3_commonDivisor 19 = .ok (.lcmp, 1) := by decide +kernel
theorem dX3_commonDivisor_20 : decode cX3_commonDivisor 20 = .ok (.ifCond .eq 24, 3) := by decide +kernel
theorem dX3_commonDivisor_23 : decode cX3_commonDivisor 23 = .ok (.lload 4, 2) := by decide +kernel
theorem dX3_commonDivisor_25 : decode cX3_commonDivisor 25 = .ok (.lload 6, 2) := by decide +kernel
theorem dX3_commonDivisor_27 : decode cX3_commonDivisor 27 = .ok (.lrem, 1) := by decide +kernel
theorem dX3_commonDivisor_28 : decode cX3_commonDivisor 28 = .ok (.lstore 9, 2) := by decide +kernel
theorem dX3_commonDivisor_30 : decode cX3_commonDivisor 30 = .ok (.lload 6, 2) := by decide +kernel
theorem dX3_commonDivisor_32 : decode cX3_commonDivisor 32 = .ok (.lstore 4, 2) := by decide +kernel
theorem dX3_commonDivisor_34 : decode cX3_commonDivisor 34 = .ok (.lload 9, 2) := by decide +kernel
theorem dX3_commonDivisor_36 : decode cX3_commonDivisor 36 = .ok (.lstore 6, 2) := by decide +kernel
theorem dX3_commonDivisor_38 : decode cX3_commonDivisor 38 = .ok (.iinc 8 1, 3) := by decide +kernel
theorem dX3_commonDivisor_41 : decode cX3_commonDivisor 41 = .ok (.goto (-32), 3) := by decide +kernel
theorem dX3_commonDivisor_44 : decode cX3_commonDivisor 44 = .ok (.lload 4, 2) := by decide +kernel
theorem dX3_commonDivisor_46 : decode cX3_commonDivisor 46 = .ok (.lreturn, 1) := by decide +kernel
theorem dX3_factorial_0 : decode cX3_factorial 0 = .ok (.lconst 1, 1) := by decide +kernel
theorem dX3_factorial_1 : decode cX3_factorial 1 = .ok (.lstore_n 1, 1) := by decide +kernel
theorem dX3_factorial_2 : decode cX3_factorial 2 = .ok (.iconst 2, 1) := by decide +kernel
theorem dX3_factorial_3 : decode cX3_factorial 3 = .ok (.istore_n 3, 1) := by decide +kernel
theorem dX3_factorial_4 : decode cX3_factorial 4 = .ok (.iload_n 3, 1) := by decide +kernel
theorem dX3_factorial_5 : decode cX3_factorial 5 = .ok (.iload_n 0, 1) := by decide +kernel
theorem dX3_factorial_6 : decode cX3_factorial 6 = .ok (.if_icmp .gt 14, 3) := by decide +kernel
theorem dX3_factorial_9 : decode cX3_factorial 9 = .ok (.lload_n 1, 1) := by decide +kernel
theorem dX3_factorial_10 : decode cX3_factorial 10 = .ok (.iload_n 3, 1) := by decide +kernel
theorem dX3_factorial_11 : decode cX3_factorial 11 = .ok (.i2l, 1) := by decide +kernel
theorem dX3_factorial_12 : decode cX3_factorial 12 = .ok (.lmul, 1) := by decide +kernel
theorem dX3_factorial_13 : decode cX3_factorial 13 = .ok (.lstore_n 1, 1) := by decide +kernel
theorem dX3_factorial_14 : decode cX3_factorial 14 = .ok (.iinc 3 1, 3) := by decide +kernel
theorem dX3_factorial_17 : decode cX3_factorial 17 = .ok (.goto (-13), 3) := by decide +kernel
theorem dX3_factorial_20 : decode cX3_factorial 20 = .ok (.lload_n 1, 1) := by decide +kernel
theorem dX3_factorial_21 : decode cX3_factorial 21 = .ok (.lreturn, 1) := by decide +kernel
theorem dX3_power_0 : decode cX3_power 0 = .ok (.lconst 1, 1) := by decide +kernel
theorem dX3_power_1 : decode cX3_power 1 = .ok (.lstore_n 2, 1) := by decide +kernel
theorem dX3_power_2 : decode cX3_power 2 = .ok (.iconst 0, 1) := by decide +kernel
theorem dX3_power_3 : decode cX3_power 3 = .ok (.istore 4, 2) := by decide +kernel
theorem dX3_power_5 : decode cX3_power 5 = .ok (.iload 4, 2) := by decide +kernel
theorem dX3_power_7 : decode cX3_power 7 = .ok (.iload_n 1, 1) := by decide +kernel
theorem dX3_power_8 : decode cX3_power 8 = .ok (.if_icmp .ge 14, 3) := by decide +kernel
theorem dX3_power_11 : decode cX3_power 11 = .ok (.lload_n 2, 1) := by decide +kernel
theorem dX3_power_12 : decode cX3_power 12 = .ok (.iload_n 0, 1) := by decide +kernel
theorem dX3_power_13 : decode cX3_power 13 = .ok (.i2l, 1) := by decide +kernel
theorem dX3_power_14 : decode cX3_power 14 = .ok (.lmul, 1) := by decide +kernel
theorem dX3_power_15 : decode cX3_power 15 = .ok (.lstore_n 2, 1) := by decide +kernel
theorem dX3_power_16 : decode cX3_power 16 = .ok (.iinc 4 1, 3) := by decide +kernel
theorem dX3_power_19 : decode cX3_power 19 = .ok (.goto (-14), 3) := by decide +kernel
theorem dX3_power_22 : decode cX3_power 22 = .ok (.lload_n 2, 1) := by decide +kernel
theorem dX3_power_23 : decode cX3_power 23 = .ok (.lreturn, 1) := by decide +kernel
theorem dX3_choose_0 : decode cX3_choose 0 = .ok (.lconst 1, 1) := by decide +kernel
theorem dX3_choose_1 : decode cX3_choose 1 = .ok (.lstore_n 2, 1) := by decide +kernel
theorem dX3_choose_2 : decode cX3_choose 2 = .ok (.iconst 1, 1) := by decide +kernel
theorem dX3_choose_3 : decode cX3_choose 3 = .ok (.istore 4, 2) := by decide +kernel
theorem dX3_choose_5 : decode cX3_choose 5 = .ok (.iload 4, 2) := by decide +kernel
theorem dX3_choose_7 : decode cX3_choose 7 = .ok (.iload_n 1, 1) := by decide +kernel
theorem dX3_choose_8 : decode cX3_choose 8 = .ok (.if_icmp .gt 23, 3) := by decide +kernel
theorem dX3_choose_11 : decode cX3_choose 11 = .ok (.lload_n 2, 1) := by decide +kernel
theorem dX3_choose_12 : decode cX3_choose 12 = .ok (.iload_n 0, 1) := by decide +kernel
theorem dX3_choose_13 : decode cX3_choose 13 = .ok (.iload_n 1, 1) := by decide +kernel
theorem dX3_choose_14 : decode cX3_choose 14 = .ok (.isub, 1) := by decide +kernel
theorem dX3_choose_15 : decode cX3_choose 15 = .ok (.iload 4, 2) := by decide +kernel
theorem dX3_choose_17 : decode cX3_choose 17 = .ok (.iadd, 1) := by decide +kernel
theorem dX3_choose_18 : decode cX3_choose 18 = .ok (.i2l, 1) := by decide +kernel
theorem dX3_choose_19 : decode cX3_choose 19 = .ok (.lmul, 1) := by decide +kernel
theorem dX3_choose_20 : decode cX3_choose 20 = .ok (.iload 4, 2) := by decide +kernel
theorem dX3_choose_22 : decode cX3_choose 22 = .ok (.i2l, 1) := by decide +kernel
theorem dX3_choose_23 : decode cX3_choose 23 = .ok (.ldiv, 1) := by decide +kernel
theorem dX3_choose_24 : decode cX3_choose 24 = .ok (.lstore_n 2, 1) := by decide +kernel
theorem dX3_choose_25 : decode cX3_choose 25 = .ok (.iinc 4 1, 3) := by decide +kernel
theorem dX3_choose_28 : decode cX3_choose 28 = .ok (.goto (-23), 3) := by decide +kernel
theorem dX3_choose_31 : decode cX3_choose 31 = .ok (.lload_n 2, 1) := by decide +kernel
theorem dX3_choose_32 : decode cX3_choose 32 = .ok (.lreturn, 1) := by decide +kernel
theorem dX4_init_0 : decode cX4_init 0 = .ok (.aload_n 0, 1) := by decide +kernel
theorem dX4_init_1 : decode cX4_init 1 = .ok (.invokespecial 1, 3) := by decide +kernel
theorem dX4_init_4 : decode cX4_init 4 = .ok (.aload_n 0, 1) := by decide +kernel
theorem dX4_init_5 : decode cX4_init 5 = .ok (.iconst 5, 1) := by decide +kernel
theorem dX4_init_6 : decode cX4_init 6 = .ok (.newarray .int, 2) := by decide +kernel
theorem dX4_init_8 : decode cX4_init 8 = .ok (.putfield 7, 3) := by decide +kernel
theorem dX4_init_11 : decode cX4_init 11 = .ok (.aload_n 0, 1) := by decide +kernel
theorem dX4_init_12 : decode cX4_init 12 = .ok (.iconst 4, 1) := by decide +kernel
theorem dX4_init_13 : decode cX4_init 13 = .ok (.newarray .int, 2) := by decide +kernel
theorem dX4_init_15 : decode cX4_init 15 = .ok (.putfield 13, 3) := by decide +kernel
theorem dX4_init_18 : decode cX4_init 18 = .ok (.aload_n 0, 1) := by decide +kernel
theorem dX4_init_19 : decode cX4_init 19 = .ok (.bipush 60, 2) := by decide +kernel
theorem dX4_init_21 : decode cX4_init 21 = .ok (.newarray .int, 2) := by decide +kernel
theorem dX4_init_23 : decode cX4_init 23 = .ok (.putfield 16, 3) := by decide +kernel
theorem dX4_init_26 : decode cX4_init 26 = .ok (.aload_n 0, 1) := by decide +kernel
theorem dX4_init_27 : decode cX4_init 27 = .ok (.bipush 15, 2) := by decide +kernel
theorem dX4_init_29 : decode cX4_init 29 = .ok (.newarray .int, 2) := by decide +kernel
theorem dX4_init_31 : decode cX4_init 31 = .ok (.putfield 19, 3) := by decide +kernel
theorem dX4_init_34 : decode cX4_init 34 = .ok (.aload_n 0, 1) := by decide +kernel
theorem dX4_init_35 : decode cX4_init 35 = .ok (.iconst 5, 1) := by decide +kernel
theorem dX4_init_36 : decode cX4_init 36 = .ok (.newarray .int, 2) := by decide +kernel
theorem dX4_init_38 : decode cX4_init 38 = .ok (.putfield 22, 3) := by decide +kernel
theorem dX4_init_41 : decode cX4_init 41 = .ok (.aload_n 0, 1) := by decide +kernel
theorem dX4_init_42 : decode cX4_init 42 = .ok (.bipush 8, 2) := by decide +kernel
theorem dX4_init_44 : decode cX4_init 44 = .ok (.newarray .int, 2) := by decide +kernel
theorem dX4_init_46 : decode cX4_init 46 = .ok (.putfield 25, 3) := by decide +kernel
theorem dX4_init_49 : decode cX4_init 49 = .ok (.aload_n 0, 1) := by decide +kernel
theorem dX4_init_50 : decode cX4_init 50 = .ok (.bipush 48, 2) := by decide +kernel
theorem dX4_init_52 : decode cX4_init 52 = .ok (.newarray .int, 2) := by decide +kernel
theorem dX4_init_54 : decode cX4_init 54 = .ok (.putfield 28, 3) := by decide +kernel
theorem dX4_init_57 : decode cX4_init 57 = .ok (.aload_n 0, 1) := by decide +kernel
theorem dX4_init_58 : decode cX4_init 58 = .ok (.sipush 420, 3) := by decide +kernel
theorem dX4_init_61 : decode cX4_init 61 = .ok (.newarray .int, 2) := by decide +kernel
theorem dX4_init_63 : decode cX4_init 63 = .ok (.putfield 31, 3) := by decide +kernel
theorem dX4_init_66 : decode cX4_init 66 = .ok (.aload_n 0, 1) := by decide +kernel
theorem dX4_init_67 : decode cX4_init 67 = .ok (.bipush 6, 2) := by decide +kernel
theorem dX4_init_69 : decode cX4_init 69 = .ok (.newarray .int, 2) := by decide +kernel
theorem dX4_init_71 : decode cX4_init 71 = .ok (.putfield 34, 3) := by decide +kernel
theorem dX4_init_74 : decode cX4_init 74 = .ok (.aload_n 0, 1) := by decide +kernel
theorem dX4_init_75 : decode cX4_init 75 = .ok (.bipush 6, 2) := by decide +kernel
theorem dX4_init_77 : decode cX4_init 77 = .ok (.newarray .int, 2) := by decide +kernel
theorem dX4_init_79 : decode cX4_init 79 = .ok (.putfield 37, 3) := by decide +kernel
theorem dX4_init_82 : decode cX4_init 82 = .ok (.aload_n 0, 1) := by decide +kernel
theorem dX4_init_83 : decode cX4_init 83 = .ok (.bipush 6, 2) := by decide +kernel
theorem dX4_init_85 : decode cX4_init 85 = .ok (.newarray .int, 2) := by decide +kernel
theorem dX4_init_87 : decode cX4_init 87 = .ok (.putfield 40, 3) := by decide +kernel
theorem dX4_init_90 : decode cX4_init 90 = .ok (.aload_n 0, 1) := by decide +kernel
theorem dX4_init_91 : decode cX4_init 91 = .ok (.iconst 2, 1) := by decide +kernel
theorem dX4_init_92 : decode cX4_init 92 = .ok (.newarray .boolean, 2) := by decide +kernel
theorem dX4_init_94 : decode cX4_init 94 = .ok (.putfield 43, 3) := by decide +kernel
theorem dX4_init_97 : decode cX4_init 97 = .ok (.aload_n 0, 1) := by decide +kernel
theorem dX4_init_98 : decode cX4_init 98 = .ok (.bipush 60, 2) := by decide +kernel
theorem dX4_init_100 : decode cX4_init 100 = .ok (.newarray .int, 2) := by decide +kernel
theorem dX4_init_102 : decode cX4_init 102 = .ok (.putfield 47, 3) := by decide +kernel
theorem dX4_init_105 : decode cX4_init 105 = .ok (.aload_n 0, 1) := by decide +kernel
theorem dX4_init_106 : decode cX4_init 106 = .ok (.iconst 0, 1) := by decide +kernel
theorem dX4_init_107 : decode cX4_init 107 = .ok (.putfield 50, 3) := by decide +kernel
theorem dX4_init_110 : decode cX4_init 110 = .ok (.return_, 1) := by decide +kernel
theorem dX4_in_0 : decode cX4_in 0 = .ok (.lload_n 0, 1) := by decide +kernel
theorem dX4_in_1 : decode cX4_in 1 = .ok (.lload_n 2, 1) := by decide +kernel
theorem dX4_in_2 : decode cX4_in 2 = .ok (.lcmp, 1) := by decide +kernel
theorem dX4_in_3 : decode cX4_in 3 = .ok (.ifCond .lt 14, 3) := by decide +kernel
theorem dX4_in_6 : decode cX4_in 6 = .ok (.lload_n 0, 1) := by decide +kernel
theorem dX4_in_7 : decode cX4_in 7 = .ok (.lload 4, 2) := by decide +kernel
theorem dX4_in_9 : decode cX4_in 9 = .ok (.lcmp, 1) := by decide +kernel
theorem dX4_in_10 : decode cX4_in 10 = .ok (.ifCond .gt 7, 3) := by decide +kernel
theorem dX4_in_13 : decode cX4_in 13 = .ok (.iconst 1, 1) := by decide +kernel
theorem dX4_in_14 : decode cX4_in 14 = .ok (.goto 4, 3) := by decide +kernel
theorem dX4_in_17 : decode cX4_in 17 = .ok (.iconst 0, 1) := by decide +kernel
theorem dX4_in_18 : decode cX4_in 18 = .ok (.ireturn, 1) := by decide +kernel
theorem dX4_has_0 : decode cX4_has 0 = .ok (.iload_n 0, 1) := by decide +kernel
theorem dX4_has_1 : decode cX4_has 1 = .ok (.iload_n 1, 1) := by decide +kernel
theorem dX4_has_2 : decode cX4_has 2 = .ok (.ishr, 1) := by decide +kernel
theorem dX4_has_3 : decode cX4_has 3 = .ok (.iconst 1, 1) := by decide +kernel
theorem dX4_has_4 : decode cX4_has 4 = .ok (.iand, 1) := by decide +kernel
theorem dX4_has_5 : decode cX4_has 5 = .ok (.iconst 1, 1) := by decide +kernel
theorem dX4_has_6 : decode cX4_has 6 = .ok (.if_icmp .ne 7, 3) := by decide +kernel
theorem dX4_has_9 : decode cX4_has 9 = .ok (.iconst 1, 1) := by decide +kernel
theorem dX4_has_10 : decode cX4_has 10 = .ok (.goto 4, 3) := by decide +kernel
theorem dX4_has_13 : decode cX4_has 13 = .ok (.iconst 0, 1) := by decide +kernel
theorem dX4_has_14 : decode cX4_has 14 = .ok (.ireturn, 1) := by decide +kernel
theorem dX4_ones_0 : decode cX4_ones 0 = .ok (.iconst 0, 1) := by decide +kernel
theorem dX4_ones_1 : decode cX4_ones 1 = .ok (.istore_n 1, 1) := by decide +kernel
theorem dX4_ones_2 : decode cX4_ones 2 = .ok (.iconst 0, 1) := by decide +kernel
theorem dX4_ones_3 : decode cX4_ones 3 = .ok (.istore_n 2, 1) := by decide +kernel
theorem dX4_ones_4 : decode cX4_ones 4 = .ok (.iload_n 2, 1) := by decide +kernel
theorem dX4_ones_5 : decode cX4_ones 5 = .ok (.iconst 5, 1) := by decide +kernel
theorem dX4_ones_6 : decode cX4_ones 6 = .ok (.if_icmp .ge 17, 3) := by decide +kernel
theorem dX4_ones_9 : decode cX4_ones 9 = .ok (.iload_n 1, 1) := by decide +kernel
theorem dX4_ones_10 : decode cX4_ones 10 = .ok (.iload_n 0, 1) := by decide +kernel
theorem dX4_ones_11 : decode cX4_ones 11 = .ok (.iload_n 2, 1) := by decide +kernel
theorem dX4_ones_12 : decode cX4_ones 12 = .ok (.ishr, 1) := by decide +kernel
theorem dX4_ones_13 : decode cX4_ones 13 = .ok (.iconst 1, 1) := by decide +kernel
theorem dX4_ones_14 : decode cX4_ones 14 = .ok (.iand, 1) := by decide +kernel
theorem dX4_ones_15 : decode cX4_ones 15 = .ok (.iadd, 1) := by decide +kernel
theorem dX4_ones_16 : decode cX4_ones 16 = .ok (.istore_n 1, 1) := by decide +kernel
theorem dX4_ones_17 : decode cX4_ones 17 = .ok (.iinc 2 1, 3) := by decide +kernel
theorem dX4_ones_20 : decode cX4_ones 20 = .ok (.goto (-16), 3) := by decide +kernel
theorem dX4_ones_23 : decode cX4_ones 23 = .ok (.iload_n 1, 1) := by decide +kernel
theorem dX4_ones_24 : decode cX4_ones 24 = .ok (.ireturn, 1) := by decide +kernel
theorem dX4_write_0 : decode cX4_write 0 = .ok (.iload_n 1, 1) := by decide +kernel
theorem dX4_write_1 : decode cX4_write 1 = .ok (.i2l, 1) := by decide +kernel
theorem dX4_write_2 : decode cX4_write 2 = .ok (.lconst 0, 1) := by decide +kernel
theorem dX4_write_3 : decode cX4_write 3 = .ok (.ldc2_w 54, 3) := by decide +kernel
theorem dX4_write_6 : decode cX4_write 6 = .ok (.invokestatic 56, 3) := by decide +kernel
theorem dX4_write_9 : decode cX4_write 9 = .ok (.ifCond .ne 6, 3) := by decide +kernel
theorem dX4_write_12 : decode cX4_write 12 = .ok (.bipush (-2), 2) := by decide +kernel
theorem dX4_write_14 : decode cX4_write 14 = .ok (.ireturn, 1) := by decide +kernel
theorem dX4_write_15 : decode cX4_write 15 = .ok (.aload_n 0, 1) := by decide +kernel
theorem dX4_write_16 : decode cX4_write 16 = .ok (.getfield 60, 3) := by decide +kernel
theorem dX4_write_19 : decode cX4_write 19 = .ok (.bipush 48, 2) := by decide +kernel
theorem dX4_write_21 : decode cX4_write 21 = .ok (.if_icmp .ne 6, 3) := by decide +kernel
theorem dX4_write_24 : decode cX4_write 24 = .ok (.bipush (-4), 2) := by decide +kernel
theorem dX4_write_26 : decode cX4_write 26 = .ok (.ireturn, 1) := by decide +kernel
theorem dX4_write_27 : decode cX4_write 27 = .ok (.aload_n 0, 1) := by decide +kernel
theorem dX4_write_28 : decode cX4_write 28 = .ok (.getfield 28, 3) := by decide +kernel
theorem dX4_write_31 : decode cX4_write 31 = .ok (.aload_n 0, 1) := by decide +kernel
theorem dX4_write_32 : decode cX4_write 32 = .ok (.getfield 60, 3) := by decide +kernel
theorem dX4_write_35 : decode cX4_write 35 = .ok (.iload_n 1, 1) := by decide +kernel
theorem dX4_write_36 : decode cX4_write 36 = .ok (.iastore, 1) := by decide +kernel
theorem dX4_write_37 : decode cX4_write 37 = .ok (.aload_n 0, 1) := by decide +kernel
theorem dX4_write_38 : decode cX4_write 38 = .ok (.dup, 1) := by decide +kernel
theorem dX4_write_39 : decode cX4_write 39 = .ok (.getfield 60, 3) := by decide +kernel
theorem dX4_write_42 : decode cX4_write 42 = .ok (.iconst 1, 1) := by decide +kernel
theorem dX4_write_43 : decode cX4_write 43 = .ok (.iadd, 1) := by decide +kernel
theorem dX4_write_44 : decode cX4_write 44 = .ok (.putfield 60, 3) := by decide +kernel
theorem dX4_write_47 : decode cX4_write 47 = .ok (.aload_n 0, 1) := by decide +kernel
theorem dX4_write_48 : decode cX4_write 48 = .ok (.getfield 60, 3) := by decide +kernel
theorem dX4_write_51 : decode cX4_write 51 = .ok (.ireturn, 1) := by decide +kernel
theorem dX4_wipe_0 : decode cX4_wipe 0 = .ok (.aload_n 0, 1) := by decide +kernel
theorem dX4_wipe_1 : decode cX4_wipe 1 = .ok (.getfield 60, 3) := by decide +kernel
theorem dX4_wipe_4 : decode cX4_wipe 4 = .ok (.istore_n 1, 1) := by decide +kernel
theorem dX4_wipe_5 : decode cX4_wipe 5 = .ok (.aload_n 0, 1) := by decide +kernel
theorem dX4_wipe_6 : decode cX4_wipe 6 = .ok (.iconst 0, 1) := by decide +kernel
theorem dX4_wipe_7 : decode cX4_wipe 7 = .ok (.putfield 60, 3) := by decide +kernel
theorem dX4_wipe_10 : decode cX4_wipe 10 = .ok (.iload_n 1, 1) := by decide +kernel
theorem dX4_wipe_11 : decode cX4_wipe 11 = .ok (.ireturn, 1) := by decide +kernel
theorem dX4_figureOf_0 : decode cX4_figureOf 0 = .ok (.aload_n 0, 1) := by decide +kernel
theorem dX4_figureOf_1 : decode cX4_figureOf 1 = .ok (.getfield 63, 3) := by decide +kernel
theorem dX4_figureOf_4 : decode cX4_figureOf 4 = .ok (.bipush (-9), 2) := by decide +kernel
theorem dX4_figureOf_6 : decode cX4_figureOf 6 = .ok (.if_icmp .ne 29, 3) := by decide +kernel
theorem dX4_figureOf_9 : decode cX4_figureOf 9 = .ok (.aload_n 0, 1) := by decide +kernel
theorem dX4_figureOf_10 : decode cX4_figureOf 10 = .ok (.getfield 66, 3) := by decide +kernel
theorem dX4_figureOf_13 : decode cX4_figureOf 13 = .ok (.aload_n 0, 1) := by decide +kernel
theorem dX4_figureOf_14 : decode cX4_figureOf 14 = .ok (.getfield 60, 3) := by decide +kernel
theorem dX4_figureOf_17 : decode cX4_figureOf 17 = .ok (.if_icmp .ge 18, 3) := by decide +kernel
theorem dX4_figureOf_20 : decode cX4_figureOf 20 = .ok (.aload_n 0, 1) := by decide +kernel
theorem dX4_figureOf_21 : decode cX4_figureOf 21 = .ok (.getfield 28, 3) := by decide +kernel
theorem dX4_figureOf_24 : decode cX4_figureOf 24 = .ok (.aload_n 0, 1) := by decide +kernel
theorem dX4_figureOf_25 : decode cX4_figureOf 25 = .ok (.getfield 66, 3) := by decide +kernel
theorem dX4_figureOf_28 : decode cX4_figureOf 28 = .ok (.iaload, 1) := by decide +kernel
theorem dX4_figureOf_29 : decode cX4_figureOf 29 = .ok (.bipush 48, 2) := by decide +kernel
theorem dX4_figureOf_31 : decode cX4_figureOf 31 = .ok (.isub, 1) := by decide +kernel
theorem dX4_figureOf_32 : decode cX4_figureOf 32 = .ok (.goto 5, 3) := by decide +kernel
theorem dX4_figureOf_35 : decode cX4_figureOf 35 = .ok (.bipush (-9), 2) := by decide +kernel
theorem dX4_figureOf_37 : decode cX4_figureOf 37 = .ok (.istore_n 2, 1) := by decide +kernel
theorem dX4_figureOf_38 : decode cX4_figureOf 38 = .ok (.iload_n 2, 1) := by decide +kernel
theorem dX4_figureOf_39 : decode cX4_figureOf 39 = .ok (.i2l, 1) := by decide +kernel
theorem dX4_figureOf_40 : decode cX4_figureOf 40 = .ok (.lconst 0, 1) := by decide +kernel
theorem dX4_figureOf_41 : decode cX4_figureOf 41 = .ok (.ldc2_w 69, 3) := by decide +kernel
theorem dX4_figureOf_44 : decode cX4_figureOf 44 = .ok (.invokestatic 56, 3) := by decide +kernel
theorem dX4_figureOf_47 : decode cX4_figureOf 47 = .ok (.ifCond .eq 11, 3) := by decide +kernel
theorem dX4_figureOf_50 : decode cX4_figureOf 50 = .ok (.iload_n 1, 1) := by decide +kernel
theorem dX4_figureOf_51 : decode cX4_figureOf 51 = .ok (.iload_n 2, 1) := by decide +kernel
theorem dX4_figureOf_52 : decode cX4_figureOf 52 = .ok (.invokestatic 71, 3) := by decide +kernel
theorem dX4_figureOf_55 : decode cX4_figureOf 55 = .ok (.ifCond .ne 29, 3) := by decide +kernel
theorem dX4_figureOf_58 : decode cX4_figureOf 58 = .ok (.aload_n 0, 1) := by decide +kernel
theorem dX4_figureOf_59 : decode cX4_figureOf 59 = .ok (.aload_n 0, 1) := by decide +kernel
theorem dX4_figureOf_60 : decode cX4_figureOf 60 = .ok (.getfield 63, 3) := by decide +kernel
theorem dX4_figureOf_63 : decode cX4_figureOf 63 = .ok (.bipush (-9), 2) := by decide +kernel
theorem dX4_figureOf_65 : decode cX4_figureOf 65 = .ok (.if_icmp .ne 10, 3) := by decide +kernel
theorem dX4_figureOf_68 : decode cX4_figureOf 68 = .ok (.aload_n 0, 1) := by decide +kernel
theorem dX4_figureOf_69 : decode cX4_figureOf 69 = .ok (.getfield 66, 3) := by decide +kernel
theorem dX4_figureOf_72 : decode cX4_figureOf 72 = .ok (.goto 7, 3) := by decide +kernel
theorem dX4_figureOf_75 : decode cX4_figureOf 75 = .ok (.aload_n 0, 1) := by decide +kernel
theorem dX4_figureOf_76 : decode cX4_figureOf 76 = .ok (.getfield 63, 3) := by decide +kernel
theorem dX4_figureOf_79 : decode cX4_figureOf 79 = .ok (.putfield 63, 3) := by decide +kernel
theorem dX4_figureOf_82 : decode cX4_figureOf 82 = .ok (.iconst 0, 1) := by decide +kernel
theorem dX4_figureOf_83 : decode cX4_figureOf 83 = .ok (.ireturn, 1) := by decide +kernel
theorem dX4_figureOf_84 : decode cX4_figureOf 84 = .ok (.aload_n 0, 1) := by decide +kernel
theorem dX4_figureOf_85 : decode cX4_figureOf 85 = .ok (.dup, 1) := by decide +kernel
theorem dX4_figureOf_86 : decode cX4_figureOf 86 = .ok (.getfield 66, 3) := by decide +kernel
theorem dX4_figureOf_89 : decode cX4_figureOf 89 = .ok (.iconst 1, 1) := by decide +kernel
theorem dX4_figureOf_90 : decode cX4_figureOf 90 = .ok (.iadd, 1) := by decide +kernel
theorem dX4_figureOf_91 : decode cX4_figureOf 91 = .ok (.putfield 66, 3) := by decide +kernel
theorem dX4_figureOf_94 : decode cX4_figureOf 94 = .ok (.iload_n 2, 1) := by decide +kernel
theorem dX4_figureOf_95 : decode cX4_figureOf 95 = .ok (.ireturn, 1) := by decide +kernel
theorem dX4_left_0 : decode cX4_left 0 = .ok (.iconst 1, 1) := by decide +kernel
theorem dX4_left_1 : decode cX4_left 1 = .ok (.aload_n 0, 1) := by decide +kernel
theorem dX4_left_2 : decode cX4_left 2 = .ok (.getfield 75, 3) := by decide +kernel
theorem dX4_left_5 : decode cX4_left 5 = .ok (.ishl, 1) := by decide +kernel
theorem dX4_left_6 : decode cX4_left 6 = .ok (.iconst 1, 1) := by decide +kernel
theorem dX4_left_7 : decode cX4_left 7 = .ok (.isub, 1) := by decide +kernel
theorem dX4_left_8 : decode cX4_left 8 = .ok (.aload_n 0, 1) := by decide +kernel
theorem dX4_left_9 : decode cX4_left 9 = .ok (.getfield 22, 3) := by decide +kernel
theorem dX4_left_12 : decode cX4_left 12 = .ok (.iload_n 1, 1) := by decide +kernel
theorem dX4_left_13 : decode cX4_left 13 = .ok (.iaload, 1) := by decide +kernel
theorem dX4_left_14 : decode cX4_left 14 = .ok (.iconst (-1), 1) := by decide +kernel
theorem dX4_left_15 : decode cX4_left 15 = .ok (.ixor, 1) := by decide +kernel
theorem dX4_left_16 : decode cX4_left 16 = .ok (.iand, 1) := by decide +kernel
theorem dX4_left_17 : decode cX4_left 17 = .ok (.iconst 1, 1) := by decide +kernel
theorem dX4_left_18 : decode cX4_left 18 = .ok (.iload_n 1, 1) := by decide +kernel
theorem dX4_left_19 : decode cX4_left 19 = .ok (.ishl, 1) := by decide +kernel
theorem dX4_left_20 : decode cX4_left 20 = .ok (.iconst (-1), 1) := by decide +kernel
theorem dX4_left_21 : decode cX4_left 21 = .ok (.ixor, 1) := by decide +kernel
theorem dX4_left_22 : decode cX4_left 22 = .ok (.iand, 1) := by decide +kernel
theorem dX4_left_23 : decode cX4_left 23 = .ok (.ireturn, 1) := by decide +kernel
theorem dX4_firstsLeft_0 : decode cX4_firstsLeft 0 = .ok (.iconst 0, 1) := by decide +kernel
theorem dX4_firstsLeft_1 : decode cX4_firstsLeft 1 = .ok (.istore_n 1, 1) := by decide +kernel
theorem dX4_firstsLeft_2 : decode cX4_firstsLeft 2 = .ok (.iconst 0, 1) := by decide +kernel
theorem dX4_firstsLeft_3 : decode cX4_firstsLeft 3 = .ok (.istore_n 2, 1) := by decide +kernel
theorem dX4_firstsLeft_4 : decode cX4_firstsLeft 4 = .ok (.iload_n 2, 1) := by decide +kernel
theorem dX4_firstsLeft_5 : decode cX4_firstsLeft 5 = .ok (.aload_n 0, 1) := by decide +kernel
theorem dX4_firstsLeft_6 : decode cX4_firstsLeft 6 = .ok (.getfield 75, 3) := by decide +kernel
theorem dX4_firstsLeft_9 : decode cX4_firstsLeft 9 = .ok (.if_icmp .ge 27, 3) := by decide +kernel
theorem dX4_firstsLeft_12 : decode cX4_firstsLeft 12 = .ok (.iload_n 1, 1) := by decide +kernel
theorem dX4_firstsLeft_13 : decode cX4_firstsLeft 13 = .ok (.aload_n 0, 1) := by decide +kernel
theorem dX4_firstsLeft_14 : decode cX4_firstsLeft 14 = .ok (.iload_n 2, 1) := by decide +kernel
theorem dX4_firstsLeft_15 : decode cX4_firstsLeft 15 = .ok (.invokevirtual 78, 3) := by decide +kernel
theorem dX4_firstsLeft_18 : decode cX4_firstsLeft 18 = .ok (.ifCond .eq 9, 3) := by decide +kernel
theorem dX4_firstsLeft_21 : decode cX4_firstsLeft 21 = .ok (.iconst 1, 1) := by decide +kernel
theorem dX4_firstsLeft_22 : decode cX4_firstsLeft 22 = .ok (.iload_n 2, 1) := by decide +kernel
theorem dX4_firstsLeft_23 : decode cX4_firstsLeft 23 = .ok (.ishl, 1) := by decide +kernel
theorem dX4_firstsLeft_24 : decode cX4_firstsLeft 24 = .ok (.goto 4, 3) := by decide +kernel
theorem dX4_firstsLeft_27 : decode cX4_firstsLeft 27 = .ok (.iconst 0, 1) := by decide +kernel
theorem dX4_firstsLeft_28 : decode cX4_firstsLeft 28 = .ok (.ior, 1) := by decide +kernel
theorem dX4_firstsLeft_29 : decode cX4_firstsLeft 29 = .ok (.istore_n 1, 1) := by decide +kernel
theorem dX4_firstsLeft_30 : decode cX4_firstsLeft 30 = .ok (.iinc 2 1, 3) := by decide +kernel
theorem dX4_firstsLeft_33 : decode cX4_firstsLeft 33 = .ok (.goto (-29), 3) := by decide +kernel
theorem dX4_firstsLeft_36 : decode cX4_firstsLeft 36 = .ok (.iload_n 1, 1) := by decide +kernel
theorem dX4_firstsLeft_37 : decode cX4_firstsLeft 37 = .ok (.ireturn, 1) := by decide +kernel
theorem dX4_readText_0 : decode cX4_readText 0 = .ok (.aload_n 0, 1) := by decide +kernel
theorem dX4_readText_1 : decode cX4_readText 1 = .ok (.iconst 0, 1) := by decide +kernel
theorem dX4_readText_2 : decode cX4_readText 2 = .ok (.putfield 66, 3) := by decide +kernel
theorem dX4_readText_5 : decode cX4_readText 5 = .ok (.aload_n 0, 1) := by decide +kernel
theorem dX4_readText_6 : decode cX4_readText 6 = .ok (.bipush (-9), 2) := by decide +kernel
theorem dX4_readText_8 : decode cX4_readText 8 = .ok (.putfield 63, 3) := by decide +kernel
theorem dX4_readText_11 : decode cX4_readText 11 = .ok (.aload_n 0, 1) := by decide +kernel
theorem dX4_readText_12 : decode cX4_readText 12 = .ok (.iconst 0, 1) := by decide +kernel
theorem dX4_readText_13 : decode cX4_readText 13 = .ok (.putfield 75, 3) := by decide +kernel
theorem dX4_readText_16 : decode cX4_readText 16 = .ok (.aload_n 0, 1) := by decide +kernel
theorem dX4_readText_17 : decode cX4_readText 17 = .ok (.iconst 0, 1) := by decide +kernel
theorem dX4_readText_18 : decode cX4_readText 18 = .ok (.putfield 82, 3) := by decide +kernel
theorem dX4_readText_21 : decode cX4_readText 21 = .ok (.iconst 0, 1) := by decide +kernel
theorem dX4_readText_22 : decode cX4_readText 22 = .ok (.istore_n 1, 1) := by decide +kernel
theorem dX4_readText_23 : decode cX4_readText 23 = .ok (.iload_n 1, 1) := by decide +kernel
theorem dX4_readText_24 : decode cX4_readText 24 = .ok (.iconst 5, 1) := by decide +kernel
theorem dX4_readText_25 : decode cX4_readText 25 = .ok (.if_icmp .ge 16, 3) := by decide +kernel
theorem dX4_readText_28 : decode cX4_readText 28 = .ok (.aload_n 0, 1) := by decide +kernel
theorem dX4_readText_29 : decode cX4_readText 29 = .ok (.getfield 22, 3) := by decide +kernel
theorem dX4_readText_32 : decode cX4_readText 32 = .ok (.iload_n 1, 1) := by decide +kernel
theorem dX4_readText_33 : decode cX4_readText 33 = .ok (.iconst 0, 1) := by decide +kernel
theorem dX4_readText_34 : decode cX4_readText 34 = .ok (.iastore, 1) := by decide +kernel
theorem dX4_readText_35 : decode cX4_readText 35 = .ok (.iinc 1 1, 3) := by decide +kernel
theorem dX4_readText_38 : decode cX4_readText 38 = .ok (.goto (-15), 3) := by decide +kernel
theorem dX4_readText_41 : decode cX4_readText 41 = .ok (.aload_n 0, 1) := by decide +kernel
theorem dX4_readText_42 : decode cX4_readText 42 = .ok (.getfield 60, 3) := by decide +kernel
theorem dX4_readText_45 : decode cX4_readText 45 = .ok (.ifCond .eq 14, 3) := by decide +kernel
theorem dX4_readText_48 : decode cX4_readText 48 = .ok (.aload_n 0, 1) := by decide +kernel
theorem dX4_readText_49 : decode cX4_readText 49 = .ok (.getfield 28, 3) := by decide +kernel
theorem dX4_readText_52 : decode cX4_readText 52 = .ok (.iconst 0, 1) := by decide +kernel
theorem dX4_readText_53 : decode cX4_readText 53 = .ok (.iaload, 1) := by decide +kernel
theorem dX4_readText_54 : decode cX4_readText 54 = .ok (.bipush 65, 2) := by decide +kernel
theorem dX4_readText_56 : decode cX4_readText 56 = .ok (.if_icmp .eq 5, 3) := by decide +kernel
theorem dX4_readText_59 : decode cX4_readText 59 = .ok (.iconst 0, 1) := by decide +kernel
theorem dX4_readText_60 : decode cX4_readText 60 = .ok (.ireturn, 1) := by decide +kernel
theorem dX4_readText_61 : decode cX4_readText 61 = .ok (.aload_n 0, 1) := by decide +kernel
theorem dX4_readText_62 : decode cX4_readText 62 = .ok (.iconst 1, 1) := by decide +kernel
theorem dX4_readText_63 : decode cX4_readText 63 = .ok (.putfield 66, 3) := by decide +kernel
theorem dX4_readText_66 : decode cX4_readText 66 = .ok (.aload_n 0, 1) := by decide +kernel
theorem dX4_readText_67 : decode cX4_readText 67 = .ok (.getfield 63, 3) := by decide +kernel
theorem dX4_readText_70 : decode cX4_readText 70 = .ok (.bipush (-9), 2) := by decide +kernel
theorem dX4_readText_72 : decode cX4_readText 72 = .ok (.if_icmp .ne 30, 3) := by decide +kernel
theorem dX4_readText_75 : decode cX4_readText 75 = .ok (.aload_n 0, 1) := by decide +kernel
theorem dX4_readText_76 : decode cX4_readText 76 = .ok (.getfield 66, 3) := by decide +kernel
theorem dX4_readText_79 : decode cX4_readText 79 = .ok (.aload_n 0, 1) := by decide +kernel
theorem dX4_readText_80 : decode cX4_readText 80 = .ok (.getfield 60, 3) := by decide +kernel
theorem dX4_readText_83 : decode cX4_readText 83 = .ok (.if_icmp .ge 19, 3) := by decide +kernel
theorem dX4_readText_86 : decode cX4_readText 86 = .ok (.aload_n 0, 1) := by decide +kernel
theorem dX4_readText_87 : decode cX4_readText 87 = .ok (.aload_n 0, 1) := by decide +kernel
theorem dX4_readText_88 : decode cX4_readText 88 = .ok (.getfield 28, 3) := by decide +kernel
theorem dX4_readText_91 : decode cX4_readText 91 = .ok (.aload_n 0, 1) := by decide +kernel
theorem dX4_readText_92 : decode cX4_readText 92 = .ok (.getfield 66, 3) := by decide +kernel
theorem dX4_readText_95 : decode cX4_readText 95 = .ok (.iaload, 1) := by decide +kernel
theorem dX4_readText_96 : decode cX4_readText 96 = .ok (.invokevirtual 85, 3) := by decide +kernel
theorem dX4_readText_99 : decode cX4_readText 99 = .ok (.goto (-33), 3) := by decide +kernel
theorem dX4_readText_102 : decode cX4_readText 102 = .ok (.aload_n 0, 1) := by decide +kernel
theorem dX4_readText_103 : decode cX4_readText 103 = .ok (.getfield 63, 3) := by decide +kernel
theorem dX4_readText_106 : decode cX4_readText 106 = .ok (.ireturn, 1) := by decide +kernel
theorem dX4_readPart_0 : decode cX4_readPart 0 = .ok (.iload_n 1, 1) := by decide +kernel
theorem dX4_readPart_1 : decode cX4_readPart 1 = .ok (.bipush 83, 2) := by decide +kernel
theorem dX4_readPart_3 : decode cX4_readPart 3 = .ok (.if_icmp .ne 91, 3) := by decide +kernel
theorem dX4_readPart_6 : decode cX4_readPart 6 = .ok (.aload_n 0, 1) := by decide +kernel
theorem dX4_readPart_7 : decode cX4_readPart 7 = .ok (.getfield 75, 3) := by decide +kernel
theorem dX4_readPart_10 : decode cX4_readPart 10 = .ok (.iconst 5, 1) := by decide +kernel
theorem dX4_readPart_11 : decode cX4_readPart 11 = .ok (.if_icmp .ge 83, 3) := by decide +kernel
theorem dX4_readPart_14 : decode cX4_readPart 14 = .ok (.aload_n 0, 1) := by decide +kernel
theorem dX4_readPart_15 : decode cX4_readPart 15 = .ok (.dup, 1) := by decide +kernel
theorem dX4_readPart_16 : decode cX4_readPart 16 = .ok (.getfield 66, 3) := by decide +kernel
theorem dX4_readPart_19 : decode cX4_readPart 19 = .ok (.iconst 1, 1) := by decide +kernel
theorem dX4_readPart_20 : decode cX4_readPart 20 = .ok (.iadd, 1) := by decide +kernel
theorem dX4_readPart_21 : decode cX4_readPart 21 = .ok (.putfield 66, 3) := by decide +kernel
theorem dX4_readPart_24 : decode cX4_readPart 24 = .ok (.aload_n 0, 1) := by decide +kernel
theorem dX4_readPart_25 : decode cX4_readPart 25 = .ok (.getfield 19, 3) := by decide +kernel
theorem dX4_readPart_28 : decode cX4_readPart 28 = .ok (.iconst 3, 1) := by decide +kernel
theorem dX4_readPart_29 : decode cX4_readPart 29 = .ok (.aload_n 0, 1) := by decide +kernel
theorem dX4_readPart_30 : decode cX4_readPart 30 = .ok (.getfield 75, 3) := by decide +kernel
theorem dX4_readPart_33 : decode cX4_readPart 33 = .ok (.imul, 1) := by decide +kernel
theorem dX4_readPart_34 : decode cX4_readPart 34 = .ok (.aload_n 0, 1) := by decide +kernel
theorem dX4_readPart_35 : decode cX4_readPart 35 = .ok (.sipush 1023, 3) := by decide +kernel
theorem dX4_readPart_38 : decode cX4_readPart 38 = .ok (.invokevirtual 89, 3) := by decide +kernel
theorem dX4_readPart_41 : decode cX4_readPart 41 = .ok (.iastore, 1) := by decide +kernel
theorem dX4_readPart_42 : decode cX4_readPart 42 = .ok (.aload_n 0, 1) := by decide +kernel
theorem dX4_readPart_43 : decode cX4_readPart 43 = .ok (.getfield 19, 3) := by decide +kernel
theorem dX4_readPart_46 : decode cX4_readPart 46 = .ok (.iconst 3, 1) := by decide +kernel
theorem dX4_readPart_47 : decode cX4_readPart 47 = .ok (.aload_n 0, 1) := by decide +kernel
theorem dX4_readPart_48 : decode cX4_readPart 48 = .ok (.getfield 75, 3) := by decide +kernel
theorem dX4_readPart_51 : decode cX4_readPart 51 = .ok (.imul, 1) := by decide +kernel
theorem dX4_readPart_52 : decode cX4_readPart 52 = .ok (.iconst 1, 1) := by decide +kernel
theorem dX4_readPart_53 : decode cX4_readPart 53 = .ok (.iadd, 1) := by decide +kernel
theorem dX4_readPart_54 : decode cX4_readPart 54 = .ok (.aload_n 0, 1) := by decide +kernel
theorem dX4_readPart_55 : decode cX4_readPart 55 = .ok (.sipush 1023, 3) := by decide +kernel
theorem dX4_readPart_58 : decode cX4_readPart 58 = .ok (.invokevirtual 89, 3) := by decide +kernel
theorem dX4_readPart_61 : decode cX4_readPart 61 = .ok (.iastore, 1) := by decide +kernel
theorem dX4_readPart_62 : decode cX4_readPart 62 = .ok (.aload_n 0, 1) := by decide +kernel
theorem dX4_readPart_63 : decode cX4_readPart 63 = .ok (.getfield 19, 3) := by decide +kernel
theorem dX4_readPart_66 : decode cX4_readPart 66 = .ok (.iconst 3, 1) := by decide +kernel
theorem dX4_readPart_67 : decode cX4_readPart 67 = .ok (.aload_n 0, 1) := by decide +kernel
theorem dX4_readPart_68 : decode cX4_readPart 68 = .ok (.getfield 75, 3) := by decide +kernel
theorem dX4_readPart_71 : decode cX4_readPart 71 = .ok (.imul, 1) := by decide +kernel
theorem dX4_readPart_72 : decode cX4_readPart 72 = .ok (.iconst 2, 1) := by decide +kernel
theorem dX4_readPart_73 : decode cX4_readPart 73 = .ok (.iadd, 1) := by decide +kernel
theorem dX4_readPart_74 : decode cX4_readPart 74 = .ok (.aload_n 0, 1) := by decide +kernel
theorem dX4_readPart_75 : decode cX4_readPart 75 = .ok (.bipush 15, 2) := by decide +kernel
theorem dX4_readPart_77 : decode cX4_readPart 77 = .ok (.invokevirtual 89, 3) := by decide +kernel
theorem dX4_readPart_80 : decode cX4_readPart 80 = .ok (.iastore, 1) := by decide +kernel
theorem dX4_readPart_81 : decode cX4_readPart 81 = .ok (.aload_n 0, 1) := by decide +kernel
theorem dX4_readPart_82 : decode cX4_readPart 82 = .ok (.dup, 1) := by decide +kernel
theorem dX4_readPart_83 : decode cX4_readPart 83 = .ok (.getfield 75, 3) := by decide +kernel
theorem dX4_readPart_86 : decode cX4_readPart 86 = .ok (.iconst 1, 1) := by decide +kernel
theorem dX4_readPart_87 : decode cX4_readPart 87 = .ok (.iadd, 1) := by decide +kernel
theorem dX4_readPart_88 : decode cX4_readPart 88 = .ok (.putfield 75, 3) := by decide +kernel
theorem dX4_readPart_91 : decode cX4_readPart 91 = .ok (.goto 181, 3) := by decide +kernel
theorem dX4_readPart_94 : decode cX4_readPart 94 = .ok (.iload_n 1, 1) := by decide +kernel
theorem dX4_readPart_95 : decode cX4_readPart 95 = .ok (.bipush 74, 2) := by decide +kernel
theorem dX4_readPart_97 : decode cX4_readPart 97 = .ok (.if_icmp .ne 92, 3) := by decide +kernel
theorem dX4_readPart_100 : decode cX4_readPart 100 = .ok (.aload_n 0, 1) := by decide +kernel
theorem dX4_readPart_101 : decode cX4_readPart 101 = .ok (.invokevirtual 92, 3) := by decide +kernel
theorem dX4_readPart_104 : decode cX4_readPart 104 = .ok (.ifCond .eq 85, 3) := by decide +kernel
theorem dX4_readPart_107 : decode cX4_readPart 107 = .ok (.aload_n 0, 1) := by decide +kernel
theorem dX4_readPart_108 : decode cX4_readPart 108 = .ok (.dup, 1) := by decide +kernel
theorem dX4_readPart_109 : decode cX4_readPart 109 = .ok (.getfield 66, 3) := by decide +kernel
theorem dX4_readPart_112 : decode cX4_readPart 112 = .ok (.iconst 1, 1) := by decide +kernel
theorem dX4_readPart_113 : decode cX4_readPart 113 = .ok (.iadd, 1) := by decide +kernel
theorem dX4_readPart_114 : decode cX4_readPart 114 = .ok (.putfield 66, 3) := by decide +kernel
theorem dX4_readPart_117 : decode cX4_readPart 117 = .ok (.aload_n 0, 1) := by decide +kernel
theorem dX4_readPart_118 : decode cX4_readPart 118 = .ok (.aload_n 0, 1) := by decide +kernel
theorem dX4_readPart_119 : decode cX4_readPart 119 = .ok (.invokevirtual 92, 3) := by decide +kernel
theorem dX4_readPart_122 : decode cX4_readPart 122 = .ok (.invokevirtual 89, 3) := by decide +kernel
theorem dX4_readPart_125 : decode cX4_readPart 125 = .ok (.istore_n 2, 1) := by decide +kernel
theorem dX4_readPart_126 : decode cX4_readPart 126 = .ok (.aload_n 0, 1) := by decide +kernel
theorem dX4_readPart_127 : decode cX4_readPart 127 = .ok (.aload_n 0, 1) := by decide +kernel
theorem dX4_readPart_128 : decode cX4_readPart 128 = .ok (.iload_n 2, 1) := by decide +kernel
theorem dX4_readPart_129 : decode cX4_readPart 129 = .ok (.invokevirtual 78, 3) := by decide +kernel
theorem dX4_readPart_132 : decode cX4_readPart 132 = .ok (.invokevirtual 89, 3) := by decide +kernel
theorem dX4_readPart_135 : decode cX4_readPart 135 = .ok (.istore_n 3, 1) := by decide +kernel
theorem dX4_readPart_136 : decode cX4_readPart 136 = .ok (.aload_n 0, 1) := by decide +kernel
theorem dX4_readPart_137 : decode cX4_readPart 137 = .ok (.getfield 22, 3) := by decide +kernel
theorem dX4_readPart_140 : decode cX4_readPart 140 = .ok (.iload_n 2, 1) := by decide +kernel
theorem dX4_readPart_141 : decode cX4_readPart 141 = .ok (.dup2, 1) := by decide +kernel
theorem dX4_readPart_142 : decode cX4_readPart 142 = .ok (.iaload, 1) := by decide +kernel
theorem dX4_readPart_143 : decode cX4_readPart 143 = .ok (.aload_n 0, 1) := by decide +kernel
theorem dX4_readPart_144 : decode cX4_readPart 144 = .ok (.getfield 63, 3) := by decide +kernel
theorem dX4_readPart_147 : decode cX4_readPart 147 = .ok (.bipush (-9), 2) := by decide +kernel
theorem dX4_readPart_149 : decode cX4_readPart 149 = .ok (.if_icmp .ne 9, 3) := by decide +kernel
theorem dX4_readPart_152 : decode cX4_readPart 152 = .ok (.iconst 1, 1) := by decide +kernel
theorem dX4_readPart_153 : decode cX4_readPart 153 = .ok (.iload_n 3, 1) := by decide +kernel
theorem dX4_readPart_154 : decode cX4_readPart 154 = .ok (.ishl, 1) := by decide +kernel
theorem dX4_readPart_155 : decode cX4_readPart 155 = .ok (.goto 4, 3) := by decide +kernel
theorem dX4_readPart_158 : decode cX4_readPart 158 = .ok (.iconst 0, 1) := by decide +kernel
theorem dX4_readPart_159 : decode cX4_readPart 159 = .ok (.ior, 1) := by decide +kernel
theorem dX4_readPart_160 : decode cX4_readPart 160 = .ok (.iastore, 1) := by decide +kernel
theorem dX4_readPart_161 : decode cX4_readPart 161 = .ok (.aload_n 0, 1) := by decide +kernel
theorem dX4_readPart_162 : decode cX4_readPart 162 = .ok (.getfield 22, 3) := by decide +kernel
theorem dX4_readPart_165 : decode cX4_readPart 165 = .ok (.iload_n 3, 1) := by decide +kernel
theorem dX4_readPart_166 : decode cX4_readPart 166 = .ok (.dup2, 1) := by decide +kernel
theorem dX4_readPart_167 : decode cX4_readPart 167 = .ok (.iaload, 1) := by decide +kernel
theorem dX4_readPart_168 : decode cX4_readPart 168 = .ok (.aload_n 0, 1) := by decide +kernel
theorem dX4_readPart_169 : decode cX4_readPart 169 = .ok (.getfield 63, 3) := by decide +kernel
theorem dX4_readPart_172 : decode cX4_readPart 172 = .ok (.bipush (-9), 2) := by decide +kernel
theorem dX4_readPart_174 : decode cX4_readPart 174 = .ok (.if_icmp .ne 9, 3) := by decide +kernel
theorem dX4_readPart_177 : decode cX4_readPart 177 = .ok (.iconst 1, 1) := by decide +kernel
theorem dX4_readPart_178 : decode cX4_readPart 178 = .ok (.iload_n 2, 1) := by decide +kernel
theorem dX4_readPart_179 : decode cX4_readPart 179 = .ok (.ishl, 1) := by decide +kernel
theorem dX4_readPart_180 : decode cX4_readPart 180 = .ok (.goto 4, 3) := by decide +kernel
theorem dX4_readPart_183 : decode cX4_readPart 183 = .ok (.iconst 0, 1) := by decide +kernel
theorem dX4_readPart_184 : decode cX4_readPart 184 = .ok (.ior, 1) := by decide +kernel
theorem dX4_readPart_185 : decode cX4_readPart 185 = .ok (.iastore, 1) := by decide +kernel
theorem dX4_readPart_186 : decode cX4_readPart 186 = .ok (.goto 86, 3) := by decide +kernel
theorem dX4_readPart_189 : decode cX4_readPart 189 = .ok (.iload_n 1, 1) := by decide +kernel
theorem dX4_readPart_190 : decode cX4_readPart 190 = .ok (.bipush 76, 2) := by decide +kernel
theorem dX4_readPart_192 : decode cX4_readPart 192 = .ok (.if_icmp .ne 72, 3) := by decide +kernel
theorem dX4_readPart_195 : decode cX4_readPart 195 = .ok (.aload_n 0, 1) := by decide +kernel
theorem dX4_readPart_196 : decode cX4_readPart 196 = .ok (.getfield 82, 3) := by decide +kernel
theorem dX4_readPart_199 : decode cX4_readPart 199 = .ok (.iconst 4, 1) := by decide +kernel
theorem dX4_readPart_200 : decode cX4_readPart 200 = .ok (.if_icmp .ge 64, 3) := by decide +kernel
theorem dX4_readPart_203 : decode cX4_readPart 203 = .ok (.aload_n 0, 1) := by decide +kernel
theorem dX4_readPart_204 : decode cX4_readPart 204 = .ok (.dup, 1) := by decide +kernel
theorem dX4_readPart_205 : decode cX4_readPart 205 = .ok (.getfield 66, 3) := by decide +kernel
theorem dX4_readPart_208 : decode cX4_readPart 208 = .ok (.iconst 1, 1) := by decide +kernel
theorem dX4_readPart_209 : decode cX4_readPart 209 = .ok (.iadd, 1) := by decide +kernel
theorem dX4_readPart_210 : decode cX4_readPart 210 = .ok (.putfield 66, 3) := by decide +kernel
theorem dX4_readPart_213 : decode cX4_readPart 213 = .ok (.aload_n 0, 1) := by decide +kernel
theorem dX4_readPart_214 : decode cX4_readPart 214 = .ok (.getfield 25, 3) := by decide +kernel
theorem dX4_readPart_217 : decode cX4_readPart 217 = .ok (.iconst 2, 1) := by decide +kernel
theorem dX4_readPart_218 : decode cX4_readPart 218 = .ok (.aload_n 0, 1) := by decide +kernel
theorem dX4_readPart_219 : decode cX4_readPart 219 = .ok (.getfield 82, 3) := by decide +kernel
theorem dX4_readPart_222 : decode cX4_readPart 222 = .ok (.imul, 1) := by decide +kernel
theorem dX4_readPart_223 : decode cX4_readPart 223 = .ok (.aload_n 0, 1) := by decide +kernel
theorem dX4_readPart_224 : decode cX4_readPart 224 = .ok (.sipush 1022, 3) := by decide +kernel
theorem dX4_readPart_227 : decode cX4_readPart 227 = .ok (.invokevirtual 89, 3) := by decide +kernel
theorem dX4_readPart_230 : decode cX4_readPart 230 = .ok (.iastore, 1) := by decide +kernel
theorem dX4_readPart_231 : decode cX4_readPart 231 = .ok (.aload_n 0, 1) := by decide +kernel
theorem dX4_readPart_232 : decode cX4_readPart 232 = .ok (.getfield 25, 3) := by decide +kernel
theorem dX4_readPart_235 : decode cX4_readPart 235 = .ok (.iconst 2, 1) := by decide +kernel
theorem dX4_readPart_236 : decode cX4_readPart 236 = .ok (.aload_n 0, 1) := by decide +kernel
theorem dX4_readPart_237 : decode cX4_readPart 237 = .ok (.getfield 82, 3) := by decide +kernel
theorem dX4_readPart_240 : decode cX4_readPart 240 = .ok (.imul, 1) := by decide +kernel
theorem dX4_readPart_241 : decode cX4_readPart 241 = .ok (.iconst 1, 1) := by decide +kernel
theorem dX4_readPart_242 : decode cX4_readPart 242 = .ok (.iadd, 1) := by decide +kernel
theorem dX4_readPart_243 : decode cX4_readPart 243 = .ok (.aload_n 0, 1) := by decide +kernel
theorem dX4_readPart_244 : decode cX4_readPart 244 = .ok (.sipush 1022, 3) := by decide +kernel
theorem dX4_readPart_247 : decode cX4_readPart 247 = .ok (.invokevirtual 89, 3) := by decide +kernel
theorem dX4_readPart_250 : decode cX4_readPart 250 = .ok (.iastore, 1) := by decide +kernel
theorem dX4_readPart_251 : decode cX4_readPart 251 = .ok (.aload_n 0, 1) := by decide +kernel
theorem dX4_readPart_252 : decode cX4_readPart 252 = .ok (.dup, 1) := by decide +kernel
theorem dX4_readPart_253 : decode cX4_readPart 253 = .ok (.getfield 82, 3) := by decide +kernel
theorem dX4_readPart_256 : decode cX4_readPart 256 = .ok (.iconst 1, 1) := by decide +kernel
theorem dX4_readPart_257 : decode cX4_readPart 257 = .ok (.iadd, 1) := by decide +kernel
theorem dX4_readPart_258 : decode cX4_readPart 258 = .ok (.putfield 82, 3) := by decide +kernel
theorem dX4_readPart_261 : decode cX4_readPart 261 = .ok (.goto 11, 3) := by decide +kernel
theorem dX4_readPart_264 : decode cX4_readPart 264 = .ok (.aload_n 0, 1) := by decide +kernel
theorem dX4_readPart_265 : decode cX4_readPart 265 = .ok (.aload_n 0, 1) := by decide +kernel
theorem dX4_readPart_266 : decode cX4_readPart 266 = .ok (.getfield 66, 3) := by decide +kernel
theorem dX4_readPart_269 : decode cX4_readPart 269 = .ok (.putfield 63, 3) := by decide +kernel
theorem dX4_readPart_272 : decode cX4_readPart 272 = .ok (.return_, 1) := by decide +kernel
theorem dX4_fault_0 : decode cX4_fault 0 = .ok (.aload_n 0, 1) := by decide +kernel
theorem dX4_fault_1 : decode cX4_fault 1 = .ok (.invokevirtual 96, 3) := by decide +kernel
theorem dX4_fault_4 : decode cX4_fault 4 = .ok (.ireturn, 1) := by decide +kernel
theorem dX4_album_0 : decode cX4_album 0 = .ok (.aload_n 0, 1) := by decide +kernel
theorem dX4_album_1 : decode cX4_album 1 = .ok (.invokevirtual 96, 3) := by decide +kernel
theorem dX4_album_4 : decode cX4_album 4 = .ok (.bipush (-9), 2) := by decide +kernel
theorem dX4_album_6 : decode cX4_album 6 = .ok (.if_icmp .eq 6, 3) := by decide +kernel
theorem dX4_album_9 : decode cX4_album 9 = .ok (.bipush (-3), 2) := by decide +kernel
theorem dX4_album_11 : decode cX4_album 11 = .ok (.ireturn, 1) := by decide +kernel
theorem dX4_album_12 : decode cX4_album 12 = .ok (.aload_n 0, 1) := by decide +kernel
theorem dX4_album_13 : decode cX4_album 13 = .ok (.aload_n 0, 1) := by decide +kernel
theorem dX4_album_14 : decode cX4_album 14 = .ok (.getfield 75, 3) := by decide +kernel
theorem dX4_album_17 : decode cX4_album 17 = .ok (.putfield 50, 3) := by decide +kernel
theorem dX4_album_20 : decode cX4_album 20 = .ok (.aload_n 0, 1) := by decide +kernel
theorem dX4_album_21 : decode cX4_album 21 = .ok (.aload_n 0, 1) := by decide +kernel
theorem dX4_album_22 : decode cX4_album 22 = .ok (.getfield 82, 3) := by decide +kernel
theorem dX4_album_25 : decode cX4_album 25 = .ok (.putfield 99, 3) := by decide +kernel
theorem dX4_album_28 : decode cX4_album 28 = .ok (.iconst 0, 1) := by decide +kernel
theorem dX4_album_29 : decode cX4_album 29 = .ok (.istore_n 1, 1) := by decide +kernel
theorem dX4_album_30 : decode cX4_album 30 = .ok (.iload_n 1, 1) := by decide +kernel
theorem dX4_album_31 : decode cX4_album 31 = .ok (.bipush 30, 2) := by decide +kernel
theorem dX4_album_33 : decode cX4_album 33 = .ok (.if_icmp .ge 16, 3) := by decide +kernel
theorem dX4_album_36 : decode cX4_album 36 = .ok (.aload_n 0, 1) := by decide +kernel
theorem dX4_album_37 : decode cX4_album 37 = .ok (.getfield 16, 3) := by decide +kernel
theorem dX4_album_40 : decode cX4_album 40 = .ok (.iload_n 1, 1) := by decide +kernel
theorem dX4_album_41 : decode cX4_album 41 = .ok (.iconst 0, 1) := by decide +kernel
theorem dX4_album_42 : decode cX4_album 42 = .ok (.iastore, 1) := by decide +kernel
theorem dX4_album_43 : decode cX4_album 43 = .ok (.iinc 1 1, 3) := by decide +kernel
theorem dX4_album_46 : decode cX4_album 46 = .ok (.goto (-16), 3) := by decide +kernel
theorem dX4_album_49 : decode cX4_album 49 = .ok (.iconst 0, 1) := by decide +kernel
theorem dX4_album_50 : decode cX4_album 50 = .ok (.istore_n 1, 1) := by decide +kernel
theorem dX4_album_51 : decode cX4_album 51 = .ok (.iload_n 1, 1) := by decide +kernel
theorem dX4_album_52 : decode cX4_album 52 = .ok (.aload_n 0, 1) := by decide +kernel
theorem dX4_album_53 : decode cX4_album 53 = .ok (.getfield 50, 3) := by decide +kernel
theorem dX4_album_56 : decode cX4_album 56 = .ok (.if_icmp .ge 86, 3) := by decide +kernel
theorem dX4_album_59 : decode cX4_album 59 = .ok (.aload_n 0, 1) := by decide +kernel
theorem dX4_album_60 : decode cX4_album 60 = .ok (.getfield 16, 3) := by decide +kernel
theorem dX4_album_63 : decode cX4_album 63 = .ok (.iload_n 1, 1) := by decide +kernel
theorem dX4_album_64 : decode cX4_album 64 = .ok (.bipush 10, 2) := by decide +kernel
theorem dX4_album_66 : decode cX4_album 66 = .ok (.aload_n 0, 1) := by decide +kernel
theorem dX4_album_67 : decode cX4_album 67 = .ok (.getfield 19, 3) := by decide +kernel
theorem dX4_album_70 : decode cX4_album 70 = .ok (.iconst 3, 1) := by decide +kernel
theorem dX4_album_71 : decode cX4_album 71 = .ok (.iload_n 1, 1) := by decide +kernel
theorem dX4_album_72 : decode cX4_album 72 = .ok (.imul, 1) := by decide +kernel
theorem dX4_album_73 : decode cX4_album 73 = .ok (.iaload, 1) := by decide +kernel
theorem dX4_album_74 : decode cX4_album 74 = .ok (.imul, 1) := by decide +kernel
theorem dX4_album_75 : decode cX4_album 75 = .ok (.iastore, 1) := by decide +kernel
theorem dX4_album_76 : decode cX4_album 76 = .ok (.aload_n 0, 1) := by decide +kernel
theorem dX4_album_77 : decode cX4_album 77 = .ok (.getfield 16, 3) := by decide +kernel
theorem dX4_album_80 : decode cX4_album 80 = .ok (.iconst 5, 1) := by decide +kernel
theorem dX4_album_81 : decode cX4_album 81 = .ok (.iload_n 1, 1) := by decide +kernel
theorem dX4_album_82 : decode cX4_album 82 = .ok (.iadd, 1) := by decide +kernel
theorem dX4_album_83 : decode cX4_album 83 = .ok (.aload_n 0, 1) := by decide +kernel
theorem dX4_album_84 : decode cX4_album 84 = .ok (.getfield 19, 3) := by decide +kernel
theorem dX4_album_87 : decode cX4_album 87 = .ok (.iconst 3, 1) := by decide +kernel
theorem dX4_album_88 : decode cX4_album 88 = .ok (.iload_n 1, 1) := by decide +kernel
theorem dX4_album_89 : decode cX4_album 89 = .ok (.imul, 1) := by decide +kernel
theorem dX4_album_90 : decode cX4_album 90 = .ok (.iconst 1, 1) := by decide +kernel
theorem dX4_album_91 : decode cX4_album 91 = .ok (.iadd, 1) := by decide +kernel
theorem dX4_album_92 : decode cX4_album 92 = .ok (.iaload, 1) := by decide +kernel
theorem dX4_album_93 : decode cX4_album 93 = .ok (.iastore, 1) := by decide +kernel
theorem dX4_album_94 : decode cX4_album 94 = .ok (.aload_n 0, 1) := by decide +kernel
theorem dX4_album_95 : decode cX4_album 95 = .ok (.getfield 7, 3) := by decide +kernel
theorem dX4_album_98 : decode cX4_album 98 = .ok (.iload_n 1, 1) := by decide +kernel
theorem dX4_album_99 : decode cX4_album 99 = .ok (.aload_n 0, 1) := by decide +kernel
theorem dX4_album_100 : decode cX4_album 100 = .ok (.getfield 19, 3) := by decide +kernel
theorem dX4_album_103 : decode cX4_album 103 = .ok (.iconst 3, 1) := by decide +kernel
theorem dX4_album_104 : decode cX4_album 104 = .ok (.iload_n 1, 1) := by decide +kernel
theorem dX4_album_105 : decode cX4_album 105 = .ok (.imul, 1) := by decide +kernel
theorem dX4_album_106 : decode cX4_album 106 = .ok (.iconst 2, 1) := by decide +kernel
theorem dX4_album_107 : decode cX4_album 107 = .ok (.iadd, 1) := by decide +kernel
theorem dX4_album_108 : decode cX4_album 108 = .ok (.iaload, 1) := by decide +kernel
theorem dX4_album_109 : decode cX4_album 109 = .ok (.iastore, 1) := by decide +kernel
theorem dX4_album_110 : decode cX4_album 110 = .ok (.aload_n 0, 1) := by decide +kernel
theorem dX4_album_111 : decode cX4_album 111 = .ok (.getfield 16, 3) := by decide +kernel
theorem dX4_album_114 : decode cX4_album 114 = .ok (.bipush 10, 2) := by decide +kernel
theorem dX4_album_116 : decode cX4_album 116 = .ok (.iload_n 1, 1) := by decide +kernel
theorem dX4_album_117 : decode cX4_album 117 = .ok (.iadd, 1) := by decide +kernel
theorem dX4_album_118 : decode cX4_album 118 = .ok (.aload_n 0, 1) := by decide +kernel
theorem dX4_album_119 : decode cX4_album 119 = .ok (.getfield 22, 3) := by decide +kernel
end
section
theorem dX4_album_122 : decode cX4_album 122 = .ok (.iload_n 1, 1) := by decide +kernel
theorem dX4_album_123 : decode cX4_album 123 = .ok (.iaload, 1) := by decide +kernel
theorem dX4_album_124 : decode cX4_album 124 = .ok (.iastore, 1) := by decide +kernel
theorem dX4_album_125 : decode cX4_album 125 = .ok (.aload_n 0, 1) := by decide +kernel
theorem dX4_album_126 : decode cX4_album 126 = .ok (.getfield 16, 3) := by decide +kernel
theorem dX4_album_129 : decode cX4_album 129 = .ok (.bipush 15, 2) := by decide +kernel
theorem dX4_album_131 : decode cX4_album 131 = .ok (.iload_n 1, 1) := by decide +kernel
theorem dX4_album_132 : decode cX4_album 132 = .ok (.iadd, 1) := by decide +kernel
theorem dX4_album_133 : decode cX4_album 133 = .ok (.bipush (-9), 2) := by decide +kernel
theorem dX4_album_135 : decode cX4_album 135 = .ok (.iastore, 1) := by decide +kernel
theorem dX4_album_136 : decode cX4_album 136 = .ok (.iinc 1 1, 3) := by decide +kernel
theorem dX4_album_139 : decode cX4_album 139 = .ok (.goto (-88), 3) := by decide +kernel
theorem dX4_album_142 : decode cX4_album 142 = .ok (.iconst 0, 1) := by decide +kernel
theorem dX4_album_143 : decode cX4_album 143 = .ok (.istore_n 1, 1) := by decide +kernel
theorem dX4_album_144 : decode cX4_album 144 = .ok (.iload_n 1, 1) := by decide +kernel
theorem dX4_album_145 : decode cX4_album 145 = .ok (.aload_n 0, 1) := by decide +kernel
theorem dX4_album_146 : decode cX4_album 146 = .ok (.getfield 99, 3) := by decide +kernel
theorem dX4_album_149 : decode cX4_album 149 = .ok (.if_icmp .ge 42, 3) := by decide +kernel
theorem dX4_album_152 : decode cX4_album 152 = .ok (.aload_n 0, 1) := by decide +kernel
theorem dX4_album_153 : decode cX4_album 153 = .ok (.getfield 16, 3) := by decide +kernel
theorem dX4_album_156 : decode cX4_album 156 = .ok (.bipush 20, 2) := by decide +kernel
theorem dX4_album_158 : decode cX4_album 158 = .ok (.iload_n 1, 1) := by decide +kernel
theorem dX4_album_159 : decode cX4_album 159 = .ok (.iadd, 1) := by decide +kernel
theorem dX4_album_160 : decode cX4_album 160 = .ok (.aload_n 0, 1) := by decide +kernel
theorem dX4_album_161 : decode cX4_album 161 = .ok (.getfield 25, 3) := by decide +kernel
theorem dX4_album_164 : decode cX4_album 164 = .ok (.iconst 2, 1) := by decide +kernel
theorem dX4_album_165 : decode cX4_album 165 = .ok (.iload_n 1, 1) := by decide +kernel
theorem dX4_album_166 : decode cX4_album 166 = .ok (.imul, 1) := by decide +kernel
theorem dX4_album_167 : decode cX4_album 167 = .ok (.iaload, 1) := by decide +kernel
theorem dX4_album_168 : decode cX4_album 168 = .ok (.iastore, 1) := by decide +kernel
theorem dX4_album_169 : decode cX4_album 169 = .ok (.aload_n 0, 1) := by decide +kernel
theorem dX4_album_170 : decode cX4_album 170 = .ok (.getfield 13, 3) := by decide +kernel
theorem dX4_album_173 : decode cX4_album 173 = .ok (.iload_n 1, 1) := by decide +kernel
theorem dX4_album_174 : decode cX4_album 174 = .ok (.aload_n 0, 1) := by decide +kernel
theorem dX4_album_175 : decode cX4_album 175 = .ok (.getfield 25, 3) := by decide +kernel
theorem dX4_album_178 : decode cX4_album 178 = .ok (.iconst 2, 1) := by decide +kernel
theorem dX4_album_179 : decode cX4_album 179 = .ok (.iload_n 1, 1) := by decide +kernel
theorem dX4_album_180 : decode cX4_album 180 = .ok (.imul, 1) := by decide +kernel
theorem dX4_album_181 : decode cX4_album 181 = .ok (.iconst 1, 1) := by decide +kernel
theorem dX4_album_182 : decode cX4_album 182 = .ok (.iadd, 1) := by decide +kernel
theorem dX4_album_183 : decode cX4_album 183 = .ok (.iaload, 1) := by decide +kernel
theorem dX4_album_184 : decode cX4_album 184 = .ok (.iastore, 1) := by decide +kernel
theorem dX4_album_185 : decode cX4_album 185 = .ok (.iinc 1 1, 3) := by decide +kernel
theorem dX4_album_188 : decode cX4_album 188 = .ok (.goto (-44), 3) := by decide +kernel
theorem dX4_album_191 : decode cX4_album 191 = .ok (.aload_n 0, 1) := by decide +kernel
theorem dX4_album_192 : decode cX4_album 192 = .ok (.iconst 0, 1) := by decide +kernel
theorem dX4_album_193 : decode cX4_album 193 = .ok (.putfield 102, 3) := by decide +kernel
theorem dX4_album_196 : decode cX4_album 196 = .ok (.aload_n 0, 1) := by decide +kernel
theorem dX4_album_197 : decode cX4_album 197 = .ok (.getfield 43, 3) := by decide +kernel
theorem dX4_album_200 : decode cX4_album 200 = .ok (.iconst 0, 1) := by decide +kernel
theorem dX4_album_201 : decode cX4_album 201 = .ok (.iconst 0, 1) := by decide +kernel
theorem dX4_album_202 : decode cX4_album 202 = .ok (.bastore, 1) := by decide +kernel
theorem dX4_album_203 : decode cX4_album 203 = .ok (.aload_n 0, 1) := by decide +kernel
theorem dX4_album_204 : decode cX4_album 204 = .ok (.getfield 43, 3) := by decide +kernel
theorem dX4_album_207 : decode cX4_album 207 = .ok (.iconst 1, 1) := by decide +kernel
theorem dX4_album_208 : decode cX4_album 208 = .ok (.iconst 0, 1) := by decide +kernel
theorem dX4_album_209 : decode cX4_album 209 = .ok (.bastore, 1) := by decide +kernel
theorem dX4_album_210 : decode cX4_album 210 = .ok (.bipush 10, 2) := by decide +kernel
theorem dX4_album_212 : decode cX4_album 212 = .ok (.aload_n 0, 1) := by decide +kernel
theorem dX4_album_213 : decode cX4_album 213 = .ok (.getfield 50, 3) := by decide +kernel
theorem dX4_album_216 : decode cX4_album 216 = .ok (.imul, 1) := by decide +kernel
theorem dX4_album_217 : decode cX4_album 217 = .ok (.aload_n 0, 1) := by decide +kernel
theorem dX4_album_218 : decode cX4_album 218 = .ok (.getfield 99, 3) := by decide +kernel
theorem dX4_album_221 : decode cX4_album 221 = .ok (.iadd, 1) := by decide +kernel
theorem dX4_album_222 : decode cX4_album 222 = .ok (.ireturn, 1) := by decide +kernel
theorem dX4_isStamp_0 : decode cX4_isStamp 0 = .ok (.iload_n 1, 1) := by decide +kernel
theorem dX4_isStamp_1 : decode cX4_isStamp 1 = .ok (.i2l, 1) := by decide +kernel
theorem dX4_isStamp_2 : decode cX4_isStamp 2 = .ok (.lconst 0, 1) := by decide +kernel
theorem dX4_isStamp_3 : decode cX4_isStamp 3 = .ok (.aload_n 0, 1) := by decide +kernel
theorem dX4_isStamp_4 : decode cX4_isStamp 4 = .ok (.getfield 50, 3) := by decide +kernel
theorem dX4_isStamp_7 : decode cX4_isStamp 7 = .ok (.iconst 1, 1) := by decide +kernel
theorem dX4_isStamp_8 : decode cX4_isStamp 8 = .ok (.isub, 1) := by decide +kernel
theorem dX4_isStamp_9 : decode cX4_isStamp 9 = .ok (.i2l, 1) := by decide +kernel
theorem dX4_isStamp_10 : decode cX4_isStamp 10 = .ok (.invokestatic 56, 3) := by decide +kernel
theorem dX4_isStamp_13 : decode cX4_isStamp 13 = .ok (.ireturn, 1) := by decide +kernel
theorem dX4_isLetter_0 : decode cX4_isLetter 0 = .ok (.iload_n 1, 1) := by decide +kernel
theorem dX4_isLetter_1 : decode cX4_isLetter 1 = .ok (.i2l, 1) := by decide +kernel
theorem dX4_isLetter_2 : decode cX4_isLetter 2 = .ok (.lconst 0, 1) := by decide +kernel
theorem dX4_isLetter_3 : decode cX4_isLetter 3 = .ok (.aload_n 0, 1) := by decide +kernel
theorem dX4_isLetter_4 : decode cX4_isLetter 4 = .ok (.getfield 99, 3) := by decide +kernel
theorem dX4_isLetter_7 : decode cX4_isLetter 7 = .ok (.iconst 1, 1) := by decide +kernel
theorem dX4_isLetter_8 : decode cX4_isLetter 8 = .ok (.isub, 1) := by decide +kernel
theorem dX4_isLetter_9 : decode cX4_isLetter 9 = .ok (.i2l, 1) := by decide +kernel
theorem dX4_isLetter_10 : decode cX4_isLetter 10 = .ok (.invokestatic 56, 3) := by decide +kernel
theorem dX4_isLetter_13 : decode cX4_isLetter 13 = .ok (.ireturn, 1) := by decide +kernel
theorem dX4_span_0 : decode cX4_span 0 = .ok (.bipush 60, 2) := by decide +kernel
theorem dX4_span_2 : decode cX4_span 2 = .ok (.iconst 3, 1) := by decide +kernel
theorem dX4_span_3 : decode cX4_span 3 = .ok (.aload_n 0, 1) := by decide +kernel
theorem dX4_span_4 : decode cX4_span 4 = .ok (.getfield 16, 3) := by decide +kernel
theorem dX4_span_7 : decode cX4_span 7 = .ok (.bipush 30, 2) := by decide +kernel
theorem dX4_span_9 : decode cX4_span 9 = .ok (.iload_n 1, 1) := by decide +kernel
theorem dX4_span_10 : decode cX4_span 10 = .ok (.imul, 1) := by decide +kernel
theorem dX4_span_11 : decode cX4_span 11 = .ok (.iconst 5, 1) := by decide +kernel
theorem dX4_span_12 : decode cX4_span 12 = .ok (.iadd, 1) := by decide +kernel
theorem dX4_span_13 : decode cX4_span 13 = .ok (.iload_n 2, 1) := by decide +kernel
theorem dX4_span_14 : decode cX4_span 14 = .ok (.iadd, 1) := by decide +kernel
theorem dX4_span_15 : decode cX4_span 15 = .ok (.iaload, 1) := by decide +kernel
theorem dX4_span_16 : decode cX4_span 16 = .ok (.imul, 1) := by decide +kernel
theorem dX4_span_17 : decode cX4_span 17 = .ok (.iadd, 1) := by decide +kernel
theorem dX4_span_18 : decode cX4_span 18 = .ok (.aload_n 0, 1) := by decide +kernel
theorem dX4_span_19 : decode cX4_span 19 = .ok (.getfield 7, 3) := by decide +kernel
theorem dX4_span_22 : decode cX4_span 22 = .ok (.iload_n 2, 1) := by decide +kernel
theorem dX4_span_23 : decode cX4_span 23 = .ok (.iaload, 1) := by decide +kernel
theorem dX4_span_24 : decode cX4_span 24 = .ok (.iconst 1, 1) := by decide +kernel
theorem dX4_span_25 : decode cX4_span 25 = .ok (.if_icmp .ne 8, 3) := by decide +kernel
theorem dX4_span_28 : decode cX4_span 28 = .ok (.bipush 10, 2) := by decide +kernel
theorem dX4_span_30 : decode cX4_span 30 = .ok (.goto 19, 3) := by decide +kernel
theorem dX4_span_33 : decode cX4_span 33 = .ok (.aload_n 0, 1) := by decide +kernel
theorem dX4_span_34 : decode cX4_span 34 = .ok (.getfield 7, 3) := by decide +kernel
theorem dX4_span_37 : decode cX4_span 37 = .ok (.iload_n 2, 1) := by decide +kernel
theorem dX4_span_38 : decode cX4_span 38 = .ok (.iaload, 1) := by decide +kernel
theorem dX4_span_39 : decode cX4_span 39 = .ok (.iconst 2, 1) := by decide +kernel
theorem dX4_span_40 : decode cX4_span 40 = .ok (.if_icmp .ne 8, 3) := by decide +kernel
theorem dX4_span_43 : decode cX4_span 43 = .ok (.bipush 15, 2) := by decide +kernel
theorem dX4_span_45 : decode cX4_span 45 = .ok (.goto 4, 3) := by decide +kernel
theorem dX4_span_48 : decode cX4_span 48 = .ok (.iconst 0, 1) := by decide +kernel
theorem dX4_span_49 : decode cX4_span 49 = .ok (.iadd, 1) := by decide +kernel
theorem dX4_span_50 : decode cX4_span 50 = .ok (.ireturn, 1) := by decide +kernel
theorem dX4_isAlive_0 : decode cX4_isAlive 0 = .ok (.aload_n 0, 1) := by decide +kernel
theorem dX4_isAlive_1 : decode cX4_isAlive 1 = .ok (.getfield 16, 3) := by decide +kernel
theorem dX4_isAlive_4 : decode cX4_isAlive 4 = .ok (.bipush 30, 2) := by decide +kernel
theorem dX4_isAlive_6 : decode cX4_isAlive 6 = .ok (.iload_n 1, 1) := by decide +kernel
theorem dX4_isAlive_7 : decode cX4_isAlive 7 = .ok (.imul, 1) := by decide +kernel
theorem dX4_isAlive_8 : decode cX4_isAlive 8 = .ok (.iload_n 2, 1) := by decide +kernel
theorem dX4_isAlive_9 : decode cX4_isAlive 9 = .ok (.iadd, 1) := by decide +kernel
theorem dX4_isAlive_10 : decode cX4_isAlive 10 = .ok (.iaload, 1) := by decide +kernel
theorem dX4_isAlive_11 : decode cX4_isAlive 11 = .ok (.aload_n 0, 1) := by decide +kernel
theorem dX4_isAlive_12 : decode cX4_isAlive 12 = .ok (.iload_n 1, 1) := by decide +kernel
theorem dX4_isAlive_13 : decode cX4_isAlive 13 = .ok (.iload_n 2, 1) := by decide +kernel
theorem dX4_isAlive_14 : decode cX4_isAlive 14 = .ok (.invokevirtual 105, 3) := by decide +kernel
theorem dX4_isAlive_17 : decode cX4_isAlive 17 = .ok (.if_icmp .ge 7, 3) := by decide +kernel
theorem dX4_isAlive_20 : decode cX4_isAlive 20 = .ok (.iconst 1, 1) := by decide +kernel
theorem dX4_isAlive_21 : decode cX4_isAlive 21 = .ok (.goto 4, 3) := by decide +kernel
theorem dX4_isAlive_24 : decode cX4_isAlive 24 = .ok (.iconst 0, 1) := by decide +kernel
theorem dX4_isAlive_25 : decode cX4_isAlive 25 = .ok (.ireturn, 1) := by decide +kernel
theorem dX4_living_0 : decode cX4_living 0 = .ok (.iconst 0, 1) := by decide +kernel
theorem dX4_living_1 : decode cX4_living 1 = .ok (.istore_n 2, 1) := by decide +kernel
theorem dX4_living_2 : decode cX4_living 2 = .ok (.iconst 0, 1) := by decide +kernel
theorem dX4_living_3 : decode cX4_living 3 = .ok (.istore_n 3, 1) := by decide +kernel
theorem dX4_living_4 : decode cX4_living 4 = .ok (.iload_n 3, 1) := by decide +kernel
theorem dX4_living_5 : decode cX4_living 5 = .ok (.aload_n 0, 1) := by decide +kernel
theorem dX4_living_6 : decode cX4_living 6 = .ok (.getfield 50, 3) := by decide +kernel
theorem dX4_living_9 : decode cX4_living 9 = .ok (.if_icmp .ge 28, 3) := by decide +kernel
theorem dX4_living_12 : decode cX4_living 12 = .ok (.iload_n 2, 1) := by decide +kernel
theorem dX4_living_13 : decode cX4_living 13 = .ok (.aload_n 0, 1) := by decide +kernel
theorem dX4_living_14 : decode cX4_living 14 = .ok (.iload_n 1, 1) := by decide +kernel
theorem dX4_living_15 : decode cX4_living 15 = .ok (.iload_n 3, 1) := by decide +kernel
theorem dX4_living_16 : decode cX4_living 16 = .ok (.invokevirtual 109, 3) := by decide +kernel
theorem dX4_living_19 : decode cX4_living 19 = .ok (.ifCond .eq 9, 3) := by decide +kernel
theorem dX4_living_22 : decode cX4_living 22 = .ok (.iconst 1, 1) := by decide +kernel
theorem dX4_living_23 : decode cX4_living 23 = .ok (.iload_n 3, 1) := by decide +kernel
theorem dX4_living_24 : decode cX4_living 24 = .ok (.ishl, 1) := by decide +kernel
theorem dX4_living_25 : decode cX4_living 25 = .ok (.goto 4, 3) := by decide +kernel
theorem dX4_living_28 : decode cX4_living 28 = .ok (.iconst 0, 1) := by decide +kernel
theorem dX4_living_29 : decode cX4_living 29 = .ok (.ior, 1) := by decide +kernel
theorem dX4_living_30 : decode cX4_living 30 = .ok (.istore_n 2, 1) := by decide +kernel
theorem dX4_living_31 : decode cX4_living 31 = .ok (.iinc 3 1, 3) := by decide +kernel
theorem dX4_living_34 : decode cX4_living 34 = .ok (.goto (-30), 3) := by decide +kernel
theorem dX4_living_37 : decode cX4_living 37 = .ok (.iload_n 2, 1) := by decide +kernel
theorem dX4_living_38 : decode cX4_living 38 = .ok (.ireturn, 1) := by decide +kernel
theorem dX4_rate_0 : decode cX4_rate 0 = .ok (.aload_n 0, 1) := by decide +kernel
theorem dX4_rate_1 : decode cX4_rate 1 = .ok (.getfield 16, 3) := by decide +kernel
theorem dX4_rate_4 : decode cX4_rate 4 = .ok (.bipush 30, 2) := by decide +kernel
theorem dX4_rate_6 : decode cX4_rate 6 = .ok (.iload_n 1, 1) := by decide +kernel
theorem dX4_rate_7 : decode cX4_rate 7 = .ok (.imul, 1) := by decide +kernel
theorem dX4_rate_8 : decode cX4_rate 8 = .ok (.iload_n 2, 1) := by decide +kernel
theorem dX4_rate_9 : decode cX4_rate 9 = .ok (.iadd, 1) := by decide +kernel
theorem dX4_rate_10 : decode cX4_rate 10 = .ok (.iaload, 1) := by decide +kernel
theorem dX4_rate_11 : decode cX4_rate 11 = .ok (.istore_n 3, 1) := by decide +kernel
theorem dX4_rate_12 : decode cX4_rate 12 = .ok (.aload_n 0, 1) := by decide +kernel
theorem dX4_rate_13 : decode cX4_rate 13 = .ok (.getfield 7, 3) := by decide +kernel
theorem dX4_rate_16 : decode cX4_rate 16 = .ok (.iload_n 2, 1) := by decide +kernel
theorem dX4_rate_17 : decode cX4_rate 17 = .ok (.iaload, 1) := by decide +kernel
theorem dX4_rate_18 : decode cX4_rate 18 = .ok (.iconst 3, 1) := by decide +kernel
theorem dX4_rate_19 : decode cX4_rate 19 = .ok (.if_icmp .ne 7, 3) := by decide +kernel
theorem dX4_rate_22 : decode cX4_rate 22 = .ok (.iconst 0, 1) := by decide +kernel
theorem dX4_rate_23 : decode cX4_rate 23 = .ok (.goto 38, 3) := by decide +kernel
theorem dX4_rate_26 : decode cX4_rate 26 = .ok (.aload_n 0, 1) := by decide +kernel
theorem dX4_rate_27 : decode cX4_rate 27 = .ok (.getfield 7, 3) := by decide +kernel
theorem dX4_rate_30 : decode cX4_rate 30 = .ok (.iload_n 2, 1) := by decide +kernel
theorem dX4_rate_31 : decode cX4_rate 31 = .ok (.iaload, 1) := by decide +kernel
theorem dX4_rate_32 : decode cX4_rate 32 = .ok (.iconst 1, 1) := by decide +kernel
theorem dX4_rate_33 : decode cX4_rate 33 = .ok (.if_icmp .ne 7, 3) := by decide +kernel
theorem dX4_rate_36 : decode cX4_rate 36 = .ok (.iconst 1, 1) := by decide +kernel
theorem dX4_rate_37 : decode cX4_rate 37 = .ok (.goto 24, 3) := by decide +kernel
theorem dX4_rate_40 : decode cX4_rate 40 = .ok (.iconst 2, 1) := by decide +kernel
theorem dX4_rate_41 : decode cX4_rate 41 = .ok (.iload_n 3, 1) := by decide +kernel
theorem dX4_rate_42 : decode cX4_rate 42 = .ok (.aload_n 0, 1) := by decide +kernel
theorem dX4_rate_43 : decode cX4_rate 43 = .ok (.getfield 7, 3) := by decide +kernel
theorem dX4_rate_46 : decode cX4_rate 46 = .ok (.iload_n 2, 1) := by decide +kernel
theorem dX4_rate_47 : decode cX4_rate 47 = .ok (.iaload, 1) := by decide +kernel
theorem dX4_rate_48 : decode cX4_rate 48 = .ok (.iconst 2, 1) := by decide +kernel
theorem dX4_rate_49 : decode cX4_rate 49 = .ok (.if_icmp .ne 8, 3) := by decide +kernel
theorem dX4_rate_52 : decode cX4_rate 52 = .ok (.bipush 10, 2) := by decide +kernel
theorem dX4_rate_54 : decode cX4_rate 54 = .ok (.goto 5, 3) := by decide +kernel
theorem dX4_rate_57 : decode cX4_rate 57 = .ok (.bipush 20, 2) := by decide +kernel
theorem dX4_rate_59 : decode cX4_rate 59 = .ok (.idiv, 1) := by decide +kernel
theorem dX4_rate_60 : decode cX4_rate 60 = .ok (.iadd, 1) := by decide +kernel
theorem dX4_rate_61 : decode cX4_rate 61 = .ok (.istore 4, 2) := by decide +kernel
theorem dX4_rate_63 : decode cX4_rate 63 = .ok (.iload 4, 2) := by decide +kernel
theorem dX4_rate_65 : decode cX4_rate 65 = .ok (.bipush 9, 2) := by decide +kernel
theorem dX4_rate_67 : decode cX4_rate 67 = .ok (.if_icmp .le 8, 3) := by decide +kernel
theorem dX4_rate_70 : decode cX4_rate 70 = .ok (.bipush 9, 2) := by decide +kernel
theorem dX4_rate_72 : decode cX4_rate 72 = .ok (.goto 5, 3) := by decide +kernel
theorem dX4_rate_75 : decode cX4_rate 75 = .ok (.iload 4, 2) := by decide +kernel
theorem dX4_rate_77 : decode cX4_rate 77 = .ok (.ireturn, 1) := by decide +kernel
theorem dX4_onLetter_0 : decode cX4_onLetter 0 = .ok (.iconst 0, 1) := by decide +kernel
theorem dX4_onLetter_1 : decode cX4_onLetter 1 = .ok (.istore_n 3, 1) := by decide +kernel
theorem dX4_onLetter_2 : decode cX4_onLetter 2 = .ok (.iconst 0, 1) := by decide +kernel
theorem dX4_onLetter_3 : decode cX4_onLetter 3 = .ok (.istore 4, 2) := by decide +kernel
theorem dX4_onLetter_5 : decode cX4_onLetter 5 = .ok (.iload 4, 2) := by decide +kernel
theorem dX4_onLetter_7 : decode cX4_onLetter 7 = .ok (.aload_n 0, 1) := by decide +kernel
theorem dX4_onLetter_8 : decode cX4_onLetter 8 = .ok (.getfield 50, 3) := by decide +kernel
theorem dX4_onLetter_11 : decode cX4_onLetter 11 = .ok (.if_icmp .ge 39, 3) := by decide +kernel
theorem dX4_onLetter_14 : decode cX4_onLetter 14 = .ok (.iload_n 3, 1) := by decide +kernel
theorem dX4_onLetter_15 : decode cX4_onLetter 15 = .ok (.aload_n 0, 1) := by decide +kernel
theorem dX4_onLetter_16 : decode cX4_onLetter 16 = .ok (.getfield 16, 3) := by decide +kernel
theorem dX4_onLetter_19 : decode cX4_onLetter 19 = .ok (.bipush 30, 2) := by decide +kernel
theorem dX4_onLetter_21 : decode cX4_onLetter 21 = .ok (.iload_n 1, 1) := by decide +kernel
theorem dX4_onLetter_22 : decode cX4_onLetter 22 = .ok (.imul, 1) := by decide +kernel
theorem dX4_onLetter_23 : decode cX4_onLetter 23 = .ok (.bipush 15, 2) := by decide +kernel
theorem dX4_onLetter_25 : decode cX4_onLetter 25 = .ok (.iadd, 1) := by decide +kernel
theorem dX4_onLetter_26 : decode cX4_onLetter 26 = .ok (.iload 4, 2) := by decide +kernel
theorem dX4_onLetter_28 : decode cX4_onLetter 28 = .ok (.iadd, 1) := by decide +kernel
theorem dX4_onLetter_29 : decode cX4_onLetter 29 = .ok (.iaload, 1) := by decide +kernel
theorem dX4_onLetter_30 : decode cX4_onLetter 30 = .ok (.iload_n 2, 1) := by decide +kernel
theorem dX4_onLetter_31 : decode cX4_onLetter 31 = .ok (.if_icmp .ne 10, 3) := by decide +kernel
theorem dX4_onLetter_34 : decode cX4_onLetter 34 = .ok (.iconst 1, 1) := by decide +kernel
theorem dX4_onLetter_35 : decode cX4_onLetter 35 = .ok (.iload 4, 2) := by decide +kernel
theorem dX4_onLetter_37 : decode cX4_onLetter 37 = .ok (.ishl, 1) := by decide +kernel
theorem dX4_onLetter_38 : decode cX4_onLetter 38 = .ok (.goto 4, 3) := by decide +kernel
theorem dX4_onLetter_41 : decode cX4_onLetter 41 = .ok (.iconst 0, 1) := by decide +kernel
theorem dX4_onLetter_42 : decode cX4_onLetter 42 = .ok (.ior, 1) := by decide +kernel
theorem dX4_onLetter_43 : decode cX4_onLetter 43 = .ok (.istore_n 3, 1) := by decide +kernel
theorem dX4_onLetter_44 : decode cX4_onLetter 44 = .ok (.iinc 4 1, 3) := by decide +kernel
theorem dX4_onLetter_47 : decode cX4_onLetter 47 = .ok (.goto (-42), 3) := by decide +kernel
theorem dX4_onLetter_50 : decode cX4_onLetter 50 = .ok (.iload_n 3, 1) := by decide +kernel
theorem dX4_onLetter_51 : decode cX4_onLetter 51 = .ok (.ireturn, 1) := by decide +kernel
theorem dX4_goodFor_0 : decode cX4_goodFor 0 = .ok (.iconst 0, 1) := by decide +kernel
theorem dX4_goodFor_1 : decode cX4_goodFor 1 = .ok (.istore_n 3, 1) := by decide +kernel
theorem dX4_goodFor_2 : decode cX4_goodFor 2 = .ok (.iconst 0, 1) := by decide +kernel
theorem dX4_goodFor_3 : decode cX4_goodFor 3 = .ok (.istore 4, 2) := by decide +kernel
theorem dX4_goodFor_5 : decode cX4_goodFor 5 = .ok (.iload 4, 2) := by decide +kernel
theorem dX4_goodFor_7 : decode cX4_goodFor 7 = .ok (.aload_n 0, 1) := by decide +kernel
theorem dX4_goodFor_8 : decode cX4_goodFor 8 = .ok (.getfield 50, 3) := by decide +kernel
theorem dX4_goodFor_11 : decode cX4_goodFor 11 = .ok (.if_icmp .ge 42, 3) := by decide +kernel
theorem dX4_goodFor_14 : decode cX4_goodFor 14 = .ok (.iload_n 3, 1) := by decide +kernel
theorem dX4_goodFor_15 : decode cX4_goodFor 15 = .ok (.iload_n 2, 1) := by decide +kernel
theorem dX4_goodFor_16 : decode cX4_goodFor 16 = .ok (.iload 4, 2) := by decide +kernel
theorem dX4_goodFor_18 : decode cX4_goodFor 18 = .ok (.invokestatic 71, 3) := by decide +kernel
theorem dX4_goodFor_21 : decode cX4_goodFor 21 = .ok (.ifCond .eq 23, 3) := by decide +kernel
theorem dX4_goodFor_24 : decode cX4_goodFor 24 = .ok (.aload_n 0, 1) := by decide +kernel
theorem dX4_goodFor_25 : decode cX4_goodFor 25 = .ok (.iload_n 1, 1) := by decide +kernel
theorem dX4_goodFor_26 : decode cX4_goodFor 26 = .ok (.iload 4, 2) := by decide +kernel
theorem dX4_goodFor_28 : decode cX4_goodFor 28 = .ok (.invokevirtual 109, 3) := by decide +kernel
theorem dX4_goodFor_31 : decode cX4_goodFor 31 = .ok (.ifCond .eq 13, 3) := by decide +kernel
theorem dX4_goodFor_34 : decode cX4_goodFor 34 = .ok (.aload_n 0, 1) := by decide +kernel
theorem dX4_goodFor_35 : decode cX4_goodFor 35 = .ok (.iload_n 1, 1) := by decide +kernel
theorem dX4_goodFor_36 : decode cX4_goodFor 36 = .ok (.iload 4, 2) := by decide +kernel
theorem dX4_goodFor_38 : decode cX4_goodFor 38 = .ok (.invokevirtual 112, 3) := by decide +kernel
theorem dX4_goodFor_41 : decode cX4_goodFor 41 = .ok (.goto 4, 3) := by decide +kernel
theorem dX4_goodFor_44 : decode cX4_goodFor 44 = .ok (.iconst 0, 1) := by decide +kernel
theorem dX4_goodFor_45 : decode cX4_goodFor 45 = .ok (.iadd, 1) := by decide +kernel
theorem dX4_goodFor_46 : decode cX4_goodFor 46 = .ok (.istore_n 3, 1) := by decide +kernel
theorem dX4_goodFor_47 : decode cX4_goodFor 47 = .ok (.iinc 4 1, 3) := by decide +kernel
theorem dX4_goodFor_50 : decode cX4_goodFor 50 = .ok (.goto (-45), 3) := by decide +kernel
theorem dX4_goodFor_53 : decode cX4_goodFor 53 = .ok (.iload_n 3, 1) := by decide +kernel
theorem dX4_goodFor_54 : decode cX4_goodFor 54 = .ok (.ireturn, 1) := by decide +kernel
theorem dX4_widows_0 : decode cX4_widows 0 = .ok (.aload_n 0, 1) := by decide +kernel
theorem dX4_widows_1 : decode cX4_widows 1 = .ok (.iload_n 1, 1) := by decide +kernel
theorem dX4_widows_2 : decode cX4_widows 2 = .ok (.invokevirtual 115, 3) := by decide +kernel
theorem dX4_widows_5 : decode cX4_widows 5 = .ok (.istore_n 2, 1) := by decide +kernel
theorem dX4_widows_6 : decode cX4_widows 6 = .ok (.iconst 0, 1) := by decide +kernel
theorem dX4_widows_7 : decode cX4_widows 7 = .ok (.istore_n 3, 1) := by decide +kernel
theorem dX4_widows_8 : decode cX4_widows 8 = .ok (.iconst 0, 1) := by decide +kernel
theorem dX4_widows_9 : decode cX4_widows 9 = .ok (.istore 4, 2) := by decide +kernel
theorem dX4_widows_11 : decode cX4_widows 11 = .ok (.iload 4, 2) := by decide +kernel
theorem dX4_widows_13 : decode cX4_widows 13 = .ok (.aload_n 0, 1) := by decide +kernel
theorem dX4_widows_14 : decode cX4_widows 14 = .ok (.getfield 50, 3) := by decide +kernel
theorem dX4_widows_17 : decode cX4_widows 17 = .ok (.if_icmp .ge 51, 3) := by decide +kernel
theorem dX4_widows_20 : decode cX4_widows 20 = .ok (.iload_n 3, 1) := by decide +kernel
theorem dX4_widows_21 : decode cX4_widows 21 = .ok (.iload_n 2, 1) := by decide +kernel
theorem dX4_widows_22 : decode cX4_widows 22 = .ok (.iload 4, 2) := by decide +kernel
theorem dX4_widows_24 : decode cX4_widows 24 = .ok (.invokestatic 71, 3) := by decide +kernel
theorem dX4_widows_27 : decode cX4_widows 27 = .ok (.ifCond .eq 32, 3) := by decide +kernel
theorem dX4_widows_30 : decode cX4_widows 30 = .ok (.aload_n 0, 1) := by decide +kernel
theorem dX4_widows_31 : decode cX4_widows 31 = .ok (.getfield 16, 3) := by decide +kernel
theorem dX4_widows_34 : decode cX4_widows 34 = .ok (.bipush 30, 2) := by decide +kernel
theorem dX4_widows_36 : decode cX4_widows 36 = .ok (.iload_n 1, 1) := by decide +kernel
theorem dX4_widows_37 : decode cX4_widows 37 = .ok (.imul, 1) := by decide +kernel
theorem dX4_widows_38 : decode cX4_widows 38 = .ok (.bipush 10, 2) := by decide +kernel
theorem dX4_widows_40 : decode cX4_widows 40 = .ok (.iadd, 1) := by decide +kernel
theorem dX4_widows_41 : decode cX4_widows 41 = .ok (.iload 4, 2) := by decide +kernel
theorem dX4_widows_43 : decode cX4_widows 43 = .ok (.iadd, 1) := by decide +kernel
theorem dX4_widows_44 : decode cX4_widows 44 = .ok (.iaload, 1) := by decide +kernel
theorem dX4_widows_45 : decode cX4_widows 45 = .ok (.iload_n 2, 1) := by decide +kernel
theorem dX4_widows_46 : decode cX4_widows 46 = .ok (.iconst (-1), 1) := by decide +kernel
theorem dX4_widows_47 : decode cX4_widows 47 = .ok (.ixor, 1) := by decide +kernel
theorem dX4_widows_48 : decode cX4_widows 48 = .ok (.iand, 1) := by decide +kernel
theorem dX4_widows_49 : decode cX4_widows 49 = .ok (.ifCond .eq 10, 3) := by decide +kernel
theorem dX4_widows_52 : decode cX4_widows 52 = .ok (.iconst 1, 1) := by decide +kernel
theorem dX4_widows_53 : decode cX4_widows 53 = .ok (.iload 4, 2) := by decide +kernel
theorem dX4_widows_55 : decode cX4_widows 55 = .ok (.ishl, 1) := by decide +kernel
theorem dX4_widows_56 : decode cX4_widows 56 = .ok (.goto 4, 3) := by decide +kernel
theorem dX4_widows_59 : decode cX4_widows 59 = .ok (.iconst 0, 1) := by decide +kernel
theorem dX4_widows_60 : decode cX4_widows 60 = .ok (.ior, 1) := by decide +kernel
theorem dX4_widows_61 : decode cX4_widows 61 = .ok (.istore_n 3, 1) := by decide +kernel
theorem dX4_widows_62 : decode cX4_widows 62 = .ok (.iinc 4 1, 3) := by decide +kernel
theorem dX4_widows_65 : decode cX4_widows 65 = .ok (.goto (-54), 3) := by decide +kernel
theorem dX4_widows_68 : decode cX4_widows 68 = .ok (.iload_n 3, 1) := by decide +kernel
theorem dX4_widows_69 : decode cX4_widows 69 = .ok (.ireturn, 1) := by decide +kernel
theorem dX4_age_0 : decode cX4_age 0 = .ok (.iconst 0, 1) := by decide +kernel
theorem dX4_age_1 : decode cX4_age 1 = .ok (.istore 4, 2) := by decide +kernel
theorem dX4_age_3 : decode cX4_age 3 = .ok (.iload 4, 2) := by decide +kernel
theorem dX4_age_5 : decode cX4_age 5 = .ok (.aload_n 0, 1) := by decide +kernel
theorem dX4_age_6 : decode cX4_age 6 = .ok (.getfield 50, 3) := by decide +kernel
theorem dX4_age_9 : decode cX4_age 9 = .ok (.if_icmp .ge 49, 3) := by decide +kernel
theorem dX4_age_12 : decode cX4_age 12 = .ok (.aload_n 0, 1) := by decide +kernel
theorem dX4_age_13 : decode cX4_age 13 = .ok (.getfield 16, 3) := by decide +kernel
theorem dX4_age_16 : decode cX4_age 16 = .ok (.bipush 30, 2) := by decide +kernel
theorem dX4_age_18 : decode cX4_age 18 = .ok (.iload_n 1, 1) := by decide +kernel
theorem dX4_age_19 : decode cX4_age 19 = .ok (.imul, 1) := by decide +kernel
theorem dX4_age_20 : decode cX4_age 20 = .ok (.iload 4, 2) := by decide +kernel
theorem dX4_age_22 : decode cX4_age 22 = .ok (.iadd, 1) := by decide +kernel
theorem dX4_age_23 : decode cX4_age 23 = .ok (.dup2, 1) := by decide +kernel
theorem dX4_age_24 : decode cX4_age 24 = .ok (.iaload, 1) := by decide +kernel
theorem dX4_age_25 : decode cX4_age 25 = .ok (.iload_n 2, 1) := by decide +kernel
theorem dX4_age_26 : decode cX4_age 26 = .ok (.iload 4, 2) := by decide +kernel
theorem dX4_age_28 : decode cX4_age 28 = .ok (.invokestatic 71, 3) := by decide +kernel
theorem dX4_age_31 : decode cX4_age 31 = .ok (.ifCond .eq 18, 3) := by decide +kernel
theorem dX4_age_34 : decode cX4_age 34 = .ok (.aload_n 0, 1) := by decide +kernel
theorem dX4_age_35 : decode cX4_age 35 = .ok (.getfield 7, 3) := by decide +kernel
theorem dX4_age_38 : decode cX4_age 38 = .ok (.iload 4, 2) := by decide +kernel
theorem dX4_age_40 : decode cX4_age 40 = .ok (.iaload, 1) := by decide +kernel
theorem dX4_age_41 : decode cX4_age 41 = .ok (.iconst 3, 1) := by decide +kernel
theorem dX4_age_42 : decode cX4_age 42 = .ok (.if_icmp .eq 7, 3) := by decide +kernel
theorem dX4_age_45 : decode cX4_age 45 = .ok (.iload_n 3, 1) := by decide +kernel
theorem dX4_age_46 : decode cX4_age 46 = .ok (.goto 4, 3) := by decide +kernel
theorem dX4_age_49 : decode cX4_age 49 = .ok (.iconst 0, 1) := by decide +kernel
theorem dX4_age_50 : decode cX4_age 50 = .ok (.iadd, 1) := by decide +kernel
theorem dX4_age_51 : decode cX4_age 51 = .ok (.iastore, 1) := by decide +kernel
theorem dX4_age_52 : decode cX4_age 52 = .ok (.iinc 4 1, 3) := by decide +kernel
theorem dX4_age_55 : decode cX4_age 55 = .ok (.goto (-52), 3) := by decide +kernel
theorem dX4_age_58 : decode cX4_age 58 = .ok (.return_, 1) := by decide +kernel
theorem dX4_passOn_0 : decode cX4_passOn 0 = .ok (.bipush 30, 2) := by decide +kernel
theorem dX4_passOn_2 : decode cX4_passOn 2 = .ok (.iload_n 1, 1) := by decide +kernel
theorem dX4_passOn_3 : decode cX4_passOn 3 = .ok (.imul, 1) := by decide +kernel
theorem dX4_passOn_4 : decode cX4_passOn 4 = .ok (.istore_n 2, 1) := by decide +kernel
theorem dX4_passOn_5 : decode cX4_passOn 5 = .ok (.aload_n 0, 1) := by decide +kernel
theorem dX4_passOn_6 : decode cX4_passOn 6 = .ok (.iload_n 1, 1) := by decide +kernel
theorem dX4_passOn_7 : decode cX4_passOn 7 = .ok (.aload_n 0, 1) := by decide +kernel
theorem dX4_passOn_8 : decode cX4_passOn 8 = .ok (.iload_n 1, 1) := by decide +kernel
theorem dX4_passOn_9 : decode cX4_passOn 9 = .ok (.invokevirtual 115, 3) := by decide +kernel
theorem dX4_passOn_12 : decode cX4_passOn 12 = .ok (.iconst 1, 1) := by decide +kernel
theorem dX4_passOn_13 : decode cX4_passOn 13 = .ok (.aload_n 0, 1) := by decide +kernel
theorem dX4_passOn_14 : decode cX4_passOn 14 = .ok (.getfield 16, 3) := by decide +kernel
theorem dX4_passOn_17 : decode cX4_passOn 17 = .ok (.iload_n 2, 1) := by decide +kernel
theorem dX4_passOn_18 : decode cX4_passOn 18 = .ok (.bipush 28, 2) := by decide +kernel
theorem dX4_passOn_20 : decode cX4_passOn 20 = .ok (.iadd, 1) := by decide +kernel
theorem dX4_passOn_21 : decode cX4_passOn 21 = .ok (.iaload, 1) := by decide +kernel
theorem dX4_passOn_22 : decode cX4_passOn 22 = .ok (.iadd, 1) := by decide +kernel
theorem dX4_passOn_23 : decode cX4_passOn 23 = .ok (.invokevirtual 118, 3) := by decide +kernel
theorem dX4_passOn_26 : decode cX4_passOn 26 = .ok (.aload_n 0, 1) := by decide +kernel
theorem dX4_passOn_27 : decode cX4_passOn 27 = .ok (.iload_n 1, 1) := by decide +kernel
theorem dX4_passOn_28 : decode cX4_passOn 28 = .ok (.aload_n 0, 1) := by decide +kernel
theorem dX4_passOn_29 : decode cX4_passOn 29 = .ok (.iload_n 1, 1) := by decide +kernel
theorem dX4_passOn_30 : decode cX4_passOn 30 = .ok (.invokevirtual 122, 3) := by decide +kernel
theorem dX4_passOn_33 : decode cX4_passOn 33 = .ok (.iconst 2, 1) := by decide +kernel
theorem dX4_passOn_34 : decode cX4_passOn 34 = .ok (.invokevirtual 118, 3) := by decide +kernel
theorem dX4_passOn_37 : decode cX4_passOn 37 = .ok (.aload_n 0, 1) := by decide +kernel
theorem dX4_passOn_38 : decode cX4_passOn 38 = .ok (.iload_n 1, 1) := by decide +kernel
theorem dX4_passOn_39 : decode cX4_passOn 39 = .ok (.invokevirtual 115, 3) := by decide +kernel
theorem dX4_passOn_42 : decode cX4_passOn 42 = .ok (.istore_n 3, 1) := by decide +kernel
theorem dX4_passOn_43 : decode cX4_passOn 43 = .ok (.iconst 0, 1) := by decide +kernel
theorem dX4_passOn_44 : decode cX4_passOn 44 = .ok (.istore 4, 2) := by decide +kernel
theorem dX4_passOn_46 : decode cX4_passOn 46 = .ok (.iload 4, 2) := by decide +kernel
theorem dX4_passOn_48 : decode cX4_passOn 48 = .ok (.aload_n 0, 1) := by decide +kernel
theorem dX4_passOn_49 : decode cX4_passOn 49 = .ok (.getfield 99, 3) := by decide +kernel
theorem dX4_passOn_52 : decode cX4_passOn 52 = .ok (.if_icmp .ge 101, 3) := by decide +kernel
theorem dX4_passOn_55 : decode cX4_passOn 55 = .ok (.aload_n 0, 1) := by decide +kernel
theorem dX4_passOn_56 : decode cX4_passOn 56 = .ok (.getfield 16, 3) := by decide +kernel
theorem dX4_passOn_59 : decode cX4_passOn 59 = .ok (.iload_n 2, 1) := by decide +kernel
theorem dX4_passOn_60 : decode cX4_passOn 60 = .ok (.bipush 24, 2) := by decide +kernel
theorem dX4_passOn_62 : decode cX4_passOn 62 = .ok (.iadd, 1) := by decide +kernel
theorem dX4_passOn_63 : decode cX4_passOn 63 = .ok (.iload 4, 2) := by decide +kernel
theorem dX4_passOn_65 : decode cX4_passOn 65 = .ok (.iadd, 1) := by decide +kernel
theorem dX4_passOn_66 : decode cX4_passOn 66 = .ok (.iaload, 1) := by decide +kernel
theorem dX4_passOn_67 : decode cX4_passOn 67 = .ok (.iconst 1, 1) := by decide +kernel
theorem dX4_passOn_68 : decode cX4_passOn 68 = .ok (.if_icmp .ne 79, 3) := by decide +kernel
theorem dX4_passOn_71 : decode cX4_passOn 71 = .ok (.aload_n 0, 1) := by decide +kernel
theorem dX4_passOn_72 : decode cX4_passOn 72 = .ok (.getfield 16, 3) := by decide +kernel
theorem dX4_passOn_75 : decode cX4_passOn 75 = .ok (.iload_n 2, 1) := by decide +kernel
theorem dX4_passOn_76 : decode cX4_passOn 76 = .ok (.bipush 20, 2) := by decide +kernel
theorem dX4_passOn_78 : decode cX4_passOn 78 = .ok (.iadd, 1) := by decide +kernel
theorem dX4_passOn_79 : decode cX4_passOn 79 = .ok (.iload 4, 2) := by decide +kernel
theorem dX4_passOn_81 : decode cX4_passOn 81 = .ok (.iadd, 1) := by decide +kernel
theorem dX4_passOn_82 : decode cX4_passOn 82 = .ok (.dup2, 1) := by decide +kernel
theorem dX4_passOn_83 : decode cX4_passOn 83 = .ok (.iaload, 1) := by decide +kernel
theorem dX4_passOn_84 : decode cX4_passOn 84 = .ok (.iconst 1, 1) := by decide +kernel
theorem dX4_passOn_85 : decode cX4_passOn 85 = .ok (.isub, 1) := by decide +kernel
theorem dX4_passOn_86 : decode cX4_passOn 86 = .ok (.iastore, 1) := by decide +kernel
theorem dX4_passOn_87 : decode cX4_passOn 87 = .ok (.aload_n 0, 1) := by decide +kernel
theorem dX4_passOn_88 : decode cX4_passOn 88 = .ok (.iload_n 1, 1) := by decide +kernel
theorem dX4_passOn_89 : decode cX4_passOn 89 = .ok (.iload 4, 2) := by decide +kernel
theorem dX4_passOn_91 : decode cX4_passOn 91 = .ok (.invokevirtual 125, 3) := by decide +kernel
theorem dX4_passOn_94 : decode cX4_passOn 94 = .ok (.iload_n 3, 1) := by decide +kernel
theorem dX4_passOn_95 : decode cX4_passOn 95 = .ok (.iand, 1) := by decide +kernel
theorem dX4_passOn_96 : decode cX4_passOn 96 = .ok (.ifCond .eq 7, 3) := by decide +kernel
theorem dX4_passOn_99 : decode cX4_passOn 99 = .ok (.iconst 1, 1) := by decide +kernel
theorem dX4_passOn_100 : decode cX4_passOn 100 = .ok (.goto 4, 3) := by decide +kernel
theorem dX4_passOn_103 : decode cX4_passOn 103 = .ok (.iconst 0, 1) := by decide +kernel
theorem dX4_passOn_104 : decode cX4_passOn 104 = .ok (.istore 5, 2) := by decide +kernel
theorem dX4_passOn_106 : decode cX4_passOn 106 = .ok (.aload_n 0, 1) := by decide +kernel
theorem dX4_passOn_107 : decode cX4_passOn 107 = .ok (.getfield 16, 3) := by decide +kernel
theorem dX4_passOn_110 : decode cX4_passOn 110 = .ok (.iload_n 2, 1) := by decide +kernel
theorem dX4_passOn_111 : decode cX4_passOn 111 = .ok (.bipush 24, 2) := by decide +kernel
theorem dX4_passOn_113 : decode cX4_passOn 113 = .ok (.iadd, 1) := by decide +kernel
theorem dX4_passOn_114 : decode cX4_passOn 114 = .ok (.iload 4, 2) := by decide +kernel
theorem dX4_passOn_116 : decode cX4_passOn 116 = .ok (.iadd, 1) := by decide +kernel
theorem dX4_passOn_117 : decode cX4_passOn 117 = .ok (.aload_n 0, 1) := by decide +kernel
theorem dX4_passOn_118 : decode cX4_passOn 118 = .ok (.getfield 16, 3) := by decide +kernel
theorem dX4_passOn_121 : decode cX4_passOn 121 = .ok (.iload_n 2, 1) := by decide +kernel
theorem dX4_passOn_122 : decode cX4_passOn 122 = .ok (.bipush 20, 2) := by decide +kernel
theorem dX4_passOn_124 : decode cX4_passOn 124 = .ok (.iadd, 1) := by decide +kernel
theorem dX4_passOn_125 : decode cX4_passOn 125 = .ok (.iload 4, 2) := by decide +kernel
theorem dX4_passOn_127 : decode cX4_passOn 127 = .ok (.iadd, 1) := by decide +kernel
theorem dX4_passOn_128 : decode cX4_passOn 128 = .ok (.iaload, 1) := by decide +kernel
theorem dX4_passOn_129 : decode cX4_passOn 129 = .ok (.ifCond .le 7, 3) := by decide +kernel
theorem dX4_passOn_132 : decode cX4_passOn 132 = .ok (.iconst 1, 1) := by decide +kernel
theorem dX4_passOn_133 : decode cX4_passOn 133 = .ok (.goto 13, 3) := by decide +kernel
theorem dX4_passOn_136 : decode cX4_passOn 136 = .ok (.iload 5, 2) := by decide +kernel
theorem dX4_passOn_138 : decode cX4_passOn 138 = .ok (.ifCond .eq 7, 3) := by decide +kernel
theorem dX4_passOn_141 : decode cX4_passOn 141 = .ok (.iconst 2, 1) := by decide +kernel
theorem dX4_passOn_142 : decode cX4_passOn 142 = .ok (.goto 4, 3) := by decide +kernel
theorem dX4_passOn_145 : decode cX4_passOn 145 = .ok (.iconst 3, 1) := by decide +kernel
theorem dX4_passOn_146 : decode cX4_passOn 146 = .ok (.iastore, 1) := by decide +kernel
theorem dX4_passOn_147 : decode cX4_passOn 147 = .ok (.iinc 4 1, 3) := by decide +kernel
theorem dX4_passOn_150 : decode cX4_passOn 150 = .ok (.goto (-104), 3) := by decide +kernel
theorem dX4_passOn_153 : decode cX4_passOn 153 = .ok (.aload_n 0, 1) := by decide +kernel
theorem dX4_passOn_154 : decode cX4_passOn 154 = .ok (.getfield 16, 3) := by decide +kernel
theorem dX4_passOn_157 : decode cX4_passOn 157 = .ok (.iload_n 2, 1) := by decide +kernel
theorem dX4_passOn_158 : decode cX4_passOn 158 = .ok (.bipush 29, 2) := by decide +kernel
theorem dX4_passOn_160 : decode cX4_passOn 160 = .ok (.iadd, 1) := by decide +kernel
theorem dX4_passOn_161 : decode cX4_passOn 161 = .ok (.dup2, 1) := by decide +kernel
theorem dX4_passOn_162 : decode cX4_passOn 162 = .ok (.iaload, 1) := by decide +kernel
theorem dX4_passOn_163 : decode cX4_passOn 163 = .ok (.iconst 1, 1) := by decide +kernel
theorem dX4_passOn_164 : decode cX4_passOn 164 = .ok (.iadd, 1) := by decide +kernel
theorem dX4_passOn_165 : decode cX4_passOn 165 = .ok (.iastore, 1) := by decide +kernel
theorem dX4_passOn_166 : decode cX4_passOn 166 = .ok (.return_, 1) := by decide +kernel
theorem dX4_stamp_0 : decode cX4_stamp 0 = .ok (.aload_n 0, 1) := by decide +kernel
theorem dX4_stamp_1 : decode cX4_stamp 1 = .ok (.iload_n 1, 1) := by decide +kernel
theorem dX4_stamp_2 : decode cX4_stamp 2 = .ok (.invokevirtual 128, 3) := by decide +kernel
theorem dX4_stamp_5 : decode cX4_stamp 5 = .ok (.ifCond .ne 5, 3) := by decide +kernel
theorem dX4_stamp_8 : decode cX4_stamp 8 = .ok (.iconst (-1), 1) := by decide +kernel
theorem dX4_stamp_9 : decode cX4_stamp 9 = .ok (.ireturn, 1) := by decide +kernel
theorem dX4_stamp_10 : decode cX4_stamp 10 = .ok (.iload_n 2, 1) := by decide +kernel
theorem dX4_stamp_11 : decode cX4_stamp 11 = .ok (.tableswitch 117 0 7 #[45, 52, 61, 68, 75, 82, 97, 107], 45) := by decide +kernel
theorem dX4_stamp_56 : decode cX4_stamp 56 = .ok (.aload_n 0, 1) := by decide +kernel
theorem dX4_stamp_57 : decode cX4_stamp 57 = .ok (.getfield 16, 3) := by decide +kernel
theorem dX4_stamp_60 : decode cX4_stamp 60 = .ok (.iload_n 1, 1) := by decide +kernel
theorem dX4_stamp_61 : decode cX4_stamp 61 = .ok (.iaload, 1) := by decide +kernel
theorem dX4_stamp_62 : decode cX4_stamp 62 = .ok (.ireturn, 1) := by decide +kernel
theorem dX4_stamp_63 : decode cX4_stamp 63 = .ok (.aload_n 0, 1) := by decide +kernel
theorem dX4_stamp_64 : decode cX4_stamp 64 = .ok (.getfield 16, 3) := by decide +kernel
theorem dX4_stamp_67 : decode cX4_stamp 67 = .ok (.iconst 5, 1) := by decide +kernel
theorem dX4_stamp_68 : decode cX4_stamp 68 = .ok (.iload_n 1, 1) := by decide +kernel
theorem dX4_stamp_69 : decode cX4_stamp 69 = .ok (.iadd, 1) := by decide +kernel
theorem dX4_stamp_70 : decode cX4_stamp 70 = .ok (.iaload, 1) := by decide +kernel
theorem dX4_stamp_71 : decode cX4_stamp 71 = .ok (.ireturn, 1) := by decide +kernel
theorem dX4_stamp_72 : decode cX4_stamp 72 = .ok (.aload_n 0, 1) := by decide +kernel
theorem dX4_stamp_73 : decode cX4_stamp 73 = .ok (.getfield 7, 3) := by decide +kernel
theorem dX4_stamp_76 : decode cX4_stamp 76 = .ok (.iload_n 1, 1) := by decide +kernel
theorem dX4_stamp_77 : decode cX4_stamp 77 = .ok (.iaload, 1) := by decide +kernel
theorem dX4_stamp_78 : decode cX4_stamp 78 = .ok (.ireturn, 1) := by decide +kernel
theorem dX4_stamp_79 : decode cX4_stamp 79 = .ok (.aload_n 0, 1) := by decide +kernel
theorem dX4_stamp_80 : decode cX4_stamp 80 = .ok (.iconst 0, 1) := by decide +kernel
theorem dX4_stamp_81 : decode cX4_stamp 81 = .ok (.iload_n 1, 1) := by decide +kernel
theorem dX4_stamp_82 : decode cX4_stamp 82 = .ok (.invokevirtual 105, 3) := by decide +kernel
theorem dX4_stamp_85 : decode cX4_stamp 85 = .ok (.ireturn, 1) := by decide +kernel
theorem dX4_stamp_86 : decode cX4_stamp 86 = .ok (.aload_n 0, 1) := by decide +kernel
theorem dX4_stamp_87 : decode cX4_stamp 87 = .ok (.iconst 0, 1) := by decide +kernel
theorem dX4_stamp_88 : decode cX4_stamp 88 = .ok (.iload_n 1, 1) := by decide +kernel
theorem dX4_stamp_89 : decode cX4_stamp 89 = .ok (.invokevirtual 112, 3) := by decide +kernel
theorem dX4_stamp_92 : decode cX4_stamp 92 = .ok (.ireturn, 1) := by decide +kernel
theorem dX4_stamp_93 : decode cX4_stamp 93 = .ok (.aload_n 0, 1) := by decide +kernel
theorem dX4_stamp_94 : decode cX4_stamp 94 = .ok (.iconst 0, 1) := by decide +kernel
theorem dX4_stamp_95 : decode cX4_stamp 95 = .ok (.iload_n 1, 1) := by decide +kernel
theorem dX4_stamp_96 : decode cX4_stamp 96 = .ok (.invokevirtual 109, 3) := by decide +kernel
theorem dX4_stamp_99 : decode cX4_stamp 99 = .ok (.ifCond .eq 7, 3) := by decide +kernel
theorem dX4_stamp_102 : decode cX4_stamp 102 = .ok (.iconst 1, 1) := by decide +kernel
theorem dX4_stamp_103 : decode cX4_stamp 103 = .ok (.goto 4, 3) := by decide +kernel
theorem dX4_stamp_106 : decode cX4_stamp 106 = .ok (.iconst 0, 1) := by decide +kernel
theorem dX4_stamp_107 : decode cX4_stamp 107 = .ok (.ireturn, 1) := by decide +kernel
theorem dX4_stamp_108 : decode cX4_stamp 108 = .ok (.aload_n 0, 1) := by decide +kernel
theorem dX4_stamp_109 : decode cX4_stamp 109 = .ok (.getfield 16, 3) := by decide +kernel
theorem dX4_stamp_112 : decode cX4_stamp 112 = .ok (.bipush 15, 2) := by decide +kernel
theorem dX4_stamp_114 : decode cX4_stamp 114 = .ok (.iload_n 1, 1) := by decide +kernel
theorem dX4_stamp_115 : decode cX4_stamp 115 = .ok (.iadd, 1) := by decide +kernel
theorem dX4_stamp_116 : decode cX4_stamp 116 = .ok (.iaload, 1) := by decide +kernel
theorem dX4_stamp_117 : decode cX4_stamp 117 = .ok (.ireturn, 1) := by decide +kernel
theorem dX4_stamp_118 : decode cX4_stamp 118 = .ok (.aload_n 0, 1) := by decide +kernel
theorem dX4_stamp_119 : decode cX4_stamp 119 = .ok (.getfield 16, 3) := by decide +kernel
theorem dX4_stamp_122 : decode cX4_stamp 122 = .ok (.bipush 10, 2) := by decide +kernel
theorem dX4_stamp_124 : decode cX4_stamp 124 = .ok (.iload_n 1, 1) := by decide +kernel
theorem dX4_stamp_125 : decode cX4_stamp 125 = .ok (.iadd, 1) := by decide +kernel
theorem dX4_stamp_126 : decode cX4_stamp 126 = .ok (.iaload, 1) := by decide +kernel
theorem dX4_stamp_127 : decode cX4_stamp 127 = .ok (.ireturn, 1) := by decide +kernel
theorem dX4_stamp_128 : decode cX4_stamp 128 = .ok (.bipush (-2), 2) := by decide +kernel
theorem dX4_stamp_130 : decode cX4_stamp 130 = .ok (.ireturn, 1) := by decide +kernel
theorem dX4_letter_0 : decode cX4_letter 0 = .ok (.aload_n 0, 1) := by decide +kernel
theorem dX4_letter_1 : decode cX4_letter 1 = .ok (.iload_n 1, 1) := by decide +kernel
theorem dX4_letter_2 : decode cX4_letter 2 = .ok (.invokevirtual 132, 3) := by decide +kernel
theorem dX4_letter_5 : decode cX4_letter 5 = .ok (.ifCond .ne 5, 3) := by decide +kernel
theorem dX4_letter_8 : decode cX4_letter 8 = .ok (.iconst (-1), 1) := by decide +kernel
theorem dX4_letter_9 : decode cX4_letter 9 = .ok (.ireturn, 1) := by decide +kernel
theorem dX4_letter_10 : decode cX4_letter 10 = .ok (.iload_n 2, 1) := by decide +kernel
theorem dX4_letter_11 : decode cX4_letter 11 = .ok (.tableswitch 79 0 4 #[33, 43, 50, 57, 69], 33) := by decide +kernel
theorem dX4_letter_44 : decode cX4_letter 44 = .ok (.aload_n 0, 1) := by decide +kernel
theorem dX4_letter_45 : decode cX4_letter 45 = .ok (.getfield 16, 3) := by decide +kernel
theorem dX4_letter_48 : decode cX4_letter 48 = .ok (.bipush 20, 2) := by decide +kernel
theorem dX4_letter_50 : decode cX4_letter 50 = .ok (.iload_n 1, 1) := by decide +kernel
theorem dX4_letter_51 : decode cX4_letter 51 = .ok (.iadd, 1) := by decide +kernel
theorem dX4_letter_52 : decode cX4_letter 52 = .ok (.iaload, 1) := by decide +kernel
theorem dX4_letter_53 : decode cX4_letter 53 = .ok (.ireturn, 1) := by decide +kernel
theorem dX4_letter_54 : decode cX4_letter 54 = .ok (.aload_n 0, 1) := by decide +kernel
theorem dX4_letter_55 : decode cX4_letter 55 = .ok (.getfield 13, 3) := by decide +kernel
theorem dX4_letter_58 : decode cX4_letter 58 = .ok (.iload_n 1, 1) := by decide +kernel
theorem dX4_letter_59 : decode cX4_letter 59 = .ok (.iaload, 1) := by decide +kernel
theorem dX4_letter_60 : decode cX4_letter 60 = .ok (.ireturn, 1) := by decide +kernel
theorem dX4_letter_61 : decode cX4_letter 61 = .ok (.aload_n 0, 1) := by decide +kernel
theorem dX4_letter_62 : decode cX4_letter 62 = .ok (.iconst 0, 1) := by decide +kernel
theorem dX4_letter_63 : decode cX4_letter 63 = .ok (.iload_n 1, 1) := by decide +kernel
theorem dX4_letter_64 : decode cX4_letter 64 = .ok (.invokevirtual 125, 3) := by decide +kernel
theorem dX4_letter_67 : decode cX4_letter 67 = .ok (.ireturn, 1) := by decide +kernel
theorem dX4_letter_68 : decode cX4_letter 68 = .ok (.aload_n 0, 1) := by decide +kernel
theorem dX4_letter_69 : decode cX4_letter 69 = .ok (.iconst 0, 1) := by decide +kernel
theorem dX4_letter_70 : decode cX4_letter 70 = .ok (.aload_n 0, 1) := by decide +kernel
theorem dX4_letter_71 : decode cX4_letter 71 = .ok (.iconst 0, 1) := by decide +kernel
theorem dX4_letter_72 : decode cX4_letter 72 = .ok (.iload_n 1, 1) := by decide +kernel
theorem dX4_letter_73 : decode cX4_letter 73 = .ok (.invokevirtual 125, 3) := by decide +kernel
theorem dX4_letter_76 : decode cX4_letter 76 = .ok (.invokevirtual 135, 3) := by decide +kernel
theorem dX4_letter_79 : decode cX4_letter 79 = .ok (.ireturn, 1) := by decide +kernel
theorem dX4_letter_80 : decode cX4_letter 80 = .ok (.aload_n 0, 1) := by decide +kernel
theorem dX4_letter_81 : decode cX4_letter 81 = .ok (.getfield 16, 3) := by decide +kernel
theorem dX4_letter_84 : decode cX4_letter 84 = .ok (.bipush 24, 2) := by decide +kernel
theorem dX4_letter_86 : decode cX4_letter 86 = .ok (.iload_n 1, 1) := by decide +kernel
theorem dX4_letter_87 : decode cX4_letter 87 = .ok (.iadd, 1) := by decide +kernel
theorem dX4_letter_88 : decode cX4_letter 88 = .ok (.iaload, 1) := by decide +kernel
theorem dX4_letter_89 : decode cX4_letter 89 = .ok (.ireturn, 1) := by decide +kernel
theorem dX4_letter_90 : decode cX4_letter 90 = .ok (.bipush (-2), 2) := by decide +kernel
theorem dX4_letter_92 : decode cX4_letter 92 = .ok (.ireturn, 1) := by decide +kernel
theorem dX4_keepAct_0 : decode cX4_keepAct 0 = .ok (.iconst 0, 1) := by decide +kernel
theorem dX4_keepAct_1 : decode cX4_keepAct 1 = .ok (.istore_n 1, 1) := by decide +kernel
theorem dX4_keepAct_2 : decode cX4_keepAct 2 = .ok (.iload_n 1, 1) := by decide +kernel
theorem dX4_keepAct_3 : decode cX4_keepAct 3 = .ok (.bipush 30, 2) := by decide +kernel
theorem dX4_keepAct_5 : decode cX4_keepAct 5 = .ok (.if_icmp .ge 29, 3) := by decide +kernel
theorem dX4_keepAct_8 : decode cX4_keepAct 8 = .ok (.aload_n 0, 1) := by decide +kernel
theorem dX4_keepAct_9 : decode cX4_keepAct 9 = .ok (.getfield 31, 3) := by decide +kernel
theorem dX4_keepAct_12 : decode cX4_keepAct 12 = .ok (.bipush 30, 2) := by decide +kernel
theorem dX4_keepAct_14 : decode cX4_keepAct 14 = .ok (.aload_n 0, 1) := by decide +kernel
theorem dX4_keepAct_15 : decode cX4_keepAct 15 = .ok (.getfield 138, 3) := by decide +kernel
theorem dX4_keepAct_18 : decode cX4_keepAct 18 = .ok (.imul, 1) := by decide +kernel
theorem dX4_keepAct_19 : decode cX4_keepAct 19 = .ok (.iload_n 1, 1) := by decide +kernel
theorem dX4_keepAct_20 : decode cX4_keepAct 20 = .ok (.iadd, 1) := by decide +kernel
theorem dX4_keepAct_21 : decode cX4_keepAct 21 = .ok (.aload_n 0, 1) := by decide +kernel
theorem dX4_keepAct_22 : decode cX4_keepAct 22 = .ok (.getfield 16, 3) := by decide +kernel
theorem dX4_keepAct_25 : decode cX4_keepAct 25 = .ok (.iload_n 1, 1) := by decide +kernel
theorem dX4_keepAct_26 : decode cX4_keepAct 26 = .ok (.iaload, 1) := by decide +kernel
theorem dX4_keepAct_27 : decode cX4_keepAct 27 = .ok (.iastore, 1) := by decide +kernel
theorem dX4_keepAct_28 : decode cX4_keepAct 28 = .ok (.iinc 1 1, 3) := by decide +kernel
theorem dX4_keepAct_31 : decode cX4_keepAct 31 = .ok (.goto (-29), 3) := by decide +kernel
theorem dX4_keepAct_34 : decode cX4_keepAct 34 = .ok (.aload_n 0, 1) := by decide +kernel
theorem dX4_keepAct_35 : decode cX4_keepAct 35 = .ok (.aload_n 0, 1) := by decide +kernel
theorem dX4_keepAct_36 : decode cX4_keepAct 36 = .ok (.getfield 138, 3) := by decide +kernel
theorem dX4_keepAct_39 : decode cX4_keepAct 39 = .ok (.iconst 1, 1) := by decide +kernel
theorem dX4_keepAct_40 : decode cX4_keepAct 40 = .ok (.iadd, 1) := by decide +kernel
theorem dX4_keepAct_41 : decode cX4_keepAct 41 = .ok (.bipush 14, 2) := by decide +kernel
theorem dX4_keepAct_43 : decode cX4_keepAct 43 = .ok (.irem, 1) := by decide +kernel
theorem dX4_keepAct_44 : decode cX4_keepAct 44 = .ok (.putfield 138, 3) := by decide +kernel
theorem dX4_keepAct_47 : decode cX4_keepAct 47 = .ok (.aload_n 0, 1) := by decide +kernel
theorem dX4_keepAct_48 : decode cX4_keepAct 48 = .ok (.aload_n 0, 1) := by decide +kernel
theorem dX4_keepAct_49 : decode cX4_keepAct 49 = .ok (.getfield 102, 3) := by decide +kernel
theorem dX4_keepAct_52 : decode cX4_keepAct 52 = .ok (.bipush 14, 2) := by decide +kernel
theorem dX4_keepAct_54 : decode cX4_keepAct 54 = .ok (.if_icmp .ge 12, 3) := by decide +kernel
theorem dX4_keepAct_57 : decode cX4_keepAct 57 = .ok (.aload_n 0, 1) := by decide +kernel
theorem dX4_keepAct_58 : decode cX4_keepAct 58 = .ok (.getfield 102, 3) := by decide +kernel
theorem dX4_keepAct_61 : decode cX4_keepAct 61 = .ok (.iconst 1, 1) := by decide +kernel
theorem dX4_keepAct_62 : decode cX4_keepAct 62 = .ok (.iadd, 1) := by decide +kernel
theorem dX4_keepAct_63 : decode cX4_keepAct 63 = .ok (.goto 5, 3) := by decide +kernel
theorem dX4_keepAct_66 : decode cX4_keepAct 66 = .ok (.bipush 14, 2) := by decide +kernel
theorem dX4_keepAct_68 : decode cX4_keepAct 68 = .ok (.putfield 102, 3) := by decide +kernel
theorem dX4_keepAct_71 : decode cX4_keepAct 71 = .ok (.return_, 1) := by decide +kernel
theorem dX4_week_0 : decode cX4_week 0 = .ok (.aload_n 0, 1) := by decide +kernel
theorem dX4_week_1 : decode cX4_week 1 = .ok (.invokevirtual 141, 3) := by decide +kernel
theorem dX4_week_4 : decode cX4_week 4 = .ok (.aload_n 0, 1) := by decide +kernel
theorem dX4_week_5 : decode cX4_week 5 = .ok (.iconst 0, 1) := by decide +kernel
theorem dX4_week_6 : decode cX4_week 6 = .ok (.invokevirtual 144, 3) := by decide +kernel
theorem dX4_week_9 : decode cX4_week 9 = .ok (.aload_n 0, 1) := by decide +kernel
theorem dX4_week_10 : decode cX4_week 10 = .ok (.iconst 0, 1) := by decide +kernel
theorem dX4_week_11 : decode cX4_week 11 = .ok (.invokevirtual 115, 3) := by decide +kernel
theorem dX4_week_14 : decode cX4_week 14 = .ok (.invokestatic 147, 3) := by decide +kernel
theorem dX4_week_17 : decode cX4_week 17 = .ok (.ireturn, 1) := by decide +kernel
theorem dX4_isFree_0 : decode cX4_isFree 0 = .ok (.aload_n 0, 1) := by decide +kernel
theorem dX4_isFree_1 : decode cX4_isFree 1 = .ok (.iload_n 1, 1) := by decide +kernel
theorem dX4_isFree_2 : decode cX4_isFree 2 = .ok (.iload_n 2, 1) := by decide +kernel
theorem dX4_isFree_3 : decode cX4_isFree 3 = .ok (.invokevirtual 109, 3) := by decide +kernel
theorem dX4_isFree_6 : decode cX4_isFree 6 = .ok (.ifCond .eq 26, 3) := by decide +kernel
theorem dX4_isFree_9 : decode cX4_isFree 9 = .ok (.aload_n 0, 1) := by decide +kernel
theorem dX4_isFree_10 : decode cX4_isFree 10 = .ok (.getfield 16, 3) := by decide +kernel
theorem dX4_isFree_13 : decode cX4_isFree 13 = .ok (.bipush 30, 2) := by decide +kernel
theorem dX4_isFree_15 : decode cX4_isFree 15 = .ok (.iload_n 1, 1) := by decide +kernel
theorem dX4_isFree_16 : decode cX4_isFree 16 = .ok (.imul, 1) := by decide +kernel
theorem dX4_isFree_17 : decode cX4_isFree 17 = .ok (.bipush 15, 2) := by decide +kernel
theorem dX4_isFree_19 : decode cX4_isFree 19 = .ok (.iadd, 1) := by decide +kernel
theorem dX4_isFree_20 : decode cX4_isFree 20 = .ok (.iload_n 2, 1) := by decide +kernel
theorem dX4_isFree_21 : decode cX4_isFree 21 = .ok (.iadd, 1) := by decide +kernel
theorem dX4_isFree_22 : decode cX4_isFree 22 = .ok (.iaload, 1) := by decide +kernel
theorem dX4_isFree_23 : decode cX4_isFree 23 = .ok (.bipush (-9), 2) := by decide +kernel
theorem dX4_isFree_25 : decode cX4_isFree 25 = .ok (.if_icmp .ne 7, 3) := by decide +kernel
theorem dX4_isFree_28 : decode cX4_isFree 28 = .ok (.iconst 1, 1) := by decide +kernel
theorem dX4_isFree_29 : decode cX4_isFree 29 = .ok (.goto 4, 3) := by decide +kernel
theorem dX4_isFree_32 : decode cX4_isFree 32 = .ok (.iconst 0, 1) := by decide +kernel
theorem dX4_isFree_33 : decode cX4_isFree 33 = .ok (.ireturn, 1) := by decide +kernel
theorem dX4_canStick_0 : decode cX4_canStick 0 = .ok (.aload_n 0, 1) := by decide +kernel
theorem dX4_canStick_1 : decode cX4_canStick 1 = .ok (.iload_n 2, 1) := by decide +kernel
theorem dX4_canStick_2 : decode cX4_canStick 2 = .ok (.invokevirtual 128, 3) := by decide +kernel
theorem dX4_canStick_5 : decode cX4_canStick 5 = .ok (.ifCond .eq 41, 3) := by decide +kernel
theorem dX4_canStick_8 : decode cX4_canStick 8 = .ok (.aload_n 0, 1) := by decide +kernel
theorem dX4_canStick_9 : decode cX4_canStick 9 = .ok (.iload_n 3, 1) := by decide +kernel
theorem dX4_canStick_10 : decode cX4_canStick 10 = .ok (.invokevirtual 132, 3) := by decide +kernel
theorem dX4_canStick_13 : decode cX4_canStick 13 = .ok (.ifCond .eq 33, 3) := by decide +kernel
theorem dX4_canStick_16 : decode cX4_canStick 16 = .ok (.aload_n 0, 1) := by decide +kernel
theorem dX4_canStick_17 : decode cX4_canStick 17 = .ok (.iload_n 1, 1) := by decide +kernel
theorem dX4_canStick_18 : decode cX4_canStick 18 = .ok (.iload_n 2, 1) := by decide +kernel
theorem dX4_canStick_19 : decode cX4_canStick 19 = .ok (.invokevirtual 150, 3) := by decide +kernel
theorem dX4_canStick_22 : decode cX4_canStick 22 = .ok (.ifCond .eq 24, 3) := by decide +kernel
theorem dX4_canStick_25 : decode cX4_canStick 25 = .ok (.aload_n 0, 1) := by decide +kernel
theorem dX4_canStick_26 : decode cX4_canStick 26 = .ok (.getfield 16, 3) := by decide +kernel
theorem dX4_canStick_29 : decode cX4_canStick 29 = .ok (.bipush 30, 2) := by decide +kernel
theorem dX4_canStick_31 : decode cX4_canStick 31 = .ok (.iload_n 1, 1) := by decide +kernel
theorem dX4_canStick_32 : decode cX4_canStick 32 = .ok (.imul, 1) := by decide +kernel
theorem dX4_canStick_33 : decode cX4_canStick 33 = .ok (.bipush 24, 2) := by decide +kernel
theorem dX4_canStick_35 : decode cX4_canStick 35 = .ok (.iadd, 1) := by decide +kernel
theorem dX4_canStick_36 : decode cX4_canStick 36 = .ok (.iload_n 3, 1) := by decide +kernel
theorem dX4_canStick_37 : decode cX4_canStick 37 = .ok (.iadd, 1) := by decide +kernel
theorem dX4_canStick_38 : decode cX4_canStick 38 = .ok (.iaload, 1) := by decide +kernel
theorem dX4_canStick_39 : decode cX4_canStick 39 = .ok (.ifCond .ne 7, 3) := by decide +kernel
theorem dX4_canStick_42 : decode cX4_canStick 42 = .ok (.iconst 1, 1) := by decide +kernel
theorem dX4_canStick_43 : decode cX4_canStick 43 = .ok (.goto 4, 3) := by decide +kernel
theorem dX4_canStick_46 : decode cX4_canStick 46 = .ok (.iconst 0, 1) := by decide +kernel
theorem dX4_canStick_47 : decode cX4_canStick 47 = .ok (.ireturn, 1) := by decide +kernel
theorem dX4_stickOn_0 : decode cX4_stickOn 0 = .ok (.bipush 30, 2) := by decide +kernel
theorem dX4_stickOn_2 : decode cX4_stickOn 2 = .ok (.iload_n 1, 1) := by decide +kernel
theorem dX4_stickOn_3 : decode cX4_stickOn 3 = .ok (.imul, 1) := by decide +kernel
theorem dX4_stickOn_4 : decode cX4_stickOn 4 = .ok (.istore 4, 2) := by decide +kernel
theorem dX4_stickOn_6 : decode cX4_stickOn 6 = .ok (.aload_n 0, 1) := by decide +kernel
theorem dX4_stickOn_7 : decode cX4_stickOn 7 = .ok (.getfield 16, 3) := by decide +kernel
theorem dX4_stickOn_10 : decode cX4_stickOn 10 = .ok (.iload 4, 2) := by decide +kernel
theorem dX4_stickOn_12 : decode cX4_stickOn 12 = .ok (.bipush 15, 2) := by decide +kernel
theorem dX4_stickOn_14 : decode cX4_stickOn 14 = .ok (.iadd, 1) := by decide +kernel
theorem dX4_stickOn_15 : decode cX4_stickOn 15 = .ok (.iload_n 2, 1) := by decide +kernel
theorem dX4_stickOn_16 : decode cX4_stickOn 16 = .ok (.iadd, 1) := by decide +kernel
theorem dX4_stickOn_17 : decode cX4_stickOn 17 = .ok (.iload_n 3, 1) := by decide +kernel
theorem dX4_stickOn_18 : decode cX4_stickOn 18 = .ok (.iastore, 1) := by decide +kernel
theorem dX4_stickOn_19 : decode cX4_stickOn 19 = .ok (.aload_n 0, 1) := by decide +kernel
theorem dX4_stickOn_20 : decode cX4_stickOn 20 = .ok (.getfield 16, 3) := by decide +kernel
theorem dX4_stickOn_23 : decode cX4_stickOn 23 = .ok (.iload 4, 2) := by decide +kernel
theorem dX4_stickOn_25 : decode cX4_stickOn 25 = .ok (.iconst 5, 1) := by decide +kernel
theorem dX4_stickOn_26 : decode cX4_stickOn 26 = .ok (.iadd, 1) := by decide +kernel
theorem dX4_stickOn_27 : decode cX4_stickOn 27 = .ok (.iload_n 2, 1) := by decide +kernel
theorem dX4_stickOn_28 : decode cX4_stickOn 28 = .ok (.iadd, 1) := by decide +kernel
theorem dX4_stickOn_29 : decode cX4_stickOn 29 = .ok (.dup2, 1) := by decide +kernel
theorem dX4_stickOn_30 : decode cX4_stickOn 30 = .ok (.iaload, 1) := by decide +kernel
theorem dX4_stickOn_31 : decode cX4_stickOn 31 = .ok (.aload_n 0, 1) := by decide +kernel
theorem dX4_stickOn_32 : decode cX4_stickOn 32 = .ok (.getfield 16, 3) := by decide +kernel
theorem dX4_stickOn_35 : decode cX4_stickOn 35 = .ok (.iload 4, 2) := by decide +kernel
theorem dX4_stickOn_37 : decode cX4_stickOn 37 = .ok (.iconst 5, 1) := by decide +kernel
theorem dX4_stickOn_38 : decode cX4_stickOn 38 = .ok (.iadd, 1) := by decide +kernel
theorem dX4_stickOn_39 : decode cX4_stickOn 39 = .ok (.iload_n 2, 1) := by decide +kernel
theorem dX4_stickOn_40 : decode cX4_stickOn 40 = .ok (.iadd, 1) := by decide +kernel
theorem dX4_stickOn_41 : decode cX4_stickOn 41 = .ok (.iaload, 1) := by decide +kernel
theorem dX4_stickOn_42 : decode cX4_stickOn 42 = .ok (.ifCond .le 7, 3) := by decide +kernel
theorem dX4_stickOn_45 : decode cX4_stickOn 45 = .ok (.iconst 1, 1) := by decide +kernel
theorem dX4_stickOn_46 : decode cX4_stickOn 46 = .ok (.goto 4, 3) := by decide +kernel
theorem dX4_stickOn_49 : decode cX4_stickOn 49 = .ok (.iconst 0, 1) := by decide +kernel
theorem dX4_stickOn_50 : decode cX4_stickOn 50 = .ok (.isub, 1) := by decide +kernel
theorem dX4_stickOn_51 : decode cX4_stickOn 51 = .ok (.iastore, 1) := by decide +kernel
theorem dX4_stickOn_52 : decode cX4_stickOn 52 = .ok (.return_, 1) := by decide +kernel
theorem dX4_stick_0 : decode cX4_stick 0 = .ok (.aload_n 0, 1) := by decide +kernel
theorem dX4_stick_1 : decode cX4_stick 1 = .ok (.iload_n 1, 1) := by decide +kernel
theorem dX4_stick_2 : decode cX4_stick 2 = .ok (.invokevirtual 128, 3) := by decide +kernel
theorem dX4_stick_5 : decode cX4_stick 5 = .ok (.ifCond .eq 11, 3) := by decide +kernel
theorem dX4_stick_8 : decode cX4_stick 8 = .ok (.aload_n 0, 1) := by decide +kernel
theorem dX4_stick_9 : decode cX4_stick 9 = .ok (.iload_n 2, 1) := by decide +kernel
theorem dX4_stick_10 : decode cX4_stick 10 = .ok (.invokevirtual 132, 3) := by decide +kernel
theorem dX4_stick_13 : decode cX4_stick 13 = .ok (.ifCond .ne 5, 3) := by decide +kernel
theorem dX4_stick_16 : decode cX4_stick 16 = .ok (.iconst (-1), 1) := by decide +kernel
theorem dX4_stick_17 : decode cX4_stick 17 = .ok (.ireturn, 1) := by decide +kernel
theorem dX4_stick_18 : decode cX4_stick 18 = .ok (.aload_n 0, 1) := by decide +kernel
theorem dX4_stick_19 : decode cX4_stick 19 = .ok (.iconst 0, 1) := by decide +kernel
theorem dX4_stick_20 : decode cX4_stick 20 = .ok (.iload_n 1, 1) := by decide +kernel
theorem dX4_stick_21 : decode cX4_stick 21 = .ok (.iload_n 2, 1) := by decide +kernel
theorem dX4_stick_22 : decode cX4_stick 22 = .ok (.invokevirtual 153, 3) := by decide +kernel
theorem dX4_stick_25 : decode cX4_stick 25 = .ok (.ifCond .ne 6, 3) := by decide +kernel
theorem dX4_stick_28 : decode cX4_stick 28 = .ok (.bipush (-3), 2) := by decide +kernel
theorem dX4_stick_30 : decode cX4_stick 30 = .ok (.ireturn, 1) := by decide +kernel
theorem dX4_stick_31 : decode cX4_stick 31 = .ok (.aload_n 0, 1) := by decide +kernel
theorem dX4_stick_32 : decode cX4_stick 32 = .ok (.invokevirtual 141, 3) := by decide +kernel
theorem dX4_stick_35 : decode cX4_stick 35 = .ok (.aload_n 0, 1) := by decide +kernel
theorem dX4_stick_36 : decode cX4_stick 36 = .ok (.iconst 0, 1) := by decide +kernel
theorem dX4_stick_37 : decode cX4_stick 37 = .ok (.iload_n 1, 1) := by decide +kernel
theorem dX4_stick_38 : decode cX4_stick 38 = .ok (.iload_n 2, 1) := by decide +kernel
theorem dX4_stick_39 : decode cX4_stick 39 = .ok (.invokevirtual 157, 3) := by decide +kernel
theorem dX4_stick_42 : decode cX4_stick 42 = .ok (.aload_n 0, 1) := by decide +kernel
theorem dX4_stick_43 : decode cX4_stick 43 = .ok (.iconst 0, 1) := by decide +kernel
theorem dX4_stick_44 : decode cX4_stick 44 = .ok (.iload_n 2, 1) := by decide +kernel
theorem dX4_stick_45 : decode cX4_stick 45 = .ok (.invokevirtual 125, 3) := by decide +kernel
theorem dX4_stick_48 : decode cX4_stick 48 = .ok (.invokestatic 147, 3) := by decide +kernel
theorem dX4_stick_51 : decode cX4_stick 51 = .ok (.ireturn, 1) := by decide +kernel
theorem dX4_canSend_0 : decode cX4_canSend 0 = .ok (.aload_n 0, 1) := by decide +kernel
theorem dX4_canSend_1 : decode cX4_canSend 1 = .ok (.iload_n 2, 1) := by decide +kernel
theorem dX4_canSend_2 : decode cX4_canSend 2 = .ok (.invokevirtual 132, 3) := by decide +kernel
theorem dX4_canSend_5 : decode cX4_canSend 5 = .ok (.ifCond .eq 44, 3) := by decide +kernel
theorem dX4_canSend_8 : decode cX4_canSend 8 = .ok (.aload_n 0, 1) := by decide +kernel
theorem dX4_canSend_9 : decode cX4_canSend 9 = .ok (.getfield 16, 3) := by decide +kernel
theorem dX4_canSend_12 : decode cX4_canSend 12 = .ok (.bipush 30, 2) := by decide +kernel
theorem dX4_canSend_14 : decode cX4_canSend 14 = .ok (.iload_n 1, 1) := by decide +kernel
theorem dX4_canSend_15 : decode cX4_canSend 15 = .ok (.imul, 1) := by decide +kernel
theorem dX4_canSend_16 : decode cX4_canSend 16 = .ok (.bipush 24, 2) := by decide +kernel
theorem dX4_canSend_18 : decode cX4_canSend 18 = .ok (.iadd, 1) := by decide +kernel
theorem dX4_canSend_19 : decode cX4_canSend 19 = .ok (.iload_n 2, 1) := by decide +kernel
theorem dX4_canSend_20 : decode cX4_canSend 20 = .ok (.iadd, 1) := by decide +kernel
theorem dX4_canSend_21 : decode cX4_canSend 21 = .ok (.iaload, 1) := by decide +kernel
theorem dX4_canSend_22 : decode cX4_canSend 22 = .ok (.ifCond .ne 27, 3) := by decide +kernel
theorem dX4_canSend_25 : decode cX4_canSend 25 = .ok (.aload_n 0, 1) := by decide +kernel
theorem dX4_canSend_26 : decode cX4_canSend 26 = .ok (.iload_n 1, 1) := by decide +kernel
theorem dX4_canSend_27 : decode cX4_canSend 27 = .ok (.aload_n 0, 1) := by decide +kernel
theorem dX4_canSend_28 : decode cX4_canSend 28 = .ok (.iload_n 1, 1) := by decide +kernel
theorem dX4_canSend_29 : decode cX4_canSend 29 = .ok (.iload_n 2, 1) := by decide +kernel
theorem dX4_canSend_30 : decode cX4_canSend 30 = .ok (.invokevirtual 125, 3) := by decide +kernel
theorem dX4_canSend_33 : decode cX4_canSend 33 = .ok (.invokevirtual 135, 3) := by decide +kernel
theorem dX4_canSend_36 : decode cX4_canSend 36 = .ok (.aload_n 0, 1) := by decide +kernel
theorem dX4_canSend_37 : decode cX4_canSend 37 = .ok (.getfield 13, 3) := by decide +kernel
theorem dX4_canSend_40 : decode cX4_canSend 40 = .ok (.iload_n 2, 1) := by decide +kernel
theorem dX4_canSend_41 : decode cX4_canSend 41 = .ok (.iaload, 1) := by decide +kernel
theorem dX4_canSend_42 : decode cX4_canSend 42 = .ok (.if_icmp .lt 7, 3) := by decide +kernel
theorem dX4_canSend_45 : decode cX4_canSend 45 = .ok (.iconst 1, 1) := by decide +kernel
theorem dX4_canSend_46 : decode cX4_canSend 46 = .ok (.goto 4, 3) := by decide +kernel
theorem dX4_canSend_49 : decode cX4_canSend 49 = .ok (.iconst 0, 1) := by decide +kernel
theorem dX4_canSend_50 : decode cX4_canSend 50 = .ok (.ireturn, 1) := by decide +kernel
theorem dX4_send_0 : decode cX4_send 0 = .ok (.aload_n 0, 1) := by decide +kernel
theorem dX4_send_1 : decode cX4_send 1 = .ok (.iload_n 1, 1) := by decide +kernel
theorem dX4_send_2 : decode cX4_send 2 = .ok (.invokevirtual 132, 3) := by decide +kernel
theorem dX4_send_5 : decode cX4_send 5 = .ok (.ifCond .ne 5, 3) := by decide +kernel
theorem dX4_send_8 : decode cX4_send 8 = .ok (.iconst (-1), 1) := by decide +kernel
theorem dX4_send_9 : decode cX4_send 9 = .ok (.ireturn, 1) := by decide +kernel
theorem dX4_send_10 : decode cX4_send 10 = .ok (.aload_n 0, 1) := by decide +kernel
theorem dX4_send_11 : decode cX4_send 11 = .ok (.iconst 0, 1) := by decide +kernel
theorem dX4_send_12 : decode cX4_send 12 = .ok (.iload_n 1, 1) := by decide +kernel
theorem dX4_send_13 : decode cX4_send 13 = .ok (.invokevirtual 160, 3) := by decide +kernel
theorem dX4_send_16 : decode cX4_send 16 = .ok (.ifCond .ne 6, 3) := by decide +kernel
theorem dX4_send_19 : decode cX4_send 19 = .ok (.bipush (-3), 2) := by decide +kernel
theorem dX4_send_21 : decode cX4_send 21 = .ok (.ireturn, 1) := by decide +kernel
theorem dX4_send_22 : decode cX4_send 22 = .ok (.aload_n 0, 1) := by decide +kernel
theorem dX4_send_23 : decode cX4_send 23 = .ok (.invokevirtual 141, 3) := by decide +kernel
theorem dX4_send_26 : decode cX4_send 26 = .ok (.aload_n 0, 1) := by decide +kernel
theorem dX4_send_27 : decode cX4_send 27 = .ok (.getfield 16, 3) := by decide +kernel
theorem dX4_send_30 : decode cX4_send 30 = .ok (.bipush 24, 2) := by decide +kernel
theorem dX4_send_32 : decode cX4_send 32 = .ok (.iload_n 1, 1) := by decide +kernel
theorem dX4_send_33 : decode cX4_send 33 = .ok (.iadd, 1) := by decide +kernel
theorem dX4_send_34 : decode cX4_send 34 = .ok (.iconst 1, 1) := by decide +kernel
theorem dX4_send_35 : decode cX4_send 35 = .ok (.iastore, 1) := by decide +kernel
theorem dX4_send_36 : decode cX4_send 36 = .ok (.aload_n 0, 1) := by decide +kernel
theorem dX4_send_37 : decode cX4_send 37 = .ok (.getfield 16, 3) := by decide +kernel
theorem dX4_send_40 : decode cX4_send 40 = .ok (.bipush 20, 2) := by decide +kernel
theorem dX4_send_42 : decode cX4_send 42 = .ok (.iload_n 1, 1) := by decide +kernel
theorem dX4_send_43 : decode cX4_send 43 = .ok (.iadd, 1) := by decide +kernel
theorem dX4_send_44 : decode cX4_send 44 = .ok (.iaload, 1) := by decide +kernel
theorem dX4_send_45 : decode cX4_send 45 = .ok (.ireturn, 1) := by decide +kernel
theorem dX4_canPart_0 : decode cX4_canPart 0 = .ok (.aload_n 0, 1) := by decide +kernel
theorem dX4_canPart_1 : decode cX4_canPart 1 = .ok (.iload_n 2, 1) := by decide +kernel
theorem dX4_canPart_2 : decode cX4_canPart 2 = .ok (.invokevirtual 128, 3) := by decide +kernel
theorem dX4_canPart_5 : decode cX4_canPart 5 = .ok (.ifCond .eq 36, 3) := by decide +kernel
theorem dX4_canPart_8 : decode cX4_canPart 8 = .ok (.aload_n 0, 1) := by decide +kernel
theorem dX4_canPart_9 : decode cX4_canPart 9 = .ok (.iload_n 3, 1) := by decide +kernel
theorem dX4_canPart_10 : decode cX4_canPart 10 = .ok (.invokevirtual 128, 3) := by decide +kernel
theorem dX4_canPart_13 : decode cX4_canPart 13 = .ok (.ifCond .eq 28, 3) := by decide +kernel
theorem dX4_canPart_16 : decode cX4_canPart 16 = .ok (.aload_n 0, 1) := by decide +kernel
theorem dX4_canPart_17 : decode cX4_canPart 17 = .ok (.getfield 16, 3) := by decide +kernel
theorem dX4_canPart_20 : decode cX4_canPart 20 = .ok (.bipush 30, 2) := by decide +kernel
theorem dX4_canPart_22 : decode cX4_canPart 22 = .ok (.iload_n 1, 1) := by decide +kernel
theorem dX4_canPart_23 : decode cX4_canPart 23 = .ok (.imul, 1) := by decide +kernel
theorem dX4_canPart_24 : decode cX4_canPart 24 = .ok (.bipush 10, 2) := by decide +kernel
theorem dX4_canPart_26 : decode cX4_canPart 26 = .ok (.iadd, 1) := by decide +kernel
theorem dX4_canPart_27 : decode cX4_canPart 27 = .ok (.iload_n 2, 1) := by decide +kernel
theorem dX4_canPart_28 : decode cX4_canPart 28 = .ok (.iadd, 1) := by decide +kernel
theorem dX4_canPart_29 : decode cX4_canPart 29 = .ok (.iaload, 1) := by decide +kernel
theorem dX4_canPart_30 : decode cX4_canPart 30 = .ok (.iload_n 3, 1) := by decide +kernel
theorem dX4_canPart_31 : decode cX4_canPart 31 = .ok (.invokestatic 71, 3) := by decide +kernel
theorem dX4_canPart_34 : decode cX4_canPart 34 = .ok (.ifCond .eq 7, 3) := by decide +kernel
theorem dX4_canPart_37 : decode cX4_canPart 37 = .ok (.iconst 1, 1) := by decide +kernel
theorem dX4_canPart_38 : decode cX4_canPart 38 = .ok (.goto 4, 3) := by decide +kernel
theorem dX4_canPart_41 : decode cX4_canPart 41 = .ok (.iconst 0, 1) := by decide +kernel
theorem dX4_canPart_42 : decode cX4_canPart 42 = .ok (.ireturn, 1) := by decide +kernel
theorem dX4_partOn_0 : decode cX4_partOn 0 = .ok (.bipush 30, 2) := by decide +kernel
theorem dX4_partOn_2 : decode cX4_partOn 2 = .ok (.iload_n 1, 1) := by decide +kernel
theorem dX4_partOn_3 : decode cX4_partOn 3 = .ok (.imul, 1) := by decide +kernel
theorem dX4_partOn_4 : decode cX4_partOn 4 = .ok (.istore 4, 2) := by decide +kernel
theorem dX4_partOn_6 : decode cX4_partOn 6 = .ok (.aload_n 0, 1) := by decide +kernel
theorem dX4_partOn_7 : decode cX4_partOn 7 = .ok (.getfield 16, 3) := by decide +kernel
theorem dX4_partOn_10 : decode cX4_partOn 10 = .ok (.iload 4, 2) := by decide +kernel
theorem dX4_partOn_12 : decode cX4_partOn 12 = .ok (.bipush 10, 2) := by decide +kernel
theorem dX4_partOn_14 : decode cX4_partOn 14 = .ok (.iadd, 1) := by decide +kernel
theorem dX4_partOn_15 : decode cX4_partOn 15 = .ok (.iload_n 2, 1) := by decide +kernel
theorem dX4_partOn_16 : decode cX4_partOn 16 = .ok (.iadd, 1) := by decide +kernel
theorem dX4_partOn_17 : decode cX4_partOn 17 = .ok (.dup2, 1) := by decide +kernel
theorem dX4_partOn_18 : decode cX4_partOn 18 = .ok (.iaload, 1) := by decide +kernel
theorem dX4_partOn_19 : decode cX4_partOn 19 = .ok (.iconst 1, 1) := by decide +kernel
theorem dX4_partOn_20 : decode cX4_partOn 20 = .ok (.iload_n 3, 1) := by decide +kernel
theorem dX4_partOn_21 : decode cX4_partOn 21 = .ok (.ishl, 1) := by decide +kernel
theorem dX4_partOn_22 : decode cX4_partOn 22 = .ok (.iconst (-1), 1) := by decide +kernel
theorem dX4_partOn_23 : decode cX4_partOn 23 = .ok (.ixor, 1) := by decide +kernel
theorem dX4_partOn_24 : decode cX4_partOn 24 = .ok (.iand, 1) := by decide +kernel
theorem dX4_partOn_25 : decode cX4_partOn 25 = .ok (.iastore, 1) := by decide +kernel
theorem dX4_partOn_26 : decode cX4_partOn 26 = .ok (.aload_n 0, 1) := by decide +kernel
theorem dX4_partOn_27 : decode cX4_partOn 27 = .ok (.getfield 16, 3) := by decide +kernel
theorem dX4_partOn_30 : decode cX4_partOn 30 = .ok (.iload 4, 2) := by decide +kernel
theorem dX4_partOn_32 : decode cX4_partOn 32 = .ok (.bipush 10, 2) := by decide +kernel
theorem dX4_partOn_34 : decode cX4_partOn 34 = .ok (.iadd, 1) := by decide +kernel
theorem dX4_partOn_35 : decode cX4_partOn 35 = .ok (.iload_n 3, 1) := by decide +kernel
theorem dX4_partOn_36 : decode cX4_partOn 36 = .ok (.iadd, 1) := by decide +kernel
theorem dX4_partOn_37 : decode cX4_partOn 37 = .ok (.dup2, 1) := by decide +kernel
theorem dX4_partOn_38 : decode cX4_partOn 38 = .ok (.iaload, 1) := by decide +kernel
theorem dX4_partOn_39 : decode cX4_partOn 39 = .ok (.iconst 1, 1) := by decide +kernel
theorem dX4_partOn_40 : decode cX4_partOn 40 = .ok (.iload_n 2, 1) := by decide +kernel
theorem dX4_partOn_41 : decode cX4_partOn 41 = .ok (.ishl, 1) := by decide +kernel
theorem dX4_partOn_42 : decode cX4_partOn 42 = .ok (.iconst (-1), 1) := by decide +kernel
theorem dX4_partOn_43 : decode cX4_partOn 43 = .ok (.ixor, 1) := by decide +kernel
theorem dX4_partOn_44 : decode cX4_partOn 44 = .ok (.iand, 1) := by decide +kernel
theorem dX4_partOn_45 : decode cX4_partOn 45 = .ok (.iastore, 1) := by decide +kernel
theorem dX4_partOn_46 : decode cX4_partOn 46 = .ok (.aload_n 0, 1) := by decide +kernel
theorem dX4_partOn_47 : decode cX4_partOn 47 = .ok (.iload_n 1, 1) := by decide +kernel
theorem dX4_partOn_48 : decode cX4_partOn 48 = .ok (.iconst 1, 1) := by decide +kernel
theorem dX4_partOn_49 : decode cX4_partOn 49 = .ok (.iload_n 2, 1) := by decide +kernel
theorem dX4_partOn_50 : decode cX4_partOn 50 = .ok (.ishl, 1) := by decide +kernel
theorem dX4_partOn_51 : decode cX4_partOn 51 = .ok (.iconst 1, 1) := by decide +kernel
theorem dX4_partOn_52 : decode cX4_partOn 52 = .ok (.iload_n 3, 1) := by decide +kernel
theorem dX4_partOn_53 : decode cX4_partOn 53 = .ok (.ishl, 1) := by decide +kernel
theorem dX4_partOn_54 : decode cX4_partOn 54 = .ok (.ior, 1) := by decide +kernel
theorem dX4_partOn_55 : decode cX4_partOn 55 = .ok (.iconst 1, 1) := by decide +kernel
theorem dX4_partOn_56 : decode cX4_partOn 56 = .ok (.invokevirtual 118, 3) := by decide +kernel
theorem dX4_partOn_59 : decode cX4_partOn 59 = .ok (.return_, 1) := by decide +kernel
theorem dX4_part_0 : decode cX4_part 0 = .ok (.aload_n 0, 1) := by decide +kernel
theorem dX4_part_1 : decode cX4_part 1 = .ok (.iload_n 1, 1) := by decide +kernel
theorem dX4_part_2 : decode cX4_part 2 = .ok (.invokevirtual 128, 3) := by decide +kernel
theorem dX4_part_5 : decode cX4_part 5 = .ok (.ifCond .eq 11, 3) := by decide +kernel
theorem dX4_part_8 : decode cX4_part 8 = .ok (.aload_n 0, 1) := by decide +kernel
theorem dX4_part_9 : decode cX4_part 9 = .ok (.iload_n 2, 1) := by decide +kernel
theorem dX4_part_10 : decode cX4_part 10 = .ok (.invokevirtual 128, 3) := by decide +kernel
theorem dX4_part_13 : decode cX4_part 13 = .ok (.ifCond .ne 5, 3) := by decide +kernel
theorem dX4_part_16 : decode cX4_part 16 = .ok (.iconst (-1), 1) := by decide +kernel
theorem dX4_part_17 : decode cX4_part 17 = .ok (.ireturn, 1) := by decide +kernel
theorem dX4_part_18 : decode cX4_part 18 = .ok (.aload_n 0, 1) := by decide +kernel
theorem dX4_part_19 : decode cX4_part 19 = .ok (.iconst 0, 1) := by decide +kernel
theorem dX4_part_20 : decode cX4_part 20 = .ok (.iload_n 1, 1) := by decide +kernel
theorem dX4_part_21 : decode cX4_part 21 = .ok (.iload_n 2, 1) := by decide +kernel
theorem dX4_part_22 : decode cX4_part 22 = .ok (.invokevirtual 163, 3) := by decide +kernel
theorem dX4_part_25 : decode cX4_part 25 = .ok (.ifCond .ne 6, 3) := by decide +kernel
theorem dX4_part_28 : decode cX4_part 28 = .ok (.bipush (-3), 2) := by decide +kernel
theorem dX4_part_30 : decode cX4_part 30 = .ok (.ireturn, 1) := by decide +kernel
theorem dX4_part_31 : decode cX4_part 31 = .ok (.aload_n 0, 1) := by decide +kernel
theorem dX4_part_32 : decode cX4_part 32 = .ok (.invokevirtual 141, 3) := by decide +kernel
theorem dX4_part_35 : decode cX4_part 35 = .ok (.aload_n 0, 1) := by decide +kernel
theorem dX4_part_36 : decode cX4_part 36 = .ok (.iconst 0, 1) := by decide +kernel
theorem dX4_part_37 : decode cX4_part 37 = .ok (.iload_n 1, 1) := by decide +kernel
theorem dX4_part_38 : decode cX4_part 38 = .ok (.iload_n 2, 1) := by decide +kernel
theorem dX4_part_39 : decode cX4_part 39 = .ok (.invokevirtual 166, 3) := by decide +kernel
theorem dX4_part_42 : decode cX4_part 42 = .ok (.aload_n 0, 1) := by decide +kernel
theorem dX4_part_43 : decode cX4_part 43 = .ok (.getfield 16, 3) := by decide +kernel
theorem dX4_part_46 : decode cX4_part 46 = .ok (.bipush 10, 2) := by decide +kernel
theorem dX4_part_48 : decode cX4_part 48 = .ok (.iload_n 1, 1) := by decide +kernel
theorem dX4_part_49 : decode cX4_part 49 = .ok (.iadd, 1) := by decide +kernel
theorem dX4_part_50 : decode cX4_part 50 = .ok (.iaload, 1) := by decide +kernel
theorem dX4_part_51 : decode cX4_part 51 = .ok (.invokestatic 147, 3) := by decide +kernel
theorem dX4_part_54 : decode cX4_part 54 = .ok (.ireturn, 1) := by decide +kernel
theorem dX4_damp_0 : decode cX4_damp 0 = .ok (.aload_n 0, 1) := by decide +kernel
theorem dX4_damp_1 : decode cX4_damp 1 = .ok (.invokevirtual 141, 3) := by decide +kernel
theorem dX4_damp_4 : decode cX4_damp 4 = .ok (.aload_n 0, 1) := by decide +kernel
theorem dX4_damp_5 : decode cX4_damp 5 = .ok (.getfield 16, 3) := by decide +kernel
theorem dX4_damp_8 : decode cX4_damp 8 = .ok (.bipush 28, 2) := by decide +kernel
theorem dX4_damp_10 : decode cX4_damp 10 = .ok (.iconst 1, 1) := by decide +kernel
theorem dX4_damp_11 : decode cX4_damp 11 = .ok (.aload_n 0, 1) := by decide +kernel
theorem dX4_damp_12 : decode cX4_damp 12 = .ok (.getfield 16, 3) := by decide +kernel
theorem dX4_damp_15 : decode cX4_damp 15 = .ok (.bipush 28, 2) := by decide +kernel
theorem dX4_damp_17 : decode cX4_damp 17 = .ok (.iaload, 1) := by decide +kernel
theorem dX4_damp_18 : decode cX4_damp 18 = .ok (.isub, 1) := by decide +kernel
theorem dX4_damp_19 : decode cX4_damp 19 = .ok (.iastore, 1) := by decide +kernel
theorem dX4_damp_20 : decode cX4_damp 20 = .ok (.aload_n 0, 1) := by decide +kernel
theorem dX4_damp_21 : decode cX4_damp 21 = .ok (.getfield 16, 3) := by decide +kernel
theorem dX4_damp_24 : decode cX4_damp 24 = .ok (.bipush 28, 2) := by decide +kernel
theorem dX4_damp_26 : decode cX4_damp 26 = .ok (.iaload, 1) := by decide +kernel
theorem dX4_damp_27 : decode cX4_damp 27 = .ok (.ireturn, 1) := by decide +kernel
theorem dX4_undo_0 : decode cX4_undo 0 = .ok (.aload_n 0, 1) := by decide +kernel
theorem dX4_undo_1 : decode cX4_undo 1 = .ok (.getfield 102, 3) := by decide +kernel
theorem dX4_undo_4 : decode cX4_undo 4 = .ok (.ifCond .ne 6, 3) := by decide +kernel
theorem dX4_undo_7 : decode cX4_undo 7 = .ok (.bipush (-3), 2) := by decide +kernel
theorem dX4_undo_9 : decode cX4_undo 9 = .ok (.ireturn, 1) := by decide +kernel
theorem dX4_undo_10 : decode cX4_undo 10 = .ok (.aload_n 0, 1) := by decide +kernel
theorem dX4_undo_11 : decode cX4_undo 11 = .ok (.dup, 1) := by decide +kernel
theorem dX4_undo_12 : decode cX4_undo 12 = .ok (.getfield 102, 3) := by decide +kernel
theorem dX4_undo_15 : decode cX4_undo 15 = .ok (.iconst 1, 1) := by decide +kernel
theorem dX4_undo_16 : decode cX4_undo 16 = .ok (.isub, 1) := by decide +kernel
theorem dX4_undo_17 : decode cX4_undo 17 = .ok (.putfield 102, 3) := by decide +kernel
theorem dX4_undo_20 : decode cX4_undo 20 = .ok (.aload_n 0, 1) := by decide +kernel
theorem dX4_undo_21 : decode cX4_undo 21 = .ok (.aload_n 0, 1) := by decide +kernel
theorem dX4_undo_22 : decode cX4_undo 22 = .ok (.getfield 138, 3) := by decide +kernel
theorem dX4_undo_25 : decode cX4_undo 25 = .ok (.bipush 13, 2) := by decide +kernel
theorem dX4_undo_27 : decode cX4_undo 27 = .ok (.iadd, 1) := by decide +kernel
theorem dX4_undo_28 : decode cX4_undo 28 = .ok (.bipush 14, 2) := by decide +kernel
theorem dX4_undo_30 : decode cX4_undo 30 = .ok (.irem, 1) := by decide +kernel
theorem dX4_undo_31 : decode cX4_undo 31 = .ok (.putfield 138, 3) := by decide +kernel
theorem dX4_undo_34 : decode cX4_undo 34 = .ok (.iconst 0, 1) := by decide +kernel
theorem dX4_undo_35 : decode cX4_undo 35 = .ok (.istore_n 1, 1) := by decide +kernel
theorem dX4_undo_36 : decode cX4_undo 36 = .ok (.iload_n 1, 1) := by decide +kernel
theorem dX4_undo_37 : decode cX4_undo 37 = .ok (.bipush 30, 2) := by decide +kernel
theorem dX4_undo_39 : decode cX4_undo 39 = .ok (.if_icmp .ge 29, 3) := by decide +kernel
theorem dX4_undo_42 : decode cX4_undo 42 = .ok (.aload_n 0, 1) := by decide +kernel
theorem dX4_undo_43 : decode cX4_undo 43 = .ok (.getfield 16, 3) := by decide +kernel
theorem dX4_undo_46 : decode cX4_undo 46 = .ok (.iload_n 1, 1) := by decide +kernel
theorem dX4_undo_47 : decode cX4_undo 47 = .ok (.aload_n 0, 1) := by decide +kernel
theorem dX4_undo_48 : decode cX4_undo 48 = .ok (.getfield 31, 3) := by decide +kernel
theorem dX4_undo_51 : decode cX4_undo 51 = .ok (.bipush 30, 2) := by decide +kernel
theorem dX4_undo_53 : decode cX4_undo 53 = .ok (.aload_n 0, 1) := by decide +kernel
theorem dX4_undo_54 : decode cX4_undo 54 = .ok (.getfield 138, 3) := by decide +kernel
theorem dX4_undo_57 : decode cX4_undo 57 = .ok (.imul, 1) := by decide +kernel
theorem dX4_undo_58 : decode cX4_undo 58 = .ok (.iload_n 1, 1) := by decide +kernel
theorem dX4_undo_59 : decode cX4_undo 59 = .ok (.iadd, 1) := by decide +kernel
theorem dX4_undo_60 : decode cX4_undo 60 = .ok (.iaload, 1) := by decide +kernel
theorem dX4_undo_61 : decode cX4_undo 61 = .ok (.iastore, 1) := by decide +kernel
theorem dX4_undo_62 : decode cX4_undo 62 = .ok (.iinc 1 1, 3) := by decide +kernel
theorem dX4_undo_65 : decode cX4_undo 65 = .ok (.goto (-29), 3) := by decide +kernel
theorem dX4_undo_68 : decode cX4_undo 68 = .ok (.aload_n 0, 1) := by decide +kernel
theorem dX4_undo_69 : decode cX4_undo 69 = .ok (.getfield 102, 3) := by decide +kernel
theorem dX4_undo_72 : decode cX4_undo 72 = .ok (.ireturn, 1) := by decide +kernel
theorem dX4_layTrial_0 : decode cX4_layTrial 0 = .ok (.iconst 0, 1) := by decide +kernel
theorem dX4_layTrial_1 : decode cX4_layTrial 1 = .ok (.istore_n 1, 1) := by decide +kernel
theorem dX4_layTrial_2 : decode cX4_layTrial 2 = .ok (.iload_n 1, 1) := by decide +kernel
theorem dX4_layTrial_3 : decode cX4_layTrial 3 = .ok (.bipush 30, 2) := by decide +kernel
theorem dX4_layTrial_5 : decode cX4_layTrial 5 = .ok (.if_icmp .ge 24, 3) := by decide +kernel
theorem dX4_layTrial_8 : decode cX4_layTrial 8 = .ok (.aload_n 0, 1) := by decide +kernel
theorem dX4_layTrial_9 : decode cX4_layTrial 9 = .ok (.getfield 16, 3) := by decide +kernel
theorem dX4_layTrial_12 : decode cX4_layTrial 12 = .ok (.bipush 30, 2) := by decide +kernel
theorem dX4_layTrial_14 : decode cX4_layTrial 14 = .ok (.iload_n 1, 1) := by decide +kernel
theorem dX4_layTrial_15 : decode cX4_layTrial 15 = .ok (.iadd, 1) := by decide +kernel
theorem dX4_layTrial_16 : decode cX4_layTrial 16 = .ok (.aload_n 0, 1) := by decide +kernel
theorem dX4_layTrial_17 : decode cX4_layTrial 17 = .ok (.getfield 16, 3) := by decide +kernel
theorem dX4_layTrial_20 : decode cX4_layTrial 20 = .ok (.iload_n 1, 1) := by decide +kernel
theorem dX4_layTrial_21 : decode cX4_layTrial 21 = .ok (.iaload, 1) := by decide +kernel
theorem dX4_layTrial_22 : decode cX4_layTrial 22 = .ok (.iastore, 1) := by decide +kernel
theorem dX4_layTrial_23 : decode cX4_layTrial 23 = .ok (.iinc 1 1, 3) := by decide +kernel
theorem dX4_layTrial_26 : decode cX4_layTrial 26 = .ok (.goto (-24), 3) := by decide +kernel
theorem dX4_layTrial_29 : decode cX4_layTrial 29 = .ok (.return_, 1) := by decide +kernel
theorem dX4_lives_0 : decode cX4_lives 0 = .ok (.aload_n 0, 1) := by decide +kernel
theorem dX4_lives_1 : decode cX4_lives 1 = .ok (.iload_n 1, 1) := by decide +kernel
theorem dX4_lives_2 : decode cX4_lives 2 = .ok (.invokevirtual 128, 3) := by decide +kernel
theorem dX4_lives_5 : decode cX4_lives 5 = .ok (.ifCond .ne 5, 3) := by decide +kernel
theorem dX4_lives_8 : decode cX4_lives 8 = .ok (.iconst (-1), 1) := by decide +kernel
theorem dX4_lives_9 : decode cX4_lives 9 = .ok (.ireturn, 1) := by decide +kernel
theorem dX4_lives_10 : decode cX4_lives 10 = .ok (.aload_n 0, 1) := by decide +kernel
theorem dX4_lives_11 : decode cX4_lives 11 = .ok (.invokevirtual 169, 3) := by decide +kernel
theorem dX4_lives_14 : decode cX4_lives 14 = .ok (.iconst 0, 1) := by decide +kernel
theorem dX4_lives_15 : decode cX4_lives 15 = .ok (.istore_n 2, 1) := by decide +kernel
theorem dX4_lives_16 : decode cX4_lives 16 = .ok (.iload_n 2, 1) := by decide +kernel
theorem dX4_lives_17 : decode cX4_lives 17 = .ok (.bipush 100, 2) := by decide +kernel
theorem dX4_lives_19 : decode cX4_lives 19 = .ok (.if_icmp .ge 28, 3) := by decide +kernel
theorem dX4_lives_22 : decode cX4_lives 22 = .ok (.aload_n 0, 1) := by decide +kernel
theorem dX4_lives_23 : decode cX4_lives 23 = .ok (.iconst 1, 1) := by decide +kernel
theorem dX4_lives_24 : decode cX4_lives 24 = .ok (.invokevirtual 115, 3) := by decide +kernel
theorem dX4_lives_27 : decode cX4_lives 27 = .ok (.iload_n 1, 1) := by decide +kernel
theorem dX4_lives_28 : decode cX4_lives 28 = .ok (.invokestatic 71, 3) := by decide +kernel
theorem dX4_lives_31 : decode cX4_lives 31 = .ok (.ifCond .ne 5, 3) := by decide +kernel
theorem dX4_lives_34 : decode cX4_lives 34 = .ok (.iload_n 2, 1) := by decide +kernel
theorem dX4_lives_35 : decode cX4_lives 35 = .ok (.ireturn, 1) := by decide +kernel
theorem dX4_lives_36 : decode cX4_lives 36 = .ok (.aload_n 0, 1) := by decide +kernel
theorem dX4_lives_37 : decode cX4_lives 37 = .ok (.iconst 1, 1) := by decide +kernel
theorem dX4_lives_38 : decode cX4_lives 38 = .ok (.invokevirtual 144, 3) := by decide +kernel
theorem dX4_lives_41 : decode cX4_lives 41 = .ok (.iinc 2 1, 3) := by decide +kernel
theorem dX4_lives_44 : decode cX4_lives 44 = .ok (.goto (-28), 3) := by decide +kernel
theorem dX4_lives_47 : decode cX4_lives 47 = .ok (.bipush (-9), 2) := by decide +kernel
theorem dX4_lives_49 : decode cX4_lives 49 = .ok (.ireturn, 1) := by decide +kernel
theorem dX4_ends_0 : decode cX4_ends 0 = .ok (.aload_n 0, 1) := by decide +kernel
theorem dX4_ends_1 : decode cX4_ends 1 = .ok (.invokevirtual 169, 3) := by decide +kernel
theorem dX4_ends_4 : decode cX4_ends 4 = .ok (.iconst 0, 1) := by decide +kernel
theorem dX4_ends_5 : decode cX4_ends 5 = .ok (.istore_n 3, 1) := by decide +kernel
theorem dX4_ends_6 : decode cX4_ends 6 = .ok (.iload_n 3, 1) := by decide +kernel
theorem dX4_ends_7 : decode cX4_ends 7 = .ok (.aload_n 0, 1) := by decide +kernel
theorem dX4_ends_8 : decode cX4_ends 8 = .ok (.getfield 50, 3) := by decide +kernel
theorem dX4_ends_11 : decode cX4_ends 11 = .ok (.if_icmp .ge 24, 3) := by decide +kernel
theorem dX4_ends_14 : decode cX4_ends 14 = .ok (.iload_n 2, 1) := by decide +kernel
theorem dX4_ends_15 : decode cX4_ends 15 = .ok (.iload_n 3, 1) := by decide +kernel
theorem dX4_ends_16 : decode cX4_ends 16 = .ok (.invokestatic 71, 3) := by decide +kernel
theorem dX4_ends_19 : decode cX4_ends 19 = .ok (.ifCond .eq 10, 3) := by decide +kernel
theorem dX4_ends_22 : decode cX4_ends 22 = .ok (.aload_n 0, 1) := by decide +kernel
theorem dX4_ends_23 : decode cX4_ends 23 = .ok (.iconst 1, 1) := by decide +kernel
theorem dX4_ends_24 : decode cX4_ends 24 = .ok (.iload_n 3, 1) := by decide +kernel
theorem dX4_ends_25 : decode cX4_ends 25 = .ok (.iload_n 1, 1) := by decide +kernel
theorem dX4_ends_26 : decode cX4_ends 26 = .ok (.invokevirtual 157, 3) := by decide +kernel
theorem dX4_ends_29 : decode cX4_ends 29 = .ok (.iinc 3 1, 3) := by decide +kernel
theorem dX4_ends_32 : decode cX4_ends 32 = .ok (.goto (-26), 3) := by decide +kernel
theorem dX4_ends_35 : decode cX4_ends 35 = .ok (.aload_n 0, 1) := by decide +kernel
theorem dX4_ends_36 : decode cX4_ends 36 = .ok (.iconst 1, 1) := by decide +kernel
theorem dX4_ends_37 : decode cX4_ends 37 = .ok (.iload_n 1, 1) := by decide +kernel
theorem dX4_ends_38 : decode cX4_ends 38 = .ok (.invokevirtual 160, 3) := by decide +kernel
theorem dX4_ends_41 : decode cX4_ends 41 = .ok (.ifCond .ne 6, 3) := by decide +kernel
theorem dX4_ends_44 : decode cX4_ends 44 = .ok (.bipush (-9), 2) := by decide +kernel
theorem dX4_ends_46 : decode cX4_ends 46 = .ok (.ireturn, 1) := by decide +kernel
theorem dX4_ends_47 : decode cX4_ends 47 = .ok (.aload_n 0, 1) := by decide +kernel
theorem dX4_ends_48 : decode cX4_ends 48 = .ok (.getfield 16, 3) := by decide +kernel
theorem dX4_ends_51 : decode cX4_ends 51 = .ok (.bipush 54, 2) := by decide +kernel
theorem dX4_ends_53 : decode cX4_ends 53 = .ok (.iload_n 1, 1) := by decide +kernel
theorem dX4_ends_54 : decode cX4_ends 54 = .ok (.iadd, 1) := by decide +kernel
theorem dX4_ends_55 : decode cX4_ends 55 = .ok (.iconst 1, 1) := by decide +kernel
theorem dX4_ends_56 : decode cX4_ends 56 = .ok (.iastore, 1) := by decide +kernel
theorem dX4_ends_57 : decode cX4_ends 57 = .ok (.aload_n 0, 1) := by decide +kernel
theorem dX4_ends_58 : decode cX4_ends 58 = .ok (.getfield 16, 3) := by decide +kernel
theorem dX4_ends_61 : decode cX4_ends 61 = .ok (.bipush 20, 2) := by decide +kernel
theorem dX4_ends_63 : decode cX4_ends 63 = .ok (.iload_n 1, 1) := by decide +kernel
theorem dX4_ends_64 : decode cX4_ends 64 = .ok (.iadd, 1) := by decide +kernel
theorem dX4_ends_65 : decode cX4_ends 65 = .ok (.iaload, 1) := by decide +kernel
theorem dX4_ends_66 : decode cX4_ends 66 = .ok (.istore_n 3, 1) := by decide +kernel
theorem dX4_ends_67 : decode cX4_ends 67 = .ok (.iload_n 3, 1) := by decide +kernel
theorem dX4_ends_68 : decode cX4_ends 68 = .ok (.ifCond .le 14, 3) := by decide +kernel
theorem dX4_ends_71 : decode cX4_ends 71 = .ok (.aload_n 0, 1) := by decide +kernel
theorem dX4_ends_72 : decode cX4_ends 72 = .ok (.iconst 1, 1) := by decide +kernel
theorem dX4_ends_73 : decode cX4_ends 73 = .ok (.invokevirtual 144, 3) := by decide +kernel
theorem dX4_ends_76 : decode cX4_ends 76 = .ok (.iinc 3 (-1), 3) := by decide +kernel
theorem dX4_ends_79 : decode cX4_ends 79 = .ok (.goto (-12), 3) := by decide +kernel
theorem dX4_ends_82 : decode cX4_ends 82 = .ok (.aload_n 0, 1) := by decide +kernel
theorem dX4_ends_83 : decode cX4_ends 83 = .ok (.getfield 16, 3) := by decide +kernel
theorem dX4_ends_86 : decode cX4_ends 86 = .ok (.bipush 54, 2) := by decide +kernel
theorem dX4_ends_88 : decode cX4_ends 88 = .ok (.iload_n 1, 1) := by decide +kernel
theorem dX4_ends_89 : decode cX4_ends 89 = .ok (.iadd, 1) := by decide +kernel
theorem dX4_ends_90 : decode cX4_ends 90 = .ok (.iaload, 1) := by decide +kernel
theorem dX4_ends_91 : decode cX4_ends 91 = .ok (.iconst 2, 1) := by decide +kernel
theorem dX4_ends_92 : decode cX4_ends 92 = .ok (.if_icmp .ne 7, 3) := by decide +kernel
theorem dX4_ends_95 : decode cX4_ends 95 = .ok (.iconst 1, 1) := by decide +kernel
theorem dX4_ends_96 : decode cX4_ends 96 = .ok (.goto 4, 3) := by decide +kernel
theorem dX4_ends_99 : decode cX4_ends 99 = .ok (.iconst 0, 1) := by decide +kernel
theorem dX4_ends_100 : decode cX4_ends 100 = .ok (.ireturn, 1) := by decide +kernel
theorem dX4_freeOnes_0 : decode cX4_freeOnes 0 = .ok (.iconst 0, 1) := by decide +kernel
theorem dX4_freeOnes_1 : decode cX4_freeOnes 1 = .ok (.istore_n 1, 1) := by decide +kernel
theorem dX4_freeOnes_2 : decode cX4_freeOnes 2 = .ok (.iconst 0, 1) := by decide +kernel
theorem dX4_freeOnes_3 : decode cX4_freeOnes 3 = .ok (.istore_n 2, 1) := by decide +kernel
theorem dX4_freeOnes_4 : decode cX4_freeOnes 4 = .ok (.iload_n 2, 1) := by decide +kernel
theorem dX4_freeOnes_5 : decode cX4_freeOnes 5 = .ok (.aload_n 0, 1) := by decide +kernel
theorem dX4_freeOnes_6 : decode cX4_freeOnes 6 = .ok (.getfield 50, 3) := by decide +kernel
theorem dX4_freeOnes_9 : decode cX4_freeOnes 9 = .ok (.if_icmp .ge 28, 3) := by decide +kernel
theorem dX4_freeOnes_12 : decode cX4_freeOnes 12 = .ok (.iload_n 1, 1) := by decide +kernel
theorem dX4_freeOnes_13 : decode cX4_freeOnes 13 = .ok (.aload_n 0, 1) := by decide +kernel
theorem dX4_freeOnes_14 : decode cX4_freeOnes 14 = .ok (.iconst 0, 1) := by decide +kernel
theorem dX4_freeOnes_15 : decode cX4_freeOnes 15 = .ok (.iload_n 2, 1) := by decide +kernel
theorem dX4_freeOnes_16 : decode cX4_freeOnes 16 = .ok (.invokevirtual 150, 3) := by decide +kernel
theorem dX4_freeOnes_19 : decode cX4_freeOnes 19 = .ok (.ifCond .eq 9, 3) := by decide +kernel
theorem dX4_freeOnes_22 : decode cX4_freeOnes 22 = .ok (.iconst 1, 1) := by decide +kernel
theorem dX4_freeOnes_23 : decode cX4_freeOnes 23 = .ok (.iload_n 2, 1) := by decide +kernel
theorem dX4_freeOnes_24 : decode cX4_freeOnes 24 = .ok (.ishl, 1) := by decide +kernel
theorem dX4_freeOnes_25 : decode cX4_freeOnes 25 = .ok (.goto 4, 3) := by decide +kernel
theorem dX4_freeOnes_28 : decode cX4_freeOnes 28 = .ok (.iconst 0, 1) := by decide +kernel
theorem dX4_freeOnes_29 : decode cX4_freeOnes 29 = .ok (.ior, 1) := by decide +kernel
theorem dX4_freeOnes_30 : decode cX4_freeOnes 30 = .ok (.istore_n 1, 1) := by decide +kernel
theorem dX4_freeOnes_31 : decode cX4_freeOnes 31 = .ok (.iinc 2 1, 3) := by decide +kernel
theorem dX4_freeOnes_34 : decode cX4_freeOnes 34 = .ok (.goto (-30), 3) := by decide +kernel
theorem dX4_freeOnes_37 : decode cX4_freeOnes 37 = .ok (.iload_n 1, 1) := by decide +kernel
theorem dX4_freeOnes_38 : decode cX4_freeOnes 38 = .ok (.ireturn, 1) := by decide +kernel
theorem dX4_comes_0 : decode cX4_comes 0 = .ok (.aload_n 0, 1) := by decide +kernel
theorem dX4_comes_1 : decode cX4_comes 1 = .ok (.iload_n 1, 1) := by decide +kernel
theorem dX4_comes_2 : decode cX4_comes 2 = .ok (.invokevirtual 132, 3) := by decide +kernel
theorem dX4_comes_5 : decode cX4_comes 5 = .ok (.ifCond .ne 5, 3) := by decide +kernel
theorem dX4_comes_8 : decode cX4_comes 8 = .ok (.iconst (-1), 1) := by decide +kernel
theorem dX4_comes_9 : decode cX4_comes 9 = .ok (.ireturn, 1) := by decide +kernel
theorem dX4_comes_10 : decode cX4_comes 10 = .ok (.iload_n 2, 1) := by decide +kernel
theorem dX4_comes_11 : decode cX4_comes 11 = .ok (.i2l, 1) := by decide +kernel
theorem dX4_comes_12 : decode cX4_comes 12 = .ok (.lconst 0, 1) := by decide +kernel
theorem dX4_comes_13 : decode cX4_comes 13 = .ok (.iconst 1, 1) := by decide +kernel
theorem dX4_comes_14 : decode cX4_comes 14 = .ok (.aload_n 0, 1) := by decide +kernel
theorem dX4_comes_15 : decode cX4_comes 15 = .ok (.getfield 50, 3) := by decide +kernel
theorem dX4_comes_18 : decode cX4_comes 18 = .ok (.ishl, 1) := by decide +kernel
theorem dX4_comes_19 : decode cX4_comes 19 = .ok (.iconst 1, 1) := by decide +kernel
theorem dX4_comes_20 : decode cX4_comes 20 = .ok (.isub, 1) := by decide +kernel
theorem dX4_comes_21 : decode cX4_comes 21 = .ok (.i2l, 1) := by decide +kernel
theorem dX4_comes_22 : decode cX4_comes 22 = .ok (.invokestatic 56, 3) := by decide +kernel
theorem dX4_comes_25 : decode cX4_comes 25 = .ok (.ifCond .ne 6, 3) := by decide +kernel
theorem dX4_comes_28 : decode cX4_comes 28 = .ok (.bipush (-2), 2) := by decide +kernel
theorem dX4_comes_30 : decode cX4_comes 30 = .ok (.ireturn, 1) := by decide +kernel
theorem dX4_comes_31 : decode cX4_comes 31 = .ok (.aload_n 0, 1) := by decide +kernel
theorem dX4_comes_32 : decode cX4_comes 32 = .ok (.getfield 16, 3) := by decide +kernel
theorem dX4_comes_35 : decode cX4_comes 35 = .ok (.bipush 24, 2) := by decide +kernel
theorem dX4_comes_37 : decode cX4_comes 37 = .ok (.iload_n 1, 1) := by decide +kernel
theorem dX4_comes_38 : decode cX4_comes 38 = .ok (.iadd, 1) := by decide +kernel
theorem dX4_comes_39 : decode cX4_comes 39 = .ok (.iaload, 1) := by decide +kernel
end
section
theorem dX4_comes_40 : decode cX4_comes 40 = .ok (.ifCond .ne 14, 3) := by decide +kernel
theorem dX4_comes_43 : decode cX4_comes 43 = .ok (.iload_n 2, 1) := by decide +kernel
theorem dX4_comes_44 : decode cX4_comes 44 = .ok (.aload_n 0, 1) := by decide +kernel
theorem dX4_comes_45 : decode cX4_comes 45 = .ok (.invokevirtual 172, 3) := by decide +kernel
theorem dX4_comes_48 : decode cX4_comes 48 = .ok (.iconst (-1), 1) := by decide +kernel
theorem dX4_comes_49 : decode cX4_comes 49 = .ok (.ixor, 1) := by decide +kernel
theorem dX4_comes_50 : decode cX4_comes 50 = .ok (.iand, 1) := by decide +kernel
theorem dX4_comes_51 : decode cX4_comes 51 = .ok (.ifCond .eq 6, 3) := by decide +kernel
theorem dX4_comes_54 : decode cX4_comes 54 = .ok (.bipush (-3), 2) := by decide +kernel
theorem dX4_comes_56 : decode cX4_comes 56 = .ok (.ireturn, 1) := by decide +kernel
theorem dX4_comes_57 : decode cX4_comes 57 = .ok (.aload_n 0, 1) := by decide +kernel
theorem dX4_comes_58 : decode cX4_comes 58 = .ok (.iload_n 1, 1) := by decide +kernel
theorem dX4_comes_59 : decode cX4_comes 59 = .ok (.iload_n 2, 1) := by decide +kernel
theorem dX4_comes_60 : decode cX4_comes 60 = .ok (.invokevirtual 175, 3) := by decide +kernel
theorem dX4_comes_63 : decode cX4_comes 63 = .ok (.ireturn, 1) := by decide +kernel
theorem dX4_fewest_0 : decode cX4_fewest 0 = .ok (.aload_n 0, 1) := by decide +kernel
theorem dX4_fewest_1 : decode cX4_fewest 1 = .ok (.iload_n 1, 1) := by decide +kernel
theorem dX4_fewest_2 : decode cX4_fewest 2 = .ok (.invokevirtual 132, 3) := by decide +kernel
theorem dX4_fewest_5 : decode cX4_fewest 5 = .ok (.ifCond .ne 5, 3) := by decide +kernel
theorem dX4_fewest_8 : decode cX4_fewest 8 = .ok (.iconst (-1), 1) := by decide +kernel
theorem dX4_fewest_9 : decode cX4_fewest 9 = .ok (.ireturn, 1) := by decide +kernel
theorem dX4_fewest_10 : decode cX4_fewest 10 = .ok (.aload_n 0, 1) := by decide +kernel
theorem dX4_fewest_11 : decode cX4_fewest 11 = .ok (.getfield 16, 3) := by decide +kernel
theorem dX4_fewest_14 : decode cX4_fewest 14 = .ok (.bipush 24, 2) := by decide +kernel
theorem dX4_fewest_16 : decode cX4_fewest 16 = .ok (.iload_n 1, 1) := by decide +kernel
theorem dX4_fewest_17 : decode cX4_fewest 17 = .ok (.iadd, 1) := by decide +kernel
theorem dX4_fewest_18 : decode cX4_fewest 18 = .ok (.iaload, 1) := by decide +kernel
theorem dX4_fewest_19 : decode cX4_fewest 19 = .ok (.ifCond .eq 6, 3) := by decide +kernel
theorem dX4_fewest_22 : decode cX4_fewest 22 = .ok (.bipush (-3), 2) := by decide +kernel
theorem dX4_fewest_24 : decode cX4_fewest 24 = .ok (.ireturn, 1) := by decide +kernel
theorem dX4_fewest_25 : decode cX4_fewest 25 = .ok (.bipush (-9), 2) := by decide +kernel
theorem dX4_fewest_27 : decode cX4_fewest 27 = .ok (.istore_n 2, 1) := by decide +kernel
theorem dX4_fewest_28 : decode cX4_fewest 28 = .ok (.iconst 0, 1) := by decide +kernel
theorem dX4_fewest_29 : decode cX4_fewest 29 = .ok (.istore_n 3, 1) := by decide +kernel
theorem dX4_fewest_30 : decode cX4_fewest 30 = .ok (.iload_n 3, 1) := by decide +kernel
theorem dX4_fewest_31 : decode cX4_fewest 31 = .ok (.bipush 32, 2) := by decide +kernel
theorem dX4_fewest_33 : decode cX4_fewest 33 = .ok (.if_icmp .ge 61, 3) := by decide +kernel
theorem dX4_fewest_36 : decode cX4_fewest 36 = .ok (.iload_n 2, 1) := by decide +kernel
theorem dX4_fewest_37 : decode cX4_fewest 37 = .ok (.bipush (-9), 2) := by decide +kernel
theorem dX4_fewest_39 : decode cX4_fewest 39 = .ok (.if_icmp .eq 14, 3) := by decide +kernel
theorem dX4_fewest_42 : decode cX4_fewest 42 = .ok (.iload_n 3, 1) := by decide +kernel
theorem dX4_fewest_43 : decode cX4_fewest 43 = .ok (.invokestatic 147, 3) := by decide +kernel
theorem dX4_fewest_46 : decode cX4_fewest 46 = .ok (.iload_n 2, 1) := by decide +kernel
theorem dX4_fewest_47 : decode cX4_fewest 47 = .ok (.invokestatic 147, 3) := by decide +kernel
theorem dX4_fewest_50 : decode cX4_fewest 50 = .ok (.if_icmp .ge 7, 3) := by decide +kernel
theorem dX4_fewest_53 : decode cX4_fewest 53 = .ok (.iconst 1, 1) := by decide +kernel
theorem dX4_fewest_54 : decode cX4_fewest 54 = .ok (.goto 4, 3) := by decide +kernel
theorem dX4_fewest_57 : decode cX4_fewest 57 = .ok (.iconst 0, 1) := by decide +kernel
theorem dX4_fewest_58 : decode cX4_fewest 58 = .ok (.istore 4, 2) := by decide +kernel
theorem dX4_fewest_60 : decode cX4_fewest 60 = .ok (.iload 4, 2) := by decide +kernel
theorem dX4_fewest_62 : decode cX4_fewest 62 = .ok (.ifCond .eq 26, 3) := by decide +kernel
theorem dX4_fewest_65 : decode cX4_fewest 65 = .ok (.iload_n 3, 1) := by decide +kernel
theorem dX4_fewest_66 : decode cX4_fewest 66 = .ok (.aload_n 0, 1) := by decide +kernel
theorem dX4_fewest_67 : decode cX4_fewest 67 = .ok (.invokevirtual 172, 3) := by decide +kernel
theorem dX4_fewest_70 : decode cX4_fewest 70 = .ok (.iconst (-1), 1) := by decide +kernel
theorem dX4_fewest_71 : decode cX4_fewest 71 = .ok (.ixor, 1) := by decide +kernel
theorem dX4_fewest_72 : decode cX4_fewest 72 = .ok (.iand, 1) := by decide +kernel
theorem dX4_fewest_73 : decode cX4_fewest 73 = .ok (.ifCond .ne 15, 3) := by decide +kernel
theorem dX4_fewest_76 : decode cX4_fewest 76 = .ok (.aload_n 0, 1) := by decide +kernel
theorem dX4_fewest_77 : decode cX4_fewest 77 = .ok (.iload_n 1, 1) := by decide +kernel
theorem dX4_fewest_78 : decode cX4_fewest 78 = .ok (.iload_n 3, 1) := by decide +kernel
theorem dX4_fewest_79 : decode cX4_fewest 79 = .ok (.invokevirtual 175, 3) := by decide +kernel
theorem dX4_fewest_82 : decode cX4_fewest 82 = .ok (.iconst 1, 1) := by decide +kernel
theorem dX4_fewest_83 : decode cX4_fewest 83 = .ok (.if_icmp .ne 5, 3) := by decide +kernel
theorem dX4_fewest_86 : decode cX4_fewest 86 = .ok (.iload_n 3, 1) := by decide +kernel
theorem dX4_fewest_87 : decode cX4_fewest 87 = .ok (.istore_n 2, 1) := by decide +kernel
theorem dX4_fewest_88 : decode cX4_fewest 88 = .ok (.iinc 3 1, 3) := by decide +kernel
theorem dX4_fewest_91 : decode cX4_fewest 91 = .ok (.goto (-61), 3) := by decide +kernel
theorem dX4_fewest_94 : decode cX4_fewest 94 = .ok (.iload_n 2, 1) := by decide +kernel
theorem dX4_fewest_95 : decode cX4_fewest 95 = .ok (.ireturn, 1) := by decide +kernel
theorem dX4_block_0 : decode cX4_block 0 = .ok (.aload_n 0, 1) := by decide +kernel
theorem dX4_block_1 : decode cX4_block 1 = .ok (.iload_n 1, 1) := by decide +kernel
theorem dX4_block_2 : decode cX4_block 2 = .ok (.invokevirtual 128, 3) := by decide +kernel
theorem dX4_block_5 : decode cX4_block 5 = .ok (.ifCond .ne 5, 3) := by decide +kernel
theorem dX4_block_8 : decode cX4_block 8 = .ok (.iconst (-1), 1) := by decide +kernel
theorem dX4_block_9 : decode cX4_block 9 = .ok (.ireturn, 1) := by decide +kernel
theorem dX4_block_10 : decode cX4_block 10 = .ok (.iconst 1, 1) := by decide +kernel
theorem dX4_block_11 : decode cX4_block 11 = .ok (.iload_n 1, 1) := by decide +kernel
theorem dX4_block_12 : decode cX4_block 12 = .ok (.ishl, 1) := by decide +kernel
theorem dX4_block_13 : decode cX4_block 13 = .ok (.istore_n 2, 1) := by decide +kernel
theorem dX4_block_14 : decode cX4_block 14 = .ok (.iconst 0, 1) := by decide +kernel
theorem dX4_block_15 : decode cX4_block 15 = .ok (.istore_n 3, 1) := by decide +kernel
theorem dX4_block_16 : decode cX4_block 16 = .ok (.iload_n 3, 1) := by decide +kernel
theorem dX4_block_17 : decode cX4_block 17 = .ok (.iconst 5, 1) := by decide +kernel
theorem dX4_block_18 : decode cX4_block 18 = .ok (.if_icmp .ge 53, 3) := by decide +kernel
theorem dX4_block_21 : decode cX4_block 21 = .ok (.iconst 0, 1) := by decide +kernel
theorem dX4_block_22 : decode cX4_block 22 = .ok (.istore 4, 2) := by decide +kernel
theorem dX4_block_24 : decode cX4_block 24 = .ok (.iload 4, 2) := by decide +kernel
theorem dX4_block_26 : decode cX4_block 26 = .ok (.aload_n 0, 1) := by decide +kernel
theorem dX4_block_27 : decode cX4_block 27 = .ok (.getfield 50, 3) := by decide +kernel
theorem dX4_block_30 : decode cX4_block 30 = .ok (.if_icmp .ge 35, 3) := by decide +kernel
theorem dX4_block_33 : decode cX4_block 33 = .ok (.iload_n 2, 1) := by decide +kernel
theorem dX4_block_34 : decode cX4_block 34 = .ok (.iload_n 2, 1) := by decide +kernel
theorem dX4_block_35 : decode cX4_block 35 = .ok (.iload 4, 2) := by decide +kernel
theorem dX4_block_37 : decode cX4_block 37 = .ok (.invokestatic 71, 3) := by decide +kernel
theorem dX4_block_40 : decode cX4_block 40 = .ok (.ifCond .eq 16, 3) := by decide +kernel
theorem dX4_block_43 : decode cX4_block 43 = .ok (.aload_n 0, 1) := by decide +kernel
theorem dX4_block_44 : decode cX4_block 44 = .ok (.getfield 16, 3) := by decide +kernel
theorem dX4_block_47 : decode cX4_block 47 = .ok (.bipush 10, 2) := by decide +kernel
theorem dX4_block_49 : decode cX4_block 49 = .ok (.iload 4, 2) := by decide +kernel
theorem dX4_block_51 : decode cX4_block 51 = .ok (.iadd, 1) := by decide +kernel
theorem dX4_block_52 : decode cX4_block 52 = .ok (.iaload, 1) := by decide +kernel
theorem dX4_block_53 : decode cX4_block 53 = .ok (.goto 4, 3) := by decide +kernel
theorem dX4_block_56 : decode cX4_block 56 = .ok (.iconst 0, 1) := by decide +kernel
theorem dX4_block_57 : decode cX4_block 57 = .ok (.ior, 1) := by decide +kernel
theorem dX4_block_58 : decode cX4_block 58 = .ok (.istore_n 2, 1) := by decide +kernel
theorem dX4_block_59 : decode cX4_block 59 = .ok (.iinc 4 1, 3) := by decide +kernel
theorem dX4_block_62 : decode cX4_block 62 = .ok (.goto (-38), 3) := by decide +kernel
theorem dX4_block_65 : decode cX4_block 65 = .ok (.iinc 3 1, 3) := by decide +kernel
theorem dX4_block_68 : decode cX4_block 68 = .ok (.goto (-52), 3) := by decide +kernel
theorem dX4_block_71 : decode cX4_block 71 = .ok (.iload_n 2, 1) := by decide +kernel
theorem dX4_block_72 : decode cX4_block 72 = .ok (.ireturn, 1) := by decide +kernel
theorem dX4_tenTo_0 : decode cX4_tenTo 0 = .ok (.lconst 1, 1) := by decide +kernel
theorem dX4_tenTo_1 : decode cX4_tenTo 1 = .ok (.lstore_n 1, 1) := by decide +kernel
theorem dX4_tenTo_2 : decode cX4_tenTo 2 = .ok (.iconst 0, 1) := by decide +kernel
theorem dX4_tenTo_3 : decode cX4_tenTo 3 = .ok (.istore_n 3, 1) := by decide +kernel
theorem dX4_tenTo_4 : decode cX4_tenTo 4 = .ok (.iload_n 3, 1) := by decide +kernel
theorem dX4_tenTo_5 : decode cX4_tenTo 5 = .ok (.iload_n 0, 1) := by decide +kernel
theorem dX4_tenTo_6 : decode cX4_tenTo 6 = .ok (.if_icmp .ge 15, 3) := by decide +kernel
theorem dX4_tenTo_9 : decode cX4_tenTo 9 = .ok (.lload_n 1, 1) := by decide +kernel
theorem dX4_tenTo_10 : decode cX4_tenTo 10 = .ok (.ldc2_w 178, 3) := by decide +kernel
theorem dX4_tenTo_13 : decode cX4_tenTo 13 = .ok (.lmul, 1) := by decide +kernel
theorem dX4_tenTo_14 : decode cX4_tenTo 14 = .ok (.lstore_n 1, 1) := by decide +kernel
theorem dX4_tenTo_15 : decode cX4_tenTo 15 = .ok (.iinc 3 1, 3) := by decide +kernel
theorem dX4_tenTo_18 : decode cX4_tenTo 18 = .ok (.goto (-14), 3) := by decide +kernel
theorem dX4_tenTo_21 : decode cX4_tenTo 21 = .ok (.lload_n 1, 1) := by decide +kernel
theorem dX4_tenTo_22 : decode cX4_tenTo 22 = .ok (.lreturn, 1) := by decide +kernel
theorem dX4_tryThing_0 : decode cX4_tryThing 0 = .ok (.iload_n 1, 1) := by decide +kernel
theorem dX4_tryThing_1 : decode cX4_tryThing 1 = .ok (.ifCond .ne 19, 3) := by decide +kernel
theorem dX4_tryThing_4 : decode cX4_tryThing 4 = .ok (.iload_n 2, 1) := by decide +kernel
theorem dX4_tryThing_5 : decode cX4_tryThing 5 = .ok (.ifCond .ne 11, 3) := by decide +kernel
theorem dX4_tryThing_8 : decode cX4_tryThing 8 = .ok (.iload_n 3, 1) := by decide +kernel
theorem dX4_tryThing_9 : decode cX4_tryThing 9 = .ok (.ifCond .ne 7, 3) := by decide +kernel
theorem dX4_tryThing_12 : decode cX4_tryThing 12 = .ok (.iconst 1, 1) := by decide +kernel
theorem dX4_tryThing_13 : decode cX4_tryThing 13 = .ok (.goto 68, 3) := by decide +kernel
theorem dX4_tryThing_16 : decode cX4_tryThing 16 = .ok (.iconst 0, 1) := by decide +kernel
theorem dX4_tryThing_17 : decode cX4_tryThing 17 = .ok (.goto 64, 3) := by decide +kernel
theorem dX4_tryThing_20 : decode cX4_tryThing 20 = .ok (.iload_n 1, 1) := by decide +kernel
theorem dX4_tryThing_21 : decode cX4_tryThing 21 = .ok (.iconst 1, 1) := by decide +kernel
theorem dX4_tryThing_22 : decode cX4_tryThing 22 = .ok (.if_icmp .ne 13, 3) := by decide +kernel
theorem dX4_tryThing_25 : decode cX4_tryThing 25 = .ok (.aload_n 0, 1) := by decide +kernel
theorem dX4_tryThing_26 : decode cX4_tryThing 26 = .ok (.iconst 1, 1) := by decide +kernel
theorem dX4_tryThing_27 : decode cX4_tryThing 27 = .ok (.iload_n 2, 1) := by decide +kernel
theorem dX4_tryThing_28 : decode cX4_tryThing 28 = .ok (.iload_n 3, 1) := by decide +kernel
theorem dX4_tryThing_29 : decode cX4_tryThing 29 = .ok (.invokevirtual 153, 3) := by decide +kernel
theorem dX4_tryThing_32 : decode cX4_tryThing 32 = .ok (.goto 49, 3) := by decide +kernel
theorem dX4_tryThing_35 : decode cX4_tryThing 35 = .ok (.iload_n 1, 1) := by decide +kernel
theorem dX4_tryThing_36 : decode cX4_tryThing 36 = .ok (.iconst 2, 1) := by decide +kernel
theorem dX4_tryThing_37 : decode cX4_tryThing 37 = .ok (.if_icmp .ne 24, 3) := by decide +kernel
theorem dX4_tryThing_40 : decode cX4_tryThing 40 = .ok (.iload_n 2, 1) := by decide +kernel
theorem dX4_tryThing_41 : decode cX4_tryThing 41 = .ok (.ifCond .ne 16, 3) := by decide +kernel
theorem dX4_tryThing_44 : decode cX4_tryThing 44 = .ok (.aload_n 0, 1) := by decide +kernel
theorem dX4_tryThing_45 : decode cX4_tryThing 45 = .ok (.iconst 1, 1) := by decide +kernel
theorem dX4_tryThing_46 : decode cX4_tryThing 46 = .ok (.iload_n 3, 1) := by decide +kernel
theorem dX4_tryThing_47 : decode cX4_tryThing 47 = .ok (.invokevirtual 160, 3) := by decide +kernel
theorem dX4_tryThing_50 : decode cX4_tryThing 50 = .ok (.ifCond .eq 7, 3) := by decide +kernel
theorem dX4_tryThing_53 : decode cX4_tryThing 53 = .ok (.iconst 1, 1) := by decide +kernel
theorem dX4_tryThing_54 : decode cX4_tryThing 54 = .ok (.goto 27, 3) := by decide +kernel
theorem dX4_tryThing_57 : decode cX4_tryThing 57 = .ok (.iconst 0, 1) := by decide +kernel
theorem dX4_tryThing_58 : decode cX4_tryThing 58 = .ok (.goto 23, 3) := by decide +kernel
theorem dX4_tryThing_61 : decode cX4_tryThing 61 = .ok (.iload_n 1, 1) := by decide +kernel
theorem dX4_tryThing_62 : decode cX4_tryThing 62 = .ok (.iconst 3, 1) := by decide +kernel
theorem dX4_tryThing_63 : decode cX4_tryThing 63 = .ok (.if_icmp .ne 17, 3) := by decide +kernel
theorem dX4_tryThing_66 : decode cX4_tryThing 66 = .ok (.aload_n 0, 1) := by decide +kernel
theorem dX4_tryThing_67 : decode cX4_tryThing 67 = .ok (.iconst 1, 1) := by decide +kernel
theorem dX4_tryThing_68 : decode cX4_tryThing 68 = .ok (.iload_n 2, 1) := by decide +kernel
theorem dX4_tryThing_69 : decode cX4_tryThing 69 = .ok (.iload_n 3, 1) := by decide +kernel
theorem dX4_tryThing_70 : decode cX4_tryThing 70 = .ok (.invokevirtual 163, 3) := by decide +kernel
theorem dX4_tryThing_73 : decode cX4_tryThing 73 = .ok (.ifCond .eq 7, 3) := by decide +kernel
theorem dX4_tryThing_76 : decode cX4_tryThing 76 = .ok (.iconst 1, 1) := by decide +kernel
theorem dX4_tryThing_77 : decode cX4_tryThing 77 = .ok (.goto 4, 3) := by decide +kernel
theorem dX4_tryThing_80 : decode cX4_tryThing 80 = .ok (.iconst 0, 1) := by decide +kernel
theorem dX4_tryThing_81 : decode cX4_tryThing 81 = .ok (.istore 4, 2) := by decide +kernel
theorem dX4_tryThing_83 : decode cX4_tryThing 83 = .ok (.iload 4, 2) := by decide +kernel
theorem dX4_tryThing_85 : decode cX4_tryThing 85 = .ok (.ifCond .eq 15, 3) := by decide +kernel
theorem dX4_tryThing_88 : decode cX4_tryThing 88 = .ok (.iload_n 1, 1) := by decide +kernel
theorem dX4_tryThing_89 : decode cX4_tryThing 89 = .ok (.ifCond .ne 11, 3) := by decide +kernel
theorem dX4_tryThing_92 : decode cX4_tryThing 92 = .ok (.aload_n 0, 1) := by decide +kernel
theorem dX4_tryThing_93 : decode cX4_tryThing 93 = .ok (.iconst 1, 1) := by decide +kernel
theorem dX4_tryThing_94 : decode cX4_tryThing 94 = .ok (.invokevirtual 144, 3) := by decide +kernel
theorem dX4_tryThing_97 : decode cX4_tryThing 97 = .ok (.goto 58, 3) := by decide +kernel
theorem dX4_tryThing_100 : decode cX4_tryThing 100 = .ok (.iload 4, 2) := by decide +kernel
theorem dX4_tryThing_102 : decode cX4_tryThing 102 = .ok (.ifCond .eq 18, 3) := by decide +kernel
theorem dX4_tryThing_105 : decode cX4_tryThing 105 = .ok (.iload_n 1, 1) := by decide +kernel
theorem dX4_tryThing_106 : decode cX4_tryThing 106 = .ok (.iconst 1, 1) := by decide +kernel
theorem dX4_tryThing_107 : decode cX4_tryThing 107 = .ok (.if_icmp .ne 13, 3) := by decide +kernel
theorem dX4_tryThing_110 : decode cX4_tryThing 110 = .ok (.aload_n 0, 1) := by decide +kernel
theorem dX4_tryThing_111 : decode cX4_tryThing 111 = .ok (.iconst 1, 1) := by decide +kernel
theorem dX4_tryThing_112 : decode cX4_tryThing 112 = .ok (.iload_n 2, 1) := by decide +kernel
theorem dX4_tryThing_113 : decode cX4_tryThing 113 = .ok (.iload_n 3, 1) := by decide +kernel
theorem dX4_tryThing_114 : decode cX4_tryThing 114 = .ok (.invokevirtual 157, 3) := by decide +kernel
theorem dX4_tryThing_117 : decode cX4_tryThing 117 = .ok (.goto 38, 3) := by decide +kernel
theorem dX4_tryThing_120 : decode cX4_tryThing 120 = .ok (.iload 4, 2) := by decide +kernel
theorem dX4_tryThing_122 : decode cX4_tryThing 122 = .ok (.ifCond .eq 21, 3) := by decide +kernel
theorem dX4_tryThing_125 : decode cX4_tryThing 125 = .ok (.iload_n 1, 1) := by decide +kernel
theorem dX4_tryThing_126 : decode cX4_tryThing 126 = .ok (.iconst 2, 1) := by decide +kernel
theorem dX4_tryThing_127 : decode cX4_tryThing 127 = .ok (.if_icmp .ne 16, 3) := by decide +kernel
theorem dX4_tryThing_130 : decode cX4_tryThing 130 = .ok (.aload_n 0, 1) := by decide +kernel
theorem dX4_tryThing_131 : decode cX4_tryThing 131 = .ok (.getfield 16, 3) := by decide +kernel
theorem dX4_tryThing_134 : decode cX4_tryThing 134 = .ok (.bipush 54, 2) := by decide +kernel
theorem dX4_tryThing_136 : decode cX4_tryThing 136 = .ok (.iload_n 3, 1) := by decide +kernel
theorem dX4_tryThing_137 : decode cX4_tryThing 137 = .ok (.iadd, 1) := by decide +kernel
theorem dX4_tryThing_138 : decode cX4_tryThing 138 = .ok (.iconst 1, 1) := by decide +kernel
theorem dX4_tryThing_139 : decode cX4_tryThing 139 = .ok (.iastore, 1) := by decide +kernel
theorem dX4_tryThing_140 : decode cX4_tryThing 140 = .ok (.goto 15, 3) := by decide +kernel
theorem dX4_tryThing_143 : decode cX4_tryThing 143 = .ok (.iload 4, 2) := by decide +kernel
theorem dX4_tryThing_145 : decode cX4_tryThing 145 = .ok (.ifCond .eq 10, 3) := by decide +kernel
theorem dX4_tryThing_148 : decode cX4_tryThing 148 = .ok (.aload_n 0, 1) := by decide +kernel
theorem dX4_tryThing_149 : decode cX4_tryThing 149 = .ok (.iconst 1, 1) := by decide +kernel
theorem dX4_tryThing_150 : decode cX4_tryThing 150 = .ok (.iload_n 2, 1) := by decide +kernel
theorem dX4_tryThing_151 : decode cX4_tryThing 151 = .ok (.iload_n 3, 1) := by decide +kernel
theorem dX4_tryThing_152 : decode cX4_tryThing 152 = .ok (.invokevirtual 166, 3) := by decide +kernel
theorem dX4_tryThing_155 : decode cX4_tryThing 155 = .ok (.iload 4, 2) := by decide +kernel
theorem dX4_tryThing_157 : decode cX4_tryThing 157 = .ok (.ireturn, 1) := by decide +kernel
theorem dX4_judge_0 : decode cX4_judge 0 = .ok (.iload_n 1, 1) := by decide +kernel
theorem dX4_judge_1 : decode cX4_judge 1 = .ok (.i2l, 1) := by decide +kernel
theorem dX4_judge_2 : decode cX4_judge 2 = .ok (.lconst 1, 1) := by decide +kernel
theorem dX4_judge_3 : decode cX4_judge 3 = .ok (.ldc2_w 180, 3) := by decide +kernel
theorem dX4_judge_6 : decode cX4_judge 6 = .ok (.invokestatic 56, 3) := by decide +kernel
theorem dX4_judge_9 : decode cX4_judge 9 = .ok (.ifCond .eq 19, 3) := by decide +kernel
theorem dX4_judge_12 : decode cX4_judge 12 = .ok (.lload_n 2, 1) := by decide +kernel
theorem dX4_judge_13 : decode cX4_judge 13 = .ok (.lconst 0, 1) := by decide +kernel
theorem dX4_judge_14 : decode cX4_judge 14 = .ok (.iconst 3, 1) := by decide +kernel
theorem dX4_judge_15 : decode cX4_judge 15 = .ok (.iload_n 1, 1) := by decide +kernel
theorem dX4_judge_16 : decode cX4_judge 16 = .ok (.imul, 1) := by decide +kernel
theorem dX4_judge_17 : decode cX4_judge 17 = .ok (.invokestatic 182, 3) := by decide +kernel
theorem dX4_judge_20 : decode cX4_judge 20 = .ok (.lconst 1, 1) := by decide +kernel
theorem dX4_judge_21 : decode cX4_judge 21 = .ok (.lsub, 1) := by decide +kernel
theorem dX4_judge_22 : decode cX4_judge 22 = .ok (.invokestatic 56, 3) := by decide +kernel
theorem dX4_judge_25 : decode cX4_judge 25 = .ok (.ifCond .ne 6, 3) := by decide +kernel
theorem dX4_judge_28 : decode cX4_judge 28 = .ok (.bipush (-2), 2) := by decide +kernel
theorem dX4_judge_30 : decode cX4_judge 30 = .ok (.ireturn, 1) := by decide +kernel
theorem dX4_judge_31 : decode cX4_judge 31 = .ok (.aload_n 0, 1) := by decide +kernel
theorem dX4_judge_32 : decode cX4_judge 32 = .ok (.invokevirtual 169, 3) := by decide +kernel
theorem dX4_judge_35 : decode cX4_judge 35 = .ok (.iconst 0, 1) := by decide +kernel
theorem dX4_judge_36 : decode cX4_judge 36 = .ok (.istore 4, 2) := by decide +kernel
theorem dX4_judge_38 : decode cX4_judge 38 = .ok (.iload 4, 2) := by decide +kernel
theorem dX4_judge_40 : decode cX4_judge 40 = .ok (.iload_n 1, 1) := by decide +kernel
theorem dX4_judge_41 : decode cX4_judge 41 = .ok (.if_icmp .ge 57, 3) := by decide +kernel
theorem dX4_judge_44 : decode cX4_judge 44 = .ok (.lload_n 2, 1) := by decide +kernel
theorem dX4_judge_45 : decode cX4_judge 45 = .ok (.iconst 3, 1) := by decide +kernel
theorem dX4_judge_46 : decode cX4_judge 46 = .ok (.iload_n 1, 1) := by decide +kernel
theorem dX4_judge_47 : decode cX4_judge 47 = .ok (.iconst 1, 1) := by decide +kernel
theorem dX4_judge_48 : decode cX4_judge 48 = .ok (.isub, 1) := by decide +kernel
theorem dX4_judge_49 : decode cX4_judge 49 = .ok (.iload 4, 2) := by decide +kernel
theorem dX4_judge_51 : decode cX4_judge 51 = .ok (.isub, 1) := by decide +kernel
theorem dX4_judge_52 : decode cX4_judge 52 = .ok (.imul, 1) := by decide +kernel
theorem dX4_judge_53 : decode cX4_judge 53 = .ok (.invokestatic 182, 3) := by decide +kernel
theorem dX4_judge_56 : decode cX4_judge 56 = .ok (.ldiv, 1) := by decide +kernel
theorem dX4_judge_57 : decode cX4_judge 57 = .ok (.ldc2_w 186, 3) := by decide +kernel
theorem dX4_judge_60 : decode cX4_judge 60 = .ok (.lrem, 1) := by decide +kernel
theorem dX4_judge_61 : decode cX4_judge 61 = .ok (.l2i, 1) := by decide +kernel
theorem dX4_judge_62 : decode cX4_judge 62 = .ok (.istore 5, 2) := by decide +kernel
theorem dX4_judge_64 : decode cX4_judge 64 = .ok (.aload_n 0, 1) := by decide +kernel
theorem dX4_judge_65 : decode cX4_judge 65 = .ok (.iload 5, 2) := by decide +kernel
theorem dX4_judge_67 : decode cX4_judge 67 = .ok (.bipush 100, 2) := by decide +kernel
theorem dX4_judge_69 : decode cX4_judge 69 = .ok (.idiv, 1) := by decide +kernel
theorem dX4_judge_70 : decode cX4_judge 70 = .ok (.iload 5, 2) := by decide +kernel
theorem dX4_judge_72 : decode cX4_judge 72 = .ok (.bipush 10, 2) := by decide +kernel
theorem dX4_judge_74 : decode cX4_judge 74 = .ok (.idiv, 1) := by decide +kernel
theorem dX4_judge_75 : decode cX4_judge 75 = .ok (.bipush 10, 2) := by decide +kernel
theorem dX4_judge_77 : decode cX4_judge 77 = .ok (.irem, 1) := by decide +kernel
theorem dX4_judge_78 : decode cX4_judge 78 = .ok (.iload 5, 2) := by decide +kernel
theorem dX4_judge_80 : decode cX4_judge 80 = .ok (.bipush 10, 2) := by decide +kernel
theorem dX4_judge_82 : decode cX4_judge 82 = .ok (.irem, 1) := by decide +kernel
theorem dX4_judge_83 : decode cX4_judge 83 = .ok (.invokevirtual 188, 3) := by decide +kernel
theorem dX4_judge_86 : decode cX4_judge 86 = .ok (.ifCond .ne 6, 3) := by decide +kernel
theorem dX4_judge_89 : decode cX4_judge 89 = .ok (.iload 4, 2) := by decide +kernel
theorem dX4_judge_91 : decode cX4_judge 91 = .ok (.ireturn, 1) := by decide +kernel
theorem dX4_judge_92 : decode cX4_judge 92 = .ok (.iinc 4 1, 3) := by decide +kernel
theorem dX4_judge_95 : decode cX4_judge 95 = .ok (.goto (-57), 3) := by decide +kernel
theorem dX4_judge_98 : decode cX4_judge 98 = .ok (.bipush (-9), 2) := by decide +kernel
theorem dX4_judge_100 : decode cX4_judge 100 = .ok (.ireturn, 1) := by decide +kernel
theorem dX4_see_0 : decode cX4_see 0 = .ok (.aload_n 0, 1) := by decide +kernel
theorem dX4_see_1 : decode cX4_see 1 = .ok (.iload_n 1, 1) := by decide +kernel
theorem dX4_see_2 : decode cX4_see 2 = .ok (.invokevirtual 128, 3) := by decide +kernel
theorem dX4_see_5 : decode cX4_see 5 = .ok (.ifCond .ne 5, 3) := by decide +kernel
theorem dX4_see_8 : decode cX4_see 8 = .ok (.iconst (-1), 1) := by decide +kernel
theorem dX4_see_9 : decode cX4_see 9 = .ok (.ireturn, 1) := by decide +kernel
theorem dX4_see_10 : decode cX4_see 10 = .ok (.iload_n 2, 1) := by decide +kernel
theorem dX4_see_11 : decode cX4_see 11 = .ok (.i2l, 1) := by decide +kernel
theorem dX4_see_12 : decode cX4_see 12 = .ok (.lconst 0, 1) := by decide +kernel
theorem dX4_see_13 : decode cX4_see 13 = .ok (.ldc2_w 191, 3) := by decide +kernel
theorem dX4_see_16 : decode cX4_see 16 = .ok (.invokestatic 56, 3) := by decide +kernel
theorem dX4_see_19 : decode cX4_see 19 = .ok (.ifCond .eq 13, 3) := by decide +kernel
theorem dX4_see_22 : decode cX4_see 22 = .ok (.iload_n 3, 1) := by decide +kernel
theorem dX4_see_23 : decode cX4_see 23 = .ok (.i2l, 1) := by decide +kernel
theorem dX4_see_24 : decode cX4_see 24 = .ok (.lconst 0, 1) := by decide +kernel
theorem dX4_see_25 : decode cX4_see 25 = .ok (.lconst 1, 1) := by decide +kernel
theorem dX4_see_26 : decode cX4_see 26 = .ok (.invokestatic 56, 3) := by decide +kernel
theorem dX4_see_29 : decode cX4_see 29 = .ok (.ifCond .ne 6, 3) := by decide +kernel
theorem dX4_see_32 : decode cX4_see 32 = .ok (.bipush (-2), 2) := by decide +kernel
theorem dX4_see_34 : decode cX4_see 34 = .ok (.ireturn, 1) := by decide +kernel
theorem dX4_see_35 : decode cX4_see 35 = .ok (.aload_n 0, 1) := by decide +kernel
theorem dX4_see_36 : decode cX4_see 36 = .ok (.getfield 193, 3) := by decide +kernel
theorem dX4_see_39 : decode cX4_see 39 = .ok (.bipush 6, 2) := by decide +kernel
theorem dX4_see_41 : decode cX4_see 41 = .ok (.if_icmp .ne 6, 3) := by decide +kernel
theorem dX4_see_44 : decode cX4_see 44 = .ok (.bipush (-4), 2) := by decide +kernel
theorem dX4_see_46 : decode cX4_see 46 = .ok (.ireturn, 1) := by decide +kernel
theorem dX4_see_47 : decode cX4_see 47 = .ok (.aload_n 0, 1) := by decide +kernel
theorem dX4_see_48 : decode cX4_see 48 = .ok (.getfield 34, 3) := by decide +kernel
theorem dX4_see_51 : decode cX4_see 51 = .ok (.aload_n 0, 1) := by decide +kernel
theorem dX4_see_52 : decode cX4_see 52 = .ok (.getfield 193, 3) := by decide +kernel
theorem dX4_see_55 : decode cX4_see 55 = .ok (.iload_n 1, 1) := by decide +kernel
theorem dX4_see_56 : decode cX4_see 56 = .ok (.iastore, 1) := by decide +kernel
theorem dX4_see_57 : decode cX4_see 57 = .ok (.aload_n 0, 1) := by decide +kernel
theorem dX4_see_58 : decode cX4_see 58 = .ok (.getfield 37, 3) := by decide +kernel
theorem dX4_see_61 : decode cX4_see 61 = .ok (.aload_n 0, 1) := by decide +kernel
theorem dX4_see_62 : decode cX4_see 62 = .ok (.getfield 193, 3) := by decide +kernel
theorem dX4_see_65 : decode cX4_see 65 = .ok (.iload_n 2, 1) := by decide +kernel
theorem dX4_see_66 : decode cX4_see 66 = .ok (.iastore, 1) := by decide +kernel
theorem dX4_see_67 : decode cX4_see 67 = .ok (.aload_n 0, 1) := by decide +kernel
theorem dX4_see_68 : decode cX4_see 68 = .ok (.getfield 40, 3) := by decide +kernel
theorem dX4_see_71 : decode cX4_see 71 = .ok (.aload_n 0, 1) := by decide +kernel
theorem dX4_see_72 : decode cX4_see 72 = .ok (.getfield 193, 3) := by decide +kernel
theorem dX4_see_75 : decode cX4_see 75 = .ok (.iload_n 3, 1) := by decide +kernel
theorem dX4_see_76 : decode cX4_see 76 = .ok (.iastore, 1) := by decide +kernel
theorem dX4_see_77 : decode cX4_see 77 = .ok (.aload_n 0, 1) := by decide +kernel
theorem dX4_see_78 : decode cX4_see 78 = .ok (.dup, 1) := by decide +kernel
theorem dX4_see_79 : decode cX4_see 79 = .ok (.getfield 193, 3) := by decide +kernel
theorem dX4_see_82 : decode cX4_see 82 = .ok (.iconst 1, 1) := by decide +kernel
theorem dX4_see_83 : decode cX4_see 83 = .ok (.iadd, 1) := by decide +kernel
theorem dX4_see_84 : decode cX4_see 84 = .ok (.putfield 193, 3) := by decide +kernel
theorem dX4_see_87 : decode cX4_see 87 = .ok (.aload_n 0, 1) := by decide +kernel
theorem dX4_see_88 : decode cX4_see 88 = .ok (.getfield 193, 3) := by decide +kernel
theorem dX4_see_91 : decode cX4_see 91 = .ok (.ireturn, 1) := by decide +kernel
theorem dX4_unsee_0 : decode cX4_unsee 0 = .ok (.aload_n 0, 1) := by decide +kernel
theorem dX4_unsee_1 : decode cX4_unsee 1 = .ok (.getfield 193, 3) := by decide +kernel
theorem dX4_unsee_4 : decode cX4_unsee 4 = .ok (.istore_n 1, 1) := by decide +kernel
theorem dX4_unsee_5 : decode cX4_unsee 5 = .ok (.aload_n 0, 1) := by decide +kernel
theorem dX4_unsee_6 : decode cX4_unsee 6 = .ok (.iconst 0, 1) := by decide +kernel
theorem dX4_unsee_7 : decode cX4_unsee 7 = .ok (.putfield 193, 3) := by decide +kernel
theorem dX4_unsee_10 : decode cX4_unsee 10 = .ok (.iload_n 1, 1) := by decide +kernel
theorem dX4_unsee_11 : decode cX4_unsee 11 = .ok (.ireturn, 1) := by decide +kernel
theorem dX4_bought_0 : decode cX4_bought 0 = .ok (.aload_n 0, 1) := by decide +kernel
theorem dX4_bought_1 : decode cX4_bought 1 = .ok (.iload_n 1, 1) := by decide +kernel
theorem dX4_bought_2 : decode cX4_bought 2 = .ok (.invokevirtual 128, 3) := by decide +kernel
theorem dX4_bought_5 : decode cX4_bought 5 = .ok (.ifCond .ne 5, 3) := by decide +kernel
theorem dX4_bought_8 : decode cX4_bought 8 = .ok (.iconst (-1), 1) := by decide +kernel
theorem dX4_bought_9 : decode cX4_bought 9 = .ok (.ireturn, 1) := by decide +kernel
theorem dX4_bought_10 : decode cX4_bought 10 = .ok (.iconst 0, 1) := by decide +kernel
theorem dX4_bought_11 : decode cX4_bought 11 = .ok (.istore_n 2, 1) := by decide +kernel
theorem dX4_bought_12 : decode cX4_bought 12 = .ok (.iconst 0, 1) := by decide +kernel
theorem dX4_bought_13 : decode cX4_bought 13 = .ok (.istore_n 3, 1) := by decide +kernel
theorem dX4_bought_14 : decode cX4_bought 14 = .ok (.iload_n 3, 1) := by decide +kernel
theorem dX4_bought_15 : decode cX4_bought 15 = .ok (.bipush 10, 2) := by decide +kernel
theorem dX4_bought_17 : decode cX4_bought 17 = .ok (.if_icmp .ge 131, 3) := by decide +kernel
theorem dX4_bought_20 : decode cX4_bought 20 = .ok (.iconst 1, 1) := by decide +kernel
theorem dX4_bought_21 : decode cX4_bought 21 = .ok (.istore 4, 2) := by decide +kernel
theorem dX4_bought_23 : decode cX4_bought 23 = .ok (.iconst 0, 1) := by decide +kernel
theorem dX4_bought_24 : decode cX4_bought 24 = .ok (.istore 5, 2) := by decide +kernel
theorem dX4_bought_26 : decode cX4_bought 26 = .ok (.iload 5, 2) := by decide +kernel
theorem dX4_bought_28 : decode cX4_bought 28 = .ok (.aload_n 0, 1) := by decide +kernel
theorem dX4_bought_29 : decode cX4_bought 29 = .ok (.getfield 193, 3) := by decide +kernel
theorem dX4_bought_32 : decode cX4_bought 32 = .ok (.if_icmp .ge 95, 3) := by decide +kernel
theorem dX4_bought_35 : decode cX4_bought 35 = .ok (.bipush 10, 2) := by decide +kernel
theorem dX4_bought_37 : decode cX4_bought 37 = .ok (.iload_n 3, 1) := by decide +kernel
theorem dX4_bought_38 : decode cX4_bought 38 = .ok (.imul, 1) := by decide +kernel
theorem dX4_bought_39 : decode cX4_bought 39 = .ok (.aload_n 0, 1) := by decide +kernel
theorem dX4_bought_40 : decode cX4_bought 40 = .ok (.getfield 7, 3) := by decide +kernel
theorem dX4_bought_43 : decode cX4_bought 43 = .ok (.iload_n 1, 1) := by decide +kernel
theorem dX4_bought_44 : decode cX4_bought 44 = .ok (.iaload, 1) := by decide +kernel
theorem dX4_bought_45 : decode cX4_bought 45 = .ok (.iconst 3, 1) := by decide +kernel
theorem dX4_bought_46 : decode cX4_bought 46 = .ok (.if_icmp .ne 7, 3) := by decide +kernel
theorem dX4_bought_49 : decode cX4_bought 49 = .ok (.iconst 0, 1) := by decide +kernel
theorem dX4_bought_50 : decode cX4_bought 50 = .ok (.goto 10, 3) := by decide +kernel
theorem dX4_bought_53 : decode cX4_bought 53 = .ok (.aload_n 0, 1) := by decide +kernel
theorem dX4_bought_54 : decode cX4_bought 54 = .ok (.getfield 37, 3) := by decide +kernel
theorem dX4_bought_57 : decode cX4_bought 57 = .ok (.iload 5, 2) := by decide +kernel
theorem dX4_bought_59 : decode cX4_bought 59 = .ok (.iaload, 1) := by decide +kernel
theorem dX4_bought_60 : decode cX4_bought 60 = .ok (.iadd, 1) := by decide +kernel
theorem dX4_bought_61 : decode cX4_bought 61 = .ok (.istore 6, 2) := by decide +kernel
theorem dX4_bought_63 : decode cX4_bought 63 = .ok (.iload 4, 2) := by decide +kernel
theorem dX4_bought_65 : decode cX4_bought 65 = .ok (.ifCond .eq 53, 3) := by decide +kernel
theorem dX4_bought_68 : decode cX4_bought 68 = .ok (.aload_n 0, 1) := by decide +kernel
theorem dX4_bought_69 : decode cX4_bought 69 = .ok (.getfield 34, 3) := by decide +kernel
theorem dX4_bought_72 : decode cX4_bought 72 = .ok (.iload 5, 2) := by decide +kernel
theorem dX4_bought_74 : decode cX4_bought 74 = .ok (.iaload, 1) := by decide +kernel
theorem dX4_bought_75 : decode cX4_bought 75 = .ok (.iload_n 1, 1) := by decide +kernel
theorem dX4_bought_76 : decode cX4_bought 76 = .ok (.if_icmp .ne 38, 3) := by decide +kernel
theorem dX4_bought_79 : decode cX4_bought 79 = .ok (.iload 6, 2) := by decide +kernel
theorem dX4_bought_81 : decode cX4_bought 81 = .ok (.aload_n 0, 1) := by decide +kernel
theorem dX4_bought_82 : decode cX4_bought 82 = .ok (.iconst 0, 1) := by decide +kernel
theorem dX4_bought_83 : decode cX4_bought 83 = .ok (.iload_n 1, 1) := by decide +kernel
theorem dX4_bought_84 : decode cX4_bought 84 = .ok (.invokevirtual 105, 3) := by decide +kernel
theorem dX4_bought_87 : decode cX4_bought 87 = .ok (.if_icmp .ge 7, 3) := by decide +kernel
theorem dX4_bought_90 : decode cX4_bought 90 = .ok (.iconst 1, 1) := by decide +kernel
theorem dX4_bought_91 : decode cX4_bought 91 = .ok (.goto 4, 3) := by decide +kernel
theorem dX4_bought_94 : decode cX4_bought 94 = .ok (.iconst 0, 1) := by decide +kernel
theorem dX4_bought_95 : decode cX4_bought 95 = .ok (.aload_n 0, 1) := by decide +kernel
theorem dX4_bought_96 : decode cX4_bought 96 = .ok (.getfield 40, 3) := by decide +kernel
theorem dX4_bought_99 : decode cX4_bought 99 = .ok (.iload 5, 2) := by decide +kernel
theorem dX4_bought_101 : decode cX4_bought 101 = .ok (.iaload, 1) := by decide +kernel
theorem dX4_bought_102 : decode cX4_bought 102 = .ok (.iconst 1, 1) := by decide +kernel
theorem dX4_bought_103 : decode cX4_bought 103 = .ok (.if_icmp .ne 7, 3) := by decide +kernel
theorem dX4_bought_106 : decode cX4_bought 106 = .ok (.iconst 1, 1) := by decide +kernel
theorem dX4_bought_107 : decode cX4_bought 107 = .ok (.goto 4, 3) := by decide +kernel
theorem dX4_bought_110 : decode cX4_bought 110 = .ok (.iconst 0, 1) := by decide +kernel
theorem dX4_bought_111 : decode cX4_bought 111 = .ok (.if_icmp .ne 7, 3) := by decide +kernel
theorem dX4_bought_114 : decode cX4_bought 114 = .ok (.iconst 1, 1) := by decide +kernel
theorem dX4_bought_115 : decode cX4_bought 115 = .ok (.goto 4, 3) := by decide +kernel
theorem dX4_bought_118 : decode cX4_bought 118 = .ok (.iconst 0, 1) := by decide +kernel
theorem dX4_bought_119 : decode cX4_bought 119 = .ok (.istore 4, 2) := by decide +kernel
theorem dX4_bought_121 : decode cX4_bought 121 = .ok (.iinc 5 1, 3) := by decide +kernel
theorem dX4_bought_124 : decode cX4_bought 124 = .ok (.goto (-98), 3) := by decide +kernel
theorem dX4_bought_127 : decode cX4_bought 127 = .ok (.iload_n 2, 1) := by decide +kernel
theorem dX4_bought_128 : decode cX4_bought 128 = .ok (.iload 4, 2) := by decide +kernel
theorem dX4_bought_130 : decode cX4_bought 130 = .ok (.ifCond .eq 9, 3) := by decide +kernel
theorem dX4_bought_133 : decode cX4_bought 133 = .ok (.iconst 1, 1) := by decide +kernel
theorem dX4_bought_134 : decode cX4_bought 134 = .ok (.iload_n 3, 1) := by decide +kernel
theorem dX4_bought_135 : decode cX4_bought 135 = .ok (.ishl, 1) := by decide +kernel
theorem dX4_bought_136 : decode cX4_bought 136 = .ok (.goto 4, 3) := by decide +kernel
theorem dX4_bought_139 : decode cX4_bought 139 = .ok (.iconst 0, 1) := by decide +kernel
theorem dX4_bought_140 : decode cX4_bought 140 = .ok (.ior, 1) := by decide +kernel
theorem dX4_bought_141 : decode cX4_bought 141 = .ok (.istore_n 2, 1) := by decide +kernel
theorem dX4_bought_142 : decode cX4_bought 142 = .ok (.iinc 3 1, 3) := by decide +kernel
theorem dX4_bought_145 : decode cX4_bought 145 = .ok (.goto (-131), 3) := by decide +kernel
theorem dX4_bought_148 : decode cX4_bought 148 = .ok (.iload_n 2, 1) := by decide +kernel
theorem dX4_bought_149 : decode cX4_bought 149 = .ok (.ireturn, 1) := by decide +kernel
theorem dX4_factorial_0 : decode cX4_factorial 0 = .ok (.iconst 1, 1) := by decide +kernel
theorem dX4_factorial_1 : decode cX4_factorial 1 = .ok (.istore_n 1, 1) := by decide +kernel
theorem dX4_factorial_2 : decode cX4_factorial 2 = .ok (.iconst 2, 1) := by decide +kernel
theorem dX4_factorial_3 : decode cX4_factorial 3 = .ok (.istore_n 2, 1) := by decide +kernel
theorem dX4_factorial_4 : decode cX4_factorial 4 = .ok (.iload_n 2, 1) := by decide +kernel
theorem dX4_factorial_5 : decode cX4_factorial 5 = .ok (.iload_n 0, 1) := by decide +kernel
theorem dX4_factorial_6 : decode cX4_factorial 6 = .ok (.if_icmp .gt 13, 3) := by decide +kernel
theorem dX4_factorial_9 : decode cX4_factorial 9 = .ok (.iload_n 1, 1) := by decide +kernel
theorem dX4_factorial_10 : decode cX4_factorial 10 = .ok (.iload_n 2, 1) := by decide +kernel
theorem dX4_factorial_11 : decode cX4_factorial 11 = .ok (.imul, 1) := by decide +kernel
theorem dX4_factorial_12 : decode cX4_factorial 12 = .ok (.istore_n 1, 1) := by decide +kernel
theorem dX4_factorial_13 : decode cX4_factorial 13 = .ok (.iinc 2 1, 3) := by decide +kernel
theorem dX4_factorial_16 : decode cX4_factorial 16 = .ok (.goto (-12), 3) := by decide +kernel
theorem dX4_factorial_19 : decode cX4_factorial 19 = .ok (.iload_n 1, 1) := by decide +kernel
theorem dX4_factorial_20 : decode cX4_factorial 20 = .ok (.ireturn, 1) := by decide +kernel
theorem dX4_common_0 : decode cX4_common 0 = .ok (.lload_n 0, 1) := by decide +kernel
theorem dX4_common_1 : decode cX4_common 1 = .ok (.lconst 0, 1) := by decide +kernel
theorem dX4_common_2 : decode cX4_common 2 = .ok (.lcmp, 1) := by decide +kernel
theorem dX4_common_3 : decode cX4_common 3 = .ok (.ifCond .ge 8, 3) := by decide +kernel
theorem dX4_common_6 : decode cX4_common 6 = .ok (.lload_n 0, 1) := by decide +kernel
theorem dX4_common_7 : decode cX4_common 7 = .ok (.lneg, 1) := by decide +kernel
theorem dX4_common_8 : decode cX4_common 8 = .ok (.goto 4, 3) := by decide +kernel
theorem dX4_common_11 : decode cX4_common 11 = .ok (.lload_n 0, 1) := by decide +kernel
theorem dX4_common_12 : decode cX4_common 12 = .ok (.lstore 4, 2) := by decide +kernel
theorem dX4_common_14 : decode cX4_common 14 = .ok (.lload_n 2, 1) := by decide +kernel
theorem dX4_common_15 : decode cX4_common 15 = .ok (.lstore 6, 2) := by decide +kernel
theorem dX4_common_17 : decode cX4_common 17 = .ok (.lload 6, 2) := by decide +kernel
theorem dX4_common_19 : decode cX4_common 19 = .ok (.lconst 0, 1) := by decide +kernel
theorem dX4_common_20 : decode cX4_common 20 = .ok (.lcmp, 1) := by decide +kernel
theorem dX4_common_21 : decode cX4_common 21 = .ok (.ifCond .eq 21, 3) := by decide +kernel
theorem dX4_common_24 : decode cX4_common 24 = .ok (.lload 4, 2) := by decide +kernel
theorem dX4_common_26 : decode cX4_common 26 = .ok (.lload 6, 2) := by decide +kernel
theorem dX4_common_28 : decode cX4_common 28 = .ok (.lrem, 1) := by decide +kernel
theorem dX4_common_29 : decode cX4_common 29 = .ok (.lstore 8, 2) := by decide +kernel
theorem dX4_common_31 : decode cX4_common 31 = .ok (.lload 6, 2) := by decide +kernel
theorem dX4_common_33 : decode cX4_common 33 = .ok (.lstore 4, 2) := by decide +kernel
theorem dX4_common_35 : decode cX4_common 35 = .ok (.lload 8, 2) := by decide +kernel
theorem dX4_common_37 : decode cX4_common 37 = .ok (.lstore 6, 2) := by decide +kernel
theorem dX4_common_39 : decode cX4_common 39 = .ok (.goto (-22), 3) := by decide +kernel
theorem dX4_common_42 : decode cX4_common 42 = .ok (.lload 4, 2) := by decide +kernel
theorem dX4_common_44 : decode cX4_common 44 = .ok (.lreturn, 1) := by decide +kernel
theorem dX4_paidBy_0 : decode cX4_paidBy 0 = .ok (.iconst 0, 1) := by decide +kernel
theorem dX4_paidBy_1 : decode cX4_paidBy 1 = .ok (.istore_n 2, 1) := by decide +kernel
theorem dX4_paidBy_2 : decode cX4_paidBy 2 = .ok (.iconst 0, 1) := by decide +kernel
theorem dX4_paidBy_3 : decode cX4_paidBy 3 = .ok (.istore_n 3, 1) := by decide +kernel
theorem dX4_paidBy_4 : decode cX4_paidBy 4 = .ok (.iload_n 3, 1) := by decide +kernel
theorem dX4_paidBy_5 : decode cX4_paidBy 5 = .ok (.aload_n 0, 1) := by decide +kernel
theorem dX4_paidBy_6 : decode cX4_paidBy 6 = .ok (.getfield 99, 3) := by decide +kernel
theorem dX4_paidBy_9 : decode cX4_paidBy 9 = .ok (.if_icmp .ge 44, 3) := by decide +kernel
theorem dX4_paidBy_12 : decode cX4_paidBy 12 = .ok (.iload_n 2, 1) := by decide +kernel
theorem dX4_paidBy_13 : decode cX4_paidBy 13 = .ok (.aload_n 0, 1) := by decide +kernel
theorem dX4_paidBy_14 : decode cX4_paidBy 14 = .ok (.getfield 16, 3) := by decide +kernel
theorem dX4_paidBy_17 : decode cX4_paidBy 17 = .ok (.bipush 24, 2) := by decide +kernel
theorem dX4_paidBy_19 : decode cX4_paidBy 19 = .ok (.iload_n 3, 1) := by decide +kernel
theorem dX4_paidBy_20 : decode cX4_paidBy 20 = .ok (.iadd, 1) := by decide +kernel
theorem dX4_paidBy_21 : decode cX4_paidBy 21 = .ok (.iaload, 1) := by decide +kernel
theorem dX4_paidBy_22 : decode cX4_paidBy 22 = .ok (.ifCond .ne 22, 3) := by decide +kernel
theorem dX4_paidBy_25 : decode cX4_paidBy 25 = .ok (.aload_n 0, 1) := by decide +kernel
theorem dX4_paidBy_26 : decode cX4_paidBy 26 = .ok (.getfield 13, 3) := by decide +kernel
theorem dX4_paidBy_29 : decode cX4_paidBy 29 = .ok (.iload_n 3, 1) := by decide +kernel
theorem dX4_paidBy_30 : decode cX4_paidBy 30 = .ok (.iaload, 1) := by decide +kernel
theorem dX4_paidBy_31 : decode cX4_paidBy 31 = .ok (.aload_n 0, 1) := by decide +kernel
theorem dX4_paidBy_32 : decode cX4_paidBy 32 = .ok (.iconst 0, 1) := by decide +kernel
theorem dX4_paidBy_33 : decode cX4_paidBy 33 = .ok (.iload_n 1, 1) := by decide +kernel
theorem dX4_paidBy_34 : decode cX4_paidBy 34 = .ok (.invokevirtual 135, 3) := by decide +kernel
theorem dX4_paidBy_37 : decode cX4_paidBy 37 = .ok (.if_icmp .gt 7, 3) := by decide +kernel
theorem dX4_paidBy_40 : decode cX4_paidBy 40 = .ok (.iconst 1, 1) := by decide +kernel
theorem dX4_paidBy_41 : decode cX4_paidBy 41 = .ok (.goto 4, 3) := by decide +kernel
theorem dX4_paidBy_44 : decode cX4_paidBy 44 = .ok (.iconst 0, 1) := by decide +kernel
theorem dX4_paidBy_45 : decode cX4_paidBy 45 = .ok (.iadd, 1) := by decide +kernel
theorem dX4_paidBy_46 : decode cX4_paidBy 46 = .ok (.istore_n 2, 1) := by decide +kernel
theorem dX4_paidBy_47 : decode cX4_paidBy 47 = .ok (.iinc 3 1, 3) := by decide +kernel
theorem dX4_paidBy_50 : decode cX4_paidBy 50 = .ok (.goto (-46), 3) := by decide +kernel
theorem dX4_paidBy_53 : decode cX4_paidBy 53 = .ok (.iload_n 2, 1) := by decide +kernel
theorem dX4_paidBy_54 : decode cX4_paidBy 54 = .ok (.ireturn, 1) := by decide +kernel
theorem dX4_share_0 : decode cX4_share 0 = .ok (.aload_n 0, 1) := by decide +kernel
theorem dX4_share_1 : decode cX4_share 1 = .ok (.iload_n 1, 1) := by decide +kernel
theorem dX4_share_2 : decode cX4_share 2 = .ok (.invokevirtual 128, 3) := by decide +kernel
theorem dX4_share_5 : decode cX4_share 5 = .ok (.ifCond .ne 5, 3) := by decide +kernel
theorem dX4_share_8 : decode cX4_share 8 = .ok (.iconst (-1), 1) := by decide +kernel
theorem dX4_share_9 : decode cX4_share 9 = .ok (.ireturn, 1) := by decide +kernel
theorem dX4_share_10 : decode cX4_share 10 = .ok (.iconst 0, 1) := by decide +kernel
theorem dX4_share_11 : decode cX4_share 11 = .ok (.istore_n 3, 1) := by decide +kernel
theorem dX4_share_12 : decode cX4_share 12 = .ok (.iconst 0, 1) := by decide +kernel
theorem dX4_share_13 : decode cX4_share 13 = .ok (.istore 4, 2) := by decide +kernel
theorem dX4_share_15 : decode cX4_share 15 = .ok (.iload 4, 2) := by decide +kernel
theorem dX4_share_17 : decode cX4_share 17 = .ok (.iconst 1, 1) := by decide +kernel
theorem dX4_share_18 : decode cX4_share 18 = .ok (.aload_n 0, 1) := by decide +kernel
theorem dX4_share_19 : decode cX4_share 19 = .ok (.getfield 50, 3) := by decide +kernel
theorem dX4_share_22 : decode cX4_share 22 = .ok (.ishl, 1) := by decide +kernel
theorem dX4_share_23 : decode cX4_share 23 = .ok (.if_icmp .ge 67, 3) := by decide +kernel
theorem dX4_share_26 : decode cX4_share 26 = .ok (.iload 4, 2) := by decide +kernel
theorem dX4_share_28 : decode cX4_share 28 = .ok (.iload_n 1, 1) := by decide +kernel
theorem dX4_share_29 : decode cX4_share 29 = .ok (.invokestatic 71, 3) := by decide +kernel
theorem dX4_share_32 : decode cX4_share 32 = .ok (.ifCond .ne 52, 3) := by decide +kernel
theorem dX4_share_35 : decode cX4_share 35 = .ok (.iload 4, 2) := by decide +kernel
theorem dX4_share_37 : decode cX4_share 37 = .ok (.invokestatic 147, 3) := by decide +kernel
theorem dX4_share_40 : decode cX4_share 40 = .ok (.invokestatic 196, 3) := by decide +kernel
theorem dX4_share_43 : decode cX4_share 43 = .ok (.aload_n 0, 1) := by decide +kernel
theorem dX4_share_44 : decode cX4_share 44 = .ok (.getfield 50, 3) := by decide +kernel
theorem dX4_share_47 : decode cX4_share 47 = .ok (.iconst 1, 1) := by decide +kernel
theorem dX4_share_48 : decode cX4_share 48 = .ok (.isub, 1) := by decide +kernel
theorem dX4_share_49 : decode cX4_share 49 = .ok (.iload 4, 2) := by decide +kernel
theorem dX4_share_51 : decode cX4_share 51 = .ok (.invokestatic 147, 3) := by decide +kernel
theorem dX4_share_54 : decode cX4_share 54 = .ok (.isub, 1) := by decide +kernel
theorem dX4_share_55 : decode cX4_share 55 = .ok (.invokestatic 196, 3) := by decide +kernel
theorem dX4_share_58 : decode cX4_share 58 = .ok (.imul, 1) := by decide +kernel
theorem dX4_share_59 : decode cX4_share 59 = .ok (.istore 5, 2) := by decide +kernel
theorem dX4_share_61 : decode cX4_share 61 = .ok (.iload_n 3, 1) := by decide +kernel
theorem dX4_share_62 : decode cX4_share 62 = .ok (.iload 5, 2) := by decide +kernel
theorem dX4_share_64 : decode cX4_share 64 = .ok (.aload_n 0, 1) := by decide +kernel
theorem dX4_share_65 : decode cX4_share 65 = .ok (.iload 4, 2) := by decide +kernel
theorem dX4_share_67 : decode cX4_share 67 = .ok (.iconst 1, 1) := by decide +kernel
theorem dX4_share_68 : decode cX4_share 68 = .ok (.iload_n 1, 1) := by decide +kernel
theorem dX4_share_69 : decode cX4_share 69 = .ok (.ishl, 1) := by decide +kernel
theorem dX4_share_70 : decode cX4_share 70 = .ok (.ior, 1) := by decide +kernel
theorem dX4_share_71 : decode cX4_share 71 = .ok (.invokevirtual 199, 3) := by decide +kernel
theorem dX4_share_74 : decode cX4_share 74 = .ok (.aload_n 0, 1) := by decide +kernel
theorem dX4_share_75 : decode cX4_share 75 = .ok (.iload 4, 2) := by decide +kernel
theorem dX4_share_77 : decode cX4_share 77 = .ok (.invokevirtual 199, 3) := by decide +kernel
theorem dX4_share_80 : decode cX4_share 80 = .ok (.isub, 1) := by decide +kernel
theorem dX4_share_81 : decode cX4_share 81 = .ok (.imul, 1) := by decide +kernel
theorem dX4_share_82 : decode cX4_share 82 = .ok (.iadd, 1) := by decide +kernel
theorem dX4_share_83 : decode cX4_share 83 = .ok (.istore_n 3, 1) := by decide +kernel
theorem dX4_share_84 : decode cX4_share 84 = .ok (.iinc 4 1, 3) := by decide +kernel
theorem dX4_share_87 : decode cX4_share 87 = .ok (.goto (-72), 3) := by decide +kernel
theorem dX4_share_90 : decode cX4_share 90 = .ok (.iload_n 3, 1) := by decide +kernel
theorem dX4_share_91 : decode cX4_share 91 = .ok (.i2l, 1) := by decide +kernel
theorem dX4_share_92 : decode cX4_share 92 = .ok (.aload_n 0, 1) := by decide +kernel
theorem dX4_share_93 : decode cX4_share 93 = .ok (.getfield 50, 3) := by decide +kernel
theorem dX4_share_96 : decode cX4_share 96 = .ok (.invokestatic 196, 3) := by decide +kernel
theorem dX4_share_99 : decode cX4_share 99 = .ok (.i2l, 1) := by decide +kernel
theorem dX4_share_100 : decode cX4_share 100 = .ok (.invokestatic 202, 3) := by decide +kernel
theorem dX4_share_103 : decode cX4_share 103 = .ok (.lstore 4, 2) := by decide +kernel
theorem dX4_share_105 : decode cX4_share 105 = .ok (.iload_n 2, 1) := by decide +kernel
theorem dX4_share_106 : decode cX4_share 106 = .ok (.ifCond .eq 7, 3) := by decide +kernel
theorem dX4_share_109 : decode cX4_share 109 = .ok (.iload_n 3, 1) := by decide +kernel
theorem dX4_share_110 : decode cX4_share 110 = .ok (.goto 10, 3) := by decide +kernel
theorem dX4_share_113 : decode cX4_share 113 = .ok (.aload_n 0, 1) := by decide +kernel
theorem dX4_share_114 : decode cX4_share 114 = .ok (.getfield 50, 3) := by decide +kernel
theorem dX4_share_117 : decode cX4_share 117 = .ok (.invokestatic 196, 3) := by decide +kernel
theorem dX4_share_120 : decode cX4_share 120 = .ok (.i2l, 1) := by decide +kernel
theorem dX4_share_121 : decode cX4_share 121 = .ok (.lload 4, 2) := by decide +kernel
theorem dX4_share_123 : decode cX4_share 123 = .ok (.ldiv, 1) := by decide +kernel
theorem dX4_share_124 : decode cX4_share 124 = .ok (.l2i, 1) := by decide +kernel
theorem dX4_share_125 : decode cX4_share 125 = .ok (.ireturn, 1) := by decide +kernel
theorem dX4_gain_0 : decode cX4_gain 0 = .ok (.iload_n 3, 1) := by decide +kernel
theorem dX4_gain_1 : decode cX4_gain 1 = .ok (.ifCond .ne 7, 3) := by decide +kernel
theorem dX4_gain_4 : decode cX4_gain 4 = .ok (.iconst 0, 1) := by decide +kernel
theorem dX4_gain_5 : decode cX4_gain 5 = .ok (.goto 26, 3) := by decide +kernel
theorem dX4_gain_8 : decode cX4_gain 8 = .ok (.aload_n 0, 1) := by decide +kernel
theorem dX4_gain_9 : decode cX4_gain 9 = .ok (.iconst 0, 1) := by decide +kernel
theorem dX4_gain_10 : decode cX4_gain 10 = .ok (.iload_n 2, 1) := by decide +kernel
theorem dX4_gain_11 : decode cX4_gain 11 = .ok (.invokevirtual 112, 3) := by decide +kernel
theorem dX4_gain_14 : decode cX4_gain 14 = .ok (.aload_n 0, 1) := by decide +kernel
theorem dX4_gain_15 : decode cX4_gain 15 = .ok (.getfield 16, 3) := by decide +kernel
theorem dX4_gain_18 : decode cX4_gain 18 = .ok (.bipush 20, 2) := by decide +kernel
theorem dX4_gain_20 : decode cX4_gain 20 = .ok (.iload_n 1, 1) := by decide +kernel
theorem dX4_gain_21 : decode cX4_gain 21 = .ok (.iadd, 1) := by decide +kernel
theorem dX4_gain_22 : decode cX4_gain 22 = .ok (.iaload, 1) := by decide +kernel
theorem dX4_gain_23 : decode cX4_gain 23 = .ok (.iconst 3, 1) := by decide +kernel
theorem dX4_gain_24 : decode cX4_gain 24 = .ok (.idiv, 1) := by decide +kernel
theorem dX4_gain_25 : decode cX4_gain 25 = .ok (.isub, 1) := by decide +kernel
theorem dX4_gain_26 : decode cX4_gain 26 = .ok (.iconst 3, 1) := by decide +kernel
theorem dX4_gain_27 : decode cX4_gain 27 = .ok (.iload 4, 2) := by decide +kernel
theorem dX4_gain_29 : decode cX4_gain 29 = .ok (.imul, 1) := by decide +kernel
theorem dX4_gain_30 : decode cX4_gain 30 = .ok (.isub, 1) := by decide +kernel
theorem dX4_gain_31 : decode cX4_gain 31 = .ok (.ireturn, 1) := by decide +kernel
theorem dX4_isRest_0 : decode cX4_isRest 0 = .ok (.aload_n 0, 1) := by decide +kernel
theorem dX4_isRest_1 : decode cX4_isRest 1 = .ok (.iload_n 1, 1) := by decide +kernel
theorem dX4_isRest_2 : decode cX4_isRest 2 = .ok (.iload_n 3, 1) := by decide +kernel
theorem dX4_isRest_3 : decode cX4_isRest 3 = .ok (.iconst 1, 1) := by decide +kernel
theorem dX4_isRest_4 : decode cX4_isRest 4 = .ok (.iload 4, 2) := by decide +kernel
theorem dX4_isRest_6 : decode cX4_isRest 6 = .ok (.isub, 1) := by decide +kernel
theorem dX4_isRest_7 : decode cX4_isRest 7 = .ok (.iload 5, 2) := by decide +kernel
theorem dX4_isRest_9 : decode cX4_isRest 9 = .ok (.invokevirtual 206, 3) := by decide +kernel
theorem dX4_isRest_12 : decode cX4_isRest 12 = .ok (.aload_n 0, 1) := by decide +kernel
theorem dX4_isRest_13 : decode cX4_isRest 13 = .ok (.iload_n 1, 1) := by decide +kernel
theorem dX4_isRest_14 : decode cX4_isRest 14 = .ok (.iload_n 3, 1) := by decide +kernel
theorem dX4_isRest_15 : decode cX4_isRest 15 = .ok (.iload 4, 2) := by decide +kernel
theorem dX4_isRest_17 : decode cX4_isRest 17 = .ok (.iload 5, 2) := by decide +kernel
theorem dX4_isRest_19 : decode cX4_isRest 19 = .ok (.invokevirtual 206, 3) := by decide +kernel
theorem dX4_isRest_22 : decode cX4_isRest 22 = .ok (.if_icmp .gt 32, 3) := by decide +kernel
theorem dX4_isRest_25 : decode cX4_isRest 25 = .ok (.aload_n 0, 1) := by decide +kernel
theorem dX4_isRest_26 : decode cX4_isRest 26 = .ok (.iload_n 2, 1) := by decide +kernel
theorem dX4_isRest_27 : decode cX4_isRest 27 = .ok (.iload_n 3, 1) := by decide +kernel
theorem dX4_isRest_28 : decode cX4_isRest 28 = .ok (.iconst 1, 1) := by decide +kernel
theorem dX4_isRest_29 : decode cX4_isRest 29 = .ok (.iload 5, 2) := by decide +kernel
theorem dX4_isRest_31 : decode cX4_isRest 31 = .ok (.isub, 1) := by decide +kernel
theorem dX4_isRest_32 : decode cX4_isRest 32 = .ok (.iload 4, 2) := by decide +kernel
theorem dX4_isRest_34 : decode cX4_isRest 34 = .ok (.invokevirtual 206, 3) := by decide +kernel
theorem dX4_isRest_37 : decode cX4_isRest 37 = .ok (.aload_n 0, 1) := by decide +kernel
theorem dX4_isRest_38 : decode cX4_isRest 38 = .ok (.iload_n 2, 1) := by decide +kernel
theorem dX4_isRest_39 : decode cX4_isRest 39 = .ok (.iload_n 3, 1) := by decide +kernel
theorem dX4_isRest_40 : decode cX4_isRest 40 = .ok (.iload 5, 2) := by decide +kernel
theorem dX4_isRest_42 : decode cX4_isRest 42 = .ok (.iload 4, 2) := by decide +kernel
theorem dX4_isRest_44 : decode cX4_isRest 44 = .ok (.invokevirtual 206, 3) := by decide +kernel
theorem dX4_isRest_47 : decode cX4_isRest 47 = .ok (.if_icmp .gt 7, 3) := by decide +kernel
theorem dX4_isRest_50 : decode cX4_isRest 50 = .ok (.iconst 1, 1) := by decide +kernel
theorem dX4_isRest_51 : decode cX4_isRest 51 = .ok (.goto 4, 3) := by decide +kernel
theorem dX4_isRest_54 : decode cX4_isRest 54 = .ok (.iconst 0, 1) := by decide +kernel
theorem dX4_isRest_55 : decode cX4_isRest 55 = .ok (.ireturn, 1) := by decide +kernel
theorem dX4_rests_0 : decode cX4_rests 0 = .ok (.aload_n 0, 1) := by decide +kernel
theorem dX4_rests_1 : decode cX4_rests 1 = .ok (.iload_n 1, 1) := by decide +kernel
theorem dX4_rests_2 : decode cX4_rests 2 = .ok (.invokevirtual 132, 3) := by decide +kernel
theorem dX4_rests_5 : decode cX4_rests 5 = .ok (.ifCond .eq 19, 3) := by decide +kernel
theorem dX4_rests_8 : decode cX4_rests 8 = .ok (.aload_n 0, 1) := by decide +kernel
theorem dX4_rests_9 : decode cX4_rests 9 = .ok (.iload_n 2, 1) := by decide +kernel
theorem dX4_rests_10 : decode cX4_rests 10 = .ok (.invokevirtual 132, 3) := by decide +kernel
theorem dX4_rests_13 : decode cX4_rests 13 = .ok (.ifCond .eq 11, 3) := by decide +kernel
theorem dX4_rests_16 : decode cX4_rests 16 = .ok (.aload_n 0, 1) := by decide +kernel
theorem dX4_rests_17 : decode cX4_rests 17 = .ok (.iload_n 3, 1) := by decide +kernel
theorem dX4_rests_18 : decode cX4_rests 18 = .ok (.invokevirtual 128, 3) := by decide +kernel
theorem dX4_rests_21 : decode cX4_rests 21 = .ok (.ifCond .ne 5, 3) := by decide +kernel
theorem dX4_rests_24 : decode cX4_rests 24 = .ok (.iconst (-1), 1) := by decide +kernel
theorem dX4_rests_25 : decode cX4_rests 25 = .ok (.ireturn, 1) := by decide +kernel
theorem dX4_rests_26 : decode cX4_rests 26 = .ok (.iload_n 1, 1) := by decide +kernel
theorem dX4_rests_27 : decode cX4_rests 27 = .ok (.iload_n 2, 1) := by decide +kernel
theorem dX4_rests_28 : decode cX4_rests 28 = .ok (.if_icmp .eq 14, 3) := by decide +kernel
theorem dX4_rests_31 : decode cX4_rests 31 = .ok (.iload 4, 2) := by decide +kernel
theorem dX4_rests_33 : decode cX4_rests 33 = .ok (.i2l, 1) := by decide +kernel
theorem dX4_rests_34 : decode cX4_rests 34 = .ok (.lconst 0, 1) := by decide +kernel
theorem dX4_rests_35 : decode cX4_rests 35 = .ok (.lconst 1, 1) := by decide +kernel
theorem dX4_rests_36 : decode cX4_rests 36 = .ok (.invokestatic 56, 3) := by decide +kernel
theorem dX4_rests_39 : decode cX4_rests 39 = .ok (.ifCond .ne 6, 3) := by decide +kernel
theorem dX4_rests_42 : decode cX4_rests 42 = .ok (.bipush (-2), 2) := by decide +kernel
theorem dX4_rests_44 : decode cX4_rests 44 = .ok (.ireturn, 1) := by decide +kernel
theorem dX4_rests_45 : decode cX4_rests 45 = .ok (.aload_n 0, 1) := by decide +kernel
theorem dX4_rests_46 : decode cX4_rests 46 = .ok (.getfield 16, 3) := by decide +kernel
theorem dX4_rests_49 : decode cX4_rests 49 = .ok (.bipush 24, 2) := by decide +kernel
theorem dX4_rests_51 : decode cX4_rests 51 = .ok (.iload_n 1, 1) := by decide +kernel
theorem dX4_rests_52 : decode cX4_rests 52 = .ok (.iadd, 1) := by decide +kernel
theorem dX4_rests_53 : decode cX4_rests 53 = .ok (.iaload, 1) := by decide +kernel
theorem dX4_rests_54 : decode cX4_rests 54 = .ok (.ifCond .ne 15, 3) := by decide +kernel
theorem dX4_rests_57 : decode cX4_rests 57 = .ok (.aload_n 0, 1) := by decide +kernel
theorem dX4_rests_58 : decode cX4_rests 58 = .ok (.getfield 16, 3) := by decide +kernel
theorem dX4_rests_61 : decode cX4_rests 61 = .ok (.bipush 24, 2) := by decide +kernel
theorem dX4_rests_63 : decode cX4_rests 63 = .ok (.iload_n 2, 1) := by decide +kernel
theorem dX4_rests_64 : decode cX4_rests 64 = .ok (.iadd, 1) := by decide +kernel
theorem dX4_rests_65 : decode cX4_rests 65 = .ok (.iaload, 1) := by decide +kernel
theorem dX4_rests_66 : decode cX4_rests 66 = .ok (.ifCond .eq 6, 3) := by decide +kernel
theorem dX4_rests_69 : decode cX4_rests 69 = .ok (.bipush (-3), 2) := by decide +kernel
theorem dX4_rests_71 : decode cX4_rests 71 = .ok (.ireturn, 1) := by decide +kernel
theorem dX4_rests_72 : decode cX4_rests 72 = .ok (.iconst 0, 1) := by decide +kernel
theorem dX4_rests_73 : decode cX4_rests 73 = .ok (.istore 5, 2) := by decide +kernel
theorem dX4_rests_75 : decode cX4_rests 75 = .ok (.bipush (-9), 2) := by decide +kernel
theorem dX4_rests_77 : decode cX4_rests 77 = .ok (.istore 6, 2) := by decide +kernel
theorem dX4_rests_79 : decode cX4_rests 79 = .ok (.iconst 0, 1) := by decide +kernel
theorem dX4_rests_80 : decode cX4_rests 80 = .ok (.istore 7, 2) := by decide +kernel
theorem dX4_rests_82 : decode cX4_rests 82 = .ok (.iload 7, 2) := by decide +kernel
theorem dX4_rests_84 : decode cX4_rests 84 = .ok (.iconst 4, 1) := by decide +kernel
theorem dX4_rests_85 : decode cX4_rests 85 = .ok (.if_icmp .ge 54, 3) := by decide +kernel
theorem dX4_rests_88 : decode cX4_rests 88 = .ok (.aload_n 0, 1) := by decide +kernel
theorem dX4_rests_89 : decode cX4_rests 89 = .ok (.iload_n 1, 1) := by decide +kernel
theorem dX4_rests_90 : decode cX4_rests 90 = .ok (.iload_n 2, 1) := by decide +kernel
theorem dX4_rests_91 : decode cX4_rests 91 = .ok (.iload_n 3, 1) := by decide +kernel
theorem dX4_rests_92 : decode cX4_rests 92 = .ok (.iload 7, 2) := by decide +kernel
theorem dX4_rests_94 : decode cX4_rests 94 = .ok (.iconst 2, 1) := by decide +kernel
theorem dX4_rests_95 : decode cX4_rests 95 = .ok (.idiv, 1) := by decide +kernel
theorem dX4_rests_96 : decode cX4_rests 96 = .ok (.iload 7, 2) := by decide +kernel
theorem dX4_rests_98 : decode cX4_rests 98 = .ok (.iconst 2, 1) := by decide +kernel
theorem dX4_rests_99 : decode cX4_rests 99 = .ok (.irem, 1) := by decide +kernel
theorem dX4_rests_100 : decode cX4_rests 100 = .ok (.invokevirtual 210, 3) := by decide +kernel
theorem dX4_rests_103 : decode cX4_rests 103 = .ok (.ifCond .eq 30, 3) := by decide +kernel
theorem dX4_rests_106 : decode cX4_rests 106 = .ok (.iload 5, 2) := by decide +kernel
theorem dX4_rests_108 : decode cX4_rests 108 = .ok (.ifCond .ne 18, 3) := by decide +kernel
theorem dX4_rests_111 : decode cX4_rests 111 = .ok (.bipush 10, 2) := by decide +kernel
theorem dX4_rests_113 : decode cX4_rests 113 = .ok (.iload 7, 2) := by decide +kernel
theorem dX4_rests_115 : decode cX4_rests 115 = .ok (.iconst 2, 1) := by decide +kernel
theorem dX4_rests_116 : decode cX4_rests 116 = .ok (.idiv, 1) := by decide +kernel
theorem dX4_rests_117 : decode cX4_rests 117 = .ok (.imul, 1) := by decide +kernel
theorem dX4_rests_118 : decode cX4_rests 118 = .ok (.iload 7, 2) := by decide +kernel
theorem dX4_rests_120 : decode cX4_rests 120 = .ok (.iconst 2, 1) := by decide +kernel
theorem dX4_rests_121 : decode cX4_rests 121 = .ok (.irem, 1) := by decide +kernel
theorem dX4_rests_122 : decode cX4_rests 122 = .ok (.iadd, 1) := by decide +kernel
theorem dX4_rests_123 : decode cX4_rests 123 = .ok (.goto 5, 3) := by decide +kernel
theorem dX4_rests_126 : decode cX4_rests 126 = .ok (.iload 6, 2) := by decide +kernel
theorem dX4_rests_128 : decode cX4_rests 128 = .ok (.istore 6, 2) := by decide +kernel
theorem dX4_rests_130 : decode cX4_rests 130 = .ok (.iinc 5 1, 3) := by decide +kernel
theorem dX4_rests_133 : decode cX4_rests 133 = .ok (.iinc 7 1, 3) := by decide +kernel
theorem dX4_rests_136 : decode cX4_rests 136 = .ok (.goto (-54), 3) := by decide +kernel
theorem dX4_rests_139 : decode cX4_rests 139 = .ok (.iload 4, 2) := by decide +kernel
theorem dX4_rests_141 : decode cX4_rests 141 = .ok (.ifCond .ne 8, 3) := by decide +kernel
theorem dX4_rests_144 : decode cX4_rests 144 = .ok (.iload 5, 2) := by decide +kernel
theorem dX4_rests_146 : decode cX4_rests 146 = .ok (.goto 5, 3) := by decide +kernel
theorem dX4_rests_149 : decode cX4_rests 149 = .ok (.iload 6, 2) := by decide +kernel
theorem dX4_rests_151 : decode cX4_rests 151 = .ok (.ireturn, 1) := by decide +kernel
theorem dX4_born_0 : decode cX4_born 0 = .ok (.iload_n 1, 1) := by decide +kernel
theorem dX4_born_1 : decode cX4_born 1 = .ok (.i2l, 1) := by decide +kernel
theorem dX4_born_2 : decode cX4_born 2 = .ok (.lconst 0, 1) := by decide +kernel
theorem dX4_born_3 : decode cX4_born 3 = .ok (.ldc2_w 69, 3) := by decide +kernel
theorem dX4_born_6 : decode cX4_born 6 = .ok (.invokestatic 56, 3) := by decide +kernel
theorem dX4_born_9 : decode cX4_born 9 = .ok (.ifCond .eq 15, 3) := by decide +kernel
theorem dX4_born_12 : decode cX4_born 12 = .ok (.iload_n 2, 1) := by decide +kernel
theorem dX4_born_13 : decode cX4_born 13 = .ok (.i2l, 1) := by decide +kernel
theorem dX4_born_14 : decode cX4_born 14 = .ok (.lconst 0, 1) := by decide +kernel
theorem dX4_born_15 : decode cX4_born 15 = .ok (.ldc2_w 178, 3) := by decide +kernel
theorem dX4_born_18 : decode cX4_born 18 = .ok (.invokestatic 56, 3) := by decide +kernel
theorem dX4_born_21 : decode cX4_born 21 = .ok (.ifCond .ne 6, 3) := by decide +kernel
theorem dX4_born_24 : decode cX4_born 24 = .ok (.bipush (-2), 2) := by decide +kernel
theorem dX4_born_26 : decode cX4_born 26 = .ok (.ireturn, 1) := by decide +kernel
theorem dX4_born_27 : decode cX4_born 27 = .ok (.aload_n 0, 1) := by decide +kernel
theorem dX4_born_28 : decode cX4_born 28 = .ok (.iconst 0, 1) := by decide +kernel
theorem dX4_born_29 : decode cX4_born 29 = .ok (.invokevirtual 115, 3) := by decide +kernel
theorem dX4_born_32 : decode cX4_born 32 = .ok (.istore 4, 2) := by decide +kernel
theorem dX4_born_34 : decode cX4_born 34 = .ok (.iconst 0, 1) := by decide +kernel
theorem dX4_born_35 : decode cX4_born 35 = .ok (.istore 5, 2) := by decide +kernel
theorem dX4_born_37 : decode cX4_born 37 = .ok (.iconst 0, 1) := by decide +kernel
theorem dX4_born_38 : decode cX4_born 38 = .ok (.istore 6, 2) := by decide +kernel
theorem dX4_born_40 : decode cX4_born 40 = .ok (.iload 6, 2) := by decide +kernel
theorem dX4_born_42 : decode cX4_born 42 = .ok (.aload_n 0, 1) := by decide +kernel
theorem dX4_born_43 : decode cX4_born 43 = .ok (.getfield 50, 3) := by decide +kernel
theorem dX4_born_46 : decode cX4_born 46 = .ok (.if_icmp .ge 51, 3) := by decide +kernel
theorem dX4_born_49 : decode cX4_born 49 = .ok (.iload 5, 2) := by decide +kernel
theorem dX4_born_51 : decode cX4_born 51 = .ok (.iload 4, 2) := by decide +kernel
theorem dX4_born_53 : decode cX4_born 53 = .ok (.iload 6, 2) := by decide +kernel
theorem dX4_born_55 : decode cX4_born 55 = .ok (.invokestatic 71, 3) := by decide +kernel
theorem dX4_born_58 : decode cX4_born 58 = .ok (.ifCond .eq 29, 3) := by decide +kernel
theorem dX4_born_61 : decode cX4_born 61 = .ok (.aload_n 0, 1) := by decide +kernel
theorem dX4_born_62 : decode cX4_born 62 = .ok (.getfield 16, 3) := by decide +kernel
theorem dX4_born_65 : decode cX4_born 65 = .ok (.bipush 10, 2) := by decide +kernel
theorem dX4_born_67 : decode cX4_born 67 = .ok (.iload 6, 2) := by decide +kernel
theorem dX4_born_69 : decode cX4_born 69 = .ok (.iadd, 1) := by decide +kernel
theorem dX4_born_70 : decode cX4_born 70 = .ok (.iaload, 1) := by decide +kernel
theorem dX4_born_71 : decode cX4_born 71 = .ok (.iload 4, 2) := by decide +kernel
theorem dX4_born_73 : decode cX4_born 73 = .ok (.iand, 1) := by decide +kernel
theorem dX4_born_74 : decode cX4_born 74 = .ok (.iconst 1, 1) := by decide +kernel
theorem dX4_born_75 : decode cX4_born 75 = .ok (.iload 6, 2) := by decide +kernel
theorem dX4_born_77 : decode cX4_born 77 = .ok (.ishl, 1) := by decide +kernel
theorem dX4_born_78 : decode cX4_born 78 = .ok (.iconst 1, 1) := by decide +kernel
theorem dX4_born_79 : decode cX4_born 79 = .ok (.isub, 1) := by decide +kernel
theorem dX4_born_80 : decode cX4_born 80 = .ok (.iand, 1) := by decide +kernel
theorem dX4_born_81 : decode cX4_born 81 = .ok (.invokestatic 147, 3) := by decide +kernel
theorem dX4_born_84 : decode cX4_born 84 = .ok (.goto 4, 3) := by decide +kernel
theorem dX4_born_87 : decode cX4_born 87 = .ok (.iconst 0, 1) := by decide +kernel
theorem dX4_born_88 : decode cX4_born 88 = .ok (.iadd, 1) := by decide +kernel
theorem dX4_born_89 : decode cX4_born 89 = .ok (.istore 5, 2) := by decide +kernel
theorem dX4_born_91 : decode cX4_born 91 = .ok (.iinc 6 1, 3) := by decide +kernel
theorem dX4_born_94 : decode cX4_born 94 = .ok (.goto (-54), 3) := by decide +kernel
theorem dX4_born_97 : decode cX4_born 97 = .ok (.iload_n 1, 1) := by decide +kernel
theorem dX4_born_98 : decode cX4_born 98 = .ok (.iload 5, 2) := by decide +kernel
theorem dX4_born_100 : decode cX4_born 100 = .ok (.if_icmp .le 7, 3) := by decide +kernel
theorem dX4_born_103 : decode cX4_born 103 = .ok (.lconst 0, 1) := by decide +kernel
theorem dX4_born_104 : decode cX4_born 104 = .ok (.goto 4, 3) := by decide +kernel
theorem dX4_born_107 : decode cX4_born 107 = .ok (.lconst 1, 1) := by decide +kernel
theorem dX4_born_108 : decode cX4_born 108 = .ok (.lstore 6, 2) := by decide +kernel
theorem dX4_born_110 : decode cX4_born 110 = .ok (.iconst 0, 1) := by decide +kernel
theorem dX4_born_111 : decode cX4_born 111 = .ok (.istore 8, 2) := by decide +kernel
theorem dX4_born_113 : decode cX4_born 113 = .ok (.iload 8, 2) := by decide +kernel
theorem dX4_born_115 : decode cX4_born 115 = .ok (.iload_n 1, 1) := by decide +kernel
theorem dX4_born_116 : decode cX4_born 116 = .ok (.if_icmp .ge 32, 3) := by decide +kernel
theorem dX4_born_119 : decode cX4_born 119 = .ok (.iload_n 1, 1) := by decide +kernel
theorem dX4_born_120 : decode cX4_born 120 = .ok (.iload 5, 2) := by decide +kernel
theorem dX4_born_122 : decode cX4_born 122 = .ok (.if_icmp .gt 26, 3) := by decide +kernel
theorem dX4_born_125 : decode cX4_born 125 = .ok (.lload 6, 2) := by decide +kernel
theorem dX4_born_127 : decode cX4_born 127 = .ok (.iload 5, 2) := by decide +kernel
theorem dX4_born_129 : decode cX4_born 129 = .ok (.iload 8, 2) := by decide +kernel
theorem dX4_born_131 : decode cX4_born 131 = .ok (.isub, 1) := by decide +kernel
theorem dX4_born_132 : decode cX4_born 132 = .ok (.i2l, 1) := by decide +kernel
theorem dX4_born_133 : decode cX4_born 133 = .ok (.lmul, 1) := by decide +kernel
theorem dX4_born_134 : decode cX4_born 134 = .ok (.iload 8, 2) := by decide +kernel
theorem dX4_born_136 : decode cX4_born 136 = .ok (.iconst 1, 1) := by decide +kernel
theorem dX4_born_137 : decode cX4_born 137 = .ok (.iadd, 1) := by decide +kernel
theorem dX4_born_138 : decode cX4_born 138 = .ok (.i2l, 1) := by decide +kernel
theorem dX4_born_139 : decode cX4_born 139 = .ok (.ldiv, 1) := by decide +kernel
theorem dX4_born_140 : decode cX4_born 140 = .ok (.lstore 6, 2) := by decide +kernel
theorem dX4_born_142 : decode cX4_born 142 = .ok (.iinc 8 1, 3) := by decide +kernel
theorem dX4_born_145 : decode cX4_born 145 = .ok (.goto (-32), 3) := by decide +kernel
theorem dX4_born_148 : decode cX4_born 148 = .ok (.iconst 0, 1) := by decide +kernel
theorem dX4_born_149 : decode cX4_born 149 = .ok (.istore 8, 2) := by decide +kernel
theorem dX4_born_151 : decode cX4_born 151 = .ok (.iload 8, 2) := by decide +kernel
theorem dX4_born_153 : decode cX4_born 153 = .ok (.iload 5, 2) := by decide +kernel
theorem dX4_born_155 : decode cX4_born 155 = .ok (.if_icmp .ge 30, 3) := by decide +kernel
theorem dX4_born_158 : decode cX4_born 158 = .ok (.lload 6, 2) := by decide +kernel
theorem dX4_born_160 : decode cX4_born 160 = .ok (.iload 8, 2) := by decide +kernel
theorem dX4_born_162 : decode cX4_born 162 = .ok (.iload_n 1, 1) := by decide +kernel
theorem dX4_born_163 : decode cX4_born 163 = .ok (.if_icmp .ge 8, 3) := by decide +kernel
theorem dX4_born_166 : decode cX4_born 166 = .ok (.iload_n 2, 1) := by decide +kernel
theorem dX4_born_167 : decode cX4_born 167 = .ok (.i2l, 1) := by decide +kernel
theorem dX4_born_168 : decode cX4_born 168 = .ok (.goto 8, 3) := by decide +kernel
theorem dX4_born_171 : decode cX4_born 171 = .ok (.bipush 10, 2) := by decide +kernel
theorem dX4_born_173 : decode cX4_born 173 = .ok (.iload_n 2, 1) := by decide +kernel
theorem dX4_born_174 : decode cX4_born 174 = .ok (.isub, 1) := by decide +kernel
theorem dX4_born_175 : decode cX4_born 175 = .ok (.i2l, 1) := by decide +kernel
theorem dX4_born_176 : decode cX4_born 176 = .ok (.lmul, 1) := by decide +kernel
theorem dX4_born_177 : decode cX4_born 177 = .ok (.lstore 6, 2) := by decide +kernel
theorem dX4_born_179 : decode cX4_born 179 = .ok (.iinc 8 1, 3) := by decide +kernel
theorem dX4_born_182 : decode cX4_born 182 = .ok (.goto (-31), 3) := by decide +kernel
theorem dX4_born_185 : decode cX4_born 185 = .ok (.lload 6, 2) := by decide +kernel
theorem dX4_born_187 : decode cX4_born 187 = .ok (.iload 5, 2) := by decide +kernel
theorem dX4_born_189 : decode cX4_born 189 = .ok (.invokestatic 182, 3) := by decide +kernel
theorem dX4_born_192 : decode cX4_born 192 = .ok (.invokestatic 202, 3) := by decide +kernel
theorem dX4_born_195 : decode cX4_born 195 = .ok (.lstore 8, 2) := by decide +kernel
theorem dX4_born_197 : decode cX4_born 197 = .ok (.iload_n 3, 1) := by decide +kernel
theorem dX4_born_198 : decode cX4_born 198 = .ok (.ifCond .eq 8, 3) := by decide +kernel
theorem dX4_born_201 : decode cX4_born 201 = .ok (.lload 6, 2) := by decide +kernel
theorem dX4_born_203 : decode cX4_born 203 = .ok (.goto 8, 3) := by decide +kernel
theorem dX4_born_206 : decode cX4_born 206 = .ok (.iload 5, 2) := by decide +kernel
theorem dX4_born_208 : decode cX4_born 208 = .ok (.invokestatic 182, 3) := by decide +kernel
theorem dX4_born_211 : decode cX4_born 211 = .ok (.lload 8, 2) := by decide +kernel
theorem dX4_born_213 : decode cX4_born 213 = .ok (.ldiv, 1) := by decide +kernel
theorem dX4_born_214 : decode cX4_born 214 = .ok (.l2i, 1) := by decide +kernel
theorem dX4_born_215 : decode cX4_born 215 = .ok (.ireturn, 1) := by decide +kernel
theorem dX4_seed_0 : decode cX4_seed 0 = .ok (.aload_n 0, 1) := by decide +kernel
theorem dX4_seed_1 : decode cX4_seed 1 = .ok (.getfield 214, 3) := by decide +kernel
theorem dX4_seed_4 : decode cX4_seed 4 = .ok (.lstore_n 3, 1) := by decide +kernel
theorem dX4_seed_5 : decode cX4_seed 5 = .ok (.aload_n 0, 1) := by decide +kernel
theorem dX4_seed_6 : decode cX4_seed 6 = .ok (.lload_n 1, 1) := by decide +kernel
theorem dX4_seed_7 : decode cX4_seed 7 = .ok (.putfield 214, 3) := by decide +kernel
theorem dX4_seed_10 : decode cX4_seed 10 = .ok (.lload_n 3, 1) := by decide +kernel
theorem dX4_seed_11 : decode cX4_seed 11 = .ok (.lreturn, 1) := by decide +kernel
theorem dX4_years_0 : decode cX4_years 0 = .ok (.iload_n 1, 1) := by decide +kernel
theorem dX4_years_1 : decode cX4_years 1 = .ok (.i2l, 1) := by decide +kernel
theorem dX4_years_2 : decode cX4_years 2 = .ok (.lconst 1, 1) := by decide +kernel
theorem dX4_years_3 : decode cX4_years 3 = .ok (.ldc2_w 218, 3) := by decide +kernel
theorem dX4_years_6 : decode cX4_years 6 = .ok (.invokestatic 56, 3) := by decide +kernel
theorem dX4_years_9 : decode cX4_years 9 = .ok (.ifCond .ne 6, 3) := by decide +kernel
theorem dX4_years_12 : decode cX4_years 12 = .ok (.bipush (-2), 2) := by decide +kernel
theorem dX4_years_14 : decode cX4_years 14 = .ok (.ireturn, 1) := by decide +kernel
theorem dX4_years_15 : decode cX4_years 15 = .ok (.aload_n 0, 1) := by decide +kernel
theorem dX4_years_16 : decode cX4_years 16 = .ok (.invokevirtual 169, 3) := by decide +kernel
theorem dX4_years_19 : decode cX4_years 19 = .ok (.iconst 0, 1) := by decide +kernel
theorem dX4_years_20 : decode cX4_years 20 = .ok (.istore_n 2, 1) := by decide +kernel
theorem dX4_years_21 : decode cX4_years 21 = .ok (.iconst 0, 1) := by decide +kernel
theorem dX4_years_22 : decode cX4_years 22 = .ok (.istore_n 3, 1) := by decide +kernel
theorem dX4_years_23 : decode cX4_years 23 = .ok (.iload_n 3, 1) := by decide +kernel
theorem dX4_years_24 : decode cX4_years 24 = .ok (.iload_n 1, 1) := by decide +kernel
theorem dX4_years_25 : decode cX4_years 25 = .ok (.if_icmp .ge 102, 3) := by decide +kernel
theorem dX4_years_28 : decode cX4_years 28 = .ok (.aload_n 0, 1) := by decide +kernel
theorem dX4_years_29 : decode cX4_years 29 = .ok (.aload_n 0, 1) := by decide +kernel
theorem dX4_years_30 : decode cX4_years 30 = .ok (.getfield 214, 3) := by decide +kernel
theorem dX4_years_33 : decode cX4_years 33 = .ok (.ldc2_w 220, 3) := by decide +kernel
theorem dX4_years_36 : decode cX4_years 36 = .ok (.lmul, 1) := by decide +kernel
theorem dX4_years_37 : decode cX4_years 37 = .ok (.ldc2_w 222, 3) := by decide +kernel
theorem dX4_years_40 : decode cX4_years 40 = .ok (.ladd, 1) := by decide +kernel
theorem dX4_years_41 : decode cX4_years 41 = .ok (.putfield 214, 3) := by decide +kernel
theorem dX4_years_44 : decode cX4_years 44 = .ok (.aload_n 0, 1) := by decide +kernel
theorem dX4_years_45 : decode cX4_years 45 = .ok (.getfield 214, 3) := by decide +kernel
theorem dX4_years_48 : decode cX4_years 48 = .ok (.bipush 33, 2) := by decide +kernel
theorem dX4_years_50 : decode cX4_years 50 = .ok (.lushr, 1) := by decide +kernel
theorem dX4_years_51 : decode cX4_years 51 = .ok (.ldc2_w 178, 3) := by decide +kernel
theorem dX4_years_54 : decode cX4_years 54 = .ok (.lrem, 1) := by decide +kernel
theorem dX4_years_55 : decode cX4_years 55 = .ok (.l2i, 1) := by decide +kernel
theorem dX4_years_56 : decode cX4_years 56 = .ok (.istore 4, 2) := by decide +kernel
theorem dX4_years_58 : decode cX4_years 58 = .ok (.iload 4, 2) := by decide +kernel
theorem dX4_years_60 : decode cX4_years 60 = .ok (.istore 5, 2) := by decide +kernel
theorem dX4_years_62 : decode cX4_years 62 = .ok (.iload 5, 2) := by decide +kernel
theorem dX4_years_64 : decode cX4_years 64 = .ok (.ifCond .le 46, 3) := by decide +kernel
theorem dX4_years_67 : decode cX4_years 67 = .ok (.aload_n 0, 1) := by decide +kernel
theorem dX4_years_68 : decode cX4_years 68 = .ok (.getfield 16, 3) := by decide +kernel
theorem dX4_years_71 : decode cX4_years 71 = .ok (.bipush 58, 2) := by decide +kernel
theorem dX4_years_73 : decode cX4_years 73 = .ok (.iload 5, 2) := by decide +kernel
theorem dX4_years_75 : decode cX4_years 75 = .ok (.iconst 1, 1) := by decide +kernel
theorem dX4_years_76 : decode cX4_years 76 = .ok (.if_icmp .ne 15, 3) := by decide +kernel
theorem dX4_years_79 : decode cX4_years 79 = .ok (.iload 4, 2) := by decide +kernel
theorem dX4_years_81 : decode cX4_years 81 = .ok (.iconst 2, 1) := by decide +kernel
theorem dX4_years_82 : decode cX4_years 82 = .ok (.irem, 1) := by decide +kernel
theorem dX4_years_83 : decode cX4_years 83 = .ok (.iconst 1, 1) := by decide +kernel
theorem dX4_years_84 : decode cX4_years 84 = .ok (.if_icmp .ne 7, 3) := by decide +kernel
theorem dX4_years_87 : decode cX4_years 87 = .ok (.iconst 1, 1) := by decide +kernel
theorem dX4_years_88 : decode cX4_years 88 = .ok (.goto 10, 3) := by decide +kernel
theorem dX4_years_91 : decode cX4_years 91 = .ok (.aload_n 0, 1) := by decide +kernel
theorem dX4_years_92 : decode cX4_years 92 = .ok (.getfield 16, 3) := by decide +kernel
theorem dX4_years_95 : decode cX4_years 95 = .ok (.bipush 28, 2) := by decide +kernel
theorem dX4_years_97 : decode cX4_years 97 = .ok (.iaload, 1) := by decide +kernel
theorem dX4_years_98 : decode cX4_years 98 = .ok (.iastore, 1) := by decide +kernel
theorem dX4_years_99 : decode cX4_years 99 = .ok (.aload_n 0, 1) := by decide +kernel
theorem dX4_years_100 : decode cX4_years 100 = .ok (.iconst 1, 1) := by decide +kernel
theorem dX4_years_101 : decode cX4_years 101 = .ok (.invokevirtual 144, 3) := by decide +kernel
theorem dX4_years_104 : decode cX4_years 104 = .ok (.iinc 5 (-1), 3) := by decide +kernel
theorem dX4_years_107 : decode cX4_years 107 = .ok (.goto (-45), 3) := by decide +kernel
theorem dX4_years_110 : decode cX4_years 110 = .ok (.iload_n 2, 1) := by decide +kernel
theorem dX4_years_111 : decode cX4_years 111 = .ok (.aload_n 0, 1) := by decide +kernel
theorem dX4_years_112 : decode cX4_years 112 = .ok (.iconst 1, 1) := by decide +kernel
theorem dX4_years_113 : decode cX4_years 113 = .ok (.invokevirtual 115, 3) := by decide +kernel
theorem dX4_years_116 : decode cX4_years 116 = .ok (.invokestatic 147, 3) := by decide +kernel
theorem dX4_years_119 : decode cX4_years 119 = .ok (.iadd, 1) := by decide +kernel
theorem dX4_years_120 : decode cX4_years 120 = .ok (.istore_n 2, 1) := by decide +kernel
theorem dX4_years_121 : decode cX4_years 121 = .ok (.iinc 3 1, 3) := by decide +kernel
theorem dX4_years_124 : decode cX4_years 124 = .ok (.goto (-101), 3) := by decide +kernel
theorem dX4_years_127 : decode cX4_years 127 = .ok (.iload_n 2, 1) := by decide +kernel
theorem dX4_years_128 : decode cX4_years 128 = .ok (.ireturn, 1) := by decide +kernel
theorem dX4_keep_0 : decode cX4_keep 0 = .ok (.iload_n 1, 1) := by decide +kernel
theorem dX4_keep_1 : decode cX4_keep 1 = .ok (.i2l, 1) := by decide +kernel
theorem dX4_keep_2 : decode cX4_keep 2 = .ok (.lconst 0, 1) := by decide +kernel
theorem dX4_keep_3 : decode cX4_keep 3 = .ok (.lconst 1, 1) := by decide +kernel
theorem dX4_keep_4 : decode cX4_keep 4 = .ok (.invokestatic 56, 3) := by decide +kernel
theorem dX4_keep_7 : decode cX4_keep 7 = .ok (.ifCond .ne 5, 3) := by decide +kernel
theorem dX4_keep_10 : decode cX4_keep 10 = .ok (.iconst (-1), 1) := by decide +kernel
theorem dX4_keep_11 : decode cX4_keep 11 = .ok (.ireturn, 1) := by decide +kernel
theorem dX4_keep_12 : decode cX4_keep 12 = .ok (.aload_n 0, 1) := by decide +kernel
theorem dX4_keep_13 : decode cX4_keep 13 = .ok (.getfield 43, 3) := by decide +kernel
theorem dX4_keep_16 : decode cX4_keep 16 = .ok (.iload_n 1, 1) := by decide +kernel
theorem dX4_keep_17 : decode cX4_keep 17 = .ok (.iconst 1, 1) := by decide +kernel
theorem dX4_keep_18 : decode cX4_keep 18 = .ok (.bastore, 1) := by decide +kernel
theorem dX4_keep_19 : decode cX4_keep 19 = .ok (.iconst 0, 1) := by decide +kernel
theorem dX4_keep_20 : decode cX4_keep 20 = .ok (.istore_n 2, 1) := by decide +kernel
theorem dX4_keep_21 : decode cX4_keep 21 = .ok (.iload_n 2, 1) := by decide +kernel
theorem dX4_keep_22 : decode cX4_keep 22 = .ok (.bipush 30, 2) := by decide +kernel
theorem dX4_keep_24 : decode cX4_keep 24 = .ok (.if_icmp .ge 26, 3) := by decide +kernel
theorem dX4_keep_27 : decode cX4_keep 27 = .ok (.aload_n 0, 1) := by decide +kernel
theorem dX4_keep_28 : decode cX4_keep 28 = .ok (.getfield 47, 3) := by decide +kernel
theorem dX4_keep_31 : decode cX4_keep 31 = .ok (.bipush 30, 2) := by decide +kernel
theorem dX4_keep_33 : decode cX4_keep 33 = .ok (.iload_n 1, 1) := by decide +kernel
theorem dX4_keep_34 : decode cX4_keep 34 = .ok (.imul, 1) := by decide +kernel
theorem dX4_keep_35 : decode cX4_keep 35 = .ok (.iload_n 2, 1) := by decide +kernel
theorem dX4_keep_36 : decode cX4_keep 36 = .ok (.iadd, 1) := by decide +kernel
theorem dX4_keep_37 : decode cX4_keep 37 = .ok (.aload_n 0, 1) := by decide +kernel
theorem dX4_keep_38 : decode cX4_keep 38 = .ok (.getfield 16, 3) := by decide +kernel
theorem dX4_keep_41 : decode cX4_keep 41 = .ok (.iload_n 2, 1) := by decide +kernel
theorem dX4_keep_42 : decode cX4_keep 42 = .ok (.iaload, 1) := by decide +kernel
theorem dX4_keep_43 : decode cX4_keep 43 = .ok (.iastore, 1) := by decide +kernel
theorem dX4_keep_44 : decode cX4_keep 44 = .ok (.iinc 2 1, 3) := by decide +kernel
theorem dX4_keep_47 : decode cX4_keep 47 = .ok (.goto (-26), 3) := by decide +kernel
theorem dX4_keep_50 : decode cX4_keep 50 = .ok (.aload_n 0, 1) := by decide +kernel
theorem dX4_keep_51 : decode cX4_keep 51 = .ok (.getfield 16, 3) := by decide +kernel
theorem dX4_keep_54 : decode cX4_keep 54 = .ok (.bipush 29, 2) := by decide +kernel
theorem dX4_keep_56 : decode cX4_keep 56 = .ok (.iaload, 1) := by decide +kernel
theorem dX4_keep_57 : decode cX4_keep 57 = .ok (.ireturn, 1) := by decide +kernel
theorem dX4_again_0 : decode cX4_again 0 = .ok (.iload_n 1, 1) := by decide +kernel
theorem dX4_again_1 : decode cX4_again 1 = .ok (.i2l, 1) := by decide +kernel
theorem dX4_again_2 : decode cX4_again 2 = .ok (.lconst 0, 1) := by decide +kernel
theorem dX4_again_3 : decode cX4_again 3 = .ok (.lconst 1, 1) := by decide +kernel
theorem dX4_again_4 : decode cX4_again 4 = .ok (.invokestatic 56, 3) := by decide +kernel
theorem dX4_again_7 : decode cX4_again 7 = .ok (.ifCond .ne 5, 3) := by decide +kernel
theorem dX4_again_10 : decode cX4_again 10 = .ok (.iconst (-1), 1) := by decide +kernel
theorem dX4_again_11 : decode cX4_again 11 = .ok (.ireturn, 1) := by decide +kernel
theorem dX4_again_12 : decode cX4_again 12 = .ok (.aload_n 0, 1) := by decide +kernel
theorem dX4_again_13 : decode cX4_again 13 = .ok (.getfield 43, 3) := by decide +kernel
theorem dX4_again_16 : decode cX4_again 16 = .ok (.iload_n 1, 1) := by decide +kernel
theorem dX4_again_17 : decode cX4_again 17 = .ok (.baload, 1) := by decide +kernel
theorem dX4_again_18 : decode cX4_again 18 = .ok (.ifCond .ne 6, 3) := by decide +kernel
theorem dX4_again_21 : decode cX4_again 21 = .ok (.bipush (-3), 2) := by decide +kernel
theorem dX4_again_23 : decode cX4_again 23 = .ok (.ireturn, 1) := by decide +kernel
theorem dX4_again_24 : decode cX4_again 24 = .ok (.iconst 0, 1) := by decide +kernel
theorem dX4_again_25 : decode cX4_again 25 = .ok (.istore_n 2, 1) := by decide +kernel
theorem dX4_again_26 : decode cX4_again 26 = .ok (.iload_n 2, 1) := by decide +kernel
theorem dX4_again_27 : decode cX4_again 27 = .ok (.bipush 30, 2) := by decide +kernel
theorem dX4_again_29 : decode cX4_again 29 = .ok (.if_icmp .ge 26, 3) := by decide +kernel
theorem dX4_again_32 : decode cX4_again 32 = .ok (.aload_n 0, 1) := by decide +kernel
theorem dX4_again_33 : decode cX4_again 33 = .ok (.getfield 16, 3) := by decide +kernel
theorem dX4_again_36 : decode cX4_again 36 = .ok (.iload_n 2, 1) := by decide +kernel
theorem dX4_again_37 : decode cX4_again 37 = .ok (.aload_n 0, 1) := by decide +kernel
theorem dX4_again_38 : decode cX4_again 38 = .ok (.getfield 47, 3) := by decide +kernel
theorem dX4_again_41 : decode cX4_again 41 = .ok (.bipush 30, 2) := by decide +kernel
theorem dX4_again_43 : decode cX4_again 43 = .ok (.iload_n 1, 1) := by decide +kernel
theorem dX4_again_44 : decode cX4_again 44 = .ok (.imul, 1) := by decide +kernel
theorem dX4_again_45 : decode cX4_again 45 = .ok (.iload_n 2, 1) := by decide +kernel
theorem dX4_again_46 : decode cX4_again 46 = .ok (.iadd, 1) := by decide +kernel
theorem dX4_again_47 : decode cX4_again 47 = .ok (.iaload, 1) := by decide +kernel
theorem dX4_again_48 : decode cX4_again 48 = .ok (.iastore, 1) := by decide +kernel
theorem dX4_again_49 : decode cX4_again 49 = .ok (.iinc 2 1, 3) := by decide +kernel
theorem dX4_again_52 : decode cX4_again 52 = .ok (.goto (-26), 3) := by decide +kernel
theorem dX4_again_55 : decode cX4_again 55 = .ok (.aload_n 0, 1) := by decide +kernel
theorem dX4_again_56 : decode cX4_again 56 = .ok (.iconst 0, 1) := by decide +kernel
theorem dX4_again_57 : decode cX4_again 57 = .ok (.putfield 102, 3) := by decide +kernel
theorem dX4_again_60 : decode cX4_again 60 = .ok (.aload_n 0, 1) := by decide +kernel
theorem dX4_again_61 : decode cX4_again 61 = .ok (.getfield 16, 3) := by decide +kernel
theorem dX4_again_64 : decode cX4_again 64 = .ok (.bipush 29, 2) := by decide +kernel
theorem dX4_again_66 : decode cX4_again 66 = .ok (.iaload, 1) := by decide +kernel
theorem dX4_again_67 : decode cX4_again 67 = .ok (.ireturn, 1) := by decide +kernel
theorem dX4_lettersThatAre_0 : decode cX4_lettersThatAre 0 = .ok (.iconst 0, 1) := by decide +kernel
theorem dX4_lettersThatAre_1 : decode cX4_lettersThatAre 1 = .ok (.istore_n 2, 1) := by decide +kernel
theorem dX4_lettersThatAre_2 : decode cX4_lettersThatAre 2 = .ok (.iconst 0, 1) := by decide +kernel
theorem dX4_lettersThatAre_3 : decode cX4_lettersThatAre 3 = .ok (.istore_n 3, 1) := by decide +kernel
theorem dX4_lettersThatAre_4 : decode cX4_lettersThatAre 4 = .ok (.iload_n 3, 1) := by decide +kernel
theorem dX4_lettersThatAre_5 : decode cX4_lettersThatAre 5 = .ok (.aload_n 0, 1) := by decide +kernel
theorem dX4_lettersThatAre_6 : decode cX4_lettersThatAre 6 = .ok (.getfield 99, 3) := by decide +kernel
theorem dX4_lettersThatAre_9 : decode cX4_lettersThatAre 9 = .ok (.if_icmp .ge 32, 3) := by decide +kernel
theorem dX4_lettersThatAre_12 : decode cX4_lettersThatAre 12 = .ok (.iload_n 2, 1) := by decide +kernel
theorem dX4_lettersThatAre_13 : decode cX4_lettersThatAre 13 = .ok (.aload_n 0, 1) := by decide +kernel
theorem dX4_lettersThatAre_14 : decode cX4_lettersThatAre 14 = .ok (.getfield 16, 3) := by decide +kernel
theorem dX4_lettersThatAre_17 : decode cX4_lettersThatAre 17 = .ok (.bipush 24, 2) := by decide +kernel
theorem dX4_lettersThatAre_19 : decode cX4_lettersThatAre 19 = .ok (.iload_n 3, 1) := by decide +kernel
theorem dX4_lettersThatAre_20 : decode cX4_lettersThatAre 20 = .ok (.iadd, 1) := by decide +kernel
theorem dX4_lettersThatAre_21 : decode cX4_lettersThatAre 21 = .ok (.iaload, 1) := by decide +kernel
theorem dX4_lettersThatAre_22 : decode cX4_lettersThatAre 22 = .ok (.iload_n 1, 1) := by decide +kernel
theorem dX4_lettersThatAre_23 : decode cX4_lettersThatAre 23 = .ok (.if_icmp .ne 9, 3) := by decide +kernel
theorem dX4_lettersThatAre_26 : decode cX4_lettersThatAre 26 = .ok (.iconst 1, 1) := by decide +kernel
theorem dX4_lettersThatAre_27 : decode cX4_lettersThatAre 27 = .ok (.iload_n 3, 1) := by decide +kernel
theorem dX4_lettersThatAre_28 : decode cX4_lettersThatAre 28 = .ok (.ishl, 1) := by decide +kernel
theorem dX4_lettersThatAre_29 : decode cX4_lettersThatAre 29 = .ok (.goto 4, 3) := by decide +kernel
theorem dX4_lettersThatAre_32 : decode cX4_lettersThatAre 32 = .ok (.iconst 0, 1) := by decide +kernel
theorem dX4_lettersThatAre_33 : decode cX4_lettersThatAre 33 = .ok (.ior, 1) := by decide +kernel
theorem dX4_lettersThatAre_34 : decode cX4_lettersThatAre 34 = .ok (.istore_n 2, 1) := by decide +kernel
theorem dX4_lettersThatAre_35 : decode cX4_lettersThatAre 35 = .ok (.iinc 3 1, 3) := by decide +kernel
theorem dX4_lettersThatAre_38 : decode cX4_lettersThatAre 38 = .ok (.goto (-34), 3) := by decide +kernel
theorem dX4_lettersThatAre_41 : decode cX4_lettersThatAre 41 = .ok (.iload_n 2, 1) := by decide +kernel
theorem dX4_lettersThatAre_42 : decode cX4_lettersThatAre 42 = .ok (.ireturn, 1) := by decide +kernel
theorem dX4_count_0 : decode cX4_count 0 = .ok (.iload_n 1, 1) := by decide +kernel
theorem dX4_count_1 : decode cX4_count 1 = .ok (.tableswitch 124 0 10 #[59, 64, 69, 74, 82, 90, 96, 102, 108, 114, 119], 59) := by decide +kernel
theorem dX4_count_60 : decode cX4_count 60 = .ok (.aload_n 0, 1) := by decide +kernel
theorem dX4_count_61 : decode cX4_count 61 = .ok (.getfield 60, 3) := by decide +kernel
theorem dX4_count_64 : decode cX4_count 64 = .ok (.ireturn, 1) := by decide +kernel
theorem dX4_count_65 : decode cX4_count 65 = .ok (.aload_n 0, 1) := by decide +kernel
theorem dX4_count_66 : decode cX4_count 66 = .ok (.getfield 50, 3) := by decide +kernel
theorem dX4_count_69 : decode cX4_count 69 = .ok (.ireturn, 1) := by decide +kernel
theorem dX4_count_70 : decode cX4_count 70 = .ok (.aload_n 0, 1) := by decide +kernel
theorem dX4_count_71 : decode cX4_count 71 = .ok (.getfield 99, 3) := by decide +kernel
theorem dX4_count_74 : decode cX4_count 74 = .ok (.ireturn, 1) := by decide +kernel
theorem dX4_count_75 : decode cX4_count 75 = .ok (.aload_n 0, 1) := by decide +kernel
theorem dX4_count_76 : decode cX4_count 76 = .ok (.getfield 16, 3) := by decide +kernel
theorem dX4_count_79 : decode cX4_count 79 = .ok (.bipush 29, 2) := by decide +kernel
theorem dX4_count_81 : decode cX4_count 81 = .ok (.iaload, 1) := by decide +kernel
theorem dX4_count_82 : decode cX4_count 82 = .ok (.ireturn, 1) := by decide +kernel
theorem dX4_count_83 : decode cX4_count 83 = .ok (.aload_n 0, 1) := by decide +kernel
theorem dX4_count_84 : decode cX4_count 84 = .ok (.getfield 16, 3) := by decide +kernel
theorem dX4_count_87 : decode cX4_count 87 = .ok (.bipush 28, 2) := by decide +kernel
theorem dX4_count_89 : decode cX4_count 89 = .ok (.iaload, 1) := by decide +kernel
theorem dX4_count_90 : decode cX4_count 90 = .ok (.ireturn, 1) := by decide +kernel
theorem dX4_count_91 : decode cX4_count 91 = .ok (.aload_n 0, 1) := by decide +kernel
theorem dX4_count_92 : decode cX4_count 92 = .ok (.iconst 0, 1) := by decide +kernel
theorem dX4_count_93 : decode cX4_count 93 = .ok (.invokevirtual 115, 3) := by decide +kernel
theorem dX4_count_96 : decode cX4_count 96 = .ok (.ireturn, 1) := by decide +kernel
theorem dX4_count_97 : decode cX4_count 97 = .ok (.aload_n 0, 1) := by decide +kernel
theorem dX4_count_98 : decode cX4_count 98 = .ok (.iconst 0, 1) := by decide +kernel
theorem dX4_count_99 : decode cX4_count 99 = .ok (.invokevirtual 122, 3) := by decide +kernel
theorem dX4_count_102 : decode cX4_count 102 = .ok (.ireturn, 1) := by decide +kernel
theorem dX4_count_103 : decode cX4_count 103 = .ok (.aload_n 0, 1) := by decide +kernel
theorem dX4_count_104 : decode cX4_count 104 = .ok (.iconst 2, 1) := by decide +kernel
theorem dX4_count_105 : decode cX4_count 105 = .ok (.invokevirtual 224, 3) := by decide +kernel
theorem dX4_count_108 : decode cX4_count 108 = .ok (.ireturn, 1) := by decide +kernel
theorem dX4_count_109 : decode cX4_count 109 = .ok (.aload_n 0, 1) := by decide +kernel
theorem dX4_count_110 : decode cX4_count 110 = .ok (.iconst 3, 1) := by decide +kernel
theorem dX4_count_111 : decode cX4_count 111 = .ok (.invokevirtual 224, 3) := by decide +kernel
theorem dX4_count_114 : decode cX4_count 114 = .ok (.ireturn, 1) := by decide +kernel
theorem dX4_count_115 : decode cX4_count 115 = .ok (.aload_n 0, 1) := by decide +kernel
theorem dX4_count_116 : decode cX4_count 116 = .ok (.getfield 102, 3) := by decide +kernel
theorem dX4_count_119 : decode cX4_count 119 = .ok (.ireturn, 1) := by decide +kernel
theorem dX4_count_120 : decode cX4_count 120 = .ok (.aload_n 0, 1) := by decide +kernel
theorem dX4_count_121 : decode cX4_count 121 = .ok (.getfield 193, 3) := by decide +kernel
theorem dX4_count_124 : decode cX4_count 124 = .ok (.ireturn, 1) := by decide +kernel
theorem dX4_count_125 : decode cX4_count 125 = .ok (.bipush (-2), 2) := by decide +kernel
theorem dX4_count_127 : decode cX4_count 127 = .ok (.ireturn, 1) := by decide +kernel
theorem dJ6_bitCount_0f7a4_0 : decode cJ6_bitCount_0f7a4 0 = .ok (.iload_n 0, 1) := by decide +kernel
theorem dJ6_bitCount_0f7a4_1 : decode cJ6_bitCount_0f7a4 1 = .ok (.iload_n 0, 1) := by decide +kernel
theorem dJ6_bitCount_0f7a4_2 : decode cJ6_bitCount_0f7a4 2 = .ok (.iconst 1, 1) := by decide +kernel
theorem dJ6_bitCount_0f7a4_3 : decode cJ6_bitCount_0f7a4 3 = .ok (.iushr, 1) := by decide +kernel
theorem dJ6_bitCount_0f7a4_4 : decode cJ6_bitCount_0f7a4 4 = .ok (.ldc_w 265, 3) := by decide +kernel
theorem dJ6_bitCount_0f7a4_7 : decode cJ6_bitCount_0f7a4 7 = .ok (.iand, 1) := by decide +kernel
theorem dJ6_bitCount_0f7a4_8 : decode cJ6_bitCount_0f7a4 8 = .ok (.isub, 1) := by decide +kernel
theorem dJ6_bitCount_0f7a4_9 : decode cJ6_bitCount_0f7a4 9 = .ok (.istore_n 0, 1) := by decide +kernel
theorem dJ6_bitCount_0f7a4_10 : decode cJ6_bitCount_0f7a4 10 = .ok (.iload_n 0, 1) := by decide +kernel
theorem dJ6_bitCount_0f7a4_11 : decode cJ6_bitCount_0f7a4 11 = .ok (.ldc_w 266, 3) := by decide +kernel
theorem dJ6_bitCount_0f7a4_14 : decode cJ6_bitCount_0f7a4 14 = .ok (.iand, 1) := by decide +kernel
theorem dJ6_bitCount_0f7a4_15 : decode cJ6_bitCount_0f7a4 15 = .ok (.iload_n 0, 1) := by decide +kernel
theorem dJ6_bitCount_0f7a4_16 : decode cJ6_bitCount_0f7a4 16 = .ok (.iconst 2, 1) := by decide +kernel
theorem dJ6_bitCount_0f7a4_17 : decode cJ6_bitCount_0f7a4 17 = .ok (.iushr, 1) := by decide +kernel
theorem dJ6_bitCount_0f7a4_18 : decode cJ6_bitCount_0f7a4 18 = .ok (.ldc_w 266, 3) := by decide +kernel
theorem dJ6_bitCount_0f7a4_21 : decode cJ6_bitCount_0f7a4 21 = .ok (.iand, 1) := by decide +kernel
theorem dJ6_bitCount_0f7a4_22 : decode cJ6_bitCount_0f7a4 22 = .ok (.iadd, 1) := by decide +kernel
theorem dJ6_bitCount_0f7a4_23 : decode cJ6_bitCount_0f7a4 23 = .ok (.istore_n 0, 1) := by decide +kernel
theorem dJ6_bitCount_0f7a4_24 : decode cJ6_bitCount_0f7a4 24 = .ok (.iload_n 0, 1) := by decide +kernel
theorem dJ6_bitCount_0f7a4_25 : decode cJ6_bitCount_0f7a4 25 = .ok (.iload_n 0, 1) := by decide +kernel
theorem dJ6_bitCount_0f7a4_26 : decode cJ6_bitCount_0f7a4 26 = .ok (.iconst 4, 1) := by decide +kernel
theorem dJ6_bitCount_0f7a4_27 : decode cJ6_bitCount_0f7a4 27 = .ok (.iushr, 1) := by decide +kernel
theorem dJ6_bitCount_0f7a4_28 : decode cJ6_bitCount_0f7a4 28 = .ok (.iadd, 1) := by decide +kernel
theorem dJ6_bitCount_0f7a4_29 : decode cJ6_bitCount_0f7a4 29 = .ok (.ldc_w 267, 3) := by decide +kernel
theorem dJ6_bitCount_0f7a4_32 : decode cJ6_bitCount_0f7a4 32 = .ok (.iand, 1) := by decide +kernel
theorem dJ6_bitCount_0f7a4_33 : decode cJ6_bitCount_0f7a4 33 = .ok (.istore_n 0, 1) := by decide +kernel
theorem dJ6_bitCount_0f7a4_34 : decode cJ6_bitCount_0f7a4 34 = .ok (.iload_n 0, 1) := by decide +kernel
theorem dJ6_bitCount_0f7a4_35 : decode cJ6_bitCount_0f7a4 35 = .ok (.iload_n 0, 1) := by decide +kernel
theorem dJ6_bitCount_0f7a4_36 : decode cJ6_bitCount_0f7a4 36 = .ok (.bipush 8, 2) := by decide +kernel
theorem dJ6_bitCount_0f7a4_38 : decode cJ6_bitCount_0f7a4 38 = .ok (.iushr, 1) := by decide +kernel
theorem dJ6_bitCount_0f7a4_39 : decode cJ6_bitCount_0f7a4 39 = .ok (.iadd, 1) := by decide +kernel
theorem dJ6_bitCount_0f7a4_40 : decode cJ6_bitCount_0f7a4 40 = .ok (.istore_n 0, 1) := by decide +kernel
theorem dJ6_bitCount_0f7a4_41 : decode cJ6_bitCount_0f7a4 41 = .ok (.iload_n 0, 1) := by decide +kernel
theorem dJ6_bitCount_0f7a4_42 : decode cJ6_bitCount_0f7a4 42 = .ok (.iload_n 0, 1) := by decide +kernel
theorem dJ6_bitCount_0f7a4_43 : decode cJ6_bitCount_0f7a4 43 = .ok (.bipush 16, 2) := by decide +kernel
theorem dJ6_bitCount_0f7a4_45 : decode cJ6_bitCount_0f7a4 45 = .ok (.iushr, 1) := by decide +kernel
theorem dJ6_bitCount_0f7a4_46 : decode cJ6_bitCount_0f7a4 46 = .ok (.iadd, 1) := by decide +kernel
theorem dJ6_bitCount_0f7a4_47 : decode cJ6_bitCount_0f7a4 47 = .ok (.istore_n 0, 1) := by decide +kernel
theorem dJ6_bitCount_0f7a4_48 : decode cJ6_bitCount_0f7a4 48 = .ok (.iload_n 0, 1) := by decide +kernel
theorem dJ6_bitCount_0f7a4_49 : decode cJ6_bitCount_0f7a4 49 = .ok (.bipush 63, 2) := by decide +kernel
theorem dJ6_bitCount_0f7a4_51 : decode cJ6_bitCount_0f7a4 51 = .ok (.iand, 1) := by decide +kernel
theorem dJ6_bitCount_0f7a4_52 : decode cJ6_bitCount_0f7a4 52 = .ok (.ireturn, 1) := by decide +kernel
theorem dJ9_max_7cf53_0 : decode cJ9_max_7cf53 0 = .ok (.iload_n 0, 1) := by decide +kernel
theorem dJ9_max_7cf53_1 : decode cJ9_max_7cf53 1 = .ok (.iload_n 1, 1) := by decide +kernel
theorem dJ9_max_7cf53_2 : decode cJ9_max_7cf53 2 = .ok (.if_icmp .lt 7, 3) := by decide +kernel
theorem dJ9_max_7cf53_5 : decode cJ9_max_7cf53 5 = .ok (.iload_n 0, 1) := by decide +kernel
theorem dJ9_max_7cf53_6 : decode cJ9_max_7cf53 6 = .ok (.goto 4, 3) := by decide +kernel
end
section
theorem dJ9_max_7cf53_9 : decode cJ9_max_7cf53 9 = .ok (.iload_n 1, 1) := by decide +kernel
theorem dJ9_max_7cf53_10 : decode cJ9_max_7cf53 10 = .ok (.ireturn, 1) := by decide +kernel
theorem dJ9_min_7cf53_0 : decode cJ9_min_7cf53 0 = .ok (.iload_n 0, 1) := by decide +kernel
theorem dJ9_min_7cf53_1 : decode cJ9_min_7cf53 1 = .ok (.iload_n 1, 1) := by decide +kernel
theorem dJ9_min_7cf53_2 : decode cJ9_min_7cf53 2 = .ok (.if_icmp .gt 7, 3) := by decide +kernel
theorem dJ9_min_7cf53_5 : decode cJ9_min_7cf53 5 = .ok (.iload_n 0, 1) := by decide +kernel
theorem dJ9_min_7cf53_6 : decode cJ9_min_7cf53 6 = .ok (.goto 4, 3) := by decide +kernel
theorem dJ9_min_7cf53_9 : decode cJ9_min_7cf53 9 = .ok (.iload_n 1, 1) := by decide +kernel
theorem dJ9_min_7cf53_10 : decode cJ9_min_7cf53 10 = .ok (.ireturn, 1) := by decide +kernel
theorem dJ7_fill_53178_0 : decode cJ7_fill_53178 0 = .ok (.iconst 0, 1) := by decide +kernel
theorem dJ7_fill_53178_1 : decode cJ7_fill_53178 1 = .ok (.istore_n 2, 1) := by decide +kernel
theorem dJ7_fill_53178_2 : decode cJ7_fill_53178 2 = .ok (.aload_n 0, 1) := by decide +kernel
theorem dJ7_fill_53178_3 : decode cJ7_fill_53178 3 = .ok (.arraylength, 1) := by decide +kernel
theorem dJ7_fill_53178_4 : decode cJ7_fill_53178 4 = .ok (.istore_n 3, 1) := by decide +kernel
theorem dJ7_fill_53178_5 : decode cJ7_fill_53178 5 = .ok (.iload_n 2, 1) := by decide +kernel
theorem dJ7_fill_53178_6 : decode cJ7_fill_53178 6 = .ok (.iload_n 3, 1) := by decide +kernel
theorem dJ7_fill_53178_7 : decode cJ7_fill_53178 7 = .ok (.if_icmp .ge 13, 3) := by decide +kernel
theorem dJ7_fill_53178_10 : decode cJ7_fill_53178 10 = .ok (.aload_n 0, 1) := by decide +kernel
theorem dJ7_fill_53178_11 : decode cJ7_fill_53178 11 = .ok (.iload_n 2, 1) := by decide +kernel
theorem dJ7_fill_53178_12 : decode cJ7_fill_53178 12 = .ok (.iload_n 1, 1) := by decide +kernel
theorem dJ7_fill_53178_13 : decode cJ7_fill_53178 13 = .ok (.iastore, 1) := by decide +kernel
theorem dJ7_fill_53178_14 : decode cJ7_fill_53178 14 = .ok (.iinc 2 1, 3) := by decide +kernel
theorem dJ7_fill_53178_17 : decode cJ7_fill_53178 17 = .ok (.goto (-12), 3) := by decide +kernel
theorem dJ7_fill_53178_20 : decode cJ7_fill_53178 20 = .ok (.return_, 1) := by decide +kernel
theorem dL_law_0 : decode cL_law 0 = .ok (.new 7, 3) := by decide +kernel
theorem dL_law_3 : decode cL_law 3 = .ok (.dup, 1) := by decide +kernel
theorem dL_law_4 : decode cL_law 4 = .ok (.invokespecial 9, 3) := by decide +kernel
theorem dL_law_7 : decode cL_law 7 = .ok (.astore_n 1, 1) := by decide +kernel
theorem dL_law_8 : decode cL_law 8 = .ok (.new 10, 3) := by decide +kernel
theorem dL_law_11 : decode cL_law 11 = .ok (.dup, 1) := by decide +kernel
theorem dL_law_12 : decode cL_law 12 = .ok (.invokespecial 12, 3) := by decide +kernel
theorem dL_law_15 : decode cL_law 15 = .ok (.astore_n 2, 1) := by decide +kernel
theorem dL_law_16 : decode cL_law 16 = .ok (.iconst 0, 1) := by decide +kernel
theorem dL_law_17 : decode cL_law 17 = .ok (.istore_n 3, 1) := by decide +kernel
theorem dL_law_18 : decode cL_law 18 = .ok (.iload_n 3, 1) := by decide +kernel
theorem dL_law_19 : decode cL_law 19 = .ok (.aload_n 0, 1) := by decide +kernel
theorem dL_law_20 : decode cL_law 20 = .ok (.arraylength, 1) := by decide +kernel
theorem dL_law_21 : decode cL_law 21 = .ok (.iconst 5, 1) := by decide +kernel
theorem dL_law_22 : decode cL_law 22 = .ok (.isub, 1) := by decide +kernel
theorem dL_law_23 : decode cL_law 23 = .ok (.if_icmp .gt 950, 3) := by decide +kernel
theorem dL_law_26 : decode cL_law 26 = .ok (.aload_n 0, 1) := by decide +kernel
theorem dL_law_27 : decode cL_law 27 = .ok (.iload_n 3, 1) := by decide +kernel
theorem dL_law_28 : decode cL_law 28 = .ok (.iaload, 1) := by decide +kernel
theorem dL_law_29 : decode cL_law 29 = .ok (.bipush 31, 2) := by decide +kernel
theorem dL_law_31 : decode cL_law 31 = .ok (.iand, 1) := by decide +kernel
theorem dL_law_32 : decode cL_law 32 = .ok (.tableswitch 935 0 27 #[128, 151, 164, 177, 190, 223, 256, 269, 302, 325, 358, 371, 384, 407, 440, 463, 486, 549, 592, 605, 628, 677, 730, 789, 843, 866, 889, 912], 128) := by decide +kernel
theorem dL_law_160 : decode cL_law 160 = .ok (.aload_n 1, 1) := by decide +kernel
theorem dL_law_161 : decode cL_law 161 = .ok (.aload_n 0, 1) := by decide +kernel
theorem dL_law_162 : decode cL_law 162 = .ok (.iload_n 3, 1) := by decide +kernel
theorem dL_law_163 : decode cL_law 163 = .ok (.iconst 1, 1) := by decide +kernel
theorem dL_law_164 : decode cL_law 164 = .ok (.iadd, 1) := by decide +kernel
theorem dL_law_165 : decode cL_law 165 = .ok (.iaload, 1) := by decide +kernel
theorem dL_law_166 : decode cL_law 166 = .ok (.invokevirtual 13, 3) := by decide +kernel
theorem dL_law_169 : decode cL_law 169 = .ok (.aload_n 2, 1) := by decide +kernel
theorem dL_law_170 : decode cL_law 170 = .ok (.aload_n 0, 1) := by decide +kernel
theorem dL_law_171 : decode cL_law 171 = .ok (.iload_n 3, 1) := by decide +kernel
theorem dL_law_172 : decode cL_law 172 = .ok (.iconst 1, 1) := by decide +kernel
theorem dL_law_173 : decode cL_law 173 = .ok (.iadd, 1) := by decide +kernel
theorem dL_law_174 : decode cL_law 174 = .ok (.iaload, 1) := by decide +kernel
theorem dL_law_175 : decode cL_law 175 = .ok (.invokevirtual 17, 3) := by decide +kernel
theorem dL_law_178 : decode cL_law 178 = .ok (.if_icmp .eq 789, 3) := by decide +kernel
theorem dL_law_181 : decode cL_law 181 = .ok (.iconst 0, 1) := by decide +kernel
theorem dL_law_182 : decode cL_law 182 = .ok (.ireturn, 1) := by decide +kernel
theorem dL_law_183 : decode cL_law 183 = .ok (.aload_n 1, 1) := by decide +kernel
theorem dL_law_184 : decode cL_law 184 = .ok (.invokevirtual 18, 3) := by decide +kernel
theorem dL_law_187 : decode cL_law 187 = .ok (.aload_n 2, 1) := by decide +kernel
theorem dL_law_188 : decode cL_law 188 = .ok (.invokevirtual 22, 3) := by decide +kernel
theorem dL_law_191 : decode cL_law 191 = .ok (.if_icmp .eq 776, 3) := by decide +kernel
theorem dL_law_194 : decode cL_law 194 = .ok (.iconst 0, 1) := by decide +kernel
theorem dL_law_195 : decode cL_law 195 = .ok (.ireturn, 1) := by decide +kernel
theorem dL_law_196 : decode cL_law 196 = .ok (.aload_n 1, 1) := by decide +kernel
theorem dL_law_197 : decode cL_law 197 = .ok (.invokevirtual 23, 3) := by decide +kernel
theorem dL_law_200 : decode cL_law 200 = .ok (.aload_n 2, 1) := by decide +kernel
theorem dL_law_201 : decode cL_law 201 = .ok (.invokevirtual 26, 3) := by decide +kernel
theorem dL_law_204 : decode cL_law 204 = .ok (.if_icmp .eq 763, 3) := by decide +kernel
theorem dL_law_207 : decode cL_law 207 = .ok (.iconst 0, 1) := by decide +kernel
theorem dL_law_208 : decode cL_law 208 = .ok (.ireturn, 1) := by decide +kernel
theorem dL_law_209 : decode cL_law 209 = .ok (.aload_n 1, 1) := by decide +kernel
theorem dL_law_210 : decode cL_law 210 = .ok (.invokevirtual 27, 3) := by decide +kernel
theorem dL_law_213 : decode cL_law 213 = .ok (.aload_n 2, 1) := by decide +kernel
theorem dL_law_214 : decode cL_law 214 = .ok (.invokevirtual 30, 3) := by decide +kernel
theorem dL_law_217 : decode cL_law 217 = .ok (.if_icmp .eq 750, 3) := by decide +kernel
theorem dL_law_220 : decode cL_law 220 = .ok (.iconst 0, 1) := by decide +kernel
theorem dL_law_221 : decode cL_law 221 = .ok (.ireturn, 1) := by decide +kernel
theorem dL_law_222 : decode cL_law 222 = .ok (.aload_n 1, 1) := by decide +kernel
theorem dL_law_223 : decode cL_law 223 = .ok (.aload_n 0, 1) := by decide +kernel
theorem dL_law_224 : decode cL_law 224 = .ok (.iload_n 3, 1) := by decide +kernel
theorem dL_law_225 : decode cL_law 225 = .ok (.iconst 1, 1) := by decide +kernel
theorem dL_law_226 : decode cL_law 226 = .ok (.iadd, 1) := by decide +kernel
theorem dL_law_227 : decode cL_law 227 = .ok (.iaload, 1) := by decide +kernel
theorem dL_law_228 : decode cL_law 228 = .ok (.aload_n 0, 1) := by decide +kernel
theorem dL_law_229 : decode cL_law 229 = .ok (.iload_n 3, 1) := by decide +kernel
theorem dL_law_230 : decode cL_law 230 = .ok (.iconst 2, 1) := by decide +kernel
theorem dL_law_231 : decode cL_law 231 = .ok (.iadd, 1) := by decide +kernel
theorem dL_law_232 : decode cL_law 232 = .ok (.iaload, 1) := by decide +kernel
theorem dL_law_233 : decode cL_law 233 = .ok (.invokevirtual 31, 3) := by decide +kernel
theorem dL_law_236 : decode cL_law 236 = .ok (.aload_n 2, 1) := by decide +kernel
theorem dL_law_237 : decode cL_law 237 = .ok (.aload_n 0, 1) := by decide +kernel
theorem dL_law_238 : decode cL_law 238 = .ok (.iload_n 3, 1) := by decide +kernel
theorem dL_law_239 : decode cL_law 239 = .ok (.iconst 1, 1) := by decide +kernel
theorem dL_law_240 : decode cL_law 240 = .ok (.iadd, 1) := by decide +kernel
theorem dL_law_241 : decode cL_law 241 = .ok (.iaload, 1) := by decide +kernel
theorem dL_law_242 : decode cL_law 242 = .ok (.aload_n 0, 1) := by decide +kernel
theorem dL_law_243 : decode cL_law 243 = .ok (.iload_n 3, 1) := by decide +kernel
theorem dL_law_244 : decode cL_law 244 = .ok (.iconst 2, 1) := by decide +kernel
theorem dL_law_245 : decode cL_law 245 = .ok (.iadd, 1) := by decide +kernel
theorem dL_law_246 : decode cL_law 246 = .ok (.iaload, 1) := by decide +kernel
theorem dL_law_247 : decode cL_law 247 = .ok (.invokevirtual 35, 3) := by decide +kernel
theorem dL_law_250 : decode cL_law 250 = .ok (.if_icmp .eq 717, 3) := by decide +kernel
theorem dL_law_253 : decode cL_law 253 = .ok (.iconst 0, 1) := by decide +kernel
theorem dL_law_254 : decode cL_law 254 = .ok (.ireturn, 1) := by decide +kernel
theorem dL_law_255 : decode cL_law 255 = .ok (.aload_n 1, 1) := by decide +kernel
theorem dL_law_256 : decode cL_law 256 = .ok (.aload_n 0, 1) := by decide +kernel
theorem dL_law_257 : decode cL_law 257 = .ok (.iload_n 3, 1) := by decide +kernel
theorem dL_law_258 : decode cL_law 258 = .ok (.iconst 1, 1) := by decide +kernel
theorem dL_law_259 : decode cL_law 259 = .ok (.iadd, 1) := by decide +kernel
theorem dL_law_260 : decode cL_law 260 = .ok (.iaload, 1) := by decide +kernel
theorem dL_law_261 : decode cL_law 261 = .ok (.aload_n 0, 1) := by decide +kernel
theorem dL_law_262 : decode cL_law 262 = .ok (.iload_n 3, 1) := by decide +kernel
theorem dL_law_263 : decode cL_law 263 = .ok (.iconst 2, 1) := by decide +kernel
theorem dL_law_264 : decode cL_law 264 = .ok (.iadd, 1) := by decide +kernel
theorem dL_law_265 : decode cL_law 265 = .ok (.iaload, 1) := by decide +kernel
theorem dL_law_266 : decode cL_law 266 = .ok (.invokevirtual 36, 3) := by decide +kernel
theorem dL_law_269 : decode cL_law 269 = .ok (.aload_n 2, 1) := by decide +kernel
theorem dL_law_270 : decode cL_law 270 = .ok (.aload_n 0, 1) := by decide +kernel
theorem dL_law_271 : decode cL_law 271 = .ok (.iload_n 3, 1) := by decide +kernel
theorem dL_law_272 : decode cL_law 272 = .ok (.iconst 1, 1) := by decide +kernel
theorem dL_law_273 : decode cL_law 273 = .ok (.iadd, 1) := by decide +kernel
theorem dL_law_274 : decode cL_law 274 = .ok (.iaload, 1) := by decide +kernel
theorem dL_law_275 : decode cL_law 275 = .ok (.aload_n 0, 1) := by decide +kernel
theorem dL_law_276 : decode cL_law 276 = .ok (.iload_n 3, 1) := by decide +kernel
theorem dL_law_277 : decode cL_law 277 = .ok (.iconst 2, 1) := by decide +kernel
theorem dL_law_278 : decode cL_law 278 = .ok (.iadd, 1) := by decide +kernel
theorem dL_law_279 : decode cL_law 279 = .ok (.iaload, 1) := by decide +kernel
theorem dL_law_280 : decode cL_law 280 = .ok (.invokevirtual 39, 3) := by decide +kernel
theorem dL_law_283 : decode cL_law 283 = .ok (.if_icmp .eq 684, 3) := by decide +kernel
theorem dL_law_286 : decode cL_law 286 = .ok (.iconst 0, 1) := by decide +kernel
theorem dL_law_287 : decode cL_law 287 = .ok (.ireturn, 1) := by decide +kernel
theorem dL_law_288 : decode cL_law 288 = .ok (.aload_n 1, 1) := by decide +kernel
theorem dL_law_289 : decode cL_law 289 = .ok (.invokevirtual 40, 3) := by decide +kernel
theorem dL_law_292 : decode cL_law 292 = .ok (.aload_n 2, 1) := by decide +kernel
theorem dL_law_293 : decode cL_law 293 = .ok (.invokevirtual 43, 3) := by decide +kernel
theorem dL_law_296 : decode cL_law 296 = .ok (.if_icmp .eq 671, 3) := by decide +kernel
theorem dL_law_299 : decode cL_law 299 = .ok (.iconst 0, 1) := by decide +kernel
theorem dL_law_300 : decode cL_law 300 = .ok (.ireturn, 1) := by decide +kernel
theorem dL_law_301 : decode cL_law 301 = .ok (.aload_n 1, 1) := by decide +kernel
theorem dL_law_302 : decode cL_law 302 = .ok (.aload_n 0, 1) := by decide +kernel
theorem dL_law_303 : decode cL_law 303 = .ok (.iload_n 3, 1) := by decide +kernel
theorem dL_law_304 : decode cL_law 304 = .ok (.iconst 1, 1) := by decide +kernel
theorem dL_law_305 : decode cL_law 305 = .ok (.iadd, 1) := by decide +kernel
theorem dL_law_306 : decode cL_law 306 = .ok (.iaload, 1) := by decide +kernel
theorem dL_law_307 : decode cL_law 307 = .ok (.aload_n 0, 1) := by decide +kernel
theorem dL_law_308 : decode cL_law 308 = .ok (.iload_n 3, 1) := by decide +kernel
theorem dL_law_309 : decode cL_law 309 = .ok (.iconst 2, 1) := by decide +kernel
theorem dL_law_310 : decode cL_law 310 = .ok (.iadd, 1) := by decide +kernel
theorem dL_law_311 : decode cL_law 311 = .ok (.iaload, 1) := by decide +kernel
theorem dL_law_312 : decode cL_law 312 = .ok (.invokevirtual 44, 3) := by decide +kernel
theorem dL_law_315 : decode cL_law 315 = .ok (.aload_n 2, 1) := by decide +kernel
theorem dL_law_316 : decode cL_law 316 = .ok (.aload_n 0, 1) := by decide +kernel
theorem dL_law_317 : decode cL_law 317 = .ok (.iload_n 3, 1) := by decide +kernel
theorem dL_law_318 : decode cL_law 318 = .ok (.iconst 1, 1) := by decide +kernel
theorem dL_law_319 : decode cL_law 319 = .ok (.iadd, 1) := by decide +kernel
theorem dL_law_320 : decode cL_law 320 = .ok (.iaload, 1) := by decide +kernel
theorem dL_law_321 : decode cL_law 321 = .ok (.aload_n 0, 1) := by decide +kernel
theorem dL_law_322 : decode cL_law 322 = .ok (.iload_n 3, 1) := by decide +kernel
theorem dL_law_323 : decode cL_law 323 = .ok (.iconst 2, 1) := by decide +kernel
theorem dL_law_324 : decode cL_law 324 = .ok (.iadd, 1) := by decide +kernel
theorem dL_law_325 : decode cL_law 325 = .ok (.iaload, 1) := by decide +kernel
theorem dL_law_326 : decode cL_law 326 = .ok (.invokevirtual 47, 3) := by decide +kernel
theorem dL_law_329 : decode cL_law 329 = .ok (.if_icmp .eq 638, 3) := by decide +kernel
theorem dL_law_332 : decode cL_law 332 = .ok (.iconst 0, 1) := by decide +kernel
theorem dL_law_333 : decode cL_law 333 = .ok (.ireturn, 1) := by decide +kernel
theorem dL_law_334 : decode cL_law 334 = .ok (.aload_n 1, 1) := by decide +kernel
theorem dL_law_335 : decode cL_law 335 = .ok (.aload_n 0, 1) := by decide +kernel
theorem dL_law_336 : decode cL_law 336 = .ok (.iload_n 3, 1) := by decide +kernel
theorem dL_law_337 : decode cL_law 337 = .ok (.iconst 1, 1) := by decide +kernel
theorem dL_law_338 : decode cL_law 338 = .ok (.iadd, 1) := by decide +kernel
theorem dL_law_339 : decode cL_law 339 = .ok (.iaload, 1) := by decide +kernel
theorem dL_law_340 : decode cL_law 340 = .ok (.invokevirtual 48, 3) := by decide +kernel
theorem dL_law_343 : decode cL_law 343 = .ok (.aload_n 2, 1) := by decide +kernel
theorem dL_law_344 : decode cL_law 344 = .ok (.aload_n 0, 1) := by decide +kernel
theorem dL_law_345 : decode cL_law 345 = .ok (.iload_n 3, 1) := by decide +kernel
theorem dL_law_346 : decode cL_law 346 = .ok (.iconst 1, 1) := by decide +kernel
theorem dL_law_347 : decode cL_law 347 = .ok (.iadd, 1) := by decide +kernel
theorem dL_law_348 : decode cL_law 348 = .ok (.iaload, 1) := by decide +kernel
theorem dL_law_349 : decode cL_law 349 = .ok (.invokevirtual 51, 3) := by decide +kernel
theorem dL_law_352 : decode cL_law 352 = .ok (.if_icmp .eq 615, 3) := by decide +kernel
theorem dL_law_355 : decode cL_law 355 = .ok (.iconst 0, 1) := by decide +kernel
theorem dL_law_356 : decode cL_law 356 = .ok (.ireturn, 1) := by decide +kernel
theorem dL_law_357 : decode cL_law 357 = .ok (.aload_n 1, 1) := by decide +kernel
theorem dL_law_358 : decode cL_law 358 = .ok (.aload_n 0, 1) := by decide +kernel
theorem dL_law_359 : decode cL_law 359 = .ok (.iload_n 3, 1) := by decide +kernel
theorem dL_law_360 : decode cL_law 360 = .ok (.iconst 1, 1) := by decide +kernel
theorem dL_law_361 : decode cL_law 361 = .ok (.iadd, 1) := by decide +kernel
theorem dL_law_362 : decode cL_law 362 = .ok (.iaload, 1) := by decide +kernel
theorem dL_law_363 : decode cL_law 363 = .ok (.aload_n 0, 1) := by decide +kernel
theorem dL_law_364 : decode cL_law 364 = .ok (.iload_n 3, 1) := by decide +kernel
theorem dL_law_365 : decode cL_law 365 = .ok (.iconst 2, 1) := by decide +kernel
theorem dL_law_366 : decode cL_law 366 = .ok (.iadd, 1) := by decide +kernel
theorem dL_law_367 : decode cL_law 367 = .ok (.iaload, 1) := by decide +kernel
theorem dL_law_368 : decode cL_law 368 = .ok (.invokevirtual 52, 3) := by decide +kernel
theorem dL_law_371 : decode cL_law 371 = .ok (.aload_n 2, 1) := by decide +kernel
theorem dL_law_372 : decode cL_law 372 = .ok (.aload_n 0, 1) := by decide +kernel
theorem dL_law_373 : decode cL_law 373 = .ok (.iload_n 3, 1) := by decide +kernel
theorem dL_law_374 : decode cL_law 374 = .ok (.iconst 1, 1) := by decide +kernel
theorem dL_law_375 : decode cL_law 375 = .ok (.iadd, 1) := by decide +kernel
theorem dL_law_376 : decode cL_law 376 = .ok (.iaload, 1) := by decide +kernel
theorem dL_law_377 : decode cL_law 377 = .ok (.aload_n 0, 1) := by decide +kernel
theorem dL_law_378 : decode cL_law 378 = .ok (.iload_n 3, 1) := by decide +kernel
theorem dL_law_379 : decode cL_law 379 = .ok (.iconst 2, 1) := by decide +kernel
theorem dL_law_380 : decode cL_law 380 = .ok (.iadd, 1) := by decide +kernel
theorem dL_law_381 : decode cL_law 381 = .ok (.iaload, 1) := by decide +kernel
theorem dL_law_382 : decode cL_law 382 = .ok (.invokevirtual 55, 3) := by decide +kernel
theorem dL_law_385 : decode cL_law 385 = .ok (.if_icmp .eq 582, 3) := by decide +kernel
theorem dL_law_388 : decode cL_law 388 = .ok (.iconst 0, 1) := by decide +kernel
theorem dL_law_389 : decode cL_law 389 = .ok (.ireturn, 1) := by decide +kernel
theorem dL_law_390 : decode cL_law 390 = .ok (.aload_n 1, 1) := by decide +kernel
theorem dL_law_391 : decode cL_law 391 = .ok (.invokevirtual 56, 3) := by decide +kernel
theorem dL_law_394 : decode cL_law 394 = .ok (.aload_n 2, 1) := by decide +kernel
theorem dL_law_395 : decode cL_law 395 = .ok (.invokevirtual 59, 3) := by decide +kernel
theorem dL_law_398 : decode cL_law 398 = .ok (.if_icmp .eq 569, 3) := by decide +kernel
theorem dL_law_401 : decode cL_law 401 = .ok (.iconst 0, 1) := by decide +kernel
theorem dL_law_402 : decode cL_law 402 = .ok (.ireturn, 1) := by decide +kernel
theorem dL_law_403 : decode cL_law 403 = .ok (.aload_n 1, 1) := by decide +kernel
theorem dL_law_404 : decode cL_law 404 = .ok (.invokevirtual 60, 3) := by decide +kernel
theorem dL_law_407 : decode cL_law 407 = .ok (.aload_n 2, 1) := by decide +kernel
theorem dL_law_408 : decode cL_law 408 = .ok (.invokevirtual 63, 3) := by decide +kernel
theorem dL_law_411 : decode cL_law 411 = .ok (.if_icmp .eq 556, 3) := by decide +kernel
theorem dL_law_414 : decode cL_law 414 = .ok (.iconst 0, 1) := by decide +kernel
theorem dL_law_415 : decode cL_law 415 = .ok (.ireturn, 1) := by decide +kernel
theorem dL_law_416 : decode cL_law 416 = .ok (.aload_n 1, 1) := by decide +kernel
theorem dL_law_417 : decode cL_law 417 = .ok (.aload_n 0, 1) := by decide +kernel
theorem dL_law_418 : decode cL_law 418 = .ok (.iload_n 3, 1) := by decide +kernel
theorem dL_law_419 : decode cL_law 419 = .ok (.iconst 1, 1) := by decide +kernel
theorem dL_law_420 : decode cL_law 420 = .ok (.iadd, 1) := by decide +kernel
theorem dL_law_421 : decode cL_law 421 = .ok (.iaload, 1) := by decide +kernel
theorem dL_law_422 : decode cL_law 422 = .ok (.invokevirtual 64, 3) := by decide +kernel
theorem dL_law_425 : decode cL_law 425 = .ok (.aload_n 2, 1) := by decide +kernel
theorem dL_law_426 : decode cL_law 426 = .ok (.aload_n 0, 1) := by decide +kernel
theorem dL_law_427 : decode cL_law 427 = .ok (.iload_n 3, 1) := by decide +kernel
theorem dL_law_428 : decode cL_law 428 = .ok (.iconst 1, 1) := by decide +kernel
theorem dL_law_429 : decode cL_law 429 = .ok (.iadd, 1) := by decide +kernel
theorem dL_law_430 : decode cL_law 430 = .ok (.iaload, 1) := by decide +kernel
theorem dL_law_431 : decode cL_law 431 = .ok (.invokevirtual 67, 3) := by decide +kernel
theorem dL_law_434 : decode cL_law 434 = .ok (.if_icmp .eq 533, 3) := by decide +kernel
theorem dL_law_437 : decode cL_law 437 = .ok (.iconst 0, 1) := by decide +kernel
theorem dL_law_438 : decode cL_law 438 = .ok (.ireturn, 1) := by decide +kernel
theorem dL_law_439 : decode cL_law 439 = .ok (.aload_n 1, 1) := by decide +kernel
theorem dL_law_440 : decode cL_law 440 = .ok (.aload_n 0, 1) := by decide +kernel
theorem dL_law_441 : decode cL_law 441 = .ok (.iload_n 3, 1) := by decide +kernel
theorem dL_law_442 : decode cL_law 442 = .ok (.iconst 1, 1) := by decide +kernel
theorem dL_law_443 : decode cL_law 443 = .ok (.iadd, 1) := by decide +kernel
theorem dL_law_444 : decode cL_law 444 = .ok (.iaload, 1) := by decide +kernel
theorem dL_law_445 : decode cL_law 445 = .ok (.aload_n 0, 1) := by decide +kernel
theorem dL_law_446 : decode cL_law 446 = .ok (.iload_n 3, 1) := by decide +kernel
theorem dL_law_447 : decode cL_law 447 = .ok (.iconst 2, 1) := by decide +kernel
theorem dL_law_448 : decode cL_law 448 = .ok (.iadd, 1) := by decide +kernel
theorem dL_law_449 : decode cL_law 449 = .ok (.iaload, 1) := by decide +kernel
theorem dL_law_450 : decode cL_law 450 = .ok (.invokevirtual 68, 3) := by decide +kernel
theorem dL_law_453 : decode cL_law 453 = .ok (.aload_n 2, 1) := by decide +kernel
theorem dL_law_454 : decode cL_law 454 = .ok (.aload_n 0, 1) := by decide +kernel
theorem dL_law_455 : decode cL_law 455 = .ok (.iload_n 3, 1) := by decide +kernel
theorem dL_law_456 : decode cL_law 456 = .ok (.iconst 1, 1) := by decide +kernel
theorem dL_law_457 : decode cL_law 457 = .ok (.iadd, 1) := by decide +kernel
theorem dL_law_458 : decode cL_law 458 = .ok (.iaload, 1) := by decide +kernel
theorem dL_law_459 : decode cL_law 459 = .ok (.aload_n 0, 1) := by decide +kernel
theorem dL_law_460 : decode cL_law 460 = .ok (.iload_n 3, 1) := by decide +kernel
theorem dL_law_461 : decode cL_law 461 = .ok (.iconst 2, 1) := by decide +kernel
theorem dL_law_462 : decode cL_law 462 = .ok (.iadd, 1) := by decide +kernel
theorem dL_law_463 : decode cL_law 463 = .ok (.iaload, 1) := by decide +kernel
theorem dL_law_464 : decode cL_law 464 = .ok (.invokevirtual 71, 3) := by decide +kernel
theorem dL_law_467 : decode cL_law 467 = .ok (.if_icmp .eq 500, 3) := by decide +kernel
theorem dL_law_470 : decode cL_law 470 = .ok (.iconst 0, 1) := by decide +kernel
theorem dL_law_471 : decode cL_law 471 = .ok (.ireturn, 1) := by decide +kernel
theorem dL_law_472 : decode cL_law 472 = .ok (.aload_n 1, 1) := by decide +kernel
theorem dL_law_473 : decode cL_law 473 = .ok (.aload_n 0, 1) := by decide +kernel
theorem dL_law_474 : decode cL_law 474 = .ok (.iload_n 3, 1) := by decide +kernel
theorem dL_law_475 : decode cL_law 475 = .ok (.iconst 1, 1) := by decide +kernel
theorem dL_law_476 : decode cL_law 476 = .ok (.iadd, 1) := by decide +kernel
theorem dL_law_477 : decode cL_law 477 = .ok (.iaload, 1) := by decide +kernel
theorem dL_law_478 : decode cL_law 478 = .ok (.invokevirtual 72, 3) := by decide +kernel
theorem dL_law_481 : decode cL_law 481 = .ok (.aload_n 2, 1) := by decide +kernel
theorem dL_law_482 : decode cL_law 482 = .ok (.aload_n 0, 1) := by decide +kernel
theorem dL_law_483 : decode cL_law 483 = .ok (.iload_n 3, 1) := by decide +kernel
theorem dL_law_484 : decode cL_law 484 = .ok (.iconst 1, 1) := by decide +kernel
theorem dL_law_485 : decode cL_law 485 = .ok (.iadd, 1) := by decide +kernel
theorem dL_law_486 : decode cL_law 486 = .ok (.iaload, 1) := by decide +kernel
theorem dL_law_487 : decode cL_law 487 = .ok (.invokevirtual 75, 3) := by decide +kernel
theorem dL_law_490 : decode cL_law 490 = .ok (.if_icmp .eq 477, 3) := by decide +kernel
theorem dL_law_493 : decode cL_law 493 = .ok (.iconst 0, 1) := by decide +kernel
theorem dL_law_494 : decode cL_law 494 = .ok (.ireturn, 1) := by decide +kernel
theorem dL_law_495 : decode cL_law 495 = .ok (.aload_n 1, 1) := by decide +kernel
theorem dL_law_496 : decode cL_law 496 = .ok (.aload_n 0, 1) := by decide +kernel
theorem dL_law_497 : decode cL_law 497 = .ok (.iload_n 3, 1) := by decide +kernel
theorem dL_law_498 : decode cL_law 498 = .ok (.iconst 1, 1) := by decide +kernel
theorem dL_law_499 : decode cL_law 499 = .ok (.iadd, 1) := by decide +kernel
theorem dL_law_500 : decode cL_law 500 = .ok (.iaload, 1) := by decide +kernel
theorem dL_law_501 : decode cL_law 501 = .ok (.invokevirtual 76, 3) := by decide +kernel
theorem dL_law_504 : decode cL_law 504 = .ok (.aload_n 2, 1) := by decide +kernel
theorem dL_law_505 : decode cL_law 505 = .ok (.aload_n 0, 1) := by decide +kernel
theorem dL_law_506 : decode cL_law 506 = .ok (.iload_n 3, 1) := by decide +kernel
theorem dL_law_507 : decode cL_law 507 = .ok (.iconst 1, 1) := by decide +kernel
theorem dL_law_508 : decode cL_law 508 = .ok (.iadd, 1) := by decide +kernel
theorem dL_law_509 : decode cL_law 509 = .ok (.iaload, 1) := by decide +kernel
theorem dL_law_510 : decode cL_law 510 = .ok (.invokevirtual 79, 3) := by decide +kernel
theorem dL_law_513 : decode cL_law 513 = .ok (.if_icmp .eq 454, 3) := by decide +kernel
theorem dL_law_516 : decode cL_law 516 = .ok (.iconst 0, 1) := by decide +kernel
theorem dL_law_517 : decode cL_law 517 = .ok (.ireturn, 1) := by decide +kernel
theorem dL_law_518 : decode cL_law 518 = .ok (.aload_n 1, 1) := by decide +kernel
theorem dL_law_519 : decode cL_law 519 = .ok (.aload_n 0, 1) := by decide +kernel
theorem dL_law_520 : decode cL_law 520 = .ok (.iload_n 3, 1) := by decide +kernel
theorem dL_law_521 : decode cL_law 521 = .ok (.iconst 1, 1) := by decide +kernel
theorem dL_law_522 : decode cL_law 522 = .ok (.iadd, 1) := by decide +kernel
theorem dL_law_523 : decode cL_law 523 = .ok (.iaload, 1) := by decide +kernel
theorem dL_law_524 : decode cL_law 524 = .ok (.aload_n 0, 1) := by decide +kernel
theorem dL_law_525 : decode cL_law 525 = .ok (.iload_n 3, 1) := by decide +kernel
theorem dL_law_526 : decode cL_law 526 = .ok (.iconst 2, 1) := by decide +kernel
theorem dL_law_527 : decode cL_law 527 = .ok (.iadd, 1) := by decide +kernel
theorem dL_law_528 : decode cL_law 528 = .ok (.iaload, 1) := by decide +kernel
theorem dL_law_529 : decode cL_law 529 = .ok (.i2l, 1) := by decide +kernel
theorem dL_law_530 : decode cL_law 530 = .ok (.bipush 32, 2) := by decide +kernel
theorem dL_law_532 : decode cL_law 532 = .ok (.lshl, 1) := by decide +kernel
theorem dL_law_533 : decode cL_law 533 = .ok (.aload_n 0, 1) := by decide +kernel
theorem dL_law_534 : decode cL_law 534 = .ok (.iload_n 3, 1) := by decide +kernel
theorem dL_law_535 : decode cL_law 535 = .ok (.iconst 3, 1) := by decide +kernel
theorem dL_law_536 : decode cL_law 536 = .ok (.iadd, 1) := by decide +kernel
theorem dL_law_537 : decode cL_law 537 = .ok (.iaload, 1) := by decide +kernel
theorem dL_law_538 : decode cL_law 538 = .ok (.i2l, 1) := by decide +kernel
theorem dL_law_539 : decode cL_law 539 = .ok (.ldc2_w 80, 3) := by decide +kernel
theorem dL_law_542 : decode cL_law 542 = .ok (.land, 1) := by decide +kernel
theorem dL_law_543 : decode cL_law 543 = .ok (.lor, 1) := by decide +kernel
theorem dL_law_544 : decode cL_law 544 = .ok (.invokevirtual 82, 3) := by decide +kernel
theorem dL_law_547 : decode cL_law 547 = .ok (.aload_n 2, 1) := by decide +kernel
theorem dL_law_548 : decode cL_law 548 = .ok (.aload_n 0, 1) := by decide +kernel
theorem dL_law_549 : decode cL_law 549 = .ok (.iload_n 3, 1) := by decide +kernel
theorem dL_law_550 : decode cL_law 550 = .ok (.iconst 1, 1) := by decide +kernel
theorem dL_law_551 : decode cL_law 551 = .ok (.iadd, 1) := by decide +kernel
theorem dL_law_552 : decode cL_law 552 = .ok (.iaload, 1) := by decide +kernel
theorem dL_law_553 : decode cL_law 553 = .ok (.aload_n 0, 1) := by decide +kernel
theorem dL_law_554 : decode cL_law 554 = .ok (.iload_n 3, 1) := by decide +kernel
theorem dL_law_555 : decode cL_law 555 = .ok (.iconst 2, 1) := by decide +kernel
theorem dL_law_556 : decode cL_law 556 = .ok (.iadd, 1) := by decide +kernel
theorem dL_law_557 : decode cL_law 557 = .ok (.iaload, 1) := by decide +kernel
theorem dL_law_558 : decode cL_law 558 = .ok (.i2l, 1) := by decide +kernel
theorem dL_law_559 : decode cL_law 559 = .ok (.bipush 32, 2) := by decide +kernel
theorem dL_law_561 : decode cL_law 561 = .ok (.lshl, 1) := by decide +kernel
theorem dL_law_562 : decode cL_law 562 = .ok (.aload_n 0, 1) := by decide +kernel
theorem dL_law_563 : decode cL_law 563 = .ok (.iload_n 3, 1) := by decide +kernel
theorem dL_law_564 : decode cL_law 564 = .ok (.iconst 3, 1) := by decide +kernel
theorem dL_law_565 : decode cL_law 565 = .ok (.iadd, 1) := by decide +kernel
theorem dL_law_566 : decode cL_law 566 = .ok (.iaload, 1) := by decide +kernel
theorem dL_law_567 : decode cL_law 567 = .ok (.i2l, 1) := by decide +kernel
theorem dL_law_568 : decode cL_law 568 = .ok (.ldc2_w 80, 3) := by decide +kernel
theorem dL_law_571 : decode cL_law 571 = .ok (.land, 1) := by decide +kernel
theorem dL_law_572 : decode cL_law 572 = .ok (.lor, 1) := by decide +kernel
theorem dL_law_573 : decode cL_law 573 = .ok (.invokevirtual 86, 3) := by decide +kernel
theorem dL_law_576 : decode cL_law 576 = .ok (.if_icmp .eq 391, 3) := by decide +kernel
theorem dL_law_579 : decode cL_law 579 = .ok (.iconst 0, 1) := by decide +kernel
theorem dL_law_580 : decode cL_law 580 = .ok (.ireturn, 1) := by decide +kernel
theorem dL_law_581 : decode cL_law 581 = .ok (.aload_n 1, 1) := by decide +kernel
theorem dL_law_582 : decode cL_law 582 = .ok (.aload_n 0, 1) := by decide +kernel
theorem dL_law_583 : decode cL_law 583 = .ok (.iload_n 3, 1) := by decide +kernel
theorem dL_law_584 : decode cL_law 584 = .ok (.iconst 1, 1) := by decide +kernel
theorem dL_law_585 : decode cL_law 585 = .ok (.iadd, 1) := by decide +kernel
theorem dL_law_586 : decode cL_law 586 = .ok (.iaload, 1) := by decide +kernel
theorem dL_law_587 : decode cL_law 587 = .ok (.aload_n 0, 1) := by decide +kernel
theorem dL_law_588 : decode cL_law 588 = .ok (.iload_n 3, 1) := by decide +kernel
theorem dL_law_589 : decode cL_law 589 = .ok (.iconst 2, 1) := by decide +kernel
theorem dL_law_590 : decode cL_law 590 = .ok (.iadd, 1) := by decide +kernel
theorem dL_law_591 : decode cL_law 591 = .ok (.iaload, 1) := by decide +kernel
theorem dL_law_592 : decode cL_law 592 = .ok (.aload_n 0, 1) := by decide +kernel
theorem dL_law_593 : decode cL_law 593 = .ok (.iload_n 3, 1) := by decide +kernel
theorem dL_law_594 : decode cL_law 594 = .ok (.iconst 3, 1) := by decide +kernel
theorem dL_law_595 : decode cL_law 595 = .ok (.iadd, 1) := by decide +kernel
theorem dL_law_596 : decode cL_law 596 = .ok (.iaload, 1) := by decide +kernel
theorem dL_law_597 : decode cL_law 597 = .ok (.invokevirtual 87, 3) := by decide +kernel
theorem dL_law_600 : decode cL_law 600 = .ok (.aload_n 2, 1) := by decide +kernel
theorem dL_law_601 : decode cL_law 601 = .ok (.aload_n 0, 1) := by decide +kernel
theorem dL_law_602 : decode cL_law 602 = .ok (.iload_n 3, 1) := by decide +kernel
theorem dL_law_603 : decode cL_law 603 = .ok (.iconst 1, 1) := by decide +kernel
theorem dL_law_604 : decode cL_law 604 = .ok (.iadd, 1) := by decide +kernel
theorem dL_law_605 : decode cL_law 605 = .ok (.iaload, 1) := by decide +kernel
theorem dL_law_606 : decode cL_law 606 = .ok (.aload_n 0, 1) := by decide +kernel
theorem dL_law_607 : decode cL_law 607 = .ok (.iload_n 3, 1) := by decide +kernel
theorem dL_law_608 : decode cL_law 608 = .ok (.iconst 2, 1) := by decide +kernel
theorem dL_law_609 : decode cL_law 609 = .ok (.iadd, 1) := by decide +kernel
theorem dL_law_610 : decode cL_law 610 = .ok (.iaload, 1) := by decide +kernel
theorem dL_law_611 : decode cL_law 611 = .ok (.aload_n 0, 1) := by decide +kernel
theorem dL_law_612 : decode cL_law 612 = .ok (.iload_n 3, 1) := by decide +kernel
theorem dL_law_613 : decode cL_law 613 = .ok (.iconst 3, 1) := by decide +kernel
theorem dL_law_614 : decode cL_law 614 = .ok (.iadd, 1) := by decide +kernel
theorem dL_law_615 : decode cL_law 615 = .ok (.iaload, 1) := by decide +kernel
theorem dL_law_616 : decode cL_law 616 = .ok (.invokevirtual 91, 3) := by decide +kernel
theorem dL_law_619 : decode cL_law 619 = .ok (.if_icmp .eq 348, 3) := by decide +kernel
theorem dL_law_622 : decode cL_law 622 = .ok (.iconst 0, 1) := by decide +kernel
theorem dL_law_623 : decode cL_law 623 = .ok (.ireturn, 1) := by decide +kernel
theorem dL_law_624 : decode cL_law 624 = .ok (.aload_n 1, 1) := by decide +kernel
theorem dL_law_625 : decode cL_law 625 = .ok (.invokevirtual 92, 3) := by decide +kernel
theorem dL_law_628 : decode cL_law 628 = .ok (.aload_n 2, 1) := by decide +kernel
theorem dL_law_629 : decode cL_law 629 = .ok (.invokevirtual 95, 3) := by decide +kernel
theorem dL_law_632 : decode cL_law 632 = .ok (.if_icmp .eq 335, 3) := by decide +kernel
theorem dL_law_635 : decode cL_law 635 = .ok (.iconst 0, 1) := by decide +kernel
theorem dL_law_636 : decode cL_law 636 = .ok (.ireturn, 1) := by decide +kernel
theorem dL_law_637 : decode cL_law 637 = .ok (.aload_n 1, 1) := by decide +kernel
theorem dL_law_638 : decode cL_law 638 = .ok (.aload_n 0, 1) := by decide +kernel
theorem dL_law_639 : decode cL_law 639 = .ok (.iload_n 3, 1) := by decide +kernel
theorem dL_law_640 : decode cL_law 640 = .ok (.iconst 1, 1) := by decide +kernel
theorem dL_law_641 : decode cL_law 641 = .ok (.iadd, 1) := by decide +kernel
theorem dL_law_642 : decode cL_law 642 = .ok (.iaload, 1) := by decide +kernel
theorem dL_law_643 : decode cL_law 643 = .ok (.invokevirtual 96, 3) := by decide +kernel
theorem dL_law_646 : decode cL_law 646 = .ok (.aload_n 2, 1) := by decide +kernel
theorem dL_law_647 : decode cL_law 647 = .ok (.aload_n 0, 1) := by decide +kernel
theorem dL_law_648 : decode cL_law 648 = .ok (.iload_n 3, 1) := by decide +kernel
theorem dL_law_649 : decode cL_law 649 = .ok (.iconst 1, 1) := by decide +kernel
theorem dL_law_650 : decode cL_law 650 = .ok (.iadd, 1) := by decide +kernel
theorem dL_law_651 : decode cL_law 651 = .ok (.iaload, 1) := by decide +kernel
theorem dL_law_652 : decode cL_law 652 = .ok (.invokevirtual 99, 3) := by decide +kernel
theorem dL_law_655 : decode cL_law 655 = .ok (.if_icmp .eq 312, 3) := by decide +kernel
theorem dL_law_658 : decode cL_law 658 = .ok (.iconst 0, 1) := by decide +kernel
theorem dL_law_659 : decode cL_law 659 = .ok (.ireturn, 1) := by decide +kernel
theorem dL_law_660 : decode cL_law 660 = .ok (.aload_n 1, 1) := by decide +kernel
theorem dL_law_661 : decode cL_law 661 = .ok (.aload_n 0, 1) := by decide +kernel
theorem dL_law_662 : decode cL_law 662 = .ok (.iload_n 3, 1) := by decide +kernel
theorem dL_law_663 : decode cL_law 663 = .ok (.iconst 1, 1) := by decide +kernel
theorem dL_law_664 : decode cL_law 664 = .ok (.iadd, 1) := by decide +kernel
theorem dL_law_665 : decode cL_law 665 = .ok (.iaload, 1) := by decide +kernel
theorem dL_law_666 : decode cL_law 666 = .ok (.aload_n 0, 1) := by decide +kernel
theorem dL_law_667 : decode cL_law 667 = .ok (.iload_n 3, 1) := by decide +kernel
theorem dL_law_668 : decode cL_law 668 = .ok (.iconst 2, 1) := by decide +kernel
theorem dL_law_669 : decode cL_law 669 = .ok (.iadd, 1) := by decide +kernel
theorem dL_law_670 : decode cL_law 670 = .ok (.iaload, 1) := by decide +kernel
theorem dL_law_671 : decode cL_law 671 = .ok (.ifCond .eq 7, 3) := by decide +kernel
theorem dL_law_674 : decode cL_law 674 = .ok (.iconst 1, 1) := by decide +kernel
theorem dL_law_675 : decode cL_law 675 = .ok (.goto 4, 3) := by decide +kernel
theorem dL_law_678 : decode cL_law 678 = .ok (.iconst 0, 1) := by decide +kernel
theorem dL_law_679 : decode cL_law 679 = .ok (.invokevirtual 100, 3) := by decide +kernel
theorem dL_law_682 : decode cL_law 682 = .ok (.aload_n 2, 1) := by decide +kernel
theorem dL_law_683 : decode cL_law 683 = .ok (.aload_n 0, 1) := by decide +kernel
theorem dL_law_684 : decode cL_law 684 = .ok (.iload_n 3, 1) := by decide +kernel
theorem dL_law_685 : decode cL_law 685 = .ok (.iconst 1, 1) := by decide +kernel
theorem dL_law_686 : decode cL_law 686 = .ok (.iadd, 1) := by decide +kernel
theorem dL_law_687 : decode cL_law 687 = .ok (.iaload, 1) := by decide +kernel
theorem dL_law_688 : decode cL_law 688 = .ok (.aload_n 0, 1) := by decide +kernel
theorem dL_law_689 : decode cL_law 689 = .ok (.iload_n 3, 1) := by decide +kernel
theorem dL_law_690 : decode cL_law 690 = .ok (.iconst 2, 1) := by decide +kernel
theorem dL_law_691 : decode cL_law 691 = .ok (.iadd, 1) := by decide +kernel
theorem dL_law_692 : decode cL_law 692 = .ok (.iaload, 1) := by decide +kernel
theorem dL_law_693 : decode cL_law 693 = .ok (.ifCond .eq 7, 3) := by decide +kernel
theorem dL_law_696 : decode cL_law 696 = .ok (.iconst 1, 1) := by decide +kernel
theorem dL_law_697 : decode cL_law 697 = .ok (.goto 4, 3) := by decide +kernel
theorem dL_law_700 : decode cL_law 700 = .ok (.iconst 0, 1) := by decide +kernel
theorem dL_law_701 : decode cL_law 701 = .ok (.invokevirtual 104, 3) := by decide +kernel
theorem dL_law_704 : decode cL_law 704 = .ok (.if_icmp .eq 263, 3) := by decide +kernel
theorem dL_law_707 : decode cL_law 707 = .ok (.iconst 0, 1) := by decide +kernel
theorem dL_law_708 : decode cL_law 708 = .ok (.ireturn, 1) := by decide +kernel
theorem dL_law_709 : decode cL_law 709 = .ok (.aload_n 1, 1) := by decide +kernel
theorem dL_law_710 : decode cL_law 710 = .ok (.aload_n 0, 1) := by decide +kernel
theorem dL_law_711 : decode cL_law 711 = .ok (.iload_n 3, 1) := by decide +kernel
theorem dL_law_712 : decode cL_law 712 = .ok (.iconst 1, 1) := by decide +kernel
theorem dL_law_713 : decode cL_law 713 = .ok (.iadd, 1) := by decide +kernel
theorem dL_law_714 : decode cL_law 714 = .ok (.iaload, 1) := by decide +kernel
theorem dL_law_715 : decode cL_law 715 = .ok (.aload_n 0, 1) := by decide +kernel
theorem dL_law_716 : decode cL_law 716 = .ok (.iload_n 3, 1) := by decide +kernel
theorem dL_law_717 : decode cL_law 717 = .ok (.iconst 2, 1) := by decide +kernel
theorem dL_law_718 : decode cL_law 718 = .ok (.iadd, 1) := by decide +kernel
theorem dL_law_719 : decode cL_law 719 = .ok (.iaload, 1) := by decide +kernel
theorem dL_law_720 : decode cL_law 720 = .ok (.aload_n 0, 1) := by decide +kernel
theorem dL_law_721 : decode cL_law 721 = .ok (.iload_n 3, 1) := by decide +kernel
theorem dL_law_722 : decode cL_law 722 = .ok (.iconst 3, 1) := by decide +kernel
theorem dL_law_723 : decode cL_law 723 = .ok (.iadd, 1) := by decide +kernel
theorem dL_law_724 : decode cL_law 724 = .ok (.iaload, 1) := by decide +kernel
theorem dL_law_725 : decode cL_law 725 = .ok (.aload_n 0, 1) := by decide +kernel
theorem dL_law_726 : decode cL_law 726 = .ok (.iload_n 3, 1) := by decide +kernel
theorem dL_law_727 : decode cL_law 727 = .ok (.iconst 4, 1) := by decide +kernel
theorem dL_law_728 : decode cL_law 728 = .ok (.iadd, 1) := by decide +kernel
theorem dL_law_729 : decode cL_law 729 = .ok (.iaload, 1) := by decide +kernel
theorem dL_law_730 : decode cL_law 730 = .ok (.invokevirtual 105, 3) := by decide +kernel
theorem dL_law_733 : decode cL_law 733 = .ok (.aload_n 2, 1) := by decide +kernel
theorem dL_law_734 : decode cL_law 734 = .ok (.aload_n 0, 1) := by decide +kernel
theorem dL_law_735 : decode cL_law 735 = .ok (.iload_n 3, 1) := by decide +kernel
theorem dL_law_736 : decode cL_law 736 = .ok (.iconst 1, 1) := by decide +kernel
theorem dL_law_737 : decode cL_law 737 = .ok (.iadd, 1) := by decide +kernel
theorem dL_law_738 : decode cL_law 738 = .ok (.iaload, 1) := by decide +kernel
theorem dL_law_739 : decode cL_law 739 = .ok (.aload_n 0, 1) := by decide +kernel
theorem dL_law_740 : decode cL_law 740 = .ok (.iload_n 3, 1) := by decide +kernel
theorem dL_law_741 : decode cL_law 741 = .ok (.iconst 2, 1) := by decide +kernel
theorem dL_law_742 : decode cL_law 742 = .ok (.iadd, 1) := by decide +kernel
theorem dL_law_743 : decode cL_law 743 = .ok (.iaload, 1) := by decide +kernel
theorem dL_law_744 : decode cL_law 744 = .ok (.aload_n 0, 1) := by decide +kernel
theorem dL_law_745 : decode cL_law 745 = .ok (.iload_n 3, 1) := by decide +kernel
theorem dL_law_746 : decode cL_law 746 = .ok (.iconst 3, 1) := by decide +kernel
theorem dL_law_747 : decode cL_law 747 = .ok (.iadd, 1) := by decide +kernel
theorem dL_law_748 : decode cL_law 748 = .ok (.iaload, 1) := by decide +kernel
theorem dL_law_749 : decode cL_law 749 = .ok (.aload_n 0, 1) := by decide +kernel
theorem dL_law_750 : decode cL_law 750 = .ok (.iload_n 3, 1) := by decide +kernel
theorem dL_law_751 : decode cL_law 751 = .ok (.iconst 4, 1) := by decide +kernel
theorem dL_law_752 : decode cL_law 752 = .ok (.iadd, 1) := by decide +kernel
theorem dL_law_753 : decode cL_law 753 = .ok (.iaload, 1) := by decide +kernel
theorem dL_law_754 : decode cL_law 754 = .ok (.invokevirtual 109, 3) := by decide +kernel
theorem dL_law_757 : decode cL_law 757 = .ok (.if_icmp .eq 210, 3) := by decide +kernel
theorem dL_law_760 : decode cL_law 760 = .ok (.iconst 0, 1) := by decide +kernel
theorem dL_law_761 : decode cL_law 761 = .ok (.ireturn, 1) := by decide +kernel
theorem dL_law_762 : decode cL_law 762 = .ok (.aload_n 1, 1) := by decide +kernel
theorem dL_law_763 : decode cL_law 763 = .ok (.aload_n 0, 1) := by decide +kernel
theorem dL_law_764 : decode cL_law 764 = .ok (.iload_n 3, 1) := by decide +kernel
theorem dL_law_765 : decode cL_law 765 = .ok (.iconst 1, 1) := by decide +kernel
theorem dL_law_766 : decode cL_law 766 = .ok (.iadd, 1) := by decide +kernel
theorem dL_law_767 : decode cL_law 767 = .ok (.iaload, 1) := by decide +kernel
theorem dL_law_768 : decode cL_law 768 = .ok (.aload_n 0, 1) := by decide +kernel
theorem dL_law_769 : decode cL_law 769 = .ok (.iload_n 3, 1) := by decide +kernel
theorem dL_law_770 : decode cL_law 770 = .ok (.iconst 2, 1) := by decide +kernel
theorem dL_law_771 : decode cL_law 771 = .ok (.iadd, 1) := by decide +kernel
theorem dL_law_772 : decode cL_law 772 = .ok (.iaload, 1) := by decide +kernel
theorem dL_law_773 : decode cL_law 773 = .ok (.aload_n 0, 1) := by decide +kernel
theorem dL_law_774 : decode cL_law 774 = .ok (.iload_n 3, 1) := by decide +kernel
theorem dL_law_775 : decode cL_law 775 = .ok (.iconst 3, 1) := by decide +kernel
theorem dL_law_776 : decode cL_law 776 = .ok (.iadd, 1) := by decide +kernel
theorem dL_law_777 : decode cL_law 777 = .ok (.iaload, 1) := by decide +kernel
theorem dL_law_778 : decode cL_law 778 = .ok (.ifCond .eq 7, 3) := by decide +kernel
theorem dL_law_781 : decode cL_law 781 = .ok (.iconst 1, 1) := by decide +kernel
theorem dL_law_782 : decode cL_law 782 = .ok (.goto 4, 3) := by decide +kernel
theorem dL_law_785 : decode cL_law 785 = .ok (.iconst 0, 1) := by decide +kernel
theorem dL_law_786 : decode cL_law 786 = .ok (.invokevirtual 110, 3) := by decide +kernel
theorem dL_law_789 : decode cL_law 789 = .ok (.aload_n 2, 1) := by decide +kernel
theorem dL_law_790 : decode cL_law 790 = .ok (.aload_n 0, 1) := by decide +kernel
theorem dL_law_791 : decode cL_law 791 = .ok (.iload_n 3, 1) := by decide +kernel
theorem dL_law_792 : decode cL_law 792 = .ok (.iconst 1, 1) := by decide +kernel
theorem dL_law_793 : decode cL_law 793 = .ok (.iadd, 1) := by decide +kernel
theorem dL_law_794 : decode cL_law 794 = .ok (.iaload, 1) := by decide +kernel
theorem dL_law_795 : decode cL_law 795 = .ok (.aload_n 0, 1) := by decide +kernel
theorem dL_law_796 : decode cL_law 796 = .ok (.iload_n 3, 1) := by decide +kernel
theorem dL_law_797 : decode cL_law 797 = .ok (.iconst 2, 1) := by decide +kernel
theorem dL_law_798 : decode cL_law 798 = .ok (.iadd, 1) := by decide +kernel
theorem dL_law_799 : decode cL_law 799 = .ok (.iaload, 1) := by decide +kernel
theorem dL_law_800 : decode cL_law 800 = .ok (.aload_n 0, 1) := by decide +kernel
theorem dL_law_801 : decode cL_law 801 = .ok (.iload_n 3, 1) := by decide +kernel
theorem dL_law_802 : decode cL_law 802 = .ok (.iconst 3, 1) := by decide +kernel
theorem dL_law_803 : decode cL_law 803 = .ok (.iadd, 1) := by decide +kernel
theorem dL_law_804 : decode cL_law 804 = .ok (.iaload, 1) := by decide +kernel
theorem dL_law_805 : decode cL_law 805 = .ok (.ifCond .eq 7, 3) := by decide +kernel
theorem dL_law_808 : decode cL_law 808 = .ok (.iconst 1, 1) := by decide +kernel
theorem dL_law_809 : decode cL_law 809 = .ok (.goto 4, 3) := by decide +kernel
theorem dL_law_812 : decode cL_law 812 = .ok (.iconst 0, 1) := by decide +kernel
theorem dL_law_813 : decode cL_law 813 = .ok (.invokevirtual 114, 3) := by decide +kernel
theorem dL_law_816 : decode cL_law 816 = .ok (.if_icmp .eq 151, 3) := by decide +kernel
theorem dL_law_819 : decode cL_law 819 = .ok (.iconst 0, 1) := by decide +kernel
theorem dL_law_820 : decode cL_law 820 = .ok (.ireturn, 1) := by decide +kernel
theorem dL_law_821 : decode cL_law 821 = .ok (.aload_n 1, 1) := by decide +kernel
theorem dL_law_822 : decode cL_law 822 = .ok (.aload_n 0, 1) := by decide +kernel
theorem dL_law_823 : decode cL_law 823 = .ok (.iload_n 3, 1) := by decide +kernel
theorem dL_law_824 : decode cL_law 824 = .ok (.iconst 1, 1) := by decide +kernel
theorem dL_law_825 : decode cL_law 825 = .ok (.iadd, 1) := by decide +kernel
theorem dL_law_826 : decode cL_law 826 = .ok (.iaload, 1) := by decide +kernel
theorem dL_law_827 : decode cL_law 827 = .ok (.i2l, 1) := by decide +kernel
theorem dL_law_828 : decode cL_law 828 = .ok (.bipush 32, 2) := by decide +kernel
theorem dL_law_830 : decode cL_law 830 = .ok (.lshl, 1) := by decide +kernel
theorem dL_law_831 : decode cL_law 831 = .ok (.aload_n 0, 1) := by decide +kernel
theorem dL_law_832 : decode cL_law 832 = .ok (.iload_n 3, 1) := by decide +kernel
theorem dL_law_833 : decode cL_law 833 = .ok (.iconst 2, 1) := by decide +kernel
theorem dL_law_834 : decode cL_law 834 = .ok (.iadd, 1) := by decide +kernel
theorem dL_law_835 : decode cL_law 835 = .ok (.iaload, 1) := by decide +kernel
theorem dL_law_836 : decode cL_law 836 = .ok (.i2l, 1) := by decide +kernel
theorem dL_law_837 : decode cL_law 837 = .ok (.ldc2_w 80, 3) := by decide +kernel
theorem dL_law_840 : decode cL_law 840 = .ok (.land, 1) := by decide +kernel
theorem dL_law_841 : decode cL_law 841 = .ok (.lor, 1) := by decide +kernel
theorem dL_law_842 : decode cL_law 842 = .ok (.invokevirtual 115, 3) := by decide +kernel
theorem dL_law_845 : decode cL_law 845 = .ok (.aload_n 2, 1) := by decide +kernel
theorem dL_law_846 : decode cL_law 846 = .ok (.aload_n 0, 1) := by decide +kernel
theorem dL_law_847 : decode cL_law 847 = .ok (.iload_n 3, 1) := by decide +kernel
theorem dL_law_848 : decode cL_law 848 = .ok (.iconst 1, 1) := by decide +kernel
theorem dL_law_849 : decode cL_law 849 = .ok (.iadd, 1) := by decide +kernel
theorem dL_law_850 : decode cL_law 850 = .ok (.iaload, 1) := by decide +kernel
theorem dL_law_851 : decode cL_law 851 = .ok (.i2l, 1) := by decide +kernel
theorem dL_law_852 : decode cL_law 852 = .ok (.bipush 32, 2) := by decide +kernel
theorem dL_law_854 : decode cL_law 854 = .ok (.lshl, 1) := by decide +kernel
theorem dL_law_855 : decode cL_law 855 = .ok (.aload_n 0, 1) := by decide +kernel
theorem dL_law_856 : decode cL_law 856 = .ok (.iload_n 3, 1) := by decide +kernel
theorem dL_law_857 : decode cL_law 857 = .ok (.iconst 2, 1) := by decide +kernel
theorem dL_law_858 : decode cL_law 858 = .ok (.iadd, 1) := by decide +kernel
theorem dL_law_859 : decode cL_law 859 = .ok (.iaload, 1) := by decide +kernel
theorem dL_law_860 : decode cL_law 860 = .ok (.i2l, 1) := by decide +kernel
theorem dL_law_861 : decode cL_law 861 = .ok (.ldc2_w 80, 3) := by decide +kernel
theorem dL_law_864 : decode cL_law 864 = .ok (.land, 1) := by decide +kernel
theorem dL_law_865 : decode cL_law 865 = .ok (.lor, 1) := by decide +kernel
theorem dL_law_866 : decode cL_law 866 = .ok (.invokevirtual 119, 3) := by decide +kernel
theorem dL_law_869 : decode cL_law 869 = .ok (.lcmp, 1) := by decide +kernel
theorem dL_law_870 : decode cL_law 870 = .ok (.ifCond .eq 97, 3) := by decide +kernel
theorem dL_law_873 : decode cL_law 873 = .ok (.iconst 0, 1) := by decide +kernel
theorem dL_law_874 : decode cL_law 874 = .ok (.ireturn, 1) := by decide +kernel
theorem dL_law_875 : decode cL_law 875 = .ok (.aload_n 1, 1) := by decide +kernel
theorem dL_law_876 : decode cL_law 876 = .ok (.aload_n 0, 1) := by decide +kernel
theorem dL_law_877 : decode cL_law 877 = .ok (.iload_n 3, 1) := by decide +kernel
theorem dL_law_878 : decode cL_law 878 = .ok (.iconst 1, 1) := by decide +kernel
theorem dL_law_879 : decode cL_law 879 = .ok (.iadd, 1) := by decide +kernel
theorem dL_law_880 : decode cL_law 880 = .ok (.iaload, 1) := by decide +kernel
theorem dL_law_881 : decode cL_law 881 = .ok (.invokevirtual 120, 3) := by decide +kernel
theorem dL_law_884 : decode cL_law 884 = .ok (.aload_n 2, 1) := by decide +kernel
theorem dL_law_885 : decode cL_law 885 = .ok (.aload_n 0, 1) := by decide +kernel
theorem dL_law_886 : decode cL_law 886 = .ok (.iload_n 3, 1) := by decide +kernel
theorem dL_law_887 : decode cL_law 887 = .ok (.iconst 1, 1) := by decide +kernel
theorem dL_law_888 : decode cL_law 888 = .ok (.iadd, 1) := by decide +kernel
theorem dL_law_889 : decode cL_law 889 = .ok (.iaload, 1) := by decide +kernel
theorem dL_law_890 : decode cL_law 890 = .ok (.invokevirtual 123, 3) := by decide +kernel
theorem dL_law_893 : decode cL_law 893 = .ok (.if_icmp .eq 74, 3) := by decide +kernel
theorem dL_law_896 : decode cL_law 896 = .ok (.iconst 0, 1) := by decide +kernel
theorem dL_law_897 : decode cL_law 897 = .ok (.ireturn, 1) := by decide +kernel
theorem dL_law_898 : decode cL_law 898 = .ok (.aload_n 1, 1) := by decide +kernel
theorem dL_law_899 : decode cL_law 899 = .ok (.aload_n 0, 1) := by decide +kernel
theorem dL_law_900 : decode cL_law 900 = .ok (.iload_n 3, 1) := by decide +kernel
theorem dL_law_901 : decode cL_law 901 = .ok (.iconst 1, 1) := by decide +kernel
theorem dL_law_902 : decode cL_law 902 = .ok (.iadd, 1) := by decide +kernel
theorem dL_law_903 : decode cL_law 903 = .ok (.iaload, 1) := by decide +kernel
theorem dL_law_904 : decode cL_law 904 = .ok (.invokevirtual 124, 3) := by decide +kernel
theorem dL_law_907 : decode cL_law 907 = .ok (.aload_n 2, 1) := by decide +kernel
theorem dL_law_908 : decode cL_law 908 = .ok (.aload_n 0, 1) := by decide +kernel
theorem dL_law_909 : decode cL_law 909 = .ok (.iload_n 3, 1) := by decide +kernel
theorem dL_law_910 : decode cL_law 910 = .ok (.iconst 1, 1) := by decide +kernel
theorem dL_law_911 : decode cL_law 911 = .ok (.iadd, 1) := by decide +kernel
theorem dL_law_912 : decode cL_law 912 = .ok (.iaload, 1) := by decide +kernel
theorem dL_law_913 : decode cL_law 913 = .ok (.invokevirtual 127, 3) := by decide +kernel
theorem dL_law_916 : decode cL_law 916 = .ok (.if_icmp .eq 51, 3) := by decide +kernel
theorem dL_law_919 : decode cL_law 919 = .ok (.iconst 0, 1) := by decide +kernel
theorem dL_law_920 : decode cL_law 920 = .ok (.ireturn, 1) := by decide +kernel
theorem dL_law_921 : decode cL_law 921 = .ok (.aload_n 1, 1) := by decide +kernel
theorem dL_law_922 : decode cL_law 922 = .ok (.aload_n 0, 1) := by decide +kernel
theorem dL_law_923 : decode cL_law 923 = .ok (.iload_n 3, 1) := by decide +kernel
theorem dL_law_924 : decode cL_law 924 = .ok (.iconst 1, 1) := by decide +kernel
theorem dL_law_925 : decode cL_law 925 = .ok (.iadd, 1) := by decide +kernel
theorem dL_law_926 : decode cL_law 926 = .ok (.iaload, 1) := by decide +kernel
theorem dL_law_927 : decode cL_law 927 = .ok (.invokevirtual 128, 3) := by decide +kernel
theorem dL_law_930 : decode cL_law 930 = .ok (.aload_n 2, 1) := by decide +kernel
theorem dL_law_931 : decode cL_law 931 = .ok (.aload_n 0, 1) := by decide +kernel
theorem dL_law_932 : decode cL_law 932 = .ok (.iload_n 3, 1) := by decide +kernel
theorem dL_law_933 : decode cL_law 933 = .ok (.iconst 1, 1) := by decide +kernel
theorem dL_law_934 : decode cL_law 934 = .ok (.iadd, 1) := by decide +kernel
theorem dL_law_935 : decode cL_law 935 = .ok (.iaload, 1) := by decide +kernel
theorem dL_law_936 : decode cL_law 936 = .ok (.invokevirtual 131, 3) := by decide +kernel
theorem dL_law_939 : decode cL_law 939 = .ok (.if_icmp .eq 28, 3) := by decide +kernel
theorem dL_law_942 : decode cL_law 942 = .ok (.iconst 0, 1) := by decide +kernel
theorem dL_law_943 : decode cL_law 943 = .ok (.ireturn, 1) := by decide +kernel
theorem dL_law_944 : decode cL_law 944 = .ok (.aload_n 1, 1) := by decide +kernel
theorem dL_law_945 : decode cL_law 945 = .ok (.aload_n 0, 1) := by decide +kernel
theorem dL_law_946 : decode cL_law 946 = .ok (.iload_n 3, 1) := by decide +kernel
theorem dL_law_947 : decode cL_law 947 = .ok (.iconst 1, 1) := by decide +kernel
theorem dL_law_948 : decode cL_law 948 = .ok (.iadd, 1) := by decide +kernel
theorem dL_law_949 : decode cL_law 949 = .ok (.iaload, 1) := by decide +kernel
theorem dL_law_950 : decode cL_law 950 = .ok (.invokevirtual 132, 3) := by decide +kernel
theorem dL_law_953 : decode cL_law 953 = .ok (.aload_n 2, 1) := by decide +kernel
theorem dL_law_954 : decode cL_law 954 = .ok (.aload_n 0, 1) := by decide +kernel
theorem dL_law_955 : decode cL_law 955 = .ok (.iload_n 3, 1) := by decide +kernel
theorem dL_law_956 : decode cL_law 956 = .ok (.iconst 1, 1) := by decide +kernel
theorem dL_law_957 : decode cL_law 957 = .ok (.iadd, 1) := by decide +kernel
theorem dL_law_958 : decode cL_law 958 = .ok (.iaload, 1) := by decide +kernel
theorem dL_law_959 : decode cL_law 959 = .ok (.invokevirtual 135, 3) := by decide +kernel
theorem dL_law_962 : decode cL_law 962 = .ok (.if_icmp .eq 5, 3) := by decide +kernel
theorem dL_law_965 : decode cL_law 965 = .ok (.iconst 0, 1) := by decide +kernel
theorem dL_law_966 : decode cL_law 966 = .ok (.ireturn, 1) := by decide +kernel
theorem dL_law_967 : decode cL_law 967 = .ok (.iinc 3 5, 3) := by decide +kernel
theorem dL_law_970 : decode cL_law 970 = .ok (.goto (-952), 3) := by decide +kernel
theorem dL_law_973 : decode cL_law 973 = .ok (.iconst 1, 1) := by decide +kernel
theorem dL_law_974 : decode cL_law 974 = .ok (.ireturn, 1) := by decide +kernel
end
section
def TG : List Cond := lw_tbl.filter goodWord
theorem tg {q : Cond} (i : Nat) (h : lw_tbl[i]? = some q) (g : goodWord q = true) : q ∈ TG := List.mem_filter.mpr ⟨List.mem_of_getElem? h, g⟩
/-! The world: one table of ints, one of longs, one of arrays; the objects' shape is fixed (cE). -/
abbrev Wd : Type := (Nat → Int32) × (Nat → Int64) × (Nat → Nat → Int32)
/-- a method: its class, code, locals, answer's type, the frames and words of locals that it may use -/
abbrev MD : Type := String × ByteArray × Nat × Option FieldType × Nat × Nat
abbrev LsT : Type := List (Option Value)
abbrev classes : List vw_C := [(RX0, TX0, 1), (RX1, TX1, 12), (RX2, TX2, 5), (RX3, TX3, 15), (RX4, TX4, 24)]
def cv (ad : Nat → Nat) (v : Value) : Value := match v with
  | .ref i => .ref (ad i)
  | v => v
def cvE (ad : Nat → Nat) (e : va_E) : va_E := match e with
  | .inl a => .inl a
  | .inr q => .inr (q.1, q.2.map (cv ad))
def iE (kI : ClassId) (w : Wd) (r n : Nat) : va_E := .inl (kI, n, .inl (w.2.2 r))
def pr (b : Nat) : Nat := 3 + b
def ar (b j : Nat) : Nat := 7 + 8 * b + j
def pj (b j : Nat) : Nat := 8 + 4 * b + j
def mr (g : Nat) : Nat := 5 + g
def mc (g : Nat) : Nat := 23 + g
def pn (w : Wd) (b j : Nat) : Int32 := w.1 (pj b j)
def px (w : Wd) (b j : Nat) : Nat → Int32 := w.2.2 (ar b j)
def pE (w : Wd) (b : Nat) : va_E := .inr (1, [.int (pn w b 0), .int (pn w b 1), .int (pn w b 2), .int (pn w b 3), .ref (ar b 0), .ref (ar b 1), .ref (ar b 2), .ref (ar b 3), .ref (ar b 4), .ref (ar b 5), .ref (ar b 6), .ref (ar b 7)])
def mE (g : Nat) : va_E := .inr (0, [.ref (mc g)])
def cE (kI kZ : ClassId) (w : Wd) : List va_E := [
  .inr (3, [.ref 25, .int (w.1 0), .ref 2, .ref (pr 0), .ref (pr 1), .ref (mr 0), .int (w.1 1), .ref (mr 1), .ref 26, .ref 27, .ref 28, .ref 29, .int (w.1 2), .ref 30, .long (w.2.1 0)]),
  .inr (4, [.int (w.1 16), .int (w.1 17), .ref 31, .ref 32, .ref 33, .ref 34, .ref 35, .ref 36, .int (w.1 18), .int (w.1 19), .ref 37, .int (w.1 20), .int (w.1 21), .int (w.1 22), .int (w.1 23), .int (w.1 24), .ref 38, .int (w.1 25), .ref 39, .ref 40, .ref 41, .long (w.2.1 1), .ref 42, .ref 43]),
  .inr (2, [.int (w.1 3), .int (w.1 4), .int (w.1 5), .int (w.1 6), .int (w.1 7)]),
  pE w 0, pE w 1, mE 0, mE 1,
  iE kI w 7 5, iE kI w 8 5, iE kI w 9 5, iE kI w 10 5, iE kI w 11 5, iE kI w 12 4, iE kI w 13 4, iE kI w 14 4,
  iE kI w 15 5, iE kI w 16 5, iE kI w 17 5, iE kI w 18 5, iE kI w 19 5, iE kI w 20 4, iE kI w 21 4, iE kI w 22 4,
  iE kI w 23 420, iE kI w 24 60, iE kI w 25 48, iE kZ w 26 2, iE kI w 27 6, iE kI w 28 6, iE kZ w 29 6, iE kI w 30 4,
  iE kI w 31 5, iE kI w 32 4, iE kI w 33 60, iE kI w 34 15, iE kI w 35 5, iE kI w 36 8, iE kI w 37 48, iE kI w 38 420, iE kI w 39 6, iE kI w 40 6, iE kI w 41 6, iE kZ w 42 2, iE kI w 43 60]
def cW (ad : Nat → Nat) (kI kZ : ClassId) (w : Wd) : va_W := (cE kI kZ w).mapIdx (fun i e => (ad i, cvE ad e))
def LH (ad : Nat → Nat) (lsA : Array Slot) (nL : Nat) (ls : LsT) : Prop := lsA.size = nL ∧ lv_wf lsA ∧ ∀ (i : Nat) (v : Value), ls[i]? = some (some v) → lsA[i]? = some (.val (cv ad v))
def Cx (M : MD) (p : Program) (R : Room) (s : State) (m : MethodId) (args : Array Value) (meth : Method) (c : Code) (kI kZ : ClassId) (D : va_G) (A : Nat → Prop) (cells slots : Nat) : Prop :=
  p.tables.exec = Jvm.exec ∧ c.code = M.2.1 ∧ c.maxLocals = M.2.2.1 ∧ s.vm.findClass M.1 = some m.cls ∧ (∀ w ∈ TG, w.before args s = true) ∧ va_K D classes [(kI, .int), (kZ, .boolean)] s ∧ (∀ q : Nat, s.heap.size ≤ q → A q) ∧ M.2.2.2.2.1 ≤ R.frames ∧ M.2.2.2.2.2 ≤ R.locals ∧ cells ≤ R.cells ∧ slots ≤ R.slots
def Sn (M : MD) (pc : Nat) (ls : LsT) (st : List Value) (w : Wd) (p : Program) (l : Launch) (e : Env) (R : Room) (s : State) (m : MethodId) (args : Array Value) (below : List Frame) (meth : Method) (c : Code) (ad : Nat → Nat) (kI kZ : ClassId) (D : va_G) (A : Nat → Prop) (cells slots : Nat) (Z : State → Prop) : Prop :=
  ∀ (H : Heap) (locs : List Loc) (lsA : Array Slot), va_P D classes (cW ad kI kZ w) H → va_D A (cW ad kI kZ w) → va_S A s.heap H locs → LH ad lsA M.2.2.1 ls → W p l e R s m args below meth c H locs cells slots Z (F0 m pc lsA (st.map (cv ad)))
def Rt (M : MD) (pc : Nat) (r : Option Value) (st : List Value) : Prop :=
  (∃ (v : Int32) (ty : FieldType), r = some (.int v) ∧ st = [.int v] ∧ decode M.2.1 pc = .ok (.ireturn, 1) ∧ M.2.2.2.1 = some ty ∧ narrow ty (.int v) = .int v) ∨ (∃ v : Int64, r = some (.long v) ∧ st = [.long v] ∧ decode M.2.1 pc = .ok (.lreturn, 1) ∧ M.2.2.2.1 = some .long) ∨ (r = none ∧ st = [] ∧ decode M.2.1 pc = .ok (.return_, 1) ∧ M.2.2.2.1 = none)
/-- from pc, with these locals, this stack, this world, the method comes to its end with Q of answer and world -/
def V (M : MD) (pc : Nat) (ls : LsT) (st : List Value) (w : Wd) (Q : Option Value → Wd → Prop) : Prop :=
  ∀ (p : Program) (l : Launch) (e : Env) (R : Room) (s : State) (m : MethodId) (args : Array Value) (below : List Frame) (meth : Method) (c : Code) (ad : Nat → Nat) (kI kZ : ClassId) (D : va_G) (A : Nat → Prop) (cells slots : Nat) (Z : State → Prop),
    Cx M p R s m args meth c kI kZ D A cells slots → (∀ (r : Option Value) (u : Wd) (pc : Nat) (ls : LsT) (st : List Value), Q r u → Rt M pc r st → Sn M pc ls st u p l e R s m args below meth c ad kI kZ D A cells slots Z) →
    Sn M pc ls st w p l e R s m args below meth c ad kI kZ D A cells slots Z
theorem cv_cat (ad : Nat → Nat) (v : Value) : (cv ad v).category = v.category := by cases v <;> rfl
theorem cv_cats (ad : Nat → Nat) (st : List Value) : ((st.map (cv ad)).map fun v => v.category) = st.map fun v => v.category := by rw [List.map_map]; exact List.map_congr_left (fun v _ => cv_cat ad v)
theorem cW_at {ad : Nat → Nat} {kI kZ : ClassId} {w : Wd} {r : Nat} {x : va_E} (h : (cE kI kZ w)[r]? = some x) : (cW ad kI kZ w)[r]? = some (ad r, cvE ad x) := by
  rw [cW, List.getElem?_mapIdx, h]; rfl
theorem cW_set {ad : Nat → Nat} {kI kZ : ClassId} {w u : Wd} {r : Nat} {x : va_E} (h : (cE kI kZ w).set r x = cE kI kZ u) : (cW ad kI kZ w).set r (ad r, cvE ad x) = cW ad kI kZ u := by
  rw [cW, cW, ← h]
  apply List.ext_getElem?
  intro i
  rw [List.getElem?_mapIdx, List.getElem?_set, List.getElem?_set, List.getElem?_mapIdx, List.length_mapIdx]
  by_cases hi : r = i
  · subst hi
    rw [if_pos rfl, if_pos rfl]
    by_cases hl : r < (cE kI kZ w).length
    · rw [if_pos hl, if_pos hl]; rfl
    · rw [if_neg hl, if_neg hl]; rfl
  · rw [if_neg hi, if_neg hi]
theorem V.mono {M : MD} {pc : Nat} {ls : LsT} {st : List Value} {w : Wd} {Q Q' : Option Value → Wd → Prop} (h : V M pc ls st w Q) (hq : ∀ r u, Q r u → Q' r u) : V M pc ls st w Q' :=
  fun p l e R s m args below meth c ad kI kZ D A cells slots Z C F => h p l e R s m args below meth c ad kI kZ D A cells slots Z C (fun r u pc ls st q => F r u pc ls st (hq r u q))
/-- fewer locals known -/
theorem V.less {M : MD} {pc : Nat} {ls ls' : LsT} {st : List Value} {w : Wd} {Q : Option Value → Wd → Prop} (h : V M pc ls' st w Q) (hl : ∀ (i : Nat) (v : Value), ls'[i]? = some (some v) → ls[i]? = some (some v)) : V M pc ls st w Q :=
  fun p l e R s m args below meth c ad kI kZ D A cells slots Z C F H locs lsA hP hD hS hL => h p l e R s m args below meth c ad kI kZ D A cells slots Z C F H locs lsA hP hD hS ⟨hL.1, hL.2.1, fun i v hv => hL.2.2 i v (hl i v hv)⟩
def eL : List Value → LsT
  | [] => []
  | v :: vs => if v.category = 2 then some v :: none :: eL vs else some v :: eL vs
def eP (n : Nat) (vs : List Value) : LsT := eL vs ++ List.replicate (n - (eL vs).length) none
theorem eL_in (ad : Nat → Nat) : ∀ (vs : List Value) (k i : Nat) (v : Value), (eL vs)[i]? = some (some v) → (k + i, cv ad v) ∈ lv_args k (vs.map (cv ad))
  | [], k, i, v, h => by simp [eL] at h
  | u :: vs, k, i, v, h => by
    simp only [List.map_cons, lv_args, cv_cat]
    by_cases hc : u.category = 2
    · rw [if_pos hc]
      simp only [eL, if_pos hc] at h
      match i, h with
      | 0, h => simp at h; subst h; exact List.mem_cons_self
      | 1, h => simp at h
      | i + 2, h => exact List.mem_cons_of_mem _ (by have := eL_in ad vs (k + 2) i v (by simpa using h); rwa [show k + (i + 2) = k + 2 + i by omega])
    · rw [if_neg hc]
      simp only [eL, if_neg hc] at h
      match i, h with
      | 0, h => simp at h; subst h; exact List.mem_cons_self
      | i + 1, h => exact List.mem_cons_of_mem _ (by have := eL_in ad vs (k + 1) i v (by simpa using h); rwa [show k + (i + 1) = k + 1 + i by omega])
theorem eL_len : ∀ (ad : Nat → Nat) (vs : List Value), (lg_sl (vs.map (cv ad))).length = (eL vs).length
  | _, [] => rfl
  | ad, u :: vs => by
    have ih := eL_len ad vs
    simp only [lg_sl, List.map_cons, List.flatMap_cons, List.length_append, cv_cat] at ih ⊢
    by_cases hc : u.category = 2
    · rw [if_pos hc]; simp only [eL, if_pos hc, List.length_cons, List.length_nil, ih]; omega
    · rw [if_neg hc]; simp only [eL, if_neg hc, List.length_cons, List.length_nil, ih]; omega
theorem LH_entry {ad : Nat → Nat} {vs : List Value} {n : Nat} (h : (eL vs).length ≤ n) : LH ad ((lg_sl (vs.map (cv ad)) ++ List.replicate (n - (lg_sl (vs.map (cv ad))).length) Slot.unset).toArray) n (eP n vs) := by
  have hl := lv_entry (vs.map (cv ad)) (n := n) (by rw [eL_len]; exact h)
  refine ⟨hl.1, hl.2.1, fun i v hv => ?_⟩
  rw [eP, List.getElem?_append] at hv
  by_cases hi : i < (eL vs).length
  · rw [if_pos hi] at hv
    have := eL_in ad vs 0 i v hv
    rw [Nat.zero_add] at this
    exact hl.2.2 _ this
  · rw [if_neg hi] at hv
    have h2 := List.eq_of_mem_replicate (List.mem_of_getElem? hv)
    cases h2
/-- the locals as the kit lists them -/
def lvl (ad : Nat → Nat) (ls : LsT) : List (Nat × Value) := (List.range ls.length).filterMap (fun i => (ls[i]?.getD none).map (fun v => (i, cv ad v)))
theorem lvl_in {ad : Nat → Nat} {ls : LsT} {q : Nat × Value} : q ∈ lvl ad ls ↔ ∃ v, ls[q.1]? = some (some v) ∧ q.2 = cv ad v := by
  unfold lvl
  rw [List.mem_filterMap]
  constructor
  · rintro ⟨i, -, h⟩
    cases hi : ls[i]? with
    | none => rw [hi] at h; simp at h
    | some o =>
      cases o with
      | none => rw [hi] at h; simp at h
      | some v => rw [hi] at h; simp at h; exact ⟨v, by rw [← h]; exact hi, by rw [← h]⟩
  · rintro ⟨v, h1, h2⟩
    have hlt := (List.getElem?_eq_some_iff.mp h1).1
    exact ⟨q.1, List.mem_range.mpr hlt, by rw [h1]; simp [← h2]⟩
theorem LH.has {ad : Nat → Nat} {lsA : Array Slot} {nL : Nat} {ls : LsT} (h : LH ad lsA nL ls) : lv_has lsA nL (lvl ad ls) :=
  ⟨h.1, h.2.1, fun q hq => by obtain ⟨v, h1, h2⟩ := lvl_in.mp hq; rw [h.2.2 q.1 v h1, h2]⟩
/-- no long begins just before k -/
def okv (x : Option Value) : Bool := match x with
  | some v => v.category != 2
  | none => true
def okp (ls : LsT) (k : Nat) : Bool := match k with
  | 0 => true
  | k + 1 => okv (ls[k]?.getD none)
theorem LH.set1 {ad : Nat → Nat} {lsB : Array Slot} {nL k : Nat} {ls : LsT} {v : Value} (hk : okp ls k = true) (h : lv_has lsB nL ((k, cv ad v) :: (lvl ad ls).filter (fun q => !(q.1 == k) && !(q.1 + 1 == k && q.2.category == 2)))) : LH ad lsB nL (ls.set k (some v)) := by
  refine ⟨h.1, h.2.1, fun i x hx => ?_⟩
  rw [List.getElem?_set] at hx
  by_cases hi : k = i
  · subst hi
    rw [if_pos rfl] at hx
    split at hx
    · cases hx; exact h.2.2 _ List.mem_cons_self
    · cases hx
  · rw [if_neg hi] at hx
    refine h.2.2 (i, cv ad x) (List.mem_cons_of_mem _ (List.mem_filter.mpr ⟨lvl_in.mpr ⟨x, hx, rfl⟩, ?_⟩))
    have h1 : ¬ i = k := fun q => hi q.symm
    simp only [beq_eq_false_iff_ne.mpr h1, Bool.not_false, Bool.true_and, Bool.not_eq_true', Bool.and_eq_false_iff]
    by_cases h2 : i + 1 = k
    · right
      subst h2
      simp only [okp, hx, Option.getD_some, okv, bne_iff_ne] at hk
      simp only [cv_cat]
      simpa using hk
    · left; simpa using h2
theorem LH.set2 {ad : Nat → Nat} {lsB : Array Slot} {nL k : Nat} {ls : LsT} {v : Value} (hk : okp ls k = true) (h : lv_has lsB nL ((k, cv ad v) :: (lvl ad ls).filter (fun q => !(q.1 == k) && (!(q.1 == k + 1) && !(q.1 + 1 == k && q.2.category == 2))))) : LH ad lsB nL ((ls.set k (some v)).set (k + 1) none) := by
  refine ⟨h.1, h.2.1, fun i x hx => ?_⟩
  rw [List.getElem?_set, List.getElem?_set] at hx
  by_cases h1 : k + 1 = i
  · rw [if_pos h1] at hx
    split at hx <;> cases hx
  · rw [if_neg h1] at hx
    by_cases hi : k = i
    · subst hi
      rw [if_pos rfl] at hx
      split at hx
      · cases hx; exact h.2.2 _ List.mem_cons_self
      · cases hx
    · rw [if_neg hi] at hx
      refine h.2.2 (i, cv ad x) (List.mem_cons_of_mem _ (List.mem_filter.mpr ⟨lvl_in.mpr ⟨x, hx, rfl⟩, ?_⟩))
      have e1 : ¬ i = k := fun q => hi q.symm
      have e2 : ¬ i = k + 1 := fun q => h1 q.symm
      simp only [beq_eq_false_iff_ne.mpr e1, beq_eq_false_iff_ne.mpr e2, Bool.not_false, Bool.true_and, Bool.not_eq_true', Bool.and_eq_false_iff]
      by_cases h2 : i + 1 = k
      · right
        subst h2
        simp only [okp, hx, Option.getD_some, okv, bne_iff_ne] at hk
        simp only [cv_cat]
        simpa using hk
      · left; simpa using h2

section VR
variable {M : MD} {pc : Nat} {ls : LsT} {st : List Value} {w : Wd} {Q : Option Value → Wd → Prop}
theorem v_iadd {x y : Int32} (n : Nat) (hd : decode M.2.1 pc = .ok (.iadd, 1)) (hn : pc + 1 = n)  (h : V M n ls (.int (x + y) :: st) w Q) : V M pc ls (.int y :: .int x :: st) w Q := by
  subst hn
  intro p l e R s m args below meth c ad kI kZ D A cells slots Z C F H locs lsA hP hD hS hL
  exact lv_iadd C.1 C.2.1 hd  (h p l e R s m args below meth c ad kI kZ D A cells slots Z C F H locs lsA hP hD hS hL)
theorem v_isub {x y : Int32} (n : Nat) (hd : decode M.2.1 pc = .ok (.isub, 1)) (hn : pc + 1 = n)  (h : V M n ls (.int (x - y) :: st) w Q) : V M pc ls (.int y :: .int x :: st) w Q := by
  subst hn
  intro p l e R s m args below meth c ad kI kZ D A cells slots Z C F H locs lsA hP hD hS hL
  exact lv_isub C.1 C.2.1 hd  (h p l e R s m args below meth c ad kI kZ D A cells slots Z C F H locs lsA hP hD hS hL)
theorem v_imul {x y : Int32} (n : Nat) (hd : decode M.2.1 pc = .ok (.imul, 1)) (hn : pc + 1 = n)  (h : V M n ls (.int (x * y) :: st) w Q) : V M pc ls (.int y :: .int x :: st) w Q := by
  subst hn
  intro p l e R s m args below meth c ad kI kZ D A cells slots Z C F H locs lsA hP hD hS hL
  exact lv_imul C.1 C.2.1 hd  (h p l e R s m args below meth c ad kI kZ D A cells slots Z C F H locs lsA hP hD hS hL)
theorem v_iand {x y : Int32} (n : Nat) (hd : decode M.2.1 pc = .ok (.iand, 1)) (hn : pc + 1 = n)  (h : V M n ls (.int (x &&& y) :: st) w Q) : V M pc ls (.int y :: .int x :: st) w Q := by
  subst hn
  intro p l e R s m args below meth c ad kI kZ D A cells slots Z C F H locs lsA hP hD hS hL
  exact lv_iand C.1 C.2.1 hd  (h p l e R s m args below meth c ad kI kZ D A cells slots Z C F H locs lsA hP hD hS hL)
theorem v_ior {x y : Int32} (n : Nat) (hd : decode M.2.1 pc = .ok (.ior, 1)) (hn : pc + 1 = n)  (h : V M n ls (.int (x ||| y) :: st) w Q) : V M pc ls (.int y :: .int x :: st) w Q := by
  subst hn
  intro p l e R s m args below meth c ad kI kZ D A cells slots Z C F H locs lsA hP hD hS hL
  exact lv_ior C.1 C.2.1 hd  (h p l e R s m args below meth c ad kI kZ D A cells slots Z C F H locs lsA hP hD hS hL)
theorem v_ixor {x y : Int32} (n : Nat) (hd : decode M.2.1 pc = .ok (.ixor, 1)) (hn : pc + 1 = n)  (h : V M n ls (.int (x ^^^ y) :: st) w Q) : V M pc ls (.int y :: .int x :: st) w Q := by
  subst hn
  intro p l e R s m args below meth c ad kI kZ D A cells slots Z C F H locs lsA hP hD hS hL
  exact lv_ixor C.1 C.2.1 hd  (h p l e R s m args below meth c ad kI kZ D A cells slots Z C F H locs lsA hP hD hS hL)
theorem v_ishl {x y : Int32} (n : Nat) (hd : decode M.2.1 pc = .ok (.ishl, 1)) (hn : pc + 1 = n)  (h : V M n ls (.int (x <<< (y &&& 31)) :: st) w Q) : V M pc ls (.int y :: .int x :: st) w Q := by
  subst hn
  intro p l e R s m args below meth c ad kI kZ D A cells slots Z C F H locs lsA hP hD hS hL
  exact lv_ishl C.1 C.2.1 hd  (h p l e R s m args below meth c ad kI kZ D A cells slots Z C F H locs lsA hP hD hS hL)
theorem v_ishr {x y : Int32} (n : Nat) (hd : decode M.2.1 pc = .ok (.ishr, 1)) (hn : pc + 1 = n)  (h : V M n ls (.int (x >>> (y &&& 31)) :: st) w Q) : V M pc ls (.int y :: .int x :: st) w Q := by
  subst hn
  intro p l e R s m args below meth c ad kI kZ D A cells slots Z C F H locs lsA hP hD hS hL
  exact lv_ishr C.1 C.2.1 hd  (h p l e R s m args below meth c ad kI kZ D A cells slots Z C F H locs lsA hP hD hS hL)
theorem v_idiv {x y : Int32} (n : Nat) (hd : decode M.2.1 pc = .ok (.idiv, 1)) (hn : pc + 1 = n) (hne : ¬ y = 0) (h : V M n ls (.int (x / y) :: st) w Q) : V M pc ls (.int y :: .int x :: st) w Q := by
  subst hn
  intro p l e R s m args below meth c ad kI kZ D A cells slots Z C F H locs lsA hP hD hS hL
  exact lv_idiv C.1 C.2.1 hd hne (h p l e R s m args below meth c ad kI kZ D A cells slots Z C F H locs lsA hP hD hS hL)
theorem v_irem {x y : Int32} (n : Nat) (hd : decode M.2.1 pc = .ok (.irem, 1)) (hn : pc + 1 = n) (hne : ¬ y = 0) (h : V M n ls (.int (x - x / y * y) :: st) w Q) : V M pc ls (.int y :: .int x :: st) w Q := by
  subst hn
  intro p l e R s m args below meth c ad kI kZ D A cells slots Z C F H locs lsA hP hD hS hL
  exact lv_irem C.1 C.2.1 hd hne (h p l e R s m args below meth c ad kI kZ D A cells slots Z C F H locs lsA hP hD hS hL)
theorem v_ladd {x y : Int64} (n : Nat) (hd : decode M.2.1 pc = .ok (.ladd, 1)) (hn : pc + 1 = n)  (h : V M n ls (.long (x + y) :: st) w Q) : V M pc ls (.long y :: .long x :: st) w Q := by
  subst hn
  intro p l e R s m args below meth c ad kI kZ D A cells slots Z C F H locs lsA hP hD hS hL
  exact lv_ladd C.1 C.2.1 hd  (h p l e R s m args below meth c ad kI kZ D A cells slots Z C F H locs lsA hP hD hS hL)
theorem v_lsub {x y : Int64} (n : Nat) (hd : decode M.2.1 pc = .ok (.lsub, 1)) (hn : pc + 1 = n)  (h : V M n ls (.long (x - y) :: st) w Q) : V M pc ls (.long y :: .long x :: st) w Q := by
  subst hn
  intro p l e R s m args below meth c ad kI kZ D A cells slots Z C F H locs lsA hP hD hS hL
  exact lv_lsub C.1 C.2.1 hd  (h p l e R s m args below meth c ad kI kZ D A cells slots Z C F H locs lsA hP hD hS hL)
theorem v_lmul {x y : Int64} (n : Nat) (hd : decode M.2.1 pc = .ok (.lmul, 1)) (hn : pc + 1 = n)  (h : V M n ls (.long (x * y) :: st) w Q) : V M pc ls (.long y :: .long x :: st) w Q := by
  subst hn
  intro p l e R s m args below meth c ad kI kZ D A cells slots Z C F H locs lsA hP hD hS hL
  exact lv_lmul C.1 C.2.1 hd  (h p l e R s m args below meth c ad kI kZ D A cells slots Z C F H locs lsA hP hD hS hL)
theorem v_land {x y : Int64} (n : Nat) (hd : decode M.2.1 pc = .ok (.land, 1)) (hn : pc + 1 = n)  (h : V M n ls (.long (x &&& y) :: st) w Q) : V M pc ls (.long y :: .long x :: st) w Q := by
  subst hn
  intro p l e R s m args below meth c ad kI kZ D A cells slots Z C F H locs lsA hP hD hS hL
  exact lv_land C.1 C.2.1 hd  (h p l e R s m args below meth c ad kI kZ D A cells slots Z C F H locs lsA hP hD hS hL)
theorem v_lor {x y : Int64} (n : Nat) (hd : decode M.2.1 pc = .ok (.lor, 1)) (hn : pc + 1 = n)  (h : V M n ls (.long (x ||| y) :: st) w Q) : V M pc ls (.long y :: .long x :: st) w Q := by
  subst hn
  intro p l e R s m args below meth c ad kI kZ D A cells slots Z C F H locs lsA hP hD hS hL
  exact lv_lor C.1 C.2.1 hd  (h p l e R s m args below meth c ad kI kZ D A cells slots Z C F H locs lsA hP hD hS hL)
theorem v_ldiv {x y : Int64} (n : Nat) (hd : decode M.2.1 pc = .ok (.ldiv, 1)) (hn : pc + 1 = n) (hne : ¬ y = 0) (h : V M n ls (.long (x / y) :: st) w Q) : V M pc ls (.long y :: .long x :: st) w Q := by
  subst hn
  intro p l e R s m args below meth c ad kI kZ D A cells slots Z C F H locs lsA hP hD hS hL
  exact lv_ldiv C.1 C.2.1 hd hne (h p l e R s m args below meth c ad kI kZ D A cells slots Z C F H locs lsA hP hD hS hL)
theorem v_lrem {x y : Int64} (n : Nat) (hd : decode M.2.1 pc = .ok (.lrem, 1)) (hn : pc + 1 = n) (hne : ¬ y = 0) (h : V M n ls (.long (x - x / y * y) :: st) w Q) : V M pc ls (.long y :: .long x :: st) w Q := by
  subst hn
  intro p l e R s m args below meth c ad kI kZ D A cells slots Z C F H locs lsA hP hD hS hL
  exact lv_lrem C.1 C.2.1 hd hne (h p l e R s m args below meth c ad kI kZ D A cells slots Z C F H locs lsA hP hD hS hL)
theorem v_lneg {x : Int64} (n : Nat) (hd : decode M.2.1 pc = .ok (.lneg, 1)) (hn : pc + 1 = n)  (h : V M n ls (.long (-x) :: st) w Q) : V M pc ls (.long x :: st) w Q := by
  subst hn
  intro p l e R s m args below meth c ad kI kZ D A cells slots Z C F H locs lsA hP hD hS hL
  exact lv_lneg C.1 C.2.1 hd  (h p l e R s m args below meth c ad kI kZ D A cells slots Z C F H locs lsA hP hD hS hL)
theorem v_iushr {x y : Int32} (n : Nat) (hd : decode M.2.1 pc = .ok (.iushr, 1)) (hn : pc + 1 = n)  (h : V M n ls (.int ((x.toUInt32 >>> (y.toUInt32 &&& Int32.toUInt32 31)).toInt32) :: st) w Q) : V M pc ls (.int y :: .int x :: st) w Q := by
  subst hn
  intro p l e R s m args below meth c ad kI kZ D A cells slots Z C F H locs lsA hP hD hS hL
  exact lv_iushr C.1 C.2.1 hd rfl (h p l e R s m args below meth c ad kI kZ D A cells slots Z C F H locs lsA hP hD hS hL)
theorem v_lushr {x : Int64} {y : Int32} (n : Nat) (hd : decode M.2.1 pc = .ok (.lushr, 1)) (hn : pc + 1 = n)  (h : V M n ls (.long ((x.toUInt64 >>> (y.toInt64.toUInt64 &&& Int64.toUInt64 63)).toInt64) :: st) w Q) : V M pc ls (.int y :: .long x :: st) w Q := by
  subst hn
  intro p l e R s m args below meth c ad kI kZ D A cells slots Z C F H locs lsA hP hD hS hL
  exact lv_lushr C.1 C.2.1 hd rfl (h p l e R s m args below meth c ad kI kZ D A cells slots Z C F H locs lsA hP hD hS hL)
theorem v_lshl {x : Int64} {y : Int32} (n : Nat) (hd : decode M.2.1 pc = .ok (.lshl, 1)) (hn : pc + 1 = n)  (h : V M n ls (.long (x <<< (y.toInt64 &&& 63)) :: st) w Q) : V M pc ls (.int y :: .long x :: st) w Q := by
  subst hn
  intro p l e R s m args below meth c ad kI kZ D A cells slots Z C F H locs lsA hP hD hS hL
  exact lv_lshl C.1 C.2.1 hd rfl (h p l e R s m args below meth c ad kI kZ D A cells slots Z C F H locs lsA hP hD hS hL)
theorem v_i2l {x : Int32} (n : Nat) (hd : decode M.2.1 pc = .ok (.i2l, 1)) (hn : pc + 1 = n)  (h : V M n ls (.long (x.toInt64) :: st) w Q) : V M pc ls (.int x :: st) w Q := by
  subst hn
  intro p l e R s m args below meth c ad kI kZ D A cells slots Z C F H locs lsA hP hD hS hL
  exact lv_i2l C.1 C.2.1 hd rfl (h p l e R s m args below meth c ad kI kZ D A cells slots Z C F H locs lsA hP hD hS hL)
theorem v_l2i {x : Int64} (n : Nat) (hd : decode M.2.1 pc = .ok (.l2i, 1)) (hn : pc + 1 = n)  (h : V M n ls (.int (x.toInt32) :: st) w Q) : V M pc ls (.long x :: st) w Q := by
  subst hn
  intro p l e R s m args below meth c ad kI kZ D A cells slots Z C F H locs lsA hP hD hS hL
  exact lv_l2i C.1 C.2.1 hd rfl (h p l e R s m args below meth c ad kI kZ D A cells slots Z C F H locs lsA hP hD hS hL)
theorem v_lcmp {x y : Int64} (n : Nat) (hd : decode M.2.1 pc = .ok (.lcmp, 1)) (hn : pc + 1 = n)  (h : V M n ls (.int (lg_cmp x y) :: st) w Q) : V M pc ls (.long y :: .long x :: st) w Q := by
  subst hn
  intro p l e R s m args below meth c ad kI kZ D A cells slots Z C F H locs lsA hP hD hS hL
  exact W.lcmp C.1 C.2.1 hd  (h p l e R s m args below meth c ad kI kZ D A cells slots Z C F H locs lsA hP hD hS hL)
theorem v_iconst {v : Int32} {z : Int} (n : Nat) (hd : decode M.2.1 pc = .ok (.iconst z, 1)) (hn : pc + 1 = n) (hv : Int32.ofInt z = v) (h : V M n ls (.int v :: st) w Q) : V M pc ls (st) w Q := by
  subst hn
  intro p l e R s m args below meth c ad kI kZ D A cells slots Z C F H locs lsA hP hD hS hL
  exact lv_iconst C.1 C.2.1 hd hv (h p l e R s m args below meth c ad kI kZ D A cells slots Z C F H locs lsA hP hD hS hL)
theorem v_bipush {v : Int32} {z : Int} (n : Nat) (hd : decode M.2.1 pc = .ok (.bipush z, 2)) (hn : pc + 2 = n) (hv : (Int8.ofInt z).toInt32 = v) (h : V M n ls (.int v :: st) w Q) : V M pc ls (st) w Q := by
  subst hn
  intro p l e R s m args below meth c ad kI kZ D A cells slots Z C F H locs lsA hP hD hS hL
  exact lv_bipush C.1 C.2.1 hd hv (h p l e R s m args below meth c ad kI kZ D A cells slots Z C F H locs lsA hP hD hS hL)
theorem v_sipush {v : Int32} {z : Int} (n : Nat) (hd : decode M.2.1 pc = .ok (.sipush z, 3)) (hn : pc + 3 = n) (hv : (Int16.ofInt z).toInt32 = v) (h : V M n ls (.int v :: st) w Q) : V M pc ls (st) w Q := by
  subst hn
  intro p l e R s m args below meth c ad kI kZ D A cells slots Z C F H locs lsA hP hD hS hL
  exact lv_sipush C.1 C.2.1 hd hv (h p l e R s m args below meth c ad kI kZ D A cells slots Z C F H locs lsA hP hD hS hL)
theorem v_lconst {v : Int64} {z : Fin 2} (n : Nat) (hd : decode M.2.1 pc = .ok (.lconst z, 1)) (hn : pc + 1 = n) (hv : Int64.ofNat (z : Nat) = v) (h : V M n ls (.long v :: st) w Q) : V M pc ls (st) w Q := by
  subst hn
  intro p l e R s m args below meth c ad kI kZ D A cells slots Z C F H locs lsA hP hD hS hL
  exact lv_lconst C.1 C.2.1 hd hv (h p l e R s m args below meth c ad kI kZ D A cells slots Z C F H locs lsA hP hD hS hL)
theorem v_ldc2 {v : Int64} {ix : Nat} (n : Nat) (hd : decode M.2.1 pc = .ok (.ldc2_w ix, 3)) (hn : pc + 3 = n) (hv : Cond.constantLong M.1 ix v ∈ TG) (h : V M n ls (.long v :: st) w Q) : V M pc ls (st) w Q := by
  subst hn
  intro p l e R s m args below meth c ad kI kZ D A cells slots Z C F H locs lsA hP hD hS hL
  exact lv_ldc2 C.1 C.2.1 C.2.2.2.1 (C.2.2.2.2.1 _ hv) hd (h p l e R s m args below meth c ad kI kZ D A cells slots Z C F H locs lsA hP hD hS hL)
theorem v_ldcw {v : Int32} {ix : Nat} (n : Nat) (hd : decode M.2.1 pc = .ok (.ldc_w ix, 3)) (hn : pc + 3 = n) (hv : Cond.constant M.1 ix v ∈ TG) (h : V M n ls (.int v :: st) w Q) : V M pc ls (st) w Q := by
  subst hn
  intro p l e R s m args below meth c ad kI kZ D A cells slots Z C F H locs lsA hP hD hS hL
  exact lv_ldcw C.1 C.2.1 C.2.2.2.1 (C.2.2.2.2.1 _ hv) hd (h p l e R s m args below meth c ad kI kZ D A cells slots Z C F H locs lsA hP hD hS hL)
theorem v_dup {x : Value} (n : Nat) (hd : decode M.2.1 pc = .ok (.dup, 1)) (hn : pc + 1 = n) (hx : x.category = 1) (h : V M n ls (x :: x :: st) w Q) : V M pc ls (x :: st) w Q := by
  subst hn
  intro p l e R s m args below meth c ad kI kZ D A cells slots Z C F H locs lsA hP hD hS hL
  exact lv_dup C.1 C.2.1 hd ((cv_cat _ _).trans hx) (h p l e R s m args below meth c ad kI kZ D A cells slots Z C F H locs lsA hP hD hS hL)
theorem v_pop {x : Value} (n : Nat) (hd : decode M.2.1 pc = .ok (.pop, 1)) (hn : pc + 1 = n) (hx : x.category = 1) (h : V M n ls (st) w Q) : V M pc ls (x :: st) w Q := by
  subst hn
  intro p l e R s m args below meth c ad kI kZ D A cells slots Z C F H locs lsA hP hD hS hL
  exact lv_pop C.1 C.2.1 hd ((cv_cat _ _).trans hx) (h p l e R s m args below meth c ad kI kZ D A cells slots Z C F H locs lsA hP hD hS hL)
theorem v_dup2 {x y : Value} (n : Nat) (hd : decode M.2.1 pc = .ok (.dup2, 1)) (hn : pc + 1 = n) (hx : x.category = 1) (hy : y.category = 1) (h : V M n ls (x :: y :: x :: y :: st) w Q) : V M pc ls (x :: y :: st) w Q := by
  subst hn
  intro p l e R s m args below meth c ad kI kZ D A cells slots Z C F H locs lsA hP hD hS hL
  exact lv_dup2_11 C.1 C.2.1 hd ((cv_cat _ _).trans hx) ((cv_cat _ _).trans hy) (h p l e R s m args below meth c ad kI kZ D A cells slots Z C F H locs lsA hP hD hS hL)
theorem v_dup2l {x : Value} (n : Nat) (hd : decode M.2.1 pc = .ok (.dup2, 1)) (hn : pc + 1 = n) (hx : x.category = 2) (h : V M n ls (x :: x :: st) w Q) : V M pc ls (x :: st) w Q := by
  subst hn
  intro p l e R s m args below meth c ad kI kZ D A cells slots Z C F H locs lsA hP hD hS hL
  exact lv_dup2_2 C.1 C.2.1 hd ((cv_cat _ _).trans hx) (h p l e R s m args below meth c ad kI kZ D A cells slots Z C F H locs lsA hP hD hS hL)
theorem v_iload_n {x : Int32} {k : Fin 4} (n : Nat) (hd : decode M.2.1 pc = .ok (.iload_n k, 1)) (hn : pc + 1 = n) (hx : ls[(k : Nat)]? = some (some (.int x))) (h : V M n ls (.int x :: st) w Q) : V M pc ls (st) w Q := by
  subst hn
  intro p l e R s m args below meth c ad kI kZ D A cells slots Z C F H locs lsA hP hD hS hL
  exact lv_iload_n C.1 C.2.1 hd rfl (hL.2.2 _ _ hx) (h p l e R s m args below meth c ad kI kZ D A cells slots Z C F H locs lsA hP hD hS hL)
theorem v_iload {x : Int32} {k : Nat} (n : Nat) (hd : decode M.2.1 pc = .ok (.iload k, 2)) (hn : pc + 2 = n) (hx : ls[k]? = some (some (.int x))) (h : V M n ls (.int x :: st) w Q) : V M pc ls (st) w Q := by
  subst hn
  intro p l e R s m args below meth c ad kI kZ D A cells slots Z C F H locs lsA hP hD hS hL
  exact lv_iload C.1 C.2.1 hd (hL.2.2 _ _ hx) (h p l e R s m args below meth c ad kI kZ D A cells slots Z C F H locs lsA hP hD hS hL)
theorem v_lload_n {x : Int64} {k : Fin 4} (n : Nat) (hd : decode M.2.1 pc = .ok (.lload_n k, 1)) (hn : pc + 1 = n) (hx : ls[(k : Nat)]? = some (some (.long x))) (h : V M n ls (.long x :: st) w Q) : V M pc ls (st) w Q := by
  subst hn
  intro p l e R s m args below meth c ad kI kZ D A cells slots Z C F H locs lsA hP hD hS hL
  exact lv_lload_n C.1 C.2.1 hd rfl (hL.2.2 _ _ hx) (h p l e R s m args below meth c ad kI kZ D A cells slots Z C F H locs lsA hP hD hS hL)
theorem v_lload {x : Int64} {k : Nat} (n : Nat) (hd : decode M.2.1 pc = .ok (.lload k, 2)) (hn : pc + 2 = n) (hx : ls[k]? = some (some (.long x))) (h : V M n ls (.long x :: st) w Q) : V M pc ls (st) w Q := by
  subst hn
  intro p l e R s m args below meth c ad kI kZ D A cells slots Z C F H locs lsA hP hD hS hL
  exact lv_lload C.1 C.2.1 hd (hL.2.2 _ _ hx) (h p l e R s m args below meth c ad kI kZ D A cells slots Z C F H locs lsA hP hD hS hL)
theorem v_aload_n {x : Nat} {k : Fin 4} (n : Nat) (hd : decode M.2.1 pc = .ok (.aload_n k, 1)) (hn : pc + 1 = n) (hx : ls[(k : Nat)]? = some (some (.ref x))) (h : V M n ls (.ref x :: st) w Q) : V M pc ls (st) w Q := by
  subst hn
  intro p l e R s m args below meth c ad kI kZ D A cells slots Z C F H locs lsA hP hD hS hL
  exact lv_aload_n C.1 C.2.1 hd rfl (hL.2.2 _ _ hx) (h p l e R s m args below meth c ad kI kZ D A cells slots Z C F H locs lsA hP hD hS hL)
theorem v_aload {x : Nat} {k : Nat} (n : Nat) (hd : decode M.2.1 pc = .ok (.aload k, 2)) (hn : pc + 2 = n) (hx : ls[k]? = some (some (.ref x))) (h : V M n ls (.ref x :: st) w Q) : V M pc ls (st) w Q := by
  subst hn
  intro p l e R s m args below meth c ad kI kZ D A cells slots Z C F H locs lsA hP hD hS hL
  exact lv_aload C.1 C.2.1 hd (hL.2.2 _ _ hx) (h p l e R s m args below meth c ad kI kZ D A cells slots Z C F H locs lsA hP hD hS hL)
theorem v_istore_n {x : Int32} {k : Fin 4} {ls2 : LsT} (n : Nat) (hd : decode M.2.1 pc = .ok (.istore_n k, 1)) (hn : pc + 1 = n) (hb : (k : Nat) < M.2.2.1) (hk : okp ls (k : Nat) = true) (hl : ls.set (k : Nat) (some (.int x)) = ls2) (h : V M n ls2 st w Q) : V M pc ls (.int x :: st) w Q := by
  subst hn; subst hl
  intro p l e R s m args below meth c ad kI kZ D A cells slots Z C F H locs lsA hP hD hS hL
  exact lv_istore_n C.1 C.2.1 hd rfl hL.has hb rfl (fun lsB hB => h p l e R s m args below meth c ad kI kZ D A cells slots Z C F H locs lsB hP hD hS (LH.set1 (v := .int x) hk hB))
theorem v_istore {x : Int32} {k : Nat} {ls2 : LsT} (n : Nat) (hd : decode M.2.1 pc = .ok (.istore k, 2)) (hn : pc + 2 = n) (hb : (k : Nat) < M.2.2.1) (hk : okp ls (k : Nat) = true) (hl : ls.set (k : Nat) (some (.int x)) = ls2) (h : V M n ls2 st w Q) : V M pc ls (.int x :: st) w Q := by
  subst hn; subst hl
  intro p l e R s m args below meth c ad kI kZ D A cells slots Z C F H locs lsA hP hD hS hL
  exact lv_istore C.1 C.2.1 hd  hL.has hb rfl (fun lsB hB => h p l e R s m args below meth c ad kI kZ D A cells slots Z C F H locs lsB hP hD hS (LH.set1 (v := .int x) hk hB))
theorem v_astore_n {x : Nat} {k : Fin 4} {ls2 : LsT} (n : Nat) (hd : decode M.2.1 pc = .ok (.astore_n k, 1)) (hn : pc + 1 = n) (hb : (k : Nat) < M.2.2.1) (hk : okp ls (k : Nat) = true) (hl : ls.set (k : Nat) (some (.ref x)) = ls2) (h : V M n ls2 st w Q) : V M pc ls (.ref x :: st) w Q := by
  subst hn; subst hl
  intro p l e R s m args below meth c ad kI kZ D A cells slots Z C F H locs lsA hP hD hS hL
  exact lv_astore_n C.1 C.2.1 hd rfl hL.has hb rfl (fun lsB hB => h p l e R s m args below meth c ad kI kZ D A cells slots Z C F H locs lsB hP hD hS (LH.set1 (v := .ref x) hk hB))
theorem v_astore {x : Nat} {k : Nat} {ls2 : LsT} (n : Nat) (hd : decode M.2.1 pc = .ok (.astore k, 2)) (hn : pc + 2 = n) (hb : (k : Nat) < M.2.2.1) (hk : okp ls (k : Nat) = true) (hl : ls.set (k : Nat) (some (.ref x)) = ls2) (h : V M n ls2 st w Q) : V M pc ls (.ref x :: st) w Q := by
  subst hn; subst hl
  intro p l e R s m args below meth c ad kI kZ D A cells slots Z C F H locs lsA hP hD hS hL
  exact lv_astore C.1 C.2.1 hd  hL.has hb rfl (fun lsB hB => h p l e R s m args below meth c ad kI kZ D A cells slots Z C F H locs lsB hP hD hS (LH.set1 (v := .ref x) hk hB))
theorem v_lstore_n {x : Int64} {k : Fin 4} {ls2 : LsT} (n : Nat) (hd : decode M.2.1 pc = .ok (.lstore_n k, 1)) (hn : pc + 1 = n) (hb : (k : Nat) + 1 < M.2.2.1) (hk : okp ls (k : Nat) = true) (hl : (ls.set (k : Nat) (some (.long x))).set ((k : Nat) + 1) none = ls2) (h : V M n ls2 st w Q) : V M pc ls (.long x :: st) w Q := by
  subst hn; subst hl
  intro p l e R s m args below meth c ad kI kZ D A cells slots Z C F H locs lsA hP hD hS hL
  exact lv_lstore_n C.1 C.2.1 hd rfl hL.has hb rfl (fun lsB hB => h p l e R s m args below meth c ad kI kZ D A cells slots Z C F H locs lsB hP hD hS (LH.set2 (v := .long x) hk hB))
theorem v_lstore {x : Int64} {k : Nat} {ls2 : LsT} (n : Nat) (hd : decode M.2.1 pc = .ok (.lstore k, 2)) (hn : pc + 2 = n) (hb : (k : Nat) + 1 < M.2.2.1) (hk : okp ls (k : Nat) = true) (hl : (ls.set (k : Nat) (some (.long x))).set ((k : Nat) + 1) none = ls2) (h : V M n ls2 st w Q) : V M pc ls (.long x :: st) w Q := by
  subst hn; subst hl
  intro p l e R s m args below meth c ad kI kZ D A cells slots Z C F H locs lsA hP hD hS hL
  exact lv_lstore C.1 C.2.1 hd  hL.has hb rfl (fun lsB hB => h p l e R s m args below meth c ad kI kZ D A cells slots Z C F H locs lsB hP hD hS (LH.set2 (v := .long x) hk hB))
theorem v_iinc {x v : Int32} {k : Nat} {z : Int} {ls2 : LsT} (n : Nat) (hd : decode M.2.1 pc = .ok (.iinc k z, 3)) (hn : pc + 3 = n) (hx : ls[k]? = some (some (.int x))) (hv : x + Int32.ofInt z = v) (hb : k < M.2.2.1) (hk : okp ls k = true) (hl : ls.set k (some (.int v)) = ls2) (h : V M n ls2 st w Q) : V M pc ls st w Q := by
  subst hn; subst hl
  intro p l e R s m args below meth c ad kI kZ D A cells slots Z C F H locs lsA hP hD hS hL
  obtain ⟨j, hj⟩ := List.getElem?_of_mem (lvl_in.mpr ⟨_, hx, rfl⟩ : (k, cv ad (.int x)) ∈ lvl ad ls)
  exact lv_iinc C.1 C.2.1 hd hL.has hj hv hb rfl (fun lsB hB => h p l e R s m args below meth c ad kI kZ D A cells slots Z C F H locs lsB hP hD hS (LH.set1 (v := .int v) hk hB))
theorem v_if_eq {x : Int32} {off : Int} (t n : Nat) (hd : decode M.2.1 pc = .ok (.ifCond .eq off, 3)) (hn : pc + 3 = n) (ht : (pc : Int) + off = (t : Int)) (h1 : x = 0 → V M t ls st w Q) (h2 : ¬ x = 0 → V M n ls st w Q) : V M pc ls (.int x :: st) w Q := by
  subst hn
  intro p l e R s m args below meth c ad kI kZ D A cells slots Z C F H locs lsA hP hD hS hL
  exact lv_if_eq C.1 C.2.1 hd ht (fun q => h1 q p l e R s m args below meth c ad kI kZ D A cells slots Z C F H locs lsA hP hD hS hL) (fun q => h2 q p l e R s m args below meth c ad kI kZ D A cells slots Z C F H locs lsA hP hD hS hL)
theorem v_icmp_eq {x y : Int32} {off : Int} (t n : Nat) (hd : decode M.2.1 pc = .ok (.if_icmp .eq off, 3)) (hn : pc + 3 = n) (ht : (pc : Int) + off = (t : Int)) (h1 : x = y → V M t ls st w Q) (h2 : ¬ x = y → V M n ls st w Q) : V M pc ls (.int y :: .int x :: st) w Q := by
  subst hn
  intro p l e R s m args below meth c ad kI kZ D A cells slots Z C F H locs lsA hP hD hS hL
  exact lv_icmp_eq C.1 C.2.1 hd ht (fun q => h1 q p l e R s m args below meth c ad kI kZ D A cells slots Z C F H locs lsA hP hD hS hL) (fun q => h2 q p l e R s m args below meth c ad kI kZ D A cells slots Z C F H locs lsA hP hD hS hL)
theorem v_if_ne {x : Int32} {off : Int} (t n : Nat) (hd : decode M.2.1 pc = .ok (.ifCond .ne off, 3)) (hn : pc + 3 = n) (ht : (pc : Int) + off = (t : Int)) (h1 : ¬ x = 0 → V M t ls st w Q) (h2 : x = 0 → V M n ls st w Q) : V M pc ls (.int x :: st) w Q := by
  subst hn
  intro p l e R s m args below meth c ad kI kZ D A cells slots Z C F H locs lsA hP hD hS hL
  exact lv_if_ne C.1 C.2.1 hd ht (fun q => h1 q p l e R s m args below meth c ad kI kZ D A cells slots Z C F H locs lsA hP hD hS hL) (fun q => h2 (by simpa using q) p l e R s m args below meth c ad kI kZ D A cells slots Z C F H locs lsA hP hD hS hL)
theorem v_icmp_ne {x y : Int32} {off : Int} (t n : Nat) (hd : decode M.2.1 pc = .ok (.if_icmp .ne off, 3)) (hn : pc + 3 = n) (ht : (pc : Int) + off = (t : Int)) (h1 : ¬ x = y → V M t ls st w Q) (h2 : x = y → V M n ls st w Q) : V M pc ls (.int y :: .int x :: st) w Q := by
  subst hn
  intro p l e R s m args below meth c ad kI kZ D A cells slots Z C F H locs lsA hP hD hS hL
  exact lv_icmp_ne C.1 C.2.1 hd ht (fun q => h1 q p l e R s m args below meth c ad kI kZ D A cells slots Z C F H locs lsA hP hD hS hL) (fun q => h2 (by simpa using q) p l e R s m args below meth c ad kI kZ D A cells slots Z C F H locs lsA hP hD hS hL)
theorem v_if_lt {x : Int32} {off : Int} (t n : Nat) (hd : decode M.2.1 pc = .ok (.ifCond .lt off, 3)) (hn : pc + 3 = n) (ht : (pc : Int) + off = (t : Int)) (h1 : x < 0 → V M t ls st w Q) (h2 : ¬ x < 0 → V M n ls st w Q) : V M pc ls (.int x :: st) w Q := by
  subst hn
  intro p l e R s m args below meth c ad kI kZ D A cells slots Z C F H locs lsA hP hD hS hL
  exact lv_if_lt C.1 C.2.1 hd ht (fun q => h1 q p l e R s m args below meth c ad kI kZ D A cells slots Z C F H locs lsA hP hD hS hL) (fun q => h2 q p l e R s m args below meth c ad kI kZ D A cells slots Z C F H locs lsA hP hD hS hL)
theorem v_icmp_lt {x y : Int32} {off : Int} (t n : Nat) (hd : decode M.2.1 pc = .ok (.if_icmp .lt off, 3)) (hn : pc + 3 = n) (ht : (pc : Int) + off = (t : Int)) (h1 : x < y → V M t ls st w Q) (h2 : ¬ x < y → V M n ls st w Q) : V M pc ls (.int y :: .int x :: st) w Q := by
  subst hn
  intro p l e R s m args below meth c ad kI kZ D A cells slots Z C F H locs lsA hP hD hS hL
  exact lv_icmp_lt C.1 C.2.1 hd ht (fun q => h1 q p l e R s m args below meth c ad kI kZ D A cells slots Z C F H locs lsA hP hD hS hL) (fun q => h2 q p l e R s m args below meth c ad kI kZ D A cells slots Z C F H locs lsA hP hD hS hL)
theorem v_if_ge {x : Int32} {off : Int} (t n : Nat) (hd : decode M.2.1 pc = .ok (.ifCond .ge off, 3)) (hn : pc + 3 = n) (ht : (pc : Int) + off = (t : Int)) (h1 : 0 ≤ x → V M t ls st w Q) (h2 : ¬ 0 ≤ x → V M n ls st w Q) : V M pc ls (.int x :: st) w Q := by
  subst hn
  intro p l e R s m args below meth c ad kI kZ D A cells slots Z C F H locs lsA hP hD hS hL
  exact lv_if_ge C.1 C.2.1 hd ht (fun q => h1 q p l e R s m args below meth c ad kI kZ D A cells slots Z C F H locs lsA hP hD hS hL) (fun q => h2 q p l e R s m args below meth c ad kI kZ D A cells slots Z C F H locs lsA hP hD hS hL)
theorem v_icmp_ge {x y : Int32} {off : Int} (t n : Nat) (hd : decode M.2.1 pc = .ok (.if_icmp .ge off, 3)) (hn : pc + 3 = n) (ht : (pc : Int) + off = (t : Int)) (h1 : y ≤ x → V M t ls st w Q) (h2 : ¬ y ≤ x → V M n ls st w Q) : V M pc ls (.int y :: .int x :: st) w Q := by
  subst hn
  intro p l e R s m args below meth c ad kI kZ D A cells slots Z C F H locs lsA hP hD hS hL
  exact lv_icmp_ge C.1 C.2.1 hd ht (fun q => h1 q p l e R s m args below meth c ad kI kZ D A cells slots Z C F H locs lsA hP hD hS hL) (fun q => h2 q p l e R s m args below meth c ad kI kZ D A cells slots Z C F H locs lsA hP hD hS hL)
theorem v_if_gt {x : Int32} {off : Int} (t n : Nat) (hd : decode M.2.1 pc = .ok (.ifCond .gt off, 3)) (hn : pc + 3 = n) (ht : (pc : Int) + off = (t : Int)) (h1 : 0 < x → V M t ls st w Q) (h2 : ¬ 0 < x → V M n ls st w Q) : V M pc ls (.int x :: st) w Q := by
  subst hn
  intro p l e R s m args below meth c ad kI kZ D A cells slots Z C F H locs lsA hP hD hS hL
  exact lv_if_gt C.1 C.2.1 hd ht (fun q => h1 q p l e R s m args below meth c ad kI kZ D A cells slots Z C F H locs lsA hP hD hS hL) (fun q => h2 q p l e R s m args below meth c ad kI kZ D A cells slots Z C F H locs lsA hP hD hS hL)
theorem v_icmp_gt {x y : Int32} {off : Int} (t n : Nat) (hd : decode M.2.1 pc = .ok (.if_icmp .gt off, 3)) (hn : pc + 3 = n) (ht : (pc : Int) + off = (t : Int)) (h1 : y < x → V M t ls st w Q) (h2 : ¬ y < x → V M n ls st w Q) : V M pc ls (.int y :: .int x :: st) w Q := by
  subst hn
  intro p l e R s m args below meth c ad kI kZ D A cells slots Z C F H locs lsA hP hD hS hL
  exact lv_icmp_gt C.1 C.2.1 hd ht (fun q => h1 q p l e R s m args below meth c ad kI kZ D A cells slots Z C F H locs lsA hP hD hS hL) (fun q => h2 q p l e R s m args below meth c ad kI kZ D A cells slots Z C F H locs lsA hP hD hS hL)
theorem v_if_le {x : Int32} {off : Int} (t n : Nat) (hd : decode M.2.1 pc = .ok (.ifCond .le off, 3)) (hn : pc + 3 = n) (ht : (pc : Int) + off = (t : Int)) (h1 : x ≤ 0 → V M t ls st w Q) (h2 : ¬ x ≤ 0 → V M n ls st w Q) : V M pc ls (.int x :: st) w Q := by
  subst hn
  intro p l e R s m args below meth c ad kI kZ D A cells slots Z C F H locs lsA hP hD hS hL
  exact lv_if_le C.1 C.2.1 hd ht (fun q => h1 q p l e R s m args below meth c ad kI kZ D A cells slots Z C F H locs lsA hP hD hS hL) (fun q => h2 q p l e R s m args below meth c ad kI kZ D A cells slots Z C F H locs lsA hP hD hS hL)
theorem v_icmp_le {x y : Int32} {off : Int} (t n : Nat) (hd : decode M.2.1 pc = .ok (.if_icmp .le off, 3)) (hn : pc + 3 = n) (ht : (pc : Int) + off = (t : Int)) (h1 : x ≤ y → V M t ls st w Q) (h2 : ¬ x ≤ y → V M n ls st w Q) : V M pc ls (.int y :: .int x :: st) w Q := by
  subst hn
  intro p l e R s m args below meth c ad kI kZ D A cells slots Z C F H locs lsA hP hD hS hL
  exact lv_icmp_le C.1 C.2.1 hd ht (fun q => h1 q p l e R s m args below meth c ad kI kZ D A cells slots Z C F H locs lsA hP hD hS hL) (fun q => h2 q p l e R s m args below meth c ad kI kZ D A cells slots Z C F H locs lsA hP hD hS hL)
theorem v_goto {off : Int} (t : Nat) (hd : decode M.2.1 pc = .ok (.goto off, 3)) (ht : (pc : Int) + off = (t : Int)) (h : V M t ls st w Q) : V M pc ls st w Q := by
  intro p l e R s m args below meth c ad kI kZ D A cells slots Z C F H locs lsA hP hD hS hL
  exact lv_goto C.1 C.2.1 hd ht (h p l e R s m args below meth c ad kI kZ D A cells slots Z C F H locs lsA hP hD hS hL)
theorem v_iret {v : Int32} (hd : decode M.2.1 pc = .ok (.ireturn, 1)) (hr : M.2.2.2.1 = some .int) (h : Q (some (.int v)) w) : V M pc ls [.int v] w Q := by
  intro p l e R s m args below meth c ad kI kZ D A cells slots Z C F
  exact F _ _ _ _ _ h (Or.inl ⟨v, .int, rfl, rfl, hd, hr, rfl⟩)
theorem v_zret {v : Int32} (hd : decode M.2.1 pc = .ok (.ireturn, 1)) (hr : M.2.2.2.1 = some .boolean) (hv : v = 0 ∨ v = 1) (h : Q (some (.int v)) w) : V M pc ls [.int v] w Q := by
  intro p l e R s m args below meth c ad kI kZ D A cells slots Z C F
  exact F _ _ _ _ _ h (Or.inl ⟨v, .boolean, rfl, rfl, hd, hr, by rcases hv with rfl | rfl <;> rfl⟩)
theorem v_lret {v : Int64} (hd : decode M.2.1 pc = .ok (.lreturn, 1)) (hr : M.2.2.2.1 = some .long) (h : Q (some (.long v)) w) : V M pc ls [.long v] w Q := by
  intro p l e R s m args below meth c ad kI kZ D A cells slots Z C F
  exact F _ _ _ _ _ h (Or.inr (Or.inl ⟨v, rfl, rfl, hd, hr⟩))
theorem v_vret (hd : decode M.2.1 pc = .ok (.return_, 1)) (hr : M.2.2.2.1 = none) (h : Q none w) : V M pc ls [] w Q := by
  intro p l e R s m args below meth c ad kI kZ D A cells slots Z C F
  exact F _ _ _ _ _ h (Or.inr (Or.inr ⟨rfl, rfl, hd, hr⟩))
theorem v_tabOut {dflt lo hi : Int} {offs : Array Int} {len : Nat} {x : Int32} (t : Nat) (hd : decode M.2.1 pc = .ok (.tableswitch dflt lo hi offs, len)) (hx : x.toInt < lo ∨ hi < x.toInt) (ht : (pc : Int) + dflt = (t : Int)) (h : V M t ls st w Q) : V M pc ls (.int x :: st) w Q := by
  intro p l e R s m args below meth c ad kI kZ D A cells slots Z C F H locs lsA hP hD hS hL
  exact lv_tableOut C.1 C.2.1 hd hx ht (h p l e R s m args below meth c ad kI kZ D A cells slots Z C F H locs lsA hP hD hS hL)
theorem v_tabIn {dflt lo hi off : Int} {offs : Array Int} {len : Nat} {x : Int32} (t : Nat) (hd : decode M.2.1 pc = .ok (.tableswitch dflt lo hi offs, len)) (h1 : ¬ x.toInt < lo) (h2 : ¬ hi < x.toInt) (ho : offs[(x.toInt - lo).toNat]? = some off) (ht : (pc : Int) + off = (t : Int)) (h : V M t ls st w Q) : V M pc ls (.int x :: st) w Q := by
  intro p l e R s m args below meth c ad kI kZ D A cells slots Z C F H locs lsA hP hD hS hL
  exact lv_tableIn C.1 C.2.1 hd h1 h2 ho ht (h p l e R s m args below meth c ad kI kZ D A cells slots Z C F H locs lsA hP hD hS hL)
theorem v_look {dflt off : Int} {ps : Array (Int × Int)} {len : Nat} {x : Int32} (t : Nat) (hd : decode M.2.1 pc = .ok (.lookupswitch dflt ps, len)) (hp : (ps.toList.zip (ps.toList.drop 1)).all (fun (a, next) => a.1 < next.1) = true) (ho : Op.lookupswitch.offset ps.toList dflt x.toInt = off) (ht : (pc : Int) + off = (t : Int)) (h : V M t ls st w Q) : V M pc ls (.int x :: st) w Q := by
  intro p l e R s m args below meth c ad kI kZ D A cells slots Z C F H locs lsA hP hD hS hL
  exact lv_lookup C.1 C.2.1 hd hp ho ht (h p l e R s m args below meth c ad kI kZ D A cells slots Z C F H locs lsA hP hD hS hL)
/-- a field is read -/
theorem v_get {r k ix ci N : Nat} {own2 C0 : String} {T : u_T} {fs : List Value} {v : Value} (n : Nat) (hd : decode M.2.1 pc = .ok (.getfield ix, 3)) (hn : pc + 3 = n) (hs : ∀ kI kZ, (cE kI kZ w)[r]? = some (.inr (ci, fs))) (hc : classes[ci]? = some (C0, T, N)) (hin : ∀ q ∈ u_ws C0 T N, q ∈ TG) (hk : k < N) (hlk : Cond.fieldLink M.1 ix (T k).1 (T k).2.1 (T k).2.2.1 ∈ TG) (hv : fs[k]? = some v) (h : V M n ls (v :: st) w Q) : V M pc ls (.ref r :: st) w Q := by
  subst hn
  intro p l e R s m args below meth c ad kI kZ D A cells slots Z C F H locs lsA hP hD hS hL
  exact va_get C.1 C.2.1 C.2.2.2.2.1 hin C.2.2.2.1 C.2.2.2.2.2.1 hP r (cW_at (hs kI kZ)) hc k hk (C.2.2.2.2.1 _ hlk) (fun _ q => q) (by rw [List.getElem?_map, hv]; rfl) hd (h p l e R s m args below meth c ad kI kZ D A cells slots Z C F H locs lsA hP hD hS hL)
/-- a field is written -/
theorem v_put {r k ix ci N : Nat} {C0 : String} {T : u_T} {ty : FieldType} {ty0 : Nat → FieldType} {fs : List Value} {v : Value} {u : Wd} (n : Nat) (hd : decode M.2.1 pc = .ok (.putfield ix, 3)) (hn : pc + 3 = n) (hs : ∀ kI kZ, (cE kI kZ w)[r]? = some (.inr (ci, fs))) (hu : ∀ kI kZ, (cE kI kZ w).set r (.inr (ci, fs.set k v)) = cE kI kZ u) (hc : classes[ci]? = some (C0, T, N)) (hin : ∀ q ∈ u_ws C0 T N, q ∈ TG) (hty : ∀ k, k < N → parseFieldDescriptor (T k).2.2.1 = some (ty0 k)) (hnm : ∀ a, a < N → ∀ b, b < N → a ≠ b → (T a).2.1 ≠ (T b).2.1) (hk : k < N) (hlk : Cond.fieldLink M.1 ix (T k).1 (T k).2.1 (T k).2.2.1 ∈ TG) (hfin : (T k).2.2.2 = false) (hpt : parseFieldDescriptor (T k).2.2.1 = some ty) (hl : k < fs.length) (hcv : ∀ ad, cv ad v = v) (hna : narrow ty v = v) (hfi : fits ty v = true) (h : V M n ls st u Q) : V M pc ls (v :: .ref r :: st) w Q := by
  subst hn
  intro p l e R s m args below meth c ad kI kZ D A cells slots Z C F H locs lsA hP hD hS hL
  have e1 : (cW ad kI kZ w).set r (ad r, .inr (ci, (fs.map (cv ad)).set k v)) = cW ad kI kZ u := by
    rw [← cW_set (ad := ad) (hu kI kZ)]
    show _ = (cW ad kI kZ w).set r (ad r, .inr (ci, (fs.set k v).map (cv ad)))
    rw [List.map_set, hcv ad]
  rw [List.map_cons, hcv ad, List.map_cons]
  exact va_put C.1 C.2.1 C.2.2.2.2.1 hin ty0 hty hnm C.2.2.2.1 C.2.2.2.2.2.1 hP hD hS r (cW_at (hs kI kZ)) hc k hk (C.2.2.2.2.1 _ hlk) (fun _ q => q) hfin hpt hna hfi (by rw [List.length_map]; exact hl) hd (fun H1 locs1 hP1 hD1 hS1 => h p l e R s m args below meth c ad kI kZ D A cells slots Z C F H1 locs1 lsA (e1 ▸ hP1) (e1 ▸ hD1) hS1 hL)
/-- arrays of ints, of booleans -/
theorem v_iald {r a : Nat} {i : Int32} (n : Nat) (hd : decode M.2.1 pc = .ok (.iaload, 1)) (hn : pc + 1 = n) (hs : ∀ kI kZ, (cE kI kZ w)[r]? = some (iE kI w r a)) (hi : vp_in i a) (h : V M n ls (.int (w.2.2 r i.toNatClampNeg) :: st) w Q) : V M pc ls (.int i :: .ref r :: st) w Q := by
  subst hn
  intro p l e R s m args below meth c ad kI kZ D A cells slots Z C F H locs lsA hP hD hS hL
  exact va_iald C.1 C.2.1 C.2.2.2.2.2.1 hP r 0 (cW_at (hs kI kZ)) rfl hi hd (h p l e R s m args below meth c ad kI kZ D A cells slots Z C F H locs lsA hP hD hS hL)
theorem v_zald {r a : Nat} {i : Int32} (n : Nat) (hd : decode M.2.1 pc = .ok (.baload, 1)) (hn : pc + 1 = n) (hs : ∀ kI kZ, (cE kI kZ w)[r]? = some (iE kZ w r a)) (hi : vp_in i a) (h : V M n ls (.int (w.2.2 r i.toNatClampNeg) :: st) w Q) : V M pc ls (.int i :: .ref r :: st) w Q := by
  subst hn
  intro p l e R s m args below meth c ad kI kZ D A cells slots Z C F H locs lsA hP hD hS hL
  exact va_zald C.1 C.2.1 C.2.2.2.2.2.1 hP r 1 (cW_at (hs kI kZ)) rfl hi hd (h p l e R s m args below meth c ad kI kZ D A cells slots Z C F H locs lsA hP hD hS hL)
theorem v_iast {r a : Nat} {i x : Int32} {u : Wd} (n : Nat) (hd : decode M.2.1 pc = .ok (.iastore, 1)) (hn : pc + 1 = n) (hs : ∀ kI kZ, (cE kI kZ w)[r]? = some (iE kI w r a)) (hu : ∀ kI kZ, (cE kI kZ w).set r (.inl (kI, a, .inl (upd (w.2.2 r) i.toNatClampNeg x))) = cE kI kZ u) (hi : vp_in i a) (h : V M n ls st u Q) : V M pc ls (.int x :: .int i :: .ref r :: st) w Q := by
  subst hn
  intro p l e R s m args below meth c ad kI kZ D A cells slots Z C F H locs lsA hP hD hS hL
  have e1 := cW_set (ad := ad) (hu kI kZ)
  exact va_iast C.1 C.2.1 C.2.2.2.2.2.1 hP hD hS r 0 (cW_at (hs kI kZ)) rfl hi hd (fun H1 locs1 hP1 hD1 hS1 => h p l e R s m args below meth c ad kI kZ D A cells slots Z C F H1 locs1 lsA (e1 ▸ hP1) (e1 ▸ hD1) hS1 hL)
theorem v_zast {r a : Nat} {i x : Int32} {u : Wd} (n : Nat) (hd : decode M.2.1 pc = .ok (.bastore, 1)) (hn : pc + 1 = n) (hs : ∀ kI kZ, (cE kI kZ w)[r]? = some (iE kZ w r a)) (hu : ∀ kI kZ, (cE kI kZ w).set r (.inl (kZ, a, .inl (upd (w.2.2 r) i.toNatClampNeg (vp_nar .boolean x)))) = cE kI kZ u) (hi : vp_in i a) (h : V M n ls st u Q) : V M pc ls (.int x :: .int i :: .ref r :: st) w Q := by
  subst hn
  intro p l e R s m args below meth c ad kI kZ D A cells slots Z C F H locs lsA hP hD hS hL
  have e1 := cW_set (ad := ad) (hu kI kZ)
  exact va_zast C.1 C.2.1 C.2.2.2.2.2.1 hP hD hS r 1 (cW_at (hs kI kZ)) rfl hi hd (fun H1 locs1 hP1 hD1 hS1 => h p l e R s m args below meth c ad kI kZ D A cells slots Z C F H1 locs1 lsA (e1 ▸ hP1) (e1 ▸ hD1) hS1 hL)
theorem v_alen {r a : Nat} {v : Int32} (n : Nat) (hd : decode M.2.1 pc = .ok (.arraylength, 1)) (hn : pc + 1 = n) (hs : ∀ kI kZ, (cE kI kZ w)[r]? = some (iE kI w r a)) (hv : Int32.ofNat a = v) (h : V M n ls (.int v :: st) w Q) : V M pc ls (.ref r :: st) w Q := by
  subst hn
  intro p l e R s m args below meth c ad kI kZ D A cells slots Z C F H locs lsA hP hD hS hL
  exact va_alen C.1 C.2.1 C.2.2.2.2.2.1 hP r 0 (cW_at (hs kI kZ)) rfl hv hd (h p l e R s m args below meth c ad kI kZ D A cells slots Z C F H locs lsA hP hD hS hL)
end VR
end
section
theorem tbl_in {y : MethodName} {b : ByteArray} {n : Nat} {t : Option FieldType} (h : Cond.code y b n t ∈ TG) : GoodIn TG (Cond.code y b n t :: TG) := by
  have g : ∀ w ∈ TG, w ∈ TG ∧ ((w.onTables && w.keeps) = true ∨ ∃ ty, w = .arrayClass ty) := fun w hw => ⟨hw, good_of_word (List.mem_filter.mp hw).2⟩
  intro w hw
  rcases List.mem_cons.mp hw with rfl | hw
  · exact g _ h
  · exact g _ hw
/-- what the tables say of a method -/
def FV (y : MethodName) (M : MD) (k : Nat) : Prop := plainName y.cls = true ∧ Cond.code y M.2.1 M.2.2.1 M.2.2.2.1 ∈ TG ∧ Cond.initialized y.cls ∈ TG ∧ (y.cls ≠ "java/lang/invoke/MethodHandle" ∧ y.cls ≠ "java/lang/invoke/VarHandle") ∧ (parseMethodDescriptor y.desc).map (fun d => d.parameters.length) = some k ∧ y.cls = M.1
def FI (y : MethodName) : Prop := Cond.instanceMethod y ∈ TG ∧ Cond.selects y.cls y y ∈ TG
def FS (y : MethodName) : Prop := Cond.static y ∈ TG
def rmM (M : MD) : Room := { frames := M.2.2.2.2.1, cells := 0, slots := 0, locals := M.2.2.2.2.2 }
def cQ (ad : Nat → Nat) (kI kZ : ClassId) (D : va_G) (Q : Option Value → Wd → Prop) (A : Nat → Prop) : Array Value → State → Outcome → State → Prop := fun _ st oc t => (∃ (r : Option Value) (u : Wd), oc = .returned (r.map (cv ad)) ∧ Q r u ∧ va_P D classes (cW ad kI kZ u) t.heap ∧ va_D A (cW ad kI kZ u)) ∧ va_F A st t
def cP (ad : Nat → Nat) (kI kZ : ClassId) (D : va_G) (w : Wd) (sz : Nat) (vs : List Value) : Array Value → State → Prop := va_Pc (vs.map (cv ad)) (fun U => U.heap.size = sz ∧ va_P D classes (cW ad kI kZ w) U.heap ∧ va_K D classes [(kI, .int), (kZ, .boolean)] U ∧ va_D (fun _ => True) (cW ad kI kZ w))
theorem V_met {l : Launch} {y : MethodName} {My : MD} {k : Nat} {vs : List Value} {ls0 : LsT} {w : Wd} {Q : Option Value → Wd → Prop} (hF : FV y My k) (hV : V My 0 ls0 [] w Q) (hE : eP My.2.2.1 vs = ls0) (hlen : (eL vs).length ≤ My.2.2.1) (ad : Nat → Nat) (kI kZ : ClassId) (D : va_G) (sz : Nat) : Met l y (Cond.code y My.2.1 My.2.2.1 My.2.2.2.1 :: TG) (rmM My) (cP ad kI kZ D w sz vs) (cQ ad kI kZ D Q (va_A (cW ad kI kZ w) sz)) 0 0 (va_A (cW ad kI kZ w) sz) := by
  refine Met.ofW (cc := My.2.1) (maxL := My.2.2.1) (ret := My.2.2.2.1) hF.1 rfl ?_
  intro p e s m args below meth c s₁ B hml hv
  obtain ⟨rfl, hsz, hP, hK, hD0⟩ := hv
  have hts := atoms_spec (ws := Cond.code y My.2.1 My.2.2.1 My.2.2.2.1 :: TG) B.pre
  have hown : s.vm.findClass y.cls = some m.cls := findClass_of_methodNamed B.named
  have hr := B.returns
  have hlocks := B.notSynchronized
  subst hsz
  have hD := hD0.self (sz := s.heap.size)
  generalize hAe : va_A (cW ad kI kZ w) s.heap.size = A at hD ⊢
  have hA : ∀ q : Nat, s.heap.size ≤ q → A q := fun q h => by rw [← hAe]; exact Or.inr h
  rw [lg_entry_eq]
  refine hV p l e _ s m _ below meth c ad kI kZ D A 0 0 _ ⟨B.exec, B.bytes, hml, by rw [← hF.2.2.2.2.2]; exact hown, fun w h => hts w (List.mem_cons_of_mem _ h), hK, hA, Nat.le_refl _, Nat.le_refl _, Nat.zero_le _, Nat.zero_le _⟩ ?_ s.heap [] _ hP hD va_S.rf (by rw [← hE]; exact LH_entry hlen)
  intro r u pc ls st hq hR H locs lsA hP hD hS hL
  rcases hR with ⟨v, ty, rfl, rfl, hd, ht, hn⟩ | ⟨v, rfl, rfl, hd, ht⟩ | ⟨rfl, rfl, hd, ht⟩
  · exact W.zret (v := v) B.exec B.bytes (hr.trans ht) hn (fun t h1 hW => ⟨⟨some (.int v), u, rfl, hq, by rw [h1]; exact hP, hD⟩, hS.F h1⟩) hS.2.2 hd (hlocks := hlocks)
  · exact W.lret (v := v) B.exec B.bytes (hr.trans ht) (fun t h1 hW => ⟨⟨some (.long v), u, rfl, hq, by rw [h1]; exact hP, hD⟩, hS.F h1⟩) hS.2.2 hd (hlocks := hlocks)
  · exact W.vret B.exec B.bytes (hr.trans ht) (fun t h1 hW => ⟨⟨none, u, rfl, hq, by rw [h1]; exact hP, hD⟩, hS.F h1⟩) hS.2.2 hd (hlocks := hlocks)
theorem cP_blind {ad : Nat → Nat} {kI kZ : ClassId} {D : va_G} {w : Wd} {sz : Nat} {vs : List Value} : FrameBlind (cP ad kI kZ D w sz vs) := fun a U g mk q => by
  obtain ⟨q0, q1, qP, qK, qD⟩ := q
  exact ⟨q0, q1, qP, va_K.moved (u := U) (U := U.calling g mk a) (Vm.Alike.refl U.vm) qK, qD⟩
theorem run_W {p : Program} {l : Launch} {e : Env} {R : Room} {s : State} {m : MethodId} {args : Array Value} {below : List Frame} {meth : Method} {c : Code} {ad : Nat → Nat} {kI kZ : ClassId} {D : va_G} {A : Nat → Prop} {cells slots : Nat} {Z : State → Prop} {M : MD} {pc : Nat} {ls : LsT} {st stk : List Value} {w : Wd} {Q : Option Value → Wd → Prop} {H : Heap} {locs : List Loc} {lsA : Array Slot} {av : Array Value}
    (C : Cx M p R s m args meth c kI kZ D A cells slots) (F : ∀ (r : Option Value) (u : Wd) (pc : Nat) (ls : LsT) (st : List Value), Q r u → Rt M pc r st → Sn M pc ls st u p l e R s m args below meth c ad kI kZ D A cells slots Z) (hD : va_D A (cW ad kI kZ w)) (hS : va_S A s.heap H locs) (hL : LH ad lsA M.2.2.1 ls)
    (hr : va_Run p l e R s m args below meth c H locs cells slots 0 0 (F0 m pc lsA stk) (st.map (cv ad)) (cQ ad kI kZ D (fun a u => V M (pc + 3) ls (a.toList ++ st) u Q) (va_A (cW ad kI kZ w) H.size) av) (va_A (cW ad kI kZ w) H.size)) : W p l e R s m args below meth c H locs cells slots Z (F0 m pc lsA stk) := by
  have hAA : ∀ q, va_A (cW ad kI kZ w) H.size q → A q := by
    intro q h
    rcases h with ⟨k, x, h⟩ | h
    · exact hD.2 k (q, x) h
    · exact C.2.2.2.2.2.2.1 q (Nat.le_trans hS.1 h)
  intro T hT X
  obtain ⟨v, st₀, t, T', L, h0, X', hL', e1, e2, ⟨⟨a, u, hv, hq, hP1, hD1⟩, hz, hk⟩, stp⟩ := hr T hT X
  injection hv with hv
  subst hv
  rw [h0] at hz hk
  have kk := hq p l e R s m args below meth c ad kI kZ D A cells slots Z C F T'.heap (locs ++ L) lsA (by rw [e1]; exact hP1) (hD1.weaken (fun k q _ h => hAA q.1 h))
    ⟨Nat.le_trans hS.1 (by rw [e1]; exact hz), fun q h1 h2 => by rw [e1, hk q (Nat.lt_of_lt_of_le h1 hS.1) (fun z => h2 (hAA q z))]; exact hS.2.1 q h1 h2, fun q hq => by
      rcases List.mem_append.mp hq with h | h
      · exact hS.2.2 q h
      · exact hAA _ (hL' q h)⟩ hL
  have es : (a.map (cv ad)).toList ++ st.map (cv ad) = (a.toList ++ st).map (cv ad) := by cases a <;> simp
  obtain ⟨t2, a1, b1⟩ := kk T' rfl X'
  exact ⟨t2, stp t2 (by rw [es]; exact a1), b1⟩
section VCall
variable {M My : MD} {y : MethodName} {pc k ix : Nat} {ls ls0 : LsT} {as st : List Value} {w : Wd} {Q : Option Value → Wd → Prop}
theorem v_callV {r ci N : Nat} {T : u_T} (n : Nat) (hd : decode M.2.1 pc = .ok (.invokevirtual ix, 3)) (hn : pc + 3 = n) (hF : FV y My k) (hI : FI y) (hl : Cond.methodLink M.1 ix y ∈ TG) (hs : ∀ kI kZ, ∃ fs, (cE kI kZ w)[r]? = some (.inr (ci, fs))) (hc : classes[ci]? = some (y.cls, T, N)) (hr : My.2.2.2.2.1 + 1 ≤ M.2.2.2.2.1 ∧ 8 + (My.2.2.1 + 11) + My.2.2.2.2.2 ≤ M.2.2.2.2.2) (hk : as.length = k) (hcat : (st.map fun v => v.category).sum ≤ 8) (hlen : (eL (.ref r :: as)).length ≤ My.2.2.1) (h : V My 0 ls0 [] w (fun a u => V M n ls (a.toList ++ st) u Q)) (hE : eP My.2.2.1 (.ref r :: as) = ls0) : V M pc ls (as.reverse ++ .ref r :: st) w Q := by
  subst hn
  intro p l e R s m args below meth c ad kI kZ D A cells slots Z C F H locs lsA hP hD hS hL
  obtain ⟨fs, hfs⟩ := hs kI kZ
  have ok : ∀ q ∈ TG, q.before args s = true := C.2.2.2.2.1
  have hM := V_met (l := l) hF h hE hlen ad kI kZ D H.size
  refine run_W (Q := Q) C F hD hS hL (va_runV (Ts := TG) (C := y.cls) (own := M.1) (cc := M.2.1) (nL := M.2.2.1) (index := ix) (n := k) (b := ad r) (As := as.map (cv ad)) ⟨C.1, C.2.1, C.2.2.1, C.2.2.2.1, ok⟩ hM ⟨⟨rfl, rfl, Nat.le_trans hr.1 C.2.2.2.2.2.2.2.1, Nat.le_trans hr.2 C.2.2.2.2.2.2.2.2.1, pay_in ok (tbl_in hF.2.1), List.mem_cons_self, ok _ hF.2.1, ok _ hF.2.2.1, hF.2.2.2.1, fun sig hsig => by have := hF.2.2.2.2.1; rw [hsig] at this; exact (Option.some.inj this).symm, ok _ hl⟩, ok _ hI.1, ok _ hI.2⟩ ⟨cP_blind, va_recv C.2.2.2.2.2.1 hP hc (cW_at hfs), fun U hU hW => ⟨rfl, by rw [hU], by rw [hU]; exact hP, va_K.moved hW.alike C.2.2.2.2.2.1, hD.weaken (fun _ _ _ _ => trivial)⟩⟩ rfl (by rw [List.length_map]; exact hk) hL.1 (by simp [cv]) (lv_room (by rw [cv_cats]; exact hcat)) hd ⟨C.2.2.2.2.2.2.2.2.2.1, C.2.2.2.2.2.2.2.2.2.2⟩)
theorem v_callS (n : Nat) (hd : decode M.2.1 pc = .ok (.invokestatic ix, 3)) (hn : pc + 3 = n) (hF : FV y My k) (hI : FS y) (hl : Cond.methodLink M.1 ix y ∈ TG) (hr : My.2.2.2.2.1 + 1 ≤ M.2.2.2.2.1 ∧ 8 + (My.2.2.1 + 11) + My.2.2.2.2.2 ≤ M.2.2.2.2.2) (hk : as.length = k) (hcat : (st.map fun v => v.category).sum ≤ 8) (hlen : (eL as).length ≤ My.2.2.1) (h : V My 0 ls0 [] w (fun a u => V M n ls (a.toList ++ st) u Q)) (hE : eP My.2.2.1 as = ls0) : V M pc ls (as.reverse ++ st) w Q := by
  subst hn
  intro p l e R s m args below meth c ad kI kZ D A cells slots Z C F H locs lsA hP hD hS hL
  have ok : ∀ q ∈ TG, q.before args s = true := C.2.2.2.2.1
  have hM := V_met (l := l) hF h hE hlen ad kI kZ D H.size
  refine run_W (Q := Q) C F hD hS hL (va_runS (Ts := TG) (own := M.1) (cc := M.2.1) (nL := M.2.2.1) (index := ix) (n := k) (As := as.map (cv ad)) ⟨C.1, C.2.1, C.2.2.1, C.2.2.2.1, ok⟩ hM ⟨⟨rfl, rfl, Nat.le_trans hr.1 C.2.2.2.2.2.2.2.1, Nat.le_trans hr.2 C.2.2.2.2.2.2.2.2.1, pay_in ok (tbl_in hF.2.1), List.mem_cons_self, ok _ hF.2.1, ok _ hF.2.2.1, hF.2.2.2.1, fun sig hsig => by have := hF.2.2.2.2.1; rw [hsig] at this; exact (Option.some.inj this).symm, ok _ hl⟩, ok _ hI⟩ ⟨cP_blind, fun U hU hW => ⟨rfl, by rw [hU], by rw [hU]; exact hP, va_K.moved hW.alike C.2.2.2.2.2.1, hD.weaken (fun _ _ _ _ => trivial)⟩⟩ rfl (by rw [List.length_map]; exact hk) hL.1 (by simp) (lv_room (by rw [cv_cats]; exact hcat)) hd ⟨C.2.2.2.2.2.2.2.2.2.1, C.2.2.2.2.2.2.2.2.2.2⟩)
theorem v_cVI0 {r ci N : Nat} {T : u_T} (n : Nat) (hd : decode M.2.1 pc = .ok (.invokevirtual ix, 3)) (hn : pc + 3 = n) (hF : FV y My 0) (hI : FI y) (hl : Cond.methodLink M.1 ix y ∈ TG) (hs : ∀ kI kZ, ∃ fs, (cE kI kZ w)[r]? = some (.inr (ci, fs))) (hc : classes[ci]? = some (y.cls, T, N)) (hr : My.2.2.2.2.1 + 1 ≤ M.2.2.2.2.1 ∧ 8 + (My.2.2.1 + 11) + My.2.2.2.2.2 ≤ M.2.2.2.2.2) (hcat : (st.map fun v => v.category).sum ≤ 8) (hlen : (eL (.ref r :: [])).length ≤ My.2.2.1) (h : V My 0 ls0 [] w (fun a u => ∃ x : Int32, a = some (.int x) ∧ V M n ls (.int x :: st) u Q)) (hE : eP My.2.2.1 (.ref r :: []) = ls0) : V M pc ls (.ref r :: st) w Q :=
  v_callV (as := []) n hd hn hF hI hl hs hc hr rfl hcat hlen (h.mono (by rintro r u ⟨x, rfl, hv⟩; exact hv)) hE
theorem v_cVI1 {a0 : Value} {r ci N : Nat} {T : u_T} (n : Nat) (hd : decode M.2.1 pc = .ok (.invokevirtual ix, 3)) (hn : pc + 3 = n) (hF : FV y My 1) (hI : FI y) (hl : Cond.methodLink M.1 ix y ∈ TG) (hs : ∀ kI kZ, ∃ fs, (cE kI kZ w)[r]? = some (.inr (ci, fs))) (hc : classes[ci]? = some (y.cls, T, N)) (hr : My.2.2.2.2.1 + 1 ≤ M.2.2.2.2.1 ∧ 8 + (My.2.2.1 + 11) + My.2.2.2.2.2 ≤ M.2.2.2.2.2) (hcat : (st.map fun v => v.category).sum ≤ 8) (hlen : (eL (.ref r :: [a0])).length ≤ My.2.2.1) (h : V My 0 ls0 [] w (fun a u => ∃ x : Int32, a = some (.int x) ∧ V M n ls (.int x :: st) u Q)) (hE : eP My.2.2.1 (.ref r :: [a0]) = ls0) : V M pc ls (a0 :: .ref r :: st) w Q :=
  v_callV (as := [a0]) n hd hn hF hI hl hs hc hr rfl hcat hlen (h.mono (by rintro r u ⟨x, rfl, hv⟩; exact hv)) hE
theorem v_cVI2 {a0 a1 : Value} {r ci N : Nat} {T : u_T} (n : Nat) (hd : decode M.2.1 pc = .ok (.invokevirtual ix, 3)) (hn : pc + 3 = n) (hF : FV y My 2) (hI : FI y) (hl : Cond.methodLink M.1 ix y ∈ TG) (hs : ∀ kI kZ, ∃ fs, (cE kI kZ w)[r]? = some (.inr (ci, fs))) (hc : classes[ci]? = some (y.cls, T, N)) (hr : My.2.2.2.2.1 + 1 ≤ M.2.2.2.2.1 ∧ 8 + (My.2.2.1 + 11) + My.2.2.2.2.2 ≤ M.2.2.2.2.2) (hcat : (st.map fun v => v.category).sum ≤ 8) (hlen : (eL (.ref r :: [a0, a1])).length ≤ My.2.2.1) (h : V My 0 ls0 [] w (fun a u => ∃ x : Int32, a = some (.int x) ∧ V M n ls (.int x :: st) u Q)) (hE : eP My.2.2.1 (.ref r :: [a0, a1]) = ls0) : V M pc ls (a1 :: a0 :: .ref r :: st) w Q :=
  v_callV (as := [a0, a1]) n hd hn hF hI hl hs hc hr rfl hcat hlen (h.mono (by rintro r u ⟨x, rfl, hv⟩; exact hv)) hE
theorem v_cVI3 {a0 a1 a2 : Value} {r ci N : Nat} {T : u_T} (n : Nat) (hd : decode M.2.1 pc = .ok (.invokevirtual ix, 3)) (hn : pc + 3 = n) (hF : FV y My 3) (hI : FI y) (hl : Cond.methodLink M.1 ix y ∈ TG) (hs : ∀ kI kZ, ∃ fs, (cE kI kZ w)[r]? = some (.inr (ci, fs))) (hc : classes[ci]? = some (y.cls, T, N)) (hr : My.2.2.2.2.1 + 1 ≤ M.2.2.2.2.1 ∧ 8 + (My.2.2.1 + 11) + My.2.2.2.2.2 ≤ M.2.2.2.2.2) (hcat : (st.map fun v => v.category).sum ≤ 8) (hlen : (eL (.ref r :: [a0, a1, a2])).length ≤ My.2.2.1) (h : V My 0 ls0 [] w (fun a u => ∃ x : Int32, a = some (.int x) ∧ V M n ls (.int x :: st) u Q)) (hE : eP My.2.2.1 (.ref r :: [a0, a1, a2]) = ls0) : V M pc ls (a2 :: a1 :: a0 :: .ref r :: st) w Q :=
  v_callV (as := [a0, a1, a2]) n hd hn hF hI hl hs hc hr rfl hcat hlen (h.mono (by rintro r u ⟨x, rfl, hv⟩; exact hv)) hE
theorem v_cVI4 {a0 a1 a2 a3 : Value} {r ci N : Nat} {T : u_T} (n : Nat) (hd : decode M.2.1 pc = .ok (.invokevirtual ix, 3)) (hn : pc + 3 = n) (hF : FV y My 4) (hI : FI y) (hl : Cond.methodLink M.1 ix y ∈ TG) (hs : ∀ kI kZ, ∃ fs, (cE kI kZ w)[r]? = some (.inr (ci, fs))) (hc : classes[ci]? = some (y.cls, T, N)) (hr : My.2.2.2.2.1 + 1 ≤ M.2.2.2.2.1 ∧ 8 + (My.2.2.1 + 11) + My.2.2.2.2.2 ≤ M.2.2.2.2.2) (hcat : (st.map fun v => v.category).sum ≤ 8) (hlen : (eL (.ref r :: [a0, a1, a2, a3])).length ≤ My.2.2.1) (h : V My 0 ls0 [] w (fun a u => ∃ x : Int32, a = some (.int x) ∧ V M n ls (.int x :: st) u Q)) (hE : eP My.2.2.1 (.ref r :: [a0, a1, a2, a3]) = ls0) : V M pc ls (a3 :: a2 :: a1 :: a0 :: .ref r :: st) w Q :=
  v_callV (as := [a0, a1, a2, a3]) n hd hn hF hI hl hs hc hr rfl hcat hlen (h.mono (by rintro r u ⟨x, rfl, hv⟩; exact hv)) hE
theorem v_cVI5 {a0 a1 a2 a3 a4 : Value} {r ci N : Nat} {T : u_T} (n : Nat) (hd : decode M.2.1 pc = .ok (.invokevirtual ix, 3)) (hn : pc + 3 = n) (hF : FV y My 5) (hI : FI y) (hl : Cond.methodLink M.1 ix y ∈ TG) (hs : ∀ kI kZ, ∃ fs, (cE kI kZ w)[r]? = some (.inr (ci, fs))) (hc : classes[ci]? = some (y.cls, T, N)) (hr : My.2.2.2.2.1 + 1 ≤ M.2.2.2.2.1 ∧ 8 + (My.2.2.1 + 11) + My.2.2.2.2.2 ≤ M.2.2.2.2.2) (hcat : (st.map fun v => v.category).sum ≤ 8) (hlen : (eL (.ref r :: [a0, a1, a2, a3, a4])).length ≤ My.2.2.1) (h : V My 0 ls0 [] w (fun a u => ∃ x : Int32, a = some (.int x) ∧ V M n ls (.int x :: st) u Q)) (hE : eP My.2.2.1 (.ref r :: [a0, a1, a2, a3, a4]) = ls0) : V M pc ls (a4 :: a3 :: a2 :: a1 :: a0 :: .ref r :: st) w Q :=
  v_callV (as := [a0, a1, a2, a3, a4]) n hd hn hF hI hl hs hc hr rfl hcat hlen (h.mono (by rintro r u ⟨x, rfl, hv⟩; exact hv)) hE
theorem v_cSI0 (n : Nat) (hd : decode M.2.1 pc = .ok (.invokestatic ix, 3)) (hn : pc + 3 = n) (hF : FV y My 0) (hI : FS y) (hl : Cond.methodLink M.1 ix y ∈ TG) (hr : My.2.2.2.2.1 + 1 ≤ M.2.2.2.2.1 ∧ 8 + (My.2.2.1 + 11) + My.2.2.2.2.2 ≤ M.2.2.2.2.2) (hcat : (st.map fun v => v.category).sum ≤ 8) (hlen : (eL []).length ≤ My.2.2.1) (h : V My 0 ls0 [] w (fun a u => ∃ x : Int32, a = some (.int x) ∧ V M n ls (.int x :: st) u Q)) (hE : eP My.2.2.1 [] = ls0) : V M pc ls (st) w Q :=
  v_callS (as := []) n hd hn hF hI hl hr rfl hcat hlen (h.mono (by rintro r u ⟨x, rfl, hv⟩; exact hv)) hE
theorem v_cSI1 {a0 : Value} (n : Nat) (hd : decode M.2.1 pc = .ok (.invokestatic ix, 3)) (hn : pc + 3 = n) (hF : FV y My 1) (hI : FS y) (hl : Cond.methodLink M.1 ix y ∈ TG) (hr : My.2.2.2.2.1 + 1 ≤ M.2.2.2.2.1 ∧ 8 + (My.2.2.1 + 11) + My.2.2.2.2.2 ≤ M.2.2.2.2.2) (hcat : (st.map fun v => v.category).sum ≤ 8) (hlen : (eL [a0]).length ≤ My.2.2.1) (h : V My 0 ls0 [] w (fun a u => ∃ x : Int32, a = some (.int x) ∧ V M n ls (.int x :: st) u Q)) (hE : eP My.2.2.1 [a0] = ls0) : V M pc ls (a0 :: st) w Q :=
  v_callS (as := [a0]) n hd hn hF hI hl hr rfl hcat hlen (h.mono (by rintro r u ⟨x, rfl, hv⟩; exact hv)) hE
theorem v_cSI2 {a0 a1 : Value} (n : Nat) (hd : decode M.2.1 pc = .ok (.invokestatic ix, 3)) (hn : pc + 3 = n) (hF : FV y My 2) (hI : FS y) (hl : Cond.methodLink M.1 ix y ∈ TG) (hr : My.2.2.2.2.1 + 1 ≤ M.2.2.2.2.1 ∧ 8 + (My.2.2.1 + 11) + My.2.2.2.2.2 ≤ M.2.2.2.2.2) (hcat : (st.map fun v => v.category).sum ≤ 8) (hlen : (eL [a0, a1]).length ≤ My.2.2.1) (h : V My 0 ls0 [] w (fun a u => ∃ x : Int32, a = some (.int x) ∧ V M n ls (.int x :: st) u Q)) (hE : eP My.2.2.1 [a0, a1] = ls0) : V M pc ls (a1 :: a0 :: st) w Q :=
  v_callS (as := [a0, a1]) n hd hn hF hI hl hr rfl hcat hlen (h.mono (by rintro r u ⟨x, rfl, hv⟩; exact hv)) hE
theorem v_cSI3 {a0 a1 a2 : Value} (n : Nat) (hd : decode M.2.1 pc = .ok (.invokestatic ix, 3)) (hn : pc + 3 = n) (hF : FV y My 3) (hI : FS y) (hl : Cond.methodLink M.1 ix y ∈ TG) (hr : My.2.2.2.2.1 + 1 ≤ M.2.2.2.2.1 ∧ 8 + (My.2.2.1 + 11) + My.2.2.2.2.2 ≤ M.2.2.2.2.2) (hcat : (st.map fun v => v.category).sum ≤ 8) (hlen : (eL [a0, a1, a2]).length ≤ My.2.2.1) (h : V My 0 ls0 [] w (fun a u => ∃ x : Int32, a = some (.int x) ∧ V M n ls (.int x :: st) u Q)) (hE : eP My.2.2.1 [a0, a1, a2] = ls0) : V M pc ls (a2 :: a1 :: a0 :: st) w Q :=
  v_callS (as := [a0, a1, a2]) n hd hn hF hI hl hr rfl hcat hlen (h.mono (by rintro r u ⟨x, rfl, hv⟩; exact hv)) hE
theorem v_cVJ0 {r ci N : Nat} {T : u_T} (n : Nat) (hd : decode M.2.1 pc = .ok (.invokevirtual ix, 3)) (hn : pc + 3 = n) (hF : FV y My 0) (hI : FI y) (hl : Cond.methodLink M.1 ix y ∈ TG) (hs : ∀ kI kZ, ∃ fs, (cE kI kZ w)[r]? = some (.inr (ci, fs))) (hc : classes[ci]? = some (y.cls, T, N)) (hr : My.2.2.2.2.1 + 1 ≤ M.2.2.2.2.1 ∧ 8 + (My.2.2.1 + 11) + My.2.2.2.2.2 ≤ M.2.2.2.2.2) (hcat : (st.map fun v => v.category).sum ≤ 8) (hlen : (eL (.ref r :: [])).length ≤ My.2.2.1) (h : V My 0 ls0 [] w (fun a u => ∃ x : Int64, a = some (.long x) ∧ V M n ls (.long x :: st) u Q)) (hE : eP My.2.2.1 (.ref r :: []) = ls0) : V M pc ls (.ref r :: st) w Q :=
  v_callV (as := []) n hd hn hF hI hl hs hc hr rfl hcat hlen (h.mono (by rintro r u ⟨x, rfl, hv⟩; exact hv)) hE
theorem v_cVJ1 {a0 : Value} {r ci N : Nat} {T : u_T} (n : Nat) (hd : decode M.2.1 pc = .ok (.invokevirtual ix, 3)) (hn : pc + 3 = n) (hF : FV y My 1) (hI : FI y) (hl : Cond.methodLink M.1 ix y ∈ TG) (hs : ∀ kI kZ, ∃ fs, (cE kI kZ w)[r]? = some (.inr (ci, fs))) (hc : classes[ci]? = some (y.cls, T, N)) (hr : My.2.2.2.2.1 + 1 ≤ M.2.2.2.2.1 ∧ 8 + (My.2.2.1 + 11) + My.2.2.2.2.2 ≤ M.2.2.2.2.2) (hcat : (st.map fun v => v.category).sum ≤ 8) (hlen : (eL (.ref r :: [a0])).length ≤ My.2.2.1) (h : V My 0 ls0 [] w (fun a u => ∃ x : Int64, a = some (.long x) ∧ V M n ls (.long x :: st) u Q)) (hE : eP My.2.2.1 (.ref r :: [a0]) = ls0) : V M pc ls (a0 :: .ref r :: st) w Q :=
  v_callV (as := [a0]) n hd hn hF hI hl hs hc hr rfl hcat hlen (h.mono (by rintro r u ⟨x, rfl, hv⟩; exact hv)) hE
theorem v_cVJ2 {a0 a1 : Value} {r ci N : Nat} {T : u_T} (n : Nat) (hd : decode M.2.1 pc = .ok (.invokevirtual ix, 3)) (hn : pc + 3 = n) (hF : FV y My 2) (hI : FI y) (hl : Cond.methodLink M.1 ix y ∈ TG) (hs : ∀ kI kZ, ∃ fs, (cE kI kZ w)[r]? = some (.inr (ci, fs))) (hc : classes[ci]? = some (y.cls, T, N)) (hr : My.2.2.2.2.1 + 1 ≤ M.2.2.2.2.1 ∧ 8 + (My.2.2.1 + 11) + My.2.2.2.2.2 ≤ M.2.2.2.2.2) (hcat : (st.map fun v => v.category).sum ≤ 8) (hlen : (eL (.ref r :: [a0, a1])).length ≤ My.2.2.1) (h : V My 0 ls0 [] w (fun a u => ∃ x : Int64, a = some (.long x) ∧ V M n ls (.long x :: st) u Q)) (hE : eP My.2.2.1 (.ref r :: [a0, a1]) = ls0) : V M pc ls (a1 :: a0 :: .ref r :: st) w Q :=
  v_callV (as := [a0, a1]) n hd hn hF hI hl hs hc hr rfl hcat hlen (h.mono (by rintro r u ⟨x, rfl, hv⟩; exact hv)) hE
theorem v_cVJ3 {a0 a1 a2 : Value} {r ci N : Nat} {T : u_T} (n : Nat) (hd : decode M.2.1 pc = .ok (.invokevirtual ix, 3)) (hn : pc + 3 = n) (hF : FV y My 3) (hI : FI y) (hl : Cond.methodLink M.1 ix y ∈ TG) (hs : ∀ kI kZ, ∃ fs, (cE kI kZ w)[r]? = some (.inr (ci, fs))) (hc : classes[ci]? = some (y.cls, T, N)) (hr : My.2.2.2.2.1 + 1 ≤ M.2.2.2.2.1 ∧ 8 + (My.2.2.1 + 11) + My.2.2.2.2.2 ≤ M.2.2.2.2.2) (hcat : (st.map fun v => v.category).sum ≤ 8) (hlen : (eL (.ref r :: [a0, a1, a2])).length ≤ My.2.2.1) (h : V My 0 ls0 [] w (fun a u => ∃ x : Int64, a = some (.long x) ∧ V M n ls (.long x :: st) u Q)) (hE : eP My.2.2.1 (.ref r :: [a0, a1, a2]) = ls0) : V M pc ls (a2 :: a1 :: a0 :: .ref r :: st) w Q :=
  v_callV (as := [a0, a1, a2]) n hd hn hF hI hl hs hc hr rfl hcat hlen (h.mono (by rintro r u ⟨x, rfl, hv⟩; exact hv)) hE
theorem v_cVJ4 {a0 a1 a2 a3 : Value} {r ci N : Nat} {T : u_T} (n : Nat) (hd : decode M.2.1 pc = .ok (.invokevirtual ix, 3)) (hn : pc + 3 = n) (hF : FV y My 4) (hI : FI y) (hl : Cond.methodLink M.1 ix y ∈ TG) (hs : ∀ kI kZ, ∃ fs, (cE kI kZ w)[r]? = some (.inr (ci, fs))) (hc : classes[ci]? = some (y.cls, T, N)) (hr : My.2.2.2.2.1 + 1 ≤ M.2.2.2.2.1 ∧ 8 + (My.2.2.1 + 11) + My.2.2.2.2.2 ≤ M.2.2.2.2.2) (hcat : (st.map fun v => v.category).sum ≤ 8) (hlen : (eL (.ref r :: [a0, a1, a2, a3])).length ≤ My.2.2.1) (h : V My 0 ls0 [] w (fun a u => ∃ x : Int64, a = some (.long x) ∧ V M n ls (.long x :: st) u Q)) (hE : eP My.2.2.1 (.ref r :: [a0, a1, a2, a3]) = ls0) : V M pc ls (a3 :: a2 :: a1 :: a0 :: .ref r :: st) w Q :=
  v_callV (as := [a0, a1, a2, a3]) n hd hn hF hI hl hs hc hr rfl hcat hlen (h.mono (by rintro r u ⟨x, rfl, hv⟩; exact hv)) hE
theorem v_cVJ5 {a0 a1 a2 a3 a4 : Value} {r ci N : Nat} {T : u_T} (n : Nat) (hd : decode M.2.1 pc = .ok (.invokevirtual ix, 3)) (hn : pc + 3 = n) (hF : FV y My 5) (hI : FI y) (hl : Cond.methodLink M.1 ix y ∈ TG) (hs : ∀ kI kZ, ∃ fs, (cE kI kZ w)[r]? = some (.inr (ci, fs))) (hc : classes[ci]? = some (y.cls, T, N)) (hr : My.2.2.2.2.1 + 1 ≤ M.2.2.2.2.1 ∧ 8 + (My.2.2.1 + 11) + My.2.2.2.2.2 ≤ M.2.2.2.2.2) (hcat : (st.map fun v => v.category).sum ≤ 8) (hlen : (eL (.ref r :: [a0, a1, a2, a3, a4])).length ≤ My.2.2.1) (h : V My 0 ls0 [] w (fun a u => ∃ x : Int64, a = some (.long x) ∧ V M n ls (.long x :: st) u Q)) (hE : eP My.2.2.1 (.ref r :: [a0, a1, a2, a3, a4]) = ls0) : V M pc ls (a4 :: a3 :: a2 :: a1 :: a0 :: .ref r :: st) w Q :=
  v_callV (as := [a0, a1, a2, a3, a4]) n hd hn hF hI hl hs hc hr rfl hcat hlen (h.mono (by rintro r u ⟨x, rfl, hv⟩; exact hv)) hE
theorem v_cSJ0 (n : Nat) (hd : decode M.2.1 pc = .ok (.invokestatic ix, 3)) (hn : pc + 3 = n) (hF : FV y My 0) (hI : FS y) (hl : Cond.methodLink M.1 ix y ∈ TG) (hr : My.2.2.2.2.1 + 1 ≤ M.2.2.2.2.1 ∧ 8 + (My.2.2.1 + 11) + My.2.2.2.2.2 ≤ M.2.2.2.2.2) (hcat : (st.map fun v => v.category).sum ≤ 8) (hlen : (eL []).length ≤ My.2.2.1) (h : V My 0 ls0 [] w (fun a u => ∃ x : Int64, a = some (.long x) ∧ V M n ls (.long x :: st) u Q)) (hE : eP My.2.2.1 [] = ls0) : V M pc ls (st) w Q :=
  v_callS (as := []) n hd hn hF hI hl hr rfl hcat hlen (h.mono (by rintro r u ⟨x, rfl, hv⟩; exact hv)) hE
theorem v_cSJ1 {a0 : Value} (n : Nat) (hd : decode M.2.1 pc = .ok (.invokestatic ix, 3)) (hn : pc + 3 = n) (hF : FV y My 1) (hI : FS y) (hl : Cond.methodLink M.1 ix y ∈ TG) (hr : My.2.2.2.2.1 + 1 ≤ M.2.2.2.2.1 ∧ 8 + (My.2.2.1 + 11) + My.2.2.2.2.2 ≤ M.2.2.2.2.2) (hcat : (st.map fun v => v.category).sum ≤ 8) (hlen : (eL [a0]).length ≤ My.2.2.1) (h : V My 0 ls0 [] w (fun a u => ∃ x : Int64, a = some (.long x) ∧ V M n ls (.long x :: st) u Q)) (hE : eP My.2.2.1 [a0] = ls0) : V M pc ls (a0 :: st) w Q :=
  v_callS (as := [a0]) n hd hn hF hI hl hr rfl hcat hlen (h.mono (by rintro r u ⟨x, rfl, hv⟩; exact hv)) hE
theorem v_cSJ2 {a0 a1 : Value} (n : Nat) (hd : decode M.2.1 pc = .ok (.invokestatic ix, 3)) (hn : pc + 3 = n) (hF : FV y My 2) (hI : FS y) (hl : Cond.methodLink M.1 ix y ∈ TG) (hr : My.2.2.2.2.1 + 1 ≤ M.2.2.2.2.1 ∧ 8 + (My.2.2.1 + 11) + My.2.2.2.2.2 ≤ M.2.2.2.2.2) (hcat : (st.map fun v => v.category).sum ≤ 8) (hlen : (eL [a0, a1]).length ≤ My.2.2.1) (h : V My 0 ls0 [] w (fun a u => ∃ x : Int64, a = some (.long x) ∧ V M n ls (.long x :: st) u Q)) (hE : eP My.2.2.1 [a0, a1] = ls0) : V M pc ls (a1 :: a0 :: st) w Q :=
  v_callS (as := [a0, a1]) n hd hn hF hI hl hr rfl hcat hlen (h.mono (by rintro r u ⟨x, rfl, hv⟩; exact hv)) hE
theorem v_cSJ3 {a0 a1 a2 : Value} (n : Nat) (hd : decode M.2.1 pc = .ok (.invokestatic ix, 3)) (hn : pc + 3 = n) (hF : FV y My 3) (hI : FS y) (hl : Cond.methodLink M.1 ix y ∈ TG) (hr : My.2.2.2.2.1 + 1 ≤ M.2.2.2.2.1 ∧ 8 + (My.2.2.1 + 11) + My.2.2.2.2.2 ≤ M.2.2.2.2.2) (hcat : (st.map fun v => v.category).sum ≤ 8) (hlen : (eL [a0, a1, a2]).length ≤ My.2.2.1) (h : V My 0 ls0 [] w (fun a u => ∃ x : Int64, a = some (.long x) ∧ V M n ls (.long x :: st) u Q)) (hE : eP My.2.2.1 [a0, a1, a2] = ls0) : V M pc ls (a2 :: a1 :: a0 :: st) w Q :=
  v_callS (as := [a0, a1, a2]) n hd hn hF hI hl hr rfl hcat hlen (h.mono (by rintro r u ⟨x, rfl, hv⟩; exact hv)) hE
theorem v_cVN0 {r ci N : Nat} {T : u_T} (n : Nat) (hd : decode M.2.1 pc = .ok (.invokevirtual ix, 3)) (hn : pc + 3 = n) (hF : FV y My 0) (hI : FI y) (hl : Cond.methodLink M.1 ix y ∈ TG) (hs : ∀ kI kZ, ∃ fs, (cE kI kZ w)[r]? = some (.inr (ci, fs))) (hc : classes[ci]? = some (y.cls, T, N)) (hr : My.2.2.2.2.1 + 1 ≤ M.2.2.2.2.1 ∧ 8 + (My.2.2.1 + 11) + My.2.2.2.2.2 ≤ M.2.2.2.2.2) (hcat : (st.map fun v => v.category).sum ≤ 8) (hlen : (eL (.ref r :: [])).length ≤ My.2.2.1) (h : V My 0 ls0 [] w (fun a u => a = none ∧ V M n ls st u Q)) (hE : eP My.2.2.1 (.ref r :: []) = ls0) : V M pc ls (.ref r :: st) w Q :=
  v_callV (as := []) n hd hn hF hI hl hs hc hr rfl hcat hlen (h.mono (by rintro r u ⟨rfl, hv⟩; exact hv)) hE
theorem v_cVN1 {a0 : Value} {r ci N : Nat} {T : u_T} (n : Nat) (hd : decode M.2.1 pc = .ok (.invokevirtual ix, 3)) (hn : pc + 3 = n) (hF : FV y My 1) (hI : FI y) (hl : Cond.methodLink M.1 ix y ∈ TG) (hs : ∀ kI kZ, ∃ fs, (cE kI kZ w)[r]? = some (.inr (ci, fs))) (hc : classes[ci]? = some (y.cls, T, N)) (hr : My.2.2.2.2.1 + 1 ≤ M.2.2.2.2.1 ∧ 8 + (My.2.2.1 + 11) + My.2.2.2.2.2 ≤ M.2.2.2.2.2) (hcat : (st.map fun v => v.category).sum ≤ 8) (hlen : (eL (.ref r :: [a0])).length ≤ My.2.2.1) (h : V My 0 ls0 [] w (fun a u => a = none ∧ V M n ls st u Q)) (hE : eP My.2.2.1 (.ref r :: [a0]) = ls0) : V M pc ls (a0 :: .ref r :: st) w Q :=
  v_callV (as := [a0]) n hd hn hF hI hl hs hc hr rfl hcat hlen (h.mono (by rintro r u ⟨rfl, hv⟩; exact hv)) hE
theorem v_cVN2 {a0 a1 : Value} {r ci N : Nat} {T : u_T} (n : Nat) (hd : decode M.2.1 pc = .ok (.invokevirtual ix, 3)) (hn : pc + 3 = n) (hF : FV y My 2) (hI : FI y) (hl : Cond.methodLink M.1 ix y ∈ TG) (hs : ∀ kI kZ, ∃ fs, (cE kI kZ w)[r]? = some (.inr (ci, fs))) (hc : classes[ci]? = some (y.cls, T, N)) (hr : My.2.2.2.2.1 + 1 ≤ M.2.2.2.2.1 ∧ 8 + (My.2.2.1 + 11) + My.2.2.2.2.2 ≤ M.2.2.2.2.2) (hcat : (st.map fun v => v.category).sum ≤ 8) (hlen : (eL (.ref r :: [a0, a1])).length ≤ My.2.2.1) (h : V My 0 ls0 [] w (fun a u => a = none ∧ V M n ls st u Q)) (hE : eP My.2.2.1 (.ref r :: [a0, a1]) = ls0) : V M pc ls (a1 :: a0 :: .ref r :: st) w Q :=
  v_callV (as := [a0, a1]) n hd hn hF hI hl hs hc hr rfl hcat hlen (h.mono (by rintro r u ⟨rfl, hv⟩; exact hv)) hE
theorem v_cVN3 {a0 a1 a2 : Value} {r ci N : Nat} {T : u_T} (n : Nat) (hd : decode M.2.1 pc = .ok (.invokevirtual ix, 3)) (hn : pc + 3 = n) (hF : FV y My 3) (hI : FI y) (hl : Cond.methodLink M.1 ix y ∈ TG) (hs : ∀ kI kZ, ∃ fs, (cE kI kZ w)[r]? = some (.inr (ci, fs))) (hc : classes[ci]? = some (y.cls, T, N)) (hr : My.2.2.2.2.1 + 1 ≤ M.2.2.2.2.1 ∧ 8 + (My.2.2.1 + 11) + My.2.2.2.2.2 ≤ M.2.2.2.2.2) (hcat : (st.map fun v => v.category).sum ≤ 8) (hlen : (eL (.ref r :: [a0, a1, a2])).length ≤ My.2.2.1) (h : V My 0 ls0 [] w (fun a u => a = none ∧ V M n ls st u Q)) (hE : eP My.2.2.1 (.ref r :: [a0, a1, a2]) = ls0) : V M pc ls (a2 :: a1 :: a0 :: .ref r :: st) w Q :=
  v_callV (as := [a0, a1, a2]) n hd hn hF hI hl hs hc hr rfl hcat hlen (h.mono (by rintro r u ⟨rfl, hv⟩; exact hv)) hE
theorem v_cVN4 {a0 a1 a2 a3 : Value} {r ci N : Nat} {T : u_T} (n : Nat) (hd : decode M.2.1 pc = .ok (.invokevirtual ix, 3)) (hn : pc + 3 = n) (hF : FV y My 4) (hI : FI y) (hl : Cond.methodLink M.1 ix y ∈ TG) (hs : ∀ kI kZ, ∃ fs, (cE kI kZ w)[r]? = some (.inr (ci, fs))) (hc : classes[ci]? = some (y.cls, T, N)) (hr : My.2.2.2.2.1 + 1 ≤ M.2.2.2.2.1 ∧ 8 + (My.2.2.1 + 11) + My.2.2.2.2.2 ≤ M.2.2.2.2.2) (hcat : (st.map fun v => v.category).sum ≤ 8) (hlen : (eL (.ref r :: [a0, a1, a2, a3])).length ≤ My.2.2.1) (h : V My 0 ls0 [] w (fun a u => a = none ∧ V M n ls st u Q)) (hE : eP My.2.2.1 (.ref r :: [a0, a1, a2, a3]) = ls0) : V M pc ls (a3 :: a2 :: a1 :: a0 :: .ref r :: st) w Q :=
  v_callV (as := [a0, a1, a2, a3]) n hd hn hF hI hl hs hc hr rfl hcat hlen (h.mono (by rintro r u ⟨rfl, hv⟩; exact hv)) hE
theorem v_cVN5 {a0 a1 a2 a3 a4 : Value} {r ci N : Nat} {T : u_T} (n : Nat) (hd : decode M.2.1 pc = .ok (.invokevirtual ix, 3)) (hn : pc + 3 = n) (hF : FV y My 5) (hI : FI y) (hl : Cond.methodLink M.1 ix y ∈ TG) (hs : ∀ kI kZ, ∃ fs, (cE kI kZ w)[r]? = some (.inr (ci, fs))) (hc : classes[ci]? = some (y.cls, T, N)) (hr : My.2.2.2.2.1 + 1 ≤ M.2.2.2.2.1 ∧ 8 + (My.2.2.1 + 11) + My.2.2.2.2.2 ≤ M.2.2.2.2.2) (hcat : (st.map fun v => v.category).sum ≤ 8) (hlen : (eL (.ref r :: [a0, a1, a2, a3, a4])).length ≤ My.2.2.1) (h : V My 0 ls0 [] w (fun a u => a = none ∧ V M n ls st u Q)) (hE : eP My.2.2.1 (.ref r :: [a0, a1, a2, a3, a4]) = ls0) : V M pc ls (a4 :: a3 :: a2 :: a1 :: a0 :: .ref r :: st) w Q :=
  v_callV (as := [a0, a1, a2, a3, a4]) n hd hn hF hI hl hs hc hr rfl hcat hlen (h.mono (by rintro r u ⟨rfl, hv⟩; exact hv)) hE
theorem v_cSN0 (n : Nat) (hd : decode M.2.1 pc = .ok (.invokestatic ix, 3)) (hn : pc + 3 = n) (hF : FV y My 0) (hI : FS y) (hl : Cond.methodLink M.1 ix y ∈ TG) (hr : My.2.2.2.2.1 + 1 ≤ M.2.2.2.2.1 ∧ 8 + (My.2.2.1 + 11) + My.2.2.2.2.2 ≤ M.2.2.2.2.2) (hcat : (st.map fun v => v.category).sum ≤ 8) (hlen : (eL []).length ≤ My.2.2.1) (h : V My 0 ls0 [] w (fun a u => a = none ∧ V M n ls st u Q)) (hE : eP My.2.2.1 [] = ls0) : V M pc ls (st) w Q :=
  v_callS (as := []) n hd hn hF hI hl hr rfl hcat hlen (h.mono (by rintro r u ⟨rfl, hv⟩; exact hv)) hE
theorem v_cSN1 {a0 : Value} (n : Nat) (hd : decode M.2.1 pc = .ok (.invokestatic ix, 3)) (hn : pc + 3 = n) (hF : FV y My 1) (hI : FS y) (hl : Cond.methodLink M.1 ix y ∈ TG) (hr : My.2.2.2.2.1 + 1 ≤ M.2.2.2.2.1 ∧ 8 + (My.2.2.1 + 11) + My.2.2.2.2.2 ≤ M.2.2.2.2.2) (hcat : (st.map fun v => v.category).sum ≤ 8) (hlen : (eL [a0]).length ≤ My.2.2.1) (h : V My 0 ls0 [] w (fun a u => a = none ∧ V M n ls st u Q)) (hE : eP My.2.2.1 [a0] = ls0) : V M pc ls (a0 :: st) w Q :=
  v_callS (as := [a0]) n hd hn hF hI hl hr rfl hcat hlen (h.mono (by rintro r u ⟨rfl, hv⟩; exact hv)) hE
theorem v_cSN2 {a0 a1 : Value} (n : Nat) (hd : decode M.2.1 pc = .ok (.invokestatic ix, 3)) (hn : pc + 3 = n) (hF : FV y My 2) (hI : FS y) (hl : Cond.methodLink M.1 ix y ∈ TG) (hr : My.2.2.2.2.1 + 1 ≤ M.2.2.2.2.1 ∧ 8 + (My.2.2.1 + 11) + My.2.2.2.2.2 ≤ M.2.2.2.2.2) (hcat : (st.map fun v => v.category).sum ≤ 8) (hlen : (eL [a0, a1]).length ≤ My.2.2.1) (h : V My 0 ls0 [] w (fun a u => a = none ∧ V M n ls st u Q)) (hE : eP My.2.2.1 [a0, a1] = ls0) : V M pc ls (a1 :: a0 :: st) w Q :=
  v_callS (as := [a0, a1]) n hd hn hF hI hl hr rfl hcat hlen (h.mono (by rintro r u ⟨rfl, hv⟩; exact hv)) hE
theorem v_cSN3 {a0 a1 a2 : Value} (n : Nat) (hd : decode M.2.1 pc = .ok (.invokestatic ix, 3)) (hn : pc + 3 = n) (hF : FV y My 3) (hI : FS y) (hl : Cond.methodLink M.1 ix y ∈ TG) (hr : My.2.2.2.2.1 + 1 ≤ M.2.2.2.2.1 ∧ 8 + (My.2.2.1 + 11) + My.2.2.2.2.2 ≤ M.2.2.2.2.2) (hcat : (st.map fun v => v.category).sum ≤ 8) (hlen : (eL [a0, a1, a2]).length ≤ My.2.2.1) (h : V My 0 ls0 [] w (fun a u => a = none ∧ V M n ls st u Q)) (hE : eP My.2.2.1 [a0, a1, a2] = ls0) : V M pc ls (a2 :: a1 :: a0 :: st) w Q :=
  v_callS (as := [a0, a1, a2]) n hd hn hF hI hl hr rfl hcat hlen (h.mono (by rintro r u ⟨rfl, hv⟩; exact hv)) hE
end VCall
end
section
/-! words of the tables by their places; methods as V takes them -/
theorem inX0 : ∀ q ∈ u_ws RX0 TX0 1, q ∈ TG := by decide +kernel
theorem inX1 : ∀ q ∈ u_ws RX1 TX1 12, q ∈ TG := by decide +kernel
theorem inX2 : ∀ q ∈ u_ws RX2 TX2 5, q ∈ TG := by decide +kernel
theorem inX3 : ∀ q ∈ u_ws RX3 TX3 15, q ∈ TG := by decide +kernel
theorem inX4 : ∀ q ∈ u_ws RX4 TX4 24, q ∈ TG := by decide +kernel
theorem fl_X3_9 : Cond.fieldLink RX3 9 (TX3 0).1 (TX3 0).2.1 (TX3 0).2.2.1 ∈ TG := tg 163 (by decide +kernel) (by decide +kernel)
theorem fl_X3_16 : Cond.fieldLink RX3 16 (TX3 2).1 (TX3 2).2.1 (TX3 2).2.2.1 ∈ TG := tg 165 (by decide +kernel) (by decide +kernel)
theorem fl_X3_23 : Cond.fieldLink RX3 23 (TX3 3).1 (TX3 3).2.1 (TX3 3).2.2.1 ∈ TG := tg 166 (by decide +kernel) (by decide +kernel)
theorem fl_X3_27 : Cond.fieldLink RX3 27 (TX3 4).1 (TX3 4).2.1 (TX3 4).2.2.1 ∈ TG := tg 167 (by decide +kernel) (by decide +kernel)
theorem fl_X3_35 : Cond.fieldLink RX3 35 (TX3 5).1 (TX3 5).2.1 (TX3 5).2.2.1 ∈ TG := tg 168 (by decide +kernel) (by decide +kernel)
theorem fl_X3_39 : Cond.fieldLink RX3 39 (TX3 7).1 (TX3 7).2.1 (TX3 7).2.2.1 ∈ TG := tg 170 (by decide +kernel) (by decide +kernel)
theorem fl_X3_42 : Cond.fieldLink RX3 42 (TX3 8).1 (TX3 8).2.1 (TX3 8).2.2.1 ∈ TG := tg 171 (by decide +kernel) (by decide +kernel)
theorem fl_X3_46 : Cond.fieldLink RX3 46 (TX3 9).1 (TX3 9).2.1 (TX3 9).2.2.1 ∈ TG := tg 172 (by decide +kernel) (by decide +kernel)
theorem fl_X3_49 : Cond.fieldLink RX3 49 (TX3 10).1 (TX3 10).2.1 (TX3 10).2.2.1 ∈ TG := tg 173 (by decide +kernel) (by decide +kernel)
theorem fl_X3_52 : Cond.fieldLink RX3 52 (TX3 11).1 (TX3 11).2.1 (TX3 11).2.2.1 ∈ TG := tg 174 (by decide +kernel) (by decide +kernel)
theorem fl_X3_55 : Cond.fieldLink RX3 55 (TX3 13).1 (TX3 13).2.1 (TX3 13).2.2.1 ∈ TG := tg 176 (by decide +kernel) (by decide +kernel)
theorem fl_X3_58 : Cond.fieldLink RX3 58 (TX3 1).1 (TX3 1).2.1 (TX3 1).2.2.1 ∈ TG := tg 164 (by decide +kernel) (by decide +kernel)
theorem fl_X3_70 : Cond.fieldLink RX3 70 (TX3 6).1 (TX3 6).2.1 (TX3 6).2.2.1 ∈ TG := tg 169 (by decide +kernel) (by decide +kernel)
theorem fl_X3_73 : Cond.fieldLink RX3 73 (TX1 0).1 (TX1 0).2.1 (TX1 0).2.2.1 ∈ TG := tg 93 (by decide +kernel) (by decide +kernel)
theorem fl_X3_76 : Cond.fieldLink RX3 76 (TX1 1).1 (TX1 1).2.1 (TX1 1).2.2.1 ∈ TG := tg 96 (by decide +kernel) (by decide +kernel)
theorem fl_X3_83 : Cond.fieldLink RX3 83 (TX1 4).1 (TX1 4).2.1 (TX1 4).2.2.1 ∈ TG := tg 105 (by decide +kernel) (by decide +kernel)
theorem fl_X3_86 : Cond.fieldLink RX3 86 (TX1 5).1 (TX1 5).2.1 (TX1 5).2.2.1 ∈ TG := tg 108 (by decide +kernel) (by decide +kernel)
theorem fl_X3_89 : Cond.fieldLink RX3 89 (TX1 6).1 (TX1 6).2.1 (TX1 6).2.2.1 ∈ TG := tg 110 (by decide +kernel) (by decide +kernel)
theorem fl_X3_102 : Cond.fieldLink RX3 102 (TX1 8).1 (TX1 8).2.1 (TX1 8).2.2.1 ∈ TG := tg 116 (by decide +kernel) (by decide +kernel)
theorem fl_X3_105 : Cond.fieldLink RX3 105 (TX1 7).1 (TX1 7).2.1 (TX1 7).2.2.1 ∈ TG := tg 113 (by decide +kernel) (by decide +kernel)
theorem fl_X3_111 : Cond.fieldLink RX3 111 (TX1 9).1 (TX1 9).2.1 (TX1 9).2.2.1 ∈ TG := tg 119 (by decide +kernel) (by decide +kernel)
theorem fl_X3_114 : Cond.fieldLink RX3 114 (TX1 10).1 (TX1 10).2.1 (TX1 10).2.2.1 ∈ TG := tg 121 (by decide +kernel) (by decide +kernel)
theorem fl_X3_123 : Cond.fieldLink RX3 123 (TX1 11).1 (TX1 11).2.1 (TX1 11).2.2.1 ∈ TG := tg 124 (by decide +kernel) (by decide +kernel)
theorem fl_X3_161 : Cond.fieldLink RX3 161 (TX1 3).1 (TX1 3).2.1 (TX1 3).2.2.1 ∈ TG := tg 102 (by decide +kernel) (by decide +kernel)
theorem fl_X3_187 : Cond.fieldLink RX3 187 (TX3 12).1 (TX3 12).2.1 (TX3 12).2.2.1 ∈ TG := tg 175 (by decide +kernel) (by decide +kernel)
theorem fl_X3_218 : Cond.fieldLink RX3 218 (TX3 14).1 (TX3 14).2.1 (TX3 14).2.2.1 ∈ TG := tg 177 (by decide +kernel) (by decide +kernel)
theorem fl_X3_234 : Cond.fieldLink RX3 234 (TX1 2).1 (TX1 2).2.1 (TX1 2).2.2.1 ∈ TG := tg 99 (by decide +kernel) (by decide +kernel)
theorem fl_X0_17 : Cond.fieldLink RX0 17 (TX0 0).1 (TX0 0).2.1 (TX0 0).2.2.1 ∈ TG := tg 159 (by decide +kernel) (by decide +kernel)
theorem fl_X0_25 : Cond.fieldLink RX0 25 (TX1 4).1 (TX1 4).2.1 (TX1 4).2.2.1 ∈ TG := tg 104 (by decide +kernel) (by decide +kernel)
theorem fl_X0_36 : Cond.fieldLink RX0 36 (TX1 5).1 (TX1 5).2.1 (TX1 5).2.2.1 ∈ TG := tg 107 (by decide +kernel) (by decide +kernel)
theorem fl_X0_39 : Cond.fieldLink RX0 39 (TX1 7).1 (TX1 7).2.1 (TX1 7).2.2.1 ∈ TG := tg 112 (by decide +kernel) (by decide +kernel)
theorem fl_X0_42 : Cond.fieldLink RX0 42 (TX1 8).1 (TX1 8).2.1 (TX1 8).2.2.1 ∈ TG := tg 115 (by decide +kernel) (by decide +kernel)
theorem fl_X0_45 : Cond.fieldLink RX0 45 (TX1 9).1 (TX1 9).2.1 (TX1 9).2.2.1 ∈ TG := tg 118 (by decide +kernel) (by decide +kernel)
theorem fl_X0_48 : Cond.fieldLink RX0 48 (TX1 11).1 (TX1 11).2.1 (TX1 11).2.2.1 ∈ TG := tg 123 (by decide +kernel) (by decide +kernel)
theorem fl_X0_51 : Cond.fieldLink RX0 51 (TX1 3).1 (TX1 3).2.1 (TX1 3).2.2.1 ∈ TG := tg 101 (by decide +kernel) (by decide +kernel)
theorem fl_X0_55 : Cond.fieldLink RX0 55 (TX1 2).1 (TX1 2).2.1 (TX1 2).2.2.1 ∈ TG := tg 98 (by decide +kernel) (by decide +kernel)
theorem fl_X1_9 : Cond.fieldLink RX1 9 (TX1 4).1 (TX1 4).2.1 (TX1 4).2.2.1 ∈ TG := tg 103 (by decide +kernel) (by decide +kernel)
theorem fl_X1_15 : Cond.fieldLink RX1 15 (TX1 5).1 (TX1 5).2.1 (TX1 5).2.2.1 ∈ TG := tg 106 (by decide +kernel) (by decide +kernel)
theorem fl_X1_18 : Cond.fieldLink RX1 18 (TX1 6).1 (TX1 6).2.1 (TX1 6).2.2.1 ∈ TG := tg 109 (by decide +kernel) (by decide +kernel)
theorem fl_X1_21 : Cond.fieldLink RX1 21 (TX1 7).1 (TX1 7).2.1 (TX1 7).2.2.1 ∈ TG := tg 111 (by decide +kernel) (by decide +kernel)
theorem fl_X1_24 : Cond.fieldLink RX1 24 (TX1 8).1 (TX1 8).2.1 (TX1 8).2.2.1 ∈ TG := tg 114 (by decide +kernel) (by decide +kernel)
theorem fl_X1_27 : Cond.fieldLink RX1 27 (TX1 9).1 (TX1 9).2.1 (TX1 9).2.2.1 ∈ TG := tg 117 (by decide +kernel) (by decide +kernel)
theorem fl_X1_30 : Cond.fieldLink RX1 30 (TX1 10).1 (TX1 10).2.1 (TX1 10).2.2.1 ∈ TG := tg 120 (by decide +kernel) (by decide +kernel)
theorem fl_X1_33 : Cond.fieldLink RX1 33 (TX1 11).1 (TX1 11).2.1 (TX1 11).2.2.1 ∈ TG := tg 122 (by decide +kernel) (by decide +kernel)
theorem fl_X1_36 : Cond.fieldLink RX1 36 (TX1 0).1 (TX1 0).2.1 (TX1 0).2.2.1 ∈ TG := tg 91 (by decide +kernel) (by decide +kernel)
theorem fl_X1_40 : Cond.fieldLink RX1 40 (TX1 1).1 (TX1 1).2.1 (TX1 1).2.2.1 ∈ TG := tg 94 (by decide +kernel) (by decide +kernel)
theorem fl_X1_43 : Cond.fieldLink RX1 43 (TX1 2).1 (TX1 2).2.1 (TX1 2).2.2.1 ∈ TG := tg 97 (by decide +kernel) (by decide +kernel)
theorem fl_X1_46 : Cond.fieldLink RX1 46 (TX1 3).1 (TX1 3).2.1 (TX1 3).2.2.1 ∈ TG := tg 100 (by decide +kernel) (by decide +kernel)
theorem fl_X2_9 : Cond.fieldLink RX2 9 (TX2 0).1 (TX2 0).2.1 (TX2 0).2.2.1 ∈ TG := tg 68 (by decide +kernel) (by decide +kernel)
theorem fl_X2_15 : Cond.fieldLink RX2 15 (TX2 1).1 (TX2 1).2.1 (TX2 1).2.2.1 ∈ TG := tg 69 (by decide +kernel) (by decide +kernel)
theorem fl_X2_32 : Cond.fieldLink RX2 32 (TX1 0).1 (TX1 0).2.1 (TX1 0).2.2.1 ∈ TG := tg 92 (by decide +kernel) (by decide +kernel)
theorem fl_X2_41 : Cond.fieldLink RX2 41 (TX1 1).1 (TX1 1).2.1 (TX1 1).2.2.1 ∈ TG := tg 95 (by decide +kernel) (by decide +kernel)
theorem fl_X2_44 : Cond.fieldLink RX2 44 (TX2 2).1 (TX2 2).2.1 (TX2 2).2.2.1 ∈ TG := tg 70 (by decide +kernel) (by decide +kernel)
theorem fl_X2_51 : Cond.fieldLink RX2 51 (TX2 3).1 (TX2 3).2.1 (TX2 3).2.2.1 ∈ TG := tg 71 (by decide +kernel) (by decide +kernel)
theorem fl_X2_54 : Cond.fieldLink RX2 54 (TX2 4).1 (TX2 4).2.1 (TX2 4).2.2.1 ∈ TG := tg 72 (by decide +kernel) (by decide +kernel)
theorem fl_X4_7 : Cond.fieldLink RX4 7 (TX4 2).1 (TX4 2).2.1 (TX4 2).2.2.1 ∈ TG := tg 588 (by decide +kernel) (by decide +kernel)
theorem fl_X4_13 : Cond.fieldLink RX4 13 (TX4 3).1 (TX4 3).2.1 (TX4 3).2.2.1 ∈ TG := tg 589 (by decide +kernel) (by decide +kernel)
theorem fl_X4_16 : Cond.fieldLink RX4 16 (TX4 4).1 (TX4 4).2.1 (TX4 4).2.2.1 ∈ TG := tg 590 (by decide +kernel) (by decide +kernel)
theorem fl_X4_19 : Cond.fieldLink RX4 19 (TX4 5).1 (TX4 5).2.1 (TX4 5).2.2.1 ∈ TG := tg 591 (by decide +kernel) (by decide +kernel)
theorem fl_X4_22 : Cond.fieldLink RX4 22 (TX4 6).1 (TX4 6).2.1 (TX4 6).2.2.1 ∈ TG := tg 592 (by decide +kernel) (by decide +kernel)
theorem fl_X4_25 : Cond.fieldLink RX4 25 (TX4 7).1 (TX4 7).2.1 (TX4 7).2.2.1 ∈ TG := tg 593 (by decide +kernel) (by decide +kernel)
theorem fl_X4_28 : Cond.fieldLink RX4 28 (TX4 10).1 (TX4 10).2.1 (TX4 10).2.2.1 ∈ TG := tg 596 (by decide +kernel) (by decide +kernel)
theorem fl_X4_31 : Cond.fieldLink RX4 31 (TX4 16).1 (TX4 16).2.1 (TX4 16).2.2.1 ∈ TG := tg 602 (by decide +kernel) (by decide +kernel)
theorem fl_X4_34 : Cond.fieldLink RX4 34 (TX4 18).1 (TX4 18).2.1 (TX4 18).2.2.1 ∈ TG := tg 604 (by decide +kernel) (by decide +kernel)
theorem fl_X4_37 : Cond.fieldLink RX4 37 (TX4 19).1 (TX4 19).2.1 (TX4 19).2.2.1 ∈ TG := tg 605 (by decide +kernel) (by decide +kernel)
theorem fl_X4_40 : Cond.fieldLink RX4 40 (TX4 20).1 (TX4 20).2.1 (TX4 20).2.2.1 ∈ TG := tg 606 (by decide +kernel) (by decide +kernel)
theorem fl_X4_43 : Cond.fieldLink RX4 43 (TX4 22).1 (TX4 22).2.1 (TX4 22).2.2.1 ∈ TG := tg 608 (by decide +kernel) (by decide +kernel)
theorem fl_X4_47 : Cond.fieldLink RX4 47 (TX4 23).1 (TX4 23).2.1 (TX4 23).2.2.1 ∈ TG := tg 609 (by decide +kernel) (by decide +kernel)
theorem fl_X4_50 : Cond.fieldLink RX4 50 (TX4 0).1 (TX4 0).2.1 (TX4 0).2.2.1 ∈ TG := tg 586 (by decide +kernel) (by decide +kernel)
theorem fl_X4_60 : Cond.fieldLink RX4 60 (TX4 11).1 (TX4 11).2.1 (TX4 11).2.2.1 ∈ TG := tg 597 (by decide +kernel) (by decide +kernel)
theorem fl_X4_63 : Cond.fieldLink RX4 63 (TX4 13).1 (TX4 13).2.1 (TX4 13).2.2.1 ∈ TG := tg 599 (by decide +kernel) (by decide +kernel)
theorem fl_X4_66 : Cond.fieldLink RX4 66 (TX4 12).1 (TX4 12).2.1 (TX4 12).2.2.1 ∈ TG := tg 598 (by decide +kernel) (by decide +kernel)
theorem fl_X4_75 : Cond.fieldLink RX4 75 (TX4 8).1 (TX4 8).2.1 (TX4 8).2.2.1 ∈ TG := tg 594 (by decide +kernel) (by decide +kernel)
theorem fl_X4_82 : Cond.fieldLink RX4 82 (TX4 9).1 (TX4 9).2.1 (TX4 9).2.2.1 ∈ TG := tg 595 (by decide +kernel) (by decide +kernel)
theorem fl_X4_99 : Cond.fieldLink RX4 99 (TX4 1).1 (TX4 1).2.1 (TX4 1).2.2.1 ∈ TG := tg 587 (by decide +kernel) (by decide +kernel)
theorem fl_X4_102 : Cond.fieldLink RX4 102 (TX4 14).1 (TX4 14).2.1 (TX4 14).2.2.1 ∈ TG := tg 600 (by decide +kernel) (by decide +kernel)
theorem fl_X4_138 : Cond.fieldLink RX4 138 (TX4 15).1 (TX4 15).2.1 (TX4 15).2.2.1 ∈ TG := tg 601 (by decide +kernel) (by decide +kernel)
theorem fl_X4_193 : Cond.fieldLink RX4 193 (TX4 17).1 (TX4 17).2.1 (TX4 17).2.2.1 ∈ TG := tg 603 (by decide +kernel) (by decide +kernel)
theorem fl_X4_214 : Cond.fieldLink RX4 214 (TX4 21).1 (TX4 21).2.1 (TX4 21).2.2.1 ∈ TG := tg 607 (by decide +kernel) (by decide +kernel)
theorem ml_X3_62 : Cond.methodLink RX3 62 yX3_readInto ∈ TG := tg 222 (by decide +kernel) (by decide +kernel)
theorem ml_X3_66 : Cond.methodLink RX3 66 yX1_copyFrom ∈ TG := tg 306 (by decide +kernel) (by decide +kernel)
theorem ml_X3_79 : Cond.methodLink RX3 79 yX1_hasStamp ∈ TG := tg 317 (by decide +kernel) (by decide +kernel)
theorem ml_X3_92 : Cond.methodLink RX3 92 yX1_span ∈ TG := tg 318 (by decide +kernel) (by decide +kernel)
theorem ml_X3_96 : Cond.methodLink RX3 96 yX1_rate ∈ TG := tg 322 (by decide +kernel) (by decide +kernel)
theorem ml_X3_99 : Cond.methodLink RX3 99 yX1_isAlive ∈ TG := tg 329 (by decide +kernel) (by decide +kernel)
theorem ml_X3_108 : Cond.methodLink RX3 108 yX1_hasLetter ∈ TG := tg 338 (by decide +kernel) (by decide +kernel)
theorem ml_X3_117 : Cond.methodLink RX3 117 yX1_stuckBits ∈ TG := tg 342 (by decide +kernel) (by decide +kernel)
theorem ml_X3_120 : Cond.methodLink RX3 120 yX1_goodFor ∈ TG := tg 346 (by decide +kernel) (by decide +kernel)
theorem ml_X3_126 : Cond.methodLink RX3 126 yX3_remember ∈ TG := tg 356 (by decide +kernel) (by decide +kernel)
theorem ml_X3_129 : Cond.methodLink RX3 129 yX1_passWeek ∈ TG := tg 373 (by decide +kernel) (by decide +kernel)
theorem ml_X3_132 : Cond.methodLink RX3 132 yX1_aliveBits ∈ TG := tg 394 (by decide +kernel) (by decide +kernel)
theorem ml_X3_136 : Cond.methodLink RX3 136 yJ6_bitCount_0f7a4 ∈ TG := tg 395 (by decide +kernel) (by decide +kernel)
theorem ml_X3_141 : Cond.methodLink RX3 141 yX1_canStick ∈ TG := tg 405 (by decide +kernel) (by decide +kernel)
theorem ml_X3_145 : Cond.methodLink RX3 145 yX1_stickOn ∈ TG := tg 410 (by decide +kernel) (by decide +kernel)
theorem ml_X3_149 : Cond.methodLink RX3 149 yX1_canSend ∈ TG := tg 419 (by decide +kernel) (by decide +kernel)
theorem ml_X3_152 : Cond.methodLink RX3 152 yX1_sendOff ∈ TG := tg 424 (by decide +kernel) (by decide +kernel)
theorem ml_X3_155 : Cond.methodLink RX3 155 yX1_areJoined ∈ TG := tg 432 (by decide +kernel) (by decide +kernel)
theorem ml_X3_158 : Cond.methodLink RX3 158 yX1_partTwo ∈ TG := tg 433 (by decide +kernel) (by decide +kernel)
theorem ml_X3_165 : Cond.methodLink RX3 165 yX0_load ∈ TG := tg 445 (by decide +kernel) (by decide +kernel)
theorem ml_X3_169 : Cond.methodLink RX3 169 yX1_allBits ∈ TG := tg 457 (by decide +kernel) (by decide +kernel)
theorem ml_X3_172 : Cond.methodLink RX3 172 yX1_freeBits ∈ TG := tg 458 (by decide +kernel) (by decide +kernel)
theorem ml_X3_175 : Cond.methodLink RX3 175 yX3_tryToSend ∈ TG := tg 462 (by decide +kernel) (by decide +kernel)
theorem ml_X3_179 : Cond.methodLink RX3 179 yX1_joinedToAny ∈ TG := tg 474 (by decide +kernel) (by decide +kernel)
theorem ml_X3_184 : Cond.methodLink RX3 184 yX1_does ∈ TG := tg 483 (by decide +kernel) (by decide +kernel)
theorem ml_X3_190 : Cond.methodLink RX3 190 yX3_agreesWithSeen ∈ TG := tg 505 (by decide +kernel) (by decide +kernel)
theorem ml_X3_193 : Cond.methodLink RX3 193 yX3_factorial ∈ TG := tg 513 (by decide +kernel) (by decide +kernel)
theorem ml_X3_197 : Cond.methodLink RX3 197 yX1_affordable ∈ TG := tg 516 (by decide +kernel) (by decide +kernel)
theorem ml_X3_200 : Cond.methodLink RX3 200 yX3_toldPart ∈ TG := tg 520 (by decide +kernel) (by decide +kernel)
theorem ml_X3_204 : Cond.methodLink RX3 204 yX3_isContent ∈ TG := tg 530 (by decide +kernel) (by decide +kernel)
theorem ml_X3_208 : Cond.methodLink RX3 208 yX1_livingPairs ∈ TG := tg 537 (by decide +kernel) (by decide +kernel)
theorem ml_X3_211 : Cond.methodLink RX3 211 yX3_choose ∈ TG := tg 542 (by decide +kernel) (by decide +kernel)
theorem ml_X3_215 : Cond.methodLink RX3 215 yX3_power ∈ TG := tg 545 (by decide +kernel) (by decide +kernel)
theorem ml_X3_228 : Cond.methodLink RX3 228 yX3_tryWeeks ∈ TG := tg 559 (by decide +kernel) (by decide +kernel)
theorem ml_X3_231 : Cond.methodLink RX3 231 yX0_store ∈ TG := tg 365 (by decide +kernel) (by decide +kernel)
theorem ml_X3_237 : Cond.methodLink RX3 237 yX1_widowBits ∈ TG := tg 575 (by decide +kernel) (by decide +kernel)
theorem ml_X3_240 : Cond.methodLink RX3 240 yX1_fateBits ∈ TG := tg 576 (by decide +kernel) (by decide +kernel)
theorem ml_X3_243 : Cond.methodLink RX3 243 yX1_clear ∈ TG := tg 226 (by decide +kernel) (by decide +kernel)
theorem ml_X3_246 : Cond.methodLink RX3 246 yX2_begin ∈ TG := tg 233 (by decide +kernel) (by decide +kernel)
theorem ml_X3_249 : Cond.methodLink RX3 249 yX2_takes ∈ TG := tg 237 (by decide +kernel) (by decide +kernel)
theorem ml_X3_253 : Cond.methodLink RX3 253 yX2_mayEnd ∈ TG := tg 298 (by decide +kernel) (by decide +kernel)
theorem ml_X3_257 : Cond.methodLink RX3 257 yX0_forgetFirst ∈ TG := tg 360 (by decide +kernel) (by decide +kernel)
theorem ml_X3_260 : Cond.methodLink RX3 260 yX3_commonDivisor ∈ TG := tg 523 (by decide +kernel) (by decide +kernel)
theorem ml_X0_11 : Cond.methodLink RX0 11 Lib.Math.max.name ∈ TG := tg 156 (by decide +kernel) (by decide +kernel)
theorem ml_X0_21 : Cond.methodLink RX0 21 yX0_holds ∈ TG := tg 369 (by decide +kernel) (by decide +kernel)
theorem ml_X0_30 : Cond.methodLink RX0 30 arraycopyName ∈ TG := tg 364 (by decide +kernel) (by decide +kernel)
theorem ml_X1_50 : Cond.methodLink RX1 50 yJ7_fill_53178 ∈ TG := tg 230 (by decide +kernel) (by decide +kernel)
theorem ml_X1_56 : Cond.methodLink RX1 56 arraycopyName ∈ TG := tg 310 (by decide +kernel) (by decide +kernel)
theorem ml_X1_62 : Cond.methodLink RX1 62 yX1_hasStamp ∈ TG := tg 253 (by decide +kernel) (by decide +kernel)
theorem ml_X1_66 : Cond.methodLink RX1 66 yX1_areJoined ∈ TG := tg 282 (by decide +kernel) (by decide +kernel)
theorem ml_X1_70 : Cond.methodLink RX1 70 yX1_allBits ∈ TG := tg 257 (by decide +kernel) (by decide +kernel)
theorem ml_X1_74 : Cond.methodLink RX1 74 yX1_canJoinSome ∈ TG := tg 249 (by decide +kernel) (by decide +kernel)
theorem ml_X1_77 : Cond.methodLink RX1 77 yX1_span ∈ TG := tg 333 (by decide +kernel) (by decide +kernel)
theorem ml_X1_81 : Cond.methodLink RX1 81 Lib.Math.min.name ∈ TG := tg 326 (by decide +kernel) (by decide +kernel)
theorem ml_X1_87 : Cond.methodLink RX1 87 yX1_isAlive ∈ TG := tg 350 (by decide +kernel) (by decide +kernel)
theorem ml_X1_90 : Cond.methodLink RX1 90 yX1_aliveBits ∈ TG := tg 377 (by decide +kernel) (by decide +kernel)
theorem ml_X1_93 : Cond.methodLink RX1 93 yX1_rate ∈ TG := tg 351 (by decide +kernel) (by decide +kernel)
theorem ml_X1_96 : Cond.methodLink RX1 96 yX1_goodFor ∈ TG := tg 423 (by decide +kernel) (by decide +kernel)
theorem ml_X1_99 : Cond.methodLink RX1 99 yJ6_bitCount_0f7a4 ∈ TG := tg 541 (by decide +kernel) (by decide +kernel)
theorem ml_X1_104 : Cond.methodLink RX1 104 yX1_hasLetter ∈ TG := tg 409 (by decide +kernel) (by decide +kernel)
theorem ml_X1_107 : Cond.methodLink RX1 107 Lib.Math.max.name ∈ TG := tg 414 (by decide +kernel) (by decide +kernel)
theorem ml_X1_110 : Cond.methodLink RX1 110 yX1_stuckBits ∈ TG := tg 393 (by decide +kernel) (by decide +kernel)
theorem ml_X1_113 : Cond.methodLink RX1 113 yX1_growOlder ∈ TG := tg 381 (by decide +kernel) (by decide +kernel)
theorem ml_X1_117 : Cond.methodLink RX1 117 yX1_widowBits ∈ TG := tg 385 (by decide +kernel) (by decide +kernel)
theorem ml_X1_120 : Cond.methodLink RX1 120 yX1_carry ∈ TG := tg 389 (by decide +kernel) (by decide +kernel)
theorem ml_X1_124 : Cond.methodLink RX1 124 yX1_passWeek ∈ TG := tg 487 (by decide +kernel) (by decide +kernel)
theorem ml_X1_127 : Cond.methodLink RX1 127 yX1_canStick ∈ TG := tg 488 (by decide +kernel) (by decide +kernel)
theorem ml_X1_130 : Cond.methodLink RX1 130 yX1_stickOn ∈ TG := tg 489 (by decide +kernel) (by decide +kernel)
theorem ml_X1_133 : Cond.methodLink RX1 133 yX1_canSend ∈ TG := tg 490 (by decide +kernel) (by decide +kernel)
theorem ml_X1_136 : Cond.methodLink RX1 136 yX1_sendOff ∈ TG := tg 491 (by decide +kernel) (by decide +kernel)
theorem ml_X1_139 : Cond.methodLink RX1 139 yX1_partTwo ∈ TG := tg 492 (by decide +kernel) (by decide +kernel)
theorem ml_X2_19 : Cond.methodLink RX2 19 yX2_opens ∈ TG := tg 241 (by decide +kernel) (by decide +kernel)
theorem ml_X2_23 : Cond.methodLink RX2 23 yX2_takesOfStamp ∈ TG := tg 261 (by decide +kernel) (by decide +kernel)
theorem ml_X2_26 : Cond.methodLink RX2 26 yX2_takesOfJoin ∈ TG := tg 273 (by decide +kernel) (by decide +kernel)
theorem ml_X2_29 : Cond.methodLink RX2 29 yX2_takesOfLetter ∈ TG := tg 290 (by decide +kernel) (by decide +kernel)
theorem ml_X2_37 : Cond.methodLink RX2 37 yX1_canJoinAny ∈ TG := tg 245 (by decide +kernel) (by decide +kernel)
theorem ml_X2_47 : Cond.methodLink RX2 47 yX2_hold ∈ TG := tg 265 (by decide +kernel) (by decide +kernel)
theorem ml_X2_57 : Cond.methodLink RX2 57 yX1_addStamp ∈ TG := tg 269 (by decide +kernel) (by decide +kernel)
theorem ml_X2_61 : Cond.methodLink RX2 61 yX1_canJoinSome ∈ TG := tg 277 (by decide +kernel) (by decide +kernel)
theorem ml_X2_65 : Cond.methodLink RX2 65 yX1_canJoin ∈ TG := tg 278 (by decide +kernel) (by decide +kernel)
theorem ml_X2_69 : Cond.methodLink RX2 69 yX1_joinTwo ∈ TG := tg 286 (by decide +kernel) (by decide +kernel)
theorem ml_X2_73 : Cond.methodLink RX2 73 yX1_addLetter ∈ TG := tg 294 (by decide +kernel) (by decide +kernel)
theorem ml_L_13 : Cond.methodLink RL 13 yX3_write ∈ TG := tg 210 (by decide +kernel) (by decide +kernel)
theorem ml_L_17 : Cond.methodLink RL 17 yX4_write ∈ TG := tg 659 (by decide +kernel) (by decide +kernel)
theorem ml_L_18 : Cond.methodLink RL 18 yX3_wipe ∈ TG := tg 214 (by decide +kernel) (by decide +kernel)
theorem ml_L_22 : Cond.methodLink RL 22 yX4_wipe ∈ TG := tg 667 (by decide +kernel) (by decide +kernel)
theorem ml_L_23 : Cond.methodLink RL 23 yX3_fault ∈ TG := tg 218 (by decide +kernel) (by decide +kernel)
theorem ml_L_26 : Cond.methodLink RL 26 yX4_fault ∈ TG := tg 671 (by decide +kernel) (by decide +kernel)
theorem ml_L_27 : Cond.methodLink RL 27 yX3_album ∈ TG := tg 302 (by decide +kernel) (by decide +kernel)
theorem ml_L_30 : Cond.methodLink RL 30 yX4_album ∈ TG := tg 699 (by decide +kernel) (by decide +kernel)
theorem ml_L_31 : Cond.methodLink RL 31 yX3_stamp ∈ TG := tg 313 (by decide +kernel) (by decide +kernel)
theorem ml_L_35 : Cond.methodLink RL 35 yX4_stamp ∈ TG := tg 703 (by decide +kernel) (by decide +kernel)
theorem ml_L_36 : Cond.methodLink RL 36 yX3_letter ∈ TG := tg 334 (by decide +kernel) (by decide +kernel)
theorem ml_L_39 : Cond.methodLink RL 39 yX4_letter ∈ TG := tg 723 (by decide +kernel) (by decide +kernel)
theorem ml_L_40 : Cond.methodLink RL 40 yX3_week ∈ TG := tg 352 (by decide +kernel) (by decide +kernel)
theorem ml_L_43 : Cond.methodLink RL 43 yX4_week ∈ TG := tg 739 (by decide +kernel) (by decide +kernel)
theorem ml_L_44 : Cond.methodLink RL 44 yX3_stick ∈ TG := tg 401 (by decide +kernel) (by decide +kernel)
theorem ml_L_47 : Cond.methodLink RL 47 yX4_stick ∈ TG := tg 766 (by decide +kernel) (by decide +kernel)
theorem ml_L_48 : Cond.methodLink RL 48 yX3_send ∈ TG := tg 415 (by decide +kernel) (by decide +kernel)
theorem ml_L_51 : Cond.methodLink RL 51 yX4_send ∈ TG := tg 782 (by decide +kernel) (by decide +kernel)
theorem ml_L_52 : Cond.methodLink RL 52 yX3_part ∈ TG := tg 428 (by decide +kernel) (by decide +kernel)
theorem ml_L_55 : Cond.methodLink RL 55 yX4_part ∈ TG := tg 790 (by decide +kernel) (by decide +kernel)
theorem ml_L_56 : Cond.methodLink RL 56 yX3_damp ∈ TG := tg 437 (by decide +kernel) (by decide +kernel)
theorem ml_L_59 : Cond.methodLink RL 59 yX4_damp ∈ TG := tg 802 (by decide +kernel) (by decide +kernel)
theorem ml_L_60 : Cond.methodLink RL 60 yX3_undo ∈ TG := tg 441 (by decide +kernel) (by decide +kernel)
theorem ml_L_63 : Cond.methodLink RL 63 yX4_undo ∈ TG := tg 806 (by decide +kernel) (by decide +kernel)
theorem ml_L_64 : Cond.methodLink RL 64 yX3_lives ∈ TG := tg 449 (by decide +kernel) (by decide +kernel)
theorem ml_L_67 : Cond.methodLink RL 67 yX4_lives ∈ TG := tg 810 (by decide +kernel) (by decide +kernel)
theorem ml_L_68 : Cond.methodLink RL 68 yX3_comes ∈ TG := tg 453 (by decide +kernel) (by decide +kernel)
theorem ml_L_71 : Cond.methodLink RL 71 yX4_comes ∈ TG := tg 818 (by decide +kernel) (by decide +kernel)
theorem ml_L_72 : Cond.methodLink RL 72 yX3_fewest ∈ TG := tg 466 (by decide +kernel) (by decide +kernel)
theorem ml_L_75 : Cond.methodLink RL 75 yX4_fewest ∈ TG := tg 830 (by decide +kernel) (by decide +kernel)
theorem ml_L_76 : Cond.methodLink RL 76 yX3_block ∈ TG := tg 470 (by decide +kernel) (by decide +kernel)
theorem ml_L_79 : Cond.methodLink RL 79 yX4_block ∈ TG := tg 834 (by decide +kernel) (by decide +kernel)
theorem ml_L_82 : Cond.methodLink RL 82 yX3_judge ∈ TG := tg 478 (by decide +kernel) (by decide +kernel)
theorem ml_L_86 : Cond.methodLink RL 86 yX4_judge ∈ TG := tg 838 (by decide +kernel) (by decide +kernel)
theorem ml_L_87 : Cond.methodLink RL 87 yX3_see ∈ TG := tg 493 (by decide +kernel) (by decide +kernel)
theorem ml_L_91 : Cond.methodLink RL 91 yX4_see ∈ TG := tg 852 (by decide +kernel) (by decide +kernel)
theorem ml_L_92 : Cond.methodLink RL 92 yX3_unsee ∈ TG := tg 497 (by decide +kernel) (by decide +kernel)
theorem ml_L_95 : Cond.methodLink RL 95 yX4_unsee ∈ TG := tg 857 (by decide +kernel) (by decide +kernel)
theorem ml_L_96 : Cond.methodLink RL 96 yX3_bought ∈ TG := tg 501 (by decide +kernel) (by decide +kernel)
theorem ml_L_99 : Cond.methodLink RL 99 yX4_bought ∈ TG := tg 861 (by decide +kernel) (by decide +kernel)
theorem ml_L_100 : Cond.methodLink RL 100 yX3_share ∈ TG := tg 509 (by decide +kernel) (by decide +kernel)
theorem ml_L_104 : Cond.methodLink RL 104 yX4_share ∈ TG := tg 865 (by decide +kernel) (by decide +kernel)
theorem ml_L_105 : Cond.methodLink RL 105 yX3_rests ∈ TG := tg 526 (by decide +kernel) (by decide +kernel)
theorem ml_L_109 : Cond.methodLink RL 109 yX4_rests ∈ TG := tg 879 (by decide +kernel) (by decide +kernel)
theorem ml_L_110 : Cond.methodLink RL 110 yX3_born ∈ TG := tg 533 (by decide +kernel) (by decide +kernel)
theorem ml_L_114 : Cond.methodLink RL 114 yX4_born ∈ TG := tg 891 (by decide +kernel) (by decide +kernel)
theorem ml_L_115 : Cond.methodLink RL 115 yX3_seed ∈ TG := tg 548 (by decide +kernel) (by decide +kernel)
theorem ml_L_119 : Cond.methodLink RL 119 yX4_seed ∈ TG := tg 895 (by decide +kernel) (by decide +kernel)
theorem ml_L_120 : Cond.methodLink RL 120 yX3_years ∈ TG := tg 552 (by decide +kernel) (by decide +kernel)
theorem ml_L_123 : Cond.methodLink RL 123 yX4_years ∈ TG := tg 899 (by decide +kernel) (by decide +kernel)
theorem ml_L_124 : Cond.methodLink RL 124 yX3_keep ∈ TG := tg 563 (by decide +kernel) (by decide +kernel)
theorem ml_L_127 : Cond.methodLink RL 127 yX4_keep ∈ TG := tg 906 (by decide +kernel) (by decide +kernel)
theorem ml_L_128 : Cond.methodLink RL 128 yX3_again ∈ TG := tg 567 (by decide +kernel) (by decide +kernel)
theorem ml_L_131 : Cond.methodLink RL 131 yX4_again ∈ TG := tg 910 (by decide +kernel) (by decide +kernel)
theorem ml_L_132 : Cond.methodLink RL 132 yX3_count ∈ TG := tg 571 (by decide +kernel) (by decide +kernel)
theorem ml_L_135 : Cond.methodLink RL 135 yX4_count ∈ TG := tg 914 (by decide +kernel) (by decide +kernel)
theorem ml_X4_56 : Cond.methodLink RX4 56 yX4_in ∈ TG := tg 664 (by decide +kernel) (by decide +kernel)
theorem ml_X4_71 : Cond.methodLink RX4 71 yX4_has ∈ TG := tg 688 (by decide +kernel) (by decide +kernel)
theorem ml_X4_78 : Cond.methodLink RX4 78 yX4_left ∈ TG := tg 695 (by decide +kernel) (by decide +kernel)
theorem ml_X4_85 : Cond.methodLink RX4 85 yX4_readPart ∈ TG := tg 679 (by decide +kernel) (by decide +kernel)
theorem ml_X4_89 : Cond.methodLink RX4 89 yX4_figureOf ∈ TG := tg 683 (by decide +kernel) (by decide +kernel)
theorem ml_X4_92 : Cond.methodLink RX4 92 yX4_firstsLeft ∈ TG := tg 691 (by decide +kernel) (by decide +kernel)
theorem ml_X4_96 : Cond.methodLink RX4 96 yX4_readText ∈ TG := tg 675 (by decide +kernel) (by decide +kernel)
theorem ml_X4_105 : Cond.methodLink RX4 105 yX4_span ∈ TG := tg 711 (by decide +kernel) (by decide +kernel)
theorem ml_X4_109 : Cond.methodLink RX4 109 yX4_isAlive ∈ TG := tg 719 (by decide +kernel) (by decide +kernel)
theorem ml_X4_112 : Cond.methodLink RX4 112 yX4_rate ∈ TG := tg 715 (by decide +kernel) (by decide +kernel)
theorem ml_X4_115 : Cond.methodLink RX4 115 yX4_living ∈ TG := tg 751 (by decide +kernel) (by decide +kernel)
theorem ml_X4_118 : Cond.methodLink RX4 118 yX4_age ∈ TG := tg 755 (by decide +kernel) (by decide +kernel)
theorem ml_X4_122 : Cond.methodLink RX4 122 yX4_widows ∈ TG := tg 759 (by decide +kernel) (by decide +kernel)
theorem ml_X4_125 : Cond.methodLink RX4 125 yX4_onLetter ∈ TG := tg 731 (by decide +kernel) (by decide +kernel)
theorem ml_X4_128 : Cond.methodLink RX4 128 yX4_isStamp ∈ TG := tg 707 (by decide +kernel) (by decide +kernel)
theorem ml_X4_132 : Cond.methodLink RX4 132 yX4_isLetter ∈ TG := tg 727 (by decide +kernel) (by decide +kernel)
theorem ml_X4_135 : Cond.methodLink RX4 135 yX4_goodFor ∈ TG := tg 735 (by decide +kernel) (by decide +kernel)
theorem ml_X4_141 : Cond.methodLink RX4 141 yX4_keepAct ∈ TG := tg 743 (by decide +kernel) (by decide +kernel)
theorem ml_X4_144 : Cond.methodLink RX4 144 yX4_passOn ∈ TG := tg 747 (by decide +kernel) (by decide +kernel)
theorem ml_X4_147 : Cond.methodLink RX4 147 yX4_ones ∈ TG := tg 763 (by decide +kernel) (by decide +kernel)
theorem ml_X4_150 : Cond.methodLink RX4 150 yX4_isFree ∈ TG := tg 774 (by decide +kernel) (by decide +kernel)
theorem ml_X4_153 : Cond.methodLink RX4 153 yX4_canStick ∈ TG := tg 770 (by decide +kernel) (by decide +kernel)
theorem ml_X4_157 : Cond.methodLink RX4 157 yX4_stickOn ∈ TG := tg 778 (by decide +kernel) (by decide +kernel)
theorem ml_X4_160 : Cond.methodLink RX4 160 yX4_canSend ∈ TG := tg 786 (by decide +kernel) (by decide +kernel)
theorem ml_X4_163 : Cond.methodLink RX4 163 yX4_canPart ∈ TG := tg 794 (by decide +kernel) (by decide +kernel)
theorem ml_X4_166 : Cond.methodLink RX4 166 yX4_partOn ∈ TG := tg 798 (by decide +kernel) (by decide +kernel)
theorem ml_X4_169 : Cond.methodLink RX4 169 yX4_layTrial ∈ TG := tg 814 (by decide +kernel) (by decide +kernel)
theorem ml_X4_172 : Cond.methodLink RX4 172 yX4_freeOnes ∈ TG := tg 822 (by decide +kernel) (by decide +kernel)
theorem ml_X4_175 : Cond.methodLink RX4 175 yX4_ends ∈ TG := tg 826 (by decide +kernel) (by decide +kernel)
theorem ml_X4_182 : Cond.methodLink RX4 182 yX4_tenTo ∈ TG := tg 843 (by decide +kernel) (by decide +kernel)
theorem ml_X4_188 : Cond.methodLink RX4 188 yX4_tryThing ∈ TG := tg 848 (by decide +kernel) (by decide +kernel)
theorem ml_X4_196 : Cond.methodLink RX4 196 yX4_factorial ∈ TG := tg 869 (by decide +kernel) (by decide +kernel)
theorem ml_X4_199 : Cond.methodLink RX4 199 yX4_paidBy ∈ TG := tg 872 (by decide +kernel) (by decide +kernel)
theorem ml_X4_202 : Cond.methodLink RX4 202 yX4_common ∈ TG := tg 876 (by decide +kernel) (by decide +kernel)
theorem ml_X4_206 : Cond.methodLink RX4 206 yX4_gain ∈ TG := tg 887 (by decide +kernel) (by decide +kernel)
theorem ml_X4_210 : Cond.methodLink RX4 210 yX4_isRest ∈ TG := tg 883 (by decide +kernel) (by decide +kernel)
theorem ml_X4_224 : Cond.methodLink RX4 224 yX4_lettersThatAre ∈ TG := tg 918 (by decide +kernel) (by decide +kernel)
theorem kl_X3_182 : Cond.constantLong RX3 182 (1000) ∈ TG := tg 482 (by decide +kernel) (by decide +kernel)
theorem kl_X3_222 : Cond.constantLong RX3 222 (6364136223846793005) ∈ TG := tg 556 (by decide +kernel) (by decide +kernel)
theorem kl_X3_224 : Cond.constantLong RX3 224 (1442695040888963407) ∈ TG := tg 557 (by decide +kernel) (by decide +kernel)
theorem kl_X3_226 : Cond.constantLong RX3 226 (10) ∈ TG := tg 558 (by decide +kernel) (by decide +kernel)
theorem kl_L_80 : Cond.constantLong RL 80 (4294967295) ∈ TG := tg 922 (by decide +kernel) (by decide +kernel)
theorem kl_X4_54 : Cond.constantLong RX4 54 (255) ∈ TG := tg 663 (by decide +kernel) (by decide +kernel)
theorem kl_X4_69 : Cond.constantLong RX4 69 (9) ∈ TG := tg 687 (by decide +kernel) (by decide +kernel)
theorem kl_X4_178 : Cond.constantLong RX4 178 (10) ∈ TG := tg 846 (by decide +kernel) (by decide +kernel)
theorem kl_X4_180 : Cond.constantLong RX4 180 (4) ∈ TG := tg 842 (by decide +kernel) (by decide +kernel)
theorem kl_X4_186 : Cond.constantLong RX4 186 (1000) ∈ TG := tg 847 (by decide +kernel) (by decide +kernel)
theorem kl_X4_191 : Cond.constantLong RX4 191 (99) ∈ TG := tg 856 (by decide +kernel) (by decide +kernel)
theorem kl_X4_218 : Cond.constantLong RX4 218 (30) ∈ TG := tg 903 (by decide +kernel) (by decide +kernel)
theorem kl_X4_220 : Cond.constantLong RX4 220 (6364136223846793005) ∈ TG := tg 904 (by decide +kernel) (by decide +kernel)
theorem kl_X4_222 : Cond.constantLong RX4 222 (1442695040888963407) ∈ TG := tg 905 (by decide +kernel) (by decide +kernel)
theorem kl_J6_265 : Cond.constant RJ6 265 (1431655765) ∈ TG := tg 398 (by decide +kernel) (by decide +kernel)
theorem kl_J6_266 : Cond.constant RJ6 266 (858993459) ∈ TG := tg 399 (by decide +kernel) (by decide +kernel)
theorem kl_J6_267 : Cond.constant RJ6 267 (252645135) ∈ TG := tg 400 (by decide +kernel) (by decide +kernel)
abbrev mX0_holds : MD := (RX0, cX0_holds, 2, (some .boolean), 0, 0)
set_option maxRecDepth 20000 in
theorem fvX0_holds : FV yX0_holds mX0_holds 1 := ⟨by decide +kernel, tg 372 rfl rfl, tg 48 (by decide +kernel) (by decide +kernel), ⟨by decide +kernel, by decide +kernel⟩, by decide +kernel, rfl⟩
theorem fiX0_holds : FI yX0_holds := ⟨tg 371 (by decide +kernel) (by decide +kernel), tg 7 (by decide +kernel) (by decide +kernel)⟩
abbrev mX0_store : MD := (RX0, cX0_store, 4, none, 1, 60)
set_option maxRecDepth 20000 in
theorem fvX0_store : FV yX0_store mX0_store 2 := ⟨by decide +kernel, tg 368 rfl rfl, tg 48 (by decide +kernel) (by decide +kernel), ⟨by decide +kernel, by decide +kernel⟩, by decide +kernel, rfl⟩
theorem fiX0_store : FI yX0_store := ⟨tg 366 (by decide +kernel) (by decide +kernel), tg 367 (by decide +kernel) (by decide +kernel)⟩
abbrev mX0_load : MD := (RX0, cX0_load, 4, none, 1, 60)
set_option maxRecDepth 20000 in
theorem fvX0_load : FV yX0_load mX0_load 2 := ⟨by decide +kernel, tg 448 rfl rfl, tg 48 (by decide +kernel) (by decide +kernel), ⟨by decide +kernel, by decide +kernel⟩, by decide +kernel, rfl⟩
theorem fiX0_load : FI yX0_load := ⟨tg 446 (by decide +kernel) (by decide +kernel), tg 447 (by decide +kernel) (by decide +kernel)⟩
abbrev mX0_forgetFirst : MD := (RX0, cX0_forgetFirst, 1, none, 1, 60)
set_option maxRecDepth 20000 in
theorem fvX0_forgetFirst : FV yX0_forgetFirst mX0_forgetFirst 0 := ⟨by decide +kernel, tg 363 rfl rfl, tg 48 (by decide +kernel) (by decide +kernel), ⟨by decide +kernel, by decide +kernel⟩, by decide +kernel, rfl⟩
theorem fiX0_forgetFirst : FI yX0_forgetFirst := ⟨tg 361 (by decide +kernel) (by decide +kernel), tg 362 (by decide +kernel) (by decide +kernel)⟩
abbrev mX1_clear : MD := (RX1, cX1_clear, 1, none, 1, 23)
set_option maxRecDepth 20000 in
theorem fvX1_clear : FV yX1_clear mX1_clear 0 := ⟨by decide +kernel, tg 229 rfl rfl, tg 47 (by decide +kernel) (by decide +kernel), ⟨by decide +kernel, by decide +kernel⟩, by decide +kernel, rfl⟩
theorem fiX1_clear : FI yX1_clear := ⟨tg 227 (by decide +kernel) (by decide +kernel), tg 228 (by decide +kernel) (by decide +kernel)⟩
abbrev mX1_copyFrom : MD := (RX1, cX1_copyFrom, 2, none, 1, 60)
set_option maxRecDepth 20000 in
theorem fvX1_copyFrom : FV yX1_copyFrom mX1_copyFrom 1 := ⟨by decide +kernel, tg 309 rfl rfl, tg 47 (by decide +kernel) (by decide +kernel), ⟨by decide +kernel, by decide +kernel⟩, by decide +kernel, rfl⟩
theorem fiX1_copyFrom : FI yX1_copyFrom := ⟨tg 307 (by decide +kernel) (by decide +kernel), tg 308 (by decide +kernel) (by decide +kernel)⟩
abbrev mX1_hasStamp : MD := (RX1, cX1_hasStamp, 2, (some .boolean), 0, 0)
set_option maxRecDepth 20000 in
theorem fvX1_hasStamp : FV yX1_hasStamp mX1_hasStamp 1 := ⟨by decide +kernel, tg 256 rfl rfl, tg 47 (by decide +kernel) (by decide +kernel), ⟨by decide +kernel, by decide +kernel⟩, by decide +kernel, rfl⟩
theorem fiX1_hasStamp : FI yX1_hasStamp := ⟨tg 254 (by decide +kernel) (by decide +kernel), tg 255 (by decide +kernel) (by decide +kernel)⟩
abbrev mX1_hasLetter : MD := (RX1, cX1_hasLetter, 2, (some .boolean), 0, 0)
set_option maxRecDepth 20000 in
theorem fvX1_hasLetter : FV yX1_hasLetter mX1_hasLetter 1 := ⟨by decide +kernel, tg 341 rfl rfl, tg 47 (by decide +kernel) (by decide +kernel), ⟨by decide +kernel, by decide +kernel⟩, by decide +kernel, rfl⟩
theorem fiX1_hasLetter : FI yX1_hasLetter := ⟨tg 339 (by decide +kernel) (by decide +kernel), tg 340 (by decide +kernel) (by decide +kernel)⟩
abbrev mX1_allBits : MD := (RX1, cX1_allBits, 1, (some .int), 0, 0)
set_option maxRecDepth 20000 in
theorem fvX1_allBits : FV yX1_allBits mX1_allBits 0 := ⟨by decide +kernel, tg 260 rfl rfl, tg 47 (by decide +kernel) (by decide +kernel), ⟨by decide +kernel, by decide +kernel⟩, by decide +kernel, rfl⟩
theorem fiX1_allBits : FI yX1_allBits := ⟨tg 258 (by decide +kernel) (by decide +kernel), tg 259 (by decide +kernel) (by decide +kernel)⟩
abbrev mX1_addStamp : MD := (RX1, cX1_addStamp, 4, none, 0, 0)
set_option maxRecDepth 20000 in
theorem fvX1_addStamp : FV yX1_addStamp mX1_addStamp 3 := ⟨by decide +kernel, tg 272 rfl rfl, tg 47 (by decide +kernel) (by decide +kernel), ⟨by decide +kernel, by decide +kernel⟩, by decide +kernel, rfl⟩
theorem fiX1_addStamp : FI yX1_addStamp := ⟨tg 270 (by decide +kernel) (by decide +kernel), tg 271 (by decide +kernel) (by decide +kernel)⟩
abbrev mX1_addLetter : MD := (RX1, cX1_addLetter, 3, none, 0, 0)
set_option maxRecDepth 20000 in
theorem fvX1_addLetter : FV yX1_addLetter mX1_addLetter 2 := ⟨by decide +kernel, tg 297 rfl rfl, tg 47 (by decide +kernel) (by decide +kernel), ⟨by decide +kernel, by decide +kernel⟩, by decide +kernel, rfl⟩
theorem fiX1_addLetter : FI yX1_addLetter := ⟨tg 295 (by decide +kernel) (by decide +kernel), tg 296 (by decide +kernel) (by decide +kernel)⟩
abbrev mX1_joinTwo : MD := (RX1, cX1_joinTwo, 3, none, 0, 0)
set_option maxRecDepth 20000 in
theorem fvX1_joinTwo : FV yX1_joinTwo mX1_joinTwo 2 := ⟨by decide +kernel, tg 289 rfl rfl, tg 47 (by decide +kernel) (by decide +kernel), ⟨by decide +kernel, by decide +kernel⟩, by decide +kernel, rfl⟩
theorem fiX1_joinTwo : FI yX1_joinTwo := ⟨tg 287 (by decide +kernel) (by decide +kernel), tg 288 (by decide +kernel) (by decide +kernel)⟩
abbrev mX1_areJoined : MD := (RX1, cX1_areJoined, 3, (some .boolean), 1, 21)
set_option maxRecDepth 20000 in
theorem fvX1_areJoined : FV yX1_areJoined mX1_areJoined 2 := ⟨by decide +kernel, tg 285 rfl rfl, tg 47 (by decide +kernel) (by decide +kernel), ⟨by decide +kernel, by decide +kernel⟩, by decide +kernel, rfl⟩
theorem fiX1_areJoined : FI yX1_areJoined := ⟨tg 283 (by decide +kernel) (by decide +kernel), tg 284 (by decide +kernel) (by decide +kernel)⟩
abbrev mX1_canJoin : MD := (RX1, cX1_canJoin, 3, (some .boolean), 2, 43)
set_option maxRecDepth 20000 in
theorem fvX1_canJoin : FV yX1_canJoin mX1_canJoin 2 := ⟨by decide +kernel, tg 281 rfl rfl, tg 47 (by decide +kernel) (by decide +kernel), ⟨by decide +kernel, by decide +kernel⟩, by decide +kernel, rfl⟩
theorem fiX1_canJoin : FI yX1_canJoin := ⟨tg 279 (by decide +kernel) (by decide +kernel), tg 280 (by decide +kernel) (by decide +kernel)⟩
abbrev mX1_canJoinSome : MD := (RX1, cX1_canJoinSome, 2, (some .boolean), 1, 21)
set_option maxRecDepth 20000 in
theorem fvX1_canJoinSome : FV yX1_canJoinSome mX1_canJoinSome 1 := ⟨by decide +kernel, tg 252 rfl rfl, tg 47 (by decide +kernel) (by decide +kernel), ⟨by decide +kernel, by decide +kernel⟩, by decide +kernel, rfl⟩
theorem fiX1_canJoinSome : FI yX1_canJoinSome := ⟨tg 250 (by decide +kernel) (by decide +kernel), tg 251 (by decide +kernel) (by decide +kernel)⟩
abbrev mX1_canJoinAny : MD := (RX1, cX1_canJoinAny, 2, (some .boolean), 2, 42)
set_option maxRecDepth 20000 in
theorem fvX1_canJoinAny : FV yX1_canJoinAny mX1_canJoinAny 0 := ⟨by decide +kernel, tg 248 rfl rfl, tg 47 (by decide +kernel) (by decide +kernel), ⟨by decide +kernel, by decide +kernel⟩, by decide +kernel, rfl⟩
theorem fiX1_canJoinAny : FI yX1_canJoinAny := ⟨tg 246 (by decide +kernel) (by decide +kernel), tg 247 (by decide +kernel) (by decide +kernel)⟩
abbrev mX1_joinedToAny : MD := (RX1, cX1_joinedToAny, 4, (some .int), 0, 0)
set_option maxRecDepth 20000 in
theorem fvX1_joinedToAny : FV yX1_joinedToAny mX1_joinedToAny 1 := ⟨by decide +kernel, tg 477 rfl rfl, tg 47 (by decide +kernel) (by decide +kernel), ⟨by decide +kernel, by decide +kernel⟩, by decide +kernel, rfl⟩
theorem fiX1_joinedToAny : FI yX1_joinedToAny := ⟨tg 475 (by decide +kernel) (by decide +kernel), tg 476 (by decide +kernel) (by decide +kernel)⟩
abbrev mX1_span : MD := (RX1, cX1_span, 3, (some .int), 0, 0)
set_option maxRecDepth 20000 in
theorem fvX1_span : FV yX1_span mX1_span 1 := ⟨by decide +kernel, tg 321 rfl rfl, tg 47 (by decide +kernel) (by decide +kernel), ⟨by decide +kernel, by decide +kernel⟩, by decide +kernel, rfl⟩
theorem fiX1_span : FI yX1_span := ⟨tg 319 (by decide +kernel) (by decide +kernel), tg 320 (by decide +kernel) (by decide +kernel)⟩
abbrev mX1_isAlive : MD := (RX1, cX1_isAlive, 2, (some .boolean), 1, 22)
set_option maxRecDepth 20000 in
theorem fvX1_isAlive : FV yX1_isAlive mX1_isAlive 1 := ⟨by decide +kernel, tg 332 rfl rfl, tg 47 (by decide +kernel) (by decide +kernel), ⟨by decide +kernel, by decide +kernel⟩, by decide +kernel, rfl⟩
theorem fiX1_isAlive : FI yX1_isAlive := ⟨tg 330 (by decide +kernel) (by decide +kernel), tg 331 (by decide +kernel) (by decide +kernel)⟩
abbrev mX1_rate : MD := (RX1, cX1_rate, 2, (some .int), 1, 30)
set_option maxRecDepth 20000 in
theorem fvX1_rate : FV yX1_rate mX1_rate 1 := ⟨by decide +kernel, tg 325 rfl rfl, tg 47 (by decide +kernel) (by decide +kernel), ⟨by decide +kernel, by decide +kernel⟩, by decide +kernel, rfl⟩
theorem fiX1_rate : FI yX1_rate := ⟨tg 323 (by decide +kernel) (by decide +kernel), tg 324 (by decide +kernel) (by decide +kernel)⟩
abbrev mX1_aliveBits : MD := (RX1, cX1_aliveBits, 3, (some .int), 2, 43)
set_option maxRecDepth 20000 in
theorem fvX1_aliveBits : FV yX1_aliveBits mX1_aliveBits 0 := ⟨by decide +kernel, tg 380 rfl rfl, tg 47 (by decide +kernel) (by decide +kernel), ⟨by decide +kernel, by decide +kernel⟩, by decide +kernel, rfl⟩
theorem fiX1_aliveBits : FI yX1_aliveBits := ⟨tg 378 (by decide +kernel) (by decide +kernel), tg 379 (by decide +kernel) (by decide +kernel)⟩
abbrev mX1_widowBits : MD := (RX1, cX1_widowBits, 5, (some .int), 3, 65)
set_option maxRecDepth 20000 in
theorem fvX1_widowBits : FV yX1_widowBits mX1_widowBits 0 := ⟨by decide +kernel, tg 388 rfl rfl, tg 47 (by decide +kernel) (by decide +kernel), ⟨by decide +kernel, by decide +kernel⟩, by decide +kernel, rfl⟩
theorem fiX1_widowBits : FI yX1_widowBits := ⟨tg 386 (by decide +kernel) (by decide +kernel), tg 387 (by decide +kernel) (by decide +kernel)⟩
abbrev mX1_freeBits : MD := (RX1, cX1_freeBits, 3, (some .int), 2, 43)
set_option maxRecDepth 20000 in
theorem fvX1_freeBits : FV yX1_freeBits mX1_freeBits 0 := ⟨by decide +kernel, tg 461 rfl rfl, tg 47 (by decide +kernel) (by decide +kernel), ⟨by decide +kernel, by decide +kernel⟩, by decide +kernel, rfl⟩
theorem fiX1_freeBits : FI yX1_freeBits := ⟨tg 459 (by decide +kernel) (by decide +kernel), tg 460 (by decide +kernel) (by decide +kernel)⟩
abbrev mX1_stuckBits : MD := (RX1, cX1_stuckBits, 4, (some .int), 0, 0)
set_option maxRecDepth 20000 in
theorem fvX1_stuckBits : FV yX1_stuckBits mX1_stuckBits 1 := ⟨by decide +kernel, tg 345 rfl rfl, tg 47 (by decide +kernel) (by decide +kernel), ⟨by decide +kernel, by decide +kernel⟩, by decide +kernel, rfl⟩
theorem fiX1_stuckBits : FI yX1_stuckBits := ⟨tg 343 (by decide +kernel) (by decide +kernel), tg 344 (by decide +kernel) (by decide +kernel)⟩
abbrev mX1_fateBits : MD := (RX1, cX1_fateBits, 4, (some .int), 0, 0)
set_option maxRecDepth 20000 in
theorem fvX1_fateBits : FV yX1_fateBits mX1_fateBits 1 := ⟨by decide +kernel, tg 579 rfl rfl, tg 47 (by decide +kernel) (by decide +kernel), ⟨by decide +kernel, by decide +kernel⟩, by decide +kernel, rfl⟩
theorem fiX1_fateBits : FI yX1_fateBits := ⟨tg 577 (by decide +kernel) (by decide +kernel), tg 578 (by decide +kernel) (by decide +kernel)⟩
abbrev mX1_goodFor : MD := (RX1, cX1_goodFor, 4, (some .int), 2, 51)
set_option maxRecDepth 20000 in
theorem fvX1_goodFor : FV yX1_goodFor mX1_goodFor 1 := ⟨by decide +kernel, tg 349 rfl rfl, tg 47 (by decide +kernel) (by decide +kernel), ⟨by decide +kernel, by decide +kernel⟩, by decide +kernel, rfl⟩
theorem fiX1_goodFor : FI yX1_goodFor := ⟨tg 347 (by decide +kernel) (by decide +kernel), tg 348 (by decide +kernel) (by decide +kernel)⟩
abbrev mX1_affordable : MD := (RX1, cX1_affordable, 5, (some .int), 3, 74)
set_option maxRecDepth 20000 in
theorem fvX1_affordable : FV yX1_affordable mX1_affordable 1 := ⟨by decide +kernel, tg 519 rfl rfl, tg 47 (by decide +kernel) (by decide +kernel), ⟨by decide +kernel, by decide +kernel⟩, by decide +kernel, rfl⟩
theorem fiX1_affordable : FI yX1_affordable := ⟨tg 517 (by decide +kernel) (by decide +kernel), tg 518 (by decide +kernel) (by decide +kernel)⟩
abbrev mX1_livingPairs : MD := (RX1, cX1_livingPairs, 4, (some .int), 3, 65)
set_option maxRecDepth 20000 in
theorem fvX1_livingPairs : FV yX1_livingPairs mX1_livingPairs 0 := ⟨by decide +kernel, tg 540 rfl rfl, tg 47 (by decide +kernel) (by decide +kernel), ⟨by decide +kernel, by decide +kernel⟩, by decide +kernel, rfl⟩
theorem fiX1_livingPairs : FI yX1_livingPairs := ⟨tg 538 (by decide +kernel) (by decide +kernel), tg 539 (by decide +kernel) (by decide +kernel)⟩
abbrev mX1_canStick : MD := (RX1, cX1_canStick, 3, (some .boolean), 2, 43)
set_option maxRecDepth 20000 in
theorem fvX1_canStick : FV yX1_canStick mX1_canStick 2 := ⟨by decide +kernel, tg 408 rfl rfl, tg 47 (by decide +kernel) (by decide +kernel), ⟨by decide +kernel, by decide +kernel⟩, by decide +kernel, rfl⟩
theorem fiX1_canStick : FI yX1_canStick := ⟨tg 406 (by decide +kernel) (by decide +kernel), tg 407 (by decide +kernel) (by decide +kernel)⟩
abbrev mX1_stickOn : MD := (RX1, cX1_stickOn, 3, none, 1, 30)
set_option maxRecDepth 20000 in
theorem fvX1_stickOn : FV yX1_stickOn mX1_stickOn 2 := ⟨by decide +kernel, tg 413 rfl rfl, tg 47 (by decide +kernel) (by decide +kernel), ⟨by decide +kernel, by decide +kernel⟩, by decide +kernel, rfl⟩
theorem fiX1_stickOn : FI yX1_stickOn := ⟨tg 411 (by decide +kernel) (by decide +kernel), tg 412 (by decide +kernel) (by decide +kernel)⟩
abbrev mX1_canSend : MD := (RX1, cX1_canSend, 2, (some .boolean), 3, 74)
set_option maxRecDepth 20000 in
theorem fvX1_canSend : FV yX1_canSend mX1_canSend 1 := ⟨by decide +kernel, tg 422 rfl rfl, tg 47 (by decide +kernel) (by decide +kernel), ⟨by decide +kernel, by decide +kernel⟩, by decide +kernel, rfl⟩
theorem fiX1_canSend : FI yX1_canSend := ⟨tg 420 (by decide +kernel) (by decide +kernel), tg 421 (by decide +kernel) (by decide +kernel)⟩
abbrev mX1_sendOff : MD := (RX1, cX1_sendOff, 2, none, 0, 0)
set_option maxRecDepth 20000 in
theorem fvX1_sendOff : FV yX1_sendOff mX1_sendOff 1 := ⟨by decide +kernel, tg 427 rfl rfl, tg 47 (by decide +kernel) (by decide +kernel), ⟨by decide +kernel, by decide +kernel⟩, by decide +kernel, rfl⟩
theorem fiX1_sendOff : FI yX1_sendOff := ⟨tg 425 (by decide +kernel) (by decide +kernel), tg 426 (by decide +kernel) (by decide +kernel)⟩
abbrev mX1_partTwo : MD := (RX1, cX1_partTwo, 3, none, 1, 23)
set_option maxRecDepth 20000 in
theorem fvX1_partTwo : FV yX1_partTwo mX1_partTwo 2 := ⟨by decide +kernel, tg 436 rfl rfl, tg 47 (by decide +kernel) (by decide +kernel), ⟨by decide +kernel, by decide +kernel⟩, by decide +kernel, rfl⟩
theorem fiX1_partTwo : FI yX1_partTwo := ⟨tg 434 (by decide +kernel) (by decide +kernel), tg 435 (by decide +kernel) (by decide +kernel)⟩
abbrev mX1_passWeek : MD := (RX1, cX1_passWeek, 2, none, 4, 89)
set_option maxRecDepth 20000 in
theorem fvX1_passWeek : FV yX1_passWeek mX1_passWeek 0 := ⟨by decide +kernel, tg 376 rfl rfl, tg 47 (by decide +kernel) (by decide +kernel), ⟨by decide +kernel, by decide +kernel⟩, by decide +kernel, rfl⟩
theorem fiX1_passWeek : FI yX1_passWeek := ⟨tg 374 (by decide +kernel) (by decide +kernel), tg 375 (by decide +kernel) (by decide +kernel)⟩
abbrev mX1_growOlder : MD := (RX1, cX1_growOlder, 4, none, 0, 0)
set_option maxRecDepth 20000 in
theorem fvX1_growOlder : FV yX1_growOlder mX1_growOlder 2 := ⟨by decide +kernel, tg 384 rfl rfl, tg 47 (by decide +kernel) (by decide +kernel), ⟨by decide +kernel, by decide +kernel⟩, by decide +kernel, rfl⟩
theorem fiX1_growOlder : FI yX1_growOlder := ⟨tg 383 (by decide +kernel) (by decide +kernel), tg 8 (by decide +kernel) (by decide +kernel)⟩
abbrev mX1_carry : MD := (RX1, cX1_carry, 2, none, 3, 65)
set_option maxRecDepth 20000 in
theorem fvX1_carry : FV yX1_carry mX1_carry 1 := ⟨by decide +kernel, tg 392 rfl rfl, tg 47 (by decide +kernel) (by decide +kernel), ⟨by decide +kernel, by decide +kernel⟩, by decide +kernel, rfl⟩
theorem fiX1_carry : FI yX1_carry := ⟨tg 391 (by decide +kernel) (by decide +kernel), tg 9 (by decide +kernel) (by decide +kernel)⟩
abbrev mX1_does : MD := (RX1, cX1_does, 5, (some .boolean), 5, 110)
set_option maxRecDepth 20000 in
theorem fvX1_does : FV yX1_does mX1_does 1 := ⟨by decide +kernel, tg 486 rfl rfl, tg 47 (by decide +kernel) (by decide +kernel), ⟨by decide +kernel, by decide +kernel⟩, by decide +kernel, rfl⟩
theorem fiX1_does : FI yX1_does := ⟨tg 484 (by decide +kernel) (by decide +kernel), tg 485 (by decide +kernel) (by decide +kernel)⟩
abbrev mX2_begin : MD := (RX2, cX2_begin, 1, none, 0, 0)
set_option maxRecDepth 20000 in
theorem fvX2_begin : FV yX2_begin mX2_begin 0 := ⟨by decide +kernel, tg 236 rfl rfl, tg 46 (by decide +kernel) (by decide +kernel), ⟨by decide +kernel, by decide +kernel⟩, by decide +kernel, rfl⟩
theorem fiX2_begin : FI yX2_begin := ⟨tg 234 (by decide +kernel) (by decide +kernel), tg 235 (by decide +kernel) (by decide +kernel)⟩
abbrev mX2_mayEnd : MD := (RX2, cX2_mayEnd, 1, (some .boolean), 0, 0)
set_option maxRecDepth 20000 in
theorem fvX2_mayEnd : FV yX2_mayEnd mX2_mayEnd 0 := ⟨by decide +kernel, tg 301 rfl rfl, tg 46 (by decide +kernel) (by decide +kernel), ⟨by decide +kernel, by decide +kernel⟩, by decide +kernel, rfl⟩
theorem fiX2_mayEnd : FI yX2_mayEnd := ⟨tg 299 (by decide +kernel) (by decide +kernel), tg 300 (by decide +kernel) (by decide +kernel)⟩
abbrev mX2_takes : MD := (RX2, cX2_takes, 4, (some .boolean), 4, 87)
set_option maxRecDepth 20000 in
theorem fvX2_takes : FV yX2_takes mX2_takes 2 := ⟨by decide +kernel, tg 240 rfl rfl, tg 46 (by decide +kernel) (by decide +kernel), ⟨by decide +kernel, by decide +kernel⟩, by decide +kernel, rfl⟩
theorem fiX2_takes : FI yX2_takes := ⟨tg 238 (by decide +kernel) (by decide +kernel), tg 239 (by decide +kernel) (by decide +kernel)⟩
abbrev mX2_opens : MD := (RX2, cX2_opens, 4, (some .boolean), 3, 63)
set_option maxRecDepth 20000 in
theorem fvX2_opens : FV yX2_opens mX2_opens 2 := ⟨by decide +kernel, tg 244 rfl rfl, tg 46 (by decide +kernel) (by decide +kernel), ⟨by decide +kernel, by decide +kernel⟩, by decide +kernel, rfl⟩
theorem fiX2_opens : FI yX2_opens := ⟨tg 243 (by decide +kernel) (by decide +kernel), tg 1 (by decide +kernel) (by decide +kernel)⟩
abbrev mX2_takesOfStamp : MD := (RX2, cX2_takesOfStamp, 3, (some .boolean), 1, 23)
set_option maxRecDepth 20000 in
theorem fvX2_takesOfStamp : FV yX2_takesOfStamp mX2_takesOfStamp 2 := ⟨by decide +kernel, tg 264 rfl rfl, tg 46 (by decide +kernel) (by decide +kernel), ⟨by decide +kernel, by decide +kernel⟩, by decide +kernel, rfl⟩
theorem fiX2_takesOfStamp : FI yX2_takesOfStamp := ⟨tg 263 (by decide +kernel) (by decide +kernel), tg 2 (by decide +kernel) (by decide +kernel)⟩
abbrev mX2_takesOfJoin : MD := (RX2, cX2_takesOfJoin, 3, (some .boolean), 3, 65)
set_option maxRecDepth 20000 in
theorem fvX2_takesOfJoin : FV yX2_takesOfJoin mX2_takesOfJoin 2 := ⟨by decide +kernel, tg 276 rfl rfl, tg 46 (by decide +kernel) (by decide +kernel), ⟨by decide +kernel, by decide +kernel⟩, by decide +kernel, rfl⟩
theorem fiX2_takesOfJoin : FI yX2_takesOfJoin := ⟨tg 275 (by decide +kernel) (by decide +kernel), tg 4 (by decide +kernel) (by decide +kernel)⟩
abbrev mX2_takesOfLetter : MD := (RX2, cX2_takesOfLetter, 3, (some .boolean), 1, 22)
set_option maxRecDepth 20000 in
theorem fvX2_takesOfLetter : FV yX2_takesOfLetter mX2_takesOfLetter 2 := ⟨by decide +kernel, tg 293 rfl rfl, tg 46 (by decide +kernel) (by decide +kernel), ⟨by decide +kernel, by decide +kernel⟩, by decide +kernel, rfl⟩
theorem fiX2_takesOfLetter : FI yX2_takesOfLetter := ⟨tg 292 (by decide +kernel) (by decide +kernel), tg 5 (by decide +kernel) (by decide +kernel)⟩
abbrev mX2_hold : MD := (RX2, cX2_hold, 2, none, 0, 0)
set_option maxRecDepth 20000 in
theorem fvX2_hold : FV yX2_hold mX2_hold 1 := ⟨by decide +kernel, tg 268 rfl rfl, tg 46 (by decide +kernel) (by decide +kernel), ⟨by decide +kernel, by decide +kernel⟩, by decide +kernel, rfl⟩
theorem fiX2_hold : FI yX2_hold := ⟨tg 267 (by decide +kernel) (by decide +kernel), tg 3 (by decide +kernel) (by decide +kernel)⟩
abbrev mX3_write : MD := (RX3, cX3_write, 2, (some .int), 0, 0)
set_option maxRecDepth 20000 in
theorem fvX3_write : FV yX3_write mX3_write 1 := ⟨by decide +kernel, tg 213 rfl rfl, tg 45 (by decide +kernel) (by decide +kernel), ⟨by decide +kernel, by decide +kernel⟩, by decide +kernel, rfl⟩
theorem fiX3_write : FI yX3_write := ⟨tg 211 (by decide +kernel) (by decide +kernel), tg 212 (by decide +kernel) (by decide +kernel)⟩
abbrev mX3_wipe : MD := (RX3, cX3_wipe, 2, (some .int), 0, 0)
set_option maxRecDepth 20000 in
theorem fvX3_wipe : FV yX3_wipe mX3_wipe 0 := ⟨by decide +kernel, tg 217 rfl rfl, tg 45 (by decide +kernel) (by decide +kernel), ⟨by decide +kernel, by decide +kernel⟩, by decide +kernel, rfl⟩
theorem fiX3_wipe : FI yX3_wipe := ⟨tg 215 (by decide +kernel) (by decide +kernel), tg 216 (by decide +kernel) (by decide +kernel)⟩
abbrev mX3_fault : MD := (RX3, cX3_fault, 1, (some .int), 6, 132)
set_option maxRecDepth 20000 in
theorem fvX3_fault : FV yX3_fault mX3_fault 0 := ⟨by decide +kernel, tg 221 rfl rfl, tg 45 (by decide +kernel) (by decide +kernel), ⟨by decide +kernel, by decide +kernel⟩, by decide +kernel, rfl⟩
theorem fiX3_fault : FI yX3_fault := ⟨tg 219 (by decide +kernel) (by decide +kernel), tg 220 (by decide +kernel) (by decide +kernel)⟩
abbrev mX3_album : MD := (RX3, cX3_album, 2, (some .int), 6, 132)
set_option maxRecDepth 20000 in
theorem fvX3_album : FV yX3_album mX3_album 0 := ⟨by decide +kernel, tg 305 rfl rfl, tg 45 (by decide +kernel) (by decide +kernel), ⟨by decide +kernel, by decide +kernel⟩, by decide +kernel, rfl⟩
theorem fiX3_album : FI yX3_album := ⟨tg 303 (by decide +kernel) (by decide +kernel), tg 304 (by decide +kernel) (by decide +kernel)⟩
abbrev mX3_stamp : MD := (RX3, cX3_stamp, 3, (some .int), 2, 51)
set_option maxRecDepth 20000 in
theorem fvX3_stamp : FV yX3_stamp mX3_stamp 2 := ⟨by decide +kernel, tg 316 rfl rfl, tg 45 (by decide +kernel) (by decide +kernel), ⟨by decide +kernel, by decide +kernel⟩, by decide +kernel, rfl⟩
theorem fiX3_stamp : FI yX3_stamp := ⟨tg 314 (by decide +kernel) (by decide +kernel), tg 315 (by decide +kernel) (by decide +kernel)⟩
abbrev mX3_letter : MD := (RX3, cX3_letter, 3, (some .int), 3, 74)
set_option maxRecDepth 20000 in
theorem fvX3_letter : FV yX3_letter mX3_letter 2 := ⟨by decide +kernel, tg 337 rfl rfl, tg 45 (by decide +kernel) (by decide +kernel), ⟨by decide +kernel, by decide +kernel⟩, by decide +kernel, rfl⟩
theorem fiX3_letter : FI yX3_letter := ⟨tg 335 (by decide +kernel) (by decide +kernel), tg 336 (by decide +kernel) (by decide +kernel)⟩
abbrev mX3_week : MD := (RX3, cX3_week, 1, (some .int), 5, 110)
set_option maxRecDepth 20000 in
theorem fvX3_week : FV yX3_week mX3_week 0 := ⟨by decide +kernel, tg 355 rfl rfl, tg 45 (by decide +kernel) (by decide +kernel), ⟨by decide +kernel, by decide +kernel⟩, by decide +kernel, rfl⟩
theorem fiX3_week : FI yX3_week := ⟨tg 353 (by decide +kernel) (by decide +kernel), tg 354 (by decide +kernel) (by decide +kernel)⟩
abbrev mX3_stick : MD := (RX3, cX3_stick, 3, (some .int), 3, 103)
set_option maxRecDepth 20000 in
theorem fvX3_stick : FV yX3_stick mX3_stick 2 := ⟨by decide +kernel, tg 404 rfl rfl, tg 45 (by decide +kernel) (by decide +kernel), ⟨by decide +kernel, by decide +kernel⟩, by decide +kernel, rfl⟩
theorem fiX3_stick : FI yX3_stick := ⟨tg 402 (by decide +kernel) (by decide +kernel), tg 403 (by decide +kernel) (by decide +kernel)⟩
abbrev mX3_send : MD := (RX3, cX3_send, 2, (some .int), 4, 103)
set_option maxRecDepth 20000 in
theorem fvX3_send : FV yX3_send mX3_send 1 := ⟨by decide +kernel, tg 418 rfl rfl, tg 45 (by decide +kernel) (by decide +kernel), ⟨by decide +kernel, by decide +kernel⟩, by decide +kernel, rfl⟩
theorem fiX3_send : FI yX3_send := ⟨tg 416 (by decide +kernel) (by decide +kernel), tg 417 (by decide +kernel) (by decide +kernel)⟩
abbrev mX3_part : MD := (RX3, cX3_part, 3, (some .int), 3, 103)
set_option maxRecDepth 20000 in
theorem fvX3_part : FV yX3_part mX3_part 2 := ⟨by decide +kernel, tg 431 rfl rfl, tg 45 (by decide +kernel) (by decide +kernel), ⟨by decide +kernel, by decide +kernel⟩, by decide +kernel, rfl⟩
theorem fiX3_part : FI yX3_part := ⟨tg 429 (by decide +kernel) (by decide +kernel), tg 430 (by decide +kernel) (by decide +kernel)⟩
abbrev mX3_damp : MD := (RX3, cX3_damp, 1, (some .int), 3, 103)
set_option maxRecDepth 20000 in
theorem fvX3_damp : FV yX3_damp mX3_damp 0 := ⟨by decide +kernel, tg 440 rfl rfl, tg 45 (by decide +kernel) (by decide +kernel), ⟨by decide +kernel, by decide +kernel⟩, by decide +kernel, rfl⟩
theorem fiX3_damp : FI yX3_damp := ⟨tg 438 (by decide +kernel) (by decide +kernel), tg 439 (by decide +kernel) (by decide +kernel)⟩
abbrev mX3_undo : MD := (RX3, cX3_undo, 1, (some .int), 2, 83)
set_option maxRecDepth 20000 in
theorem fvX3_undo : FV yX3_undo mX3_undo 0 := ⟨by decide +kernel, tg 444 rfl rfl, tg 45 (by decide +kernel) (by decide +kernel), ⟨by decide +kernel, by decide +kernel⟩, by decide +kernel, rfl⟩
theorem fiX3_undo : FI yX3_undo := ⟨tg 442 (by decide +kernel) (by decide +kernel), tg 443 (by decide +kernel) (by decide +kernel)⟩
abbrev mX3_lives : MD := (RX3, cX3_lives, 3, (some .int), 5, 110)
set_option maxRecDepth 20000 in
theorem fvX3_lives : FV yX3_lives mX3_lives 1 := ⟨by decide +kernel, tg 452 rfl rfl, tg 45 (by decide +kernel) (by decide +kernel), ⟨by decide +kernel, by decide +kernel⟩, by decide +kernel, rfl⟩
theorem fiX3_lives : FI yX3_lives := ⟨tg 450 (by decide +kernel) (by decide +kernel), tg 451 (by decide +kernel) (by decide +kernel)⟩
abbrev mX3_comes : MD := (RX3, cX3_comes, 3, (some .int), 6, 134)
set_option maxRecDepth 20000 in
theorem fvX3_comes : FV yX3_comes mX3_comes 2 := ⟨by decide +kernel, tg 456 rfl rfl, tg 45 (by decide +kernel) (by decide +kernel), ⟨by decide +kernel, by decide +kernel⟩, by decide +kernel, rfl⟩
theorem fiX3_comes : FI yX3_comes := ⟨tg 454 (by decide +kernel) (by decide +kernel), tg 455 (by decide +kernel) (by decide +kernel)⟩
abbrev mX3_fewest : MD := (RX3, cX3_fewest, 6, (some .int), 6, 134)
set_option maxRecDepth 20000 in
theorem fvX3_fewest : FV yX3_fewest mX3_fewest 1 := ⟨by decide +kernel, tg 469 rfl rfl, tg 45 (by decide +kernel) (by decide +kernel), ⟨by decide +kernel, by decide +kernel⟩, by decide +kernel, rfl⟩
theorem fiX3_fewest : FI yX3_fewest := ⟨tg 467 (by decide +kernel) (by decide +kernel), tg 468 (by decide +kernel) (by decide +kernel)⟩
abbrev mX3_block : MD := (RX3, cX3_block, 4, (some .int), 1, 23)
set_option maxRecDepth 20000 in
theorem fvX3_block : FV yX3_block mX3_block 1 := ⟨by decide +kernel, tg 473 rfl rfl, tg 45 (by decide +kernel) (by decide +kernel), ⟨by decide +kernel, by decide +kernel⟩, by decide +kernel, rfl⟩
theorem fiX3_block : FI yX3_block := ⟨tg 471 (by decide +kernel) (by decide +kernel), tg 472 (by decide +kernel) (by decide +kernel)⟩
abbrev mX3_judge : MD := (RX3, cX3_judge, 7, (some .int), 6, 134)
set_option maxRecDepth 20000 in
theorem fvX3_judge : FV yX3_judge mX3_judge 2 := ⟨by decide +kernel, tg 481 rfl rfl, tg 45 (by decide +kernel) (by decide +kernel), ⟨by decide +kernel, by decide +kernel⟩, by decide +kernel, rfl⟩
theorem fiX3_judge : FI yX3_judge := ⟨tg 479 (by decide +kernel) (by decide +kernel), tg 480 (by decide +kernel) (by decide +kernel)⟩
abbrev mX3_see : MD := (RX3, cX3_see, 4, (some .int), 1, 21)
set_option maxRecDepth 20000 in
theorem fvX3_see : FV yX3_see mX3_see 3 := ⟨by decide +kernel, tg 496 rfl rfl, tg 45 (by decide +kernel) (by decide +kernel), ⟨by decide +kernel, by decide +kernel⟩, by decide +kernel, rfl⟩
theorem fiX3_see : FI yX3_see := ⟨tg 494 (by decide +kernel) (by decide +kernel), tg 495 (by decide +kernel) (by decide +kernel)⟩
abbrev mX3_unsee : MD := (RX3, cX3_unsee, 2, (some .int), 0, 0)
set_option maxRecDepth 20000 in
theorem fvX3_unsee : FV yX3_unsee mX3_unsee 0 := ⟨by decide +kernel, tg 500 rfl rfl, tg 45 (by decide +kernel) (by decide +kernel), ⟨by decide +kernel, by decide +kernel⟩, by decide +kernel, rfl⟩
theorem fiX3_unsee : FI yX3_unsee := ⟨tg 498 (by decide +kernel) (by decide +kernel), tg 499 (by decide +kernel) (by decide +kernel)⟩
abbrev mX3_bought : MD := (RX3, cX3_bought, 4, (some .int), 2, 46)
set_option maxRecDepth 20000 in
theorem fvX3_bought : FV yX3_bought mX3_bought 1 := ⟨by decide +kernel, tg 504 rfl rfl, tg 45 (by decide +kernel) (by decide +kernel), ⟨by decide +kernel, by decide +kernel⟩, by decide +kernel, rfl⟩
theorem fiX3_bought : FI yX3_bought := ⟨tg 502 (by decide +kernel) (by decide +kernel), tg 503 (by decide +kernel) (by decide +kernel)⟩
abbrev mX3_share : MD := (RX3, cX3_share, 10, (some .int), 4, 98)
set_option maxRecDepth 20000 in
theorem fvX3_share : FV yX3_share mX3_share 2 := ⟨by decide +kernel, tg 512 rfl rfl, tg 45 (by decide +kernel) (by decide +kernel), ⟨by decide +kernel, by decide +kernel⟩, by decide +kernel, rfl⟩
theorem fiX3_share : FI yX3_share := ⟨tg 510 (by decide +kernel) (by decide +kernel), tg 511 (by decide +kernel) (by decide +kernel)⟩
abbrev mX3_rests : MD := (RX3, cX3_rests, 12, (some .int), 2, 51)
set_option maxRecDepth 20000 in
theorem fvX3_rests : FV yX3_rests mX3_rests 4 := ⟨by decide +kernel, tg 529 rfl rfl, tg 45 (by decide +kernel) (by decide +kernel), ⟨by decide +kernel, by decide +kernel⟩, by decide +kernel, rfl⟩
theorem fiX3_rests : FI yX3_rests := ⟨tg 527 (by decide +kernel) (by decide +kernel), tg 528 (by decide +kernel) (by decide +kernel)⟩
abbrev mX3_born : MD := (RX3, cX3_born, 7, (some .int), 4, 88)
set_option maxRecDepth 20000 in
theorem fvX3_born : FV yX3_born mX3_born 3 := ⟨by decide +kernel, tg 536 rfl rfl, tg 45 (by decide +kernel) (by decide +kernel), ⟨by decide +kernel, by decide +kernel⟩, by decide +kernel, rfl⟩
theorem fiX3_born : FI yX3_born := ⟨tg 534 (by decide +kernel) (by decide +kernel), tg 535 (by decide +kernel) (by decide +kernel)⟩
abbrev mX3_seed : MD := (RX3, cX3_seed, 5, (some .long), 0, 0)
set_option maxRecDepth 20000 in
theorem fvX3_seed : FV yX3_seed mX3_seed 1 := ⟨by decide +kernel, tg 551 rfl rfl, tg 45 (by decide +kernel) (by decide +kernel), ⟨by decide +kernel, by decide +kernel⟩, by decide +kernel, rfl⟩
theorem fiX3_seed : FI yX3_seed := ⟨tg 549 (by decide +kernel) (by decide +kernel), tg 550 (by decide +kernel) (by decide +kernel)⟩
abbrev mX3_years : MD := (RX3, cX3_years, 4, (some .int), 6, 133)
set_option maxRecDepth 20000 in
theorem fvX3_years : FV yX3_years mX3_years 1 := ⟨by decide +kernel, tg 555 rfl rfl, tg 45 (by decide +kernel) (by decide +kernel), ⟨by decide +kernel, by decide +kernel⟩, by decide +kernel, rfl⟩
theorem fiX3_years : FI yX3_years := ⟨tg 553 (by decide +kernel) (by decide +kernel), tg 554 (by decide +kernel) (by decide +kernel)⟩
abbrev mX3_keep : MD := (RX3, cX3_keep, 2, (some .int), 2, 83)
set_option maxRecDepth 20000 in
theorem fvX3_keep : FV yX3_keep mX3_keep 1 := ⟨by decide +kernel, tg 566 rfl rfl, tg 45 (by decide +kernel) (by decide +kernel), ⟨by decide +kernel, by decide +kernel⟩, by decide +kernel, rfl⟩
theorem fiX3_keep : FI yX3_keep := ⟨tg 564 (by decide +kernel) (by decide +kernel), tg 565 (by decide +kernel) (by decide +kernel)⟩
abbrev mX3_again : MD := (RX3, cX3_again, 2, (some .int), 2, 83)
set_option maxRecDepth 20000 in
theorem fvX3_again : FV yX3_again mX3_again 1 := ⟨by decide +kernel, tg 570 rfl rfl, tg 45 (by decide +kernel) (by decide +kernel), ⟨by decide +kernel, by decide +kernel⟩, by decide +kernel, rfl⟩
theorem fiX3_again : FI yX3_again := ⟨tg 568 (by decide +kernel) (by decide +kernel), tg 569 (by decide +kernel) (by decide +kernel)⟩
abbrev mX3_count : MD := (RX3, cX3_count, 2, (some .int), 4, 89)
set_option maxRecDepth 20000 in
theorem fvX3_count : FV yX3_count mX3_count 1 := ⟨by decide +kernel, tg 574 rfl rfl, tg 45 (by decide +kernel) (by decide +kernel), ⟨by decide +kernel, by decide +kernel⟩, by decide +kernel, rfl⟩
theorem fiX3_count : FI yX3_count := ⟨tg 572 (by decide +kernel) (by decide +kernel), tg 573 (by decide +kernel) (by decide +kernel)⟩
abbrev mX3_readInto : MD := (RX3, cX3_readInto, 3, (some .int), 5, 110)
set_option maxRecDepth 20000 in
theorem fvX3_readInto : FV yX3_readInto mX3_readInto 1 := ⟨by decide +kernel, tg 225 rfl rfl, tg 45 (by decide +kernel) (by decide +kernel), ⟨by decide +kernel, by decide +kernel⟩, by decide +kernel, rfl⟩
theorem fiX3_readInto : FI yX3_readInto := ⟨tg 224 (by decide +kernel) (by decide +kernel), tg 0 (by decide +kernel) (by decide +kernel)⟩
abbrev mX3_remember : MD := (RX3, cX3_remember, 1, none, 2, 83)
set_option maxRecDepth 20000 in
theorem fvX3_remember : FV yX3_remember mX3_remember 0 := ⟨by decide +kernel, tg 359 rfl rfl, tg 45 (by decide +kernel) (by decide +kernel), ⟨by decide +kernel, by decide +kernel⟩, by decide +kernel, rfl⟩
theorem fiX3_remember : FI yX3_remember := ⟨tg 358 (by decide +kernel) (by decide +kernel), tg 6 (by decide +kernel) (by decide +kernel)⟩
abbrev mX3_tryToSend : MD := (RX3, cX3_tryToSend, 5, (some .int), 5, 110)
set_option maxRecDepth 20000 in
theorem fvX3_tryToSend : FV yX3_tryToSend mX3_tryToSend 2 := ⟨by decide +kernel, tg 465 rfl rfl, tg 45 (by decide +kernel) (by decide +kernel), ⟨by decide +kernel, by decide +kernel⟩, by decide +kernel, rfl⟩
theorem fiX3_tryToSend : FI yX3_tryToSend := ⟨tg 464 (by decide +kernel) (by decide +kernel), tg 10 (by decide +kernel) (by decide +kernel)⟩
abbrev mX3_agreesWithSeen : MD := (RX3, cX3_agreesWithSeen, 5, (some .boolean), 1, 22)
set_option maxRecDepth 20000 in
theorem fvX3_agreesWithSeen : FV yX3_agreesWithSeen mX3_agreesWithSeen 2 := ⟨by decide +kernel, tg 508 rfl rfl, tg 45 (by decide +kernel) (by decide +kernel), ⟨by decide +kernel, by decide +kernel⟩, by decide +kernel, rfl⟩
theorem fiX3_agreesWithSeen : FI yX3_agreesWithSeen := ⟨tg 507 (by decide +kernel) (by decide +kernel), tg 11 (by decide +kernel) (by decide +kernel)⟩
abbrev mX3_tryWeeks : MD := (RX3, cX3_tryWeeks, 4, none, 5, 110)
set_option maxRecDepth 20000 in
theorem fvX3_tryWeeks : FV yX3_tryWeeks mX3_tryWeeks 1 := ⟨by decide +kernel, tg 562 rfl rfl, tg 45 (by decide +kernel) (by decide +kernel), ⟨by decide +kernel, by decide +kernel⟩, by decide +kernel, rfl⟩
theorem fiX3_tryWeeks : FI yX3_tryWeeks := ⟨tg 561 (by decide +kernel) (by decide +kernel), tg 12 (by decide +kernel) (by decide +kernel)⟩
abbrev mX3_isContent : MD := (RX3, cX3_isContent, 4, (some .boolean), 0, 0)
set_option maxRecDepth 20000 in
theorem fvX3_isContent : FV yX3_isContent mX3_isContent 3 := ⟨by decide +kernel, tg 532 rfl rfl, tg 45 (by decide +kernel) (by decide +kernel), ⟨by decide +kernel, by decide +kernel⟩, by decide +kernel, rfl⟩
theorem fsX3_isContent : FS yX3_isContent := tg 531 (by decide +kernel) (by decide +kernel)
abbrev mX3_toldPart : MD := (RX3, cX3_toldPart, 9, (some .int), 1, 30)
set_option maxRecDepth 20000 in
theorem fvX3_toldPart : FV yX3_toldPart mX3_toldPart 3 := ⟨by decide +kernel, tg 522 rfl rfl, tg 45 (by decide +kernel) (by decide +kernel), ⟨by decide +kernel, by decide +kernel⟩, by decide +kernel, rfl⟩
theorem fsX3_toldPart : FS yX3_toldPart := tg 521 (by decide +kernel) (by decide +kernel)
abbrev mX3_commonDivisor : MD := (RX3, cX3_commonDivisor, 11, (some .long), 0, 0)
set_option maxRecDepth 20000 in
theorem fvX3_commonDivisor : FV yX3_commonDivisor mX3_commonDivisor 2 := ⟨by decide +kernel, tg 525 rfl rfl, tg 45 (by decide +kernel) (by decide +kernel), ⟨by decide +kernel, by decide +kernel⟩, by decide +kernel, rfl⟩
theorem fsX3_commonDivisor : FS yX3_commonDivisor := tg 524 (by decide +kernel) (by decide +kernel)
abbrev mX3_factorial : MD := (RX3, cX3_factorial, 4, (some .long), 0, 0)
set_option maxRecDepth 20000 in
theorem fvX3_factorial : FV yX3_factorial mX3_factorial 1 := ⟨by decide +kernel, tg 515 rfl rfl, tg 45 (by decide +kernel) (by decide +kernel), ⟨by decide +kernel, by decide +kernel⟩, by decide +kernel, rfl⟩
theorem fsX3_factorial : FS yX3_factorial := tg 514 (by decide +kernel) (by decide +kernel)
abbrev mX3_power : MD := (RX3, cX3_power, 5, (some .long), 0, 0)
set_option maxRecDepth 20000 in
theorem fvX3_power : FV yX3_power mX3_power 2 := ⟨by decide +kernel, tg 547 rfl rfl, tg 45 (by decide +kernel) (by decide +kernel), ⟨by decide +kernel, by decide +kernel⟩, by decide +kernel, rfl⟩
theorem fsX3_power : FS yX3_power := tg 546 (by decide +kernel) (by decide +kernel)
abbrev mX3_choose : MD := (RX3, cX3_choose, 5, (some .long), 0, 0)
set_option maxRecDepth 20000 in
theorem fvX3_choose : FV yX3_choose mX3_choose 2 := ⟨by decide +kernel, tg 544 rfl rfl, tg 45 (by decide +kernel) (by decide +kernel), ⟨by decide +kernel, by decide +kernel⟩, by decide +kernel, rfl⟩
theorem fsX3_choose : FS yX3_choose := tg 543 (by decide +kernel) (by decide +kernel)
abbrev mX4_in : MD := (RX4, cX4_in, 6, (some .boolean), 0, 0)
set_option maxRecDepth 20000 in
theorem fvX4_in : FV yX4_in mX4_in 3 := ⟨by decide +kernel, tg 666 rfl rfl, tg 50 (by decide +kernel) (by decide +kernel), ⟨by decide +kernel, by decide +kernel⟩, by decide +kernel, rfl⟩
theorem fsX4_in : FS yX4_in := tg 665 (by decide +kernel) (by decide +kernel)
abbrev mX4_has : MD := (RX4, cX4_has, 2, (some .boolean), 0, 0)
set_option maxRecDepth 20000 in
theorem fvX4_has : FV yX4_has mX4_has 2 := ⟨by decide +kernel, tg 690 rfl rfl, tg 50 (by decide +kernel) (by decide +kernel), ⟨by decide +kernel, by decide +kernel⟩, by decide +kernel, rfl⟩
theorem fsX4_has : FS yX4_has := tg 689 (by decide +kernel) (by decide +kernel)
abbrev mX4_ones : MD := (RX4, cX4_ones, 3, (some .int), 0, 0)
set_option maxRecDepth 20000 in
theorem fvX4_ones : FV yX4_ones mX4_ones 1 := ⟨by decide +kernel, tg 765 rfl rfl, tg 50 (by decide +kernel) (by decide +kernel), ⟨by decide +kernel, by decide +kernel⟩, by decide +kernel, rfl⟩
theorem fsX4_ones : FS yX4_ones := tg 764 (by decide +kernel) (by decide +kernel)
abbrev mX4_write : MD := (RX4, cX4_write, 2, (some .int), 1, 25)
set_option maxRecDepth 20000 in
theorem fvX4_write : FV yX4_write mX4_write 1 := ⟨by decide +kernel, tg 662 rfl rfl, tg 50 (by decide +kernel) (by decide +kernel), ⟨by decide +kernel, by decide +kernel⟩, by decide +kernel, rfl⟩
theorem fiX4_write : FI yX4_write := ⟨tg 660 (by decide +kernel) (by decide +kernel), tg 661 (by decide +kernel) (by decide +kernel)⟩
abbrev mX4_wipe : MD := (RX4, cX4_wipe, 2, (some .int), 0, 0)
set_option maxRecDepth 20000 in
theorem fvX4_wipe : FV yX4_wipe mX4_wipe 0 := ⟨by decide +kernel, tg 670 rfl rfl, tg 50 (by decide +kernel) (by decide +kernel), ⟨by decide +kernel, by decide +kernel⟩, by decide +kernel, rfl⟩
theorem fiX4_wipe : FI yX4_wipe := ⟨tg 668 (by decide +kernel) (by decide +kernel), tg 669 (by decide +kernel) (by decide +kernel)⟩
abbrev mX4_figureOf : MD := (RX4, cX4_figureOf, 3, (some .int), 1, 25)
set_option maxRecDepth 20000 in
theorem fvX4_figureOf : FV yX4_figureOf mX4_figureOf 1 := ⟨by decide +kernel, tg 686 rfl rfl, tg 50 (by decide +kernel) (by decide +kernel), ⟨by decide +kernel, by decide +kernel⟩, by decide +kernel, rfl⟩
theorem fiX4_figureOf : FI yX4_figureOf := ⟨tg 685 (by decide +kernel) (by decide +kernel), tg 15 (by decide +kernel) (by decide +kernel)⟩
abbrev mX4_left : MD := (RX4, cX4_left, 2, (some .int), 0, 0)
set_option maxRecDepth 20000 in
theorem fvX4_left : FV yX4_left mX4_left 1 := ⟨by decide +kernel, tg 698 rfl rfl, tg 50 (by decide +kernel) (by decide +kernel), ⟨by decide +kernel, by decide +kernel⟩, by decide +kernel, rfl⟩
theorem fiX4_left : FI yX4_left := ⟨tg 697 (by decide +kernel) (by decide +kernel), tg 17 (by decide +kernel) (by decide +kernel)⟩
abbrev mX4_firstsLeft : MD := (RX4, cX4_firstsLeft, 3, (some .int), 1, 21)
set_option maxRecDepth 20000 in
theorem fvX4_firstsLeft : FV yX4_firstsLeft mX4_firstsLeft 0 := ⟨by decide +kernel, tg 694 rfl rfl, tg 50 (by decide +kernel) (by decide +kernel), ⟨by decide +kernel, by decide +kernel⟩, by decide +kernel, rfl⟩
theorem fiX4_firstsLeft : FI yX4_firstsLeft := ⟨tg 693 (by decide +kernel) (by decide +kernel), tg 16 (by decide +kernel) (by decide +kernel)⟩
abbrev mX4_readText : MD := (RX4, cX4_readText, 2, (some .int), 3, 70)
set_option maxRecDepth 20000 in
theorem fvX4_readText : FV yX4_readText mX4_readText 0 := ⟨by decide +kernel, tg 678 rfl rfl, tg 50 (by decide +kernel) (by decide +kernel), ⟨by decide +kernel, by decide +kernel⟩, by decide +kernel, rfl⟩
theorem fiX4_readText : FI yX4_readText := ⟨tg 677 (by decide +kernel) (by decide +kernel), tg 13 (by decide +kernel) (by decide +kernel)⟩
abbrev mX4_readPart : MD := (RX4, cX4_readPart, 4, none, 2, 47)
set_option maxRecDepth 20000 in
theorem fvX4_readPart : FV yX4_readPart mX4_readPart 1 := ⟨by decide +kernel, tg 682 rfl rfl, tg 50 (by decide +kernel) (by decide +kernel), ⟨by decide +kernel, by decide +kernel⟩, by decide +kernel, rfl⟩
theorem fiX4_readPart : FI yX4_readPart := ⟨tg 681 (by decide +kernel) (by decide +kernel), tg 14 (by decide +kernel) (by decide +kernel)⟩
abbrev mX4_fault : MD := (RX4, cX4_fault, 1, (some .int), 4, 91)
set_option maxRecDepth 20000 in
theorem fvX4_fault : FV yX4_fault mX4_fault 0 := ⟨by decide +kernel, tg 674 rfl rfl, tg 50 (by decide +kernel) (by decide +kernel), ⟨by decide +kernel, by decide +kernel⟩, by decide +kernel, rfl⟩
theorem fiX4_fault : FI yX4_fault := ⟨tg 672 (by decide +kernel) (by decide +kernel), tg 673 (by decide +kernel) (by decide +kernel)⟩
abbrev mX4_album : MD := (RX4, cX4_album, 2, (some .int), 4, 91)
set_option maxRecDepth 20000 in
theorem fvX4_album : FV yX4_album mX4_album 0 := ⟨by decide +kernel, tg 702 rfl rfl, tg 50 (by decide +kernel) (by decide +kernel), ⟨by decide +kernel, by decide +kernel⟩, by decide +kernel, rfl⟩
theorem fiX4_album : FI yX4_album := ⟨tg 700 (by decide +kernel) (by decide +kernel), tg 701 (by decide +kernel) (by decide +kernel)⟩
abbrev mX4_isStamp : MD := (RX4, cX4_isStamp, 2, (some .boolean), 1, 25)
set_option maxRecDepth 20000 in
theorem fvX4_isStamp : FV yX4_isStamp mX4_isStamp 1 := ⟨by decide +kernel, tg 710 rfl rfl, tg 50 (by decide +kernel) (by decide +kernel), ⟨by decide +kernel, by decide +kernel⟩, by decide +kernel, rfl⟩
theorem fiX4_isStamp : FI yX4_isStamp := ⟨tg 709 (by decide +kernel) (by decide +kernel), tg 18 (by decide +kernel) (by decide +kernel)⟩
abbrev mX4_isLetter : MD := (RX4, cX4_isLetter, 2, (some .boolean), 1, 25)
set_option maxRecDepth 20000 in
theorem fvX4_isLetter : FV yX4_isLetter mX4_isLetter 1 := ⟨by decide +kernel, tg 730 rfl rfl, tg 50 (by decide +kernel) (by decide +kernel), ⟨by decide +kernel, by decide +kernel⟩, by decide +kernel, rfl⟩
theorem fiX4_isLetter : FI yX4_isLetter := ⟨tg 729 (by decide +kernel) (by decide +kernel), tg 22 (by decide +kernel) (by decide +kernel)⟩
abbrev mX4_span : MD := (RX4, cX4_span, 3, (some .int), 0, 0)
set_option maxRecDepth 20000 in
theorem fvX4_span : FV yX4_span mX4_span 2 := ⟨by decide +kernel, tg 714 rfl rfl, tg 50 (by decide +kernel) (by decide +kernel), ⟨by decide +kernel, by decide +kernel⟩, by decide +kernel, rfl⟩
theorem fiX4_span : FI yX4_span := ⟨tg 713 (by decide +kernel) (by decide +kernel), tg 19 (by decide +kernel) (by decide +kernel)⟩
abbrev mX4_isAlive : MD := (RX4, cX4_isAlive, 3, (some .boolean), 1, 22)
set_option maxRecDepth 20000 in
theorem fvX4_isAlive : FV yX4_isAlive mX4_isAlive 2 := ⟨by decide +kernel, tg 722 rfl rfl, tg 50 (by decide +kernel) (by decide +kernel), ⟨by decide +kernel, by decide +kernel⟩, by decide +kernel, rfl⟩
theorem fiX4_isAlive : FI yX4_isAlive := ⟨tg 721 (by decide +kernel) (by decide +kernel), tg 21 (by decide +kernel) (by decide +kernel)⟩
abbrev mX4_living : MD := (RX4, cX4_living, 4, (some .int), 2, 44)
set_option maxRecDepth 20000 in
theorem fvX4_living : FV yX4_living mX4_living 1 := ⟨by decide +kernel, tg 754 rfl rfl, tg 50 (by decide +kernel) (by decide +kernel), ⟨by decide +kernel, by decide +kernel⟩, by decide +kernel, rfl⟩
theorem fiX4_living : FI yX4_living := ⟨tg 753 (by decide +kernel) (by decide +kernel), tg 27 (by decide +kernel) (by decide +kernel)⟩
abbrev mX4_rate : MD := (RX4, cX4_rate, 5, (some .int), 0, 0)
set_option maxRecDepth 20000 in
theorem fvX4_rate : FV yX4_rate mX4_rate 2 := ⟨by decide +kernel, tg 718 rfl rfl, tg 50 (by decide +kernel) (by decide +kernel), ⟨by decide +kernel, by decide +kernel⟩, by decide +kernel, rfl⟩
theorem fiX4_rate : FI yX4_rate := ⟨tg 717 (by decide +kernel) (by decide +kernel), tg 20 (by decide +kernel) (by decide +kernel)⟩
abbrev mX4_onLetter : MD := (RX4, cX4_onLetter, 5, (some .int), 0, 0)
set_option maxRecDepth 20000 in
theorem fvX4_onLetter : FV yX4_onLetter mX4_onLetter 2 := ⟨by decide +kernel, tg 734 rfl rfl, tg 50 (by decide +kernel) (by decide +kernel), ⟨by decide +kernel, by decide +kernel⟩, by decide +kernel, rfl⟩
theorem fiX4_onLetter : FI yX4_onLetter := ⟨tg 733 (by decide +kernel) (by decide +kernel), tg 23 (by decide +kernel) (by decide +kernel)⟩
abbrev mX4_goodFor : MD := (RX4, cX4_goodFor, 5, (some .int), 2, 44)
set_option maxRecDepth 20000 in
theorem fvX4_goodFor : FV yX4_goodFor mX4_goodFor 2 := ⟨by decide +kernel, tg 738 rfl rfl, tg 50 (by decide +kernel) (by decide +kernel), ⟨by decide +kernel, by decide +kernel⟩, by decide +kernel, rfl⟩
theorem fiX4_goodFor : FI yX4_goodFor := ⟨tg 737 (by decide +kernel) (by decide +kernel), tg 24 (by decide +kernel) (by decide +kernel)⟩
abbrev mX4_widows : MD := (RX4, cX4_widows, 5, (some .int), 3, 67)
set_option maxRecDepth 20000 in
theorem fvX4_widows : FV yX4_widows mX4_widows 1 := ⟨by decide +kernel, tg 762 rfl rfl, tg 50 (by decide +kernel) (by decide +kernel), ⟨by decide +kernel, by decide +kernel⟩, by decide +kernel, rfl⟩
theorem fiX4_widows : FI yX4_widows := ⟨tg 761 (by decide +kernel) (by decide +kernel), tg 29 (by decide +kernel) (by decide +kernel)⟩
abbrev mX4_age : MD := (RX4, cX4_age, 5, none, 1, 21)
set_option maxRecDepth 20000 in
theorem fvX4_age : FV yX4_age mX4_age 3 := ⟨by decide +kernel, tg 758 rfl rfl, tg 50 (by decide +kernel) (by decide +kernel), ⟨by decide +kernel, by decide +kernel⟩, by decide +kernel, rfl⟩
theorem fiX4_age : FI yX4_age := ⟨tg 757 (by decide +kernel) (by decide +kernel), tg 28 (by decide +kernel) (by decide +kernel)⟩
abbrev mX4_passOn : MD := (RX4, cX4_passOn, 6, none, 4, 91)
set_option maxRecDepth 20000 in
theorem fvX4_passOn : FV yX4_passOn mX4_passOn 1 := ⟨by decide +kernel, tg 750 rfl rfl, tg 50 (by decide +kernel) (by decide +kernel), ⟨by decide +kernel, by decide +kernel⟩, by decide +kernel, rfl⟩
theorem fiX4_passOn : FI yX4_passOn := ⟨tg 749 (by decide +kernel) (by decide +kernel), tg 26 (by decide +kernel) (by decide +kernel)⟩
abbrev mX4_stamp : MD := (RX4, cX4_stamp, 3, (some .int), 2, 46)
set_option maxRecDepth 20000 in
theorem fvX4_stamp : FV yX4_stamp mX4_stamp 2 := ⟨by decide +kernel, tg 706 rfl rfl, tg 50 (by decide +kernel) (by decide +kernel), ⟨by decide +kernel, by decide +kernel⟩, by decide +kernel, rfl⟩
theorem fiX4_stamp : FI yX4_stamp := ⟨tg 704 (by decide +kernel) (by decide +kernel), tg 705 (by decide +kernel) (by decide +kernel)⟩
abbrev mX4_letter : MD := (RX4, cX4_letter, 3, (some .int), 3, 68)
set_option maxRecDepth 20000 in
theorem fvX4_letter : FV yX4_letter mX4_letter 2 := ⟨by decide +kernel, tg 726 rfl rfl, tg 50 (by decide +kernel) (by decide +kernel), ⟨by decide +kernel, by decide +kernel⟩, by decide +kernel, rfl⟩
theorem fiX4_letter : FI yX4_letter := ⟨tg 724 (by decide +kernel) (by decide +kernel), tg 725 (by decide +kernel) (by decide +kernel)⟩
abbrev mX4_keepAct : MD := (RX4, cX4_keepAct, 2, none, 0, 0)
set_option maxRecDepth 20000 in
theorem fvX4_keepAct : FV yX4_keepAct mX4_keepAct 0 := ⟨by decide +kernel, tg 746 rfl rfl, tg 50 (by decide +kernel) (by decide +kernel), ⟨by decide +kernel, by decide +kernel⟩, by decide +kernel, rfl⟩
theorem fiX4_keepAct : FI yX4_keepAct := ⟨tg 745 (by decide +kernel) (by decide +kernel), tg 25 (by decide +kernel) (by decide +kernel)⟩
abbrev mX4_week : MD := (RX4, cX4_week, 1, (some .int), 5, 116)
set_option maxRecDepth 20000 in
theorem fvX4_week : FV yX4_week mX4_week 0 := ⟨by decide +kernel, tg 742 rfl rfl, tg 50 (by decide +kernel) (by decide +kernel), ⟨by decide +kernel, by decide +kernel⟩, by decide +kernel, rfl⟩
theorem fiX4_week : FI yX4_week := ⟨tg 740 (by decide +kernel) (by decide +kernel), tg 741 (by decide +kernel) (by decide +kernel)⟩
abbrev mX4_isFree : MD := (RX4, cX4_isFree, 3, (some .boolean), 2, 44)
set_option maxRecDepth 20000 in
theorem fvX4_isFree : FV yX4_isFree mX4_isFree 2 := ⟨by decide +kernel, tg 777 rfl rfl, tg 50 (by decide +kernel) (by decide +kernel), ⟨by decide +kernel, by decide +kernel⟩, by decide +kernel, rfl⟩
theorem fiX4_isFree : FI yX4_isFree := ⟨tg 776 (by decide +kernel) (by decide +kernel), tg 31 (by decide +kernel) (by decide +kernel)⟩
abbrev mX4_canStick : MD := (RX4, cX4_canStick, 4, (some .boolean), 3, 66)
set_option maxRecDepth 20000 in
theorem fvX4_canStick : FV yX4_canStick mX4_canStick 3 := ⟨by decide +kernel, tg 773 rfl rfl, tg 50 (by decide +kernel) (by decide +kernel), ⟨by decide +kernel, by decide +kernel⟩, by decide +kernel, rfl⟩
theorem fiX4_canStick : FI yX4_canStick := ⟨tg 772 (by decide +kernel) (by decide +kernel), tg 30 (by decide +kernel) (by decide +kernel)⟩
abbrev mX4_stickOn : MD := (RX4, cX4_stickOn, 5, none, 0, 0)
set_option maxRecDepth 20000 in
theorem fvX4_stickOn : FV yX4_stickOn mX4_stickOn 3 := ⟨by decide +kernel, tg 781 rfl rfl, tg 50 (by decide +kernel) (by decide +kernel), ⟨by decide +kernel, by decide +kernel⟩, by decide +kernel, rfl⟩
theorem fiX4_stickOn : FI yX4_stickOn := ⟨tg 780 (by decide +kernel) (by decide +kernel), tg 32 (by decide +kernel) (by decide +kernel)⟩
abbrev mX4_stick : MD := (RX4, cX4_stick, 3, (some .int), 4, 89)
set_option maxRecDepth 20000 in
theorem fvX4_stick : FV yX4_stick mX4_stick 2 := ⟨by decide +kernel, tg 769 rfl rfl, tg 50 (by decide +kernel) (by decide +kernel), ⟨by decide +kernel, by decide +kernel⟩, by decide +kernel, rfl⟩
theorem fiX4_stick : FI yX4_stick := ⟨tg 767 (by decide +kernel) (by decide +kernel), tg 768 (by decide +kernel) (by decide +kernel)⟩
abbrev mX4_canSend : MD := (RX4, cX4_canSend, 3, (some .boolean), 3, 68)
set_option maxRecDepth 20000 in
theorem fvX4_canSend : FV yX4_canSend mX4_canSend 2 := ⟨by decide +kernel, tg 789 rfl rfl, tg 50 (by decide +kernel) (by decide +kernel), ⟨by decide +kernel, by decide +kernel⟩, by decide +kernel, rfl⟩
theorem fiX4_canSend : FI yX4_canSend := ⟨tg 788 (by decide +kernel) (by decide +kernel), tg 33 (by decide +kernel) (by decide +kernel)⟩
abbrev mX4_send : MD := (RX4, cX4_send, 2, (some .int), 4, 90)
set_option maxRecDepth 20000 in
theorem fvX4_send : FV yX4_send mX4_send 1 := ⟨by decide +kernel, tg 785 rfl rfl, tg 50 (by decide +kernel) (by decide +kernel), ⟨by decide +kernel, by decide +kernel⟩, by decide +kernel, rfl⟩
theorem fiX4_send : FI yX4_send := ⟨tg 783 (by decide +kernel) (by decide +kernel), tg 784 (by decide +kernel) (by decide +kernel)⟩
abbrev mX4_canPart : MD := (RX4, cX4_canPart, 4, (some .boolean), 2, 46)
set_option maxRecDepth 20000 in
theorem fvX4_canPart : FV yX4_canPart mX4_canPart 3 := ⟨by decide +kernel, tg 797 rfl rfl, tg 50 (by decide +kernel) (by decide +kernel), ⟨by decide +kernel, by decide +kernel⟩, by decide +kernel, rfl⟩
theorem fiX4_canPart : FI yX4_canPart := ⟨tg 796 (by decide +kernel) (by decide +kernel), tg 34 (by decide +kernel) (by decide +kernel)⟩
abbrev mX4_partOn : MD := (RX4, cX4_partOn, 5, none, 2, 45)
set_option maxRecDepth 20000 in
theorem fvX4_partOn : FV yX4_partOn mX4_partOn 3 := ⟨by decide +kernel, tg 801 rfl rfl, tg 50 (by decide +kernel) (by decide +kernel), ⟨by decide +kernel, by decide +kernel⟩, by decide +kernel, rfl⟩
theorem fiX4_partOn : FI yX4_partOn := ⟨tg 800 (by decide +kernel) (by decide +kernel), tg 35 (by decide +kernel) (by decide +kernel)⟩
abbrev mX4_part : MD := (RX4, cX4_part, 3, (some .int), 3, 69)
set_option maxRecDepth 20000 in
theorem fvX4_part : FV yX4_part mX4_part 2 := ⟨by decide +kernel, tg 793 rfl rfl, tg 50 (by decide +kernel) (by decide +kernel), ⟨by decide +kernel, by decide +kernel⟩, by decide +kernel, rfl⟩
theorem fiX4_part : FI yX4_part := ⟨tg 791 (by decide +kernel) (by decide +kernel), tg 792 (by decide +kernel) (by decide +kernel)⟩
abbrev mX4_damp : MD := (RX4, cX4_damp, 1, (some .int), 1, 21)
set_option maxRecDepth 20000 in
theorem fvX4_damp : FV yX4_damp mX4_damp 0 := ⟨by decide +kernel, tg 805 rfl rfl, tg 50 (by decide +kernel) (by decide +kernel), ⟨by decide +kernel, by decide +kernel⟩, by decide +kernel, rfl⟩
theorem fiX4_damp : FI yX4_damp := ⟨tg 803 (by decide +kernel) (by decide +kernel), tg 804 (by decide +kernel) (by decide +kernel)⟩
abbrev mX4_undo : MD := (RX4, cX4_undo, 2, (some .int), 0, 0)
set_option maxRecDepth 20000 in
theorem fvX4_undo : FV yX4_undo mX4_undo 0 := ⟨by decide +kernel, tg 809 rfl rfl, tg 50 (by decide +kernel) (by decide +kernel), ⟨by decide +kernel, by decide +kernel⟩, by decide +kernel, rfl⟩
theorem fiX4_undo : FI yX4_undo := ⟨tg 807 (by decide +kernel) (by decide +kernel), tg 808 (by decide +kernel) (by decide +kernel)⟩
abbrev mX4_layTrial : MD := (RX4, cX4_layTrial, 2, none, 0, 0)
set_option maxRecDepth 20000 in
theorem fvX4_layTrial : FV yX4_layTrial mX4_layTrial 0 := ⟨by decide +kernel, tg 817 rfl rfl, tg 50 (by decide +kernel) (by decide +kernel), ⟨by decide +kernel, by decide +kernel⟩, by decide +kernel, rfl⟩
theorem fiX4_layTrial : FI yX4_layTrial := ⟨tg 816 (by decide +kernel) (by decide +kernel), tg 36 (by decide +kernel) (by decide +kernel)⟩
abbrev mX4_lives : MD := (RX4, cX4_lives, 3, (some .int), 5, 116)
set_option maxRecDepth 20000 in
theorem fvX4_lives : FV yX4_lives mX4_lives 1 := ⟨by decide +kernel, tg 813 rfl rfl, tg 50 (by decide +kernel) (by decide +kernel), ⟨by decide +kernel, by decide +kernel⟩, by decide +kernel, rfl⟩
theorem fiX4_lives : FI yX4_lives := ⟨tg 811 (by decide +kernel) (by decide +kernel), tg 812 (by decide +kernel) (by decide +kernel)⟩
abbrev mX4_ends : MD := (RX4, cX4_ends, 4, (some .int), 5, 116)
set_option maxRecDepth 20000 in
theorem fvX4_ends : FV yX4_ends mX4_ends 2 := ⟨by decide +kernel, tg 829 rfl rfl, tg 50 (by decide +kernel) (by decide +kernel), ⟨by decide +kernel, by decide +kernel⟩, by decide +kernel, rfl⟩
theorem fiX4_ends : FI yX4_ends := ⟨tg 828 (by decide +kernel) (by decide +kernel), tg 38 (by decide +kernel) (by decide +kernel)⟩
abbrev mX4_freeOnes : MD := (RX4, cX4_freeOnes, 3, (some .int), 3, 66)
set_option maxRecDepth 20000 in
theorem fvX4_freeOnes : FV yX4_freeOnes mX4_freeOnes 0 := ⟨by decide +kernel, tg 825 rfl rfl, tg 50 (by decide +kernel) (by decide +kernel), ⟨by decide +kernel, by decide +kernel⟩, by decide +kernel, rfl⟩
theorem fiX4_freeOnes : FI yX4_freeOnes := ⟨tg 824 (by decide +kernel) (by decide +kernel), tg 37 (by decide +kernel) (by decide +kernel)⟩
abbrev mX4_comes : MD := (RX4, cX4_comes, 3, (some .int), 6, 139)
set_option maxRecDepth 20000 in
theorem fvX4_comes : FV yX4_comes mX4_comes 2 := ⟨by decide +kernel, tg 821 rfl rfl, tg 50 (by decide +kernel) (by decide +kernel), ⟨by decide +kernel, by decide +kernel⟩, by decide +kernel, rfl⟩
theorem fiX4_comes : FI yX4_comes := ⟨tg 819 (by decide +kernel) (by decide +kernel), tg 820 (by decide +kernel) (by decide +kernel)⟩
abbrev mX4_fewest : MD := (RX4, cX4_fewest, 5, (some .int), 6, 139)
set_option maxRecDepth 20000 in
theorem fvX4_fewest : FV yX4_fewest mX4_fewest 1 := ⟨by decide +kernel, tg 833 rfl rfl, tg 50 (by decide +kernel) (by decide +kernel), ⟨by decide +kernel, by decide +kernel⟩, by decide +kernel, rfl⟩
theorem fiX4_fewest : FI yX4_fewest := ⟨tg 831 (by decide +kernel) (by decide +kernel), tg 832 (by decide +kernel) (by decide +kernel)⟩
abbrev mX4_block : MD := (RX4, cX4_block, 5, (some .int), 2, 46)
set_option maxRecDepth 20000 in
theorem fvX4_block : FV yX4_block mX4_block 1 := ⟨by decide +kernel, tg 837 rfl rfl, tg 50 (by decide +kernel) (by decide +kernel), ⟨by decide +kernel, by decide +kernel⟩, by decide +kernel, rfl⟩
theorem fiX4_block : FI yX4_block := ⟨tg 835 (by decide +kernel) (by decide +kernel), tg 836 (by decide +kernel) (by decide +kernel)⟩
abbrev mX4_tenTo : MD := (RX4, cX4_tenTo, 4, (some .long), 0, 0)
set_option maxRecDepth 20000 in
theorem fvX4_tenTo : FV yX4_tenTo mX4_tenTo 1 := ⟨by decide +kernel, tg 845 rfl rfl, tg 50 (by decide +kernel) (by decide +kernel), ⟨by decide +kernel, by decide +kernel⟩, by decide +kernel, rfl⟩
theorem fsX4_tenTo : FS yX4_tenTo := tg 844 (by decide +kernel) (by decide +kernel)
abbrev mX4_tryThing : MD := (RX4, cX4_tryThing, 5, (some .boolean), 5, 116)
set_option maxRecDepth 20000 in
theorem fvX4_tryThing : FV yX4_tryThing mX4_tryThing 3 := ⟨by decide +kernel, tg 851 rfl rfl, tg 50 (by decide +kernel) (by decide +kernel), ⟨by decide +kernel, by decide +kernel⟩, by decide +kernel, rfl⟩
theorem fiX4_tryThing : FI yX4_tryThing := ⟨tg 850 (by decide +kernel) (by decide +kernel), tg 39 (by decide +kernel) (by decide +kernel)⟩
abbrev mX4_judge : MD := (RX4, cX4_judge, 6, (some .int), 6, 140)
set_option maxRecDepth 20000 in
theorem fvX4_judge : FV yX4_judge mX4_judge 2 := ⟨by decide +kernel, tg 841 rfl rfl, tg 50 (by decide +kernel) (by decide +kernel), ⟨by decide +kernel, by decide +kernel⟩, by decide +kernel, rfl⟩
theorem fiX4_judge : FI yX4_judge := ⟨tg 839 (by decide +kernel) (by decide +kernel), tg 840 (by decide +kernel) (by decide +kernel)⟩
abbrev mX4_see : MD := (RX4, cX4_see, 4, (some .int), 2, 46)
set_option maxRecDepth 20000 in
theorem fvX4_see : FV yX4_see mX4_see 3 := ⟨by decide +kernel, tg 855 rfl rfl, tg 50 (by decide +kernel) (by decide +kernel), ⟨by decide +kernel, by decide +kernel⟩, by decide +kernel, rfl⟩
theorem fiX4_see : FI yX4_see := ⟨tg 853 (by decide +kernel) (by decide +kernel), tg 854 (by decide +kernel) (by decide +kernel)⟩
abbrev mX4_unsee : MD := (RX4, cX4_unsee, 2, (some .int), 0, 0)
set_option maxRecDepth 20000 in
theorem fvX4_unsee : FV yX4_unsee mX4_unsee 0 := ⟨by decide +kernel, tg 860 rfl rfl, tg 50 (by decide +kernel) (by decide +kernel), ⟨by decide +kernel, by decide +kernel⟩, by decide +kernel, rfl⟩
theorem fiX4_unsee : FI yX4_unsee := ⟨tg 858 (by decide +kernel) (by decide +kernel), tg 859 (by decide +kernel) (by decide +kernel)⟩
abbrev mX4_bought : MD := (RX4, cX4_bought, 7, (some .int), 2, 46)
set_option maxRecDepth 20000 in
theorem fvX4_bought : FV yX4_bought mX4_bought 1 := ⟨by decide +kernel, tg 864 rfl rfl, tg 50 (by decide +kernel) (by decide +kernel), ⟨by decide +kernel, by decide +kernel⟩, by decide +kernel, rfl⟩
theorem fiX4_bought : FI yX4_bought := ⟨tg 862 (by decide +kernel) (by decide +kernel), tg 863 (by decide +kernel) (by decide +kernel)⟩
abbrev mX4_factorial : MD := (RX4, cX4_factorial, 3, (some .int), 0, 0)
set_option maxRecDepth 20000 in
theorem fvX4_factorial : FV yX4_factorial mX4_factorial 1 := ⟨by decide +kernel, tg 871 rfl rfl, tg 50 (by decide +kernel) (by decide +kernel), ⟨by decide +kernel, by decide +kernel⟩, by decide +kernel, rfl⟩
theorem fsX4_factorial : FS yX4_factorial := tg 870 (by decide +kernel) (by decide +kernel)
abbrev mX4_common : MD := (RX4, cX4_common, 10, (some .long), 0, 0)
set_option maxRecDepth 20000 in
theorem fvX4_common : FV yX4_common mX4_common 2 := ⟨by decide +kernel, tg 878 rfl rfl, tg 50 (by decide +kernel) (by decide +kernel), ⟨by decide +kernel, by decide +kernel⟩, by decide +kernel, rfl⟩
theorem fsX4_common : FS yX4_common := tg 877 (by decide +kernel) (by decide +kernel)
abbrev mX4_paidBy : MD := (RX4, cX4_paidBy, 4, (some .int), 3, 68)
set_option maxRecDepth 20000 in
theorem fvX4_paidBy : FV yX4_paidBy mX4_paidBy 1 := ⟨by decide +kernel, tg 875 rfl rfl, tg 50 (by decide +kernel) (by decide +kernel), ⟨by decide +kernel, by decide +kernel⟩, by decide +kernel, rfl⟩
theorem fiX4_paidBy : FI yX4_paidBy := ⟨tg 874 (by decide +kernel) (by decide +kernel), tg 40 (by decide +kernel) (by decide +kernel)⟩
abbrev mX4_share : MD := (RX4, cX4_share, 6, (some .int), 4, 91)
set_option maxRecDepth 20000 in
theorem fvX4_share : FV yX4_share mX4_share 2 := ⟨by decide +kernel, tg 868 rfl rfl, tg 50 (by decide +kernel) (by decide +kernel), ⟨by decide +kernel, by decide +kernel⟩, by decide +kernel, rfl⟩
theorem fiX4_share : FI yX4_share := ⟨tg 866 (by decide +kernel) (by decide +kernel), tg 867 (by decide +kernel) (by decide +kernel)⟩
abbrev mX4_gain : MD := (RX4, cX4_gain, 5, (some .int), 1, 24)
set_option maxRecDepth 20000 in
theorem fvX4_gain : FV yX4_gain mX4_gain 4 := ⟨by decide +kernel, tg 890 rfl rfl, tg 50 (by decide +kernel) (by decide +kernel), ⟨by decide +kernel, by decide +kernel⟩, by decide +kernel, rfl⟩
theorem fiX4_gain : FI yX4_gain := ⟨tg 889 (by decide +kernel) (by decide +kernel), tg 42 (by decide +kernel) (by decide +kernel)⟩
abbrev mX4_isRest : MD := (RX4, cX4_isRest, 6, (some .boolean), 2, 48)
set_option maxRecDepth 20000 in
theorem fvX4_isRest : FV yX4_isRest mX4_isRest 5 := ⟨by decide +kernel, tg 886 rfl rfl, tg 50 (by decide +kernel) (by decide +kernel), ⟨by decide +kernel, by decide +kernel⟩, by decide +kernel, rfl⟩
theorem fiX4_isRest : FI yX4_isRest := ⟨tg 885 (by decide +kernel) (by decide +kernel), tg 41 (by decide +kernel) (by decide +kernel)⟩
abbrev mX4_rests : MD := (RX4, cX4_rests, 8, (some .int), 3, 73)
set_option maxRecDepth 20000 in
theorem fvX4_rests : FV yX4_rests mX4_rests 4 := ⟨by decide +kernel, tg 882 rfl rfl, tg 50 (by decide +kernel) (by decide +kernel), ⟨by decide +kernel, by decide +kernel⟩, by decide +kernel, rfl⟩
theorem fiX4_rests : FI yX4_rests := ⟨tg 880 (by decide +kernel) (by decide +kernel), tg 881 (by decide +kernel) (by decide +kernel)⟩
abbrev mX4_born : MD := (RX4, cX4_born, 10, (some .int), 3, 67)
set_option maxRecDepth 20000 in
theorem fvX4_born : FV yX4_born mX4_born 3 := ⟨by decide +kernel, tg 894 rfl rfl, tg 50 (by decide +kernel) (by decide +kernel), ⟨by decide +kernel, by decide +kernel⟩, by decide +kernel, rfl⟩
theorem fiX4_born : FI yX4_born := ⟨tg 892 (by decide +kernel) (by decide +kernel), tg 893 (by decide +kernel) (by decide +kernel)⟩
abbrev mX4_seed : MD := (RX4, cX4_seed, 5, (some .long), 0, 0)
set_option maxRecDepth 20000 in
theorem fvX4_seed : FV yX4_seed mX4_seed 1 := ⟨by decide +kernel, tg 898 rfl rfl, tg 50 (by decide +kernel) (by decide +kernel), ⟨by decide +kernel, by decide +kernel⟩, by decide +kernel, rfl⟩
theorem fiX4_seed : FI yX4_seed := ⟨tg 896 (by decide +kernel) (by decide +kernel), tg 897 (by decide +kernel) (by decide +kernel)⟩
abbrev mX4_years : MD := (RX4, cX4_years, 6, (some .int), 5, 116)
set_option maxRecDepth 20000 in
theorem fvX4_years : FV yX4_years mX4_years 1 := ⟨by decide +kernel, tg 902 rfl rfl, tg 50 (by decide +kernel) (by decide +kernel), ⟨by decide +kernel, by decide +kernel⟩, by decide +kernel, rfl⟩
theorem fiX4_years : FI yX4_years := ⟨tg 900 (by decide +kernel) (by decide +kernel), tg 901 (by decide +kernel) (by decide +kernel)⟩
abbrev mX4_keep : MD := (RX4, cX4_keep, 3, (some .int), 1, 25)
set_option maxRecDepth 20000 in
theorem fvX4_keep : FV yX4_keep mX4_keep 1 := ⟨by decide +kernel, tg 909 rfl rfl, tg 50 (by decide +kernel) (by decide +kernel), ⟨by decide +kernel, by decide +kernel⟩, by decide +kernel, rfl⟩
theorem fiX4_keep : FI yX4_keep := ⟨tg 907 (by decide +kernel) (by decide +kernel), tg 908 (by decide +kernel) (by decide +kernel)⟩
abbrev mX4_again : MD := (RX4, cX4_again, 3, (some .int), 1, 25)
set_option maxRecDepth 20000 in
theorem fvX4_again : FV yX4_again mX4_again 1 := ⟨by decide +kernel, tg 913 rfl rfl, tg 50 (by decide +kernel) (by decide +kernel), ⟨by decide +kernel, by decide +kernel⟩, by decide +kernel, rfl⟩
theorem fiX4_again : FI yX4_again := ⟨tg 911 (by decide +kernel) (by decide +kernel), tg 912 (by decide +kernel) (by decide +kernel)⟩
abbrev mX4_lettersThatAre : MD := (RX4, cX4_lettersThatAre, 4, (some .int), 0, 0)
set_option maxRecDepth 20000 in
theorem fvX4_lettersThatAre : FV yX4_lettersThatAre mX4_lettersThatAre 1 := ⟨by decide +kernel, tg 921 rfl rfl, tg 50 (by decide +kernel) (by decide +kernel), ⟨by decide +kernel, by decide +kernel⟩, by decide +kernel, rfl⟩
theorem fiX4_lettersThatAre : FI yX4_lettersThatAre := ⟨tg 920 (by decide +kernel) (by decide +kernel), tg 43 (by decide +kernel) (by decide +kernel)⟩
abbrev mX4_count : MD := (RX4, cX4_count, 2, (some .int), 4, 91)
set_option maxRecDepth 20000 in
theorem fvX4_count : FV yX4_count mX4_count 1 := ⟨by decide +kernel, tg 917 rfl rfl, tg 50 (by decide +kernel) (by decide +kernel), ⟨by decide +kernel, by decide +kernel⟩, by decide +kernel, rfl⟩
theorem fiX4_count : FI yX4_count := ⟨tg 915 (by decide +kernel) (by decide +kernel), tg 916 (by decide +kernel) (by decide +kernel)⟩
abbrev mJ6_bitCount_0f7a4 : MD := (RJ6, cJ6_bitCount_0f7a4, 1, (some .int), 0, 0)
set_option maxRecDepth 20000 in
theorem fvJ6_bitCount_0f7a4 : FV yJ6_bitCount_0f7a4 mJ6_bitCount_0f7a4 1 := ⟨by decide +kernel, tg 397 rfl rfl, tg 53 (by decide +kernel) (by decide +kernel), ⟨by decide +kernel, by decide +kernel⟩, by decide +kernel, rfl⟩
theorem fsJ6_bitCount_0f7a4 : FS yJ6_bitCount_0f7a4 := tg 396 (by decide +kernel) (by decide +kernel)
abbrev mJ7_fill_53178 : MD := (RJ7, cJ7_fill_53178, 4, none, 0, 0)
set_option maxRecDepth 20000 in
theorem fvJ7_fill_53178 : FV yJ7_fill_53178 mJ7_fill_53178 2 := ⟨by decide +kernel, tg 232 rfl rfl, tg 51 (by decide +kernel) (by decide +kernel), ⟨by decide +kernel, by decide +kernel⟩, by decide +kernel, rfl⟩
theorem fsJ7_fill_53178 : FS yJ7_fill_53178 := tg 231 (by decide +kernel) (by decide +kernel)
set_option maxRecDepth 20000 in
theorem mm_max : Cond.static Lib.Math.max.name ∈ TG ∧ Cond.initialized "java/lang/Math" ∈ TG ∧ Cond.code Lib.Math.max.name Lib.Math.max.code 2 (some .int) ∈ TG := ⟨tg 157 (by decide +kernel) (by decide +kernel), tg 49 (by decide +kernel) (by decide +kernel), tg 158 (by decide +kernel) (by decide +kernel)⟩
set_option maxRecDepth 20000 in
theorem mm_min : Cond.static Lib.Math.min.name ∈ TG ∧ Cond.initialized "java/lang/Math" ∈ TG ∧ Cond.code Lib.Math.min.name Lib.Math.min.code 2 (some .int) ∈ TG := ⟨tg 327 (by decide +kernel) (by decide +kernel), tg 49 (by decide +kernel) (by decide +kernel), tg 328 (by decide +kernel) (by decide +kernel)⟩
theorem acNat : Cond.native arraycopyName ∈ TG := tg 312 (by decide +kernel) (by decide +kernel)
theorem acSta : Cond.static arraycopyName ∈ TG := tg 311 (by decide +kernel) (by decide +kernel)
theorem acIni : Cond.initialized "java/lang/System" ∈ TG := tg 52 (by decide +kernel) (by decide +kernel)
end
section
def sI (w : Wd) (j : Nat) (x : Int32) : Wd := (upd w.1 j x, w.2)
def sJ (w : Wd) (j : Nat) (x : Int64) : Wd := (w.1, vp_updL w.2.1 j x, w.2.2)
def sA (w : Wd) (r : Nat) (f : Nat → Int32) : Wd := (w.1, w.2.1, fun a => if a = r then f else w.2.2 a)
theorem b2 {b : Nat} {P : Nat → Prop} (hb : b < 2) (h0 : P 0) (h1 : P 1) : P b := by
  rcases (show b = 0 ∨ b = 1 by omega) with rfl | rfl
  · exact h0
  · exact h1
def mlen (g : Nat) : Nat := if g = 0 then 420 else 60
theorem shX3 {w : Wd} : ∀ kI kZ, (cE kI kZ w)[0]? = some (.inr (3, [.ref 25, .int (w.1 0), .ref 2, .ref (pr 0), .ref (pr 1), .ref (mr 0), .int (w.1 1), .ref (mr 1), .ref 26, .ref 27, .ref 28, .ref 29, .int (w.1 2), .ref 30, .long (w.2.1 0)])) := fun _ _ => rfl
theorem seX3 {w : Wd} : ∀ kI kZ, ∃ fs, (cE kI kZ w)[0]? = some (.inr (3, fs)) := fun kI kZ => ⟨_, shX3  kI kZ⟩
theorem shX4 {w : Wd} : ∀ kI kZ, (cE kI kZ w)[1]? = some (.inr (4, [.int (w.1 16), .int (w.1 17), .ref 31, .ref 32, .ref 33, .ref 34, .ref 35, .ref 36, .int (w.1 18), .int (w.1 19), .ref 37, .int (w.1 20), .int (w.1 21), .int (w.1 22), .int (w.1 23), .int (w.1 24), .ref 38, .int (w.1 25), .ref 39, .ref 40, .ref 41, .long (w.2.1 1), .ref 42, .ref 43])) := fun _ _ => rfl
theorem seX4 {w : Wd} : ∀ kI kZ, ∃ fs, (cE kI kZ w)[1]? = some (.inr (4, fs)) := fun kI kZ => ⟨_, shX4  kI kZ⟩
theorem shX2 {w : Wd} : ∀ kI kZ, (cE kI kZ w)[2]? = some (.inr (2, [.int (w.1 3), .int (w.1 4), .int (w.1 5), .int (w.1 6), .int (w.1 7)])) := fun _ _ => rfl
theorem seX2 {w : Wd} : ∀ kI kZ, ∃ fs, (cE kI kZ w)[2]? = some (.inr (2, fs)) := fun kI kZ => ⟨_, shX2  kI kZ⟩
theorem shX1 {w : Wd} {b : Nat} (hb : b < 2) : ∀ kI kZ, (cE kI kZ w)[pr b]? = some (.inr (1, [.int (pn w b 0), .int (pn w b 1), .int (pn w b 2), .int (pn w b 3), .ref (ar b 0), .ref (ar b 1), .ref (ar b 2), .ref (ar b 3), .ref (ar b 4), .ref (ar b 5), .ref (ar b 6), .ref (ar b 7)])) := b2 (P := fun b => ∀ kI kZ, (cE kI kZ w)[pr b]? = some (.inr (1, [.int (pn w b 0), .int (pn w b 1), .int (pn w b 2), .int (pn w b 3), .ref (ar b 0), .ref (ar b 1), .ref (ar b 2), .ref (ar b 3), .ref (ar b 4), .ref (ar b 5), .ref (ar b 6), .ref (ar b 7)]))) hb (fun _ _ => rfl) (fun _ _ => rfl)
theorem seX1 {w : Wd} {b : Nat} (hb : b < 2) : ∀ kI kZ, ∃ fs, (cE kI kZ w)[pr b]? = some (.inr (1, fs)) := fun kI kZ => ⟨_, shX1 hb kI kZ⟩
theorem shX0 {w : Wd} {g : Nat} (hg : g < 2) : ∀ kI kZ, (cE kI kZ w)[mr g]? = some (.inr (0, [.ref (mc g)])) := b2 (P := fun g => ∀ kI kZ, (cE kI kZ w)[mr g]? = some (.inr (0, [.ref (mc g)]))) hg (fun _ _ => rfl) (fun _ _ => rfl)
theorem seX0 {w : Wd} {g : Nat} (hg : g < 2) : ∀ kI kZ, ∃ fs, (cE kI kZ w)[mr g]? = some (.inr (0, fs)) := fun kI kZ => ⟨_, shX0 hg kI kZ⟩
theorem saX3_text {w : Wd} : ∀ kI kZ, (cE kI kZ w)[25]? = some (iE kI w 25 48) := fun _ _ => rfl
theorem suX3_text {w : Wd} {f : Nat → Int32} : ∀ kI kZ, (cE kI kZ w).set 25 (.inl (kI, 48, .inl f)) = cE kI kZ (sA w 25 f) := fun _ _ => rfl
theorem saX3_slotUsed {w : Wd} : ∀ kI kZ, (cE kI kZ w)[26]? = some (iE kZ w 26 2) := fun _ _ => rfl
theorem suX3_slotUsed {w : Wd} {f : Nat → Int32} : ∀ kI kZ, (cE kI kZ w).set 26 (.inl (kZ, 2, .inl f)) = cE kI kZ (sA w 26 f) := fun _ _ => rfl
theorem saX3_seenStamp {w : Wd} : ∀ kI kZ, (cE kI kZ w)[27]? = some (iE kI w 27 6) := fun _ _ => rfl
theorem suX3_seenStamp {w : Wd} {f : Nat → Int32} : ∀ kI kZ, (cE kI kZ w).set 27 (.inl (kI, 6, .inl f)) = cE kI kZ (sA w 27 f) := fun _ _ => rfl
theorem saX3_seenWeeks {w : Wd} : ∀ kI kZ, (cE kI kZ w)[28]? = some (iE kI w 28 6) := fun _ _ => rfl
theorem suX3_seenWeeks {w : Wd} {f : Nat → Int32} : ∀ kI kZ, (cE kI kZ w).set 28 (.inl (kI, 6, .inl f)) = cE kI kZ (sA w 28 f) := fun _ _ => rfl
theorem saX3_seenAlive {w : Wd} : ∀ kI kZ, (cE kI kZ w)[29]? = some (iE kZ w 29 6) := fun _ _ => rfl
theorem suX3_seenAlive {w : Wd} {f : Nat → Int32} : ∀ kI kZ, (cE kI kZ w).set 29 (.inl (kZ, 6, .inl f)) = cE kI kZ (sA w 29 f) := fun _ _ => rfl
theorem saX3_doings {w : Wd} : ∀ kI kZ, (cE kI kZ w)[30]? = some (iE kI w 30 4) := fun _ _ => rfl
theorem suX3_doings {w : Wd} {f : Nat → Int32} : ∀ kI kZ, (cE kI kZ w).set 30 (.inl (kI, 4, .inl f)) = cE kI kZ (sA w 30 f) := fun _ _ => rfl
theorem saX1_age {w : Wd} {b : Nat} (hb : b < 2) : ∀ kI kZ, (cE kI kZ w)[ar b 0]? = some (iE kI w (ar b 0) 5) := b2 (P := fun b => ∀ kI kZ, (cE kI kZ w)[ar b 0]? = some (iE kI w (ar b 0) 5)) hb (fun _ _ => rfl) (fun _ _ => rfl)
theorem suX1_age {w : Wd} {b : Nat} (hb : b < 2) {f : Nat → Int32} : ∀ kI kZ, (cE kI kZ w).set (ar b 0) (.inl (kI, 5, .inl f)) = cE kI kZ (sA w (ar b 0) f) := b2 (P := fun b => ∀ kI kZ, (cE kI kZ w).set (ar b 0) (.inl (kI, 5, .inl f)) = cE kI kZ (sA w (ar b 0) f)) hb (fun _ _ => rfl) (fun _ _ => rfl)
theorem saX1_health {w : Wd} {b : Nat} (hb : b < 2) : ∀ kI kZ, (cE kI kZ w)[ar b 1]? = some (iE kI w (ar b 1) 5) := b2 (P := fun b => ∀ kI kZ, (cE kI kZ w)[ar b 1]? = some (iE kI w (ar b 1) 5)) hb (fun _ _ => rfl) (fun _ _ => rfl)
theorem suX1_health {w : Wd} {b : Nat} (hb : b < 2) {f : Nat → Int32} : ∀ kI kZ, (cE kI kZ w).set (ar b 1) (.inl (kI, 5, .inl f)) = cE kI kZ (sA w (ar b 1) f) := b2 (P := fun b => ∀ kI kZ, (cE kI kZ w).set (ar b 1) (.inl (kI, 5, .inl f)) = cE kI kZ (sA w (ar b 1) f)) hb (fun _ _ => rfl) (fun _ _ => rfl)
theorem saX1_kind {w : Wd} {b : Nat} (hb : b < 2) : ∀ kI kZ, (cE kI kZ w)[ar b 2]? = some (iE kI w (ar b 2) 5) := b2 (P := fun b => ∀ kI kZ, (cE kI kZ w)[ar b 2]? = some (iE kI w (ar b 2) 5)) hb (fun _ _ => rfl) (fun _ _ => rfl)
theorem suX1_kind {w : Wd} {b : Nat} (hb : b < 2) {f : Nat → Int32} : ∀ kI kZ, (cE kI kZ w).set (ar b 2) (.inl (kI, 5, .inl f)) = cE kI kZ (sA w (ar b 2) f) := b2 (P := fun b => ∀ kI kZ, (cE kI kZ w).set (ar b 2) (.inl (kI, 5, .inl f)) = cE kI kZ (sA w (ar b 2) f)) hb (fun _ _ => rfl) (fun _ _ => rfl)
theorem saX1_joined {w : Wd} {b : Nat} (hb : b < 2) : ∀ kI kZ, (cE kI kZ w)[ar b 3]? = some (iE kI w (ar b 3) 5) := b2 (P := fun b => ∀ kI kZ, (cE kI kZ w)[ar b 3]? = some (iE kI w (ar b 3) 5)) hb (fun _ _ => rfl) (fun _ _ => rfl)
theorem suX1_joined {w : Wd} {b : Nat} (hb : b < 2) {f : Nat → Int32} : ∀ kI kZ, (cE kI kZ w).set (ar b 3) (.inl (kI, 5, .inl f)) = cE kI kZ (sA w (ar b 3) f) := b2 (P := fun b => ∀ kI kZ, (cE kI kZ w).set (ar b 3) (.inl (kI, 5, .inl f)) = cE kI kZ (sA w (ar b 3) f)) hb (fun _ _ => rfl) (fun _ _ => rfl)
theorem saX1_on {w : Wd} {b : Nat} (hb : b < 2) : ∀ kI kZ, (cE kI kZ w)[ar b 4]? = some (iE kI w (ar b 4) 5) := b2 (P := fun b => ∀ kI kZ, (cE kI kZ w)[ar b 4]? = some (iE kI w (ar b 4) 5)) hb (fun _ _ => rfl) (fun _ _ => rfl)
theorem suX1_on {w : Wd} {b : Nat} (hb : b < 2) {f : Nat → Int32} : ∀ kI kZ, (cE kI kZ w).set (ar b 4) (.inl (kI, 5, .inl f)) = cE kI kZ (sA w (ar b 4) f) := b2 (P := fun b => ∀ kI kZ, (cE kI kZ w).set (ar b 4) (.inl (kI, 5, .inl f)) = cE kI kZ (sA w (ar b 4) f)) hb (fun _ _ => rfl) (fun _ _ => rfl)
theorem saX1_left {w : Wd} {b : Nat} (hb : b < 2) : ∀ kI kZ, (cE kI kZ w)[ar b 5]? = some (iE kI w (ar b 5) 4) := b2 (P := fun b => ∀ kI kZ, (cE kI kZ w)[ar b 5]? = some (iE kI w (ar b 5) 4)) hb (fun _ _ => rfl) (fun _ _ => rfl)
theorem suX1_left {w : Wd} {b : Nat} (hb : b < 2) {f : Nat → Int32} : ∀ kI kZ, (cE kI kZ w).set (ar b 5) (.inl (kI, 4, .inl f)) = cE kI kZ (sA w (ar b 5) f) := b2 (P := fun b => ∀ kI kZ, (cE kI kZ w).set (ar b 5) (.inl (kI, 4, .inl f)) = cE kI kZ (sA w (ar b 5) f)) hb (fun _ _ => rfl) (fun _ _ => rfl)
theorem saX1_cost {w : Wd} {b : Nat} (hb : b < 2) : ∀ kI kZ, (cE kI kZ w)[ar b 6]? = some (iE kI w (ar b 6) 4) := b2 (P := fun b => ∀ kI kZ, (cE kI kZ w)[ar b 6]? = some (iE kI w (ar b 6) 4)) hb (fun _ _ => rfl) (fun _ _ => rfl)
theorem suX1_cost {w : Wd} {b : Nat} (hb : b < 2) {f : Nat → Int32} : ∀ kI kZ, (cE kI kZ w).set (ar b 6) (.inl (kI, 4, .inl f)) = cE kI kZ (sA w (ar b 6) f) := b2 (P := fun b => ∀ kI kZ, (cE kI kZ w).set (ar b 6) (.inl (kI, 4, .inl f)) = cE kI kZ (sA w (ar b 6) f)) hb (fun _ _ => rfl) (fun _ _ => rfl)
theorem saX1_fate {w : Wd} {b : Nat} (hb : b < 2) : ∀ kI kZ, (cE kI kZ w)[ar b 7]? = some (iE kI w (ar b 7) 4) := b2 (P := fun b => ∀ kI kZ, (cE kI kZ w)[ar b 7]? = some (iE kI w (ar b 7) 4)) hb (fun _ _ => rfl) (fun _ _ => rfl)
theorem suX1_fate {w : Wd} {b : Nat} (hb : b < 2) {f : Nat → Int32} : ∀ kI kZ, (cE kI kZ w).set (ar b 7) (.inl (kI, 4, .inl f)) = cE kI kZ (sA w (ar b 7) f) := b2 (P := fun b => ∀ kI kZ, (cE kI kZ w).set (ar b 7) (.inl (kI, 4, .inl f)) = cE kI kZ (sA w (ar b 7) f)) hb (fun _ _ => rfl) (fun _ _ => rfl)
theorem saX4_kind {w : Wd} : ∀ kI kZ, (cE kI kZ w)[31]? = some (iE kI w 31 5) := fun _ _ => rfl
theorem suX4_kind {w : Wd} {f : Nat → Int32} : ∀ kI kZ, (cE kI kZ w).set 31 (.inl (kI, 5, .inl f)) = cE kI kZ (sA w 31 f) := fun _ _ => rfl
theorem saX4_cost {w : Wd} : ∀ kI kZ, (cE kI kZ w)[32]? = some (iE kI w 32 4) := fun _ _ => rfl
theorem suX4_cost {w : Wd} {f : Nat → Int32} : ∀ kI kZ, (cE kI kZ w).set 32 (.inl (kI, 4, .inl f)) = cE kI kZ (sA w 32 f) := fun _ _ => rfl
theorem saX4_now {w : Wd} : ∀ kI kZ, (cE kI kZ w)[33]? = some (iE kI w 33 60) := fun _ _ => rfl
theorem suX4_now {w : Wd} {f : Nat → Int32} : ∀ kI kZ, (cE kI kZ w).set 33 (.inl (kI, 60, .inl f)) = cE kI kZ (sA w 33 f) := fun _ _ => rfl
theorem saX4_readStamp {w : Wd} : ∀ kI kZ, (cE kI kZ w)[34]? = some (iE kI w 34 15) := fun _ _ => rfl
theorem suX4_readStamp {w : Wd} {f : Nat → Int32} : ∀ kI kZ, (cE kI kZ w).set 34 (.inl (kI, 15, .inl f)) = cE kI kZ (sA w 34 f) := fun _ _ => rfl
theorem saX4_readJoined {w : Wd} : ∀ kI kZ, (cE kI kZ w)[35]? = some (iE kI w 35 5) := fun _ _ => rfl
theorem suX4_readJoined {w : Wd} {f : Nat → Int32} : ∀ kI kZ, (cE kI kZ w).set 35 (.inl (kI, 5, .inl f)) = cE kI kZ (sA w 35 f) := fun _ _ => rfl
theorem saX4_readLetter {w : Wd} : ∀ kI kZ, (cE kI kZ w)[36]? = some (iE kI w 36 8) := fun _ _ => rfl
theorem suX4_readLetter {w : Wd} {f : Nat → Int32} : ∀ kI kZ, (cE kI kZ w).set 36 (.inl (kI, 8, .inl f)) = cE kI kZ (sA w 36 f) := fun _ _ => rfl
theorem saX4_text {w : Wd} : ∀ kI kZ, (cE kI kZ w)[37]? = some (iE kI w 37 48) := fun _ _ => rfl
theorem suX4_text {w : Wd} {f : Nat → Int32} : ∀ kI kZ, (cE kI kZ w).set 37 (.inl (kI, 48, .inl f)) = cE kI kZ (sA w 37 f) := fun _ _ => rfl
theorem saX4_row {w : Wd} : ∀ kI kZ, (cE kI kZ w)[38]? = some (iE kI w 38 420) := fun _ _ => rfl
theorem suX4_row {w : Wd} {f : Nat → Int32} : ∀ kI kZ, (cE kI kZ w).set 38 (.inl (kI, 420, .inl f)) = cE kI kZ (sA w 38 f) := fun _ _ => rfl
theorem saX4_seenOf {w : Wd} : ∀ kI kZ, (cE kI kZ w)[39]? = some (iE kI w 39 6) := fun _ _ => rfl
theorem suX4_seenOf {w : Wd} {f : Nat → Int32} : ∀ kI kZ, (cE kI kZ w).set 39 (.inl (kI, 6, .inl f)) = cE kI kZ (sA w 39 f) := fun _ _ => rfl
theorem saX4_seenAfter {w : Wd} : ∀ kI kZ, (cE kI kZ w)[40]? = some (iE kI w 40 6) := fun _ _ => rfl
theorem suX4_seenAfter {w : Wd} {f : Nat → Int32} : ∀ kI kZ, (cE kI kZ w).set 40 (.inl (kI, 6, .inl f)) = cE kI kZ (sA w 40 f) := fun _ _ => rfl
theorem saX4_seenAlive {w : Wd} : ∀ kI kZ, (cE kI kZ w)[41]? = some (iE kI w 41 6) := fun _ _ => rfl
theorem suX4_seenAlive {w : Wd} {f : Nat → Int32} : ∀ kI kZ, (cE kI kZ w).set 41 (.inl (kI, 6, .inl f)) = cE kI kZ (sA w 41 f) := fun _ _ => rfl
theorem saX4_isKept {w : Wd} : ∀ kI kZ, (cE kI kZ w)[42]? = some (iE kZ w 42 2) := fun _ _ => rfl
theorem suX4_isKept {w : Wd} {f : Nat → Int32} : ∀ kI kZ, (cE kI kZ w).set 42 (.inl (kZ, 2, .inl f)) = cE kI kZ (sA w 42 f) := fun _ _ => rfl
theorem saX4_kept {w : Wd} : ∀ kI kZ, (cE kI kZ w)[43]? = some (iE kI w 43 60) := fun _ _ => rfl
theorem suX4_kept {w : Wd} {f : Nat → Int32} : ∀ kI kZ, (cE kI kZ w).set 43 (.inl (kI, 60, .inl f)) = cE kI kZ (sA w 43 f) := fun _ _ => rfl
theorem saX0_cells {w : Wd} {g : Nat} (hg : g < 2) : ∀ kI kZ, (cE kI kZ w)[mc g]? = some (iE kI w (mc g) (mlen g)) := b2 (P := fun g => ∀ kI kZ, (cE kI kZ w)[mc g]? = some (iE kI w (mc g) (mlen g))) hg (fun _ _ => rfl) (fun _ _ => rfl)
theorem suX0_cells {w : Wd} {g : Nat} (hg : g < 2) {f : Nat → Int32} : ∀ kI kZ, (cE kI kZ w).set (mc g) (.inl (kI, mlen g, .inl f)) = cE kI kZ (sA w (mc g) f) := b2 (P := fun g => ∀ kI kZ, (cE kI kZ w).set (mc g) (.inl (kI, mlen g, .inl f)) = cE kI kZ (sA w (mc g) f)) hg (fun _ _ => rfl) (fun _ _ => rfl)
theorem spX3_length {w : Wd} {x : Int32} : ∀ kI kZ, (cE kI kZ w).set 0 (.inr (3, ([.ref 25, .int (w.1 0), .ref 2, .ref (pr 0), .ref (pr 1), .ref (mr 0), .int (w.1 1), .ref (mr 1), .ref 26, .ref 27, .ref 28, .ref 29, .int (w.1 2), .ref 30, .long (w.2.1 0)] : List Value).set 1 (.int x))) = cE kI kZ (sI w 0 x) := fun _ _ => rfl
theorem spX3_actCount {w : Wd} {x : Int32} : ∀ kI kZ, (cE kI kZ w).set 0 (.inr (3, ([.ref 25, .int (w.1 0), .ref 2, .ref (pr 0), .ref (pr 1), .ref (mr 0), .int (w.1 1), .ref (mr 1), .ref 26, .ref 27, .ref 28, .ref 29, .int (w.1 2), .ref 30, .long (w.2.1 0)] : List Value).set 6 (.int x))) = cE kI kZ (sI w 1 x) := fun _ _ => rfl
theorem spX3_seenCount {w : Wd} {x : Int32} : ∀ kI kZ, (cE kI kZ w).set 0 (.inr (3, ([.ref 25, .int (w.1 0), .ref 2, .ref (pr 0), .ref (pr 1), .ref (mr 0), .int (w.1 1), .ref (mr 1), .ref 26, .ref 27, .ref 28, .ref 29, .int (w.1 2), .ref 30, .long (w.2.1 0)] : List Value).set 12 (.int x))) = cE kI kZ (sI w 2 x) := fun _ _ => rfl
theorem spX3_seed {w : Wd} {x : Int64} : ∀ kI kZ, (cE kI kZ w).set 0 (.inr (3, ([.ref 25, .int (w.1 0), .ref 2, .ref (pr 0), .ref (pr 1), .ref (mr 0), .int (w.1 1), .ref (mr 1), .ref 26, .ref 27, .ref 28, .ref 29, .int (w.1 2), .ref 30, .long (w.2.1 0)] : List Value).set 14 (.long x))) = cE kI kZ (sJ w 0 x) := fun _ _ => rfl
theorem spX2_begun {w : Wd} {x : Int32} : ∀ kI kZ, (cE kI kZ w).set 2 (.inr (2, ([.int (w.1 3), .int (w.1 4), .int (w.1 5), .int (w.1 6), .int (w.1 7)] : List Value).set 0 (.int x))) = cE kI kZ (sI w 3 x) := fun _ _ => rfl
theorem spX2_part {w : Wd} {x : Int32} : ∀ kI kZ, (cE kI kZ w).set 2 (.inr (2, ([.int (w.1 3), .int (w.1 4), .int (w.1 5), .int (w.1 6), .int (w.1 7)] : List Value).set 1 (.int x))) = cE kI kZ (sI w 4 x) := fun _ _ => rfl
theorem spX2_figures {w : Wd} {x : Int32} : ∀ kI kZ, (cE kI kZ w).set 2 (.inr (2, ([.int (w.1 3), .int (w.1 4), .int (w.1 5), .int (w.1 6), .int (w.1 7)] : List Value).set 2 (.int x))) = cE kI kZ (sI w 5 x) := fun _ _ => rfl
theorem spX2_first {w : Wd} {x : Int32} : ∀ kI kZ, (cE kI kZ w).set 2 (.inr (2, ([.int (w.1 3), .int (w.1 4), .int (w.1 5), .int (w.1 6), .int (w.1 7)] : List Value).set 3 (.int x))) = cE kI kZ (sI w 6 x) := fun _ _ => rfl
theorem spX2_second {w : Wd} {x : Int32} : ∀ kI kZ, (cE kI kZ w).set 2 (.inr (2, ([.int (w.1 3), .int (w.1 4), .int (w.1 5), .int (w.1 6), .int (w.1 7)] : List Value).set 4 (.int x))) = cE kI kZ (sI w 7 x) := fun _ _ => rfl
theorem spX1_stamps {w : Wd} {b : Nat} (hb : b < 2) {x : Int32} : ∀ kI kZ, (cE kI kZ w).set (pr b) (.inr (1, ([.int (pn w b 0), .int (pn w b 1), .int (pn w b 2), .int (pn w b 3), .ref (ar b 0), .ref (ar b 1), .ref (ar b 2), .ref (ar b 3), .ref (ar b 4), .ref (ar b 5), .ref (ar b 6), .ref (ar b 7)] : List Value).set 0 (.int x))) = cE kI kZ (sI w (pj b 0) x) := b2 (P := fun b => ∀ kI kZ, (cE kI kZ w).set (pr b) (.inr (1, ([.int (pn w b 0), .int (pn w b 1), .int (pn w b 2), .int (pn w b 3), .ref (ar b 0), .ref (ar b 1), .ref (ar b 2), .ref (ar b 3), .ref (ar b 4), .ref (ar b 5), .ref (ar b 6), .ref (ar b 7)] : List Value).set 0 (.int x))) = cE kI kZ (sI w (pj b 0) x)) hb (fun _ _ => rfl) (fun _ _ => rfl)
theorem spX1_letters {w : Wd} {b : Nat} (hb : b < 2) {x : Int32} : ∀ kI kZ, (cE kI kZ w).set (pr b) (.inr (1, ([.int (pn w b 0), .int (pn w b 1), .int (pn w b 2), .int (pn w b 3), .ref (ar b 0), .ref (ar b 1), .ref (ar b 2), .ref (ar b 3), .ref (ar b 4), .ref (ar b 5), .ref (ar b 6), .ref (ar b 7)] : List Value).set 1 (.int x))) = cE kI kZ (sI w (pj b 1) x) := b2 (P := fun b => ∀ kI kZ, (cE kI kZ w).set (pr b) (.inr (1, ([.int (pn w b 0), .int (pn w b 1), .int (pn w b 2), .int (pn w b 3), .ref (ar b 0), .ref (ar b 1), .ref (ar b 2), .ref (ar b 3), .ref (ar b 4), .ref (ar b 5), .ref (ar b 6), .ref (ar b 7)] : List Value).set 1 (.int x))) = cE kI kZ (sI w (pj b 1) x)) hb (fun _ _ => rfl) (fun _ _ => rfl)
theorem spX1_week {w : Wd} {b : Nat} (hb : b < 2) {x : Int32} : ∀ kI kZ, (cE kI kZ w).set (pr b) (.inr (1, ([.int (pn w b 0), .int (pn w b 1), .int (pn w b 2), .int (pn w b 3), .ref (ar b 0), .ref (ar b 1), .ref (ar b 2), .ref (ar b 3), .ref (ar b 4), .ref (ar b 5), .ref (ar b 6), .ref (ar b 7)] : List Value).set 2 (.int x))) = cE kI kZ (sI w (pj b 2) x) := b2 (P := fun b => ∀ kI kZ, (cE kI kZ w).set (pr b) (.inr (1, ([.int (pn w b 0), .int (pn w b 1), .int (pn w b 2), .int (pn w b 3), .ref (ar b 0), .ref (ar b 1), .ref (ar b 2), .ref (ar b 3), .ref (ar b 4), .ref (ar b 5), .ref (ar b 6), .ref (ar b 7)] : List Value).set 2 (.int x))) = cE kI kZ (sI w (pj b 2) x)) hb (fun _ _ => rfl) (fun _ _ => rfl)
theorem spX1_damp {w : Wd} {b : Nat} (hb : b < 2) {x : Int32} : ∀ kI kZ, (cE kI kZ w).set (pr b) (.inr (1, ([.int (pn w b 0), .int (pn w b 1), .int (pn w b 2), .int (pn w b 3), .ref (ar b 0), .ref (ar b 1), .ref (ar b 2), .ref (ar b 3), .ref (ar b 4), .ref (ar b 5), .ref (ar b 6), .ref (ar b 7)] : List Value).set 3 (.int x))) = cE kI kZ (sI w (pj b 3) x) := b2 (P := fun b => ∀ kI kZ, (cE kI kZ w).set (pr b) (.inr (1, ([.int (pn w b 0), .int (pn w b 1), .int (pn w b 2), .int (pn w b 3), .ref (ar b 0), .ref (ar b 1), .ref (ar b 2), .ref (ar b 3), .ref (ar b 4), .ref (ar b 5), .ref (ar b 6), .ref (ar b 7)] : List Value).set 3 (.int x))) = cE kI kZ (sI w (pj b 3) x)) hb (fun _ _ => rfl) (fun _ _ => rfl)
theorem spX4_stamps {w : Wd} {x : Int32} : ∀ kI kZ, (cE kI kZ w).set 1 (.inr (4, ([.int (w.1 16), .int (w.1 17), .ref 31, .ref 32, .ref 33, .ref 34, .ref 35, .ref 36, .int (w.1 18), .int (w.1 19), .ref 37, .int (w.1 20), .int (w.1 21), .int (w.1 22), .int (w.1 23), .int (w.1 24), .ref 38, .int (w.1 25), .ref 39, .ref 40, .ref 41, .long (w.2.1 1), .ref 42, .ref 43] : List Value).set 0 (.int x))) = cE kI kZ (sI w 16 x) := fun _ _ => rfl
theorem spX4_letters {w : Wd} {x : Int32} : ∀ kI kZ, (cE kI kZ w).set 1 (.inr (4, ([.int (w.1 16), .int (w.1 17), .ref 31, .ref 32, .ref 33, .ref 34, .ref 35, .ref 36, .int (w.1 18), .int (w.1 19), .ref 37, .int (w.1 20), .int (w.1 21), .int (w.1 22), .int (w.1 23), .int (w.1 24), .ref 38, .int (w.1 25), .ref 39, .ref 40, .ref 41, .long (w.2.1 1), .ref 42, .ref 43] : List Value).set 1 (.int x))) = cE kI kZ (sI w 17 x) := fun _ _ => rfl
theorem spX4_readStamps {w : Wd} {x : Int32} : ∀ kI kZ, (cE kI kZ w).set 1 (.inr (4, ([.int (w.1 16), .int (w.1 17), .ref 31, .ref 32, .ref 33, .ref 34, .ref 35, .ref 36, .int (w.1 18), .int (w.1 19), .ref 37, .int (w.1 20), .int (w.1 21), .int (w.1 22), .int (w.1 23), .int (w.1 24), .ref 38, .int (w.1 25), .ref 39, .ref 40, .ref 41, .long (w.2.1 1), .ref 42, .ref 43] : List Value).set 8 (.int x))) = cE kI kZ (sI w 18 x) := fun _ _ => rfl
theorem spX4_readLetters {w : Wd} {x : Int32} : ∀ kI kZ, (cE kI kZ w).set 1 (.inr (4, ([.int (w.1 16), .int (w.1 17), .ref 31, .ref 32, .ref 33, .ref 34, .ref 35, .ref 36, .int (w.1 18), .int (w.1 19), .ref 37, .int (w.1 20), .int (w.1 21), .int (w.1 22), .int (w.1 23), .int (w.1 24), .ref 38, .int (w.1 25), .ref 39, .ref 40, .ref 41, .long (w.2.1 1), .ref 42, .ref 43] : List Value).set 9 (.int x))) = cE kI kZ (sI w 19 x) := fun _ _ => rfl
theorem spX4_length {w : Wd} {x : Int32} : ∀ kI kZ, (cE kI kZ w).set 1 (.inr (4, ([.int (w.1 16), .int (w.1 17), .ref 31, .ref 32, .ref 33, .ref 34, .ref 35, .ref 36, .int (w.1 18), .int (w.1 19), .ref 37, .int (w.1 20), .int (w.1 21), .int (w.1 22), .int (w.1 23), .int (w.1 24), .ref 38, .int (w.1 25), .ref 39, .ref 40, .ref 41, .long (w.2.1 1), .ref 42, .ref 43] : List Value).set 11 (.int x))) = cE kI kZ (sI w 20 x) := fun _ _ => rfl
theorem spX4_at {w : Wd} {x : Int32} : ∀ kI kZ, (cE kI kZ w).set 1 (.inr (4, ([.int (w.1 16), .int (w.1 17), .ref 31, .ref 32, .ref 33, .ref 34, .ref 35, .ref 36, .int (w.1 18), .int (w.1 19), .ref 37, .int (w.1 20), .int (w.1 21), .int (w.1 22), .int (w.1 23), .int (w.1 24), .ref 38, .int (w.1 25), .ref 39, .ref 40, .ref 41, .long (w.2.1 1), .ref 42, .ref 43] : List Value).set 12 (.int x))) = cE kI kZ (sI w 21 x) := fun _ _ => rfl
theorem spX4_faultAt {w : Wd} {x : Int32} : ∀ kI kZ, (cE kI kZ w).set 1 (.inr (4, ([.int (w.1 16), .int (w.1 17), .ref 31, .ref 32, .ref 33, .ref 34, .ref 35, .ref 36, .int (w.1 18), .int (w.1 19), .ref 37, .int (w.1 20), .int (w.1 21), .int (w.1 22), .int (w.1 23), .int (w.1 24), .ref 38, .int (w.1 25), .ref 39, .ref 40, .ref 41, .long (w.2.1 1), .ref 42, .ref 43] : List Value).set 13 (.int x))) = cE kI kZ (sI w 22 x) := fun _ _ => rfl
theorem spX4_acts {w : Wd} {x : Int32} : ∀ kI kZ, (cE kI kZ w).set 1 (.inr (4, ([.int (w.1 16), .int (w.1 17), .ref 31, .ref 32, .ref 33, .ref 34, .ref 35, .ref 36, .int (w.1 18), .int (w.1 19), .ref 37, .int (w.1 20), .int (w.1 21), .int (w.1 22), .int (w.1 23), .int (w.1 24), .ref 38, .int (w.1 25), .ref 39, .ref 40, .ref 41, .long (w.2.1 1), .ref 42, .ref 43] : List Value).set 14 (.int x))) = cE kI kZ (sI w 23 x) := fun _ _ => rfl
theorem spX4_next {w : Wd} {x : Int32} : ∀ kI kZ, (cE kI kZ w).set 1 (.inr (4, ([.int (w.1 16), .int (w.1 17), .ref 31, .ref 32, .ref 33, .ref 34, .ref 35, .ref 36, .int (w.1 18), .int (w.1 19), .ref 37, .int (w.1 20), .int (w.1 21), .int (w.1 22), .int (w.1 23), .int (w.1 24), .ref 38, .int (w.1 25), .ref 39, .ref 40, .ref 41, .long (w.2.1 1), .ref 42, .ref 43] : List Value).set 15 (.int x))) = cE kI kZ (sI w 24 x) := fun _ _ => rfl
theorem spX4_seen {w : Wd} {x : Int32} : ∀ kI kZ, (cE kI kZ w).set 1 (.inr (4, ([.int (w.1 16), .int (w.1 17), .ref 31, .ref 32, .ref 33, .ref 34, .ref 35, .ref 36, .int (w.1 18), .int (w.1 19), .ref 37, .int (w.1 20), .int (w.1 21), .int (w.1 22), .int (w.1 23), .int (w.1 24), .ref 38, .int (w.1 25), .ref 39, .ref 40, .ref 41, .long (w.2.1 1), .ref 42, .ref 43] : List Value).set 17 (.int x))) = cE kI kZ (sI w 25 x) := fun _ _ => rfl
theorem spX4_seed {w : Wd} {x : Int64} : ∀ kI kZ, (cE kI kZ w).set 1 (.inr (4, ([.int (w.1 16), .int (w.1 17), .ref 31, .ref 32, .ref 33, .ref 34, .ref 35, .ref 36, .int (w.1 18), .int (w.1 19), .ref 37, .int (w.1 20), .int (w.1 21), .int (w.1 22), .int (w.1 23), .int (w.1 24), .ref 38, .int (w.1 25), .ref 39, .ref 40, .ref 41, .long (w.2.1 1), .ref 42, .ref 43] : List Value).set 21 (.long x))) = cE kI kZ (sJ w 1 x) := fun _ _ => rfl
theorem fits_z {x : Int32} (h : x = 0 ∨ x = 1) : fits .boolean (.int x) = true := by rcases h with rfl | rfl <;> rfl
theorem zn {x : Int32} (h : x = 0 ∨ x = 1) : narrow .boolean (.int x) = .int x := by rcases h with rfl | rfl <;> rfl
theorem zv {x : Int32} (h : x = 0 ∨ x = 1) : vp_nar .boolean x = x := by rcases h with rfl | rfl <;> rfl
section VF
variable {M : MD} {pc : Nat} {ls : LsT} {st : List Value} {w : Wd} {Q : Option Value → Wd → Prop}
theorem vg_X3_9 (hM : M.1 = RX3) (n : Nat) (hd : decode M.2.1 pc = .ok (.getfield 9, 3)) (hn : pc + 3 = n) (h : V M n ls (.ref 25 :: st) w Q) : V M pc ls (.ref 0 :: st) w Q :=
  v_get (own2 := "") n hd hn (shX3 ) rfl inX3 (by decide : 0 < 15) (by rw [hM]; exact fl_X3_9) rfl h
theorem vg_X3_16 (hM : M.1 = RX3) (n : Nat) (hd : decode M.2.1 pc = .ok (.getfield 16, 3)) (hn : pc + 3 = n) (h : V M n ls (.ref 2 :: st) w Q) : V M pc ls (.ref 0 :: st) w Q :=
  v_get (own2 := "") n hd hn (shX3 ) rfl inX3 (by decide : 2 < 15) (by rw [hM]; exact fl_X3_16) rfl h
theorem vg_X3_23 (hM : M.1 = RX3) (n : Nat) (hd : decode M.2.1 pc = .ok (.getfield 23, 3)) (hn : pc + 3 = n) (h : V M n ls (.ref (pr 0) :: st) w Q) : V M pc ls (.ref 0 :: st) w Q :=
  v_get (own2 := "") n hd hn (shX3 ) rfl inX3 (by decide : 3 < 15) (by rw [hM]; exact fl_X3_23) rfl h
theorem vg_X3_27 (hM : M.1 = RX3) (n : Nat) (hd : decode M.2.1 pc = .ok (.getfield 27, 3)) (hn : pc + 3 = n) (h : V M n ls (.ref (pr 1) :: st) w Q) : V M pc ls (.ref 0 :: st) w Q :=
  v_get (own2 := "") n hd hn (shX3 ) rfl inX3 (by decide : 4 < 15) (by rw [hM]; exact fl_X3_27) rfl h
theorem vg_X3_35 (hM : M.1 = RX3) (n : Nat) (hd : decode M.2.1 pc = .ok (.getfield 35, 3)) (hn : pc + 3 = n) (h : V M n ls (.ref (mr 0) :: st) w Q) : V M pc ls (.ref 0 :: st) w Q :=
  v_get (own2 := "") n hd hn (shX3 ) rfl inX3 (by decide : 5 < 15) (by rw [hM]; exact fl_X3_35) rfl h
theorem vg_X3_39 (hM : M.1 = RX3) (n : Nat) (hd : decode M.2.1 pc = .ok (.getfield 39, 3)) (hn : pc + 3 = n) (h : V M n ls (.ref (mr 1) :: st) w Q) : V M pc ls (.ref 0 :: st) w Q :=
  v_get (own2 := "") n hd hn (shX3 ) rfl inX3 (by decide : 7 < 15) (by rw [hM]; exact fl_X3_39) rfl h
theorem vg_X3_42 (hM : M.1 = RX3) (n : Nat) (hd : decode M.2.1 pc = .ok (.getfield 42, 3)) (hn : pc + 3 = n) (h : V M n ls (.ref 26 :: st) w Q) : V M pc ls (.ref 0 :: st) w Q :=
  v_get (own2 := "") n hd hn (shX3 ) rfl inX3 (by decide : 8 < 15) (by rw [hM]; exact fl_X3_42) rfl h
theorem vg_X3_46 (hM : M.1 = RX3) (n : Nat) (hd : decode M.2.1 pc = .ok (.getfield 46, 3)) (hn : pc + 3 = n) (h : V M n ls (.ref 27 :: st) w Q) : V M pc ls (.ref 0 :: st) w Q :=
  v_get (own2 := "") n hd hn (shX3 ) rfl inX3 (by decide : 9 < 15) (by rw [hM]; exact fl_X3_46) rfl h
theorem vg_X3_49 (hM : M.1 = RX3) (n : Nat) (hd : decode M.2.1 pc = .ok (.getfield 49, 3)) (hn : pc + 3 = n) (h : V M n ls (.ref 28 :: st) w Q) : V M pc ls (.ref 0 :: st) w Q :=
  v_get (own2 := "") n hd hn (shX3 ) rfl inX3 (by decide : 10 < 15) (by rw [hM]; exact fl_X3_49) rfl h
theorem vg_X3_52 (hM : M.1 = RX3) (n : Nat) (hd : decode M.2.1 pc = .ok (.getfield 52, 3)) (hn : pc + 3 = n) (h : V M n ls (.ref 29 :: st) w Q) : V M pc ls (.ref 0 :: st) w Q :=
  v_get (own2 := "") n hd hn (shX3 ) rfl inX3 (by decide : 11 < 15) (by rw [hM]; exact fl_X3_52) rfl h
theorem vg_X3_55 (hM : M.1 = RX3) (n : Nat) (hd : decode M.2.1 pc = .ok (.getfield 55, 3)) (hn : pc + 3 = n) (h : V M n ls (.ref 30 :: st) w Q) : V M pc ls (.ref 0 :: st) w Q :=
  v_get (own2 := "") n hd hn (shX3 ) rfl inX3 (by decide : 13 < 15) (by rw [hM]; exact fl_X3_55) rfl h
theorem vg_X3_58 (hM : M.1 = RX3) (n : Nat) (hd : decode M.2.1 pc = .ok (.getfield 58, 3)) (hn : pc + 3 = n) (h : V M n ls (.int (w.1 0) :: st) w Q) : V M pc ls (.ref 0 :: st) w Q :=
  v_get (own2 := "") n hd hn (shX3 ) rfl inX3 (by decide : 1 < 15) (by rw [hM]; exact fl_X3_58) rfl h
theorem vg_X3_70 (hM : M.1 = RX3) (n : Nat) (hd : decode M.2.1 pc = .ok (.getfield 70, 3)) (hn : pc + 3 = n) (h : V M n ls (.int (w.1 1) :: st) w Q) : V M pc ls (.ref 0 :: st) w Q :=
  v_get (own2 := "") n hd hn (shX3 ) rfl inX3 (by decide : 6 < 15) (by rw [hM]; exact fl_X3_70) rfl h
theorem vg_X3_73 {b : Nat} (hb : b < 2) (hM : M.1 = RX3) (n : Nat) (hd : decode M.2.1 pc = .ok (.getfield 73, 3)) (hn : pc + 3 = n) (h : V M n ls (.int (pn w b 0) :: st) w Q) : V M pc ls (.ref (pr b) :: st) w Q :=
  v_get (own2 := "") n hd hn (shX1 hb) rfl inX1 (by decide : 0 < 12) (by rw [hM]; exact fl_X3_73) rfl h
theorem vg_X3_76 {b : Nat} (hb : b < 2) (hM : M.1 = RX3) (n : Nat) (hd : decode M.2.1 pc = .ok (.getfield 76, 3)) (hn : pc + 3 = n) (h : V M n ls (.int (pn w b 1) :: st) w Q) : V M pc ls (.ref (pr b) :: st) w Q :=
  v_get (own2 := "") n hd hn (shX1 hb) rfl inX1 (by decide : 1 < 12) (by rw [hM]; exact fl_X3_76) rfl h
theorem vg_X3_83 {b : Nat} (hb : b < 2) (hM : M.1 = RX3) (n : Nat) (hd : decode M.2.1 pc = .ok (.getfield 83, 3)) (hn : pc + 3 = n) (h : V M n ls (.ref (ar b 0) :: st) w Q) : V M pc ls (.ref (pr b) :: st) w Q :=
  v_get (own2 := "") n hd hn (shX1 hb) rfl inX1 (by decide : 4 < 12) (by rw [hM]; exact fl_X3_83) rfl h
theorem vg_X3_86 {b : Nat} (hb : b < 2) (hM : M.1 = RX3) (n : Nat) (hd : decode M.2.1 pc = .ok (.getfield 86, 3)) (hn : pc + 3 = n) (h : V M n ls (.ref (ar b 1) :: st) w Q) : V M pc ls (.ref (pr b) :: st) w Q :=
  v_get (own2 := "") n hd hn (shX1 hb) rfl inX1 (by decide : 5 < 12) (by rw [hM]; exact fl_X3_86) rfl h
theorem vg_X3_89 {b : Nat} (hb : b < 2) (hM : M.1 = RX3) (n : Nat) (hd : decode M.2.1 pc = .ok (.getfield 89, 3)) (hn : pc + 3 = n) (h : V M n ls (.ref (ar b 2) :: st) w Q) : V M pc ls (.ref (pr b) :: st) w Q :=
  v_get (own2 := "") n hd hn (shX1 hb) rfl inX1 (by decide : 6 < 12) (by rw [hM]; exact fl_X3_89) rfl h
theorem vg_X3_102 {b : Nat} (hb : b < 2) (hM : M.1 = RX3) (n : Nat) (hd : decode M.2.1 pc = .ok (.getfield 102, 3)) (hn : pc + 3 = n) (h : V M n ls (.ref (ar b 4) :: st) w Q) : V M pc ls (.ref (pr b) :: st) w Q :=
  v_get (own2 := "") n hd hn (shX1 hb) rfl inX1 (by decide : 8 < 12) (by rw [hM]; exact fl_X3_102) rfl h
theorem vg_X3_105 {b : Nat} (hb : b < 2) (hM : M.1 = RX3) (n : Nat) (hd : decode M.2.1 pc = .ok (.getfield 105, 3)) (hn : pc + 3 = n) (h : V M n ls (.ref (ar b 3) :: st) w Q) : V M pc ls (.ref (pr b) :: st) w Q :=
  v_get (own2 := "") n hd hn (shX1 hb) rfl inX1 (by decide : 7 < 12) (by rw [hM]; exact fl_X3_105) rfl h
theorem vg_X3_111 {b : Nat} (hb : b < 2) (hM : M.1 = RX3) (n : Nat) (hd : decode M.2.1 pc = .ok (.getfield 111, 3)) (hn : pc + 3 = n) (h : V M n ls (.ref (ar b 5) :: st) w Q) : V M pc ls (.ref (pr b) :: st) w Q :=
  v_get (own2 := "") n hd hn (shX1 hb) rfl inX1 (by decide : 9 < 12) (by rw [hM]; exact fl_X3_111) rfl h
theorem vg_X3_114 {b : Nat} (hb : b < 2) (hM : M.1 = RX3) (n : Nat) (hd : decode M.2.1 pc = .ok (.getfield 114, 3)) (hn : pc + 3 = n) (h : V M n ls (.ref (ar b 6) :: st) w Q) : V M pc ls (.ref (pr b) :: st) w Q :=
  v_get (own2 := "") n hd hn (shX1 hb) rfl inX1 (by decide : 10 < 12) (by rw [hM]; exact fl_X3_114) rfl h
theorem vg_X3_123 {b : Nat} (hb : b < 2) (hM : M.1 = RX3) (n : Nat) (hd : decode M.2.1 pc = .ok (.getfield 123, 3)) (hn : pc + 3 = n) (h : V M n ls (.ref (ar b 7) :: st) w Q) : V M pc ls (.ref (pr b) :: st) w Q :=
  v_get (own2 := "") n hd hn (shX1 hb) rfl inX1 (by decide : 11 < 12) (by rw [hM]; exact fl_X3_123) rfl h
theorem vg_X3_161 {b : Nat} (hb : b < 2) (hM : M.1 = RX3) (n : Nat) (hd : decode M.2.1 pc = .ok (.getfield 161, 3)) (hn : pc + 3 = n) (h : V M n ls (.int (pn w b 3) :: st) w Q) : V M pc ls (.ref (pr b) :: st) w Q :=
  v_get (own2 := "") n hd hn (shX1 hb) rfl inX1 (by decide : 3 < 12) (by rw [hM]; exact fl_X3_161) rfl h
theorem vg_X3_187 (hM : M.1 = RX3) (n : Nat) (hd : decode M.2.1 pc = .ok (.getfield 187, 3)) (hn : pc + 3 = n) (h : V M n ls (.int (w.1 2) :: st) w Q) : V M pc ls (.ref 0 :: st) w Q :=
  v_get (own2 := "") n hd hn (shX3 ) rfl inX3 (by decide : 12 < 15) (by rw [hM]; exact fl_X3_187) rfl h
theorem vg_X3_218 (hM : M.1 = RX3) (n : Nat) (hd : decode M.2.1 pc = .ok (.getfield 218, 3)) (hn : pc + 3 = n) (h : V M n ls (.long (w.2.1 0) :: st) w Q) : V M pc ls (.ref 0 :: st) w Q :=
  v_get (own2 := "") n hd hn (shX3 ) rfl inX3 (by decide : 14 < 15) (by rw [hM]; exact fl_X3_218) rfl h
theorem vg_X3_234 {b : Nat} (hb : b < 2) (hM : M.1 = RX3) (n : Nat) (hd : decode M.2.1 pc = .ok (.getfield 234, 3)) (hn : pc + 3 = n) (h : V M n ls (.int (pn w b 2) :: st) w Q) : V M pc ls (.ref (pr b) :: st) w Q :=
  v_get (own2 := "") n hd hn (shX1 hb) rfl inX1 (by decide : 2 < 12) (by rw [hM]; exact fl_X3_234) rfl h
theorem vg_X0_17 {g : Nat} (hg : g < 2) (hM : M.1 = RX0) (n : Nat) (hd : decode M.2.1 pc = .ok (.getfield 17, 3)) (hn : pc + 3 = n) (h : V M n ls (.ref (mc g) :: st) w Q) : V M pc ls (.ref (mr g) :: st) w Q :=
  v_get (own2 := "") n hd hn (shX0 hg) rfl inX0 (by decide : 0 < 1) (by rw [hM]; exact fl_X0_17) rfl h
theorem vg_X0_25 {b : Nat} (hb : b < 2) (hM : M.1 = RX0) (n : Nat) (hd : decode M.2.1 pc = .ok (.getfield 25, 3)) (hn : pc + 3 = n) (h : V M n ls (.ref (ar b 0) :: st) w Q) : V M pc ls (.ref (pr b) :: st) w Q :=
  v_get (own2 := "") n hd hn (shX1 hb) rfl inX1 (by decide : 4 < 12) (by rw [hM]; exact fl_X0_25) rfl h
theorem vg_X0_36 {b : Nat} (hb : b < 2) (hM : M.1 = RX0) (n : Nat) (hd : decode M.2.1 pc = .ok (.getfield 36, 3)) (hn : pc + 3 = n) (h : V M n ls (.ref (ar b 1) :: st) w Q) : V M pc ls (.ref (pr b) :: st) w Q :=
  v_get (own2 := "") n hd hn (shX1 hb) rfl inX1 (by decide : 5 < 12) (by rw [hM]; exact fl_X0_36) rfl h
theorem vg_X0_39 {b : Nat} (hb : b < 2) (hM : M.1 = RX0) (n : Nat) (hd : decode M.2.1 pc = .ok (.getfield 39, 3)) (hn : pc + 3 = n) (h : V M n ls (.ref (ar b 3) :: st) w Q) : V M pc ls (.ref (pr b) :: st) w Q :=
  v_get (own2 := "") n hd hn (shX1 hb) rfl inX1 (by decide : 7 < 12) (by rw [hM]; exact fl_X0_39) rfl h
theorem vg_X0_42 {b : Nat} (hb : b < 2) (hM : M.1 = RX0) (n : Nat) (hd : decode M.2.1 pc = .ok (.getfield 42, 3)) (hn : pc + 3 = n) (h : V M n ls (.ref (ar b 4) :: st) w Q) : V M pc ls (.ref (pr b) :: st) w Q :=
  v_get (own2 := "") n hd hn (shX1 hb) rfl inX1 (by decide : 8 < 12) (by rw [hM]; exact fl_X0_42) rfl h
theorem vg_X0_45 {b : Nat} (hb : b < 2) (hM : M.1 = RX0) (n : Nat) (hd : decode M.2.1 pc = .ok (.getfield 45, 3)) (hn : pc + 3 = n) (h : V M n ls (.ref (ar b 5) :: st) w Q) : V M pc ls (.ref (pr b) :: st) w Q :=
  v_get (own2 := "") n hd hn (shX1 hb) rfl inX1 (by decide : 9 < 12) (by rw [hM]; exact fl_X0_45) rfl h
theorem vg_X0_48 {b : Nat} (hb : b < 2) (hM : M.1 = RX0) (n : Nat) (hd : decode M.2.1 pc = .ok (.getfield 48, 3)) (hn : pc + 3 = n) (h : V M n ls (.ref (ar b 7) :: st) w Q) : V M pc ls (.ref (pr b) :: st) w Q :=
  v_get (own2 := "") n hd hn (shX1 hb) rfl inX1 (by decide : 11 < 12) (by rw [hM]; exact fl_X0_48) rfl h
theorem vg_X0_51 {b : Nat} (hb : b < 2) (hM : M.1 = RX0) (n : Nat) (hd : decode M.2.1 pc = .ok (.getfield 51, 3)) (hn : pc + 3 = n) (h : V M n ls (.int (pn w b 3) :: st) w Q) : V M pc ls (.ref (pr b) :: st) w Q :=
  v_get (own2 := "") n hd hn (shX1 hb) rfl inX1 (by decide : 3 < 12) (by rw [hM]; exact fl_X0_51) rfl h
theorem vg_X0_55 {b : Nat} (hb : b < 2) (hM : M.1 = RX0) (n : Nat) (hd : decode M.2.1 pc = .ok (.getfield 55, 3)) (hn : pc + 3 = n) (h : V M n ls (.int (pn w b 2) :: st) w Q) : V M pc ls (.ref (pr b) :: st) w Q :=
  v_get (own2 := "") n hd hn (shX1 hb) rfl inX1 (by decide : 2 < 12) (by rw [hM]; exact fl_X0_55) rfl h
theorem vg_X1_9 {b : Nat} (hb : b < 2) (hM : M.1 = RX1) (n : Nat) (hd : decode M.2.1 pc = .ok (.getfield 9, 3)) (hn : pc + 3 = n) (h : V M n ls (.ref (ar b 0) :: st) w Q) : V M pc ls (.ref (pr b) :: st) w Q :=
  v_get (own2 := "") n hd hn (shX1 hb) rfl inX1 (by decide : 4 < 12) (by rw [hM]; exact fl_X1_9) rfl h
theorem vg_X1_15 {b : Nat} (hb : b < 2) (hM : M.1 = RX1) (n : Nat) (hd : decode M.2.1 pc = .ok (.getfield 15, 3)) (hn : pc + 3 = n) (h : V M n ls (.ref (ar b 1) :: st) w Q) : V M pc ls (.ref (pr b) :: st) w Q :=
  v_get (own2 := "") n hd hn (shX1 hb) rfl inX1 (by decide : 5 < 12) (by rw [hM]; exact fl_X1_15) rfl h
theorem vg_X1_18 {b : Nat} (hb : b < 2) (hM : M.1 = RX1) (n : Nat) (hd : decode M.2.1 pc = .ok (.getfield 18, 3)) (hn : pc + 3 = n) (h : V M n ls (.ref (ar b 2) :: st) w Q) : V M pc ls (.ref (pr b) :: st) w Q :=
  v_get (own2 := "") n hd hn (shX1 hb) rfl inX1 (by decide : 6 < 12) (by rw [hM]; exact fl_X1_18) rfl h
theorem vg_X1_21 {b : Nat} (hb : b < 2) (hM : M.1 = RX1) (n : Nat) (hd : decode M.2.1 pc = .ok (.getfield 21, 3)) (hn : pc + 3 = n) (h : V M n ls (.ref (ar b 3) :: st) w Q) : V M pc ls (.ref (pr b) :: st) w Q :=
  v_get (own2 := "") n hd hn (shX1 hb) rfl inX1 (by decide : 7 < 12) (by rw [hM]; exact fl_X1_21) rfl h
theorem vg_X1_24 {b : Nat} (hb : b < 2) (hM : M.1 = RX1) (n : Nat) (hd : decode M.2.1 pc = .ok (.getfield 24, 3)) (hn : pc + 3 = n) (h : V M n ls (.ref (ar b 4) :: st) w Q) : V M pc ls (.ref (pr b) :: st) w Q :=
  v_get (own2 := "") n hd hn (shX1 hb) rfl inX1 (by decide : 8 < 12) (by rw [hM]; exact fl_X1_24) rfl h
theorem vg_X1_27 {b : Nat} (hb : b < 2) (hM : M.1 = RX1) (n : Nat) (hd : decode M.2.1 pc = .ok (.getfield 27, 3)) (hn : pc + 3 = n) (h : V M n ls (.ref (ar b 5) :: st) w Q) : V M pc ls (.ref (pr b) :: st) w Q :=
  v_get (own2 := "") n hd hn (shX1 hb) rfl inX1 (by decide : 9 < 12) (by rw [hM]; exact fl_X1_27) rfl h
theorem vg_X1_30 {b : Nat} (hb : b < 2) (hM : M.1 = RX1) (n : Nat) (hd : decode M.2.1 pc = .ok (.getfield 30, 3)) (hn : pc + 3 = n) (h : V M n ls (.ref (ar b 6) :: st) w Q) : V M pc ls (.ref (pr b) :: st) w Q :=
  v_get (own2 := "") n hd hn (shX1 hb) rfl inX1 (by decide : 10 < 12) (by rw [hM]; exact fl_X1_30) rfl h
theorem vg_X1_33 {b : Nat} (hb : b < 2) (hM : M.1 = RX1) (n : Nat) (hd : decode M.2.1 pc = .ok (.getfield 33, 3)) (hn : pc + 3 = n) (h : V M n ls (.ref (ar b 7) :: st) w Q) : V M pc ls (.ref (pr b) :: st) w Q :=
  v_get (own2 := "") n hd hn (shX1 hb) rfl inX1 (by decide : 11 < 12) (by rw [hM]; exact fl_X1_33) rfl h
theorem vg_X1_36 {b : Nat} (hb : b < 2) (hM : M.1 = RX1) (n : Nat) (hd : decode M.2.1 pc = .ok (.getfield 36, 3)) (hn : pc + 3 = n) (h : V M n ls (.int (pn w b 0) :: st) w Q) : V M pc ls (.ref (pr b) :: st) w Q :=
  v_get (own2 := "") n hd hn (shX1 hb) rfl inX1 (by decide : 0 < 12) (by rw [hM]; exact fl_X1_36) rfl h
theorem vg_X1_40 {b : Nat} (hb : b < 2) (hM : M.1 = RX1) (n : Nat) (hd : decode M.2.1 pc = .ok (.getfield 40, 3)) (hn : pc + 3 = n) (h : V M n ls (.int (pn w b 1) :: st) w Q) : V M pc ls (.ref (pr b) :: st) w Q :=
  v_get (own2 := "") n hd hn (shX1 hb) rfl inX1 (by decide : 1 < 12) (by rw [hM]; exact fl_X1_40) rfl h
theorem vg_X1_43 {b : Nat} (hb : b < 2) (hM : M.1 = RX1) (n : Nat) (hd : decode M.2.1 pc = .ok (.getfield 43, 3)) (hn : pc + 3 = n) (h : V M n ls (.int (pn w b 2) :: st) w Q) : V M pc ls (.ref (pr b) :: st) w Q :=
  v_get (own2 := "") n hd hn (shX1 hb) rfl inX1 (by decide : 2 < 12) (by rw [hM]; exact fl_X1_43) rfl h
theorem vg_X1_46 {b : Nat} (hb : b < 2) (hM : M.1 = RX1) (n : Nat) (hd : decode M.2.1 pc = .ok (.getfield 46, 3)) (hn : pc + 3 = n) (h : V M n ls (.int (pn w b 3) :: st) w Q) : V M pc ls (.ref (pr b) :: st) w Q :=
  v_get (own2 := "") n hd hn (shX1 hb) rfl inX1 (by decide : 3 < 12) (by rw [hM]; exact fl_X1_46) rfl h
theorem vg_X2_9 (hM : M.1 = RX2) (n : Nat) (hd : decode M.2.1 pc = .ok (.getfield 9, 3)) (hn : pc + 3 = n) (h : V M n ls (.int (w.1 3) :: st) w Q) : V M pc ls (.ref 2 :: st) w Q :=
  v_get (own2 := "") n hd hn (shX2 ) rfl inX2 (by decide : 0 < 5) (by rw [hM]; exact fl_X2_9) rfl h
theorem vg_X2_15 (hM : M.1 = RX2) (n : Nat) (hd : decode M.2.1 pc = .ok (.getfield 15, 3)) (hn : pc + 3 = n) (h : V M n ls (.int (w.1 4) :: st) w Q) : V M pc ls (.ref 2 :: st) w Q :=
  v_get (own2 := "") n hd hn (shX2 ) rfl inX2 (by decide : 1 < 5) (by rw [hM]; exact fl_X2_15) rfl h
theorem vg_X2_32 {b : Nat} (hb : b < 2) (hM : M.1 = RX2) (n : Nat) (hd : decode M.2.1 pc = .ok (.getfield 32, 3)) (hn : pc + 3 = n) (h : V M n ls (.int (pn w b 0) :: st) w Q) : V M pc ls (.ref (pr b) :: st) w Q :=
  v_get (own2 := "") n hd hn (shX1 hb) rfl inX1 (by decide : 0 < 12) (by rw [hM]; exact fl_X2_32) rfl h
theorem vg_X2_41 {b : Nat} (hb : b < 2) (hM : M.1 = RX2) (n : Nat) (hd : decode M.2.1 pc = .ok (.getfield 41, 3)) (hn : pc + 3 = n) (h : V M n ls (.int (pn w b 1) :: st) w Q) : V M pc ls (.ref (pr b) :: st) w Q :=
  v_get (own2 := "") n hd hn (shX1 hb) rfl inX1 (by decide : 1 < 12) (by rw [hM]; exact fl_X2_41) rfl h
theorem vg_X2_44 (hM : M.1 = RX2) (n : Nat) (hd : decode M.2.1 pc = .ok (.getfield 44, 3)) (hn : pc + 3 = n) (h : V M n ls (.int (w.1 5) :: st) w Q) : V M pc ls (.ref 2 :: st) w Q :=
  v_get (own2 := "") n hd hn (shX2 ) rfl inX2 (by decide : 2 < 5) (by rw [hM]; exact fl_X2_44) rfl h
theorem vg_X2_51 (hM : M.1 = RX2) (n : Nat) (hd : decode M.2.1 pc = .ok (.getfield 51, 3)) (hn : pc + 3 = n) (h : V M n ls (.int (w.1 6) :: st) w Q) : V M pc ls (.ref 2 :: st) w Q :=
  v_get (own2 := "") n hd hn (shX2 ) rfl inX2 (by decide : 3 < 5) (by rw [hM]; exact fl_X2_51) rfl h
theorem vg_X2_54 (hM : M.1 = RX2) (n : Nat) (hd : decode M.2.1 pc = .ok (.getfield 54, 3)) (hn : pc + 3 = n) (h : V M n ls (.int (w.1 7) :: st) w Q) : V M pc ls (.ref 2 :: st) w Q :=
  v_get (own2 := "") n hd hn (shX2 ) rfl inX2 (by decide : 4 < 5) (by rw [hM]; exact fl_X2_54) rfl h
theorem vg_X4_7 (hM : M.1 = RX4) (n : Nat) (hd : decode M.2.1 pc = .ok (.getfield 7, 3)) (hn : pc + 3 = n) (h : V M n ls (.ref 31 :: st) w Q) : V M pc ls (.ref 1 :: st) w Q :=
  v_get (own2 := "") n hd hn (shX4 ) rfl inX4 (by decide : 2 < 24) (by rw [hM]; exact fl_X4_7) rfl h
theorem vg_X4_13 (hM : M.1 = RX4) (n : Nat) (hd : decode M.2.1 pc = .ok (.getfield 13, 3)) (hn : pc + 3 = n) (h : V M n ls (.ref 32 :: st) w Q) : V M pc ls (.ref 1 :: st) w Q :=
  v_get (own2 := "") n hd hn (shX4 ) rfl inX4 (by decide : 3 < 24) (by rw [hM]; exact fl_X4_13) rfl h
theorem vg_X4_16 (hM : M.1 = RX4) (n : Nat) (hd : decode M.2.1 pc = .ok (.getfield 16, 3)) (hn : pc + 3 = n) (h : V M n ls (.ref 33 :: st) w Q) : V M pc ls (.ref 1 :: st) w Q :=
  v_get (own2 := "") n hd hn (shX4 ) rfl inX4 (by decide : 4 < 24) (by rw [hM]; exact fl_X4_16) rfl h
theorem vg_X4_19 (hM : M.1 = RX4) (n : Nat) (hd : decode M.2.1 pc = .ok (.getfield 19, 3)) (hn : pc + 3 = n) (h : V M n ls (.ref 34 :: st) w Q) : V M pc ls (.ref 1 :: st) w Q :=
  v_get (own2 := "") n hd hn (shX4 ) rfl inX4 (by decide : 5 < 24) (by rw [hM]; exact fl_X4_19) rfl h
theorem vg_X4_22 (hM : M.1 = RX4) (n : Nat) (hd : decode M.2.1 pc = .ok (.getfield 22, 3)) (hn : pc + 3 = n) (h : V M n ls (.ref 35 :: st) w Q) : V M pc ls (.ref 1 :: st) w Q :=
  v_get (own2 := "") n hd hn (shX4 ) rfl inX4 (by decide : 6 < 24) (by rw [hM]; exact fl_X4_22) rfl h
theorem vg_X4_25 (hM : M.1 = RX4) (n : Nat) (hd : decode M.2.1 pc = .ok (.getfield 25, 3)) (hn : pc + 3 = n) (h : V M n ls (.ref 36 :: st) w Q) : V M pc ls (.ref 1 :: st) w Q :=
  v_get (own2 := "") n hd hn (shX4 ) rfl inX4 (by decide : 7 < 24) (by rw [hM]; exact fl_X4_25) rfl h
theorem vg_X4_28 (hM : M.1 = RX4) (n : Nat) (hd : decode M.2.1 pc = .ok (.getfield 28, 3)) (hn : pc + 3 = n) (h : V M n ls (.ref 37 :: st) w Q) : V M pc ls (.ref 1 :: st) w Q :=
  v_get (own2 := "") n hd hn (shX4 ) rfl inX4 (by decide : 10 < 24) (by rw [hM]; exact fl_X4_28) rfl h
theorem vg_X4_31 (hM : M.1 = RX4) (n : Nat) (hd : decode M.2.1 pc = .ok (.getfield 31, 3)) (hn : pc + 3 = n) (h : V M n ls (.ref 38 :: st) w Q) : V M pc ls (.ref 1 :: st) w Q :=
  v_get (own2 := "") n hd hn (shX4 ) rfl inX4 (by decide : 16 < 24) (by rw [hM]; exact fl_X4_31) rfl h
theorem vg_X4_34 (hM : M.1 = RX4) (n : Nat) (hd : decode M.2.1 pc = .ok (.getfield 34, 3)) (hn : pc + 3 = n) (h : V M n ls (.ref 39 :: st) w Q) : V M pc ls (.ref 1 :: st) w Q :=
  v_get (own2 := "") n hd hn (shX4 ) rfl inX4 (by decide : 18 < 24) (by rw [hM]; exact fl_X4_34) rfl h
theorem vg_X4_37 (hM : M.1 = RX4) (n : Nat) (hd : decode M.2.1 pc = .ok (.getfield 37, 3)) (hn : pc + 3 = n) (h : V M n ls (.ref 40 :: st) w Q) : V M pc ls (.ref 1 :: st) w Q :=
  v_get (own2 := "") n hd hn (shX4 ) rfl inX4 (by decide : 19 < 24) (by rw [hM]; exact fl_X4_37) rfl h
theorem vg_X4_40 (hM : M.1 = RX4) (n : Nat) (hd : decode M.2.1 pc = .ok (.getfield 40, 3)) (hn : pc + 3 = n) (h : V M n ls (.ref 41 :: st) w Q) : V M pc ls (.ref 1 :: st) w Q :=
  v_get (own2 := "") n hd hn (shX4 ) rfl inX4 (by decide : 20 < 24) (by rw [hM]; exact fl_X4_40) rfl h
theorem vg_X4_43 (hM : M.1 = RX4) (n : Nat) (hd : decode M.2.1 pc = .ok (.getfield 43, 3)) (hn : pc + 3 = n) (h : V M n ls (.ref 42 :: st) w Q) : V M pc ls (.ref 1 :: st) w Q :=
  v_get (own2 := "") n hd hn (shX4 ) rfl inX4 (by decide : 22 < 24) (by rw [hM]; exact fl_X4_43) rfl h
theorem vg_X4_47 (hM : M.1 = RX4) (n : Nat) (hd : decode M.2.1 pc = .ok (.getfield 47, 3)) (hn : pc + 3 = n) (h : V M n ls (.ref 43 :: st) w Q) : V M pc ls (.ref 1 :: st) w Q :=
  v_get (own2 := "") n hd hn (shX4 ) rfl inX4 (by decide : 23 < 24) (by rw [hM]; exact fl_X4_47) rfl h
theorem vg_X4_50 (hM : M.1 = RX4) (n : Nat) (hd : decode M.2.1 pc = .ok (.getfield 50, 3)) (hn : pc + 3 = n) (h : V M n ls (.int (w.1 16) :: st) w Q) : V M pc ls (.ref 1 :: st) w Q :=
  v_get (own2 := "") n hd hn (shX4 ) rfl inX4 (by decide : 0 < 24) (by rw [hM]; exact fl_X4_50) rfl h
theorem vg_X4_60 (hM : M.1 = RX4) (n : Nat) (hd : decode M.2.1 pc = .ok (.getfield 60, 3)) (hn : pc + 3 = n) (h : V M n ls (.int (w.1 20) :: st) w Q) : V M pc ls (.ref 1 :: st) w Q :=
  v_get (own2 := "") n hd hn (shX4 ) rfl inX4 (by decide : 11 < 24) (by rw [hM]; exact fl_X4_60) rfl h
theorem vg_X4_63 (hM : M.1 = RX4) (n : Nat) (hd : decode M.2.1 pc = .ok (.getfield 63, 3)) (hn : pc + 3 = n) (h : V M n ls (.int (w.1 22) :: st) w Q) : V M pc ls (.ref 1 :: st) w Q :=
  v_get (own2 := "") n hd hn (shX4 ) rfl inX4 (by decide : 13 < 24) (by rw [hM]; exact fl_X4_63) rfl h
theorem vg_X4_66 (hM : M.1 = RX4) (n : Nat) (hd : decode M.2.1 pc = .ok (.getfield 66, 3)) (hn : pc + 3 = n) (h : V M n ls (.int (w.1 21) :: st) w Q) : V M pc ls (.ref 1 :: st) w Q :=
  v_get (own2 := "") n hd hn (shX4 ) rfl inX4 (by decide : 12 < 24) (by rw [hM]; exact fl_X4_66) rfl h
theorem vg_X4_75 (hM : M.1 = RX4) (n : Nat) (hd : decode M.2.1 pc = .ok (.getfield 75, 3)) (hn : pc + 3 = n) (h : V M n ls (.int (w.1 18) :: st) w Q) : V M pc ls (.ref 1 :: st) w Q :=
  v_get (own2 := "") n hd hn (shX4 ) rfl inX4 (by decide : 8 < 24) (by rw [hM]; exact fl_X4_75) rfl h
theorem vg_X4_82 (hM : M.1 = RX4) (n : Nat) (hd : decode M.2.1 pc = .ok (.getfield 82, 3)) (hn : pc + 3 = n) (h : V M n ls (.int (w.1 19) :: st) w Q) : V M pc ls (.ref 1 :: st) w Q :=
  v_get (own2 := "") n hd hn (shX4 ) rfl inX4 (by decide : 9 < 24) (by rw [hM]; exact fl_X4_82) rfl h
theorem vg_X4_99 (hM : M.1 = RX4) (n : Nat) (hd : decode M.2.1 pc = .ok (.getfield 99, 3)) (hn : pc + 3 = n) (h : V M n ls (.int (w.1 17) :: st) w Q) : V M pc ls (.ref 1 :: st) w Q :=
  v_get (own2 := "") n hd hn (shX4 ) rfl inX4 (by decide : 1 < 24) (by rw [hM]; exact fl_X4_99) rfl h
theorem vg_X4_102 (hM : M.1 = RX4) (n : Nat) (hd : decode M.2.1 pc = .ok (.getfield 102, 3)) (hn : pc + 3 = n) (h : V M n ls (.int (w.1 23) :: st) w Q) : V M pc ls (.ref 1 :: st) w Q :=
  v_get (own2 := "") n hd hn (shX4 ) rfl inX4 (by decide : 14 < 24) (by rw [hM]; exact fl_X4_102) rfl h
theorem vg_X4_138 (hM : M.1 = RX4) (n : Nat) (hd : decode M.2.1 pc = .ok (.getfield 138, 3)) (hn : pc + 3 = n) (h : V M n ls (.int (w.1 24) :: st) w Q) : V M pc ls (.ref 1 :: st) w Q :=
  v_get (own2 := "") n hd hn (shX4 ) rfl inX4 (by decide : 15 < 24) (by rw [hM]; exact fl_X4_138) rfl h
theorem vg_X4_193 (hM : M.1 = RX4) (n : Nat) (hd : decode M.2.1 pc = .ok (.getfield 193, 3)) (hn : pc + 3 = n) (h : V M n ls (.int (w.1 25) :: st) w Q) : V M pc ls (.ref 1 :: st) w Q :=
  v_get (own2 := "") n hd hn (shX4 ) rfl inX4 (by decide : 17 < 24) (by rw [hM]; exact fl_X4_193) rfl h
theorem vg_X4_214 (hM : M.1 = RX4) (n : Nat) (hd : decode M.2.1 pc = .ok (.getfield 214, 3)) (hn : pc + 3 = n) (h : V M n ls (.long (w.2.1 1) :: st) w Q) : V M pc ls (.ref 1 :: st) w Q :=
  v_get (own2 := "") n hd hn (shX4 ) rfl inX4 (by decide : 21 < 24) (by rw [hM]; exact fl_X4_214) rfl h
theorem vs_X3_58 {x : Int32} (hM : M.1 = RX3) (n : Nat) (hd : decode M.2.1 pc = .ok (.putfield 58, 3)) (hn : pc + 3 = n) (h : V M n ls st (sI w 0 x) Q) : V M pc ls (.int x :: .ref 0 :: st) w Q :=
  v_put (ty := .int) (ty0 := tyX3) n hd hn (shX3 ) (spX3_length ) rfl inX3 tyX3_ok nmX3 (by decide : 1 < 15) (by rw [hM]; exact fl_X3_58) rfl (by decide +kernel) (by simp) (fun _ => rfl) rfl rfl h
theorem vs_X3_70 {x : Int32} (hM : M.1 = RX3) (n : Nat) (hd : decode M.2.1 pc = .ok (.putfield 70, 3)) (hn : pc + 3 = n) (h : V M n ls st (sI w 1 x) Q) : V M pc ls (.int x :: .ref 0 :: st) w Q :=
  v_put (ty := .int) (ty0 := tyX3) n hd hn (shX3 ) (spX3_actCount ) rfl inX3 tyX3_ok nmX3 (by decide : 6 < 15) (by rw [hM]; exact fl_X3_70) rfl (by decide +kernel) (by simp) (fun _ => rfl) rfl rfl h
theorem vs_X3_161 {b : Nat} (hb : b < 2) {x : Int32} (hM : M.1 = RX3) (n : Nat) (hd : decode M.2.1 pc = .ok (.putfield 161, 3)) (hn : pc + 3 = n) (hz : x = 0 ∨ x = 1) (h : V M n ls st (sI w (pj b 3) x) Q) : V M pc ls (.int x :: .ref (pr b) :: st) w Q :=
  v_put (ty := .boolean) (ty0 := tyX1) n hd hn (shX1 hb) (spX1_damp hb) rfl inX1 tyX1_ok nmX1 (by decide : 3 < 12) (by rw [hM]; exact fl_X3_161) rfl (by decide +kernel) (by simp) (fun _ => rfl) (zn hz) (fits_z hz) h
theorem vs_X3_187 {x : Int32} (hM : M.1 = RX3) (n : Nat) (hd : decode M.2.1 pc = .ok (.putfield 187, 3)) (hn : pc + 3 = n) (h : V M n ls st (sI w 2 x) Q) : V M pc ls (.int x :: .ref 0 :: st) w Q :=
  v_put (ty := .int) (ty0 := tyX3) n hd hn (shX3 ) (spX3_seenCount ) rfl inX3 tyX3_ok nmX3 (by decide : 12 < 15) (by rw [hM]; exact fl_X3_187) rfl (by decide +kernel) (by simp) (fun _ => rfl) rfl rfl h
theorem vs_X3_218 {x : Int64} (hM : M.1 = RX3) (n : Nat) (hd : decode M.2.1 pc = .ok (.putfield 218, 3)) (hn : pc + 3 = n) (h : V M n ls st (sJ w 0 x) Q) : V M pc ls (.long x :: .ref 0 :: st) w Q :=
  v_put (ty := .long) (ty0 := tyX3) n hd hn (shX3 ) (spX3_seed ) rfl inX3 tyX3_ok nmX3 (by decide : 14 < 15) (by rw [hM]; exact fl_X3_218) rfl (by decide +kernel) (by simp) (fun _ => rfl) rfl rfl h
theorem vs_X0_51 {b : Nat} (hb : b < 2) {x : Int32} (hM : M.1 = RX0) (n : Nat) (hd : decode M.2.1 pc = .ok (.putfield 51, 3)) (hn : pc + 3 = n) (hz : x = 0 ∨ x = 1) (h : V M n ls st (sI w (pj b 3) x) Q) : V M pc ls (.int x :: .ref (pr b) :: st) w Q :=
  v_put (ty := .boolean) (ty0 := tyX1) n hd hn (shX1 hb) (spX1_damp hb) rfl inX1 tyX1_ok nmX1 (by decide : 3 < 12) (by rw [hM]; exact fl_X0_51) rfl (by decide +kernel) (by simp) (fun _ => rfl) (zn hz) (fits_z hz) h
theorem vs_X0_55 {b : Nat} (hb : b < 2) {x : Int32} (hM : M.1 = RX0) (n : Nat) (hd : decode M.2.1 pc = .ok (.putfield 55, 3)) (hn : pc + 3 = n) (h : V M n ls st (sI w (pj b 2) x) Q) : V M pc ls (.int x :: .ref (pr b) :: st) w Q :=
  v_put (ty := .int) (ty0 := tyX1) n hd hn (shX1 hb) (spX1_week hb) rfl inX1 tyX1_ok nmX1 (by decide : 2 < 12) (by rw [hM]; exact fl_X0_55) rfl (by decide +kernel) (by simp) (fun _ => rfl) rfl rfl h
theorem vs_X1_36 {b : Nat} (hb : b < 2) {x : Int32} (hM : M.1 = RX1) (n : Nat) (hd : decode M.2.1 pc = .ok (.putfield 36, 3)) (hn : pc + 3 = n) (h : V M n ls st (sI w (pj b 0) x) Q) : V M pc ls (.int x :: .ref (pr b) :: st) w Q :=
  v_put (ty := .int) (ty0 := tyX1) n hd hn (shX1 hb) (spX1_stamps hb) rfl inX1 tyX1_ok nmX1 (by decide : 0 < 12) (by rw [hM]; exact fl_X1_36) rfl (by decide +kernel) (by simp) (fun _ => rfl) rfl rfl h
theorem vs_X1_40 {b : Nat} (hb : b < 2) {x : Int32} (hM : M.1 = RX1) (n : Nat) (hd : decode M.2.1 pc = .ok (.putfield 40, 3)) (hn : pc + 3 = n) (h : V M n ls st (sI w (pj b 1) x) Q) : V M pc ls (.int x :: .ref (pr b) :: st) w Q :=
  v_put (ty := .int) (ty0 := tyX1) n hd hn (shX1 hb) (spX1_letters hb) rfl inX1 tyX1_ok nmX1 (by decide : 1 < 12) (by rw [hM]; exact fl_X1_40) rfl (by decide +kernel) (by simp) (fun _ => rfl) rfl rfl h
theorem vs_X1_43 {b : Nat} (hb : b < 2) {x : Int32} (hM : M.1 = RX1) (n : Nat) (hd : decode M.2.1 pc = .ok (.putfield 43, 3)) (hn : pc + 3 = n) (h : V M n ls st (sI w (pj b 2) x) Q) : V M pc ls (.int x :: .ref (pr b) :: st) w Q :=
  v_put (ty := .int) (ty0 := tyX1) n hd hn (shX1 hb) (spX1_week hb) rfl inX1 tyX1_ok nmX1 (by decide : 2 < 12) (by rw [hM]; exact fl_X1_43) rfl (by decide +kernel) (by simp) (fun _ => rfl) rfl rfl h
theorem vs_X1_46 {b : Nat} (hb : b < 2) {x : Int32} (hM : M.1 = RX1) (n : Nat) (hd : decode M.2.1 pc = .ok (.putfield 46, 3)) (hn : pc + 3 = n) (hz : x = 0 ∨ x = 1) (h : V M n ls st (sI w (pj b 3) x) Q) : V M pc ls (.int x :: .ref (pr b) :: st) w Q :=
  v_put (ty := .boolean) (ty0 := tyX1) n hd hn (shX1 hb) (spX1_damp hb) rfl inX1 tyX1_ok nmX1 (by decide : 3 < 12) (by rw [hM]; exact fl_X1_46) rfl (by decide +kernel) (by simp) (fun _ => rfl) (zn hz) (fits_z hz) h
theorem vs_X2_9 {x : Int32} (hM : M.1 = RX2) (n : Nat) (hd : decode M.2.1 pc = .ok (.putfield 9, 3)) (hn : pc + 3 = n) (hz : x = 0 ∨ x = 1) (h : V M n ls st (sI w 3 x) Q) : V M pc ls (.int x :: .ref 2 :: st) w Q :=
  v_put (ty := .boolean) (ty0 := tyX2) n hd hn (shX2 ) (spX2_begun ) rfl inX2 tyX2_ok nmX2 (by decide : 0 < 5) (by rw [hM]; exact fl_X2_9) rfl (by decide +kernel) (by simp) (fun _ => rfl) (zn hz) (fits_z hz) h
theorem vs_X2_15 {x : Int32} (hM : M.1 = RX2) (n : Nat) (hd : decode M.2.1 pc = .ok (.putfield 15, 3)) (hn : pc + 3 = n) (h : V M n ls st (sI w 4 x) Q) : V M pc ls (.int x :: .ref 2 :: st) w Q :=
  v_put (ty := .int) (ty0 := tyX2) n hd hn (shX2 ) (spX2_part ) rfl inX2 tyX2_ok nmX2 (by decide : 1 < 5) (by rw [hM]; exact fl_X2_15) rfl (by decide +kernel) (by simp) (fun _ => rfl) rfl rfl h
theorem vs_X2_44 {x : Int32} (hM : M.1 = RX2) (n : Nat) (hd : decode M.2.1 pc = .ok (.putfield 44, 3)) (hn : pc + 3 = n) (h : V M n ls st (sI w 5 x) Q) : V M pc ls (.int x :: .ref 2 :: st) w Q :=
  v_put (ty := .int) (ty0 := tyX2) n hd hn (shX2 ) (spX2_figures ) rfl inX2 tyX2_ok nmX2 (by decide : 2 < 5) (by rw [hM]; exact fl_X2_44) rfl (by decide +kernel) (by simp) (fun _ => rfl) rfl rfl h
theorem vs_X2_51 {x : Int32} (hM : M.1 = RX2) (n : Nat) (hd : decode M.2.1 pc = .ok (.putfield 51, 3)) (hn : pc + 3 = n) (h : V M n ls st (sI w 6 x) Q) : V M pc ls (.int x :: .ref 2 :: st) w Q :=
  v_put (ty := .int) (ty0 := tyX2) n hd hn (shX2 ) (spX2_first ) rfl inX2 tyX2_ok nmX2 (by decide : 3 < 5) (by rw [hM]; exact fl_X2_51) rfl (by decide +kernel) (by simp) (fun _ => rfl) rfl rfl h
theorem vs_X2_54 {x : Int32} (hM : M.1 = RX2) (n : Nat) (hd : decode M.2.1 pc = .ok (.putfield 54, 3)) (hn : pc + 3 = n) (h : V M n ls st (sI w 7 x) Q) : V M pc ls (.int x :: .ref 2 :: st) w Q :=
  v_put (ty := .int) (ty0 := tyX2) n hd hn (shX2 ) (spX2_second ) rfl inX2 tyX2_ok nmX2 (by decide : 4 < 5) (by rw [hM]; exact fl_X2_54) rfl (by decide +kernel) (by simp) (fun _ => rfl) rfl rfl h
theorem vs_X4_50 {x : Int32} (hM : M.1 = RX4) (n : Nat) (hd : decode M.2.1 pc = .ok (.putfield 50, 3)) (hn : pc + 3 = n) (h : V M n ls st (sI w 16 x) Q) : V M pc ls (.int x :: .ref 1 :: st) w Q :=
  v_put (ty := .int) (ty0 := tyX4) n hd hn (shX4 ) (spX4_stamps ) rfl inX4 tyX4_ok nmX4 (by decide : 0 < 24) (by rw [hM]; exact fl_X4_50) rfl (by decide +kernel) (by simp) (fun _ => rfl) rfl rfl h
theorem vs_X4_60 {x : Int32} (hM : M.1 = RX4) (n : Nat) (hd : decode M.2.1 pc = .ok (.putfield 60, 3)) (hn : pc + 3 = n) (h : V M n ls st (sI w 20 x) Q) : V M pc ls (.int x :: .ref 1 :: st) w Q :=
  v_put (ty := .int) (ty0 := tyX4) n hd hn (shX4 ) (spX4_length ) rfl inX4 tyX4_ok nmX4 (by decide : 11 < 24) (by rw [hM]; exact fl_X4_60) rfl (by decide +kernel) (by simp) (fun _ => rfl) rfl rfl h
theorem vs_X4_63 {x : Int32} (hM : M.1 = RX4) (n : Nat) (hd : decode M.2.1 pc = .ok (.putfield 63, 3)) (hn : pc + 3 = n) (h : V M n ls st (sI w 22 x) Q) : V M pc ls (.int x :: .ref 1 :: st) w Q :=
  v_put (ty := .int) (ty0 := tyX4) n hd hn (shX4 ) (spX4_faultAt ) rfl inX4 tyX4_ok nmX4 (by decide : 13 < 24) (by rw [hM]; exact fl_X4_63) rfl (by decide +kernel) (by simp) (fun _ => rfl) rfl rfl h
theorem vs_X4_66 {x : Int32} (hM : M.1 = RX4) (n : Nat) (hd : decode M.2.1 pc = .ok (.putfield 66, 3)) (hn : pc + 3 = n) (h : V M n ls st (sI w 21 x) Q) : V M pc ls (.int x :: .ref 1 :: st) w Q :=
  v_put (ty := .int) (ty0 := tyX4) n hd hn (shX4 ) (spX4_at ) rfl inX4 tyX4_ok nmX4 (by decide : 12 < 24) (by rw [hM]; exact fl_X4_66) rfl (by decide +kernel) (by simp) (fun _ => rfl) rfl rfl h
theorem vs_X4_75 {x : Int32} (hM : M.1 = RX4) (n : Nat) (hd : decode M.2.1 pc = .ok (.putfield 75, 3)) (hn : pc + 3 = n) (h : V M n ls st (sI w 18 x) Q) : V M pc ls (.int x :: .ref 1 :: st) w Q :=
  v_put (ty := .int) (ty0 := tyX4) n hd hn (shX4 ) (spX4_readStamps ) rfl inX4 tyX4_ok nmX4 (by decide : 8 < 24) (by rw [hM]; exact fl_X4_75) rfl (by decide +kernel) (by simp) (fun _ => rfl) rfl rfl h
theorem vs_X4_82 {x : Int32} (hM : M.1 = RX4) (n : Nat) (hd : decode M.2.1 pc = .ok (.putfield 82, 3)) (hn : pc + 3 = n) (h : V M n ls st (sI w 19 x) Q) : V M pc ls (.int x :: .ref 1 :: st) w Q :=
  v_put (ty := .int) (ty0 := tyX4) n hd hn (shX4 ) (spX4_readLetters ) rfl inX4 tyX4_ok nmX4 (by decide : 9 < 24) (by rw [hM]; exact fl_X4_82) rfl (by decide +kernel) (by simp) (fun _ => rfl) rfl rfl h
theorem vs_X4_99 {x : Int32} (hM : M.1 = RX4) (n : Nat) (hd : decode M.2.1 pc = .ok (.putfield 99, 3)) (hn : pc + 3 = n) (h : V M n ls st (sI w 17 x) Q) : V M pc ls (.int x :: .ref 1 :: st) w Q :=
  v_put (ty := .int) (ty0 := tyX4) n hd hn (shX4 ) (spX4_letters ) rfl inX4 tyX4_ok nmX4 (by decide : 1 < 24) (by rw [hM]; exact fl_X4_99) rfl (by decide +kernel) (by simp) (fun _ => rfl) rfl rfl h
theorem vs_X4_102 {x : Int32} (hM : M.1 = RX4) (n : Nat) (hd : decode M.2.1 pc = .ok (.putfield 102, 3)) (hn : pc + 3 = n) (h : V M n ls st (sI w 23 x) Q) : V M pc ls (.int x :: .ref 1 :: st) w Q :=
  v_put (ty := .int) (ty0 := tyX4) n hd hn (shX4 ) (spX4_acts ) rfl inX4 tyX4_ok nmX4 (by decide : 14 < 24) (by rw [hM]; exact fl_X4_102) rfl (by decide +kernel) (by simp) (fun _ => rfl) rfl rfl h
theorem vs_X4_138 {x : Int32} (hM : M.1 = RX4) (n : Nat) (hd : decode M.2.1 pc = .ok (.putfield 138, 3)) (hn : pc + 3 = n) (h : V M n ls st (sI w 24 x) Q) : V M pc ls (.int x :: .ref 1 :: st) w Q :=
  v_put (ty := .int) (ty0 := tyX4) n hd hn (shX4 ) (spX4_next ) rfl inX4 tyX4_ok nmX4 (by decide : 15 < 24) (by rw [hM]; exact fl_X4_138) rfl (by decide +kernel) (by simp) (fun _ => rfl) rfl rfl h
theorem vs_X4_193 {x : Int32} (hM : M.1 = RX4) (n : Nat) (hd : decode M.2.1 pc = .ok (.putfield 193, 3)) (hn : pc + 3 = n) (h : V M n ls st (sI w 25 x) Q) : V M pc ls (.int x :: .ref 1 :: st) w Q :=
  v_put (ty := .int) (ty0 := tyX4) n hd hn (shX4 ) (spX4_seen ) rfl inX4 tyX4_ok nmX4 (by decide : 17 < 24) (by rw [hM]; exact fl_X4_193) rfl (by decide +kernel) (by simp) (fun _ => rfl) rfl rfl h
theorem vs_X4_214 {x : Int64} (hM : M.1 = RX4) (n : Nat) (hd : decode M.2.1 pc = .ok (.putfield 214, 3)) (hn : pc + 3 = n) (h : V M n ls st (sJ w 1 x) Q) : V M pc ls (.long x :: .ref 1 :: st) w Q :=
  v_put (ty := .long) (ty0 := tyX4) n hd hn (shX4 ) (spX4_seed ) rfl inX4 tyX4_ok nmX4 (by decide : 21 < 24) (by rw [hM]; exact fl_X4_214) rfl (by decide +kernel) (by simp) (fun _ => rfl) rfl rfl h
theorem vl_X3_text {i : Int32} (k n : Nat) (hd : decode M.2.1 pc = .ok (.iaload, 1)) (hn : pc + 1 = n) (hi : i = nI k) (hk : k < 48) (h : V M n ls (.int (w.2.2 25 k) :: st) w Q) : V M pc ls (.int i :: .ref 25 :: st) w Q := by
  have hc : k < 2 ^ 31 := (by have := hk; omega)
  subst hi
  exact v_iald n hd hn (saX3_text ) (vp_in_nI hk (by omega)) (by rw [nI_clamp hc]; exact h)
theorem vw_X3_text {i x : Int32} (k n : Nat) (hd : decode M.2.1 pc = .ok (.iastore, 1)) (hn : pc + 1 = n) (hi : i = nI k) (hk : k < 48) (h : V M n ls st (sA w 25 (upd (w.2.2 25) k x)) Q) : V M pc ls (.int x :: .int i :: .ref 25 :: st) w Q := by
  have hc : k < 2 ^ 31 := (by have := hk; omega)
  subst hi
  exact v_iast n hd hn (saX3_text ) (fun kI kZ => suX3_text  kI kZ) (vp_in_nI hk (by omega)) (by rw [nI_clamp hc]; exact h)
theorem vl_X3_slotUsed {i : Int32} (k n : Nat) (hd : decode M.2.1 pc = .ok (.baload, 1)) (hn : pc + 1 = n) (hi : i = nI k) (hk : k < 2) (h : V M n ls (.int (w.2.2 26 k) :: st) w Q) : V M pc ls (.int i :: .ref 26 :: st) w Q := by
  have hc : k < 2 ^ 31 := (by have := hk; omega)
  subst hi
  exact v_zald n hd hn (saX3_slotUsed ) (vp_in_nI hk (by omega)) (by rw [nI_clamp hc]; exact h)
theorem vw_X3_slotUsed {i x : Int32} (k n : Nat) (hd : decode M.2.1 pc = .ok (.bastore, 1)) (hn : pc + 1 = n) (hi : i = nI k) (hk : k < 2) (hz : x = 0 ∨ x = 1) (h : V M n ls st (sA w 26 (upd (w.2.2 26) k x)) Q) : V M pc ls (.int x :: .int i :: .ref 26 :: st) w Q := by
  have hc : k < 2 ^ 31 := (by have := hk; omega)
  subst hi
  exact v_zast n hd hn (saX3_slotUsed ) (fun kI kZ => suX3_slotUsed  kI kZ) (vp_in_nI hk (by omega)) (by rw [nI_clamp hc, zv hz]; exact h)
theorem vl_X3_seenStamp {i : Int32} (k n : Nat) (hd : decode M.2.1 pc = .ok (.iaload, 1)) (hn : pc + 1 = n) (hi : i = nI k) (hk : k < 6) (h : V M n ls (.int (w.2.2 27 k) :: st) w Q) : V M pc ls (.int i :: .ref 27 :: st) w Q := by
  have hc : k < 2 ^ 31 := (by have := hk; omega)
  subst hi
  exact v_iald n hd hn (saX3_seenStamp ) (vp_in_nI hk (by omega)) (by rw [nI_clamp hc]; exact h)
theorem vw_X3_seenStamp {i x : Int32} (k n : Nat) (hd : decode M.2.1 pc = .ok (.iastore, 1)) (hn : pc + 1 = n) (hi : i = nI k) (hk : k < 6) (h : V M n ls st (sA w 27 (upd (w.2.2 27) k x)) Q) : V M pc ls (.int x :: .int i :: .ref 27 :: st) w Q := by
  have hc : k < 2 ^ 31 := (by have := hk; omega)
  subst hi
  exact v_iast n hd hn (saX3_seenStamp ) (fun kI kZ => suX3_seenStamp  kI kZ) (vp_in_nI hk (by omega)) (by rw [nI_clamp hc]; exact h)
theorem vl_X3_seenWeeks {i : Int32} (k n : Nat) (hd : decode M.2.1 pc = .ok (.iaload, 1)) (hn : pc + 1 = n) (hi : i = nI k) (hk : k < 6) (h : V M n ls (.int (w.2.2 28 k) :: st) w Q) : V M pc ls (.int i :: .ref 28 :: st) w Q := by
  have hc : k < 2 ^ 31 := (by have := hk; omega)
  subst hi
  exact v_iald n hd hn (saX3_seenWeeks ) (vp_in_nI hk (by omega)) (by rw [nI_clamp hc]; exact h)
theorem vw_X3_seenWeeks {i x : Int32} (k n : Nat) (hd : decode M.2.1 pc = .ok (.iastore, 1)) (hn : pc + 1 = n) (hi : i = nI k) (hk : k < 6) (h : V M n ls st (sA w 28 (upd (w.2.2 28) k x)) Q) : V M pc ls (.int x :: .int i :: .ref 28 :: st) w Q := by
  have hc : k < 2 ^ 31 := (by have := hk; omega)
  subst hi
  exact v_iast n hd hn (saX3_seenWeeks ) (fun kI kZ => suX3_seenWeeks  kI kZ) (vp_in_nI hk (by omega)) (by rw [nI_clamp hc]; exact h)
theorem vl_X3_seenAlive {i : Int32} (k n : Nat) (hd : decode M.2.1 pc = .ok (.baload, 1)) (hn : pc + 1 = n) (hi : i = nI k) (hk : k < 6) (h : V M n ls (.int (w.2.2 29 k) :: st) w Q) : V M pc ls (.int i :: .ref 29 :: st) w Q := by
  have hc : k < 2 ^ 31 := (by have := hk; omega)
  subst hi
  exact v_zald n hd hn (saX3_seenAlive ) (vp_in_nI hk (by omega)) (by rw [nI_clamp hc]; exact h)
theorem vw_X3_seenAlive {i x : Int32} (k n : Nat) (hd : decode M.2.1 pc = .ok (.bastore, 1)) (hn : pc + 1 = n) (hi : i = nI k) (hk : k < 6) (hz : x = 0 ∨ x = 1) (h : V M n ls st (sA w 29 (upd (w.2.2 29) k x)) Q) : V M pc ls (.int x :: .int i :: .ref 29 :: st) w Q := by
  have hc : k < 2 ^ 31 := (by have := hk; omega)
  subst hi
  exact v_zast n hd hn (saX3_seenAlive ) (fun kI kZ => suX3_seenAlive  kI kZ) (vp_in_nI hk (by omega)) (by rw [nI_clamp hc, zv hz]; exact h)
theorem vl_X3_doings {i : Int32} (k n : Nat) (hd : decode M.2.1 pc = .ok (.iaload, 1)) (hn : pc + 1 = n) (hi : i = nI k) (hk : k < 4) (h : V M n ls (.int (w.2.2 30 k) :: st) w Q) : V M pc ls (.int i :: .ref 30 :: st) w Q := by
  have hc : k < 2 ^ 31 := (by have := hk; omega)
  subst hi
  exact v_iald n hd hn (saX3_doings ) (vp_in_nI hk (by omega)) (by rw [nI_clamp hc]; exact h)
theorem vw_X3_doings {i x : Int32} (k n : Nat) (hd : decode M.2.1 pc = .ok (.iastore, 1)) (hn : pc + 1 = n) (hi : i = nI k) (hk : k < 4) (h : V M n ls st (sA w 30 (upd (w.2.2 30) k x)) Q) : V M pc ls (.int x :: .int i :: .ref 30 :: st) w Q := by
  have hc : k < 2 ^ 31 := (by have := hk; omega)
  subst hi
  exact v_iast n hd hn (saX3_doings ) (fun kI kZ => suX3_doings  kI kZ) (vp_in_nI hk (by omega)) (by rw [nI_clamp hc]; exact h)
theorem vl_X1_age {b : Nat} (hb : b < 2) {i : Int32} (k n : Nat) (hd : decode M.2.1 pc = .ok (.iaload, 1)) (hn : pc + 1 = n) (hi : i = nI k) (hk : k < 5) (h : V M n ls (.int (px w b 0 k) :: st) w Q) : V M pc ls (.int i :: .ref (ar b 0) :: st) w Q := by
  have hc : k < 2 ^ 31 := (by have := hk; omega)
  subst hi
  exact v_iald n hd hn (saX1_age hb) (vp_in_nI hk (by omega)) (by rw [nI_clamp hc]; exact h)
theorem vw_X1_age {b : Nat} (hb : b < 2) {i x : Int32} (k n : Nat) (hd : decode M.2.1 pc = .ok (.iastore, 1)) (hn : pc + 1 = n) (hi : i = nI k) (hk : k < 5) (h : V M n ls st (sA w (ar b 0) (upd (px w b 0) k x)) Q) : V M pc ls (.int x :: .int i :: .ref (ar b 0) :: st) w Q := by
  have hc : k < 2 ^ 31 := (by have := hk; omega)
  subst hi
  exact v_iast n hd hn (saX1_age hb) (fun kI kZ => suX1_age hb kI kZ) (vp_in_nI hk (by omega)) (by rw [nI_clamp hc]; exact h)
theorem vl_X1_health {b : Nat} (hb : b < 2) {i : Int32} (k n : Nat) (hd : decode M.2.1 pc = .ok (.iaload, 1)) (hn : pc + 1 = n) (hi : i = nI k) (hk : k < 5) (h : V M n ls (.int (px w b 1 k) :: st) w Q) : V M pc ls (.int i :: .ref (ar b 1) :: st) w Q := by
  have hc : k < 2 ^ 31 := (by have := hk; omega)
  subst hi
  exact v_iald n hd hn (saX1_health hb) (vp_in_nI hk (by omega)) (by rw [nI_clamp hc]; exact h)
theorem vw_X1_health {b : Nat} (hb : b < 2) {i x : Int32} (k n : Nat) (hd : decode M.2.1 pc = .ok (.iastore, 1)) (hn : pc + 1 = n) (hi : i = nI k) (hk : k < 5) (h : V M n ls st (sA w (ar b 1) (upd (px w b 1) k x)) Q) : V M pc ls (.int x :: .int i :: .ref (ar b 1) :: st) w Q := by
  have hc : k < 2 ^ 31 := (by have := hk; omega)
  subst hi
  exact v_iast n hd hn (saX1_health hb) (fun kI kZ => suX1_health hb kI kZ) (vp_in_nI hk (by omega)) (by rw [nI_clamp hc]; exact h)
theorem vl_X1_kind {b : Nat} (hb : b < 2) {i : Int32} (k n : Nat) (hd : decode M.2.1 pc = .ok (.iaload, 1)) (hn : pc + 1 = n) (hi : i = nI k) (hk : k < 5) (h : V M n ls (.int (px w b 2 k) :: st) w Q) : V M pc ls (.int i :: .ref (ar b 2) :: st) w Q := by
  have hc : k < 2 ^ 31 := (by have := hk; omega)
  subst hi
  exact v_iald n hd hn (saX1_kind hb) (vp_in_nI hk (by omega)) (by rw [nI_clamp hc]; exact h)
theorem vw_X1_kind {b : Nat} (hb : b < 2) {i x : Int32} (k n : Nat) (hd : decode M.2.1 pc = .ok (.iastore, 1)) (hn : pc + 1 = n) (hi : i = nI k) (hk : k < 5) (h : V M n ls st (sA w (ar b 2) (upd (px w b 2) k x)) Q) : V M pc ls (.int x :: .int i :: .ref (ar b 2) :: st) w Q := by
  have hc : k < 2 ^ 31 := (by have := hk; omega)
  subst hi
  exact v_iast n hd hn (saX1_kind hb) (fun kI kZ => suX1_kind hb kI kZ) (vp_in_nI hk (by omega)) (by rw [nI_clamp hc]; exact h)
theorem vl_X1_joined {b : Nat} (hb : b < 2) {i : Int32} (k n : Nat) (hd : decode M.2.1 pc = .ok (.iaload, 1)) (hn : pc + 1 = n) (hi : i = nI k) (hk : k < 5) (h : V M n ls (.int (px w b 3 k) :: st) w Q) : V M pc ls (.int i :: .ref (ar b 3) :: st) w Q := by
  have hc : k < 2 ^ 31 := (by have := hk; omega)
  subst hi
  exact v_iald n hd hn (saX1_joined hb) (vp_in_nI hk (by omega)) (by rw [nI_clamp hc]; exact h)
theorem vw_X1_joined {b : Nat} (hb : b < 2) {i x : Int32} (k n : Nat) (hd : decode M.2.1 pc = .ok (.iastore, 1)) (hn : pc + 1 = n) (hi : i = nI k) (hk : k < 5) (h : V M n ls st (sA w (ar b 3) (upd (px w b 3) k x)) Q) : V M pc ls (.int x :: .int i :: .ref (ar b 3) :: st) w Q := by
  have hc : k < 2 ^ 31 := (by have := hk; omega)
  subst hi
  exact v_iast n hd hn (saX1_joined hb) (fun kI kZ => suX1_joined hb kI kZ) (vp_in_nI hk (by omega)) (by rw [nI_clamp hc]; exact h)
theorem vl_X1_on {b : Nat} (hb : b < 2) {i : Int32} (k n : Nat) (hd : decode M.2.1 pc = .ok (.iaload, 1)) (hn : pc + 1 = n) (hi : i = nI k) (hk : k < 5) (h : V M n ls (.int (px w b 4 k) :: st) w Q) : V M pc ls (.int i :: .ref (ar b 4) :: st) w Q := by
  have hc : k < 2 ^ 31 := (by have := hk; omega)
  subst hi
  exact v_iald n hd hn (saX1_on hb) (vp_in_nI hk (by omega)) (by rw [nI_clamp hc]; exact h)
theorem vw_X1_on {b : Nat} (hb : b < 2) {i x : Int32} (k n : Nat) (hd : decode M.2.1 pc = .ok (.iastore, 1)) (hn : pc + 1 = n) (hi : i = nI k) (hk : k < 5) (h : V M n ls st (sA w (ar b 4) (upd (px w b 4) k x)) Q) : V M pc ls (.int x :: .int i :: .ref (ar b 4) :: st) w Q := by
  have hc : k < 2 ^ 31 := (by have := hk; omega)
  subst hi
  exact v_iast n hd hn (saX1_on hb) (fun kI kZ => suX1_on hb kI kZ) (vp_in_nI hk (by omega)) (by rw [nI_clamp hc]; exact h)
theorem vl_X1_left {b : Nat} (hb : b < 2) {i : Int32} (k n : Nat) (hd : decode M.2.1 pc = .ok (.iaload, 1)) (hn : pc + 1 = n) (hi : i = nI k) (hk : k < 4) (h : V M n ls (.int (px w b 5 k) :: st) w Q) : V M pc ls (.int i :: .ref (ar b 5) :: st) w Q := by
  have hc : k < 2 ^ 31 := (by have := hk; omega)
  subst hi
  exact v_iald n hd hn (saX1_left hb) (vp_in_nI hk (by omega)) (by rw [nI_clamp hc]; exact h)
theorem vw_X1_left {b : Nat} (hb : b < 2) {i x : Int32} (k n : Nat) (hd : decode M.2.1 pc = .ok (.iastore, 1)) (hn : pc + 1 = n) (hi : i = nI k) (hk : k < 4) (h : V M n ls st (sA w (ar b 5) (upd (px w b 5) k x)) Q) : V M pc ls (.int x :: .int i :: .ref (ar b 5) :: st) w Q := by
  have hc : k < 2 ^ 31 := (by have := hk; omega)
  subst hi
  exact v_iast n hd hn (saX1_left hb) (fun kI kZ => suX1_left hb kI kZ) (vp_in_nI hk (by omega)) (by rw [nI_clamp hc]; exact h)
theorem vl_X1_cost {b : Nat} (hb : b < 2) {i : Int32} (k n : Nat) (hd : decode M.2.1 pc = .ok (.iaload, 1)) (hn : pc + 1 = n) (hi : i = nI k) (hk : k < 4) (h : V M n ls (.int (px w b 6 k) :: st) w Q) : V M pc ls (.int i :: .ref (ar b 6) :: st) w Q := by
  have hc : k < 2 ^ 31 := (by have := hk; omega)
  subst hi
  exact v_iald n hd hn (saX1_cost hb) (vp_in_nI hk (by omega)) (by rw [nI_clamp hc]; exact h)
theorem vw_X1_cost {b : Nat} (hb : b < 2) {i x : Int32} (k n : Nat) (hd : decode M.2.1 pc = .ok (.iastore, 1)) (hn : pc + 1 = n) (hi : i = nI k) (hk : k < 4) (h : V M n ls st (sA w (ar b 6) (upd (px w b 6) k x)) Q) : V M pc ls (.int x :: .int i :: .ref (ar b 6) :: st) w Q := by
  have hc : k < 2 ^ 31 := (by have := hk; omega)
  subst hi
  exact v_iast n hd hn (saX1_cost hb) (fun kI kZ => suX1_cost hb kI kZ) (vp_in_nI hk (by omega)) (by rw [nI_clamp hc]; exact h)
theorem vl_X1_fate {b : Nat} (hb : b < 2) {i : Int32} (k n : Nat) (hd : decode M.2.1 pc = .ok (.iaload, 1)) (hn : pc + 1 = n) (hi : i = nI k) (hk : k < 4) (h : V M n ls (.int (px w b 7 k) :: st) w Q) : V M pc ls (.int i :: .ref (ar b 7) :: st) w Q := by
  have hc : k < 2 ^ 31 := (by have := hk; omega)
  subst hi
  exact v_iald n hd hn (saX1_fate hb) (vp_in_nI hk (by omega)) (by rw [nI_clamp hc]; exact h)
theorem vw_X1_fate {b : Nat} (hb : b < 2) {i x : Int32} (k n : Nat) (hd : decode M.2.1 pc = .ok (.iastore, 1)) (hn : pc + 1 = n) (hi : i = nI k) (hk : k < 4) (h : V M n ls st (sA w (ar b 7) (upd (px w b 7) k x)) Q) : V M pc ls (.int x :: .int i :: .ref (ar b 7) :: st) w Q := by
  have hc : k < 2 ^ 31 := (by have := hk; omega)
  subst hi
  exact v_iast n hd hn (saX1_fate hb) (fun kI kZ => suX1_fate hb kI kZ) (vp_in_nI hk (by omega)) (by rw [nI_clamp hc]; exact h)
theorem vl_X4_kind {i : Int32} (k n : Nat) (hd : decode M.2.1 pc = .ok (.iaload, 1)) (hn : pc + 1 = n) (hi : i = nI k) (hk : k < 5) (h : V M n ls (.int (w.2.2 31 k) :: st) w Q) : V M pc ls (.int i :: .ref 31 :: st) w Q := by
  have hc : k < 2 ^ 31 := (by have := hk; omega)
  subst hi
  exact v_iald n hd hn (saX4_kind ) (vp_in_nI hk (by omega)) (by rw [nI_clamp hc]; exact h)
theorem vw_X4_kind {i x : Int32} (k n : Nat) (hd : decode M.2.1 pc = .ok (.iastore, 1)) (hn : pc + 1 = n) (hi : i = nI k) (hk : k < 5) (h : V M n ls st (sA w 31 (upd (w.2.2 31) k x)) Q) : V M pc ls (.int x :: .int i :: .ref 31 :: st) w Q := by
  have hc : k < 2 ^ 31 := (by have := hk; omega)
  subst hi
  exact v_iast n hd hn (saX4_kind ) (fun kI kZ => suX4_kind  kI kZ) (vp_in_nI hk (by omega)) (by rw [nI_clamp hc]; exact h)
theorem vl_X4_cost {i : Int32} (k n : Nat) (hd : decode M.2.1 pc = .ok (.iaload, 1)) (hn : pc + 1 = n) (hi : i = nI k) (hk : k < 4) (h : V M n ls (.int (w.2.2 32 k) :: st) w Q) : V M pc ls (.int i :: .ref 32 :: st) w Q := by
  have hc : k < 2 ^ 31 := (by have := hk; omega)
  subst hi
  exact v_iald n hd hn (saX4_cost ) (vp_in_nI hk (by omega)) (by rw [nI_clamp hc]; exact h)
theorem vw_X4_cost {i x : Int32} (k n : Nat) (hd : decode M.2.1 pc = .ok (.iastore, 1)) (hn : pc + 1 = n) (hi : i = nI k) (hk : k < 4) (h : V M n ls st (sA w 32 (upd (w.2.2 32) k x)) Q) : V M pc ls (.int x :: .int i :: .ref 32 :: st) w Q := by
  have hc : k < 2 ^ 31 := (by have := hk; omega)
  subst hi
  exact v_iast n hd hn (saX4_cost ) (fun kI kZ => suX4_cost  kI kZ) (vp_in_nI hk (by omega)) (by rw [nI_clamp hc]; exact h)
theorem vl_X4_now {i : Int32} (k n : Nat) (hd : decode M.2.1 pc = .ok (.iaload, 1)) (hn : pc + 1 = n) (hi : i = nI k) (hk : k < 60) (h : V M n ls (.int (w.2.2 33 k) :: st) w Q) : V M pc ls (.int i :: .ref 33 :: st) w Q := by
  have hc : k < 2 ^ 31 := (by have := hk; omega)
  subst hi
  exact v_iald n hd hn (saX4_now ) (vp_in_nI hk (by omega)) (by rw [nI_clamp hc]; exact h)
theorem vw_X4_now {i x : Int32} (k n : Nat) (hd : decode M.2.1 pc = .ok (.iastore, 1)) (hn : pc + 1 = n) (hi : i = nI k) (hk : k < 60) (h : V M n ls st (sA w 33 (upd (w.2.2 33) k x)) Q) : V M pc ls (.int x :: .int i :: .ref 33 :: st) w Q := by
  have hc : k < 2 ^ 31 := (by have := hk; omega)
  subst hi
  exact v_iast n hd hn (saX4_now ) (fun kI kZ => suX4_now  kI kZ) (vp_in_nI hk (by omega)) (by rw [nI_clamp hc]; exact h)
theorem vl_X4_readStamp {i : Int32} (k n : Nat) (hd : decode M.2.1 pc = .ok (.iaload, 1)) (hn : pc + 1 = n) (hi : i = nI k) (hk : k < 15) (h : V M n ls (.int (w.2.2 34 k) :: st) w Q) : V M pc ls (.int i :: .ref 34 :: st) w Q := by
  have hc : k < 2 ^ 31 := (by have := hk; omega)
  subst hi
  exact v_iald n hd hn (saX4_readStamp ) (vp_in_nI hk (by omega)) (by rw [nI_clamp hc]; exact h)
theorem vw_X4_readStamp {i x : Int32} (k n : Nat) (hd : decode M.2.1 pc = .ok (.iastore, 1)) (hn : pc + 1 = n) (hi : i = nI k) (hk : k < 15) (h : V M n ls st (sA w 34 (upd (w.2.2 34) k x)) Q) : V M pc ls (.int x :: .int i :: .ref 34 :: st) w Q := by
  have hc : k < 2 ^ 31 := (by have := hk; omega)
  subst hi
  exact v_iast n hd hn (saX4_readStamp ) (fun kI kZ => suX4_readStamp  kI kZ) (vp_in_nI hk (by omega)) (by rw [nI_clamp hc]; exact h)
theorem vl_X4_readJoined {i : Int32} (k n : Nat) (hd : decode M.2.1 pc = .ok (.iaload, 1)) (hn : pc + 1 = n) (hi : i = nI k) (hk : k < 5) (h : V M n ls (.int (w.2.2 35 k) :: st) w Q) : V M pc ls (.int i :: .ref 35 :: st) w Q := by
  have hc : k < 2 ^ 31 := (by have := hk; omega)
  subst hi
  exact v_iald n hd hn (saX4_readJoined ) (vp_in_nI hk (by omega)) (by rw [nI_clamp hc]; exact h)
theorem vw_X4_readJoined {i x : Int32} (k n : Nat) (hd : decode M.2.1 pc = .ok (.iastore, 1)) (hn : pc + 1 = n) (hi : i = nI k) (hk : k < 5) (h : V M n ls st (sA w 35 (upd (w.2.2 35) k x)) Q) : V M pc ls (.int x :: .int i :: .ref 35 :: st) w Q := by
  have hc : k < 2 ^ 31 := (by have := hk; omega)
  subst hi
  exact v_iast n hd hn (saX4_readJoined ) (fun kI kZ => suX4_readJoined  kI kZ) (vp_in_nI hk (by omega)) (by rw [nI_clamp hc]; exact h)
theorem vl_X4_readLetter {i : Int32} (k n : Nat) (hd : decode M.2.1 pc = .ok (.iaload, 1)) (hn : pc + 1 = n) (hi : i = nI k) (hk : k < 8) (h : V M n ls (.int (w.2.2 36 k) :: st) w Q) : V M pc ls (.int i :: .ref 36 :: st) w Q := by
  have hc : k < 2 ^ 31 := (by have := hk; omega)
  subst hi
  exact v_iald n hd hn (saX4_readLetter ) (vp_in_nI hk (by omega)) (by rw [nI_clamp hc]; exact h)
theorem vw_X4_readLetter {i x : Int32} (k n : Nat) (hd : decode M.2.1 pc = .ok (.iastore, 1)) (hn : pc + 1 = n) (hi : i = nI k) (hk : k < 8) (h : V M n ls st (sA w 36 (upd (w.2.2 36) k x)) Q) : V M pc ls (.int x :: .int i :: .ref 36 :: st) w Q := by
  have hc : k < 2 ^ 31 := (by have := hk; omega)
  subst hi
  exact v_iast n hd hn (saX4_readLetter ) (fun kI kZ => suX4_readLetter  kI kZ) (vp_in_nI hk (by omega)) (by rw [nI_clamp hc]; exact h)
theorem vl_X4_text {i : Int32} (k n : Nat) (hd : decode M.2.1 pc = .ok (.iaload, 1)) (hn : pc + 1 = n) (hi : i = nI k) (hk : k < 48) (h : V M n ls (.int (w.2.2 37 k) :: st) w Q) : V M pc ls (.int i :: .ref 37 :: st) w Q := by
  have hc : k < 2 ^ 31 := (by have := hk; omega)
  subst hi
  exact v_iald n hd hn (saX4_text ) (vp_in_nI hk (by omega)) (by rw [nI_clamp hc]; exact h)
theorem vw_X4_text {i x : Int32} (k n : Nat) (hd : decode M.2.1 pc = .ok (.iastore, 1)) (hn : pc + 1 = n) (hi : i = nI k) (hk : k < 48) (h : V M n ls st (sA w 37 (upd (w.2.2 37) k x)) Q) : V M pc ls (.int x :: .int i :: .ref 37 :: st) w Q := by
  have hc : k < 2 ^ 31 := (by have := hk; omega)
  subst hi
  exact v_iast n hd hn (saX4_text ) (fun kI kZ => suX4_text  kI kZ) (vp_in_nI hk (by omega)) (by rw [nI_clamp hc]; exact h)
theorem vl_X4_row {i : Int32} (k n : Nat) (hd : decode M.2.1 pc = .ok (.iaload, 1)) (hn : pc + 1 = n) (hi : i = nI k) (hk : k < 420) (h : V M n ls (.int (w.2.2 38 k) :: st) w Q) : V M pc ls (.int i :: .ref 38 :: st) w Q := by
  have hc : k < 2 ^ 31 := (by have := hk; omega)
  subst hi
  exact v_iald n hd hn (saX4_row ) (vp_in_nI hk (by omega)) (by rw [nI_clamp hc]; exact h)
theorem vw_X4_row {i x : Int32} (k n : Nat) (hd : decode M.2.1 pc = .ok (.iastore, 1)) (hn : pc + 1 = n) (hi : i = nI k) (hk : k < 420) (h : V M n ls st (sA w 38 (upd (w.2.2 38) k x)) Q) : V M pc ls (.int x :: .int i :: .ref 38 :: st) w Q := by
  have hc : k < 2 ^ 31 := (by have := hk; omega)
  subst hi
  exact v_iast n hd hn (saX4_row ) (fun kI kZ => suX4_row  kI kZ) (vp_in_nI hk (by omega)) (by rw [nI_clamp hc]; exact h)
theorem vl_X4_seenOf {i : Int32} (k n : Nat) (hd : decode M.2.1 pc = .ok (.iaload, 1)) (hn : pc + 1 = n) (hi : i = nI k) (hk : k < 6) (h : V M n ls (.int (w.2.2 39 k) :: st) w Q) : V M pc ls (.int i :: .ref 39 :: st) w Q := by
  have hc : k < 2 ^ 31 := (by have := hk; omega)
  subst hi
  exact v_iald n hd hn (saX4_seenOf ) (vp_in_nI hk (by omega)) (by rw [nI_clamp hc]; exact h)
theorem vw_X4_seenOf {i x : Int32} (k n : Nat) (hd : decode M.2.1 pc = .ok (.iastore, 1)) (hn : pc + 1 = n) (hi : i = nI k) (hk : k < 6) (h : V M n ls st (sA w 39 (upd (w.2.2 39) k x)) Q) : V M pc ls (.int x :: .int i :: .ref 39 :: st) w Q := by
  have hc : k < 2 ^ 31 := (by have := hk; omega)
  subst hi
  exact v_iast n hd hn (saX4_seenOf ) (fun kI kZ => suX4_seenOf  kI kZ) (vp_in_nI hk (by omega)) (by rw [nI_clamp hc]; exact h)
theorem vl_X4_seenAfter {i : Int32} (k n : Nat) (hd : decode M.2.1 pc = .ok (.iaload, 1)) (hn : pc + 1 = n) (hi : i = nI k) (hk : k < 6) (h : V M n ls (.int (w.2.2 40 k) :: st) w Q) : V M pc ls (.int i :: .ref 40 :: st) w Q := by
  have hc : k < 2 ^ 31 := (by have := hk; omega)
  subst hi
  exact v_iald n hd hn (saX4_seenAfter ) (vp_in_nI hk (by omega)) (by rw [nI_clamp hc]; exact h)
theorem vw_X4_seenAfter {i x : Int32} (k n : Nat) (hd : decode M.2.1 pc = .ok (.iastore, 1)) (hn : pc + 1 = n) (hi : i = nI k) (hk : k < 6) (h : V M n ls st (sA w 40 (upd (w.2.2 40) k x)) Q) : V M pc ls (.int x :: .int i :: .ref 40 :: st) w Q := by
  have hc : k < 2 ^ 31 := (by have := hk; omega)
  subst hi
  exact v_iast n hd hn (saX4_seenAfter ) (fun kI kZ => suX4_seenAfter  kI kZ) (vp_in_nI hk (by omega)) (by rw [nI_clamp hc]; exact h)
theorem vl_X4_seenAlive {i : Int32} (k n : Nat) (hd : decode M.2.1 pc = .ok (.iaload, 1)) (hn : pc + 1 = n) (hi : i = nI k) (hk : k < 6) (h : V M n ls (.int (w.2.2 41 k) :: st) w Q) : V M pc ls (.int i :: .ref 41 :: st) w Q := by
  have hc : k < 2 ^ 31 := (by have := hk; omega)
  subst hi
  exact v_iald n hd hn (saX4_seenAlive ) (vp_in_nI hk (by omega)) (by rw [nI_clamp hc]; exact h)
theorem vw_X4_seenAlive {i x : Int32} (k n : Nat) (hd : decode M.2.1 pc = .ok (.iastore, 1)) (hn : pc + 1 = n) (hi : i = nI k) (hk : k < 6) (h : V M n ls st (sA w 41 (upd (w.2.2 41) k x)) Q) : V M pc ls (.int x :: .int i :: .ref 41 :: st) w Q := by
  have hc : k < 2 ^ 31 := (by have := hk; omega)
  subst hi
  exact v_iast n hd hn (saX4_seenAlive ) (fun kI kZ => suX4_seenAlive  kI kZ) (vp_in_nI hk (by omega)) (by rw [nI_clamp hc]; exact h)
theorem vl_X4_isKept {i : Int32} (k n : Nat) (hd : decode M.2.1 pc = .ok (.baload, 1)) (hn : pc + 1 = n) (hi : i = nI k) (hk : k < 2) (h : V M n ls (.int (w.2.2 42 k) :: st) w Q) : V M pc ls (.int i :: .ref 42 :: st) w Q := by
  have hc : k < 2 ^ 31 := (by have := hk; omega)
  subst hi
  exact v_zald n hd hn (saX4_isKept ) (vp_in_nI hk (by omega)) (by rw [nI_clamp hc]; exact h)
theorem vw_X4_isKept {i x : Int32} (k n : Nat) (hd : decode M.2.1 pc = .ok (.bastore, 1)) (hn : pc + 1 = n) (hi : i = nI k) (hk : k < 2) (hz : x = 0 ∨ x = 1) (h : V M n ls st (sA w 42 (upd (w.2.2 42) k x)) Q) : V M pc ls (.int x :: .int i :: .ref 42 :: st) w Q := by
  have hc : k < 2 ^ 31 := (by have := hk; omega)
  subst hi
  exact v_zast n hd hn (saX4_isKept ) (fun kI kZ => suX4_isKept  kI kZ) (vp_in_nI hk (by omega)) (by rw [nI_clamp hc, zv hz]; exact h)
theorem vl_X4_kept {i : Int32} (k n : Nat) (hd : decode M.2.1 pc = .ok (.iaload, 1)) (hn : pc + 1 = n) (hi : i = nI k) (hk : k < 60) (h : V M n ls (.int (w.2.2 43 k) :: st) w Q) : V M pc ls (.int i :: .ref 43 :: st) w Q := by
  have hc : k < 2 ^ 31 := (by have := hk; omega)
  subst hi
  exact v_iald n hd hn (saX4_kept ) (vp_in_nI hk (by omega)) (by rw [nI_clamp hc]; exact h)
theorem vw_X4_kept {i x : Int32} (k n : Nat) (hd : decode M.2.1 pc = .ok (.iastore, 1)) (hn : pc + 1 = n) (hi : i = nI k) (hk : k < 60) (h : V M n ls st (sA w 43 (upd (w.2.2 43) k x)) Q) : V M pc ls (.int x :: .int i :: .ref 43 :: st) w Q := by
  have hc : k < 2 ^ 31 := (by have := hk; omega)
  subst hi
  exact v_iast n hd hn (saX4_kept ) (fun kI kZ => suX4_kept  kI kZ) (vp_in_nI hk (by omega)) (by rw [nI_clamp hc]; exact h)
theorem vl_X0_cells {g : Nat} (hg : g < 2) {i : Int32} (k n : Nat) (hd : decode M.2.1 pc = .ok (.iaload, 1)) (hn : pc + 1 = n) (hi : i = nI k) (hk : k < (mlen g)) (h : V M n ls (.int (w.2.2 (mc g) k) :: st) w Q) : V M pc ls (.int i :: .ref (mc g) :: st) w Q := by
  have hc : k < 2 ^ 31 := (by have := hk; unfold mlen at this; split at this <;> omega)
  subst hi
  exact v_iald n hd hn (saX0_cells hg) (vp_in_nI hk (by unfold mlen; split <;> omega)) (by rw [nI_clamp hc]; exact h)
theorem vw_X0_cells {g : Nat} (hg : g < 2) {i x : Int32} (k n : Nat) (hd : decode M.2.1 pc = .ok (.iastore, 1)) (hn : pc + 1 = n) (hi : i = nI k) (hk : k < (mlen g)) (h : V M n ls st (sA w (mc g) (upd (w.2.2 (mc g)) k x)) Q) : V M pc ls (.int x :: .int i :: .ref (mc g) :: st) w Q := by
  have hc : k < 2 ^ 31 := (by have := hk; unfold mlen at this; split at this <;> omega)
  subst hi
  exact v_iast n hd hn (saX0_cells hg) (fun kI kZ => suX0_cells hg kI kZ) (vp_in_nI hk (by unfold mlen; split <;> omega)) (by rw [nI_clamp hc]; exact h)
end VF
end
section
section VX
variable {M : MD} {pc : Nat} {ls : LsT} {st : List Value} {w : Wd} {Q : Option Value → Wd → Prop}
theorem v_mmax {x y : Int32} {ix : Nat} (n : Nat) (hd : decode M.2.1 pc = .ok (.invokestatic ix, 3)) (hn : pc + 3 = n) (hl : Cond.methodLink M.1 ix Lib.Math.max.name ∈ TG) (hfr : 1 ≤ M.2.2.2.2.1) (hlo : 30 ≤ M.2.2.2.2.2) (hcat : (st.map fun v => v.category).sum ≤ 8) (h : V M n ls (.int (if x < y then y else x) :: st) w Q) : V M pc ls (.int y :: .int x :: st) w Q := by
  subst hn
  intro p l e R s m args below meth c ad kI kZ D A cells slots Z C F H locs lsA hP hD hS hL
  have ok : ∀ q ∈ TG, q.before args s = true := C.2.2.2.2.1
  have h1 : 1 ≤ R.frames := Nat.le_trans hfr C.2.2.2.2.2.2.2.1
  have h2 : 30 ≤ R.locals := Nat.le_trans hlo C.2.2.2.2.2.2.2.2.1
  exact va_mmax C.1 C.2.1 (by rw [C.2.2.1, hL.1]) C.2.2.2.1 (ok _ hl) (ok _ mm_max.1) (ok _ mm_max.2.1) (ok _ mm_max.2.2) h1 (by rw [cv_cats]; omega) C.2.2.2.2.2.2.2.2.2.1 C.2.2.2.2.2.2.2.2.2.2 hd (h p l e R s m args below meth c ad kI kZ D A cells slots Z C F H locs lsA hP hD hS hL)
theorem v_mmin {x y : Int32} {ix : Nat} (n : Nat) (hd : decode M.2.1 pc = .ok (.invokestatic ix, 3)) (hn : pc + 3 = n) (hl : Cond.methodLink M.1 ix Lib.Math.min.name ∈ TG) (hfr : 1 ≤ M.2.2.2.2.1) (hlo : 30 ≤ M.2.2.2.2.2) (hcat : (st.map fun v => v.category).sum ≤ 8) (h : V M n ls (.int (if y < x then y else x) :: st) w Q) : V M pc ls (.int y :: .int x :: st) w Q := by
  subst hn
  intro p l e R s m args below meth c ad kI kZ D A cells slots Z C F H locs lsA hP hD hS hL
  have ok : ∀ q ∈ TG, q.before args s = true := C.2.2.2.2.1
  have h1 : 1 ≤ R.frames := Nat.le_trans hfr C.2.2.2.2.2.2.2.1
  have h2 : 30 ≤ R.locals := Nat.le_trans hlo C.2.2.2.2.2.2.2.2.1
  exact va_mmin C.1 C.2.1 (by rw [C.2.2.1, hL.1]) C.2.2.2.1 (ok _ hl) (ok _ mm_min.1) (ok _ mm_min.2.1) (ok _ mm_min.2.2) h1 (by rw [cv_cats]; omega) C.2.2.2.2.2.2.2.2.2.1 C.2.2.2.2.2.2.2.2.2.2 hd (h p l e R s m args below meth c ad kI kZ D A cells slots Z C F H locs lsA hP hD hS hL)
theorem nfw : nativeFrameWords "java/lang/System" "arraycopy" 5 + 11 ≤ 52 := by decide +kernel
theorem v_copy {r0 r1 n0 n1 ix : Nat} (sp dp k : Nat) (n : Nat) (hd : decode M.2.1 pc = .ok (.invokestatic ix, 3)) (hn : pc + 3 = n) (hl : Cond.methodLink M.1 ix arraycopyName ∈ TG) (hs0 : ∀ kI kZ, (cE kI kZ w)[r0]? = some (iE kI w r0 n0)) (hs1 : ∀ kI kZ, (cE kI kZ w)[r1]? = some (iE kI w r1 n1)) (hu : ∀ kI kZ, (cE kI kZ w).set r1 (.inl (kI, n1, .inl (va_cpy (w.2.2 r0) (w.2.2 r1) sp dp k))) = cE kI kZ (sA w r1 (va_cpy (w.2.2 r0) (w.2.2 r1) sp dp k))) (h4 : sp + k ≤ n0) (h5 : dp + k ≤ n1) (hb0 : n0 < 1000) (hb1 : n1 < 1000) (hfr : 1 ≤ M.2.2.2.2.1) (hlo : 60 ≤ M.2.2.2.2.2) (hcat : (st.map fun v => v.category).sum ≤ 8) (h : V M n ls st (sA w r1 (va_cpy (w.2.2 r0) (w.2.2 r1) sp dp k)) Q) : V M pc ls (.int (nI k) :: .int (nI dp) :: .ref r1 :: .int (nI sp) :: .ref r0 :: st) w Q := by
  subst hn
  intro p l e R s m args below meth c ad kI kZ D A cells slots Z C F H locs lsA hP hD hS hL
  have ok : ∀ q ∈ TG, q.before args s = true := C.2.2.2.2.1
  have h1 : 1 ≤ R.frames := Nat.le_trans hfr C.2.2.2.2.2.2.2.1
  have h2 : 60 ≤ R.locals := Nat.le_trans hlo C.2.2.2.2.2.2.2.2.1
  have c1 : (nI sp).toNatClampNeg = sp := nI_clamp (by omega)
  have c2 : (nI dp).toNatClampNeg = dp := nI_clamp (by omega)
  have c3 : (nI k).toNatClampNeg = k := nI_clamp (by omega)
  have e1 := cW_set (ad := ad) (hu kI kZ)
  have e2 := nfw
  refine va_copyi C.1 C.2.1 (by rw [C.2.2.1, hL.1]) C.2.2.2.1 (ok _ hl) (ok _ acNat) (ok _ acSta) (ok _ acIni) C.2.2.2.2.2.1 hP hD hS r0 r1 0 0 (cW_at (hs0 kI kZ)) (cW_at (hs1 kI kZ)) rfl rfl rfl (nI_pos (by omega)) (nI_pos (by omega)) (nI_pos (by omega)) (by rw [c1, c3]; exact h4) (by rw [c2, c3]; exact h5) (fun _ _ => rfl) h1 (by rw [cv_cats]; omega) hd (fun H1 locs1 hP1 hD1 hS1 => ?_)
  rw [c1, c2, c3] at hP1 hD1
  exact h p l e R s m args below meth c ad kI kZ D A cells slots Z C F H1 locs1 lsA (e1 ▸ hP1) (e1 ▸ hD1) hS1 hL
theorem la_1_0 {x : Nat} (n : Nat) (hd : decode M.2.1 pc = .ok (.aload_n 0, 1)) (hn : pc + 1 = n) (h : V M n [some (.ref x)] (.ref x :: st) w Q) : V M pc [some (.ref x)] st w Q := v_aload_n n hd hn rfl h
theorem la_2_0 {a1 : Option Value} {x : Nat} (n : Nat) (hd : decode M.2.1 pc = .ok (.aload_n 0, 1)) (hn : pc + 1 = n) (h : V M n [some (.ref x), a1] (.ref x :: st) w Q) : V M pc [some (.ref x), a1] st w Q := v_aload_n n hd hn rfl h
theorem la_2_1 {a0 : Option Value} {x : Nat} (n : Nat) (hd : decode M.2.1 pc = .ok (.aload_n 1, 1)) (hn : pc + 1 = n) (h : V M n [a0, some (.ref x)] (.ref x :: st) w Q) : V M pc [a0, some (.ref x)] st w Q := v_aload_n n hd hn rfl h
theorem la_3_0 {a1 a2 : Option Value} {x : Nat} (n : Nat) (hd : decode M.2.1 pc = .ok (.aload_n 0, 1)) (hn : pc + 1 = n) (h : V M n [some (.ref x), a1, a2] (.ref x :: st) w Q) : V M pc [some (.ref x), a1, a2] st w Q := v_aload_n n hd hn rfl h
theorem la_3_1 {a0 a2 : Option Value} {x : Nat} (n : Nat) (hd : decode M.2.1 pc = .ok (.aload_n 1, 1)) (hn : pc + 1 = n) (h : V M n [a0, some (.ref x), a2] (.ref x :: st) w Q) : V M pc [a0, some (.ref x), a2] st w Q := v_aload_n n hd hn rfl h
theorem la_3_2 {a0 a1 : Option Value} {x : Nat} (n : Nat) (hd : decode M.2.1 pc = .ok (.aload_n 2, 1)) (hn : pc + 1 = n) (h : V M n [a0, a1, some (.ref x)] (.ref x :: st) w Q) : V M pc [a0, a1, some (.ref x)] st w Q := v_aload_n n hd hn rfl h
theorem la_4_0 {a1 a2 a3 : Option Value} {x : Nat} (n : Nat) (hd : decode M.2.1 pc = .ok (.aload_n 0, 1)) (hn : pc + 1 = n) (h : V M n [some (.ref x), a1, a2, a3] (.ref x :: st) w Q) : V M pc [some (.ref x), a1, a2, a3] st w Q := v_aload_n n hd hn rfl h
theorem la_4_1 {a0 a2 a3 : Option Value} {x : Nat} (n : Nat) (hd : decode M.2.1 pc = .ok (.aload_n 1, 1)) (hn : pc + 1 = n) (h : V M n [a0, some (.ref x), a2, a3] (.ref x :: st) w Q) : V M pc [a0, some (.ref x), a2, a3] st w Q := v_aload_n n hd hn rfl h
theorem la_4_2 {a0 a1 a3 : Option Value} {x : Nat} (n : Nat) (hd : decode M.2.1 pc = .ok (.aload_n 2, 1)) (hn : pc + 1 = n) (h : V M n [a0, a1, some (.ref x), a3] (.ref x :: st) w Q) : V M pc [a0, a1, some (.ref x), a3] st w Q := v_aload_n n hd hn rfl h
theorem la_5_0 {a1 a2 a3 a4 : Option Value} {x : Nat} (n : Nat) (hd : decode M.2.1 pc = .ok (.aload_n 0, 1)) (hn : pc + 1 = n) (h : V M n [some (.ref x), a1, a2, a3, a4] (.ref x :: st) w Q) : V M pc [some (.ref x), a1, a2, a3, a4] st w Q := v_aload_n n hd hn rfl h
theorem la_6_0 {a1 a2 a3 a4 a5 : Option Value} {x : Nat} (n : Nat) (hd : decode M.2.1 pc = .ok (.aload_n 0, 1)) (hn : pc + 1 = n) (h : V M n [some (.ref x), a1, a2, a3, a4, a5] (.ref x :: st) w Q) : V M pc [some (.ref x), a1, a2, a3, a4, a5] st w Q := v_aload_n n hd hn rfl h
theorem la_7_0 {a1 a2 a3 a4 a5 a6 : Option Value} {x : Nat} (n : Nat) (hd : decode M.2.1 pc = .ok (.aload_n 0, 1)) (hn : pc + 1 = n) (h : V M n [some (.ref x), a1, a2, a3, a4, a5, a6] (.ref x :: st) w Q) : V M pc [some (.ref x), a1, a2, a3, a4, a5, a6] st w Q := v_aload_n n hd hn rfl h
theorem la_8_0 {a1 a2 a3 a4 a5 a6 a7 : Option Value} {x : Nat} (n : Nat) (hd : decode M.2.1 pc = .ok (.aload_n 0, 1)) (hn : pc + 1 = n) (h : V M n [some (.ref x), a1, a2, a3, a4, a5, a6, a7] (.ref x :: st) w Q) : V M pc [some (.ref x), a1, a2, a3, a4, a5, a6, a7] st w Q := v_aload_n n hd hn rfl h
theorem la_10_0 {a1 a2 a3 a4 a5 a6 a7 a8 a9 : Option Value} {x : Nat} (n : Nat) (hd : decode M.2.1 pc = .ok (.aload_n 0, 1)) (hn : pc + 1 = n) (h : V M n [some (.ref x), a1, a2, a3, a4, a5, a6, a7, a8, a9] (.ref x :: st) w Q) : V M pc [some (.ref x), a1, a2, a3, a4, a5, a6, a7, a8, a9] st w Q := v_aload_n n hd hn rfl h
theorem la_12_0 {a1 a2 a3 a4 a5 a6 a7 a8 a9 a10 a11 : Option Value} {x : Nat} (n : Nat) (hd : decode M.2.1 pc = .ok (.aload_n 0, 1)) (hn : pc + 1 = n) (h : V M n [some (.ref x), a1, a2, a3, a4, a5, a6, a7, a8, a9, a10, a11] (.ref x :: st) w Q) : V M pc [some (.ref x), a1, a2, a3, a4, a5, a6, a7, a8, a9, a10, a11] st w Q := v_aload_n n hd hn rfl h
theorem sa_4_1 {a0 a1 a2 a3 : Option Value} {x : Nat} (hN : M.2.2.1 = 4) (n : Nat) (hd : decode M.2.1 pc = .ok (.astore_n 1, 1)) (hn : pc + 1 = n) (hp : okv a0 = true) (h : V M n [a0, some (.ref x), a2, a3] st w Q) : V M pc [a0, a1, a2, a3] (.ref x :: st) w Q := v_astore_n n hd hn (by rw [hN]; decide) hp rfl h
theorem sa_4_2 {a0 a1 a2 a3 : Option Value} {x : Nat} (hN : M.2.2.1 = 4) (n : Nat) (hd : decode M.2.1 pc = .ok (.astore_n 2, 1)) (hn : pc + 1 = n) (hp : okv a1 = true) (h : V M n [a0, a1, some (.ref x), a3] st w Q) : V M pc [a0, a1, a2, a3] (.ref x :: st) w Q := v_astore_n n hd hn (by rw [hN]; decide) hp rfl h
theorem ic_2_1 {a0 : Option Value} {x c : Int32} {z : Int} (hN : M.2.2.1 = 2) (n : Nat) (hd : decode M.2.1 pc = .ok (.iinc 1 z, 3)) (hn : pc + 3 = n) (hz : Int32.ofInt z = c) (hp : okv a0 = true) (h : V M n [a0, some (.int (x + c))] st w Q) : V M pc [a0, some (.int x)] st w Q := v_iinc (v := x + c) n hd hn rfl (by rw [hz]) (by rw [hN]; decide) hp rfl h
theorem icn_2_1 {a0 : Option Value} {i : Nat} (hN : M.2.2.1 = 2) (n : Nat) (hd : decode M.2.1 pc = .ok (.iinc 1 1, 3)) (hn : pc + 3 = n) (hp : okv a0 = true) (h : V M n [a0, some (.int (nI (i + 1)))] st w Q) : V M pc [a0, some (.int (nI i))] st w Q := v_iinc (v := nI (i + 1)) n hd hn rfl (by rw [← nI_1]; rfl) (by rw [hN]; decide) hp rfl h
theorem ic_3_2 {a0 a1 : Option Value} {x c : Int32} {z : Int} (hN : M.2.2.1 = 3) (n : Nat) (hd : decode M.2.1 pc = .ok (.iinc 2 z, 3)) (hn : pc + 3 = n) (hz : Int32.ofInt z = c) (hp : okv a1 = true) (h : V M n [a0, a1, some (.int (x + c))] st w Q) : V M pc [a0, a1, some (.int x)] st w Q := v_iinc (v := x + c) n hd hn rfl (by rw [hz]) (by rw [hN]; decide) hp rfl h
theorem icn_3_2 {a0 a1 : Option Value} {i : Nat} (hN : M.2.2.1 = 3) (n : Nat) (hd : decode M.2.1 pc = .ok (.iinc 2 1, 3)) (hn : pc + 3 = n) (hp : okv a1 = true) (h : V M n [a0, a1, some (.int (nI (i + 1)))] st w Q) : V M pc [a0, a1, some (.int (nI i))] st w Q := v_iinc (v := nI (i + 1)) n hd hn rfl (by rw [← nI_1]; rfl) (by rw [hN]; decide) hp rfl h
theorem ic_4_2 {a0 a1 a3 : Option Value} {x c : Int32} {z : Int} (hN : M.2.2.1 = 4) (n : Nat) (hd : decode M.2.1 pc = .ok (.iinc 2 z, 3)) (hn : pc + 3 = n) (hz : Int32.ofInt z = c) (hp : okv a1 = true) (h : V M n [a0, a1, some (.int (x + c)), a3] st w Q) : V M pc [a0, a1, some (.int x), a3] st w Q := v_iinc (v := x + c) n hd hn rfl (by rw [hz]) (by rw [hN]; decide) hp rfl h
theorem icn_4_2 {a0 a1 a3 : Option Value} {i : Nat} (hN : M.2.2.1 = 4) (n : Nat) (hd : decode M.2.1 pc = .ok (.iinc 2 1, 3)) (hn : pc + 3 = n) (hp : okv a1 = true) (h : V M n [a0, a1, some (.int (nI (i + 1))), a3] st w Q) : V M pc [a0, a1, some (.int (nI i)), a3] st w Q := v_iinc (v := nI (i + 1)) n hd hn rfl (by rw [← nI_1]; rfl) (by rw [hN]; decide) hp rfl h
theorem ic_4_3 {a0 a1 a2 : Option Value} {x c : Int32} {z : Int} (hN : M.2.2.1 = 4) (n : Nat) (hd : decode M.2.1 pc = .ok (.iinc 3 z, 3)) (hn : pc + 3 = n) (hz : Int32.ofInt z = c) (hp : okv a2 = true) (h : V M n [a0, a1, a2, some (.int (x + c))] st w Q) : V M pc [a0, a1, a2, some (.int x)] st w Q := v_iinc (v := x + c) n hd hn rfl (by rw [hz]) (by rw [hN]; decide) hp rfl h
theorem icn_4_3 {a0 a1 a2 : Option Value} {i : Nat} (hN : M.2.2.1 = 4) (n : Nat) (hd : decode M.2.1 pc = .ok (.iinc 3 1, 3)) (hn : pc + 3 = n) (hp : okv a2 = true) (h : V M n [a0, a1, a2, some (.int (nI (i + 1)))] st w Q) : V M pc [a0, a1, a2, some (.int (nI i))] st w Q := v_iinc (v := nI (i + 1)) n hd hn rfl (by rw [← nI_1]; rfl) (by rw [hN]; decide) hp rfl h
theorem ic_5_3 {a0 a1 a2 a4 : Option Value} {x c : Int32} {z : Int} (hN : M.2.2.1 = 5) (n : Nat) (hd : decode M.2.1 pc = .ok (.iinc 3 z, 3)) (hn : pc + 3 = n) (hz : Int32.ofInt z = c) (hp : okv a2 = true) (h : V M n [a0, a1, a2, some (.int (x + c)), a4] st w Q) : V M pc [a0, a1, a2, some (.int x), a4] st w Q := v_iinc (v := x + c) n hd hn rfl (by rw [hz]) (by rw [hN]; decide) hp rfl h
theorem icn_5_3 {a0 a1 a2 a4 : Option Value} {i : Nat} (hN : M.2.2.1 = 5) (n : Nat) (hd : decode M.2.1 pc = .ok (.iinc 3 1, 3)) (hn : pc + 3 = n) (hp : okv a2 = true) (h : V M n [a0, a1, a2, some (.int (nI (i + 1))), a4] st w Q) : V M pc [a0, a1, a2, some (.int (nI i)), a4] st w Q := v_iinc (v := nI (i + 1)) n hd hn rfl (by rw [← nI_1]; rfl) (by rw [hN]; decide) hp rfl h
theorem ic_5_4 {a0 a1 a2 a3 : Option Value} {x c : Int32} {z : Int} (hN : M.2.2.1 = 5) (n : Nat) (hd : decode M.2.1 pc = .ok (.iinc 4 z, 3)) (hn : pc + 3 = n) (hz : Int32.ofInt z = c) (hp : okv a3 = true) (h : V M n [a0, a1, a2, a3, some (.int (x + c))] st w Q) : V M pc [a0, a1, a2, a3, some (.int x)] st w Q := v_iinc (v := x + c) n hd hn rfl (by rw [hz]) (by rw [hN]; decide) hp rfl h
theorem icn_5_4 {a0 a1 a2 a3 : Option Value} {i : Nat} (hN : M.2.2.1 = 5) (n : Nat) (hd : decode M.2.1 pc = .ok (.iinc 4 1, 3)) (hn : pc + 3 = n) (hp : okv a3 = true) (h : V M n [a0, a1, a2, a3, some (.int (nI (i + 1)))] st w Q) : V M pc [a0, a1, a2, a3, some (.int (nI i))] st w Q := v_iinc (v := nI (i + 1)) n hd hn rfl (by rw [← nI_1]; rfl) (by rw [hN]; decide) hp rfl h
theorem ic_6_3 {a0 a1 a2 a4 a5 : Option Value} {x c : Int32} {z : Int} (hN : M.2.2.1 = 6) (n : Nat) (hd : decode M.2.1 pc = .ok (.iinc 3 z, 3)) (hn : pc + 3 = n) (hz : Int32.ofInt z = c) (hp : okv a2 = true) (h : V M n [a0, a1, a2, some (.int (x + c)), a4, a5] st w Q) : V M pc [a0, a1, a2, some (.int x), a4, a5] st w Q := v_iinc (v := x + c) n hd hn rfl (by rw [hz]) (by rw [hN]; decide) hp rfl h
theorem icn_6_3 {a0 a1 a2 a4 a5 : Option Value} {i : Nat} (hN : M.2.2.1 = 6) (n : Nat) (hd : decode M.2.1 pc = .ok (.iinc 3 1, 3)) (hn : pc + 3 = n) (hp : okv a2 = true) (h : V M n [a0, a1, a2, some (.int (nI (i + 1))), a4, a5] st w Q) : V M pc [a0, a1, a2, some (.int (nI i)), a4, a5] st w Q := v_iinc (v := nI (i + 1)) n hd hn rfl (by rw [← nI_1]; rfl) (by rw [hN]; decide) hp rfl h
theorem ic_6_4 {a0 a1 a2 a3 a5 : Option Value} {x c : Int32} {z : Int} (hN : M.2.2.1 = 6) (n : Nat) (hd : decode M.2.1 pc = .ok (.iinc 4 z, 3)) (hn : pc + 3 = n) (hz : Int32.ofInt z = c) (hp : okv a3 = true) (h : V M n [a0, a1, a2, a3, some (.int (x + c)), a5] st w Q) : V M pc [a0, a1, a2, a3, some (.int x), a5] st w Q := v_iinc (v := x + c) n hd hn rfl (by rw [hz]) (by rw [hN]; decide) hp rfl h
theorem icn_6_4 {a0 a1 a2 a3 a5 : Option Value} {i : Nat} (hN : M.2.2.1 = 6) (n : Nat) (hd : decode M.2.1 pc = .ok (.iinc 4 1, 3)) (hn : pc + 3 = n) (hp : okv a3 = true) (h : V M n [a0, a1, a2, a3, some (.int (nI (i + 1))), a5] st w Q) : V M pc [a0, a1, a2, a3, some (.int (nI i)), a5] st w Q := v_iinc (v := nI (i + 1)) n hd hn rfl (by rw [← nI_1]; rfl) (by rw [hN]; decide) hp rfl h
theorem ic_6_5 {a0 a1 a2 a3 a4 : Option Value} {x c : Int32} {z : Int} (hN : M.2.2.1 = 6) (n : Nat) (hd : decode M.2.1 pc = .ok (.iinc 5 z, 3)) (hn : pc + 3 = n) (hz : Int32.ofInt z = c) (hp : okv a4 = true) (h : V M n [a0, a1, a2, a3, a4, some (.int (x + c))] st w Q) : V M pc [a0, a1, a2, a3, a4, some (.int x)] st w Q := v_iinc (v := x + c) n hd hn rfl (by rw [hz]) (by rw [hN]; decide) hp rfl h
theorem icn_6_5 {a0 a1 a2 a3 a4 : Option Value} {i : Nat} (hN : M.2.2.1 = 6) (n : Nat) (hd : decode M.2.1 pc = .ok (.iinc 5 1, 3)) (hn : pc + 3 = n) (hp : okv a4 = true) (h : V M n [a0, a1, a2, a3, a4, some (.int (nI (i + 1)))] st w Q) : V M pc [a0, a1, a2, a3, a4, some (.int (nI i))] st w Q := v_iinc (v := nI (i + 1)) n hd hn rfl (by rw [← nI_1]; rfl) (by rw [hN]; decide) hp rfl h
theorem ic_7_3 {a0 a1 a2 a4 a5 a6 : Option Value} {x c : Int32} {z : Int} (hN : M.2.2.1 = 7) (n : Nat) (hd : decode M.2.1 pc = .ok (.iinc 3 z, 3)) (hn : pc + 3 = n) (hz : Int32.ofInt z = c) (hp : okv a2 = true) (h : V M n [a0, a1, a2, some (.int (x + c)), a4, a5, a6] st w Q) : V M pc [a0, a1, a2, some (.int x), a4, a5, a6] st w Q := v_iinc (v := x + c) n hd hn rfl (by rw [hz]) (by rw [hN]; decide) hp rfl h
theorem icn_7_3 {a0 a1 a2 a4 a5 a6 : Option Value} {i : Nat} (hN : M.2.2.1 = 7) (n : Nat) (hd : decode M.2.1 pc = .ok (.iinc 3 1, 3)) (hn : pc + 3 = n) (hp : okv a2 = true) (h : V M n [a0, a1, a2, some (.int (nI (i + 1))), a4, a5, a6] st w Q) : V M pc [a0, a1, a2, some (.int (nI i)), a4, a5, a6] st w Q := v_iinc (v := nI (i + 1)) n hd hn rfl (by rw [← nI_1]; rfl) (by rw [hN]; decide) hp rfl h
theorem ic_7_5 {a0 a1 a2 a3 a4 a6 : Option Value} {x c : Int32} {z : Int} (hN : M.2.2.1 = 7) (n : Nat) (hd : decode M.2.1 pc = .ok (.iinc 5 z, 3)) (hn : pc + 3 = n) (hz : Int32.ofInt z = c) (hp : okv a4 = true) (h : V M n [a0, a1, a2, a3, a4, some (.int (x + c)), a6] st w Q) : V M pc [a0, a1, a2, a3, a4, some (.int x), a6] st w Q := v_iinc (v := x + c) n hd hn rfl (by rw [hz]) (by rw [hN]; decide) hp rfl h
theorem icn_7_5 {a0 a1 a2 a3 a4 a6 : Option Value} {i : Nat} (hN : M.2.2.1 = 7) (n : Nat) (hd : decode M.2.1 pc = .ok (.iinc 5 1, 3)) (hn : pc + 3 = n) (hp : okv a4 = true) (h : V M n [a0, a1, a2, a3, a4, some (.int (nI (i + 1))), a6] st w Q) : V M pc [a0, a1, a2, a3, a4, some (.int (nI i)), a6] st w Q := v_iinc (v := nI (i + 1)) n hd hn rfl (by rw [← nI_1]; rfl) (by rw [hN]; decide) hp rfl h
theorem ic_7_6 {a0 a1 a2 a3 a4 a5 : Option Value} {x c : Int32} {z : Int} (hN : M.2.2.1 = 7) (n : Nat) (hd : decode M.2.1 pc = .ok (.iinc 6 z, 3)) (hn : pc + 3 = n) (hz : Int32.ofInt z = c) (hp : okv a5 = true) (h : V M n [a0, a1, a2, a3, a4, a5, some (.int (x + c))] st w Q) : V M pc [a0, a1, a2, a3, a4, a5, some (.int x)] st w Q := v_iinc (v := x + c) n hd hn rfl (by rw [hz]) (by rw [hN]; decide) hp rfl h
theorem icn_7_6 {a0 a1 a2 a3 a4 a5 : Option Value} {i : Nat} (hN : M.2.2.1 = 7) (n : Nat) (hd : decode M.2.1 pc = .ok (.iinc 6 1, 3)) (hn : pc + 3 = n) (hp : okv a5 = true) (h : V M n [a0, a1, a2, a3, a4, a5, some (.int (nI (i + 1)))] st w Q) : V M pc [a0, a1, a2, a3, a4, a5, some (.int (nI i))] st w Q := v_iinc (v := nI (i + 1)) n hd hn rfl (by rw [← nI_1]; rfl) (by rw [hN]; decide) hp rfl h
theorem ic_8_5 {a0 a1 a2 a3 a4 a6 a7 : Option Value} {x c : Int32} {z : Int} (hN : M.2.2.1 = 8) (n : Nat) (hd : decode M.2.1 pc = .ok (.iinc 5 z, 3)) (hn : pc + 3 = n) (hz : Int32.ofInt z = c) (hp : okv a4 = true) (h : V M n [a0, a1, a2, a3, a4, some (.int (x + c)), a6, a7] st w Q) : V M pc [a0, a1, a2, a3, a4, some (.int x), a6, a7] st w Q := v_iinc (v := x + c) n hd hn rfl (by rw [hz]) (by rw [hN]; decide) hp rfl h
theorem icn_8_5 {a0 a1 a2 a3 a4 a6 a7 : Option Value} {i : Nat} (hN : M.2.2.1 = 8) (n : Nat) (hd : decode M.2.1 pc = .ok (.iinc 5 1, 3)) (hn : pc + 3 = n) (hp : okv a4 = true) (h : V M n [a0, a1, a2, a3, a4, some (.int (nI (i + 1))), a6, a7] st w Q) : V M pc [a0, a1, a2, a3, a4, some (.int (nI i)), a6, a7] st w Q := v_iinc (v := nI (i + 1)) n hd hn rfl (by rw [← nI_1]; rfl) (by rw [hN]; decide) hp rfl h
theorem ic_8_7 {a0 a1 a2 a3 a4 a5 a6 : Option Value} {x c : Int32} {z : Int} (hN : M.2.2.1 = 8) (n : Nat) (hd : decode M.2.1 pc = .ok (.iinc 7 z, 3)) (hn : pc + 3 = n) (hz : Int32.ofInt z = c) (hp : okv a6 = true) (h : V M n [a0, a1, a2, a3, a4, a5, a6, some (.int (x + c))] st w Q) : V M pc [a0, a1, a2, a3, a4, a5, a6, some (.int x)] st w Q := v_iinc (v := x + c) n hd hn rfl (by rw [hz]) (by rw [hN]; decide) hp rfl h
theorem icn_8_7 {a0 a1 a2 a3 a4 a5 a6 : Option Value} {i : Nat} (hN : M.2.2.1 = 8) (n : Nat) (hd : decode M.2.1 pc = .ok (.iinc 7 1, 3)) (hn : pc + 3 = n) (hp : okv a6 = true) (h : V M n [a0, a1, a2, a3, a4, a5, a6, some (.int (nI (i + 1)))] st w Q) : V M pc [a0, a1, a2, a3, a4, a5, a6, some (.int (nI i))] st w Q := v_iinc (v := nI (i + 1)) n hd hn rfl (by rw [← nI_1]; rfl) (by rw [hN]; decide) hp rfl h
theorem ic_10_6 {a0 a1 a2 a3 a4 a5 a7 a8 a9 : Option Value} {x c : Int32} {z : Int} (hN : M.2.2.1 = 10) (n : Nat) (hd : decode M.2.1 pc = .ok (.iinc 6 z, 3)) (hn : pc + 3 = n) (hz : Int32.ofInt z = c) (hp : okv a5 = true) (h : V M n [a0, a1, a2, a3, a4, a5, some (.int (x + c)), a7, a8, a9] st w Q) : V M pc [a0, a1, a2, a3, a4, a5, some (.int x), a7, a8, a9] st w Q := v_iinc (v := x + c) n hd hn rfl (by rw [hz]) (by rw [hN]; decide) hp rfl h
theorem icn_10_6 {a0 a1 a2 a3 a4 a5 a7 a8 a9 : Option Value} {i : Nat} (hN : M.2.2.1 = 10) (n : Nat) (hd : decode M.2.1 pc = .ok (.iinc 6 1, 3)) (hn : pc + 3 = n) (hp : okv a5 = true) (h : V M n [a0, a1, a2, a3, a4, a5, some (.int (nI (i + 1))), a7, a8, a9] st w Q) : V M pc [a0, a1, a2, a3, a4, a5, some (.int (nI i)), a7, a8, a9] st w Q := v_iinc (v := nI (i + 1)) n hd hn rfl (by rw [← nI_1]; rfl) (by rw [hN]; decide) hp rfl h
theorem ic_10_8 {a0 a1 a2 a3 a4 a5 a6 a7 a9 : Option Value} {x c : Int32} {z : Int} (hN : M.2.2.1 = 10) (n : Nat) (hd : decode M.2.1 pc = .ok (.iinc 8 z, 3)) (hn : pc + 3 = n) (hz : Int32.ofInt z = c) (hp : okv a7 = true) (h : V M n [a0, a1, a2, a3, a4, a5, a6, a7, some (.int (x + c)), a9] st w Q) : V M pc [a0, a1, a2, a3, a4, a5, a6, a7, some (.int x), a9] st w Q := v_iinc (v := x + c) n hd hn rfl (by rw [hz]) (by rw [hN]; decide) hp rfl h
theorem icn_10_8 {a0 a1 a2 a3 a4 a5 a6 a7 a9 : Option Value} {i : Nat} (hN : M.2.2.1 = 10) (n : Nat) (hd : decode M.2.1 pc = .ok (.iinc 8 1, 3)) (hn : pc + 3 = n) (hp : okv a7 = true) (h : V M n [a0, a1, a2, a3, a4, a5, a6, a7, some (.int (nI (i + 1))), a9] st w Q) : V M pc [a0, a1, a2, a3, a4, a5, a6, a7, some (.int (nI i)), a9] st w Q := v_iinc (v := nI (i + 1)) n hd hn rfl (by rw [← nI_1]; rfl) (by rw [hN]; decide) hp rfl h
theorem ic_11_8 {a0 a1 a2 a3 a4 a5 a6 a7 a9 a10 : Option Value} {x c : Int32} {z : Int} (hN : M.2.2.1 = 11) (n : Nat) (hd : decode M.2.1 pc = .ok (.iinc 8 z, 3)) (hn : pc + 3 = n) (hz : Int32.ofInt z = c) (hp : okv a7 = true) (h : V M n [a0, a1, a2, a3, a4, a5, a6, a7, some (.int (x + c)), a9, a10] st w Q) : V M pc [a0, a1, a2, a3, a4, a5, a6, a7, some (.int x), a9, a10] st w Q := v_iinc (v := x + c) n hd hn rfl (by rw [hz]) (by rw [hN]; decide) hp rfl h
theorem icn_11_8 {a0 a1 a2 a3 a4 a5 a6 a7 a9 a10 : Option Value} {i : Nat} (hN : M.2.2.1 = 11) (n : Nat) (hd : decode M.2.1 pc = .ok (.iinc 8 1, 3)) (hn : pc + 3 = n) (hp : okv a7 = true) (h : V M n [a0, a1, a2, a3, a4, a5, a6, a7, some (.int (nI (i + 1))), a9, a10] st w Q) : V M pc [a0, a1, a2, a3, a4, a5, a6, a7, some (.int (nI i)), a9, a10] st w Q := v_iinc (v := nI (i + 1)) n hd hn rfl (by rw [← nI_1]; rfl) (by rw [hN]; decide) hp rfl h
theorem ic_12_7 {a0 a1 a2 a3 a4 a5 a6 a8 a9 a10 a11 : Option Value} {x c : Int32} {z : Int} (hN : M.2.2.1 = 12) (n : Nat) (hd : decode M.2.1 pc = .ok (.iinc 7 z, 3)) (hn : pc + 3 = n) (hz : Int32.ofInt z = c) (hp : okv a6 = true) (h : V M n [a0, a1, a2, a3, a4, a5, a6, some (.int (x + c)), a8, a9, a10, a11] st w Q) : V M pc [a0, a1, a2, a3, a4, a5, a6, some (.int x), a8, a9, a10, a11] st w Q := v_iinc (v := x + c) n hd hn rfl (by rw [hz]) (by rw [hN]; decide) hp rfl h
theorem icn_12_7 {a0 a1 a2 a3 a4 a5 a6 a8 a9 a10 a11 : Option Value} {i : Nat} (hN : M.2.2.1 = 12) (n : Nat) (hd : decode M.2.1 pc = .ok (.iinc 7 1, 3)) (hn : pc + 3 = n) (hp : okv a6 = true) (h : V M n [a0, a1, a2, a3, a4, a5, a6, some (.int (nI (i + 1))), a8, a9, a10, a11] st w Q) : V M pc [a0, a1, a2, a3, a4, a5, a6, some (.int (nI i)), a8, a9, a10, a11] st w Q := v_iinc (v := nI (i + 1)) n hd hn rfl (by rw [← nI_1]; rfl) (by rw [hN]; decide) hp rfl h
theorem ic_12_9 {a0 a1 a2 a3 a4 a5 a6 a7 a8 a10 a11 : Option Value} {x c : Int32} {z : Int} (hN : M.2.2.1 = 12) (n : Nat) (hd : decode M.2.1 pc = .ok (.iinc 9 z, 3)) (hn : pc + 3 = n) (hz : Int32.ofInt z = c) (hp : okv a8 = true) (h : V M n [a0, a1, a2, a3, a4, a5, a6, a7, a8, some (.int (x + c)), a10, a11] st w Q) : V M pc [a0, a1, a2, a3, a4, a5, a6, a7, a8, some (.int x), a10, a11] st w Q := v_iinc (v := x + c) n hd hn rfl (by rw [hz]) (by rw [hN]; decide) hp rfl h
theorem icn_12_9 {a0 a1 a2 a3 a4 a5 a6 a7 a8 a10 a11 : Option Value} {i : Nat} (hN : M.2.2.1 = 12) (n : Nat) (hd : decode M.2.1 pc = .ok (.iinc 9 1, 3)) (hn : pc + 3 = n) (hp : okv a8 = true) (h : V M n [a0, a1, a2, a3, a4, a5, a6, a7, a8, some (.int (nI (i + 1))), a10, a11] st w Q) : V M pc [a0, a1, a2, a3, a4, a5, a6, a7, a8, some (.int (nI i)), a10, a11] st w Q := v_iinc (v := nI (i + 1)) n hd hn rfl (by rw [← nI_1]; rfl) (by rw [hN]; decide) hp rfl h
theorem li_1_0 {x : Int32} (n : Nat) (hd : decode M.2.1 pc = .ok (.iload_n 0, 1)) (hn : pc + 1 = n) (h : V M n [some (.int x)] (.int x :: st) w Q) : V M pc [some (.int x)] st w Q := v_iload_n n hd hn rfl h
theorem li_2_0 {a1 : Option Value} {x : Int32} (n : Nat) (hd : decode M.2.1 pc = .ok (.iload_n 0, 1)) (hn : pc + 1 = n) (h : V M n [some (.int x), a1] (.int x :: st) w Q) : V M pc [some (.int x), a1] st w Q := v_iload_n n hd hn rfl h
theorem li_2_1 {a0 : Option Value} {x : Int32} (n : Nat) (hd : decode M.2.1 pc = .ok (.iload_n 1, 1)) (hn : pc + 1 = n) (h : V M n [a0, some (.int x)] (.int x :: st) w Q) : V M pc [a0, some (.int x)] st w Q := v_iload_n n hd hn rfl h
theorem li_3_0 {a1 a2 : Option Value} {x : Int32} (n : Nat) (hd : decode M.2.1 pc = .ok (.iload_n 0, 1)) (hn : pc + 1 = n) (h : V M n [some (.int x), a1, a2] (.int x :: st) w Q) : V M pc [some (.int x), a1, a2] st w Q := v_iload_n n hd hn rfl h
theorem li_3_1 {a0 a2 : Option Value} {x : Int32} (n : Nat) (hd : decode M.2.1 pc = .ok (.iload_n 1, 1)) (hn : pc + 1 = n) (h : V M n [a0, some (.int x), a2] (.int x :: st) w Q) : V M pc [a0, some (.int x), a2] st w Q := v_iload_n n hd hn rfl h
theorem li_3_2 {a0 a1 : Option Value} {x : Int32} (n : Nat) (hd : decode M.2.1 pc = .ok (.iload_n 2, 1)) (hn : pc + 1 = n) (h : V M n [a0, a1, some (.int x)] (.int x :: st) w Q) : V M pc [a0, a1, some (.int x)] st w Q := v_iload_n n hd hn rfl h
theorem li_4_0 {a1 a2 a3 : Option Value} {x : Int32} (n : Nat) (hd : decode M.2.1 pc = .ok (.iload_n 0, 1)) (hn : pc + 1 = n) (h : V M n [some (.int x), a1, a2, a3] (.int x :: st) w Q) : V M pc [some (.int x), a1, a2, a3] st w Q := v_iload_n n hd hn rfl h
theorem li_4_1 {a0 a2 a3 : Option Value} {x : Int32} (n : Nat) (hd : decode M.2.1 pc = .ok (.iload_n 1, 1)) (hn : pc + 1 = n) (h : V M n [a0, some (.int x), a2, a3] (.int x :: st) w Q) : V M pc [a0, some (.int x), a2, a3] st w Q := v_iload_n n hd hn rfl h
theorem li_4_2 {a0 a1 a3 : Option Value} {x : Int32} (n : Nat) (hd : decode M.2.1 pc = .ok (.iload_n 2, 1)) (hn : pc + 1 = n) (h : V M n [a0, a1, some (.int x), a3] (.int x :: st) w Q) : V M pc [a0, a1, some (.int x), a3] st w Q := v_iload_n n hd hn rfl h
theorem li_4_3 {a0 a1 a2 : Option Value} {x : Int32} (n : Nat) (hd : decode M.2.1 pc = .ok (.iload_n 3, 1)) (hn : pc + 1 = n) (h : V M n [a0, a1, a2, some (.int x)] (.int x :: st) w Q) : V M pc [a0, a1, a2, some (.int x)] st w Q := v_iload_n n hd hn rfl h
theorem li_5_0 {a1 a2 a3 a4 : Option Value} {x : Int32} (n : Nat) (hd : decode M.2.1 pc = .ok (.iload_n 0, 1)) (hn : pc + 1 = n) (h : V M n [some (.int x), a1, a2, a3, a4] (.int x :: st) w Q) : V M pc [some (.int x), a1, a2, a3, a4] st w Q := v_iload_n n hd hn rfl h
theorem li_5_1 {a0 a2 a3 a4 : Option Value} {x : Int32} (n : Nat) (hd : decode M.2.1 pc = .ok (.iload_n 1, 1)) (hn : pc + 1 = n) (h : V M n [a0, some (.int x), a2, a3, a4] (.int x :: st) w Q) : V M pc [a0, some (.int x), a2, a3, a4] st w Q := v_iload_n n hd hn rfl h
theorem li_5_2 {a0 a1 a3 a4 : Option Value} {x : Int32} (n : Nat) (hd : decode M.2.1 pc = .ok (.iload_n 2, 1)) (hn : pc + 1 = n) (h : V M n [a0, a1, some (.int x), a3, a4] (.int x :: st) w Q) : V M pc [a0, a1, some (.int x), a3, a4] st w Q := v_iload_n n hd hn rfl h
theorem li_5_3 {a0 a1 a2 a4 : Option Value} {x : Int32} (n : Nat) (hd : decode M.2.1 pc = .ok (.iload_n 3, 1)) (hn : pc + 1 = n) (h : V M n [a0, a1, a2, some (.int x), a4] (.int x :: st) w Q) : V M pc [a0, a1, a2, some (.int x), a4] st w Q := v_iload_n n hd hn rfl h
theorem li_5_4 {a0 a1 a2 a3 : Option Value} {x : Int32} (n : Nat) (hd : decode M.2.1 pc = .ok (.iload 4, 2)) (hn : pc + 2 = n) (h : V M n [a0, a1, a2, a3, some (.int x)] (.int x :: st) w Q) : V M pc [a0, a1, a2, a3, some (.int x)] st w Q := v_iload n hd hn rfl h
theorem li_6_1 {a0 a2 a3 a4 a5 : Option Value} {x : Int32} (n : Nat) (hd : decode M.2.1 pc = .ok (.iload_n 1, 1)) (hn : pc + 1 = n) (h : V M n [a0, some (.int x), a2, a3, a4, a5] (.int x :: st) w Q) : V M pc [a0, some (.int x), a2, a3, a4, a5] st w Q := v_iload_n n hd hn rfl h
theorem li_6_2 {a0 a1 a3 a4 a5 : Option Value} {x : Int32} (n : Nat) (hd : decode M.2.1 pc = .ok (.iload_n 2, 1)) (hn : pc + 1 = n) (h : V M n [a0, a1, some (.int x), a3, a4, a5] (.int x :: st) w Q) : V M pc [a0, a1, some (.int x), a3, a4, a5] st w Q := v_iload_n n hd hn rfl h
theorem li_6_3 {a0 a1 a2 a4 a5 : Option Value} {x : Int32} (n : Nat) (hd : decode M.2.1 pc = .ok (.iload_n 3, 1)) (hn : pc + 1 = n) (h : V M n [a0, a1, a2, some (.int x), a4, a5] (.int x :: st) w Q) : V M pc [a0, a1, a2, some (.int x), a4, a5] st w Q := v_iload_n n hd hn rfl h
theorem li_6_4 {a0 a1 a2 a3 a5 : Option Value} {x : Int32} (n : Nat) (hd : decode M.2.1 pc = .ok (.iload 4, 2)) (hn : pc + 2 = n) (h : V M n [a0, a1, a2, a3, some (.int x), a5] (.int x :: st) w Q) : V M pc [a0, a1, a2, a3, some (.int x), a5] st w Q := v_iload n hd hn rfl h
theorem li_6_5 {a0 a1 a2 a3 a4 : Option Value} {x : Int32} (n : Nat) (hd : decode M.2.1 pc = .ok (.iload 5, 2)) (hn : pc + 2 = n) (h : V M n [a0, a1, a2, a3, a4, some (.int x)] (.int x :: st) w Q) : V M pc [a0, a1, a2, a3, a4, some (.int x)] st w Q := v_iload n hd hn rfl h
theorem li_7_1 {a0 a2 a3 a4 a5 a6 : Option Value} {x : Int32} (n : Nat) (hd : decode M.2.1 pc = .ok (.iload_n 1, 1)) (hn : pc + 1 = n) (h : V M n [a0, some (.int x), a2, a3, a4, a5, a6] (.int x :: st) w Q) : V M pc [a0, some (.int x), a2, a3, a4, a5, a6] st w Q := v_iload_n n hd hn rfl h
theorem li_7_2 {a0 a1 a3 a4 a5 a6 : Option Value} {x : Int32} (n : Nat) (hd : decode M.2.1 pc = .ok (.iload_n 2, 1)) (hn : pc + 1 = n) (h : V M n [a0, a1, some (.int x), a3, a4, a5, a6] (.int x :: st) w Q) : V M pc [a0, a1, some (.int x), a3, a4, a5, a6] st w Q := v_iload_n n hd hn rfl h
theorem li_7_3 {a0 a1 a2 a4 a5 a6 : Option Value} {x : Int32} (n : Nat) (hd : decode M.2.1 pc = .ok (.iload_n 3, 1)) (hn : pc + 1 = n) (h : V M n [a0, a1, a2, some (.int x), a4, a5, a6] (.int x :: st) w Q) : V M pc [a0, a1, a2, some (.int x), a4, a5, a6] st w Q := v_iload_n n hd hn rfl h
theorem li_7_4 {a0 a1 a2 a3 a5 a6 : Option Value} {x : Int32} (n : Nat) (hd : decode M.2.1 pc = .ok (.iload 4, 2)) (hn : pc + 2 = n) (h : V M n [a0, a1, a2, a3, some (.int x), a5, a6] (.int x :: st) w Q) : V M pc [a0, a1, a2, a3, some (.int x), a5, a6] st w Q := v_iload n hd hn rfl h
theorem li_7_5 {a0 a1 a2 a3 a4 a6 : Option Value} {x : Int32} (n : Nat) (hd : decode M.2.1 pc = .ok (.iload 5, 2)) (hn : pc + 2 = n) (h : V M n [a0, a1, a2, a3, a4, some (.int x), a6] (.int x :: st) w Q) : V M pc [a0, a1, a2, a3, a4, some (.int x), a6] st w Q := v_iload n hd hn rfl h
theorem li_7_6 {a0 a1 a2 a3 a4 a5 : Option Value} {x : Int32} (n : Nat) (hd : decode M.2.1 pc = .ok (.iload 6, 2)) (hn : pc + 2 = n) (h : V M n [a0, a1, a2, a3, a4, a5, some (.int x)] (.int x :: st) w Q) : V M pc [a0, a1, a2, a3, a4, a5, some (.int x)] st w Q := v_iload n hd hn rfl h
theorem li_8_1 {a0 a2 a3 a4 a5 a6 a7 : Option Value} {x : Int32} (n : Nat) (hd : decode M.2.1 pc = .ok (.iload_n 1, 1)) (hn : pc + 1 = n) (h : V M n [a0, some (.int x), a2, a3, a4, a5, a6, a7] (.int x :: st) w Q) : V M pc [a0, some (.int x), a2, a3, a4, a5, a6, a7] st w Q := v_iload_n n hd hn rfl h
theorem li_8_2 {a0 a1 a3 a4 a5 a6 a7 : Option Value} {x : Int32} (n : Nat) (hd : decode M.2.1 pc = .ok (.iload_n 2, 1)) (hn : pc + 1 = n) (h : V M n [a0, a1, some (.int x), a3, a4, a5, a6, a7] (.int x :: st) w Q) : V M pc [a0, a1, some (.int x), a3, a4, a5, a6, a7] st w Q := v_iload_n n hd hn rfl h
theorem li_8_3 {a0 a1 a2 a4 a5 a6 a7 : Option Value} {x : Int32} (n : Nat) (hd : decode M.2.1 pc = .ok (.iload_n 3, 1)) (hn : pc + 1 = n) (h : V M n [a0, a1, a2, some (.int x), a4, a5, a6, a7] (.int x :: st) w Q) : V M pc [a0, a1, a2, some (.int x), a4, a5, a6, a7] st w Q := v_iload_n n hd hn rfl h
theorem li_8_4 {a0 a1 a2 a3 a5 a6 a7 : Option Value} {x : Int32} (n : Nat) (hd : decode M.2.1 pc = .ok (.iload 4, 2)) (hn : pc + 2 = n) (h : V M n [a0, a1, a2, a3, some (.int x), a5, a6, a7] (.int x :: st) w Q) : V M pc [a0, a1, a2, a3, some (.int x), a5, a6, a7] st w Q := v_iload n hd hn rfl h
theorem li_8_5 {a0 a1 a2 a3 a4 a6 a7 : Option Value} {x : Int32} (n : Nat) (hd : decode M.2.1 pc = .ok (.iload 5, 2)) (hn : pc + 2 = n) (h : V M n [a0, a1, a2, a3, a4, some (.int x), a6, a7] (.int x :: st) w Q) : V M pc [a0, a1, a2, a3, a4, some (.int x), a6, a7] st w Q := v_iload n hd hn rfl h
theorem li_8_6 {a0 a1 a2 a3 a4 a5 a7 : Option Value} {x : Int32} (n : Nat) (hd : decode M.2.1 pc = .ok (.iload 6, 2)) (hn : pc + 2 = n) (h : V M n [a0, a1, a2, a3, a4, a5, some (.int x), a7] (.int x :: st) w Q) : V M pc [a0, a1, a2, a3, a4, a5, some (.int x), a7] st w Q := v_iload n hd hn rfl h
theorem li_8_7 {a0 a1 a2 a3 a4 a5 a6 : Option Value} {x : Int32} (n : Nat) (hd : decode M.2.1 pc = .ok (.iload 7, 2)) (hn : pc + 2 = n) (h : V M n [a0, a1, a2, a3, a4, a5, a6, some (.int x)] (.int x :: st) w Q) : V M pc [a0, a1, a2, a3, a4, a5, a6, some (.int x)] st w Q := v_iload n hd hn rfl h
theorem li_9_4 {a0 a1 a2 a3 a5 a6 a7 a8 : Option Value} {x : Int32} (n : Nat) (hd : decode M.2.1 pc = .ok (.iload 4, 2)) (hn : pc + 2 = n) (h : V M n [a0, a1, a2, a3, some (.int x), a5, a6, a7, a8] (.int x :: st) w Q) : V M pc [a0, a1, a2, a3, some (.int x), a5, a6, a7, a8] st w Q := v_iload n hd hn rfl h
theorem li_10_1 {a0 a2 a3 a4 a5 a6 a7 a8 a9 : Option Value} {x : Int32} (n : Nat) (hd : decode M.2.1 pc = .ok (.iload_n 1, 1)) (hn : pc + 1 = n) (h : V M n [a0, some (.int x), a2, a3, a4, a5, a6, a7, a8, a9] (.int x :: st) w Q) : V M pc [a0, some (.int x), a2, a3, a4, a5, a6, a7, a8, a9] st w Q := v_iload_n n hd hn rfl h
theorem li_10_2 {a0 a1 a3 a4 a5 a6 a7 a8 a9 : Option Value} {x : Int32} (n : Nat) (hd : decode M.2.1 pc = .ok (.iload_n 2, 1)) (hn : pc + 1 = n) (h : V M n [a0, a1, some (.int x), a3, a4, a5, a6, a7, a8, a9] (.int x :: st) w Q) : V M pc [a0, a1, some (.int x), a3, a4, a5, a6, a7, a8, a9] st w Q := v_iload_n n hd hn rfl h
theorem li_10_3 {a0 a1 a2 a4 a5 a6 a7 a8 a9 : Option Value} {x : Int32} (n : Nat) (hd : decode M.2.1 pc = .ok (.iload_n 3, 1)) (hn : pc + 1 = n) (h : V M n [a0, a1, a2, some (.int x), a4, a5, a6, a7, a8, a9] (.int x :: st) w Q) : V M pc [a0, a1, a2, some (.int x), a4, a5, a6, a7, a8, a9] st w Q := v_iload_n n hd hn rfl h
theorem li_10_4 {a0 a1 a2 a3 a5 a6 a7 a8 a9 : Option Value} {x : Int32} (n : Nat) (hd : decode M.2.1 pc = .ok (.iload 4, 2)) (hn : pc + 2 = n) (h : V M n [a0, a1, a2, a3, some (.int x), a5, a6, a7, a8, a9] (.int x :: st) w Q) : V M pc [a0, a1, a2, a3, some (.int x), a5, a6, a7, a8, a9] st w Q := v_iload n hd hn rfl h
theorem li_10_5 {a0 a1 a2 a3 a4 a6 a7 a8 a9 : Option Value} {x : Int32} (n : Nat) (hd : decode M.2.1 pc = .ok (.iload 5, 2)) (hn : pc + 2 = n) (h : V M n [a0, a1, a2, a3, a4, some (.int x), a6, a7, a8, a9] (.int x :: st) w Q) : V M pc [a0, a1, a2, a3, a4, some (.int x), a6, a7, a8, a9] st w Q := v_iload n hd hn rfl h
theorem li_10_6 {a0 a1 a2 a3 a4 a5 a7 a8 a9 : Option Value} {x : Int32} (n : Nat) (hd : decode M.2.1 pc = .ok (.iload 6, 2)) (hn : pc + 2 = n) (h : V M n [a0, a1, a2, a3, a4, a5, some (.int x), a7, a8, a9] (.int x :: st) w Q) : V M pc [a0, a1, a2, a3, a4, a5, some (.int x), a7, a8, a9] st w Q := v_iload n hd hn rfl h
theorem li_10_7 {a0 a1 a2 a3 a4 a5 a6 a8 a9 : Option Value} {x : Int32} (n : Nat) (hd : decode M.2.1 pc = .ok (.iload 7, 2)) (hn : pc + 2 = n) (h : V M n [a0, a1, a2, a3, a4, a5, a6, some (.int x), a8, a9] (.int x :: st) w Q) : V M pc [a0, a1, a2, a3, a4, a5, a6, some (.int x), a8, a9] st w Q := v_iload n hd hn rfl h
theorem li_10_8 {a0 a1 a2 a3 a4 a5 a6 a7 a9 : Option Value} {x : Int32} (n : Nat) (hd : decode M.2.1 pc = .ok (.iload 8, 2)) (hn : pc + 2 = n) (h : V M n [a0, a1, a2, a3, a4, a5, a6, a7, some (.int x), a9] (.int x :: st) w Q) : V M pc [a0, a1, a2, a3, a4, a5, a6, a7, some (.int x), a9] st w Q := v_iload n hd hn rfl h
theorem li_11_8 {a0 a1 a2 a3 a4 a5 a6 a7 a9 a10 : Option Value} {x : Int32} (n : Nat) (hd : decode M.2.1 pc = .ok (.iload 8, 2)) (hn : pc + 2 = n) (h : V M n [a0, a1, a2, a3, a4, a5, a6, a7, some (.int x), a9, a10] (.int x :: st) w Q) : V M pc [a0, a1, a2, a3, a4, a5, a6, a7, some (.int x), a9, a10] st w Q := v_iload n hd hn rfl h
theorem li_12_1 {a0 a2 a3 a4 a5 a6 a7 a8 a9 a10 a11 : Option Value} {x : Int32} (n : Nat) (hd : decode M.2.1 pc = .ok (.iload_n 1, 1)) (hn : pc + 1 = n) (h : V M n [a0, some (.int x), a2, a3, a4, a5, a6, a7, a8, a9, a10, a11] (.int x :: st) w Q) : V M pc [a0, some (.int x), a2, a3, a4, a5, a6, a7, a8, a9, a10, a11] st w Q := v_iload_n n hd hn rfl h
theorem li_12_2 {a0 a1 a3 a4 a5 a6 a7 a8 a9 a10 a11 : Option Value} {x : Int32} (n : Nat) (hd : decode M.2.1 pc = .ok (.iload_n 2, 1)) (hn : pc + 1 = n) (h : V M n [a0, a1, some (.int x), a3, a4, a5, a6, a7, a8, a9, a10, a11] (.int x :: st) w Q) : V M pc [a0, a1, some (.int x), a3, a4, a5, a6, a7, a8, a9, a10, a11] st w Q := v_iload_n n hd hn rfl h
theorem li_12_3 {a0 a1 a2 a4 a5 a6 a7 a8 a9 a10 a11 : Option Value} {x : Int32} (n : Nat) (hd : decode M.2.1 pc = .ok (.iload_n 3, 1)) (hn : pc + 1 = n) (h : V M n [a0, a1, a2, some (.int x), a4, a5, a6, a7, a8, a9, a10, a11] (.int x :: st) w Q) : V M pc [a0, a1, a2, some (.int x), a4, a5, a6, a7, a8, a9, a10, a11] st w Q := v_iload_n n hd hn rfl h
theorem li_12_4 {a0 a1 a2 a3 a5 a6 a7 a8 a9 a10 a11 : Option Value} {x : Int32} (n : Nat) (hd : decode M.2.1 pc = .ok (.iload 4, 2)) (hn : pc + 2 = n) (h : V M n [a0, a1, a2, a3, some (.int x), a5, a6, a7, a8, a9, a10, a11] (.int x :: st) w Q) : V M pc [a0, a1, a2, a3, some (.int x), a5, a6, a7, a8, a9, a10, a11] st w Q := v_iload n hd hn rfl h
theorem li_12_5 {a0 a1 a2 a3 a4 a6 a7 a8 a9 a10 a11 : Option Value} {x : Int32} (n : Nat) (hd : decode M.2.1 pc = .ok (.iload 5, 2)) (hn : pc + 2 = n) (h : V M n [a0, a1, a2, a3, a4, some (.int x), a6, a7, a8, a9, a10, a11] (.int x :: st) w Q) : V M pc [a0, a1, a2, a3, a4, some (.int x), a6, a7, a8, a9, a10, a11] st w Q := v_iload n hd hn rfl h
theorem li_12_6 {a0 a1 a2 a3 a4 a5 a7 a8 a9 a10 a11 : Option Value} {x : Int32} (n : Nat) (hd : decode M.2.1 pc = .ok (.iload 6, 2)) (hn : pc + 2 = n) (h : V M n [a0, a1, a2, a3, a4, a5, some (.int x), a7, a8, a9, a10, a11] (.int x :: st) w Q) : V M pc [a0, a1, a2, a3, a4, a5, some (.int x), a7, a8, a9, a10, a11] st w Q := v_iload n hd hn rfl h
theorem li_12_7 {a0 a1 a2 a3 a4 a5 a6 a8 a9 a10 a11 : Option Value} {x : Int32} (n : Nat) (hd : decode M.2.1 pc = .ok (.iload 7, 2)) (hn : pc + 2 = n) (h : V M n [a0, a1, a2, a3, a4, a5, a6, some (.int x), a8, a9, a10, a11] (.int x :: st) w Q) : V M pc [a0, a1, a2, a3, a4, a5, a6, some (.int x), a8, a9, a10, a11] st w Q := v_iload n hd hn rfl h
theorem li_12_8 {a0 a1 a2 a3 a4 a5 a6 a7 a9 a10 a11 : Option Value} {x : Int32} (n : Nat) (hd : decode M.2.1 pc = .ok (.iload 8, 2)) (hn : pc + 2 = n) (h : V M n [a0, a1, a2, a3, a4, a5, a6, a7, some (.int x), a9, a10, a11] (.int x :: st) w Q) : V M pc [a0, a1, a2, a3, a4, a5, a6, a7, some (.int x), a9, a10, a11] st w Q := v_iload n hd hn rfl h
theorem li_12_9 {a0 a1 a2 a3 a4 a5 a6 a7 a8 a10 a11 : Option Value} {x : Int32} (n : Nat) (hd : decode M.2.1 pc = .ok (.iload 9, 2)) (hn : pc + 2 = n) (h : V M n [a0, a1, a2, a3, a4, a5, a6, a7, a8, some (.int x), a10, a11] (.int x :: st) w Q) : V M pc [a0, a1, a2, a3, a4, a5, a6, a7, a8, some (.int x), a10, a11] st w Q := v_iload n hd hn rfl h
theorem li_12_10 {a0 a1 a2 a3 a4 a5 a6 a7 a8 a9 a11 : Option Value} {x : Int32} (n : Nat) (hd : decode M.2.1 pc = .ok (.iload 10, 2)) (hn : pc + 2 = n) (h : V M n [a0, a1, a2, a3, a4, a5, a6, a7, a8, a9, some (.int x), a11] (.int x :: st) w Q) : V M pc [a0, a1, a2, a3, a4, a5, a6, a7, a8, a9, some (.int x), a11] st w Q := v_iload n hd hn rfl h
theorem li_12_11 {a0 a1 a2 a3 a4 a5 a6 a7 a8 a9 a10 : Option Value} {x : Int32} (n : Nat) (hd : decode M.2.1 pc = .ok (.iload 11, 2)) (hn : pc + 2 = n) (h : V M n [a0, a1, a2, a3, a4, a5, a6, a7, a8, a9, a10, some (.int x)] (.int x :: st) w Q) : V M pc [a0, a1, a2, a3, a4, a5, a6, a7, a8, a9, a10, some (.int x)] st w Q := v_iload n hd hn rfl h
theorem si_1_0 {a0 : Option Value} {x : Int32} (hN : M.2.2.1 = 1) (n : Nat) (hd : decode M.2.1 pc = .ok (.istore_n 0, 1)) (hn : pc + 1 = n) (h : V M n [some (.int x)] st w Q) : V M pc [a0] (.int x :: st) w Q := v_istore_n n hd hn (by rw [hN]; decide) rfl rfl h
theorem si_2_1 {a0 a1 : Option Value} {x : Int32} (hN : M.2.2.1 = 2) (n : Nat) (hd : decode M.2.1 pc = .ok (.istore_n 1, 1)) (hn : pc + 1 = n) (hp : okv a0 = true) (h : V M n [a0, some (.int x)] st w Q) : V M pc [a0, a1] (.int x :: st) w Q := v_istore_n n hd hn (by rw [hN]; decide) hp rfl h
theorem si_3_1 {a0 a1 a2 : Option Value} {x : Int32} (hN : M.2.2.1 = 3) (n : Nat) (hd : decode M.2.1 pc = .ok (.istore_n 1, 1)) (hn : pc + 1 = n) (hp : okv a0 = true) (h : V M n [a0, some (.int x), a2] st w Q) : V M pc [a0, a1, a2] (.int x :: st) w Q := v_istore_n n hd hn (by rw [hN]; decide) hp rfl h
theorem si_3_2 {a0 a1 a2 : Option Value} {x : Int32} (hN : M.2.2.1 = 3) (n : Nat) (hd : decode M.2.1 pc = .ok (.istore_n 2, 1)) (hn : pc + 1 = n) (hp : okv a1 = true) (h : V M n [a0, a1, some (.int x)] st w Q) : V M pc [a0, a1, a2] (.int x :: st) w Q := v_istore_n n hd hn (by rw [hN]; decide) hp rfl h
theorem si_4_1 {a0 a1 a2 a3 : Option Value} {x : Int32} (hN : M.2.2.1 = 4) (n : Nat) (hd : decode M.2.1 pc = .ok (.istore_n 1, 1)) (hn : pc + 1 = n) (hp : okv a0 = true) (h : V M n [a0, some (.int x), a2, a3] st w Q) : V M pc [a0, a1, a2, a3] (.int x :: st) w Q := v_istore_n n hd hn (by rw [hN]; decide) hp rfl h
theorem si_4_2 {a0 a1 a2 a3 : Option Value} {x : Int32} (hN : M.2.2.1 = 4) (n : Nat) (hd : decode M.2.1 pc = .ok (.istore_n 2, 1)) (hn : pc + 1 = n) (hp : okv a1 = true) (h : V M n [a0, a1, some (.int x), a3] st w Q) : V M pc [a0, a1, a2, a3] (.int x :: st) w Q := v_istore_n n hd hn (by rw [hN]; decide) hp rfl h
theorem si_4_3 {a0 a1 a2 a3 : Option Value} {x : Int32} (hN : M.2.2.1 = 4) (n : Nat) (hd : decode M.2.1 pc = .ok (.istore_n 3, 1)) (hn : pc + 1 = n) (hp : okv a2 = true) (h : V M n [a0, a1, a2, some (.int x)] st w Q) : V M pc [a0, a1, a2, a3] (.int x :: st) w Q := v_istore_n n hd hn (by rw [hN]; decide) hp rfl h
theorem si_5_1 {a0 a1 a2 a3 a4 : Option Value} {x : Int32} (hN : M.2.2.1 = 5) (n : Nat) (hd : decode M.2.1 pc = .ok (.istore_n 1, 1)) (hn : pc + 1 = n) (hp : okv a0 = true) (h : V M n [a0, some (.int x), a2, a3, a4] st w Q) : V M pc [a0, a1, a2, a3, a4] (.int x :: st) w Q := v_istore_n n hd hn (by rw [hN]; decide) hp rfl h
theorem si_5_2 {a0 a1 a2 a3 a4 : Option Value} {x : Int32} (hN : M.2.2.1 = 5) (n : Nat) (hd : decode M.2.1 pc = .ok (.istore_n 2, 1)) (hn : pc + 1 = n) (hp : okv a1 = true) (h : V M n [a0, a1, some (.int x), a3, a4] st w Q) : V M pc [a0, a1, a2, a3, a4] (.int x :: st) w Q := v_istore_n n hd hn (by rw [hN]; decide) hp rfl h
theorem si_5_3 {a0 a1 a2 a3 a4 : Option Value} {x : Int32} (hN : M.2.2.1 = 5) (n : Nat) (hd : decode M.2.1 pc = .ok (.istore_n 3, 1)) (hn : pc + 1 = n) (hp : okv a2 = true) (h : V M n [a0, a1, a2, some (.int x), a4] st w Q) : V M pc [a0, a1, a2, a3, a4] (.int x :: st) w Q := v_istore_n n hd hn (by rw [hN]; decide) hp rfl h
theorem si_5_4 {a0 a1 a2 a3 a4 : Option Value} {x : Int32} (hN : M.2.2.1 = 5) (n : Nat) (hd : decode M.2.1 pc = .ok (.istore 4, 2)) (hn : pc + 2 = n) (hp : okv a3 = true) (h : V M n [a0, a1, a2, a3, some (.int x)] st w Q) : V M pc [a0, a1, a2, a3, a4] (.int x :: st) w Q := v_istore n hd hn (by rw [hN]; decide) hp rfl h
theorem si_6_2 {a0 a1 a2 a3 a4 a5 : Option Value} {x : Int32} (hN : M.2.2.1 = 6) (n : Nat) (hd : decode M.2.1 pc = .ok (.istore_n 2, 1)) (hn : pc + 1 = n) (hp : okv a1 = true) (h : V M n [a0, a1, some (.int x), a3, a4, a5] st w Q) : V M pc [a0, a1, a2, a3, a4, a5] (.int x :: st) w Q := v_istore_n n hd hn (by rw [hN]; decide) hp rfl h
theorem si_6_3 {a0 a1 a2 a3 a4 a5 : Option Value} {x : Int32} (hN : M.2.2.1 = 6) (n : Nat) (hd : decode M.2.1 pc = .ok (.istore_n 3, 1)) (hn : pc + 1 = n) (hp : okv a2 = true) (h : V M n [a0, a1, a2, some (.int x), a4, a5] st w Q) : V M pc [a0, a1, a2, a3, a4, a5] (.int x :: st) w Q := v_istore_n n hd hn (by rw [hN]; decide) hp rfl h
theorem si_6_4 {a0 a1 a2 a3 a4 a5 : Option Value} {x : Int32} (hN : M.2.2.1 = 6) (n : Nat) (hd : decode M.2.1 pc = .ok (.istore 4, 2)) (hn : pc + 2 = n) (hp : okv a3 = true) (h : V M n [a0, a1, a2, a3, some (.int x), a5] st w Q) : V M pc [a0, a1, a2, a3, a4, a5] (.int x :: st) w Q := v_istore n hd hn (by rw [hN]; decide) hp rfl h
theorem si_6_5 {a0 a1 a2 a3 a4 a5 : Option Value} {x : Int32} (hN : M.2.2.1 = 6) (n : Nat) (hd : decode M.2.1 pc = .ok (.istore 5, 2)) (hn : pc + 2 = n) (hp : okv a4 = true) (h : V M n [a0, a1, a2, a3, a4, some (.int x)] st w Q) : V M pc [a0, a1, a2, a3, a4, a5] (.int x :: st) w Q := v_istore n hd hn (by rw [hN]; decide) hp rfl h
theorem si_7_2 {a0 a1 a2 a3 a4 a5 a6 : Option Value} {x : Int32} (hN : M.2.2.1 = 7) (n : Nat) (hd : decode M.2.1 pc = .ok (.istore_n 2, 1)) (hn : pc + 1 = n) (hp : okv a1 = true) (h : V M n [a0, a1, some (.int x), a3, a4, a5, a6] st w Q) : V M pc [a0, a1, a2, a3, a4, a5, a6] (.int x :: st) w Q := v_istore_n n hd hn (by rw [hN]; decide) hp rfl h
theorem si_7_3 {a0 a1 a2 a3 a4 a5 a6 : Option Value} {x : Int32} (hN : M.2.2.1 = 7) (n : Nat) (hd : decode M.2.1 pc = .ok (.istore_n 3, 1)) (hn : pc + 1 = n) (hp : okv a2 = true) (h : V M n [a0, a1, a2, some (.int x), a4, a5, a6] st w Q) : V M pc [a0, a1, a2, a3, a4, a5, a6] (.int x :: st) w Q := v_istore_n n hd hn (by rw [hN]; decide) hp rfl h
theorem si_7_4 {a0 a1 a2 a3 a4 a5 a6 : Option Value} {x : Int32} (hN : M.2.2.1 = 7) (n : Nat) (hd : decode M.2.1 pc = .ok (.istore 4, 2)) (hn : pc + 2 = n) (hp : okv a3 = true) (h : V M n [a0, a1, a2, a3, some (.int x), a5, a6] st w Q) : V M pc [a0, a1, a2, a3, a4, a5, a6] (.int x :: st) w Q := v_istore n hd hn (by rw [hN]; decide) hp rfl h
theorem si_7_5 {a0 a1 a2 a3 a4 a5 a6 : Option Value} {x : Int32} (hN : M.2.2.1 = 7) (n : Nat) (hd : decode M.2.1 pc = .ok (.istore 5, 2)) (hn : pc + 2 = n) (hp : okv a4 = true) (h : V M n [a0, a1, a2, a3, a4, some (.int x), a6] st w Q) : V M pc [a0, a1, a2, a3, a4, a5, a6] (.int x :: st) w Q := v_istore n hd hn (by rw [hN]; decide) hp rfl h
theorem si_7_6 {a0 a1 a2 a3 a4 a5 a6 : Option Value} {x : Int32} (hN : M.2.2.1 = 7) (n : Nat) (hd : decode M.2.1 pc = .ok (.istore 6, 2)) (hn : pc + 2 = n) (hp : okv a5 = true) (h : V M n [a0, a1, a2, a3, a4, a5, some (.int x)] st w Q) : V M pc [a0, a1, a2, a3, a4, a5, a6] (.int x :: st) w Q := v_istore n hd hn (by rw [hN]; decide) hp rfl h
theorem si_8_5 {a0 a1 a2 a3 a4 a5 a6 a7 : Option Value} {x : Int32} (hN : M.2.2.1 = 8) (n : Nat) (hd : decode M.2.1 pc = .ok (.istore 5, 2)) (hn : pc + 2 = n) (hp : okv a4 = true) (h : V M n [a0, a1, a2, a3, a4, some (.int x), a6, a7] st w Q) : V M pc [a0, a1, a2, a3, a4, a5, a6, a7] (.int x :: st) w Q := v_istore n hd hn (by rw [hN]; decide) hp rfl h
theorem si_8_6 {a0 a1 a2 a3 a4 a5 a6 a7 : Option Value} {x : Int32} (hN : M.2.2.1 = 8) (n : Nat) (hd : decode M.2.1 pc = .ok (.istore 6, 2)) (hn : pc + 2 = n) (hp : okv a5 = true) (h : V M n [a0, a1, a2, a3, a4, a5, some (.int x), a7] st w Q) : V M pc [a0, a1, a2, a3, a4, a5, a6, a7] (.int x :: st) w Q := v_istore n hd hn (by rw [hN]; decide) hp rfl h
theorem si_8_7 {a0 a1 a2 a3 a4 a5 a6 a7 : Option Value} {x : Int32} (hN : M.2.2.1 = 8) (n : Nat) (hd : decode M.2.1 pc = .ok (.istore 7, 2)) (hn : pc + 2 = n) (hp : okv a6 = true) (h : V M n [a0, a1, a2, a3, a4, a5, a6, some (.int x)] st w Q) : V M pc [a0, a1, a2, a3, a4, a5, a6, a7] (.int x :: st) w Q := v_istore n hd hn (by rw [hN]; decide) hp rfl h
theorem si_10_3 {a0 a1 a2 a3 a4 a5 a6 a7 a8 a9 : Option Value} {x : Int32} (hN : M.2.2.1 = 10) (n : Nat) (hd : decode M.2.1 pc = .ok (.istore_n 3, 1)) (hn : pc + 1 = n) (hp : okv a2 = true) (h : V M n [a0, a1, a2, some (.int x), a4, a5, a6, a7, a8, a9] st w Q) : V M pc [a0, a1, a2, a3, a4, a5, a6, a7, a8, a9] (.int x :: st) w Q := v_istore_n n hd hn (by rw [hN]; decide) hp rfl h
theorem si_10_4 {a0 a1 a2 a3 a4 a5 a6 a7 a8 a9 : Option Value} {x : Int32} (hN : M.2.2.1 = 10) (n : Nat) (hd : decode M.2.1 pc = .ok (.istore 4, 2)) (hn : pc + 2 = n) (hp : okv a3 = true) (h : V M n [a0, a1, a2, a3, some (.int x), a5, a6, a7, a8, a9] st w Q) : V M pc [a0, a1, a2, a3, a4, a5, a6, a7, a8, a9] (.int x :: st) w Q := v_istore n hd hn (by rw [hN]; decide) hp rfl h
theorem si_10_5 {a0 a1 a2 a3 a4 a5 a6 a7 a8 a9 : Option Value} {x : Int32} (hN : M.2.2.1 = 10) (n : Nat) (hd : decode M.2.1 pc = .ok (.istore 5, 2)) (hn : pc + 2 = n) (hp : okv a4 = true) (h : V M n [a0, a1, a2, a3, a4, some (.int x), a6, a7, a8, a9] st w Q) : V M pc [a0, a1, a2, a3, a4, a5, a6, a7, a8, a9] (.int x :: st) w Q := v_istore n hd hn (by rw [hN]; decide) hp rfl h
theorem si_10_6 {a0 a1 a2 a3 a4 a5 a6 a7 a8 a9 : Option Value} {x : Int32} (hN : M.2.2.1 = 10) (n : Nat) (hd : decode M.2.1 pc = .ok (.istore 6, 2)) (hn : pc + 2 = n) (hp : okv a5 = true) (h : V M n [a0, a1, a2, a3, a4, a5, some (.int x), a7, a8, a9] st w Q) : V M pc [a0, a1, a2, a3, a4, a5, a6, a7, a8, a9] (.int x :: st) w Q := v_istore n hd hn (by rw [hN]; decide) hp rfl h
theorem si_10_7 {a0 a1 a2 a3 a4 a5 a6 a7 a8 a9 : Option Value} {x : Int32} (hN : M.2.2.1 = 10) (n : Nat) (hd : decode M.2.1 pc = .ok (.istore 7, 2)) (hn : pc + 2 = n) (hp : okv a6 = true) (h : V M n [a0, a1, a2, a3, a4, a5, a6, some (.int x), a8, a9] st w Q) : V M pc [a0, a1, a2, a3, a4, a5, a6, a7, a8, a9] (.int x :: st) w Q := v_istore n hd hn (by rw [hN]; decide) hp rfl h
theorem si_10_8 {a0 a1 a2 a3 a4 a5 a6 a7 a8 a9 : Option Value} {x : Int32} (hN : M.2.2.1 = 10) (n : Nat) (hd : decode M.2.1 pc = .ok (.istore 8, 2)) (hn : pc + 2 = n) (hp : okv a7 = true) (h : V M n [a0, a1, a2, a3, a4, a5, a6, a7, some (.int x), a9] st w Q) : V M pc [a0, a1, a2, a3, a4, a5, a6, a7, a8, a9] (.int x :: st) w Q := v_istore n hd hn (by rw [hN]; decide) hp rfl h
theorem si_11_8 {a0 a1 a2 a3 a4 a5 a6 a7 a8 a9 a10 : Option Value} {x : Int32} (hN : M.2.2.1 = 11) (n : Nat) (hd : decode M.2.1 pc = .ok (.istore 8, 2)) (hn : pc + 2 = n) (hp : okv a7 = true) (h : V M n [a0, a1, a2, a3, a4, a5, a6, a7, some (.int x), a9, a10] st w Q) : V M pc [a0, a1, a2, a3, a4, a5, a6, a7, a8, a9, a10] (.int x :: st) w Q := v_istore n hd hn (by rw [hN]; decide) hp rfl h
theorem si_12_5 {a0 a1 a2 a3 a4 a5 a6 a7 a8 a9 a10 a11 : Option Value} {x : Int32} (hN : M.2.2.1 = 12) (n : Nat) (hd : decode M.2.1 pc = .ok (.istore 5, 2)) (hn : pc + 2 = n) (hp : okv a4 = true) (h : V M n [a0, a1, a2, a3, a4, some (.int x), a6, a7, a8, a9, a10, a11] st w Q) : V M pc [a0, a1, a2, a3, a4, a5, a6, a7, a8, a9, a10, a11] (.int x :: st) w Q := v_istore n hd hn (by rw [hN]; decide) hp rfl h
theorem si_12_6 {a0 a1 a2 a3 a4 a5 a6 a7 a8 a9 a10 a11 : Option Value} {x : Int32} (hN : M.2.2.1 = 12) (n : Nat) (hd : decode M.2.1 pc = .ok (.istore 6, 2)) (hn : pc + 2 = n) (hp : okv a5 = true) (h : V M n [a0, a1, a2, a3, a4, a5, some (.int x), a7, a8, a9, a10, a11] st w Q) : V M pc [a0, a1, a2, a3, a4, a5, a6, a7, a8, a9, a10, a11] (.int x :: st) w Q := v_istore n hd hn (by rw [hN]; decide) hp rfl h
theorem si_12_7 {a0 a1 a2 a3 a4 a5 a6 a7 a8 a9 a10 a11 : Option Value} {x : Int32} (hN : M.2.2.1 = 12) (n : Nat) (hd : decode M.2.1 pc = .ok (.istore 7, 2)) (hn : pc + 2 = n) (hp : okv a6 = true) (h : V M n [a0, a1, a2, a3, a4, a5, a6, some (.int x), a8, a9, a10, a11] st w Q) : V M pc [a0, a1, a2, a3, a4, a5, a6, a7, a8, a9, a10, a11] (.int x :: st) w Q := v_istore n hd hn (by rw [hN]; decide) hp rfl h
theorem si_12_8 {a0 a1 a2 a3 a4 a5 a6 a7 a8 a9 a10 a11 : Option Value} {x : Int32} (hN : M.2.2.1 = 12) (n : Nat) (hd : decode M.2.1 pc = .ok (.istore 8, 2)) (hn : pc + 2 = n) (hp : okv a7 = true) (h : V M n [a0, a1, a2, a3, a4, a5, a6, a7, some (.int x), a9, a10, a11] st w Q) : V M pc [a0, a1, a2, a3, a4, a5, a6, a7, a8, a9, a10, a11] (.int x :: st) w Q := v_istore n hd hn (by rw [hN]; decide) hp rfl h
theorem si_12_9 {a0 a1 a2 a3 a4 a5 a6 a7 a8 a9 a10 a11 : Option Value} {x : Int32} (hN : M.2.2.1 = 12) (n : Nat) (hd : decode M.2.1 pc = .ok (.istore 9, 2)) (hn : pc + 2 = n) (hp : okv a8 = true) (h : V M n [a0, a1, a2, a3, a4, a5, a6, a7, a8, some (.int x), a10, a11] st w Q) : V M pc [a0, a1, a2, a3, a4, a5, a6, a7, a8, a9, a10, a11] (.int x :: st) w Q := v_istore n hd hn (by rw [hN]; decide) hp rfl h
theorem si_12_10 {a0 a1 a2 a3 a4 a5 a6 a7 a8 a9 a10 a11 : Option Value} {x : Int32} (hN : M.2.2.1 = 12) (n : Nat) (hd : decode M.2.1 pc = .ok (.istore 10, 2)) (hn : pc + 2 = n) (hp : okv a9 = true) (h : V M n [a0, a1, a2, a3, a4, a5, a6, a7, a8, a9, some (.int x), a11] st w Q) : V M pc [a0, a1, a2, a3, a4, a5, a6, a7, a8, a9, a10, a11] (.int x :: st) w Q := v_istore n hd hn (by rw [hN]; decide) hp rfl h
theorem si_12_11 {a0 a1 a2 a3 a4 a5 a6 a7 a8 a9 a10 a11 : Option Value} {x : Int32} (hN : M.2.2.1 = 12) (n : Nat) (hd : decode M.2.1 pc = .ok (.istore 11, 2)) (hn : pc + 2 = n) (hp : okv a10 = true) (h : V M n [a0, a1, a2, a3, a4, a5, a6, a7, a8, a9, a10, some (.int x)] st w Q) : V M pc [a0, a1, a2, a3, a4, a5, a6, a7, a8, a9, a10, a11] (.int x :: st) w Q := v_istore n hd hn (by rw [hN]; decide) hp rfl h
theorem ll_4_1 {a0 a2 a3 : Option Value} {x : Int64} (n : Nat) (hd : decode M.2.1 pc = .ok (.lload_n 1, 1)) (hn : pc + 1 = n) (h : V M n [a0, some (.long x), a2, a3] (.long x :: st) w Q) : V M pc [a0, some (.long x), a2, a3] st w Q := v_lload_n n hd hn rfl h
theorem ll_5_1 {a0 a2 a3 a4 : Option Value} {x : Int64} (n : Nat) (hd : decode M.2.1 pc = .ok (.lload_n 1, 1)) (hn : pc + 1 = n) (h : V M n [a0, some (.long x), a2, a3, a4] (.long x :: st) w Q) : V M pc [a0, some (.long x), a2, a3, a4] st w Q := v_lload_n n hd hn rfl h
theorem ll_5_2 {a0 a1 a3 a4 : Option Value} {x : Int64} (n : Nat) (hd : decode M.2.1 pc = .ok (.lload_n 2, 1)) (hn : pc + 1 = n) (h : V M n [a0, a1, some (.long x), a3, a4] (.long x :: st) w Q) : V M pc [a0, a1, some (.long x), a3, a4] st w Q := v_lload_n n hd hn rfl h
theorem ll_5_3 {a0 a1 a2 a4 : Option Value} {x : Int64} (n : Nat) (hd : decode M.2.1 pc = .ok (.lload_n 3, 1)) (hn : pc + 1 = n) (h : V M n [a0, a1, a2, some (.long x), a4] (.long x :: st) w Q) : V M pc [a0, a1, a2, some (.long x), a4] st w Q := v_lload_n n hd hn rfl h
theorem ll_6_0 {a1 a2 a3 a4 a5 : Option Value} {x : Int64} (n : Nat) (hd : decode M.2.1 pc = .ok (.lload_n 0, 1)) (hn : pc + 1 = n) (h : V M n [some (.long x), a1, a2, a3, a4, a5] (.long x :: st) w Q) : V M pc [some (.long x), a1, a2, a3, a4, a5] st w Q := v_lload_n n hd hn rfl h
theorem ll_6_2 {a0 a1 a3 a4 a5 : Option Value} {x : Int64} (n : Nat) (hd : decode M.2.1 pc = .ok (.lload_n 2, 1)) (hn : pc + 1 = n) (h : V M n [a0, a1, some (.long x), a3, a4, a5] (.long x :: st) w Q) : V M pc [a0, a1, some (.long x), a3, a4, a5] st w Q := v_lload_n n hd hn rfl h
theorem ll_6_4 {a0 a1 a2 a3 a5 : Option Value} {x : Int64} (n : Nat) (hd : decode M.2.1 pc = .ok (.lload 4, 2)) (hn : pc + 2 = n) (h : V M n [a0, a1, a2, a3, some (.long x), a5] (.long x :: st) w Q) : V M pc [a0, a1, a2, a3, some (.long x), a5] st w Q := v_lload n hd hn rfl h
theorem ll_7_2 {a0 a1 a3 a4 a5 a6 : Option Value} {x : Int64} (n : Nat) (hd : decode M.2.1 pc = .ok (.lload_n 2, 1)) (hn : pc + 1 = n) (h : V M n [a0, a1, some (.long x), a3, a4, a5, a6] (.long x :: st) w Q) : V M pc [a0, a1, some (.long x), a3, a4, a5, a6] st w Q := v_lload_n n hd hn rfl h
theorem ll_7_4 {a0 a1 a2 a3 a5 a6 : Option Value} {x : Int64} (n : Nat) (hd : decode M.2.1 pc = .ok (.lload 4, 2)) (hn : pc + 2 = n) (h : V M n [a0, a1, a2, a3, some (.long x), a5, a6] (.long x :: st) w Q) : V M pc [a0, a1, a2, a3, some (.long x), a5, a6] st w Q := v_lload n hd hn rfl h
theorem ll_7_5 {a0 a1 a2 a3 a4 a6 : Option Value} {x : Int64} (n : Nat) (hd : decode M.2.1 pc = .ok (.lload 5, 2)) (hn : pc + 2 = n) (h : V M n [a0, a1, a2, a3, a4, some (.long x), a6] (.long x :: st) w Q) : V M pc [a0, a1, a2, a3, a4, some (.long x), a6] st w Q := v_lload n hd hn rfl h
theorem ll_9_0 {a1 a2 a3 a4 a5 a6 a7 a8 : Option Value} {x : Int64} (n : Nat) (hd : decode M.2.1 pc = .ok (.lload_n 0, 1)) (hn : pc + 1 = n) (h : V M n [some (.long x), a1, a2, a3, a4, a5, a6, a7, a8] (.long x :: st) w Q) : V M pc [some (.long x), a1, a2, a3, a4, a5, a6, a7, a8] st w Q := v_lload_n n hd hn rfl h
theorem ll_9_2 {a0 a1 a3 a4 a5 a6 a7 a8 : Option Value} {x : Int64} (n : Nat) (hd : decode M.2.1 pc = .ok (.lload_n 2, 1)) (hn : pc + 1 = n) (h : V M n [a0, a1, some (.long x), a3, a4, a5, a6, a7, a8] (.long x :: st) w Q) : V M pc [a0, a1, some (.long x), a3, a4, a5, a6, a7, a8] st w Q := v_lload_n n hd hn rfl h
theorem ll_9_5 {a0 a1 a2 a3 a4 a6 a7 a8 : Option Value} {x : Int64} (n : Nat) (hd : decode M.2.1 pc = .ok (.lload 5, 2)) (hn : pc + 2 = n) (h : V M n [a0, a1, a2, a3, a4, some (.long x), a6, a7, a8] (.long x :: st) w Q) : V M pc [a0, a1, a2, a3, a4, some (.long x), a6, a7, a8] st w Q := v_lload n hd hn rfl h
theorem ll_9_7 {a0 a1 a2 a3 a4 a5 a6 a8 : Option Value} {x : Int64} (n : Nat) (hd : decode M.2.1 pc = .ok (.lload 7, 2)) (hn : pc + 2 = n) (h : V M n [a0, a1, a2, a3, a4, a5, a6, some (.long x), a8] (.long x :: st) w Q) : V M pc [a0, a1, a2, a3, a4, a5, a6, some (.long x), a8] st w Q := v_lload n hd hn rfl h
theorem ll_10_0 {a1 a2 a3 a4 a5 a6 a7 a8 a9 : Option Value} {x : Int64} (n : Nat) (hd : decode M.2.1 pc = .ok (.lload_n 0, 1)) (hn : pc + 1 = n) (h : V M n [some (.long x), a1, a2, a3, a4, a5, a6, a7, a8, a9] (.long x :: st) w Q) : V M pc [some (.long x), a1, a2, a3, a4, a5, a6, a7, a8, a9] st w Q := v_lload_n n hd hn rfl h
theorem ll_10_2 {a0 a1 a3 a4 a5 a6 a7 a8 a9 : Option Value} {x : Int64} (n : Nat) (hd : decode M.2.1 pc = .ok (.lload_n 2, 1)) (hn : pc + 1 = n) (h : V M n [a0, a1, some (.long x), a3, a4, a5, a6, a7, a8, a9] (.long x :: st) w Q) : V M pc [a0, a1, some (.long x), a3, a4, a5, a6, a7, a8, a9] st w Q := v_lload_n n hd hn rfl h
theorem ll_10_4 {a0 a1 a2 a3 a5 a6 a7 a8 a9 : Option Value} {x : Int64} (n : Nat) (hd : decode M.2.1 pc = .ok (.lload 4, 2)) (hn : pc + 2 = n) (h : V M n [a0, a1, a2, a3, some (.long x), a5, a6, a7, a8, a9] (.long x :: st) w Q) : V M pc [a0, a1, a2, a3, some (.long x), a5, a6, a7, a8, a9] st w Q := v_lload n hd hn rfl h
theorem ll_10_6 {a0 a1 a2 a3 a4 a5 a7 a8 a9 : Option Value} {x : Int64} (n : Nat) (hd : decode M.2.1 pc = .ok (.lload 6, 2)) (hn : pc + 2 = n) (h : V M n [a0, a1, a2, a3, a4, a5, some (.long x), a7, a8, a9] (.long x :: st) w Q) : V M pc [a0, a1, a2, a3, a4, a5, some (.long x), a7, a8, a9] st w Q := v_lload n hd hn rfl h
theorem ll_10_8 {a0 a1 a2 a3 a4 a5 a6 a7 a9 : Option Value} {x : Int64} (n : Nat) (hd : decode M.2.1 pc = .ok (.lload 8, 2)) (hn : pc + 2 = n) (h : V M n [a0, a1, a2, a3, a4, a5, a6, a7, some (.long x), a9] (.long x :: st) w Q) : V M pc [a0, a1, a2, a3, a4, a5, a6, a7, some (.long x), a9] st w Q := v_lload n hd hn rfl h
theorem ll_11_0 {a1 a2 a3 a4 a5 a6 a7 a8 a9 a10 : Option Value} {x : Int64} (n : Nat) (hd : decode M.2.1 pc = .ok (.lload_n 0, 1)) (hn : pc + 1 = n) (h : V M n [some (.long x), a1, a2, a3, a4, a5, a6, a7, a8, a9, a10] (.long x :: st) w Q) : V M pc [some (.long x), a1, a2, a3, a4, a5, a6, a7, a8, a9, a10] st w Q := v_lload_n n hd hn rfl h
theorem ll_11_2 {a0 a1 a3 a4 a5 a6 a7 a8 a9 a10 : Option Value} {x : Int64} (n : Nat) (hd : decode M.2.1 pc = .ok (.lload_n 2, 1)) (hn : pc + 1 = n) (h : V M n [a0, a1, some (.long x), a3, a4, a5, a6, a7, a8, a9, a10] (.long x :: st) w Q) : V M pc [a0, a1, some (.long x), a3, a4, a5, a6, a7, a8, a9, a10] st w Q := v_lload_n n hd hn rfl h
theorem ll_11_4 {a0 a1 a2 a3 a5 a6 a7 a8 a9 a10 : Option Value} {x : Int64} (n : Nat) (hd : decode M.2.1 pc = .ok (.lload 4, 2)) (hn : pc + 2 = n) (h : V M n [a0, a1, a2, a3, some (.long x), a5, a6, a7, a8, a9, a10] (.long x :: st) w Q) : V M pc [a0, a1, a2, a3, some (.long x), a5, a6, a7, a8, a9, a10] st w Q := v_lload n hd hn rfl h
theorem ll_11_6 {a0 a1 a2 a3 a4 a5 a7 a8 a9 a10 : Option Value} {x : Int64} (n : Nat) (hd : decode M.2.1 pc = .ok (.lload 6, 2)) (hn : pc + 2 = n) (h : V M n [a0, a1, a2, a3, a4, a5, some (.long x), a7, a8, a9, a10] (.long x :: st) w Q) : V M pc [a0, a1, a2, a3, a4, a5, some (.long x), a7, a8, a9, a10] st w Q := v_lload n hd hn rfl h
theorem ll_11_9 {a0 a1 a2 a3 a4 a5 a6 a7 a8 a10 : Option Value} {x : Int64} (n : Nat) (hd : decode M.2.1 pc = .ok (.lload 9, 2)) (hn : pc + 2 = n) (h : V M n [a0, a1, a2, a3, a4, a5, a6, a7, a8, some (.long x), a10] (.long x :: st) w Q) : V M pc [a0, a1, a2, a3, a4, a5, a6, a7, a8, some (.long x), a10] st w Q := v_lload n hd hn rfl h
theorem sl_4_1 {a0 a1 a2 a3 : Option Value} {x : Int64} (hN : M.2.2.1 = 4) (n : Nat) (hd : decode M.2.1 pc = .ok (.lstore_n 1, 1)) (hn : pc + 1 = n) (hp : okv a0 = true) (h : V M n [a0, some (.long x), none, a3] st w Q) : V M pc [a0, a1, a2, a3] (.long x :: st) w Q := v_lstore_n n hd hn (by rw [hN]; decide) hp rfl h
theorem sl_5_2 {a0 a1 a2 a3 a4 : Option Value} {x : Int64} (hN : M.2.2.1 = 5) (n : Nat) (hd : decode M.2.1 pc = .ok (.lstore_n 2, 1)) (hn : pc + 1 = n) (hp : okv a1 = true) (h : V M n [a0, a1, some (.long x), none, a4] st w Q) : V M pc [a0, a1, a2, a3, a4] (.long x :: st) w Q := v_lstore_n n hd hn (by rw [hN]; decide) hp rfl h
theorem sl_5_3 {a0 a1 a2 a3 a4 : Option Value} {x : Int64} (hN : M.2.2.1 = 5) (n : Nat) (hd : decode M.2.1 pc = .ok (.lstore_n 3, 1)) (hn : pc + 1 = n) (hp : okv a2 = true) (h : V M n [a0, a1, a2, some (.long x), none] st w Q) : V M pc [a0, a1, a2, a3, a4] (.long x :: st) w Q := v_lstore_n n hd hn (by rw [hN]; decide) hp rfl h
theorem sl_6_4 {a0 a1 a2 a3 a4 a5 : Option Value} {x : Int64} (hN : M.2.2.1 = 6) (n : Nat) (hd : decode M.2.1 pc = .ok (.lstore 4, 2)) (hn : pc + 2 = n) (hp : okv a3 = true) (h : V M n [a0, a1, a2, a3, some (.long x), none] st w Q) : V M pc [a0, a1, a2, a3, a4, a5] (.long x :: st) w Q := v_lstore n hd hn (by rw [hN]; decide) hp rfl h
theorem sl_7_4 {a0 a1 a2 a3 a4 a5 a6 : Option Value} {x : Int64} (hN : M.2.2.1 = 7) (n : Nat) (hd : decode M.2.1 pc = .ok (.lstore 4, 2)) (hn : pc + 2 = n) (hp : okv a3 = true) (h : V M n [a0, a1, a2, a3, some (.long x), none, a6] st w Q) : V M pc [a0, a1, a2, a3, a4, a5, a6] (.long x :: st) w Q := v_lstore n hd hn (by rw [hN]; decide) hp rfl h
theorem sl_7_5 {a0 a1 a2 a3 a4 a5 a6 : Option Value} {x : Int64} (hN : M.2.2.1 = 7) (n : Nat) (hd : decode M.2.1 pc = .ok (.lstore 5, 2)) (hn : pc + 2 = n) (hp : okv a4 = true) (h : V M n [a0, a1, a2, a3, a4, some (.long x), none] st w Q) : V M pc [a0, a1, a2, a3, a4, a5, a6] (.long x :: st) w Q := v_lstore n hd hn (by rw [hN]; decide) hp rfl h
theorem sl_9_5 {a0 a1 a2 a3 a4 a5 a6 a7 a8 : Option Value} {x : Int64} (hN : M.2.2.1 = 9) (n : Nat) (hd : decode M.2.1 pc = .ok (.lstore 5, 2)) (hn : pc + 2 = n) (hp : okv a4 = true) (h : V M n [a0, a1, a2, a3, a4, some (.long x), none, a7, a8] st w Q) : V M pc [a0, a1, a2, a3, a4, a5, a6, a7, a8] (.long x :: st) w Q := v_lstore n hd hn (by rw [hN]; decide) hp rfl h
theorem sl_9_7 {a0 a1 a2 a3 a4 a5 a6 a7 a8 : Option Value} {x : Int64} (hN : M.2.2.1 = 9) (n : Nat) (hd : decode M.2.1 pc = .ok (.lstore 7, 2)) (hn : pc + 2 = n) (hp : okv a6 = true) (h : V M n [a0, a1, a2, a3, a4, a5, a6, some (.long x), none] st w Q) : V M pc [a0, a1, a2, a3, a4, a5, a6, a7, a8] (.long x :: st) w Q := v_lstore n hd hn (by rw [hN]; decide) hp rfl h
theorem sl_10_4 {a0 a1 a2 a3 a4 a5 a6 a7 a8 a9 : Option Value} {x : Int64} (hN : M.2.2.1 = 10) (n : Nat) (hd : decode M.2.1 pc = .ok (.lstore 4, 2)) (hn : pc + 2 = n) (hp : okv a3 = true) (h : V M n [a0, a1, a2, a3, some (.long x), none, a6, a7, a8, a9] st w Q) : V M pc [a0, a1, a2, a3, a4, a5, a6, a7, a8, a9] (.long x :: st) w Q := v_lstore n hd hn (by rw [hN]; decide) hp rfl h
theorem sl_10_6 {a0 a1 a2 a3 a4 a5 a6 a7 a8 a9 : Option Value} {x : Int64} (hN : M.2.2.1 = 10) (n : Nat) (hd : decode M.2.1 pc = .ok (.lstore 6, 2)) (hn : pc + 2 = n) (hp : okv a5 = true) (h : V M n [a0, a1, a2, a3, a4, a5, some (.long x), none, a8, a9] st w Q) : V M pc [a0, a1, a2, a3, a4, a5, a6, a7, a8, a9] (.long x :: st) w Q := v_lstore n hd hn (by rw [hN]; decide) hp rfl h
theorem sl_10_8 {a0 a1 a2 a3 a4 a5 a6 a7 a8 a9 : Option Value} {x : Int64} (hN : M.2.2.1 = 10) (n : Nat) (hd : decode M.2.1 pc = .ok (.lstore 8, 2)) (hn : pc + 2 = n) (hp : okv a7 = true) (h : V M n [a0, a1, a2, a3, a4, a5, a6, a7, some (.long x), none] st w Q) : V M pc [a0, a1, a2, a3, a4, a5, a6, a7, a8, a9] (.long x :: st) w Q := v_lstore n hd hn (by rw [hN]; decide) hp rfl h
theorem sl_11_4 {a0 a1 a2 a3 a4 a5 a6 a7 a8 a9 a10 : Option Value} {x : Int64} (hN : M.2.2.1 = 11) (n : Nat) (hd : decode M.2.1 pc = .ok (.lstore 4, 2)) (hn : pc + 2 = n) (hp : okv a3 = true) (h : V M n [a0, a1, a2, a3, some (.long x), none, a6, a7, a8, a9, a10] st w Q) : V M pc [a0, a1, a2, a3, a4, a5, a6, a7, a8, a9, a10] (.long x :: st) w Q := v_lstore n hd hn (by rw [hN]; decide) hp rfl h
theorem sl_11_6 {a0 a1 a2 a3 a4 a5 a6 a7 a8 a9 a10 : Option Value} {x : Int64} (hN : M.2.2.1 = 11) (n : Nat) (hd : decode M.2.1 pc = .ok (.lstore 6, 2)) (hn : pc + 2 = n) (hp : okv a5 = true) (h : V M n [a0, a1, a2, a3, a4, a5, some (.long x), none, a8, a9, a10] st w Q) : V M pc [a0, a1, a2, a3, a4, a5, a6, a7, a8, a9, a10] (.long x :: st) w Q := v_lstore n hd hn (by rw [hN]; decide) hp rfl h
theorem sl_11_9 {a0 a1 a2 a3 a4 a5 a6 a7 a8 a9 a10 : Option Value} {x : Int64} (hN : M.2.2.1 = 11) (n : Nat) (hd : decode M.2.1 pc = .ok (.lstore 9, 2)) (hn : pc + 2 = n) (hp : okv a8 = true) (h : V M n [a0, a1, a2, a3, a4, a5, a6, a7, a8, some (.long x), none] st w Q) : V M pc [a0, a1, a2, a3, a4, a5, a6, a7, a8, a9, a10] (.long x :: st) w Q := v_lstore n hd hn (by rw [hN]; decide) hp rfl h
theorem v_tab3 {dflt : Int} {len : Nat} {o0 o1 o2 : Int} {x : Int32} (t0 t1 t2 td : Nat) (hd : decode M.2.1 pc = .ok (.tableswitch dflt 0 2 #[o0, o1, o2], len)) (e0 : (pc : Int) + o0 = (t0 : Int)) (e1 : (pc : Int) + o1 = (t1 : Int)) (e2 : (pc : Int) + o2 = (t2 : Int)) (ed : (pc : Int) + dflt = (td : Int)) (h0 : x = 0 → V M t0 ls st w Q) (h1 : x = 1 → V M t1 ls st w Q) (h2 : x = 2 → V M t2 ls st w Q) (hq : ¬ x = 0 → ¬ x = 1 → ¬ x = 2 → V M td ls st w Q) : V M pc ls (.int x :: st) w Q := by
  by_cases hx : x.toInt < 0 ∨ 2 < x.toInt
  · exact v_tabOut td hd hx ed (hq (fun q => by subst q; revert hx; decide) (fun q => by subst q; revert hx; decide) (fun q => by subst q; revert hx; decide))
  · have hr : x.toInt = 0 ∨ x.toInt = 1 ∨ x.toInt = 2 := by omega
    rcases hr with z | z | z
    · exact v_tabIn t0 hd (by omega) (by omega) (by rw [z]; rfl) e0 (h0 (Int32.toInt_inj.mp (z.trans (by decide))))
    · exact v_tabIn t1 hd (by omega) (by omega) (by rw [z]; rfl) e1 (h1 (Int32.toInt_inj.mp (z.trans (by decide))))
    · exact v_tabIn t2 hd (by omega) (by omega) (by rw [z]; rfl) e2 (h2 (Int32.toInt_inj.mp (z.trans (by decide))))
theorem v_tab4 {dflt : Int} {len : Nat} {o0 o1 o2 o3 : Int} {x : Int32} (t0 t1 t2 t3 td : Nat) (hd : decode M.2.1 pc = .ok (.tableswitch dflt 0 3 #[o0, o1, o2, o3], len)) (e0 : (pc : Int) + o0 = (t0 : Int)) (e1 : (pc : Int) + o1 = (t1 : Int)) (e2 : (pc : Int) + o2 = (t2 : Int)) (e3 : (pc : Int) + o3 = (t3 : Int)) (ed : (pc : Int) + dflt = (td : Int)) (h0 : x = 0 → V M t0 ls st w Q) (h1 : x = 1 → V M t1 ls st w Q) (h2 : x = 2 → V M t2 ls st w Q) (h3 : x = 3 → V M t3 ls st w Q) (hq : ¬ x = 0 → ¬ x = 1 → ¬ x = 2 → ¬ x = 3 → V M td ls st w Q) : V M pc ls (.int x :: st) w Q := by
  by_cases hx : x.toInt < 0 ∨ 3 < x.toInt
  · exact v_tabOut td hd hx ed (hq (fun q => by subst q; revert hx; decide) (fun q => by subst q; revert hx; decide) (fun q => by subst q; revert hx; decide) (fun q => by subst q; revert hx; decide))
  · have hr : x.toInt = 0 ∨ x.toInt = 1 ∨ x.toInt = 2 ∨ x.toInt = 3 := by omega
    rcases hr with z | z | z | z
    · exact v_tabIn t0 hd (by omega) (by omega) (by rw [z]; rfl) e0 (h0 (Int32.toInt_inj.mp (z.trans (by decide))))
    · exact v_tabIn t1 hd (by omega) (by omega) (by rw [z]; rfl) e1 (h1 (Int32.toInt_inj.mp (z.trans (by decide))))
    · exact v_tabIn t2 hd (by omega) (by omega) (by rw [z]; rfl) e2 (h2 (Int32.toInt_inj.mp (z.trans (by decide))))
    · exact v_tabIn t3 hd (by omega) (by omega) (by rw [z]; rfl) e3 (h3 (Int32.toInt_inj.mp (z.trans (by decide))))
theorem v_tab5 {dflt : Int} {len : Nat} {o0 o1 o2 o3 o4 : Int} {x : Int32} (t0 t1 t2 t3 t4 td : Nat) (hd : decode M.2.1 pc = .ok (.tableswitch dflt 0 4 #[o0, o1, o2, o3, o4], len)) (e0 : (pc : Int) + o0 = (t0 : Int)) (e1 : (pc : Int) + o1 = (t1 : Int)) (e2 : (pc : Int) + o2 = (t2 : Int)) (e3 : (pc : Int) + o3 = (t3 : Int)) (e4 : (pc : Int) + o4 = (t4 : Int)) (ed : (pc : Int) + dflt = (td : Int)) (h0 : x = 0 → V M t0 ls st w Q) (h1 : x = 1 → V M t1 ls st w Q) (h2 : x = 2 → V M t2 ls st w Q) (h3 : x = 3 → V M t3 ls st w Q) (h4 : x = 4 → V M t4 ls st w Q) (hq : ¬ x = 0 → ¬ x = 1 → ¬ x = 2 → ¬ x = 3 → ¬ x = 4 → V M td ls st w Q) : V M pc ls (.int x :: st) w Q := by
  by_cases hx : x.toInt < 0 ∨ 4 < x.toInt
  · exact v_tabOut td hd hx ed (hq (fun q => by subst q; revert hx; decide) (fun q => by subst q; revert hx; decide) (fun q => by subst q; revert hx; decide) (fun q => by subst q; revert hx; decide) (fun q => by subst q; revert hx; decide))
  · have hr : x.toInt = 0 ∨ x.toInt = 1 ∨ x.toInt = 2 ∨ x.toInt = 3 ∨ x.toInt = 4 := by omega
    rcases hr with z | z | z | z | z
    · exact v_tabIn t0 hd (by omega) (by omega) (by rw [z]; rfl) e0 (h0 (Int32.toInt_inj.mp (z.trans (by decide))))
    · exact v_tabIn t1 hd (by omega) (by omega) (by rw [z]; rfl) e1 (h1 (Int32.toInt_inj.mp (z.trans (by decide))))
    · exact v_tabIn t2 hd (by omega) (by omega) (by rw [z]; rfl) e2 (h2 (Int32.toInt_inj.mp (z.trans (by decide))))
    · exact v_tabIn t3 hd (by omega) (by omega) (by rw [z]; rfl) e3 (h3 (Int32.toInt_inj.mp (z.trans (by decide))))
    · exact v_tabIn t4 hd (by omega) (by omega) (by rw [z]; rfl) e4 (h4 (Int32.toInt_inj.mp (z.trans (by decide))))
theorem v_tab8 {dflt : Int} {len : Nat} {o0 o1 o2 o3 o4 o5 o6 o7 : Int} {x : Int32} (t0 t1 t2 t3 t4 t5 t6 t7 td : Nat) (hd : decode M.2.1 pc = .ok (.tableswitch dflt 0 7 #[o0, o1, o2, o3, o4, o5, o6, o7], len)) (e0 : (pc : Int) + o0 = (t0 : Int)) (e1 : (pc : Int) + o1 = (t1 : Int)) (e2 : (pc : Int) + o2 = (t2 : Int)) (e3 : (pc : Int) + o3 = (t3 : Int)) (e4 : (pc : Int) + o4 = (t4 : Int)) (e5 : (pc : Int) + o5 = (t5 : Int)) (e6 : (pc : Int) + o6 = (t6 : Int)) (e7 : (pc : Int) + o7 = (t7 : Int)) (ed : (pc : Int) + dflt = (td : Int)) (h0 : x = 0 → V M t0 ls st w Q) (h1 : x = 1 → V M t1 ls st w Q) (h2 : x = 2 → V M t2 ls st w Q) (h3 : x = 3 → V M t3 ls st w Q) (h4 : x = 4 → V M t4 ls st w Q) (h5 : x = 5 → V M t5 ls st w Q) (h6 : x = 6 → V M t6 ls st w Q) (h7 : x = 7 → V M t7 ls st w Q) (hq : ¬ x = 0 → ¬ x = 1 → ¬ x = 2 → ¬ x = 3 → ¬ x = 4 → ¬ x = 5 → ¬ x = 6 → ¬ x = 7 → V M td ls st w Q) : V M pc ls (.int x :: st) w Q := by
  by_cases hx : x.toInt < 0 ∨ 7 < x.toInt
  · exact v_tabOut td hd hx ed (hq (fun q => by subst q; revert hx; decide) (fun q => by subst q; revert hx; decide) (fun q => by subst q; revert hx; decide) (fun q => by subst q; revert hx; decide) (fun q => by subst q; revert hx; decide) (fun q => by subst q; revert hx; decide) (fun q => by subst q; revert hx; decide) (fun q => by subst q; revert hx; decide))
  · have hr : x.toInt = 0 ∨ x.toInt = 1 ∨ x.toInt = 2 ∨ x.toInt = 3 ∨ x.toInt = 4 ∨ x.toInt = 5 ∨ x.toInt = 6 ∨ x.toInt = 7 := by omega
    rcases hr with z | z | z | z | z | z | z | z
    · exact v_tabIn t0 hd (by omega) (by omega) (by rw [z]; rfl) e0 (h0 (Int32.toInt_inj.mp (z.trans (by decide))))
    · exact v_tabIn t1 hd (by omega) (by omega) (by rw [z]; rfl) e1 (h1 (Int32.toInt_inj.mp (z.trans (by decide))))
    · exact v_tabIn t2 hd (by omega) (by omega) (by rw [z]; rfl) e2 (h2 (Int32.toInt_inj.mp (z.trans (by decide))))
    · exact v_tabIn t3 hd (by omega) (by omega) (by rw [z]; rfl) e3 (h3 (Int32.toInt_inj.mp (z.trans (by decide))))
    · exact v_tabIn t4 hd (by omega) (by omega) (by rw [z]; rfl) e4 (h4 (Int32.toInt_inj.mp (z.trans (by decide))))
    · exact v_tabIn t5 hd (by omega) (by omega) (by rw [z]; rfl) e5 (h5 (Int32.toInt_inj.mp (z.trans (by decide))))
    · exact v_tabIn t6 hd (by omega) (by omega) (by rw [z]; rfl) e6 (h6 (Int32.toInt_inj.mp (z.trans (by decide))))
    · exact v_tabIn t7 hd (by omega) (by omega) (by rw [z]; rfl) e7 (h7 (Int32.toInt_inj.mp (z.trans (by decide))))
theorem v_tab11 {dflt : Int} {len : Nat} {o0 o1 o2 o3 o4 o5 o6 o7 o8 o9 o10 : Int} {x : Int32} (t0 t1 t2 t3 t4 t5 t6 t7 t8 t9 t10 td : Nat) (hd : decode M.2.1 pc = .ok (.tableswitch dflt 0 10 #[o0, o1, o2, o3, o4, o5, o6, o7, o8, o9, o10], len)) (e0 : (pc : Int) + o0 = (t0 : Int)) (e1 : (pc : Int) + o1 = (t1 : Int)) (e2 : (pc : Int) + o2 = (t2 : Int)) (e3 : (pc : Int) + o3 = (t3 : Int)) (e4 : (pc : Int) + o4 = (t4 : Int)) (e5 : (pc : Int) + o5 = (t5 : Int)) (e6 : (pc : Int) + o6 = (t6 : Int)) (e7 : (pc : Int) + o7 = (t7 : Int)) (e8 : (pc : Int) + o8 = (t8 : Int)) (e9 : (pc : Int) + o9 = (t9 : Int)) (e10 : (pc : Int) + o10 = (t10 : Int)) (ed : (pc : Int) + dflt = (td : Int)) (h0 : x = 0 → V M t0 ls st w Q) (h1 : x = 1 → V M t1 ls st w Q) (h2 : x = 2 → V M t2 ls st w Q) (h3 : x = 3 → V M t3 ls st w Q) (h4 : x = 4 → V M t4 ls st w Q) (h5 : x = 5 → V M t5 ls st w Q) (h6 : x = 6 → V M t6 ls st w Q) (h7 : x = 7 → V M t7 ls st w Q) (h8 : x = 8 → V M t8 ls st w Q) (h9 : x = 9 → V M t9 ls st w Q) (h10 : x = 10 → V M t10 ls st w Q) (hq : ¬ x = 0 → ¬ x = 1 → ¬ x = 2 → ¬ x = 3 → ¬ x = 4 → ¬ x = 5 → ¬ x = 6 → ¬ x = 7 → ¬ x = 8 → ¬ x = 9 → ¬ x = 10 → V M td ls st w Q) : V M pc ls (.int x :: st) w Q := by
  by_cases hx : x.toInt < 0 ∨ 10 < x.toInt
  · exact v_tabOut td hd hx ed (hq (fun q => by subst q; revert hx; decide) (fun q => by subst q; revert hx; decide) (fun q => by subst q; revert hx; decide) (fun q => by subst q; revert hx; decide) (fun q => by subst q; revert hx; decide) (fun q => by subst q; revert hx; decide) (fun q => by subst q; revert hx; decide) (fun q => by subst q; revert hx; decide) (fun q => by subst q; revert hx; decide) (fun q => by subst q; revert hx; decide) (fun q => by subst q; revert hx; decide))
  · have hr : x.toInt = 0 ∨ x.toInt = 1 ∨ x.toInt = 2 ∨ x.toInt = 3 ∨ x.toInt = 4 ∨ x.toInt = 5 ∨ x.toInt = 6 ∨ x.toInt = 7 ∨ x.toInt = 8 ∨ x.toInt = 9 ∨ x.toInt = 10 := by omega
    rcases hr with z | z | z | z | z | z | z | z | z | z | z
    · exact v_tabIn t0 hd (by omega) (by omega) (by rw [z]; rfl) e0 (h0 (Int32.toInt_inj.mp (z.trans (by decide))))
    · exact v_tabIn t1 hd (by omega) (by omega) (by rw [z]; rfl) e1 (h1 (Int32.toInt_inj.mp (z.trans (by decide))))
    · exact v_tabIn t2 hd (by omega) (by omega) (by rw [z]; rfl) e2 (h2 (Int32.toInt_inj.mp (z.trans (by decide))))
    · exact v_tabIn t3 hd (by omega) (by omega) (by rw [z]; rfl) e3 (h3 (Int32.toInt_inj.mp (z.trans (by decide))))
    · exact v_tabIn t4 hd (by omega) (by omega) (by rw [z]; rfl) e4 (h4 (Int32.toInt_inj.mp (z.trans (by decide))))
    · exact v_tabIn t5 hd (by omega) (by omega) (by rw [z]; rfl) e5 (h5 (Int32.toInt_inj.mp (z.trans (by decide))))
    · exact v_tabIn t6 hd (by omega) (by omega) (by rw [z]; rfl) e6 (h6 (Int32.toInt_inj.mp (z.trans (by decide))))
    · exact v_tabIn t7 hd (by omega) (by omega) (by rw [z]; rfl) e7 (h7 (Int32.toInt_inj.mp (z.trans (by decide))))
    · exact v_tabIn t8 hd (by omega) (by omega) (by rw [z]; rfl) e8 (h8 (Int32.toInt_inj.mp (z.trans (by decide))))
    · exact v_tabIn t9 hd (by omega) (by omega) (by rw [z]; rfl) e9 (h9 (Int32.toInt_inj.mp (z.trans (by decide))))
    · exact v_tabIn t10 hd (by omega) (by omega) (by rw [z]; rfl) e10 (h10 (Int32.toInt_inj.mp (z.trans (by decide))))
theorem v_tab28 {dflt : Int} {len : Nat} {o0 o1 o2 o3 o4 o5 o6 o7 o8 o9 o10 o11 o12 o13 o14 o15 o16 o17 o18 o19 o20 o21 o22 o23 o24 o25 o26 o27 : Int} {x : Int32} (t0 t1 t2 t3 t4 t5 t6 t7 t8 t9 t10 t11 t12 t13 t14 t15 t16 t17 t18 t19 t20 t21 t22 t23 t24 t25 t26 t27 td : Nat) (hd : decode M.2.1 pc = .ok (.tableswitch dflt 0 27 #[o0, o1, o2, o3, o4, o5, o6, o7, o8, o9, o10, o11, o12, o13, o14, o15, o16, o17, o18, o19, o20, o21, o22, o23, o24, o25, o26, o27], len)) (e0 : (pc : Int) + o0 = (t0 : Int)) (e1 : (pc : Int) + o1 = (t1 : Int)) (e2 : (pc : Int) + o2 = (t2 : Int)) (e3 : (pc : Int) + o3 = (t3 : Int)) (e4 : (pc : Int) + o4 = (t4 : Int)) (e5 : (pc : Int) + o5 = (t5 : Int)) (e6 : (pc : Int) + o6 = (t6 : Int)) (e7 : (pc : Int) + o7 = (t7 : Int)) (e8 : (pc : Int) + o8 = (t8 : Int)) (e9 : (pc : Int) + o9 = (t9 : Int)) (e10 : (pc : Int) + o10 = (t10 : Int)) (e11 : (pc : Int) + o11 = (t11 : Int)) (e12 : (pc : Int) + o12 = (t12 : Int)) (e13 : (pc : Int) + o13 = (t13 : Int)) (e14 : (pc : Int) + o14 = (t14 : Int)) (e15 : (pc : Int) + o15 = (t15 : Int)) (e16 : (pc : Int) + o16 = (t16 : Int)) (e17 : (pc : Int) + o17 = (t17 : Int)) (e18 : (pc : Int) + o18 = (t18 : Int)) (e19 : (pc : Int) + o19 = (t19 : Int)) (e20 : (pc : Int) + o20 = (t20 : Int)) (e21 : (pc : Int) + o21 = (t21 : Int)) (e22 : (pc : Int) + o22 = (t22 : Int)) (e23 : (pc : Int) + o23 = (t23 : Int)) (e24 : (pc : Int) + o24 = (t24 : Int)) (e25 : (pc : Int) + o25 = (t25 : Int)) (e26 : (pc : Int) + o26 = (t26 : Int)) (e27 : (pc : Int) + o27 = (t27 : Int)) (ed : (pc : Int) + dflt = (td : Int)) (h0 : x = 0 → V M t0 ls st w Q) (h1 : x = 1 → V M t1 ls st w Q) (h2 : x = 2 → V M t2 ls st w Q) (h3 : x = 3 → V M t3 ls st w Q) (h4 : x = 4 → V M t4 ls st w Q) (h5 : x = 5 → V M t5 ls st w Q) (h6 : x = 6 → V M t6 ls st w Q) (h7 : x = 7 → V M t7 ls st w Q) (h8 : x = 8 → V M t8 ls st w Q) (h9 : x = 9 → V M t9 ls st w Q) (h10 : x = 10 → V M t10 ls st w Q) (h11 : x = 11 → V M t11 ls st w Q) (h12 : x = 12 → V M t12 ls st w Q) (h13 : x = 13 → V M t13 ls st w Q) (h14 : x = 14 → V M t14 ls st w Q) (h15 : x = 15 → V M t15 ls st w Q) (h16 : x = 16 → V M t16 ls st w Q) (h17 : x = 17 → V M t17 ls st w Q) (h18 : x = 18 → V M t18 ls st w Q) (h19 : x = 19 → V M t19 ls st w Q) (h20 : x = 20 → V M t20 ls st w Q) (h21 : x = 21 → V M t21 ls st w Q) (h22 : x = 22 → V M t22 ls st w Q) (h23 : x = 23 → V M t23 ls st w Q) (h24 : x = 24 → V M t24 ls st w Q) (h25 : x = 25 → V M t25 ls st w Q) (h26 : x = 26 → V M t26 ls st w Q) (h27 : x = 27 → V M t27 ls st w Q) (hq : ¬ x = 0 → ¬ x = 1 → ¬ x = 2 → ¬ x = 3 → ¬ x = 4 → ¬ x = 5 → ¬ x = 6 → ¬ x = 7 → ¬ x = 8 → ¬ x = 9 → ¬ x = 10 → ¬ x = 11 → ¬ x = 12 → ¬ x = 13 → ¬ x = 14 → ¬ x = 15 → ¬ x = 16 → ¬ x = 17 → ¬ x = 18 → ¬ x = 19 → ¬ x = 20 → ¬ x = 21 → ¬ x = 22 → ¬ x = 23 → ¬ x = 24 → ¬ x = 25 → ¬ x = 26 → ¬ x = 27 → V M td ls st w Q) : V M pc ls (.int x :: st) w Q := by
  by_cases hx : x.toInt < 0 ∨ 27 < x.toInt
  · exact v_tabOut td hd hx ed (hq (fun q => by subst q; revert hx; decide) (fun q => by subst q; revert hx; decide) (fun q => by subst q; revert hx; decide) (fun q => by subst q; revert hx; decide) (fun q => by subst q; revert hx; decide) (fun q => by subst q; revert hx; decide) (fun q => by subst q; revert hx; decide) (fun q => by subst q; revert hx; decide) (fun q => by subst q; revert hx; decide) (fun q => by subst q; revert hx; decide) (fun q => by subst q; revert hx; decide) (fun q => by subst q; revert hx; decide) (fun q => by subst q; revert hx; decide) (fun q => by subst q; revert hx; decide) (fun q => by subst q; revert hx; decide) (fun q => by subst q; revert hx; decide) (fun q => by subst q; revert hx; decide) (fun q => by subst q; revert hx; decide) (fun q => by subst q; revert hx; decide) (fun q => by subst q; revert hx; decide) (fun q => by subst q; revert hx; decide) (fun q => by subst q; revert hx; decide) (fun q => by subst q; revert hx; decide) (fun q => by subst q; revert hx; decide) (fun q => by subst q; revert hx; decide) (fun q => by subst q; revert hx; decide) (fun q => by subst q; revert hx; decide) (fun q => by subst q; revert hx; decide))
  · have hr : x.toInt = 0 ∨ x.toInt = 1 ∨ x.toInt = 2 ∨ x.toInt = 3 ∨ x.toInt = 4 ∨ x.toInt = 5 ∨ x.toInt = 6 ∨ x.toInt = 7 ∨ x.toInt = 8 ∨ x.toInt = 9 ∨ x.toInt = 10 ∨ x.toInt = 11 ∨ x.toInt = 12 ∨ x.toInt = 13 ∨ x.toInt = 14 ∨ x.toInt = 15 ∨ x.toInt = 16 ∨ x.toInt = 17 ∨ x.toInt = 18 ∨ x.toInt = 19 ∨ x.toInt = 20 ∨ x.toInt = 21 ∨ x.toInt = 22 ∨ x.toInt = 23 ∨ x.toInt = 24 ∨ x.toInt = 25 ∨ x.toInt = 26 ∨ x.toInt = 27 := by omega
    rcases hr with z | z | z | z | z | z | z | z | z | z | z | z | z | z | z | z | z | z | z | z | z | z | z | z | z | z | z | z
    · exact v_tabIn t0 hd (by omega) (by omega) (by rw [z]; rfl) e0 (h0 (Int32.toInt_inj.mp (z.trans (by decide))))
    · exact v_tabIn t1 hd (by omega) (by omega) (by rw [z]; rfl) e1 (h1 (Int32.toInt_inj.mp (z.trans (by decide))))
    · exact v_tabIn t2 hd (by omega) (by omega) (by rw [z]; rfl) e2 (h2 (Int32.toInt_inj.mp (z.trans (by decide))))
    · exact v_tabIn t3 hd (by omega) (by omega) (by rw [z]; rfl) e3 (h3 (Int32.toInt_inj.mp (z.trans (by decide))))
    · exact v_tabIn t4 hd (by omega) (by omega) (by rw [z]; rfl) e4 (h4 (Int32.toInt_inj.mp (z.trans (by decide))))
    · exact v_tabIn t5 hd (by omega) (by omega) (by rw [z]; rfl) e5 (h5 (Int32.toInt_inj.mp (z.trans (by decide))))
    · exact v_tabIn t6 hd (by omega) (by omega) (by rw [z]; rfl) e6 (h6 (Int32.toInt_inj.mp (z.trans (by decide))))
    · exact v_tabIn t7 hd (by omega) (by omega) (by rw [z]; rfl) e7 (h7 (Int32.toInt_inj.mp (z.trans (by decide))))
    · exact v_tabIn t8 hd (by omega) (by omega) (by rw [z]; rfl) e8 (h8 (Int32.toInt_inj.mp (z.trans (by decide))))
    · exact v_tabIn t9 hd (by omega) (by omega) (by rw [z]; rfl) e9 (h9 (Int32.toInt_inj.mp (z.trans (by decide))))
    · exact v_tabIn t10 hd (by omega) (by omega) (by rw [z]; rfl) e10 (h10 (Int32.toInt_inj.mp (z.trans (by decide))))
    · exact v_tabIn t11 hd (by omega) (by omega) (by rw [z]; rfl) e11 (h11 (Int32.toInt_inj.mp (z.trans (by decide))))
    · exact v_tabIn t12 hd (by omega) (by omega) (by rw [z]; rfl) e12 (h12 (Int32.toInt_inj.mp (z.trans (by decide))))
    · exact v_tabIn t13 hd (by omega) (by omega) (by rw [z]; rfl) e13 (h13 (Int32.toInt_inj.mp (z.trans (by decide))))
    · exact v_tabIn t14 hd (by omega) (by omega) (by rw [z]; rfl) e14 (h14 (Int32.toInt_inj.mp (z.trans (by decide))))
    · exact v_tabIn t15 hd (by omega) (by omega) (by rw [z]; rfl) e15 (h15 (Int32.toInt_inj.mp (z.trans (by decide))))
    · exact v_tabIn t16 hd (by omega) (by omega) (by rw [z]; rfl) e16 (h16 (Int32.toInt_inj.mp (z.trans (by decide))))
    · exact v_tabIn t17 hd (by omega) (by omega) (by rw [z]; rfl) e17 (h17 (Int32.toInt_inj.mp (z.trans (by decide))))
    · exact v_tabIn t18 hd (by omega) (by omega) (by rw [z]; rfl) e18 (h18 (Int32.toInt_inj.mp (z.trans (by decide))))
    · exact v_tabIn t19 hd (by omega) (by omega) (by rw [z]; rfl) e19 (h19 (Int32.toInt_inj.mp (z.trans (by decide))))
    · exact v_tabIn t20 hd (by omega) (by omega) (by rw [z]; rfl) e20 (h20 (Int32.toInt_inj.mp (z.trans (by decide))))
    · exact v_tabIn t21 hd (by omega) (by omega) (by rw [z]; rfl) e21 (h21 (Int32.toInt_inj.mp (z.trans (by decide))))
    · exact v_tabIn t22 hd (by omega) (by omega) (by rw [z]; rfl) e22 (h22 (Int32.toInt_inj.mp (z.trans (by decide))))
    · exact v_tabIn t23 hd (by omega) (by omega) (by rw [z]; rfl) e23 (h23 (Int32.toInt_inj.mp (z.trans (by decide))))
    · exact v_tabIn t24 hd (by omega) (by omega) (by rw [z]; rfl) e24 (h24 (Int32.toInt_inj.mp (z.trans (by decide))))
    · exact v_tabIn t25 hd (by omega) (by omega) (by rw [z]; rfl) e25 (h25 (Int32.toInt_inj.mp (z.trans (by decide))))
    · exact v_tabIn t26 hd (by omega) (by omega) (by rw [z]; rfl) e26 (h26 (Int32.toInt_inj.mp (z.trans (by decide))))
    · exact v_tabIn t27 hd (by omega) (by omega) (by rw [z]; rfl) e27 (h27 (Int32.toInt_inj.mp (z.trans (by decide))))
end VX
theorem kb_m9 : (Int8.ofInt (-9)).toInt32 = (-9 : Int32) := by decide
theorem kb_m4 : (Int8.ofInt (-4)).toInt32 = (-4 : Int32) := by decide
theorem kb_m3 : (Int8.ofInt (-3)).toInt32 = (-3 : Int32) := by decide
theorem kb_m2 : (Int8.ofInt (-2)).toInt32 = (-2 : Int32) := by decide
theorem kb_6 : (Int8.ofInt (6)).toInt32 = (6 : Int32) := by decide
theorem kb_8 : (Int8.ofInt (8)).toInt32 = (8 : Int32) := by decide
theorem kb_9 : (Int8.ofInt (9)).toInt32 = (9 : Int32) := by decide
theorem kb_10 : (Int8.ofInt (10)).toInt32 = (10 : Int32) := by decide
theorem kb_13 : (Int8.ofInt (13)).toInt32 = (13 : Int32) := by decide
theorem kb_14 : (Int8.ofInt (14)).toInt32 = (14 : Int32) := by decide
theorem kb_15 : (Int8.ofInt (15)).toInt32 = (15 : Int32) := by decide
theorem kb_16 : (Int8.ofInt (16)).toInt32 = (16 : Int32) := by decide
theorem kb_20 : (Int8.ofInt (20)).toInt32 = (20 : Int32) := by decide
theorem kb_24 : (Int8.ofInt (24)).toInt32 = (24 : Int32) := by decide
theorem kb_28 : (Int8.ofInt (28)).toInt32 = (28 : Int32) := by decide
theorem kb_29 : (Int8.ofInt (29)).toInt32 = (29 : Int32) := by decide
theorem kb_30 : (Int8.ofInt (30)).toInt32 = (30 : Int32) := by decide
theorem kb_31 : (Int8.ofInt (31)).toInt32 = (31 : Int32) := by decide
theorem kb_32 : (Int8.ofInt (32)).toInt32 = (32 : Int32) := by decide
theorem kb_33 : (Int8.ofInt (33)).toInt32 = (33 : Int32) := by decide
theorem kb_48 : (Int8.ofInt (48)).toInt32 = (48 : Int32) := by decide
theorem kb_54 : (Int8.ofInt (54)).toInt32 = (54 : Int32) := by decide
theorem kb_58 : (Int8.ofInt (58)).toInt32 = (58 : Int32) := by decide
theorem kb_60 : (Int8.ofInt (60)).toInt32 = (60 : Int32) := by decide
theorem kb_63 : (Int8.ofInt (63)).toInt32 = (63 : Int32) := by decide
theorem kb_65 : (Int8.ofInt (65)).toInt32 = (65 : Int32) := by decide
theorem kb_74 : (Int8.ofInt (74)).toInt32 = (74 : Int32) := by decide
theorem kb_76 : (Int8.ofInt (76)).toInt32 = (76 : Int32) := by decide
theorem kb_83 : (Int8.ofInt (83)).toInt32 = (83 : Int32) := by decide
theorem kb_99 : (Int8.ofInt (99)).toInt32 = (99 : Int32) := by decide
theorem kb_100 : (Int8.ofInt (100)).toInt32 = (100 : Int32) := by decide
theorem ki_m1 : Int32.ofInt (-1) = (-1 : Int32) := by decide
theorem ki_0 : Int32.ofInt (0) = (0 : Int32) := by decide
theorem ki_1 : Int32.ofInt (1) = (1 : Int32) := by decide
theorem ki_2 : Int32.ofInt (2) = (2 : Int32) := by decide
theorem ki_3 : Int32.ofInt (3) = (3 : Int32) := by decide
theorem ki_4 : Int32.ofInt (4) = (4 : Int32) := by decide
theorem ki_5 : Int32.ofInt (5) = (5 : Int32) := by decide
theorem ks_255 : (Int16.ofInt (255)).toInt32 = (255 : Int32) := by decide
theorem ks_420 : (Int16.ofInt (420)).toInt32 = (420 : Int32) := by decide
theorem ks_1022 : (Int16.ofInt (1022)).toInt32 = (1022 : Int32) := by decide
theorem ks_1023 : (Int16.ofInt (1023)).toInt32 = (1023 : Int32) := by decide
end
section
/-! numbers -/
theorem i_le (a b : Int32) : a ≤ b ↔ a.toInt ≤ b.toInt := Int32.le_iff_toInt_le
theorem i_lt (a b : Int32) : a < b ↔ a.toInt < b.toInt := Int32.lt_iff_toInt_lt
theorem i_nle {a b : Int32} : ¬ a ≤ b ↔ b < a := by rw [i_le, i_lt]; omega
theorem i_nlt {a b : Int32} : ¬ a < b ↔ b ≤ a := by rw [i_le, i_lt]; omega
theorem inR {i : Int32} {n : Nat} (hn : n < 2 ^ 31) (h1 : ¬ i < 0) (h2 : ¬ nI n ≤ i) : ∃ k, k < n ∧ i = nI k := by
  rcases pk_ix i hn with h | h | h
  · exact absurd h h1
  · exact absurd h h2
  · exact h
theorem notR {i : Int32} {n : Nat} (hn : n < 2 ^ 31) (h : i < 0 ∨ nI n ≤ i) : ¬ ∃ k, k < n ∧ i = nI k := by
  rintro ⟨k, hk, rfl⟩
  rcases h with h | h
  · exact nI_pos (by omega) h
  · exact nI_ge hk hn h
theorem hb0 : 0 < 2 := by decide
theorem hb1 : 1 < 2 := by decide
/-- upward loops -/
theorem up {P : Nat → Prop} {n : Nat} (h : ∀ i, i ≤ n → (i < n → P (i + 1)) → P i) : ∀ i, i ≤ n → P i := by
  have key : ∀ k i, n - i = k → i ≤ n → P i := by
    intro k
    induction k with
    | zero => intro i hk hi; exact h i hi (fun q => absurd hk (by omega))
    | succ k ih => intro i hk hi; exact h i hi (fun q => ih (i + 1) (by omega) (by omega))
  exact fun i hi => key (n - i) i rfl hi
/-! a post: stamps, letters, week, damp; rows 0 age 1 health 2 kind 3 joined 4 on 5 left 6 cost 7 fate -/
abbrev PT : Type := (Nat × Nat × Int32 × Int32) × (Nat → Nat → Int32)
def isC (w : Wd) (b : Nat) (P : PT) : Prop := pn w b 0 = nI P.1.1 ∧ pn w b 1 = nI P.1.2.1 ∧ pn w b 2 = P.1.2.2.1 ∧ pn w b 3 = P.1.2.2.2 ∧ P.1.1 ≤ 5 ∧ P.1.2.1 ≤ 4 ∧ (∀ j s, j < 5 → s < P.1.1 → px w b j s = P.2 j s) ∧ (∀ j s, 5 ≤ j → j < 8 → s < P.1.2.1 → px w b j s = P.2 j s)
def isM (w : Wd) (l : Nat) (P : PT) : Prop := w.1 16 = nI P.1.1 ∧ w.1 17 = nI P.1.2.1 ∧ w.2.2 33 (30 * l + 29) = P.1.2.2.1 ∧ w.2.2 33 (30 * l + 28) = P.1.2.2.2 ∧ P.1.1 ≤ 5 ∧ P.1.2.1 ≤ 4 ∧ (∀ s, s < P.1.1 → w.2.2 33 (30 * l + s) = P.2 0 s ∧ w.2.2 33 (30 * l + 5 + s) = P.2 1 s ∧ w.2.2 31 s = P.2 2 s ∧ w.2.2 33 (30 * l + 10 + s) = P.2 3 s ∧ w.2.2 33 (30 * l + 15 + s) = P.2 4 s) ∧ (∀ s, s < P.1.2.1 → w.2.2 33 (30 * l + 20 + s) = P.2 5 s ∧ w.2.2 32 s = P.2 6 s ∧ w.2.2 33 (30 * l + 24 + s) = P.2 7 s)
/-- only post b has changed -/
def Fr (b : Nat) (w u : Wd) : Prop := (∀ j, (j < 8 + 4 * b ∨ 12 + 4 * b ≤ j) → u.1 j = w.1 j) ∧ u.2.1 = w.2.1 ∧ (∀ r, (r < 7 + 8 * b ∨ 15 + 8 * b ≤ r) → u.2.2 r = w.2.2 r)
/-- only level l of the reference has changed -/
def FrM (l : Nat) (w u : Wd) : Prop := u.1 = w.1 ∧ u.2.1 = w.2.1 ∧ (∀ r, ¬ r = 33 → u.2.2 r = w.2.2 r) ∧ ∀ i, (i < 30 * l ∨ 30 * l + 30 ≤ i) → u.2.2 33 i = w.2.2 33 i
theorem Fr.rf {b : Nat} {w : Wd} : Fr b w w := ⟨fun _ _ => rfl, rfl, fun _ _ => rfl⟩
theorem Fr.tr {b : Nat} {w u v : Wd} (h1 : Fr b w u) (h2 : Fr b u v) : Fr b w v := ⟨fun j h => (h2.1 j h).trans (h1.1 j h), h2.2.1.trans h1.2.1, fun r h => (h2.2.2 r h).trans (h1.2.2 r h)⟩
theorem FrM.rf {l : Nat} {w : Wd} : FrM l w w := ⟨rfl, rfl, fun _ _ => rfl, fun _ _ => rfl⟩
theorem FrM.tr {l : Nat} {w u v : Wd} (h1 : FrM l w u) (h2 : FrM l u v) : FrM l w v := ⟨h2.1.trans h1.1, h2.2.1.trans h1.2.1, fun r h => (h2.2.2.1 r h).trans (h1.2.2.1 r h), fun i h => (h2.2.2.2 i h).trans (h1.2.2.2 i h)⟩
def setP (P : PT) (j k : Nat) (x : Int32) : PT := (P.1, fun j' s => if j' = j ∧ s = k then x else P.2 j' s)
def weekP (P : PT) (x : Int32) : PT := ((P.1.1, P.1.2.1, x, P.1.2.2.2), P.2)
def dampP (P : PT) (x : Int32) : PT := ((P.1.1, P.1.2.1, P.1.2.2.1, x), P.2)
/-- alike below the bounds -/
def PEq (P R : PT) : Prop := P.1 = R.1 ∧ (∀ j s, j < 5 → s < P.1.1 → P.2 j s = R.2 j s) ∧ (∀ j s, 5 ≤ j → j < 8 → s < P.1.2.1 → P.2 j s = R.2 j s)
theorem isC.eq {w : Wd} {b : Nat} {P R : PT} (h : isC w b P) (e : PEq P R) : isC w b R := by
  obtain ⟨⟨n, L, k, d⟩, f⟩ := P
  obtain ⟨⟨n2, L2, k2, d2⟩, f2⟩ := R
  obtain ⟨e1, e2, e3⟩ := e
  cases e1
  obtain ⟨h1, h2, h3, h4, h5, h6, h7, h8⟩ := h
  exact ⟨h1, h2, h3, h4, h5, h6, fun j s a c => (h7 j s a c).trans (e2 j s a c), fun j s a a2 c => (h8 j s a a2 c).trans (e3 j s a a2 c)⟩
theorem isM.eq {w : Wd} {l : Nat} {P R : PT} (h : isM w l P) (e : PEq P R) : isM w l R := by
  obtain ⟨⟨n, L, k, d⟩, f⟩ := P
  obtain ⟨⟨n2, L2, k2, d2⟩, f2⟩ := R
  obtain ⟨e1, e2, e3⟩ := e
  cases e1
  obtain ⟨h1, h2, h3, h4, h5, h6, h7, h8⟩ := h
  refine ⟨h1, h2, h3, h4, h5, h6, fun s c => ?_, fun s c => ?_⟩
  · obtain ⟨a0, a1, a2, a3, a4⟩ := h7 s c
    exact ⟨a0.trans (e2 0 s (by decide) c), a1.trans (e2 1 s (by decide) c), a2.trans (e2 2 s (by decide) c), a3.trans (e2 3 s (by decide) c), a4.trans (e2 4 s (by decide) c)⟩
  · obtain ⟨a0, a1, a2⟩ := h8 s c
    exact ⟨a0.trans (e3 5 s (by decide) (by decide) c), a1.trans (e3 6 s (by decide) (by decide) c), a2.trans (e3 7 s (by decide) (by decide) c)⟩
theorem ar_inj {b j j' : Nat} (h : ar b j = ar b j') : j = j' := by unfold ar at h; omega
theorem Fr.oA {b j : Nat} {w : Wd} {f : Nat → Int32} (hj : j < 8) : Fr b w (sA w (ar b j) f) := ⟨fun _ _ => rfl, rfl, fun r h => by simp only [sA]; rw [if_neg]; unfold ar; omega⟩
theorem Fr.oI {b j : Nat} {w : Wd} {x : Int32} (hj : j < 4) : Fr b w (sI w (pj b j) x) := ⟨fun i h => by simp only [sI, upd]; rw [if_neg]; unfold pj; omega, rfl, fun _ _ => rfl⟩
theorem px_sA {w : Wd} {b j j' : Nat} {f : Nat → Int32} : px (sA w (ar b j) f) b j' = if j' = j then f else px w b j' := by
  unfold px sA
  by_cases h : j' = j
  · subst h; simp
  · have : ¬ ar b j' = ar b j := fun q => h (ar_inj q)
    simp [h, this]
theorem pn_sA {w : Wd} {b j j' : Nat} {f : Nat → Int32} : pn (sA w (ar b j) f) b j' = pn w b j' := rfl
theorem px_sI {w : Wd} {b j' i : Nat} {x : Int32} : px (sI w i x) b j' = px w b j' := rfl
theorem pn_sI {w : Wd} {b j j' : Nat} {x : Int32} : pn (sI w (pj b j) x) b j' = if j' = j then x else pn w b j' := by
  unfold pn sI upd pj
  by_cases h : j' = j
  · subst h; simp
  · have : ¬ 8 + 4 * b + j' = 8 + 4 * b + j := by omega
    simp [h]
theorem isC.setA {w : Wd} {b : Nat} {P : PT} (h : isC w b P) {j k : Nat} {x : Int32} : isC (sA w (ar b j) (upd (px w b j) k x)) b (setP P j k x) := by
  obtain ⟨h1, h2, h3, h4, h5, h6, h7, h8⟩ := h
  refine ⟨h1, h2, h3, h4, h5, h6, fun j' s a c => ?_, fun j' s a a2 c => ?_⟩
  · rw [px_sA]
    simp only [setP]
    by_cases e : j' = j
    · subst e
      rw [if_pos rfl]
      by_cases e2 : s = k
      · rw [if_pos ⟨rfl, e2⟩]; simp [upd, e2]
      · rw [if_neg (fun q => e2 q.2)]; simp only [upd, if_neg e2]; exact h7 j' s a c
    · rw [if_neg e, if_neg (fun q => e q.1)]; exact h7 j' s a c
  · rw [px_sA]
    simp only [setP]
    by_cases e : j' = j
    · subst e
      rw [if_pos rfl]
      by_cases e2 : s = k
      · rw [if_pos ⟨rfl, e2⟩]; simp [upd, e2]
      · rw [if_neg (fun q => e2 q.2)]; simp only [upd, if_neg e2]; exact h8 j' s a a2 c
    · rw [if_neg e, if_neg (fun q => e q.1)]; exact h8 j' s a a2 c
theorem isC.week {w : Wd} {b : Nat} {P : PT} (h : isC w b P) {x : Int32} : isC (sI w (pj b 2) x) b (weekP P x) := by
  obtain ⟨h1, h2, h3, h4, h5, h6, h7, h8⟩ := h
  exact ⟨by rw [pn_sI]; exact h1, by rw [pn_sI]; exact h2, by rw [pn_sI]; rfl, by rw [pn_sI]; exact h4, h5, h6, h7, h8⟩
theorem isC.damp {w : Wd} {b : Nat} {P : PT} (h : isC w b P) {x : Int32} : isC (sI w (pj b 3) x) b (dampP P x) := by
  obtain ⟨h1, h2, h3, h4, h5, h6, h7, h8⟩ := h
  exact ⟨by rw [pn_sI]; exact h1, by rw [pn_sI]; exact h2, by rw [pn_sI]; exact h3, by rw [pn_sI]; rfl, h5, h6, h7, h8⟩
/-! what is read off a post -/
def spanF (k h : Int32) : Int32 := 60 + 3 * h + (if k = 1 then 10 else if k = 2 then 15 else 0)
def alP (P : PT) (s : Nat) : Bool := decide (P.2 0 s < spanF (P.2 2 s) (P.2 1 s))
def min9 (x : Int32) : Int32 := if x < 9 then x else 9
def rateF (k a : Int32) : Int32 := if k = 0 then min9 (2 + a / 20) else if k = 1 then 1 else if k = 2 then min9 (2 + a / 10) else 0
def rateP (P : PT) (s : Nat) : Int32 := rateF (P.2 2 s) (P.2 0 s)
def orB (f : Nat → Bool) : Nat → Int32
  | 0 => 0
  | n + 1 => orB f n ||| (if f n then 1 <<< (nI n &&& 31) else 0)
def suB (f : Nat → Int32) : Nat → Int32
  | 0 => 0
  | n + 1 => suB f n + f n
/-- the bit k of x -/
def bit (x : Int32) (k : Nat) : Bool := decide (x >>> (nI k &&& 31) &&& 1 = 1)
def aliveP (P : PT) : Int32 := orB (alP P) P.1.1
def widP (P : PT) : Int32 := orB (fun s => bit (aliveP P) s && decide (¬ P.2 3 s &&& (aliveP P ^^^ (-1)) = 0)) P.1.1
def freeP (P : PT) : Int32 := orB (fun s => alP P s && decide (P.2 4 s = -9)) P.1.1
def stuckP (P : PT) (l : Int32) : Int32 := orB (fun s => decide (P.2 4 s = l)) P.1.1
def fateP (P : PT) (x : Int32) : Int32 := orB (fun s => decide (P.2 7 s = x)) P.1.2.1
def goodP (P : PT) (x : Int32) : Int32 := suB (fun s => if bit x s && alP P s then rateP P s else 0) P.1.1
def payP (P : PT) (x : Int32) : Int32 := suB (fun s => if decide (P.2 7 s = 0) && decide (P.2 6 s ≤ goodP P x) then 1 else 0) P.1.2.1
def growI (P : PT) (x k : Int32) (i : Nat) : PT := (P.1, fun j s => if j = 0 ∧ s < i ∧ bit x s = true ∧ ¬ P.2 2 s = 3 then P.2 0 s + k else P.2 j s)
def growP (P : PT) (x k : Int32) : PT := growI P x k P.1.1
theorem growI_0 (P : PT) (x k : Int32) : PEq P (growI P x k 0) := ⟨rfl, fun j s _ _ => by simp [growI], fun j s _ _ _ => by simp [growI]⟩
theorem growI_s {P : PT} {x k : Int32} {i : Nat} (h1 : bit x i = true) (h2 : ¬ P.2 2 i = 3) : PEq (setP (growI P x k i) 0 i ((growI P x k i).2 0 i + k)) (growI P x k (i + 1)) := by
  have e : ∀ j s, (setP (growI P x k i) 0 i ((growI P x k i).2 0 i + k)).2 j s = (growI P x k (i + 1)).2 j s := by
    intro j s
    simp only [setP, growI]
    by_cases hj : j = 0
    · subst hj
      by_cases hs : s = i
      · subst hs; simp [h1, h2]
      · have : (s < i + 1) ↔ s < i := by omega
        simp [hs, this]
    · simp [hj]
  exact ⟨rfl, fun j s _ _ => e j s, fun j s _ _ _ => e j s⟩
theorem growI_n {P : PT} {x k : Int32} {i : Nat} (h : ¬ (bit x i = true ∧ ¬ P.2 2 i = 3)) : PEq (growI P x k i) (growI P x k (i + 1)) := by
  have e : ∀ j s, (growI P x k i).2 j s = (growI P x k (i + 1)).2 j s := by
    intro j s
    simp only [growI]
    by_cases hs : s = i
    · subst hs
      rw [if_neg (by omega), if_neg (fun q => h q.2.2)]
    · have : (s < i + 1) ↔ s < i := by omega
      simp only [this]
  exact ⟨rfl, fun j s _ _ => e j s, fun j s _ _ _ => e j s⟩
/-- a letter is carried: live is who lives -/
def carI (P : PT) (i : Nat) : PT := (P.1, fun j s => if s < i ∧ P.2 7 s = 1 then (if j = 5 then P.2 5 s - 1 else if j = 7 then (if 0 < P.2 5 s - 1 then 1 else if ¬ stuckP P (nI s) &&& aliveP P = 0 then 2 else 3) else P.2 j s) else P.2 j s)
def passP (P : PT) : PT := weekP (carI (growP (growP P (aliveP P) (if P.1.2.2.2 = 0 then 1 else 2)) (widP (growP P (aliveP P) (if P.1.2.2.2 = 0 then 1 else 2))) 2) P.1.2.1) (P.1.2.2.1 + 1)

section VQ
variable {M : MD} {pc : Nat} {ls : LsT} {st : List Value} {w : Wd} {Q : Option Value → Wd → Prop} {P : PT} {b : Nat}
theorem vlq_X1_age (hb : b < 2) (hC : isC w b P) {i : Int32} (k n : Nat) (hd : decode M.2.1 pc = .ok (.iaload, 1)) (hn : pc + 1 = n) (hi : i = nI k) (hk : k < P.1.1) (h : V M n ls (.int (P.2 0 k) :: st) w Q) : V M pc ls (.int i :: .ref (ar b 0) :: st) w Q :=
  vl_X1_age hb k n hd hn hi (Nat.lt_of_lt_of_le hk hC.2.2.2.2.1) (by rw [hC.2.2.2.2.2.2.1 0 k (by decide) hk]; exact h)
theorem vwq_X1_age (hb : b < 2) (hC : isC w b P) {i x : Int32} (k n : Nat) (hd : decode M.2.1 pc = .ok (.iastore, 1)) (hn : pc + 1 = n) (hi : i = nI k) (hk : k < P.1.1) (h : ∀ u, isC u b (setP P 0 k x) → Fr b w u → V M n ls st u Q) : V M pc ls (.int x :: .int i :: .ref (ar b 0) :: st) w Q :=
  vw_X1_age hb k n hd hn hi (Nat.lt_of_lt_of_le hk hC.2.2.2.2.1) (h _ hC.setA (Fr.oA (by decide)))
theorem vlq_X1_health (hb : b < 2) (hC : isC w b P) {i : Int32} (k n : Nat) (hd : decode M.2.1 pc = .ok (.iaload, 1)) (hn : pc + 1 = n) (hi : i = nI k) (hk : k < P.1.1) (h : V M n ls (.int (P.2 1 k) :: st) w Q) : V M pc ls (.int i :: .ref (ar b 1) :: st) w Q :=
  vl_X1_health hb k n hd hn hi (Nat.lt_of_lt_of_le hk hC.2.2.2.2.1) (by rw [hC.2.2.2.2.2.2.1 1 k (by decide) hk]; exact h)
theorem vwq_X1_health (hb : b < 2) (hC : isC w b P) {i x : Int32} (k n : Nat) (hd : decode M.2.1 pc = .ok (.iastore, 1)) (hn : pc + 1 = n) (hi : i = nI k) (hk : k < P.1.1) (h : ∀ u, isC u b (setP P 1 k x) → Fr b w u → V M n ls st u Q) : V M pc ls (.int x :: .int i :: .ref (ar b 1) :: st) w Q :=
  vw_X1_health hb k n hd hn hi (Nat.lt_of_lt_of_le hk hC.2.2.2.2.1) (h _ hC.setA (Fr.oA (by decide)))
theorem vlq_X1_kind (hb : b < 2) (hC : isC w b P) {i : Int32} (k n : Nat) (hd : decode M.2.1 pc = .ok (.iaload, 1)) (hn : pc + 1 = n) (hi : i = nI k) (hk : k < P.1.1) (h : V M n ls (.int (P.2 2 k) :: st) w Q) : V M pc ls (.int i :: .ref (ar b 2) :: st) w Q :=
  vl_X1_kind hb k n hd hn hi (Nat.lt_of_lt_of_le hk hC.2.2.2.2.1) (by rw [hC.2.2.2.2.2.2.1 2 k (by decide) hk]; exact h)
theorem vwq_X1_kind (hb : b < 2) (hC : isC w b P) {i x : Int32} (k n : Nat) (hd : decode M.2.1 pc = .ok (.iastore, 1)) (hn : pc + 1 = n) (hi : i = nI k) (hk : k < P.1.1) (h : ∀ u, isC u b (setP P 2 k x) → Fr b w u → V M n ls st u Q) : V M pc ls (.int x :: .int i :: .ref (ar b 2) :: st) w Q :=
  vw_X1_kind hb k n hd hn hi (Nat.lt_of_lt_of_le hk hC.2.2.2.2.1) (h _ hC.setA (Fr.oA (by decide)))
theorem vlq_X1_joined (hb : b < 2) (hC : isC w b P) {i : Int32} (k n : Nat) (hd : decode M.2.1 pc = .ok (.iaload, 1)) (hn : pc + 1 = n) (hi : i = nI k) (hk : k < P.1.1) (h : V M n ls (.int (P.2 3 k) :: st) w Q) : V M pc ls (.int i :: .ref (ar b 3) :: st) w Q :=
  vl_X1_joined hb k n hd hn hi (Nat.lt_of_lt_of_le hk hC.2.2.2.2.1) (by rw [hC.2.2.2.2.2.2.1 3 k (by decide) hk]; exact h)
theorem vwq_X1_joined (hb : b < 2) (hC : isC w b P) {i x : Int32} (k n : Nat) (hd : decode M.2.1 pc = .ok (.iastore, 1)) (hn : pc + 1 = n) (hi : i = nI k) (hk : k < P.1.1) (h : ∀ u, isC u b (setP P 3 k x) → Fr b w u → V M n ls st u Q) : V M pc ls (.int x :: .int i :: .ref (ar b 3) :: st) w Q :=
  vw_X1_joined hb k n hd hn hi (Nat.lt_of_lt_of_le hk hC.2.2.2.2.1) (h _ hC.setA (Fr.oA (by decide)))
theorem vlq_X1_on (hb : b < 2) (hC : isC w b P) {i : Int32} (k n : Nat) (hd : decode M.2.1 pc = .ok (.iaload, 1)) (hn : pc + 1 = n) (hi : i = nI k) (hk : k < P.1.1) (h : V M n ls (.int (P.2 4 k) :: st) w Q) : V M pc ls (.int i :: .ref (ar b 4) :: st) w Q :=
  vl_X1_on hb k n hd hn hi (Nat.lt_of_lt_of_le hk hC.2.2.2.2.1) (by rw [hC.2.2.2.2.2.2.1 4 k (by decide) hk]; exact h)
theorem vwq_X1_on (hb : b < 2) (hC : isC w b P) {i x : Int32} (k n : Nat) (hd : decode M.2.1 pc = .ok (.iastore, 1)) (hn : pc + 1 = n) (hi : i = nI k) (hk : k < P.1.1) (h : ∀ u, isC u b (setP P 4 k x) → Fr b w u → V M n ls st u Q) : V M pc ls (.int x :: .int i :: .ref (ar b 4) :: st) w Q :=
  vw_X1_on hb k n hd hn hi (Nat.lt_of_lt_of_le hk hC.2.2.2.2.1) (h _ hC.setA (Fr.oA (by decide)))
theorem vlq_X1_left (hb : b < 2) (hC : isC w b P) {i : Int32} (k n : Nat) (hd : decode M.2.1 pc = .ok (.iaload, 1)) (hn : pc + 1 = n) (hi : i = nI k) (hk : k < P.1.2.1) (h : V M n ls (.int (P.2 5 k) :: st) w Q) : V M pc ls (.int i :: .ref (ar b 5) :: st) w Q :=
  vl_X1_left hb k n hd hn hi (Nat.lt_of_lt_of_le hk hC.2.2.2.2.2.1) (by rw [hC.2.2.2.2.2.2.2 5 k (by decide) (by decide) hk]; exact h)
theorem vwq_X1_left (hb : b < 2) (hC : isC w b P) {i x : Int32} (k n : Nat) (hd : decode M.2.1 pc = .ok (.iastore, 1)) (hn : pc + 1 = n) (hi : i = nI k) (hk : k < P.1.2.1) (h : ∀ u, isC u b (setP P 5 k x) → Fr b w u → V M n ls st u Q) : V M pc ls (.int x :: .int i :: .ref (ar b 5) :: st) w Q :=
  vw_X1_left hb k n hd hn hi (Nat.lt_of_lt_of_le hk hC.2.2.2.2.2.1) (h _ hC.setA (Fr.oA (by decide)))
theorem vlq_X1_cost (hb : b < 2) (hC : isC w b P) {i : Int32} (k n : Nat) (hd : decode M.2.1 pc = .ok (.iaload, 1)) (hn : pc + 1 = n) (hi : i = nI k) (hk : k < P.1.2.1) (h : V M n ls (.int (P.2 6 k) :: st) w Q) : V M pc ls (.int i :: .ref (ar b 6) :: st) w Q :=
  vl_X1_cost hb k n hd hn hi (Nat.lt_of_lt_of_le hk hC.2.2.2.2.2.1) (by rw [hC.2.2.2.2.2.2.2 6 k (by decide) (by decide) hk]; exact h)
theorem vwq_X1_cost (hb : b < 2) (hC : isC w b P) {i x : Int32} (k n : Nat) (hd : decode M.2.1 pc = .ok (.iastore, 1)) (hn : pc + 1 = n) (hi : i = nI k) (hk : k < P.1.2.1) (h : ∀ u, isC u b (setP P 6 k x) → Fr b w u → V M n ls st u Q) : V M pc ls (.int x :: .int i :: .ref (ar b 6) :: st) w Q :=
  vw_X1_cost hb k n hd hn hi (Nat.lt_of_lt_of_le hk hC.2.2.2.2.2.1) (h _ hC.setA (Fr.oA (by decide)))
theorem vlq_X1_fate (hb : b < 2) (hC : isC w b P) {i : Int32} (k n : Nat) (hd : decode M.2.1 pc = .ok (.iaload, 1)) (hn : pc + 1 = n) (hi : i = nI k) (hk : k < P.1.2.1) (h : V M n ls (.int (P.2 7 k) :: st) w Q) : V M pc ls (.int i :: .ref (ar b 7) :: st) w Q :=
  vl_X1_fate hb k n hd hn hi (Nat.lt_of_lt_of_le hk hC.2.2.2.2.2.1) (by rw [hC.2.2.2.2.2.2.2 7 k (by decide) (by decide) hk]; exact h)
theorem vwq_X1_fate (hb : b < 2) (hC : isC w b P) {i x : Int32} (k n : Nat) (hd : decode M.2.1 pc = .ok (.iastore, 1)) (hn : pc + 1 = n) (hi : i = nI k) (hk : k < P.1.2.1) (h : ∀ u, isC u b (setP P 7 k x) → Fr b w u → V M n ls st u Q) : V M pc ls (.int x :: .int i :: .ref (ar b 7) :: st) w Q :=
  vw_X1_fate hb k n hd hn hi (Nat.lt_of_lt_of_le hk hC.2.2.2.2.2.1) (h _ hC.setA (Fr.oA (by decide)))
theorem vgq_X3_73 (hb : b < 2) (hC : isC w b P) (hM : M.1 = RX3) (n : Nat) (hd : decode M.2.1 pc = .ok (.getfield 73, 3)) (hn : pc + 3 = n) (h : V M n ls (.int (nI P.1.1) :: st) w Q) : V M pc ls (.ref (pr b) :: st) w Q := vg_X3_73 hb hM n hd hn (by rw [hC.1]; exact h)
theorem vgq_X3_76 (hb : b < 2) (hC : isC w b P) (hM : M.1 = RX3) (n : Nat) (hd : decode M.2.1 pc = .ok (.getfield 76, 3)) (hn : pc + 3 = n) (h : V M n ls (.int (nI P.1.2.1) :: st) w Q) : V M pc ls (.ref (pr b) :: st) w Q := vg_X3_76 hb hM n hd hn (by rw [hC.2.1]; exact h)
theorem vgq_X3_161 (hb : b < 2) (hC : isC w b P) (hM : M.1 = RX3) (n : Nat) (hd : decode M.2.1 pc = .ok (.getfield 161, 3)) (hn : pc + 3 = n) (h : V M n ls (.int (P.1.2.2.2) :: st) w Q) : V M pc ls (.ref (pr b) :: st) w Q := vg_X3_161 hb hM n hd hn (by rw [hC.2.2.2.1]; exact h)
theorem vgq_X3_234 (hb : b < 2) (hC : isC w b P) (hM : M.1 = RX3) (n : Nat) (hd : decode M.2.1 pc = .ok (.getfield 234, 3)) (hn : pc + 3 = n) (h : V M n ls (.int (P.1.2.2.1) :: st) w Q) : V M pc ls (.ref (pr b) :: st) w Q := vg_X3_234 hb hM n hd hn (by rw [hC.2.2.1]; exact h)
theorem vgq_X0_51 (hb : b < 2) (hC : isC w b P) (hM : M.1 = RX0) (n : Nat) (hd : decode M.2.1 pc = .ok (.getfield 51, 3)) (hn : pc + 3 = n) (h : V M n ls (.int (P.1.2.2.2) :: st) w Q) : V M pc ls (.ref (pr b) :: st) w Q := vg_X0_51 hb hM n hd hn (by rw [hC.2.2.2.1]; exact h)
theorem vgq_X0_55 (hb : b < 2) (hC : isC w b P) (hM : M.1 = RX0) (n : Nat) (hd : decode M.2.1 pc = .ok (.getfield 55, 3)) (hn : pc + 3 = n) (h : V M n ls (.int (P.1.2.2.1) :: st) w Q) : V M pc ls (.ref (pr b) :: st) w Q := vg_X0_55 hb hM n hd hn (by rw [hC.2.2.1]; exact h)
theorem vgq_X1_36 (hb : b < 2) (hC : isC w b P) (hM : M.1 = RX1) (n : Nat) (hd : decode M.2.1 pc = .ok (.getfield 36, 3)) (hn : pc + 3 = n) (h : V M n ls (.int (nI P.1.1) :: st) w Q) : V M pc ls (.ref (pr b) :: st) w Q := vg_X1_36 hb hM n hd hn (by rw [hC.1]; exact h)
theorem vgq_X1_40 (hb : b < 2) (hC : isC w b P) (hM : M.1 = RX1) (n : Nat) (hd : decode M.2.1 pc = .ok (.getfield 40, 3)) (hn : pc + 3 = n) (h : V M n ls (.int (nI P.1.2.1) :: st) w Q) : V M pc ls (.ref (pr b) :: st) w Q := vg_X1_40 hb hM n hd hn (by rw [hC.2.1]; exact h)
theorem vgq_X1_43 (hb : b < 2) (hC : isC w b P) (hM : M.1 = RX1) (n : Nat) (hd : decode M.2.1 pc = .ok (.getfield 43, 3)) (hn : pc + 3 = n) (h : V M n ls (.int (P.1.2.2.1) :: st) w Q) : V M pc ls (.ref (pr b) :: st) w Q := vg_X1_43 hb hM n hd hn (by rw [hC.2.2.1]; exact h)
theorem vgq_X1_46 (hb : b < 2) (hC : isC w b P) (hM : M.1 = RX1) (n : Nat) (hd : decode M.2.1 pc = .ok (.getfield 46, 3)) (hn : pc + 3 = n) (h : V M n ls (.int (P.1.2.2.2) :: st) w Q) : V M pc ls (.ref (pr b) :: st) w Q := vg_X1_46 hb hM n hd hn (by rw [hC.2.2.2.1]; exact h)
theorem vgq_X2_32 (hb : b < 2) (hC : isC w b P) (hM : M.1 = RX2) (n : Nat) (hd : decode M.2.1 pc = .ok (.getfield 32, 3)) (hn : pc + 3 = n) (h : V M n ls (.int (nI P.1.1) :: st) w Q) : V M pc ls (.ref (pr b) :: st) w Q := vg_X2_32 hb hM n hd hn (by rw [hC.1]; exact h)
theorem vgq_X2_41 (hb : b < 2) (hC : isC w b P) (hM : M.1 = RX2) (n : Nat) (hd : decode M.2.1 pc = .ok (.getfield 41, 3)) (hn : pc + 3 = n) (h : V M n ls (.int (nI P.1.2.1) :: st) w Q) : V M pc ls (.ref (pr b) :: st) w Q := vg_X2_41 hb hM n hd hn (by rw [hC.2.1]; exact h)
end VQ
end
section
set_option maxHeartbeats 4000000 in
set_option maxRecDepth 100000 in
theorem c_X1_hasStamp {b : Nat} (hb : b < 2) {w : Wd} {P : PT} (hC : isC w b P) {i : Int32} {Q : Option Value → Wd → Prop} (hT : (∃ k, k < P.1.1 ∧ i = nI k) → Q (some (.int 1)) w) (hF : (¬ ∃ k, k < P.1.1 ∧ i = nI k) → Q (some (.int 0)) w) : V mX1_hasStamp 0 [some (.ref (pr b)), some (.int i)] [] w Q := by
  have h5 := hC.2.2.2.2.1
  have h4 := hC.2.2.2.2.2.1
  refine li_2_1 1 dX1_hasStamp_0 rfl ?_
  refine v_if_lt 16 4 dX1_hasStamp_1 rfl rfl (fun h1 => ?_) (fun h1 => ?_)
  · refine v_iconst (v := 0) 17 dX1_hasStamp_16 rfl ki_0 ?_
    refine v_zret dX1_hasStamp_17 rfl (Or.inl rfl) ?_
    first
      | exact hT (inR (by omega) ‹_› ‹_›)
      | exact hF (notR (by omega) (Or.inl ‹_›))
      | exact hF (notR (by omega) (Or.inr ‹_›))
  · refine li_2_1 5 dX1_hasStamp_4 rfl ?_
    refine la_2_0 6 dX1_hasStamp_5 rfl ?_
    refine vgq_X1_36 hb hC rfl 9 dX1_hasStamp_6 rfl ?_
    refine v_icmp_ge 16 12 dX1_hasStamp_9 rfl rfl (fun h9 => ?_) (fun h9 => ?_)
    · refine v_iconst (v := 0) 17 dX1_hasStamp_16 rfl ki_0 ?_
      refine v_zret dX1_hasStamp_17 rfl (Or.inl rfl) ?_
      first
        | exact hT (inR (by omega) ‹_› ‹_›)
        | exact hF (notR (by omega) (Or.inl ‹_›))
        | exact hF (notR (by omega) (Or.inr ‹_›))
    · refine v_iconst (v := 1) 13 dX1_hasStamp_12 rfl ki_1 ?_
      refine v_goto 17 dX1_hasStamp_13 rfl ?_
      refine v_zret dX1_hasStamp_17 rfl (Or.inr rfl) ?_
      first
        | exact hT (inR (by omega) ‹_› ‹_›)
        | exact hF (notR (by omega) (Or.inl ‹_›))
        | exact hF (notR (by omega) (Or.inr ‹_›))
set_option maxHeartbeats 4000000 in
set_option maxRecDepth 100000 in
theorem c_X1_hasLetter {b : Nat} (hb : b < 2) {w : Wd} {P : PT} (hC : isC w b P) {i : Int32} {Q : Option Value → Wd → Prop} (hT : (∃ k, k < P.1.2.1 ∧ i = nI k) → Q (some (.int 1)) w) (hF : (¬ ∃ k, k < P.1.2.1 ∧ i = nI k) → Q (some (.int 0)) w) : V mX1_hasLetter 0 [some (.ref (pr b)), some (.int i)] [] w Q := by
  have h5 := hC.2.2.2.2.1
  have h4 := hC.2.2.2.2.2.1
  refine li_2_1 1 dX1_hasLetter_0 rfl ?_
  refine v_if_lt 16 4 dX1_hasLetter_1 rfl rfl (fun h1 => ?_) (fun h1 => ?_)
  · refine v_iconst (v := 0) 17 dX1_hasLetter_16 rfl ki_0 ?_
    refine v_zret dX1_hasLetter_17 rfl (Or.inl rfl) ?_
    first
      | exact hT (inR (by omega) ‹_› ‹_›)
      | exact hF (notR (by omega) (Or.inl ‹_›))
      | exact hF (notR (by omega) (Or.inr ‹_›))
  · refine li_2_1 5 dX1_hasLetter_4 rfl ?_
    refine la_2_0 6 dX1_hasLetter_5 rfl ?_
    refine vgq_X1_40 hb hC rfl 9 dX1_hasLetter_6 rfl ?_
    refine v_icmp_ge 16 12 dX1_hasLetter_9 rfl rfl (fun h9 => ?_) (fun h9 => ?_)
    · refine v_iconst (v := 0) 17 dX1_hasLetter_16 rfl ki_0 ?_
      refine v_zret dX1_hasLetter_17 rfl (Or.inl rfl) ?_
      first
        | exact hT (inR (by omega) ‹_› ‹_›)
        | exact hF (notR (by omega) (Or.inl ‹_›))
        | exact hF (notR (by omega) (Or.inr ‹_›))
    · refine v_iconst (v := 1) 13 dX1_hasLetter_12 rfl ki_1 ?_
      refine v_goto 17 dX1_hasLetter_13 rfl ?_
      refine v_zret dX1_hasLetter_17 rfl (Or.inr rfl) ?_
      first
        | exact hT (inR (by omega) ‹_› ‹_›)
        | exact hF (notR (by omega) (Or.inl ‹_›))
        | exact hF (notR (by omega) (Or.inr ‹_›))
set_option maxHeartbeats 4000000 in
set_option maxRecDepth 100000 in
theorem c_X1_allBits {b : Nat} (hb : b < 2) {w : Wd} {P : PT} (hC : isC w b P)  {Q : Option Value → Wd → Prop} (hQ : Q (some (.int (1 <<< (nI P.1.1 &&& 31) - 1))) w) : V mX1_allBits 0 [some (.ref (pr b))] [] w Q := by
  refine v_iconst (v := 1) 1 dX1_allBits_0 rfl ki_1 ?_
  refine la_1_0 2 dX1_allBits_1 rfl ?_
  refine vgq_X1_36 hb hC rfl 5 dX1_allBits_2 rfl ?_
  refine v_ishl 6 dX1_allBits_5 rfl ?_
  refine v_iconst (v := 1) 7 dX1_allBits_6 rfl ki_1 ?_
  refine v_isub 8 dX1_allBits_7 rfl ?_
  refine v_iret dX1_allBits_8 rfl ?_
  exact hQ
set_option maxHeartbeats 4000000 in
set_option maxRecDepth 100000 in
theorem c_X1_span {b : Nat} (hb : b < 2) {w : Wd} {P : PT} (hC : isC w b P) {k : Nat} (hk : k < P.1.1) {Q : Option Value → Wd → Prop} (hQ : Q (some (.int (spanF (P.2 2 k) (P.2 1 k)))) w) : V mX1_span 0 [some (.ref (pr b)), some (.int (nI k)), none] [] w Q := by
  refine la_3_0 1 dX1_span_0 rfl ?_
  refine vg_X1_18 hb rfl 4 dX1_span_1 rfl ?_
  refine li_3_1 5 dX1_span_4 rfl ?_
  refine vlq_X1_kind hb hC _ 6 dX1_span_5 rfl rfl (by omega) ?_
  refine v_iconst (v := 1) 7 dX1_span_6 rfl ki_1 ?_
  refine v_icmp_ne 15 10 dX1_span_7 rfl rfl (fun h7 => ?_) (fun h7 => ?_)
  · refine la_3_0 16 dX1_span_15 rfl ?_
    refine vg_X1_18 hb rfl 19 dX1_span_16 rfl ?_
    refine li_3_1 20 dX1_span_19 rfl ?_
    refine vlq_X1_kind hb hC _ 21 dX1_span_20 rfl rfl (by omega) ?_
    refine v_iconst (v := 2) 22 dX1_span_21 rfl ki_2 ?_
    refine v_icmp_ne 30 25 dX1_span_22 rfl rfl (fun h22 => ?_) (fun h22 => ?_)
    · refine v_iconst (v := 0) 31 dX1_span_30 rfl ki_0 ?_
      refine si_3_2 rfl 32 dX1_span_31 rfl rfl ?_
      refine v_bipush (v := 60) 34 dX1_span_32 rfl kb_60 ?_
      refine v_iconst (v := 3) 35 dX1_span_34 rfl ki_3 ?_
      refine la_3_0 36 dX1_span_35 rfl ?_
      refine vg_X1_15 hb rfl 39 dX1_span_36 rfl ?_
      refine li_3_1 40 dX1_span_39 rfl ?_
      refine vlq_X1_health hb hC _ 41 dX1_span_40 rfl rfl (by omega) ?_
      refine v_imul 42 dX1_span_41 rfl ?_
      refine v_iadd 43 dX1_span_42 rfl ?_
      refine li_3_2 44 dX1_span_43 rfl ?_
      refine v_iadd 45 dX1_span_44 rfl ?_
      refine v_iret dX1_span_45 rfl ?_
      simp only [spanF, *, if_true, if_false] at hQ
      exact hQ
    · refine v_bipush (v := 15) 27 dX1_span_25 rfl kb_15 ?_
      refine v_goto 31 dX1_span_27 rfl ?_
      refine si_3_2 rfl 32 dX1_span_31 rfl rfl ?_
      refine v_bipush (v := 60) 34 dX1_span_32 rfl kb_60 ?_
      refine v_iconst (v := 3) 35 dX1_span_34 rfl ki_3 ?_
      refine la_3_0 36 dX1_span_35 rfl ?_
      refine vg_X1_15 hb rfl 39 dX1_span_36 rfl ?_
      refine li_3_1 40 dX1_span_39 rfl ?_
      refine vlq_X1_health hb hC _ 41 dX1_span_40 rfl rfl (by omega) ?_
      refine v_imul 42 dX1_span_41 rfl ?_
      refine v_iadd 43 dX1_span_42 rfl ?_
      refine li_3_2 44 dX1_span_43 rfl ?_
      refine v_iadd 45 dX1_span_44 rfl ?_
      refine v_iret dX1_span_45 rfl ?_
      simp only [spanF, *, if_true, if_false] at hQ
      exact hQ
  · refine v_bipush (v := 10) 12 dX1_span_10 rfl kb_10 ?_
    refine v_goto 31 dX1_span_12 rfl ?_
    refine si_3_2 rfl 32 dX1_span_31 rfl rfl ?_
    refine v_bipush (v := 60) 34 dX1_span_32 rfl kb_60 ?_
    refine v_iconst (v := 3) 35 dX1_span_34 rfl ki_3 ?_
    refine la_3_0 36 dX1_span_35 rfl ?_
    refine vg_X1_15 hb rfl 39 dX1_span_36 rfl ?_
    refine li_3_1 40 dX1_span_39 rfl ?_
    refine vlq_X1_health hb hC _ 41 dX1_span_40 rfl rfl (by omega) ?_
    refine v_imul 42 dX1_span_41 rfl ?_
    refine v_iadd 43 dX1_span_42 rfl ?_
    refine li_3_2 44 dX1_span_43 rfl ?_
    refine v_iadd 45 dX1_span_44 rfl ?_
    refine v_iret dX1_span_45 rfl ?_
    simp only [spanF, *, if_true, if_false] at hQ
    exact hQ
set_option maxHeartbeats 4000000 in
set_option maxRecDepth 100000 in
theorem c_X1_isAlive {b : Nat} (hb : b < 2) {w : Wd} {P : PT} (hC : isC w b P) {k : Nat} (hk : k < P.1.1) {Q : Option Value → Wd → Prop} (hT : alP P k = true → Q (some (.int 1)) w) (hF : alP P k = false → Q (some (.int 0)) w) : V mX1_isAlive 0 [some (.ref (pr b)), some (.int (nI k))] [] w Q := by
  refine la_2_0 1 dX1_isAlive_0 rfl ?_
  refine vg_X1_9 hb rfl 4 dX1_isAlive_1 rfl ?_
  refine li_2_1 5 dX1_isAlive_4 rfl ?_
  refine vlq_X1_age hb hC _ 6 dX1_isAlive_5 rfl rfl (by omega) ?_
  refine la_2_0 7 dX1_isAlive_6 rfl ?_
  refine li_2_1 8 dX1_isAlive_7 rfl ?_
  refine v_cVI1 11 dX1_isAlive_8 rfl fvX1_span fiX1_span ml_X1_77 (seX1 hb) rfl ⟨(Nat.le_of_ble_eq_true rfl), (Nat.le_of_ble_eq_true rfl)⟩ (Nat.le_of_ble_eq_true rfl) (Nat.le_of_ble_eq_true rfl) (c_X1_span hb hC (by omega) ⟨_, rfl, ?_⟩) rfl
  refine v_icmp_ge 18 14 dX1_isAlive_11 rfl rfl (fun h11 => ?_) (fun h11 => ?_)
  · refine v_iconst (v := 0) 19 dX1_isAlive_18 rfl ki_0 ?_
    refine v_zret dX1_isAlive_19 rfl (Or.inl rfl) ?_
    first
      | exact hT (by simpa [alP] using i_nle.mp ‹_›)
      | exact hF (by simpa [alP, i_nlt] using ‹_›)
  · refine v_iconst (v := 1) 15 dX1_isAlive_14 rfl ki_1 ?_
    refine v_goto 19 dX1_isAlive_15 rfl ?_
    refine v_zret dX1_isAlive_19 rfl (Or.inr rfl) ?_
    first
      | exact hT (by simpa [alP] using i_nle.mp ‹_›)
      | exact hF (by simpa [alP, i_nlt] using ‹_›)
set_option maxHeartbeats 4000000 in
set_option maxRecDepth 100000 in
theorem c_X1_rate {b : Nat} (hb : b < 2) {w : Wd} {P : PT} (hC : isC w b P) {k : Nat} (hk : k < P.1.1) {Q : Option Value → Wd → Prop} (hQ : Q (some (.int (rateP P k))) w) : V mX1_rate 0 [some (.ref (pr b)), some (.int (nI k))] [] w Q := by
  refine la_2_0 1 dX1_rate_0 rfl ?_
  refine vg_X1_18 hb rfl 4 dX1_rate_1 rfl ?_
  refine li_2_1 5 dX1_rate_4 rfl ?_
  refine vlq_X1_kind hb hC _ 6 dX1_rate_5 rfl rfl (by omega) ?_
  refine v_tab3 32 49 51 68 dX1_rate_6 rfl rfl rfl rfl (fun h6_0 => ?_) (fun h6_1 => ?_) (fun h6_2 => ?_) (fun n6_0 n6_1 n6_2 => ?_)
  · refine v_bipush (v := 9) 34 dX1_rate_32 rfl kb_9 ?_
    refine v_iconst (v := 2) 35 dX1_rate_34 rfl ki_2 ?_
    refine la_2_0 36 dX1_rate_35 rfl ?_
    refine vg_X1_9 hb rfl 39 dX1_rate_36 rfl ?_
    refine li_2_1 40 dX1_rate_39 rfl ?_
    refine vlq_X1_age hb hC _ 41 dX1_rate_40 rfl rfl (by omega) ?_
    refine v_bipush (v := 20) 43 dX1_rate_41 rfl kb_20 ?_
    refine v_idiv 44 dX1_rate_43 rfl (by decide) ?_
    refine v_iadd 45 dX1_rate_44 rfl ?_
    refine v_mmin 48 dX1_rate_45 rfl ml_X1_81 (by decide) (by decide) (Nat.le_of_ble_eq_true rfl) ?_
    refine v_iret dX1_rate_48 rfl ?_
    simp only [rateP, rateF, *, if_true, if_false] at hQ
    exact hQ
  · refine v_iconst (v := 1) 50 dX1_rate_49 rfl ki_1 ?_
    refine v_iret dX1_rate_50 rfl ?_
    simp only [rateP, rateF, *, if_true, if_false] at hQ
    exact hQ
  · refine v_bipush (v := 9) 53 dX1_rate_51 rfl kb_9 ?_
    refine v_iconst (v := 2) 54 dX1_rate_53 rfl ki_2 ?_
    refine la_2_0 55 dX1_rate_54 rfl ?_
    refine vg_X1_9 hb rfl 58 dX1_rate_55 rfl ?_
    refine li_2_1 59 dX1_rate_58 rfl ?_
    refine vlq_X1_age hb hC _ 60 dX1_rate_59 rfl rfl (by omega) ?_
    refine v_bipush (v := 10) 62 dX1_rate_60 rfl kb_10 ?_
    refine v_idiv 63 dX1_rate_62 rfl (by decide) ?_
    refine v_iadd 64 dX1_rate_63 rfl ?_
    refine v_mmin 67 dX1_rate_64 rfl ml_X1_81 (by decide) (by decide) (Nat.le_of_ble_eq_true rfl) ?_
    refine v_iret dX1_rate_67 rfl ?_
    simp only [rateP, rateF, *, if_true, if_false] at hQ
    exact hQ
  · refine v_iconst (v := 0) 69 dX1_rate_68 rfl ki_0 ?_
    refine v_iret dX1_rate_69 rfl ?_
    simp only [rateP, rateF, *, if_true, if_false] at hQ
    exact hQ
end
