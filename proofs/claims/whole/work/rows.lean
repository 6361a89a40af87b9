section
-- ===== PART A: goes FIRST, ahead of the names: the tables' words, and 'selects' of the private methods out of them =====
/-- a private method of a class that the tables say can be made, by its rows of tables_1 -/
def lw_okq (q : MethodName × Nat) : Prop := (q.1.cls ≠ "java/lang/invoke/MethodHandle" ∧ q.1.cls ≠ "java/lang/invoke/VarHandle") ∧ Cond.instantiable q.1.cls q.2 ∈ tables_1 ∧ Cond.privateMethod q.1 ∈ tables_1 ∧ Cond.instanceMethod q.1 ∈ tables_1
theorem lw_p0 : lw_okq (⟨"PachinkoReels", "measurePays", "(I)I"⟩, 6) := ⟨⟨by decide +kernel, by decide +kernel⟩, List.mem_of_getElem? (i := 18) (by decide +kernel), List.mem_of_getElem? (i := 191) (by decide +kernel), List.mem_of_getElem? (i := 192) (by decide +kernel)⟩
theorem lw_p1 : lw_okq (⟨"PachinkoReels$Paths", "countRow", "([II)V"⟩, 3) := ⟨⟨by decide +kernel, by decide +kernel⟩, List.mem_of_getElem? (i := 114) (by decide +kernel), List.mem_of_getElem? (i := 200) (by decide +kernel), List.mem_of_getElem? (i := 201) (by decide +kernel)⟩
theorem lw_p2 : lw_okq (⟨"PachinkoReels", "hashBoard", "(J)J"⟩, 6) := ⟨⟨by decide +kernel, by decide +kernel⟩, List.mem_of_getElem? (i := 18) (by decide +kernel), List.mem_of_getElem? (i := 232) (by decide +kernel), List.mem_of_getElem? (i := 233) (by decide +kernel)⟩
theorem lw_p3 : lw_okq (⟨"PachinkoReels", "hashColumn", "(JI)J"⟩, 6) := ⟨⟨by decide +kernel, by decide +kernel⟩, List.mem_of_getElem? (i := 18) (by decide +kernel), List.mem_of_getElem? (i := 241) (by decide +kernel), List.mem_of_getElem? (i := 242) (by decide +kernel)⟩
theorem lw_p4 : lw_okq (⟨"PachinkoReels", "tryLaunch", "(I)V"⟩, 6) := ⟨⟨by decide +kernel, by decide +kernel⟩, List.mem_of_getElem? (i := 18) (by decide +kernel), List.mem_of_getElem? (i := 252) (by decide +kernel), List.mem_of_getElem? (i := 253) (by decide +kernel)⟩
theorem lw_p5 : lw_okq (⟨"PachinkoReels$Board", "spinReels", "()V"⟩, 10) := ⟨⟨by decide +kernel, by decide +kernel⟩, List.mem_of_getElem? (i := 26) (by decide +kernel), List.mem_of_getElem? (i := 260) (by decide +kernel), List.mem_of_getElem? (i := 261) (by decide +kernel)⟩
theorem lw_p6 : lw_okq (⟨"PachinkoReels$Board", "drawBelow", "(I)I"⟩, 10) := ⟨⟨by decide +kernel, by decide +kernel⟩, List.mem_of_getElem? (i := 26) (by decide +kernel), List.mem_of_getElem? (i := 264) (by decide +kernel), List.mem_of_getElem? (i := 265) (by decide +kernel)⟩
theorem lw_p7 : lw_okq (⟨"PachinkoReels$Board", "fallFrom", "(I)I"⟩, 10) := ⟨⟨by decide +kernel, by decide +kernel⟩, List.mem_of_getElem? (i := 26) (by decide +kernel), List.mem_of_getElem? (i := 272) (by decide +kernel), List.mem_of_getElem? (i := 273) (by decide +kernel)⟩
theorem lw_p8 : lw_okq (⟨"PachinkoReels$Board", "comeTo", "(I)I"⟩, 10) := ⟨⟨by decide +kernel, by decide +kernel⟩, List.mem_of_getElem? (i := 26) (by decide +kernel), List.mem_of_getElem? (i := 277) (by decide +kernel), List.mem_of_getElem? (i := 278) (by decide +kernel)⟩
theorem lw_p9 : lw_okq (⟨"PachinkoReels$Board", "payFrom", "(I)I"⟩, 10) := ⟨⟨by decide +kernel, by decide +kernel⟩, List.mem_of_getElem? (i := 26) (by decide +kernel), List.mem_of_getElem? (i := 281) (by decide +kernel), List.mem_of_getElem? (i := 282) (by decide +kernel)⟩
theorem lw_p10 : lw_okq (⟨"PachinkoReels", "tellTried", "(I)I"⟩, 6) := ⟨⟨by decide +kernel, by decide +kernel⟩, List.mem_of_getElem? (i := 18) (by decide +kernel), List.mem_of_getElem? (i := 285) (by decide +kernel), List.mem_of_getElem? (i := 286) (by decide +kernel)⟩
theorem lw_p11 : lw_okq (⟨"PachinkoReels", "tryUntilHeld", "(I)I"⟩, 6) := ⟨⟨by decide +kernel, by decide +kernel⟩, List.mem_of_getElem? (i := 18) (by decide +kernel), List.mem_of_getElem? (i := 289) (by decide +kernel), List.mem_of_getElem? (i := 290) (by decide +kernel)⟩
theorem lw_p12 : lw_okq (⟨"java/lang/Throwable", "fillInStackTrace", "(I)Ljava/lang/Throwable;"⟩, 6) := ⟨⟨by decide +kernel, by decide +kernel⟩, List.mem_of_getElem? (i := 353) (by decide +kernel), List.mem_of_getElem? (i := 351) (by decide +kernel), List.mem_of_getElem? (i := 352) (by decide +kernel)⟩
theorem lw_p13 : lw_okq (⟨"PachinkoReels$Board", "addBentPin", "(I)V"⟩, 10) := ⟨⟨by decide +kernel, by decide +kernel⟩, List.mem_of_getElem? (i := 26) (by decide +kernel), List.mem_of_getElem? (i := 412) (by decide +kernel), List.mem_of_getElem? (i := 413) (by decide +kernel)⟩
theorem lw_p14 : lw_okq (⟨"PachinkoReels$Board", "removeBentPin", "(I)V"⟩, 10) := ⟨⟨by decide +kernel, by decide +kernel⟩, List.mem_of_getElem? (i := 26) (by decide +kernel), List.mem_of_getElem? (i := 416) (by decide +kernel), List.mem_of_getElem? (i := 417) (by decide +kernel)⟩
theorem lw_p15 : lw_okq (⟨"PachinkoReels", "doPart", "(II)I"⟩, 6) := ⟨⟨by decide +kernel, by decide +kernel⟩, List.mem_of_getElem? (i := 18) (by decide +kernel), List.mem_of_getElem? (i := 536) (by decide +kernel), List.mem_of_getElem? (i := 537) (by decide +kernel)⟩
def lw_privs_1 : List (MethodName × Nat) := [(⟨"PachinkoReels", "measurePays", "(I)I"⟩, 6), (⟨"PachinkoReels$Paths", "countRow", "([II)V"⟩, 3), (⟨"PachinkoReels", "hashBoard", "(J)J"⟩, 6), (⟨"PachinkoReels", "hashColumn", "(JI)J"⟩, 6), (⟨"PachinkoReels", "tryLaunch", "(I)V"⟩, 6), (⟨"PachinkoReels$Board", "spinReels", "()V"⟩, 10), (⟨"PachinkoReels$Board", "drawBelow", "(I)I"⟩, 10), (⟨"PachinkoReels$Board", "fallFrom", "(I)I"⟩, 10), (⟨"PachinkoReels$Board", "comeTo", "(I)I"⟩, 10), (⟨"PachinkoReels$Board", "payFrom", "(I)I"⟩, 10), (⟨"PachinkoReels", "tellTried", "(I)I"⟩, 6), (⟨"PachinkoReels", "tryUntilHeld", "(I)I"⟩, 6), (⟨"java/lang/Throwable", "fillInStackTrace", "(I)Ljava/lang/Throwable;"⟩, 6), (⟨"PachinkoReels$Board", "addBentPin", "(I)V"⟩, 10), (⟨"PachinkoReels$Board", "removeBentPin", "(I)V"⟩, 10), (⟨"PachinkoReels", "doPart", "(II)I"⟩, 6)]
theorem lw_r1 : ∀ q ∈ lw_privs_1, lw_okq q := List.forall_mem_cons.mpr ⟨lw_p0, List.forall_mem_cons.mpr ⟨lw_p1, List.forall_mem_cons.mpr ⟨lw_p2, List.forall_mem_cons.mpr ⟨lw_p3, List.forall_mem_cons.mpr ⟨lw_p4, List.forall_mem_cons.mpr ⟨lw_p5, List.forall_mem_cons.mpr ⟨lw_p6, List.forall_mem_cons.mpr ⟨lw_p7, List.forall_mem_cons.mpr ⟨lw_p8, List.forall_mem_cons.mpr ⟨lw_p9, List.forall_mem_cons.mpr ⟨lw_p10, List.forall_mem_cons.mpr ⟨lw_p11, List.forall_mem_cons.mpr ⟨lw_p12, List.forall_mem_cons.mpr ⟨lw_p13, List.forall_mem_cons.mpr ⟨lw_p14, List.forall_mem_cons.mpr ⟨lw_p15, fun _ h => absurd h List.not_mem_nil⟩⟩⟩⟩⟩⟩⟩⟩⟩⟩⟩⟩⟩⟩⟩⟩
theorem lw_p16 : lw_okq (⟨"PachinkoReelsModel", "put", "(III)V"⟩, 15) := ⟨⟨by decide +kernel, by decide +kernel⟩, List.mem_of_getElem? (i := 648) (by decide +kernel), List.mem_of_getElem? (i := 654) (by decide +kernel), List.mem_of_getElem? (i := 655) (by decide +kernel)⟩
theorem lw_p17 : lw_okq (⟨"PachinkoReelsModel", "record", "()V"⟩, 15) := ⟨⟨by decide +kernel, by decide +kernel⟩, List.mem_of_getElem? (i := 648) (by decide +kernel), List.mem_of_getElem? (i := 720) (by decide +kernel), List.mem_of_getElem? (i := 721) (by decide +kernel)⟩
theorem lw_p18 : lw_okq (⟨"PachinkoReelsModel", "doBend", "(III)I"⟩, 15) := ⟨⟨by decide +kernel, by decide +kernel⟩, List.mem_of_getElem? (i := 648) (by decide +kernel), List.mem_of_getElem? (i := 737) (by decide +kernel), List.mem_of_getElem? (i := 738) (by decide +kernel)⟩
theorem lw_p19 : lw_okq (⟨"PachinkoReelsModel", "lean", "(I)I"⟩, 15) := ⟨⟨by decide +kernel, by decide +kernel⟩, List.mem_of_getElem? (i := 648) (by decide +kernel), List.mem_of_getElem? (i := 741) (by decide +kernel), List.mem_of_getElem? (i := 742) (by decide +kernel)⟩
theorem lw_p20 : lw_okq (⟨"PachinkoReelsModel", "of", "(II)I"⟩, 15) := ⟨⟨by decide +kernel, by decide +kernel⟩, List.mem_of_getElem? (i := 648) (by decide +kernel), List.mem_of_getElem? (i := 749) (by decide +kernel), List.mem_of_getElem? (i := 750) (by decide +kernel)⟩
theorem lw_p21 : lw_okq (⟨"PachinkoReelsModel", "change", "(II)I"⟩, 15) := ⟨⟨by decide +kernel, by decide +kernel⟩, List.mem_of_getElem? (i := 648) (by decide +kernel), List.mem_of_getElem? (i := 757) (by decide +kernel), List.mem_of_getElem? (i := 758) (by decide +kernel)⟩
theorem lw_p22 : lw_okq (⟨"PachinkoReelsModel", "doBuy", "(I)I"⟩, 15) := ⟨⟨by decide +kernel, by decide +kernel⟩, List.mem_of_getElem? (i := 648) (by decide +kernel), List.mem_of_getElem? (i := 773) (by decide +kernel), List.mem_of_getElem? (i := 774) (by decide +kernel)⟩
theorem lw_p23 : lw_okq (⟨"PachinkoReelsModel", "doLaunch", "(I)I"⟩, 15) := ⟨⟨by decide +kernel, by decide +kernel⟩, List.mem_of_getElem? (i := 648) (by decide +kernel), List.mem_of_getElem? (i := 781) (by decide +kernel), List.mem_of_getElem? (i := 782) (by decide +kernel)⟩
theorem lw_p24 : lw_okq (⟨"PachinkoReelsModel", "spin", "()V"⟩, 15) := ⟨⟨by decide +kernel, by decide +kernel⟩, List.mem_of_getElem? (i := 648) (by decide +kernel), List.mem_of_getElem? (i := 785) (by decide +kernel), List.mem_of_getElem? (i := 786) (by decide +kernel)⟩
theorem lw_p25 : lw_okq (⟨"PachinkoReelsModel", "draw", "(I)I"⟩, 15) := ⟨⟨by decide +kernel, by decide +kernel⟩, List.mem_of_getElem? (i := 648) (by decide +kernel), List.mem_of_getElem? (i := 789) (by decide +kernel), List.mem_of_getElem? (i := 790) (by decide +kernel)⟩
theorem lw_p26 : lw_okq (⟨"PachinkoReelsModel", "fall", "(I)I"⟩, 15) := ⟨⟨by decide +kernel, by decide +kernel⟩, List.mem_of_getElem? (i := 648) (by decide +kernel), List.mem_of_getElem? (i := 797) (by decide +kernel), List.mem_of_getElem? (i := 798) (by decide +kernel)⟩
theorem lw_p27 : lw_okq (⟨"PachinkoReelsModel", "come", "(I)I"⟩, 15) := ⟨⟨by decide +kernel, by decide +kernel⟩, List.mem_of_getElem? (i := 648) (by decide +kernel), List.mem_of_getElem? (i := 804) (by decide +kernel), List.mem_of_getElem? (i := 805) (by decide +kernel)⟩
theorem lw_p28 : lw_okq (⟨"PachinkoReelsModel", "isOpen", "(I)Z"⟩, 15) := ⟨⟨by decide +kernel, by decide +kernel⟩, List.mem_of_getElem? (i := 648) (by decide +kernel), List.mem_of_getElem? (i := 808) (by decide +kernel), List.mem_of_getElem? (i := 809) (by decide +kernel)⟩
theorem lw_p29 : lw_okq (⟨"PachinkoReelsModel", "doPlay", "(II)I"⟩, 15) := ⟨⟨by decide +kernel, by decide +kernel⟩, List.mem_of_getElem? (i := 648) (by decide +kernel), List.mem_of_getElem? (i := 816) (by decide +kernel), List.mem_of_getElem? (i := 817) (by decide +kernel)⟩
theorem lw_p30 : lw_okq (⟨"PachinkoReelsModel", "findError", "()I"⟩, 15) := ⟨⟨by decide +kernel, by decide +kernel⟩, List.mem_of_getElem? (i := 648) (by decide +kernel), List.mem_of_getElem? (i := 832) (by decide +kernel), List.mem_of_getElem? (i := 833) (by decide +kernel)⟩
theorem lw_p31 : lw_okq (⟨"PachinkoReelsModel", "readPart", "(I)I"⟩, 15) := ⟨⟨by decide +kernel, by decide +kernel⟩, List.mem_of_getElem? (i := 648) (by decide +kernel), List.mem_of_getElem? (i := 836) (by decide +kernel), List.mem_of_getElem? (i := 837) (by decide +kernel)⟩
def lw_privs_2 : List (MethodName × Nat) := [(⟨"PachinkoReelsModel", "put", "(III)V"⟩, 15), (⟨"PachinkoReelsModel", "record", "()V"⟩, 15), (⟨"PachinkoReelsModel", "doBend", "(III)I"⟩, 15), (⟨"PachinkoReelsModel", "lean", "(I)I"⟩, 15), (⟨"PachinkoReelsModel", "of", "(II)I"⟩, 15), (⟨"PachinkoReelsModel", "change", "(II)I"⟩, 15), (⟨"PachinkoReelsModel", "doBuy", "(I)I"⟩, 15), (⟨"PachinkoReelsModel", "doLaunch", "(I)I"⟩, 15), (⟨"PachinkoReelsModel", "spin", "()V"⟩, 15), (⟨"PachinkoReelsModel", "draw", "(I)I"⟩, 15), (⟨"PachinkoReelsModel", "fall", "(I)I"⟩, 15), (⟨"PachinkoReelsModel", "come", "(I)I"⟩, 15), (⟨"PachinkoReelsModel", "isOpen", "(I)Z"⟩, 15), (⟨"PachinkoReelsModel", "doPlay", "(II)I"⟩, 15), (⟨"PachinkoReelsModel", "findError", "()I"⟩, 15), (⟨"PachinkoReelsModel", "readPart", "(I)I"⟩, 15)]
theorem lw_r2 : ∀ q ∈ lw_privs_2, lw_okq q := List.forall_mem_cons.mpr ⟨lw_p16, List.forall_mem_cons.mpr ⟨lw_p17, List.forall_mem_cons.mpr ⟨lw_p18, List.forall_mem_cons.mpr ⟨lw_p19, List.forall_mem_cons.mpr ⟨lw_p20, List.forall_mem_cons.mpr ⟨lw_p21, List.forall_mem_cons.mpr ⟨lw_p22, List.forall_mem_cons.mpr ⟨lw_p23, List.forall_mem_cons.mpr ⟨lw_p24, List.forall_mem_cons.mpr ⟨lw_p25, List.forall_mem_cons.mpr ⟨lw_p26, List.forall_mem_cons.mpr ⟨lw_p27, List.forall_mem_cons.mpr ⟨lw_p28, List.forall_mem_cons.mpr ⟨lw_p29, List.forall_mem_cons.mpr ⟨lw_p30, List.forall_mem_cons.mpr ⟨lw_p31, fun _ h => absurd h List.not_mem_nil⟩⟩⟩⟩⟩⟩⟩⟩⟩⟩⟩⟩⟩⟩⟩⟩
theorem lw_p32 : lw_okq (⟨"PachinkoReelsModel", "at", "(I)I"⟩, 15) := ⟨⟨by decide +kernel, by decide +kernel⟩, List.mem_of_getElem? (i := 648) (by decide +kernel), List.mem_of_getElem? (i := 840) (by decide +kernel), List.mem_of_getElem? (i := 841) (by decide +kernel)⟩
theorem lw_p33 : lw_okq (⟨"PachinkoReelsModel", "readNumber", "(II)I"⟩, 15) := ⟨⟨by decide +kernel, by decide +kernel⟩, List.mem_of_getElem? (i := 648) (by decide +kernel), List.mem_of_getElem? (i := 844) (by decide +kernel), List.mem_of_getElem? (i := 845) (by decide +kernel)⟩
theorem lw_p34 : lw_okq (⟨"PachinkoReelsModel", "doPart", "()I"⟩, 15) := ⟨⟨by decide +kernel, by decide +kernel⟩, List.mem_of_getElem? (i := 648) (by decide +kernel), List.mem_of_getElem? (i := 852) (by decide +kernel), List.mem_of_getElem? (i := 853) (by decide +kernel)⟩
theorem lw_p35 : lw_okq (⟨"PachinkoReelsModel", "bentAt", "(I)I"⟩, 15) := ⟨⟨by decide +kernel, by decide +kernel⟩, List.mem_of_getElem? (i := 648) (by decide +kernel), List.mem_of_getElem? (i := 864) (by decide +kernel), List.mem_of_getElem? (i := 865) (by decide +kernel)⟩
theorem lw_p36 : lw_okq (⟨"PachinkoReelsModel", "pocketNow", "(II)I"⟩, 15) := ⟨⟨by decide +kernel, by decide +kernel⟩, List.mem_of_getElem? (i := 648) (by decide +kernel), List.mem_of_getElem? (i := 876) (by decide +kernel), List.mem_of_getElem? (i := 877) (by decide +kernel)⟩
theorem lw_p37 : lw_okq (⟨"PachinkoReelsModel", "countNow", "(I)I"⟩, 15) := ⟨⟨by decide +kernel, by decide +kernel⟩, List.mem_of_getElem? (i := 648) (by decide +kernel), List.mem_of_getElem? (i := 888) (by decide +kernel), List.mem_of_getElem? (i := 889) (by decide +kernel)⟩
theorem lw_p38 : lw_okq (⟨"PachinkoReelsModel", "bentPins", "()I"⟩, 15) := ⟨⟨by decide +kernel, by decide +kernel⟩, List.mem_of_getElem? (i := 648) (by decide +kernel), List.mem_of_getElem? (i := 892) (by decide +kernel), List.mem_of_getElem? (i := 893) (by decide +kernel)⟩
theorem lw_p39 : lw_okq (⟨"PachinkoReelsModel", "waysTo", "(II)I"⟩, 15) := ⟨⟨by decide +kernel, by decide +kernel⟩, List.mem_of_getElem? (i := 648) (by decide +kernel), List.mem_of_getElem? (i := 900) (by decide +kernel), List.mem_of_getElem? (i := 901) (by decide +kernel)⟩
theorem lw_p40 : lw_okq (⟨"PachinkoReelsModel", "findWays", "(I)V"⟩, 15) := ⟨⟨by decide +kernel, by decide +kernel⟩, List.mem_of_getElem? (i := 648) (by decide +kernel), List.mem_of_getElem? (i := 904) (by decide +kernel), List.mem_of_getElem? (i := 905) (by decide +kernel)⟩
theorem lw_p41 : lw_okq (⟨"PachinkoReelsModel", "launched", "(II)I"⟩, 15) := ⟨⟨by decide +kernel, by decide +kernel⟩, List.mem_of_getElem? (i := 648) (by decide +kernel), List.mem_of_getElem? (i := 917) (by decide +kernel), List.mem_of_getElem? (i := 918) (by decide +kernel)⟩
theorem lw_p42 : lw_okq (⟨"PachinkoReelsModel", "putAside", "()V"⟩, 15) := ⟨⟨by decide +kernel, by decide +kernel⟩, List.mem_of_getElem? (i := 648) (by decide +kernel), List.mem_of_getElem? (i := 921) (by decide +kernel), List.mem_of_getElem? (i := 922) (by decide +kernel)⟩
theorem lw_p43 : lw_okq (⟨"PachinkoReelsModel", "putBack", "()V"⟩, 15) := ⟨⟨by decide +kernel, by decide +kernel⟩, List.mem_of_getElem? (i := 648) (by decide +kernel), List.mem_of_getElem? (i := 925) (by decide +kernel), List.mem_of_getElem? (i := 926) (by decide +kernel)⟩
theorem lw_p44 : lw_okq (⟨"PachinkoReelsModel", "findBestColumn", "()I"⟩, 15) := ⟨⟨by decide +kernel, by decide +kernel⟩, List.mem_of_getElem? (i := 648) (by decide +kernel), List.mem_of_getElem? (i := 933) (by decide +kernel), List.mem_of_getElem? (i := 934) (by decide +kernel)⟩
theorem lw_p45 : lw_okq (⟨"PachinkoReelsModel", "launchesToOpen", "(I)I"⟩, 15) := ⟨⟨by decide +kernel, by decide +kernel⟩, List.mem_of_getElem? (i := 648) (by decide +kernel), List.mem_of_getElem? (i := 941) (by decide +kernel), List.mem_of_getElem? (i := 942) (by decide +kernel)⟩
theorem lw_p46 : lw_okq (⟨"PachinkoReelsModel", "share", "()D"⟩, 15) := ⟨⟨by decide +kernel, by decide +kernel⟩, List.mem_of_getElem? (i := 648) (by decide +kernel), List.mem_of_getElem? (i := 949) (by decide +kernel), List.mem_of_getElem? (i := 950) (by decide +kernel)⟩
def lw_privs_3 : List (MethodName × Nat) := [(⟨"PachinkoReelsModel", "at", "(I)I"⟩, 15), (⟨"PachinkoReelsModel", "readNumber", "(II)I"⟩, 15), (⟨"PachinkoReelsModel", "doPart", "()I"⟩, 15), (⟨"PachinkoReelsModel", "bentAt", "(I)I"⟩, 15), (⟨"PachinkoReelsModel", "pocketNow", "(II)I"⟩, 15), (⟨"PachinkoReelsModel", "countNow", "(I)I"⟩, 15), (⟨"PachinkoReelsModel", "bentPins", "()I"⟩, 15), (⟨"PachinkoReelsModel", "waysTo", "(II)I"⟩, 15), (⟨"PachinkoReelsModel", "findWays", "(I)V"⟩, 15), (⟨"PachinkoReelsModel", "launched", "(II)I"⟩, 15), (⟨"PachinkoReelsModel", "putAside", "()V"⟩, 15), (⟨"PachinkoReelsModel", "putBack", "()V"⟩, 15), (⟨"PachinkoReelsModel", "findBestColumn", "()I"⟩, 15), (⟨"PachinkoReelsModel", "launchesToOpen", "(I)I"⟩, 15), (⟨"PachinkoReelsModel", "share", "()D"⟩, 15)]
theorem lw_r3 : ∀ q ∈ lw_privs_3, lw_okq q := List.forall_mem_cons.mpr ⟨lw_p32, List.forall_mem_cons.mpr ⟨lw_p33, List.forall_mem_cons.mpr ⟨lw_p34, List.forall_mem_cons.mpr ⟨lw_p35, List.forall_mem_cons.mpr ⟨lw_p36, List.forall_mem_cons.mpr ⟨lw_p37, List.forall_mem_cons.mpr ⟨lw_p38, List.forall_mem_cons.mpr ⟨lw_p39, List.forall_mem_cons.mpr ⟨lw_p40, List.forall_mem_cons.mpr ⟨lw_p41, List.forall_mem_cons.mpr ⟨lw_p42, List.forall_mem_cons.mpr ⟨lw_p43, List.forall_mem_cons.mpr ⟨lw_p44, List.forall_mem_cons.mpr ⟨lw_p45, List.forall_mem_cons.mpr ⟨lw_p46, fun _ h => absurd h List.not_mem_nil⟩⟩⟩⟩⟩⟩⟩⟩⟩⟩⟩⟩⟩⟩⟩
def lw_privs : List (MethodName × Nat) := lw_privs_1 ++ (lw_privs_2 ++ (lw_privs_3))
def lw_tbl : List Cond := k2_sels lw_privs ++ tables_1
theorem lw_privs_ok : ∀ q ∈ lw_privs, lw_okq q := by
  show ∀ q ∈ lw_privs_1 ++ (lw_privs_2 ++ (lw_privs_3)), lw_okq q
  exact List.forall_mem_append.mpr ⟨lw_r1, List.forall_mem_append.mpr ⟨lw_r2, lw_r3⟩⟩
/-- the streams that the claim lets the run draw from -/
abbrev lw_cs : List Choice := [Jvm.Choice.named "NaN.bits"]
theorem lw_bits : nanBits ∈ lw_cs := by first | decide | exact List.mem_cons_self | simp [lw_cs, nanBits]
/-! ===== BEGIN words of one list among another's, by their places ===== -/
theorem goodIn_r {big : List Cond} (ws : List Cond) (ps : List Nat) (hp : ws = ps.filterMap (fun i => big[i]?)) (h : ws.all goodWord = true) : GoodIn big ws := by
  intro w hw
  have h1 := List.all_eq_true.mp h w hw
  rw [hp] at hw
  obtain ⟨i, -, hi⟩ := List.mem_filterMap.mp hw
  have hm : w ∈ big := by first | exact List.mem_of_getElem? hi | exact List.getElem?_mem hi
  exact ⟨hm, good_of_word h1⟩
theorem goodIn_app {big a b : List Cond} (ha : GoodIn big a) (hb : GoodIn big b) : GoodIn big (a ++ b) := fun w h => (List.mem_append.mp h).elim (ha w) (hb w)
theorem goodIn_ca {big a b : List Cond} {c : Cond} (ha : GoodIn big (c :: a)) (hb : GoodIn big b) : GoodIn big (c :: (a ++ b)) := fun w h => (List.mem_cons.mp h).elim (fun e => ha w (List.mem_cons.mpr (Or.inl e))) (fun h => (List.mem_append.mp h).elim (fun h => ha w (List.mem_cons.mpr (Or.inr h))) (hb w))
theorem goodIn_sub {big ws : List Cond} (hm : ∀ w ∈ ws, w ∈ big) (h : ws.all goodWord = true) : GoodIn big ws := fun w hw => ⟨hm w hw, good_of_word (List.all_eq_true.mp h w hw)⟩
/-! ===== END ===== -/

/-! ===== BEGIN exceptions that leave a method, and their catching by the caller (launches without stack traces) ===== -/
section VXA
/-! The laws vx_back, vx_callV, vx_callS, vx_callSW, vx_throw0, vx_throwS follow proofs of the library, with one case more: JvmDerived/Free/Laws.lean (Back.of_free), Shelf42/LK1.lean (callV, callS), Shelf/KitTraced.lean (throwNew0V, throwNewS). -/
/-- where a method has thrown q: the class by its name, the cell, what was written, the world -/
def vx_T (XC : String → State → State → Prop) (st : State) (q : Addr) (t : State) (mc ms : Nat) (free : Addr → Prop) : Prop :=
  ∃ (E : String) (ce : Cell) (L : List Loc), XC E st t ∧ t.heap[q]? = some ce ∧ ce.vm = .none ∧ st.vm.findClass E = some ce.cls ∧ st.WarmedH t.vm ∧ st.sameButNew ({ t with vm := st.vm } : State) L mc ms ∧ ∀ z ∈ L, free z.base
def vx_Q (Qc : Array Value → State → Outcome → State → Prop) (XC : String → State → State → Prop) (mc ms : Nat) (free : Addr → Prop) : Array Value → State → Outcome → State → Prop := fun a st o t =>
  (Qc a st o t ∧ ∃ L, FrameEnd st o t L mc ms ∧ ∀ q ∈ L, free q.base) ∨ ∃ q, o = .threw q ∧ vx_T XC st q t mc ms free
/-- a callee that returns or throws -/
def vx_Met (l : Launch) (y : MethodName) (ws : List Cond) (rm : Room) (Pc : Array Value → State → Prop) (Qc : Array Value → State → Outcome → State → Prop) (XC : String → State → State → Prop) (mc ms : Nat) (free : Addr → Prop) : Prop :=
  MetFree l y (headSpec ws rm) Pc (fun _ _ _ _ _ => True) (vx_Q Qc XC mc ms free)
def vx_Post (XC : String → State → State → Prop) (mc ms : Nat) (free : Addr → Prop) : Pt → Array Value → Addr → Pt → Prop := fun A a q B =>
  ∃ (g : JFrame) (mk : MethodId) (t : State) (L : List Loc) (E : String) (ce : Cell), B.U.heap = t.heap ∧ B.U.vm = t.vm ∧ XC E (A.U.calling g mk a) t ∧ t.heap[q]? = some ce ∧ ce.vm = .none ∧ A.U.vm.findClass E = some ce.cls ∧ B.locs = A.locs ++ L ∧ (∀ z ∈ L, free z.base) ∧ B.cells = A.cells + mc ∧ B.slots = A.slots + ms
def vx_Back (l : Launch) (R : Room) (p : Program) (e : Env) (below : List Frame) (s : State) (sargs : Array Value) (y : MethodName) (len W9 : Nat)
    (Pre : Pt → Array Value → Prop) (Post : Pt → Array Value → Option Value → Pt → Prop) (PostX : Pt → Array Value → Addr → Pt → Prop) : Prop :=
  ∀ (m : MethodId) (meth : Method) (c : Code) (A : Pt) (g : JFrame) (ig : Instr) (mk : MethodId) (a : Array Value),
    Stand p l e R s m sargs below meth c A.U A.locs A.cells A.slots → g.method = m → g.locals.size = c.maxLocals → decode c.code g.pc = .ok (ig, len) →
    2 * g.monitorRoom + (g.stack.map fun v => v.category).sum ≤ W9 → A.U.methodNamed? y = some mk → Pre A a →
    (∃ (v : Option Value) (B : Pt), Stand p l e R s m sargs below meth c B.U B.locs B.cells B.slots ∧ Post A a v B ∧
      Steps p.tables e below (doInvoke e (A.U.setTop g) [] mk a).1 (B.U.setTop { g with pc := g.pc + len, stack := v.toList ++ g.stack })) ∨
    (∃ (q : Addr) (B : Pt), Stand p l e R s m sargs below meth c B.U B.locs B.cells B.slots ∧ PostX A a q B ∧
      Steps p.tables e below (doInvoke e (A.U.setTop g) [] mk a).1 ((B.U.setTop g).pushFrame (.throwing q)))
section Payer
variable {l : Launch} {R : Room} {p : Program} {e : Env} {below : List Frame} {s : State} {sargs : Array Value} {y : MethodName} {len W9 : Nat}
theorem vx_back {ws : List Cond} {rm : Room} {Pc : Array Value → State → Prop} {Qc : Array Value → State → Outcome → State → Prop} {XC : String → State → State → Prop} {mc ms : Nat} {free : Addr → Prop} {bytes : ByteArray} {maxL : Nat} {ret : Option FieldType}
    (hM : vx_Met l y ws rm Pc Qc XC mc ms free) (hblind : FrameBlind Pc) (hrc : rm.cells = mc) (hrs : rm.slots = ms)
    (hframes : rm.frames + 1 ≤ R.frames) (hlocals : W9 + (maxL + 11) + rm.locals ≤ R.locals)
    (hws : ∀ w ∈ ws, ∀ a' U, s.WarmedH U.vm → w.before a' U = true) (hcode : Cond.code y bytes maxL ret ∈ ws) (hinit : ∀ a' U, s.WarmedH U.vm → (Cond.initialized y.cls).before a' U = true) :
    vx_Back l R p e below s sargs y len W9 (PreOf R mc ms Pc) (PostOf Qc mc ms free) (vx_Post XC mc ms free) := by
  intro m meth c A g ig mk a X hg hsize hdg hW hn hp
  have h1 : (headSpec ws rm).pre.before a A.U = true := atoms_intro fun w hw => hws w hw _ _ X.warmed
  have h2 : (Cond.code y bytes maxL ret).before a A.U = true := hws _ hcode _ _ X.warmed
  have h3 : (Cond.initialized y.cls).before a A.U = true := hinit _ _ X.warmed
  have h4 : A.cells + (headSpec ws rm).room.cells ≤ R.cells := by rw [show (headSpec ws rm).room.cells = mc from hrc]; exact hp.1
  have h5 : A.slots + (headSpec ws rm).room.slots ≤ R.slots := by rw [show (headSpec ws rm).room.slots = ms from hrs]; exact hp.2.1
  have hPc : Pc a (A.U.calling g mk a) := hblind _ _ _ _ hp.2.2
  obtain ⟨U, Ls, c0, s0⟩ := A
  dsimp only [Pt.U, Pt.locs, Pt.cells, Pt.slots] at h1 h2 h3 h4 h5 X hn hPc ⊢
  obtain ⟨methY, cY, hmY, hcY, -, hlY, -, -, -, -⟩ := Cond.code_spec hn h2
  obtain ⟨kY, hkY, -⟩ := className_of_methodNamed hn
  have hinitY : kY.init = .initialized := Cond.initialized_spec (findClass_of_methodNamed hn) hkY h3
  have h : At U g.method c below := by rw [hg]; exact X.here
  have hlocals9 : W9 + (maxL + 11) + (headSpec ws rm).room.locals ≤ R.locals := hlocals
  have happ : (headSpec ws rm).appliesLoose y e.platform (U.calling g mk a) = true :=
    Spec.appliesLoose_calling (g := g) h hdg hn hkY hinitY
      (X.room_calling (g := g) (R' := (headSpec ws rm).room) hsize hmY hcY hframes (by rw [hlY]; omega) h4 h5) h1
  obtain ⟨mid, hmid⟩ := h.above
  have hfr : (U.setTop g).frames = (.java g :: mid) ++ below := by rw [State.frames_setTop' g h.top, hmid]; rfl
  obtain ⟨o, s₂, hsteps, -, hend, hq⟩ := Steps.callFree hM p X.admits X.cas X.clock (acts := []) hfr happ hPc trivial
  have hq' : vx_Q Qc XC mc ms free a (U.calling g mk a) o s₂ := hq
  rw [State.frames_setTop' g h.top] at hend
  obtain ⟨g₀, hg0⟩ := Option.isSome_iff_exists.mp h.top
  obtain ⟨r, hr⟩ := State.topJava?_eq_some.mp hg0
  have hr' : (({ U with heap := s₂.heap, slotsUsed := s₂.slotsUsed } : State).setVm s₂.vm).frames = .java g₀ :: r := hr
  rcases hq' with ⟨hqc, L, hfe, hL⟩ | ⟨q, rfl, E, ce, L, hx, hce, hcv, hcl, hW₂, hsm, hL⟩
  · obtain ⟨⟨v, rfl⟩, hW₂, e2, q2, q3, q4, q5, q6⟩ := id hfe
    have e3 : s₂ = ({ (U.calling g mk a).setFrames s₂.frames with heap := s₂.heap, slotsUsed := s₂.slotsUsed } : State).setVm s₂.vm := by
      have : s₂ = ({ s₂ with vm := (U.calling g mk a).vm } : State).setVm s₂.vm := rfl
      rw [e2] at this
      exact this
    obtain ⟨c₂, i₂, len₂, hc₂, hd₂, hf₂⟩ := hend
    have hW' : U.WarmedH s₂.vm := hW₂
    have hcc : c₂ = c := by
      have h1 : s₂.code? g.method = U.code? g.method := by
        rw [State.code?_eq, State.code?_eq, hW'.alike.method?]
      exact Option.some.inj (hc₂.symm.trans (h1.trans h.code))
    subst hcc
    have hlen : len₂ = len := by rw [hdg] at hd₂; cases hd₂; rfl
    subst hlen
    have hs₂ : s₂ = (({ U with heap := s₂.heap, slotsUsed := s₂.slotsUsed } : State).setVm s₂.vm).setTop { g with pc := g.pc + len₂, stack := v.toList ++ g.stack } := by
      refine e3.trans ?_
      rw [hf₂, State.calling_eq h.top, State.setFrames_setFrames, State.setTop_of_frames _ hr', hr]
      rfl
    have hsame : U.sameButNew ({ U with heap := s₂.heap, slotsUsed := s₂.slotsUsed } : State) L mc ms := by
      refine ⟨?_, q2, q3, q4, q5, q6⟩
      obtain ⟨t, ht, -⟩ := State.frames_cons hr
      show ({ U with heap := s₂.heap, slotsUsed := s₂.slotsUsed } : State) = { U.setFrames U.frames with heap := s₂.heap, slotsUsed := s₂.slotsUsed }
      rw [State.setFrames_self ht]
    subst hg
    refine Or.inl ⟨v, ⟨(({ U with heap := s₂.heap, slotsUsed := s₂.slotsUsed } : State).setVm s₂.vm), Ls ++ L, c0 + mc, s0 + ms⟩,
      ⟨X.admits, X.cas, X.clock, X.frames, X.room, X.hears, X.method, X.code, (X.here.setHeapUsed s₂.heap s₂.slotsUsed).setVm hW'.alike, X.tail, State.WarmedH.trans X.warmed hW', X.limits, X.bytes, X.same.trans (hsame.setVm s.vm)⟩,
      ⟨g, mk, s₂, L, rfl, rfl, hqc, rfl, hL, rfl, rfl⟩, ?_⟩
    show Steps p.tables e below _ ((({ U with heap := s₂.heap, slotsUsed := s₂.slotsUsed } : State).setVm s₂.vm).setTop { g with pc := g.pc + len₂, stack := v.toList ++ g.stack })
    rw [← hs₂]
    exact hsteps
  · obtain ⟨e2, q2, q3, q4, q5, q6⟩ := id hsm
    have e3 : s₂ = ({ (U.calling g mk a).setFrames s₂.frames with heap := s₂.heap, slotsUsed := s₂.slotsUsed } : State).setVm s₂.vm := by
      have : s₂ = ({ s₂ with vm := (U.calling g mk a).vm } : State).setVm s₂.vm := rfl
      rw [e2] at this
      exact this
    have hf₂ : s₂.frames = .throwing q :: .java g :: U.frames.tail := hend
    have hW' : U.WarmedH s₂.vm := hW₂
    have hs₂ : s₂ = ((({ U with heap := s₂.heap, slotsUsed := s₂.slotsUsed } : State).setVm s₂.vm).setTop g).pushFrame (.throwing q) := by
      refine e3.trans ?_
      rw [hf₂, State.calling_eq h.top, State.setFrames_setFrames, State.pushFrame, State.frames_setTop _ hr', State.setTop_of_frames _ hr', State.setFrames_setFrames, hr]
      rfl
    have hsame : U.sameButNew ({ U with heap := s₂.heap, slotsUsed := s₂.slotsUsed } : State) L mc ms := by
      refine ⟨?_, q2, q3, q4, q5, q6⟩
      obtain ⟨t, ht, -⟩ := State.frames_cons hr
      show ({ U with heap := s₂.heap, slotsUsed := s₂.slotsUsed } : State) = { U.setFrames U.frames with heap := s₂.heap, slotsUsed := s₂.slotsUsed }
      rw [State.setFrames_self ht]
    subst hg
    refine Or.inr ⟨q, ⟨(({ U with heap := s₂.heap, slotsUsed := s₂.slotsUsed } : State).setVm s₂.vm), Ls ++ L, c0 + mc, s0 + ms⟩,
      ⟨X.admits, X.cas, X.clock, X.frames, X.room, X.hears, X.method, X.code, (X.here.setHeapUsed s₂.heap s₂.slotsUsed).setVm hW'.alike, X.tail, State.WarmedH.trans X.warmed hW', X.limits, X.bytes, X.same.trans (hsame.setVm s.vm)⟩,
      ⟨g, mk, s₂, L, E, ce, rfl, rfl, hx, hce, hcv, hcl, rfl, hL, rfl, rfl⟩, ?_⟩
    show Steps p.tables e below _ (((({ U with heap := s₂.heap, slotsUsed := s₂.slotsUsed } : State).setVm s₂.vm).setTop g).pushFrame (.throwing q))
    rw [← hs₂]
    exact hsteps
end Payer
section Calls
variable {p : Program} {l : Launch} {e : Env} {R : Room} {s : State} {m : MethodId} {args : Array Value} {below : List Frame} {meth : Method} {c : Code} {T : State} {locs : List Loc} {cells slots : Nat}
theorem vx_callV (X : Stand p l e R s m args below meth c T locs cells slots) (hexec : p.tables.exec = Jvm.exec) {own C : String} {index : Nat} {y : MethodName} {bytes : ByteArray} {maxL : Nat} {ret : Option FieldType}
    (hown : s.vm.findClass own = some m.cls) (hlink : (Cond.methodLink own index y).before args s = true) (hinst : (Cond.instanceMethod y).before args s = true) (hsel : (Cond.selects C y y).before args s = true)
    (hcode : (Cond.code y bytes maxL ret).before args s = true) (hy : y.cls ≠ "java/lang/invoke/MethodHandle" ∧ y.cls ≠ "java/lang/invoke/VarHandle")
    {W9 : Nat} {Pre : Pt → Array Value → Prop} {Post : Pt → Array Value → Option Value → Pt → Prop} {PostX : Pt → Array Value → Addr → Pt → Prop} (hK : vx_Back l R p e below s args y 3 W9 Pre Post PostX)
    {b : Addr} {cellB : Cell} (hcell : T.heap[b]? = some cellB) (hobj : cellB.vm.isStatics = false) (hcls : s.vm.findClass C = some cellB.cls)
    {g : JFrame} (hg : g.method = m) (hsize : g.locals.size = c.maxLocals) {argsL rest : List Value} (hlen : ∀ sig, parseMethodDescriptor y.desc = some sig → argsL.length = sig.parameters.length)
    (hstack : g.stack = argsL.reverse ++ .ref b :: rest) (hW : 2 * g.monitorRoom + (rest.map fun v => v.category).sum ≤ W9) (hdg : decode c.code g.pc = .ok (.invokevirtual index, 3))
    (hpre : ∀ vm₁, s.WarmedH vm₁ → Pre ⟨T.setVm vm₁, locs, cells, slots⟩ (Value.ref b :: argsL).toArray) :
    (∃ (v : Option Value) (vm₁ : Vm) (B : Pt), s.WarmedH vm₁ ∧ Stand p l e R s m args below meth c B.U B.locs B.cells B.slots ∧ Post ⟨T.setVm vm₁, locs, cells, slots⟩ (Value.ref b :: argsL).toArray v B ∧
      ∀ target, Steps p.tables e below (B.U.setTop { g with pc := g.pc + 3, stack := v.toList ++ rest }) target → Steps p.tables e below (T.setTop g) target) ∨
    (∃ (q : Addr) (vm₁ : Vm) (B : Pt), s.WarmedH vm₁ ∧ Stand p l e R s m args below meth c B.U B.locs B.cells B.slots ∧ PostX ⟨T.setVm vm₁, locs, cells, slots⟩ (Value.ref b :: argsL).toArray q B ∧
      Steps p.tables e below (T.setTop g) ((B.U.setTop { g with stack := rest }).pushFrame (.throwing q))) := by
  obtain ⟨mk, methM, hnamed, hmethM, hstM, habM⟩ := Cond.instanceMethod_spec hinst
  obtain ⟨methM', cM, hmethM', -, -, -, -, -, -, hsigM⟩ := Cond.code_spec hnamed hcode
  cases hmethM.symm.trans hmethM'
  obtain ⟨c2, r2, m2, q1, q2, q3, q4, kP, hkP, hkPi⟩ := Cond.selects_spec hsel
  cases hcls.symm.trans q1
  cases (State.methodFound?_of_named hnamed hy).symm.trans q2
  cases hnamed.symm.trans q3
  have hselP : selectMethod e.platform s.vm cellB.cls mk = .method mk := by rw [Launch.admits_selectMethod X.admits]; exact q4
  obtain ⟨vm₁, X₁, hstep₁⟩ := X.invokevirtual hexec hown hlink hnamed hmethM hstM hkP hkPi hy (a := b) (cell := cellB) hcell
    (fun z h => by rw [h] at hobj; cases hobj) hselP hmethM habM hkP hkPi (g := g) hg (argsL := argsL) (rest := rest) (hlen _ hsigM) hstack hdg
  rcases hK m meth c ⟨T.setVm vm₁, locs, cells, slots⟩ { g with stack := rest } (.invokevirtual index) mk (Value.ref b :: argsL).toArray X₁ hg hsize hdg hW (X₁.named hnamed) (hpre vm₁ X₁.warmed) with ⟨v, B, X', hpost, hsteps⟩ | ⟨q, B, X', hpost, hsteps⟩
  · exact Or.inl ⟨v, vm₁, B, X₁.warmed, X', hpost, fun target h => hstep₁ _ fun acts => by rw [doInvoke_state]; exact hsteps.trans h⟩
  · exact Or.inr ⟨q, vm₁, B, X₁.warmed, X', hpost, hstep₁ _ fun acts => by rw [doInvoke_state]; exact hsteps⟩
theorem vx_callS (X : Stand p l e R s m args below meth c T locs cells slots) (hexec : p.tables.exec = Jvm.exec) {own : String} {index : Nat} {y : MethodName} {bytes : ByteArray} {maxL : Nat} {ret : Option FieldType}
    (hown : s.vm.findClass own = some m.cls) (hlink : (Cond.methodLink own index y).before args s = true) (hstat : (Cond.static y).before args s = true) (hinit : (Cond.initialized y.cls).before args s = true)
    (hcode : (Cond.code y bytes maxL ret).before args s = true) (hy : y.cls ≠ "java/lang/invoke/MethodHandle" ∧ y.cls ≠ "java/lang/invoke/VarHandle")
    {W9 : Nat} {Pre : Pt → Array Value → Prop} {Post : Pt → Array Value → Option Value → Pt → Prop} {PostX : Pt → Array Value → Addr → Pt → Prop} (hK : vx_Back l R p e below s args y 3 W9 Pre Post PostX)
    {g : JFrame} (hg : g.method = m) (hsize : g.locals.size = c.maxLocals) {argsL rest : List Value} (hlen : ∀ sig, parseMethodDescriptor y.desc = some sig → argsL.length = sig.parameters.length)
    (hstack : g.stack = argsL.reverse ++ rest) (hW : 2 * g.monitorRoom + (rest.map fun v => v.category).sum ≤ W9) (hdg : decode c.code g.pc = .ok (.invokestatic index, 3))
    (hpre : ∀ vm₁, s.WarmedH vm₁ → Pre ⟨T.setVm vm₁, locs, cells, slots⟩ argsL.toArray) :
    (∃ (v : Option Value) (vm₁ : Vm) (B : Pt), s.WarmedH vm₁ ∧ Stand p l e R s m args below meth c B.U B.locs B.cells B.slots ∧ Post ⟨T.setVm vm₁, locs, cells, slots⟩ argsL.toArray v B ∧
      ∀ target, Steps p.tables e below (B.U.setTop { g with pc := g.pc + 3, stack := v.toList ++ rest }) target → Steps p.tables e below (T.setTop g) target) ∨
    (∃ (q : Addr) (vm₁ : Vm) (B : Pt), s.WarmedH vm₁ ∧ Stand p l e R s m args below meth c B.U B.locs B.cells B.slots ∧ PostX ⟨T.setVm vm₁, locs, cells, slots⟩ argsL.toArray q B ∧
      Steps p.tables e below (T.setTop g) ((B.U.setTop { g with stack := rest }).pushFrame (.throwing q))) := by
  obtain ⟨mk, hnamed⟩ := Cond.code_named hcode
  obtain ⟨methM, cM, hmethM, -, -, -, -, -, -, hsigM⟩ := Cond.code_spec hnamed hcode
  have hstatic : methM.isStatic = true := Cond.static_spec hnamed hmethM hstat
  obtain ⟨kP, hkP, -⟩ := className_of_methodNamed hnamed
  have hinitP : kP.init = .initialized := Cond.initialized_spec (findClass_of_methodNamed hnamed) hkP hinit
  obtain ⟨vm₁, X₁, hstep₁⟩ := X.invokestatic hexec hown hlink hnamed hmethM hstatic hkP hinitP hy (g := g) hg (argsL := argsL) (rest := rest) (hlen _ hsigM) hstack hdg
  rcases hK m meth c ⟨T.setVm vm₁, locs, cells, slots⟩ { g with stack := rest } (.invokestatic index) mk argsL.toArray X₁ hg hsize hdg hW (X₁.named hnamed) (hpre vm₁ X₁.warmed) with ⟨v, B, X', hpost, hsteps⟩ | ⟨q, B, X', hpost, hsteps⟩
  · exact Or.inl ⟨v, vm₁, B, X₁.warmed, X', hpost, fun target h => hstep₁ _ fun acts => by rw [doInvoke_state]; exact hsteps.trans h⟩
  · exact Or.inr ⟨q, vm₁, B, X₁.warmed, X', hpost, hstep₁ _ fun acts => by rw [doInvoke_state]; exact hsteps⟩
end Calls
theorem vx_cls {s : State} {T : State} {vm₁ : Vm} {E : String} {k : ClassId} (hW : s.WarmedH vm₁) (h : (T.setVm vm₁).vm.findClass E = some k) : s.vm.findClass E = some k := by
  have h1 : vm₁.findClass E = some k := h
  rw [hW.alike.findClass] at h1
  exact h1
/-- the method's frame g, with q thrown over it -/
def vx_W (p : Program) (l : Launch) (e : Env) (R : Room) (s : State) (m : MethodId) (args : Array Value) (below : List Frame) (meth : Method) (c : Code) (H : Heap) (locs : List Loc) (cells slots : Nat) (Q : State → Prop) (g : JFrame) (q : Addr) : Prop :=
  ∀ T : State, T.heap = H → Stand p l e R s m args below meth c T locs cells slots → ∃ t, Steps p.tables e below ((T.setTop g).pushFrame (.throwing q)) t ∧ Q t
def vx_Run (p : Program) (l : Launch) (e : Env) (R : Room) (s : State) (m : MethodId) (args : Array Value) (below : List Frame) (meth : Method) (c : Code) (H : Heap) (locs : List Loc) (cells slots mc ms : Nat) (g : JFrame) (rest : List Value) (Qa : State → Outcome → State → Prop) (XC : String → State → State → Prop) (free : Addr → Prop) : Prop :=
  ∀ T : State, T.heap = H → Stand p l e R s m args below meth c T locs cells slots →
    (∃ (v : Option Value) (st₀ t T' : State) (L : List Loc), st₀.heap = H ∧ Stand p l e R s m args below meth c T' (locs ++ L) (cells + mc) (slots + ms) ∧ (∀ q ∈ L, free q.base) ∧ T'.heap = t.heap ∧ T'.vm = t.vm ∧ Qa st₀ (.returned v) t ∧
      Goes p e below T g T' { g with pc := g.pc + 3, stack := v.toList ++ rest }) ∨
    (∃ (q : Addr) (st₀ t T' : State) (L : List Loc) (E : String) (ce : Cell), st₀.heap = H ∧ Stand p l e R s m args below meth c T' (locs ++ L) (cells + mc) (slots + ms) ∧ (∀ z ∈ L, free z.base) ∧ T'.heap = t.heap ∧ T'.vm = t.vm ∧ XC E st₀ t ∧ t.heap[q]? = some ce ∧ ce.vm = .none ∧ s.vm.findClass E = some ce.cls ∧
      Steps p.tables e below (T.setTop g) ((T'.setTop { g with stack := rest }).pushFrame (.throwing q)))
def vx_X {S : Type} (px : S → Prop) (B : String → S → State → Prop) (A : Nat → Prop) : String → State → State → Prop := fun E st t => ∃ u : S, px u ∧ B E u t ∧ va_F A st t
section Runs
variable {p : Program} {l : Launch} {e : Env} {R : Room} {s : State} {m : MethodId} {args : Array Value} {below : List Frame} {meth : Method} {c : Code} {H : Heap} {locs : List Loc} {cells slots : Nat}
variable {y : MethodName} {bytes cc : ByteArray} {maxL nL mc ms n index : Nat} {ret : Option FieldType} {ws : List Cond} {rm : Room} {Pc : Array Value → State → Prop} {Qc : Array Value → State → Outcome → State → Prop} {XC : String → State → State → Prop} {free : Addr → Prop} {Ts : List Cond} {own C : String} {b : Addr} {As rest : List Value} {g : JFrame}
theorem vx_callBack (cb : CallB R s args own index y bytes maxL ret ws rm mc ms n) (hM : vx_Met l y ws rm Pc Qc XC mc ms free) (hbl : FrameBlind Pc) : vx_Back l R p e below s args y 3 8 (PreOf R mc ms Pc) (PostOf Qc mc ms free) (vx_Post XC mc ms free) := by
  obtain ⟨hrc, hrs, hfr, hlo, hws, hcw, -, hini, -⟩ := cb
  exact vx_back (bytes := bytes) (maxL := maxL) (ret := ret) hM hbl hrc hrs hfr hlo hws hcw (fun a' U hW => word_at hW (Or.inl (by first | rfl | simp [Cond.onTables, Cond.keeps, Cond.steady])) hini)
theorem vx_runV (S : CallFix p m c cc nL s args Ts own) (hM : vx_Met l y ws rm Pc Qc XC mc ms free) (cw : CallW R s args own C index y bytes maxL ret ws rm mc ms n) (hp : PreV s H C b Pc As)
    (hg : g.method = m) (hn : As.length = n) (hsize : g.locals.size = nL) (hstack : g.stack = As.reverse ++ .ref b :: rest) (hW : 2 * g.monitorRoom + (rest.map fun v => v.category).sum ≤ 8) (hdg : decode cc g.pc = .ok (.invokevirtual index, 3)) (hf : cells + mc ≤ R.cells ∧ slots + ms ≤ R.slots) :
    vx_Run p l e R s m args below meth c H locs cells slots mc ms g rest (Qc (Value.ref b :: As).toArray) XC free := by
  have hK : vx_Back l R p e below s args y 3 8 (PreOf R mc ms Pc) (PostOf Qc mc ms free) (vx_Post XC mc ms free) := vx_callBack cw.1 hM hp.1
  obtain ⟨⟨-, -, -, -, -, -, hcode, -, hy, hlen, hl⟩, hin, hse⟩ := cw
  obtain ⟨hx, hb, hml, ho, -⟩ := S
  obtain ⟨-, ⟨cellB, hcB, hoB, hclB⟩, hPc⟩ := hp
  intro T hT X
  rcases vx_callV X hx (C := C) (bytes := bytes) (maxL := maxL) (ret := ret) ho hl hin hse hcode hy hK (by rw [hT]; exact hcB) hoB hclB hg (hsize.trans hml.symm) (argsL := As) (rest := rest) (fun sig h => hn.trans (hlen sig h)) hstack hW (by rw [hb]; exact hdg)
    (fun vm₁ hW₁ => ⟨hf.1, hf.2, hPc (T.setVm vm₁) hT hW₁⟩) with ⟨v, vm₁, ⟨U', l2, c2, s2⟩, hW₁, X', ⟨g', mk, t, L, e1, e2, hq, h1, hL, h2, h3⟩, st⟩ | ⟨q, vm₁, ⟨U', l2, c2, s2⟩, hW₁, X', ⟨g', mk, t, L, E, ce, e1, e2, hq, hce, hcv, hcl, h1, hL, h2, h3⟩, st⟩
  · dsimp only [Pt.U, Pt.locs, Pt.cells, Pt.slots] at X' e1 e2 h1 h2 h3 st
    subst h1; subst h2; subst h3
    exact Or.inl ⟨v, (T.setVm vm₁).calling g' mk (Value.ref b :: As).toArray, t, U', L, hT, X', hL, e1, e2, hq, st⟩
  · dsimp only [Pt.U, Pt.locs, Pt.cells, Pt.slots] at X' e1 e2 h1 h2 h3 st hcl
    subst h1; subst h2; subst h3
    exact Or.inr ⟨q, (T.setVm vm₁).calling g' mk (Value.ref b :: As).toArray, t, U', L, E, ce, hT, X', hL, e1, e2, hq, hce, hcv, vx_cls hW₁ hcl, st⟩
theorem vx_runS (S : CallFix p m c cc nL s args Ts own) (hM : vx_Met l y ws rm Pc Qc XC mc ms free) (cw : CallB R s args own index y bytes maxL ret ws rm mc ms n ∧ (Cond.static y).before args s = true) (hp : PreS s H Pc As)
    (hg : g.method = m) (hn : As.length = n) (hsize : g.locals.size = nL) (hstack : g.stack = As.reverse ++ rest) (hW : 2 * g.monitorRoom + (rest.map fun v => v.category).sum ≤ 8) (hdg : decode cc g.pc = .ok (.invokestatic index, 3)) (hf : cells + mc ≤ R.cells ∧ slots + ms ≤ R.slots) :
    vx_Run p l e R s m args below meth c H locs cells slots mc ms g rest (Qc As.toArray) XC free := by
  have hK : vx_Back l R p e below s args y 3 8 (PreOf R mc ms Pc) (PostOf Qc mc ms free) (vx_Post XC mc ms free) := vx_callBack cw.1 hM hp.1
  obtain ⟨⟨-, -, -, -, -, -, hcode, hini, hy, hlen, hl⟩, hstt⟩ := cw
  obtain ⟨hx, hb, hml, ho, -⟩ := S
  intro T hT X
  rcases vx_callS X hx (bytes := bytes) (maxL := maxL) (ret := ret) ho hl hstt hini hcode hy hK hg (hsize.trans hml.symm) (argsL := As) (rest := rest) (fun sig h => hn.trans (hlen sig h)) hstack hW (by rw [hb]; exact hdg)
    (fun vm₁ hW₁ => ⟨hf.1, hf.2, hp.2 (T.setVm vm₁) hT hW₁⟩) with ⟨v, vm₁, ⟨U', l2, c2, s2⟩, hW₁, X', ⟨g', mk, t, L, e1, e2, hq, h1, hL, h2, h3⟩, st⟩ | ⟨q, vm₁, ⟨U', l2, c2, s2⟩, hW₁, X', ⟨g', mk, t, L, E, ce, e1, e2, hq, hce, hcv, hcl, h1, hL, h2, h3⟩, st⟩
  · dsimp only [Pt.U, Pt.locs, Pt.cells, Pt.slots] at X' e1 e2 h1 h2 h3 st
    subst h1; subst h2; subst h3
    exact Or.inl ⟨v, (T.setVm vm₁).calling g' mk As.toArray, t, U', L, hT, X', hL, e1, e2, hq, st⟩
  · dsimp only [Pt.U, Pt.locs, Pt.cells, Pt.slots] at X' e1 e2 h1 h2 h3 st hcl
    subst h1; subst h2; subst h3
    exact Or.inr ⟨q, (T.setVm vm₁).calling g' mk As.toArray, t, U', L, E, ce, hT, X', hL, e1, e2, hq, hce, hcv, vx_cls hW₁ hcl, st⟩
end Runs
section Rows
variable {p : Program} {l : Launch} {e : Env} {R : Room} {s : State} {m : MethodId} {args : Array Value} {below : List Frame} {meth : Method} {c : Code} {H : Heap} {locs : List Loc} {cells slots : Nat} {Q : State → Prop}
variable {mc ms : Nat} {free : Addr → Prop} {A0 A1 : Nat → Prop} {H0 : Heap} {a : Array Value} {pc : Nat} {ls : Array Slot} {st0 rest : List Value}
theorem vx_keep {st₀ t T' : State} {L : List Loc} (h0 : st₀.heap = H) (e1 : T'.heap = t.heap) (hS : va_S A0 H0 H locs) (hA : ∀ q, q < H.size → A1 q → A0 q) (hf : ∀ q, free q → A0 q) (hL : ∀ q ∈ L, free q.base) (hF : va_F A1 st₀ t) :
    H.size ≤ T'.heap.size ∧ (∀ q : Nat, q < H.size → ¬ A1 q → T'.heap[q]? = H[q]?) ∧ va_S A0 H0 T'.heap (locs ++ L) := by
  obtain ⟨hz, hk⟩ := hF
  rw [h0] at hz hk
  exact ⟨by rw [e1]; exact hz, fun q h1 h2 => by rw [e1]; exact hk q h1 h2,
    ⟨Nat.le_trans hS.1 (by rw [e1]; exact hz), fun q h1 h2 => by rw [e1, hk q (Nat.lt_of_lt_of_le h1 hS.1) (fun z => h2 (hA q (Nat.lt_of_lt_of_le h1 hS.1) z))]; exact hS.2.1 q h1 h2, fun q hq => by
      rcases List.mem_append.mp hq with h | h
      · exact hS.2.2 q h
      · exact hf _ (hL q h)⟩⟩
theorem vx_calli {S SX : Type} {post : Int32 → S → Prop} {px : SX → Prop} {B : S → State → Prop} {BX : String → SX → State → Prop} {AX : Nat → Prop} (hr : vx_Run p l e R s m args below meth c H locs cells slots mc ms (F0 m pc ls st0) rest (va_Qi post B A1 a) (vx_X px BX AX) free) (hS : va_S A0 H0 H locs) (hA : ∀ q, q < H.size → A1 q → A0 q) (hf : ∀ q, free q → A0 q) (hAX : ∀ q, q < H.size → AX q → A0 q)
    (kx : ∀ (E : String) (ce : Cell) (q9 : Addr) (u : SX) (t : State) (H1 : Heap) (locs1 : List Loc), t.heap = H1 → s.vm.Alike t.vm → px u → BX E u t → H.size ≤ H1.size → (∀ q : Nat, q < H.size → ¬ AX q → H1[q]? = H[q]?) → va_S A0 H0 H1 locs1 → H1[q9]? = some ce → ce.vm = .none → s.vm.findClass E = some ce.cls → vx_W p l e R s m args below meth c H1 locs1 (cells + mc) (slots + ms) Q (F0 m pc ls rest) q9)
    (kk : ∀ (r : Int32) (u : S) (t : State) (H1 : Heap) (locs1 : List Loc), t.heap = H1 → s.vm.Alike t.vm → post r u → B u t → H.size ≤ H1.size → (∀ q : Nat, q < H.size → ¬ A1 q → H1[q]? = H[q]?) → va_S A0 H0 H1 locs1 → W p l e R s m args below meth c H1 locs1 (cells + mc) (slots + ms) Q (F0 m (pc + 3) ls (.int r :: rest))) : W p l e R s m args below meth c H locs cells slots Q (F0 m pc ls st0) := by
  intro T hT X
  rcases hr T hT X with ⟨v, st₀, t, T', L, h0, X', hL, e1, e2, ⟨⟨r, u, hv, hp, hb⟩, hF⟩, st⟩ | ⟨q, st₀, t, T', L, E, ce, h0, X', hL, e1, e2, ⟨u, hp, hb, hF⟩, hce, hcv, hcl, st⟩
  · cases hv
    obtain ⟨k1, k2, k3⟩ := vx_keep h0 e1 hS hA hf hL hF
    obtain ⟨t2, a1, b1⟩ := kk r u t T'.heap (locs ++ L) e1.symm (by rw [← e2]; exact X'.warmed.alike) hp hb k1 k2 k3 T' rfl X'
    exact ⟨t2, st t2 a1, b1⟩
  · obtain ⟨k1, k2, k3⟩ := vx_keep h0 e1 hS hAX hf hL hF
    obtain ⟨t2, a1, b1⟩ := kx E ce q u t T'.heap (locs ++ L) e1.symm (by rw [← e2]; exact X'.warmed.alike) hp hb k1 k2 k3 (by rw [e1]; exact hce) hcv hcl T' rfl X'
    exact ⟨t2, st.trans a1, b1⟩
theorem vx_calll {S SX : Type} {post : Int64 → S → Prop} {px : SX → Prop} {B : S → State → Prop} {BX : String → SX → State → Prop} {AX : Nat → Prop} (hr : vx_Run p l e R s m args below meth c H locs cells slots mc ms (F0 m pc ls st0) rest (va_Ql post B A1 a) (vx_X px BX AX) free) (hS : va_S A0 H0 H locs) (hA : ∀ q, q < H.size → A1 q → A0 q) (hf : ∀ q, free q → A0 q) (hAX : ∀ q, q < H.size → AX q → A0 q)
    (kx : ∀ (E : String) (ce : Cell) (q9 : Addr) (u : SX) (t : State) (H1 : Heap) (locs1 : List Loc), t.heap = H1 → s.vm.Alike t.vm → px u → BX E u t → H.size ≤ H1.size → (∀ q : Nat, q < H.size → ¬ AX q → H1[q]? = H[q]?) → va_S A0 H0 H1 locs1 → H1[q9]? = some ce → ce.vm = .none → s.vm.findClass E = some ce.cls → vx_W p l e R s m args below meth c H1 locs1 (cells + mc) (slots + ms) Q (F0 m pc ls rest) q9)
    (kk : ∀ (r : Int64) (u : S) (t : State) (H1 : Heap) (locs1 : List Loc), t.heap = H1 → s.vm.Alike t.vm → post r u → B u t → H.size ≤ H1.size → (∀ q : Nat, q < H.size → ¬ A1 q → H1[q]? = H[q]?) → va_S A0 H0 H1 locs1 → W p l e R s m args below meth c H1 locs1 (cells + mc) (slots + ms) Q (F0 m (pc + 3) ls (.long r :: rest))) : W p l e R s m args below meth c H locs cells slots Q (F0 m pc ls st0) := by
  intro T hT X
  rcases hr T hT X with ⟨v, st₀, t, T', L, h0, X', hL, e1, e2, ⟨⟨r, u, hv, hp, hb⟩, hF⟩, st⟩ | ⟨q, st₀, t, T', L, E, ce, h0, X', hL, e1, e2, ⟨u, hp, hb, hF⟩, hce, hcv, hcl, st⟩
  · cases hv
    obtain ⟨k1, k2, k3⟩ := vx_keep h0 e1 hS hA hf hL hF
    obtain ⟨t2, a1, b1⟩ := kk r u t T'.heap (locs ++ L) e1.symm (by rw [← e2]; exact X'.warmed.alike) hp hb k1 k2 k3 T' rfl X'
    exact ⟨t2, st t2 a1, b1⟩
  · obtain ⟨k1, k2, k3⟩ := vx_keep h0 e1 hS hAX hf hL hF
    obtain ⟨t2, a1, b1⟩ := kx E ce q u t T'.heap (locs ++ L) e1.symm (by rw [← e2]; exact X'.warmed.alike) hp hb k1 k2 k3 (by rw [e1]; exact hce) hcv hcl T' rfl X'
    exact ⟨t2, st.trans a1, b1⟩
theorem vx_callf {S SX : Type} {post : UInt32 → S → Prop} {px : SX → Prop} {B : S → State → Prop} {BX : String → SX → State → Prop} {AX : Nat → Prop} (hr : vx_Run p l e R s m args below meth c H locs cells slots mc ms (F0 m pc ls st0) rest (va_Qf post B A1 a) (vx_X px BX AX) free) (hS : va_S A0 H0 H locs) (hA : ∀ q, q < H.size → A1 q → A0 q) (hf : ∀ q, free q → A0 q) (hAX : ∀ q, q < H.size → AX q → A0 q)
    (kx : ∀ (E : String) (ce : Cell) (q9 : Addr) (u : SX) (t : State) (H1 : Heap) (locs1 : List Loc), t.heap = H1 → s.vm.Alike t.vm → px u → BX E u t → H.size ≤ H1.size → (∀ q : Nat, q < H.size → ¬ AX q → H1[q]? = H[q]?) → va_S A0 H0 H1 locs1 → H1[q9]? = some ce → ce.vm = .none → s.vm.findClass E = some ce.cls → vx_W p l e R s m args below meth c H1 locs1 (cells + mc) (slots + ms) Q (F0 m pc ls rest) q9)
    (kk : ∀ (r : UInt32) (u : S) (t : State) (H1 : Heap) (locs1 : List Loc), t.heap = H1 → s.vm.Alike t.vm → post r u → B u t → H.size ≤ H1.size → (∀ q : Nat, q < H.size → ¬ A1 q → H1[q]? = H[q]?) → va_S A0 H0 H1 locs1 → W p l e R s m args below meth c H1 locs1 (cells + mc) (slots + ms) Q (F0 m (pc + 3) ls (.float r :: rest))) : W p l e R s m args below meth c H locs cells slots Q (F0 m pc ls st0) := by
  intro T hT X
  rcases hr T hT X with ⟨v, st₀, t, T', L, h0, X', hL, e1, e2, ⟨⟨r, u, hv, hp, hb⟩, hF⟩, st⟩ | ⟨q, st₀, t, T', L, E, ce, h0, X', hL, e1, e2, ⟨u, hp, hb, hF⟩, hce, hcv, hcl, st⟩
  · cases hv
    obtain ⟨k1, k2, k3⟩ := vx_keep h0 e1 hS hA hf hL hF
    obtain ⟨t2, a1, b1⟩ := kk r u t T'.heap (locs ++ L) e1.symm (by rw [← e2]; exact X'.warmed.alike) hp hb k1 k2 k3 T' rfl X'
    exact ⟨t2, st t2 a1, b1⟩
  · obtain ⟨k1, k2, k3⟩ := vx_keep h0 e1 hS hAX hf hL hF
    obtain ⟨t2, a1, b1⟩ := kx E ce q u t T'.heap (locs ++ L) e1.symm (by rw [← e2]; exact X'.warmed.alike) hp hb k1 k2 k3 (by rw [e1]; exact hce) hcv hcl T' rfl X'
    exact ⟨t2, st.trans a1, b1⟩
theorem vx_calld {S SX : Type} {post : UInt64 → S → Prop} {px : SX → Prop} {B : S → State → Prop} {BX : String → SX → State → Prop} {AX : Nat → Prop} (hr : vx_Run p l e R s m args below meth c H locs cells slots mc ms (F0 m pc ls st0) rest (va_Qd post B A1 a) (vx_X px BX AX) free) (hS : va_S A0 H0 H locs) (hA : ∀ q, q < H.size → A1 q → A0 q) (hf : ∀ q, free q → A0 q) (hAX : ∀ q, q < H.size → AX q → A0 q)
    (kx : ∀ (E : String) (ce : Cell) (q9 : Addr) (u : SX) (t : State) (H1 : Heap) (locs1 : List Loc), t.heap = H1 → s.vm.Alike t.vm → px u → BX E u t → H.size ≤ H1.size → (∀ q : Nat, q < H.size → ¬ AX q → H1[q]? = H[q]?) → va_S A0 H0 H1 locs1 → H1[q9]? = some ce → ce.vm = .none → s.vm.findClass E = some ce.cls → vx_W p l e R s m args below meth c H1 locs1 (cells + mc) (slots + ms) Q (F0 m pc ls rest) q9)
    (kk : ∀ (r : UInt64) (u : S) (t : State) (H1 : Heap) (locs1 : List Loc), t.heap = H1 → s.vm.Alike t.vm → post r u → B u t → H.size ≤ H1.size → (∀ q : Nat, q < H.size → ¬ A1 q → H1[q]? = H[q]?) → va_S A0 H0 H1 locs1 → W p l e R s m args below meth c H1 locs1 (cells + mc) (slots + ms) Q (F0 m (pc + 3) ls (.double r :: rest))) : W p l e R s m args below meth c H locs cells slots Q (F0 m pc ls st0) := by
  intro T hT X
  rcases hr T hT X with ⟨v, st₀, t, T', L, h0, X', hL, e1, e2, ⟨⟨r, u, hv, hp, hb⟩, hF⟩, st⟩ | ⟨q, st₀, t, T', L, E, ce, h0, X', hL, e1, e2, ⟨u, hp, hb, hF⟩, hce, hcv, hcl, st⟩
  · cases hv
    obtain ⟨k1, k2, k3⟩ := vx_keep h0 e1 hS hA hf hL hF
    obtain ⟨t2, a1, b1⟩ := kk r u t T'.heap (locs ++ L) e1.symm (by rw [← e2]; exact X'.warmed.alike) hp hb k1 k2 k3 T' rfl X'
    exact ⟨t2, st t2 a1, b1⟩
  · obtain ⟨k1, k2, k3⟩ := vx_keep h0 e1 hS hAX hf hL hF
    obtain ⟨t2, a1, b1⟩ := kx E ce q u t T'.heap (locs ++ L) e1.symm (by rw [← e2]; exact X'.warmed.alike) hp hb k1 k2 k3 (by rw [e1]; exact hce) hcv hcl T' rfl X'
    exact ⟨t2, st.trans a1, b1⟩
theorem vx_callv {S SX : Type} {post : S → Prop} {px : SX → Prop} {B : S → State → Prop} {BX : String → SX → State → Prop} {AX : Nat → Prop} (hr : vx_Run p l e R s m args below meth c H locs cells slots mc ms (F0 m pc ls st0) rest (va_Qv post B A1 a) (vx_X px BX AX) free) (hS : va_S A0 H0 H locs) (hA : ∀ q, q < H.size → A1 q → A0 q) (hf : ∀ q, free q → A0 q) (hAX : ∀ q, q < H.size → AX q → A0 q)
    (kx : ∀ (E : String) (ce : Cell) (q9 : Addr) (u : SX) (t : State) (H1 : Heap) (locs1 : List Loc), t.heap = H1 → s.vm.Alike t.vm → px u → BX E u t → H.size ≤ H1.size → (∀ q : Nat, q < H.size → ¬ AX q → H1[q]? = H[q]?) → va_S A0 H0 H1 locs1 → H1[q9]? = some ce → ce.vm = .none → s.vm.findClass E = some ce.cls → vx_W p l e R s m args below meth c H1 locs1 (cells + mc) (slots + ms) Q (F0 m pc ls rest) q9)
    (kk : ∀ (u : S) (t : State) (H1 : Heap) (locs1 : List Loc), t.heap = H1 → s.vm.Alike t.vm → post u → B u t → H.size ≤ H1.size → (∀ q : Nat, q < H.size → ¬ A1 q → H1[q]? = H[q]?) → va_S A0 H0 H1 locs1 → W p l e R s m args below meth c H1 locs1 (cells + mc) (slots + ms) Q (F0 m (pc + 3) ls (rest))) : W p l e R s m args below meth c H locs cells slots Q (F0 m pc ls st0) := by
  intro T hT X
  rcases hr T hT X with ⟨v, st₀, t, T', L, h0, X', hL, e1, e2, ⟨⟨u, hv, hp, hb⟩, hF⟩, st⟩ | ⟨q, st₀, t, T', L, E, ce, h0, X', hL, e1, e2, ⟨u, hp, hb, hF⟩, hce, hcv, hcl, st⟩
  · cases hv
    obtain ⟨k1, k2, k3⟩ := vx_keep h0 e1 hS hA hf hL hF
    obtain ⟨t2, a1, b1⟩ := kk u t T'.heap (locs ++ L) e1.symm (by rw [← e2]; exact X'.warmed.alike) hp hb k1 k2 k3 T' rfl X'
    exact ⟨t2, st t2 a1, b1⟩
  · obtain ⟨k1, k2, k3⟩ := vx_keep h0 e1 hS hAX hf hL hF
    obtain ⟨t2, a1, b1⟩ := kx E ce q u t T'.heap (locs ++ L) e1.symm (by rw [← e2]; exact X'.warmed.alike) hp hb k1 k2 k3 (by rw [e1]; exact hce) hcv hcl T' rfl X'
    exact ⟨t2, st.trans a1, b1⟩
/-- caught by the row x of this method's table; the rows ahead don't take it -/
theorem vx_catch {own name : String} {E : String} {ce : Cell} {q : Addr} (hown : s.vm.findClass own = some m.cls) (pre : List ExceptionTableEntry) (x : ExceptionTableEntry) (suf : List ExceptionTableEntry) (hsplit : c.exceptionTable.toList = pre ++ x :: suf)
    (hpass : ∀ z ∈ pre, covers z pc = false ∨ (z.catchType ≠ 0 ∧ ∃ nm : String, (Cond.classLink own z.catchType nm).before args s = true ∧ va_Nc E nm s)) (hx : covers x pc = true) (h0 : x.catchType ≠ 0)
    (hlink : (Cond.classLink own x.catchType name).before args s = true) (hcast : (Cond.castable E name).before args s = true) (hcell : H[q]? = some ce) (hv : ce.vm = .none) (hcl : s.vm.findClass E = some ce.cls)
    (kk : W p l e R s m args below meth c H locs cells slots Q (F0 m x.handlerPc ls [.ref q])) : vx_W p l e R s m args below meth c H locs cells slots Q (F0 m pc ls rest) q := by
  intro T hT X
  have hpl : e.platform.magicAccessors = ({} : Platform).magicAccessors := by rw [X.admits.platform]
  obtain ⟨c3, c4, hc3, hc4, hasg⟩ := Cond.castable_spec hcast
  cases Option.some.inj (hc3.symm.trans hcl)
  obtain ⟨c5, hc5, hcl5⟩ := Cond.classLink_spec hown hlink e.platform hpl
  cases Option.some.inj (hc4.symm.trans hc5)
  obtain ⟨vm', X', st⟩ := X.thenCaughtThrough q (g := F0 m pc ls rest) rfl (Steps.refl _) (by rw [hT]; exact hcell) (by rw [hv]; rfl) (by obtain ⟨k9, h9, -⟩ := Vm.findClass_spec hcl; exact ⟨k9, h9⟩) pre x suf hsplit
    (fun z hz => by
      rcases hpass z hz with h | ⟨hz0, nm, hl1, hn1⟩
      · exact Or.inl h
      · obtain ⟨c6, hc6, hcl6⟩ := Cond.classLink_spec hown hl1 e.platform hpl
        obtain ⟨a8, b8, h1, h2, h3⟩ := hn1
        cases Option.some.inj (h1.symm.trans hcl)
        cases Option.some.inj (h2.symm.trans hc6)
        exact Or.inr ⟨hz0, _, hcl6, h3⟩) hx (Or.inr ⟨h0, c4, hcl5, hasg⟩)
  obtain ⟨t, a1, b1⟩ := kk (T.setVm vm') hT X'
  exact ⟨t, st.trans a1, b1⟩
end Rows
section Ends
variable {p : Program} {l : Launch} {e : Env} {R : Room} {s : State} {m : MethodId} {args : Array Value} {below : List Frame} {meth : Method} {c : Code} {H : Heap} {locs : List Loc} {cells slots : Nat} {Q : State → Prop}
variable {mc ms : Nat} {free : Addr → Prop} {A0 A1 : Nat → Prop} {H0 : Heap} {a : Array Value} {ls : Array Slot} {st0 rest : List Value}
variable {Qc : Array Value → State → Outcome → State → Prop} {XC : String → State → State → Prop}
/-- what a body that may throw owes at its end -/
def vx_MQ (below : List Frame) (Qc : Array Value → State → Outcome → State → Prop) (XC : String → State → State → Prop) (a : Array Value) (s : State) (mc ms : Nat) (free : Addr → Prop) : State → Prop := fun t =>
  ∃ o, t.status = .running ∧ Ended t below o ∧ vx_Q Qc XC mc ms free a s o t
theorem vx_ret {g : JFrame} {mc ms : Nat} (k : W p l e R s m args below meth c H locs cells slots (MQ below Qc args s mc ms free) g) : W p l e R s m args below meth c H locs cells slots (vx_MQ below Qc XC args s mc ms free) g := by
  intro T hT X
  obtain ⟨t, a1, o, b1, b2, b3, b4⟩ := k T hT X
  exact ⟨t, a1, o, b1, b2, Or.inl ⟨b3, b4⟩⟩
/-- not caught here: it goes on to the caller -/
theorem vx_widen {g : JFrame} {q : Addr} {k n : Nat} (h1 : cells ≤ k) (h2 : slots ≤ n) (kk : vx_W p l e R s m args below meth c H locs k n Q g q) : vx_W p l e R s m args below meth c H locs cells slots Q g q := fun T hT X => kk T hT (stand_widen X h1 h2)
theorem vx_out {pc : Nat} {E : String} {ce : Cell} {q : Addr} {mc ms : Nat} (hout : ∀ x ∈ c.exceptionTable.toList, covers x pc = false) (hlocks : meth.locks = false) (hcell : H[q]? = some ce) (hv : ce.vm = .none) (hcl : s.vm.findClass E = some ce.cls)
    (hx : ∀ t : State, t.heap = H → s.vm.Alike t.vm → XC E s t) (hf : ∀ z ∈ locs, free z.base) (hc : cells ≤ mc) (hs : slots ≤ ms) :
    vx_W p l e R s m args below meth c H locs cells slots (vx_MQ below Qc XC args s mc ms free) (F0 m pc ls rest) q := by
  intro T hT X
  obtain ⟨st1, hrun, hend, hW, hsm⟩ := X.leaveThrown q (g := F0 m pc ls rest) rfl rfl rfl hout hlocks
  have hcell9 : (T.setFrames (.throwing q :: below)).heap[q]? = some ce := by
    show T.heap[q]? = some ce
    rw [hT]; exact hcell
  exact ⟨_, st1, .threw q, hrun, hend, Or.inr ⟨q, rfl, E, ce, locs, hx _ hT hW.alike, hcell9, hv, hcl, hW, hsm.mono hc hs, hf⟩⟩
theorem vx_frame {U : State} {k n : Nat} (h : s.sameButNew ({ U with vm := s.vm } : State) locs k n) : s.heap.size ≤ U.heap.size ∧ ∀ q : Nat, q < s.heap.size → (∀ z ∈ locs, z.base ≠ q) → U.heap[q]? = s.heap[q]? := by
  obtain ⟨-, h2, -, -, -, h6⟩ := h
  refine ⟨h2, fun q hq hz => ?_⟩
  obtain ⟨c9, e1, e2, e3, e4⟩ := h6 q _ (Array.getElem?_eq_getElem hq)
  have hs : c9.slots = (s.heap[q]).slots := Array.ext_getElem? fun i => e4 i fun hm => hz _ hm rfl
  have h9 : c9 = s.heap[q] := by
    rw [hs] at e2
    exact e2
  have e5 : U.heap[q]? = some c9 := e1
  rw [e5, h9, Array.getElem?_eq_getElem hq]
/-- the words of a throw but the four that speak of the heap -/
def vx_no (w : Cond) : Bool := decide (w ≠ .isRef (.static Bundle.tN "UNASSIGNED_STACK" Bundle.steD)) && decide (w ≠ .isRef (.static Bundle.tN "SUPPRESSED_SENTINEL" Bundle.listD)) && decide (w ≠ .laysStatic Bundle.tN "UNASSIGNED_STACK" Bundle.steD) && decide (w ≠ .laysStatic Bundle.tN "SUPPRESSED_SENTINEL" Bundle.listD)
def vx_at0 (own : String) (ic : Nat) (X : String) (names : List String) : List Cond := (Bundle.ownAtoms0 own ic X names).filter vx_no
def vx_atS (own : String) (ic : Nat) (X : String) (names : List String) : List Cond := (Bundle.ownAtoms own ic X names).filter vx_no
/-- a word that the tables alone decide, or a good one -/
def vx_ot (w : Cond) : Bool := w.onTables || goodWord w
theorem vx_ot_at {args a' : Array Value} {s U : State} {w : Cond} (hW : s.WarmedH U.vm) (hvm : s.vm = U.vm) (hg : vx_ot w = true) (h : w.before args s = true) : w.before a' U = true := by
  simp only [vx_ot, Bool.or_eq_true] at hg
  rcases hg with hg | hg
  · exact va_tabs hg hvm h
  · exact word_at hW (good_of_word hg) h
/-- a list's words: the good ones out of the method's own list, the others by premises of their own -/
theorem vx_hat {args : Array Value} {s : State} {L B : List Cond} (h1 : ∀ w ∈ L.filter goodWord, w.before args s = true) (h2 : ∀ w ∈ L.filter (fun w => !goodWord w), w ∈ B) (h3 : ∀ w ∈ B, w.before args s = true) : ∀ w ∈ L, w.before args s = true := by
  intro w hw
  by_cases g : goodWord w = true
  · exact h1 w (List.mem_filter.mpr ⟨hw, g⟩)
  · refine h3 w (h2 w (List.mem_filter.mpr ⟨hw, ?_⟩))
    show (!goodWord w) = true
    cases hgw : goodWord w
    · rfl
    · exact absurd hgw g
theorem vx_c {args : Array Value} {s : State} {w : Cond} {B : List Cond} (h : w.before args s = true) (t : ∀ w ∈ B, w.before args s = true) : ∀ w' ∈ w :: B, w'.before args s = true := fun w' h' => (List.mem_cons.mp h').elim (fun e => by rw [e]; exact h) (t w')
theorem vx_n {args : Array Value} {s : State} : ∀ w ∈ ([] : List Cond), w.before args s = true := fun _ h => nomatch h
theorem vx_own {args : Array Value} {s : State} {L : List Cond} (h1 : ∀ w ∈ L.filter vx_no, w.before args s = true)
    (hU : (Cond.isRef (.static Bundle.tN "UNASSIGNED_STACK" Bundle.steD)).before args s = true) (hN : (Cond.isRef (.static Bundle.tN "SUPPRESSED_SENTINEL" Bundle.listD)).before args s = true)
    (lU : (Cond.laysStatic Bundle.tN "UNASSIGNED_STACK" Bundle.steD).before args s = true) (lN : (Cond.laysStatic Bundle.tN "SUPPRESSED_SENTINEL" Bundle.listD).before args s = true) : ∀ w ∈ L, w.before args s = true := by
  intro w hw
  by_cases e1 : w = .isRef (.static Bundle.tN "UNASSIGNED_STACK" Bundle.steD)
  · rw [e1]; exact hU
  · by_cases e2 : w = .isRef (.static Bundle.tN "SUPPRESSED_SENTINEL" Bundle.listD)
    · rw [e2]; exact hN
    · by_cases e3 : w = .laysStatic Bundle.tN "UNASSIGNED_STACK" Bundle.steD
      · rw [e3]; exact lU
      · by_cases e4 : w = .laysStatic Bundle.tN "SUPPRESSED_SENTINEL" Bundle.listD
        · rw [e4]; exact lN
        · exact h1 w (List.mem_filter.mpr ⟨hw, by unfold vx_no; rw [decide_eq_true e1, decide_eq_true e2, decide_eq_true e3, decide_eq_true e4]; rfl⟩)
/-- where a static field lies, its class's statics cell in H -/
def vx_L (C n d : String) (A : Nat → Prop) (U : State) (H : Heap) : Prop := ∃ (c : ClassId) (k : Class) (i : Nat) (f : Field) (a : Nat) (cell : Cell), U.vm.findClass C = some c ∧ U.fieldFound? C n d = some (c, k, i, f) ∧ f.isStatic = true ∧ k.statics = some a ∧ H[a]? = some cell ∧ cell.vm.isStatics = true ∧ cell.cls = c ∧ f.slot < cell.slots.size ∧ k.staticTypes[f.slot]? = some f.type ∧ ¬ A a
theorem vx_L.moved {C n d : String} {A : Nat → Prop} {u U : State} {H : Heap} (hvm : u.vm.Alike U.vm) (h : vx_L C n d A u H) : vx_L C n d A U H := by
  obtain ⟨c, k, i, f, a, cell, h1, h2, h3, h4, h5, h6, h7, h8, h9, h10⟩ := h
  obtain ⟨k', hi', he⟩ := State.fieldFound?_setVm hvm h2
  exact ⟨c, k', i, f, a, cell, by rw [hvm.findClass]; exact h1, hi', h3, by rw [he]; exact h4, h5, h6, h7, h8, by rw [he]; exact h9, h10⟩
theorem vx_L.kept {C n d : String} {A : Nat → Prop} {U : State} {H H1 : Heap} (h : vx_L C n d A U H) (hq : ∀ a : Nat, a < H.size → ¬ A a → H1[a]? = H[a]?) : vx_L C n d A U H1 := by
  obtain ⟨c, k, i, f, a, cell, h1, h2, h3, h4, h5, h6, h7, h8, h9, h10⟩ := h
  exact ⟨c, k, i, f, a, cell, h1, h2, h3, h4, by rw [hq a (Array.getElem?_eq_some_iff.mp h5).1 h10]; exact h5, h6, h7, h8, h9, h10⟩
theorem vx_L.narrow {C n d : String} {A B : Nat → Prop} {U : State} {H : Heap} (h : vx_L C n d A U H) (hAB : ∀ q, B q → A q) : vx_L C n d B U H := by
  obtain ⟨c, k, i, f, a, cell, h1, h2, h3, h4, h5, h6, h7, h8, h9, h10⟩ := h
  exact ⟨c, k, i, f, a, cell, h1, h2, h3, h4, h5, h6, h7, h8, h9, fun z => h10 (hAB _ z)⟩
theorem vx_L.word {C n d : String} {A : Nat → Prop} {s : State} {args : Array Value} (h : vx_L C n d A s s.heap) : (Cond.laysStatic C n d).before args s = true := by
  obtain ⟨c, k, i, f, a, cell, h1, h2, h3, h4, h5, h6, h7, h8, h9, -⟩ := h
  show (Cond.laysStatic C n d).holds args s none s [] = true
  exact Cond.laysStatic_of h1 h2 h3 h4 h5 h6 h7 h8 h9
/-- .. and what it holds: null or some reference -/
def vx_Zq (C n d : String) (A : Nat → Prop) (U : State) (H : Heap) : Prop := va_Zq C n d A U H ∧ vx_L C n d A U H
theorem vx_Zq.moved {C n d : String} {A : Nat → Prop} {u U : State} {H : Heap} (hvm : u.vm.Alike U.vm) (h : vx_Zq C n d A u H) : vx_Zq C n d A U H := ⟨va_Zq.moved hvm h.1, vx_L.moved hvm h.2⟩
theorem vx_Zq.kept {C n d : String} {A : Nat → Prop} {U : State} {H H1 : Heap} (h : vx_Zq C n d A U H) (hq : ∀ a : Nat, a < H.size → ¬ A a → H1[a]? = H[a]?) : vx_Zq C n d A U H1 := ⟨va_Zq.kept h.1 hq, vx_L.kept h.2 hq⟩
theorem vx_Zq.narrow {C n d : String} {A B : Nat → Prop} {U : State} {H : Heap} (h : vx_Zq C n d A U H) (hAB : ∀ q, B q → A q) : vx_Zq C n d B U H := ⟨va_Zq.narrow h.1 hAB, vx_L.narrow h.2 hAB⟩
theorem vx_Zqof {args : Array Value} {s : State} {C n d : String} {A : Nat → Prop} (hl : (Cond.laysStatic C n d).before args s = true) (hini : (Cond.initialized C).before args s = true) (h : (Cond.isRef (.static C n d)).before args s = true) (hA : ∀ a : Nat, a < s.heap.size → ¬ A a) : vx_Zq C n d A s s.heap := by
  refine ⟨va_Zqof hl hini h hA, ?_⟩
  obtain ⟨c, k, i, f, a, cell, h1, h2, h3, h4, h5, h6, h7, h8, h9⟩ := Cond.laysStatic_spec hl
  exact ⟨c, k, i, f, a, cell, h1, h2, h3, h4, h5, h6, h7, h8, h9, hA a (Array.getElem?_eq_some_iff.mp h5).1⟩
theorem vx_isRef {C n d : String} {v : Value} {A : Nat → Prop} {s : State} {args : Array Value} (h : va_Z C n d v A s s.heap) (hv : v.isRef = true) : (Cond.isRef (.static C n d)).before args s = true := by
  obtain ⟨cf, kf, fi, f, a, cell, h1, h2, h3, h4, h5, h6, h7, -⟩ := h
  have he : (Term.static C n d).eval args s none [] s = some v := by
    simp [Term.eval, State.fieldNamed?, h1, h2, h4, h5, h6, h7]
  simp only [Cond.before, Cond.holds, Cond.value, he]
  cases v <;> simp_all [Value.isRef]
theorem vx_isRefq {C n d : String} {A : Nat → Prop} {s : State} {args : Array Value} (h : va_Zq C n d A s s.heap) : (Cond.isRef (.static C n d)).before args s = true := by
  rcases h with h | ⟨t, h⟩
  · exact vx_isRef h rfl
  · exact vx_isRef h rfl
/-- the same frame, seen from here: as if the method were called anew in this heap -/
theorem vx_rebase {T : State} (X : Stand p l e R s m args below meth c T locs cells slots) {R' : Room} (hf : R'.frames ≤ R.frames) (hl : R'.locals ≤ R.locals) (hc : cells + R'.cells ≤ R.cells) (hs : slots + R'.slots ≤ R.slots) :
    Stand p l e R' ((T.setVm s.vm).setFrames (.invoking m args :: below)) m args below meth c T [] 0 0 := by
  have htop : (T.setVm s.vm).topJava?.isSome := X.here.top
  have hF : ((T.setVm s.vm).setFrames (.invoking m args :: below)).frames = .invoking m args :: below := State.frames_setFrames _ (State.cur_lt_of_top htop)
  obtain ⟨g₀, hg0⟩ := Option.isSome_iff_exists.mp htop
  obtain ⟨r, hr⟩ := State.topJava?_eq_some.mp hg0
  have hl9 : e.platform.stackLimits (T.setVm s.vm).me = e.platform.stackLimits s.me := X.limits
  have hb9 : (T.setVm s.vm).me.stackBytes = s.me.stackBytes := X.bytes
  refine ⟨X.admits, X.cas, X.clock, hF, ?_, X.hears, X.method, X.code, X.here, X.tail, X.warmed, ?_, ?_, ?_⟩
  · have h := X.room
    have hU : ((T.setVm s.vm).setFrames (.invoking m args :: below)).localsInUse = s.localsInUse := by
      rw [State.localsInUse_invoking hF (meth := meth) (c := c) X.method X.code, State.localsInUse_invoking X.frames X.method X.code]
    simp only [State.hasRoom, Bool.and_eq_true, decide_eq_true_eq] at h ⊢
    obtain ⟨⟨⟨⟨h1, h2, h3, h4, h5, h6⟩, h7⟩, h8⟩, h9⟩ := h
    rw [X.frames, List.length_cons] at h2 h3
    have q1 := X.heapSize
    have q2 := X.used
    simp only [hF, hU, List.length_cons, State.stackLimits_setFrames, State.stackBytes_setFrames, hl9, hb9]
    refine ⟨⟨⟨⟨by omega, by omega, by omega, by omega, by omega, h6⟩, ?_⟩, ?_⟩, X.book⟩
    · show T.heap.size + R'.cells ≤ e.platform.maxCells
      omega
    · show T.slotsUsed + R'.slots ≤ e.platform.maxSlots
      omega
  · rw [State.stackLimits_setFrames]; rfl
  · rw [State.stackBytes_setFrames]; rfl
  · refine ⟨?_, Nat.le_refl _, Nat.le_refl _, ?_, ?_, fun a c9 h9 => ⟨c9, h9, rfl, rfl, fun _ _ => rfl⟩⟩
    · obtain ⟨t, ht, -⟩ := State.frames_cons hr
      show T.setVm s.vm = { ((T.setVm s.vm).setFrames (.invoking m args :: below)).setFrames (T.setVm s.vm).frames with heap := T.heap, slotsUsed := T.slotsUsed }
      rw [State.setFrames_setFrames, State.setFrames_self ht]
      rfl
    · show T.slotsUsed = T.slotsUsed + ((T.heap.toList.drop T.heap.size).map (·.slots.size)).sum
      rw [List.drop_eq_nil_of_le (Nat.le_of_eq Array.length_toList)]
      rfl
    · show ((T.heap.toList.drop T.heap.size).map (·.slots.size)).sum ≤ 0
      rw [List.drop_eq_nil_of_le (Nat.le_of_eq Array.length_toList)]
      exact Nat.le_refl _
/-- 'throw new E()': new; dup; invokespecial; athrow -/
theorem vx_throw0 {cc : ByteArray} {pc : Nat} (hexec : p.tables.exec = Jvm.exec) (hb : c.code = cc) (hl : l.stackTraces = false) {own cls : String} {names : List String} {ik ic mc ms : Nat} {A : Nat → Prop}
    (hown : s.vm.findClass own = some m.cls) (hcls : Bundle.fit cls = true) (hnames : ∀ n ∈ names, Bundle.fit n = true)
    (hk : (Cond.classLink own ik cls).before args s = true) (hini : (Cond.initialized cls).before args s = true) (hat : ∀ w ∈ vx_at0 own ic cls names, w.before args s = true)
    (hgood : ∀ w ∈ Cond.classLink own ik cls :: Cond.initialized cls :: vx_at0 own ic cls names, vx_ot w = true)
    (hU : vx_Zq Bundle.tN "UNASSIGNED_STACK" Bundle.steD A s s.heap) (hN : vx_Zq Bundle.tN "SUPPRESSED_SENTINEL" Bundle.listD A s s.heap) (hS : va_S A s.heap H locs) (hsize : ls.size = c.maxLocals)
    (d0 : decode cc pc = .ok (.new ik, 3)) (d3 : decode cc (pc + 3) = .ok (.dup, 1)) (d4 : decode cc (pc + 4) = .ok (.invokespecial ic, 3)) (d7 : decode cc (pc + 7) = .ok (.athrow, 1))
    (hout : ∀ x ∈ c.exceptionTable.toList, covers x (pc + 7) = false)
    (hRframes : names.length + 3 < R.frames) (hRlocals : (rest.map fun v => v.category).sum + (13 * (names.length + 1) + 42) ≤ R.locals) (hRcells : cells + 1 ≤ R.cells) (hRslots : slots + 6 ≤ R.slots) (hlocks : meth.locks = false)
    (hx : ∀ t : State, s.vm.Alike t.vm → H.size ≤ t.heap.size → (∀ q : Nat, q < H.size → t.heap[q]? = H[q]?) → XC cls s t)
    (hf : ∀ z ∈ locs, free z.base) (hc : cells + 1 ≤ mc) (hs : slots + 6 ≤ ms) :
    W p l e R s m args below meth c H locs cells slots (vx_MQ below Qc XC args s mc ms free) (F0 m pc ls rest) := by
  intro T hT X
  have htr : e.platform.stackTraces = false := (show e.platform.stackTraces = l.stackTraces by rw [X.admits.platform]).trans hl
  have Y := vx_rebase X (R' := { frames := R.frames, locals := R.locals, cells := 1, slots := 6 }) (Nat.le_refl _) (Nat.le_refl _) hRcells hRslots
  obtain ⟨s', hA⟩ : ∃ z, z = (T.setVm s.vm).setFrames (.invoking m args :: below) := ⟨_, rfl⟩
  rw [← hA] at Y
  have hvm : s'.vm = s.vm := by rw [hA]; rfl
  have hhp : s'.heap = H := by rw [hA]; exact hT
  have hW0 : s.WarmedH s'.vm := by rw [hvm]; exact State.WarmedH.refl s
  have hat' : ∀ w ∈ vx_at0 own ic cls names, w.before args s' = true := fun w hw => vx_ot_at hW0 hvm.symm (hgood w (List.mem_cons_of_mem _ (List.mem_cons_of_mem _ hw))) (hat w hw)
  have hk' : (Cond.classLink own ik cls).before args s' = true := vx_ot_at hW0 hvm.symm (hgood _ List.mem_cons_self) hk
  have hini' : (Cond.initialized cls).before args s' = true := vx_ot_at hW0 hvm.symm (hgood _ (List.mem_cons_of_mem _ List.mem_cons_self)) hini
  have hU' : vx_Zq Bundle.tN "UNASSIGNED_STACK" Bundle.steD A s' s'.heap := by rw [hhp]; exact vx_Zq.moved hW0.alike (hU.kept hS.2.1)
  have hN' : vx_Zq Bundle.tN "SUPPRESSED_SENTINEL" Bundle.listD A s' s'.heap := by rw [hhp]; exact vx_Zq.moved hW0.alike (hN.kept hS.2.1)
  have h : ∀ w ∈ Bundle.ownAtoms0 own ic cls names, w.before args s' = true := vx_own hat' (vx_isRefq hU'.1) (vx_isRefq hN'.1) hU'.2.word hN'.2.word
  have hown' : s'.vm.findClass own = some m.cls := by rw [hvm]; exact hown
  have hins : (Cond.instantiable cls 6).before args s' = true := h _ (by simp [Bundle.ownAtoms0])
  obtain ⟨vm₁, cX, kX, hfX, hkX, -, -, X₁, st1⟩ := Y.newCold hexec (own := own) (C := cls) (index := ik) (n := 6) hown' hk' hins hini'
    (g := F0 m pc ls rest) rfl (by rw [hb]; exact d0) (Nat.le_refl _) (Nat.le_refl _)
  generalize hT1 : (T.setVm vm₁).pushCell { cls := cX, slots := kX.instanceTypes.map defaultValue, vm := .none } = T1 at X₁ st1
  have hcat : (Value.ref T.heap.size).category = 1 := rfl
  have hcellA : T1.heap[T.heap.size]? = some (freshCell cX kX) := by rw [← hT1]; exact State.heap_pushCell_size _ _
  have d3' : decode c.code (pc + 3) = .ok (.dup, 1) := by rw [hb]; exact d3
  obtain ⟨U, hsteps, hrun, hend, hW, hsame, ce, hce, hO⟩ := X₁.ctorThrow0 hexec htr (own := own) (cls := cls) (names := names) (ic := ic) hown' hcls hnames h (fun x hx => nomatch hx) hfX hkX hcellA (by rw [hhp, hT]; exact Nat.le_refl _)
    (g := { method := m, pc := pc + 4, locals := ls, stack := .ref T.heap.size :: .ref T.heap.size :: rest, locked := none }) rfl hsize rfl rfl (rest := rest) rfl
    (by rw [hb]; exact d4) (by rw [hb]; exact d7) hout hRframes (by simp only [List.map_cons, List.sum_cons, hcat]; omega) hlocks
  obtain ⟨f1, f2⟩ := vx_frame hsame
  rw [hhp] at f1 f2
  have hWs : s.WarmedH U.vm := State.WarmedH.trans hW0 hW
  have hcl : s.vm.findClass cls = some ce.cls := by
    have h9 := hO.cls
    rw [hvm] at h9
    exact h9
  have hall : s.sameButNew ({ U with vm := s.vm } : State) locs mc ms := by
    subst hA
    obtain ⟨e1, e2⟩ := hsame
    rw [State.setFrames_setFrames] at e1
    have h2 : (T.setVm s.vm).sameButNew ({ U with vm := s.vm } : State) [] (0 + 1) (0 + 6) := ⟨e1, e2⟩
    have h3 := X.same.trans h2
    rw [List.append_nil] at h3
    exact h3.mono hc hs
  refine ⟨U, ?_, .threw T.heap.size, hrun, hend, Or.inr ⟨T.heap.size, rfl, cls, ce, locs, hx U hWs.alike f1 (fun q hq => f2 q hq (fun z hz => nomatch hz)), hce, hO.vm, hcl, hWs, hall, hf⟩⟩
  refine st1 _ ?_
  show Steps p.tables e below (T1.setTop { method := m, pc := pc + 3, locals := ls, stack := .ref T.heap.size :: rest, locked := none }) _
  jvm_step X₁.here [X₁.here.top, hexec, d3', Value.category]
  exact hsteps
/-- 'throw new E("text")': new; dup; ldc; invokespecial; athrow -/
theorem vx_throwS {cc : ByteArray} {pc : Nat} (hexec : p.tables.exec = Jvm.exec) (hb : c.code = cc) (hl : l.stackTraces = false) {own cls text : String} {names : List String} {ik is ic mc ms sa : Nat} {A : Nat → Prop}
    (hown : s.vm.findClass own = some m.cls) (hcls : Bundle.fit cls = true) (hnames : ∀ n ∈ names, Bundle.fit n = true)
    (hk : (Cond.classLink own ik cls).before args s = true) (hini : (Cond.initialized cls).before args s = true) (hstr : vk_R own is text sa s) (hat : ∀ w ∈ vx_atS own ic cls names, w.before args s = true)
    (hgood : ∀ w ∈ Cond.classLink own ik cls :: Cond.initialized cls :: vx_atS own ic cls names, vx_ot w = true)
    (hU : vx_Zq Bundle.tN "UNASSIGNED_STACK" Bundle.steD A s s.heap) (hN : vx_Zq Bundle.tN "SUPPRESSED_SENTINEL" Bundle.listD A s s.heap) (hS : va_S A s.heap H locs) (hsize : ls.size = c.maxLocals)
    (d0 : decode cc pc = .ok (.new ik, 3)) (d3 : decode cc (pc + 3) = .ok (.dup, 1)) (d4 : decode cc (pc + 4) = .ok (.ldc is, 2)) (d6 : decode cc (pc + 6) = .ok (.invokespecial ic, 3)) (d9 : decode cc (pc + 9) = .ok (.athrow, 1))
    (hout : ∀ x ∈ c.exceptionTable.toList, covers x (pc + 9) = false)
    (hRframes : names.length + 3 < R.frames) (hRlocals : (rest.map fun v => v.category).sum + (13 * (names.length + 1) + 43) ≤ R.locals) (hRcells : cells + 1 ≤ R.cells) (hRslots : slots + 6 ≤ R.slots) (hlocks : meth.locks = false)
    (hx : ∀ t : State, s.vm.Alike t.vm → H.size ≤ t.heap.size → (∀ q : Nat, q < H.size → t.heap[q]? = H[q]?) → XC cls s t)
    (hf : ∀ z ∈ locs, free z.base) (hc : cells + 1 ≤ mc) (hs : slots + 6 ≤ ms) :
    W p l e R s m args below meth c H locs cells slots (vx_MQ below Qc XC args s mc ms free) (F0 m pc ls rest) := by
  intro T hT X
  have htr : e.platform.stackTraces = false := (show e.platform.stackTraces = l.stackTraces by rw [X.admits.platform]).trans hl
  have Y := vx_rebase X (R' := { frames := R.frames, locals := R.locals, cells := 1, slots := 6 }) (Nat.le_refl _) (Nat.le_refl _) hRcells hRslots
  obtain ⟨s', hA⟩ : ∃ z, z = (T.setVm s.vm).setFrames (.invoking m args :: below) := ⟨_, rfl⟩
  rw [← hA] at Y
  have hvm : s'.vm = s.vm := by rw [hA]; rfl
  have hhp : s'.heap = H := by rw [hA]; exact hT
  have hW0 : s.WarmedH s'.vm := by rw [hvm]; exact State.WarmedH.refl s
  have hat' : ∀ w ∈ vx_atS own ic cls names, w.before args s' = true := fun w hw => vx_ot_at hW0 hvm.symm (hgood w (List.mem_cons_of_mem _ (List.mem_cons_of_mem _ hw))) (hat w hw)
  have hk' : (Cond.classLink own ik cls).before args s' = true := vx_ot_at hW0 hvm.symm (hgood _ List.mem_cons_self) hk
  have hini' : (Cond.initialized cls).before args s' = true := vx_ot_at hW0 hvm.symm (hgood _ (List.mem_cons_of_mem _ List.mem_cons_self)) hini
  have hU' : vx_Zq Bundle.tN "UNASSIGNED_STACK" Bundle.steD A s' s'.heap := by rw [hhp]; exact vx_Zq.moved hW0.alike (hU.kept hS.2.1)
  have hN' : vx_Zq Bundle.tN "SUPPRESSED_SENTINEL" Bundle.listD A s' s'.heap := by rw [hhp]; exact vx_Zq.moved hW0.alike (hN.kept hS.2.1)
  have h : ∀ w ∈ Bundle.ownAtoms own ic cls names, w.before args s' = true := vx_own hat' (vx_isRefq hU'.1) (vx_isRefq hN'.1) hU'.2.word hN'.2.word
  have hown' : s'.vm.findClass own = some m.cls := by rw [hvm]; exact hown
  have hins : (Cond.instantiable cls 6).before args s' = true := h _ (by simp [Bundle.ownAtoms])
  obtain ⟨vm₁, cX, kX, hfX, hkX, -, -, X₁, st1⟩ := Y.newCold hexec (own := own) (C := cls) (index := ik) (n := 6) hown' hk' hins hini'
    (g := F0 m pc ls rest) rfl (by rw [hb]; exact d0) (Nat.le_refl _) (Nat.le_refl _)
  generalize hT1 : (T.setVm vm₁).pushCell { cls := cX, slots := kX.instanceTypes.map defaultValue, vm := .none } = T1 at X₁ st1
  have hcat : (Value.ref T.heap.size).category = 1 := rfl
  have hcellA : T1.heap[T.heap.size]? = some (freshCell cX kX) := by rw [← hT1]; exact State.heap_pushCell_size _ _
  have d3' : decode c.code (pc + 3) = .ok (.dup, 1) := by rw [hb]; exact d3
  have d4' : decode c.code (pc + 4) = .ok (.ldc is, 2) := by rw [hb]; exact d4
  have hstr' : vk_R own is text sa s' := vk_R.warm hW0 hstr
  obtain ⟨U, hsteps, hrun, hend, hW, hsame, ce, hce, hO⟩ := X₁.ctorThrowS hexec htr (own := own) (cls := cls) (names := names) (ic := ic) hown' hcls hnames h (fun x hx => nomatch hx) hfX hkX hcellA (by rw [hhp, hT]; exact Nat.le_refl _) (msg := .ref sa) rfl
    (g := { method := m, pc := pc + 6, locals := ls, stack := .ref sa :: .ref T.heap.size :: .ref T.heap.size :: rest, locked := none }) rfl hsize rfl rfl (rest := rest) rfl
    (by rw [hb]; exact d6) (by rw [hb]; exact d9) hout hRframes (by simp only [List.map_cons, List.sum_cons, hcat]; omega) hlocks
  obtain ⟨f1, f2⟩ := vx_frame hsame
  rw [hhp] at f1 f2
  have hWs : s.WarmedH U.vm := State.WarmedH.trans hW0 hW
  have hcl : s.vm.findClass cls = some ce.cls := by
    have h9 := hO.cls
    rw [hvm] at h9
    exact h9
  have hall : s.sameButNew ({ U with vm := s.vm } : State) locs mc ms := by
    subst hA
    obtain ⟨e1, e2⟩ := hsame
    rw [State.setFrames_setFrames] at e1
    have h2 : (T.setVm s.vm).sameButNew ({ U with vm := s.vm } : State) [] (0 + 1) (0 + 6) := ⟨e1, e2⟩
    have h3 := X.same.trans h2
    rw [List.append_nil] at h3
    exact h3.mono hc hs
  refine ⟨U, ?_, .threw T.heap.size, hrun, hend, Or.inr ⟨T.heap.size, rfl, cls, ce, locs, hx U hWs.alike f1 (fun q hq => f2 q hq (fun z hz => nomatch hz)), hce, hO.vm, hcl, hWs, hall, hf⟩⟩
  refine st1 _ ?_
  show Steps p.tables e below (T1.setTop { method := m, pc := pc + 3, locals := ls, stack := .ref T.heap.size :: rest, locked := none }) _
  jvm_step X₁.here [X₁.here.top, hexec, d3', Value.category]
  exact X₁.ldcString hexec (own := own) (text := text) (index := is) (a := sa) hown' hstr'.1 hstr'.2
    (g := { method := m, pc := pc + 4, locals := ls, stack := .ref T.heap.size :: .ref T.heap.size :: rest, locked := none }) rfl d4' _ hsteps
/-- 'throw new E("text")', the text by a wide index -/
theorem vx_throwSW {cc : ByteArray} {pc : Nat} (hexec : p.tables.exec = Jvm.exec) (hb : c.code = cc) (hl : l.stackTraces = false) {own cls text : String} {names : List String} {ik is ic mc ms sa : Nat} {A : Nat → Prop}
    (hown : s.vm.findClass own = some m.cls) (hcls : Bundle.fit cls = true) (hnames : ∀ n ∈ names, Bundle.fit n = true)
    (hk : (Cond.classLink own ik cls).before args s = true) (hini : (Cond.initialized cls).before args s = true) (hstr : vk_R own is text sa s) (hat : ∀ w ∈ vx_atS own ic cls names, w.before args s = true)
    (hgood : ∀ w ∈ Cond.classLink own ik cls :: Cond.initialized cls :: vx_atS own ic cls names, vx_ot w = true)
    (hU : vx_Zq Bundle.tN "UNASSIGNED_STACK" Bundle.steD A s s.heap) (hN : vx_Zq Bundle.tN "SUPPRESSED_SENTINEL" Bundle.listD A s s.heap) (hS : va_S A s.heap H locs) (hsize : ls.size = c.maxLocals)
    (d0 : decode cc pc = .ok (.new ik, 3)) (d3 : decode cc (pc + 3) = .ok (.dup, 1)) (d4 : decode cc (pc + 4) = .ok (.ldc_w is, 3)) (d7 : decode cc (pc + 7) = .ok (.invokespecial ic, 3)) (d10 : decode cc (pc + 10) = .ok (.athrow, 1))
    (hout : ∀ x ∈ c.exceptionTable.toList, covers x (pc + 10) = false)
    (hRframes : names.length + 3 < R.frames) (hRlocals : (rest.map fun v => v.category).sum + (13 * (names.length + 1) + 43) ≤ R.locals) (hRcells : cells + 1 ≤ R.cells) (hRslots : slots + 6 ≤ R.slots) (hlocks : meth.locks = false)
    (hx : ∀ t : State, s.vm.Alike t.vm → H.size ≤ t.heap.size → (∀ q : Nat, q < H.size → t.heap[q]? = H[q]?) → XC cls s t)
    (hf : ∀ z ∈ locs, free z.base) (hc : cells + 1 ≤ mc) (hs : slots + 6 ≤ ms) :
    W p l e R s m args below meth c H locs cells slots (vx_MQ below Qc XC args s mc ms free) (F0 m pc ls rest) := by
  intro T hT X
  have htr : e.platform.stackTraces = false := (show e.platform.stackTraces = l.stackTraces by rw [X.admits.platform]).trans hl
  have Y := vx_rebase X (R' := { frames := R.frames, locals := R.locals, cells := 1, slots := 6 }) (Nat.le_refl _) (Nat.le_refl _) hRcells hRslots
  obtain ⟨s', hA⟩ : ∃ z, z = (T.setVm s.vm).setFrames (.invoking m args :: below) := ⟨_, rfl⟩
  rw [← hA] at Y
  have hvm : s'.vm = s.vm := by rw [hA]; rfl
  have hhp : s'.heap = H := by rw [hA]; exact hT
  have hW0 : s.WarmedH s'.vm := by rw [hvm]; exact State.WarmedH.refl s
  have hat' : ∀ w ∈ vx_atS own ic cls names, w.before args s' = true := fun w hw => vx_ot_at hW0 hvm.symm (hgood w (List.mem_cons_of_mem _ (List.mem_cons_of_mem _ hw))) (hat w hw)
  have hk' : (Cond.classLink own ik cls).before args s' = true := vx_ot_at hW0 hvm.symm (hgood _ List.mem_cons_self) hk
  have hini' : (Cond.initialized cls).before args s' = true := vx_ot_at hW0 hvm.symm (hgood _ (List.mem_cons_of_mem _ List.mem_cons_self)) hini
  have hU' : vx_Zq Bundle.tN "UNASSIGNED_STACK" Bundle.steD A s' s'.heap := by rw [hhp]; exact vx_Zq.moved hW0.alike (hU.kept hS.2.1)
  have hN' : vx_Zq Bundle.tN "SUPPRESSED_SENTINEL" Bundle.listD A s' s'.heap := by rw [hhp]; exact vx_Zq.moved hW0.alike (hN.kept hS.2.1)
  have h : ∀ w ∈ Bundle.ownAtoms own ic cls names, w.before args s' = true := vx_own hat' (vx_isRefq hU'.1) (vx_isRefq hN'.1) hU'.2.word hN'.2.word
  have hown' : s'.vm.findClass own = some m.cls := by rw [hvm]; exact hown
  have hins : (Cond.instantiable cls 6).before args s' = true := h _ (by simp [Bundle.ownAtoms])
  obtain ⟨vm₁, cX, kX, hfX, hkX, -, -, X₁, st1⟩ := Y.newCold hexec (own := own) (C := cls) (index := ik) (n := 6) hown' hk' hins hini'
    (g := F0 m pc ls rest) rfl (by rw [hb]; exact d0) (Nat.le_refl _) (Nat.le_refl _)
  generalize hT1 : (T.setVm vm₁).pushCell { cls := cX, slots := kX.instanceTypes.map defaultValue, vm := .none } = T1 at X₁ st1
  have hcat : (Value.ref T.heap.size).category = 1 := rfl
  have hcellA : T1.heap[T.heap.size]? = some (freshCell cX kX) := by rw [← hT1]; exact State.heap_pushCell_size _ _
  have d3' : decode c.code (pc + 3) = .ok (.dup, 1) := by rw [hb]; exact d3
  have d4' : decode c.code (pc + 4) = .ok (.ldc_w is, 3) := by rw [hb]; exact d4
  have hstr' : vk_R own is text sa s' := vk_R.warm hW0 hstr
  obtain ⟨U, hsteps, hrun, hend, hW, hsame, ce, hce, hO⟩ := X₁.ctorThrowS hexec htr (own := own) (cls := cls) (names := names) (ic := ic) hown' hcls hnames h (fun x hx => nomatch hx) hfX hkX hcellA (by rw [hhp, hT]; exact Nat.le_refl _) (msg := .ref sa) rfl
    (g := { method := m, pc := pc + 7, locals := ls, stack := .ref sa :: .ref T.heap.size :: .ref T.heap.size :: rest, locked := none }) rfl hsize rfl rfl (rest := rest) rfl
    (by rw [hb]; exact d7) (by rw [hb]; exact d10) hout hRframes (by simp only [List.map_cons, List.sum_cons, hcat]; omega) hlocks
  obtain ⟨f1, f2⟩ := vx_frame hsame
  rw [hhp] at f1 f2
  have hWs : s.WarmedH U.vm := State.WarmedH.trans hW0 hW
  have hcl : s.vm.findClass cls = some ce.cls := by
    have h9 := hO.cls
    rw [hvm] at h9
    exact h9
  have hall : s.sameButNew ({ U with vm := s.vm } : State) locs mc ms := by
    subst hA
    obtain ⟨e1, e2⟩ := hsame
    rw [State.setFrames_setFrames] at e1
    have h2 : (T.setVm s.vm).sameButNew ({ U with vm := s.vm } : State) [] (0 + 1) (0 + 6) := ⟨e1, e2⟩
    have h3 := X.same.trans h2
    rw [List.append_nil] at h3
    exact h3.mono hc hs
  refine ⟨U, ?_, .threw T.heap.size, hrun, hend, Or.inr ⟨T.heap.size, rfl, cls, ce, locs, hx U hWs.alike f1 (fun q hq => f2 q hq (fun z hz => nomatch hz)), hce, hO.vm, hcl, hWs, hall, hf⟩⟩
  refine st1 _ ?_
  show Steps p.tables e below (T1.setTop { method := m, pc := pc + 3, locals := ls, stack := .ref T.heap.size :: rest, locked := none }) _
  jvm_step X₁.here [X₁.here.top, hexec, d3', Value.category]
  exact X₁.ldcStringW hexec (own := own) (text := text) (index := is) (a := sa) hown' hstr'.1 hstr'.2
    (g := { method := m, pc := pc + 4, locals := ls, stack := .ref T.heap.size :: .ref T.heap.size :: rest, locked := none }) rfl d4' _ hsteps
end Ends
section Bodies
variable {l : Launch}
theorem vx_ofW {y : MethodName} {ws ws' : List Cond} {rm : Room} {Pc : Array Value → State → Prop} {Qc : Array Value → State → Outcome → State → Prop} {XC : String → State → State → Prop} {mc ms : Nat} {free : Addr → Prop} {cc : ByteArray} {maxL : Nat} {ret : Option FieldType}
    (hy : plainName y.cls = true) (hw : ws = Cond.code y cc maxL ret :: ws')
    (body : ∀ p e s m args below meth c s₁, BodyLoose p l y (headSpec ws rm) cc maxL ret e s m args below meth c s₁ → c.maxLocals = maxL → (∀ x ∈ c.exceptionTable.toList, False) → Pc args s →
      W p l e (headSpec ws rm).room s m args below meth c s.heap [] 0 0 (vx_MQ below Qc XC args s mc ms free) (entryFrame m args maxL)) : vx_Met l y ws rm Pc Qc XC mc ms free := by
  refine MetFree.of_bodyS (code := cc) (maxLocals := maxL) (ret := ret) hy ?_ ?_
  · intro args s m h hn
    obtain ⟨meth, c, h1, h2, h3, h4, h5, h6, -, -⟩ := Cond.code_spec hn (atoms_spec (ws := ws) h _ (by rw [hw]; exact List.mem_cons_self))
    exact ⟨meth, c, h1, h2, h3, h4, h5, h6⟩
  · intro p e s m args below meth c s₁ B hml hP _
    have hh0 : s₁.heap = s.heap := by rw [B.state]; rfl
    have ht : ∀ x ∈ c.exceptionTable.toList, False := by
      obtain ⟨meth9, c9, h1, h2, -, -, -, -, h7, -⟩ := Cond.code_spec B.named (atoms_spec (ws := ws) B.pre _ (by rw [hw]; exact List.mem_cons_self))
      cases Option.some.inj (h1.symm.trans B.method)
      cases Option.some.inj (h2.symm.trans (Stand.of_body B).code)
      intro x hx
      rw [Array.isEmpty_iff.mp h7] at hx
      cases hx
    obtain ⟨t, a1, o, b1, b2, b3⟩ := body p e s m args below meth c s₁ B hml ht hP s₁ hh0 (Stand.of_body B)
    exact ⟨t, o, a1, b1, b2, b3⟩
/-- the table of a body with handlers -/
theorem vx_table {p : Program} {x y : MethodName} {S : Spec} {cc bytes : ByteArray} {maxL maxL' : Nat} {ret ret' : Option FieldType} {e : Env} {s s₁ : State} {m : MethodId} {args : Array Value} {below : List Frame} {meth : Method} {c : Code} {hh : List (Nat × Nat × Nat × Nat)}
    (B : BodyLoose p l y S cc maxL ret e s m args below meth c s₁) (h : (Cond.codeWith y bytes maxL' ret' hh).before args s = true) : c.exceptionTable.toList = tableOf hh := by
  obtain ⟨m9, meth9, c9, hn9, h1, h2, -, -, h6, -⟩ := Cond.codeWith_spec h
  cases Option.some.inj (hn9.symm.trans B.named)
  cases Option.some.inj (h1.symm.trans B.method)
  cases Option.some.inj (h2.symm.trans (Stand.of_body B).code)
  rw [← h6, table_eq]
end Bodies
end VXA
/-! ===== END ===== -/
/-! ===== BEGIN a static call of a method with an exception table ===== -/
section VXS
variable {p : Program} {l : Launch} {e : Env} {R : Room} {s : State} {m : MethodId} {args : Array Value} {below : List Frame} {meth : Method} {c : Code} {T : State} {H : Heap} {locs : List Loc} {cells slots : Nat}
abbrev vx_CSW (R : Room) (s : State) (args : Array Value) (own : String) (index : Nat) (y : MethodName) (bytes : ByteArray) (maxL : Nat) (ret : Option FieldType) (hh : List (Nat × Nat × Nat × Nat)) (ws : List Cond) (rm : Room) (mc ms n : Nat) : Prop :=
  (rm.cells = mc ∧ rm.slots = ms ∧ rm.frames + 1 ≤ R.frames ∧ 8 + (maxL + 11) + rm.locals ≤ R.locals ∧ (∀ w ∈ ws, ∀ (a' : Array Value) (U : State), s.WarmedH U.vm → w.before a' U = true) ∧ Cond.codeWith y bytes maxL ret hh ∈ ws) ∧
  (Cond.codeWith y bytes maxL ret hh).before args s = true ∧ (Cond.initialized y.cls).before args s = true ∧ (y.cls ≠ "java/lang/invoke/MethodHandle" ∧ y.cls ≠ "java/lang/invoke/VarHandle") ∧
  (∀ sig, parseMethodDescriptor y.desc = some sig → n = sig.parameters.length) ∧ (Cond.methodLink own index y).before args s = true ∧ (Cond.static y).before args s = true
theorem vx_cwSW {own : String} {index maxL mc ms : Nat} {y : MethodName} {bytes : ByteArray} {ret : Option FieldType} {hh : List (Nat × Nat × Nat × Nat)} {Ts ws ws' : List Cond} {rm : Room} (n : Nat) (ht : ∀ w ∈ Ts, w.before args s = true) (hT : GoodIn Ts (va_wsS own index y ws)) (hw : ws = Cond.codeWith y bytes maxL ret hh :: ws') (hrc : rm.cells = mc) (hrs : rm.slots = ms)
    (hd : y.cls ≠ "java/lang/invoke/MethodHandle" ∧ y.cls ≠ "java/lang/invoke/VarHandle" ∧ (parseMethodDescriptor y.desc).map (fun d => d.parameters.length) = some n) (hR : rm.frames + 1 ≤ R.frames ∧ 8 + (maxL + 11) + rm.locals ≤ R.locals) :
    vx_CSW R s args own index y bytes maxL ret hh ws rm mc ms n := by
  have ok : ∀ w ∈ va_wsS own index y ws, w.before args s = true := fun w h => ht w (hT w h).1
  have hG : GoodIn Ts ws := fun w h => hT w (by unfold va_wsS; exact List.mem_append_right _ h)
  have hc : Cond.codeWith y bytes maxL ret hh ∈ ws := by rw [hw]; exact List.mem_cons_self
  refine ⟨⟨hrc, hrs, hR.1, hR.2, pay_in ht hG, hc⟩, ht _ (hG _ hc).1, ok _ (by simp [va_wsS]), ⟨hd.1, hd.2.1⟩, fun sig h => ?_, ok _ (by simp [va_wsS]), ok _ (by simp [va_wsS])⟩
  have h2 := hd.2.2
  rw [h] at h2
  exact (Option.some.inj h2).symm
theorem vx_callSW (X : Stand p l e R s m args below meth c T locs cells slots) (hexec : p.tables.exec = Jvm.exec) {own : String} {index : Nat} {y : MethodName} {bytes : ByteArray} {maxL : Nat} {ret : Option FieldType} {hh : List (Nat × Nat × Nat × Nat)}
    (hown : s.vm.findClass own = some m.cls) (hlink : (Cond.methodLink own index y).before args s = true) (hstat : (Cond.static y).before args s = true) (hinit : (Cond.initialized y.cls).before args s = true)
    (hcode : (Cond.codeWith y bytes maxL ret hh).before args s = true) (hy : y.cls ≠ "java/lang/invoke/MethodHandle" ∧ y.cls ≠ "java/lang/invoke/VarHandle")
    {W9 : Nat} {Pre : Pt → Array Value → Prop} {Post : Pt → Array Value → Option Value → Pt → Prop} (hK : Back l R p e below s args y 3 W9 Pre Post)
    {g : JFrame} (hg : g.method = m) (hsize : g.locals.size = c.maxLocals) {argsL rest : List Value} (hlen : ∀ sig, parseMethodDescriptor y.desc = some sig → argsL.length = sig.parameters.length)
    (hstack : g.stack = argsL.reverse ++ rest) (hW : 2 * g.monitorRoom + (rest.map fun v => v.category).sum ≤ W9) (hdg : decode c.code g.pc = .ok (.invokestatic index, 3))
    (hpre : ∀ vm₁, s.WarmedH vm₁ → Pre ⟨T.setVm vm₁, locs, cells, slots⟩ argsL.toArray) :
    ∃ (v : Option Value) (vm₁ : Vm) (B : Pt), s.WarmedH vm₁ ∧ Stand p l e R s m args below meth c B.U B.locs B.cells B.slots ∧ Post ⟨T.setVm vm₁, locs, cells, slots⟩ argsL.toArray v B ∧
      ∀ target, Steps p.tables e below (B.U.setTop { g with pc := g.pc + 3, stack := v.toList ++ rest }) target → Steps p.tables e below (T.setTop g) target := by
  obtain ⟨mk, methM, cM, hnamed, hmethM, -, -, -, -, -, -, hsigM⟩ := Cond.codeWith_spec hcode
  have hstatic : methM.isStatic = true := Cond.static_spec hnamed hmethM hstat
  obtain ⟨kP, hkP, -⟩ := className_of_methodNamed hnamed
  have hinitP : kP.init = .initialized := Cond.initialized_spec (findClass_of_methodNamed hnamed) hkP hinit
  obtain ⟨vm₁, X₁, hstep₁⟩ := X.invokestatic hexec hown hlink hnamed hmethM hstatic hkP hinitP hy (g := g) hg (argsL := argsL) (rest := rest) (hlen _ hsigM) hstack hdg
  obtain ⟨v, B, X', hpost, hsteps⟩ := hK m meth c ⟨T.setVm vm₁, locs, cells, slots⟩ { g with stack := rest } (.invokestatic index) mk argsL.toArray X₁ hg hsize hdg hW (X₁.named hnamed) (hpre vm₁ X₁.warmed)
  exact ⟨v, vm₁, B, X₁.warmed, X', hpost, fun target h => hstep₁ _ fun acts => by rw [doInvoke_state]; exact hsteps.trans h⟩
theorem vx_runSW {y : MethodName} {bytes cc : ByteArray} {maxL nL mc ms n index : Nat} {ret : Option FieldType} {hh : List (Nat × Nat × Nat × Nat)} {ws : List Cond} {rm : Room} {Pc : Array Value → State → Prop} {Qc : Array Value → State → Outcome → State → Prop} {free : Addr → Prop} {Ts : List Cond} {own : String} {As rest : List Value} {g : JFrame}
    (S : CallFix p m c cc nL s args Ts own) (hM : Met l y ws rm Pc Qc mc ms free) (cw : vx_CSW R s args own index y bytes maxL ret hh ws rm mc ms n) (hp : PreS s H Pc As)
    (hg : g.method = m) (hn : As.length = n) (hsize : g.locals.size = nL) (hstack : g.stack = As.reverse ++ rest) (hW : 2 * g.monitorRoom + (rest.map fun v => v.category).sum ≤ 8) (hdg : decode cc g.pc = .ok (.invokestatic index, 3)) (hf : cells + mc ≤ R.cells ∧ slots + ms ≤ R.slots) :
    va_Run p l e R s m args below meth c H locs cells slots mc ms g rest (Qc As.toArray) (free) := by
  obtain ⟨⟨hrc, hrs, hfr, hlo, hws, hcw⟩, hcode, hini, hy, hlen, hl, hstt⟩ := cw
  have hK : Back l R p e below s args y 3 8 (PreOf R mc ms Pc) (PostOf Qc mc ms free) := va_backW (hh := hh) (bytes := bytes) (maxL := maxL) (ret := ret) hM hp.1 hrc hrs hfr hlo hws hcw (fun a' U hW => word_at hW (Or.inl (by first | rfl | simp [Cond.onTables, Cond.keeps, Cond.steady])) hini)
  obtain ⟨hx, hb, hml, ho, -⟩ := S
  intro T hT X
  obtain ⟨v, vm₁, ⟨U', l2, c2, s2⟩, hW₁, X', ⟨g', mk, t, L, e1, e2, hq, h1, hL, h2, h3⟩, st⟩ := vx_callSW X hx (hh := hh) (bytes := bytes) (maxL := maxL) (ret := ret) ho hl hstt hini hcode hy hK hg (hsize.trans hml.symm) (argsL := As) (rest := rest) (fun sig h => hn.trans (hlen sig h)) hstack hW (by rw [hb]; exact hdg)
    (fun vm₁ hW₁ => ⟨hf.1, hf.2, hp.2 (T.setVm vm₁) hT hW₁⟩)
  dsimp only [Pt.U, Pt.locs, Pt.cells, Pt.slots] at X' e1 e2 h1 h2 h3 st
  subst h1; subst h2; subst h3
  exact ⟨v, (T.setVm vm₁).calling g' mk As.toArray, t, U', L, hT, X', hL, e1, e2, hq, st⟩
/-- not caught here, past rows that name other classes: it goes on to the caller -/
theorem vx_outP {p : Program} {l : Launch} {e : Env} {R : Room} {s : State} {m : MethodId} {args : Array Value} {below : List Frame} {meth : Method} {c : Code} {H : Heap} {locs : List Loc} {cells slots : Nat} {free : Addr → Prop} {ls : Array Slot} {rest : List Value} {Qc : Array Value → State → Outcome → State → Prop} {XC : String → State → State → Prop}
    {pc : Nat} {own E : String} {ce : Cell} {q : Addr} {mc ms : Nat} (hown : s.vm.findClass own = some m.cls) (hlocks : meth.locks = false)
    (hpass : ∀ z ∈ c.exceptionTable.toList, covers z pc = false ∨ (z.catchType ≠ 0 ∧ ∃ nm : String, (Cond.classLink own z.catchType nm).before args s = true ∧ va_Nc E nm s)) (hcell : H[q]? = some ce) (hv : ce.vm = .none) (hcl : s.vm.findClass E = some ce.cls)
    (hx : ∀ t : State, t.heap = H → s.vm.Alike t.vm → XC E s t) (hf : ∀ z ∈ locs, free z.base) (hc : cells ≤ mc) (hs : slots ≤ ms) :
    vx_W p l e R s m args below meth c H locs cells slots (vx_MQ below Qc XC args s mc ms free) (F0 m pc ls rest) q := by
  intro T hT X
  have hpl : e.platform.magicAccessors = ({} : Platform).magicAccessors := by rw [X.admits.platform]
  obtain ⟨vm', hW', X', st⟩ := X.outThrough hlocks q (g := F0 m pc ls rest) rfl rfl rfl (cell := ce) (by rw [hT]; exact hcell) (by rw [hv]; rfl)
    (by obtain ⟨k9, h9, -⟩ := Vm.findClass_spec hcl; exact ⟨k9, h9⟩) (fun z hz => by
      rcases hpass z hz with h | ⟨hz0, nm, hl1, hn1⟩
      · exact Or.inl h
      · obtain ⟨c6, hc6, hcl6⟩ := Cond.classLink_spec hown hl1 e.platform hpl
        obtain ⟨a8, b8, h1, h2, h3⟩ := hn1
        cases Option.some.inj (h1.symm.trans hcl)
        cases Option.some.inj (h2.symm.trans hc6)
        exact Or.inr ⟨hz0, _, hcl6, h3⟩)
  obtain ⟨g₀, hfr⟩ := X'.frames_eq
  have hcell9 : ((T.setVm vm').setFrames (.throwing q :: below)).heap[q]? = some ce := by
    show T.heap[q]? = some ce
    rw [hT]; exact hcell
  have hend : Ended ((T.setVm vm').setFrames (.throwing q :: below)) below (.threw q) := State.frames_setFrames _ (State.cur_lt_of_frames hfr)
  refine ⟨(T.setVm vm').setFrames (.throwing q :: below), ?_, .threw q, X'.here.running, hend, Or.inr ⟨q, rfl, E, ce, locs, hx _ hT (X'.ends _).1.alike, hcell9, hv, hcl, (X'.ends _).1, (X'.ends _).2.mono hc hs, hf⟩⟩
  rw [X.pushThrowing_eq]
  exact st
/-- a thing of a world lies in the heap -/
theorem vx_lt {D : va_G} {cl : List vw_C} {ws : va_W} {H1 : Heap} (h : va_P D cl ws H1) {k : Nat} {q : Nat × va_E} (hk : ws[k]? = some q) : q.1 < H1.size := (h k q hk).lt
end VXS
/-! ===== END ===== -/
/-! ===== BEGIN methods with a table of their own: called by a name, returning or throwing ===== -/
section VXH
/-! vx_backW, vx_callVX, vx_callSX, vx_callVW, vx_runVW, vx_runVX, vx_runSX, vx_ofWH follow the same proofs as their sisters above (Free/Laws.lean, Shelf42/LK1.lean); vx_outP calls Shelf42/NT130.lean (outThrough). -/
section
variable {l : Launch} {R : Room} {p : Program} {e : Env} {below : List Frame} {s : State} {sargs : Array Value} {y : MethodName} {len W9 : Nat}
theorem vx_backW {ws : List Cond} {rm : Room} {Pc : Array Value → State → Prop} {Qc : Array Value → State → Outcome → State → Prop} {XC : String → State → State → Prop} {mc ms : Nat} {free : Addr → Prop} {bytes : ByteArray} {maxL : Nat} {ret : Option FieldType} {hh : List (Nat × Nat × Nat × Nat)}
    (hM : vx_Met l y ws rm Pc Qc XC mc ms free) (hblind : FrameBlind Pc) (hrc : rm.cells = mc) (hrs : rm.slots = ms)
    (hframes : rm.frames + 1 ≤ R.frames) (hlocals : W9 + (maxL + 11) + rm.locals ≤ R.locals)
    (hws : ∀ w ∈ ws, ∀ a' U, s.WarmedH U.vm → w.before a' U = true) (hcode : Cond.codeWith y bytes maxL ret hh ∈ ws) (hinit : ∀ a' U, s.WarmedH U.vm → (Cond.initialized y.cls).before a' U = true) :
    vx_Back l R p e below s sargs y len W9 (PreOf R mc ms Pc) (PostOf Qc mc ms free) (vx_Post XC mc ms free) := by
  intro m meth c A g ig mk a X hg hsize hdg hW hn hp
  have h1 : (headSpec ws rm).pre.before a A.U = true := atoms_intro fun w hw => hws w hw _ _ X.warmed
  have h2 : (Cond.codeWith y bytes maxL ret hh).before a A.U = true := hws _ hcode _ _ X.warmed
  have h3 : (Cond.initialized y.cls).before a A.U = true := hinit _ _ X.warmed
  have h4 : A.cells + (headSpec ws rm).room.cells ≤ R.cells := by rw [show (headSpec ws rm).room.cells = mc from hrc]; exact hp.1
  have h5 : A.slots + (headSpec ws rm).room.slots ≤ R.slots := by rw [show (headSpec ws rm).room.slots = ms from hrs]; exact hp.2.1
  have hPc : Pc a (A.U.calling g mk a) := hblind _ _ _ _ hp.2.2
  obtain ⟨U, Ls, c0, s0⟩ := A
  dsimp only [Pt.U, Pt.locs, Pt.cells, Pt.slots] at h1 h2 h3 h4 h5 X hn hPc ⊢
  obtain ⟨m9, methY, cY, hn9, hmY, hcY, -, hlY, -⟩ := Cond.codeWith_spec h2
  cases Option.some.inj (hn9.symm.trans hn)
  obtain ⟨kY, hkY, -⟩ := className_of_methodNamed hn
  have hinitY : kY.init = .initialized := Cond.initialized_spec (findClass_of_methodNamed hn) hkY h3
  have h : At U g.method c below := by rw [hg]; exact X.here
  have hlocals9 : W9 + (maxL + 11) + (headSpec ws rm).room.locals ≤ R.locals := hlocals
  have happ : (headSpec ws rm).appliesLoose y e.platform (U.calling g mk a) = true :=
    Spec.appliesLoose_calling (g := g) h hdg hn hkY hinitY
      (X.room_calling (g := g) (R' := (headSpec ws rm).room) hsize hmY hcY hframes (by rw [hlY]; omega) h4 h5) h1
  obtain ⟨mid, hmid⟩ := h.above
  have hfr : (U.setTop g).frames = (.java g :: mid) ++ below := by rw [State.frames_setTop' g h.top, hmid]; rfl
  obtain ⟨o, s₂, hsteps, -, hend, hq⟩ := Steps.callFree hM p X.admits X.cas X.clock (acts := []) hfr happ hPc trivial
  have hq' : vx_Q Qc XC mc ms free a (U.calling g mk a) o s₂ := hq
  rw [State.frames_setTop' g h.top] at hend
  obtain ⟨g₀, hg0⟩ := Option.isSome_iff_exists.mp h.top
  obtain ⟨r, hr⟩ := State.topJava?_eq_some.mp hg0
  have hr' : (({ U with heap := s₂.heap, slotsUsed := s₂.slotsUsed } : State).setVm s₂.vm).frames = .java g₀ :: r := hr
  rcases hq' with ⟨hqc, L, hfe, hL⟩ | ⟨q, rfl, E, ce, L, hx, hce, hcv, hcl, hW₂, hsm, hL⟩
  · obtain ⟨⟨v, rfl⟩, hW₂, e2, q2, q3, q4, q5, q6⟩ := id hfe
    have e3 : s₂ = ({ (U.calling g mk a).setFrames s₂.frames with heap := s₂.heap, slotsUsed := s₂.slotsUsed } : State).setVm s₂.vm := by
      have : s₂ = ({ s₂ with vm := (U.calling g mk a).vm } : State).setVm s₂.vm := rfl
      rw [e2] at this
      exact this
    obtain ⟨c₂, i₂, len₂, hc₂, hd₂, hf₂⟩ := hend
    have hW' : U.WarmedH s₂.vm := hW₂
    have hcc : c₂ = c := by
      have h1 : s₂.code? g.method = U.code? g.method := by
        rw [State.code?_eq, State.code?_eq, hW'.alike.method?]
      exact Option.some.inj (hc₂.symm.trans (h1.trans h.code))
    subst hcc
    have hlen : len₂ = len := by rw [hdg] at hd₂; cases hd₂; rfl
    subst hlen
    have hs₂ : s₂ = (({ U with heap := s₂.heap, slotsUsed := s₂.slotsUsed } : State).setVm s₂.vm).setTop { g with pc := g.pc + len₂, stack := v.toList ++ g.stack } := by
      refine e3.trans ?_
      rw [hf₂, State.calling_eq h.top, State.setFrames_setFrames, State.setTop_of_frames _ hr', hr]
      rfl
    have hsame : U.sameButNew ({ U with heap := s₂.heap, slotsUsed := s₂.slotsUsed } : State) L mc ms := by
      refine ⟨?_, q2, q3, q4, q5, q6⟩
      obtain ⟨t, ht, -⟩ := State.frames_cons hr
      show ({ U with heap := s₂.heap, slotsUsed := s₂.slotsUsed } : State) = { U.setFrames U.frames with heap := s₂.heap, slotsUsed := s₂.slotsUsed }
      rw [State.setFrames_self ht]
    subst hg
    refine Or.inl ⟨v, ⟨(({ U with heap := s₂.heap, slotsUsed := s₂.slotsUsed } : State).setVm s₂.vm), Ls ++ L, c0 + mc, s0 + ms⟩,
      ⟨X.admits, X.cas, X.clock, X.frames, X.room, X.hears, X.method, X.code, (X.here.setHeapUsed s₂.heap s₂.slotsUsed).setVm hW'.alike, X.tail, State.WarmedH.trans X.warmed hW', X.limits, X.bytes, X.same.trans (hsame.setVm s.vm)⟩,
      ⟨g, mk, s₂, L, rfl, rfl, hqc, rfl, hL, rfl, rfl⟩, ?_⟩
    show Steps p.tables e below _ ((({ U with heap := s₂.heap, slotsUsed := s₂.slotsUsed } : State).setVm s₂.vm).setTop { g with pc := g.pc + len₂, stack := v.toList ++ g.stack })
    rw [← hs₂]
    exact hsteps
  · obtain ⟨e2, q2, q3, q4, q5, q6⟩ := id hsm
    have e3 : s₂ = ({ (U.calling g mk a).setFrames s₂.frames with heap := s₂.heap, slotsUsed := s₂.slotsUsed } : State).setVm s₂.vm := by
      have : s₂ = ({ s₂ with vm := (U.calling g mk a).vm } : State).setVm s₂.vm := rfl
      rw [e2] at this
      exact this
    have hf₂ : s₂.frames = .throwing q :: .java g :: U.frames.tail := hend
    have hW' : U.WarmedH s₂.vm := hW₂
    have hs₂ : s₂ = ((({ U with heap := s₂.heap, slotsUsed := s₂.slotsUsed } : State).setVm s₂.vm).setTop g).pushFrame (.throwing q) := by
      refine e3.trans ?_
      rw [hf₂, State.calling_eq h.top, State.setFrames_setFrames, State.pushFrame, State.frames_setTop _ hr', State.setTop_of_frames _ hr', State.setFrames_setFrames, hr]
      rfl
    have hsame : U.sameButNew ({ U with heap := s₂.heap, slotsUsed := s₂.slotsUsed } : State) L mc ms := by
      refine ⟨?_, q2, q3, q4, q5, q6⟩
      obtain ⟨t, ht, -⟩ := State.frames_cons hr
      show ({ U with heap := s₂.heap, slotsUsed := s₂.slotsUsed } : State) = { U.setFrames U.frames with heap := s₂.heap, slotsUsed := s₂.slotsUsed }
      rw [State.setFrames_self ht]
    subst hg
    refine Or.inr ⟨q, ⟨(({ U with heap := s₂.heap, slotsUsed := s₂.slotsUsed } : State).setVm s₂.vm), Ls ++ L, c0 + mc, s0 + ms⟩,
      ⟨X.admits, X.cas, X.clock, X.frames, X.room, X.hears, X.method, X.code, (X.here.setHeapUsed s₂.heap s₂.slotsUsed).setVm hW'.alike, X.tail, State.WarmedH.trans X.warmed hW', X.limits, X.bytes, X.same.trans (hsame.setVm s.vm)⟩,
      ⟨g, mk, s₂, L, E, ce, rfl, rfl, hx, hce, hcv, hcl, rfl, hL, rfl, rfl⟩, ?_⟩
    show Steps p.tables e below _ (((({ U with heap := s₂.heap, slotsUsed := s₂.slotsUsed } : State).setVm s₂.vm).setTop g).pushFrame (.throwing q))
    rw [← hs₂]
    exact hsteps
end
variable {p : Program} {l : Launch} {e : Env} {R : Room} {s : State} {m : MethodId} {args : Array Value} {below : List Frame} {meth : Method} {c : Code} {T : State} {H : Heap} {locs : List Loc} {cells slots : Nat}
theorem vx_callVX (X : Stand p l e R s m args below meth c T locs cells slots) (hexec : p.tables.exec = Jvm.exec) {own C : String} {index : Nat} {y : MethodName} {bytes : ByteArray} {maxL : Nat} {ret : Option FieldType} {hh : List (Nat × Nat × Nat × Nat)}
    (hown : s.vm.findClass own = some m.cls) (hlink : (Cond.methodLink own index y).before args s = true) (hinst : (Cond.instanceMethod y).before args s = true) (hsel : (Cond.selects C y y).before args s = true)
    (hcode : (Cond.codeWith y bytes maxL ret hh).before args s = true) (hy : y.cls ≠ "java/lang/invoke/MethodHandle" ∧ y.cls ≠ "java/lang/invoke/VarHandle")
    {W9 : Nat} {Pre : Pt → Array Value → Prop} {Post : Pt → Array Value → Option Value → Pt → Prop} {PostX : Pt → Array Value → Addr → Pt → Prop} (hK : vx_Back l R p e below s args y 3 W9 Pre Post PostX)
    {b : Addr} {cellB : Cell} (hcell : T.heap[b]? = some cellB) (hobj : cellB.vm.isStatics = false) (hcls : s.vm.findClass C = some cellB.cls)
    {g : JFrame} (hg : g.method = m) (hsize : g.locals.size = c.maxLocals) {argsL rest : List Value} (hlen : ∀ sig, parseMethodDescriptor y.desc = some sig → argsL.length = sig.parameters.length)
    (hstack : g.stack = argsL.reverse ++ .ref b :: rest) (hW : 2 * g.monitorRoom + (rest.map fun v => v.category).sum ≤ W9) (hdg : decode c.code g.pc = .ok (.invokevirtual index, 3))
    (hpre : ∀ vm₁, s.WarmedH vm₁ → Pre ⟨T.setVm vm₁, locs, cells, slots⟩ (Value.ref b :: argsL).toArray) :
    (∃ (v : Option Value) (vm₁ : Vm) (B : Pt), s.WarmedH vm₁ ∧ Stand p l e R s m args below meth c B.U B.locs B.cells B.slots ∧ Post ⟨T.setVm vm₁, locs, cells, slots⟩ (Value.ref b :: argsL).toArray v B ∧
      ∀ target, Steps p.tables e below (B.U.setTop { g with pc := g.pc + 3, stack := v.toList ++ rest }) target → Steps p.tables e below (T.setTop g) target) ∨
    (∃ (q : Addr) (vm₁ : Vm) (B : Pt), s.WarmedH vm₁ ∧ Stand p l e R s m args below meth c B.U B.locs B.cells B.slots ∧ PostX ⟨T.setVm vm₁, locs, cells, slots⟩ (Value.ref b :: argsL).toArray q B ∧
      Steps p.tables e below (T.setTop g) ((B.U.setTop { g with stack := rest }).pushFrame (.throwing q))) := by
  obtain ⟨mk, methM, hnamed, hmethM, hstM, habM⟩ := Cond.instanceMethod_spec hinst
  obtain ⟨m8, methM', cM, hn8, hmethM', -, -, -, -, -, -, hsigM⟩ := Cond.codeWith_spec hcode
  cases Option.some.inj (hn8.symm.trans hnamed)
  cases hmethM.symm.trans hmethM'
  obtain ⟨c2, r2, m2, q1, q2, q3, q4, kP, hkP, hkPi⟩ := Cond.selects_spec hsel
  cases hcls.symm.trans q1
  cases (State.methodFound?_of_named hnamed hy).symm.trans q2
  cases hnamed.symm.trans q3
  have hselP : selectMethod e.platform s.vm cellB.cls mk = .method mk := by rw [Launch.admits_selectMethod X.admits]; exact q4
  obtain ⟨vm₁, X₁, hstep₁⟩ := X.invokevirtual hexec hown hlink hnamed hmethM hstM hkP hkPi hy (a := b) (cell := cellB) hcell
    (fun z h => by rw [h] at hobj; cases hobj) hselP hmethM habM hkP hkPi (g := g) hg (argsL := argsL) (rest := rest) (hlen _ hsigM) hstack hdg
  rcases hK m meth c ⟨T.setVm vm₁, locs, cells, slots⟩ { g with stack := rest } (.invokevirtual index) mk (Value.ref b :: argsL).toArray X₁ hg hsize hdg hW (X₁.named hnamed) (hpre vm₁ X₁.warmed) with ⟨v, B, X', hpost, hsteps⟩ | ⟨q, B, X', hpost, hsteps⟩
  · exact Or.inl ⟨v, vm₁, B, X₁.warmed, X', hpost, fun target h => hstep₁ _ fun acts => by rw [doInvoke_state]; exact hsteps.trans h⟩
  · exact Or.inr ⟨q, vm₁, B, X₁.warmed, X', hpost, hstep₁ _ fun acts => by rw [doInvoke_state]; exact hsteps⟩
theorem vx_callSX (X : Stand p l e R s m args below meth c T locs cells slots) (hexec : p.tables.exec = Jvm.exec) {own : String} {index : Nat} {y : MethodName} {bytes : ByteArray} {maxL : Nat} {ret : Option FieldType} {hh : List (Nat × Nat × Nat × Nat)}
    (hown : s.vm.findClass own = some m.cls) (hlink : (Cond.methodLink own index y).before args s = true) (hstat : (Cond.static y).before args s = true) (hinit : (Cond.initialized y.cls).before args s = true)
    (hcode : (Cond.codeWith y bytes maxL ret hh).before args s = true) (hy : y.cls ≠ "java/lang/invoke/MethodHandle" ∧ y.cls ≠ "java/lang/invoke/VarHandle")
    {W9 : Nat} {Pre : Pt → Array Value → Prop} {Post : Pt → Array Value → Option Value → Pt → Prop} {PostX : Pt → Array Value → Addr → Pt → Prop} (hK : vx_Back l R p e below s args y 3 W9 Pre Post PostX)
    {g : JFrame} (hg : g.method = m) (hsize : g.locals.size = c.maxLocals) {argsL rest : List Value} (hlen : ∀ sig, parseMethodDescriptor y.desc = some sig → argsL.length = sig.parameters.length)
    (hstack : g.stack = argsL.reverse ++ rest) (hW : 2 * g.monitorRoom + (rest.map fun v => v.category).sum ≤ W9) (hdg : decode c.code g.pc = .ok (.invokestatic index, 3))
    (hpre : ∀ vm₁, s.WarmedH vm₁ → Pre ⟨T.setVm vm₁, locs, cells, slots⟩ argsL.toArray) :
    (∃ (v : Option Value) (vm₁ : Vm) (B : Pt), s.WarmedH vm₁ ∧ Stand p l e R s m args below meth c B.U B.locs B.cells B.slots ∧ Post ⟨T.setVm vm₁, locs, cells, slots⟩ argsL.toArray v B ∧
      ∀ target, Steps p.tables e below (B.U.setTop { g with pc := g.pc + 3, stack := v.toList ++ rest }) target → Steps p.tables e below (T.setTop g) target) ∨
    (∃ (q : Addr) (vm₁ : Vm) (B : Pt), s.WarmedH vm₁ ∧ Stand p l e R s m args below meth c B.U B.locs B.cells B.slots ∧ PostX ⟨T.setVm vm₁, locs, cells, slots⟩ argsL.toArray q B ∧
      Steps p.tables e below (T.setTop g) ((B.U.setTop { g with stack := rest }).pushFrame (.throwing q))) := by
  obtain ⟨mk, methM, cM, hnamed, hmethM, -, -, -, -, -, -, hsigM⟩ := Cond.codeWith_spec hcode
  have hstatic : methM.isStatic = true := Cond.static_spec hnamed hmethM hstat
  obtain ⟨kP, hkP, -⟩ := className_of_methodNamed hnamed
  have hinitP : kP.init = .initialized := Cond.initialized_spec (findClass_of_methodNamed hnamed) hkP hinit
  obtain ⟨vm₁, X₁, hstep₁⟩ := X.invokestatic hexec hown hlink hnamed hmethM hstatic hkP hinitP hy (g := g) hg (argsL := argsL) (rest := rest) (hlen _ hsigM) hstack hdg
  rcases hK m meth c ⟨T.setVm vm₁, locs, cells, slots⟩ { g with stack := rest } (.invokestatic index) mk argsL.toArray X₁ hg hsize hdg hW (X₁.named hnamed) (hpre vm₁ X₁.warmed) with ⟨v, B, X', hpost, hsteps⟩ | ⟨q, B, X', hpost, hsteps⟩
  · exact Or.inl ⟨v, vm₁, B, X₁.warmed, X', hpost, fun target h => hstep₁ _ fun acts => by rw [doInvoke_state]; exact hsteps.trans h⟩
  · exact Or.inr ⟨q, vm₁, B, X₁.warmed, X', hpost, hstep₁ _ fun acts => by rw [doInvoke_state]; exact hsteps⟩
theorem vx_callVW (X : Stand p l e R s m args below meth c T locs cells slots) (hexec : p.tables.exec = Jvm.exec) {own C : String} {index : Nat} {y : MethodName} {bytes : ByteArray} {maxL : Nat} {ret : Option FieldType} {hh : List (Nat × Nat × Nat × Nat)}
    (hown : s.vm.findClass own = some m.cls) (hlink : (Cond.methodLink own index y).before args s = true) (hinst : (Cond.instanceMethod y).before args s = true) (hsel : (Cond.selects C y y).before args s = true)
    (hcode : (Cond.codeWith y bytes maxL ret hh).before args s = true) (hy : y.cls ≠ "java/lang/invoke/MethodHandle" ∧ y.cls ≠ "java/lang/invoke/VarHandle")
    {W9 : Nat} {Pre : Pt → Array Value → Prop} {Post : Pt → Array Value → Option Value → Pt → Prop} (hK : Back l R p e below s args y 3 W9 Pre Post)
    {b : Addr} {cellB : Cell} (hcell : T.heap[b]? = some cellB) (hobj : cellB.vm.isStatics = false) (hcls : s.vm.findClass C = some cellB.cls)
    {g : JFrame} (hg : g.method = m) (hsize : g.locals.size = c.maxLocals) {argsL rest : List Value} (hlen : ∀ sig, parseMethodDescriptor y.desc = some sig → argsL.length = sig.parameters.length)
    (hstack : g.stack = argsL.reverse ++ .ref b :: rest) (hW : 2 * g.monitorRoom + (rest.map fun v => v.category).sum ≤ W9) (hdg : decode c.code g.pc = .ok (.invokevirtual index, 3))
    (hpre : ∀ vm₁, s.WarmedH vm₁ → Pre ⟨T.setVm vm₁, locs, cells, slots⟩ (Value.ref b :: argsL).toArray) :
    ∃ (v : Option Value) (vm₁ : Vm) (B : Pt), s.WarmedH vm₁ ∧ Stand p l e R s m args below meth c B.U B.locs B.cells B.slots ∧ Post ⟨T.setVm vm₁, locs, cells, slots⟩ (Value.ref b :: argsL).toArray v B ∧
      ∀ target, Steps p.tables e below (B.U.setTop { g with pc := g.pc + 3, stack := v.toList ++ rest }) target → Steps p.tables e below (T.setTop g) target := by
  obtain ⟨mk, methM, hnamed, hmethM, hstM, habM⟩ := Cond.instanceMethod_spec hinst
  obtain ⟨m8, methM', cM, hn8, hmethM', -, -, -, -, -, -, hsigM⟩ := Cond.codeWith_spec hcode
  cases Option.some.inj (hn8.symm.trans hnamed)
  cases hmethM.symm.trans hmethM'
  obtain ⟨c2, r2, m2, q1, q2, q3, q4, kP, hkP, hkPi⟩ := Cond.selects_spec hsel
  cases hcls.symm.trans q1
  cases (State.methodFound?_of_named hnamed hy).symm.trans q2
  cases hnamed.symm.trans q3
  have hselP : selectMethod e.platform s.vm cellB.cls mk = .method mk := by rw [Launch.admits_selectMethod X.admits]; exact q4
  obtain ⟨vm₁, X₁, hstep₁⟩ := X.invokevirtual hexec hown hlink hnamed hmethM hstM hkP hkPi hy (a := b) (cell := cellB) hcell
    (fun z h => by rw [h] at hobj; cases hobj) hselP hmethM habM hkP hkPi (g := g) hg (argsL := argsL) (rest := rest) (hlen _ hsigM) hstack hdg
  obtain ⟨v, B, X', hpost, hsteps⟩ := hK m meth c ⟨T.setVm vm₁, locs, cells, slots⟩ { g with stack := rest } (.invokevirtual index) mk (Value.ref b :: argsL).toArray X₁ hg hsize hdg hW (X₁.named hnamed) (hpre vm₁ X₁.warmed)
  exact ⟨v, vm₁, B, X₁.warmed, X', hpost, fun target h => hstep₁ _ fun acts => by rw [doInvoke_state]; exact hsteps.trans h⟩
abbrev vx_CVW (R : Room) (s : State) (args : Array Value) (own C : String) (index : Nat) (y : MethodName) (bytes : ByteArray) (maxL : Nat) (ret : Option FieldType) (hh : List (Nat × Nat × Nat × Nat)) (ws : List Cond) (rm : Room) (mc ms n : Nat) : Prop :=
  (rm.cells = mc ∧ rm.slots = ms ∧ rm.frames + 1 ≤ R.frames ∧ 8 + (maxL + 11) + rm.locals ≤ R.locals ∧ (∀ w ∈ ws, ∀ (a' : Array Value) (U : State), s.WarmedH U.vm → w.before a' U = true) ∧ Cond.codeWith y bytes maxL ret hh ∈ ws) ∧
  (Cond.codeWith y bytes maxL ret hh).before args s = true ∧ (Cond.initialized y.cls).before args s = true ∧ (y.cls ≠ "java/lang/invoke/MethodHandle" ∧ y.cls ≠ "java/lang/invoke/VarHandle") ∧
  (∀ sig, parseMethodDescriptor y.desc = some sig → n = sig.parameters.length) ∧ (Cond.methodLink own index y).before args s = true ∧ (Cond.instanceMethod y).before args s = true ∧ (Cond.selects C y y).before args s = true
theorem vx_cwVW {own C : String} {index maxL mc ms : Nat} {y : MethodName} {bytes : ByteArray} {ret : Option FieldType} {hh : List (Nat × Nat × Nat × Nat)} {Ts ws ws' : List Cond} {rm : Room} (n : Nat) (ht : ∀ w ∈ Ts, w.before args s = true) (hT : GoodIn Ts (wsV own index C y ws)) (hw : ws = Cond.codeWith y bytes maxL ret hh :: ws') (hrc : rm.cells = mc) (hrs : rm.slots = ms)
    (hd : y.cls = C ∧ y.cls ≠ "java/lang/invoke/MethodHandle" ∧ y.cls ≠ "java/lang/invoke/VarHandle" ∧ (parseMethodDescriptor y.desc).map (fun d => d.parameters.length) = some n) (hR : rm.frames + 1 ≤ R.frames ∧ 8 + (maxL + 11) + rm.locals ≤ R.locals) :
    vx_CVW R s args own C index y bytes maxL ret hh ws rm mc ms n := by
  obtain ⟨hC, hd⟩ := hd
  subst hC
  have ok : ∀ w ∈ wsV own index y.cls y ws, w.before args s = true := fun w h => ht w (hT w h).1
  have hG : GoodIn Ts ws := fun w h => hT w (by unfold wsV; exact List.mem_append_right _ h)
  have hc : Cond.codeWith y bytes maxL ret hh ∈ ws := by rw [hw]; exact List.mem_cons_self
  refine ⟨⟨hrc, hrs, hR.1, hR.2, pay_in ht hG, hc⟩, ht _ (hG _ hc).1, ok _ (by simp [wsV]), ⟨hd.1, hd.2.1⟩, fun sig h => ?_, ok _ (by simp [wsV]), ok _ (by simp [wsV]), ok _ (by simp [wsV])⟩
  have h2 := hd.2.2
  rw [h] at h2
  exact (Option.some.inj h2).symm
theorem vx_runVW {y : MethodName} {bytes cc : ByteArray} {maxL nL mc ms n index : Nat} {ret : Option FieldType} {hh : List (Nat × Nat × Nat × Nat)} {ws : List Cond} {rm : Room} {Pc : Array Value → State → Prop} {Qc : Array Value → State → Outcome → State → Prop} {free : Addr → Prop} {Ts : List Cond} {own C : String} {b : Addr} {As rest : List Value} {g : JFrame}
    (S : CallFix p m c cc nL s args Ts own) (hM : Met l y ws rm Pc Qc mc ms free) (cw : vx_CVW R s args own C index y bytes maxL ret hh ws rm mc ms n) (hp : PreV s H C b Pc As)
    (hg : g.method = m) (hn : As.length = n) (hsize : g.locals.size = nL) (hstack : g.stack = As.reverse ++ .ref b :: rest) (hW : 2 * g.monitorRoom + (rest.map fun v => v.category).sum ≤ 8) (hdg : decode cc g.pc = .ok (.invokevirtual index, 3)) (hf : cells + mc ≤ R.cells ∧ slots + ms ≤ R.slots) :
    va_Run p l e R s m args below meth c H locs cells slots mc ms g rest (Qc (Value.ref b :: As).toArray) free := by
  obtain ⟨⟨hrc, hrs, hfr, hlo, hws, hcw⟩, hcode, hini, hy, hlen, hl, hin, hse⟩ := cw
  have hK : Back l R p e below s args y 3 8 (PreOf R mc ms Pc) (PostOf Qc mc ms free) := va_backW (hh := hh) (bytes := bytes) (maxL := maxL) (ret := ret) hM hp.1 hrc hrs hfr hlo hws hcw (fun a' U hW => word_at hW (Or.inl (by first | rfl | simp [Cond.onTables, Cond.keeps, Cond.steady])) hini)
  obtain ⟨hx, hb, hml, ho, -⟩ := S
  obtain ⟨-, ⟨cellB, hcB, hoB, hclB⟩, hPc⟩ := hp
  intro T hT X
  obtain ⟨v, vm₁, ⟨U', l2, c2, s2⟩, hW₁, X', ⟨g', mk, t, L, e1, e2, hq, h1, hL, h2, h3⟩, st⟩ := vx_callVW X hx (C := C) (hh := hh) (bytes := bytes) (maxL := maxL) (ret := ret) ho hl hin hse hcode hy hK (by rw [hT]; exact hcB) hoB hclB hg (hsize.trans hml.symm) (argsL := As) (rest := rest) (fun sig h => hn.trans (hlen sig h)) hstack hW (by rw [hb]; exact hdg)
    (fun vm₁ hW₁ => ⟨hf.1, hf.2, hPc (T.setVm vm₁) hT hW₁⟩)
  dsimp only [Pt.U, Pt.locs, Pt.cells, Pt.slots] at X' e1 e2 h1 h2 h3 st
  subst h1; subst h2; subst h3
  exact ⟨v, (T.setVm vm₁).calling g' mk (Value.ref b :: As).toArray, t, U', L, hT, X', hL, e1, e2, hq, st⟩
section
variable {y : MethodName} {bytes cc : ByteArray} {maxL nL mc ms n index : Nat} {ret : Option FieldType} {ws : List Cond} {rm : Room} {Pc : Array Value → State → Prop} {Qc : Array Value → State → Outcome → State → Prop} {XC : String → State → State → Prop} {free : Addr → Prop} {Ts : List Cond} {own C : String} {b : Addr} {As rest : List Value} {g : JFrame}
theorem vx_runVX {hh : List (Nat × Nat × Nat × Nat)} (S : CallFix p m c cc nL s args Ts own) (hM : vx_Met l y ws rm Pc Qc XC mc ms free) (cw : vx_CVW R s args own C index y bytes maxL ret hh ws rm mc ms n) (hp : PreV s H C b Pc As)
    (hg : g.method = m) (hn : As.length = n) (hsize : g.locals.size = nL) (hstack : g.stack = As.reverse ++ .ref b :: rest) (hW : 2 * g.monitorRoom + (rest.map fun v => v.category).sum ≤ 8) (hdg : decode cc g.pc = .ok (.invokevirtual index, 3)) (hf : cells + mc ≤ R.cells ∧ slots + ms ≤ R.slots) :
    vx_Run p l e R s m args below meth c H locs cells slots mc ms g rest (Qc (Value.ref b :: As).toArray) XC free := by
  obtain ⟨⟨hrc, hrs, hfr, hlo, hws, hcw⟩, hcode, hini, hy, hlen, hl, hin, hse⟩ := cw
  have hK : vx_Back l R p e below s args y 3 8 (PreOf R mc ms Pc) (PostOf Qc mc ms free) (vx_Post XC mc ms free) := vx_backW (hh := hh) (bytes := bytes) (maxL := maxL) (ret := ret) hM hp.1 hrc hrs hfr hlo hws hcw (fun a' U hW => word_at hW (Or.inl (by first | rfl | simp [Cond.onTables, Cond.keeps, Cond.steady])) hini)
  obtain ⟨hx, hb, hml, ho, -⟩ := S
  obtain ⟨-, ⟨cellB, hcB, hoB, hclB⟩, hPc⟩ := hp
  intro T hT X
  rcases vx_callVX X hx (C := C) (hh := hh) (bytes := bytes) (maxL := maxL) (ret := ret) ho hl hin hse hcode hy hK (by rw [hT]; exact hcB) hoB hclB hg (hsize.trans hml.symm) (argsL := As) (rest := rest) (fun sig h => hn.trans (hlen sig h)) hstack hW (by rw [hb]; exact hdg)
    (fun vm₁ hW₁ => ⟨hf.1, hf.2, hPc (T.setVm vm₁) hT hW₁⟩) with ⟨v, vm₁, ⟨U', l2, c2, s2⟩, hW₁, X', ⟨g', mk, t, L, e1, e2, hq, h1, hL, h2, h3⟩, st⟩ | ⟨q, vm₁, ⟨U', l2, c2, s2⟩, hW₁, X', ⟨g', mk, t, L, E, ce, e1, e2, hq, hce, hcv, hcl, h1, hL, h2, h3⟩, st⟩
  · dsimp only [Pt.U, Pt.locs, Pt.cells, Pt.slots] at X' e1 e2 h1 h2 h3 st
    subst h1; subst h2; subst h3
    exact Or.inl ⟨v, (T.setVm vm₁).calling g' mk (Value.ref b :: As).toArray, t, U', L, hT, X', hL, e1, e2, hq, st⟩
  · dsimp only [Pt.U, Pt.locs, Pt.cells, Pt.slots] at X' e1 e2 h1 h2 h3 st hcl
    subst h1; subst h2; subst h3
    exact Or.inr ⟨q, (T.setVm vm₁).calling g' mk (Value.ref b :: As).toArray, t, U', L, E, ce, hT, X', hL, e1, e2, hq, hce, hcv, vx_cls hW₁ hcl, st⟩
theorem vx_runSX {hh : List (Nat × Nat × Nat × Nat)} (S : CallFix p m c cc nL s args Ts own) (hM : vx_Met l y ws rm Pc Qc XC mc ms free) (cw : vx_CSW R s args own index y bytes maxL ret hh ws rm mc ms n) (hp : PreS s H Pc As)
    (hg : g.method = m) (hn : As.length = n) (hsize : g.locals.size = nL) (hstack : g.stack = As.reverse ++ rest) (hW : 2 * g.monitorRoom + (rest.map fun v => v.category).sum ≤ 8) (hdg : decode cc g.pc = .ok (.invokestatic index, 3)) (hf : cells + mc ≤ R.cells ∧ slots + ms ≤ R.slots) :
    vx_Run p l e R s m args below meth c H locs cells slots mc ms g rest (Qc As.toArray) XC free := by
  obtain ⟨⟨hrc, hrs, hfr, hlo, hws, hcw⟩, hcode, hini, hy, hlen, hl, hstt⟩ := cw
  have hK : vx_Back l R p e below s args y 3 8 (PreOf R mc ms Pc) (PostOf Qc mc ms free) (vx_Post XC mc ms free) := vx_backW (hh := hh) (bytes := bytes) (maxL := maxL) (ret := ret) hM hp.1 hrc hrs hfr hlo hws hcw (fun a' U hW => word_at hW (Or.inl (by first | rfl | simp [Cond.onTables, Cond.keeps, Cond.steady])) hini)
  obtain ⟨hx, hb, hml, ho, -⟩ := S
  intro T hT X
  rcases vx_callSX X hx (hh := hh) (bytes := bytes) (maxL := maxL) (ret := ret) ho hl hstt hini hcode hy hK hg (hsize.trans hml.symm) (argsL := As) (rest := rest) (fun sig h => hn.trans (hlen sig h)) hstack hW (by rw [hb]; exact hdg)
    (fun vm₁ hW₁ => ⟨hf.1, hf.2, hp.2 (T.setVm vm₁) hT hW₁⟩) with ⟨v, vm₁, ⟨U', l2, c2, s2⟩, hW₁, X', ⟨g', mk, t, L, e1, e2, hq, h1, hL, h2, h3⟩, st⟩ | ⟨q, vm₁, ⟨U', l2, c2, s2⟩, hW₁, X', ⟨g', mk, t, L, E, ce, e1, e2, hq, hce, hcv, hcl, h1, hL, h2, h3⟩, st⟩
  · dsimp only [Pt.U, Pt.locs, Pt.cells, Pt.slots] at X' e1 e2 h1 h2 h3 st
    subst h1; subst h2; subst h3
    exact Or.inl ⟨v, (T.setVm vm₁).calling g' mk As.toArray, t, U', L, hT, X', hL, e1, e2, hq, st⟩
  · dsimp only [Pt.U, Pt.locs, Pt.cells, Pt.slots] at X' e1 e2 h1 h2 h3 st hcl
    subst h1; subst h2; subst h3
    exact Or.inr ⟨q, (T.setVm vm₁).calling g' mk As.toArray, t, U', L, E, ce, hT, X', hL, e1, e2, hq, hce, hcv, vx_cls hW₁ hcl, st⟩
end
end VXH
theorem vx_ofWH {l : Launch} {y : MethodName} {ws ws' : List Cond} {rm : Room} {Pc : Array Value → State → Prop} {Qc : Array Value → State → Outcome → State → Prop} {XC : String → State → State → Prop} {mc ms : Nat} {free : Addr → Prop} {cc : ByteArray} {maxL : Nat} {ret : Option FieldType} {hh : List (Nat × Nat × Nat × Nat)}
    (hy : plainName y.cls = true) (hw : ws = Cond.codeWith y cc maxL ret hh :: ws')
    (body : ∀ p e s m args below meth c s₁, BodyLoose p l y (headSpec ws rm) cc maxL ret e s m args below meth c s₁ → c.maxLocals = maxL → Pc args s →
      W p l e (headSpec ws rm).room s m args below meth c s.heap [] 0 0 (vx_MQ below Qc XC args s mc ms free) (entryFrame m args maxL)) : vx_Met l y ws rm Pc Qc XC mc ms free := by
  refine MetFree.of_bodyS (code := cc) (maxLocals := maxL) (ret := ret) hy ?_ ?_
  · intro args s m h hn
    obtain ⟨m9, meth, c, hn9, h1, h2, h3, h4, -, h5, h6, -⟩ := Cond.codeWith_spec (atoms_spec (ws := ws) h _ (by rw [hw]; exact List.mem_cons_self))
    cases hn.symm.trans hn9
    exact ⟨meth, c, h1, h2, h3, h4, h5, h6⟩
  · intro p e s m args below meth c s₁ B hml hP _
    have hh0 : s₁.heap = s.heap := by rw [B.state]; rfl
    obtain ⟨t, a1, o, b1, b2, b3⟩ := body p e s m args below meth c s₁ B hml hP s₁ hh0 (Stand.of_body B)
    exact ⟨t, o, a1, b1, b2, b3⟩
/-! ===== END ===== -/
end
section
def RX0 : String := "PachinkoReels$Board"
def TX0 : u_T := fun k => match k with
  | 0 => ("PachinkoReels$Board", "numbers", "[I", true)
  | 1 => ("PachinkoReels$Board", "pins", "[I", true)
  | 2 => ("PachinkoReels$Board", "bentPins", "[I", true)
  | 3 => ("PachinkoReels$Board", "touchedPins", "[I", true)
  | 4 => ("PachinkoReels$Board", "kinds", "[I", true)
  | 5 => ("PachinkoReels$Board", "pays", "[I", true)
  | 6 => ("PachinkoReels$Board", "openTulips", "[I", true)
  | 7 => ("PachinkoReels$Board", "came", "[I", true)
  | 8 => ("PachinkoReels$Board", "paidBy", "[I", true)
  | _ => ("PachinkoReels$Board", "signs", "[I", true)
def tyX0 : Nat → FieldType := fun k => match k with
  | 0 => .array .int
  | 1 => .array .int
  | 2 => .array .int
  | 3 => .array .int
  | 4 => .array .int
  | 5 => .array .int
  | 6 => .array .int
  | 7 => .array .int
  | 8 => .array .int
  | _ => .array .int
abbrev wsX00 : List Cond := u_ws RX0 TX0 10
theorem nmX0 : ∀ a, a < 10 → ∀ b, b < 10 → a ≠ b → (TX0 a).2.1 ≠ (TX0 b).2.1 := by decide +kernel
theorem tyX0_ok : ∀ k, k < 10 → parseFieldDescriptor (TX0 k).2.2.1 = some (tyX0 k) := by decide +kernel
abbrev cX0_init : ByteArray := prog_2_method_1_code
def yX0_init : MethodName := ⟨RX0, "<init>", "()V"⟩
abbrev cX0_copyFrom : ByteArray := prog_2_method_2_code
def yX0_copyFrom : MethodName := ⟨RX0, "copyFrom", "(LPachinkoReels$Board;)V"⟩
abbrev cX0_change : ByteArray := prog_2_method_3_code
def yX0_change : MethodName := ⟨RX0, "change", "(II)I"⟩
abbrev cX0_bendPin : ByteArray := prog_2_method_4_code
def yX0_bendPin : MethodName := ⟨RX0, "bendPin", "(II)I"⟩
abbrev cX0_addBentPin : ByteArray := prog_2_method_5_code
def yX0_addBentPin : MethodName := ⟨RX0, "addBentPin", "(I)V"⟩
abbrev cX0_removeBentPin : ByteArray := prog_2_method_6_code
def yX0_removeBentPin : MethodName := ⟨RX0, "removeBentPin", "(I)V"⟩
abbrev cX0_bentPin : ByteArray := prog_2_method_7_code
def yX0_bentPin : MethodName := ⟨RX0, "bentPin", "(I)I"⟩
abbrev cX0_changePocket : ByteArray := prog_2_method_8_code
def yX0_changePocket : MethodName := ⟨RX0, "changePocket", "(III)I"⟩
abbrev cX0_tellPocket : ByteArray := prog_2_method_9_code
def yX0_tellPocket : MethodName := ⟨RX0, "tellPocket", "(II)I"⟩
abbrev cX0_isHeldOpen : ByteArray := prog_2_method_10_code
def yX0_isHeldOpen : MethodName := ⟨RX0, "isHeldOpen", "()Z"⟩
abbrev cX0_isOpen : ByteArray := prog_2_method_11_code
def yX0_isOpen : MethodName := ⟨RX0, "isOpen", "(I)Z"⟩
abbrev cX0_buyBalls : ByteArray := prog_2_method_12_code
def yX0_buyBalls : MethodName := ⟨RX0, "buyBalls", "(I)V"⟩
abbrev cX0_launchBalls : ByteArray := prog_2_method_13_code
def yX0_launchBalls : MethodName := ⟨RX0, "launchBalls", "(II)I"⟩
abbrev cX0_launchBall : ByteArray := prog_2_method_14_code
def yX0_launchBall : MethodName := ⟨RX0, "launchBall", "(I)I"⟩
abbrev cX0_drawBelow : ByteArray := prog_2_method_15_code
def yX0_drawBelow : MethodName := ⟨RX0, "drawBelow", "(I)I"⟩
abbrev cX0_spinReels : ByteArray := prog_2_method_16_code
def yX0_spinReels : MethodName := ⟨RX0, "spinReels", "()V"⟩
abbrev cX0_fallFrom : ByteArray := prog_2_method_17_code
def yX0_fallFrom : MethodName := ⟨RX0, "fallFrom", "(I)I"⟩
abbrev cX0_comeTo : ByteArray := prog_2_method_18_code
def yX0_comeTo : MethodName := ⟨RX0, "comeTo", "(I)I"⟩
abbrev cX0_payFrom : ByteArray := prog_2_method_19_code
def yX0_payFrom : MethodName := ⟨RX0, "payFrom", "(I)I"⟩
def RX1 : String := "PachinkoReels$History"
def TX1 : u_T := fun k => match k with
  | 0 => ("PachinkoReels$History", "ring", "[LPachinkoReels$Board;", true)
  | 1 => ("PachinkoReels$History", "oldest", "I", false)
  | _ => ("PachinkoReels$History", "size", "I", false)
def tyX1 : Nat → FieldType := fun k => match k with
  | 0 => .array (.object "PachinkoReels$Board")
  | 1 => .int
  | _ => .int
abbrev wsX10 : List Cond := u_ws RX1 TX1 3
theorem nmX1 : ∀ a, a < 3 → ∀ b, b < 3 → a ≠ b → (TX1 a).2.1 ≠ (TX1 b).2.1 := by decide +kernel
theorem tyX1_ok : ∀ k, k < 3 → parseFieldDescriptor (TX1 k).2.2.1 = some (tyX1 k) := by decide +kernel
abbrev cX1_init : ByteArray := prog_3_method_1_code
def yX1_init : MethodName := ⟨RX1, "<init>", "()V"⟩
abbrev cX1_save : ByteArray := prog_3_method_2_code
def yX1_save : MethodName := ⟨RX1, "save", "(LPachinkoReels$Board;)V"⟩
abbrev cX1_takeLatest : ByteArray := prog_3_method_3_code
def yX1_takeLatest : MethodName := ⟨RX1, "takeLatest", "(LPachinkoReels$Board;)Z"⟩
def RX2 : String := "PachinkoReels$Paths"
def TX2 : u_T := fun k => match k with
  | 0 => ("PachinkoReels$Paths", "counted", "[I", true)
  | 1 => ("PachinkoReels$Paths", "gone", "[I", true)
  | _ => ("PachinkoReels$Paths", "next", "[I", true)
def tyX2 : Nat → FieldType := fun k => match k with
  | 0 => .array .int
  | 1 => .array .int
  | _ => .array .int
abbrev wsX20 : List Cond := u_ws RX2 TX2 3
theorem nmX2 : ∀ a, a < 3 → ∀ b, b < 3 → a ≠ b → (TX2 a).2.1 ≠ (TX2 b).2.1 := by decide +kernel
theorem tyX2_ok : ∀ k, k < 3 → parseFieldDescriptor (TX2 k).2.2.1 = some (tyX2 k) := by decide +kernel
abbrev cX2_init : ByteArray := prog_4_method_1_code
def yX2_init : MethodName := ⟨RX2, "<init>", "()V"⟩
abbrev cX2_countByRows : ByteArray := prog_4_method_2_code
def yX2_countByRows : MethodName := ⟨RX2, "countByRows", "([II)V"⟩
abbrev cX2_countRow : ByteArray := prog_4_method_3_code
def yX2_countRow : MethodName := ⟨RX2, "countRow", "([II)V"⟩
abbrev cX2_goAllWays : ByteArray := prog_4_method_4_code
def yX2_goAllWays : MethodName := ⟨RX2, "goAllWays", "([II)V"⟩
abbrev cX2_goOn : ByteArray := prog_4_method_5_code
def yX2_goOn : MethodName := ⟨RX2, "goOn", "([III[I)V"⟩
def RX3 : String := "PachinkoReels$Text"
def TX3 : u_T := fun k => match k with
  | 0 => ("PachinkoReels$Text", "codes", "[I", true)
  | _ => ("PachinkoReels$Text", "length", "I", false)
def tyX3 : Nat → FieldType := fun k => match k with
  | 0 => .array .int
  | _ => .int
abbrev wsX30 : List Cond := u_ws RX3 TX3 2
theorem nmX3 : ∀ a, a < 2 → ∀ b, b < 2 → a ≠ b → (TX3 a).2.1 ≠ (TX3 b).2.1 := by decide +kernel
theorem tyX3_ok : ∀ k, k < 2 → parseFieldDescriptor (TX3 k).2.2.1 = some (tyX3 k) := by decide +kernel
abbrev cX3_init : ByteArray := prog_5_method_1_code
def yX3_init : MethodName := ⟨RX3, "<init>", "()V"⟩
abbrev cX3_add : ByteArray := prog_5_method_2_code
def yX3_add : MethodName := ⟨RX3, "add", "(I)Z"⟩
abbrev cX3_clear : ByteArray := prog_5_method_3_code
def yX3_clear : MethodName := ⟨RX3, "clear", "()I"⟩
abbrev cX3_placeOfError : ByteArray := prog_5_method_4_code
def yX3_placeOfError : MethodName := ⟨RX3, "placeOfError", "()I"⟩
abbrev cX3_isComplete : ByteArray := prog_5_method_5_code
def yX3_isComplete : MethodName := ⟨RX3, "isComplete", "()Z"⟩
abbrev cX3_stateBehind : ByteArray := prog_5_method_6_code
def yX3_stateBehind : MethodName := ⟨RX3, "stateBehind", "(II)I"⟩
abbrev cX3_stateBehindLetter : ByteArray := prog_5_method_7_code
def yX3_stateBehindLetter : MethodName := ⟨RX3, "stateBehindLetter", "(I)I"⟩
abbrev cX3_stateBehindLaunchDigit : ByteArray := prog_5_method_8_code
def yX3_stateBehindLaunchDigit : MethodName := ⟨RX3, "stateBehindLaunchDigit", "(I)I"⟩
abbrev cX3_stateBehindEnd : ByteArray := prog_5_method_9_code
def yX3_stateBehindEnd : MethodName := ⟨RX3, "stateBehindEnd", "(I)I"⟩
abbrev cX3_codeAt : ByteArray := prog_5_method_10_code
def yX3_codeAt : MethodName := ⟨RX3, "codeAt", "(I)I"⟩
abbrev cX3_endsPart : ByteArray := prog_5_method_11_code
def yX3_endsPart : MethodName := ⟨RX3, "endsPart", "(I)Z"⟩
abbrev cX3_digitAt : ByteArray := prog_5_method_12_code
def yX3_digitAt : MethodName := ⟨RX3, "digitAt", "(I)I"⟩
abbrev cX3_numberIn : ByteArray := prog_5_method_13_code
def yX3_numberIn : MethodName := ⟨RX3, "numberIn", "(II)I"⟩
abbrev cX3_bendAt : ByteArray := prog_5_method_14_code
def yX3_bendAt : MethodName := ⟨RX3, "bendAt", "(I)I"⟩
def RX4 : String := "PachinkoReels"
def TX4 : u_T := fun k => match k with
  | 0 => ("PachinkoReels", "board", "LPachinkoReels$Board;", true)
  | 1 => ("PachinkoReels", "tried", "LPachinkoReels$Board;", true)
  | 2 => ("PachinkoReels", "history", "LPachinkoReels$History;", true)
  | 3 => ("PachinkoReels", "text", "LPachinkoReels$Text;", true)
  | 4 => ("PachinkoReels", "paths", "LPachinkoReels$Paths;", true)
  | _ => ("PachinkoReels", "snapshot", "LPachinkoReels$Board;", false)
def tyX4 : Nat → FieldType := fun k => match k with
  | 0 => .object "PachinkoReels$Board"
  | 1 => .object "PachinkoReels$Board"
  | 2 => .object "PachinkoReels$History"
  | 3 => .object "PachinkoReels$Text"
  | 4 => .object "PachinkoReels$Paths"
  | _ => .object "PachinkoReels$Board"
abbrev wsX40 : List Cond := u_ws RX4 TX4 6
theorem nmX4 : ∀ a, a < 6 → ∀ b, b < 6 → a ≠ b → (TX4 a).2.1 ≠ (TX4 b).2.1 := by decide +kernel
theorem tyX4_ok : ∀ k, k < 6 → parseFieldDescriptor (TX4 k).2.2.1 = some (tyX4 k) := by decide +kernel
abbrev cX4_init : ByteArray := prog_1_method_1_code
def yX4_init : MethodName := ⟨RX4, "<init>", "()V"⟩
abbrev cX4_bend : ByteArray := prog_1_method_2_code
def yX4_bend : MethodName := ⟨RX4, "bend", "(III)I"⟩
abbrev cX4_pocket : ByteArray := prog_1_method_3_code
def yX4_pocket : MethodName := ⟨RX4, "pocket", "(III)I"⟩
abbrev cX4_start : ByteArray := prog_1_method_4_code
def yX4_start : MethodName := ⟨RX4, "start", "(I)I"⟩
abbrev cX4_set : ByteArray := prog_1_method_5_code
def yX4_set : MethodName := ⟨RX4, "set", "(II)I"⟩
abbrev cX4_shuffle : ByteArray := prog_1_method_6_code
def yX4_shuffle : MethodName := ⟨RX4, "shuffle", "(I)I"⟩
abbrev cX4_buy : ByteArray := prog_1_method_7_code
def yX4_buy : MethodName := ⟨RX4, "buy", "(I)I"⟩
abbrev cX4_launch : ByteArray := prog_1_method_8_code
def yX4_launch : MethodName := ⟨RX4, "launch", "(I)I"⟩
abbrev cX4_play : ByteArray := prog_1_method_9_code
def yX4_play : MethodName := ⟨RX4, "play", "(II)I"⟩
abbrev cX4_append : ByteArray := prog_1_method_10_code
def yX4_append : MethodName := ⟨RX4, "append", "(I)I"⟩
abbrev cX4_clearBuffer : ByteArray := prog_1_method_11_code
def yX4_clearBuffer : MethodName := ⟨RX4, "clearBuffer", "()I"⟩
abbrev cX4_firstError : ByteArray := prog_1_method_12_code
def yX4_firstError : MethodName := ⟨RX4, "firstError", "()I"⟩
abbrev cX4_work : ByteArray := prog_1_method_13_code
def yX4_work : MethodName := ⟨RX4, "work", "()I"⟩
abbrev cX4_undo : ByteArray := prog_1_method_14_code
def yX4_undo : MethodName := ⟨RX4, "undo", "()I"⟩
abbrev cX4_keep : ByteArray := prog_1_method_15_code
def yX4_keep : MethodName := ⟨RX4, "keep", "()I"⟩
abbrev cX4_restore : ByteArray := prog_1_method_16_code
def yX4_restore : MethodName := ⟨RX4, "restore", "()I"⟩
abbrev cX4_pin : ByteArray := prog_1_method_17_code
def yX4_pin : MethodName := ⟨RX4, "pin", "(II)I"⟩
abbrev cX4_bent : ByteArray := prog_1_method_18_code
def yX4_bent : MethodName := ⟨RX4, "bent", "(I)I"⟩
abbrev cX4_touched : ByteArray := prog_1_method_19_code
def yX4_touched : MethodName := ⟨RX4, "touched", "(I)I"⟩
abbrev cX4_pocketOf : ByteArray := prog_1_method_20_code
def yX4_pocketOf : MethodName := ⟨RX4, "pocketOf", "(II)I"⟩
abbrev cX4_reel : ByteArray := prog_1_method_21_code
def yX4_reel : MethodName := ⟨RX4, "reel", "(I)I"⟩
abbrev cX4_count : ByteArray := prog_1_method_22_code
def yX4_count : MethodName := ⟨RX4, "count", "(I)I"⟩
abbrev cX4_ways : ByteArray := prog_1_method_23_code
def yX4_ways : MethodName := ⟨RX4, "ways", "(II)I"⟩
abbrev cX4_walked : ByteArray := prog_1_method_24_code
def yX4_walked : MethodName := ⟨RX4, "walked", "(II)I"⟩
abbrev cX4_ifLaunched : ByteArray := prog_1_method_25_code
def yX4_ifLaunched : MethodName := ⟨RX4, "ifLaunched", "(II)I"⟩
abbrev cX4_bestColumn : ByteArray := prog_1_method_26_code
def yX4_bestColumn : MethodName := ⟨RX4, "bestColumn", "()I"⟩
abbrev cX4_untilOpen : ByteArray := prog_1_method_27_code
def yX4_untilOpen : MethodName := ⟨RX4, "untilOpen", "(I)I"⟩
abbrev cX4_payback : ByteArray := prog_1_method_28_code
def yX4_payback : MethodName := ⟨RX4, "payback", "()D"⟩
abbrev cX4_digest : ByteArray := prog_1_method_29_code
def yX4_digest : MethodName := ⟨RX4, "digest", "()J"⟩
abbrev cX4_checkIndex : ByteArray := prog_1_method_30_code
def yX4_checkIndex : MethodName := ⟨RX4, "checkIndex", "(II)V"⟩
abbrev cX4_checkValue : ByteArray := prog_1_method_31_code
def yX4_checkValue : MethodName := ⟨RX4, "checkValue", "(III)V"⟩
abbrev cX4_doPart : ByteArray := prog_1_method_32_code
def yX4_doPart : MethodName := ⟨RX4, "doPart", "(II)I"⟩
abbrev cX4_tryLaunch : ByteArray := prog_1_method_33_code
def yX4_tryLaunch : MethodName := ⟨RX4, "tryLaunch", "(I)V"⟩
abbrev cX4_tellTried : ByteArray := prog_1_method_34_code
def yX4_tellTried : MethodName := ⟨RX4, "tellTried", "(I)I"⟩
abbrev cX4_tryUntilHeld : ByteArray := prog_1_method_35_code
def yX4_tryUntilHeld : MethodName := ⟨RX4, "tryUntilHeld", "(I)I"⟩
abbrev cX4_measurePays : ByteArray := prog_1_method_36_code
def yX4_measurePays : MethodName := ⟨RX4, "measurePays", "(I)I"⟩
abbrev cX4_hashOne : ByteArray := prog_1_method_37_code
def yX4_hashOne : MethodName := ⟨RX4, "hashOne", "(JJ)J"⟩
abbrev cX4_hashAll : ByteArray := prog_1_method_38_code
def yX4_hashAll : MethodName := ⟨RX4, "hashAll", "(J[II)J"⟩
abbrev cX4_hashBoard : ByteArray := prog_1_method_39_code
def yX4_hashBoard : MethodName := ⟨RX4, "hashBoard", "(J)J"⟩
abbrev cX4_hashColumn : ByteArray := prog_1_method_40_code
def yX4_hashColumn : MethodName := ⟨RX4, "hashColumn", "(JI)J"⟩
abbrev cX4_bitsOf : ByteArray := prog_1_method_41_code
def yX4_bitsOf : MethodName := ⟨RX4, "bitsOf", "(D)J"⟩
abbrev cX4_bounce : ByteArray := prog_1_method_42_code
def yX4_bounce : MethodName := ⟨RX4, "bounce", "(II)I"⟩
def RX5 : String := "PachinkoReelsModel"
def TX5 : u_T := fun k => match k with
  | 0 => ("PachinkoReelsModel", "thrown", "I", false)
  | 1 => ("PachinkoReelsModel", "z", "[I", true)
  | 2 => ("PachinkoReelsModel", "aside", "[I", true)
  | 3 => ("PachinkoReelsModel", "saved", "[I", true)
  | 4 => ("PachinkoReelsModel", "saves", "I", false)
  | 5 => ("PachinkoReelsModel", "kept", "[I", true)
  | 6 => ("PachinkoReelsModel", "isKept", "Z", false)
  | 7 => ("PachinkoReelsModel", "text", "[I", true)
  | 8 => ("PachinkoReelsModel", "length", "I", false)
  | 9 => ("PachinkoReelsModel", "here", "[I", true)
  | 10 => ("PachinkoReelsModel", "next", "[I", true)
  | 11 => ("PachinkoReelsModel", "letter", "I", false)
  | 12 => ("PachinkoReelsModel", "first", "I", false)
  | 13 => ("PachinkoReelsModel", "second", "I", false)
  | _ => ("PachinkoReelsModel", "sign", "I", false)
def tyX5 : Nat → FieldType := fun k => match k with
  | 0 => .int
  | 1 => .array .int
  | 2 => .array .int
  | 3 => .array .int
  | 4 => .int
  | 5 => .array .int
  | 6 => .boolean
  | 7 => .array .int
  | 8 => .int
  | 9 => .array .int
  | 10 => .array .int
  | 11 => .int
  | 12 => .int
  | 13 => .int
  | _ => .int
abbrev wsX50 : List Cond := u_ws RX5 TX5 15
theorem nmX5 : ∀ a, a < 15 → ∀ b, b < 15 → a ≠ b → (TX5 a).2.1 ≠ (TX5 b).2.1 := by decide +kernel
theorem tyX5_ok : ∀ k, k < 15 → parseFieldDescriptor (TX5 k).2.2.1 = some (tyX5 k) := by decide +kernel
abbrev cX5_init : ByteArray := prog_7_method_1_code
def yX5_init : MethodName := ⟨RX5, "<init>", "()V"⟩
abbrev cX5_thrown : ByteArray := prog_7_method_2_code
def yX5_thrown : MethodName := ⟨RX5, "thrown", "()I"⟩
abbrev cX5_in : ByteArray := prog_7_method_3_code
def yX5_in : MethodName := ⟨RX5, "in", "(III)Z"⟩
abbrev cX5_isColumn : ByteArray := prog_7_method_4_code
def yX5_isColumn : MethodName := ⟨RX5, "isColumn", "(I)Z"⟩
abbrev cX5_isRow : ByteArray := prog_7_method_5_code
def yX5_isRow : MethodName := ⟨RX5, "isRow", "(I)Z"⟩
abbrev cX5_of : ByteArray := prog_7_method_6_code
def yX5_of : MethodName := ⟨RX5, "of", "(II)I"⟩
abbrev cX5_put : ByteArray := prog_7_method_7_code
def yX5_put : MethodName := ⟨RX5, "put", "(III)V"⟩
abbrev cX5_lean : ByteArray := prog_7_method_8_code
def yX5_lean : MethodName := ⟨RX5, "lean", "(I)I"⟩
abbrev cX5_record : ByteArray := prog_7_method_9_code
def yX5_record : MethodName := ⟨RX5, "record", "()V"⟩
abbrev cX5_undo : ByteArray := prog_7_method_10_code
def yX5_undo : MethodName := ⟨RX5, "undo", "()I"⟩
abbrev cX5_keep : ByteArray := prog_7_method_11_code
def yX5_keep : MethodName := ⟨RX5, "keep", "()I"⟩
abbrev cX5_restore : ByteArray := prog_7_method_12_code
def yX5_restore : MethodName := ⟨RX5, "restore", "()I"⟩
abbrev cX5_putAside : ByteArray := prog_7_method_13_code
def yX5_putAside : MethodName := ⟨RX5, "putAside", "()V"⟩
abbrev cX5_putBack : ByteArray := prog_7_method_14_code
def yX5_putBack : MethodName := ⟨RX5, "putBack", "()V"⟩
abbrev cX5_doBend : ByteArray := prog_7_method_15_code
def yX5_doBend : MethodName := ⟨RX5, "doBend", "(III)I"⟩
abbrev cX5_bend : ByteArray := prog_7_method_16_code
def yX5_bend : MethodName := ⟨RX5, "bend", "(III)I"⟩
abbrev cX5_pocket : ByteArray := prog_7_method_17_code
def yX5_pocket : MethodName := ⟨RX5, "pocket", "(III)I"⟩
abbrev cX5_change : ByteArray := prog_7_method_18_code
def yX5_change : MethodName := ⟨RX5, "change", "(II)I"⟩
abbrev cX5_start : ByteArray := prog_7_method_19_code
def yX5_start : MethodName := ⟨RX5, "start", "(I)I"⟩
abbrev cX5_set : ByteArray := prog_7_method_20_code
def yX5_set : MethodName := ⟨RX5, "set", "(II)I"⟩
abbrev cX5_shuffle : ByteArray := prog_7_method_21_code
def yX5_shuffle : MethodName := ⟨RX5, "shuffle", "(I)I"⟩
abbrev cX5_draw : ByteArray := prog_7_method_22_code
def yX5_draw : MethodName := ⟨RX5, "draw", "(I)I"⟩
abbrev cX5_spin : ByteArray := prog_7_method_23_code
def yX5_spin : MethodName := ⟨RX5, "spin", "()V"⟩
abbrev cX5_beside : ByteArray := prog_7_method_24_code
def yX5_beside : MethodName := ⟨RX5, "beside", "(II)I"⟩
abbrev cX5_fall : ByteArray := prog_7_method_25_code
def yX5_fall : MethodName := ⟨RX5, "fall", "(I)I"⟩
abbrev cX5_isOpen : ByteArray := prog_7_method_26_code
def yX5_isOpen : MethodName := ⟨RX5, "isOpen", "(I)Z"⟩
abbrev cX5_come : ByteArray := prog_7_method_27_code
def yX5_come : MethodName := ⟨RX5, "come", "(I)I"⟩
abbrev cX5_doLaunch : ByteArray := prog_7_method_28_code
def yX5_doLaunch : MethodName := ⟨RX5, "doLaunch", "(I)I"⟩
abbrev cX5_buy : ByteArray := prog_7_method_29_code
def yX5_buy : MethodName := ⟨RX5, "buy", "(I)I"⟩
abbrev cX5_doBuy : ByteArray := prog_7_method_30_code
def yX5_doBuy : MethodName := ⟨RX5, "doBuy", "(I)I"⟩
abbrev cX5_launch : ByteArray := prog_7_method_31_code
def yX5_launch : MethodName := ⟨RX5, "launch", "(I)I"⟩
abbrev cX5_doPlay : ByteArray := prog_7_method_32_code
def yX5_doPlay : MethodName := ⟨RX5, "doPlay", "(II)I"⟩
abbrev cX5_play : ByteArray := prog_7_method_33_code
def yX5_play : MethodName := ⟨RX5, "play", "(II)I"⟩
abbrev cX5_append : ByteArray := prog_7_method_34_code
def yX5_append : MethodName := ⟨RX5, "append", "(I)I"⟩
abbrev cX5_clearBuffer : ByteArray := prog_7_method_35_code
def yX5_clearBuffer : MethodName := ⟨RX5, "clearBuffer", "()I"⟩
abbrev cX5_at : ByteArray := prog_7_method_36_code
def yX5_at : MethodName := ⟨RX5, "at", "(I)I"⟩
abbrev cX5_readNumber : ByteArray := prog_7_method_37_code
def yX5_readNumber : MethodName := ⟨RX5, "readNumber", "(II)I"⟩
abbrev cX5_readPart : ByteArray := prog_7_method_38_code
def yX5_readPart : MethodName := ⟨RX5, "readPart", "(I)I"⟩
abbrev cX5_findError : ByteArray := prog_7_method_39_code
def yX5_findError : MethodName := ⟨RX5, "findError", "()I"⟩
abbrev cX5_firstError : ByteArray := prog_7_method_40_code
def yX5_firstError : MethodName := ⟨RX5, "firstError", "()I"⟩
abbrev cX5_doPart : ByteArray := prog_7_method_41_code
def yX5_doPart : MethodName := ⟨RX5, "doPart", "()I"⟩
abbrev cX5_work : ByteArray := prog_7_method_42_code
def yX5_work : MethodName := ⟨RX5, "work", "()I"⟩
abbrev cX5_pin : ByteArray := prog_7_method_43_code
def yX5_pin : MethodName := ⟨RX5, "pin", "(II)I"⟩
abbrev cX5_bentPins : ByteArray := prog_7_method_44_code
def yX5_bentPins : MethodName := ⟨RX5, "bentPins", "()I"⟩
abbrev cX5_bentAt : ByteArray := prog_7_method_45_code
def yX5_bentAt : MethodName := ⟨RX5, "bentAt", "(I)I"⟩
abbrev cX5_bent : ByteArray := prog_7_method_46_code
def yX5_bent : MethodName := ⟨RX5, "bent", "(I)I"⟩
abbrev cX5_touched : ByteArray := prog_7_method_47_code
def yX5_touched : MethodName := ⟨RX5, "touched", "(I)I"⟩
abbrev cX5_pocketNow : ByteArray := prog_7_method_48_code
def yX5_pocketNow : MethodName := ⟨RX5, "pocketNow", "(II)I"⟩
abbrev cX5_pocketOf : ByteArray := prog_7_method_49_code
def yX5_pocketOf : MethodName := ⟨RX5, "pocketOf", "(II)I"⟩
abbrev cX5_reel : ByteArray := prog_7_method_50_code
def yX5_reel : MethodName := ⟨RX5, "reel", "(I)I"⟩
abbrev cX5_countNow : ByteArray := prog_7_method_51_code
def yX5_countNow : MethodName := ⟨RX5, "countNow", "(I)I"⟩
abbrev cX5_count : ByteArray := prog_7_method_52_code
def yX5_count : MethodName := ⟨RX5, "count", "(I)I"⟩
abbrev cX5_findWays : ByteArray := prog_7_method_53_code
def yX5_findWays : MethodName := ⟨RX5, "findWays", "(I)V"⟩
abbrev cX5_waysTo : ByteArray := prog_7_method_54_code
def yX5_waysTo : MethodName := ⟨RX5, "waysTo", "(II)I"⟩
abbrev cX5_ways : ByteArray := prog_7_method_55_code
def yX5_ways : MethodName := ⟨RX5, "ways", "(II)I"⟩
abbrev cX5_walked : ByteArray := prog_7_method_56_code
def yX5_walked : MethodName := ⟨RX5, "walked", "(II)I"⟩
abbrev cX5_launched : ByteArray := prog_7_method_57_code
def yX5_launched : MethodName := ⟨RX5, "launched", "(II)I"⟩
abbrev cX5_ifLaunched : ByteArray := prog_7_method_58_code
def yX5_ifLaunched : MethodName := ⟨RX5, "ifLaunched", "(II)I"⟩
abbrev cX5_findBestColumn : ByteArray := prog_7_method_59_code
def yX5_findBestColumn : MethodName := ⟨RX5, "findBestColumn", "()I"⟩
abbrev cX5_bestColumn : ByteArray := prog_7_method_60_code
def yX5_bestColumn : MethodName := ⟨RX5, "bestColumn", "()I"⟩
abbrev cX5_launchesToOpen : ByteArray := prog_7_method_61_code
def yX5_launchesToOpen : MethodName := ⟨RX5, "launchesToOpen", "(I)I"⟩
abbrev cX5_untilOpen : ByteArray := prog_7_method_62_code
def yX5_untilOpen : MethodName := ⟨RX5, "untilOpen", "(I)I"⟩
abbrev cX5_share : ByteArray := prog_7_method_63_code
def yX5_share : MethodName := ⟨RX5, "share", "()D"⟩
abbrev cX5_payback : ByteArray := prog_7_method_64_code
def yX5_payback : MethodName := ⟨RX5, "payback", "()D"⟩
abbrev cX5_digest : ByteArray := prog_7_method_65_code
def yX5_digest : MethodName := ⟨RX5, "digest", "()J"⟩
def RJx145de : String := "java/io/Serializable"
def TJx145de : u_T := fun k => match k with
  | _ => ("", "", "", false)
def tyJx145de : Nat → FieldType := fun k => match k with
  | _ => .int
abbrev wsJx145de0 : List Cond := u_ws RJx145de TJx145de 0
theorem nmJx145de : ∀ a, a < 0 → ∀ b, b < 0 → a ≠ b → (TJx145de a).2.1 ≠ (TJx145de b).2.1 := by decide +kernel
theorem tyJx145de_ok : ∀ k, k < 0 → parseFieldDescriptor (TJx145de k).2.2.1 = some (tyJx145de k) := by decide +kernel
def RJxb160c : String := "java/lang/Comparable"
def TJxb160c : u_T := fun k => match k with
  | _ => ("", "", "", false)
def tyJxb160c : Nat → FieldType := fun k => match k with
  | _ => .int
abbrev wsJxb160c0 : List Cond := u_ws RJxb160c TJxb160c 0
theorem nmJxb160c : ∀ a, a < 0 → ∀ b, b < 0 → a ≠ b → (TJxb160c a).2.1 ≠ (TJxb160c b).2.1 := by decide +kernel
theorem tyJxb160c_ok : ∀ k, k < 0 → parseFieldDescriptor (TJxb160c k).2.2.1 = some (tyJxb160c k) := by decide +kernel
def RJxe99ae : String := "java/lang/Double"
def TJxe99ae : u_T := fun k => match k with
  | _ => ("", "", "", false)
def tyJxe99ae : Nat → FieldType := fun k => match k with
  | _ => .int
abbrev wsJxe99ae0 : List Cond := u_ws RJxe99ae TJxe99ae 0
theorem nmJxe99ae : ∀ a, a < 0 → ∀ b, b < 0 → a ≠ b → (TJxe99ae a).2.1 ≠ (TJxe99ae b).2.1 := by decide +kernel
theorem tyJxe99ae_ok : ∀ k, k < 0 → parseFieldDescriptor (TJxe99ae k).2.2.1 = some (tyJxe99ae k) := by decide +kernel
abbrev cJxe99ae_isNaN_b9ae7 : ByteArray := prog_8_method_6_code
def yJxe99ae_isNaN_b9ae7 : MethodName := ⟨RJxe99ae, "isNaN", "(D)Z"⟩
abbrev cJxe99ae_doubleToLongBits_ccdee : ByteArray := prog_8_method_23_code
def yJxe99ae_doubleToLongBits_ccdee : MethodName := ⟨RJxe99ae, "doubleToLongBits", "(D)J"⟩
def RJxd2413 : String := "java/lang/Number"
def TJxd2413 : u_T := fun k => match k with
  | _ => ("", "", "", false)
def tyJxd2413 : Nat → FieldType := fun k => match k with
  | _ => .int
abbrev wsJxd24130 : List Cond := u_ws RJxd2413 TJxd2413 0
theorem nmJxd2413 : ∀ a, a < 0 → ∀ b, b < 0 → a ≠ b → (TJxd2413 a).2.1 ≠ (TJxd2413 b).2.1 := by decide +kernel
theorem tyJxd2413_ok : ∀ k, k < 0 → parseFieldDescriptor (TJxd2413 k).2.2.1 = some (tyJxd2413 k) := by decide +kernel
def RJ0 : String := "java/lang/String"
def TJ0 : u_T := fun k => match k with
  | _ => ("", "", "", false)
def tyJ0 : Nat → FieldType := fun k => match k with
  | _ => .int
abbrev wsJ00 : List Cond := u_ws RJ0 TJ0 0
theorem nmJ0 : ∀ a, a < 0 → ∀ b, b < 0 → a ≠ b → (TJ0 a).2.1 ≠ (TJ0 b).2.1 := by decide +kernel
theorem tyJ0_ok : ∀ k, k < 0 → parseFieldDescriptor (TJ0 k).2.2.1 = some (tyJ0 k) := by decide +kernel
def RJ10 : String := "java/lang/System"
def TJ10 : u_T := fun k => match k with
  | _ => ("", "", "", false)
def tyJ10 : Nat → FieldType := fun k => match k with
  | _ => .int
abbrev wsJ100 : List Cond := u_ws RJ10 TJ10 0
theorem nmJ10 : ∀ a, a < 0 → ∀ b, b < 0 → a ≠ b → (TJ10 a).2.1 ≠ (TJ10 b).2.1 := by decide +kernel
theorem tyJ10_ok : ∀ k, k < 0 → parseFieldDescriptor (TJ10 k).2.2.1 = some (tyJ10 k) := by decide +kernel
def RJxfd54e : String := "java/lang/constant/Constable"
def TJxfd54e : u_T := fun k => match k with
  | _ => ("", "", "", false)
def tyJxfd54e : Nat → FieldType := fun k => match k with
  | _ => .int
abbrev wsJxfd54e0 : List Cond := u_ws RJxfd54e TJxfd54e 0
theorem nmJxfd54e : ∀ a, a < 0 → ∀ b, b < 0 → a ≠ b → (TJxfd54e a).2.1 ≠ (TJxfd54e b).2.1 := by decide +kernel
theorem tyJxfd54e_ok : ∀ k, k < 0 → parseFieldDescriptor (TJxfd54e k).2.2.1 = some (tyJxfd54e k) := by decide +kernel
def RJx3cf43 : String := "java/lang/constant/ConstantDesc"
def TJx3cf43 : u_T := fun k => match k with
  | _ => ("", "", "", false)
def tyJx3cf43 : Nat → FieldType := fun k => match k with
  | _ => .int
abbrev wsJx3cf430 : List Cond := u_ws RJx3cf43 TJx3cf43 0
theorem nmJx3cf43 : ∀ a, a < 0 → ∀ b, b < 0 → a ≠ b → (TJx3cf43 a).2.1 ≠ (TJx3cf43 b).2.1 := by decide +kernel
theorem tyJx3cf43_ok : ∀ k, k < 0 → parseFieldDescriptor (TJx3cf43 k).2.2.1 = some (tyJx3cf43 k) := by decide +kernel
def RJ7 : String := "java/util/Arrays"
def TJ7 : u_T := fun k => match k with
  | _ => ("", "", "", false)
def tyJ7 : Nat → FieldType := fun k => match k with
  | _ => .int
abbrev wsJ70 : List Cond := u_ws RJ7 TJ7 0
theorem nmJ7 : ∀ a, a < 0 → ∀ b, b < 0 → a ≠ b → (TJ7 a).2.1 ≠ (TJ7 b).2.1 := by decide +kernel
theorem tyJ7_ok : ∀ k, k < 0 → parseFieldDescriptor (TJ7 k).2.2.1 = some (tyJ7 k) := by decide +kernel
abbrev cJ7_fill_53178 : ByteArray := prog_18_method_103_code
def yJ7_fill_53178 : MethodName := ⟨RJ7, "fill", "([II)V"⟩
def RL : String := "PachinkoReelsLaw"
abbrev cL_bend : ByteArray := method_3_code
def yL_bend : MethodName := ⟨RL, "bend", "(LPachinkoReels;III[J)I"⟩
abbrev cL_pocket : ByteArray := method_4_code
def yL_pocket : MethodName := ⟨RL, "pocket", "(LPachinkoReels;III[J)I"⟩
abbrev cL_start : ByteArray := method_5_code
def yL_start : MethodName := ⟨RL, "start", "(LPachinkoReels;I[J)I"⟩
abbrev cL_set : ByteArray := method_6_code
def yL_set : MethodName := ⟨RL, "set", "(LPachinkoReels;II[J)I"⟩
abbrev cL_shuffle : ByteArray := method_7_code
def yL_shuffle : MethodName := ⟨RL, "shuffle", "(LPachinkoReels;I[J)I"⟩
abbrev cL_buy : ByteArray := method_8_code
def yL_buy : MethodName := ⟨RL, "buy", "(LPachinkoReels;I[J)I"⟩
abbrev cL_launch : ByteArray := method_9_code
def yL_launch : MethodName := ⟨RL, "launch", "(LPachinkoReels;I[J)I"⟩
abbrev cL_play : ByteArray := method_10_code
def yL_play : MethodName := ⟨RL, "play", "(LPachinkoReels;II[J)I"⟩
abbrev cL_append : ByteArray := method_11_code
def yL_append : MethodName := ⟨RL, "append", "(LPachinkoReels;I[J)I"⟩
abbrev cL_work : ByteArray := method_12_code
def yL_work : MethodName := ⟨RL, "work", "(LPachinkoReels;[J)I"⟩
abbrev cL_undo : ByteArray := method_13_code
def yL_undo : MethodName := ⟨RL, "undo", "(LPachinkoReels;[J)I"⟩
abbrev cL_restore : ByteArray := method_14_code
def yL_restore : MethodName := ⟨RL, "restore", "(LPachinkoReels;[J)I"⟩
abbrev cL_pin : ByteArray := method_15_code
def yL_pin : MethodName := ⟨RL, "pin", "(LPachinkoReels;II[J)I"⟩
abbrev cL_bent : ByteArray := method_16_code
def yL_bent : MethodName := ⟨RL, "bent", "(LPachinkoReels;I[J)I"⟩
abbrev cL_touched : ByteArray := method_17_code
def yL_touched : MethodName := ⟨RL, "touched", "(LPachinkoReels;I[J)I"⟩
abbrev cL_pocketOf : ByteArray := method_18_code
def yL_pocketOf : MethodName := ⟨RL, "pocketOf", "(LPachinkoReels;II[J)I"⟩
abbrev cL_reel : ByteArray := method_19_code
def yL_reel : MethodName := ⟨RL, "reel", "(LPachinkoReels;I[J)I"⟩
abbrev cL_count : ByteArray := method_20_code
def yL_count : MethodName := ⟨RL, "count", "(LPachinkoReels;I[J)I"⟩
abbrev cL_ways : ByteArray := method_21_code
def yL_ways : MethodName := ⟨RL, "ways", "(LPachinkoReels;II[J)I"⟩
abbrev cL_walked : ByteArray := method_22_code
def yL_walked : MethodName := ⟨RL, "walked", "(LPachinkoReels;II[J)I"⟩
abbrev cL_ifLaunched : ByteArray := method_23_code
def yL_ifLaunched : MethodName := ⟨RL, "ifLaunched", "(LPachinkoReels;II[J)I"⟩
abbrev cL_untilOpen : ByteArray := method_24_code
def yL_untilOpen : MethodName := ⟨RL, "untilOpen", "(LPachinkoReels;I[J)I"⟩
abbrev cL_law : ByteArray := code
def yL_law : MethodName := ⟨RL, "law", "([I)Z"⟩
abbrev vwCl : List vw_C := [(RX0, TX0, 10), (RX1, TX1, 3), (RX2, TX2, 3), (RX3, TX3, 2), (RX4, TX4, 6), (RX5, TX5, 15)]
end
section
theorem dX0_init_0 : decode cX0_init 0 = .ok (.aload_n 0, 1) := by decide +kernel
theorem dX0_init_1 : decode cX0_init 1 = .ok (.invokespecial 3, 3) := by decide +kernel
theorem dX0_init_4 : decode cX0_init 4 = .ok (.aload_n 0, 1) := by decide +kernel
theorem dX0_init_5 : decode cX0_init 5 = .ok (.bipush 17, 2) := by decide +kernel
theorem dX0_init_7 : decode cX0_init 7 = .ok (.newarray .int, 2) := by decide +kernel
theorem dX0_init_9 : decode cX0_init 9 = .ok (.putfield 9, 3) := by decide +kernel
theorem dX0_init_12 : decode cX0_init 12 = .ok (.aload_n 0, 1) := by decide +kernel
theorem dX0_init_13 : decode cX0_init 13 = .ok (.bipush 56, 2) := by decide +kernel
theorem dX0_init_15 : decode cX0_init 15 = .ok (.newarray .int, 2) := by decide +kernel
theorem dX0_init_17 : decode cX0_init 17 = .ok (.putfield 15, 3) := by decide +kernel
theorem dX0_init_20 : decode cX0_init 20 = .ok (.aload_n 0, 1) := by decide +kernel
theorem dX0_init_21 : decode cX0_init 21 = .ok (.bipush 56, 2) := by decide +kernel
theorem dX0_init_23 : decode cX0_init 23 = .ok (.newarray .int, 2) := by decide +kernel
theorem dX0_init_25 : decode cX0_init 25 = .ok (.putfield 18, 3) := by decide +kernel
theorem dX0_init_28 : decode cX0_init 28 = .ok (.aload_n 0, 1) := by decide +kernel
theorem dX0_init_29 : decode cX0_init 29 = .ok (.bipush 8, 2) := by decide +kernel
theorem dX0_init_31 : decode cX0_init 31 = .ok (.newarray .int, 2) := by decide +kernel
theorem dX0_init_33 : decode cX0_init 33 = .ok (.putfield 21, 3) := by decide +kernel
theorem dX0_init_36 : decode cX0_init 36 = .ok (.aload_n 0, 1) := by decide +kernel
theorem dX0_init_37 : decode cX0_init 37 = .ok (.bipush 7, 2) := by decide +kernel
theorem dX0_init_39 : decode cX0_init 39 = .ok (.newarray .int, 2) := by decide +kernel
theorem dX0_init_41 : decode cX0_init 41 = .ok (.putfield 24, 3) := by decide +kernel
theorem dX0_init_44 : decode cX0_init 44 = .ok (.aload_n 0, 1) := by decide +kernel
theorem dX0_init_45 : decode cX0_init 45 = .ok (.bipush 7, 2) := by decide +kernel
theorem dX0_init_47 : decode cX0_init 47 = .ok (.newarray .int, 2) := by decide +kernel
theorem dX0_init_49 : decode cX0_init 49 = .ok (.putfield 27, 3) := by decide +kernel
theorem dX0_init_52 : decode cX0_init 52 = .ok (.aload_n 0, 1) := by decide +kernel
theorem dX0_init_53 : decode cX0_init 53 = .ok (.bipush 7, 2) := by decide +kernel
theorem dX0_init_55 : decode cX0_init 55 = .ok (.newarray .int, 2) := by decide +kernel
theorem dX0_init_57 : decode cX0_init 57 = .ok (.putfield 30, 3) := by decide +kernel
theorem dX0_init_60 : decode cX0_init 60 = .ok (.aload_n 0, 1) := by decide +kernel
theorem dX0_init_61 : decode cX0_init 61 = .ok (.bipush 7, 2) := by decide +kernel
theorem dX0_init_63 : decode cX0_init 63 = .ok (.newarray .int, 2) := by decide +kernel
theorem dX0_init_65 : decode cX0_init 65 = .ok (.putfield 33, 3) := by decide +kernel
theorem dX0_init_68 : decode cX0_init 68 = .ok (.aload_n 0, 1) := by decide +kernel
theorem dX0_init_69 : decode cX0_init 69 = .ok (.bipush 7, 2) := by decide +kernel
theorem dX0_init_71 : decode cX0_init 71 = .ok (.newarray .int, 2) := by decide +kernel
theorem dX0_init_73 : decode cX0_init 73 = .ok (.putfield 36, 3) := by decide +kernel
theorem dX0_init_76 : decode cX0_init 76 = .ok (.aload_n 0, 1) := by decide +kernel
theorem dX0_init_77 : decode cX0_init 77 = .ok (.iconst 3, 1) := by decide +kernel
theorem dX0_init_78 : decode cX0_init 78 = .ok (.newarray .int, 2) := by decide +kernel
theorem dX0_init_80 : decode cX0_init 80 = .ok (.putfield 39, 3) := by decide +kernel
theorem dX0_init_83 : decode cX0_init 83 = .ok (.aload_n 0, 1) := by decide +kernel
theorem dX0_init_84 : decode cX0_init 84 = .ok (.getfield 9, 3) := by decide +kernel
theorem dX0_init_87 : decode cX0_init 87 = .ok (.bipush 11, 2) := by decide +kernel
theorem dX0_init_89 : decode cX0_init 89 = .ok (.iconst (-1), 1) := by decide +kernel
theorem dX0_init_90 : decode cX0_init 90 = .ok (.iastore, 1) := by decide +kernel
theorem dX0_init_91 : decode cX0_init 91 = .ok (.aload_n 0, 1) := by decide +kernel
theorem dX0_init_92 : decode cX0_init 92 = .ok (.getfield 9, 3) := by decide +kernel
theorem dX0_init_95 : decode cX0_init 95 = .ok (.bipush 12, 2) := by decide +kernel
theorem dX0_init_97 : decode cX0_init 97 = .ok (.iconst 3, 1) := by decide +kernel
theorem dX0_init_98 : decode cX0_init 98 = .ok (.iastore, 1) := by decide +kernel
theorem dX0_init_99 : decode cX0_init 99 = .ok (.aload_n 0, 1) := by decide +kernel
theorem dX0_init_100 : decode cX0_init 100 = .ok (.getfield 9, 3) := by decide +kernel
theorem dX0_init_103 : decode cX0_init 103 = .ok (.bipush 13, 2) := by decide +kernel
theorem dX0_init_105 : decode cX0_init 105 = .ok (.iconst 1, 1) := by decide +kernel
theorem dX0_init_106 : decode cX0_init 106 = .ok (.iastore, 1) := by decide +kernel
theorem dX0_init_107 : decode cX0_init 107 = .ok (.aload_n 0, 1) := by decide +kernel
theorem dX0_init_108 : decode cX0_init 108 = .ok (.getfield 9, 3) := by decide +kernel
theorem dX0_init_111 : decode cX0_init 111 = .ok (.bipush 14, 2) := by decide +kernel
theorem dX0_init_113 : decode cX0_init 113 = .ok (.bipush 6, 2) := by decide +kernel
theorem dX0_init_115 : decode cX0_init 115 = .ok (.iastore, 1) := by decide +kernel
theorem dX0_init_116 : decode cX0_init 116 = .ok (.aload_n 0, 1) := by decide +kernel
theorem dX0_init_117 : decode cX0_init 117 = .ok (.getfield 9, 3) := by decide +kernel
theorem dX0_init_120 : decode cX0_init 120 = .ok (.bipush 15, 2) := by decide +kernel
theorem dX0_init_122 : decode cX0_init 122 = .ok (.bipush 8, 2) := by decide +kernel
theorem dX0_init_124 : decode cX0_init 124 = .ok (.iastore, 1) := by decide +kernel
theorem dX0_init_125 : decode cX0_init 125 = .ok (.aload_n 0, 1) := by decide +kernel
theorem dX0_init_126 : decode cX0_init 126 = .ok (.getfield 21, 3) := by decide +kernel
theorem dX0_init_129 : decode cX0_init 129 = .ok (.iconst (-1), 1) := by decide +kernel
theorem dX0_init_130 : decode cX0_init 130 = .ok (.invokestatic 42, 3) := by decide +kernel
theorem dX0_init_133 : decode cX0_init 133 = .ok (.getstatic 48, 3) := by decide +kernel
theorem dX0_init_136 : decode cX0_init 136 = .ok (.iconst 0, 1) := by decide +kernel
theorem dX0_init_137 : decode cX0_init 137 = .ok (.aload_n 0, 1) := by decide +kernel
theorem dX0_init_138 : decode cX0_init 138 = .ok (.getfield 24, 3) := by decide +kernel
theorem dX0_init_141 : decode cX0_init 141 = .ok (.iconst 0, 1) := by decide +kernel
theorem dX0_init_142 : decode cX0_init 142 = .ok (.bipush 7, 2) := by decide +kernel
theorem dX0_init_144 : decode cX0_init 144 = .ok (.invokestatic 51, 3) := by decide +kernel
theorem dX0_init_147 : decode cX0_init 147 = .ok (.getstatic 57, 3) := by decide +kernel
theorem dX0_init_150 : decode cX0_init 150 = .ok (.iconst 0, 1) := by decide +kernel
theorem dX0_init_151 : decode cX0_init 151 = .ok (.aload_n 0, 1) := by decide +kernel
theorem dX0_init_152 : decode cX0_init 152 = .ok (.getfield 27, 3) := by decide +kernel
theorem dX0_init_155 : decode cX0_init 155 = .ok (.iconst 0, 1) := by decide +kernel
theorem dX0_init_156 : decode cX0_init 156 = .ok (.bipush 7, 2) := by decide +kernel
theorem dX0_init_158 : decode cX0_init 158 = .ok (.invokestatic 51, 3) := by decide +kernel
theorem dX0_init_161 : decode cX0_init 161 = .ok (.iconst 0, 1) := by decide +kernel
theorem dX0_init_162 : decode cX0_init 162 = .ok (.istore_n 1, 1) := by decide +kernel
theorem dX0_init_163 : decode cX0_init 163 = .ok (.iload_n 1, 1) := by decide +kernel
theorem dX0_init_164 : decode cX0_init 164 = .ok (.iconst 3, 1) := by decide +kernel
theorem dX0_init_165 : decode cX0_init 165 = .ok (.if_icmp .ge 16, 3) := by decide +kernel
theorem dX0_init_168 : decode cX0_init 168 = .ok (.aload_n 0, 1) := by decide +kernel
theorem dX0_init_169 : decode cX0_init 169 = .ok (.getfield 39, 3) := by decide +kernel
theorem dX0_init_172 : decode cX0_init 172 = .ok (.iload_n 1, 1) := by decide +kernel
theorem dX0_init_173 : decode cX0_init 173 = .ok (.iload_n 1, 1) := by decide +kernel
theorem dX0_init_174 : decode cX0_init 174 = .ok (.iastore, 1) := by decide +kernel
theorem dX0_init_175 : decode cX0_init 175 = .ok (.iinc 1 1, 3) := by decide +kernel
theorem dX0_init_178 : decode cX0_init 178 = .ok (.goto (-15), 3) := by decide +kernel
theorem dX0_init_181 : decode cX0_init 181 = .ok (.return_, 1) := by decide +kernel
theorem dX0_copyFrom_0 : decode cX0_copyFrom 0 = .ok (.aload_n 1, 1) := by decide +kernel
theorem dX0_copyFrom_1 : decode cX0_copyFrom 1 = .ok (.getfield 9, 3) := by decide +kernel
theorem dX0_copyFrom_4 : decode cX0_copyFrom 4 = .ok (.iconst 0, 1) := by decide +kernel
theorem dX0_copyFrom_5 : decode cX0_copyFrom 5 = .ok (.aload_n 0, 1) := by decide +kernel
theorem dX0_copyFrom_6 : decode cX0_copyFrom 6 = .ok (.getfield 9, 3) := by decide +kernel
theorem dX0_copyFrom_9 : decode cX0_copyFrom 9 = .ok (.iconst 0, 1) := by decide +kernel
theorem dX0_copyFrom_10 : decode cX0_copyFrom 10 = .ok (.bipush 17, 2) := by decide +kernel
theorem dX0_copyFrom_12 : decode cX0_copyFrom 12 = .ok (.invokestatic 51, 3) := by decide +kernel
theorem dX0_copyFrom_15 : decode cX0_copyFrom 15 = .ok (.aload_n 1, 1) := by decide +kernel
theorem dX0_copyFrom_16 : decode cX0_copyFrom 16 = .ok (.getfield 15, 3) := by decide +kernel
theorem dX0_copyFrom_19 : decode cX0_copyFrom 19 = .ok (.iconst 0, 1) := by decide +kernel
theorem dX0_copyFrom_20 : decode cX0_copyFrom 20 = .ok (.aload_n 0, 1) := by decide +kernel
theorem dX0_copyFrom_21 : decode cX0_copyFrom 21 = .ok (.getfield 15, 3) := by decide +kernel
theorem dX0_copyFrom_24 : decode cX0_copyFrom 24 = .ok (.iconst 0, 1) := by decide +kernel
theorem dX0_copyFrom_25 : decode cX0_copyFrom 25 = .ok (.bipush 56, 2) := by decide +kernel
theorem dX0_copyFrom_27 : decode cX0_copyFrom 27 = .ok (.invokestatic 51, 3) := by decide +kernel
theorem dX0_copyFrom_30 : decode cX0_copyFrom 30 = .ok (.aload_n 1, 1) := by decide +kernel
theorem dX0_copyFrom_31 : decode cX0_copyFrom 31 = .ok (.getfield 18, 3) := by decide +kernel
theorem dX0_copyFrom_34 : decode cX0_copyFrom 34 = .ok (.iconst 0, 1) := by decide +kernel
theorem dX0_copyFrom_35 : decode cX0_copyFrom 35 = .ok (.aload_n 0, 1) := by decide +kernel
theorem dX0_copyFrom_36 : decode cX0_copyFrom 36 = .ok (.getfield 18, 3) := by decide +kernel
theorem dX0_copyFrom_39 : decode cX0_copyFrom 39 = .ok (.iconst 0, 1) := by decide +kernel
theorem dX0_copyFrom_40 : decode cX0_copyFrom 40 = .ok (.bipush 56, 2) := by decide +kernel
theorem dX0_copyFrom_42 : decode cX0_copyFrom 42 = .ok (.invokestatic 51, 3) := by decide +kernel
theorem dX0_copyFrom_45 : decode cX0_copyFrom 45 = .ok (.aload_n 1, 1) := by decide +kernel
theorem dX0_copyFrom_46 : decode cX0_copyFrom 46 = .ok (.getfield 21, 3) := by decide +kernel
theorem dX0_copyFrom_49 : decode cX0_copyFrom 49 = .ok (.iconst 0, 1) := by decide +kernel
theorem dX0_copyFrom_50 : decode cX0_copyFrom 50 = .ok (.aload_n 0, 1) := by decide +kernel
theorem dX0_copyFrom_51 : decode cX0_copyFrom 51 = .ok (.getfield 21, 3) := by decide +kernel
theorem dX0_copyFrom_54 : decode cX0_copyFrom 54 = .ok (.iconst 0, 1) := by decide +kernel
theorem dX0_copyFrom_55 : decode cX0_copyFrom 55 = .ok (.bipush 8, 2) := by decide +kernel
theorem dX0_copyFrom_57 : decode cX0_copyFrom 57 = .ok (.invokestatic 51, 3) := by decide +kernel
theorem dX0_copyFrom_60 : decode cX0_copyFrom 60 = .ok (.aload_n 1, 1) := by decide +kernel
theorem dX0_copyFrom_61 : decode cX0_copyFrom 61 = .ok (.getfield 24, 3) := by decide +kernel
theorem dX0_copyFrom_64 : decode cX0_copyFrom 64 = .ok (.iconst 0, 1) := by decide +kernel
theorem dX0_copyFrom_65 : decode cX0_copyFrom 65 = .ok (.aload_n 0, 1) := by decide +kernel
theorem dX0_copyFrom_66 : decode cX0_copyFrom 66 = .ok (.getfield 24, 3) := by decide +kernel
theorem dX0_copyFrom_69 : decode cX0_copyFrom 69 = .ok (.iconst 0, 1) := by decide +kernel
theorem dX0_copyFrom_70 : decode cX0_copyFrom 70 = .ok (.bipush 7, 2) := by decide +kernel
theorem dX0_copyFrom_72 : decode cX0_copyFrom 72 = .ok (.invokestatic 51, 3) := by decide +kernel
theorem dX0_copyFrom_75 : decode cX0_copyFrom 75 = .ok (.aload_n 1, 1) := by decide +kernel
theorem dX0_copyFrom_76 : decode cX0_copyFrom 76 = .ok (.getfield 27, 3) := by decide +kernel
theorem dX0_copyFrom_79 : decode cX0_copyFrom 79 = .ok (.iconst 0, 1) := by decide +kernel
theorem dX0_copyFrom_80 : decode cX0_copyFrom 80 = .ok (.aload_n 0, 1) := by decide +kernel
theorem dX0_copyFrom_81 : decode cX0_copyFrom 81 = .ok (.getfield 27, 3) := by decide +kernel
theorem dX0_copyFrom_84 : decode cX0_copyFrom 84 = .ok (.iconst 0, 1) := by decide +kernel
theorem dX0_copyFrom_85 : decode cX0_copyFrom 85 = .ok (.bipush 7, 2) := by decide +kernel
theorem dX0_copyFrom_87 : decode cX0_copyFrom 87 = .ok (.invokestatic 51, 3) := by decide +kernel
theorem dX0_copyFrom_90 : decode cX0_copyFrom 90 = .ok (.aload_n 1, 1) := by decide +kernel
theorem dX0_copyFrom_91 : decode cX0_copyFrom 91 = .ok (.getfield 30, 3) := by decide +kernel
theorem dX0_copyFrom_94 : decode cX0_copyFrom 94 = .ok (.iconst 0, 1) := by decide +kernel
theorem dX0_copyFrom_95 : decode cX0_copyFrom 95 = .ok (.aload_n 0, 1) := by decide +kernel
theorem dX0_copyFrom_96 : decode cX0_copyFrom 96 = .ok (.getfield 30, 3) := by decide +kernel
theorem dX0_copyFrom_99 : decode cX0_copyFrom 99 = .ok (.iconst 0, 1) := by decide +kernel
theorem dX0_copyFrom_100 : decode cX0_copyFrom 100 = .ok (.bipush 7, 2) := by decide +kernel
theorem dX0_copyFrom_102 : decode cX0_copyFrom 102 = .ok (.invokestatic 51, 3) := by decide +kernel
theorem dX0_copyFrom_105 : decode cX0_copyFrom 105 = .ok (.aload_n 1, 1) := by decide +kernel
theorem dX0_copyFrom_106 : decode cX0_copyFrom 106 = .ok (.getfield 33, 3) := by decide +kernel
theorem dX0_copyFrom_109 : decode cX0_copyFrom 109 = .ok (.iconst 0, 1) := by decide +kernel
theorem dX0_copyFrom_110 : decode cX0_copyFrom 110 = .ok (.aload_n 0, 1) := by decide +kernel
theorem dX0_copyFrom_111 : decode cX0_copyFrom 111 = .ok (.getfield 33, 3) := by decide +kernel
theorem dX0_copyFrom_114 : decode cX0_copyFrom 114 = .ok (.iconst 0, 1) := by decide +kernel
theorem dX0_copyFrom_115 : decode cX0_copyFrom 115 = .ok (.bipush 7, 2) := by decide +kernel
theorem dX0_copyFrom_117 : decode cX0_copyFrom 117 = .ok (.invokestatic 51, 3) := by decide +kernel
theorem dX0_copyFrom_120 : decode cX0_copyFrom 120 = .ok (.aload_n 1, 1) := by decide +kernel
theorem dX0_copyFrom_121 : decode cX0_copyFrom 121 = .ok (.getfield 36, 3) := by decide +kernel
theorem dX0_copyFrom_124 : decode cX0_copyFrom 124 = .ok (.iconst 0, 1) := by decide +kernel
theorem dX0_copyFrom_125 : decode cX0_copyFrom 125 = .ok (.aload_n 0, 1) := by decide +kernel
theorem dX0_copyFrom_126 : decode cX0_copyFrom 126 = .ok (.getfield 36, 3) := by decide +kernel
theorem dX0_copyFrom_129 : decode cX0_copyFrom 129 = .ok (.iconst 0, 1) := by decide +kernel
theorem dX0_copyFrom_130 : decode cX0_copyFrom 130 = .ok (.bipush 7, 2) := by decide +kernel
theorem dX0_copyFrom_132 : decode cX0_copyFrom 132 = .ok (.invokestatic 51, 3) := by decide +kernel
theorem dX0_copyFrom_135 : decode cX0_copyFrom 135 = .ok (.aload_n 1, 1) := by decide +kernel
theorem dX0_copyFrom_136 : decode cX0_copyFrom 136 = .ok (.getfield 39, 3) := by decide +kernel
theorem dX0_copyFrom_139 : decode cX0_copyFrom 139 = .ok (.iconst 0, 1) := by decide +kernel
theorem dX0_copyFrom_140 : decode cX0_copyFrom 140 = .ok (.aload_n 0, 1) := by decide +kernel
theorem dX0_copyFrom_141 : decode cX0_copyFrom 141 = .ok (.getfield 39, 3) := by decide +kernel
theorem dX0_copyFrom_144 : decode cX0_copyFrom 144 = .ok (.iconst 0, 1) := by decide +kernel
theorem dX0_copyFrom_145 : decode cX0_copyFrom 145 = .ok (.iconst 3, 1) := by decide +kernel
theorem dX0_copyFrom_146 : decode cX0_copyFrom 146 = .ok (.invokestatic 51, 3) := by decide +kernel
theorem dX0_copyFrom_149 : decode cX0_copyFrom 149 = .ok (.return_, 1) := by decide +kernel
theorem dX0_change_0 : decode cX0_change 0 = .ok (.aload_n 0, 1) := by decide +kernel
theorem dX0_change_1 : decode cX0_change 1 = .ok (.getfield 9, 3) := by decide +kernel
theorem dX0_change_4 : decode cX0_change 4 = .ok (.iload_n 1, 1) := by decide +kernel
theorem dX0_change_5 : decode cX0_change 5 = .ok (.iaload, 1) := by decide +kernel
theorem dX0_change_6 : decode cX0_change 6 = .ok (.istore_n 3, 1) := by decide +kernel
theorem dX0_change_7 : decode cX0_change 7 = .ok (.aload_n 0, 1) := by decide +kernel
theorem dX0_change_8 : decode cX0_change 8 = .ok (.getfield 9, 3) := by decide +kernel
theorem dX0_change_11 : decode cX0_change 11 = .ok (.iload_n 1, 1) := by decide +kernel
theorem dX0_change_12 : decode cX0_change 12 = .ok (.iload_n 2, 1) := by decide +kernel
theorem dX0_change_13 : decode cX0_change 13 = .ok (.iastore, 1) := by decide +kernel
theorem dX0_change_14 : decode cX0_change 14 = .ok (.iload_n 3, 1) := by decide +kernel
theorem dX0_change_15 : decode cX0_change 15 = .ok (.ireturn, 1) := by decide +kernel
theorem dX0_bendPin_0 : decode cX0_bendPin 0 = .ok (.aload_n 0, 1) := by decide +kernel
theorem dX0_bendPin_1 : decode cX0_bendPin 1 = .ok (.getfield 15, 3) := by decide +kernel
theorem dX0_bendPin_4 : decode cX0_bendPin 4 = .ok (.iload_n 1, 1) := by decide +kernel
theorem dX0_bendPin_5 : decode cX0_bendPin 5 = .ok (.iaload, 1) := by decide +kernel
theorem dX0_bendPin_6 : decode cX0_bendPin 6 = .ok (.istore_n 3, 1) := by decide +kernel
theorem dX0_bendPin_7 : decode cX0_bendPin 7 = .ok (.aload_n 0, 1) := by decide +kernel
theorem dX0_bendPin_8 : decode cX0_bendPin 8 = .ok (.getfield 15, 3) := by decide +kernel
theorem dX0_bendPin_11 : decode cX0_bendPin 11 = .ok (.iload_n 1, 1) := by decide +kernel
theorem dX0_bendPin_12 : decode cX0_bendPin 12 = .ok (.iload_n 2, 1) := by decide +kernel
theorem dX0_bendPin_13 : decode cX0_bendPin 13 = .ok (.iastore, 1) := by decide +kernel
theorem dX0_bendPin_14 : decode cX0_bendPin 14 = .ok (.iload_n 3, 1) := by decide +kernel
theorem dX0_bendPin_15 : decode cX0_bendPin 15 = .ok (.ifCond .ne 15, 3) := by decide +kernel
theorem dX0_bendPin_18 : decode cX0_bendPin 18 = .ok (.iload_n 2, 1) := by decide +kernel
theorem dX0_bendPin_19 : decode cX0_bendPin 19 = .ok (.ifCond .eq 11, 3) := by decide +kernel
theorem dX0_bendPin_22 : decode cX0_bendPin 22 = .ok (.aload_n 0, 1) := by decide +kernel
theorem dX0_bendPin_23 : decode cX0_bendPin 23 = .ok (.iload_n 1, 1) := by decide +kernel
theorem dX0_bendPin_24 : decode cX0_bendPin 24 = .ok (.invokevirtual 60, 3) := by decide +kernel
theorem dX0_bendPin_27 : decode cX0_bendPin 27 = .ok (.goto 16, 3) := by decide +kernel
theorem dX0_bendPin_30 : decode cX0_bendPin 30 = .ok (.iload_n 3, 1) := by decide +kernel
theorem dX0_bendPin_31 : decode cX0_bendPin 31 = .ok (.ifCond .eq 12, 3) := by decide +kernel
theorem dX0_bendPin_34 : decode cX0_bendPin 34 = .ok (.iload_n 2, 1) := by decide +kernel
theorem dX0_bendPin_35 : decode cX0_bendPin 35 = .ok (.ifCond .ne 8, 3) := by decide +kernel
theorem dX0_bendPin_38 : decode cX0_bendPin 38 = .ok (.aload_n 0, 1) := by decide +kernel
theorem dX0_bendPin_39 : decode cX0_bendPin 39 = .ok (.iload_n 1, 1) := by decide +kernel
theorem dX0_bendPin_40 : decode cX0_bendPin 40 = .ok (.invokevirtual 64, 3) := by decide +kernel
theorem dX0_bendPin_43 : decode cX0_bendPin 43 = .ok (.iload_n 3, 1) := by decide +kernel
theorem dX0_bendPin_44 : decode cX0_bendPin 44 = .ok (.ireturn, 1) := by decide +kernel
theorem dX0_addBentPin_0 : decode cX0_addBentPin 0 = .ok (.aload_n 0, 1) := by decide +kernel
theorem dX0_addBentPin_1 : decode cX0_addBentPin 1 = .ok (.getfield 9, 3) := by decide +kernel
theorem dX0_addBentPin_4 : decode cX0_addBentPin 4 = .ok (.bipush 16, 2) := by decide +kernel
theorem dX0_addBentPin_6 : decode cX0_addBentPin 6 = .ok (.iaload, 1) := by decide +kernel
theorem dX0_addBentPin_7 : decode cX0_addBentPin 7 = .ok (.istore_n 2, 1) := by decide +kernel
theorem dX0_addBentPin_8 : decode cX0_addBentPin 8 = .ok (.iload_n 2, 1) := by decide +kernel
theorem dX0_addBentPin_9 : decode cX0_addBentPin 9 = .ok (.bipush 56, 2) := by decide +kernel
theorem dX0_addBentPin_11 : decode cX0_addBentPin 11 = .ok (.if_icmp .ge 20, 3) := by decide +kernel
theorem dX0_addBentPin_14 : decode cX0_addBentPin 14 = .ok (.aload_n 0, 1) := by decide +kernel
theorem dX0_addBentPin_15 : decode cX0_addBentPin 15 = .ok (.getfield 18, 3) := by decide +kernel
theorem dX0_addBentPin_18 : decode cX0_addBentPin 18 = .ok (.iload_n 2, 1) := by decide +kernel
theorem dX0_addBentPin_19 : decode cX0_addBentPin 19 = .ok (.iload_n 1, 1) := by decide +kernel
theorem dX0_addBentPin_20 : decode cX0_addBentPin 20 = .ok (.iastore, 1) := by decide +kernel
theorem dX0_addBentPin_21 : decode cX0_addBentPin 21 = .ok (.aload_n 0, 1) := by decide +kernel
theorem dX0_addBentPin_22 : decode cX0_addBentPin 22 = .ok (.getfield 9, 3) := by decide +kernel
theorem dX0_addBentPin_25 : decode cX0_addBentPin 25 = .ok (.bipush 16, 2) := by decide +kernel
theorem dX0_addBentPin_27 : decode cX0_addBentPin 27 = .ok (.iload_n 2, 1) := by decide +kernel
theorem dX0_addBentPin_28 : decode cX0_addBentPin 28 = .ok (.iconst 1, 1) := by decide +kernel
theorem dX0_addBentPin_29 : decode cX0_addBentPin 29 = .ok (.iadd, 1) := by decide +kernel
theorem dX0_addBentPin_30 : decode cX0_addBentPin 30 = .ok (.iastore, 1) := by decide +kernel
theorem dX0_addBentPin_31 : decode cX0_addBentPin 31 = .ok (.return_, 1) := by decide +kernel
theorem dX0_removeBentPin_0 : decode cX0_removeBentPin 0 = .ok (.iconst 0, 1) := by decide +kernel
theorem dX0_removeBentPin_1 : decode cX0_removeBentPin 1 = .ok (.istore_n 2, 1) := by decide +kernel
theorem dX0_removeBentPin_2 : decode cX0_removeBentPin 2 = .ok (.iconst 0, 1) := by decide +kernel
theorem dX0_removeBentPin_3 : decode cX0_removeBentPin 3 = .ok (.istore_n 3, 1) := by decide +kernel
theorem dX0_removeBentPin_4 : decode cX0_removeBentPin 4 = .ok (.iload_n 3, 1) := by decide +kernel
theorem dX0_removeBentPin_5 : decode cX0_removeBentPin 5 = .ok (.aload_n 0, 1) := by decide +kernel
theorem dX0_removeBentPin_6 : decode cX0_removeBentPin 6 = .ok (.getfield 9, 3) := by decide +kernel
theorem dX0_removeBentPin_9 : decode cX0_removeBentPin 9 = .ok (.bipush 16, 2) := by decide +kernel
theorem dX0_removeBentPin_11 : decode cX0_removeBentPin 11 = .ok (.iaload, 1) := by decide +kernel
theorem dX0_removeBentPin_12 : decode cX0_removeBentPin 12 = .ok (.if_icmp .ge 34, 3) := by decide +kernel
theorem dX0_removeBentPin_15 : decode cX0_removeBentPin 15 = .ok (.aload_n 0, 1) := by decide +kernel
theorem dX0_removeBentPin_16 : decode cX0_removeBentPin 16 = .ok (.getfield 18, 3) := by decide +kernel
theorem dX0_removeBentPin_19 : decode cX0_removeBentPin 19 = .ok (.iload_n 3, 1) := by decide +kernel
theorem dX0_removeBentPin_20 : decode cX0_removeBentPin 20 = .ok (.iaload, 1) := by decide +kernel
theorem dX0_removeBentPin_21 : decode cX0_removeBentPin 21 = .ok (.iload_n 1, 1) := by decide +kernel
theorem dX0_removeBentPin_22 : decode cX0_removeBentPin 22 = .ok (.if_icmp .eq 18, 3) := by decide +kernel
theorem dX0_removeBentPin_25 : decode cX0_removeBentPin 25 = .ok (.aload_n 0, 1) := by decide +kernel
theorem dX0_removeBentPin_26 : decode cX0_removeBentPin 26 = .ok (.getfield 18, 3) := by decide +kernel
theorem dX0_removeBentPin_29 : decode cX0_removeBentPin 29 = .ok (.iload_n 2, 1) := by decide +kernel
theorem dX0_removeBentPin_30 : decode cX0_removeBentPin 30 = .ok (.aload_n 0, 1) := by decide +kernel
theorem dX0_removeBentPin_31 : decode cX0_removeBentPin 31 = .ok (.getfield 18, 3) := by decide +kernel
theorem dX0_removeBentPin_34 : decode cX0_removeBentPin 34 = .ok (.iload_n 3, 1) := by decide +kernel
theorem dX0_removeBentPin_35 : decode cX0_removeBentPin 35 = .ok (.iaload, 1) := by decide +kernel
theorem dX0_removeBentPin_36 : decode cX0_removeBentPin 36 = .ok (.iastore, 1) := by decide +kernel
theorem dX0_removeBentPin_37 : decode cX0_removeBentPin 37 = .ok (.iinc 2 1, 3) := by decide +kernel
theorem dX0_removeBentPin_40 : decode cX0_removeBentPin 40 = .ok (.iinc 3 1, 3) := by decide +kernel
theorem dX0_removeBentPin_43 : decode cX0_removeBentPin 43 = .ok (.goto (-39), 3) := by decide +kernel
theorem dX0_removeBentPin_46 : decode cX0_removeBentPin 46 = .ok (.aload_n 0, 1) := by decide +kernel
theorem dX0_removeBentPin_47 : decode cX0_removeBentPin 47 = .ok (.getfield 9, 3) := by decide +kernel
theorem dX0_removeBentPin_50 : decode cX0_removeBentPin 50 = .ok (.bipush 16, 2) := by decide +kernel
theorem dX0_removeBentPin_52 : decode cX0_removeBentPin 52 = .ok (.iload_n 2, 1) := by decide +kernel
theorem dX0_removeBentPin_53 : decode cX0_removeBentPin 53 = .ok (.iastore, 1) := by decide +kernel
theorem dX0_removeBentPin_54 : decode cX0_removeBentPin 54 = .ok (.return_, 1) := by decide +kernel
theorem dX0_bentPin_0 : decode cX0_bentPin 0 = .ok (.iload_n 1, 1) := by decide +kernel
theorem dX0_bentPin_1 : decode cX0_bentPin 1 = .ok (.aload_n 0, 1) := by decide +kernel
theorem dX0_bentPin_2 : decode cX0_bentPin 2 = .ok (.getfield 9, 3) := by decide +kernel
theorem dX0_bentPin_5 : decode cX0_bentPin 5 = .ok (.bipush 16, 2) := by decide +kernel
theorem dX0_bentPin_7 : decode cX0_bentPin 7 = .ok (.iaload, 1) := by decide +kernel
theorem dX0_bentPin_8 : decode cX0_bentPin 8 = .ok (.if_icmp .ge 12, 3) := by decide +kernel
theorem dX0_bentPin_11 : decode cX0_bentPin 11 = .ok (.aload_n 0, 1) := by decide +kernel
theorem dX0_bentPin_12 : decode cX0_bentPin 12 = .ok (.getfield 18, 3) := by decide +kernel
theorem dX0_bentPin_15 : decode cX0_bentPin 15 = .ok (.iload_n 1, 1) := by decide +kernel
theorem dX0_bentPin_16 : decode cX0_bentPin 16 = .ok (.iaload, 1) := by decide +kernel
theorem dX0_bentPin_17 : decode cX0_bentPin 17 = .ok (.goto 4, 3) := by decide +kernel
theorem dX0_bentPin_20 : decode cX0_bentPin 20 = .ok (.iconst (-1), 1) := by decide +kernel
theorem dX0_bentPin_21 : decode cX0_bentPin 21 = .ok (.ireturn, 1) := by decide +kernel
theorem dX0_changePocket_0 : decode cX0_changePocket 0 = .ok (.aload_n 0, 1) := by decide +kernel
theorem dX0_changePocket_1 : decode cX0_changePocket 1 = .ok (.getfield 27, 3) := by decide +kernel
theorem dX0_changePocket_4 : decode cX0_changePocket 4 = .ok (.iload_n 1, 1) := by decide +kernel
theorem dX0_changePocket_5 : decode cX0_changePocket 5 = .ok (.iaload, 1) := by decide +kernel
theorem dX0_changePocket_6 : decode cX0_changePocket 6 = .ok (.istore 4, 2) := by decide +kernel
theorem dX0_changePocket_8 : decode cX0_changePocket 8 = .ok (.aload_n 0, 1) := by decide +kernel
theorem dX0_changePocket_9 : decode cX0_changePocket 9 = .ok (.getfield 24, 3) := by decide +kernel
theorem dX0_changePocket_12 : decode cX0_changePocket 12 = .ok (.iload_n 1, 1) := by decide +kernel
theorem dX0_changePocket_13 : decode cX0_changePocket 13 = .ok (.iaload, 1) := by decide +kernel
theorem dX0_changePocket_14 : decode cX0_changePocket 14 = .ok (.iconst 2, 1) := by decide +kernel
theorem dX0_changePocket_15 : decode cX0_changePocket 15 = .ok (.if_icmp .eq 10, 3) := by decide +kernel
theorem dX0_changePocket_18 : decode cX0_changePocket 18 = .ok (.aload_n 0, 1) := by decide +kernel
theorem dX0_changePocket_19 : decode cX0_changePocket 19 = .ok (.getfield 30, 3) := by decide +kernel
theorem dX0_changePocket_22 : decode cX0_changePocket 22 = .ok (.iload_n 1, 1) := by decide +kernel
theorem dX0_changePocket_23 : decode cX0_changePocket 23 = .ok (.iconst 0, 1) := by decide +kernel
theorem dX0_changePocket_24 : decode cX0_changePocket 24 = .ok (.iastore, 1) := by decide +kernel
theorem dX0_changePocket_25 : decode cX0_changePocket 25 = .ok (.aload_n 0, 1) := by decide +kernel
theorem dX0_changePocket_26 : decode cX0_changePocket 26 = .ok (.getfield 24, 3) := by decide +kernel
theorem dX0_changePocket_29 : decode cX0_changePocket 29 = .ok (.iload_n 1, 1) := by decide +kernel
theorem dX0_changePocket_30 : decode cX0_changePocket 30 = .ok (.iload_n 2, 1) := by decide +kernel
theorem dX0_changePocket_31 : decode cX0_changePocket 31 = .ok (.iastore, 1) := by decide +kernel
theorem dX0_changePocket_32 : decode cX0_changePocket 32 = .ok (.aload_n 0, 1) := by decide +kernel
theorem dX0_changePocket_33 : decode cX0_changePocket 33 = .ok (.getfield 27, 3) := by decide +kernel
theorem dX0_changePocket_36 : decode cX0_changePocket 36 = .ok (.iload_n 1, 1) := by decide +kernel
theorem dX0_changePocket_37 : decode cX0_changePocket 37 = .ok (.iload_n 3, 1) := by decide +kernel
theorem dX0_changePocket_38 : decode cX0_changePocket 38 = .ok (.iastore, 1) := by decide +kernel
theorem dX0_changePocket_39 : decode cX0_changePocket 39 = .ok (.iload 4, 2) := by decide +kernel
theorem dX0_changePocket_41 : decode cX0_changePocket 41 = .ok (.ireturn, 1) := by decide +kernel
theorem dX0_tellPocket_0 : decode cX0_tellPocket 0 = .ok (.iload_n 2, 1) := by decide +kernel
theorem dX0_tellPocket_1 : decode cX0_tellPocket 1 = .ok (.tableswitch 66 0 3 #[31, 38, 45, 59], 31) := by decide +kernel
theorem dX0_tellPocket_32 : decode cX0_tellPocket 32 = .ok (.aload_n 0, 1) := by decide +kernel
theorem dX0_tellPocket_33 : decode cX0_tellPocket 33 = .ok (.getfield 24, 3) := by decide +kernel
theorem dX0_tellPocket_36 : decode cX0_tellPocket 36 = .ok (.iload_n 1, 1) := by decide +kernel
theorem dX0_tellPocket_37 : decode cX0_tellPocket 37 = .ok (.iaload, 1) := by decide +kernel
theorem dX0_tellPocket_38 : decode cX0_tellPocket 38 = .ok (.ireturn, 1) := by decide +kernel
theorem dX0_tellPocket_39 : decode cX0_tellPocket 39 = .ok (.aload_n 0, 1) := by decide +kernel
theorem dX0_tellPocket_40 : decode cX0_tellPocket 40 = .ok (.getfield 27, 3) := by decide +kernel
theorem dX0_tellPocket_43 : decode cX0_tellPocket 43 = .ok (.iload_n 1, 1) := by decide +kernel
theorem dX0_tellPocket_44 : decode cX0_tellPocket 44 = .ok (.iaload, 1) := by decide +kernel
theorem dX0_tellPocket_45 : decode cX0_tellPocket 45 = .ok (.ireturn, 1) := by decide +kernel
theorem dX0_tellPocket_46 : decode cX0_tellPocket 46 = .ok (.aload_n 0, 1) := by decide +kernel
theorem dX0_tellPocket_47 : decode cX0_tellPocket 47 = .ok (.iload_n 1, 1) := by decide +kernel
theorem dX0_tellPocket_48 : decode cX0_tellPocket 48 = .ok (.invokevirtual 67, 3) := by decide +kernel
theorem dX0_tellPocket_51 : decode cX0_tellPocket 51 = .ok (.ifCond .eq 7, 3) := by decide +kernel
theorem dX0_tellPocket_54 : decode cX0_tellPocket 54 = .ok (.iconst 1, 1) := by decide +kernel
theorem dX0_tellPocket_55 : decode cX0_tellPocket 55 = .ok (.goto 4, 3) := by decide +kernel
theorem dX0_tellPocket_58 : decode cX0_tellPocket 58 = .ok (.iconst 0, 1) := by decide +kernel
theorem dX0_tellPocket_59 : decode cX0_tellPocket 59 = .ok (.ireturn, 1) := by decide +kernel
theorem dX0_tellPocket_60 : decode cX0_tellPocket 60 = .ok (.aload_n 0, 1) := by decide +kernel
theorem dX0_tellPocket_61 : decode cX0_tellPocket 61 = .ok (.getfield 33, 3) := by decide +kernel
theorem dX0_tellPocket_64 : decode cX0_tellPocket 64 = .ok (.iload_n 1, 1) := by decide +kernel
theorem dX0_tellPocket_65 : decode cX0_tellPocket 65 = .ok (.iaload, 1) := by decide +kernel
theorem dX0_tellPocket_66 : decode cX0_tellPocket 66 = .ok (.ireturn, 1) := by decide +kernel
theorem dX0_tellPocket_67 : decode cX0_tellPocket 67 = .ok (.aload_n 0, 1) := by decide +kernel
theorem dX0_tellPocket_68 : decode cX0_tellPocket 68 = .ok (.getfield 36, 3) := by decide +kernel
theorem dX0_tellPocket_71 : decode cX0_tellPocket 71 = .ok (.iload_n 1, 1) := by decide +kernel
theorem dX0_tellPocket_72 : decode cX0_tellPocket 72 = .ok (.iaload, 1) := by decide +kernel
theorem dX0_tellPocket_73 : decode cX0_tellPocket 73 = .ok (.ireturn, 1) := by decide +kernel
theorem dX0_isHeldOpen_0 : decode cX0_isHeldOpen 0 = .ok (.aload_n 0, 1) := by decide +kernel
theorem dX0_isHeldOpen_1 : decode cX0_isHeldOpen 1 = .ok (.getfield 9, 3) := by decide +kernel
theorem dX0_isHeldOpen_4 : decode cX0_isHeldOpen 4 = .ok (.bipush 9, 2) := by decide +kernel
theorem dX0_isHeldOpen_6 : decode cX0_isHeldOpen 6 = .ok (.iaload, 1) := by decide +kernel
theorem dX0_isHeldOpen_7 : decode cX0_isHeldOpen 7 = .ok (.ifCond .le 7, 3) := by decide +kernel
theorem dX0_isHeldOpen_10 : decode cX0_isHeldOpen 10 = .ok (.iconst 1, 1) := by decide +kernel
theorem dX0_isHeldOpen_11 : decode cX0_isHeldOpen 11 = .ok (.goto 4, 3) := by decide +kernel
theorem dX0_isHeldOpen_14 : decode cX0_isHeldOpen 14 = .ok (.iconst 0, 1) := by decide +kernel
theorem dX0_isHeldOpen_15 : decode cX0_isHeldOpen 15 = .ok (.ireturn, 1) := by decide +kernel
theorem dX0_isOpen_0 : decode cX0_isOpen 0 = .ok (.aload_n 0, 1) := by decide +kernel
theorem dX0_isOpen_1 : decode cX0_isOpen 1 = .ok (.getfield 24, 3) := by decide +kernel
theorem dX0_isOpen_4 : decode cX0_isOpen 4 = .ok (.iload_n 1, 1) := by decide +kernel
theorem dX0_isOpen_5 : decode cX0_isOpen 5 = .ok (.iaload, 1) := by decide +kernel
theorem dX0_isOpen_6 : decode cX0_isOpen 6 = .ok (.lookupswitch 47 #[(1, 26), (2, 31)], 26) := by decide +kernel
theorem dX0_isOpen_32 : decode cX0_isOpen 32 = .ok (.aload_n 0, 1) := by decide +kernel
theorem dX0_isOpen_33 : decode cX0_isOpen 33 = .ok (.invokevirtual 71, 3) := by decide +kernel
theorem dX0_isOpen_36 : decode cX0_isOpen 36 = .ok (.ireturn, 1) := by decide +kernel
theorem dX0_isOpen_37 : decode cX0_isOpen 37 = .ok (.aload_n 0, 1) := by decide +kernel
theorem dX0_isOpen_38 : decode cX0_isOpen 38 = .ok (.getfield 30, 3) := by decide +kernel
theorem dX0_isOpen_41 : decode cX0_isOpen 41 = .ok (.iload_n 1, 1) := by decide +kernel
theorem dX0_isOpen_42 : decode cX0_isOpen 42 = .ok (.iaload, 1) := by decide +kernel
theorem dX0_isOpen_43 : decode cX0_isOpen 43 = .ok (.iconst 1, 1) := by decide +kernel
theorem dX0_isOpen_44 : decode cX0_isOpen 44 = .ok (.if_icmp .ne 7, 3) := by decide +kernel
theorem dX0_isOpen_47 : decode cX0_isOpen 47 = .ok (.iconst 1, 1) := by decide +kernel
theorem dX0_isOpen_48 : decode cX0_isOpen 48 = .ok (.goto 4, 3) := by decide +kernel
theorem dX0_isOpen_51 : decode cX0_isOpen 51 = .ok (.iconst 0, 1) := by decide +kernel
theorem dX0_isOpen_52 : decode cX0_isOpen 52 = .ok (.ireturn, 1) := by decide +kernel
theorem dX0_isOpen_53 : decode cX0_isOpen 53 = .ok (.iconst 1, 1) := by decide +kernel
theorem dX0_isOpen_54 : decode cX0_isOpen 54 = .ok (.ireturn, 1) := by decide +kernel
theorem dX0_buyBalls_0 : decode cX0_buyBalls 0 = .ok (.aload_n 0, 1) := by decide +kernel
theorem dX0_buyBalls_1 : decode cX0_buyBalls 1 = .ok (.getfield 9, 3) := by decide +kernel
theorem dX0_buyBalls_4 : decode cX0_buyBalls 4 = .ok (.iconst 0, 1) := by decide +kernel
theorem dX0_buyBalls_5 : decode cX0_buyBalls 5 = .ok (.dup2, 1) := by decide +kernel
theorem dX0_buyBalls_6 : decode cX0_buyBalls 6 = .ok (.iaload, 1) := by decide +kernel
theorem dX0_buyBalls_7 : decode cX0_buyBalls 7 = .ok (.iload_n 1, 1) := by decide +kernel
theorem dX0_buyBalls_8 : decode cX0_buyBalls 8 = .ok (.iadd, 1) := by decide +kernel
theorem dX0_buyBalls_9 : decode cX0_buyBalls 9 = .ok (.iastore, 1) := by decide +kernel
theorem dX0_buyBalls_10 : decode cX0_buyBalls 10 = .ok (.aload_n 0, 1) := by decide +kernel
theorem dX0_buyBalls_11 : decode cX0_buyBalls 11 = .ok (.getfield 9, 3) := by decide +kernel
theorem dX0_buyBalls_14 : decode cX0_buyBalls 14 = .ok (.iconst 1, 1) := by decide +kernel
theorem dX0_buyBalls_15 : decode cX0_buyBalls 15 = .ok (.dup2, 1) := by decide +kernel
theorem dX0_buyBalls_16 : decode cX0_buyBalls 16 = .ok (.iaload, 1) := by decide +kernel
theorem dX0_buyBalls_17 : decode cX0_buyBalls 17 = .ok (.iload_n 1, 1) := by decide +kernel
theorem dX0_buyBalls_18 : decode cX0_buyBalls 18 = .ok (.iadd, 1) := by decide +kernel
theorem dX0_buyBalls_19 : decode cX0_buyBalls 19 = .ok (.iastore, 1) := by decide +kernel
theorem dX0_buyBalls_20 : decode cX0_buyBalls 20 = .ok (.return_, 1) := by decide +kernel
theorem dX0_launchBalls_0 : decode cX0_launchBalls 0 = .ok (.iconst 0, 1) := by decide +kernel
theorem dX0_launchBalls_1 : decode cX0_launchBalls 1 = .ok (.istore_n 3, 1) := by decide +kernel
theorem dX0_launchBalls_2 : decode cX0_launchBalls 2 = .ok (.iconst 0, 1) := by decide +kernel
theorem dX0_launchBalls_3 : decode cX0_launchBalls 3 = .ok (.istore 4, 2) := by decide +kernel
theorem dX0_launchBalls_5 : decode cX0_launchBalls 5 = .ok (.iload 4, 2) := by decide +kernel
theorem dX0_launchBalls_7 : decode cX0_launchBalls 7 = .ok (.iload_n 2, 1) := by decide +kernel
theorem dX0_launchBalls_8 : decode cX0_launchBalls 8 = .ok (.if_icmp .ge 26, 3) := by decide +kernel
theorem dX0_launchBalls_11 : decode cX0_launchBalls 11 = .ok (.aload_n 0, 1) := by decide +kernel
theorem dX0_launchBalls_12 : decode cX0_launchBalls 12 = .ok (.getfield 9, 3) := by decide +kernel
theorem dX0_launchBalls_15 : decode cX0_launchBalls 15 = .ok (.iconst 0, 1) := by decide +kernel
theorem dX0_launchBalls_16 : decode cX0_launchBalls 16 = .ok (.iaload, 1) := by decide +kernel
theorem dX0_launchBalls_17 : decode cX0_launchBalls 17 = .ok (.ifCond .le 17, 3) := by decide +kernel
theorem dX0_launchBalls_20 : decode cX0_launchBalls 20 = .ok (.iload_n 3, 1) := by decide +kernel
theorem dX0_launchBalls_21 : decode cX0_launchBalls 21 = .ok (.aload_n 0, 1) := by decide +kernel
theorem dX0_launchBalls_22 : decode cX0_launchBalls 22 = .ok (.iload_n 1, 1) := by decide +kernel
theorem dX0_launchBalls_23 : decode cX0_launchBalls 23 = .ok (.invokevirtual 75, 3) := by decide +kernel
theorem dX0_launchBalls_26 : decode cX0_launchBalls 26 = .ok (.iadd, 1) := by decide +kernel
theorem dX0_launchBalls_27 : decode cX0_launchBalls 27 = .ok (.istore_n 3, 1) := by decide +kernel
theorem dX0_launchBalls_28 : decode cX0_launchBalls 28 = .ok (.iinc 4 1, 3) := by decide +kernel
theorem dX0_launchBalls_31 : decode cX0_launchBalls 31 = .ok (.goto (-26), 3) := by decide +kernel
theorem dX0_launchBalls_34 : decode cX0_launchBalls 34 = .ok (.iload_n 3, 1) := by decide +kernel
theorem dX0_launchBalls_35 : decode cX0_launchBalls 35 = .ok (.ireturn, 1) := by decide +kernel
theorem dX0_launchBall_0 : decode cX0_launchBall 0 = .ok (.aload_n 0, 1) := by decide +kernel
theorem dX0_launchBall_1 : decode cX0_launchBall 1 = .ok (.getfield 9, 3) := by decide +kernel
theorem dX0_launchBall_4 : decode cX0_launchBall 4 = .ok (.iconst 0, 1) := by decide +kernel
theorem dX0_launchBall_5 : decode cX0_launchBall 5 = .ok (.dup2, 1) := by decide +kernel
theorem dX0_launchBall_6 : decode cX0_launchBall 6 = .ok (.iaload, 1) := by decide +kernel
theorem dX0_launchBall_7 : decode cX0_launchBall 7 = .ok (.iconst 1, 1) := by decide +kernel
theorem dX0_launchBall_8 : decode cX0_launchBall 8 = .ok (.isub, 1) := by decide +kernel
theorem dX0_launchBall_9 : decode cX0_launchBall 9 = .ok (.iastore, 1) := by decide +kernel
theorem dX0_launchBall_10 : decode cX0_launchBall 10 = .ok (.aload_n 0, 1) := by decide +kernel
theorem dX0_launchBall_11 : decode cX0_launchBall 11 = .ok (.getfield 9, 3) := by decide +kernel
theorem dX0_launchBall_14 : decode cX0_launchBall 14 = .ok (.iconst 2, 1) := by decide +kernel
theorem dX0_launchBall_15 : decode cX0_launchBall 15 = .ok (.dup2, 1) := by decide +kernel
theorem dX0_launchBall_16 : decode cX0_launchBall 16 = .ok (.iaload, 1) := by decide +kernel
theorem dX0_launchBall_17 : decode cX0_launchBall 17 = .ok (.iconst 1, 1) := by decide +kernel
theorem dX0_launchBall_18 : decode cX0_launchBall 18 = .ok (.iadd, 1) := by decide +kernel
theorem dX0_launchBall_19 : decode cX0_launchBall 19 = .ok (.iastore, 1) := by decide +kernel
theorem dX0_launchBall_20 : decode cX0_launchBall 20 = .ok (.aload_n 0, 1) := by decide +kernel
theorem dX0_launchBall_21 : decode cX0_launchBall 21 = .ok (.getfield 9, 3) := by decide +kernel
theorem dX0_launchBall_24 : decode cX0_launchBall 24 = .ok (.bipush 6, 2) := by decide +kernel
theorem dX0_launchBall_26 : decode cX0_launchBall 26 = .ok (.iaload, 1) := by decide +kernel
theorem dX0_launchBall_27 : decode cX0_launchBall 27 = .ok (.ifCond .le 25, 3) := by decide +kernel
theorem dX0_launchBall_30 : decode cX0_launchBall 30 = .ok (.aload_n 0, 1) := by decide +kernel
theorem dX0_launchBall_31 : decode cX0_launchBall 31 = .ok (.invokevirtual 71, 3) := by decide +kernel
theorem dX0_launchBall_34 : decode cX0_launchBall 34 = .ok (.ifCond .ne 18, 3) := by decide +kernel
theorem dX0_launchBall_37 : decode cX0_launchBall 37 = .ok (.aload_n 0, 1) := by decide +kernel
theorem dX0_launchBall_38 : decode cX0_launchBall 38 = .ok (.getfield 9, 3) := by decide +kernel
theorem dX0_launchBall_41 : decode cX0_launchBall 41 = .ok (.bipush 6, 2) := by decide +kernel
theorem dX0_launchBall_43 : decode cX0_launchBall 43 = .ok (.dup2, 1) := by decide +kernel
theorem dX0_launchBall_44 : decode cX0_launchBall 44 = .ok (.iaload, 1) := by decide +kernel
theorem dX0_launchBall_45 : decode cX0_launchBall 45 = .ok (.iconst 1, 1) := by decide +kernel
theorem dX0_launchBall_46 : decode cX0_launchBall 46 = .ok (.isub, 1) := by decide +kernel
theorem dX0_launchBall_47 : decode cX0_launchBall 47 = .ok (.iastore, 1) := by decide +kernel
theorem dX0_launchBall_48 : decode cX0_launchBall 48 = .ok (.aload_n 0, 1) := by decide +kernel
theorem dX0_launchBall_49 : decode cX0_launchBall 49 = .ok (.invokevirtual 79, 3) := by decide +kernel
theorem dX0_launchBall_52 : decode cX0_launchBall 52 = .ok (.aload_n 0, 1) := by decide +kernel
theorem dX0_launchBall_53 : decode cX0_launchBall 53 = .ok (.iload_n 1, 1) := by decide +kernel
theorem dX0_launchBall_54 : decode cX0_launchBall 54 = .ok (.invokevirtual 82, 3) := by decide +kernel
theorem dX0_launchBall_57 : decode cX0_launchBall 57 = .ok (.istore_n 2, 1) := by decide +kernel
theorem dX0_launchBall_58 : decode cX0_launchBall 58 = .ok (.aload_n 0, 1) := by decide +kernel
theorem dX0_launchBall_59 : decode cX0_launchBall 59 = .ok (.getfield 9, 3) := by decide +kernel
theorem dX0_launchBall_62 : decode cX0_launchBall 62 = .ok (.bipush 11, 2) := by decide +kernel
theorem dX0_launchBall_64 : decode cX0_launchBall 64 = .ok (.iload_n 2, 1) := by decide +kernel
theorem dX0_launchBall_65 : decode cX0_launchBall 65 = .ok (.iastore, 1) := by decide +kernel
theorem dX0_launchBall_66 : decode cX0_launchBall 66 = .ok (.aload_n 0, 1) := by decide +kernel
theorem dX0_launchBall_67 : decode cX0_launchBall 67 = .ok (.iload_n 2, 1) := by decide +kernel
theorem dX0_launchBall_68 : decode cX0_launchBall 68 = .ok (.invokevirtual 85, 3) := by decide +kernel
theorem dX0_launchBall_71 : decode cX0_launchBall 71 = .ok (.istore_n 3, 1) := by decide +kernel
theorem dX0_launchBall_72 : decode cX0_launchBall 72 = .ok (.iload_n 2, 1) := by decide +kernel
theorem dX0_launchBall_73 : decode cX0_launchBall 73 = .ok (.aload_n 0, 1) := by decide +kernel
theorem dX0_launchBall_74 : decode cX0_launchBall 74 = .ok (.getfield 9, 3) := by decide +kernel
theorem dX0_launchBall_77 : decode cX0_launchBall 77 = .ok (.bipush 12, 2) := by decide +kernel
theorem dX0_launchBall_79 : decode cX0_launchBall 79 = .ok (.iaload, 1) := by decide +kernel
theorem dX0_launchBall_80 : decode cX0_launchBall 80 = .ok (.if_icmp .ne 25, 3) := by decide +kernel
theorem dX0_launchBall_83 : decode cX0_launchBall 83 = .ok (.aload_n 0, 1) := by decide +kernel
theorem dX0_launchBall_84 : decode cX0_launchBall 84 = .ok (.getfield 9, 3) := by decide +kernel
theorem dX0_launchBall_87 : decode cX0_launchBall 87 = .ok (.bipush 6, 2) := by decide +kernel
theorem dX0_launchBall_89 : decode cX0_launchBall 89 = .ok (.iaload, 1) := by decide +kernel
theorem dX0_launchBall_90 : decode cX0_launchBall 90 = .ok (.iconst 4, 1) := by decide +kernel
theorem dX0_launchBall_91 : decode cX0_launchBall 91 = .ok (.if_icmp .ge 14, 3) := by decide +kernel
theorem dX0_launchBall_94 : decode cX0_launchBall 94 = .ok (.aload_n 0, 1) := by decide +kernel
theorem dX0_launchBall_95 : decode cX0_launchBall 95 = .ok (.getfield 9, 3) := by decide +kernel
theorem dX0_launchBall_98 : decode cX0_launchBall 98 = .ok (.bipush 6, 2) := by decide +kernel
theorem dX0_launchBall_100 : decode cX0_launchBall 100 = .ok (.dup2, 1) := by decide +kernel
theorem dX0_launchBall_101 : decode cX0_launchBall 101 = .ok (.iaload, 1) := by decide +kernel
theorem dX0_launchBall_102 : decode cX0_launchBall 102 = .ok (.iconst 1, 1) := by decide +kernel
theorem dX0_launchBall_103 : decode cX0_launchBall 103 = .ok (.iadd, 1) := by decide +kernel
theorem dX0_launchBall_104 : decode cX0_launchBall 104 = .ok (.iastore, 1) := by decide +kernel
theorem dX0_launchBall_105 : decode cX0_launchBall 105 = .ok (.iload_n 3, 1) := by decide +kernel
theorem dX0_launchBall_106 : decode cX0_launchBall 106 = .ok (.ireturn, 1) := by decide +kernel
theorem dX0_drawBelow_0 : decode cX0_drawBelow 0 = .ok (.ldc2_w 88, 3) := by decide +kernel
theorem dX0_drawBelow_3 : decode cX0_drawBelow 3 = .ok (.aload_n 0, 1) := by decide +kernel
theorem dX0_drawBelow_4 : decode cX0_drawBelow 4 = .ok (.getfield 9, 3) := by decide +kernel
theorem dX0_drawBelow_7 : decode cX0_drawBelow 7 = .ok (.bipush 13, 2) := by decide +kernel
theorem dX0_drawBelow_9 : decode cX0_drawBelow 9 = .ok (.iaload, 1) := by decide +kernel
theorem dX0_drawBelow_10 : decode cX0_drawBelow 10 = .ok (.i2l, 1) := by decide +kernel
theorem dX0_drawBelow_11 : decode cX0_drawBelow 11 = .ok (.lmul, 1) := by decide +kernel
theorem dX0_drawBelow_12 : decode cX0_drawBelow 12 = .ok (.ldc2_w 90, 3) := by decide +kernel
theorem dX0_drawBelow_15 : decode cX0_drawBelow 15 = .ok (.ladd, 1) := by decide +kernel
theorem dX0_drawBelow_16 : decode cX0_drawBelow 16 = .ok (.ldc2_w 92, 3) := by decide +kernel
theorem dX0_drawBelow_19 : decode cX0_drawBelow 19 = .ok (.lrem, 1) := by decide +kernel
theorem dX0_drawBelow_20 : decode cX0_drawBelow 20 = .ok (.lstore_n 2, 1) := by decide +kernel
theorem dX0_drawBelow_21 : decode cX0_drawBelow 21 = .ok (.aload_n 0, 1) := by decide +kernel
theorem dX0_drawBelow_22 : decode cX0_drawBelow 22 = .ok (.getfield 9, 3) := by decide +kernel
theorem dX0_drawBelow_25 : decode cX0_drawBelow 25 = .ok (.bipush 13, 2) := by decide +kernel
theorem dX0_drawBelow_27 : decode cX0_drawBelow 27 = .ok (.lload_n 2, 1) := by decide +kernel
theorem dX0_drawBelow_28 : decode cX0_drawBelow 28 = .ok (.l2i, 1) := by decide +kernel
theorem dX0_drawBelow_29 : decode cX0_drawBelow 29 = .ok (.iastore, 1) := by decide +kernel
theorem dX0_drawBelow_30 : decode cX0_drawBelow 30 = .ok (.iload_n 1, 1) := by decide +kernel
theorem dX0_drawBelow_31 : decode cX0_drawBelow 31 = .ok (.ifCond .le 15, 3) := by decide +kernel
theorem dX0_drawBelow_34 : decode cX0_drawBelow 34 = .ok (.lload_n 2, 1) := by decide +kernel
theorem dX0_drawBelow_35 : decode cX0_drawBelow 35 = .ok (.ldc2_w 94, 3) := by decide +kernel
theorem dX0_drawBelow_38 : decode cX0_drawBelow 38 = .ok (.ldiv, 1) := by decide +kernel
theorem dX0_drawBelow_39 : decode cX0_drawBelow 39 = .ok (.iload_n 1, 1) := by decide +kernel
theorem dX0_drawBelow_40 : decode cX0_drawBelow 40 = .ok (.i2l, 1) := by decide +kernel
theorem dX0_drawBelow_41 : decode cX0_drawBelow 41 = .ok (.lrem, 1) := by decide +kernel
theorem dX0_drawBelow_42 : decode cX0_drawBelow 42 = .ok (.l2i, 1) := by decide +kernel
theorem dX0_drawBelow_43 : decode cX0_drawBelow 43 = .ok (.goto 4, 3) := by decide +kernel
theorem dX0_drawBelow_46 : decode cX0_drawBelow 46 = .ok (.iconst 0, 1) := by decide +kernel
theorem dX0_drawBelow_47 : decode cX0_drawBelow 47 = .ok (.ireturn, 1) := by decide +kernel
theorem dX0_spinReels_0 : decode cX0_spinReels 0 = .ok (.aload_n 0, 1) := by decide +kernel
theorem dX0_spinReels_1 : decode cX0_spinReels 1 = .ok (.getfield 9, 3) := by decide +kernel
theorem dX0_spinReels_4 : decode cX0_spinReels 4 = .ok (.bipush 10, 2) := by decide +kernel
theorem dX0_spinReels_6 : decode cX0_spinReels 6 = .ok (.iaload, 1) := by decide +kernel
theorem dX0_spinReels_7 : decode cX0_spinReels 7 = .ok (.ifCond .le 7, 3) := by decide +kernel
theorem dX0_spinReels_10 : decode cX0_spinReels 10 = .ok (.iconst 4, 1) := by decide +kernel
theorem dX0_spinReels_11 : decode cX0_spinReels 11 = .ok (.goto 5, 3) := by decide +kernel
theorem dX0_spinReels_14 : decode cX0_spinReels 14 = .ok (.bipush 8, 2) := by decide +kernel
theorem dX0_spinReels_16 : decode cX0_spinReels 16 = .ok (.istore_n 1, 1) := by decide +kernel
theorem dX0_spinReels_17 : decode cX0_spinReels 17 = .ok (.aload_n 0, 1) := by decide +kernel
theorem dX0_spinReels_18 : decode cX0_spinReels 18 = .ok (.getfield 9, 3) := by decide +kernel
theorem dX0_spinReels_21 : decode cX0_spinReels 21 = .ok (.bipush 10, 2) := by decide +kernel
theorem dX0_spinReels_23 : decode cX0_spinReels 23 = .ok (.iaload, 1) := by decide +kernel
theorem dX0_spinReels_24 : decode cX0_spinReels 24 = .ok (.ifCond .le 14, 3) := by decide +kernel
theorem dX0_spinReels_27 : decode cX0_spinReels 27 = .ok (.aload_n 0, 1) := by decide +kernel
theorem dX0_spinReels_28 : decode cX0_spinReels 28 = .ok (.getfield 9, 3) := by decide +kernel
theorem dX0_spinReels_31 : decode cX0_spinReels 31 = .ok (.bipush 10, 2) := by decide +kernel
theorem dX0_spinReels_33 : decode cX0_spinReels 33 = .ok (.dup2, 1) := by decide +kernel
theorem dX0_spinReels_34 : decode cX0_spinReels 34 = .ok (.iaload, 1) := by decide +kernel
theorem dX0_spinReels_35 : decode cX0_spinReels 35 = .ok (.iconst 1, 1) := by decide +kernel
theorem dX0_spinReels_36 : decode cX0_spinReels 36 = .ok (.isub, 1) := by decide +kernel
theorem dX0_spinReels_37 : decode cX0_spinReels 37 = .ok (.iastore, 1) := by decide +kernel
theorem dX0_spinReels_38 : decode cX0_spinReels 38 = .ok (.iconst 0, 1) := by decide +kernel
theorem dX0_spinReels_39 : decode cX0_spinReels 39 = .ok (.istore_n 2, 1) := by decide +kernel
theorem dX0_spinReels_40 : decode cX0_spinReels 40 = .ok (.iload_n 2, 1) := by decide +kernel
theorem dX0_spinReels_41 : decode cX0_spinReels 41 = .ok (.iconst 3, 1) := by decide +kernel
theorem dX0_spinReels_42 : decode cX0_spinReels 42 = .ok (.if_icmp .ge 20, 3) := by decide +kernel
theorem dX0_spinReels_45 : decode cX0_spinReels 45 = .ok (.aload_n 0, 1) := by decide +kernel
theorem dX0_spinReels_46 : decode cX0_spinReels 46 = .ok (.getfield 39, 3) := by decide +kernel
theorem dX0_spinReels_49 : decode cX0_spinReels 49 = .ok (.iload_n 2, 1) := by decide +kernel
theorem dX0_spinReels_50 : decode cX0_spinReels 50 = .ok (.aload_n 0, 1) := by decide +kernel
theorem dX0_spinReels_51 : decode cX0_spinReels 51 = .ok (.iload_n 1, 1) := by decide +kernel
theorem dX0_spinReels_52 : decode cX0_spinReels 52 = .ok (.invokevirtual 96, 3) := by decide +kernel
theorem dX0_spinReels_55 : decode cX0_spinReels 55 = .ok (.iastore, 1) := by decide +kernel
theorem dX0_spinReels_56 : decode cX0_spinReels 56 = .ok (.iinc 2 1, 3) := by decide +kernel
theorem dX0_spinReels_59 : decode cX0_spinReels 59 = .ok (.goto (-19), 3) := by decide +kernel
theorem dX0_spinReels_62 : decode cX0_spinReels 62 = .ok (.aload_n 0, 1) := by decide +kernel
theorem dX0_spinReels_63 : decode cX0_spinReels 63 = .ok (.getfield 9, 3) := by decide +kernel
theorem dX0_spinReels_66 : decode cX0_spinReels 66 = .ok (.bipush 7, 2) := by decide +kernel
theorem dX0_spinReels_68 : decode cX0_spinReels 68 = .ok (.dup2, 1) := by decide +kernel
theorem dX0_spinReels_69 : decode cX0_spinReels 69 = .ok (.iaload, 1) := by decide +kernel
theorem dX0_spinReels_70 : decode cX0_spinReels 70 = .ok (.iconst 1, 1) := by decide +kernel
theorem dX0_spinReels_71 : decode cX0_spinReels 71 = .ok (.iadd, 1) := by decide +kernel
theorem dX0_spinReels_72 : decode cX0_spinReels 72 = .ok (.iastore, 1) := by decide +kernel
theorem dX0_spinReels_73 : decode cX0_spinReels 73 = .ok (.aload_n 0, 1) := by decide +kernel
theorem dX0_spinReels_74 : decode cX0_spinReels 74 = .ok (.getfield 39, 3) := by decide +kernel
theorem dX0_spinReels_77 : decode cX0_spinReels 77 = .ok (.iconst 0, 1) := by decide +kernel
theorem dX0_spinReels_78 : decode cX0_spinReels 78 = .ok (.iaload, 1) := by decide +kernel
theorem dX0_spinReels_79 : decode cX0_spinReels 79 = .ok (.aload_n 0, 1) := by decide +kernel
theorem dX0_spinReels_80 : decode cX0_spinReels 80 = .ok (.getfield 39, 3) := by decide +kernel
theorem dX0_spinReels_83 : decode cX0_spinReels 83 = .ok (.iconst 1, 1) := by decide +kernel
theorem dX0_spinReels_84 : decode cX0_spinReels 84 = .ok (.iaload, 1) := by decide +kernel
theorem dX0_spinReels_85 : decode cX0_spinReels 85 = .ok (.if_icmp .ne 60, 3) := by decide +kernel
theorem dX0_spinReels_88 : decode cX0_spinReels 88 = .ok (.aload_n 0, 1) := by decide +kernel
theorem dX0_spinReels_89 : decode cX0_spinReels 89 = .ok (.getfield 39, 3) := by decide +kernel
theorem dX0_spinReels_92 : decode cX0_spinReels 92 = .ok (.iconst 1, 1) := by decide +kernel
theorem dX0_spinReels_93 : decode cX0_spinReels 93 = .ok (.iaload, 1) := by decide +kernel
theorem dX0_spinReels_94 : decode cX0_spinReels 94 = .ok (.aload_n 0, 1) := by decide +kernel
theorem dX0_spinReels_95 : decode cX0_spinReels 95 = .ok (.getfield 39, 3) := by decide +kernel
theorem dX0_spinReels_98 : decode cX0_spinReels 98 = .ok (.iconst 2, 1) := by decide +kernel
theorem dX0_spinReels_99 : decode cX0_spinReels 99 = .ok (.iaload, 1) := by decide +kernel
theorem dX0_spinReels_100 : decode cX0_spinReels 100 = .ok (.if_icmp .ne 45, 3) := by decide +kernel
theorem dX0_spinReels_103 : decode cX0_spinReels 103 = .ok (.aload_n 0, 1) := by decide +kernel
theorem dX0_spinReels_104 : decode cX0_spinReels 104 = .ok (.getfield 9, 3) := by decide +kernel
theorem dX0_spinReels_107 : decode cX0_spinReels 107 = .ok (.bipush 8, 2) := by decide +kernel
theorem dX0_spinReels_109 : decode cX0_spinReels 109 = .ok (.dup2, 1) := by decide +kernel
theorem dX0_spinReels_110 : decode cX0_spinReels 110 = .ok (.iaload, 1) := by decide +kernel
theorem dX0_spinReels_111 : decode cX0_spinReels 111 = .ok (.iconst 1, 1) := by decide +kernel
theorem dX0_spinReels_112 : decode cX0_spinReels 112 = .ok (.iadd, 1) := by decide +kernel
theorem dX0_spinReels_113 : decode cX0_spinReels 113 = .ok (.iastore, 1) := by decide +kernel
theorem dX0_spinReels_114 : decode cX0_spinReels 114 = .ok (.aload_n 0, 1) := by decide +kernel
theorem dX0_spinReels_115 : decode cX0_spinReels 115 = .ok (.getfield 9, 3) := by decide +kernel
theorem dX0_spinReels_118 : decode cX0_spinReels 118 = .ok (.bipush 9, 2) := by decide +kernel
theorem dX0_spinReels_120 : decode cX0_spinReels 120 = .ok (.aload_n 0, 1) := by decide +kernel
theorem dX0_spinReels_121 : decode cX0_spinReels 121 = .ok (.getfield 9, 3) := by decide +kernel
theorem dX0_spinReels_124 : decode cX0_spinReels 124 = .ok (.bipush 14, 2) := by decide +kernel
theorem dX0_spinReels_126 : decode cX0_spinReels 126 = .ok (.iaload, 1) := by decide +kernel
theorem dX0_spinReels_127 : decode cX0_spinReels 127 = .ok (.iastore, 1) := by decide +kernel
theorem dX0_spinReels_128 : decode cX0_spinReels 128 = .ok (.aload_n 0, 1) := by decide +kernel
theorem dX0_spinReels_129 : decode cX0_spinReels 129 = .ok (.getfield 9, 3) := by decide +kernel
theorem dX0_spinReels_132 : decode cX0_spinReels 132 = .ok (.bipush 10, 2) := by decide +kernel
theorem dX0_spinReels_134 : decode cX0_spinReels 134 = .ok (.aload_n 0, 1) := by decide +kernel
theorem dX0_spinReels_135 : decode cX0_spinReels 135 = .ok (.getfield 9, 3) := by decide +kernel
theorem dX0_spinReels_138 : decode cX0_spinReels 138 = .ok (.bipush 15, 2) := by decide +kernel
theorem dX0_spinReels_140 : decode cX0_spinReels 140 = .ok (.iaload, 1) := by decide +kernel
theorem dX0_spinReels_141 : decode cX0_spinReels 141 = .ok (.iastore, 1) := by decide +kernel
theorem dX0_spinReels_142 : decode cX0_spinReels 142 = .ok (.goto 11, 3) := by decide +kernel
theorem dX0_spinReels_145 : decode cX0_spinReels 145 = .ok (.aload_n 0, 1) := by decide +kernel
theorem dX0_spinReels_146 : decode cX0_spinReels 146 = .ok (.getfield 9, 3) := by decide +kernel
theorem dX0_spinReels_149 : decode cX0_spinReels 149 = .ok (.bipush 9, 2) := by decide +kernel
theorem dX0_spinReels_151 : decode cX0_spinReels 151 = .ok (.iconst 0, 1) := by decide +kernel
theorem dX0_spinReels_152 : decode cX0_spinReels 152 = .ok (.iastore, 1) := by decide +kernel
theorem dX0_spinReels_153 : decode cX0_spinReels 153 = .ok (.return_, 1) := by decide +kernel
theorem dX0_fallFrom_0 : decode cX0_fallFrom 0 = .ok (.iload_n 1, 1) := by decide +kernel
theorem dX0_fallFrom_1 : decode cX0_fallFrom 1 = .ok (.istore_n 2, 1) := by decide +kernel
theorem dX0_fallFrom_2 : decode cX0_fallFrom 2 = .ok (.iconst 0, 1) := by decide +kernel
theorem dX0_fallFrom_3 : decode cX0_fallFrom 3 = .ok (.istore_n 3, 1) := by decide +kernel
theorem dX0_fallFrom_4 : decode cX0_fallFrom 4 = .ok (.iload_n 3, 1) := by decide +kernel
theorem dX0_fallFrom_5 : decode cX0_fallFrom 5 = .ok (.bipush 8, 2) := by decide +kernel
theorem dX0_fallFrom_7 : decode cX0_fallFrom 7 = .ok (.if_icmp .ge 61, 3) := by decide +kernel
theorem dX0_fallFrom_10 : decode cX0_fallFrom 10 = .ok (.iload_n 3, 1) := by decide +kernel
theorem dX0_fallFrom_11 : decode cX0_fallFrom 11 = .ok (.bipush 7, 2) := by decide +kernel
theorem dX0_fallFrom_13 : decode cX0_fallFrom 13 = .ok (.imul, 1) := by decide +kernel
theorem dX0_fallFrom_14 : decode cX0_fallFrom 14 = .ok (.iload_n 2, 1) := by decide +kernel
theorem dX0_fallFrom_15 : decode cX0_fallFrom 15 = .ok (.iadd, 1) := by decide +kernel
theorem dX0_fallFrom_16 : decode cX0_fallFrom 16 = .ok (.istore 4, 2) := by decide +kernel
theorem dX0_fallFrom_18 : decode cX0_fallFrom 18 = .ok (.aload_n 0, 1) := by decide +kernel
theorem dX0_fallFrom_19 : decode cX0_fallFrom 19 = .ok (.getfield 21, 3) := by decide +kernel
theorem dX0_fallFrom_22 : decode cX0_fallFrom 22 = .ok (.iload_n 3, 1) := by decide +kernel
theorem dX0_fallFrom_23 : decode cX0_fallFrom 23 = .ok (.iload 4, 2) := by decide +kernel
theorem dX0_fallFrom_25 : decode cX0_fallFrom 25 = .ok (.iastore, 1) := by decide +kernel
theorem dX0_fallFrom_26 : decode cX0_fallFrom 26 = .ok (.aload_n 0, 1) := by decide +kernel
theorem dX0_fallFrom_27 : decode cX0_fallFrom 27 = .ok (.getfield 15, 3) := by decide +kernel
theorem dX0_fallFrom_30 : decode cX0_fallFrom 30 = .ok (.iload 4, 2) := by decide +kernel
theorem dX0_fallFrom_32 : decode cX0_fallFrom 32 = .ok (.iaload, 1) := by decide +kernel
theorem dX0_fallFrom_33 : decode cX0_fallFrom 33 = .ok (.istore 5, 2) := by decide +kernel
theorem dX0_fallFrom_35 : decode cX0_fallFrom 35 = .ok (.iload 5, 2) := by decide +kernel
theorem dX0_fallFrom_37 : decode cX0_fallFrom 37 = .ok (.ifCond .ne 18, 3) := by decide +kernel
theorem dX0_fallFrom_40 : decode cX0_fallFrom 40 = .ok (.aload_n 0, 1) := by decide +kernel
theorem dX0_fallFrom_41 : decode cX0_fallFrom 41 = .ok (.iconst 2, 1) := by decide +kernel
theorem dX0_fallFrom_42 : decode cX0_fallFrom 42 = .ok (.invokevirtual 96, 3) := by decide +kernel
theorem dX0_fallFrom_45 : decode cX0_fallFrom 45 = .ok (.ifCond .ne 7, 3) := by decide +kernel
theorem dX0_fallFrom_48 : decode cX0_fallFrom 48 = .ok (.iconst (-1), 1) := by decide +kernel
theorem dX0_fallFrom_49 : decode cX0_fallFrom 49 = .ok (.goto 4, 3) := by decide +kernel
theorem dX0_fallFrom_52 : decode cX0_fallFrom 52 = .ok (.iconst 1, 1) := by decide +kernel
theorem dX0_fallFrom_53 : decode cX0_fallFrom 53 = .ok (.istore 5, 2) := by decide +kernel
theorem dX0_fallFrom_55 : decode cX0_fallFrom 55 = .ok (.iload_n 2, 1) := by decide +kernel
theorem dX0_fallFrom_56 : decode cX0_fallFrom 56 = .ok (.iload 5, 2) := by decide +kernel
theorem dX0_fallFrom_58 : decode cX0_fallFrom 58 = .ok (.invokestatic 99, 3) := by decide +kernel
theorem dX0_fallFrom_61 : decode cX0_fallFrom 61 = .ok (.istore_n 2, 1) := by decide +kernel
theorem dX0_fallFrom_62 : decode cX0_fallFrom 62 = .ok (.iinc 3 1, 3) := by decide +kernel
theorem dX0_fallFrom_65 : decode cX0_fallFrom 65 = .ok (.goto (-61), 3) := by decide +kernel
theorem dX0_fallFrom_68 : decode cX0_fallFrom 68 = .ok (.iload_n 2, 1) := by decide +kernel
theorem dX0_fallFrom_69 : decode cX0_fallFrom 69 = .ok (.ireturn, 1) := by decide +kernel
theorem dX0_comeTo_0 : decode cX0_comeTo 0 = .ok (.aload_n 0, 1) := by decide +kernel
theorem dX0_comeTo_1 : decode cX0_comeTo 1 = .ok (.iload_n 1, 1) := by decide +kernel
theorem dX0_comeTo_2 : decode cX0_comeTo 2 = .ok (.invokevirtual 67, 3) := by decide +kernel
theorem dX0_comeTo_5 : decode cX0_comeTo 5 = .ok (.istore_n 2, 1) := by decide +kernel
theorem dX0_comeTo_6 : decode cX0_comeTo 6 = .ok (.aload_n 0, 1) := by decide +kernel
theorem dX0_comeTo_7 : decode cX0_comeTo 7 = .ok (.getfield 33, 3) := by decide +kernel
theorem dX0_comeTo_10 : decode cX0_comeTo 10 = .ok (.iload_n 1, 1) := by decide +kernel
theorem dX0_comeTo_11 : decode cX0_comeTo 11 = .ok (.dup2, 1) := by decide +kernel
theorem dX0_comeTo_12 : decode cX0_comeTo 12 = .ok (.iaload, 1) := by decide +kernel
theorem dX0_comeTo_13 : decode cX0_comeTo 13 = .ok (.iconst 1, 1) := by decide +kernel
theorem dX0_comeTo_14 : decode cX0_comeTo 14 = .ok (.iadd, 1) := by decide +kernel
theorem dX0_comeTo_15 : decode cX0_comeTo 15 = .ok (.iastore, 1) := by decide +kernel
theorem dX0_comeTo_16 : decode cX0_comeTo 16 = .ok (.aload_n 0, 1) := by decide +kernel
theorem dX0_comeTo_17 : decode cX0_comeTo 17 = .ok (.getfield 24, 3) := by decide +kernel
theorem dX0_comeTo_20 : decode cX0_comeTo 20 = .ok (.iload_n 1, 1) := by decide +kernel
theorem dX0_comeTo_21 : decode cX0_comeTo 21 = .ok (.iaload, 1) := by decide +kernel
theorem dX0_comeTo_22 : decode cX0_comeTo 22 = .ok (.iconst 2, 1) := by decide +kernel
theorem dX0_comeTo_23 : decode cX0_comeTo 23 = .ok (.if_icmp .ne 21, 3) := by decide +kernel
theorem dX0_comeTo_26 : decode cX0_comeTo 26 = .ok (.aload_n 0, 1) := by decide +kernel
theorem dX0_comeTo_27 : decode cX0_comeTo 27 = .ok (.getfield 30, 3) := by decide +kernel
theorem dX0_comeTo_30 : decode cX0_comeTo 30 = .ok (.iload_n 1, 1) := by decide +kernel
theorem dX0_comeTo_31 : decode cX0_comeTo 31 = .ok (.iload_n 2, 1) := by decide +kernel
theorem dX0_comeTo_32 : decode cX0_comeTo 32 = .ok (.ifCond .eq 7, 3) := by decide +kernel
theorem dX0_comeTo_35 : decode cX0_comeTo 35 = .ok (.iconst 0, 1) := by decide +kernel
theorem dX0_comeTo_36 : decode cX0_comeTo 36 = .ok (.goto 4, 3) := by decide +kernel
theorem dX0_comeTo_39 : decode cX0_comeTo 39 = .ok (.iconst 1, 1) := by decide +kernel
theorem dX0_comeTo_40 : decode cX0_comeTo 40 = .ok (.iastore, 1) := by decide +kernel
theorem dX0_comeTo_41 : decode cX0_comeTo 41 = .ok (.goto 28, 3) := by decide +kernel
theorem dX0_comeTo_44 : decode cX0_comeTo 44 = .ok (.aload_n 0, 1) := by decide +kernel
theorem dX0_comeTo_45 : decode cX0_comeTo 45 = .ok (.getfield 24, 3) := by decide +kernel
theorem dX0_comeTo_48 : decode cX0_comeTo 48 = .ok (.iload_n 1, 1) := by decide +kernel
theorem dX0_comeTo_49 : decode cX0_comeTo 49 = .ok (.iaload, 1) := by decide +kernel
theorem dX0_comeTo_50 : decode cX0_comeTo 50 = .ok (.iconst 1, 1) := by decide +kernel
theorem dX0_comeTo_51 : decode cX0_comeTo 51 = .ok (.if_icmp .ne 18, 3) := by decide +kernel
theorem dX0_comeTo_54 : decode cX0_comeTo 54 = .ok (.iload_n 2, 1) := by decide +kernel
theorem dX0_comeTo_55 : decode cX0_comeTo 55 = .ok (.ifCond .eq 14, 3) := by decide +kernel
theorem dX0_comeTo_58 : decode cX0_comeTo 58 = .ok (.aload_n 0, 1) := by decide +kernel
theorem dX0_comeTo_59 : decode cX0_comeTo 59 = .ok (.getfield 9, 3) := by decide +kernel
theorem dX0_comeTo_62 : decode cX0_comeTo 62 = .ok (.bipush 9, 2) := by decide +kernel
theorem dX0_comeTo_64 : decode cX0_comeTo 64 = .ok (.dup2, 1) := by decide +kernel
theorem dX0_comeTo_65 : decode cX0_comeTo 65 = .ok (.iaload, 1) := by decide +kernel
theorem dX0_comeTo_66 : decode cX0_comeTo 66 = .ok (.iconst 1, 1) := by decide +kernel
theorem dX0_comeTo_67 : decode cX0_comeTo 67 = .ok (.isub, 1) := by decide +kernel
theorem dX0_comeTo_68 : decode cX0_comeTo 68 = .ok (.iastore, 1) := by decide +kernel
theorem dX0_comeTo_69 : decode cX0_comeTo 69 = .ok (.iload_n 2, 1) := by decide +kernel
theorem dX0_comeTo_70 : decode cX0_comeTo 70 = .ok (.ifCond .ne 15, 3) := by decide +kernel
theorem dX0_comeTo_73 : decode cX0_comeTo 73 = .ok (.aload_n 0, 1) := by decide +kernel
theorem dX0_comeTo_74 : decode cX0_comeTo 74 = .ok (.getfield 9, 3) := by decide +kernel
theorem dX0_comeTo_77 : decode cX0_comeTo 77 = .ok (.iconst 4, 1) := by decide +kernel
theorem dX0_comeTo_78 : decode cX0_comeTo 78 = .ok (.dup2, 1) := by decide +kernel
theorem dX0_comeTo_79 : decode cX0_comeTo 79 = .ok (.iaload, 1) := by decide +kernel
theorem dX0_comeTo_80 : decode cX0_comeTo 80 = .ok (.iconst 1, 1) := by decide +kernel
theorem dX0_comeTo_81 : decode cX0_comeTo 81 = .ok (.iadd, 1) := by decide +kernel
theorem dX0_comeTo_82 : decode cX0_comeTo 82 = .ok (.iastore, 1) := by decide +kernel
theorem dX0_comeTo_83 : decode cX0_comeTo 83 = .ok (.iconst 0, 1) := by decide +kernel
theorem dX0_comeTo_84 : decode cX0_comeTo 84 = .ok (.ireturn, 1) := by decide +kernel
theorem dX0_comeTo_85 : decode cX0_comeTo 85 = .ok (.aload_n 0, 1) := by decide +kernel
theorem dX0_comeTo_86 : decode cX0_comeTo 86 = .ok (.iload_n 1, 1) := by decide +kernel
theorem dX0_comeTo_87 : decode cX0_comeTo 87 = .ok (.invokevirtual 103, 3) := by decide +kernel
theorem dX0_comeTo_90 : decode cX0_comeTo 90 = .ok (.ireturn, 1) := by decide +kernel
theorem dX0_payFrom_0 : decode cX0_payFrom 0 = .ok (.aload_n 0, 1) := by decide +kernel
theorem dX0_payFrom_1 : decode cX0_payFrom 1 = .ok (.getfield 27, 3) := by decide +kernel
theorem dX0_payFrom_4 : decode cX0_payFrom 4 = .ok (.iload_n 1, 1) := by decide +kernel
theorem dX0_payFrom_5 : decode cX0_payFrom 5 = .ok (.iaload, 1) := by decide +kernel
theorem dX0_payFrom_6 : decode cX0_payFrom 6 = .ok (.istore_n 2, 1) := by decide +kernel
theorem dX0_payFrom_7 : decode cX0_payFrom 7 = .ok (.iload_n 2, 1) := by decide +kernel
theorem dX0_payFrom_8 : decode cX0_payFrom 8 = .ok (.ifCond .ne 13, 3) := by decide +kernel
theorem dX0_payFrom_11 : decode cX0_payFrom 11 = .ok (.aload_n 0, 1) := by decide +kernel
theorem dX0_payFrom_12 : decode cX0_payFrom 12 = .ok (.getfield 9, 3) := by decide +kernel
theorem dX0_payFrom_15 : decode cX0_payFrom 15 = .ok (.iconst 5, 1) := by decide +kernel
theorem dX0_payFrom_16 : decode cX0_payFrom 16 = .ok (.dup2, 1) := by decide +kernel
theorem dX0_payFrom_17 : decode cX0_payFrom 17 = .ok (.iaload, 1) := by decide +kernel
theorem dX0_payFrom_18 : decode cX0_payFrom 18 = .ok (.iconst 1, 1) := by decide +kernel
theorem dX0_payFrom_19 : decode cX0_payFrom 19 = .ok (.iadd, 1) := by decide +kernel
theorem dX0_payFrom_20 : decode cX0_payFrom 20 = .ok (.iastore, 1) := by decide +kernel
theorem dX0_payFrom_21 : decode cX0_payFrom 21 = .ok (.aload_n 0, 1) := by decide +kernel
theorem dX0_payFrom_22 : decode cX0_payFrom 22 = .ok (.getfield 9, 3) := by decide +kernel
theorem dX0_payFrom_25 : decode cX0_payFrom 25 = .ok (.iconst 0, 1) := by decide +kernel
theorem dX0_payFrom_26 : decode cX0_payFrom 26 = .ok (.dup2, 1) := by decide +kernel
theorem dX0_payFrom_27 : decode cX0_payFrom 27 = .ok (.iaload, 1) := by decide +kernel
theorem dX0_payFrom_28 : decode cX0_payFrom 28 = .ok (.iload_n 2, 1) := by decide +kernel
theorem dX0_payFrom_29 : decode cX0_payFrom 29 = .ok (.iadd, 1) := by decide +kernel
theorem dX0_payFrom_30 : decode cX0_payFrom 30 = .ok (.iastore, 1) := by decide +kernel
theorem dX0_payFrom_31 : decode cX0_payFrom 31 = .ok (.aload_n 0, 1) := by decide +kernel
theorem dX0_payFrom_32 : decode cX0_payFrom 32 = .ok (.getfield 9, 3) := by decide +kernel
theorem dX0_payFrom_35 : decode cX0_payFrom 35 = .ok (.iconst 3, 1) := by decide +kernel
theorem dX0_payFrom_36 : decode cX0_payFrom 36 = .ok (.dup2, 1) := by decide +kernel
theorem dX0_payFrom_37 : decode cX0_payFrom 37 = .ok (.iaload, 1) := by decide +kernel
theorem dX0_payFrom_38 : decode cX0_payFrom 38 = .ok (.iload_n 2, 1) := by decide +kernel
theorem dX0_payFrom_39 : decode cX0_payFrom 39 = .ok (.iadd, 1) := by decide +kernel
theorem dX0_payFrom_40 : decode cX0_payFrom 40 = .ok (.iastore, 1) := by decide +kernel
theorem dX0_payFrom_41 : decode cX0_payFrom 41 = .ok (.aload_n 0, 1) := by decide +kernel
theorem dX0_payFrom_42 : decode cX0_payFrom 42 = .ok (.getfield 36, 3) := by decide +kernel
theorem dX0_payFrom_45 : decode cX0_payFrom 45 = .ok (.iload_n 1, 1) := by decide +kernel
theorem dX0_payFrom_46 : decode cX0_payFrom 46 = .ok (.dup2, 1) := by decide +kernel
theorem dX0_payFrom_47 : decode cX0_payFrom 47 = .ok (.iaload, 1) := by decide +kernel
theorem dX0_payFrom_48 : decode cX0_payFrom 48 = .ok (.iload_n 2, 1) := by decide +kernel
theorem dX0_payFrom_49 : decode cX0_payFrom 49 = .ok (.iadd, 1) := by decide +kernel
theorem dX0_payFrom_50 : decode cX0_payFrom 50 = .ok (.iastore, 1) := by decide +kernel
theorem dX0_payFrom_51 : decode cX0_payFrom 51 = .ok (.iload_n 2, 1) := by decide +kernel
theorem dX0_payFrom_52 : decode cX0_payFrom 52 = .ok (.ireturn, 1) := by decide +kernel
theorem dX1_init_0 : decode cX1_init 0 = .ok (.aload_n 0, 1) := by decide +kernel
theorem dX1_init_1 : decode cX1_init 1 = .ok (.invokespecial 3, 3) := by decide +kernel
theorem dX1_init_4 : decode cX1_init 4 = .ok (.aload_n 0, 1) := by decide +kernel
theorem dX1_init_5 : decode cX1_init 5 = .ok (.bipush 6, 2) := by decide +kernel
theorem dX1_init_7 : decode cX1_init 7 = .ok (.anewarray 9, 3) := by decide +kernel
theorem dX1_init_10 : decode cX1_init 10 = .ok (.putfield 11, 3) := by decide +kernel
theorem dX1_init_13 : decode cX1_init 13 = .ok (.aload_n 0, 1) := by decide +kernel
theorem dX1_init_14 : decode cX1_init 14 = .ok (.iconst 0, 1) := by decide +kernel
theorem dX1_init_15 : decode cX1_init 15 = .ok (.putfield 17, 3) := by decide +kernel
theorem dX1_init_18 : decode cX1_init 18 = .ok (.aload_n 0, 1) := by decide +kernel
theorem dX1_init_19 : decode cX1_init 19 = .ok (.iconst 0, 1) := by decide +kernel
theorem dX1_init_20 : decode cX1_init 20 = .ok (.putfield 21, 3) := by decide +kernel
theorem dX1_init_23 : decode cX1_init 23 = .ok (.return_, 1) := by decide +kernel
theorem dX1_save_0 : decode cX1_save 0 = .ok (.aload_n 0, 1) := by decide +kernel
theorem dX1_save_1 : decode cX1_save 1 = .ok (.getfield 17, 3) := by decide +kernel
theorem dX1_save_4 : decode cX1_save 4 = .ok (.aload_n 0, 1) := by decide +kernel
theorem dX1_save_5 : decode cX1_save 5 = .ok (.getfield 21, 3) := by decide +kernel
theorem dX1_save_8 : decode cX1_save 8 = .ok (.iadd, 1) := by decide +kernel
theorem dX1_save_9 : decode cX1_save 9 = .ok (.bipush 6, 2) := by decide +kernel
theorem dX1_save_11 : decode cX1_save 11 = .ok (.irem, 1) := by decide +kernel
theorem dX1_save_12 : decode cX1_save 12 = .ok (.istore_n 2, 1) := by decide +kernel
theorem dX1_save_13 : decode cX1_save 13 = .ok (.aload_n 0, 1) := by decide +kernel
theorem dX1_save_14 : decode cX1_save 14 = .ok (.getfield 11, 3) := by decide +kernel
theorem dX1_save_17 : decode cX1_save 17 = .ok (.iload_n 2, 1) := by decide +kernel
theorem dX1_save_18 : decode cX1_save 18 = .ok (.aaload, 1) := by decide +kernel
theorem dX1_save_19 : decode cX1_save 19 = .ok (.ifnonnull 16, 3) := by decide +kernel
theorem dX1_save_22 : decode cX1_save 22 = .ok (.aload_n 0, 1) := by decide +kernel
theorem dX1_save_23 : decode cX1_save 23 = .ok (.getfield 11, 3) := by decide +kernel
theorem dX1_save_26 : decode cX1_save 26 = .ok (.iload_n 2, 1) := by decide +kernel
theorem dX1_save_27 : decode cX1_save 27 = .ok (.new 9, 3) := by decide +kernel
theorem dX1_save_30 : decode cX1_save 30 = .ok (.dup, 1) := by decide +kernel
theorem dX1_save_31 : decode cX1_save 31 = .ok (.invokespecial 24, 3) := by decide +kernel
theorem dX1_save_34 : decode cX1_save 34 = .ok (.aastore, 1) := by decide +kernel
theorem dX1_save_35 : decode cX1_save 35 = .ok (.aload_n 0, 1) := by decide +kernel
theorem dX1_save_36 : decode cX1_save 36 = .ok (.getfield 11, 3) := by decide +kernel
theorem dX1_save_39 : decode cX1_save 39 = .ok (.iload_n 2, 1) := by decide +kernel
theorem dX1_save_40 : decode cX1_save 40 = .ok (.aaload, 1) := by decide +kernel
theorem dX1_save_41 : decode cX1_save 41 = .ok (.aload_n 1, 1) := by decide +kernel
theorem dX1_save_42 : decode cX1_save 42 = .ok (.invokevirtual 25, 3) := by decide +kernel
theorem dX1_save_45 : decode cX1_save 45 = .ok (.aload_n 0, 1) := by decide +kernel
theorem dX1_save_46 : decode cX1_save 46 = .ok (.getfield 21, 3) := by decide +kernel
theorem dX1_save_49 : decode cX1_save 49 = .ok (.bipush 6, 2) := by decide +kernel
theorem dX1_save_51 : decode cX1_save 51 = .ok (.if_icmp .ge 16, 3) := by decide +kernel
theorem dX1_save_54 : decode cX1_save 54 = .ok (.aload_n 0, 1) := by decide +kernel
theorem dX1_save_55 : decode cX1_save 55 = .ok (.dup, 1) := by decide +kernel
theorem dX1_save_56 : decode cX1_save 56 = .ok (.getfield 21, 3) := by decide +kernel
theorem dX1_save_59 : decode cX1_save 59 = .ok (.iconst 1, 1) := by decide +kernel
theorem dX1_save_60 : decode cX1_save 60 = .ok (.iadd, 1) := by decide +kernel
theorem dX1_save_61 : decode cX1_save 61 = .ok (.putfield 21, 3) := by decide +kernel
theorem dX1_save_64 : decode cX1_save 64 = .ok (.goto 16, 3) := by decide +kernel
theorem dX1_save_67 : decode cX1_save 67 = .ok (.aload_n 0, 1) := by decide +kernel
theorem dX1_save_68 : decode cX1_save 68 = .ok (.aload_n 0, 1) := by decide +kernel
theorem dX1_save_69 : decode cX1_save 69 = .ok (.getfield 17, 3) := by decide +kernel
theorem dX1_save_72 : decode cX1_save 72 = .ok (.iconst 1, 1) := by decide +kernel
theorem dX1_save_73 : decode cX1_save 73 = .ok (.iadd, 1) := by decide +kernel
theorem dX1_save_74 : decode cX1_save 74 = .ok (.bipush 6, 2) := by decide +kernel
theorem dX1_save_76 : decode cX1_save 76 = .ok (.irem, 1) := by decide +kernel
theorem dX1_save_77 : decode cX1_save 77 = .ok (.putfield 17, 3) := by decide +kernel
theorem dX1_save_80 : decode cX1_save 80 = .ok (.return_, 1) := by decide +kernel
theorem dX1_takeLatest_0 : decode cX1_takeLatest 0 = .ok (.aload_n 0, 1) := by decide +kernel
theorem dX1_takeLatest_1 : decode cX1_takeLatest 1 = .ok (.getfield 21, 3) := by decide +kernel
theorem dX1_takeLatest_4 : decode cX1_takeLatest 4 = .ok (.ifCond .ne 5, 3) := by decide +kernel
theorem dX1_takeLatest_7 : decode cX1_takeLatest 7 = .ok (.iconst 0, 1) := by decide +kernel
theorem dX1_takeLatest_8 : decode cX1_takeLatest 8 = .ok (.ireturn, 1) := by decide +kernel
theorem dX1_takeLatest_9 : decode cX1_takeLatest 9 = .ok (.aload_n 0, 1) := by decide +kernel
theorem dX1_takeLatest_10 : decode cX1_takeLatest 10 = .ok (.getfield 11, 3) := by decide +kernel
theorem dX1_takeLatest_13 : decode cX1_takeLatest 13 = .ok (.aload_n 0, 1) := by decide +kernel
theorem dX1_takeLatest_14 : decode cX1_takeLatest 14 = .ok (.getfield 17, 3) := by decide +kernel
theorem dX1_takeLatest_17 : decode cX1_takeLatest 17 = .ok (.aload_n 0, 1) := by decide +kernel
theorem dX1_takeLatest_18 : decode cX1_takeLatest 18 = .ok (.getfield 21, 3) := by decide +kernel
theorem dX1_takeLatest_21 : decode cX1_takeLatest 21 = .ok (.iadd, 1) := by decide +kernel
theorem dX1_takeLatest_22 : decode cX1_takeLatest 22 = .ok (.iconst 1, 1) := by decide +kernel
theorem dX1_takeLatest_23 : decode cX1_takeLatest 23 = .ok (.isub, 1) := by decide +kernel
theorem dX1_takeLatest_24 : decode cX1_takeLatest 24 = .ok (.bipush 6, 2) := by decide +kernel
theorem dX1_takeLatest_26 : decode cX1_takeLatest 26 = .ok (.irem, 1) := by decide +kernel
theorem dX1_takeLatest_27 : decode cX1_takeLatest 27 = .ok (.aaload, 1) := by decide +kernel
theorem dX1_takeLatest_28 : decode cX1_takeLatest 28 = .ok (.astore_n 2, 1) := by decide +kernel
theorem dX1_takeLatest_29 : decode cX1_takeLatest 29 = .ok (.aload_n 2, 1) := by decide +kernel
theorem dX1_takeLatest_30 : decode cX1_takeLatest 30 = .ok (.ifnonnull 5, 3) := by decide +kernel
theorem dX1_takeLatest_33 : decode cX1_takeLatest 33 = .ok (.iconst 0, 1) := by decide +kernel
theorem dX1_takeLatest_34 : decode cX1_takeLatest 34 = .ok (.ireturn, 1) := by decide +kernel
theorem dX1_takeLatest_35 : decode cX1_takeLatest 35 = .ok (.aload_n 1, 1) := by decide +kernel
theorem dX1_takeLatest_36 : decode cX1_takeLatest 36 = .ok (.aload_n 2, 1) := by decide +kernel
theorem dX1_takeLatest_37 : decode cX1_takeLatest 37 = .ok (.invokevirtual 25, 3) := by decide +kernel
theorem dX1_takeLatest_40 : decode cX1_takeLatest 40 = .ok (.aload_n 0, 1) := by decide +kernel
theorem dX1_takeLatest_41 : decode cX1_takeLatest 41 = .ok (.dup, 1) := by decide +kernel
theorem dX1_takeLatest_42 : decode cX1_takeLatest 42 = .ok (.getfield 21, 3) := by decide +kernel
theorem dX1_takeLatest_45 : decode cX1_takeLatest 45 = .ok (.iconst 1, 1) := by decide +kernel
theorem dX1_takeLatest_46 : decode cX1_takeLatest 46 = .ok (.isub, 1) := by decide +kernel
theorem dX1_takeLatest_47 : decode cX1_takeLatest 47 = .ok (.putfield 21, 3) := by decide +kernel
theorem dX1_takeLatest_50 : decode cX1_takeLatest 50 = .ok (.iconst 1, 1) := by decide +kernel
theorem dX1_takeLatest_51 : decode cX1_takeLatest 51 = .ok (.ireturn, 1) := by decide +kernel
theorem dX2_init_0 : decode cX2_init 0 = .ok (.aload_n 0, 1) := by decide +kernel
theorem dX2_init_1 : decode cX2_init 1 = .ok (.invokespecial 3, 3) := by decide +kernel
theorem dX2_init_4 : decode cX2_init 4 = .ok (.aload_n 0, 1) := by decide +kernel
theorem dX2_init_5 : decode cX2_init 5 = .ok (.bipush 7, 2) := by decide +kernel
theorem dX2_init_7 : decode cX2_init 7 = .ok (.newarray .int, 2) := by decide +kernel
theorem dX2_init_9 : decode cX2_init 9 = .ok (.putfield 9, 3) := by decide +kernel
theorem dX2_init_12 : decode cX2_init 12 = .ok (.aload_n 0, 1) := by decide +kernel
theorem dX2_init_13 : decode cX2_init 13 = .ok (.bipush 7, 2) := by decide +kernel
theorem dX2_init_15 : decode cX2_init 15 = .ok (.newarray .int, 2) := by decide +kernel
theorem dX2_init_17 : decode cX2_init 17 = .ok (.putfield 15, 3) := by decide +kernel
theorem dX2_init_20 : decode cX2_init 20 = .ok (.aload_n 0, 1) := by decide +kernel
theorem dX2_init_21 : decode cX2_init 21 = .ok (.bipush 7, 2) := by decide +kernel
theorem dX2_init_23 : decode cX2_init 23 = .ok (.newarray .int, 2) := by decide +kernel
theorem dX2_init_25 : decode cX2_init 25 = .ok (.putfield 18, 3) := by decide +kernel
theorem dX2_init_28 : decode cX2_init 28 = .ok (.return_, 1) := by decide +kernel
theorem dX2_countByRows_0 : decode cX2_countByRows 0 = .ok (.aload_n 0, 1) := by decide +kernel
theorem dX2_countByRows_1 : decode cX2_countByRows 1 = .ok (.getfield 9, 3) := by decide +kernel
theorem dX2_countByRows_4 : decode cX2_countByRows 4 = .ok (.iconst 0, 1) := by decide +kernel
theorem dX2_countByRows_5 : decode cX2_countByRows 5 = .ok (.invokestatic 21, 3) := by decide +kernel
theorem dX2_countByRows_8 : decode cX2_countByRows 8 = .ok (.aload_n 0, 1) := by decide +kernel
theorem dX2_countByRows_9 : decode cX2_countByRows 9 = .ok (.getfield 9, 3) := by decide +kernel
theorem dX2_countByRows_12 : decode cX2_countByRows 12 = .ok (.iload_n 2, 1) := by decide +kernel
theorem dX2_countByRows_13 : decode cX2_countByRows 13 = .ok (.iconst 1, 1) := by decide +kernel
theorem dX2_countByRows_14 : decode cX2_countByRows 14 = .ok (.iastore, 1) := by decide +kernel
theorem dX2_countByRows_15 : decode cX2_countByRows 15 = .ok (.iconst 0, 1) := by decide +kernel
theorem dX2_countByRows_16 : decode cX2_countByRows 16 = .ok (.istore_n 3, 1) := by decide +kernel
theorem dX2_countByRows_17 : decode cX2_countByRows 17 = .ok (.iload_n 3, 1) := by decide +kernel
theorem dX2_countByRows_18 : decode cX2_countByRows 18 = .ok (.bipush 8, 2) := by decide +kernel
theorem dX2_countByRows_20 : decode cX2_countByRows 20 = .ok (.if_icmp .ge 15, 3) := by decide +kernel
theorem dX2_countByRows_23 : decode cX2_countByRows 23 = .ok (.aload_n 0, 1) := by decide +kernel
theorem dX2_countByRows_24 : decode cX2_countByRows 24 = .ok (.aload_n 1, 1) := by decide +kernel
theorem dX2_countByRows_25 : decode cX2_countByRows 25 = .ok (.iload_n 3, 1) := by decide +kernel
theorem dX2_countByRows_26 : decode cX2_countByRows 26 = .ok (.invokevirtual 27, 3) := by decide +kernel
theorem dX2_countByRows_29 : decode cX2_countByRows 29 = .ok (.iinc 3 1, 3) := by decide +kernel
theorem dX2_countByRows_32 : decode cX2_countByRows 32 = .ok (.goto (-15), 3) := by decide +kernel
theorem dX2_countByRows_35 : decode cX2_countByRows 35 = .ok (.return_, 1) := by decide +kernel
theorem dX2_countRow_0 : decode cX2_countRow 0 = .ok (.aload_n 0, 1) := by decide +kernel
theorem dX2_countRow_1 : decode cX2_countRow 1 = .ok (.getfield 18, 3) := by decide +kernel
theorem dX2_countRow_4 : decode cX2_countRow 4 = .ok (.iconst 0, 1) := by decide +kernel
theorem dX2_countRow_5 : decode cX2_countRow 5 = .ok (.invokestatic 21, 3) := by decide +kernel
theorem dX2_countRow_8 : decode cX2_countRow 8 = .ok (.iconst 0, 1) := by decide +kernel
theorem dX2_countRow_9 : decode cX2_countRow 9 = .ok (.istore_n 3, 1) := by decide +kernel
theorem dX2_countRow_10 : decode cX2_countRow 10 = .ok (.iload_n 3, 1) := by decide +kernel
theorem dX2_countRow_11 : decode cX2_countRow 11 = .ok (.bipush 7, 2) := by decide +kernel
theorem dX2_countRow_13 : decode cX2_countRow 13 = .ok (.if_icmp .ge 67, 3) := by decide +kernel
theorem dX2_countRow_16 : decode cX2_countRow 16 = .ok (.aload_n 1, 1) := by decide +kernel
theorem dX2_countRow_17 : decode cX2_countRow 17 = .ok (.iload_n 2, 1) := by decide +kernel
theorem dX2_countRow_18 : decode cX2_countRow 18 = .ok (.bipush 7, 2) := by decide +kernel
theorem dX2_countRow_20 : decode cX2_countRow 20 = .ok (.imul, 1) := by decide +kernel
theorem dX2_countRow_21 : decode cX2_countRow 21 = .ok (.iload_n 3, 1) := by decide +kernel
theorem dX2_countRow_22 : decode cX2_countRow 22 = .ok (.iadd, 1) := by decide +kernel
theorem dX2_countRow_23 : decode cX2_countRow 23 = .ok (.iaload, 1) := by decide +kernel
theorem dX2_countRow_24 : decode cX2_countRow 24 = .ok (.istore 4, 2) := by decide +kernel
theorem dX2_countRow_26 : decode cX2_countRow 26 = .ok (.iload 4, 2) := by decide +kernel
theorem dX2_countRow_28 : decode cX2_countRow 28 = .ok (.ifCond .gt 22, 3) := by decide +kernel
theorem dX2_countRow_31 : decode cX2_countRow 31 = .ok (.aload_n 0, 1) := by decide +kernel
theorem dX2_countRow_32 : decode cX2_countRow 32 = .ok (.getfield 18, 3) := by decide +kernel
theorem dX2_countRow_35 : decode cX2_countRow 35 = .ok (.iload_n 3, 1) := by decide +kernel
theorem dX2_countRow_36 : decode cX2_countRow 36 = .ok (.iconst (-1), 1) := by decide +kernel
theorem dX2_countRow_37 : decode cX2_countRow 37 = .ok (.invokestatic 30, 3) := by decide +kernel
theorem dX2_countRow_40 : decode cX2_countRow 40 = .ok (.dup2, 1) := by decide +kernel
theorem dX2_countRow_41 : decode cX2_countRow 41 = .ok (.iaload, 1) := by decide +kernel
theorem dX2_countRow_42 : decode cX2_countRow 42 = .ok (.aload_n 0, 1) := by decide +kernel
theorem dX2_countRow_43 : decode cX2_countRow 43 = .ok (.getfield 9, 3) := by decide +kernel
theorem dX2_countRow_46 : decode cX2_countRow 46 = .ok (.iload_n 3, 1) := by decide +kernel
theorem dX2_countRow_47 : decode cX2_countRow 47 = .ok (.iaload, 1) := by decide +kernel
theorem dX2_countRow_48 : decode cX2_countRow 48 = .ok (.iadd, 1) := by decide +kernel
theorem dX2_countRow_49 : decode cX2_countRow 49 = .ok (.iastore, 1) := by decide +kernel
theorem dX2_countRow_50 : decode cX2_countRow 50 = .ok (.iload 4, 2) := by decide +kernel
theorem dX2_countRow_52 : decode cX2_countRow 52 = .ok (.ifCond .lt 22, 3) := by decide +kernel
theorem dX2_countRow_55 : decode cX2_countRow 55 = .ok (.aload_n 0, 1) := by decide +kernel
theorem dX2_countRow_56 : decode cX2_countRow 56 = .ok (.getfield 18, 3) := by decide +kernel
theorem dX2_countRow_59 : decode cX2_countRow 59 = .ok (.iload_n 3, 1) := by decide +kernel
theorem dX2_countRow_60 : decode cX2_countRow 60 = .ok (.iconst 1, 1) := by decide +kernel
theorem dX2_countRow_61 : decode cX2_countRow 61 = .ok (.invokestatic 30, 3) := by decide +kernel
theorem dX2_countRow_64 : decode cX2_countRow 64 = .ok (.dup2, 1) := by decide +kernel
theorem dX2_countRow_65 : decode cX2_countRow 65 = .ok (.iaload, 1) := by decide +kernel
theorem dX2_countRow_66 : decode cX2_countRow 66 = .ok (.aload_n 0, 1) := by decide +kernel
theorem dX2_countRow_67 : decode cX2_countRow 67 = .ok (.getfield 9, 3) := by decide +kernel
theorem dX2_countRow_70 : decode cX2_countRow 70 = .ok (.iload_n 3, 1) := by decide +kernel
theorem dX2_countRow_71 : decode cX2_countRow 71 = .ok (.iaload, 1) := by decide +kernel
theorem dX2_countRow_72 : decode cX2_countRow 72 = .ok (.iadd, 1) := by decide +kernel
theorem dX2_countRow_73 : decode cX2_countRow 73 = .ok (.iastore, 1) := by decide +kernel
theorem dX2_countRow_74 : decode cX2_countRow 74 = .ok (.iinc 3 1, 3) := by decide +kernel
theorem dX2_countRow_77 : decode cX2_countRow 77 = .ok (.goto (-67), 3) := by decide +kernel
theorem dX2_countRow_80 : decode cX2_countRow 80 = .ok (.aload_n 0, 1) := by decide +kernel
theorem dX2_countRow_81 : decode cX2_countRow 81 = .ok (.getfield 18, 3) := by decide +kernel
theorem dX2_countRow_84 : decode cX2_countRow 84 = .ok (.iconst 0, 1) := by decide +kernel
theorem dX2_countRow_85 : decode cX2_countRow 85 = .ok (.aload_n 0, 1) := by decide +kernel
theorem dX2_countRow_86 : decode cX2_countRow 86 = .ok (.getfield 9, 3) := by decide +kernel
theorem dX2_countRow_89 : decode cX2_countRow 89 = .ok (.iconst 0, 1) := by decide +kernel
theorem dX2_countRow_90 : decode cX2_countRow 90 = .ok (.bipush 7, 2) := by decide +kernel
theorem dX2_countRow_92 : decode cX2_countRow 92 = .ok (.invokestatic 34, 3) := by decide +kernel
theorem dX2_countRow_95 : decode cX2_countRow 95 = .ok (.return_, 1) := by decide +kernel
theorem dX2_goAllWays_0 : decode cX2_goAllWays 0 = .ok (.aload_n 0, 1) := by decide +kernel
theorem dX2_goAllWays_1 : decode cX2_goAllWays 1 = .ok (.getfield 15, 3) := by decide +kernel
theorem dX2_goAllWays_4 : decode cX2_goAllWays 4 = .ok (.iconst 0, 1) := by decide +kernel
theorem dX2_goAllWays_5 : decode cX2_goAllWays 5 = .ok (.invokestatic 21, 3) := by decide +kernel
theorem dX2_goAllWays_8 : decode cX2_goAllWays 8 = .ok (.aload_n 1, 1) := by decide +kernel
theorem dX2_goAllWays_9 : decode cX2_goAllWays 9 = .ok (.iconst 0, 1) := by decide +kernel
theorem dX2_goAllWays_10 : decode cX2_goAllWays 10 = .ok (.iload_n 2, 1) := by decide +kernel
theorem dX2_goAllWays_11 : decode cX2_goAllWays 11 = .ok (.aload_n 0, 1) := by decide +kernel
theorem dX2_goAllWays_12 : decode cX2_goAllWays 12 = .ok (.getfield 15, 3) := by decide +kernel
theorem dX2_goAllWays_15 : decode cX2_goAllWays 15 = .ok (.invokestatic 40, 3) := by decide +kernel
theorem dX2_goAllWays_18 : decode cX2_goAllWays 18 = .ok (.return_, 1) := by decide +kernel
theorem dX2_goOn_0 : decode cX2_goOn 0 = .ok (.iload_n 1, 1) := by decide +kernel
theorem dX2_goOn_1 : decode cX2_goOn 1 = .ok (.bipush 8, 2) := by decide +kernel
theorem dX2_goOn_3 : decode cX2_goOn 3 = .ok (.if_icmp .lt 11, 3) := by decide +kernel
theorem dX2_goOn_6 : decode cX2_goOn 6 = .ok (.aload_n 3, 1) := by decide +kernel
theorem dX2_goOn_7 : decode cX2_goOn 7 = .ok (.iload_n 2, 1) := by decide +kernel
theorem dX2_goOn_8 : decode cX2_goOn 8 = .ok (.dup2, 1) := by decide +kernel
theorem dX2_goOn_9 : decode cX2_goOn 9 = .ok (.iaload, 1) := by decide +kernel
theorem dX2_goOn_10 : decode cX2_goOn 10 = .ok (.iconst 1, 1) := by decide +kernel
theorem dX2_goOn_11 : decode cX2_goOn 11 = .ok (.iadd, 1) := by decide +kernel
theorem dX2_goOn_12 : decode cX2_goOn 12 = .ok (.iastore, 1) := by decide +kernel
theorem dX2_goOn_13 : decode cX2_goOn 13 = .ok (.return_, 1) := by decide +kernel
theorem dX2_goOn_14 : decode cX2_goOn 14 = .ok (.aload_n 0, 1) := by decide +kernel
theorem dX2_goOn_15 : decode cX2_goOn 15 = .ok (.iload_n 1, 1) := by decide +kernel
theorem dX2_goOn_16 : decode cX2_goOn 16 = .ok (.bipush 7, 2) := by decide +kernel
theorem dX2_goOn_18 : decode cX2_goOn 18 = .ok (.imul, 1) := by decide +kernel
theorem dX2_goOn_19 : decode cX2_goOn 19 = .ok (.iload_n 2, 1) := by decide +kernel
theorem dX2_goOn_20 : decode cX2_goOn 20 = .ok (.iadd, 1) := by decide +kernel
theorem dX2_goOn_21 : decode cX2_goOn 21 = .ok (.iaload, 1) := by decide +kernel
theorem dX2_goOn_22 : decode cX2_goOn 22 = .ok (.istore 4, 2) := by decide +kernel
theorem dX2_goOn_24 : decode cX2_goOn 24 = .ok (.iload 4, 2) := by decide +kernel
theorem dX2_goOn_26 : decode cX2_goOn 26 = .ok (.ifCond .gt 16, 3) := by decide +kernel
theorem dX2_goOn_29 : decode cX2_goOn 29 = .ok (.aload_n 0, 1) := by decide +kernel
theorem dX2_goOn_30 : decode cX2_goOn 30 = .ok (.iload_n 1, 1) := by decide +kernel
theorem dX2_goOn_31 : decode cX2_goOn 31 = .ok (.iconst 1, 1) := by decide +kernel
theorem dX2_goOn_32 : decode cX2_goOn 32 = .ok (.iadd, 1) := by decide +kernel
theorem dX2_goOn_33 : decode cX2_goOn 33 = .ok (.iload_n 2, 1) := by decide +kernel
theorem dX2_goOn_34 : decode cX2_goOn 34 = .ok (.iconst (-1), 1) := by decide +kernel
theorem dX2_goOn_35 : decode cX2_goOn 35 = .ok (.invokestatic 30, 3) := by decide +kernel
theorem dX2_goOn_38 : decode cX2_goOn 38 = .ok (.aload_n 3, 1) := by decide +kernel
theorem dX2_goOn_39 : decode cX2_goOn 39 = .ok (.invokestatic 40, 3) := by decide +kernel
theorem dX2_goOn_42 : decode cX2_goOn 42 = .ok (.iload 4, 2) := by decide +kernel
theorem dX2_goOn_44 : decode cX2_goOn 44 = .ok (.ifCond .lt 16, 3) := by decide +kernel
theorem dX2_goOn_47 : decode cX2_goOn 47 = .ok (.aload_n 0, 1) := by decide +kernel
theorem dX2_goOn_48 : decode cX2_goOn 48 = .ok (.iload_n 1, 1) := by decide +kernel
theorem dX2_goOn_49 : decode cX2_goOn 49 = .ok (.iconst 1, 1) := by decide +kernel
theorem dX2_goOn_50 : decode cX2_goOn 50 = .ok (.iadd, 1) := by decide +kernel
theorem dX2_goOn_51 : decode cX2_goOn 51 = .ok (.iload_n 2, 1) := by decide +kernel
theorem dX2_goOn_52 : decode cX2_goOn 52 = .ok (.iconst 1, 1) := by decide +kernel
theorem dX2_goOn_53 : decode cX2_goOn 53 = .ok (.invokestatic 30, 3) := by decide +kernel
theorem dX2_goOn_56 : decode cX2_goOn 56 = .ok (.aload_n 3, 1) := by decide +kernel
theorem dX2_goOn_57 : decode cX2_goOn 57 = .ok (.invokestatic 40, 3) := by decide +kernel
theorem dX2_goOn_60 : decode cX2_goOn 60 = .ok (.return_, 1) := by decide +kernel
theorem dX3_init_0 : decode cX3_init 0 = .ok (.aload_n 0, 1) := by decide +kernel
theorem dX3_init_1 : decode cX3_init 1 = .ok (.invokespecial 3, 3) := by decide +kernel
theorem dX3_init_4 : decode cX3_init 4 = .ok (.aload_n 0, 1) := by decide +kernel
theorem dX3_init_5 : decode cX3_init 5 = .ok (.bipush 60, 2) := by decide +kernel
theorem dX3_init_7 : decode cX3_init 7 = .ok (.newarray .int, 2) := by decide +kernel
theorem dX3_init_9 : decode cX3_init 9 = .ok (.putfield 9, 3) := by decide +kernel
theorem dX3_init_12 : decode cX3_init 12 = .ok (.aload_n 0, 1) := by decide +kernel
theorem dX3_init_13 : decode cX3_init 13 = .ok (.iconst 0, 1) := by decide +kernel
theorem dX3_init_14 : decode cX3_init 14 = .ok (.putfield 15, 3) := by decide +kernel
theorem dX3_init_17 : decode cX3_init 17 = .ok (.return_, 1) := by decide +kernel
theorem dX3_add_0 : decode cX3_add 0 = .ok (.aload_n 0, 1) := by decide +kernel
theorem dX3_add_1 : decode cX3_add 1 = .ok (.getfield 15, 3) := by decide +kernel
theorem dX3_add_4 : decode cX3_add 4 = .ok (.bipush 60, 2) := by decide +kernel
theorem dX3_add_6 : decode cX3_add 6 = .ok (.if_icmp .lt 5, 3) := by decide +kernel
theorem dX3_add_9 : decode cX3_add 9 = .ok (.iconst 0, 1) := by decide +kernel
theorem dX3_add_10 : decode cX3_add 10 = .ok (.ireturn, 1) := by decide +kernel
theorem dX3_add_11 : decode cX3_add 11 = .ok (.aload_n 0, 1) := by decide +kernel
theorem dX3_add_12 : decode cX3_add 12 = .ok (.getfield 9, 3) := by decide +kernel
theorem dX3_add_15 : decode cX3_add 15 = .ok (.aload_n 0, 1) := by decide +kernel
theorem dX3_add_16 : decode cX3_add 16 = .ok (.getfield 15, 3) := by decide +kernel
theorem dX3_add_19 : decode cX3_add 19 = .ok (.iload_n 1, 1) := by decide +kernel
theorem dX3_add_20 : decode cX3_add 20 = .ok (.iastore, 1) := by decide +kernel
theorem dX3_add_21 : decode cX3_add 21 = .ok (.aload_n 0, 1) := by decide +kernel
theorem dX3_add_22 : decode cX3_add 22 = .ok (.dup, 1) := by decide +kernel
theorem dX3_add_23 : decode cX3_add 23 = .ok (.getfield 15, 3) := by decide +kernel
theorem dX3_add_26 : decode cX3_add 26 = .ok (.iconst 1, 1) := by decide +kernel
theorem dX3_add_27 : decode cX3_add 27 = .ok (.iadd, 1) := by decide +kernel
theorem dX3_add_28 : decode cX3_add 28 = .ok (.putfield 15, 3) := by decide +kernel
theorem dX3_add_31 : decode cX3_add 31 = .ok (.iconst 1, 1) := by decide +kernel
theorem dX3_add_32 : decode cX3_add 32 = .ok (.ireturn, 1) := by decide +kernel
theorem dX3_clear_0 : decode cX3_clear 0 = .ok (.aload_n 0, 1) := by decide +kernel
theorem dX3_clear_1 : decode cX3_clear 1 = .ok (.getfield 15, 3) := by decide +kernel
theorem dX3_clear_4 : decode cX3_clear 4 = .ok (.istore_n 1, 1) := by decide +kernel
theorem dX3_clear_5 : decode cX3_clear 5 = .ok (.aload_n 0, 1) := by decide +kernel
theorem dX3_clear_6 : decode cX3_clear 6 = .ok (.iconst 0, 1) := by decide +kernel
theorem dX3_clear_7 : decode cX3_clear 7 = .ok (.putfield 15, 3) := by decide +kernel
theorem dX3_clear_10 : decode cX3_clear 10 = .ok (.iload_n 1, 1) := by decide +kernel
theorem dX3_clear_11 : decode cX3_clear 11 = .ok (.ireturn, 1) := by decide +kernel
theorem dX3_placeOfError_0 : decode cX3_placeOfError 0 = .ok (.iconst 0, 1) := by decide +kernel
theorem dX3_placeOfError_1 : decode cX3_placeOfError 1 = .ok (.istore_n 1, 1) := by decide +kernel
theorem dX3_placeOfError_2 : decode cX3_placeOfError 2 = .ok (.iconst 0, 1) := by decide +kernel
theorem dX3_placeOfError_3 : decode cX3_placeOfError 3 = .ok (.istore_n 2, 1) := by decide +kernel
theorem dX3_placeOfError_4 : decode cX3_placeOfError 4 = .ok (.iload_n 2, 1) := by decide +kernel
theorem dX3_placeOfError_5 : decode cX3_placeOfError 5 = .ok (.aload_n 0, 1) := by decide +kernel
theorem dX3_placeOfError_6 : decode cX3_placeOfError 6 = .ok (.getfield 15, 3) := by decide +kernel
theorem dX3_placeOfError_9 : decode cX3_placeOfError 9 = .ok (.if_icmp .ge 27, 3) := by decide +kernel
theorem dX3_placeOfError_12 : decode cX3_placeOfError 12 = .ok (.iload_n 1, 1) := by decide +kernel
theorem dX3_placeOfError_13 : decode cX3_placeOfError 13 = .ok (.aload_n 0, 1) := by decide +kernel
theorem dX3_placeOfError_14 : decode cX3_placeOfError 14 = .ok (.getfield 9, 3) := by decide +kernel
theorem dX3_placeOfError_17 : decode cX3_placeOfError 17 = .ok (.iload_n 2, 1) := by decide +kernel
theorem dX3_placeOfError_18 : decode cX3_placeOfError 18 = .ok (.iaload, 1) := by decide +kernel
theorem dX3_placeOfError_19 : decode cX3_placeOfError 19 = .ok (.invokestatic 19, 3) := by decide +kernel
theorem dX3_placeOfError_22 : decode cX3_placeOfError 22 = .ok (.istore_n 1, 1) := by decide +kernel
theorem dX3_placeOfError_23 : decode cX3_placeOfError 23 = .ok (.iload_n 1, 1) := by decide +kernel
theorem dX3_placeOfError_24 : decode cX3_placeOfError 24 = .ok (.iconst (-1), 1) := by decide +kernel
theorem dX3_placeOfError_25 : decode cX3_placeOfError 25 = .ok (.if_icmp .ne 5, 3) := by decide +kernel
theorem dX3_placeOfError_28 : decode cX3_placeOfError 28 = .ok (.iload_n 2, 1) := by decide +kernel
theorem dX3_placeOfError_29 : decode cX3_placeOfError 29 = .ok (.ireturn, 1) := by decide +kernel
theorem dX3_placeOfError_30 : decode cX3_placeOfError 30 = .ok (.iinc 2 1, 3) := by decide +kernel
theorem dX3_placeOfError_33 : decode cX3_placeOfError 33 = .ok (.goto (-29), 3) := by decide +kernel
theorem dX3_placeOfError_36 : decode cX3_placeOfError 36 = .ok (.aload_n 0, 1) := by decide +kernel
theorem dX3_placeOfError_37 : decode cX3_placeOfError 37 = .ok (.getfield 15, 3) := by decide +kernel
theorem dX3_placeOfError_40 : decode cX3_placeOfError 40 = .ok (.ireturn, 1) := by decide +kernel
theorem dX3_isComplete_0 : decode cX3_isComplete 0 = .ok (.iconst 0, 1) := by decide +kernel
theorem dX3_isComplete_1 : decode cX3_isComplete 1 = .ok (.istore_n 1, 1) := by decide +kernel
theorem dX3_isComplete_2 : decode cX3_isComplete 2 = .ok (.iconst 0, 1) := by decide +kernel
theorem dX3_isComplete_3 : decode cX3_isComplete 3 = .ok (.istore_n 2, 1) := by decide +kernel
theorem dX3_isComplete_4 : decode cX3_isComplete 4 = .ok (.iload_n 2, 1) := by decide +kernel
theorem dX3_isComplete_5 : decode cX3_isComplete 5 = .ok (.aload_n 0, 1) := by decide +kernel
theorem dX3_isComplete_6 : decode cX3_isComplete 6 = .ok (.getfield 15, 3) := by decide +kernel
theorem dX3_isComplete_9 : decode cX3_isComplete 9 = .ok (.if_icmp .ge 20, 3) := by decide +kernel
theorem dX3_isComplete_12 : decode cX3_isComplete 12 = .ok (.iload_n 1, 1) := by decide +kernel
theorem dX3_isComplete_13 : decode cX3_isComplete 13 = .ok (.aload_n 0, 1) := by decide +kernel
theorem dX3_isComplete_14 : decode cX3_isComplete 14 = .ok (.getfield 9, 3) := by decide +kernel
theorem dX3_isComplete_17 : decode cX3_isComplete 17 = .ok (.iload_n 2, 1) := by decide +kernel
theorem dX3_isComplete_18 : decode cX3_isComplete 18 = .ok (.iaload, 1) := by decide +kernel
theorem dX3_isComplete_19 : decode cX3_isComplete 19 = .ok (.invokestatic 19, 3) := by decide +kernel
theorem dX3_isComplete_22 : decode cX3_isComplete 22 = .ok (.istore_n 1, 1) := by decide +kernel
theorem dX3_isComplete_23 : decode cX3_isComplete 23 = .ok (.iinc 2 1, 3) := by decide +kernel
theorem dX3_isComplete_26 : decode cX3_isComplete 26 = .ok (.goto (-22), 3) := by decide +kernel
theorem dX3_isComplete_29 : decode cX3_isComplete 29 = .ok (.iload_n 1, 1) := by decide +kernel
theorem dX3_isComplete_30 : decode cX3_isComplete 30 = .ok (.bipush 8, 2) := by decide +kernel
theorem dX3_isComplete_32 : decode cX3_isComplete 32 = .ok (.if_icmp .lt 7, 3) := by decide +kernel
theorem dX3_isComplete_35 : decode cX3_isComplete 35 = .ok (.iconst 1, 1) := by decide +kernel
theorem dX3_isComplete_36 : decode cX3_isComplete 36 = .ok (.goto 4, 3) := by decide +kernel
theorem dX3_isComplete_39 : decode cX3_isComplete 39 = .ok (.iconst 0, 1) := by decide +kernel
theorem dX3_isComplete_40 : decode cX3_isComplete 40 = .ok (.ireturn, 1) := by decide +kernel
theorem dX3_stateBehind_0 : decode cX3_stateBehind 0 = .ok (.iload_n 0, 1) := by decide +kernel
theorem dX3_stateBehind_1 : decode cX3_stateBehind 1 = .ok (.tableswitch 223 0 10 #[59, 64, 82, 94, 99, 117, 136, 161, 180, 202, 218], 59) := by decide +kernel
theorem dX3_stateBehind_60 : decode cX3_stateBehind 60 = .ok (.iload_n 1, 1) := by decide +kernel
theorem dX3_stateBehind_61 : decode cX3_stateBehind 61 = .ok (.invokestatic 23, 3) := by decide +kernel
theorem dX3_stateBehind_64 : decode cX3_stateBehind 64 = .ok (.ireturn, 1) := by decide +kernel
theorem dX3_stateBehind_65 : decode cX3_stateBehind 65 = .ok (.iload_n 1, 1) := by decide +kernel
theorem dX3_stateBehind_66 : decode cX3_stateBehind 66 = .ok (.bipush 48, 2) := by decide +kernel
theorem dX3_stateBehind_68 : decode cX3_stateBehind 68 = .ok (.if_icmp .lt 13, 3) := by decide +kernel
theorem dX3_stateBehind_71 : decode cX3_stateBehind 71 = .ok (.iload_n 1, 1) := by decide +kernel
theorem dX3_stateBehind_72 : decode cX3_stateBehind 72 = .ok (.bipush 54, 2) := by decide +kernel
theorem dX3_stateBehind_74 : decode cX3_stateBehind 74 = .ok (.if_icmp .gt 7, 3) := by decide +kernel
theorem dX3_stateBehind_77 : decode cX3_stateBehind 77 = .ok (.iconst 2, 1) := by decide +kernel
theorem dX3_stateBehind_78 : decode cX3_stateBehind 78 = .ok (.goto 4, 3) := by decide +kernel
theorem dX3_stateBehind_81 : decode cX3_stateBehind 81 = .ok (.iconst (-1), 1) := by decide +kernel
theorem dX3_stateBehind_82 : decode cX3_stateBehind 82 = .ok (.ireturn, 1) := by decide +kernel
theorem dX3_stateBehind_83 : decode cX3_stateBehind 83 = .ok (.iload_n 1, 1) := by decide +kernel
theorem dX3_stateBehind_84 : decode cX3_stateBehind 84 = .ok (.bipush 120, 2) := by decide +kernel
theorem dX3_stateBehind_86 : decode cX3_stateBehind 86 = .ok (.if_icmp .ne 7, 3) := by decide +kernel
theorem dX3_stateBehind_89 : decode cX3_stateBehind 89 = .ok (.iconst 3, 1) := by decide +kernel
theorem dX3_stateBehind_90 : decode cX3_stateBehind 90 = .ok (.goto 4, 3) := by decide +kernel
theorem dX3_stateBehind_93 : decode cX3_stateBehind 93 = .ok (.iconst (-1), 1) := by decide +kernel
theorem dX3_stateBehind_94 : decode cX3_stateBehind 94 = .ok (.ireturn, 1) := by decide +kernel
theorem dX3_stateBehind_95 : decode cX3_stateBehind 95 = .ok (.iload_n 1, 1) := by decide +kernel
theorem dX3_stateBehind_96 : decode cX3_stateBehind 96 = .ok (.invokestatic 27, 3) := by decide +kernel
theorem dX3_stateBehind_99 : decode cX3_stateBehind 99 = .ok (.ireturn, 1) := by decide +kernel
theorem dX3_stateBehind_100 : decode cX3_stateBehind 100 = .ok (.iload_n 1, 1) := by decide +kernel
theorem dX3_stateBehind_101 : decode cX3_stateBehind 101 = .ok (.bipush 48, 2) := by decide +kernel
theorem dX3_stateBehind_103 : decode cX3_stateBehind 103 = .ok (.if_icmp .lt 13, 3) := by decide +kernel
theorem dX3_stateBehind_106 : decode cX3_stateBehind 106 = .ok (.iload_n 1, 1) := by decide +kernel
theorem dX3_stateBehind_107 : decode cX3_stateBehind 107 = .ok (.bipush 55, 2) := by decide +kernel
theorem dX3_stateBehind_109 : decode cX3_stateBehind 109 = .ok (.if_icmp .gt 7, 3) := by decide +kernel
theorem dX3_stateBehind_112 : decode cX3_stateBehind 112 = .ok (.iconst 5, 1) := by decide +kernel
theorem dX3_stateBehind_113 : decode cX3_stateBehind 113 = .ok (.goto 4, 3) := by decide +kernel
theorem dX3_stateBehind_116 : decode cX3_stateBehind 116 = .ok (.iconst (-1), 1) := by decide +kernel
theorem dX3_stateBehind_117 : decode cX3_stateBehind 117 = .ok (.ireturn, 1) := by decide +kernel
theorem dX3_stateBehind_118 : decode cX3_stateBehind 118 = .ok (.iload_n 1, 1) := by decide +kernel
theorem dX3_stateBehind_119 : decode cX3_stateBehind 119 = .ok (.bipush 48, 2) := by decide +kernel
theorem dX3_stateBehind_121 : decode cX3_stateBehind 121 = .ok (.if_icmp .lt 14, 3) := by decide +kernel
theorem dX3_stateBehind_124 : decode cX3_stateBehind 124 = .ok (.iload_n 1, 1) := by decide +kernel
theorem dX3_stateBehind_125 : decode cX3_stateBehind 125 = .ok (.bipush 54, 2) := by decide +kernel
theorem dX3_stateBehind_127 : decode cX3_stateBehind 127 = .ok (.if_icmp .gt 8, 3) := by decide +kernel
theorem dX3_stateBehind_130 : decode cX3_stateBehind 130 = .ok (.bipush 6, 2) := by decide +kernel
theorem dX3_stateBehind_132 : decode cX3_stateBehind 132 = .ok (.goto 4, 3) := by decide +kernel
theorem dX3_stateBehind_135 : decode cX3_stateBehind 135 = .ok (.iconst (-1), 1) := by decide +kernel
theorem dX3_stateBehind_136 : decode cX3_stateBehind 136 = .ok (.ireturn, 1) := by decide +kernel
theorem dX3_stateBehind_137 : decode cX3_stateBehind 137 = .ok (.iload_n 1, 1) := by decide +kernel
theorem dX3_stateBehind_138 : decode cX3_stateBehind 138 = .ok (.bipush 60, 2) := by decide +kernel
theorem dX3_stateBehind_140 : decode cX3_stateBehind 140 = .ok (.if_icmp .eq 15, 3) := by decide +kernel
theorem dX3_stateBehind_143 : decode cX3_stateBehind 143 = .ok (.iload_n 1, 1) := by decide +kernel
theorem dX3_stateBehind_144 : decode cX3_stateBehind 144 = .ok (.bipush 124, 2) := by decide +kernel
theorem dX3_stateBehind_146 : decode cX3_stateBehind 146 = .ok (.if_icmp .eq 9, 3) := by decide +kernel
theorem dX3_stateBehind_149 : decode cX3_stateBehind 149 = .ok (.iload_n 1, 1) := by decide +kernel
theorem dX3_stateBehind_150 : decode cX3_stateBehind 150 = .ok (.bipush 62, 2) := by decide +kernel
theorem dX3_stateBehind_152 : decode cX3_stateBehind 152 = .ok (.if_icmp .ne 8, 3) := by decide +kernel
theorem dX3_stateBehind_155 : decode cX3_stateBehind 155 = .ok (.bipush 10, 2) := by decide +kernel
theorem dX3_stateBehind_157 : decode cX3_stateBehind 157 = .ok (.goto 4, 3) := by decide +kernel
theorem dX3_stateBehind_160 : decode cX3_stateBehind 160 = .ok (.iconst (-1), 1) := by decide +kernel
theorem dX3_stateBehind_161 : decode cX3_stateBehind 161 = .ok (.ireturn, 1) := by decide +kernel
theorem dX3_stateBehind_162 : decode cX3_stateBehind 162 = .ok (.iload_n 1, 1) := by decide +kernel
theorem dX3_stateBehind_163 : decode cX3_stateBehind 163 = .ok (.bipush 49, 2) := by decide +kernel
theorem dX3_stateBehind_165 : decode cX3_stateBehind 165 = .ok (.if_icmp .lt 14, 3) := by decide +kernel
theorem dX3_stateBehind_168 : decode cX3_stateBehind 168 = .ok (.iload_n 1, 1) := by decide +kernel
theorem dX3_stateBehind_169 : decode cX3_stateBehind 169 = .ok (.bipush 57, 2) := by decide +kernel
theorem dX3_stateBehind_171 : decode cX3_stateBehind 171 = .ok (.if_icmp .gt 8, 3) := by decide +kernel
theorem dX3_stateBehind_174 : decode cX3_stateBehind 174 = .ok (.bipush 8, 2) := by decide +kernel
theorem dX3_stateBehind_176 : decode cX3_stateBehind 176 = .ok (.goto 4, 3) := by decide +kernel
theorem dX3_stateBehind_179 : decode cX3_stateBehind 179 = .ok (.iconst (-1), 1) := by decide +kernel
theorem dX3_stateBehind_180 : decode cX3_stateBehind 180 = .ok (.ireturn, 1) := by decide +kernel
theorem dX3_stateBehind_181 : decode cX3_stateBehind 181 = .ok (.iload_n 1, 1) := by decide +kernel
theorem dX3_stateBehind_182 : decode cX3_stateBehind 182 = .ok (.bipush 48, 2) := by decide +kernel
theorem dX3_stateBehind_184 : decode cX3_stateBehind 184 = .ok (.if_icmp .lt 14, 3) := by decide +kernel
theorem dX3_stateBehind_187 : decode cX3_stateBehind 187 = .ok (.iload_n 1, 1) := by decide +kernel
theorem dX3_stateBehind_188 : decode cX3_stateBehind 188 = .ok (.bipush 57, 2) := by decide +kernel
theorem dX3_stateBehind_190 : decode cX3_stateBehind 190 = .ok (.if_icmp .gt 8, 3) := by decide +kernel
theorem dX3_stateBehind_193 : decode cX3_stateBehind 193 = .ok (.bipush 10, 2) := by decide +kernel
theorem dX3_stateBehind_195 : decode cX3_stateBehind 195 = .ok (.goto 7, 3) := by decide +kernel
theorem dX3_stateBehind_198 : decode cX3_stateBehind 198 = .ok (.iload_n 1, 1) := by decide +kernel
theorem dX3_stateBehind_199 : decode cX3_stateBehind 199 = .ok (.invokestatic 30, 3) := by decide +kernel
theorem dX3_stateBehind_202 : decode cX3_stateBehind 202 = .ok (.ireturn, 1) := by decide +kernel
theorem dX3_stateBehind_203 : decode cX3_stateBehind 203 = .ok (.iload_n 1, 1) := by decide +kernel
theorem dX3_stateBehind_204 : decode cX3_stateBehind 204 = .ok (.bipush 48, 2) := by decide +kernel
theorem dX3_stateBehind_206 : decode cX3_stateBehind 206 = .ok (.if_icmp .ne 8, 3) := by decide +kernel
theorem dX3_stateBehind_209 : decode cX3_stateBehind 209 = .ok (.bipush 10, 2) := by decide +kernel
theorem dX3_stateBehind_211 : decode cX3_stateBehind 211 = .ok (.goto 7, 3) := by decide +kernel
theorem dX3_stateBehind_214 : decode cX3_stateBehind 214 = .ok (.iload_n 1, 1) := by decide +kernel
theorem dX3_stateBehind_215 : decode cX3_stateBehind 215 = .ok (.invokestatic 30, 3) := by decide +kernel
theorem dX3_stateBehind_218 : decode cX3_stateBehind 218 = .ok (.ireturn, 1) := by decide +kernel
theorem dX3_stateBehind_219 : decode cX3_stateBehind 219 = .ok (.iload_n 1, 1) := by decide +kernel
theorem dX3_stateBehind_220 : decode cX3_stateBehind 220 = .ok (.invokestatic 30, 3) := by decide +kernel
theorem dX3_stateBehind_223 : decode cX3_stateBehind 223 = .ok (.ireturn, 1) := by decide +kernel
theorem dX3_stateBehind_224 : decode cX3_stateBehind 224 = .ok (.iconst (-1), 1) := by decide +kernel
theorem dX3_stateBehind_225 : decode cX3_stateBehind 225 = .ok (.ireturn, 1) := by decide +kernel
theorem dX3_stateBehindLetter_0 : decode cX3_stateBehindLetter 0 = .ok (.iload_n 0, 1) := by decide +kernel
theorem dX3_stateBehindLetter_1 : decode cX3_stateBehindLetter 1 = .ok (.lookupswitch 42 #[(36, 39), (98, 37), (108, 35)], 35) := by decide +kernel
theorem dX3_stateBehindLetter_36 : decode cX3_stateBehindLetter 36 = .ok (.iconst 1, 1) := by decide +kernel
theorem dX3_stateBehindLetter_37 : decode cX3_stateBehindLetter 37 = .ok (.ireturn, 1) := by decide +kernel
theorem dX3_stateBehindLetter_38 : decode cX3_stateBehindLetter 38 = .ok (.iconst 4, 1) := by decide +kernel
theorem dX3_stateBehindLetter_39 : decode cX3_stateBehindLetter 39 = .ok (.ireturn, 1) := by decide +kernel
theorem dX3_stateBehindLetter_40 : decode cX3_stateBehindLetter 40 = .ok (.bipush 7, 2) := by decide +kernel
theorem dX3_stateBehindLetter_42 : decode cX3_stateBehindLetter 42 = .ok (.ireturn, 1) := by decide +kernel
theorem dX3_stateBehindLetter_43 : decode cX3_stateBehindLetter 43 = .ok (.iconst (-1), 1) := by decide +kernel
theorem dX3_stateBehindLetter_44 : decode cX3_stateBehindLetter 44 = .ok (.ireturn, 1) := by decide +kernel
theorem dX3_stateBehindLaunchDigit_0 : decode cX3_stateBehindLaunchDigit 0 = .ok (.iload_n 0, 1) := by decide +kernel
theorem dX3_stateBehindLaunchDigit_1 : decode cX3_stateBehindLaunchDigit 1 = .ok (.bipush 49, 2) := by decide +kernel
theorem dX3_stateBehindLaunchDigit_3 : decode cX3_stateBehindLaunchDigit 3 = .ok (.if_icmp .eq 9, 3) := by decide +kernel
theorem dX3_stateBehindLaunchDigit_6 : decode cX3_stateBehindLaunchDigit 6 = .ok (.iload_n 0, 1) := by decide +kernel
theorem dX3_stateBehindLaunchDigit_7 : decode cX3_stateBehindLaunchDigit 7 = .ok (.bipush 50, 2) := by decide +kernel
theorem dX3_stateBehindLaunchDigit_9 : decode cX3_stateBehindLaunchDigit 9 = .ok (.if_icmp .ne 6, 3) := by decide +kernel
theorem dX3_stateBehindLaunchDigit_12 : decode cX3_stateBehindLaunchDigit 12 = .ok (.bipush 8, 2) := by decide +kernel
theorem dX3_stateBehindLaunchDigit_14 : decode cX3_stateBehindLaunchDigit 14 = .ok (.ireturn, 1) := by decide +kernel
theorem dX3_stateBehindLaunchDigit_15 : decode cX3_stateBehindLaunchDigit 15 = .ok (.iload_n 0, 1) := by decide +kernel
theorem dX3_stateBehindLaunchDigit_16 : decode cX3_stateBehindLaunchDigit 16 = .ok (.bipush 51, 2) := by decide +kernel
theorem dX3_stateBehindLaunchDigit_18 : decode cX3_stateBehindLaunchDigit 18 = .ok (.if_icmp .ne 6, 3) := by decide +kernel
theorem dX3_stateBehindLaunchDigit_21 : decode cX3_stateBehindLaunchDigit 21 = .ok (.bipush 9, 2) := by decide +kernel
theorem dX3_stateBehindLaunchDigit_23 : decode cX3_stateBehindLaunchDigit 23 = .ok (.ireturn, 1) := by decide +kernel
theorem dX3_stateBehindLaunchDigit_24 : decode cX3_stateBehindLaunchDigit 24 = .ok (.iload_n 0, 1) := by decide +kernel
theorem dX3_stateBehindLaunchDigit_25 : decode cX3_stateBehindLaunchDigit 25 = .ok (.bipush 52, 2) := by decide +kernel
theorem dX3_stateBehindLaunchDigit_27 : decode cX3_stateBehindLaunchDigit 27 = .ok (.if_icmp .lt 14, 3) := by decide +kernel
theorem dX3_stateBehindLaunchDigit_30 : decode cX3_stateBehindLaunchDigit 30 = .ok (.iload_n 0, 1) := by decide +kernel
theorem dX3_stateBehindLaunchDigit_31 : decode cX3_stateBehindLaunchDigit 31 = .ok (.bipush 57, 2) := by decide +kernel
theorem dX3_stateBehindLaunchDigit_33 : decode cX3_stateBehindLaunchDigit 33 = .ok (.if_icmp .gt 8, 3) := by decide +kernel
theorem dX3_stateBehindLaunchDigit_36 : decode cX3_stateBehindLaunchDigit 36 = .ok (.bipush 10, 2) := by decide +kernel
theorem dX3_stateBehindLaunchDigit_38 : decode cX3_stateBehindLaunchDigit 38 = .ok (.goto 4, 3) := by decide +kernel
theorem dX3_stateBehindLaunchDigit_41 : decode cX3_stateBehindLaunchDigit 41 = .ok (.iconst (-1), 1) := by decide +kernel
theorem dX3_stateBehindLaunchDigit_42 : decode cX3_stateBehindLaunchDigit 42 = .ok (.ireturn, 1) := by decide +kernel
theorem dX3_stateBehindEnd_0 : decode cX3_stateBehindEnd 0 = .ok (.iload_n 0, 1) := by decide +kernel
theorem dX3_stateBehindEnd_1 : decode cX3_stateBehindEnd 1 = .ok (.bipush 59, 2) := by decide +kernel
theorem dX3_stateBehindEnd_3 : decode cX3_stateBehindEnd 3 = .ok (.if_icmp .ne 7, 3) := by decide +kernel
theorem dX3_stateBehindEnd_6 : decode cX3_stateBehindEnd 6 = .ok (.iconst 0, 1) := by decide +kernel
theorem dX3_stateBehindEnd_7 : decode cX3_stateBehindEnd 7 = .ok (.goto 4, 3) := by decide +kernel
theorem dX3_stateBehindEnd_10 : decode cX3_stateBehindEnd 10 = .ok (.iconst (-1), 1) := by decide +kernel
theorem dX3_stateBehindEnd_11 : decode cX3_stateBehindEnd 11 = .ok (.ireturn, 1) := by decide +kernel
theorem dX3_codeAt_0 : decode cX3_codeAt 0 = .ok (.iload_n 1, 1) := by decide +kernel
theorem dX3_codeAt_1 : decode cX3_codeAt 1 = .ok (.ifCond .lt 20, 3) := by decide +kernel
theorem dX3_codeAt_4 : decode cX3_codeAt 4 = .ok (.iload_n 1, 1) := by decide +kernel
theorem dX3_codeAt_5 : decode cX3_codeAt 5 = .ok (.aload_n 0, 1) := by decide +kernel
theorem dX3_codeAt_6 : decode cX3_codeAt 6 = .ok (.getfield 15, 3) := by decide +kernel
theorem dX3_codeAt_9 : decode cX3_codeAt 9 = .ok (.if_icmp .ge 12, 3) := by decide +kernel
theorem dX3_codeAt_12 : decode cX3_codeAt 12 = .ok (.aload_n 0, 1) := by decide +kernel
theorem dX3_codeAt_13 : decode cX3_codeAt 13 = .ok (.getfield 9, 3) := by decide +kernel
theorem dX3_codeAt_16 : decode cX3_codeAt 16 = .ok (.iload_n 1, 1) := by decide +kernel
theorem dX3_codeAt_17 : decode cX3_codeAt 17 = .ok (.iaload, 1) := by decide +kernel
theorem dX3_codeAt_18 : decode cX3_codeAt 18 = .ok (.goto 4, 3) := by decide +kernel
theorem dX3_codeAt_21 : decode cX3_codeAt 21 = .ok (.iconst (-1), 1) := by decide +kernel
theorem dX3_codeAt_22 : decode cX3_codeAt 22 = .ok (.ireturn, 1) := by decide +kernel
theorem dX3_endsPart_0 : decode cX3_endsPart 0 = .ok (.iload_n 1, 1) := by decide +kernel
theorem dX3_endsPart_1 : decode cX3_endsPart 1 = .ok (.aload_n 0, 1) := by decide +kernel
theorem dX3_endsPart_2 : decode cX3_endsPart 2 = .ok (.getfield 15, 3) := by decide +kernel
theorem dX3_endsPart_5 : decode cX3_endsPart 5 = .ok (.if_icmp .eq 13, 3) := by decide +kernel
theorem dX3_endsPart_8 : decode cX3_endsPart 8 = .ok (.aload_n 0, 1) := by decide +kernel
theorem dX3_endsPart_9 : decode cX3_endsPart 9 = .ok (.iload_n 1, 1) := by decide +kernel
theorem dX3_endsPart_10 : decode cX3_endsPart 10 = .ok (.invokevirtual 33, 3) := by decide +kernel
theorem dX3_endsPart_13 : decode cX3_endsPart 13 = .ok (.bipush 59, 2) := by decide +kernel
theorem dX3_endsPart_15 : decode cX3_endsPart 15 = .ok (.if_icmp .ne 7, 3) := by decide +kernel
theorem dX3_endsPart_18 : decode cX3_endsPart 18 = .ok (.iconst 1, 1) := by decide +kernel
theorem dX3_endsPart_19 : decode cX3_endsPart 19 = .ok (.goto 4, 3) := by decide +kernel
theorem dX3_endsPart_22 : decode cX3_endsPart 22 = .ok (.iconst 0, 1) := by decide +kernel
theorem dX3_endsPart_23 : decode cX3_endsPart 23 = .ok (.ireturn, 1) := by decide +kernel
theorem dX3_digitAt_0 : decode cX3_digitAt 0 = .ok (.aload_n 0, 1) := by decide +kernel
theorem dX3_digitAt_1 : decode cX3_digitAt 1 = .ok (.iload_n 1, 1) := by decide +kernel
theorem dX3_digitAt_2 : decode cX3_digitAt 2 = .ok (.invokevirtual 33, 3) := by decide +kernel
theorem dX3_digitAt_5 : decode cX3_digitAt 5 = .ok (.istore_n 2, 1) := by decide +kernel
theorem dX3_digitAt_6 : decode cX3_digitAt 6 = .ok (.iload_n 2, 1) := by decide +kernel
theorem dX3_digitAt_7 : decode cX3_digitAt 7 = .ok (.bipush 48, 2) := by decide +kernel
theorem dX3_digitAt_9 : decode cX3_digitAt 9 = .ok (.if_icmp .lt 16, 3) := by decide +kernel
theorem dX3_digitAt_12 : decode cX3_digitAt 12 = .ok (.iload_n 2, 1) := by decide +kernel
theorem dX3_digitAt_13 : decode cX3_digitAt 13 = .ok (.bipush 57, 2) := by decide +kernel
theorem dX3_digitAt_15 : decode cX3_digitAt 15 = .ok (.if_icmp .gt 10, 3) := by decide +kernel
theorem dX3_digitAt_18 : decode cX3_digitAt 18 = .ok (.iload_n 2, 1) := by decide +kernel
theorem dX3_digitAt_19 : decode cX3_digitAt 19 = .ok (.bipush 48, 2) := by decide +kernel
theorem dX3_digitAt_21 : decode cX3_digitAt 21 = .ok (.isub, 1) := by decide +kernel
theorem dX3_digitAt_22 : decode cX3_digitAt 22 = .ok (.goto 4, 3) := by decide +kernel
theorem dX3_digitAt_25 : decode cX3_digitAt 25 = .ok (.iconst 0, 1) := by decide +kernel
theorem dX3_digitAt_26 : decode cX3_digitAt 26 = .ok (.ireturn, 1) := by decide +kernel
theorem dX3_numberIn_0 : decode cX3_numberIn 0 = .ok (.iconst 0, 1) := by decide +kernel
theorem dX3_numberIn_1 : decode cX3_numberIn 1 = .ok (.istore_n 3, 1) := by decide +kernel
theorem dX3_numberIn_2 : decode cX3_numberIn 2 = .ok (.iload_n 1, 1) := by decide +kernel
theorem dX3_numberIn_3 : decode cX3_numberIn 3 = .ok (.istore 4, 2) := by decide +kernel
theorem dX3_numberIn_5 : decode cX3_numberIn 5 = .ok (.iload 4, 2) := by decide +kernel
theorem dX3_numberIn_7 : decode cX3_numberIn 7 = .ok (.iload_n 2, 1) := by decide +kernel
theorem dX3_numberIn_8 : decode cX3_numberIn 8 = .ok (.if_icmp .ge 21, 3) := by decide +kernel
theorem dX3_numberIn_11 : decode cX3_numberIn 11 = .ok (.bipush 10, 2) := by decide +kernel
theorem dX3_numberIn_13 : decode cX3_numberIn 13 = .ok (.iload_n 3, 1) := by decide +kernel
theorem dX3_numberIn_14 : decode cX3_numberIn 14 = .ok (.imul, 1) := by decide +kernel
theorem dX3_numberIn_15 : decode cX3_numberIn 15 = .ok (.aload_n 0, 1) := by decide +kernel
theorem dX3_numberIn_16 : decode cX3_numberIn 16 = .ok (.iload 4, 2) := by decide +kernel
theorem dX3_numberIn_18 : decode cX3_numberIn 18 = .ok (.invokevirtual 36, 3) := by decide +kernel
theorem dX3_numberIn_21 : decode cX3_numberIn 21 = .ok (.iadd, 1) := by decide +kernel
theorem dX3_numberIn_22 : decode cX3_numberIn 22 = .ok (.istore_n 3, 1) := by decide +kernel
theorem dX3_numberIn_23 : decode cX3_numberIn 23 = .ok (.iinc 4 1, 3) := by decide +kernel
theorem dX3_numberIn_26 : decode cX3_numberIn 26 = .ok (.goto (-21), 3) := by decide +kernel
theorem dX3_numberIn_29 : decode cX3_numberIn 29 = .ok (.iload_n 3, 1) := by decide +kernel
theorem dX3_numberIn_30 : decode cX3_numberIn 30 = .ok (.ireturn, 1) := by decide +kernel
theorem dX3_bendAt_0 : decode cX3_bendAt 0 = .ok (.aload_n 0, 1) := by decide +kernel
theorem dX3_bendAt_1 : decode cX3_bendAt 1 = .ok (.iload_n 1, 1) := by decide +kernel
theorem dX3_bendAt_2 : decode cX3_bendAt 2 = .ok (.invokevirtual 33, 3) := by decide +kernel
theorem dX3_bendAt_5 : decode cX3_bendAt 5 = .ok (.lookupswitch 31 #[(60, 27), (62, 29)], 27) := by decide +kernel
theorem dX3_bendAt_32 : decode cX3_bendAt 32 = .ok (.iconst (-1), 1) := by decide +kernel
theorem dX3_bendAt_33 : decode cX3_bendAt 33 = .ok (.ireturn, 1) := by decide +kernel
theorem dX3_bendAt_34 : decode cX3_bendAt 34 = .ok (.iconst 1, 1) := by decide +kernel
theorem dX3_bendAt_35 : decode cX3_bendAt 35 = .ok (.ireturn, 1) := by decide +kernel
theorem dX3_bendAt_36 : decode cX3_bendAt 36 = .ok (.iconst 0, 1) := by decide +kernel
theorem dX3_bendAt_37 : decode cX3_bendAt 37 = .ok (.ireturn, 1) := by decide +kernel
theorem dX4_init_0 : decode cX4_init 0 = .ok (.aload_n 0, 1) := by decide +kernel
theorem dX4_init_1 : decode cX4_init 1 = .ok (.invokespecial 3, 3) := by decide +kernel
theorem dX4_init_4 : decode cX4_init 4 = .ok (.aload_n 0, 1) := by decide +kernel
theorem dX4_init_5 : decode cX4_init 5 = .ok (.new 9, 3) := by decide +kernel
theorem dX4_init_8 : decode cX4_init 8 = .ok (.dup, 1) := by decide +kernel
theorem dX4_init_9 : decode cX4_init 9 = .ok (.invokespecial 11, 3) := by decide +kernel
theorem dX4_init_12 : decode cX4_init 12 = .ok (.putfield 12, 3) := by decide +kernel
theorem dX4_init_15 : decode cX4_init 15 = .ok (.aload_n 0, 1) := by decide +kernel
theorem dX4_init_16 : decode cX4_init 16 = .ok (.new 9, 3) := by decide +kernel
theorem dX4_init_19 : decode cX4_init 19 = .ok (.dup, 1) := by decide +kernel
theorem dX4_init_20 : decode cX4_init 20 = .ok (.invokespecial 11, 3) := by decide +kernel
theorem dX4_init_23 : decode cX4_init 23 = .ok (.putfield 16, 3) := by decide +kernel
theorem dX4_init_26 : decode cX4_init 26 = .ok (.aload_n 0, 1) := by decide +kernel
theorem dX4_init_27 : decode cX4_init 27 = .ok (.new 19, 3) := by decide +kernel
theorem dX4_init_30 : decode cX4_init 30 = .ok (.dup, 1) := by decide +kernel
theorem dX4_init_31 : decode cX4_init 31 = .ok (.invokespecial 21, 3) := by decide +kernel
theorem dX4_init_34 : decode cX4_init 34 = .ok (.putfield 22, 3) := by decide +kernel
theorem dX4_init_37 : decode cX4_init 37 = .ok (.aload_n 0, 1) := by decide +kernel
theorem dX4_init_38 : decode cX4_init 38 = .ok (.new 26, 3) := by decide +kernel
theorem dX4_init_41 : decode cX4_init 41 = .ok (.dup, 1) := by decide +kernel
theorem dX4_init_42 : decode cX4_init 42 = .ok (.invokespecial 28, 3) := by decide +kernel
theorem dX4_init_45 : decode cX4_init 45 = .ok (.putfield 29, 3) := by decide +kernel
theorem dX4_init_48 : decode cX4_init 48 = .ok (.aload_n 0, 1) := by decide +kernel
theorem dX4_init_49 : decode cX4_init 49 = .ok (.new 33, 3) := by decide +kernel
theorem dX4_init_52 : decode cX4_init 52 = .ok (.dup, 1) := by decide +kernel
theorem dX4_init_53 : decode cX4_init 53 = .ok (.invokespecial 35, 3) := by decide +kernel
theorem dX4_init_56 : decode cX4_init 56 = .ok (.putfield 36, 3) := by decide +kernel
theorem dX4_init_59 : decode cX4_init 59 = .ok (.aload_n 0, 1) := by decide +kernel
theorem dX4_init_60 : decode cX4_init 60 = .ok (.aconst_null, 1) := by decide +kernel
theorem dX4_init_61 : decode cX4_init 61 = .ok (.putfield 40, 3) := by decide +kernel
theorem dX4_init_64 : decode cX4_init 64 = .ok (.return_, 1) := by decide +kernel
theorem dX4_bend_0 : decode cX4_bend 0 = .ok (.iload_n 1, 1) := by decide +kernel
theorem dX4_bend_1 : decode cX4_bend 1 = .ok (.bipush 8, 2) := by decide +kernel
theorem dX4_bend_3 : decode cX4_bend 3 = .ok (.invokestatic 43, 3) := by decide +kernel
theorem dX4_bend_6 : decode cX4_bend 6 = .ok (.iload_n 2, 1) := by decide +kernel
theorem dX4_bend_7 : decode cX4_bend 7 = .ok (.bipush 7, 2) := by decide +kernel
theorem dX4_bend_9 : decode cX4_bend 9 = .ok (.invokestatic 43, 3) := by decide +kernel
theorem dX4_bend_12 : decode cX4_bend 12 = .ok (.iload_n 3, 1) := by decide +kernel
theorem dX4_bend_13 : decode cX4_bend 13 = .ok (.iconst (-1), 1) := by decide +kernel
theorem dX4_bend_14 : decode cX4_bend 14 = .ok (.iconst 1, 1) := by decide +kernel
theorem dX4_bend_15 : decode cX4_bend 15 = .ok (.invokestatic 47, 3) := by decide +kernel
theorem dX4_bend_18 : decode cX4_bend 18 = .ok (.aload_n 0, 1) := by decide +kernel
theorem dX4_bend_19 : decode cX4_bend 19 = .ok (.getfield 22, 3) := by decide +kernel
theorem dX4_bend_22 : decode cX4_bend 22 = .ok (.aload_n 0, 1) := by decide +kernel
theorem dX4_bend_23 : decode cX4_bend 23 = .ok (.getfield 12, 3) := by decide +kernel
theorem dX4_bend_26 : decode cX4_bend 26 = .ok (.invokevirtual 51, 3) := by decide +kernel
theorem dX4_bend_29 : decode cX4_bend 29 = .ok (.aload_n 0, 1) := by decide +kernel
theorem dX4_bend_30 : decode cX4_bend 30 = .ok (.getfield 12, 3) := by decide +kernel
theorem dX4_bend_33 : decode cX4_bend 33 = .ok (.iload_n 1, 1) := by decide +kernel
theorem dX4_bend_34 : decode cX4_bend 34 = .ok (.bipush 7, 2) := by decide +kernel
theorem dX4_bend_36 : decode cX4_bend 36 = .ok (.imul, 1) := by decide +kernel
theorem dX4_bend_37 : decode cX4_bend 37 = .ok (.iload_n 2, 1) := by decide +kernel
theorem dX4_bend_38 : decode cX4_bend 38 = .ok (.iadd, 1) := by decide +kernel
theorem dX4_bend_39 : decode cX4_bend 39 = .ok (.iload_n 3, 1) := by decide +kernel
theorem dX4_bend_40 : decode cX4_bend 40 = .ok (.invokevirtual 55, 3) := by decide +kernel
theorem dX4_bend_43 : decode cX4_bend 43 = .ok (.iconst 1, 1) := by decide +kernel
theorem dX4_bend_44 : decode cX4_bend 44 = .ok (.iadd, 1) := by decide +kernel
theorem dX4_bend_45 : decode cX4_bend 45 = .ok (.ireturn, 1) := by decide +kernel
theorem dX4_pocket_0 : decode cX4_pocket 0 = .ok (.iload_n 1, 1) := by decide +kernel
theorem dX4_pocket_1 : decode cX4_pocket 1 = .ok (.bipush 7, 2) := by decide +kernel
theorem dX4_pocket_3 : decode cX4_pocket 3 = .ok (.invokestatic 43, 3) := by decide +kernel
theorem dX4_pocket_6 : decode cX4_pocket 6 = .ok (.iload_n 2, 1) := by decide +kernel
theorem dX4_pocket_7 : decode cX4_pocket 7 = .ok (.iconst 0, 1) := by decide +kernel
theorem dX4_pocket_8 : decode cX4_pocket 8 = .ok (.iconst 2, 1) := by decide +kernel
theorem dX4_pocket_9 : decode cX4_pocket 9 = .ok (.invokestatic 47, 3) := by decide +kernel
theorem dX4_pocket_12 : decode cX4_pocket 12 = .ok (.iload_n 3, 1) := by decide +kernel
theorem dX4_pocket_13 : decode cX4_pocket 13 = .ok (.iconst 0, 1) := by decide +kernel
theorem dX4_pocket_14 : decode cX4_pocket 14 = .ok (.bipush 15, 2) := by decide +kernel
theorem dX4_pocket_16 : decode cX4_pocket 16 = .ok (.invokestatic 47, 3) := by decide +kernel
theorem dX4_pocket_19 : decode cX4_pocket 19 = .ok (.aload_n 0, 1) := by decide +kernel
theorem dX4_pocket_20 : decode cX4_pocket 20 = .ok (.getfield 22, 3) := by decide +kernel
theorem dX4_pocket_23 : decode cX4_pocket 23 = .ok (.aload_n 0, 1) := by decide +kernel
theorem dX4_pocket_24 : decode cX4_pocket 24 = .ok (.getfield 12, 3) := by decide +kernel
theorem dX4_pocket_27 : decode cX4_pocket 27 = .ok (.invokevirtual 51, 3) := by decide +kernel
theorem dX4_pocket_30 : decode cX4_pocket 30 = .ok (.aload_n 0, 1) := by decide +kernel
theorem dX4_pocket_31 : decode cX4_pocket 31 = .ok (.getfield 12, 3) := by decide +kernel
theorem dX4_pocket_34 : decode cX4_pocket 34 = .ok (.iload_n 1, 1) := by decide +kernel
theorem dX4_pocket_35 : decode cX4_pocket 35 = .ok (.iload_n 2, 1) := by decide +kernel
theorem dX4_pocket_36 : decode cX4_pocket 36 = .ok (.iload_n 3, 1) := by decide +kernel
theorem dX4_pocket_37 : decode cX4_pocket 37 = .ok (.invokevirtual 59, 3) := by decide +kernel
theorem dX4_pocket_40 : decode cX4_pocket 40 = .ok (.ireturn, 1) := by decide +kernel
theorem dX4_start_0 : decode cX4_start 0 = .ok (.iload_n 1, 1) := by decide +kernel
theorem dX4_start_1 : decode cX4_start 1 = .ok (.bipush 7, 2) := by decide +kernel
theorem dX4_start_3 : decode cX4_start 3 = .ok (.invokestatic 43, 3) := by decide +kernel
theorem dX4_start_6 : decode cX4_start 6 = .ok (.aload_n 0, 1) := by decide +kernel
theorem dX4_start_7 : decode cX4_start 7 = .ok (.getfield 22, 3) := by decide +kernel
theorem dX4_start_10 : decode cX4_start 10 = .ok (.aload_n 0, 1) := by decide +kernel
theorem dX4_start_11 : decode cX4_start 11 = .ok (.getfield 12, 3) := by decide +kernel
theorem dX4_start_14 : decode cX4_start 14 = .ok (.invokevirtual 51, 3) := by decide +kernel
theorem dX4_start_17 : decode cX4_start 17 = .ok (.aload_n 0, 1) := by decide +kernel
theorem dX4_start_18 : decode cX4_start 18 = .ok (.getfield 12, 3) := by decide +kernel
theorem dX4_start_21 : decode cX4_start 21 = .ok (.bipush 12, 2) := by decide +kernel
theorem dX4_start_23 : decode cX4_start 23 = .ok (.iload_n 1, 1) := by decide +kernel
theorem dX4_start_24 : decode cX4_start 24 = .ok (.invokevirtual 63, 3) := by decide +kernel
theorem dX4_start_27 : decode cX4_start 27 = .ok (.ireturn, 1) := by decide +kernel
theorem dX4_set_0 : decode cX4_set 0 = .ok (.iload_n 1, 1) := by decide +kernel
theorem dX4_set_1 : decode cX4_set 1 = .ok (.iconst 2, 1) := by decide +kernel
theorem dX4_set_2 : decode cX4_set 2 = .ok (.invokestatic 43, 3) := by decide +kernel
theorem dX4_set_5 : decode cX4_set 5 = .ok (.iload_n 1, 1) := by decide +kernel
theorem dX4_set_6 : decode cX4_set 6 = .ok (.ifCond .ne 13, 3) := by decide +kernel
theorem dX4_set_9 : decode cX4_set 9 = .ok (.iload_n 2, 1) := by decide +kernel
theorem dX4_set_10 : decode cX4_set 10 = .ok (.iconst 1, 1) := by decide +kernel
theorem dX4_set_11 : decode cX4_set 11 = .ok (.bipush 10, 2) := by decide +kernel
theorem dX4_set_13 : decode cX4_set 13 = .ok (.invokestatic 47, 3) := by decide +kernel
theorem dX4_set_16 : decode cX4_set 16 = .ok (.goto 10, 3) := by decide +kernel
theorem dX4_set_19 : decode cX4_set 19 = .ok (.iload_n 2, 1) := by decide +kernel
theorem dX4_set_20 : decode cX4_set 20 = .ok (.iconst 0, 1) := by decide +kernel
theorem dX4_set_21 : decode cX4_set 21 = .ok (.bipush 20, 2) := by decide +kernel
theorem dX4_set_23 : decode cX4_set 23 = .ok (.invokestatic 47, 3) := by decide +kernel
theorem dX4_set_26 : decode cX4_set 26 = .ok (.aload_n 0, 1) := by decide +kernel
theorem dX4_set_27 : decode cX4_set 27 = .ok (.getfield 22, 3) := by decide +kernel
theorem dX4_set_30 : decode cX4_set 30 = .ok (.aload_n 0, 1) := by decide +kernel
theorem dX4_set_31 : decode cX4_set 31 = .ok (.getfield 12, 3) := by decide +kernel
theorem dX4_set_34 : decode cX4_set 34 = .ok (.invokevirtual 51, 3) := by decide +kernel
theorem dX4_set_37 : decode cX4_set 37 = .ok (.aload_n 0, 1) := by decide +kernel
theorem dX4_set_38 : decode cX4_set 38 = .ok (.getfield 12, 3) := by decide +kernel
theorem dX4_set_41 : decode cX4_set 41 = .ok (.bipush 14, 2) := by decide +kernel
theorem dX4_set_43 : decode cX4_set 43 = .ok (.iload_n 1, 1) := by decide +kernel
theorem dX4_set_44 : decode cX4_set 44 = .ok (.iadd, 1) := by decide +kernel
theorem dX4_set_45 : decode cX4_set 45 = .ok (.iload_n 2, 1) := by decide +kernel
theorem dX4_set_46 : decode cX4_set 46 = .ok (.invokevirtual 63, 3) := by decide +kernel
theorem dX4_set_49 : decode cX4_set 49 = .ok (.ireturn, 1) := by decide +kernel
theorem dX4_shuffle_0 : decode cX4_shuffle 0 = .ok (.iload_n 1, 1) := by decide +kernel
theorem dX4_shuffle_1 : decode cX4_shuffle 1 = .ok (.iconst 0, 1) := by decide +kernel
theorem dX4_shuffle_2 : decode cX4_shuffle 2 = .ok (.ldc 66, 2) := by decide +kernel
theorem dX4_shuffle_4 : decode cX4_shuffle 4 = .ok (.invokestatic 47, 3) := by decide +kernel
theorem dX4_shuffle_7 : decode cX4_shuffle 7 = .ok (.aload_n 0, 1) := by decide +kernel
theorem dX4_shuffle_8 : decode cX4_shuffle 8 = .ok (.getfield 22, 3) := by decide +kernel
theorem dX4_shuffle_11 : decode cX4_shuffle 11 = .ok (.aload_n 0, 1) := by decide +kernel
theorem dX4_shuffle_12 : decode cX4_shuffle 12 = .ok (.getfield 12, 3) := by decide +kernel
theorem dX4_shuffle_15 : decode cX4_shuffle 15 = .ok (.invokevirtual 51, 3) := by decide +kernel
theorem dX4_shuffle_18 : decode cX4_shuffle 18 = .ok (.aload_n 0, 1) := by decide +kernel
theorem dX4_shuffle_19 : decode cX4_shuffle 19 = .ok (.getfield 12, 3) := by decide +kernel
theorem dX4_shuffle_22 : decode cX4_shuffle 22 = .ok (.bipush 13, 2) := by decide +kernel
theorem dX4_shuffle_24 : decode cX4_shuffle 24 = .ok (.iload_n 1, 1) := by decide +kernel
theorem dX4_shuffle_25 : decode cX4_shuffle 25 = .ok (.invokevirtual 63, 3) := by decide +kernel
theorem dX4_shuffle_28 : decode cX4_shuffle 28 = .ok (.ireturn, 1) := by decide +kernel
theorem dX4_buy_0 : decode cX4_buy 0 = .ok (.iload_n 1, 1) := by decide +kernel
theorem dX4_buy_1 : decode cX4_buy 1 = .ok (.iconst 1, 1) := by decide +kernel
theorem dX4_buy_2 : decode cX4_buy 2 = .ok (.bipush 99, 2) := by decide +kernel
theorem dX4_buy_4 : decode cX4_buy 4 = .ok (.invokestatic 47, 3) := by decide +kernel
theorem dX4_buy_7 : decode cX4_buy 7 = .ok (.aload_n 0, 1) := by decide +kernel
theorem dX4_buy_8 : decode cX4_buy 8 = .ok (.getfield 22, 3) := by decide +kernel
theorem dX4_buy_11 : decode cX4_buy 11 = .ok (.aload_n 0, 1) := by decide +kernel
theorem dX4_buy_12 : decode cX4_buy 12 = .ok (.getfield 12, 3) := by decide +kernel
theorem dX4_buy_15 : decode cX4_buy 15 = .ok (.invokevirtual 51, 3) := by decide +kernel
theorem dX4_buy_18 : decode cX4_buy 18 = .ok (.aload_n 0, 1) := by decide +kernel
theorem dX4_buy_19 : decode cX4_buy 19 = .ok (.getfield 12, 3) := by decide +kernel
theorem dX4_buy_22 : decode cX4_buy 22 = .ok (.iload_n 1, 1) := by decide +kernel
theorem dX4_buy_23 : decode cX4_buy 23 = .ok (.invokevirtual 67, 3) := by decide +kernel
theorem dX4_buy_26 : decode cX4_buy 26 = .ok (.aload_n 0, 1) := by decide +kernel
theorem dX4_buy_27 : decode cX4_buy 27 = .ok (.getfield 12, 3) := by decide +kernel
theorem dX4_buy_30 : decode cX4_buy 30 = .ok (.getfield 71, 3) := by decide +kernel
theorem dX4_buy_33 : decode cX4_buy 33 = .ok (.iconst 0, 1) := by decide +kernel
theorem dX4_buy_34 : decode cX4_buy 34 = .ok (.iaload, 1) := by decide +kernel
theorem dX4_buy_35 : decode cX4_buy 35 = .ok (.ireturn, 1) := by decide +kernel
theorem dX4_launch_0 : decode cX4_launch 0 = .ok (.iload_n 1, 1) := by decide +kernel
theorem dX4_launch_1 : decode cX4_launch 1 = .ok (.bipush 7, 2) := by decide +kernel
theorem dX4_launch_3 : decode cX4_launch 3 = .ok (.invokestatic 43, 3) := by decide +kernel
theorem dX4_launch_6 : decode cX4_launch 6 = .ok (.aload_n 0, 1) := by decide +kernel
theorem dX4_launch_7 : decode cX4_launch 7 = .ok (.getfield 12, 3) := by decide +kernel
theorem dX4_launch_10 : decode cX4_launch 10 = .ok (.getfield 71, 3) := by decide +kernel
theorem dX4_launch_13 : decode cX4_launch 13 = .ok (.iconst 0, 1) := by decide +kernel
theorem dX4_launch_14 : decode cX4_launch 14 = .ok (.iaload, 1) := by decide +kernel
theorem dX4_launch_15 : decode cX4_launch 15 = .ok (.ifCond .ne 13, 3) := by decide +kernel
theorem dX4_launch_18 : decode cX4_launch 18 = .ok (.new 75, 3) := by decide +kernel
theorem dX4_launch_21 : decode cX4_launch 21 = .ok (.dup, 1) := by decide +kernel
theorem dX4_launch_22 : decode cX4_launch 22 = .ok (.ldc 77, 2) := by decide +kernel
theorem dX4_launch_24 : decode cX4_launch 24 = .ok (.invokespecial 79, 3) := by decide +kernel
theorem dX4_launch_27 : decode cX4_launch 27 = .ok (.athrow, 1) := by decide +kernel
theorem dX4_launch_28 : decode cX4_launch 28 = .ok (.aload_n 0, 1) := by decide +kernel
theorem dX4_launch_29 : decode cX4_launch 29 = .ok (.getfield 22, 3) := by decide +kernel
theorem dX4_launch_32 : decode cX4_launch 32 = .ok (.aload_n 0, 1) := by decide +kernel
theorem dX4_launch_33 : decode cX4_launch 33 = .ok (.getfield 12, 3) := by decide +kernel
theorem dX4_launch_36 : decode cX4_launch 36 = .ok (.invokevirtual 51, 3) := by decide +kernel
theorem dX4_launch_39 : decode cX4_launch 39 = .ok (.aload_n 0, 1) := by decide +kernel
theorem dX4_launch_40 : decode cX4_launch 40 = .ok (.getfield 12, 3) := by decide +kernel
theorem dX4_launch_43 : decode cX4_launch 43 = .ok (.iload_n 1, 1) := by decide +kernel
theorem dX4_launch_44 : decode cX4_launch 44 = .ok (.invokevirtual 82, 3) := by decide +kernel
theorem dX4_launch_47 : decode cX4_launch 47 = .ok (.pop, 1) := by decide +kernel
theorem dX4_launch_48 : decode cX4_launch 48 = .ok (.aload_n 0, 1) := by decide +kernel
theorem dX4_launch_49 : decode cX4_launch 49 = .ok (.getfield 12, 3) := by decide +kernel
theorem dX4_launch_52 : decode cX4_launch 52 = .ok (.getfield 71, 3) := by decide +kernel
theorem dX4_launch_55 : decode cX4_launch 55 = .ok (.bipush 11, 2) := by decide +kernel
theorem dX4_launch_57 : decode cX4_launch 57 = .ok (.iaload, 1) := by decide +kernel
theorem dX4_launch_58 : decode cX4_launch 58 = .ok (.ireturn, 1) := by decide +kernel
theorem dX4_play_0 : decode cX4_play 0 = .ok (.iload_n 1, 1) := by decide +kernel
theorem dX4_play_1 : decode cX4_play 1 = .ok (.bipush 7, 2) := by decide +kernel
theorem dX4_play_3 : decode cX4_play 3 = .ok (.invokestatic 43, 3) := by decide +kernel
theorem dX4_play_6 : decode cX4_play 6 = .ok (.iload_n 2, 1) := by decide +kernel
theorem dX4_play_7 : decode cX4_play 7 = .ok (.iconst 1, 1) := by decide +kernel
theorem dX4_play_8 : decode cX4_play 8 = .ok (.bipush 30, 2) := by decide +kernel
theorem dX4_play_10 : decode cX4_play 10 = .ok (.invokestatic 47, 3) := by decide +kernel
theorem dX4_play_13 : decode cX4_play 13 = .ok (.aload_n 0, 1) := by decide +kernel
theorem dX4_play_14 : decode cX4_play 14 = .ok (.getfield 22, 3) := by decide +kernel
theorem dX4_play_17 : decode cX4_play 17 = .ok (.aload_n 0, 1) := by decide +kernel
theorem dX4_play_18 : decode cX4_play 18 = .ok (.getfield 12, 3) := by decide +kernel
theorem dX4_play_21 : decode cX4_play 21 = .ok (.invokevirtual 51, 3) := by decide +kernel
theorem dX4_play_24 : decode cX4_play 24 = .ok (.aload_n 0, 1) := by decide +kernel
theorem dX4_play_25 : decode cX4_play 25 = .ok (.getfield 12, 3) := by decide +kernel
theorem dX4_play_28 : decode cX4_play 28 = .ok (.iload_n 1, 1) := by decide +kernel
theorem dX4_play_29 : decode cX4_play 29 = .ok (.iload_n 2, 1) := by decide +kernel
theorem dX4_play_30 : decode cX4_play 30 = .ok (.invokevirtual 86, 3) := by decide +kernel
theorem dX4_play_33 : decode cX4_play 33 = .ok (.ireturn, 1) := by decide +kernel
theorem dX4_append_0 : decode cX4_append 0 = .ok (.iload_n 1, 1) := by decide +kernel
theorem dX4_append_1 : decode cX4_append 1 = .ok (.bipush 33, 2) := by decide +kernel
theorem dX4_append_3 : decode cX4_append 3 = .ok (.bipush 126, 2) := by decide +kernel
theorem dX4_append_5 : decode cX4_append 5 = .ok (.invokestatic 47, 3) := by decide +kernel
theorem dX4_append_8 : decode cX4_append 8 = .ok (.aload_n 0, 1) := by decide +kernel
theorem dX4_append_9 : decode cX4_append 9 = .ok (.getfield 29, 3) := by decide +kernel
theorem dX4_append_12 : decode cX4_append 12 = .ok (.iload_n 1, 1) := by decide +kernel
theorem dX4_append_13 : decode cX4_append 13 = .ok (.invokevirtual 89, 3) := by decide +kernel
theorem dX4_append_16 : decode cX4_append 16 = .ok (.ifCond .ne 13, 3) := by decide +kernel
theorem dX4_append_19 : decode cX4_append 19 = .ok (.new 75, 3) := by decide +kernel
theorem dX4_append_22 : decode cX4_append 22 = .ok (.dup, 1) := by decide +kernel
theorem dX4_append_23 : decode cX4_append 23 = .ok (.ldc 93, 2) := by decide +kernel
theorem dX4_append_25 : decode cX4_append 25 = .ok (.invokespecial 79, 3) := by decide +kernel
theorem dX4_append_28 : decode cX4_append 28 = .ok (.athrow, 1) := by decide +kernel
theorem dX4_append_29 : decode cX4_append 29 = .ok (.aload_n 0, 1) := by decide +kernel
theorem dX4_append_30 : decode cX4_append 30 = .ok (.getfield 29, 3) := by decide +kernel
theorem dX4_append_33 : decode cX4_append 33 = .ok (.getfield 95, 3) := by decide +kernel
theorem dX4_append_36 : decode cX4_append 36 = .ok (.ireturn, 1) := by decide +kernel
theorem dX4_clearBuffer_0 : decode cX4_clearBuffer 0 = .ok (.aload_n 0, 1) := by decide +kernel
theorem dX4_clearBuffer_1 : decode cX4_clearBuffer 1 = .ok (.getfield 29, 3) := by decide +kernel
theorem dX4_clearBuffer_4 : decode cX4_clearBuffer 4 = .ok (.invokevirtual 99, 3) := by decide +kernel
theorem dX4_clearBuffer_7 : decode cX4_clearBuffer 7 = .ok (.ireturn, 1) := by decide +kernel
theorem dX4_firstError_0 : decode cX4_firstError 0 = .ok (.aload_n 0, 1) := by decide +kernel
theorem dX4_firstError_1 : decode cX4_firstError 1 = .ok (.getfield 29, 3) := by decide +kernel
theorem dX4_firstError_4 : decode cX4_firstError 4 = .ok (.invokevirtual 103, 3) := by decide +kernel
theorem dX4_firstError_7 : decode cX4_firstError 7 = .ok (.ireturn, 1) := by decide +kernel
theorem dX4_work_0 : decode cX4_work 0 = .ok (.aload_n 0, 1) := by decide +kernel
theorem dX4_work_1 : decode cX4_work 1 = .ok (.getfield 29, 3) := by decide +kernel
theorem dX4_work_4 : decode cX4_work 4 = .ok (.invokevirtual 106, 3) := by decide +kernel
theorem dX4_work_7 : decode cX4_work 7 = .ok (.ifCond .ne 13, 3) := by decide +kernel
theorem dX4_work_10 : decode cX4_work 10 = .ok (.new 110, 3) := by decide +kernel
theorem dX4_work_13 : decode cX4_work 13 = .ok (.dup, 1) := by decide +kernel
theorem dX4_work_14 : decode cX4_work 14 = .ok (.ldc 112, 2) := by decide +kernel
theorem dX4_work_16 : decode cX4_work 16 = .ok (.invokespecial 114, 3) := by decide +kernel
theorem dX4_work_19 : decode cX4_work 19 = .ok (.athrow, 1) := by decide +kernel
theorem dX4_work_20 : decode cX4_work 20 = .ok (.aload_n 0, 1) := by decide +kernel
theorem dX4_work_21 : decode cX4_work 21 = .ok (.getfield 22, 3) := by decide +kernel
theorem dX4_work_24 : decode cX4_work 24 = .ok (.aload_n 0, 1) := by decide +kernel
theorem dX4_work_25 : decode cX4_work 25 = .ok (.getfield 12, 3) := by decide +kernel
theorem dX4_work_28 : decode cX4_work 28 = .ok (.invokevirtual 51, 3) := by decide +kernel
theorem dX4_work_31 : decode cX4_work 31 = .ok (.iconst 0, 1) := by decide +kernel
theorem dX4_work_32 : decode cX4_work 32 = .ok (.istore_n 1, 1) := by decide +kernel
theorem dX4_work_33 : decode cX4_work 33 = .ok (.iconst 0, 1) := by decide +kernel
theorem dX4_work_34 : decode cX4_work 34 = .ok (.istore_n 2, 1) := by decide +kernel
theorem dX4_work_35 : decode cX4_work 35 = .ok (.iconst 0, 1) := by decide +kernel
theorem dX4_work_36 : decode cX4_work 36 = .ok (.istore_n 3, 1) := by decide +kernel
theorem dX4_work_37 : decode cX4_work 37 = .ok (.iload_n 3, 1) := by decide +kernel
theorem dX4_work_38 : decode cX4_work 38 = .ok (.aload_n 0, 1) := by decide +kernel
theorem dX4_work_39 : decode cX4_work 39 = .ok (.getfield 29, 3) := by decide +kernel
theorem dX4_work_42 : decode cX4_work 42 = .ok (.getfield 95, 3) := by decide +kernel
theorem dX4_work_45 : decode cX4_work 45 = .ok (.if_icmp .gt 33, 3) := by decide +kernel
theorem dX4_work_48 : decode cX4_work 48 = .ok (.aload_n 0, 1) := by decide +kernel
theorem dX4_work_49 : decode cX4_work 49 = .ok (.getfield 29, 3) := by decide +kernel
theorem dX4_work_52 : decode cX4_work 52 = .ok (.iload_n 3, 1) := by decide +kernel
theorem dX4_work_53 : decode cX4_work 53 = .ok (.invokevirtual 115, 3) := by decide +kernel
theorem dX4_work_56 : decode cX4_work 56 = .ok (.ifCond .eq 16, 3) := by decide +kernel
theorem dX4_work_59 : decode cX4_work 59 = .ok (.iload_n 1, 1) := by decide +kernel
theorem dX4_work_60 : decode cX4_work 60 = .ok (.aload_n 0, 1) := by decide +kernel
theorem dX4_work_61 : decode cX4_work 61 = .ok (.iload_n 2, 1) := by decide +kernel
theorem dX4_work_62 : decode cX4_work 62 = .ok (.iload_n 3, 1) := by decide +kernel
theorem dX4_work_63 : decode cX4_work 63 = .ok (.invokevirtual 118, 3) := by decide +kernel
theorem dX4_work_66 : decode cX4_work 66 = .ok (.iadd, 1) := by decide +kernel
theorem dX4_work_67 : decode cX4_work 67 = .ok (.istore_n 1, 1) := by decide +kernel
theorem dX4_work_68 : decode cX4_work 68 = .ok (.iload_n 3, 1) := by decide +kernel
theorem dX4_work_69 : decode cX4_work 69 = .ok (.iconst 1, 1) := by decide +kernel
theorem dX4_work_70 : decode cX4_work 70 = .ok (.iadd, 1) := by decide +kernel
theorem dX4_work_71 : decode cX4_work 71 = .ok (.istore_n 2, 1) := by decide +kernel
theorem dX4_work_72 : decode cX4_work 72 = .ok (.iinc 3 1, 3) := by decide +kernel
theorem dX4_work_75 : decode cX4_work 75 = .ok (.goto (-38), 3) := by decide +kernel
theorem dX4_work_78 : decode cX4_work 78 = .ok (.aload_n 0, 1) := by decide +kernel
theorem dX4_work_79 : decode cX4_work 79 = .ok (.getfield 29, 3) := by decide +kernel
theorem dX4_work_82 : decode cX4_work 82 = .ok (.invokevirtual 99, 3) := by decide +kernel
theorem dX4_work_85 : decode cX4_work 85 = .ok (.pop, 1) := by decide +kernel
theorem dX4_work_86 : decode cX4_work 86 = .ok (.iload_n 1, 1) := by decide +kernel
theorem dX4_work_87 : decode cX4_work 87 = .ok (.ireturn, 1) := by decide +kernel
theorem dX4_undo_0 : decode cX4_undo 0 = .ok (.aload_n 0, 1) := by decide +kernel
theorem dX4_undo_1 : decode cX4_undo 1 = .ok (.getfield 22, 3) := by decide +kernel
theorem dX4_undo_4 : decode cX4_undo 4 = .ok (.aload_n 0, 1) := by decide +kernel
theorem dX4_undo_5 : decode cX4_undo 5 = .ok (.getfield 12, 3) := by decide +kernel
theorem dX4_undo_8 : decode cX4_undo 8 = .ok (.invokevirtual 121, 3) := by decide +kernel
theorem dX4_undo_11 : decode cX4_undo 11 = .ok (.ifCond .ne 13, 3) := by decide +kernel
theorem dX4_undo_14 : decode cX4_undo 14 = .ok (.new 75, 3) := by decide +kernel
theorem dX4_undo_17 : decode cX4_undo 17 = .ok (.dup, 1) := by decide +kernel
theorem dX4_undo_18 : decode cX4_undo 18 = .ok (.ldc 125, 2) := by decide +kernel
theorem dX4_undo_20 : decode cX4_undo 20 = .ok (.invokespecial 79, 3) := by decide +kernel
theorem dX4_undo_23 : decode cX4_undo 23 = .ok (.athrow, 1) := by decide +kernel
theorem dX4_undo_24 : decode cX4_undo 24 = .ok (.aload_n 0, 1) := by decide +kernel
theorem dX4_undo_25 : decode cX4_undo 25 = .ok (.getfield 22, 3) := by decide +kernel
theorem dX4_undo_28 : decode cX4_undo 28 = .ok (.getfield 127, 3) := by decide +kernel
theorem dX4_undo_31 : decode cX4_undo 31 = .ok (.ireturn, 1) := by decide +kernel
theorem dX4_keep_0 : decode cX4_keep 0 = .ok (.aload_n 0, 1) := by decide +kernel
theorem dX4_keep_1 : decode cX4_keep 1 = .ok (.getfield 40, 3) := by decide +kernel
theorem dX4_keep_4 : decode cX4_keep 4 = .ok (.ifnonnull 14, 3) := by decide +kernel
theorem dX4_keep_7 : decode cX4_keep 7 = .ok (.aload_n 0, 1) := by decide +kernel
theorem dX4_keep_8 : decode cX4_keep 8 = .ok (.new 9, 3) := by decide +kernel
theorem dX4_keep_11 : decode cX4_keep 11 = .ok (.dup, 1) := by decide +kernel
theorem dX4_keep_12 : decode cX4_keep 12 = .ok (.invokespecial 11, 3) := by decide +kernel
theorem dX4_keep_15 : decode cX4_keep 15 = .ok (.putfield 40, 3) := by decide +kernel
theorem dX4_keep_18 : decode cX4_keep 18 = .ok (.aload_n 0, 1) := by decide +kernel
theorem dX4_keep_19 : decode cX4_keep 19 = .ok (.getfield 40, 3) := by decide +kernel
theorem dX4_keep_22 : decode cX4_keep 22 = .ok (.aload_n 0, 1) := by decide +kernel
theorem dX4_keep_23 : decode cX4_keep 23 = .ok (.getfield 12, 3) := by decide +kernel
theorem dX4_keep_26 : decode cX4_keep 26 = .ok (.invokevirtual 130, 3) := by decide +kernel
theorem dX4_keep_29 : decode cX4_keep 29 = .ok (.aload_n 0, 1) := by decide +kernel
theorem dX4_keep_30 : decode cX4_keep 30 = .ok (.getfield 12, 3) := by decide +kernel
theorem dX4_keep_33 : decode cX4_keep 33 = .ok (.getfield 71, 3) := by decide +kernel
theorem dX4_keep_36 : decode cX4_keep 36 = .ok (.iconst 0, 1) := by decide +kernel
theorem dX4_keep_37 : decode cX4_keep 37 = .ok (.iaload, 1) := by decide +kernel
theorem dX4_keep_38 : decode cX4_keep 38 = .ok (.ireturn, 1) := by decide +kernel
theorem dX4_restore_0 : decode cX4_restore 0 = .ok (.aload_n 0, 1) := by decide +kernel
theorem dX4_restore_1 : decode cX4_restore 1 = .ok (.getfield 40, 3) := by decide +kernel
theorem dX4_restore_4 : decode cX4_restore 4 = .ok (.ifnonnull 13, 3) := by decide +kernel
theorem dX4_restore_7 : decode cX4_restore 7 = .ok (.new 75, 3) := by decide +kernel
theorem dX4_restore_10 : decode cX4_restore 10 = .ok (.dup, 1) := by decide +kernel
theorem dX4_restore_11 : decode cX4_restore 11 = .ok (.ldc 133, 2) := by decide +kernel
theorem dX4_restore_13 : decode cX4_restore 13 = .ok (.invokespecial 79, 3) := by decide +kernel
theorem dX4_restore_16 : decode cX4_restore 16 = .ok (.athrow, 1) := by decide +kernel
theorem dX4_restore_17 : decode cX4_restore 17 = .ok (.aload_n 0, 1) := by decide +kernel
theorem dX4_restore_18 : decode cX4_restore 18 = .ok (.getfield 22, 3) := by decide +kernel
theorem dX4_restore_21 : decode cX4_restore 21 = .ok (.aload_n 0, 1) := by decide +kernel
theorem dX4_restore_22 : decode cX4_restore 22 = .ok (.getfield 12, 3) := by decide +kernel
theorem dX4_restore_25 : decode cX4_restore 25 = .ok (.invokevirtual 51, 3) := by decide +kernel
theorem dX4_restore_28 : decode cX4_restore 28 = .ok (.aload_n 0, 1) := by decide +kernel
theorem dX4_restore_29 : decode cX4_restore 29 = .ok (.getfield 12, 3) := by decide +kernel
theorem dX4_restore_32 : decode cX4_restore 32 = .ok (.aload_n 0, 1) := by decide +kernel
theorem dX4_restore_33 : decode cX4_restore 33 = .ok (.getfield 40, 3) := by decide +kernel
theorem dX4_restore_36 : decode cX4_restore 36 = .ok (.invokevirtual 130, 3) := by decide +kernel
theorem dX4_restore_39 : decode cX4_restore 39 = .ok (.aload_n 0, 1) := by decide +kernel
theorem dX4_restore_40 : decode cX4_restore 40 = .ok (.getfield 12, 3) := by decide +kernel
theorem dX4_restore_43 : decode cX4_restore 43 = .ok (.getfield 71, 3) := by decide +kernel
theorem dX4_restore_46 : decode cX4_restore 46 = .ok (.iconst 0, 1) := by decide +kernel
theorem dX4_restore_47 : decode cX4_restore 47 = .ok (.iaload, 1) := by decide +kernel
theorem dX4_restore_48 : decode cX4_restore 48 = .ok (.ireturn, 1) := by decide +kernel
theorem dX4_pin_0 : decode cX4_pin 0 = .ok (.iload_n 1, 1) := by decide +kernel
theorem dX4_pin_1 : decode cX4_pin 1 = .ok (.bipush 8, 2) := by decide +kernel
theorem dX4_pin_3 : decode cX4_pin 3 = .ok (.invokestatic 43, 3) := by decide +kernel
theorem dX4_pin_6 : decode cX4_pin 6 = .ok (.iload_n 2, 1) := by decide +kernel
theorem dX4_pin_7 : decode cX4_pin 7 = .ok (.bipush 7, 2) := by decide +kernel
theorem dX4_pin_9 : decode cX4_pin 9 = .ok (.invokestatic 43, 3) := by decide +kernel
theorem dX4_pin_12 : decode cX4_pin 12 = .ok (.aload_n 0, 1) := by decide +kernel
theorem dX4_pin_13 : decode cX4_pin 13 = .ok (.getfield 12, 3) := by decide +kernel
theorem dX4_pin_16 : decode cX4_pin 16 = .ok (.getfield 135, 3) := by decide +kernel
theorem dX4_pin_19 : decode cX4_pin 19 = .ok (.iload_n 1, 1) := by decide +kernel
theorem dX4_pin_20 : decode cX4_pin 20 = .ok (.bipush 7, 2) := by decide +kernel
theorem dX4_pin_22 : decode cX4_pin 22 = .ok (.imul, 1) := by decide +kernel
theorem dX4_pin_23 : decode cX4_pin 23 = .ok (.iload_n 2, 1) := by decide +kernel
theorem dX4_pin_24 : decode cX4_pin 24 = .ok (.iadd, 1) := by decide +kernel
theorem dX4_pin_25 : decode cX4_pin 25 = .ok (.iaload, 1) := by decide +kernel
theorem dX4_pin_26 : decode cX4_pin 26 = .ok (.iconst 1, 1) := by decide +kernel
theorem dX4_pin_27 : decode cX4_pin 27 = .ok (.iadd, 1) := by decide +kernel
theorem dX4_pin_28 : decode cX4_pin 28 = .ok (.ireturn, 1) := by decide +kernel
theorem dX4_bent_0 : decode cX4_bent 0 = .ok (.iload_n 1, 1) := by decide +kernel
theorem dX4_bent_1 : decode cX4_bent 1 = .ok (.iconst 0, 1) := by decide +kernel
theorem dX4_bent_2 : decode cX4_bent 2 = .ok (.ldc 66, 2) := by decide +kernel
theorem dX4_bent_4 : decode cX4_bent 4 = .ok (.invokestatic 47, 3) := by decide +kernel
theorem dX4_bent_7 : decode cX4_bent 7 = .ok (.aload_n 0, 1) := by decide +kernel
theorem dX4_bent_8 : decode cX4_bent 8 = .ok (.getfield 12, 3) := by decide +kernel
theorem dX4_bent_11 : decode cX4_bent 11 = .ok (.iload_n 1, 1) := by decide +kernel
theorem dX4_bent_12 : decode cX4_bent 12 = .ok (.invokevirtual 138, 3) := by decide +kernel
theorem dX4_bent_15 : decode cX4_bent 15 = .ok (.ireturn, 1) := by decide +kernel
theorem dX4_touched_0 : decode cX4_touched 0 = .ok (.iload_n 1, 1) := by decide +kernel
theorem dX4_touched_1 : decode cX4_touched 1 = .ok (.iconst 0, 1) := by decide +kernel
theorem dX4_touched_2 : decode cX4_touched 2 = .ok (.bipush 7, 2) := by decide +kernel
theorem dX4_touched_4 : decode cX4_touched 4 = .ok (.invokestatic 47, 3) := by decide +kernel
theorem dX4_touched_7 : decode cX4_touched 7 = .ok (.aload_n 0, 1) := by decide +kernel
theorem dX4_touched_8 : decode cX4_touched 8 = .ok (.getfield 12, 3) := by decide +kernel
theorem dX4_touched_11 : decode cX4_touched 11 = .ok (.getfield 141, 3) := by decide +kernel
theorem dX4_touched_14 : decode cX4_touched 14 = .ok (.iload_n 1, 1) := by decide +kernel
theorem dX4_touched_15 : decode cX4_touched 15 = .ok (.iaload, 1) := by decide +kernel
theorem dX4_touched_16 : decode cX4_touched 16 = .ok (.ireturn, 1) := by decide +kernel
theorem dX4_pocketOf_0 : decode cX4_pocketOf 0 = .ok (.iload_n 1, 1) := by decide +kernel
theorem dX4_pocketOf_1 : decode cX4_pocketOf 1 = .ok (.bipush 7, 2) := by decide +kernel
theorem dX4_pocketOf_3 : decode cX4_pocketOf 3 = .ok (.invokestatic 43, 3) := by decide +kernel
theorem dX4_pocketOf_6 : decode cX4_pocketOf 6 = .ok (.iload_n 2, 1) := by decide +kernel
theorem dX4_pocketOf_7 : decode cX4_pocketOf 7 = .ok (.iconst 0, 1) := by decide +kernel
theorem dX4_pocketOf_8 : decode cX4_pocketOf 8 = .ok (.iconst 4, 1) := by decide +kernel
theorem dX4_pocketOf_9 : decode cX4_pocketOf 9 = .ok (.invokestatic 47, 3) := by decide +kernel
theorem dX4_pocketOf_12 : decode cX4_pocketOf 12 = .ok (.aload_n 0, 1) := by decide +kernel
theorem dX4_pocketOf_13 : decode cX4_pocketOf 13 = .ok (.getfield 12, 3) := by decide +kernel
theorem dX4_pocketOf_16 : decode cX4_pocketOf 16 = .ok (.iload_n 1, 1) := by decide +kernel
theorem dX4_pocketOf_17 : decode cX4_pocketOf 17 = .ok (.iload_n 2, 1) := by decide +kernel
theorem dX4_pocketOf_18 : decode cX4_pocketOf 18 = .ok (.invokevirtual 144, 3) := by decide +kernel
theorem dX4_pocketOf_21 : decode cX4_pocketOf 21 = .ok (.ireturn, 1) := by decide +kernel
theorem dX4_reel_0 : decode cX4_reel 0 = .ok (.iload_n 1, 1) := by decide +kernel
theorem dX4_reel_1 : decode cX4_reel 1 = .ok (.iconst 3, 1) := by decide +kernel
theorem dX4_reel_2 : decode cX4_reel 2 = .ok (.invokestatic 43, 3) := by decide +kernel
theorem dX4_reel_5 : decode cX4_reel 5 = .ok (.aload_n 0, 1) := by decide +kernel
theorem dX4_reel_6 : decode cX4_reel 6 = .ok (.getfield 12, 3) := by decide +kernel
theorem dX4_reel_9 : decode cX4_reel 9 = .ok (.getfield 147, 3) := by decide +kernel
theorem dX4_reel_12 : decode cX4_reel 12 = .ok (.iload_n 1, 1) := by decide +kernel
theorem dX4_reel_13 : decode cX4_reel 13 = .ok (.iaload, 1) := by decide +kernel
theorem dX4_reel_14 : decode cX4_reel 14 = .ok (.ireturn, 1) := by decide +kernel
theorem dX4_count_0 : decode cX4_count 0 = .ok (.iload_n 1, 1) := by decide +kernel
theorem dX4_count_1 : decode cX4_count 1 = .ok (.iconst 0, 1) := by decide +kernel
theorem dX4_count_2 : decode cX4_count 2 = .ok (.bipush 17, 2) := by decide +kernel
theorem dX4_count_4 : decode cX4_count 4 = .ok (.invokestatic 47, 3) := by decide +kernel
theorem dX4_count_7 : decode cX4_count 7 = .ok (.iload_n 1, 1) := by decide +kernel
theorem dX4_count_8 : decode cX4_count 8 = .ok (.bipush 17, 2) := by decide +kernel
theorem dX4_count_10 : decode cX4_count 10 = .ok (.if_icmp .ne 13, 3) := by decide +kernel
theorem dX4_count_13 : decode cX4_count 13 = .ok (.aload_n 0, 1) := by decide +kernel
theorem dX4_count_14 : decode cX4_count 14 = .ok (.getfield 22, 3) := by decide +kernel
theorem dX4_count_17 : decode cX4_count 17 = .ok (.getfield 127, 3) := by decide +kernel
theorem dX4_count_20 : decode cX4_count 20 = .ok (.goto 12, 3) := by decide +kernel
theorem dX4_count_23 : decode cX4_count 23 = .ok (.aload_n 0, 1) := by decide +kernel
theorem dX4_count_24 : decode cX4_count 24 = .ok (.getfield 12, 3) := by decide +kernel
theorem dX4_count_27 : decode cX4_count 27 = .ok (.getfield 71, 3) := by decide +kernel
theorem dX4_count_30 : decode cX4_count 30 = .ok (.iload_n 1, 1) := by decide +kernel
theorem dX4_count_31 : decode cX4_count 31 = .ok (.iaload, 1) := by decide +kernel
theorem dX4_count_32 : decode cX4_count 32 = .ok (.ireturn, 1) := by decide +kernel
theorem dX4_ways_0 : decode cX4_ways 0 = .ok (.iload_n 1, 1) := by decide +kernel
theorem dX4_ways_1 : decode cX4_ways 1 = .ok (.bipush 7, 2) := by decide +kernel
theorem dX4_ways_3 : decode cX4_ways 3 = .ok (.invokestatic 43, 3) := by decide +kernel
theorem dX4_ways_6 : decode cX4_ways 6 = .ok (.iload_n 2, 1) := by decide +kernel
theorem dX4_ways_7 : decode cX4_ways 7 = .ok (.bipush 7, 2) := by decide +kernel
theorem dX4_ways_9 : decode cX4_ways 9 = .ok (.invokestatic 43, 3) := by decide +kernel
theorem dX4_ways_12 : decode cX4_ways 12 = .ok (.aload_n 0, 1) := by decide +kernel
theorem dX4_ways_13 : decode cX4_ways 13 = .ok (.getfield 36, 3) := by decide +kernel
theorem dX4_ways_16 : decode cX4_ways 16 = .ok (.aload_n 0, 1) := by decide +kernel
theorem dX4_ways_17 : decode cX4_ways 17 = .ok (.getfield 12, 3) := by decide +kernel
theorem dX4_ways_20 : decode cX4_ways 20 = .ok (.getfield 135, 3) := by decide +kernel
theorem dX4_ways_23 : decode cX4_ways 23 = .ok (.iload_n 1, 1) := by decide +kernel
theorem dX4_ways_24 : decode cX4_ways 24 = .ok (.invokevirtual 150, 3) := by decide +kernel
theorem dX4_ways_27 : decode cX4_ways 27 = .ok (.aload_n 0, 1) := by decide +kernel
theorem dX4_ways_28 : decode cX4_ways 28 = .ok (.getfield 36, 3) := by decide +kernel
theorem dX4_ways_31 : decode cX4_ways 31 = .ok (.getfield 154, 3) := by decide +kernel
theorem dX4_ways_34 : decode cX4_ways 34 = .ok (.iload_n 2, 1) := by decide +kernel
theorem dX4_ways_35 : decode cX4_ways 35 = .ok (.iaload, 1) := by decide +kernel
theorem dX4_ways_36 : decode cX4_ways 36 = .ok (.ireturn, 1) := by decide +kernel
theorem dX4_walked_0 : decode cX4_walked 0 = .ok (.iload_n 1, 1) := by decide +kernel
theorem dX4_walked_1 : decode cX4_walked 1 = .ok (.bipush 7, 2) := by decide +kernel
theorem dX4_walked_3 : decode cX4_walked 3 = .ok (.invokestatic 43, 3) := by decide +kernel
theorem dX4_walked_6 : decode cX4_walked 6 = .ok (.iload_n 2, 1) := by decide +kernel
theorem dX4_walked_7 : decode cX4_walked 7 = .ok (.bipush 7, 2) := by decide +kernel
theorem dX4_walked_9 : decode cX4_walked 9 = .ok (.invokestatic 43, 3) := by decide +kernel
theorem dX4_walked_12 : decode cX4_walked 12 = .ok (.aload_n 0, 1) := by decide +kernel
theorem dX4_walked_13 : decode cX4_walked 13 = .ok (.getfield 36, 3) := by decide +kernel
theorem dX4_walked_16 : decode cX4_walked 16 = .ok (.aload_n 0, 1) := by decide +kernel
theorem dX4_walked_17 : decode cX4_walked 17 = .ok (.getfield 12, 3) := by decide +kernel
theorem dX4_walked_20 : decode cX4_walked 20 = .ok (.getfield 135, 3) := by decide +kernel
theorem dX4_walked_23 : decode cX4_walked 23 = .ok (.iload_n 1, 1) := by decide +kernel
theorem dX4_walked_24 : decode cX4_walked 24 = .ok (.invokevirtual 157, 3) := by decide +kernel
theorem dX4_walked_27 : decode cX4_walked 27 = .ok (.aload_n 0, 1) := by decide +kernel
theorem dX4_walked_28 : decode cX4_walked 28 = .ok (.getfield 36, 3) := by decide +kernel
theorem dX4_walked_31 : decode cX4_walked 31 = .ok (.getfield 160, 3) := by decide +kernel
theorem dX4_walked_34 : decode cX4_walked 34 = .ok (.iload_n 2, 1) := by decide +kernel
theorem dX4_walked_35 : decode cX4_walked 35 = .ok (.iaload, 1) := by decide +kernel
theorem dX4_walked_36 : decode cX4_walked 36 = .ok (.ireturn, 1) := by decide +kernel
theorem dX4_ifLaunched_0 : decode cX4_ifLaunched 0 = .ok (.iload_n 1, 1) := by decide +kernel
theorem dX4_ifLaunched_1 : decode cX4_ifLaunched 1 = .ok (.bipush 7, 2) := by decide +kernel
theorem dX4_ifLaunched_3 : decode cX4_ifLaunched 3 = .ok (.invokestatic 43, 3) := by decide +kernel
theorem dX4_ifLaunched_6 : decode cX4_ifLaunched 6 = .ok (.iload_n 2, 1) := by decide +kernel
theorem dX4_ifLaunched_7 : decode cX4_ifLaunched 7 = .ok (.iconst 0, 1) := by decide +kernel
theorem dX4_ifLaunched_8 : decode cX4_ifLaunched 8 = .ok (.iconst 3, 1) := by decide +kernel
theorem dX4_ifLaunched_9 : decode cX4_ifLaunched 9 = .ok (.invokestatic 47, 3) := by decide +kernel
theorem dX4_ifLaunched_12 : decode cX4_ifLaunched 12 = .ok (.aload_n 0, 1) := by decide +kernel
theorem dX4_ifLaunched_13 : decode cX4_ifLaunched 13 = .ok (.iload_n 1, 1) := by decide +kernel
theorem dX4_ifLaunched_14 : decode cX4_ifLaunched 14 = .ok (.invokevirtual 163, 3) := by decide +kernel
theorem dX4_ifLaunched_17 : decode cX4_ifLaunched 17 = .ok (.aload_n 0, 1) := by decide +kernel
theorem dX4_ifLaunched_18 : decode cX4_ifLaunched 18 = .ok (.iload_n 2, 1) := by decide +kernel
theorem dX4_ifLaunched_19 : decode cX4_ifLaunched 19 = .ok (.invokevirtual 166, 3) := by decide +kernel
theorem dX4_ifLaunched_22 : decode cX4_ifLaunched 22 = .ok (.ireturn, 1) := by decide +kernel
theorem dX4_bestColumn_0 : decode cX4_bestColumn 0 = .ok (.iconst 0, 1) := by decide +kernel
theorem dX4_bestColumn_1 : decode cX4_bestColumn 1 = .ok (.istore_n 1, 1) := by decide +kernel
theorem dX4_bestColumn_2 : decode cX4_bestColumn 2 = .ok (.iconst (-1), 1) := by decide +kernel
theorem dX4_bestColumn_3 : decode cX4_bestColumn 3 = .ok (.istore_n 2, 1) := by decide +kernel
theorem dX4_bestColumn_4 : decode cX4_bestColumn 4 = .ok (.iconst 0, 1) := by decide +kernel
theorem dX4_bestColumn_5 : decode cX4_bestColumn 5 = .ok (.istore_n 3, 1) := by decide +kernel
theorem dX4_bestColumn_6 : decode cX4_bestColumn 6 = .ok (.iload_n 3, 1) := by decide +kernel
theorem dX4_bestColumn_7 : decode cX4_bestColumn 7 = .ok (.bipush 7, 2) := by decide +kernel
theorem dX4_bestColumn_9 : decode cX4_bestColumn 9 = .ok (.if_icmp .ge 27, 3) := by decide +kernel
theorem dX4_bestColumn_12 : decode cX4_bestColumn 12 = .ok (.aload_n 0, 1) := by decide +kernel
theorem dX4_bestColumn_13 : decode cX4_bestColumn 13 = .ok (.iload_n 3, 1) := by decide +kernel
theorem dX4_bestColumn_14 : decode cX4_bestColumn 14 = .ok (.invokevirtual 169, 3) := by decide +kernel
theorem dX4_bestColumn_17 : decode cX4_bestColumn 17 = .ok (.istore 4, 2) := by decide +kernel
theorem dX4_bestColumn_19 : decode cX4_bestColumn 19 = .ok (.iload 4, 2) := by decide +kernel
theorem dX4_bestColumn_21 : decode cX4_bestColumn 21 = .ok (.iload_n 2, 1) := by decide +kernel
theorem dX4_bestColumn_22 : decode cX4_bestColumn 22 = .ok (.if_icmp .le 8, 3) := by decide +kernel
theorem dX4_bestColumn_25 : decode cX4_bestColumn 25 = .ok (.iload_n 3, 1) := by decide +kernel
theorem dX4_bestColumn_26 : decode cX4_bestColumn 26 = .ok (.istore_n 1, 1) := by decide +kernel
theorem dX4_bestColumn_27 : decode cX4_bestColumn 27 = .ok (.iload 4, 2) := by decide +kernel
theorem dX4_bestColumn_29 : decode cX4_bestColumn 29 = .ok (.istore_n 2, 1) := by decide +kernel
theorem dX4_bestColumn_30 : decode cX4_bestColumn 30 = .ok (.iinc 3 1, 3) := by decide +kernel
theorem dX4_bestColumn_33 : decode cX4_bestColumn 33 = .ok (.goto (-27), 3) := by decide +kernel
theorem dX4_bestColumn_36 : decode cX4_bestColumn 36 = .ok (.iload_n 1, 1) := by decide +kernel
theorem dX4_bestColumn_37 : decode cX4_bestColumn 37 = .ok (.ireturn, 1) := by decide +kernel
theorem dX4_untilOpen_0 : decode cX4_untilOpen 0 = .ok (.iload_n 1, 1) := by decide +kernel
theorem dX4_untilOpen_1 : decode cX4_untilOpen 1 = .ok (.bipush 7, 2) := by decide +kernel
theorem dX4_untilOpen_3 : decode cX4_untilOpen 3 = .ok (.invokestatic 43, 3) := by decide +kernel
theorem dX4_untilOpen_6 : decode cX4_untilOpen 6 = .ok (.aload_n 0, 1) := by decide +kernel
theorem dX4_untilOpen_7 : decode cX4_untilOpen 7 = .ok (.iload_n 1, 1) := by decide +kernel
theorem dX4_untilOpen_8 : decode cX4_untilOpen 8 = .ok (.invokevirtual 172, 3) := by decide +kernel
theorem dX4_untilOpen_11 : decode cX4_untilOpen 11 = .ok (.ireturn, 1) := by decide +kernel
theorem dX4_payback_0 : decode cX4_payback 0 = .ok (.aload_n 0, 1) := by decide +kernel
theorem dX4_payback_1 : decode cX4_payback 1 = .ok (.getfield 12, 3) := by decide +kernel
theorem dX4_payback_4 : decode cX4_payback 4 = .ok (.getfield 71, 3) := by decide +kernel
theorem dX4_payback_7 : decode cX4_payback 7 = .ok (.iconst 2, 1) := by decide +kernel
theorem dX4_payback_8 : decode cX4_payback 8 = .ok (.iaload, 1) := by decide +kernel
theorem dX4_payback_9 : decode cX4_payback 9 = .ok (.istore_n 1, 1) := by decide +kernel
theorem dX4_payback_10 : decode cX4_payback 10 = .ok (.iload_n 1, 1) := by decide +kernel
theorem dX4_payback_11 : decode cX4_payback 11 = .ok (.ifCond .le 19, 3) := by decide +kernel
theorem dX4_payback_14 : decode cX4_payback 14 = .ok (.aload_n 0, 1) := by decide +kernel
theorem dX4_payback_15 : decode cX4_payback 15 = .ok (.getfield 12, 3) := by decide +kernel
theorem dX4_payback_18 : decode cX4_payback 18 = .ok (.getfield 71, 3) := by decide +kernel
theorem dX4_payback_21 : decode cX4_payback 21 = .ok (.iconst 3, 1) := by decide +kernel
theorem dX4_payback_22 : decode cX4_payback 22 = .ok (.iaload, 1) := by decide +kernel
theorem dX4_payback_23 : decode cX4_payback 23 = .ok (.i2d, 1) := by decide +kernel
theorem dX4_payback_24 : decode cX4_payback 24 = .ok (.iload_n 1, 1) := by decide +kernel
theorem dX4_payback_25 : decode cX4_payback 25 = .ok (.i2d, 1) := by decide +kernel
theorem dX4_payback_26 : decode cX4_payback 26 = .ok (.ddiv, 1) := by decide +kernel
theorem dX4_payback_27 : decode cX4_payback 27 = .ok (.goto 4, 3) := by decide +kernel
theorem dX4_payback_30 : decode cX4_payback 30 = .ok (.dconst 0, 1) := by decide +kernel
theorem dX4_payback_31 : decode cX4_payback 31 = .ok (.dreturn, 1) := by decide +kernel
theorem dX4_digest_0 : decode cX4_digest 0 = .ok (.ldc2_w 175, 3) := by decide +kernel
theorem dX4_digest_3 : decode cX4_digest 3 = .ok (.aload_n 0, 1) := by decide +kernel
theorem dX4_digest_4 : decode cX4_digest 4 = .ok (.getfield 12, 3) := by decide +kernel
theorem dX4_digest_7 : decode cX4_digest 7 = .ok (.getfield 71, 3) := by decide +kernel
theorem dX4_digest_10 : decode cX4_digest 10 = .ok (.bipush 17, 2) := by decide +kernel
theorem dX4_digest_12 : decode cX4_digest 12 = .ok (.invokestatic 177, 3) := by decide +kernel
theorem dX4_digest_15 : decode cX4_digest 15 = .ok (.lstore_n 1, 1) := by decide +kernel
theorem dX4_digest_16 : decode cX4_digest 16 = .ok (.lload_n 1, 1) := by decide +kernel
theorem dX4_digest_17 : decode cX4_digest 17 = .ok (.aload_n 0, 1) := by decide +kernel
theorem dX4_digest_18 : decode cX4_digest 18 = .ok (.getfield 22, 3) := by decide +kernel
theorem dX4_digest_21 : decode cX4_digest 21 = .ok (.getfield 127, 3) := by decide +kernel
theorem dX4_digest_24 : decode cX4_digest 24 = .ok (.i2l, 1) := by decide +kernel
theorem dX4_digest_25 : decode cX4_digest 25 = .ok (.invokestatic 181, 3) := by decide +kernel
theorem dX4_digest_28 : decode cX4_digest 28 = .ok (.lstore_n 1, 1) := by decide +kernel
theorem dX4_digest_29 : decode cX4_digest 29 = .ok (.aload_n 0, 1) := by decide +kernel
theorem dX4_digest_30 : decode cX4_digest 30 = .ok (.lload_n 1, 1) := by decide +kernel
theorem dX4_digest_31 : decode cX4_digest 31 = .ok (.invokevirtual 185, 3) := by decide +kernel
theorem dX4_digest_34 : decode cX4_digest 34 = .ok (.lstore_n 1, 1) := by decide +kernel
theorem dX4_digest_35 : decode cX4_digest 35 = .ok (.iconst 0, 1) := by decide +kernel
theorem dX4_digest_36 : decode cX4_digest 36 = .ok (.istore_n 3, 1) := by decide +kernel
theorem dX4_digest_37 : decode cX4_digest 37 = .ok (.iload_n 3, 1) := by decide +kernel
theorem dX4_digest_38 : decode cX4_digest 38 = .ok (.bipush 7, 2) := by decide +kernel
theorem dX4_digest_40 : decode cX4_digest 40 = .ok (.if_icmp .ge 16, 3) := by decide +kernel
theorem dX4_digest_43 : decode cX4_digest 43 = .ok (.aload_n 0, 1) := by decide +kernel
theorem dX4_digest_44 : decode cX4_digest 44 = .ok (.lload_n 1, 1) := by decide +kernel
theorem dX4_digest_45 : decode cX4_digest 45 = .ok (.iload_n 3, 1) := by decide +kernel
theorem dX4_digest_46 : decode cX4_digest 46 = .ok (.invokevirtual 189, 3) := by decide +kernel
theorem dX4_digest_49 : decode cX4_digest 49 = .ok (.lstore_n 1, 1) := by decide +kernel
theorem dX4_digest_50 : decode cX4_digest 50 = .ok (.iinc 3 1, 3) := by decide +kernel
theorem dX4_digest_53 : decode cX4_digest 53 = .ok (.goto (-16), 3) := by decide +kernel
theorem dX4_digest_56 : decode cX4_digest 56 = .ok (.lload_n 1, 1) := by decide +kernel
theorem dX4_digest_57 : decode cX4_digest 57 = .ok (.aload_n 0, 1) := by decide +kernel
theorem dX4_digest_58 : decode cX4_digest 58 = .ok (.invokevirtual 193, 3) := by decide +kernel
theorem dX4_digest_61 : decode cX4_digest 61 = .ok (.i2l, 1) := by decide +kernel
theorem dX4_digest_62 : decode cX4_digest 62 = .ok (.invokestatic 181, 3) := by decide +kernel
theorem dX4_digest_65 : decode cX4_digest 65 = .ok (.lstore_n 1, 1) := by decide +kernel
theorem dX4_digest_66 : decode cX4_digest 66 = .ok (.lload_n 1, 1) := by decide +kernel
theorem dX4_digest_67 : decode cX4_digest 67 = .ok (.aload_n 0, 1) := by decide +kernel
theorem dX4_digest_68 : decode cX4_digest 68 = .ok (.invokevirtual 196, 3) := by decide +kernel
theorem dX4_digest_71 : decode cX4_digest 71 = .ok (.invokestatic 200, 3) := by decide +kernel
theorem dX4_digest_74 : decode cX4_digest 74 = .ok (.invokestatic 181, 3) := by decide +kernel
theorem dX4_digest_77 : decode cX4_digest 77 = .ok (.lstore_n 1, 1) := by decide +kernel
theorem dX4_digest_78 : decode cX4_digest 78 = .ok (.lload_n 1, 1) := by decide +kernel
theorem dX4_digest_79 : decode cX4_digest 79 = .ok (.aload_n 0, 1) := by decide +kernel
theorem dX4_digest_80 : decode cX4_digest 80 = .ok (.getfield 29, 3) := by decide +kernel
theorem dX4_digest_83 : decode cX4_digest 83 = .ok (.getfield 95, 3) := by decide +kernel
theorem dX4_digest_86 : decode cX4_digest 86 = .ok (.i2l, 1) := by decide +kernel
theorem dX4_digest_87 : decode cX4_digest 87 = .ok (.invokestatic 181, 3) := by decide +kernel
theorem dX4_digest_90 : decode cX4_digest 90 = .ok (.lstore_n 1, 1) := by decide +kernel
theorem dX4_digest_91 : decode cX4_digest 91 = .ok (.lload_n 1, 1) := by decide +kernel
theorem dX4_digest_92 : decode cX4_digest 92 = .ok (.aload_n 0, 1) := by decide +kernel
theorem dX4_digest_93 : decode cX4_digest 93 = .ok (.getfield 29, 3) := by decide +kernel
theorem dX4_digest_96 : decode cX4_digest 96 = .ok (.getfield 204, 3) := by decide +kernel
theorem dX4_digest_99 : decode cX4_digest 99 = .ok (.aload_n 0, 1) := by decide +kernel
theorem dX4_digest_100 : decode cX4_digest 100 = .ok (.getfield 29, 3) := by decide +kernel
theorem dX4_digest_103 : decode cX4_digest 103 = .ok (.getfield 95, 3) := by decide +kernel
theorem dX4_digest_106 : decode cX4_digest 106 = .ok (.invokestatic 177, 3) := by decide +kernel
theorem dX4_digest_109 : decode cX4_digest 109 = .ok (.lreturn, 1) := by decide +kernel
theorem dX4_checkIndex_0 : decode cX4_checkIndex 0 = .ok (.iload_n 0, 1) := by decide +kernel
theorem dX4_checkIndex_1 : decode cX4_checkIndex 1 = .ok (.ifCond .lt 8, 3) := by decide +kernel
theorem dX4_checkIndex_4 : decode cX4_checkIndex 4 = .ok (.iload_n 0, 1) := by decide +kernel
theorem dX4_checkIndex_5 : decode cX4_checkIndex 5 = .ok (.iload_n 1, 1) := by decide +kernel
theorem dX4_checkIndex_6 : decode cX4_checkIndex 6 = .ok (.if_icmp .lt 13, 3) := by decide +kernel
theorem dX4_checkIndex_9 : decode cX4_checkIndex 9 = .ok (.new 207, 3) := by decide +kernel
theorem dX4_checkIndex_12 : decode cX4_checkIndex 12 = .ok (.dup, 1) := by decide +kernel
theorem dX4_checkIndex_13 : decode cX4_checkIndex 13 = .ok (.ldc 209, 2) := by decide +kernel
theorem dX4_checkIndex_15 : decode cX4_checkIndex 15 = .ok (.invokespecial 211, 3) := by decide +kernel
theorem dX4_checkIndex_18 : decode cX4_checkIndex 18 = .ok (.athrow, 1) := by decide +kernel
theorem dX4_checkIndex_19 : decode cX4_checkIndex 19 = .ok (.return_, 1) := by decide +kernel
theorem dX4_checkValue_0 : decode cX4_checkValue 0 = .ok (.iload_n 0, 1) := by decide +kernel
theorem dX4_checkValue_1 : decode cX4_checkValue 1 = .ok (.iload_n 1, 1) := by decide +kernel
theorem dX4_checkValue_2 : decode cX4_checkValue 2 = .ok (.if_icmp .lt 8, 3) := by decide +kernel
theorem dX4_checkValue_5 : decode cX4_checkValue 5 = .ok (.iload_n 0, 1) := by decide +kernel
theorem dX4_checkValue_6 : decode cX4_checkValue 6 = .ok (.iload_n 2, 1) := by decide +kernel
theorem dX4_checkValue_7 : decode cX4_checkValue 7 = .ok (.if_icmp .le 13, 3) := by decide +kernel
theorem dX4_checkValue_10 : decode cX4_checkValue 10 = .ok (.new 110, 3) := by decide +kernel
theorem dX4_checkValue_13 : decode cX4_checkValue 13 = .ok (.dup, 1) := by decide +kernel
theorem dX4_checkValue_14 : decode cX4_checkValue 14 = .ok (.ldc 212, 2) := by decide +kernel
theorem dX4_checkValue_16 : decode cX4_checkValue 16 = .ok (.invokespecial 114, 3) := by decide +kernel
theorem dX4_checkValue_19 : decode cX4_checkValue 19 = .ok (.athrow, 1) := by decide +kernel
theorem dX4_checkValue_20 : decode cX4_checkValue 20 = .ok (.return_, 1) := by decide +kernel
theorem dX4_doPart_0 : decode cX4_doPart 0 = .ok (.aload_n 0, 1) := by decide +kernel
theorem dX4_doPart_1 : decode cX4_doPart 1 = .ok (.getfield 29, 3) := by decide +kernel
theorem dX4_doPart_4 : decode cX4_doPart 4 = .ok (.iload_n 1, 1) := by decide +kernel
theorem dX4_doPart_5 : decode cX4_doPart 5 = .ok (.invokevirtual 214, 3) := by decide +kernel
theorem dX4_doPart_8 : decode cX4_doPart 8 = .ok (.lookupswitch 103 #[(98, 57), (108, 28)], 28) := by decide +kernel
theorem dX4_doPart_36 : decode cX4_doPart 36 = .ok (.aload_n 0, 1) := by decide +kernel
theorem dX4_doPart_37 : decode cX4_doPart 37 = .ok (.getfield 12, 3) := by decide +kernel
theorem dX4_doPart_40 : decode cX4_doPart 40 = .ok (.aload_n 0, 1) := by decide +kernel
theorem dX4_doPart_41 : decode cX4_doPart 41 = .ok (.getfield 29, 3) := by decide +kernel
theorem dX4_doPart_44 : decode cX4_doPart 44 = .ok (.iload_n 1, 1) := by decide +kernel
theorem dX4_doPart_45 : decode cX4_doPart 45 = .ok (.iconst 1, 1) := by decide +kernel
theorem dX4_doPart_46 : decode cX4_doPart 46 = .ok (.iadd, 1) := by decide +kernel
theorem dX4_doPart_47 : decode cX4_doPart 47 = .ok (.invokevirtual 217, 3) := by decide +kernel
theorem dX4_doPart_50 : decode cX4_doPart 50 = .ok (.aload_n 0, 1) := by decide +kernel
theorem dX4_doPart_51 : decode cX4_doPart 51 = .ok (.getfield 29, 3) := by decide +kernel
theorem dX4_doPart_54 : decode cX4_doPart 54 = .ok (.iload_n 1, 1) := by decide +kernel
theorem dX4_doPart_55 : decode cX4_doPart 55 = .ok (.iconst 3, 1) := by decide +kernel
theorem dX4_doPart_56 : decode cX4_doPart 56 = .ok (.iadd, 1) := by decide +kernel
theorem dX4_doPart_57 : decode cX4_doPart 57 = .ok (.iload_n 2, 1) := by decide +kernel
theorem dX4_doPart_58 : decode cX4_doPart 58 = .ok (.invokevirtual 220, 3) := by decide +kernel
theorem dX4_doPart_61 : decode cX4_doPart 61 = .ok (.invokevirtual 86, 3) := by decide +kernel
theorem dX4_doPart_64 : decode cX4_doPart 64 = .ok (.ireturn, 1) := by decide +kernel
theorem dX4_doPart_65 : decode cX4_doPart 65 = .ok (.aload_n 0, 1) := by decide +kernel
theorem dX4_doPart_66 : decode cX4_doPart 66 = .ok (.getfield 29, 3) := by decide +kernel
theorem dX4_doPart_69 : decode cX4_doPart 69 = .ok (.iload_n 1, 1) := by decide +kernel
theorem dX4_doPart_70 : decode cX4_doPart 70 = .ok (.iconst 1, 1) := by decide +kernel
theorem dX4_doPart_71 : decode cX4_doPart 71 = .ok (.iadd, 1) := by decide +kernel
theorem dX4_doPart_72 : decode cX4_doPart 72 = .ok (.invokevirtual 217, 3) := by decide +kernel
theorem dX4_doPart_75 : decode cX4_doPart 75 = .ok (.bipush 7, 2) := by decide +kernel
theorem dX4_doPart_77 : decode cX4_doPart 77 = .ok (.imul, 1) := by decide +kernel
theorem dX4_doPart_78 : decode cX4_doPart 78 = .ok (.aload_n 0, 1) := by decide +kernel
theorem dX4_doPart_79 : decode cX4_doPart 79 = .ok (.getfield 29, 3) := by decide +kernel
theorem dX4_doPart_82 : decode cX4_doPart 82 = .ok (.iload_n 1, 1) := by decide +kernel
theorem dX4_doPart_83 : decode cX4_doPart 83 = .ok (.iconst 2, 1) := by decide +kernel
theorem dX4_doPart_84 : decode cX4_doPart 84 = .ok (.iadd, 1) := by decide +kernel
theorem dX4_doPart_85 : decode cX4_doPart 85 = .ok (.invokevirtual 217, 3) := by decide +kernel
theorem dX4_doPart_88 : decode cX4_doPart 88 = .ok (.iadd, 1) := by decide +kernel
theorem dX4_doPart_89 : decode cX4_doPart 89 = .ok (.istore_n 3, 1) := by decide +kernel
theorem dX4_doPart_90 : decode cX4_doPart 90 = .ok (.aload_n 0, 1) := by decide +kernel
theorem dX4_doPart_91 : decode cX4_doPart 91 = .ok (.getfield 12, 3) := by decide +kernel
theorem dX4_doPart_94 : decode cX4_doPart 94 = .ok (.iload_n 3, 1) := by decide +kernel
theorem dX4_doPart_95 : decode cX4_doPart 95 = .ok (.aload_n 0, 1) := by decide +kernel
theorem dX4_doPart_96 : decode cX4_doPart 96 = .ok (.getfield 29, 3) := by decide +kernel
theorem dX4_doPart_99 : decode cX4_doPart 99 = .ok (.iload_n 1, 1) := by decide +kernel
theorem dX4_doPart_100 : decode cX4_doPart 100 = .ok (.iconst 3, 1) := by decide +kernel
theorem dX4_doPart_101 : decode cX4_doPart 101 = .ok (.iadd, 1) := by decide +kernel
theorem dX4_doPart_102 : decode cX4_doPart 102 = .ok (.invokevirtual 223, 3) := by decide +kernel
theorem dX4_doPart_105 : decode cX4_doPart 105 = .ok (.invokevirtual 55, 3) := by decide +kernel
theorem dX4_doPart_108 : decode cX4_doPart 108 = .ok (.pop, 1) := by decide +kernel
theorem dX4_doPart_109 : decode cX4_doPart 109 = .ok (.iconst 0, 1) := by decide +kernel
theorem dX4_doPart_110 : decode cX4_doPart 110 = .ok (.ireturn, 1) := by decide +kernel
theorem dX4_doPart_111 : decode cX4_doPart 111 = .ok (.aload_n 0, 1) := by decide +kernel
theorem dX4_doPart_112 : decode cX4_doPart 112 = .ok (.getfield 12, 3) := by decide +kernel
theorem dX4_doPart_115 : decode cX4_doPart 115 = .ok (.aload_n 0, 1) := by decide +kernel
theorem dX4_doPart_116 : decode cX4_doPart 116 = .ok (.getfield 29, 3) := by decide +kernel
theorem dX4_doPart_119 : decode cX4_doPart 119 = .ok (.iload_n 1, 1) := by decide +kernel
theorem dX4_doPart_120 : decode cX4_doPart 120 = .ok (.iconst 1, 1) := by decide +kernel
theorem dX4_doPart_121 : decode cX4_doPart 121 = .ok (.iadd, 1) := by decide +kernel
theorem dX4_doPart_122 : decode cX4_doPart 122 = .ok (.iload_n 2, 1) := by decide +kernel
theorem dX4_doPart_123 : decode cX4_doPart 123 = .ok (.invokevirtual 220, 3) := by decide +kernel
theorem dX4_doPart_126 : decode cX4_doPart 126 = .ok (.invokevirtual 67, 3) := by decide +kernel
theorem dX4_doPart_129 : decode cX4_doPart 129 = .ok (.iconst 0, 1) := by decide +kernel
theorem dX4_doPart_130 : decode cX4_doPart 130 = .ok (.ireturn, 1) := by decide +kernel
theorem dX4_tryLaunch_0 : decode cX4_tryLaunch 0 = .ok (.aload_n 0, 1) := by decide +kernel
theorem dX4_tryLaunch_1 : decode cX4_tryLaunch 1 = .ok (.getfield 16, 3) := by decide +kernel
theorem dX4_tryLaunch_4 : decode cX4_tryLaunch 4 = .ok (.aload_n 0, 1) := by decide +kernel
theorem dX4_tryLaunch_5 : decode cX4_tryLaunch 5 = .ok (.getfield 12, 3) := by decide +kernel
theorem dX4_tryLaunch_8 : decode cX4_tryLaunch 8 = .ok (.invokevirtual 130, 3) := by decide +kernel
theorem dX4_tryLaunch_11 : decode cX4_tryLaunch 11 = .ok (.aload_n 0, 1) := by decide +kernel
theorem dX4_tryLaunch_12 : decode cX4_tryLaunch 12 = .ok (.getfield 16, 3) := by decide +kernel
theorem dX4_tryLaunch_15 : decode cX4_tryLaunch 15 = .ok (.iload_n 1, 1) := by decide +kernel
theorem dX4_tryLaunch_16 : decode cX4_tryLaunch 16 = .ok (.invokevirtual 82, 3) := by decide +kernel
theorem dX4_tryLaunch_19 : decode cX4_tryLaunch 19 = .ok (.pop, 1) := by decide +kernel
theorem dX4_tryLaunch_20 : decode cX4_tryLaunch 20 = .ok (.return_, 1) := by decide +kernel
theorem dX4_tellTried_0 : decode cX4_tellTried 0 = .ok (.iload_n 1, 1) := by decide +kernel
theorem dX4_tellTried_1 : decode cX4_tellTried 1 = .ok (.tableswitch 69 0 2 #[27, 38, 58], 27) := by decide +kernel
theorem dX4_tellTried_28 : decode cX4_tellTried 28 = .ok (.aload_n 0, 1) := by decide +kernel
theorem dX4_tellTried_29 : decode cX4_tellTried 29 = .ok (.getfield 16, 3) := by decide +kernel
theorem dX4_tellTried_32 : decode cX4_tellTried 32 = .ok (.getfield 71, 3) := by decide +kernel
theorem dX4_tellTried_35 : decode cX4_tellTried 35 = .ok (.bipush 11, 2) := by decide +kernel
theorem dX4_tellTried_37 : decode cX4_tellTried 37 = .ok (.iaload, 1) := by decide +kernel
theorem dX4_tellTried_38 : decode cX4_tellTried 38 = .ok (.ireturn, 1) := by decide +kernel
theorem dX4_tellTried_39 : decode cX4_tellTried 39 = .ok (.aload_n 0, 1) := by decide +kernel
theorem dX4_tellTried_40 : decode cX4_tellTried 40 = .ok (.getfield 16, 3) := by decide +kernel
theorem dX4_tellTried_43 : decode cX4_tellTried 43 = .ok (.getfield 71, 3) := by decide +kernel
theorem dX4_tellTried_46 : decode cX4_tellTried 46 = .ok (.iconst 3, 1) := by decide +kernel
theorem dX4_tellTried_47 : decode cX4_tellTried 47 = .ok (.iaload, 1) := by decide +kernel
theorem dX4_tellTried_48 : decode cX4_tellTried 48 = .ok (.aload_n 0, 1) := by decide +kernel
theorem dX4_tellTried_49 : decode cX4_tellTried 49 = .ok (.getfield 12, 3) := by decide +kernel
theorem dX4_tellTried_52 : decode cX4_tellTried 52 = .ok (.getfield 71, 3) := by decide +kernel
theorem dX4_tellTried_55 : decode cX4_tellTried 55 = .ok (.iconst 3, 1) := by decide +kernel
theorem dX4_tellTried_56 : decode cX4_tellTried 56 = .ok (.iaload, 1) := by decide +kernel
theorem dX4_tellTried_57 : decode cX4_tellTried 57 = .ok (.isub, 1) := by decide +kernel
theorem dX4_tellTried_58 : decode cX4_tellTried 58 = .ok (.ireturn, 1) := by decide +kernel
theorem dX4_tellTried_59 : decode cX4_tellTried 59 = .ok (.aload_n 0, 1) := by decide +kernel
theorem dX4_tellTried_60 : decode cX4_tellTried 60 = .ok (.getfield 16, 3) := by decide +kernel
theorem dX4_tellTried_63 : decode cX4_tellTried 63 = .ok (.getfield 71, 3) := by decide +kernel
theorem dX4_tellTried_66 : decode cX4_tellTried 66 = .ok (.bipush 6, 2) := by decide +kernel
theorem dX4_tellTried_68 : decode cX4_tellTried 68 = .ok (.iaload, 1) := by decide +kernel
theorem dX4_tellTried_69 : decode cX4_tellTried 69 = .ok (.ireturn, 1) := by decide +kernel
theorem dX4_tellTried_70 : decode cX4_tellTried 70 = .ok (.aload_n 0, 1) := by decide +kernel
theorem dX4_tellTried_71 : decode cX4_tellTried 71 = .ok (.getfield 16, 3) := by decide +kernel
theorem dX4_tellTried_74 : decode cX4_tellTried 74 = .ok (.getfield 71, 3) := by decide +kernel
theorem dX4_tellTried_77 : decode cX4_tellTried 77 = .ok (.bipush 9, 2) := by decide +kernel
theorem dX4_tellTried_79 : decode cX4_tellTried 79 = .ok (.iaload, 1) := by decide +kernel
theorem dX4_tellTried_80 : decode cX4_tellTried 80 = .ok (.ireturn, 1) := by decide +kernel
theorem dX4_tryUntilHeld_0 : decode cX4_tryUntilHeld 0 = .ok (.aload_n 0, 1) := by decide +kernel
theorem dX4_tryUntilHeld_1 : decode cX4_tryUntilHeld 1 = .ok (.getfield 12, 3) := by decide +kernel
theorem dX4_tryUntilHeld_4 : decode cX4_tryUntilHeld 4 = .ok (.invokevirtual 226, 3) := by decide +kernel
theorem dX4_tryUntilHeld_7 : decode cX4_tryUntilHeld 7 = .ok (.ifCond .eq 5, 3) := by decide +kernel
theorem dX4_tryUntilHeld_10 : decode cX4_tryUntilHeld 10 = .ok (.iconst 0, 1) := by decide +kernel
theorem dX4_tryUntilHeld_11 : decode cX4_tryUntilHeld 11 = .ok (.ireturn, 1) := by decide +kernel
theorem dX4_tryUntilHeld_12 : decode cX4_tryUntilHeld 12 = .ok (.aload_n 0, 1) := by decide +kernel
theorem dX4_tryUntilHeld_13 : decode cX4_tryUntilHeld 13 = .ok (.getfield 16, 3) := by decide +kernel
theorem dX4_tryUntilHeld_16 : decode cX4_tryUntilHeld 16 = .ok (.aload_n 0, 1) := by decide +kernel
theorem dX4_tryUntilHeld_17 : decode cX4_tryUntilHeld 17 = .ok (.getfield 12, 3) := by decide +kernel
theorem dX4_tryUntilHeld_20 : decode cX4_tryUntilHeld 20 = .ok (.invokevirtual 130, 3) := by decide +kernel
theorem dX4_tryUntilHeld_23 : decode cX4_tryUntilHeld 23 = .ok (.iconst 1, 1) := by decide +kernel
theorem dX4_tryUntilHeld_24 : decode cX4_tryUntilHeld 24 = .ok (.istore_n 2, 1) := by decide +kernel
theorem dX4_tryUntilHeld_25 : decode cX4_tryUntilHeld 25 = .ok (.iload_n 2, 1) := by decide +kernel
theorem dX4_tryUntilHeld_26 : decode cX4_tryUntilHeld 26 = .ok (.sipush 200, 3) := by decide +kernel
theorem dX4_tryUntilHeld_29 : decode cX4_tryUntilHeld 29 = .ok (.if_icmp .gt 30, 3) := by decide +kernel
theorem dX4_tryUntilHeld_32 : decode cX4_tryUntilHeld 32 = .ok (.aload_n 0, 1) := by decide +kernel
theorem dX4_tryUntilHeld_33 : decode cX4_tryUntilHeld 33 = .ok (.getfield 16, 3) := by decide +kernel
theorem dX4_tryUntilHeld_36 : decode cX4_tryUntilHeld 36 = .ok (.iload_n 1, 1) := by decide +kernel
theorem dX4_tryUntilHeld_37 : decode cX4_tryUntilHeld 37 = .ok (.invokevirtual 82, 3) := by decide +kernel
theorem dX4_tryUntilHeld_40 : decode cX4_tryUntilHeld 40 = .ok (.pop, 1) := by decide +kernel
theorem dX4_tryUntilHeld_41 : decode cX4_tryUntilHeld 41 = .ok (.aload_n 0, 1) := by decide +kernel
theorem dX4_tryUntilHeld_42 : decode cX4_tryUntilHeld 42 = .ok (.getfield 16, 3) := by decide +kernel
theorem dX4_tryUntilHeld_45 : decode cX4_tryUntilHeld 45 = .ok (.invokevirtual 226, 3) := by decide +kernel
theorem dX4_tryUntilHeld_48 : decode cX4_tryUntilHeld 48 = .ok (.ifCond .eq 5, 3) := by decide +kernel
theorem dX4_tryUntilHeld_51 : decode cX4_tryUntilHeld 51 = .ok (.iload_n 2, 1) := by decide +kernel
theorem dX4_tryUntilHeld_52 : decode cX4_tryUntilHeld 52 = .ok (.ireturn, 1) := by decide +kernel
theorem dX4_tryUntilHeld_53 : decode cX4_tryUntilHeld 53 = .ok (.iinc 2 1, 3) := by decide +kernel
theorem dX4_tryUntilHeld_56 : decode cX4_tryUntilHeld 56 = .ok (.goto (-31), 3) := by decide +kernel
theorem dX4_tryUntilHeld_59 : decode cX4_tryUntilHeld 59 = .ok (.iconst (-1), 1) := by decide +kernel
theorem dX4_tryUntilHeld_60 : decode cX4_tryUntilHeld 60 = .ok (.ireturn, 1) := by decide +kernel
theorem dX4_measurePays_0 : decode cX4_measurePays 0 = .ok (.aload_n 0, 1) := by decide +kernel
theorem dX4_measurePays_1 : decode cX4_measurePays 1 = .ok (.getfield 36, 3) := by decide +kernel
theorem dX4_measurePays_4 : decode cX4_measurePays 4 = .ok (.aload_n 0, 1) := by decide +kernel
theorem dX4_measurePays_5 : decode cX4_measurePays 5 = .ok (.getfield 12, 3) := by decide +kernel
theorem dX4_measurePays_8 : decode cX4_measurePays 8 = .ok (.getfield 135, 3) := by decide +kernel
theorem dX4_measurePays_11 : decode cX4_measurePays 11 = .ok (.iload_n 1, 1) := by decide +kernel
theorem dX4_measurePays_12 : decode cX4_measurePays 12 = .ok (.invokevirtual 150, 3) := by decide +kernel
theorem dX4_measurePays_15 : decode cX4_measurePays 15 = .ok (.iconst 0, 1) := by decide +kernel
theorem dX4_measurePays_16 : decode cX4_measurePays 16 = .ok (.istore_n 2, 1) := by decide +kernel
theorem dX4_measurePays_17 : decode cX4_measurePays 17 = .ok (.iconst 0, 1) := by decide +kernel
theorem dX4_measurePays_18 : decode cX4_measurePays 18 = .ok (.istore_n 3, 1) := by decide +kernel
theorem dX4_measurePays_19 : decode cX4_measurePays 19 = .ok (.iconst 0, 1) := by decide +kernel
theorem dX4_measurePays_20 : decode cX4_measurePays 20 = .ok (.istore 4, 2) := by decide +kernel
theorem dX4_measurePays_22 : decode cX4_measurePays 22 = .ok (.iload 4, 2) := by decide +kernel
theorem dX4_measurePays_24 : decode cX4_measurePays 24 = .ok (.bipush 7, 2) := by decide +kernel
theorem dX4_measurePays_26 : decode cX4_measurePays 26 = .ok (.if_icmp .ge 58, 3) := by decide +kernel
theorem dX4_measurePays_29 : decode cX4_measurePays 29 = .ok (.iload_n 2, 1) := by decide +kernel
theorem dX4_measurePays_30 : decode cX4_measurePays 30 = .ok (.aload_n 0, 1) := by decide +kernel
theorem dX4_measurePays_31 : decode cX4_measurePays 31 = .ok (.getfield 36, 3) := by decide +kernel
theorem dX4_measurePays_34 : decode cX4_measurePays 34 = .ok (.getfield 154, 3) := by decide +kernel
theorem dX4_measurePays_37 : decode cX4_measurePays 37 = .ok (.iload 4, 2) := by decide +kernel
theorem dX4_measurePays_39 : decode cX4_measurePays 39 = .ok (.iaload, 1) := by decide +kernel
theorem dX4_measurePays_40 : decode cX4_measurePays 40 = .ok (.iadd, 1) := by decide +kernel
theorem dX4_measurePays_41 : decode cX4_measurePays 41 = .ok (.istore_n 2, 1) := by decide +kernel
theorem dX4_measurePays_42 : decode cX4_measurePays 42 = .ok (.aload_n 0, 1) := by decide +kernel
theorem dX4_measurePays_43 : decode cX4_measurePays 43 = .ok (.getfield 12, 3) := by decide +kernel
theorem dX4_measurePays_46 : decode cX4_measurePays 46 = .ok (.iload 4, 2) := by decide +kernel
theorem dX4_measurePays_48 : decode cX4_measurePays 48 = .ok (.invokevirtual 229, 3) := by decide +kernel
theorem dX4_measurePays_51 : decode cX4_measurePays 51 = .ok (.ifCond .eq 27, 3) := by decide +kernel
theorem dX4_measurePays_54 : decode cX4_measurePays 54 = .ok (.iload_n 3, 1) := by decide +kernel
theorem dX4_measurePays_55 : decode cX4_measurePays 55 = .ok (.aload_n 0, 1) := by decide +kernel
theorem dX4_measurePays_56 : decode cX4_measurePays 56 = .ok (.getfield 36, 3) := by decide +kernel
theorem dX4_measurePays_59 : decode cX4_measurePays 59 = .ok (.getfield 154, 3) := by decide +kernel
theorem dX4_measurePays_62 : decode cX4_measurePays 62 = .ok (.iload 4, 2) := by decide +kernel
theorem dX4_measurePays_64 : decode cX4_measurePays 64 = .ok (.iaload, 1) := by decide +kernel
theorem dX4_measurePays_65 : decode cX4_measurePays 65 = .ok (.aload_n 0, 1) := by decide +kernel
theorem dX4_measurePays_66 : decode cX4_measurePays 66 = .ok (.getfield 12, 3) := by decide +kernel
theorem dX4_measurePays_69 : decode cX4_measurePays 69 = .ok (.getfield 232, 3) := by decide +kernel
theorem dX4_measurePays_72 : decode cX4_measurePays 72 = .ok (.iload 4, 2) := by decide +kernel
theorem dX4_measurePays_74 : decode cX4_measurePays 74 = .ok (.iaload, 1) := by decide +kernel
theorem dX4_measurePays_75 : decode cX4_measurePays 75 = .ok (.imul, 1) := by decide +kernel
theorem dX4_measurePays_76 : decode cX4_measurePays 76 = .ok (.iadd, 1) := by decide +kernel
theorem dX4_measurePays_77 : decode cX4_measurePays 77 = .ok (.istore_n 3, 1) := by decide +kernel
theorem dX4_measurePays_78 : decode cX4_measurePays 78 = .ok (.iinc 4 1, 3) := by decide +kernel
theorem dX4_measurePays_81 : decode cX4_measurePays 81 = .ok (.goto (-59), 3) := by decide +kernel
theorem dX4_measurePays_84 : decode cX4_measurePays 84 = .ok (.iload_n 2, 1) := by decide +kernel
theorem dX4_measurePays_85 : decode cX4_measurePays 85 = .ok (.ifCond .le 13, 3) := by decide +kernel
theorem dX4_measurePays_88 : decode cX4_measurePays 88 = .ok (.iload_n 3, 1) := by decide +kernel
theorem dX4_measurePays_89 : decode cX4_measurePays 89 = .ok (.sipush 1000, 3) := by decide +kernel
theorem dX4_measurePays_92 : decode cX4_measurePays 92 = .ok (.imul, 1) := by decide +kernel
theorem dX4_measurePays_93 : decode cX4_measurePays 93 = .ok (.iload_n 2, 1) := by decide +kernel
theorem dX4_measurePays_94 : decode cX4_measurePays 94 = .ok (.idiv, 1) := by decide +kernel
theorem dX4_measurePays_95 : decode cX4_measurePays 95 = .ok (.goto 4, 3) := by decide +kernel
theorem dX4_measurePays_98 : decode cX4_measurePays 98 = .ok (.iconst 0, 1) := by decide +kernel
theorem dX4_measurePays_99 : decode cX4_measurePays 99 = .ok (.ireturn, 1) := by decide +kernel
theorem dX4_hashOne_0 : decode cX4_hashOne 0 = .ok (.ldc2_w 235, 3) := by decide +kernel
theorem dX4_hashOne_3 : decode cX4_hashOne 3 = .ok (.lload_n 0, 1) := by decide +kernel
theorem dX4_hashOne_4 : decode cX4_hashOne 4 = .ok (.lmul, 1) := by decide +kernel
theorem dX4_hashOne_5 : decode cX4_hashOne 5 = .ok (.lload_n 2, 1) := by decide +kernel
theorem dX4_hashOne_6 : decode cX4_hashOne 6 = .ok (.ladd, 1) := by decide +kernel
theorem dX4_hashOne_7 : decode cX4_hashOne 7 = .ok (.lreturn, 1) := by decide +kernel
theorem dX4_hashAll_0 : decode cX4_hashAll 0 = .ok (.lload_n 0, 1) := by decide +kernel
theorem dX4_hashAll_1 : decode cX4_hashAll 1 = .ok (.lstore 4, 2) := by decide +kernel
theorem dX4_hashAll_3 : decode cX4_hashAll 3 = .ok (.iconst 0, 1) := by decide +kernel
theorem dX4_hashAll_4 : decode cX4_hashAll 4 = .ok (.istore 6, 2) := by decide +kernel
theorem dX4_hashAll_6 : decode cX4_hashAll 6 = .ok (.iload 6, 2) := by decide +kernel
theorem dX4_hashAll_8 : decode cX4_hashAll 8 = .ok (.iload_n 3, 1) := by decide +kernel
theorem dX4_hashAll_9 : decode cX4_hashAll 9 = .ok (.if_icmp .ge 28, 3) := by decide +kernel
theorem dX4_hashAll_12 : decode cX4_hashAll 12 = .ok (.iload 6, 2) := by decide +kernel
theorem dX4_hashAll_14 : decode cX4_hashAll 14 = .ok (.aload_n 2, 1) := by decide +kernel
theorem dX4_hashAll_15 : decode cX4_hashAll 15 = .ok (.arraylength, 1) := by decide +kernel
theorem dX4_hashAll_16 : decode cX4_hashAll 16 = .ok (.if_icmp .ge 21, 3) := by decide +kernel
theorem dX4_hashAll_19 : decode cX4_hashAll 19 = .ok (.lload 4, 2) := by decide +kernel
theorem dX4_hashAll_21 : decode cX4_hashAll 21 = .ok (.aload_n 2, 1) := by decide +kernel
theorem dX4_hashAll_22 : decode cX4_hashAll 22 = .ok (.iload 6, 2) := by decide +kernel
theorem dX4_hashAll_24 : decode cX4_hashAll 24 = .ok (.iaload, 1) := by decide +kernel
theorem dX4_hashAll_25 : decode cX4_hashAll 25 = .ok (.i2l, 1) := by decide +kernel
theorem dX4_hashAll_26 : decode cX4_hashAll 26 = .ok (.invokestatic 181, 3) := by decide +kernel
theorem dX4_hashAll_29 : decode cX4_hashAll 29 = .ok (.lstore 4, 2) := by decide +kernel
theorem dX4_hashAll_31 : decode cX4_hashAll 31 = .ok (.iinc 6 1, 3) := by decide +kernel
theorem dX4_hashAll_34 : decode cX4_hashAll 34 = .ok (.goto (-28), 3) := by decide +kernel
theorem dX4_hashAll_37 : decode cX4_hashAll 37 = .ok (.lload 4, 2) := by decide +kernel
theorem dX4_hashAll_39 : decode cX4_hashAll 39 = .ok (.lreturn, 1) := by decide +kernel
theorem dX4_hashBoard_0 : decode cX4_hashBoard 0 = .ok (.lload_n 1, 1) := by decide +kernel
theorem dX4_hashBoard_1 : decode cX4_hashBoard 1 = .ok (.lstore_n 3, 1) := by decide +kernel
theorem dX4_hashBoard_2 : decode cX4_hashBoard 2 = .ok (.iconst 0, 1) := by decide +kernel
theorem dX4_hashBoard_3 : decode cX4_hashBoard 3 = .ok (.istore 5, 2) := by decide +kernel
theorem dX4_hashBoard_5 : decode cX4_hashBoard 5 = .ok (.iload 5, 2) := by decide +kernel
theorem dX4_hashBoard_7 : decode cX4_hashBoard 7 = .ok (.bipush 56, 2) := by decide +kernel
theorem dX4_hashBoard_9 : decode cX4_hashBoard 9 = .ok (.if_icmp .ge 27, 3) := by decide +kernel
theorem dX4_hashBoard_12 : decode cX4_hashBoard 12 = .ok (.lload_n 3, 1) := by decide +kernel
theorem dX4_hashBoard_13 : decode cX4_hashBoard 13 = .ok (.aload_n 0, 1) := by decide +kernel
theorem dX4_hashBoard_14 : decode cX4_hashBoard 14 = .ok (.getfield 12, 3) := by decide +kernel
theorem dX4_hashBoard_17 : decode cX4_hashBoard 17 = .ok (.getfield 135, 3) := by decide +kernel
theorem dX4_hashBoard_20 : decode cX4_hashBoard 20 = .ok (.iload 5, 2) := by decide +kernel
theorem dX4_hashBoard_22 : decode cX4_hashBoard 22 = .ok (.iaload, 1) := by decide +kernel
theorem dX4_hashBoard_23 : decode cX4_hashBoard 23 = .ok (.iconst 1, 1) := by decide +kernel
theorem dX4_hashBoard_24 : decode cX4_hashBoard 24 = .ok (.iadd, 1) := by decide +kernel
theorem dX4_hashBoard_25 : decode cX4_hashBoard 25 = .ok (.i2l, 1) := by decide +kernel
theorem dX4_hashBoard_26 : decode cX4_hashBoard 26 = .ok (.invokestatic 181, 3) := by decide +kernel
theorem dX4_hashBoard_29 : decode cX4_hashBoard 29 = .ok (.lstore_n 3, 1) := by decide +kernel
theorem dX4_hashBoard_30 : decode cX4_hashBoard 30 = .ok (.iinc 5 1, 3) := by decide +kernel
theorem dX4_hashBoard_33 : decode cX4_hashBoard 33 = .ok (.goto (-28), 3) := by decide +kernel
theorem dX4_hashBoard_36 : decode cX4_hashBoard 36 = .ok (.lload_n 3, 1) := by decide +kernel
theorem dX4_hashBoard_37 : decode cX4_hashBoard 37 = .ok (.aload_n 0, 1) := by decide +kernel
theorem dX4_hashBoard_38 : decode cX4_hashBoard 38 = .ok (.getfield 12, 3) := by decide +kernel
theorem dX4_hashBoard_41 : decode cX4_hashBoard 41 = .ok (.getfield 237, 3) := by decide +kernel
theorem dX4_hashBoard_44 : decode cX4_hashBoard 44 = .ok (.aload_n 0, 1) := by decide +kernel
theorem dX4_hashBoard_45 : decode cX4_hashBoard 45 = .ok (.getfield 12, 3) := by decide +kernel
theorem dX4_hashBoard_48 : decode cX4_hashBoard 48 = .ok (.getfield 71, 3) := by decide +kernel
theorem dX4_hashBoard_51 : decode cX4_hashBoard 51 = .ok (.bipush 16, 2) := by decide +kernel
theorem dX4_hashBoard_53 : decode cX4_hashBoard 53 = .ok (.iaload, 1) := by decide +kernel
theorem dX4_hashBoard_54 : decode cX4_hashBoard 54 = .ok (.invokestatic 177, 3) := by decide +kernel
theorem dX4_hashBoard_57 : decode cX4_hashBoard 57 = .ok (.lstore_n 3, 1) := by decide +kernel
theorem dX4_hashBoard_58 : decode cX4_hashBoard 58 = .ok (.lload_n 3, 1) := by decide +kernel
theorem dX4_hashBoard_59 : decode cX4_hashBoard 59 = .ok (.aload_n 0, 1) := by decide +kernel
theorem dX4_hashBoard_60 : decode cX4_hashBoard 60 = .ok (.getfield 12, 3) := by decide +kernel
theorem dX4_hashBoard_63 : decode cX4_hashBoard 63 = .ok (.getfield 141, 3) := by decide +kernel
theorem dX4_hashBoard_66 : decode cX4_hashBoard 66 = .ok (.bipush 8, 2) := by decide +kernel
theorem dX4_hashBoard_68 : decode cX4_hashBoard 68 = .ok (.invokestatic 177, 3) := by decide +kernel
theorem dX4_hashBoard_71 : decode cX4_hashBoard 71 = .ok (.lstore_n 3, 1) := by decide +kernel
theorem dX4_hashBoard_72 : decode cX4_hashBoard 72 = .ok (.iconst 0, 1) := by decide +kernel
theorem dX4_hashBoard_73 : decode cX4_hashBoard 73 = .ok (.istore 5, 2) := by decide +kernel
theorem dX4_hashBoard_75 : decode cX4_hashBoard 75 = .ok (.iload 5, 2) := by decide +kernel
theorem dX4_hashBoard_77 : decode cX4_hashBoard 77 = .ok (.bipush 7, 2) := by decide +kernel
theorem dX4_hashBoard_79 : decode cX4_hashBoard 79 = .ok (.if_icmp .ge 41, 3) := by decide +kernel
theorem dX4_hashBoard_82 : decode cX4_hashBoard 82 = .ok (.iconst 0, 1) := by decide +kernel
theorem dX4_hashBoard_83 : decode cX4_hashBoard 83 = .ok (.istore 6, 2) := by decide +kernel
theorem dX4_hashBoard_85 : decode cX4_hashBoard 85 = .ok (.iload 6, 2) := by decide +kernel
theorem dX4_hashBoard_87 : decode cX4_hashBoard 87 = .ok (.iconst 4, 1) := by decide +kernel
theorem dX4_hashBoard_88 : decode cX4_hashBoard 88 = .ok (.if_icmp .gt 26, 3) := by decide +kernel
theorem dX4_hashBoard_91 : decode cX4_hashBoard 91 = .ok (.lload_n 3, 1) := by decide +kernel
theorem dX4_hashBoard_92 : decode cX4_hashBoard 92 = .ok (.aload_n 0, 1) := by decide +kernel
theorem dX4_hashBoard_93 : decode cX4_hashBoard 93 = .ok (.getfield 12, 3) := by decide +kernel
theorem dX4_hashBoard_96 : decode cX4_hashBoard 96 = .ok (.iload 5, 2) := by decide +kernel
theorem dX4_hashBoard_98 : decode cX4_hashBoard 98 = .ok (.iload 6, 2) := by decide +kernel
theorem dX4_hashBoard_100 : decode cX4_hashBoard 100 = .ok (.invokevirtual 144, 3) := by decide +kernel
theorem dX4_hashBoard_103 : decode cX4_hashBoard 103 = .ok (.i2l, 1) := by decide +kernel
theorem dX4_hashBoard_104 : decode cX4_hashBoard 104 = .ok (.invokestatic 181, 3) := by decide +kernel
theorem dX4_hashBoard_107 : decode cX4_hashBoard 107 = .ok (.lstore_n 3, 1) := by decide +kernel
theorem dX4_hashBoard_108 : decode cX4_hashBoard 108 = .ok (.iinc 6 1, 3) := by decide +kernel
theorem dX4_hashBoard_111 : decode cX4_hashBoard 111 = .ok (.goto (-26), 3) := by decide +kernel
theorem dX4_hashBoard_114 : decode cX4_hashBoard 114 = .ok (.iinc 5 1, 3) := by decide +kernel
theorem dX4_hashBoard_117 : decode cX4_hashBoard 117 = .ok (.goto (-42), 3) := by decide +kernel
theorem dX4_hashBoard_120 : decode cX4_hashBoard 120 = .ok (.lload_n 3, 1) := by decide +kernel
theorem dX4_hashBoard_121 : decode cX4_hashBoard 121 = .ok (.aload_n 0, 1) := by decide +kernel
theorem dX4_hashBoard_122 : decode cX4_hashBoard 122 = .ok (.getfield 12, 3) := by decide +kernel
theorem dX4_hashBoard_125 : decode cX4_hashBoard 125 = .ok (.getfield 147, 3) := by decide +kernel
theorem dX4_hashBoard_128 : decode cX4_hashBoard 128 = .ok (.iconst 3, 1) := by decide +kernel
theorem dX4_hashBoard_129 : decode cX4_hashBoard 129 = .ok (.invokestatic 177, 3) := by decide +kernel
theorem dX4_hashBoard_132 : decode cX4_hashBoard 132 = .ok (.lreturn, 1) := by decide +kernel
theorem dX4_hashColumn_0 : decode cX4_hashColumn 0 = .ok (.lload_n 1, 1) := by decide +kernel
theorem dX4_hashColumn_1 : decode cX4_hashColumn 1 = .ok (.lstore 4, 2) := by decide +kernel
theorem dX4_hashColumn_3 : decode cX4_hashColumn 3 = .ok (.aload_n 0, 1) := by decide +kernel
theorem dX4_hashColumn_4 : decode cX4_hashColumn 4 = .ok (.getfield 36, 3) := by decide +kernel
theorem dX4_hashColumn_7 : decode cX4_hashColumn 7 = .ok (.aload_n 0, 1) := by decide +kernel
theorem dX4_hashColumn_8 : decode cX4_hashColumn 8 = .ok (.getfield 12, 3) := by decide +kernel
theorem dX4_hashColumn_11 : decode cX4_hashColumn 11 = .ok (.getfield 135, 3) := by decide +kernel
theorem dX4_hashColumn_14 : decode cX4_hashColumn 14 = .ok (.iload_n 3, 1) := by decide +kernel
theorem dX4_hashColumn_15 : decode cX4_hashColumn 15 = .ok (.invokevirtual 150, 3) := by decide +kernel
theorem dX4_hashColumn_18 : decode cX4_hashColumn 18 = .ok (.aload_n 0, 1) := by decide +kernel
theorem dX4_hashColumn_19 : decode cX4_hashColumn 19 = .ok (.getfield 36, 3) := by decide +kernel
theorem dX4_hashColumn_22 : decode cX4_hashColumn 22 = .ok (.aload_n 0, 1) := by decide +kernel
theorem dX4_hashColumn_23 : decode cX4_hashColumn 23 = .ok (.getfield 12, 3) := by decide +kernel
theorem dX4_hashColumn_26 : decode cX4_hashColumn 26 = .ok (.getfield 135, 3) := by decide +kernel
theorem dX4_hashColumn_29 : decode cX4_hashColumn 29 = .ok (.iload_n 3, 1) := by decide +kernel
theorem dX4_hashColumn_30 : decode cX4_hashColumn 30 = .ok (.invokevirtual 157, 3) := by decide +kernel
theorem dX4_hashColumn_33 : decode cX4_hashColumn 33 = .ok (.iconst 0, 1) := by decide +kernel
theorem dX4_hashColumn_34 : decode cX4_hashColumn 34 = .ok (.istore 6, 2) := by decide +kernel
theorem dX4_hashColumn_36 : decode cX4_hashColumn 36 = .ok (.iload 6, 2) := by decide +kernel
theorem dX4_hashColumn_38 : decode cX4_hashColumn 38 = .ok (.bipush 7, 2) := by decide +kernel
theorem dX4_hashColumn_40 : decode cX4_hashColumn 40 = .ok (.if_icmp .ge 45, 3) := by decide +kernel
theorem dX4_hashColumn_43 : decode cX4_hashColumn 43 = .ok (.lload 4, 2) := by decide +kernel
theorem dX4_hashColumn_45 : decode cX4_hashColumn 45 = .ok (.aload_n 0, 1) := by decide +kernel
theorem dX4_hashColumn_46 : decode cX4_hashColumn 46 = .ok (.getfield 36, 3) := by decide +kernel
theorem dX4_hashColumn_49 : decode cX4_hashColumn 49 = .ok (.getfield 154, 3) := by decide +kernel
theorem dX4_hashColumn_52 : decode cX4_hashColumn 52 = .ok (.iload 6, 2) := by decide +kernel
theorem dX4_hashColumn_54 : decode cX4_hashColumn 54 = .ok (.iaload, 1) := by decide +kernel
theorem dX4_hashColumn_55 : decode cX4_hashColumn 55 = .ok (.i2l, 1) := by decide +kernel
theorem dX4_hashColumn_56 : decode cX4_hashColumn 56 = .ok (.invokestatic 181, 3) := by decide +kernel
theorem dX4_hashColumn_59 : decode cX4_hashColumn 59 = .ok (.lstore 4, 2) := by decide +kernel
theorem dX4_hashColumn_61 : decode cX4_hashColumn 61 = .ok (.lload 4, 2) := by decide +kernel
theorem dX4_hashColumn_63 : decode cX4_hashColumn 63 = .ok (.aload_n 0, 1) := by decide +kernel
theorem dX4_hashColumn_64 : decode cX4_hashColumn 64 = .ok (.getfield 36, 3) := by decide +kernel
theorem dX4_hashColumn_67 : decode cX4_hashColumn 67 = .ok (.getfield 160, 3) := by decide +kernel
theorem dX4_hashColumn_70 : decode cX4_hashColumn 70 = .ok (.iload 6, 2) := by decide +kernel
theorem dX4_hashColumn_72 : decode cX4_hashColumn 72 = .ok (.iaload, 1) := by decide +kernel
theorem dX4_hashColumn_73 : decode cX4_hashColumn 73 = .ok (.i2l, 1) := by decide +kernel
theorem dX4_hashColumn_74 : decode cX4_hashColumn 74 = .ok (.invokestatic 181, 3) := by decide +kernel
theorem dX4_hashColumn_77 : decode cX4_hashColumn 77 = .ok (.lstore 4, 2) := by decide +kernel
theorem dX4_hashColumn_79 : decode cX4_hashColumn 79 = .ok (.iinc 6 1, 3) := by decide +kernel
theorem dX4_hashColumn_82 : decode cX4_hashColumn 82 = .ok (.goto (-46), 3) := by decide +kernel
theorem dX4_hashColumn_85 : decode cX4_hashColumn 85 = .ok (.aload_n 0, 1) := by decide +kernel
theorem dX4_hashColumn_86 : decode cX4_hashColumn 86 = .ok (.iload_n 3, 1) := by decide +kernel
theorem dX4_hashColumn_87 : decode cX4_hashColumn 87 = .ok (.invokevirtual 163, 3) := by decide +kernel
theorem dX4_hashColumn_90 : decode cX4_hashColumn 90 = .ok (.iconst 0, 1) := by decide +kernel
theorem dX4_hashColumn_91 : decode cX4_hashColumn 91 = .ok (.istore 6, 2) := by decide +kernel
theorem dX4_hashColumn_93 : decode cX4_hashColumn 93 = .ok (.iload 6, 2) := by decide +kernel
theorem dX4_hashColumn_95 : decode cX4_hashColumn 95 = .ok (.iconst 3, 1) := by decide +kernel
theorem dX4_hashColumn_96 : decode cX4_hashColumn 96 = .ok (.if_icmp .gt 23, 3) := by decide +kernel
theorem dX4_hashColumn_99 : decode cX4_hashColumn 99 = .ok (.lload 4, 2) := by decide +kernel
theorem dX4_hashColumn_101 : decode cX4_hashColumn 101 = .ok (.aload_n 0, 1) := by decide +kernel
theorem dX4_hashColumn_102 : decode cX4_hashColumn 102 = .ok (.iload 6, 2) := by decide +kernel
theorem dX4_hashColumn_104 : decode cX4_hashColumn 104 = .ok (.invokevirtual 166, 3) := by decide +kernel
theorem dX4_hashColumn_107 : decode cX4_hashColumn 107 = .ok (.i2l, 1) := by decide +kernel
theorem dX4_hashColumn_108 : decode cX4_hashColumn 108 = .ok (.invokestatic 181, 3) := by decide +kernel
theorem dX4_hashColumn_111 : decode cX4_hashColumn 111 = .ok (.lstore 4, 2) := by decide +kernel
theorem dX4_hashColumn_113 : decode cX4_hashColumn 113 = .ok (.iinc 6 1, 3) := by decide +kernel
theorem dX4_hashColumn_116 : decode cX4_hashColumn 116 = .ok (.goto (-23), 3) := by decide +kernel
theorem dX4_hashColumn_119 : decode cX4_hashColumn 119 = .ok (.lload 4, 2) := by decide +kernel
theorem dX4_hashColumn_121 : decode cX4_hashColumn 121 = .ok (.aload_n 0, 1) := by decide +kernel
theorem dX4_hashColumn_122 : decode cX4_hashColumn 122 = .ok (.iload_n 3, 1) := by decide +kernel
theorem dX4_hashColumn_123 : decode cX4_hashColumn 123 = .ok (.invokevirtual 172, 3) := by decide +kernel
theorem dX4_hashColumn_126 : decode cX4_hashColumn 126 = .ok (.i2l, 1) := by decide +kernel
theorem dX4_hashColumn_127 : decode cX4_hashColumn 127 = .ok (.invokestatic 181, 3) := by decide +kernel
theorem dX4_hashColumn_130 : decode cX4_hashColumn 130 = .ok (.lreturn, 1) := by decide +kernel
theorem dX4_bitsOf_0 : decode cX4_bitsOf 0 = .ok (.dload_n 0, 1) := by decide +kernel
theorem dX4_bitsOf_1 : decode cX4_bitsOf 1 = .ok (.dconst 0, 1) := by decide +kernel
theorem dX4_bitsOf_2 : decode cX4_bitsOf 2 = .ok (.dcmp .g, 1) := by decide +kernel
theorem dX4_bitsOf_3 : decode cX4_bitsOf 3 = .ok (.ifCond .gt 5, 3) := by decide +kernel
theorem dX4_bitsOf_6 : decode cX4_bitsOf 6 = .ok (.lconst 0, 1) := by decide +kernel
theorem dX4_bitsOf_7 : decode cX4_bitsOf 7 = .ok (.lreturn, 1) := by decide +kernel
theorem dX4_bitsOf_8 : decode cX4_bitsOf 8 = .ok (.dload_n 0, 1) := by decide +kernel
theorem dX4_bitsOf_9 : decode cX4_bitsOf 9 = .ok (.dstore_n 2, 1) := by decide +kernel
theorem dX4_bitsOf_10 : decode cX4_bitsOf 10 = .ok (.ldc2_w 240, 3) := by decide +kernel
theorem dX4_bitsOf_13 : decode cX4_bitsOf 13 = .ok (.lstore 4, 2) := by decide +kernel
theorem dX4_bitsOf_15 : decode cX4_bitsOf 15 = .ok (.iconst 0, 1) := by decide +kernel
theorem dX4_bitsOf_16 : decode cX4_bitsOf 16 = .ok (.istore 6, 2) := by decide +kernel
theorem dX4_bitsOf_18 : decode cX4_bitsOf 18 = .ok (.iload 6, 2) := by decide +kernel
theorem dX4_bitsOf_20 : decode cX4_bitsOf 20 = .ok (.bipush 64, 2) := by decide +kernel
theorem dX4_bitsOf_22 : decode cX4_bitsOf 22 = .ok (.if_icmp .ge 29, 3) := by decide +kernel
theorem dX4_bitsOf_25 : decode cX4_bitsOf 25 = .ok (.dload_n 2, 1) := by decide +kernel
theorem dX4_bitsOf_26 : decode cX4_bitsOf 26 = .ok (.ldc2_w 242, 3) := by decide +kernel
theorem dX4_bitsOf_29 : decode cX4_bitsOf 29 = .ok (.dcmp .l, 1) := by decide +kernel
theorem dX4_bitsOf_30 : decode cX4_bitsOf 30 = .ok (.ifCond .lt 21, 3) := by decide +kernel
theorem dX4_bitsOf_33 : decode cX4_bitsOf 33 = .ok (.dload_n 2, 1) := by decide +kernel
theorem dX4_bitsOf_34 : decode cX4_bitsOf 34 = .ok (.ldc2_w 242, 3) := by decide +kernel
theorem dX4_bitsOf_37 : decode cX4_bitsOf 37 = .ok (.ddiv, 1) := by decide +kernel
theorem dX4_bitsOf_38 : decode cX4_bitsOf 38 = .ok (.dstore_n 2, 1) := by decide +kernel
theorem dX4_bitsOf_39 : decode cX4_bitsOf 39 = .ok (.lload 4, 2) := by decide +kernel
theorem dX4_bitsOf_41 : decode cX4_bitsOf 41 = .ok (.lconst 1, 1) := by decide +kernel
theorem dX4_bitsOf_42 : decode cX4_bitsOf 42 = .ok (.ladd, 1) := by decide +kernel
theorem dX4_bitsOf_43 : decode cX4_bitsOf 43 = .ok (.lstore 4, 2) := by decide +kernel
theorem dX4_bitsOf_45 : decode cX4_bitsOf 45 = .ok (.iinc 6 1, 3) := by decide +kernel
theorem dX4_bitsOf_48 : decode cX4_bitsOf 48 = .ok (.goto (-30), 3) := by decide +kernel
theorem dX4_bitsOf_51 : decode cX4_bitsOf 51 = .ok (.iconst 0, 1) := by decide +kernel
theorem dX4_bitsOf_52 : decode cX4_bitsOf 52 = .ok (.istore 6, 2) := by decide +kernel
theorem dX4_bitsOf_54 : decode cX4_bitsOf 54 = .ok (.iload 6, 2) := by decide +kernel
theorem dX4_bitsOf_56 : decode cX4_bitsOf 56 = .ok (.bipush 64, 2) := by decide +kernel
theorem dX4_bitsOf_58 : decode cX4_bitsOf 58 = .ok (.if_icmp .ge 27, 3) := by decide +kernel
theorem dX4_bitsOf_61 : decode cX4_bitsOf 61 = .ok (.dload_n 2, 1) := by decide +kernel
theorem dX4_bitsOf_62 : decode cX4_bitsOf 62 = .ok (.dconst 1, 1) := by decide +kernel
theorem dX4_bitsOf_63 : decode cX4_bitsOf 63 = .ok (.dcmp .g, 1) := by decide +kernel
theorem dX4_bitsOf_64 : decode cX4_bitsOf 64 = .ok (.ifCond .ge 21, 3) := by decide +kernel
theorem dX4_bitsOf_67 : decode cX4_bitsOf 67 = .ok (.dload_n 2, 1) := by decide +kernel
theorem dX4_bitsOf_68 : decode cX4_bitsOf 68 = .ok (.ldc2_w 242, 3) := by decide +kernel
theorem dX4_bitsOf_71 : decode cX4_bitsOf 71 = .ok (.dmul, 1) := by decide +kernel
theorem dX4_bitsOf_72 : decode cX4_bitsOf 72 = .ok (.dstore_n 2, 1) := by decide +kernel
theorem dX4_bitsOf_73 : decode cX4_bitsOf 73 = .ok (.lload 4, 2) := by decide +kernel
theorem dX4_bitsOf_75 : decode cX4_bitsOf 75 = .ok (.lconst 1, 1) := by decide +kernel
theorem dX4_bitsOf_76 : decode cX4_bitsOf 76 = .ok (.lsub, 1) := by decide +kernel
theorem dX4_bitsOf_77 : decode cX4_bitsOf 77 = .ok (.lstore 4, 2) := by decide +kernel
theorem dX4_bitsOf_79 : decode cX4_bitsOf 79 = .ok (.iinc 6 1, 3) := by decide +kernel
theorem dX4_bitsOf_82 : decode cX4_bitsOf 82 = .ok (.goto (-28), 3) := by decide +kernel
theorem dX4_bitsOf_85 : decode cX4_bitsOf 85 = .ok (.lload 4, 2) := by decide +kernel
theorem dX4_bitsOf_87 : decode cX4_bitsOf 87 = .ok (.ldc2_w 244, 3) := by decide +kernel
theorem dX4_bitsOf_90 : decode cX4_bitsOf 90 = .ok (.lmul, 1) := by decide +kernel
theorem dX4_bitsOf_91 : decode cX4_bitsOf 91 = .ok (.dload_n 2, 1) := by decide +kernel
theorem dX4_bitsOf_92 : decode cX4_bitsOf 92 = .ok (.dconst 1, 1) := by decide +kernel
theorem dX4_bitsOf_93 : decode cX4_bitsOf 93 = .ok (.dsub, 1) := by decide +kernel
theorem dX4_bitsOf_94 : decode cX4_bitsOf 94 = .ok (.ldc2_w 246, 3) := by decide +kernel
theorem dX4_bitsOf_97 : decode cX4_bitsOf 97 = .ok (.dmul, 1) := by decide +kernel
theorem dX4_bitsOf_98 : decode cX4_bitsOf 98 = .ok (.d2l, 1) := by decide +kernel
theorem dX4_bitsOf_99 : decode cX4_bitsOf 99 = .ok (.ladd, 1) := by decide +kernel
theorem dX4_bitsOf_100 : decode cX4_bitsOf 100 = .ok (.lreturn, 1) := by decide +kernel
theorem dX4_bounce_0 : decode cX4_bounce 0 = .ok (.iload_n 0, 1) := by decide +kernel
theorem dX4_bounce_1 : decode cX4_bounce 1 = .ok (.iload_n 1, 1) := by decide +kernel
theorem dX4_bounce_2 : decode cX4_bounce 2 = .ok (.iadd, 1) := by decide +kernel
theorem dX4_bounce_3 : decode cX4_bounce 3 = .ok (.istore_n 2, 1) := by decide +kernel
theorem dX4_bounce_4 : decode cX4_bounce 4 = .ok (.iload_n 2, 1) := by decide +kernel
theorem dX4_bounce_5 : decode cX4_bounce 5 = .ok (.ifCond .lt 9, 3) := by decide +kernel
theorem dX4_bounce_8 : decode cX4_bounce 8 = .ok (.iload_n 2, 1) := by decide +kernel
theorem dX4_bounce_9 : decode cX4_bounce 9 = .ok (.bipush 7, 2) := by decide +kernel
theorem dX4_bounce_11 : decode cX4_bounce 11 = .ok (.if_icmp .lt 7, 3) := by decide +kernel
theorem dX4_bounce_14 : decode cX4_bounce 14 = .ok (.iload_n 0, 1) := by decide +kernel
theorem dX4_bounce_15 : decode cX4_bounce 15 = .ok (.goto 4, 3) := by decide +kernel
theorem dX4_bounce_18 : decode cX4_bounce 18 = .ok (.iload_n 2, 1) := by decide +kernel
theorem dX4_bounce_19 : decode cX4_bounce 19 = .ok (.ireturn, 1) := by decide +kernel
theorem dX5_init_0 : decode cX5_init 0 = .ok (.aload_n 0, 1) := by decide +kernel
theorem dX5_init_1 : decode cX5_init 1 = .ok (.invokespecial 1, 3) := by decide +kernel
theorem dX5_init_4 : decode cX5_init 4 = .ok (.aload_n 0, 1) := by decide +kernel
theorem dX5_init_5 : decode cX5_init 5 = .ok (.sipush 175, 3) := by decide +kernel
theorem dX5_init_8 : decode cX5_init 8 = .ok (.newarray .int, 2) := by decide +kernel
theorem dX5_init_10 : decode cX5_init 10 = .ok (.putfield 7, 3) := by decide +kernel
theorem dX5_init_13 : decode cX5_init 13 = .ok (.aload_n 0, 1) := by decide +kernel
theorem dX5_init_14 : decode cX5_init 14 = .ok (.sipush 175, 3) := by decide +kernel
theorem dX5_init_17 : decode cX5_init 17 = .ok (.newarray .int, 2) := by decide +kernel
theorem dX5_init_19 : decode cX5_init 19 = .ok (.putfield 13, 3) := by decide +kernel
theorem dX5_init_22 : decode cX5_init 22 = .ok (.aload_n 0, 1) := by decide +kernel
theorem dX5_init_23 : decode cX5_init 23 = .ok (.sipush 1050, 3) := by decide +kernel
theorem dX5_init_26 : decode cX5_init 26 = .ok (.newarray .int, 2) := by decide +kernel
theorem dX5_init_28 : decode cX5_init 28 = .ok (.putfield 16, 3) := by decide +kernel
theorem dX5_init_31 : decode cX5_init 31 = .ok (.aload_n 0, 1) := by decide +kernel
theorem dX5_init_32 : decode cX5_init 32 = .ok (.sipush 175, 3) := by decide +kernel
theorem dX5_init_35 : decode cX5_init 35 = .ok (.newarray .int, 2) := by decide +kernel
theorem dX5_init_37 : decode cX5_init 37 = .ok (.putfield 19, 3) := by decide +kernel
theorem dX5_init_40 : decode cX5_init 40 = .ok (.aload_n 0, 1) := by decide +kernel
theorem dX5_init_41 : decode cX5_init 41 = .ok (.bipush 60, 2) := by decide +kernel
theorem dX5_init_43 : decode cX5_init 43 = .ok (.newarray .int, 2) := by decide +kernel
theorem dX5_init_45 : decode cX5_init 45 = .ok (.putfield 22, 3) := by decide +kernel
theorem dX5_init_48 : decode cX5_init 48 = .ok (.aload_n 0, 1) := by decide +kernel
theorem dX5_init_49 : decode cX5_init 49 = .ok (.bipush 7, 2) := by decide +kernel
theorem dX5_init_51 : decode cX5_init 51 = .ok (.newarray .int, 2) := by decide +kernel
theorem dX5_init_53 : decode cX5_init 53 = .ok (.putfield 25, 3) := by decide +kernel
theorem dX5_init_56 : decode cX5_init 56 = .ok (.aload_n 0, 1) := by decide +kernel
theorem dX5_init_57 : decode cX5_init 57 = .ok (.bipush 7, 2) := by decide +kernel
theorem dX5_init_59 : decode cX5_init 59 = .ok (.newarray .int, 2) := by decide +kernel
theorem dX5_init_61 : decode cX5_init 61 = .ok (.putfield 28, 3) := by decide +kernel
theorem dX5_init_64 : decode cX5_init 64 = .ok (.aload_n 0, 1) := by decide +kernel
theorem dX5_init_65 : decode cX5_init 65 = .ok (.getfield 7, 3) := by decide +kernel
theorem dX5_init_68 : decode cX5_init 68 = .ok (.iconst 0, 1) := by decide +kernel
theorem dX5_init_69 : decode cX5_init 69 = .ok (.iconst 1, 1) := by decide +kernel
theorem dX5_init_70 : decode cX5_init 70 = .ok (.iastore, 1) := by decide +kernel
theorem dX5_init_71 : decode cX5_init 71 = .ok (.aload_n 0, 1) := by decide +kernel
theorem dX5_init_72 : decode cX5_init 72 = .ok (.getfield 7, 3) := by decide +kernel
theorem dX5_init_75 : decode cX5_init 75 = .ok (.bipush 12, 2) := by decide +kernel
theorem dX5_init_77 : decode cX5_init 77 = .ok (.iconst (-1), 1) := by decide +kernel
theorem dX5_init_78 : decode cX5_init 78 = .ok (.iastore, 1) := by decide +kernel
theorem dX5_init_79 : decode cX5_init 79 = .ok (.aload_n 0, 1) := by decide +kernel
theorem dX5_init_80 : decode cX5_init 80 = .ok (.getfield 7, 3) := by decide +kernel
theorem dX5_init_83 : decode cX5_init 83 = .ok (.bipush 13, 2) := by decide +kernel
theorem dX5_init_85 : decode cX5_init 85 = .ok (.iconst 3, 1) := by decide +kernel
theorem dX5_init_86 : decode cX5_init 86 = .ok (.iastore, 1) := by decide +kernel
theorem dX5_init_87 : decode cX5_init 87 = .ok (.aload_n 0, 1) := by decide +kernel
theorem dX5_init_88 : decode cX5_init 88 = .ok (.getfield 7, 3) := by decide +kernel
theorem dX5_init_91 : decode cX5_init 91 = .ok (.bipush 14, 2) := by decide +kernel
theorem dX5_init_93 : decode cX5_init 93 = .ok (.bipush 6, 2) := by decide +kernel
theorem dX5_init_95 : decode cX5_init 95 = .ok (.iastore, 1) := by decide +kernel
theorem dX5_init_96 : decode cX5_init 96 = .ok (.aload_n 0, 1) := by decide +kernel
theorem dX5_init_97 : decode cX5_init 97 = .ok (.getfield 7, 3) := by decide +kernel
theorem dX5_init_100 : decode cX5_init 100 = .ok (.bipush 15, 2) := by decide +kernel
theorem dX5_init_102 : decode cX5_init 102 = .ok (.bipush 8, 2) := by decide +kernel
theorem dX5_init_104 : decode cX5_init 104 = .ok (.iastore, 1) := by decide +kernel
theorem dX5_init_105 : decode cX5_init 105 = .ok (.iconst 0, 1) := by decide +kernel
theorem dX5_init_106 : decode cX5_init 106 = .ok (.istore_n 1, 1) := by decide +kernel
theorem dX5_init_107 : decode cX5_init 107 = .ok (.iload_n 1, 1) := by decide +kernel
theorem dX5_init_108 : decode cX5_init 108 = .ok (.iconst 3, 1) := by decide +kernel
theorem dX5_init_109 : decode cX5_init 109 = .ok (.if_icmp .ge 19, 3) := by decide +kernel
theorem dX5_init_112 : decode cX5_init 112 = .ok (.aload_n 0, 1) := by decide +kernel
theorem dX5_init_113 : decode cX5_init 113 = .ok (.getfield 7, 3) := by decide +kernel
theorem dX5_init_116 : decode cX5_init 116 = .ok (.bipush 17, 2) := by decide +kernel
theorem dX5_init_118 : decode cX5_init 118 = .ok (.iload_n 1, 1) := by decide +kernel
theorem dX5_init_119 : decode cX5_init 119 = .ok (.iadd, 1) := by decide +kernel
theorem dX5_init_120 : decode cX5_init 120 = .ok (.iload_n 1, 1) := by decide +kernel
theorem dX5_init_121 : decode cX5_init 121 = .ok (.iastore, 1) := by decide +kernel
theorem dX5_init_122 : decode cX5_init 122 = .ok (.iinc 1 1, 3) := by decide +kernel
theorem dX5_init_125 : decode cX5_init 125 = .ok (.goto (-18), 3) := by decide +kernel
theorem dX5_init_128 : decode cX5_init 128 = .ok (.iconst 0, 1) := by decide +kernel
theorem dX5_init_129 : decode cX5_init 129 = .ok (.istore_n 1, 1) := by decide +kernel
theorem dX5_init_130 : decode cX5_init 130 = .ok (.iload_n 1, 1) := by decide +kernel
theorem dX5_init_131 : decode cX5_init 131 = .ok (.bipush 7, 2) := by decide +kernel
theorem dX5_init_133 : decode cX5_init 133 = .ok (.if_icmp .ge 83, 3) := by decide +kernel
theorem dX5_init_136 : decode cX5_init 136 = .ok (.iload_n 1, 1) := by decide +kernel
theorem dX5_init_137 : decode cX5_init 137 = .ok (.iconst 3, 1) := by decide +kernel
theorem dX5_init_138 : decode cX5_init 138 = .ok (.if_icmp .ge 9, 3) := by decide +kernel
theorem dX5_init_141 : decode cX5_init 141 = .ok (.iconst 3, 1) := by decide +kernel
theorem dX5_init_142 : decode cX5_init 142 = .ok (.iload_n 1, 1) := by decide +kernel
theorem dX5_init_143 : decode cX5_init 143 = .ok (.isub, 1) := by decide +kernel
theorem dX5_init_144 : decode cX5_init 144 = .ok (.goto 6, 3) := by decide +kernel
theorem dX5_init_147 : decode cX5_init 147 = .ok (.iload_n 1, 1) := by decide +kernel
theorem dX5_init_148 : decode cX5_init 148 = .ok (.iconst 3, 1) := by decide +kernel
theorem dX5_init_149 : decode cX5_init 149 = .ok (.isub, 1) := by decide +kernel
theorem dX5_init_150 : decode cX5_init 150 = .ok (.istore_n 2, 1) := by decide +kernel
theorem dX5_init_151 : decode cX5_init 151 = .ok (.aload_n 0, 1) := by decide +kernel
theorem dX5_init_152 : decode cX5_init 152 = .ok (.iload_n 1, 1) := by decide +kernel
theorem dX5_init_153 : decode cX5_init 153 = .ok (.iconst 0, 1) := by decide +kernel
theorem dX5_init_154 : decode cX5_init 154 = .ok (.iload_n 2, 1) := by decide +kernel
theorem dX5_init_155 : decode cX5_init 155 = .ok (.iconst 1, 1) := by decide +kernel
theorem dX5_init_156 : decode cX5_init 156 = .ok (.if_icmp .ne 7, 3) := by decide +kernel
theorem dX5_init_159 : decode cX5_init 159 = .ok (.iconst 1, 1) := by decide +kernel
theorem dX5_init_160 : decode cX5_init 160 = .ok (.goto 13, 3) := by decide +kernel
theorem dX5_init_163 : decode cX5_init 163 = .ok (.iload_n 2, 1) := by decide +kernel
theorem dX5_init_164 : decode cX5_init 164 = .ok (.iconst 2, 1) := by decide +kernel
theorem dX5_init_165 : decode cX5_init 165 = .ok (.if_icmp .ne 7, 3) := by decide +kernel
theorem dX5_init_168 : decode cX5_init 168 = .ok (.iconst 2, 1) := by decide +kernel
theorem dX5_init_169 : decode cX5_init 169 = .ok (.goto 4, 3) := by decide +kernel
theorem dX5_init_172 : decode cX5_init 172 = .ok (.iconst 0, 1) := by decide +kernel
theorem dX5_init_173 : decode cX5_init 173 = .ok (.invokevirtual 31, 3) := by decide +kernel
theorem dX5_init_176 : decode cX5_init 176 = .ok (.aload_n 0, 1) := by decide +kernel
theorem dX5_init_177 : decode cX5_init 177 = .ok (.iload_n 1, 1) := by decide +kernel
theorem dX5_init_178 : decode cX5_init 178 = .ok (.iconst 1, 1) := by decide +kernel
theorem dX5_init_179 : decode cX5_init 179 = .ok (.iload_n 2, 1) := by decide +kernel
theorem dX5_init_180 : decode cX5_init 180 = .ok (.ifCond .ne 7, 3) := by decide +kernel
theorem dX5_init_183 : decode cX5_init 183 = .ok (.iconst 2, 1) := by decide +kernel
theorem dX5_init_184 : decode cX5_init 184 = .ok (.goto 23, 3) := by decide +kernel
theorem dX5_init_187 : decode cX5_init 187 = .ok (.iload_n 2, 1) := by decide +kernel
theorem dX5_init_188 : decode cX5_init 188 = .ok (.iconst 1, 1) := by decide +kernel
theorem dX5_init_189 : decode cX5_init 189 = .ok (.if_icmp .ne 8, 3) := by decide +kernel
theorem dX5_init_192 : decode cX5_init 192 = .ok (.bipush 10, 2) := by decide +kernel
theorem dX5_init_194 : decode cX5_init 194 = .ok (.goto 13, 3) := by decide +kernel
theorem dX5_init_197 : decode cX5_init 197 = .ok (.iload_n 2, 1) := by decide +kernel
theorem dX5_init_198 : decode cX5_init 198 = .ok (.iconst 2, 1) := by decide +kernel
theorem dX5_init_199 : decode cX5_init 199 = .ok (.if_icmp .ne 7, 3) := by decide +kernel
theorem dX5_init_202 : decode cX5_init 202 = .ok (.iconst 3, 1) := by decide +kernel
theorem dX5_init_203 : decode cX5_init 203 = .ok (.goto 4, 3) := by decide +kernel
theorem dX5_init_206 : decode cX5_init 206 = .ok (.iconst 0, 1) := by decide +kernel
theorem dX5_init_207 : decode cX5_init 207 = .ok (.invokevirtual 31, 3) := by decide +kernel
theorem dX5_init_210 : decode cX5_init 210 = .ok (.iinc 1 1, 3) := by decide +kernel
theorem dX5_init_213 : decode cX5_init 213 = .ok (.goto (-83), 3) := by decide +kernel
theorem dX5_init_216 : decode cX5_init 216 = .ok (.iconst 0, 1) := by decide +kernel
theorem dX5_init_217 : decode cX5_init 217 = .ok (.istore_n 1, 1) := by decide +kernel
theorem dX5_init_218 : decode cX5_init 218 = .ok (.iload_n 1, 1) := by decide +kernel
theorem dX5_init_219 : decode cX5_init 219 = .ok (.bipush 8, 2) := by decide +kernel
theorem dX5_init_221 : decode cX5_init 221 = .ok (.if_icmp .ge 20, 3) := by decide +kernel
theorem dX5_init_224 : decode cX5_init 224 = .ok (.aload_n 0, 1) := by decide +kernel
theorem dX5_init_225 : decode cX5_init 225 = .ok (.getfield 7, 3) := by decide +kernel
theorem dX5_init_228 : decode cX5_init 228 = .ok (.sipush 167, 3) := by decide +kernel
theorem dX5_init_231 : decode cX5_init 231 = .ok (.iload_n 1, 1) := by decide +kernel
theorem dX5_init_232 : decode cX5_init 232 = .ok (.iadd, 1) := by decide +kernel
theorem dX5_init_233 : decode cX5_init 233 = .ok (.iconst (-1), 1) := by decide +kernel
theorem dX5_init_234 : decode cX5_init 234 = .ok (.iastore, 1) := by decide +kernel
theorem dX5_init_235 : decode cX5_init 235 = .ok (.iinc 1 1, 3) := by decide +kernel
theorem dX5_init_238 : decode cX5_init 238 = .ok (.goto (-20), 3) := by decide +kernel
theorem dX5_init_241 : decode cX5_init 241 = .ok (.return_, 1) := by decide +kernel
theorem dX5_thrown_0 : decode cX5_thrown 0 = .ok (.aload_n 0, 1) := by decide +kernel
theorem dX5_thrown_1 : decode cX5_thrown 1 = .ok (.getfield 35, 3) := by decide +kernel
theorem dX5_thrown_4 : decode cX5_thrown 4 = .ok (.ireturn, 1) := by decide +kernel
theorem dX5_in_0 : decode cX5_in 0 = .ok (.iload_n 0, 1) := by decide +kernel
theorem dX5_in_1 : decode cX5_in 1 = .ok (.iload_n 1, 1) := by decide +kernel
theorem dX5_in_2 : decode cX5_in 2 = .ok (.if_icmp .lt 12, 3) := by decide +kernel
theorem dX5_in_5 : decode cX5_in 5 = .ok (.iload_n 0, 1) := by decide +kernel
theorem dX5_in_6 : decode cX5_in 6 = .ok (.iload_n 2, 1) := by decide +kernel
theorem dX5_in_7 : decode cX5_in 7 = .ok (.if_icmp .gt 7, 3) := by decide +kernel
theorem dX5_in_10 : decode cX5_in 10 = .ok (.iconst 1, 1) := by decide +kernel
theorem dX5_in_11 : decode cX5_in 11 = .ok (.goto 4, 3) := by decide +kernel
theorem dX5_in_14 : decode cX5_in 14 = .ok (.iconst 0, 1) := by decide +kernel
theorem dX5_in_15 : decode cX5_in 15 = .ok (.ireturn, 1) := by decide +kernel
theorem dX5_isColumn_0 : decode cX5_isColumn 0 = .ok (.iload_n 0, 1) := by decide +kernel
theorem dX5_isColumn_1 : decode cX5_isColumn 1 = .ok (.iconst 0, 1) := by decide +kernel
theorem dX5_isColumn_2 : decode cX5_isColumn 2 = .ok (.bipush 6, 2) := by decide +kernel
theorem dX5_isColumn_4 : decode cX5_isColumn 4 = .ok (.invokestatic 39, 3) := by decide +kernel
theorem dX5_isColumn_7 : decode cX5_isColumn 7 = .ok (.ireturn, 1) := by decide +kernel
theorem dX5_isRow_0 : decode cX5_isRow 0 = .ok (.iload_n 0, 1) := by decide +kernel
theorem dX5_isRow_1 : decode cX5_isRow 1 = .ok (.iconst 0, 1) := by decide +kernel
theorem dX5_isRow_2 : decode cX5_isRow 2 = .ok (.bipush 7, 2) := by decide +kernel
theorem dX5_isRow_4 : decode cX5_isRow 4 = .ok (.invokestatic 39, 3) := by decide +kernel
theorem dX5_isRow_7 : decode cX5_isRow 7 = .ok (.ireturn, 1) := by decide +kernel
theorem dX5_of_0 : decode cX5_of 0 = .ok (.aload_n 0, 1) := by decide +kernel
theorem dX5_of_1 : decode cX5_of 1 = .ok (.getfield 7, 3) := by decide +kernel
theorem dX5_of_4 : decode cX5_of 4 = .ok (.sipush 132, 3) := by decide +kernel
theorem dX5_of_7 : decode cX5_of 7 = .ok (.iconst 5, 1) := by decide +kernel
theorem dX5_of_8 : decode cX5_of 8 = .ok (.iload_n 1, 1) := by decide +kernel
theorem dX5_of_9 : decode cX5_of 9 = .ok (.imul, 1) := by decide +kernel
theorem dX5_of_10 : decode cX5_of 10 = .ok (.iadd, 1) := by decide +kernel
theorem dX5_of_11 : decode cX5_of 11 = .ok (.iload_n 2, 1) := by decide +kernel
theorem dX5_of_12 : decode cX5_of 12 = .ok (.iadd, 1) := by decide +kernel
theorem dX5_of_13 : decode cX5_of 13 = .ok (.iaload, 1) := by decide +kernel
theorem dX5_of_14 : decode cX5_of 14 = .ok (.ireturn, 1) := by decide +kernel
theorem dX5_put_0 : decode cX5_put 0 = .ok (.aload_n 0, 1) := by decide +kernel
theorem dX5_put_1 : decode cX5_put 1 = .ok (.getfield 7, 3) := by decide +kernel
theorem dX5_put_4 : decode cX5_put 4 = .ok (.sipush 132, 3) := by decide +kernel
theorem dX5_put_7 : decode cX5_put 7 = .ok (.iconst 5, 1) := by decide +kernel
theorem dX5_put_8 : decode cX5_put 8 = .ok (.iload_n 1, 1) := by decide +kernel
theorem dX5_put_9 : decode cX5_put 9 = .ok (.imul, 1) := by decide +kernel
theorem dX5_put_10 : decode cX5_put 10 = .ok (.iadd, 1) := by decide +kernel
theorem dX5_put_11 : decode cX5_put 11 = .ok (.iload_n 2, 1) := by decide +kernel
theorem dX5_put_12 : decode cX5_put 12 = .ok (.iadd, 1) := by decide +kernel
theorem dX5_put_13 : decode cX5_put 13 = .ok (.iload_n 3, 1) := by decide +kernel
theorem dX5_put_14 : decode cX5_put 14 = .ok (.iastore, 1) := by decide +kernel
theorem dX5_put_15 : decode cX5_put 15 = .ok (.return_, 1) := by decide +kernel
theorem dX5_lean_0 : decode cX5_lean 0 = .ok (.aload_n 0, 1) := by decide +kernel
theorem dX5_lean_1 : decode cX5_lean 1 = .ok (.getfield 7, 3) := by decide +kernel
theorem dX5_lean_4 : decode cX5_lean 4 = .ok (.bipush 20, 2) := by decide +kernel
theorem dX5_lean_6 : decode cX5_lean 6 = .ok (.iload_n 1, 1) := by decide +kernel
theorem dX5_lean_7 : decode cX5_lean 7 = .ok (.iadd, 1) := by decide +kernel
theorem dX5_lean_8 : decode cX5_lean 8 = .ok (.iaload, 1) := by decide +kernel
theorem dX5_lean_9 : decode cX5_lean 9 = .ok (.ireturn, 1) := by decide +kernel
theorem dX5_record_0 : decode cX5_record 0 = .ok (.aload_n 0, 1) := by decide +kernel
theorem dX5_record_1 : decode cX5_record 1 = .ok (.getfield 43, 3) := by decide +kernel
theorem dX5_record_4 : decode cX5_record 4 = .ok (.bipush 6, 2) := by decide +kernel
theorem dX5_record_6 : decode cX5_record 6 = .ok (.if_icmp .ne 44, 3) := by decide +kernel
theorem dX5_record_9 : decode cX5_record 9 = .ok (.iconst 0, 1) := by decide +kernel
theorem dX5_record_10 : decode cX5_record 10 = .ok (.istore_n 1, 1) := by decide +kernel
theorem dX5_record_11 : decode cX5_record 11 = .ok (.iload_n 1, 1) := by decide +kernel
theorem dX5_record_12 : decode cX5_record 12 = .ok (.sipush 875, 3) := by decide +kernel
theorem dX5_record_15 : decode cX5_record 15 = .ok (.if_icmp .ge 25, 3) := by decide +kernel
theorem dX5_record_18 : decode cX5_record 18 = .ok (.aload_n 0, 1) := by decide +kernel
theorem dX5_record_19 : decode cX5_record 19 = .ok (.getfield 16, 3) := by decide +kernel
theorem dX5_record_22 : decode cX5_record 22 = .ok (.iload_n 1, 1) := by decide +kernel
theorem dX5_record_23 : decode cX5_record 23 = .ok (.aload_n 0, 1) := by decide +kernel
theorem dX5_record_24 : decode cX5_record 24 = .ok (.getfield 16, 3) := by decide +kernel
theorem dX5_record_27 : decode cX5_record 27 = .ok (.sipush 175, 3) := by decide +kernel
theorem dX5_record_30 : decode cX5_record 30 = .ok (.iload_n 1, 1) := by decide +kernel
theorem dX5_record_31 : decode cX5_record 31 = .ok (.iadd, 1) := by decide +kernel
theorem dX5_record_32 : decode cX5_record 32 = .ok (.iaload, 1) := by decide +kernel
theorem dX5_record_33 : decode cX5_record 33 = .ok (.iastore, 1) := by decide +kernel
theorem dX5_record_34 : decode cX5_record 34 = .ok (.iinc 1 1, 3) := by decide +kernel
theorem dX5_record_37 : decode cX5_record 37 = .ok (.goto (-26), 3) := by decide +kernel
theorem dX5_record_40 : decode cX5_record 40 = .ok (.aload_n 0, 1) := by decide +kernel
theorem dX5_record_41 : decode cX5_record 41 = .ok (.dup, 1) := by decide +kernel
theorem dX5_record_42 : decode cX5_record 42 = .ok (.getfield 43, 3) := by decide +kernel
theorem dX5_record_45 : decode cX5_record 45 = .ok (.iconst 1, 1) := by decide +kernel
theorem dX5_record_46 : decode cX5_record 46 = .ok (.isub, 1) := by decide +kernel
theorem dX5_record_47 : decode cX5_record 47 = .ok (.putfield 43, 3) := by decide +kernel
theorem dX5_record_50 : decode cX5_record 50 = .ok (.iconst 0, 1) := by decide +kernel
theorem dX5_record_51 : decode cX5_record 51 = .ok (.istore_n 1, 1) := by decide +kernel
theorem dX5_record_52 : decode cX5_record 52 = .ok (.iload_n 1, 1) := by decide +kernel
theorem dX5_record_53 : decode cX5_record 53 = .ok (.sipush 175, 3) := by decide +kernel
theorem dX5_record_56 : decode cX5_record 56 = .ok (.if_icmp .ge 30, 3) := by decide +kernel
theorem dX5_record_59 : decode cX5_record 59 = .ok (.aload_n 0, 1) := by decide +kernel
theorem dX5_record_60 : decode cX5_record 60 = .ok (.getfield 16, 3) := by decide +kernel
theorem dX5_record_63 : decode cX5_record 63 = .ok (.sipush 175, 3) := by decide +kernel
theorem dX5_record_66 : decode cX5_record 66 = .ok (.aload_n 0, 1) := by decide +kernel
theorem dX5_record_67 : decode cX5_record 67 = .ok (.getfield 43, 3) := by decide +kernel
theorem dX5_record_70 : decode cX5_record 70 = .ok (.imul, 1) := by decide +kernel
theorem dX5_record_71 : decode cX5_record 71 = .ok (.iload_n 1, 1) := by decide +kernel
theorem dX5_record_72 : decode cX5_record 72 = .ok (.iadd, 1) := by decide +kernel
theorem dX5_record_73 : decode cX5_record 73 = .ok (.aload_n 0, 1) := by decide +kernel
theorem dX5_record_74 : decode cX5_record 74 = .ok (.getfield 7, 3) := by decide +kernel
theorem dX5_record_77 : decode cX5_record 77 = .ok (.iload_n 1, 1) := by decide +kernel
theorem dX5_record_78 : decode cX5_record 78 = .ok (.iaload, 1) := by decide +kernel
theorem dX5_record_79 : decode cX5_record 79 = .ok (.iastore, 1) := by decide +kernel
theorem dX5_record_80 : decode cX5_record 80 = .ok (.iinc 1 1, 3) := by decide +kernel
theorem dX5_record_83 : decode cX5_record 83 = .ok (.goto (-31), 3) := by decide +kernel
theorem dX5_record_86 : decode cX5_record 86 = .ok (.aload_n 0, 1) := by decide +kernel
theorem dX5_record_87 : decode cX5_record 87 = .ok (.dup, 1) := by decide +kernel
theorem dX5_record_88 : decode cX5_record 88 = .ok (.getfield 43, 3) := by decide +kernel
theorem dX5_record_91 : decode cX5_record 91 = .ok (.iconst 1, 1) := by decide +kernel
theorem dX5_record_92 : decode cX5_record 92 = .ok (.iadd, 1) := by decide +kernel
theorem dX5_record_93 : decode cX5_record 93 = .ok (.putfield 43, 3) := by decide +kernel
theorem dX5_record_96 : decode cX5_record 96 = .ok (.return_, 1) := by decide +kernel
theorem dX5_undo_0 : decode cX5_undo 0 = .ok (.aload_n 0, 1) := by decide +kernel
theorem dX5_undo_1 : decode cX5_undo 1 = .ok (.aload_n 0, 1) := by decide +kernel
theorem dX5_undo_2 : decode cX5_undo 2 = .ok (.getfield 43, 3) := by decide +kernel
theorem dX5_undo_5 : decode cX5_undo 5 = .ok (.ifCond .ne 7, 3) := by decide +kernel
theorem dX5_undo_8 : decode cX5_undo 8 = .ok (.iconst 1, 1) := by decide +kernel
theorem dX5_undo_9 : decode cX5_undo 9 = .ok (.goto 4, 3) := by decide +kernel
theorem dX5_undo_12 : decode cX5_undo 12 = .ok (.iconst 0, 1) := by decide +kernel
theorem dX5_undo_13 : decode cX5_undo 13 = .ok (.putfield 35, 3) := by decide +kernel
theorem dX5_undo_16 : decode cX5_undo 16 = .ok (.aload_n 0, 1) := by decide +kernel
theorem dX5_undo_17 : decode cX5_undo 17 = .ok (.getfield 35, 3) := by decide +kernel
theorem dX5_undo_20 : decode cX5_undo 20 = .ok (.ifCond .le 5, 3) := by decide +kernel
theorem dX5_undo_23 : decode cX5_undo 23 = .ok (.iconst 0, 1) := by decide +kernel
theorem dX5_undo_24 : decode cX5_undo 24 = .ok (.ireturn, 1) := by decide +kernel
theorem dX5_undo_25 : decode cX5_undo 25 = .ok (.aload_n 0, 1) := by decide +kernel
theorem dX5_undo_26 : decode cX5_undo 26 = .ok (.dup, 1) := by decide +kernel
theorem dX5_undo_27 : decode cX5_undo 27 = .ok (.getfield 43, 3) := by decide +kernel
theorem dX5_undo_30 : decode cX5_undo 30 = .ok (.iconst 1, 1) := by decide +kernel
theorem dX5_undo_31 : decode cX5_undo 31 = .ok (.isub, 1) := by decide +kernel
theorem dX5_undo_32 : decode cX5_undo 32 = .ok (.putfield 43, 3) := by decide +kernel
theorem dX5_undo_35 : decode cX5_undo 35 = .ok (.iconst 0, 1) := by decide +kernel
theorem dX5_undo_36 : decode cX5_undo 36 = .ok (.istore_n 1, 1) := by decide +kernel
theorem dX5_undo_37 : decode cX5_undo 37 = .ok (.iload_n 1, 1) := by decide +kernel
theorem dX5_undo_38 : decode cX5_undo 38 = .ok (.sipush 175, 3) := by decide +kernel
theorem dX5_undo_41 : decode cX5_undo 41 = .ok (.if_icmp .ge 30, 3) := by decide +kernel
theorem dX5_undo_44 : decode cX5_undo 44 = .ok (.aload_n 0, 1) := by decide +kernel
theorem dX5_undo_45 : decode cX5_undo 45 = .ok (.getfield 7, 3) := by decide +kernel
theorem dX5_undo_48 : decode cX5_undo 48 = .ok (.iload_n 1, 1) := by decide +kernel
theorem dX5_undo_49 : decode cX5_undo 49 = .ok (.aload_n 0, 1) := by decide +kernel
theorem dX5_undo_50 : decode cX5_undo 50 = .ok (.getfield 16, 3) := by decide +kernel
theorem dX5_undo_53 : decode cX5_undo 53 = .ok (.sipush 175, 3) := by decide +kernel
theorem dX5_undo_56 : decode cX5_undo 56 = .ok (.aload_n 0, 1) := by decide +kernel
theorem dX5_undo_57 : decode cX5_undo 57 = .ok (.getfield 43, 3) := by decide +kernel
theorem dX5_undo_60 : decode cX5_undo 60 = .ok (.imul, 1) := by decide +kernel
theorem dX5_undo_61 : decode cX5_undo 61 = .ok (.iload_n 1, 1) := by decide +kernel
theorem dX5_undo_62 : decode cX5_undo 62 = .ok (.iadd, 1) := by decide +kernel
theorem dX5_undo_63 : decode cX5_undo 63 = .ok (.iaload, 1) := by decide +kernel
theorem dX5_undo_64 : decode cX5_undo 64 = .ok (.iastore, 1) := by decide +kernel
theorem dX5_undo_65 : decode cX5_undo 65 = .ok (.iinc 1 1, 3) := by decide +kernel
theorem dX5_undo_68 : decode cX5_undo 68 = .ok (.goto (-31), 3) := by decide +kernel
theorem dX5_undo_71 : decode cX5_undo 71 = .ok (.aload_n 0, 1) := by decide +kernel
theorem dX5_undo_72 : decode cX5_undo 72 = .ok (.getfield 43, 3) := by decide +kernel
theorem dX5_undo_75 : decode cX5_undo 75 = .ok (.ireturn, 1) := by decide +kernel
theorem dX5_keep_0 : decode cX5_keep 0 = .ok (.aload_n 0, 1) := by decide +kernel
theorem dX5_keep_1 : decode cX5_keep 1 = .ok (.iconst 0, 1) := by decide +kernel
theorem dX5_keep_2 : decode cX5_keep 2 = .ok (.putfield 35, 3) := by decide +kernel
theorem dX5_keep_5 : decode cX5_keep 5 = .ok (.iconst 0, 1) := by decide +kernel
theorem dX5_keep_6 : decode cX5_keep 6 = .ok (.istore_n 1, 1) := by decide +kernel
theorem dX5_keep_7 : decode cX5_keep 7 = .ok (.iload_n 1, 1) := by decide +kernel
theorem dX5_keep_8 : decode cX5_keep 8 = .ok (.sipush 175, 3) := by decide +kernel
theorem dX5_keep_11 : decode cX5_keep 11 = .ok (.if_icmp .ge 21, 3) := by decide +kernel
theorem dX5_keep_14 : decode cX5_keep 14 = .ok (.aload_n 0, 1) := by decide +kernel
theorem dX5_keep_15 : decode cX5_keep 15 = .ok (.getfield 19, 3) := by decide +kernel
theorem dX5_keep_18 : decode cX5_keep 18 = .ok (.iload_n 1, 1) := by decide +kernel
theorem dX5_keep_19 : decode cX5_keep 19 = .ok (.aload_n 0, 1) := by decide +kernel
theorem dX5_keep_20 : decode cX5_keep 20 = .ok (.getfield 7, 3) := by decide +kernel
theorem dX5_keep_23 : decode cX5_keep 23 = .ok (.iload_n 1, 1) := by decide +kernel
theorem dX5_keep_24 : decode cX5_keep 24 = .ok (.iaload, 1) := by decide +kernel
theorem dX5_keep_25 : decode cX5_keep 25 = .ok (.iastore, 1) := by decide +kernel
theorem dX5_keep_26 : decode cX5_keep 26 = .ok (.iinc 1 1, 3) := by decide +kernel
theorem dX5_keep_29 : decode cX5_keep 29 = .ok (.goto (-22), 3) := by decide +kernel
theorem dX5_keep_32 : decode cX5_keep 32 = .ok (.aload_n 0, 1) := by decide +kernel
theorem dX5_keep_33 : decode cX5_keep 33 = .ok (.iconst 1, 1) := by decide +kernel
theorem dX5_keep_34 : decode cX5_keep 34 = .ok (.putfield 46, 3) := by decide +kernel
theorem dX5_keep_37 : decode cX5_keep 37 = .ok (.aload_n 0, 1) := by decide +kernel
theorem dX5_keep_38 : decode cX5_keep 38 = .ok (.getfield 7, 3) := by decide +kernel
theorem dX5_keep_41 : decode cX5_keep 41 = .ok (.iconst 1, 1) := by decide +kernel
theorem dX5_keep_42 : decode cX5_keep 42 = .ok (.iaload, 1) := by decide +kernel
theorem dX5_keep_43 : decode cX5_keep 43 = .ok (.ireturn, 1) := by decide +kernel
theorem dX5_restore_0 : decode cX5_restore 0 = .ok (.aload_n 0, 1) := by decide +kernel
theorem dX5_restore_1 : decode cX5_restore 1 = .ok (.aload_n 0, 1) := by decide +kernel
theorem dX5_restore_2 : decode cX5_restore 2 = .ok (.getfield 46, 3) := by decide +kernel
theorem dX5_restore_5 : decode cX5_restore 5 = .ok (.ifCond .eq 7, 3) := by decide +kernel
theorem dX5_restore_8 : decode cX5_restore 8 = .ok (.iconst 0, 1) := by decide +kernel
theorem dX5_restore_9 : decode cX5_restore 9 = .ok (.goto 4, 3) := by decide +kernel
theorem dX5_restore_12 : decode cX5_restore 12 = .ok (.iconst 1, 1) := by decide +kernel
theorem dX5_restore_13 : decode cX5_restore 13 = .ok (.putfield 35, 3) := by decide +kernel
theorem dX5_restore_16 : decode cX5_restore 16 = .ok (.aload_n 0, 1) := by decide +kernel
theorem dX5_restore_17 : decode cX5_restore 17 = .ok (.getfield 35, 3) := by decide +kernel
theorem dX5_restore_20 : decode cX5_restore 20 = .ok (.ifCond .le 5, 3) := by decide +kernel
theorem dX5_restore_23 : decode cX5_restore 23 = .ok (.iconst 0, 1) := by decide +kernel
theorem dX5_restore_24 : decode cX5_restore 24 = .ok (.ireturn, 1) := by decide +kernel
theorem dX5_restore_25 : decode cX5_restore 25 = .ok (.aload_n 0, 1) := by decide +kernel
theorem dX5_restore_26 : decode cX5_restore 26 = .ok (.invokevirtual 50, 3) := by decide +kernel
theorem dX5_restore_29 : decode cX5_restore 29 = .ok (.iconst 0, 1) := by decide +kernel
theorem dX5_restore_30 : decode cX5_restore 30 = .ok (.istore_n 1, 1) := by decide +kernel
theorem dX5_restore_31 : decode cX5_restore 31 = .ok (.iload_n 1, 1) := by decide +kernel
theorem dX5_restore_32 : decode cX5_restore 32 = .ok (.sipush 175, 3) := by decide +kernel
theorem dX5_restore_35 : decode cX5_restore 35 = .ok (.if_icmp .ge 21, 3) := by decide +kernel
theorem dX5_restore_38 : decode cX5_restore 38 = .ok (.aload_n 0, 1) := by decide +kernel
theorem dX5_restore_39 : decode cX5_restore 39 = .ok (.getfield 7, 3) := by decide +kernel
theorem dX5_restore_42 : decode cX5_restore 42 = .ok (.iload_n 1, 1) := by decide +kernel
theorem dX5_restore_43 : decode cX5_restore 43 = .ok (.aload_n 0, 1) := by decide +kernel
theorem dX5_restore_44 : decode cX5_restore 44 = .ok (.getfield 19, 3) := by decide +kernel
theorem dX5_restore_47 : decode cX5_restore 47 = .ok (.iload_n 1, 1) := by decide +kernel
theorem dX5_restore_48 : decode cX5_restore 48 = .ok (.iaload, 1) := by decide +kernel
theorem dX5_restore_49 : decode cX5_restore 49 = .ok (.iastore, 1) := by decide +kernel
theorem dX5_restore_50 : decode cX5_restore 50 = .ok (.iinc 1 1, 3) := by decide +kernel
theorem dX5_restore_53 : decode cX5_restore 53 = .ok (.goto (-22), 3) := by decide +kernel
theorem dX5_restore_56 : decode cX5_restore 56 = .ok (.aload_n 0, 1) := by decide +kernel
theorem dX5_restore_57 : decode cX5_restore 57 = .ok (.getfield 7, 3) := by decide +kernel
theorem dX5_restore_60 : decode cX5_restore 60 = .ok (.iconst 1, 1) := by decide +kernel
theorem dX5_restore_61 : decode cX5_restore 61 = .ok (.iaload, 1) := by decide +kernel
theorem dX5_restore_62 : decode cX5_restore 62 = .ok (.ireturn, 1) := by decide +kernel
theorem dX5_putAside_0 : decode cX5_putAside 0 = .ok (.iconst 0, 1) := by decide +kernel
theorem dX5_putAside_1 : decode cX5_putAside 1 = .ok (.istore_n 1, 1) := by decide +kernel
theorem dX5_putAside_2 : decode cX5_putAside 2 = .ok (.iload_n 1, 1) := by decide +kernel
theorem dX5_putAside_3 : decode cX5_putAside 3 = .ok (.sipush 175, 3) := by decide +kernel
theorem dX5_putAside_6 : decode cX5_putAside 6 = .ok (.if_icmp .ge 21, 3) := by decide +kernel
theorem dX5_putAside_9 : decode cX5_putAside 9 = .ok (.aload_n 0, 1) := by decide +kernel
theorem dX5_putAside_10 : decode cX5_putAside 10 = .ok (.getfield 13, 3) := by decide +kernel
theorem dX5_putAside_13 : decode cX5_putAside 13 = .ok (.iload_n 1, 1) := by decide +kernel
theorem dX5_putAside_14 : decode cX5_putAside 14 = .ok (.aload_n 0, 1) := by decide +kernel
theorem dX5_putAside_15 : decode cX5_putAside 15 = .ok (.getfield 7, 3) := by decide +kernel
theorem dX5_putAside_18 : decode cX5_putAside 18 = .ok (.iload_n 1, 1) := by decide +kernel
theorem dX5_putAside_19 : decode cX5_putAside 19 = .ok (.iaload, 1) := by decide +kernel
theorem dX5_putAside_20 : decode cX5_putAside 20 = .ok (.iastore, 1) := by decide +kernel
theorem dX5_putAside_21 : decode cX5_putAside 21 = .ok (.iinc 1 1, 3) := by decide +kernel
theorem dX5_putAside_24 : decode cX5_putAside 24 = .ok (.goto (-22), 3) := by decide +kernel
theorem dX5_putAside_27 : decode cX5_putAside 27 = .ok (.return_, 1) := by decide +kernel
theorem dX5_putBack_0 : decode cX5_putBack 0 = .ok (.iconst 0, 1) := by decide +kernel
theorem dX5_putBack_1 : decode cX5_putBack 1 = .ok (.istore_n 1, 1) := by decide +kernel
theorem dX5_putBack_2 : decode cX5_putBack 2 = .ok (.iload_n 1, 1) := by decide +kernel
theorem dX5_putBack_3 : decode cX5_putBack 3 = .ok (.sipush 175, 3) := by decide +kernel
theorem dX5_putBack_6 : decode cX5_putBack 6 = .ok (.if_icmp .ge 21, 3) := by decide +kernel
theorem dX5_putBack_9 : decode cX5_putBack 9 = .ok (.aload_n 0, 1) := by decide +kernel
theorem dX5_putBack_10 : decode cX5_putBack 10 = .ok (.getfield 7, 3) := by decide +kernel
theorem dX5_putBack_13 : decode cX5_putBack 13 = .ok (.iload_n 1, 1) := by decide +kernel
theorem dX5_putBack_14 : decode cX5_putBack 14 = .ok (.aload_n 0, 1) := by decide +kernel
theorem dX5_putBack_15 : decode cX5_putBack 15 = .ok (.getfield 13, 3) := by decide +kernel
theorem dX5_putBack_18 : decode cX5_putBack 18 = .ok (.iload_n 1, 1) := by decide +kernel
theorem dX5_putBack_19 : decode cX5_putBack 19 = .ok (.iaload, 1) := by decide +kernel
theorem dX5_putBack_20 : decode cX5_putBack 20 = .ok (.iastore, 1) := by decide +kernel
theorem dX5_putBack_21 : decode cX5_putBack 21 = .ok (.iinc 1 1, 3) := by decide +kernel
theorem dX5_putBack_24 : decode cX5_putBack 24 = .ok (.goto (-22), 3) := by decide +kernel
theorem dX5_putBack_27 : decode cX5_putBack 27 = .ok (.return_, 1) := by decide +kernel
theorem dX5_doBend_0 : decode cX5_doBend 0 = .ok (.bipush 7, 2) := by decide +kernel
theorem dX5_doBend_2 : decode cX5_doBend 2 = .ok (.iload_n 1, 1) := by decide +kernel
theorem dX5_doBend_3 : decode cX5_doBend 3 = .ok (.imul, 1) := by decide +kernel
theorem dX5_doBend_4 : decode cX5_doBend 4 = .ok (.iload_n 2, 1) := by decide +kernel
theorem dX5_doBend_5 : decode cX5_doBend 5 = .ok (.iadd, 1) := by decide +kernel
theorem dX5_doBend_6 : decode cX5_doBend 6 = .ok (.istore 4, 2) := by decide +kernel
theorem dX5_doBend_8 : decode cX5_doBend 8 = .ok (.aload_n 0, 1) := by decide +kernel
theorem dX5_doBend_9 : decode cX5_doBend 9 = .ok (.iload 4, 2) := by decide +kernel
theorem dX5_doBend_11 : decode cX5_doBend 11 = .ok (.invokevirtual 53, 3) := by decide +kernel
theorem dX5_doBend_14 : decode cX5_doBend 14 = .ok (.istore 5, 2) := by decide +kernel
theorem dX5_doBend_16 : decode cX5_doBend 16 = .ok (.aload_n 0, 1) := by decide +kernel
theorem dX5_doBend_17 : decode cX5_doBend 17 = .ok (.getfield 7, 3) := by decide +kernel
theorem dX5_doBend_20 : decode cX5_doBend 20 = .ok (.bipush 20, 2) := by decide +kernel
theorem dX5_doBend_22 : decode cX5_doBend 22 = .ok (.iload 4, 2) := by decide +kernel
theorem dX5_doBend_24 : decode cX5_doBend 24 = .ok (.iadd, 1) := by decide +kernel
theorem dX5_doBend_25 : decode cX5_doBend 25 = .ok (.iload_n 3, 1) := by decide +kernel
theorem dX5_doBend_26 : decode cX5_doBend 26 = .ok (.iastore, 1) := by decide +kernel
theorem dX5_doBend_27 : decode cX5_doBend 27 = .ok (.iload_n 3, 1) := by decide +kernel
theorem dX5_doBend_28 : decode cX5_doBend 28 = .ok (.ifCond .ne 17, 3) := by decide +kernel
theorem dX5_doBend_31 : decode cX5_doBend 31 = .ok (.aload_n 0, 1) := by decide +kernel
theorem dX5_doBend_32 : decode cX5_doBend 32 = .ok (.getfield 7, 3) := by decide +kernel
theorem dX5_doBend_35 : decode cX5_doBend 35 = .ok (.bipush 76, 2) := by decide +kernel
theorem dX5_doBend_37 : decode cX5_doBend 37 = .ok (.iload 4, 2) := by decide +kernel
theorem dX5_doBend_39 : decode cX5_doBend 39 = .ok (.iadd, 1) := by decide +kernel
theorem dX5_doBend_40 : decode cX5_doBend 40 = .ok (.iconst 0, 1) := by decide +kernel
theorem dX5_doBend_41 : decode cX5_doBend 41 = .ok (.iastore, 1) := by decide +kernel
theorem dX5_doBend_42 : decode cX5_doBend 42 = .ok (.goto 36, 3) := by decide +kernel
theorem dX5_doBend_45 : decode cX5_doBend 45 = .ok (.iload 5, 2) := by decide +kernel
theorem dX5_doBend_47 : decode cX5_doBend 47 = .ok (.ifCond .ne 31, 3) := by decide +kernel
theorem dX5_doBend_50 : decode cX5_doBend 50 = .ok (.aload_n 0, 1) := by decide +kernel
theorem dX5_doBend_51 : decode cX5_doBend 51 = .ok (.getfield 7, 3) := by decide +kernel
theorem dX5_doBend_54 : decode cX5_doBend 54 = .ok (.bipush 16, 2) := by decide +kernel
theorem dX5_doBend_56 : decode cX5_doBend 56 = .ok (.dup2, 1) := by decide +kernel
theorem dX5_doBend_57 : decode cX5_doBend 57 = .ok (.iaload, 1) := by decide +kernel
theorem dX5_doBend_58 : decode cX5_doBend 58 = .ok (.iconst 1, 1) := by decide +kernel
theorem dX5_doBend_59 : decode cX5_doBend 59 = .ok (.iadd, 1) := by decide +kernel
theorem dX5_doBend_60 : decode cX5_doBend 60 = .ok (.iastore, 1) := by decide +kernel
theorem dX5_doBend_61 : decode cX5_doBend 61 = .ok (.aload_n 0, 1) := by decide +kernel
theorem dX5_doBend_62 : decode cX5_doBend 62 = .ok (.getfield 7, 3) := by decide +kernel
theorem dX5_doBend_65 : decode cX5_doBend 65 = .ok (.bipush 76, 2) := by decide +kernel
theorem dX5_doBend_67 : decode cX5_doBend 67 = .ok (.iload 4, 2) := by decide +kernel
theorem dX5_doBend_69 : decode cX5_doBend 69 = .ok (.iadd, 1) := by decide +kernel
theorem dX5_doBend_70 : decode cX5_doBend 70 = .ok (.aload_n 0, 1) := by decide +kernel
theorem dX5_doBend_71 : decode cX5_doBend 71 = .ok (.getfield 7, 3) := by decide +kernel
theorem dX5_doBend_74 : decode cX5_doBend 74 = .ok (.bipush 16, 2) := by decide +kernel
theorem dX5_doBend_76 : decode cX5_doBend 76 = .ok (.iaload, 1) := by decide +kernel
theorem dX5_doBend_77 : decode cX5_doBend 77 = .ok (.iastore, 1) := by decide +kernel
theorem dX5_doBend_78 : decode cX5_doBend 78 = .ok (.iload 5, 2) := by decide +kernel
theorem dX5_doBend_80 : decode cX5_doBend 80 = .ok (.iconst 1, 1) := by decide +kernel
theorem dX5_doBend_81 : decode cX5_doBend 81 = .ok (.iadd, 1) := by decide +kernel
theorem dX5_doBend_82 : decode cX5_doBend 82 = .ok (.ireturn, 1) := by decide +kernel
theorem dX5_bend_0 : decode cX5_bend 0 = .ok (.aload_n 0, 1) := by decide +kernel
theorem dX5_bend_1 : decode cX5_bend 1 = .ok (.iload_n 1, 1) := by decide +kernel
theorem dX5_bend_2 : decode cX5_bend 2 = .ok (.invokestatic 57, 3) := by decide +kernel
theorem dX5_bend_5 : decode cX5_bend 5 = .ok (.ifCond .eq 10, 3) := by decide +kernel
theorem dX5_bend_8 : decode cX5_bend 8 = .ok (.iload_n 2, 1) := by decide +kernel
theorem dX5_bend_9 : decode cX5_bend 9 = .ok (.invokestatic 61, 3) := by decide +kernel
theorem dX5_bend_12 : decode cX5_bend 12 = .ok (.ifCond .ne 7, 3) := by decide +kernel
theorem dX5_bend_15 : decode cX5_bend 15 = .ok (.iconst 1, 1) := by decide +kernel
theorem dX5_bend_16 : decode cX5_bend 16 = .ok (.goto 17, 3) := by decide +kernel
theorem dX5_bend_19 : decode cX5_bend 19 = .ok (.iload_n 3, 1) := by decide +kernel
theorem dX5_bend_20 : decode cX5_bend 20 = .ok (.iconst (-1), 1) := by decide +kernel
theorem dX5_bend_21 : decode cX5_bend 21 = .ok (.iconst 1, 1) := by decide +kernel
theorem dX5_bend_22 : decode cX5_bend 22 = .ok (.invokestatic 39, 3) := by decide +kernel
theorem dX5_bend_25 : decode cX5_bend 25 = .ok (.ifCond .eq 7, 3) := by decide +kernel
theorem dX5_bend_28 : decode cX5_bend 28 = .ok (.iconst 0, 1) := by decide +kernel
theorem dX5_bend_29 : decode cX5_bend 29 = .ok (.goto 4, 3) := by decide +kernel
theorem dX5_bend_32 : decode cX5_bend 32 = .ok (.iconst 2, 1) := by decide +kernel
theorem dX5_bend_33 : decode cX5_bend 33 = .ok (.putfield 35, 3) := by decide +kernel
theorem dX5_bend_36 : decode cX5_bend 36 = .ok (.aload_n 0, 1) := by decide +kernel
theorem dX5_bend_37 : decode cX5_bend 37 = .ok (.getfield 35, 3) := by decide +kernel
theorem dX5_bend_40 : decode cX5_bend 40 = .ok (.ifCond .le 5, 3) := by decide +kernel
theorem dX5_bend_43 : decode cX5_bend 43 = .ok (.iconst 0, 1) := by decide +kernel
theorem dX5_bend_44 : decode cX5_bend 44 = .ok (.ireturn, 1) := by decide +kernel
theorem dX5_bend_45 : decode cX5_bend 45 = .ok (.aload_n 0, 1) := by decide +kernel
theorem dX5_bend_46 : decode cX5_bend 46 = .ok (.invokevirtual 50, 3) := by decide +kernel
theorem dX5_bend_49 : decode cX5_bend 49 = .ok (.aload_n 0, 1) := by decide +kernel
theorem dX5_bend_50 : decode cX5_bend 50 = .ok (.iload_n 1, 1) := by decide +kernel
theorem dX5_bend_51 : decode cX5_bend 51 = .ok (.iload_n 2, 1) := by decide +kernel
theorem dX5_bend_52 : decode cX5_bend 52 = .ok (.iload_n 3, 1) := by decide +kernel
theorem dX5_bend_53 : decode cX5_bend 53 = .ok (.invokevirtual 64, 3) := by decide +kernel
theorem dX5_bend_56 : decode cX5_bend 56 = .ok (.ireturn, 1) := by decide +kernel
theorem dX5_pocket_0 : decode cX5_pocket 0 = .ok (.aload_n 0, 1) := by decide +kernel
theorem dX5_pocket_1 : decode cX5_pocket 1 = .ok (.iload_n 1, 1) := by decide +kernel
theorem dX5_pocket_2 : decode cX5_pocket 2 = .ok (.invokestatic 61, 3) := by decide +kernel
theorem dX5_pocket_5 : decode cX5_pocket 5 = .ok (.ifCond .ne 7, 3) := by decide +kernel
theorem dX5_pocket_8 : decode cX5_pocket 8 = .ok (.iconst 1, 1) := by decide +kernel
theorem dX5_pocket_9 : decode cX5_pocket 9 = .ok (.goto 27, 3) := by decide +kernel
theorem dX5_pocket_12 : decode cX5_pocket 12 = .ok (.iload_n 2, 1) := by decide +kernel
theorem dX5_pocket_13 : decode cX5_pocket 13 = .ok (.iconst 0, 1) := by decide +kernel
theorem dX5_pocket_14 : decode cX5_pocket 14 = .ok (.iconst 2, 1) := by decide +kernel
theorem dX5_pocket_15 : decode cX5_pocket 15 = .ok (.invokestatic 39, 3) := by decide +kernel
theorem dX5_pocket_18 : decode cX5_pocket 18 = .ok (.ifCond .eq 17, 3) := by decide +kernel
theorem dX5_pocket_21 : decode cX5_pocket 21 = .ok (.iload_n 3, 1) := by decide +kernel
theorem dX5_pocket_22 : decode cX5_pocket 22 = .ok (.iconst 0, 1) := by decide +kernel
theorem dX5_pocket_23 : decode cX5_pocket 23 = .ok (.bipush 15, 2) := by decide +kernel
theorem dX5_pocket_25 : decode cX5_pocket 25 = .ok (.invokestatic 39, 3) := by decide +kernel
theorem dX5_pocket_28 : decode cX5_pocket 28 = .ok (.ifCond .eq 7, 3) := by decide +kernel
theorem dX5_pocket_31 : decode cX5_pocket 31 = .ok (.iconst 0, 1) := by decide +kernel
theorem dX5_pocket_32 : decode cX5_pocket 32 = .ok (.goto 4, 3) := by decide +kernel
theorem dX5_pocket_35 : decode cX5_pocket 35 = .ok (.iconst 2, 1) := by decide +kernel
theorem dX5_pocket_36 : decode cX5_pocket 36 = .ok (.putfield 35, 3) := by decide +kernel
theorem dX5_pocket_39 : decode cX5_pocket 39 = .ok (.aload_n 0, 1) := by decide +kernel
theorem dX5_pocket_40 : decode cX5_pocket 40 = .ok (.getfield 35, 3) := by decide +kernel
theorem dX5_pocket_43 : decode cX5_pocket 43 = .ok (.ifCond .le 5, 3) := by decide +kernel
theorem dX5_pocket_46 : decode cX5_pocket 46 = .ok (.iconst 0, 1) := by decide +kernel
theorem dX5_pocket_47 : decode cX5_pocket 47 = .ok (.ireturn, 1) := by decide +kernel
theorem dX5_pocket_48 : decode cX5_pocket 48 = .ok (.aload_n 0, 1) := by decide +kernel
theorem dX5_pocket_49 : decode cX5_pocket 49 = .ok (.invokevirtual 50, 3) := by decide +kernel
theorem dX5_pocket_52 : decode cX5_pocket 52 = .ok (.aload_n 0, 1) := by decide +kernel
theorem dX5_pocket_53 : decode cX5_pocket 53 = .ok (.iload_n 1, 1) := by decide +kernel
theorem dX5_pocket_54 : decode cX5_pocket 54 = .ok (.iconst 1, 1) := by decide +kernel
theorem dX5_pocket_55 : decode cX5_pocket 55 = .ok (.invokevirtual 68, 3) := by decide +kernel
theorem dX5_pocket_58 : decode cX5_pocket 58 = .ok (.istore 4, 2) := by decide +kernel
theorem dX5_pocket_60 : decode cX5_pocket 60 = .ok (.aload_n 0, 1) := by decide +kernel
theorem dX5_pocket_61 : decode cX5_pocket 61 = .ok (.iload_n 1, 1) := by decide +kernel
theorem dX5_pocket_62 : decode cX5_pocket 62 = .ok (.iconst 2, 1) := by decide +kernel
theorem dX5_pocket_63 : decode cX5_pocket 63 = .ok (.iload_n 2, 1) := by decide +kernel
theorem dX5_pocket_64 : decode cX5_pocket 64 = .ok (.iconst 2, 1) := by decide +kernel
theorem dX5_pocket_65 : decode cX5_pocket 65 = .ok (.if_icmp .ne 22, 3) := by decide +kernel
theorem dX5_pocket_68 : decode cX5_pocket 68 = .ok (.aload_n 0, 1) := by decide +kernel
theorem dX5_pocket_69 : decode cX5_pocket 69 = .ok (.iload_n 1, 1) := by decide +kernel
theorem dX5_pocket_70 : decode cX5_pocket 70 = .ok (.iconst 0, 1) := by decide +kernel
theorem dX5_pocket_71 : decode cX5_pocket 71 = .ok (.invokevirtual 68, 3) := by decide +kernel
theorem dX5_pocket_74 : decode cX5_pocket 74 = .ok (.iconst 2, 1) := by decide +kernel
theorem dX5_pocket_75 : decode cX5_pocket 75 = .ok (.if_icmp .ne 12, 3) := by decide +kernel
theorem dX5_pocket_78 : decode cX5_pocket 78 = .ok (.aload_n 0, 1) := by decide +kernel
theorem dX5_pocket_79 : decode cX5_pocket 79 = .ok (.iload_n 1, 1) := by decide +kernel
theorem dX5_pocket_80 : decode cX5_pocket 80 = .ok (.iconst 2, 1) := by decide +kernel
theorem dX5_pocket_81 : decode cX5_pocket 81 = .ok (.invokevirtual 68, 3) := by decide +kernel
theorem dX5_pocket_84 : decode cX5_pocket 84 = .ok (.goto 4, 3) := by decide +kernel
theorem dX5_pocket_87 : decode cX5_pocket 87 = .ok (.iconst 0, 1) := by decide +kernel
theorem dX5_pocket_88 : decode cX5_pocket 88 = .ok (.invokevirtual 31, 3) := by decide +kernel
theorem dX5_pocket_91 : decode cX5_pocket 91 = .ok (.aload_n 0, 1) := by decide +kernel
theorem dX5_pocket_92 : decode cX5_pocket 92 = .ok (.iload_n 1, 1) := by decide +kernel
theorem dX5_pocket_93 : decode cX5_pocket 93 = .ok (.iconst 0, 1) := by decide +kernel
theorem dX5_pocket_94 : decode cX5_pocket 94 = .ok (.iload_n 2, 1) := by decide +kernel
theorem dX5_pocket_95 : decode cX5_pocket 95 = .ok (.invokevirtual 31, 3) := by decide +kernel
theorem dX5_pocket_98 : decode cX5_pocket 98 = .ok (.aload_n 0, 1) := by decide +kernel
theorem dX5_pocket_99 : decode cX5_pocket 99 = .ok (.iload_n 1, 1) := by decide +kernel
theorem dX5_pocket_100 : decode cX5_pocket 100 = .ok (.iconst 1, 1) := by decide +kernel
theorem dX5_pocket_101 : decode cX5_pocket 101 = .ok (.iload_n 3, 1) := by decide +kernel
theorem dX5_pocket_102 : decode cX5_pocket 102 = .ok (.invokevirtual 31, 3) := by decide +kernel
theorem dX5_pocket_105 : decode cX5_pocket 105 = .ok (.iload 4, 2) := by decide +kernel
theorem dX5_pocket_107 : decode cX5_pocket 107 = .ok (.ireturn, 1) := by decide +kernel
theorem dX5_change_0 : decode cX5_change 0 = .ok (.aload_n 0, 1) := by decide +kernel
theorem dX5_change_1 : decode cX5_change 1 = .ok (.invokevirtual 50, 3) := by decide +kernel
theorem dX5_change_4 : decode cX5_change 4 = .ok (.aload_n 0, 1) := by decide +kernel
theorem dX5_change_5 : decode cX5_change 5 = .ok (.getfield 7, 3) := by decide +kernel
theorem dX5_change_8 : decode cX5_change 8 = .ok (.iload_n 1, 1) := by decide +kernel
theorem dX5_change_9 : decode cX5_change 9 = .ok (.iaload, 1) := by decide +kernel
theorem dX5_change_10 : decode cX5_change 10 = .ok (.istore_n 3, 1) := by decide +kernel
theorem dX5_change_11 : decode cX5_change 11 = .ok (.aload_n 0, 1) := by decide +kernel
theorem dX5_change_12 : decode cX5_change 12 = .ok (.getfield 7, 3) := by decide +kernel
theorem dX5_change_15 : decode cX5_change 15 = .ok (.iload_n 1, 1) := by decide +kernel
theorem dX5_change_16 : decode cX5_change 16 = .ok (.iload_n 2, 1) := by decide +kernel
theorem dX5_change_17 : decode cX5_change 17 = .ok (.iastore, 1) := by decide +kernel
theorem dX5_change_18 : decode cX5_change 18 = .ok (.iload_n 3, 1) := by decide +kernel
theorem dX5_change_19 : decode cX5_change 19 = .ok (.ireturn, 1) := by decide +kernel
theorem dX5_start_0 : decode cX5_start 0 = .ok (.aload_n 0, 1) := by decide +kernel
theorem dX5_start_1 : decode cX5_start 1 = .ok (.iload_n 1, 1) := by decide +kernel
theorem dX5_start_2 : decode cX5_start 2 = .ok (.invokestatic 61, 3) := by decide +kernel
theorem dX5_start_5 : decode cX5_start 5 = .ok (.ifCond .eq 7, 3) := by decide +kernel
theorem dX5_start_8 : decode cX5_start 8 = .ok (.iconst 0, 1) := by decide +kernel
theorem dX5_start_9 : decode cX5_start 9 = .ok (.goto 4, 3) := by decide +kernel
theorem dX5_start_12 : decode cX5_start 12 = .ok (.iconst 1, 1) := by decide +kernel
theorem dX5_start_13 : decode cX5_start 13 = .ok (.putfield 35, 3) := by decide +kernel
theorem dX5_start_16 : decode cX5_start 16 = .ok (.aload_n 0, 1) := by decide +kernel
theorem dX5_start_17 : decode cX5_start 17 = .ok (.getfield 35, 3) := by decide +kernel
theorem dX5_start_20 : decode cX5_start 20 = .ok (.ifCond .le 7, 3) := by decide +kernel
theorem dX5_start_23 : decode cX5_start 23 = .ok (.iconst 0, 1) := by decide +kernel
theorem dX5_start_24 : decode cX5_start 24 = .ok (.goto 10, 3) := by decide +kernel
theorem dX5_start_27 : decode cX5_start 27 = .ok (.aload_n 0, 1) := by decide +kernel
theorem dX5_start_28 : decode cX5_start 28 = .ok (.bipush 13, 2) := by decide +kernel
theorem dX5_start_30 : decode cX5_start 30 = .ok (.iload_n 1, 1) := by decide +kernel
theorem dX5_start_31 : decode cX5_start 31 = .ok (.invokevirtual 72, 3) := by decide +kernel
theorem dX5_start_34 : decode cX5_start 34 = .ok (.ireturn, 1) := by decide +kernel
theorem dX5_set_0 : decode cX5_set 0 = .ok (.aload_n 0, 1) := by decide +kernel
theorem dX5_set_1 : decode cX5_set 1 = .ok (.iload_n 1, 1) := by decide +kernel
theorem dX5_set_2 : decode cX5_set 2 = .ok (.iconst 0, 1) := by decide +kernel
theorem dX5_set_3 : decode cX5_set 3 = .ok (.iconst 1, 1) := by decide +kernel
theorem dX5_set_4 : decode cX5_set 4 = .ok (.invokestatic 39, 3) := by decide +kernel
theorem dX5_set_7 : decode cX5_set 7 = .ok (.ifCond .ne 7, 3) := by decide +kernel
theorem dX5_set_10 : decode cX5_set 10 = .ok (.iconst 1, 1) := by decide +kernel
theorem dX5_set_11 : decode cX5_set 11 = .ok (.goto 40, 3) := by decide +kernel
theorem dX5_set_14 : decode cX5_set 14 = .ok (.iload_n 1, 1) := by decide +kernel
theorem dX5_set_15 : decode cX5_set 15 = .ok (.ifCond .ne 21, 3) := by decide +kernel
theorem dX5_set_18 : decode cX5_set 18 = .ok (.iload_n 2, 1) := by decide +kernel
theorem dX5_set_19 : decode cX5_set 19 = .ok (.iconst 1, 1) := by decide +kernel
theorem dX5_set_20 : decode cX5_set 20 = .ok (.bipush 10, 2) := by decide +kernel
theorem dX5_set_22 : decode cX5_set 22 = .ok (.invokestatic 39, 3) := by decide +kernel
theorem dX5_set_25 : decode cX5_set 25 = .ok (.ifCond .eq 7, 3) := by decide +kernel
theorem dX5_set_28 : decode cX5_set 28 = .ok (.iconst 0, 1) := by decide +kernel
theorem dX5_set_29 : decode cX5_set 29 = .ok (.goto 22, 3) := by decide +kernel
theorem dX5_set_32 : decode cX5_set 32 = .ok (.iconst 2, 1) := by decide +kernel
theorem dX5_set_33 : decode cX5_set 33 = .ok (.goto 18, 3) := by decide +kernel
theorem dX5_set_36 : decode cX5_set 36 = .ok (.iload_n 2, 1) := by decide +kernel
theorem dX5_set_37 : decode cX5_set 37 = .ok (.iconst 0, 1) := by decide +kernel
theorem dX5_set_38 : decode cX5_set 38 = .ok (.bipush 20, 2) := by decide +kernel
theorem dX5_set_40 : decode cX5_set 40 = .ok (.invokestatic 39, 3) := by decide +kernel
theorem dX5_set_43 : decode cX5_set 43 = .ok (.ifCond .eq 7, 3) := by decide +kernel
theorem dX5_set_46 : decode cX5_set 46 = .ok (.iconst 0, 1) := by decide +kernel
theorem dX5_set_47 : decode cX5_set 47 = .ok (.goto 4, 3) := by decide +kernel
theorem dX5_set_50 : decode cX5_set 50 = .ok (.iconst 2, 1) := by decide +kernel
theorem dX5_set_51 : decode cX5_set 51 = .ok (.putfield 35, 3) := by decide +kernel
theorem dX5_set_54 : decode cX5_set 54 = .ok (.aload_n 0, 1) := by decide +kernel
theorem dX5_set_55 : decode cX5_set 55 = .ok (.getfield 35, 3) := by decide +kernel
theorem dX5_set_58 : decode cX5_set 58 = .ok (.ifCond .le 7, 3) := by decide +kernel
theorem dX5_set_61 : decode cX5_set 61 = .ok (.iconst 0, 1) := by decide +kernel
theorem dX5_set_62 : decode cX5_set 62 = .ok (.goto 12, 3) := by decide +kernel
theorem dX5_set_65 : decode cX5_set 65 = .ok (.aload_n 0, 1) := by decide +kernel
theorem dX5_set_66 : decode cX5_set 66 = .ok (.bipush 14, 2) := by decide +kernel
theorem dX5_set_68 : decode cX5_set 68 = .ok (.iload_n 1, 1) := by decide +kernel
theorem dX5_set_69 : decode cX5_set 69 = .ok (.iadd, 1) := by decide +kernel
theorem dX5_set_70 : decode cX5_set 70 = .ok (.iload_n 2, 1) := by decide +kernel
theorem dX5_set_71 : decode cX5_set 71 = .ok (.invokevirtual 72, 3) := by decide +kernel
theorem dX5_set_74 : decode cX5_set 74 = .ok (.ireturn, 1) := by decide +kernel
theorem dX5_shuffle_0 : decode cX5_shuffle 0 = .ok (.aload_n 0, 1) := by decide +kernel
theorem dX5_shuffle_1 : decode cX5_shuffle 1 = .ok (.iload_n 1, 1) := by decide +kernel
theorem dX5_shuffle_2 : decode cX5_shuffle 2 = .ok (.ifCond .ge 7, 3) := by decide +kernel
theorem dX5_shuffle_5 : decode cX5_shuffle 5 = .ok (.iconst 1, 1) := by decide +kernel
theorem dX5_shuffle_6 : decode cX5_shuffle 6 = .ok (.goto 4, 3) := by decide +kernel
theorem dX5_shuffle_9 : decode cX5_shuffle 9 = .ok (.iconst 0, 1) := by decide +kernel
theorem dX5_shuffle_10 : decode cX5_shuffle 10 = .ok (.putfield 35, 3) := by decide +kernel
theorem dX5_shuffle_13 : decode cX5_shuffle 13 = .ok (.aload_n 0, 1) := by decide +kernel
theorem dX5_shuffle_14 : decode cX5_shuffle 14 = .ok (.getfield 35, 3) := by decide +kernel
theorem dX5_shuffle_17 : decode cX5_shuffle 17 = .ok (.ifCond .le 7, 3) := by decide +kernel
theorem dX5_shuffle_20 : decode cX5_shuffle 20 = .ok (.iconst 0, 1) := by decide +kernel
theorem dX5_shuffle_21 : decode cX5_shuffle 21 = .ok (.goto 9, 3) := by decide +kernel
theorem dX5_shuffle_24 : decode cX5_shuffle 24 = .ok (.aload_n 0, 1) := by decide +kernel
theorem dX5_shuffle_25 : decode cX5_shuffle 25 = .ok (.iconst 0, 1) := by decide +kernel
theorem dX5_shuffle_26 : decode cX5_shuffle 26 = .ok (.iload_n 1, 1) := by decide +kernel
theorem dX5_shuffle_27 : decode cX5_shuffle 27 = .ok (.invokevirtual 72, 3) := by decide +kernel
theorem dX5_shuffle_30 : decode cX5_shuffle 30 = .ok (.ireturn, 1) := by decide +kernel
theorem dX5_draw_0 : decode cX5_draw 0 = .ok (.aload_n 0, 1) := by decide +kernel
theorem dX5_draw_1 : decode cX5_draw 1 = .ok (.getfield 7, 3) := by decide +kernel
theorem dX5_draw_4 : decode cX5_draw 4 = .ok (.iconst 0, 1) := by decide +kernel
theorem dX5_draw_5 : decode cX5_draw 5 = .ok (.ldc2_w 75, 3) := by decide +kernel
theorem dX5_draw_8 : decode cX5_draw 8 = .ok (.aload_n 0, 1) := by decide +kernel
theorem dX5_draw_9 : decode cX5_draw 9 = .ok (.getfield 7, 3) := by decide +kernel
theorem dX5_draw_12 : decode cX5_draw 12 = .ok (.iconst 0, 1) := by decide +kernel
theorem dX5_draw_13 : decode cX5_draw 13 = .ok (.iaload, 1) := by decide +kernel
theorem dX5_draw_14 : decode cX5_draw 14 = .ok (.i2l, 1) := by decide +kernel
theorem dX5_draw_15 : decode cX5_draw 15 = .ok (.lmul, 1) := by decide +kernel
theorem dX5_draw_16 : decode cX5_draw 16 = .ok (.ldc2_w 77, 3) := by decide +kernel
theorem dX5_draw_19 : decode cX5_draw 19 = .ok (.ladd, 1) := by decide +kernel
theorem dX5_draw_20 : decode cX5_draw 20 = .ok (.ldc2_w 79, 3) := by decide +kernel
theorem dX5_draw_23 : decode cX5_draw 23 = .ok (.lrem, 1) := by decide +kernel
theorem dX5_draw_24 : decode cX5_draw 24 = .ok (.l2i, 1) := by decide +kernel
theorem dX5_draw_25 : decode cX5_draw 25 = .ok (.iastore, 1) := by decide +kernel
theorem dX5_draw_26 : decode cX5_draw 26 = .ok (.aload_n 0, 1) := by decide +kernel
theorem dX5_draw_27 : decode cX5_draw 27 = .ok (.getfield 7, 3) := by decide +kernel
theorem dX5_draw_30 : decode cX5_draw 30 = .ok (.iconst 0, 1) := by decide +kernel
theorem dX5_draw_31 : decode cX5_draw 31 = .ok (.iaload, 1) := by decide +kernel
theorem dX5_draw_32 : decode cX5_draw 32 = .ok (.ldc 81, 2) := by decide +kernel
theorem dX5_draw_34 : decode cX5_draw 34 = .ok (.idiv, 1) := by decide +kernel
theorem dX5_draw_35 : decode cX5_draw 35 = .ok (.iload_n 1, 1) := by decide +kernel
theorem dX5_draw_36 : decode cX5_draw 36 = .ok (.irem, 1) := by decide +kernel
theorem dX5_draw_37 : decode cX5_draw 37 = .ok (.ireturn, 1) := by decide +kernel
theorem dX5_spin_0 : decode cX5_spin 0 = .ok (.aload_n 0, 1) := by decide +kernel
theorem dX5_spin_1 : decode cX5_spin 1 = .ok (.getfield 7, 3) := by decide +kernel
theorem dX5_spin_4 : decode cX5_spin 4 = .ok (.bipush 7, 2) := by decide +kernel
theorem dX5_spin_6 : decode cX5_spin 6 = .ok (.dup2, 1) := by decide +kernel
theorem dX5_spin_7 : decode cX5_spin 7 = .ok (.iaload, 1) := by decide +kernel
theorem dX5_spin_8 : decode cX5_spin 8 = .ok (.iconst 1, 1) := by decide +kernel
theorem dX5_spin_9 : decode cX5_spin 9 = .ok (.isub, 1) := by decide +kernel
theorem dX5_spin_10 : decode cX5_spin 10 = .ok (.iastore, 1) := by decide +kernel
theorem dX5_spin_11 : decode cX5_spin 11 = .ok (.aload_n 0, 1) := by decide +kernel
theorem dX5_spin_12 : decode cX5_spin 12 = .ok (.getfield 7, 3) := by decide +kernel
theorem dX5_spin_15 : decode cX5_spin 15 = .ok (.bipush 8, 2) := by decide +kernel
theorem dX5_spin_17 : decode cX5_spin 17 = .ok (.dup2, 1) := by decide +kernel
theorem dX5_spin_18 : decode cX5_spin 18 = .ok (.iaload, 1) := by decide +kernel
theorem dX5_spin_19 : decode cX5_spin 19 = .ok (.iconst 1, 1) := by decide +kernel
theorem dX5_spin_20 : decode cX5_spin 20 = .ok (.iadd, 1) := by decide +kernel
theorem dX5_spin_21 : decode cX5_spin 21 = .ok (.iastore, 1) := by decide +kernel
theorem dX5_spin_22 : decode cX5_spin 22 = .ok (.aload_n 0, 1) := by decide +kernel
theorem dX5_spin_23 : decode cX5_spin 23 = .ok (.getfield 7, 3) := by decide +kernel
theorem dX5_spin_26 : decode cX5_spin 26 = .ok (.bipush 11, 2) := by decide +kernel
theorem dX5_spin_28 : decode cX5_spin 28 = .ok (.iaload, 1) := by decide +kernel
theorem dX5_spin_29 : decode cX5_spin 29 = .ok (.ifCond .le 7, 3) := by decide +kernel
theorem dX5_spin_32 : decode cX5_spin 32 = .ok (.iconst 4, 1) := by decide +kernel
theorem dX5_spin_33 : decode cX5_spin 33 = .ok (.goto 5, 3) := by decide +kernel
theorem dX5_spin_36 : decode cX5_spin 36 = .ok (.bipush 8, 2) := by decide +kernel
theorem dX5_spin_38 : decode cX5_spin 38 = .ok (.istore_n 1, 1) := by decide +kernel
theorem dX5_spin_39 : decode cX5_spin 39 = .ok (.aload_n 0, 1) := by decide +kernel
theorem dX5_spin_40 : decode cX5_spin 40 = .ok (.getfield 7, 3) := by decide +kernel
theorem dX5_spin_43 : decode cX5_spin 43 = .ok (.bipush 11, 2) := by decide +kernel
theorem dX5_spin_45 : decode cX5_spin 45 = .ok (.dup2, 1) := by decide +kernel
theorem dX5_spin_46 : decode cX5_spin 46 = .ok (.iaload, 1) := by decide +kernel
theorem dX5_spin_47 : decode cX5_spin 47 = .ok (.aload_n 0, 1) := by decide +kernel
theorem dX5_spin_48 : decode cX5_spin 48 = .ok (.getfield 7, 3) := by decide +kernel
theorem dX5_spin_51 : decode cX5_spin 51 = .ok (.bipush 11, 2) := by decide +kernel
theorem dX5_spin_53 : decode cX5_spin 53 = .ok (.iaload, 1) := by decide +kernel
theorem dX5_spin_54 : decode cX5_spin 54 = .ok (.ifCond .le 7, 3) := by decide +kernel
theorem dX5_spin_57 : decode cX5_spin 57 = .ok (.iconst 1, 1) := by decide +kernel
theorem dX5_spin_58 : decode cX5_spin 58 = .ok (.goto 4, 3) := by decide +kernel
theorem dX5_spin_61 : decode cX5_spin 61 = .ok (.iconst 0, 1) := by decide +kernel
theorem dX5_spin_62 : decode cX5_spin 62 = .ok (.isub, 1) := by decide +kernel
theorem dX5_spin_63 : decode cX5_spin 63 = .ok (.iastore, 1) := by decide +kernel
theorem dX5_spin_64 : decode cX5_spin 64 = .ok (.iconst 0, 1) := by decide +kernel
theorem dX5_spin_65 : decode cX5_spin 65 = .ok (.istore_n 2, 1) := by decide +kernel
theorem dX5_spin_66 : decode cX5_spin 66 = .ok (.iload_n 2, 1) := by decide +kernel
theorem dX5_spin_67 : decode cX5_spin 67 = .ok (.iconst 3, 1) := by decide +kernel
theorem dX5_spin_68 : decode cX5_spin 68 = .ok (.if_icmp .ge 23, 3) := by decide +kernel
theorem dX5_spin_71 : decode cX5_spin 71 = .ok (.aload_n 0, 1) := by decide +kernel
theorem dX5_spin_72 : decode cX5_spin 72 = .ok (.getfield 7, 3) := by decide +kernel
theorem dX5_spin_75 : decode cX5_spin 75 = .ok (.bipush 17, 2) := by decide +kernel
theorem dX5_spin_77 : decode cX5_spin 77 = .ok (.iload_n 2, 1) := by decide +kernel
theorem dX5_spin_78 : decode cX5_spin 78 = .ok (.iadd, 1) := by decide +kernel
theorem dX5_spin_79 : decode cX5_spin 79 = .ok (.aload_n 0, 1) := by decide +kernel
theorem dX5_spin_80 : decode cX5_spin 80 = .ok (.iload_n 1, 1) := by decide +kernel
theorem dX5_spin_81 : decode cX5_spin 81 = .ok (.invokevirtual 82, 3) := by decide +kernel
theorem dX5_spin_84 : decode cX5_spin 84 = .ok (.iastore, 1) := by decide +kernel
theorem dX5_spin_85 : decode cX5_spin 85 = .ok (.iinc 2 1, 3) := by decide +kernel
theorem dX5_spin_88 : decode cX5_spin 88 = .ok (.goto (-22), 3) := by decide +kernel
theorem dX5_spin_91 : decode cX5_spin 91 = .ok (.aload_n 0, 1) := by decide +kernel
theorem dX5_spin_92 : decode cX5_spin 92 = .ok (.getfield 7, 3) := by decide +kernel
theorem dX5_spin_95 : decode cX5_spin 95 = .ok (.bipush 10, 2) := by decide +kernel
theorem dX5_spin_97 : decode cX5_spin 97 = .ok (.iconst 0, 1) := by decide +kernel
theorem dX5_spin_98 : decode cX5_spin 98 = .ok (.iastore, 1) := by decide +kernel
theorem dX5_spin_99 : decode cX5_spin 99 = .ok (.aload_n 0, 1) := by decide +kernel
theorem dX5_spin_100 : decode cX5_spin 100 = .ok (.getfield 7, 3) := by decide +kernel
theorem dX5_spin_103 : decode cX5_spin 103 = .ok (.bipush 17, 2) := by decide +kernel
theorem dX5_spin_105 : decode cX5_spin 105 = .ok (.iaload, 1) := by decide +kernel
theorem dX5_spin_106 : decode cX5_spin 106 = .ok (.aload_n 0, 1) := by decide +kernel
theorem dX5_spin_107 : decode cX5_spin 107 = .ok (.getfield 7, 3) := by decide +kernel
end
section
theorem dX5_spin_110 : decode cX5_spin 110 = .ok (.bipush 18, 2) := by decide +kernel
theorem dX5_spin_112 : decode cX5_spin 112 = .ok (.iaload, 1) := by decide +kernel
theorem dX5_spin_113 : decode cX5_spin 113 = .ok (.if_icmp .ne 59, 3) := by decide +kernel
theorem dX5_spin_116 : decode cX5_spin 116 = .ok (.aload_n 0, 1) := by decide +kernel
theorem dX5_spin_117 : decode cX5_spin 117 = .ok (.getfield 7, 3) := by decide +kernel
theorem dX5_spin_120 : decode cX5_spin 120 = .ok (.bipush 17, 2) := by decide +kernel
theorem dX5_spin_122 : decode cX5_spin 122 = .ok (.iaload, 1) := by decide +kernel
theorem dX5_spin_123 : decode cX5_spin 123 = .ok (.aload_n 0, 1) := by decide +kernel
theorem dX5_spin_124 : decode cX5_spin 124 = .ok (.getfield 7, 3) := by decide +kernel
theorem dX5_spin_127 : decode cX5_spin 127 = .ok (.bipush 19, 2) := by decide +kernel
theorem dX5_spin_129 : decode cX5_spin 129 = .ok (.iaload, 1) := by decide +kernel
theorem dX5_spin_130 : decode cX5_spin 130 = .ok (.if_icmp .ne 42, 3) := by decide +kernel
theorem dX5_spin_133 : decode cX5_spin 133 = .ok (.aload_n 0, 1) := by decide +kernel
theorem dX5_spin_134 : decode cX5_spin 134 = .ok (.getfield 7, 3) := by decide +kernel
theorem dX5_spin_137 : decode cX5_spin 137 = .ok (.bipush 10, 2) := by decide +kernel
theorem dX5_spin_139 : decode cX5_spin 139 = .ok (.aload_n 0, 1) := by decide +kernel
theorem dX5_spin_140 : decode cX5_spin 140 = .ok (.getfield 7, 3) := by decide +kernel
theorem dX5_spin_143 : decode cX5_spin 143 = .ok (.bipush 14, 2) := by decide +kernel
theorem dX5_spin_145 : decode cX5_spin 145 = .ok (.iaload, 1) := by decide +kernel
theorem dX5_spin_146 : decode cX5_spin 146 = .ok (.iastore, 1) := by decide +kernel
theorem dX5_spin_147 : decode cX5_spin 147 = .ok (.aload_n 0, 1) := by decide +kernel
theorem dX5_spin_148 : decode cX5_spin 148 = .ok (.getfield 7, 3) := by decide +kernel
theorem dX5_spin_151 : decode cX5_spin 151 = .ok (.bipush 9, 2) := by decide +kernel
theorem dX5_spin_153 : decode cX5_spin 153 = .ok (.dup2, 1) := by decide +kernel
theorem dX5_spin_154 : decode cX5_spin 154 = .ok (.iaload, 1) := by decide +kernel
theorem dX5_spin_155 : decode cX5_spin 155 = .ok (.iconst 1, 1) := by decide +kernel
theorem dX5_spin_156 : decode cX5_spin 156 = .ok (.iadd, 1) := by decide +kernel
theorem dX5_spin_157 : decode cX5_spin 157 = .ok (.iastore, 1) := by decide +kernel
theorem dX5_spin_158 : decode cX5_spin 158 = .ok (.aload_n 0, 1) := by decide +kernel
theorem dX5_spin_159 : decode cX5_spin 159 = .ok (.getfield 7, 3) := by decide +kernel
theorem dX5_spin_162 : decode cX5_spin 162 = .ok (.bipush 11, 2) := by decide +kernel
theorem dX5_spin_164 : decode cX5_spin 164 = .ok (.aload_n 0, 1) := by decide +kernel
theorem dX5_spin_165 : decode cX5_spin 165 = .ok (.getfield 7, 3) := by decide +kernel
theorem dX5_spin_168 : decode cX5_spin 168 = .ok (.bipush 15, 2) := by decide +kernel
theorem dX5_spin_170 : decode cX5_spin 170 = .ok (.iaload, 1) := by decide +kernel
theorem dX5_spin_171 : decode cX5_spin 171 = .ok (.iastore, 1) := by decide +kernel
theorem dX5_spin_172 : decode cX5_spin 172 = .ok (.return_, 1) := by decide +kernel
theorem dX5_beside_0 : decode cX5_beside 0 = .ok (.iload_n 0, 1) := by decide +kernel
theorem dX5_beside_1 : decode cX5_beside 1 = .ok (.iload_n 1, 1) := by decide +kernel
theorem dX5_beside_2 : decode cX5_beside 2 = .ok (.iadd, 1) := by decide +kernel
theorem dX5_beside_3 : decode cX5_beside 3 = .ok (.invokestatic 61, 3) := by decide +kernel
theorem dX5_beside_6 : decode cX5_beside 6 = .ok (.ifCond .eq 9, 3) := by decide +kernel
theorem dX5_beside_9 : decode cX5_beside 9 = .ok (.iload_n 0, 1) := by decide +kernel
theorem dX5_beside_10 : decode cX5_beside 10 = .ok (.iload_n 1, 1) := by decide +kernel
theorem dX5_beside_11 : decode cX5_beside 11 = .ok (.iadd, 1) := by decide +kernel
theorem dX5_beside_12 : decode cX5_beside 12 = .ok (.goto 4, 3) := by decide +kernel
theorem dX5_beside_15 : decode cX5_beside 15 = .ok (.iload_n 0, 1) := by decide +kernel
theorem dX5_beside_16 : decode cX5_beside 16 = .ok (.ireturn, 1) := by decide +kernel
theorem dX5_fall_0 : decode cX5_fall 0 = .ok (.iload_n 1, 1) := by decide +kernel
theorem dX5_fall_1 : decode cX5_fall 1 = .ok (.istore_n 2, 1) := by decide +kernel
theorem dX5_fall_2 : decode cX5_fall 2 = .ok (.iconst 0, 1) := by decide +kernel
theorem dX5_fall_3 : decode cX5_fall 3 = .ok (.istore_n 3, 1) := by decide +kernel
theorem dX5_fall_4 : decode cX5_fall 4 = .ok (.iload_n 3, 1) := by decide +kernel
theorem dX5_fall_5 : decode cX5_fall 5 = .ok (.bipush 8, 2) := by decide +kernel
theorem dX5_fall_7 : decode cX5_fall 7 = .ok (.if_icmp .ge 60, 3) := by decide +kernel
theorem dX5_fall_10 : decode cX5_fall 10 = .ok (.bipush 7, 2) := by decide +kernel
theorem dX5_fall_12 : decode cX5_fall 12 = .ok (.iload_n 3, 1) := by decide +kernel
theorem dX5_fall_13 : decode cX5_fall 13 = .ok (.imul, 1) := by decide +kernel
theorem dX5_fall_14 : decode cX5_fall 14 = .ok (.iload_n 2, 1) := by decide +kernel
theorem dX5_fall_15 : decode cX5_fall 15 = .ok (.iadd, 1) := by decide +kernel
theorem dX5_fall_16 : decode cX5_fall 16 = .ok (.istore 4, 2) := by decide +kernel
theorem dX5_fall_18 : decode cX5_fall 18 = .ok (.aload_n 0, 1) := by decide +kernel
theorem dX5_fall_19 : decode cX5_fall 19 = .ok (.getfield 7, 3) := by decide +kernel
theorem dX5_fall_22 : decode cX5_fall 22 = .ok (.sipush 167, 3) := by decide +kernel
theorem dX5_fall_25 : decode cX5_fall 25 = .ok (.iload_n 3, 1) := by decide +kernel
theorem dX5_fall_26 : decode cX5_fall 26 = .ok (.iadd, 1) := by decide +kernel
theorem dX5_fall_27 : decode cX5_fall 27 = .ok (.iload 4, 2) := by decide +kernel
theorem dX5_fall_29 : decode cX5_fall 29 = .ok (.iastore, 1) := by decide +kernel
theorem dX5_fall_30 : decode cX5_fall 30 = .ok (.aload_n 0, 1) := by decide +kernel
theorem dX5_fall_31 : decode cX5_fall 31 = .ok (.iload 4, 2) := by decide +kernel
theorem dX5_fall_33 : decode cX5_fall 33 = .ok (.invokevirtual 53, 3) := by decide +kernel
theorem dX5_fall_36 : decode cX5_fall 36 = .ok (.istore 5, 2) := by decide +kernel
theorem dX5_fall_38 : decode cX5_fall 38 = .ok (.iload 5, 2) := by decide +kernel
theorem dX5_fall_40 : decode cX5_fall 40 = .ok (.ifCond .ne 14, 3) := by decide +kernel
theorem dX5_fall_43 : decode cX5_fall 43 = .ok (.iconst 2, 1) := by decide +kernel
theorem dX5_fall_44 : decode cX5_fall 44 = .ok (.aload_n 0, 1) := by decide +kernel
theorem dX5_fall_45 : decode cX5_fall 45 = .ok (.iconst 2, 1) := by decide +kernel
theorem dX5_fall_46 : decode cX5_fall 46 = .ok (.invokevirtual 82, 3) := by decide +kernel
theorem dX5_fall_49 : decode cX5_fall 49 = .ok (.imul, 1) := by decide +kernel
theorem dX5_fall_50 : decode cX5_fall 50 = .ok (.iconst 1, 1) := by decide +kernel
theorem dX5_fall_51 : decode cX5_fall 51 = .ok (.isub, 1) := by decide +kernel
theorem dX5_fall_52 : decode cX5_fall 52 = .ok (.istore 5, 2) := by decide +kernel
theorem dX5_fall_54 : decode cX5_fall 54 = .ok (.iload_n 2, 1) := by decide +kernel
theorem dX5_fall_55 : decode cX5_fall 55 = .ok (.iload 5, 2) := by decide +kernel
theorem dX5_fall_57 : decode cX5_fall 57 = .ok (.invokestatic 85, 3) := by decide +kernel
theorem dX5_fall_60 : decode cX5_fall 60 = .ok (.istore_n 2, 1) := by decide +kernel
theorem dX5_fall_61 : decode cX5_fall 61 = .ok (.iinc 3 1, 3) := by decide +kernel
theorem dX5_fall_64 : decode cX5_fall 64 = .ok (.goto (-60), 3) := by decide +kernel
theorem dX5_fall_67 : decode cX5_fall 67 = .ok (.iload_n 2, 1) := by decide +kernel
theorem dX5_fall_68 : decode cX5_fall 68 = .ok (.ireturn, 1) := by decide +kernel
theorem dX5_isOpen_0 : decode cX5_isOpen 0 = .ok (.aload_n 0, 1) := by decide +kernel
theorem dX5_isOpen_1 : decode cX5_isOpen 1 = .ok (.iload_n 1, 1) := by decide +kernel
theorem dX5_isOpen_2 : decode cX5_isOpen 2 = .ok (.iconst 0, 1) := by decide +kernel
theorem dX5_isOpen_3 : decode cX5_isOpen 3 = .ok (.invokevirtual 68, 3) := by decide +kernel
theorem dX5_isOpen_6 : decode cX5_isOpen 6 = .ok (.istore_n 2, 1) := by decide +kernel
theorem dX5_isOpen_7 : decode cX5_isOpen 7 = .ok (.iload_n 2, 1) := by decide +kernel
theorem dX5_isOpen_8 : decode cX5_isOpen 8 = .ok (.ifCond .eq 31, 3) := by decide +kernel
theorem dX5_isOpen_11 : decode cX5_isOpen 11 = .ok (.iload_n 2, 1) := by decide +kernel
theorem dX5_isOpen_12 : decode cX5_isOpen 12 = .ok (.iconst 1, 1) := by decide +kernel
theorem dX5_isOpen_13 : decode cX5_isOpen 13 = .ok (.if_icmp .ne 16, 3) := by decide +kernel
theorem dX5_isOpen_16 : decode cX5_isOpen 16 = .ok (.aload_n 0, 1) := by decide +kernel
theorem dX5_isOpen_17 : decode cX5_isOpen 17 = .ok (.getfield 7, 3) := by decide +kernel
theorem dX5_isOpen_20 : decode cX5_isOpen 20 = .ok (.bipush 10, 2) := by decide +kernel
theorem dX5_isOpen_22 : decode cX5_isOpen 22 = .ok (.iaload, 1) := by decide +kernel
theorem dX5_isOpen_23 : decode cX5_isOpen 23 = .ok (.ifCond .le 20, 3) := by decide +kernel
theorem dX5_isOpen_26 : decode cX5_isOpen 26 = .ok (.goto 13, 3) := by decide +kernel
theorem dX5_isOpen_29 : decode cX5_isOpen 29 = .ok (.aload_n 0, 1) := by decide +kernel
theorem dX5_isOpen_30 : decode cX5_isOpen 30 = .ok (.iload_n 1, 1) := by decide +kernel
theorem dX5_isOpen_31 : decode cX5_isOpen 31 = .ok (.iconst 2, 1) := by decide +kernel
theorem dX5_isOpen_32 : decode cX5_isOpen 32 = .ok (.invokevirtual 68, 3) := by decide +kernel
theorem dX5_isOpen_35 : decode cX5_isOpen 35 = .ok (.iconst 1, 1) := by decide +kernel
theorem dX5_isOpen_36 : decode cX5_isOpen 36 = .ok (.if_icmp .ne 7, 3) := by decide +kernel
theorem dX5_isOpen_39 : decode cX5_isOpen 39 = .ok (.iconst 1, 1) := by decide +kernel
theorem dX5_isOpen_40 : decode cX5_isOpen 40 = .ok (.goto 4, 3) := by decide +kernel
theorem dX5_isOpen_43 : decode cX5_isOpen 43 = .ok (.iconst 0, 1) := by decide +kernel
theorem dX5_isOpen_44 : decode cX5_isOpen 44 = .ok (.ireturn, 1) := by decide +kernel
theorem dX5_come_0 : decode cX5_come 0 = .ok (.aload_n 0, 1) := by decide +kernel
theorem dX5_come_1 : decode cX5_come 1 = .ok (.iload_n 1, 1) := by decide +kernel
theorem dX5_come_2 : decode cX5_come 2 = .ok (.invokevirtual 88, 3) := by decide +kernel
theorem dX5_come_5 : decode cX5_come 5 = .ok (.istore_n 2, 1) := by decide +kernel
theorem dX5_come_6 : decode cX5_come 6 = .ok (.aload_n 0, 1) := by decide +kernel
theorem dX5_come_7 : decode cX5_come 7 = .ok (.iload_n 1, 1) := by decide +kernel
theorem dX5_come_8 : decode cX5_come 8 = .ok (.iconst 0, 1) := by decide +kernel
theorem dX5_come_9 : decode cX5_come 9 = .ok (.invokevirtual 68, 3) := by decide +kernel
theorem dX5_come_12 : decode cX5_come 12 = .ok (.istore_n 3, 1) := by decide +kernel
theorem dX5_come_13 : decode cX5_come 13 = .ok (.iload_n 2, 1) := by decide +kernel
theorem dX5_come_14 : decode cX5_come 14 = .ok (.ifCond .eq 12, 3) := by decide +kernel
theorem dX5_come_17 : decode cX5_come 17 = .ok (.aload_n 0, 1) := by decide +kernel
theorem dX5_come_18 : decode cX5_come 18 = .ok (.iload_n 1, 1) := by decide +kernel
theorem dX5_come_19 : decode cX5_come 19 = .ok (.iconst 1, 1) := by decide +kernel
theorem dX5_come_20 : decode cX5_come 20 = .ok (.invokevirtual 68, 3) := by decide +kernel
theorem dX5_come_23 : decode cX5_come 23 = .ok (.goto 4, 3) := by decide +kernel
theorem dX5_come_26 : decode cX5_come 26 = .ok (.iconst 0, 1) := by decide +kernel
theorem dX5_come_27 : decode cX5_come 27 = .ok (.istore 4, 2) := by decide +kernel
theorem dX5_come_29 : decode cX5_come 29 = .ok (.iload_n 3, 1) := by decide +kernel
theorem dX5_come_30 : decode cX5_come 30 = .ok (.iconst 2, 1) := by decide +kernel
theorem dX5_come_31 : decode cX5_come 31 = .ok (.if_icmp .ne 18, 3) := by decide +kernel
theorem dX5_come_34 : decode cX5_come 34 = .ok (.aload_n 0, 1) := by decide +kernel
theorem dX5_come_35 : decode cX5_come 35 = .ok (.iload_n 1, 1) := by decide +kernel
theorem dX5_come_36 : decode cX5_come 36 = .ok (.iconst 2, 1) := by decide +kernel
theorem dX5_come_37 : decode cX5_come 37 = .ok (.iload_n 2, 1) := by decide +kernel
theorem dX5_come_38 : decode cX5_come 38 = .ok (.ifCond .eq 7, 3) := by decide +kernel
theorem dX5_come_41 : decode cX5_come 41 = .ok (.iconst 0, 1) := by decide +kernel
theorem dX5_come_42 : decode cX5_come 42 = .ok (.goto 4, 3) := by decide +kernel
theorem dX5_come_45 : decode cX5_come 45 = .ok (.iconst 1, 1) := by decide +kernel
theorem dX5_come_46 : decode cX5_come 46 = .ok (.invokevirtual 31, 3) := by decide +kernel
theorem dX5_come_49 : decode cX5_come 49 = .ok (.aload_n 0, 1) := by decide +kernel
theorem dX5_come_50 : decode cX5_come 50 = .ok (.getfield 7, 3) := by decide +kernel
theorem dX5_come_53 : decode cX5_come 53 = .ok (.bipush 10, 2) := by decide +kernel
theorem dX5_come_55 : decode cX5_come 55 = .ok (.dup2, 1) := by decide +kernel
theorem dX5_come_56 : decode cX5_come 56 = .ok (.iaload, 1) := by decide +kernel
theorem dX5_come_57 : decode cX5_come 57 = .ok (.iload_n 3, 1) := by decide +kernel
theorem dX5_come_58 : decode cX5_come 58 = .ok (.iconst 1, 1) := by decide +kernel
theorem dX5_come_59 : decode cX5_come 59 = .ok (.if_icmp .ne 11, 3) := by decide +kernel
theorem dX5_come_62 : decode cX5_come 62 = .ok (.iload_n 2, 1) := by decide +kernel
theorem dX5_come_63 : decode cX5_come 63 = .ok (.ifCond .eq 7, 3) := by decide +kernel
theorem dX5_come_66 : decode cX5_come 66 = .ok (.iconst 1, 1) := by decide +kernel
theorem dX5_come_67 : decode cX5_come 67 = .ok (.goto 4, 3) := by decide +kernel
theorem dX5_come_70 : decode cX5_come 70 = .ok (.iconst 0, 1) := by decide +kernel
theorem dX5_come_71 : decode cX5_come 71 = .ok (.isub, 1) := by decide +kernel
theorem dX5_come_72 : decode cX5_come 72 = .ok (.iastore, 1) := by decide +kernel
theorem dX5_come_73 : decode cX5_come 73 = .ok (.aload_n 0, 1) := by decide +kernel
theorem dX5_come_74 : decode cX5_come 74 = .ok (.getfield 7, 3) := by decide +kernel
theorem dX5_come_77 : decode cX5_come 77 = .ok (.iconst 5, 1) := by decide +kernel
theorem dX5_come_78 : decode cX5_come 78 = .ok (.dup2, 1) := by decide +kernel
theorem dX5_come_79 : decode cX5_come 79 = .ok (.iaload, 1) := by decide +kernel
theorem dX5_come_80 : decode cX5_come 80 = .ok (.iload_n 2, 1) := by decide +kernel
theorem dX5_come_81 : decode cX5_come 81 = .ok (.ifCond .eq 7, 3) := by decide +kernel
theorem dX5_come_84 : decode cX5_come 84 = .ok (.iconst 0, 1) := by decide +kernel
theorem dX5_come_85 : decode cX5_come 85 = .ok (.goto 4, 3) := by decide +kernel
theorem dX5_come_88 : decode cX5_come 88 = .ok (.iconst 1, 1) := by decide +kernel
theorem dX5_come_89 : decode cX5_come 89 = .ok (.iadd, 1) := by decide +kernel
theorem dX5_come_90 : decode cX5_come 90 = .ok (.iastore, 1) := by decide +kernel
theorem dX5_come_91 : decode cX5_come 91 = .ok (.aload_n 0, 1) := by decide +kernel
theorem dX5_come_92 : decode cX5_come 92 = .ok (.getfield 7, 3) := by decide +kernel
theorem dX5_come_95 : decode cX5_come 95 = .ok (.bipush 6, 2) := by decide +kernel
theorem dX5_come_97 : decode cX5_come 97 = .ok (.dup2, 1) := by decide +kernel
theorem dX5_come_98 : decode cX5_come 98 = .ok (.iaload, 1) := by decide +kernel
theorem dX5_come_99 : decode cX5_come 99 = .ok (.iload_n 2, 1) := by decide +kernel
theorem dX5_come_100 : decode cX5_come 100 = .ok (.ifCond .eq 12, 3) := by decide +kernel
theorem dX5_come_103 : decode cX5_come 103 = .ok (.iload 4, 2) := by decide +kernel
theorem dX5_come_105 : decode cX5_come 105 = .ok (.ifCond .ne 7, 3) := by decide +kernel
theorem dX5_come_108 : decode cX5_come 108 = .ok (.iconst 1, 1) := by decide +kernel
theorem dX5_come_109 : decode cX5_come 109 = .ok (.goto 4, 3) := by decide +kernel
theorem dX5_come_112 : decode cX5_come 112 = .ok (.iconst 0, 1) := by decide +kernel
theorem dX5_come_113 : decode cX5_come 113 = .ok (.iadd, 1) := by decide +kernel
theorem dX5_come_114 : decode cX5_come 114 = .ok (.iastore, 1) := by decide +kernel
theorem dX5_come_115 : decode cX5_come 115 = .ok (.aload_n 0, 1) := by decide +kernel
theorem dX5_come_116 : decode cX5_come 116 = .ok (.getfield 7, 3) := by decide +kernel
theorem dX5_come_119 : decode cX5_come 119 = .ok (.iconst 4, 1) := by decide +kernel
theorem dX5_come_120 : decode cX5_come 120 = .ok (.dup2, 1) := by decide +kernel
theorem dX5_come_121 : decode cX5_come 121 = .ok (.iaload, 1) := by decide +kernel
theorem dX5_come_122 : decode cX5_come 122 = .ok (.iload 4, 2) := by decide +kernel
theorem dX5_come_124 : decode cX5_come 124 = .ok (.iadd, 1) := by decide +kernel
theorem dX5_come_125 : decode cX5_come 125 = .ok (.iastore, 1) := by decide +kernel
theorem dX5_come_126 : decode cX5_come 126 = .ok (.aload_n 0, 1) := by decide +kernel
theorem dX5_come_127 : decode cX5_come 127 = .ok (.getfield 7, 3) := by decide +kernel
theorem dX5_come_130 : decode cX5_come 130 = .ok (.iconst 1, 1) := by decide +kernel
theorem dX5_come_131 : decode cX5_come 131 = .ok (.dup2, 1) := by decide +kernel
theorem dX5_come_132 : decode cX5_come 132 = .ok (.iaload, 1) := by decide +kernel
theorem dX5_come_133 : decode cX5_come 133 = .ok (.iload 4, 2) := by decide +kernel
theorem dX5_come_135 : decode cX5_come 135 = .ok (.iadd, 1) := by decide +kernel
theorem dX5_come_136 : decode cX5_come 136 = .ok (.iastore, 1) := by decide +kernel
theorem dX5_come_137 : decode cX5_come 137 = .ok (.aload_n 0, 1) := by decide +kernel
theorem dX5_come_138 : decode cX5_come 138 = .ok (.iload_n 1, 1) := by decide +kernel
theorem dX5_come_139 : decode cX5_come 139 = .ok (.iconst 3, 1) := by decide +kernel
theorem dX5_come_140 : decode cX5_come 140 = .ok (.aload_n 0, 1) := by decide +kernel
theorem dX5_come_141 : decode cX5_come 141 = .ok (.iload_n 1, 1) := by decide +kernel
theorem dX5_come_142 : decode cX5_come 142 = .ok (.iconst 3, 1) := by decide +kernel
theorem dX5_come_143 : decode cX5_come 143 = .ok (.invokevirtual 68, 3) := by decide +kernel
theorem dX5_come_146 : decode cX5_come 146 = .ok (.iconst 1, 1) := by decide +kernel
theorem dX5_come_147 : decode cX5_come 147 = .ok (.iadd, 1) := by decide +kernel
theorem dX5_come_148 : decode cX5_come 148 = .ok (.invokevirtual 31, 3) := by decide +kernel
theorem dX5_come_151 : decode cX5_come 151 = .ok (.aload_n 0, 1) := by decide +kernel
theorem dX5_come_152 : decode cX5_come 152 = .ok (.iload_n 1, 1) := by decide +kernel
theorem dX5_come_153 : decode cX5_come 153 = .ok (.iconst 4, 1) := by decide +kernel
theorem dX5_come_154 : decode cX5_come 154 = .ok (.aload_n 0, 1) := by decide +kernel
theorem dX5_come_155 : decode cX5_come 155 = .ok (.iload_n 1, 1) := by decide +kernel
theorem dX5_come_156 : decode cX5_come 156 = .ok (.iconst 4, 1) := by decide +kernel
theorem dX5_come_157 : decode cX5_come 157 = .ok (.invokevirtual 68, 3) := by decide +kernel
theorem dX5_come_160 : decode cX5_come 160 = .ok (.iload 4, 2) := by decide +kernel
theorem dX5_come_162 : decode cX5_come 162 = .ok (.iadd, 1) := by decide +kernel
theorem dX5_come_163 : decode cX5_come 163 = .ok (.invokevirtual 31, 3) := by decide +kernel
theorem dX5_come_166 : decode cX5_come 166 = .ok (.aload_n 0, 1) := by decide +kernel
theorem dX5_come_167 : decode cX5_come 167 = .ok (.getfield 7, 3) := by decide +kernel
theorem dX5_come_170 : decode cX5_come 170 = .ok (.bipush 12, 2) := by decide +kernel
theorem dX5_come_172 : decode cX5_come 172 = .ok (.iload_n 1, 1) := by decide +kernel
theorem dX5_come_173 : decode cX5_come 173 = .ok (.iastore, 1) := by decide +kernel
theorem dX5_come_174 : decode cX5_come 174 = .ok (.iload 4, 2) := by decide +kernel
theorem dX5_come_176 : decode cX5_come 176 = .ok (.ireturn, 1) := by decide +kernel
theorem dX5_doLaunch_0 : decode cX5_doLaunch 0 = .ok (.aload_n 0, 1) := by decide +kernel
theorem dX5_doLaunch_1 : decode cX5_doLaunch 1 = .ok (.getfield 7, 3) := by decide +kernel
theorem dX5_doLaunch_4 : decode cX5_doLaunch 4 = .ok (.iconst 1, 1) := by decide +kernel
theorem dX5_doLaunch_5 : decode cX5_doLaunch 5 = .ok (.dup2, 1) := by decide +kernel
theorem dX5_doLaunch_6 : decode cX5_doLaunch 6 = .ok (.iaload, 1) := by decide +kernel
theorem dX5_doLaunch_7 : decode cX5_doLaunch 7 = .ok (.iconst 1, 1) := by decide +kernel
theorem dX5_doLaunch_8 : decode cX5_doLaunch 8 = .ok (.isub, 1) := by decide +kernel
theorem dX5_doLaunch_9 : decode cX5_doLaunch 9 = .ok (.iastore, 1) := by decide +kernel
theorem dX5_doLaunch_10 : decode cX5_doLaunch 10 = .ok (.aload_n 0, 1) := by decide +kernel
theorem dX5_doLaunch_11 : decode cX5_doLaunch 11 = .ok (.getfield 7, 3) := by decide +kernel
theorem dX5_doLaunch_14 : decode cX5_doLaunch 14 = .ok (.iconst 3, 1) := by decide +kernel
theorem dX5_doLaunch_15 : decode cX5_doLaunch 15 = .ok (.dup2, 1) := by decide +kernel
theorem dX5_doLaunch_16 : decode cX5_doLaunch 16 = .ok (.iaload, 1) := by decide +kernel
theorem dX5_doLaunch_17 : decode cX5_doLaunch 17 = .ok (.iconst 1, 1) := by decide +kernel
theorem dX5_doLaunch_18 : decode cX5_doLaunch 18 = .ok (.iadd, 1) := by decide +kernel
theorem dX5_doLaunch_19 : decode cX5_doLaunch 19 = .ok (.iastore, 1) := by decide +kernel
theorem dX5_doLaunch_20 : decode cX5_doLaunch 20 = .ok (.aload_n 0, 1) := by decide +kernel
theorem dX5_doLaunch_21 : decode cX5_doLaunch 21 = .ok (.getfield 7, 3) := by decide +kernel
theorem dX5_doLaunch_24 : decode cX5_doLaunch 24 = .ok (.bipush 7, 2) := by decide +kernel
theorem dX5_doLaunch_26 : decode cX5_doLaunch 26 = .ok (.iaload, 1) := by decide +kernel
theorem dX5_doLaunch_27 : decode cX5_doLaunch 27 = .ok (.ifCond .le 17, 3) := by decide +kernel
theorem dX5_doLaunch_30 : decode cX5_doLaunch 30 = .ok (.aload_n 0, 1) := by decide +kernel
theorem dX5_doLaunch_31 : decode cX5_doLaunch 31 = .ok (.getfield 7, 3) := by decide +kernel
theorem dX5_doLaunch_34 : decode cX5_doLaunch 34 = .ok (.bipush 10, 2) := by decide +kernel
theorem dX5_doLaunch_36 : decode cX5_doLaunch 36 = .ok (.iaload, 1) := by decide +kernel
theorem dX5_doLaunch_37 : decode cX5_doLaunch 37 = .ok (.ifCond .ne 7, 3) := by decide +kernel
theorem dX5_doLaunch_40 : decode cX5_doLaunch 40 = .ok (.aload_n 0, 1) := by decide +kernel
theorem dX5_doLaunch_41 : decode cX5_doLaunch 41 = .ok (.invokevirtual 91, 3) := by decide +kernel
theorem dX5_doLaunch_44 : decode cX5_doLaunch 44 = .ok (.aload_n 0, 1) := by decide +kernel
theorem dX5_doLaunch_45 : decode cX5_doLaunch 45 = .ok (.iload_n 1, 1) := by decide +kernel
theorem dX5_doLaunch_46 : decode cX5_doLaunch 46 = .ok (.invokevirtual 94, 3) := by decide +kernel
theorem dX5_doLaunch_49 : decode cX5_doLaunch 49 = .ok (.istore_n 2, 1) := by decide +kernel
theorem dX5_doLaunch_50 : decode cX5_doLaunch 50 = .ok (.aload_n 0, 1) := by decide +kernel
theorem dX5_doLaunch_51 : decode cX5_doLaunch 51 = .ok (.iload_n 2, 1) := by decide +kernel
theorem dX5_doLaunch_52 : decode cX5_doLaunch 52 = .ok (.invokevirtual 97, 3) := by decide +kernel
theorem dX5_doLaunch_55 : decode cX5_doLaunch 55 = .ok (.istore_n 3, 1) := by decide +kernel
theorem dX5_doLaunch_56 : decode cX5_doLaunch 56 = .ok (.aload_n 0, 1) := by decide +kernel
theorem dX5_doLaunch_57 : decode cX5_doLaunch 57 = .ok (.getfield 7, 3) := by decide +kernel
theorem dX5_doLaunch_60 : decode cX5_doLaunch 60 = .ok (.bipush 7, 2) := by decide +kernel
theorem dX5_doLaunch_62 : decode cX5_doLaunch 62 = .ok (.dup2, 1) := by decide +kernel
theorem dX5_doLaunch_63 : decode cX5_doLaunch 63 = .ok (.iaload, 1) := by decide +kernel
theorem dX5_doLaunch_64 : decode cX5_doLaunch 64 = .ok (.iload_n 2, 1) := by decide +kernel
theorem dX5_doLaunch_65 : decode cX5_doLaunch 65 = .ok (.aload_n 0, 1) := by decide +kernel
theorem dX5_doLaunch_66 : decode cX5_doLaunch 66 = .ok (.getfield 7, 3) := by decide +kernel
theorem dX5_doLaunch_69 : decode cX5_doLaunch 69 = .ok (.bipush 13, 2) := by decide +kernel
theorem dX5_doLaunch_71 : decode cX5_doLaunch 71 = .ok (.iaload, 1) := by decide +kernel
theorem dX5_doLaunch_72 : decode cX5_doLaunch 72 = .ok (.if_icmp .ne 18, 3) := by decide +kernel
theorem dX5_doLaunch_75 : decode cX5_doLaunch 75 = .ok (.aload_n 0, 1) := by decide +kernel
theorem dX5_doLaunch_76 : decode cX5_doLaunch 76 = .ok (.getfield 7, 3) := by decide +kernel
theorem dX5_doLaunch_79 : decode cX5_doLaunch 79 = .ok (.bipush 7, 2) := by decide +kernel
theorem dX5_doLaunch_81 : decode cX5_doLaunch 81 = .ok (.iaload, 1) := by decide +kernel
theorem dX5_doLaunch_82 : decode cX5_doLaunch 82 = .ok (.iconst 4, 1) := by decide +kernel
theorem dX5_doLaunch_83 : decode cX5_doLaunch 83 = .ok (.if_icmp .ge 7, 3) := by decide +kernel
theorem dX5_doLaunch_86 : decode cX5_doLaunch 86 = .ok (.iconst 1, 1) := by decide +kernel
theorem dX5_doLaunch_87 : decode cX5_doLaunch 87 = .ok (.goto 4, 3) := by decide +kernel
theorem dX5_doLaunch_90 : decode cX5_doLaunch 90 = .ok (.iconst 0, 1) := by decide +kernel
theorem dX5_doLaunch_91 : decode cX5_doLaunch 91 = .ok (.iadd, 1) := by decide +kernel
theorem dX5_doLaunch_92 : decode cX5_doLaunch 92 = .ok (.iastore, 1) := by decide +kernel
theorem dX5_doLaunch_93 : decode cX5_doLaunch 93 = .ok (.iload_n 3, 1) := by decide +kernel
theorem dX5_doLaunch_94 : decode cX5_doLaunch 94 = .ok (.ireturn, 1) := by decide +kernel
theorem dX5_buy_0 : decode cX5_buy 0 = .ok (.aload_n 0, 1) := by decide +kernel
theorem dX5_buy_1 : decode cX5_buy 1 = .ok (.iload_n 1, 1) := by decide +kernel
theorem dX5_buy_2 : decode cX5_buy 2 = .ok (.iconst 1, 1) := by decide +kernel
theorem dX5_buy_3 : decode cX5_buy 3 = .ok (.bipush 99, 2) := by decide +kernel
theorem dX5_buy_5 : decode cX5_buy 5 = .ok (.invokestatic 39, 3) := by decide +kernel
theorem dX5_buy_8 : decode cX5_buy 8 = .ok (.ifCond .eq 7, 3) := by decide +kernel
theorem dX5_buy_11 : decode cX5_buy 11 = .ok (.iconst 0, 1) := by decide +kernel
theorem dX5_buy_12 : decode cX5_buy 12 = .ok (.goto 4, 3) := by decide +kernel
theorem dX5_buy_15 : decode cX5_buy 15 = .ok (.iconst 1, 1) := by decide +kernel
theorem dX5_buy_16 : decode cX5_buy 16 = .ok (.putfield 35, 3) := by decide +kernel
theorem dX5_buy_19 : decode cX5_buy 19 = .ok (.aload_n 0, 1) := by decide +kernel
theorem dX5_buy_20 : decode cX5_buy 20 = .ok (.getfield 35, 3) := by decide +kernel
theorem dX5_buy_23 : decode cX5_buy 23 = .ok (.ifCond .le 5, 3) := by decide +kernel
theorem dX5_buy_26 : decode cX5_buy 26 = .ok (.iconst 0, 1) := by decide +kernel
theorem dX5_buy_27 : decode cX5_buy 27 = .ok (.ireturn, 1) := by decide +kernel
theorem dX5_buy_28 : decode cX5_buy 28 = .ok (.aload_n 0, 1) := by decide +kernel
theorem dX5_buy_29 : decode cX5_buy 29 = .ok (.invokevirtual 50, 3) := by decide +kernel
theorem dX5_buy_32 : decode cX5_buy 32 = .ok (.aload_n 0, 1) := by decide +kernel
theorem dX5_buy_33 : decode cX5_buy 33 = .ok (.iload_n 1, 1) := by decide +kernel
theorem dX5_buy_34 : decode cX5_buy 34 = .ok (.invokevirtual 100, 3) := by decide +kernel
theorem dX5_buy_37 : decode cX5_buy 37 = .ok (.ireturn, 1) := by decide +kernel
theorem dX5_doBuy_0 : decode cX5_doBuy 0 = .ok (.aload_n 0, 1) := by decide +kernel
theorem dX5_doBuy_1 : decode cX5_doBuy 1 = .ok (.getfield 7, 3) := by decide +kernel
theorem dX5_doBuy_4 : decode cX5_doBuy 4 = .ok (.iconst 1, 1) := by decide +kernel
theorem dX5_doBuy_5 : decode cX5_doBuy 5 = .ok (.dup2, 1) := by decide +kernel
theorem dX5_doBuy_6 : decode cX5_doBuy 6 = .ok (.iaload, 1) := by decide +kernel
theorem dX5_doBuy_7 : decode cX5_doBuy 7 = .ok (.iload_n 1, 1) := by decide +kernel
theorem dX5_doBuy_8 : decode cX5_doBuy 8 = .ok (.iadd, 1) := by decide +kernel
theorem dX5_doBuy_9 : decode cX5_doBuy 9 = .ok (.iastore, 1) := by decide +kernel
theorem dX5_doBuy_10 : decode cX5_doBuy 10 = .ok (.aload_n 0, 1) := by decide +kernel
theorem dX5_doBuy_11 : decode cX5_doBuy 11 = .ok (.getfield 7, 3) := by decide +kernel
theorem dX5_doBuy_14 : decode cX5_doBuy 14 = .ok (.iconst 2, 1) := by decide +kernel
theorem dX5_doBuy_15 : decode cX5_doBuy 15 = .ok (.dup2, 1) := by decide +kernel
theorem dX5_doBuy_16 : decode cX5_doBuy 16 = .ok (.iaload, 1) := by decide +kernel
theorem dX5_doBuy_17 : decode cX5_doBuy 17 = .ok (.iload_n 1, 1) := by decide +kernel
theorem dX5_doBuy_18 : decode cX5_doBuy 18 = .ok (.iadd, 1) := by decide +kernel
theorem dX5_doBuy_19 : decode cX5_doBuy 19 = .ok (.iastore, 1) := by decide +kernel
theorem dX5_doBuy_20 : decode cX5_doBuy 20 = .ok (.aload_n 0, 1) := by decide +kernel
theorem dX5_doBuy_21 : decode cX5_doBuy 21 = .ok (.getfield 7, 3) := by decide +kernel
theorem dX5_doBuy_24 : decode cX5_doBuy 24 = .ok (.iconst 1, 1) := by decide +kernel
theorem dX5_doBuy_25 : decode cX5_doBuy 25 = .ok (.iaload, 1) := by decide +kernel
theorem dX5_doBuy_26 : decode cX5_doBuy 26 = .ok (.ireturn, 1) := by decide +kernel
theorem dX5_launch_0 : decode cX5_launch 0 = .ok (.aload_n 0, 1) := by decide +kernel
theorem dX5_launch_1 : decode cX5_launch 1 = .ok (.iload_n 1, 1) := by decide +kernel
theorem dX5_launch_2 : decode cX5_launch 2 = .ok (.invokestatic 61, 3) := by decide +kernel
theorem dX5_launch_5 : decode cX5_launch 5 = .ok (.ifCond .ne 7, 3) := by decide +kernel
theorem dX5_launch_8 : decode cX5_launch 8 = .ok (.iconst 1, 1) := by decide +kernel
theorem dX5_launch_9 : decode cX5_launch 9 = .ok (.goto 17, 3) := by decide +kernel
theorem dX5_launch_12 : decode cX5_launch 12 = .ok (.aload_n 0, 1) := by decide +kernel
theorem dX5_launch_13 : decode cX5_launch 13 = .ok (.getfield 7, 3) := by decide +kernel
theorem dX5_launch_16 : decode cX5_launch 16 = .ok (.iconst 1, 1) := by decide +kernel
theorem dX5_launch_17 : decode cX5_launch 17 = .ok (.iaload, 1) := by decide +kernel
theorem dX5_launch_18 : decode cX5_launch 18 = .ok (.ifCond .ne 7, 3) := by decide +kernel
theorem dX5_launch_21 : decode cX5_launch 21 = .ok (.iconst 2, 1) := by decide +kernel
theorem dX5_launch_22 : decode cX5_launch 22 = .ok (.goto 4, 3) := by decide +kernel
theorem dX5_launch_25 : decode cX5_launch 25 = .ok (.iconst 0, 1) := by decide +kernel
theorem dX5_launch_26 : decode cX5_launch 26 = .ok (.putfield 35, 3) := by decide +kernel
theorem dX5_launch_29 : decode cX5_launch 29 = .ok (.aload_n 0, 1) := by decide +kernel
theorem dX5_launch_30 : decode cX5_launch 30 = .ok (.getfield 35, 3) := by decide +kernel
theorem dX5_launch_33 : decode cX5_launch 33 = .ok (.ifCond .le 5, 3) := by decide +kernel
theorem dX5_launch_36 : decode cX5_launch 36 = .ok (.iconst 0, 1) := by decide +kernel
theorem dX5_launch_37 : decode cX5_launch 37 = .ok (.ireturn, 1) := by decide +kernel
theorem dX5_launch_38 : decode cX5_launch 38 = .ok (.aload_n 0, 1) := by decide +kernel
theorem dX5_launch_39 : decode cX5_launch 39 = .ok (.invokevirtual 50, 3) := by decide +kernel
theorem dX5_launch_42 : decode cX5_launch 42 = .ok (.aload_n 0, 1) := by decide +kernel
theorem dX5_launch_43 : decode cX5_launch 43 = .ok (.iload_n 1, 1) := by decide +kernel
theorem dX5_launch_44 : decode cX5_launch 44 = .ok (.invokevirtual 103, 3) := by decide +kernel
theorem dX5_launch_47 : decode cX5_launch 47 = .ok (.pop, 1) := by decide +kernel
theorem dX5_launch_48 : decode cX5_launch 48 = .ok (.aload_n 0, 1) := by decide +kernel
theorem dX5_launch_49 : decode cX5_launch 49 = .ok (.getfield 7, 3) := by decide +kernel
theorem dX5_launch_52 : decode cX5_launch 52 = .ok (.bipush 12, 2) := by decide +kernel
theorem dX5_launch_54 : decode cX5_launch 54 = .ok (.iaload, 1) := by decide +kernel
theorem dX5_launch_55 : decode cX5_launch 55 = .ok (.ireturn, 1) := by decide +kernel
theorem dX5_doPlay_0 : decode cX5_doPlay 0 = .ok (.iconst 0, 1) := by decide +kernel
theorem dX5_doPlay_1 : decode cX5_doPlay 1 = .ok (.istore_n 3, 1) := by decide +kernel
theorem dX5_doPlay_2 : decode cX5_doPlay 2 = .ok (.iconst 0, 1) := by decide +kernel
theorem dX5_doPlay_3 : decode cX5_doPlay 3 = .ok (.istore 4, 2) := by decide +kernel
theorem dX5_doPlay_5 : decode cX5_doPlay 5 = .ok (.iload 4, 2) := by decide +kernel
theorem dX5_doPlay_7 : decode cX5_doPlay 7 = .ok (.iload_n 2, 1) := by decide +kernel
theorem dX5_doPlay_8 : decode cX5_doPlay 8 = .ok (.if_icmp .ge 26, 3) := by decide +kernel
theorem dX5_doPlay_11 : decode cX5_doPlay 11 = .ok (.aload_n 0, 1) := by decide +kernel
theorem dX5_doPlay_12 : decode cX5_doPlay 12 = .ok (.getfield 7, 3) := by decide +kernel
theorem dX5_doPlay_15 : decode cX5_doPlay 15 = .ok (.iconst 1, 1) := by decide +kernel
theorem dX5_doPlay_16 : decode cX5_doPlay 16 = .ok (.iaload, 1) := by decide +kernel
theorem dX5_doPlay_17 : decode cX5_doPlay 17 = .ok (.ifCond .le 17, 3) := by decide +kernel
theorem dX5_doPlay_20 : decode cX5_doPlay 20 = .ok (.iload_n 3, 1) := by decide +kernel
theorem dX5_doPlay_21 : decode cX5_doPlay 21 = .ok (.aload_n 0, 1) := by decide +kernel
theorem dX5_doPlay_22 : decode cX5_doPlay 22 = .ok (.iload_n 1, 1) := by decide +kernel
theorem dX5_doPlay_23 : decode cX5_doPlay 23 = .ok (.invokevirtual 103, 3) := by decide +kernel
theorem dX5_doPlay_26 : decode cX5_doPlay 26 = .ok (.iadd, 1) := by decide +kernel
theorem dX5_doPlay_27 : decode cX5_doPlay 27 = .ok (.istore_n 3, 1) := by decide +kernel
theorem dX5_doPlay_28 : decode cX5_doPlay 28 = .ok (.iinc 4 1, 3) := by decide +kernel
theorem dX5_doPlay_31 : decode cX5_doPlay 31 = .ok (.goto (-26), 3) := by decide +kernel
theorem dX5_doPlay_34 : decode cX5_doPlay 34 = .ok (.iload_n 3, 1) := by decide +kernel
theorem dX5_doPlay_35 : decode cX5_doPlay 35 = .ok (.ireturn, 1) := by decide +kernel
theorem dX5_play_0 : decode cX5_play 0 = .ok (.aload_n 0, 1) := by decide +kernel
theorem dX5_play_1 : decode cX5_play 1 = .ok (.iload_n 1, 1) := by decide +kernel
theorem dX5_play_2 : decode cX5_play 2 = .ok (.invokestatic 61, 3) := by decide +kernel
theorem dX5_play_5 : decode cX5_play 5 = .ok (.ifCond .ne 7, 3) := by decide +kernel
theorem dX5_play_8 : decode cX5_play 8 = .ok (.iconst 1, 1) := by decide +kernel
theorem dX5_play_9 : decode cX5_play 9 = .ok (.goto 18, 3) := by decide +kernel
theorem dX5_play_12 : decode cX5_play 12 = .ok (.iload_n 2, 1) := by decide +kernel
theorem dX5_play_13 : decode cX5_play 13 = .ok (.iconst 1, 1) := by decide +kernel
theorem dX5_play_14 : decode cX5_play 14 = .ok (.bipush 30, 2) := by decide +kernel
theorem dX5_play_16 : decode cX5_play 16 = .ok (.invokestatic 39, 3) := by decide +kernel
theorem dX5_play_19 : decode cX5_play 19 = .ok (.ifCond .eq 7, 3) := by decide +kernel
theorem dX5_play_22 : decode cX5_play 22 = .ok (.iconst 0, 1) := by decide +kernel
theorem dX5_play_23 : decode cX5_play 23 = .ok (.goto 4, 3) := by decide +kernel
theorem dX5_play_26 : decode cX5_play 26 = .ok (.iconst 2, 1) := by decide +kernel
theorem dX5_play_27 : decode cX5_play 27 = .ok (.putfield 35, 3) := by decide +kernel
theorem dX5_play_30 : decode cX5_play 30 = .ok (.aload_n 0, 1) := by decide +kernel
theorem dX5_play_31 : decode cX5_play 31 = .ok (.getfield 35, 3) := by decide +kernel
theorem dX5_play_34 : decode cX5_play 34 = .ok (.ifCond .le 5, 3) := by decide +kernel
theorem dX5_play_37 : decode cX5_play 37 = .ok (.iconst 0, 1) := by decide +kernel
theorem dX5_play_38 : decode cX5_play 38 = .ok (.ireturn, 1) := by decide +kernel
theorem dX5_play_39 : decode cX5_play 39 = .ok (.aload_n 0, 1) := by decide +kernel
theorem dX5_play_40 : decode cX5_play 40 = .ok (.invokevirtual 50, 3) := by decide +kernel
theorem dX5_play_43 : decode cX5_play 43 = .ok (.aload_n 0, 1) := by decide +kernel
theorem dX5_play_44 : decode cX5_play 44 = .ok (.iload_n 1, 1) := by decide +kernel
theorem dX5_play_45 : decode cX5_play 45 = .ok (.iload_n 2, 1) := by decide +kernel
theorem dX5_play_46 : decode cX5_play 46 = .ok (.invokevirtual 106, 3) := by decide +kernel
theorem dX5_play_49 : decode cX5_play 49 = .ok (.ireturn, 1) := by decide +kernel
theorem dX5_append_0 : decode cX5_append 0 = .ok (.aload_n 0, 1) := by decide +kernel
theorem dX5_append_1 : decode cX5_append 1 = .ok (.iload_n 1, 1) := by decide +kernel
theorem dX5_append_2 : decode cX5_append 2 = .ok (.bipush 33, 2) := by decide +kernel
theorem dX5_append_4 : decode cX5_append 4 = .ok (.bipush 126, 2) := by decide +kernel
theorem dX5_append_6 : decode cX5_append 6 = .ok (.invokestatic 39, 3) := by decide +kernel
theorem dX5_append_9 : decode cX5_append 9 = .ok (.ifCond .ne 7, 3) := by decide +kernel
theorem dX5_append_12 : decode cX5_append 12 = .ok (.iconst 1, 1) := by decide +kernel
theorem dX5_append_13 : decode cX5_append 13 = .ok (.goto 17, 3) := by decide +kernel
theorem dX5_append_16 : decode cX5_append 16 = .ok (.aload_n 0, 1) := by decide +kernel
theorem dX5_append_17 : decode cX5_append 17 = .ok (.getfield 109, 3) := by decide +kernel
theorem dX5_append_20 : decode cX5_append 20 = .ok (.bipush 60, 2) := by decide +kernel
theorem dX5_append_22 : decode cX5_append 22 = .ok (.if_icmp .ne 7, 3) := by decide +kernel
theorem dX5_append_25 : decode cX5_append 25 = .ok (.iconst 2, 1) := by decide +kernel
theorem dX5_append_26 : decode cX5_append 26 = .ok (.goto 4, 3) := by decide +kernel
theorem dX5_append_29 : decode cX5_append 29 = .ok (.iconst 0, 1) := by decide +kernel
theorem dX5_append_30 : decode cX5_append 30 = .ok (.putfield 35, 3) := by decide +kernel
theorem dX5_append_33 : decode cX5_append 33 = .ok (.aload_n 0, 1) := by decide +kernel
theorem dX5_append_34 : decode cX5_append 34 = .ok (.getfield 35, 3) := by decide +kernel
theorem dX5_append_37 : decode cX5_append 37 = .ok (.ifCond .le 5, 3) := by decide +kernel
theorem dX5_append_40 : decode cX5_append 40 = .ok (.iconst 0, 1) := by decide +kernel
theorem dX5_append_41 : decode cX5_append 41 = .ok (.ireturn, 1) := by decide +kernel
theorem dX5_append_42 : decode cX5_append 42 = .ok (.aload_n 0, 1) := by decide +kernel
theorem dX5_append_43 : decode cX5_append 43 = .ok (.getfield 22, 3) := by decide +kernel
theorem dX5_append_46 : decode cX5_append 46 = .ok (.aload_n 0, 1) := by decide +kernel
theorem dX5_append_47 : decode cX5_append 47 = .ok (.getfield 109, 3) := by decide +kernel
theorem dX5_append_50 : decode cX5_append 50 = .ok (.iload_n 1, 1) := by decide +kernel
theorem dX5_append_51 : decode cX5_append 51 = .ok (.iastore, 1) := by decide +kernel
theorem dX5_append_52 : decode cX5_append 52 = .ok (.aload_n 0, 1) := by decide +kernel
theorem dX5_append_53 : decode cX5_append 53 = .ok (.dup, 1) := by decide +kernel
theorem dX5_append_54 : decode cX5_append 54 = .ok (.getfield 109, 3) := by decide +kernel
theorem dX5_append_57 : decode cX5_append 57 = .ok (.iconst 1, 1) := by decide +kernel
theorem dX5_append_58 : decode cX5_append 58 = .ok (.iadd, 1) := by decide +kernel
theorem dX5_append_59 : decode cX5_append 59 = .ok (.putfield 109, 3) := by decide +kernel
theorem dX5_append_62 : decode cX5_append 62 = .ok (.aload_n 0, 1) := by decide +kernel
theorem dX5_append_63 : decode cX5_append 63 = .ok (.getfield 109, 3) := by decide +kernel
theorem dX5_append_66 : decode cX5_append 66 = .ok (.ireturn, 1) := by decide +kernel
theorem dX5_clearBuffer_0 : decode cX5_clearBuffer 0 = .ok (.aload_n 0, 1) := by decide +kernel
theorem dX5_clearBuffer_1 : decode cX5_clearBuffer 1 = .ok (.iconst 0, 1) := by decide +kernel
theorem dX5_clearBuffer_2 : decode cX5_clearBuffer 2 = .ok (.putfield 35, 3) := by decide +kernel
theorem dX5_clearBuffer_5 : decode cX5_clearBuffer 5 = .ok (.aload_n 0, 1) := by decide +kernel
theorem dX5_clearBuffer_6 : decode cX5_clearBuffer 6 = .ok (.getfield 109, 3) := by decide +kernel
theorem dX5_clearBuffer_9 : decode cX5_clearBuffer 9 = .ok (.istore_n 1, 1) := by decide +kernel
theorem dX5_clearBuffer_10 : decode cX5_clearBuffer 10 = .ok (.aload_n 0, 1) := by decide +kernel
theorem dX5_clearBuffer_11 : decode cX5_clearBuffer 11 = .ok (.iconst 0, 1) := by decide +kernel
theorem dX5_clearBuffer_12 : decode cX5_clearBuffer 12 = .ok (.putfield 109, 3) := by decide +kernel
theorem dX5_clearBuffer_15 : decode cX5_clearBuffer 15 = .ok (.iload_n 1, 1) := by decide +kernel
theorem dX5_clearBuffer_16 : decode cX5_clearBuffer 16 = .ok (.ireturn, 1) := by decide +kernel
theorem dX5_at_0 : decode cX5_at 0 = .ok (.iload_n 1, 1) := by decide +kernel
theorem dX5_at_1 : decode cX5_at 1 = .ok (.aload_n 0, 1) := by decide +kernel
theorem dX5_at_2 : decode cX5_at 2 = .ok (.getfield 109, 3) := by decide +kernel
theorem dX5_at_5 : decode cX5_at 5 = .ok (.if_icmp .ge 12, 3) := by decide +kernel
theorem dX5_at_8 : decode cX5_at 8 = .ok (.aload_n 0, 1) := by decide +kernel
theorem dX5_at_9 : decode cX5_at 9 = .ok (.getfield 22, 3) := by decide +kernel
theorem dX5_at_12 : decode cX5_at 12 = .ok (.iload_n 1, 1) := by decide +kernel
theorem dX5_at_13 : decode cX5_at 13 = .ok (.iaload, 1) := by decide +kernel
theorem dX5_at_14 : decode cX5_at 14 = .ok (.goto 4, 3) := by decide +kernel
theorem dX5_at_17 : decode cX5_at 17 = .ok (.iconst 0, 1) := by decide +kernel
theorem dX5_at_18 : decode cX5_at 18 = .ok (.ireturn, 1) := by decide +kernel
theorem dX5_readNumber_0 : decode cX5_readNumber 0 = .ok (.iload_n 1, 1) := by decide +kernel
theorem dX5_readNumber_1 : decode cX5_readNumber 1 = .ok (.istore_n 3, 1) := by decide +kernel
theorem dX5_readNumber_2 : decode cX5_readNumber 2 = .ok (.aload_n 0, 1) := by decide +kernel
theorem dX5_readNumber_3 : decode cX5_readNumber 3 = .ok (.iconst 0, 1) := by decide +kernel
theorem dX5_readNumber_4 : decode cX5_readNumber 4 = .ok (.putfield 112, 3) := by decide +kernel
theorem dX5_readNumber_7 : decode cX5_readNumber 7 = .ok (.aload_n 0, 1) := by decide +kernel
theorem dX5_readNumber_8 : decode cX5_readNumber 8 = .ok (.iload_n 3, 1) := by decide +kernel
theorem dX5_readNumber_9 : decode cX5_readNumber 9 = .ok (.invokevirtual 115, 3) := by decide +kernel
theorem dX5_readNumber_12 : decode cX5_readNumber 12 = .ok (.aload_n 0, 1) := by decide +kernel
theorem dX5_readNumber_13 : decode cX5_readNumber 13 = .ok (.getfield 112, 3) := by decide +kernel
theorem dX5_readNumber_16 : decode cX5_readNumber 16 = .ok (.ifCond .ne 8, 3) := by decide +kernel
theorem dX5_readNumber_19 : decode cX5_readNumber 19 = .ok (.bipush 49, 2) := by decide +kernel
theorem dX5_readNumber_21 : decode cX5_readNumber 21 = .ok (.goto 5, 3) := by decide +kernel
theorem dX5_readNumber_24 : decode cX5_readNumber 24 = .ok (.bipush 48, 2) := by decide +kernel
theorem dX5_readNumber_26 : decode cX5_readNumber 26 = .ok (.bipush 57, 2) := by decide +kernel
theorem dX5_readNumber_28 : decode cX5_readNumber 28 = .ok (.invokestatic 39, 3) := by decide +kernel
theorem dX5_readNumber_31 : decode cX5_readNumber 31 = .ok (.ifCond .eq 49, 3) := by decide +kernel
theorem dX5_readNumber_34 : decode cX5_readNumber 34 = .ok (.bipush 10, 2) := by decide +kernel
theorem dX5_readNumber_36 : decode cX5_readNumber 36 = .ok (.aload_n 0, 1) := by decide +kernel
theorem dX5_readNumber_37 : decode cX5_readNumber 37 = .ok (.getfield 112, 3) := by decide +kernel
theorem dX5_readNumber_40 : decode cX5_readNumber 40 = .ok (.imul, 1) := by decide +kernel
theorem dX5_readNumber_41 : decode cX5_readNumber 41 = .ok (.aload_n 0, 1) := by decide +kernel
theorem dX5_readNumber_42 : decode cX5_readNumber 42 = .ok (.iload_n 3, 1) := by decide +kernel
theorem dX5_readNumber_43 : decode cX5_readNumber 43 = .ok (.invokevirtual 115, 3) := by decide +kernel
theorem dX5_readNumber_46 : decode cX5_readNumber 46 = .ok (.iadd, 1) := by decide +kernel
theorem dX5_readNumber_47 : decode cX5_readNumber 47 = .ok (.bipush 48, 2) := by decide +kernel
theorem dX5_readNumber_49 : decode cX5_readNumber 49 = .ok (.isub, 1) := by decide +kernel
theorem dX5_readNumber_50 : decode cX5_readNumber 50 = .ok (.iload_n 2, 1) := by decide +kernel
theorem dX5_readNumber_51 : decode cX5_readNumber 51 = .ok (.if_icmp .gt 29, 3) := by decide +kernel
theorem dX5_readNumber_54 : decode cX5_readNumber 54 = .ok (.aload_n 0, 1) := by decide +kernel
theorem dX5_readNumber_55 : decode cX5_readNumber 55 = .ok (.bipush 10, 2) := by decide +kernel
theorem dX5_readNumber_57 : decode cX5_readNumber 57 = .ok (.aload_n 0, 1) := by decide +kernel
theorem dX5_readNumber_58 : decode cX5_readNumber 58 = .ok (.getfield 112, 3) := by decide +kernel
theorem dX5_readNumber_61 : decode cX5_readNumber 61 = .ok (.imul, 1) := by decide +kernel
theorem dX5_readNumber_62 : decode cX5_readNumber 62 = .ok (.aload_n 0, 1) := by decide +kernel
theorem dX5_readNumber_63 : decode cX5_readNumber 63 = .ok (.iload_n 3, 1) := by decide +kernel
theorem dX5_readNumber_64 : decode cX5_readNumber 64 = .ok (.invokevirtual 115, 3) := by decide +kernel
theorem dX5_readNumber_67 : decode cX5_readNumber 67 = .ok (.iadd, 1) := by decide +kernel
theorem dX5_readNumber_68 : decode cX5_readNumber 68 = .ok (.bipush 48, 2) := by decide +kernel
theorem dX5_readNumber_70 : decode cX5_readNumber 70 = .ok (.isub, 1) := by decide +kernel
theorem dX5_readNumber_71 : decode cX5_readNumber 71 = .ok (.putfield 112, 3) := by decide +kernel
theorem dX5_readNumber_74 : decode cX5_readNumber 74 = .ok (.iinc 3 1, 3) := by decide +kernel
theorem dX5_readNumber_77 : decode cX5_readNumber 77 = .ok (.goto (-70), 3) := by decide +kernel
theorem dX5_readNumber_80 : decode cX5_readNumber 80 = .ok (.aload_n 0, 1) := by decide +kernel
theorem dX5_readNumber_81 : decode cX5_readNumber 81 = .ok (.getfield 112, 3) := by decide +kernel
theorem dX5_readNumber_84 : decode cX5_readNumber 84 = .ok (.ifCond .ne 9, 3) := by decide +kernel
theorem dX5_readNumber_87 : decode cX5_readNumber 87 = .ok (.iconst (-1), 1) := by decide +kernel
theorem dX5_readNumber_88 : decode cX5_readNumber 88 = .ok (.iload_n 3, 1) := by decide +kernel
theorem dX5_readNumber_89 : decode cX5_readNumber 89 = .ok (.isub, 1) := by decide +kernel
theorem dX5_readNumber_90 : decode cX5_readNumber 90 = .ok (.goto 4, 3) := by decide +kernel
theorem dX5_readNumber_93 : decode cX5_readNumber 93 = .ok (.iload_n 3, 1) := by decide +kernel
theorem dX5_readNumber_94 : decode cX5_readNumber 94 = .ok (.ireturn, 1) := by decide +kernel
theorem dX5_readPart_0 : decode cX5_readPart 0 = .ok (.aload_n 0, 1) := by decide +kernel
theorem dX5_readPart_1 : decode cX5_readPart 1 = .ok (.aload_n 0, 1) := by decide +kernel
theorem dX5_readPart_2 : decode cX5_readPart 2 = .ok (.iload_n 1, 1) := by decide +kernel
theorem dX5_readPart_3 : decode cX5_readPart 3 = .ok (.invokevirtual 115, 3) := by decide +kernel
theorem dX5_readPart_6 : decode cX5_readPart 6 = .ok (.putfield 118, 3) := by decide +kernel
theorem dX5_readPart_9 : decode cX5_readPart 9 = .ok (.aload_n 0, 1) := by decide +kernel
theorem dX5_readPart_10 : decode cX5_readPart 10 = .ok (.getfield 118, 3) := by decide +kernel
theorem dX5_readPart_13 : decode cX5_readPart 13 = .ok (.bipush 36, 2) := by decide +kernel
theorem dX5_readPart_15 : decode cX5_readPart 15 = .ok (.if_icmp .ne 13, 3) := by decide +kernel
theorem dX5_readPart_18 : decode cX5_readPart 18 = .ok (.aload_n 0, 1) := by decide +kernel
theorem dX5_readPart_19 : decode cX5_readPart 19 = .ok (.iload_n 1, 1) := by decide +kernel
theorem dX5_readPart_20 : decode cX5_readPart 20 = .ok (.iconst 1, 1) := by decide +kernel
theorem dX5_readPart_21 : decode cX5_readPart 21 = .ok (.iadd, 1) := by decide +kernel
theorem dX5_readPart_22 : decode cX5_readPart 22 = .ok (.bipush 99, 2) := by decide +kernel
theorem dX5_readPart_24 : decode cX5_readPart 24 = .ok (.invokevirtual 121, 3) := by decide +kernel
theorem dX5_readPart_27 : decode cX5_readPart 27 = .ok (.ireturn, 1) := by decide +kernel
theorem dX5_readPart_28 : decode cX5_readPart 28 = .ok (.aload_n 0, 1) := by decide +kernel
theorem dX5_readPart_29 : decode cX5_readPart 29 = .ok (.aload_n 0, 1) := by decide +kernel
theorem dX5_readPart_30 : decode cX5_readPart 30 = .ok (.iload_n 1, 1) := by decide +kernel
theorem dX5_readPart_31 : decode cX5_readPart 31 = .ok (.iconst 1, 1) := by decide +kernel
theorem dX5_readPart_32 : decode cX5_readPart 32 = .ok (.iadd, 1) := by decide +kernel
theorem dX5_readPart_33 : decode cX5_readPart 33 = .ok (.invokevirtual 115, 3) := by decide +kernel
theorem dX5_readPart_36 : decode cX5_readPart 36 = .ok (.bipush 48, 2) := by decide +kernel
theorem dX5_readPart_38 : decode cX5_readPart 38 = .ok (.isub, 1) := by decide +kernel
theorem dX5_readPart_39 : decode cX5_readPart 39 = .ok (.putfield 124, 3) := by decide +kernel
theorem dX5_readPart_42 : decode cX5_readPart 42 = .ok (.aload_n 0, 1) := by decide +kernel
theorem dX5_readPart_43 : decode cX5_readPart 43 = .ok (.getfield 118, 3) := by decide +kernel
theorem dX5_readPart_46 : decode cX5_readPart 46 = .ok (.bipush 108, 2) := by decide +kernel
theorem dX5_readPart_48 : decode cX5_readPart 48 = .ok (.if_icmp .ne 47, 3) := by decide +kernel
theorem dX5_readPart_51 : decode cX5_readPart 51 = .ok (.aload_n 0, 1) := by decide +kernel
theorem dX5_readPart_52 : decode cX5_readPart 52 = .ok (.getfield 124, 3) := by decide +kernel
theorem dX5_readPart_55 : decode cX5_readPart 55 = .ok (.invokestatic 61, 3) := by decide +kernel
theorem dX5_readPart_58 : decode cX5_readPart 58 = .ok (.ifCond .ne 8, 3) := by decide +kernel
theorem dX5_readPart_61 : decode cX5_readPart 61 = .ok (.bipush (-2), 2) := by decide +kernel
theorem dX5_readPart_63 : decode cX5_readPart 63 = .ok (.iload_n 1, 1) := by decide +kernel
theorem dX5_readPart_64 : decode cX5_readPart 64 = .ok (.isub, 1) := by decide +kernel
theorem dX5_readPart_65 : decode cX5_readPart 65 = .ok (.ireturn, 1) := by decide +kernel
theorem dX5_readPart_66 : decode cX5_readPart 66 = .ok (.aload_n 0, 1) := by decide +kernel
theorem dX5_readPart_67 : decode cX5_readPart 67 = .ok (.iload_n 1, 1) := by decide +kernel
theorem dX5_readPart_68 : decode cX5_readPart 68 = .ok (.iconst 2, 1) := by decide +kernel
theorem dX5_readPart_69 : decode cX5_readPart 69 = .ok (.iadd, 1) := by decide +kernel
theorem dX5_readPart_70 : decode cX5_readPart 70 = .ok (.invokevirtual 115, 3) := by decide +kernel
theorem dX5_readPart_73 : decode cX5_readPart 73 = .ok (.bipush 120, 2) := by decide +kernel
theorem dX5_readPart_75 : decode cX5_readPart 75 = .ok (.if_icmp .ne 15, 3) := by decide +kernel
theorem dX5_readPart_78 : decode cX5_readPart 78 = .ok (.aload_n 0, 1) := by decide +kernel
theorem dX5_readPart_79 : decode cX5_readPart 79 = .ok (.iload_n 1, 1) := by decide +kernel
theorem dX5_readPart_80 : decode cX5_readPart 80 = .ok (.iconst 3, 1) := by decide +kernel
theorem dX5_readPart_81 : decode cX5_readPart 81 = .ok (.iadd, 1) := by decide +kernel
theorem dX5_readPart_82 : decode cX5_readPart 82 = .ok (.bipush 30, 2) := by decide +kernel
theorem dX5_readPart_84 : decode cX5_readPart 84 = .ok (.invokevirtual 121, 3) := by decide +kernel
theorem dX5_readPart_87 : decode cX5_readPart 87 = .ok (.goto 7, 3) := by decide +kernel
theorem dX5_readPart_90 : decode cX5_readPart 90 = .ok (.bipush (-3), 2) := by decide +kernel
theorem dX5_readPart_92 : decode cX5_readPart 92 = .ok (.iload_n 1, 1) := by decide +kernel
theorem dX5_readPart_93 : decode cX5_readPart 93 = .ok (.isub, 1) := by decide +kernel
theorem dX5_readPart_94 : decode cX5_readPart 94 = .ok (.ireturn, 1) := by decide +kernel
theorem dX5_readPart_95 : decode cX5_readPart 95 = .ok (.aload_n 0, 1) := by decide +kernel
theorem dX5_readPart_96 : decode cX5_readPart 96 = .ok (.getfield 118, 3) := by decide +kernel
theorem dX5_readPart_99 : decode cX5_readPart 99 = .ok (.bipush 98, 2) := by decide +kernel
theorem dX5_readPart_101 : decode cX5_readPart 101 = .ok (.if_icmp .eq 7, 3) := by decide +kernel
theorem dX5_readPart_104 : decode cX5_readPart 104 = .ok (.iconst (-1), 1) := by decide +kernel
theorem dX5_readPart_105 : decode cX5_readPart 105 = .ok (.iload_n 1, 1) := by decide +kernel
theorem dX5_readPart_106 : decode cX5_readPart 106 = .ok (.isub, 1) := by decide +kernel
theorem dX5_readPart_107 : decode cX5_readPart 107 = .ok (.ireturn, 1) := by decide +kernel
theorem dX5_readPart_108 : decode cX5_readPart 108 = .ok (.aload_n 0, 1) := by decide +kernel
theorem dX5_readPart_109 : decode cX5_readPart 109 = .ok (.getfield 124, 3) := by decide +kernel
theorem dX5_readPart_112 : decode cX5_readPart 112 = .ok (.invokestatic 57, 3) := by decide +kernel
theorem dX5_readPart_115 : decode cX5_readPart 115 = .ok (.ifCond .ne 8, 3) := by decide +kernel
theorem dX5_readPart_118 : decode cX5_readPart 118 = .ok (.bipush (-2), 2) := by decide +kernel
theorem dX5_readPart_120 : decode cX5_readPart 120 = .ok (.iload_n 1, 1) := by decide +kernel
theorem dX5_readPart_121 : decode cX5_readPart 121 = .ok (.isub, 1) := by decide +kernel
theorem dX5_readPart_122 : decode cX5_readPart 122 = .ok (.ireturn, 1) := by decide +kernel
theorem dX5_readPart_123 : decode cX5_readPart 123 = .ok (.aload_n 0, 1) := by decide +kernel
theorem dX5_readPart_124 : decode cX5_readPart 124 = .ok (.aload_n 0, 1) := by decide +kernel
theorem dX5_readPart_125 : decode cX5_readPart 125 = .ok (.iload_n 1, 1) := by decide +kernel
theorem dX5_readPart_126 : decode cX5_readPart 126 = .ok (.iconst 2, 1) := by decide +kernel
theorem dX5_readPart_127 : decode cX5_readPart 127 = .ok (.iadd, 1) := by decide +kernel
theorem dX5_readPart_128 : decode cX5_readPart 128 = .ok (.invokevirtual 115, 3) := by decide +kernel
theorem dX5_readPart_131 : decode cX5_readPart 131 = .ok (.bipush 48, 2) := by decide +kernel
theorem dX5_readPart_133 : decode cX5_readPart 133 = .ok (.isub, 1) := by decide +kernel
theorem dX5_readPart_134 : decode cX5_readPart 134 = .ok (.putfield 112, 3) := by decide +kernel
theorem dX5_readPart_137 : decode cX5_readPart 137 = .ok (.aload_n 0, 1) := by decide +kernel
theorem dX5_readPart_138 : decode cX5_readPart 138 = .ok (.getfield 112, 3) := by decide +kernel
theorem dX5_readPart_141 : decode cX5_readPart 141 = .ok (.invokestatic 61, 3) := by decide +kernel
theorem dX5_readPart_144 : decode cX5_readPart 144 = .ok (.ifCond .ne 8, 3) := by decide +kernel
theorem dX5_readPart_147 : decode cX5_readPart 147 = .ok (.bipush (-3), 2) := by decide +kernel
theorem dX5_readPart_149 : decode cX5_readPart 149 = .ok (.iload_n 1, 1) := by decide +kernel
theorem dX5_readPart_150 : decode cX5_readPart 150 = .ok (.isub, 1) := by decide +kernel
theorem dX5_readPart_151 : decode cX5_readPart 151 = .ok (.ireturn, 1) := by decide +kernel
theorem dX5_readPart_152 : decode cX5_readPart 152 = .ok (.aload_n 0, 1) := by decide +kernel
theorem dX5_readPart_153 : decode cX5_readPart 153 = .ok (.aload_n 0, 1) := by decide +kernel
theorem dX5_readPart_154 : decode cX5_readPart 154 = .ok (.iload_n 1, 1) := by decide +kernel
theorem dX5_readPart_155 : decode cX5_readPart 155 = .ok (.iconst 3, 1) := by decide +kernel
theorem dX5_readPart_156 : decode cX5_readPart 156 = .ok (.iadd, 1) := by decide +kernel
theorem dX5_readPart_157 : decode cX5_readPart 157 = .ok (.invokevirtual 115, 3) := by decide +kernel
theorem dX5_readPart_160 : decode cX5_readPart 160 = .ok (.putfield 127, 3) := by decide +kernel
theorem dX5_readPart_163 : decode cX5_readPart 163 = .ok (.aload_n 0, 1) := by decide +kernel
theorem dX5_readPart_164 : decode cX5_readPart 164 = .ok (.getfield 127, 3) := by decide +kernel
theorem dX5_readPart_167 : decode cX5_readPart 167 = .ok (.bipush 60, 2) := by decide +kernel
theorem dX5_readPart_169 : decode cX5_readPart 169 = .ok (.if_icmp .eq 21, 3) := by decide +kernel
theorem dX5_readPart_172 : decode cX5_readPart 172 = .ok (.aload_n 0, 1) := by decide +kernel
theorem dX5_readPart_173 : decode cX5_readPart 173 = .ok (.getfield 127, 3) := by decide +kernel
theorem dX5_readPart_176 : decode cX5_readPart 176 = .ok (.bipush 124, 2) := by decide +kernel
theorem dX5_readPart_178 : decode cX5_readPart 178 = .ok (.if_icmp .eq 12, 3) := by decide +kernel
theorem dX5_readPart_181 : decode cX5_readPart 181 = .ok (.aload_n 0, 1) := by decide +kernel
theorem dX5_readPart_182 : decode cX5_readPart 182 = .ok (.getfield 127, 3) := by decide +kernel
theorem dX5_readPart_185 : decode cX5_readPart 185 = .ok (.bipush 62, 2) := by decide +kernel
theorem dX5_readPart_187 : decode cX5_readPart 187 = .ok (.if_icmp .ne 9, 3) := by decide +kernel
theorem dX5_readPart_190 : decode cX5_readPart 190 = .ok (.iload_n 1, 1) := by decide +kernel
theorem dX5_readPart_191 : decode cX5_readPart 191 = .ok (.iconst 4, 1) := by decide +kernel
theorem dX5_readPart_192 : decode cX5_readPart 192 = .ok (.iadd, 1) := by decide +kernel
theorem dX5_readPart_193 : decode cX5_readPart 193 = .ok (.goto 7, 3) := by decide +kernel
theorem dX5_readPart_196 : decode cX5_readPart 196 = .ok (.bipush (-4), 2) := by decide +kernel
theorem dX5_readPart_198 : decode cX5_readPart 198 = .ok (.iload_n 1, 1) := by decide +kernel
theorem dX5_readPart_199 : decode cX5_readPart 199 = .ok (.isub, 1) := by decide +kernel
theorem dX5_readPart_200 : decode cX5_readPart 200 = .ok (.ireturn, 1) := by decide +kernel
theorem dX5_findError_0 : decode cX5_findError 0 = .ok (.iconst 0, 1) := by decide +kernel
theorem dX5_findError_1 : decode cX5_findError 1 = .ok (.istore_n 1, 1) := by decide +kernel
theorem dX5_findError_2 : decode cX5_findError 2 = .ok (.aload_n 0, 1) := by decide +kernel
theorem dX5_findError_3 : decode cX5_findError 3 = .ok (.iload_n 1, 1) := by decide +kernel
theorem dX5_findError_4 : decode cX5_findError 4 = .ok (.invokevirtual 130, 3) := by decide +kernel
theorem dX5_findError_7 : decode cX5_findError 7 = .ok (.istore_n 1, 1) := by decide +kernel
theorem dX5_findError_8 : decode cX5_findError 8 = .ok (.iload_n 1, 1) := by decide +kernel
theorem dX5_findError_9 : decode cX5_findError 9 = .ok (.ifCond .ge 7, 3) := by decide +kernel
theorem dX5_findError_12 : decode cX5_findError 12 = .ok (.iconst (-1), 1) := by decide +kernel
theorem dX5_findError_13 : decode cX5_findError 13 = .ok (.iload_n 1, 1) := by decide +kernel
theorem dX5_findError_14 : decode cX5_findError 14 = .ok (.isub, 1) := by decide +kernel
theorem dX5_findError_15 : decode cX5_findError 15 = .ok (.ireturn, 1) := by decide +kernel
theorem dX5_findError_16 : decode cX5_findError 16 = .ok (.iload_n 1, 1) := by decide +kernel
theorem dX5_findError_17 : decode cX5_findError 17 = .ok (.aload_n 0, 1) := by decide +kernel
theorem dX5_findError_18 : decode cX5_findError 18 = .ok (.getfield 109, 3) := by decide +kernel
theorem dX5_findError_21 : decode cX5_findError 21 = .ok (.if_icmp .ne 5, 3) := by decide +kernel
theorem dX5_findError_24 : decode cX5_findError 24 = .ok (.iconst (-1), 1) := by decide +kernel
theorem dX5_findError_25 : decode cX5_findError 25 = .ok (.ireturn, 1) := by decide +kernel
theorem dX5_findError_26 : decode cX5_findError 26 = .ok (.aload_n 0, 1) := by decide +kernel
theorem dX5_findError_27 : decode cX5_findError 27 = .ok (.getfield 22, 3) := by decide +kernel
theorem dX5_findError_30 : decode cX5_findError 30 = .ok (.iload_n 1, 1) := by decide +kernel
theorem dX5_findError_31 : decode cX5_findError 31 = .ok (.iaload, 1) := by decide +kernel
theorem dX5_findError_32 : decode cX5_findError 32 = .ok (.bipush 59, 2) := by decide +kernel
theorem dX5_findError_34 : decode cX5_findError 34 = .ok (.if_icmp .eq 5, 3) := by decide +kernel
theorem dX5_findError_37 : decode cX5_findError 37 = .ok (.iload_n 1, 1) := by decide +kernel
theorem dX5_findError_38 : decode cX5_findError 38 = .ok (.ireturn, 1) := by decide +kernel
theorem dX5_findError_39 : decode cX5_findError 39 = .ok (.iinc 1 1, 3) := by decide +kernel
theorem dX5_findError_42 : decode cX5_findError 42 = .ok (.goto (-40), 3) := by decide +kernel
theorem dX5_firstError_0 : decode cX5_firstError 0 = .ok (.aload_n 0, 1) := by decide +kernel
theorem dX5_firstError_1 : decode cX5_firstError 1 = .ok (.iconst 0, 1) := by decide +kernel
theorem dX5_firstError_2 : decode cX5_firstError 2 = .ok (.putfield 35, 3) := by decide +kernel
theorem dX5_firstError_5 : decode cX5_firstError 5 = .ok (.aload_n 0, 1) := by decide +kernel
theorem dX5_firstError_6 : decode cX5_firstError 6 = .ok (.invokevirtual 133, 3) := by decide +kernel
theorem dX5_firstError_9 : decode cX5_firstError 9 = .ok (.istore_n 1, 1) := by decide +kernel
theorem dX5_firstError_10 : decode cX5_firstError 10 = .ok (.iload_n 1, 1) := by decide +kernel
theorem dX5_firstError_11 : decode cX5_firstError 11 = .ok (.ifCond .ge 10, 3) := by decide +kernel
theorem dX5_firstError_14 : decode cX5_firstError 14 = .ok (.aload_n 0, 1) := by decide +kernel
theorem dX5_firstError_15 : decode cX5_firstError 15 = .ok (.getfield 109, 3) := by decide +kernel
theorem dX5_firstError_18 : decode cX5_firstError 18 = .ok (.goto 4, 3) := by decide +kernel
theorem dX5_firstError_21 : decode cX5_firstError 21 = .ok (.iload_n 1, 1) := by decide +kernel
theorem dX5_firstError_22 : decode cX5_firstError 22 = .ok (.ireturn, 1) := by decide +kernel
theorem dX5_doPart_0 : decode cX5_doPart 0 = .ok (.aload_n 0, 1) := by decide +kernel
theorem dX5_doPart_1 : decode cX5_doPart 1 = .ok (.getfield 118, 3) := by decide +kernel
theorem dX5_doPart_4 : decode cX5_doPart 4 = .ok (.bipush 108, 2) := by decide +kernel
theorem dX5_doPart_6 : decode cX5_doPart 6 = .ok (.if_icmp .ne 16, 3) := by decide +kernel
theorem dX5_doPart_9 : decode cX5_doPart 9 = .ok (.aload_n 0, 1) := by decide +kernel
theorem dX5_doPart_10 : decode cX5_doPart 10 = .ok (.aload_n 0, 1) := by decide +kernel
theorem dX5_doPart_11 : decode cX5_doPart 11 = .ok (.getfield 124, 3) := by decide +kernel
theorem dX5_doPart_14 : decode cX5_doPart 14 = .ok (.aload_n 0, 1) := by decide +kernel
theorem dX5_doPart_15 : decode cX5_doPart 15 = .ok (.getfield 112, 3) := by decide +kernel
theorem dX5_doPart_18 : decode cX5_doPart 18 = .ok (.invokevirtual 106, 3) := by decide +kernel
theorem dX5_doPart_21 : decode cX5_doPart 21 = .ok (.ireturn, 1) := by decide +kernel
theorem dX5_doPart_22 : decode cX5_doPart 22 = .ok (.aload_n 0, 1) := by decide +kernel
theorem dX5_doPart_23 : decode cX5_doPart 23 = .ok (.getfield 118, 3) := by decide +kernel
theorem dX5_doPart_26 : decode cX5_doPart 26 = .ok (.bipush 36, 2) := by decide +kernel
theorem dX5_doPart_28 : decode cX5_doPart 28 = .ok (.if_icmp .ne 15, 3) := by decide +kernel
theorem dX5_doPart_31 : decode cX5_doPart 31 = .ok (.aload_n 0, 1) := by decide +kernel
theorem dX5_doPart_32 : decode cX5_doPart 32 = .ok (.aload_n 0, 1) := by decide +kernel
theorem dX5_doPart_33 : decode cX5_doPart 33 = .ok (.getfield 112, 3) := by decide +kernel
theorem dX5_doPart_36 : decode cX5_doPart 36 = .ok (.invokevirtual 100, 3) := by decide +kernel
theorem dX5_doPart_39 : decode cX5_doPart 39 = .ok (.pop, 1) := by decide +kernel
theorem dX5_doPart_40 : decode cX5_doPart 40 = .ok (.goto 43, 3) := by decide +kernel
theorem dX5_doPart_43 : decode cX5_doPart 43 = .ok (.aload_n 0, 1) := by decide +kernel
theorem dX5_doPart_44 : decode cX5_doPart 44 = .ok (.aload_n 0, 1) := by decide +kernel
theorem dX5_doPart_45 : decode cX5_doPart 45 = .ok (.getfield 124, 3) := by decide +kernel
theorem dX5_doPart_48 : decode cX5_doPart 48 = .ok (.aload_n 0, 1) := by decide +kernel
theorem dX5_doPart_49 : decode cX5_doPart 49 = .ok (.getfield 112, 3) := by decide +kernel
theorem dX5_doPart_52 : decode cX5_doPart 52 = .ok (.aload_n 0, 1) := by decide +kernel
theorem dX5_doPart_53 : decode cX5_doPart 53 = .ok (.getfield 127, 3) := by decide +kernel
theorem dX5_doPart_56 : decode cX5_doPart 56 = .ok (.bipush 60, 2) := by decide +kernel
theorem dX5_doPart_58 : decode cX5_doPart 58 = .ok (.if_icmp .ne 7, 3) := by decide +kernel
theorem dX5_doPart_61 : decode cX5_doPart 61 = .ok (.iconst (-1), 1) := by decide +kernel
theorem dX5_doPart_62 : decode cX5_doPart 62 = .ok (.goto 17, 3) := by decide +kernel
theorem dX5_doPart_65 : decode cX5_doPart 65 = .ok (.aload_n 0, 1) := by decide +kernel
theorem dX5_doPart_66 : decode cX5_doPart 66 = .ok (.getfield 127, 3) := by decide +kernel
theorem dX5_doPart_69 : decode cX5_doPart 69 = .ok (.bipush 62, 2) := by decide +kernel
theorem dX5_doPart_71 : decode cX5_doPart 71 = .ok (.if_icmp .ne 7, 3) := by decide +kernel
theorem dX5_doPart_74 : decode cX5_doPart 74 = .ok (.iconst 1, 1) := by decide +kernel
theorem dX5_doPart_75 : decode cX5_doPart 75 = .ok (.goto 4, 3) := by decide +kernel
theorem dX5_doPart_78 : decode cX5_doPart 78 = .ok (.iconst 0, 1) := by decide +kernel
theorem dX5_doPart_79 : decode cX5_doPart 79 = .ok (.invokevirtual 64, 3) := by decide +kernel
theorem dX5_doPart_82 : decode cX5_doPart 82 = .ok (.pop, 1) := by decide +kernel
theorem dX5_doPart_83 : decode cX5_doPart 83 = .ok (.iconst 0, 1) := by decide +kernel
theorem dX5_doPart_84 : decode cX5_doPart 84 = .ok (.ireturn, 1) := by decide +kernel
theorem dX5_work_0 : decode cX5_work 0 = .ok (.aload_n 0, 1) := by decide +kernel
theorem dX5_work_1 : decode cX5_work 1 = .ok (.aload_n 0, 1) := by decide +kernel
theorem dX5_work_2 : decode cX5_work 2 = .ok (.invokevirtual 133, 3) := by decide +kernel
theorem dX5_work_5 : decode cX5_work 5 = .ok (.ifCond .ge 7, 3) := by decide +kernel
theorem dX5_work_8 : decode cX5_work 8 = .ok (.iconst 0, 1) := by decide +kernel
theorem dX5_work_9 : decode cX5_work 9 = .ok (.goto 4, 3) := by decide +kernel
theorem dX5_work_12 : decode cX5_work 12 = .ok (.iconst 1, 1) := by decide +kernel
theorem dX5_work_13 : decode cX5_work 13 = .ok (.putfield 35, 3) := by decide +kernel
theorem dX5_work_16 : decode cX5_work 16 = .ok (.aload_n 0, 1) := by decide +kernel
theorem dX5_work_17 : decode cX5_work 17 = .ok (.getfield 35, 3) := by decide +kernel
theorem dX5_work_20 : decode cX5_work 20 = .ok (.ifCond .le 5, 3) := by decide +kernel
theorem dX5_work_23 : decode cX5_work 23 = .ok (.iconst 0, 1) := by decide +kernel
theorem dX5_work_24 : decode cX5_work 24 = .ok (.ireturn, 1) := by decide +kernel
theorem dX5_work_25 : decode cX5_work 25 = .ok (.aload_n 0, 1) := by decide +kernel
theorem dX5_work_26 : decode cX5_work 26 = .ok (.invokevirtual 50, 3) := by decide +kernel
theorem dX5_work_29 : decode cX5_work 29 = .ok (.iconst 0, 1) := by decide +kernel
theorem dX5_work_30 : decode cX5_work 30 = .ok (.istore_n 1, 1) := by decide +kernel
theorem dX5_work_31 : decode cX5_work 31 = .ok (.iconst 0, 1) := by decide +kernel
theorem dX5_work_32 : decode cX5_work 32 = .ok (.istore_n 2, 1) := by decide +kernel
theorem dX5_work_33 : decode cX5_work 33 = .ok (.iload_n 2, 1) := by decide +kernel
theorem dX5_work_34 : decode cX5_work 34 = .ok (.aload_n 0, 1) := by decide +kernel
theorem dX5_work_35 : decode cX5_work 35 = .ok (.getfield 109, 3) := by decide +kernel
theorem dX5_work_38 : decode cX5_work 38 = .ok (.if_icmp .ge 21, 3) := by decide +kernel
theorem dX5_work_41 : decode cX5_work 41 = .ok (.aload_n 0, 1) := by decide +kernel
theorem dX5_work_42 : decode cX5_work 42 = .ok (.iload_n 2, 1) := by decide +kernel
theorem dX5_work_43 : decode cX5_work 43 = .ok (.invokevirtual 130, 3) := by decide +kernel
theorem dX5_work_46 : decode cX5_work 46 = .ok (.iconst 1, 1) := by decide +kernel
theorem dX5_work_47 : decode cX5_work 47 = .ok (.iadd, 1) := by decide +kernel
theorem dX5_work_48 : decode cX5_work 48 = .ok (.istore_n 2, 1) := by decide +kernel
theorem dX5_work_49 : decode cX5_work 49 = .ok (.iload_n 1, 1) := by decide +kernel
theorem dX5_work_50 : decode cX5_work 50 = .ok (.aload_n 0, 1) := by decide +kernel
theorem dX5_work_51 : decode cX5_work 51 = .ok (.invokevirtual 137, 3) := by decide +kernel
theorem dX5_work_54 : decode cX5_work 54 = .ok (.iadd, 1) := by decide +kernel
theorem dX5_work_55 : decode cX5_work 55 = .ok (.istore_n 1, 1) := by decide +kernel
theorem dX5_work_56 : decode cX5_work 56 = .ok (.goto (-23), 3) := by decide +kernel
theorem dX5_work_59 : decode cX5_work 59 = .ok (.aload_n 0, 1) := by decide +kernel
theorem dX5_work_60 : decode cX5_work 60 = .ok (.iconst 0, 1) := by decide +kernel
theorem dX5_work_61 : decode cX5_work 61 = .ok (.putfield 109, 3) := by decide +kernel
theorem dX5_work_64 : decode cX5_work 64 = .ok (.iload_n 1, 1) := by decide +kernel
theorem dX5_work_65 : decode cX5_work 65 = .ok (.ireturn, 1) := by decide +kernel
theorem dX5_pin_0 : decode cX5_pin 0 = .ok (.aload_n 0, 1) := by decide +kernel
theorem dX5_pin_1 : decode cX5_pin 1 = .ok (.iload_n 1, 1) := by decide +kernel
theorem dX5_pin_2 : decode cX5_pin 2 = .ok (.invokestatic 57, 3) := by decide +kernel
theorem dX5_pin_5 : decode cX5_pin 5 = .ok (.ifCond .eq 14, 3) := by decide +kernel
theorem dX5_pin_8 : decode cX5_pin 8 = .ok (.iload_n 2, 1) := by decide +kernel
theorem dX5_pin_9 : decode cX5_pin 9 = .ok (.invokestatic 61, 3) := by decide +kernel
theorem dX5_pin_12 : decode cX5_pin 12 = .ok (.ifCond .eq 7, 3) := by decide +kernel
theorem dX5_pin_15 : decode cX5_pin 15 = .ok (.iconst 0, 1) := by decide +kernel
theorem dX5_pin_16 : decode cX5_pin 16 = .ok (.goto 4, 3) := by decide +kernel
theorem dX5_pin_19 : decode cX5_pin 19 = .ok (.iconst 1, 1) := by decide +kernel
theorem dX5_pin_20 : decode cX5_pin 20 = .ok (.putfield 35, 3) := by decide +kernel
theorem dX5_pin_23 : decode cX5_pin 23 = .ok (.aload_n 0, 1) := by decide +kernel
theorem dX5_pin_24 : decode cX5_pin 24 = .ok (.getfield 35, 3) := by decide +kernel
theorem dX5_pin_27 : decode cX5_pin 27 = .ok (.ifCond .le 7, 3) := by decide +kernel
theorem dX5_pin_30 : decode cX5_pin 30 = .ok (.iconst 0, 1) := by decide +kernel
theorem dX5_pin_31 : decode cX5_pin 31 = .ok (.goto 15, 3) := by decide +kernel
theorem dX5_pin_34 : decode cX5_pin 34 = .ok (.aload_n 0, 1) := by decide +kernel
theorem dX5_pin_35 : decode cX5_pin 35 = .ok (.bipush 7, 2) := by decide +kernel
theorem dX5_pin_37 : decode cX5_pin 37 = .ok (.iload_n 1, 1) := by decide +kernel
theorem dX5_pin_38 : decode cX5_pin 38 = .ok (.imul, 1) := by decide +kernel
theorem dX5_pin_39 : decode cX5_pin 39 = .ok (.iload_n 2, 1) := by decide +kernel
theorem dX5_pin_40 : decode cX5_pin 40 = .ok (.iadd, 1) := by decide +kernel
theorem dX5_pin_41 : decode cX5_pin 41 = .ok (.invokevirtual 53, 3) := by decide +kernel
theorem dX5_pin_44 : decode cX5_pin 44 = .ok (.iconst 1, 1) := by decide +kernel
theorem dX5_pin_45 : decode cX5_pin 45 = .ok (.iadd, 1) := by decide +kernel
theorem dX5_pin_46 : decode cX5_pin 46 = .ok (.ireturn, 1) := by decide +kernel
theorem dX5_bentPins_0 : decode cX5_bentPins 0 = .ok (.iconst 0, 1) := by decide +kernel
theorem dX5_bentPins_1 : decode cX5_bentPins 1 = .ok (.istore_n 1, 1) := by decide +kernel
theorem dX5_bentPins_2 : decode cX5_bentPins 2 = .ok (.iconst 0, 1) := by decide +kernel
theorem dX5_bentPins_3 : decode cX5_bentPins 3 = .ok (.istore_n 2, 1) := by decide +kernel
theorem dX5_bentPins_4 : decode cX5_bentPins 4 = .ok (.iload_n 2, 1) := by decide +kernel
theorem dX5_bentPins_5 : decode cX5_bentPins 5 = .ok (.bipush 56, 2) := by decide +kernel
theorem dX5_bentPins_7 : decode cX5_bentPins 7 = .ok (.if_icmp .ge 25, 3) := by decide +kernel
theorem dX5_bentPins_10 : decode cX5_bentPins 10 = .ok (.iload_n 1, 1) := by decide +kernel
theorem dX5_bentPins_11 : decode cX5_bentPins 11 = .ok (.aload_n 0, 1) := by decide +kernel
theorem dX5_bentPins_12 : decode cX5_bentPins 12 = .ok (.iload_n 2, 1) := by decide +kernel
theorem dX5_bentPins_13 : decode cX5_bentPins 13 = .ok (.invokevirtual 53, 3) := by decide +kernel
theorem dX5_bentPins_16 : decode cX5_bentPins 16 = .ok (.ifCond .eq 7, 3) := by decide +kernel
theorem dX5_bentPins_19 : decode cX5_bentPins 19 = .ok (.iconst 1, 1) := by decide +kernel
theorem dX5_bentPins_20 : decode cX5_bentPins 20 = .ok (.goto 4, 3) := by decide +kernel
theorem dX5_bentPins_23 : decode cX5_bentPins 23 = .ok (.iconst 0, 1) := by decide +kernel
theorem dX5_bentPins_24 : decode cX5_bentPins 24 = .ok (.iadd, 1) := by decide +kernel
theorem dX5_bentPins_25 : decode cX5_bentPins 25 = .ok (.istore_n 1, 1) := by decide +kernel
theorem dX5_bentPins_26 : decode cX5_bentPins 26 = .ok (.iinc 2 1, 3) := by decide +kernel
theorem dX5_bentPins_29 : decode cX5_bentPins 29 = .ok (.goto (-25), 3) := by decide +kernel
theorem dX5_bentPins_32 : decode cX5_bentPins 32 = .ok (.iload_n 1, 1) := by decide +kernel
theorem dX5_bentPins_33 : decode cX5_bentPins 33 = .ok (.ireturn, 1) := by decide +kernel
theorem dX5_bentAt_0 : decode cX5_bentAt 0 = .ok (.iconst (-1), 1) := by decide +kernel
theorem dX5_bentAt_1 : decode cX5_bentAt 1 = .ok (.istore_n 2, 1) := by decide +kernel
theorem dX5_bentAt_2 : decode cX5_bentAt 2 = .ok (.iconst 0, 1) := by decide +kernel
theorem dX5_bentAt_3 : decode cX5_bentAt 3 = .ok (.istore_n 3, 1) := by decide +kernel
theorem dX5_bentAt_4 : decode cX5_bentAt 4 = .ok (.iload_n 3, 1) := by decide +kernel
theorem dX5_bentAt_5 : decode cX5_bentAt 5 = .ok (.bipush 56, 2) := by decide +kernel
theorem dX5_bentAt_7 : decode cX5_bentAt 7 = .ok (.if_icmp .ge 89, 3) := by decide +kernel
theorem dX5_bentAt_10 : decode cX5_bentAt 10 = .ok (.iconst 0, 1) := by decide +kernel
theorem dX5_bentAt_11 : decode cX5_bentAt 11 = .ok (.istore 4, 2) := by decide +kernel
theorem dX5_bentAt_13 : decode cX5_bentAt 13 = .ok (.iconst 0, 1) := by decide +kernel
theorem dX5_bentAt_14 : decode cX5_bentAt 14 = .ok (.istore 5, 2) := by decide +kernel
theorem dX5_bentAt_16 : decode cX5_bentAt 16 = .ok (.iload 5, 2) := by decide +kernel
theorem dX5_bentAt_18 : decode cX5_bentAt 18 = .ok (.bipush 56, 2) := by decide +kernel
theorem dX5_bentAt_20 : decode cX5_bentAt 20 = .ok (.if_icmp .ge 50, 3) := by decide +kernel
theorem dX5_bentAt_23 : decode cX5_bentAt 23 = .ok (.iload 4, 2) := by decide +kernel
theorem dX5_bentAt_25 : decode cX5_bentAt 25 = .ok (.aload_n 0, 1) := by decide +kernel
theorem dX5_bentAt_26 : decode cX5_bentAt 26 = .ok (.iload 5, 2) := by decide +kernel
theorem dX5_bentAt_28 : decode cX5_bentAt 28 = .ok (.invokevirtual 53, 3) := by decide +kernel
theorem dX5_bentAt_31 : decode cX5_bentAt 31 = .ok (.ifCond .eq 29, 3) := by decide +kernel
theorem dX5_bentAt_34 : decode cX5_bentAt 34 = .ok (.aload_n 0, 1) := by decide +kernel
theorem dX5_bentAt_35 : decode cX5_bentAt 35 = .ok (.getfield 7, 3) := by decide +kernel
theorem dX5_bentAt_38 : decode cX5_bentAt 38 = .ok (.bipush 76, 2) := by decide +kernel
theorem dX5_bentAt_40 : decode cX5_bentAt 40 = .ok (.iload 5, 2) := by decide +kernel
theorem dX5_bentAt_42 : decode cX5_bentAt 42 = .ok (.iadd, 1) := by decide +kernel
theorem dX5_bentAt_43 : decode cX5_bentAt 43 = .ok (.iaload, 1) := by decide +kernel
theorem dX5_bentAt_44 : decode cX5_bentAt 44 = .ok (.aload_n 0, 1) := by decide +kernel
theorem dX5_bentAt_45 : decode cX5_bentAt 45 = .ok (.getfield 7, 3) := by decide +kernel
theorem dX5_bentAt_48 : decode cX5_bentAt 48 = .ok (.bipush 76, 2) := by decide +kernel
theorem dX5_bentAt_50 : decode cX5_bentAt 50 = .ok (.iload_n 3, 1) := by decide +kernel
theorem dX5_bentAt_51 : decode cX5_bentAt 51 = .ok (.iadd, 1) := by decide +kernel
theorem dX5_bentAt_52 : decode cX5_bentAt 52 = .ok (.iaload, 1) := by decide +kernel
theorem dX5_bentAt_53 : decode cX5_bentAt 53 = .ok (.if_icmp .ge 7, 3) := by decide +kernel
theorem dX5_bentAt_56 : decode cX5_bentAt 56 = .ok (.iconst 1, 1) := by decide +kernel
theorem dX5_bentAt_57 : decode cX5_bentAt 57 = .ok (.goto 4, 3) := by decide +kernel
theorem dX5_bentAt_60 : decode cX5_bentAt 60 = .ok (.iconst 0, 1) := by decide +kernel
theorem dX5_bentAt_61 : decode cX5_bentAt 61 = .ok (.iadd, 1) := by decide +kernel
theorem dX5_bentAt_62 : decode cX5_bentAt 62 = .ok (.istore 4, 2) := by decide +kernel
theorem dX5_bentAt_64 : decode cX5_bentAt 64 = .ok (.iinc 5 1, 3) := by decide +kernel
theorem dX5_bentAt_67 : decode cX5_bentAt 67 = .ok (.goto (-51), 3) := by decide +kernel
theorem dX5_bentAt_70 : decode cX5_bentAt 70 = .ok (.aload_n 0, 1) := by decide +kernel
theorem dX5_bentAt_71 : decode cX5_bentAt 71 = .ok (.iload_n 3, 1) := by decide +kernel
theorem dX5_bentAt_72 : decode cX5_bentAt 72 = .ok (.invokevirtual 53, 3) := by decide +kernel
theorem dX5_bentAt_75 : decode cX5_bentAt 75 = .ok (.ifCond .eq 13, 3) := by decide +kernel
theorem dX5_bentAt_78 : decode cX5_bentAt 78 = .ok (.iload 4, 2) := by decide +kernel
theorem dX5_bentAt_80 : decode cX5_bentAt 80 = .ok (.iload_n 1, 1) := by decide +kernel
theorem dX5_bentAt_81 : decode cX5_bentAt 81 = .ok (.if_icmp .ne 7, 3) := by decide +kernel
theorem dX5_bentAt_84 : decode cX5_bentAt 84 = .ok (.iload_n 3, 1) := by decide +kernel
theorem dX5_bentAt_85 : decode cX5_bentAt 85 = .ok (.goto 4, 3) := by decide +kernel
theorem dX5_bentAt_88 : decode cX5_bentAt 88 = .ok (.iload_n 2, 1) := by decide +kernel
theorem dX5_bentAt_89 : decode cX5_bentAt 89 = .ok (.istore_n 2, 1) := by decide +kernel
theorem dX5_bentAt_90 : decode cX5_bentAt 90 = .ok (.iinc 3 1, 3) := by decide +kernel
theorem dX5_bentAt_93 : decode cX5_bentAt 93 = .ok (.goto (-89), 3) := by decide +kernel
theorem dX5_bentAt_96 : decode cX5_bentAt 96 = .ok (.iload_n 2, 1) := by decide +kernel
theorem dX5_bentAt_97 : decode cX5_bentAt 97 = .ok (.ireturn, 1) := by decide +kernel
theorem dX5_bent_0 : decode cX5_bent 0 = .ok (.aload_n 0, 1) := by decide +kernel
theorem dX5_bent_1 : decode cX5_bent 1 = .ok (.iload_n 1, 1) := by decide +kernel
theorem dX5_bent_2 : decode cX5_bent 2 = .ok (.ifCond .ge 7, 3) := by decide +kernel
theorem dX5_bent_5 : decode cX5_bent 5 = .ok (.iconst 1, 1) := by decide +kernel
theorem dX5_bent_6 : decode cX5_bent 6 = .ok (.goto 4, 3) := by decide +kernel
theorem dX5_bent_9 : decode cX5_bent 9 = .ok (.iconst 0, 1) := by decide +kernel
theorem dX5_bent_10 : decode cX5_bent 10 = .ok (.putfield 35, 3) := by decide +kernel
theorem dX5_bent_13 : decode cX5_bent 13 = .ok (.aload_n 0, 1) := by decide +kernel
theorem dX5_bent_14 : decode cX5_bent 14 = .ok (.getfield 35, 3) := by decide +kernel
theorem dX5_bent_17 : decode cX5_bent 17 = .ok (.ifCond .le 7, 3) := by decide +kernel
theorem dX5_bent_20 : decode cX5_bent 20 = .ok (.iconst 0, 1) := by decide +kernel
theorem dX5_bent_21 : decode cX5_bent 21 = .ok (.goto 8, 3) := by decide +kernel
theorem dX5_bent_24 : decode cX5_bent 24 = .ok (.aload_n 0, 1) := by decide +kernel
theorem dX5_bent_25 : decode cX5_bent 25 = .ok (.iload_n 1, 1) := by decide +kernel
theorem dX5_bent_26 : decode cX5_bent 26 = .ok (.invokevirtual 140, 3) := by decide +kernel
theorem dX5_bent_29 : decode cX5_bent 29 = .ok (.ireturn, 1) := by decide +kernel
theorem dX5_touched_0 : decode cX5_touched 0 = .ok (.aload_n 0, 1) := by decide +kernel
theorem dX5_touched_1 : decode cX5_touched 1 = .ok (.iload_n 1, 1) := by decide +kernel
theorem dX5_touched_2 : decode cX5_touched 2 = .ok (.invokestatic 57, 3) := by decide +kernel
theorem dX5_touched_5 : decode cX5_touched 5 = .ok (.ifCond .eq 7, 3) := by decide +kernel
theorem dX5_touched_8 : decode cX5_touched 8 = .ok (.iconst 0, 1) := by decide +kernel
theorem dX5_touched_9 : decode cX5_touched 9 = .ok (.goto 4, 3) := by decide +kernel
theorem dX5_touched_12 : decode cX5_touched 12 = .ok (.iconst 1, 1) := by decide +kernel
theorem dX5_touched_13 : decode cX5_touched 13 = .ok (.putfield 35, 3) := by decide +kernel
theorem dX5_touched_16 : decode cX5_touched 16 = .ok (.aload_n 0, 1) := by decide +kernel
theorem dX5_touched_17 : decode cX5_touched 17 = .ok (.getfield 35, 3) := by decide +kernel
theorem dX5_touched_20 : decode cX5_touched 20 = .ok (.ifCond .le 7, 3) := by decide +kernel
theorem dX5_touched_23 : decode cX5_touched 23 = .ok (.iconst 0, 1) := by decide +kernel
theorem dX5_touched_24 : decode cX5_touched 24 = .ok (.goto 13, 3) := by decide +kernel
theorem dX5_touched_27 : decode cX5_touched 27 = .ok (.aload_n 0, 1) := by decide +kernel
theorem dX5_touched_28 : decode cX5_touched 28 = .ok (.getfield 7, 3) := by decide +kernel
theorem dX5_touched_31 : decode cX5_touched 31 = .ok (.sipush 167, 3) := by decide +kernel
theorem dX5_touched_34 : decode cX5_touched 34 = .ok (.iload_n 1, 1) := by decide +kernel
theorem dX5_touched_35 : decode cX5_touched 35 = .ok (.iadd, 1) := by decide +kernel
theorem dX5_touched_36 : decode cX5_touched 36 = .ok (.iaload, 1) := by decide +kernel
theorem dX5_touched_37 : decode cX5_touched 37 = .ok (.ireturn, 1) := by decide +kernel
theorem dX5_pocketNow_0 : decode cX5_pocketNow 0 = .ok (.iload_n 2, 1) := by decide +kernel
theorem dX5_pocketNow_1 : decode cX5_pocketNow 1 = .ok (.iconst 2, 1) := by decide +kernel
theorem dX5_pocketNow_2 : decode cX5_pocketNow 2 = .ok (.if_icmp .ne 19, 3) := by decide +kernel
theorem dX5_pocketNow_5 : decode cX5_pocketNow 5 = .ok (.aload_n 0, 1) := by decide +kernel
theorem dX5_pocketNow_6 : decode cX5_pocketNow 6 = .ok (.iload_n 1, 1) := by decide +kernel
theorem dX5_pocketNow_7 : decode cX5_pocketNow 7 = .ok (.invokevirtual 88, 3) := by decide +kernel
theorem dX5_pocketNow_10 : decode cX5_pocketNow 10 = .ok (.ifCond .eq 7, 3) := by decide +kernel
theorem dX5_pocketNow_13 : decode cX5_pocketNow 13 = .ok (.iconst 1, 1) := by decide +kernel
theorem dX5_pocketNow_14 : decode cX5_pocketNow 14 = .ok (.goto 13, 3) := by decide +kernel
theorem dX5_pocketNow_17 : decode cX5_pocketNow 17 = .ok (.iconst 0, 1) := by decide +kernel
theorem dX5_pocketNow_18 : decode cX5_pocketNow 18 = .ok (.goto 9, 3) := by decide +kernel
theorem dX5_pocketNow_21 : decode cX5_pocketNow 21 = .ok (.aload_n 0, 1) := by decide +kernel
theorem dX5_pocketNow_22 : decode cX5_pocketNow 22 = .ok (.iload_n 1, 1) := by decide +kernel
theorem dX5_pocketNow_23 : decode cX5_pocketNow 23 = .ok (.iload_n 2, 1) := by decide +kernel
theorem dX5_pocketNow_24 : decode cX5_pocketNow 24 = .ok (.invokevirtual 68, 3) := by decide +kernel
theorem dX5_pocketNow_27 : decode cX5_pocketNow 27 = .ok (.ireturn, 1) := by decide +kernel
theorem dX5_pocketOf_0 : decode cX5_pocketOf 0 = .ok (.aload_n 0, 1) := by decide +kernel
theorem dX5_pocketOf_1 : decode cX5_pocketOf 1 = .ok (.iload_n 1, 1) := by decide +kernel
theorem dX5_pocketOf_2 : decode cX5_pocketOf 2 = .ok (.invokestatic 61, 3) := by decide +kernel
theorem dX5_pocketOf_5 : decode cX5_pocketOf 5 = .ok (.ifCond .ne 7, 3) := by decide +kernel
theorem dX5_pocketOf_8 : decode cX5_pocketOf 8 = .ok (.iconst 1, 1) := by decide +kernel
theorem dX5_pocketOf_9 : decode cX5_pocketOf 9 = .ok (.goto 17, 3) := by decide +kernel
theorem dX5_pocketOf_12 : decode cX5_pocketOf 12 = .ok (.iload_n 2, 1) := by decide +kernel
theorem dX5_pocketOf_13 : decode cX5_pocketOf 13 = .ok (.iconst 0, 1) := by decide +kernel
theorem dX5_pocketOf_14 : decode cX5_pocketOf 14 = .ok (.iconst 4, 1) := by decide +kernel
theorem dX5_pocketOf_15 : decode cX5_pocketOf 15 = .ok (.invokestatic 39, 3) := by decide +kernel
theorem dX5_pocketOf_18 : decode cX5_pocketOf 18 = .ok (.ifCond .eq 7, 3) := by decide +kernel
theorem dX5_pocketOf_21 : decode cX5_pocketOf 21 = .ok (.iconst 0, 1) := by decide +kernel
theorem dX5_pocketOf_22 : decode cX5_pocketOf 22 = .ok (.goto 4, 3) := by decide +kernel
theorem dX5_pocketOf_25 : decode cX5_pocketOf 25 = .ok (.iconst 2, 1) := by decide +kernel
theorem dX5_pocketOf_26 : decode cX5_pocketOf 26 = .ok (.putfield 35, 3) := by decide +kernel
theorem dX5_pocketOf_29 : decode cX5_pocketOf 29 = .ok (.aload_n 0, 1) := by decide +kernel
theorem dX5_pocketOf_30 : decode cX5_pocketOf 30 = .ok (.getfield 35, 3) := by decide +kernel
theorem dX5_pocketOf_33 : decode cX5_pocketOf 33 = .ok (.ifCond .le 7, 3) := by decide +kernel
theorem dX5_pocketOf_36 : decode cX5_pocketOf 36 = .ok (.iconst 0, 1) := by decide +kernel
theorem dX5_pocketOf_37 : decode cX5_pocketOf 37 = .ok (.goto 9, 3) := by decide +kernel
theorem dX5_pocketOf_40 : decode cX5_pocketOf 40 = .ok (.aload_n 0, 1) := by decide +kernel
theorem dX5_pocketOf_41 : decode cX5_pocketOf 41 = .ok (.iload_n 1, 1) := by decide +kernel
theorem dX5_pocketOf_42 : decode cX5_pocketOf 42 = .ok (.iload_n 2, 1) := by decide +kernel
theorem dX5_pocketOf_43 : decode cX5_pocketOf 43 = .ok (.invokevirtual 143, 3) := by decide +kernel
theorem dX5_pocketOf_46 : decode cX5_pocketOf 46 = .ok (.ireturn, 1) := by decide +kernel
theorem dX5_reel_0 : decode cX5_reel 0 = .ok (.aload_n 0, 1) := by decide +kernel
theorem dX5_reel_1 : decode cX5_reel 1 = .ok (.iload_n 1, 1) := by decide +kernel
theorem dX5_reel_2 : decode cX5_reel 2 = .ok (.iconst 0, 1) := by decide +kernel
theorem dX5_reel_3 : decode cX5_reel 3 = .ok (.iconst 2, 1) := by decide +kernel
theorem dX5_reel_4 : decode cX5_reel 4 = .ok (.invokestatic 39, 3) := by decide +kernel
theorem dX5_reel_7 : decode cX5_reel 7 = .ok (.ifCond .eq 7, 3) := by decide +kernel
theorem dX5_reel_10 : decode cX5_reel 10 = .ok (.iconst 0, 1) := by decide +kernel
theorem dX5_reel_11 : decode cX5_reel 11 = .ok (.goto 4, 3) := by decide +kernel
theorem dX5_reel_14 : decode cX5_reel 14 = .ok (.iconst 1, 1) := by decide +kernel
theorem dX5_reel_15 : decode cX5_reel 15 = .ok (.putfield 35, 3) := by decide +kernel
theorem dX5_reel_18 : decode cX5_reel 18 = .ok (.aload_n 0, 1) := by decide +kernel
theorem dX5_reel_19 : decode cX5_reel 19 = .ok (.getfield 35, 3) := by decide +kernel
theorem dX5_reel_22 : decode cX5_reel 22 = .ok (.ifCond .le 7, 3) := by decide +kernel
theorem dX5_reel_25 : decode cX5_reel 25 = .ok (.iconst 0, 1) := by decide +kernel
theorem dX5_reel_26 : decode cX5_reel 26 = .ok (.goto 12, 3) := by decide +kernel
theorem dX5_reel_29 : decode cX5_reel 29 = .ok (.aload_n 0, 1) := by decide +kernel
theorem dX5_reel_30 : decode cX5_reel 30 = .ok (.getfield 7, 3) := by decide +kernel
theorem dX5_reel_33 : decode cX5_reel 33 = .ok (.bipush 17, 2) := by decide +kernel
theorem dX5_reel_35 : decode cX5_reel 35 = .ok (.iload_n 1, 1) := by decide +kernel
theorem dX5_reel_36 : decode cX5_reel 36 = .ok (.iadd, 1) := by decide +kernel
theorem dX5_reel_37 : decode cX5_reel 37 = .ok (.iaload, 1) := by decide +kernel
theorem dX5_reel_38 : decode cX5_reel 38 = .ok (.ireturn, 1) := by decide +kernel
theorem dX5_countNow_0 : decode cX5_countNow 0 = .ok (.iload_n 1, 1) := by decide +kernel
theorem dX5_countNow_1 : decode cX5_countNow 1 = .ok (.tableswitch 117 0 16 #[83, 83, 83, 83, 83, 83, 83, 83, 83, 83, 83, 83, 83, 92, 99, 99, 112], 83) := by decide +kernel
theorem dX5_countNow_84 : decode cX5_countNow 84 = .ok (.aload_n 0, 1) := by decide +kernel
theorem dX5_countNow_85 : decode cX5_countNow 85 = .ok (.getfield 7, 3) := by decide +kernel
theorem dX5_countNow_88 : decode cX5_countNow 88 = .ok (.iconst 1, 1) := by decide +kernel
theorem dX5_countNow_89 : decode cX5_countNow 89 = .ok (.iload_n 1, 1) := by decide +kernel
theorem dX5_countNow_90 : decode cX5_countNow 90 = .ok (.iadd, 1) := by decide +kernel
theorem dX5_countNow_91 : decode cX5_countNow 91 = .ok (.iaload, 1) := by decide +kernel
theorem dX5_countNow_92 : decode cX5_countNow 92 = .ok (.ireturn, 1) := by decide +kernel
theorem dX5_countNow_93 : decode cX5_countNow 93 = .ok (.aload_n 0, 1) := by decide +kernel
theorem dX5_countNow_94 : decode cX5_countNow 94 = .ok (.getfield 7, 3) := by decide +kernel
theorem dX5_countNow_97 : decode cX5_countNow 97 = .ok (.iconst 0, 1) := by decide +kernel
theorem dX5_countNow_98 : decode cX5_countNow 98 = .ok (.iaload, 1) := by decide +kernel
theorem dX5_countNow_99 : decode cX5_countNow 99 = .ok (.ireturn, 1) := by decide +kernel
theorem dX5_countNow_100 : decode cX5_countNow 100 = .ok (.aload_n 0, 1) := by decide +kernel
theorem dX5_countNow_101 : decode cX5_countNow 101 = .ok (.getfield 7, 3) := by decide +kernel
theorem dX5_countNow_104 : decode cX5_countNow 104 = .ok (.bipush 14, 2) := by decide +kernel
theorem dX5_countNow_106 : decode cX5_countNow 106 = .ok (.iload_n 1, 1) := by decide +kernel
theorem dX5_countNow_107 : decode cX5_countNow 107 = .ok (.iadd, 1) := by decide +kernel
theorem dX5_countNow_108 : decode cX5_countNow 108 = .ok (.bipush 14, 2) := by decide +kernel
theorem dX5_countNow_110 : decode cX5_countNow 110 = .ok (.isub, 1) := by decide +kernel
theorem dX5_countNow_111 : decode cX5_countNow 111 = .ok (.iaload, 1) := by decide +kernel
theorem dX5_countNow_112 : decode cX5_countNow 112 = .ok (.ireturn, 1) := by decide +kernel
theorem dX5_countNow_113 : decode cX5_countNow 113 = .ok (.aload_n 0, 1) := by decide +kernel
theorem dX5_countNow_114 : decode cX5_countNow 114 = .ok (.invokevirtual 146, 3) := by decide +kernel
theorem dX5_countNow_117 : decode cX5_countNow 117 = .ok (.ireturn, 1) := by decide +kernel
theorem dX5_countNow_118 : decode cX5_countNow 118 = .ok (.aload_n 0, 1) := by decide +kernel
theorem dX5_countNow_119 : decode cX5_countNow 119 = .ok (.getfield 43, 3) := by decide +kernel
theorem dX5_countNow_122 : decode cX5_countNow 122 = .ok (.ireturn, 1) := by decide +kernel
theorem dX5_count_0 : decode cX5_count 0 = .ok (.aload_n 0, 1) := by decide +kernel
theorem dX5_count_1 : decode cX5_count 1 = .ok (.iload_n 1, 1) := by decide +kernel
theorem dX5_count_2 : decode cX5_count 2 = .ok (.iconst 0, 1) := by decide +kernel
theorem dX5_count_3 : decode cX5_count 3 = .ok (.bipush 17, 2) := by decide +kernel
theorem dX5_count_5 : decode cX5_count 5 = .ok (.invokestatic 39, 3) := by decide +kernel
theorem dX5_count_8 : decode cX5_count 8 = .ok (.ifCond .eq 7, 3) := by decide +kernel
theorem dX5_count_11 : decode cX5_count 11 = .ok (.iconst 0, 1) := by decide +kernel
theorem dX5_count_12 : decode cX5_count 12 = .ok (.goto 4, 3) := by decide +kernel
theorem dX5_count_15 : decode cX5_count 15 = .ok (.iconst 1, 1) := by decide +kernel
theorem dX5_count_16 : decode cX5_count 16 = .ok (.putfield 35, 3) := by decide +kernel
theorem dX5_count_19 : decode cX5_count 19 = .ok (.aload_n 0, 1) := by decide +kernel
theorem dX5_count_20 : decode cX5_count 20 = .ok (.getfield 35, 3) := by decide +kernel
theorem dX5_count_23 : decode cX5_count 23 = .ok (.ifCond .le 7, 3) := by decide +kernel
theorem dX5_count_26 : decode cX5_count 26 = .ok (.iconst 0, 1) := by decide +kernel
theorem dX5_count_27 : decode cX5_count 27 = .ok (.goto 8, 3) := by decide +kernel
theorem dX5_count_30 : decode cX5_count 30 = .ok (.aload_n 0, 1) := by decide +kernel
theorem dX5_count_31 : decode cX5_count 31 = .ok (.iload_n 1, 1) := by decide +kernel
theorem dX5_count_32 : decode cX5_count 32 = .ok (.invokevirtual 149, 3) := by decide +kernel
theorem dX5_count_35 : decode cX5_count 35 = .ok (.ireturn, 1) := by decide +kernel
theorem dX5_findWays_0 : decode cX5_findWays 0 = .ok (.iconst 0, 1) := by decide +kernel
theorem dX5_findWays_1 : decode cX5_findWays 1 = .ok (.istore_n 2, 1) := by decide +kernel
theorem dX5_findWays_2 : decode cX5_findWays 2 = .ok (.iload_n 2, 1) := by decide +kernel
theorem dX5_findWays_3 : decode cX5_findWays 3 = .ok (.bipush 7, 2) := by decide +kernel
theorem dX5_findWays_5 : decode cX5_findWays 5 = .ok (.if_icmp .ge 25, 3) := by decide +kernel
theorem dX5_findWays_8 : decode cX5_findWays 8 = .ok (.aload_n 0, 1) := by decide +kernel
theorem dX5_findWays_9 : decode cX5_findWays 9 = .ok (.getfield 25, 3) := by decide +kernel
theorem dX5_findWays_12 : decode cX5_findWays 12 = .ok (.iload_n 2, 1) := by decide +kernel
theorem dX5_findWays_13 : decode cX5_findWays 13 = .ok (.iload_n 2, 1) := by decide +kernel
theorem dX5_findWays_14 : decode cX5_findWays 14 = .ok (.iload_n 1, 1) := by decide +kernel
theorem dX5_findWays_15 : decode cX5_findWays 15 = .ok (.if_icmp .ne 7, 3) := by decide +kernel
theorem dX5_findWays_18 : decode cX5_findWays 18 = .ok (.iconst 1, 1) := by decide +kernel
theorem dX5_findWays_19 : decode cX5_findWays 19 = .ok (.goto 4, 3) := by decide +kernel
theorem dX5_findWays_22 : decode cX5_findWays 22 = .ok (.iconst 0, 1) := by decide +kernel
theorem dX5_findWays_23 : decode cX5_findWays 23 = .ok (.iastore, 1) := by decide +kernel
theorem dX5_findWays_24 : decode cX5_findWays 24 = .ok (.iinc 2 1, 3) := by decide +kernel
theorem dX5_findWays_27 : decode cX5_findWays 27 = .ok (.goto (-25), 3) := by decide +kernel
theorem dX5_findWays_30 : decode cX5_findWays 30 = .ok (.iconst 0, 1) := by decide +kernel
theorem dX5_findWays_31 : decode cX5_findWays 31 = .ok (.istore_n 2, 1) := by decide +kernel
theorem dX5_findWays_32 : decode cX5_findWays 32 = .ok (.iload_n 2, 1) := by decide +kernel
theorem dX5_findWays_33 : decode cX5_findWays 33 = .ok (.bipush 8, 2) := by decide +kernel
theorem dX5_findWays_35 : decode cX5_findWays 35 = .ok (.if_icmp .ge 130, 3) := by decide +kernel
theorem dX5_findWays_38 : decode cX5_findWays 38 = .ok (.iconst 0, 1) := by decide +kernel
theorem dX5_findWays_39 : decode cX5_findWays 39 = .ok (.istore_n 3, 1) := by decide +kernel
theorem dX5_findWays_40 : decode cX5_findWays 40 = .ok (.iload_n 3, 1) := by decide +kernel
theorem dX5_findWays_41 : decode cX5_findWays 41 = .ok (.bipush 7, 2) := by decide +kernel
theorem dX5_findWays_43 : decode cX5_findWays 43 = .ok (.if_icmp .ge 16, 3) := by decide +kernel
theorem dX5_findWays_46 : decode cX5_findWays 46 = .ok (.aload_n 0, 1) := by decide +kernel
theorem dX5_findWays_47 : decode cX5_findWays 47 = .ok (.getfield 28, 3) := by decide +kernel
theorem dX5_findWays_50 : decode cX5_findWays 50 = .ok (.iload_n 3, 1) := by decide +kernel
theorem dX5_findWays_51 : decode cX5_findWays 51 = .ok (.iconst 0, 1) := by decide +kernel
theorem dX5_findWays_52 : decode cX5_findWays 52 = .ok (.iastore, 1) := by decide +kernel
theorem dX5_findWays_53 : decode cX5_findWays 53 = .ok (.iinc 3 1, 3) := by decide +kernel
theorem dX5_findWays_56 : decode cX5_findWays 56 = .ok (.goto (-16), 3) := by decide +kernel
theorem dX5_findWays_59 : decode cX5_findWays 59 = .ok (.iconst 0, 1) := by decide +kernel
theorem dX5_findWays_60 : decode cX5_findWays 60 = .ok (.istore_n 3, 1) := by decide +kernel
theorem dX5_findWays_61 : decode cX5_findWays 61 = .ok (.iload_n 3, 1) := by decide +kernel
theorem dX5_findWays_62 : decode cX5_findWays 62 = .ok (.bipush 7, 2) := by decide +kernel
theorem dX5_findWays_64 : decode cX5_findWays 64 = .ok (.if_icmp .ge 69, 3) := by decide +kernel
theorem dX5_findWays_67 : decode cX5_findWays 67 = .ok (.aload_n 0, 1) := by decide +kernel
theorem dX5_findWays_68 : decode cX5_findWays 68 = .ok (.bipush 7, 2) := by decide +kernel
theorem dX5_findWays_70 : decode cX5_findWays 70 = .ok (.iload_n 2, 1) := by decide +kernel
theorem dX5_findWays_71 : decode cX5_findWays 71 = .ok (.imul, 1) := by decide +kernel
theorem dX5_findWays_72 : decode cX5_findWays 72 = .ok (.iload_n 3, 1) := by decide +kernel
theorem dX5_findWays_73 : decode cX5_findWays 73 = .ok (.iadd, 1) := by decide +kernel
theorem dX5_findWays_74 : decode cX5_findWays 74 = .ok (.invokevirtual 53, 3) := by decide +kernel
theorem dX5_findWays_77 : decode cX5_findWays 77 = .ok (.istore 4, 2) := by decide +kernel
theorem dX5_findWays_79 : decode cX5_findWays 79 = .ok (.iload 4, 2) := by decide +kernel
theorem dX5_findWays_81 : decode cX5_findWays 81 = .ok (.ifCond .gt 22, 3) := by decide +kernel
theorem dX5_findWays_84 : decode cX5_findWays 84 = .ok (.aload_n 0, 1) := by decide +kernel
theorem dX5_findWays_85 : decode cX5_findWays 85 = .ok (.getfield 28, 3) := by decide +kernel
theorem dX5_findWays_88 : decode cX5_findWays 88 = .ok (.iload_n 3, 1) := by decide +kernel
theorem dX5_findWays_89 : decode cX5_findWays 89 = .ok (.iconst (-1), 1) := by decide +kernel
theorem dX5_findWays_90 : decode cX5_findWays 90 = .ok (.invokestatic 85, 3) := by decide +kernel
theorem dX5_findWays_93 : decode cX5_findWays 93 = .ok (.dup2, 1) := by decide +kernel
theorem dX5_findWays_94 : decode cX5_findWays 94 = .ok (.iaload, 1) := by decide +kernel
theorem dX5_findWays_95 : decode cX5_findWays 95 = .ok (.aload_n 0, 1) := by decide +kernel
theorem dX5_findWays_96 : decode cX5_findWays 96 = .ok (.getfield 25, 3) := by decide +kernel
theorem dX5_findWays_99 : decode cX5_findWays 99 = .ok (.iload_n 3, 1) := by decide +kernel
theorem dX5_findWays_100 : decode cX5_findWays 100 = .ok (.iaload, 1) := by decide +kernel
theorem dX5_findWays_101 : decode cX5_findWays 101 = .ok (.iadd, 1) := by decide +kernel
theorem dX5_findWays_102 : decode cX5_findWays 102 = .ok (.iastore, 1) := by decide +kernel
theorem dX5_findWays_103 : decode cX5_findWays 103 = .ok (.iload 4, 2) := by decide +kernel
theorem dX5_findWays_105 : decode cX5_findWays 105 = .ok (.ifCond .lt 22, 3) := by decide +kernel
theorem dX5_findWays_108 : decode cX5_findWays 108 = .ok (.aload_n 0, 1) := by decide +kernel
theorem dX5_findWays_109 : decode cX5_findWays 109 = .ok (.getfield 28, 3) := by decide +kernel
theorem dX5_findWays_112 : decode cX5_findWays 112 = .ok (.iload_n 3, 1) := by decide +kernel
theorem dX5_findWays_113 : decode cX5_findWays 113 = .ok (.iconst 1, 1) := by decide +kernel
theorem dX5_findWays_114 : decode cX5_findWays 114 = .ok (.invokestatic 85, 3) := by decide +kernel
theorem dX5_findWays_117 : decode cX5_findWays 117 = .ok (.dup2, 1) := by decide +kernel
theorem dX5_findWays_118 : decode cX5_findWays 118 = .ok (.iaload, 1) := by decide +kernel
theorem dX5_findWays_119 : decode cX5_findWays 119 = .ok (.aload_n 0, 1) := by decide +kernel
theorem dX5_findWays_120 : decode cX5_findWays 120 = .ok (.getfield 25, 3) := by decide +kernel
theorem dX5_findWays_123 : decode cX5_findWays 123 = .ok (.iload_n 3, 1) := by decide +kernel
theorem dX5_findWays_124 : decode cX5_findWays 124 = .ok (.iaload, 1) := by decide +kernel
theorem dX5_findWays_125 : decode cX5_findWays 125 = .ok (.iadd, 1) := by decide +kernel
theorem dX5_findWays_126 : decode cX5_findWays 126 = .ok (.iastore, 1) := by decide +kernel
theorem dX5_findWays_127 : decode cX5_findWays 127 = .ok (.iinc 3 1, 3) := by decide +kernel
theorem dX5_findWays_130 : decode cX5_findWays 130 = .ok (.goto (-69), 3) := by decide +kernel
theorem dX5_findWays_133 : decode cX5_findWays 133 = .ok (.iconst 0, 1) := by decide +kernel
theorem dX5_findWays_134 : decode cX5_findWays 134 = .ok (.istore_n 3, 1) := by decide +kernel
theorem dX5_findWays_135 : decode cX5_findWays 135 = .ok (.iload_n 3, 1) := by decide +kernel
theorem dX5_findWays_136 : decode cX5_findWays 136 = .ok (.bipush 7, 2) := by decide +kernel
theorem dX5_findWays_138 : decode cX5_findWays 138 = .ok (.if_icmp .ge 21, 3) := by decide +kernel
theorem dX5_findWays_141 : decode cX5_findWays 141 = .ok (.aload_n 0, 1) := by decide +kernel
theorem dX5_findWays_142 : decode cX5_findWays 142 = .ok (.getfield 25, 3) := by decide +kernel
theorem dX5_findWays_145 : decode cX5_findWays 145 = .ok (.iload_n 3, 1) := by decide +kernel
theorem dX5_findWays_146 : decode cX5_findWays 146 = .ok (.aload_n 0, 1) := by decide +kernel
theorem dX5_findWays_147 : decode cX5_findWays 147 = .ok (.getfield 28, 3) := by decide +kernel
theorem dX5_findWays_150 : decode cX5_findWays 150 = .ok (.iload_n 3, 1) := by decide +kernel
theorem dX5_findWays_151 : decode cX5_findWays 151 = .ok (.iaload, 1) := by decide +kernel
theorem dX5_findWays_152 : decode cX5_findWays 152 = .ok (.iastore, 1) := by decide +kernel
theorem dX5_findWays_153 : decode cX5_findWays 153 = .ok (.iinc 3 1, 3) := by decide +kernel
theorem dX5_findWays_156 : decode cX5_findWays 156 = .ok (.goto (-21), 3) := by decide +kernel
theorem dX5_findWays_159 : decode cX5_findWays 159 = .ok (.iinc 2 1, 3) := by decide +kernel
theorem dX5_findWays_162 : decode cX5_findWays 162 = .ok (.goto (-130), 3) := by decide +kernel
theorem dX5_findWays_165 : decode cX5_findWays 165 = .ok (.return_, 1) := by decide +kernel
theorem dX5_waysTo_0 : decode cX5_waysTo 0 = .ok (.aload_n 0, 1) := by decide +kernel
theorem dX5_waysTo_1 : decode cX5_waysTo 1 = .ok (.iload_n 1, 1) := by decide +kernel
theorem dX5_waysTo_2 : decode cX5_waysTo 2 = .ok (.invokevirtual 152, 3) := by decide +kernel
theorem dX5_waysTo_5 : decode cX5_waysTo 5 = .ok (.aload_n 0, 1) := by decide +kernel
theorem dX5_waysTo_6 : decode cX5_waysTo 6 = .ok (.getfield 25, 3) := by decide +kernel
theorem dX5_waysTo_9 : decode cX5_waysTo 9 = .ok (.iload_n 2, 1) := by decide +kernel
theorem dX5_waysTo_10 : decode cX5_waysTo 10 = .ok (.iaload, 1) := by decide +kernel
theorem dX5_waysTo_11 : decode cX5_waysTo 11 = .ok (.ireturn, 1) := by decide +kernel
theorem dX5_ways_0 : decode cX5_ways 0 = .ok (.aload_n 0, 1) := by decide +kernel
theorem dX5_ways_1 : decode cX5_ways 1 = .ok (.iload_n 1, 1) := by decide +kernel
theorem dX5_ways_2 : decode cX5_ways 2 = .ok (.invokestatic 61, 3) := by decide +kernel
theorem dX5_ways_5 : decode cX5_ways 5 = .ok (.ifCond .eq 14, 3) := by decide +kernel
theorem dX5_ways_8 : decode cX5_ways 8 = .ok (.iload_n 2, 1) := by decide +kernel
theorem dX5_ways_9 : decode cX5_ways 9 = .ok (.invokestatic 61, 3) := by decide +kernel
theorem dX5_ways_12 : decode cX5_ways 12 = .ok (.ifCond .eq 7, 3) := by decide +kernel
theorem dX5_ways_15 : decode cX5_ways 15 = .ok (.iconst 0, 1) := by decide +kernel
theorem dX5_ways_16 : decode cX5_ways 16 = .ok (.goto 4, 3) := by decide +kernel
theorem dX5_ways_19 : decode cX5_ways 19 = .ok (.iconst 1, 1) := by decide +kernel
theorem dX5_ways_20 : decode cX5_ways 20 = .ok (.putfield 35, 3) := by decide +kernel
theorem dX5_ways_23 : decode cX5_ways 23 = .ok (.aload_n 0, 1) := by decide +kernel
theorem dX5_ways_24 : decode cX5_ways 24 = .ok (.getfield 35, 3) := by decide +kernel
theorem dX5_ways_27 : decode cX5_ways 27 = .ok (.ifCond .le 7, 3) := by decide +kernel
theorem dX5_ways_30 : decode cX5_ways 30 = .ok (.iconst 0, 1) := by decide +kernel
theorem dX5_ways_31 : decode cX5_ways 31 = .ok (.goto 9, 3) := by decide +kernel
theorem dX5_ways_34 : decode cX5_ways 34 = .ok (.aload_n 0, 1) := by decide +kernel
theorem dX5_ways_35 : decode cX5_ways 35 = .ok (.iload_n 1, 1) := by decide +kernel
theorem dX5_ways_36 : decode cX5_ways 36 = .ok (.iload_n 2, 1) := by decide +kernel
theorem dX5_ways_37 : decode cX5_ways 37 = .ok (.invokevirtual 156, 3) := by decide +kernel
theorem dX5_ways_40 : decode cX5_ways 40 = .ok (.ireturn, 1) := by decide +kernel
theorem dX5_walked_0 : decode cX5_walked 0 = .ok (.aload_n 0, 1) := by decide +kernel
theorem dX5_walked_1 : decode cX5_walked 1 = .ok (.iload_n 1, 1) := by decide +kernel
theorem dX5_walked_2 : decode cX5_walked 2 = .ok (.iload_n 2, 1) := by decide +kernel
theorem dX5_walked_3 : decode cX5_walked 3 = .ok (.invokevirtual 159, 3) := by decide +kernel
theorem dX5_walked_6 : decode cX5_walked 6 = .ok (.ireturn, 1) := by decide +kernel
theorem dX5_launched_0 : decode cX5_launched 0 = .ok (.aload_n 0, 1) := by decide +kernel
theorem dX5_launched_1 : decode cX5_launched 1 = .ok (.invokevirtual 162, 3) := by decide +kernel
theorem dX5_launched_4 : decode cX5_launched 4 = .ok (.aload_n 0, 1) := by decide +kernel
theorem dX5_launched_5 : decode cX5_launched 5 = .ok (.iload_n 1, 1) := by decide +kernel
theorem dX5_launched_6 : decode cX5_launched 6 = .ok (.invokevirtual 103, 3) := by decide +kernel
theorem dX5_launched_9 : decode cX5_launched 9 = .ok (.istore_n 3, 1) := by decide +kernel
theorem dX5_launched_10 : decode cX5_launched 10 = .ok (.iload_n 2, 1) := by decide +kernel
theorem dX5_launched_11 : decode cX5_launched 11 = .ok (.ifCond .ne 13, 3) := by decide +kernel
theorem dX5_launched_14 : decode cX5_launched 14 = .ok (.aload_n 0, 1) := by decide +kernel
theorem dX5_launched_15 : decode cX5_launched 15 = .ok (.getfield 7, 3) := by decide +kernel
theorem dX5_launched_18 : decode cX5_launched 18 = .ok (.bipush 12, 2) := by decide +kernel
theorem dX5_launched_20 : decode cX5_launched 20 = .ok (.iaload, 1) := by decide +kernel
theorem dX5_launched_21 : decode cX5_launched 21 = .ok (.goto 34, 3) := by decide +kernel
theorem dX5_launched_24 : decode cX5_launched 24 = .ok (.iload_n 2, 1) := by decide +kernel
theorem dX5_launched_25 : decode cX5_launched 25 = .ok (.iconst 1, 1) := by decide +kernel
theorem dX5_launched_26 : decode cX5_launched 26 = .ok (.if_icmp .ne 7, 3) := by decide +kernel
theorem dX5_launched_29 : decode cX5_launched 29 = .ok (.iload_n 3, 1) := by decide +kernel
theorem dX5_launched_30 : decode cX5_launched 30 = .ok (.goto 25, 3) := by decide +kernel
theorem dX5_launched_33 : decode cX5_launched 33 = .ok (.iload_n 2, 1) := by decide +kernel
theorem dX5_launched_34 : decode cX5_launched 34 = .ok (.iconst 2, 1) := by decide +kernel
theorem dX5_launched_35 : decode cX5_launched 35 = .ok (.if_icmp .ne 13, 3) := by decide +kernel
theorem dX5_launched_38 : decode cX5_launched 38 = .ok (.aload_n 0, 1) := by decide +kernel
theorem dX5_launched_39 : decode cX5_launched 39 = .ok (.getfield 7, 3) := by decide +kernel
theorem dX5_launched_42 : decode cX5_launched 42 = .ok (.bipush 7, 2) := by decide +kernel
theorem dX5_launched_44 : decode cX5_launched 44 = .ok (.iaload, 1) := by decide +kernel
theorem dX5_launched_45 : decode cX5_launched 45 = .ok (.goto 10, 3) := by decide +kernel
theorem dX5_launched_48 : decode cX5_launched 48 = .ok (.aload_n 0, 1) := by decide +kernel
theorem dX5_launched_49 : decode cX5_launched 49 = .ok (.getfield 7, 3) := by decide +kernel
theorem dX5_launched_52 : decode cX5_launched 52 = .ok (.bipush 10, 2) := by decide +kernel
theorem dX5_launched_54 : decode cX5_launched 54 = .ok (.iaload, 1) := by decide +kernel
theorem dX5_launched_55 : decode cX5_launched 55 = .ok (.istore 4, 2) := by decide +kernel
theorem dX5_launched_57 : decode cX5_launched 57 = .ok (.aload_n 0, 1) := by decide +kernel
theorem dX5_launched_58 : decode cX5_launched 58 = .ok (.invokevirtual 165, 3) := by decide +kernel
theorem dX5_launched_61 : decode cX5_launched 61 = .ok (.iload 4, 2) := by decide +kernel
theorem dX5_launched_63 : decode cX5_launched 63 = .ok (.ireturn, 1) := by decide +kernel
theorem dX5_ifLaunched_0 : decode cX5_ifLaunched 0 = .ok (.aload_n 0, 1) := by decide +kernel
theorem dX5_ifLaunched_1 : decode cX5_ifLaunched 1 = .ok (.iload_n 1, 1) := by decide +kernel
theorem dX5_ifLaunched_2 : decode cX5_ifLaunched 2 = .ok (.invokestatic 61, 3) := by decide +kernel
theorem dX5_ifLaunched_5 : decode cX5_ifLaunched 5 = .ok (.ifCond .ne 7, 3) := by decide +kernel
theorem dX5_ifLaunched_8 : decode cX5_ifLaunched 8 = .ok (.iconst 1, 1) := by decide +kernel
theorem dX5_ifLaunched_9 : decode cX5_ifLaunched 9 = .ok (.goto 17, 3) := by decide +kernel
theorem dX5_ifLaunched_12 : decode cX5_ifLaunched 12 = .ok (.iload_n 2, 1) := by decide +kernel
theorem dX5_ifLaunched_13 : decode cX5_ifLaunched 13 = .ok (.iconst 0, 1) := by decide +kernel
theorem dX5_ifLaunched_14 : decode cX5_ifLaunched 14 = .ok (.iconst 3, 1) := by decide +kernel
theorem dX5_ifLaunched_15 : decode cX5_ifLaunched 15 = .ok (.invokestatic 39, 3) := by decide +kernel
theorem dX5_ifLaunched_18 : decode cX5_ifLaunched 18 = .ok (.ifCond .eq 7, 3) := by decide +kernel
theorem dX5_ifLaunched_21 : decode cX5_ifLaunched 21 = .ok (.iconst 0, 1) := by decide +kernel
theorem dX5_ifLaunched_22 : decode cX5_ifLaunched 22 = .ok (.goto 4, 3) := by decide +kernel
theorem dX5_ifLaunched_25 : decode cX5_ifLaunched 25 = .ok (.iconst 2, 1) := by decide +kernel
theorem dX5_ifLaunched_26 : decode cX5_ifLaunched 26 = .ok (.putfield 35, 3) := by decide +kernel
theorem dX5_ifLaunched_29 : decode cX5_ifLaunched 29 = .ok (.aload_n 0, 1) := by decide +kernel
theorem dX5_ifLaunched_30 : decode cX5_ifLaunched 30 = .ok (.getfield 35, 3) := by decide +kernel
theorem dX5_ifLaunched_33 : decode cX5_ifLaunched 33 = .ok (.ifCond .le 7, 3) := by decide +kernel
theorem dX5_ifLaunched_36 : decode cX5_ifLaunched 36 = .ok (.iconst 0, 1) := by decide +kernel
theorem dX5_ifLaunched_37 : decode cX5_ifLaunched 37 = .ok (.goto 9, 3) := by decide +kernel
theorem dX5_ifLaunched_40 : decode cX5_ifLaunched 40 = .ok (.aload_n 0, 1) := by decide +kernel
theorem dX5_ifLaunched_41 : decode cX5_ifLaunched 41 = .ok (.iload_n 1, 1) := by decide +kernel
theorem dX5_ifLaunched_42 : decode cX5_ifLaunched 42 = .ok (.iload_n 2, 1) := by decide +kernel
theorem dX5_ifLaunched_43 : decode cX5_ifLaunched 43 = .ok (.invokevirtual 168, 3) := by decide +kernel
theorem dX5_ifLaunched_46 : decode cX5_ifLaunched 46 = .ok (.ireturn, 1) := by decide +kernel
theorem dX5_findBestColumn_0 : decode cX5_findBestColumn 0 = .ok (.iconst (-1), 1) := by decide +kernel
theorem dX5_findBestColumn_1 : decode cX5_findBestColumn 1 = .ok (.istore_n 1, 1) := by decide +kernel
theorem dX5_findBestColumn_2 : decode cX5_findBestColumn 2 = .ok (.iconst (-1), 1) := by decide +kernel
theorem dX5_findBestColumn_3 : decode cX5_findBestColumn 3 = .ok (.istore_n 2, 1) := by decide +kernel
theorem dX5_findBestColumn_4 : decode cX5_findBestColumn 4 = .ok (.iconst 0, 1) := by decide +kernel
theorem dX5_findBestColumn_5 : decode cX5_findBestColumn 5 = .ok (.istore_n 3, 1) := by decide +kernel
theorem dX5_findBestColumn_6 : decode cX5_findBestColumn 6 = .ok (.iload_n 3, 1) := by decide +kernel
theorem dX5_findBestColumn_7 : decode cX5_findBestColumn 7 = .ok (.bipush 7, 2) := by decide +kernel
theorem dX5_findBestColumn_9 : decode cX5_findBestColumn 9 = .ok (.if_icmp .ge 117, 3) := by decide +kernel
theorem dX5_findBestColumn_12 : decode cX5_findBestColumn 12 = .ok (.aload_n 0, 1) := by decide +kernel
theorem dX5_findBestColumn_13 : decode cX5_findBestColumn 13 = .ok (.iload_n 3, 1) := by decide +kernel
theorem dX5_findBestColumn_14 : decode cX5_findBestColumn 14 = .ok (.invokevirtual 152, 3) := by decide +kernel
theorem dX5_findBestColumn_17 : decode cX5_findBestColumn 17 = .ok (.iconst 0, 1) := by decide +kernel
theorem dX5_findBestColumn_18 : decode cX5_findBestColumn 18 = .ok (.istore 4, 2) := by decide +kernel
theorem dX5_findBestColumn_20 : decode cX5_findBestColumn 20 = .ok (.iconst 0, 1) := by decide +kernel
theorem dX5_findBestColumn_21 : decode cX5_findBestColumn 21 = .ok (.istore 5, 2) := by decide +kernel
theorem dX5_findBestColumn_23 : decode cX5_findBestColumn 23 = .ok (.iconst 0, 1) := by decide +kernel
theorem dX5_findBestColumn_24 : decode cX5_findBestColumn 24 = .ok (.istore 6, 2) := by decide +kernel
theorem dX5_findBestColumn_26 : decode cX5_findBestColumn 26 = .ok (.iload 6, 2) := by decide +kernel
theorem dX5_findBestColumn_28 : decode cX5_findBestColumn 28 = .ok (.bipush 7, 2) := by decide +kernel
theorem dX5_findBestColumn_30 : decode cX5_findBestColumn 30 = .ok (.if_icmp .ge 54, 3) := by decide +kernel
theorem dX5_findBestColumn_33 : decode cX5_findBestColumn 33 = .ok (.iload 4, 2) := by decide +kernel
theorem dX5_findBestColumn_35 : decode cX5_findBestColumn 35 = .ok (.aload_n 0, 1) := by decide +kernel
theorem dX5_findBestColumn_36 : decode cX5_findBestColumn 36 = .ok (.iload 6, 2) := by decide +kernel
theorem dX5_findBestColumn_38 : decode cX5_findBestColumn 38 = .ok (.invokevirtual 88, 3) := by decide +kernel
theorem dX5_findBestColumn_41 : decode cX5_findBestColumn 41 = .ok (.ifCond .eq 21, 3) := by decide +kernel
theorem dX5_findBestColumn_44 : decode cX5_findBestColumn 44 = .ok (.aload_n 0, 1) := by decide +kernel
theorem dX5_findBestColumn_45 : decode cX5_findBestColumn 45 = .ok (.getfield 25, 3) := by decide +kernel
theorem dX5_findBestColumn_48 : decode cX5_findBestColumn 48 = .ok (.iload 6, 2) := by decide +kernel
theorem dX5_findBestColumn_50 : decode cX5_findBestColumn 50 = .ok (.iaload, 1) := by decide +kernel
theorem dX5_findBestColumn_51 : decode cX5_findBestColumn 51 = .ok (.aload_n 0, 1) := by decide +kernel
theorem dX5_findBestColumn_52 : decode cX5_findBestColumn 52 = .ok (.iload 6, 2) := by decide +kernel
theorem dX5_findBestColumn_54 : decode cX5_findBestColumn 54 = .ok (.iconst 1, 1) := by decide +kernel
theorem dX5_findBestColumn_55 : decode cX5_findBestColumn 55 = .ok (.invokevirtual 68, 3) := by decide +kernel
theorem dX5_findBestColumn_58 : decode cX5_findBestColumn 58 = .ok (.imul, 1) := by decide +kernel
theorem dX5_findBestColumn_59 : decode cX5_findBestColumn 59 = .ok (.goto 4, 3) := by decide +kernel
theorem dX5_findBestColumn_62 : decode cX5_findBestColumn 62 = .ok (.iconst 0, 1) := by decide +kernel
theorem dX5_findBestColumn_63 : decode cX5_findBestColumn 63 = .ok (.iadd, 1) := by decide +kernel
theorem dX5_findBestColumn_64 : decode cX5_findBestColumn 64 = .ok (.istore 4, 2) := by decide +kernel
theorem dX5_findBestColumn_66 : decode cX5_findBestColumn 66 = .ok (.iload 5, 2) := by decide +kernel
theorem dX5_findBestColumn_68 : decode cX5_findBestColumn 68 = .ok (.aload_n 0, 1) := by decide +kernel
theorem dX5_findBestColumn_69 : decode cX5_findBestColumn 69 = .ok (.getfield 25, 3) := by decide +kernel
theorem dX5_findBestColumn_72 : decode cX5_findBestColumn 72 = .ok (.iload 6, 2) := by decide +kernel
theorem dX5_findBestColumn_74 : decode cX5_findBestColumn 74 = .ok (.iaload, 1) := by decide +kernel
theorem dX5_findBestColumn_75 : decode cX5_findBestColumn 75 = .ok (.iadd, 1) := by decide +kernel
theorem dX5_findBestColumn_76 : decode cX5_findBestColumn 76 = .ok (.istore 5, 2) := by decide +kernel
theorem dX5_findBestColumn_78 : decode cX5_findBestColumn 78 = .ok (.iinc 6 1, 3) := by decide +kernel
theorem dX5_findBestColumn_81 : decode cX5_findBestColumn 81 = .ok (.goto (-55), 3) := by decide +kernel
theorem dX5_findBestColumn_84 : decode cX5_findBestColumn 84 = .ok (.iload 4, 2) := by decide +kernel
theorem dX5_findBestColumn_86 : decode cX5_findBestColumn 86 = .ok (.sipush 1000, 3) := by decide +kernel
theorem dX5_findBestColumn_89 : decode cX5_findBestColumn 89 = .ok (.imul, 1) := by decide +kernel
theorem dX5_findBestColumn_90 : decode cX5_findBestColumn 90 = .ok (.iload 5, 2) := by decide +kernel
theorem dX5_findBestColumn_92 : decode cX5_findBestColumn 92 = .ok (.idiv, 1) := by decide +kernel
theorem dX5_findBestColumn_93 : decode cX5_findBestColumn 93 = .ok (.istore 6, 2) := by decide +kernel
theorem dX5_findBestColumn_95 : decode cX5_findBestColumn 95 = .ok (.iload 6, 2) := by decide +kernel
theorem dX5_findBestColumn_97 : decode cX5_findBestColumn 97 = .ok (.iload_n 2, 1) := by decide +kernel
theorem dX5_findBestColumn_98 : decode cX5_findBestColumn 98 = .ok (.if_icmp .le 7, 3) := by decide +kernel
theorem dX5_findBestColumn_101 : decode cX5_findBestColumn 101 = .ok (.iload_n 3, 1) := by decide +kernel
theorem dX5_findBestColumn_102 : decode cX5_findBestColumn 102 = .ok (.goto 4, 3) := by decide +kernel
theorem dX5_findBestColumn_105 : decode cX5_findBestColumn 105 = .ok (.iload_n 1, 1) := by decide +kernel
theorem dX5_findBestColumn_106 : decode cX5_findBestColumn 106 = .ok (.istore_n 1, 1) := by decide +kernel
theorem dX5_findBestColumn_107 : decode cX5_findBestColumn 107 = .ok (.iload 6, 2) := by decide +kernel
theorem dX5_findBestColumn_109 : decode cX5_findBestColumn 109 = .ok (.iload_n 2, 1) := by decide +kernel
theorem dX5_findBestColumn_110 : decode cX5_findBestColumn 110 = .ok (.if_icmp .le 8, 3) := by decide +kernel
theorem dX5_findBestColumn_113 : decode cX5_findBestColumn 113 = .ok (.iload 6, 2) := by decide +kernel
theorem dX5_findBestColumn_115 : decode cX5_findBestColumn 115 = .ok (.goto 4, 3) := by decide +kernel
theorem dX5_findBestColumn_118 : decode cX5_findBestColumn 118 = .ok (.iload_n 2, 1) := by decide +kernel
theorem dX5_findBestColumn_119 : decode cX5_findBestColumn 119 = .ok (.istore_n 2, 1) := by decide +kernel
theorem dX5_findBestColumn_120 : decode cX5_findBestColumn 120 = .ok (.iinc 3 1, 3) := by decide +kernel
theorem dX5_findBestColumn_123 : decode cX5_findBestColumn 123 = .ok (.goto (-117), 3) := by decide +kernel
theorem dX5_findBestColumn_126 : decode cX5_findBestColumn 126 = .ok (.iload_n 1, 1) := by decide +kernel
theorem dX5_findBestColumn_127 : decode cX5_findBestColumn 127 = .ok (.ireturn, 1) := by decide +kernel
theorem dX5_bestColumn_0 : decode cX5_bestColumn 0 = .ok (.aload_n 0, 1) := by decide +kernel
theorem dX5_bestColumn_1 : decode cX5_bestColumn 1 = .ok (.iconst 0, 1) := by decide +kernel
theorem dX5_bestColumn_2 : decode cX5_bestColumn 2 = .ok (.putfield 35, 3) := by decide +kernel
theorem dX5_bestColumn_5 : decode cX5_bestColumn 5 = .ok (.aload_n 0, 1) := by decide +kernel
theorem dX5_bestColumn_6 : decode cX5_bestColumn 6 = .ok (.invokevirtual 171, 3) := by decide +kernel
theorem dX5_bestColumn_9 : decode cX5_bestColumn 9 = .ok (.ireturn, 1) := by decide +kernel
theorem dX5_launchesToOpen_0 : decode cX5_launchesToOpen 0 = .ok (.aload_n 0, 1) := by decide +kernel
theorem dX5_launchesToOpen_1 : decode cX5_launchesToOpen 1 = .ok (.invokevirtual 162, 3) := by decide +kernel
theorem dX5_launchesToOpen_4 : decode cX5_launchesToOpen 4 = .ok (.iconst 0, 1) := by decide +kernel
theorem dX5_launchesToOpen_5 : decode cX5_launchesToOpen 5 = .ok (.istore_n 2, 1) := by decide +kernel
theorem dX5_launchesToOpen_6 : decode cX5_launchesToOpen 6 = .ok (.aload_n 0, 1) := by decide +kernel
theorem dX5_launchesToOpen_7 : decode cX5_launchesToOpen 7 = .ok (.getfield 7, 3) := by decide +kernel
theorem dX5_launchesToOpen_10 : decode cX5_launchesToOpen 10 = .ok (.bipush 10, 2) := by decide +kernel
theorem dX5_launchesToOpen_12 : decode cX5_launchesToOpen 12 = .ok (.iaload, 1) := by decide +kernel
theorem dX5_launchesToOpen_13 : decode cX5_launchesToOpen 13 = .ok (.ifCond .ne 22, 3) := by decide +kernel
theorem dX5_launchesToOpen_16 : decode cX5_launchesToOpen 16 = .ok (.iload_n 2, 1) := by decide +kernel
theorem dX5_launchesToOpen_17 : decode cX5_launchesToOpen 17 = .ok (.sipush 200, 3) := by decide +kernel
theorem dX5_launchesToOpen_20 : decode cX5_launchesToOpen 20 = .ok (.if_icmp .gt 15, 3) := by decide +kernel
theorem dX5_launchesToOpen_23 : decode cX5_launchesToOpen 23 = .ok (.aload_n 0, 1) := by decide +kernel
theorem dX5_launchesToOpen_24 : decode cX5_launchesToOpen 24 = .ok (.iload_n 1, 1) := by decide +kernel
theorem dX5_launchesToOpen_25 : decode cX5_launchesToOpen 25 = .ok (.invokevirtual 103, 3) := by decide +kernel
theorem dX5_launchesToOpen_28 : decode cX5_launchesToOpen 28 = .ok (.pop, 1) := by decide +kernel
theorem dX5_launchesToOpen_29 : decode cX5_launchesToOpen 29 = .ok (.iinc 2 1, 3) := by decide +kernel
theorem dX5_launchesToOpen_32 : decode cX5_launchesToOpen 32 = .ok (.goto (-26), 3) := by decide +kernel
theorem dX5_launchesToOpen_35 : decode cX5_launchesToOpen 35 = .ok (.aload_n 0, 1) := by decide +kernel
theorem dX5_launchesToOpen_36 : decode cX5_launchesToOpen 36 = .ok (.invokevirtual 165, 3) := by decide +kernel
theorem dX5_launchesToOpen_39 : decode cX5_launchesToOpen 39 = .ok (.iload_n 2, 1) := by decide +kernel
theorem dX5_launchesToOpen_40 : decode cX5_launchesToOpen 40 = .ok (.sipush 200, 3) := by decide +kernel
theorem dX5_launchesToOpen_43 : decode cX5_launchesToOpen 43 = .ok (.if_icmp .gt 7, 3) := by decide +kernel
theorem dX5_launchesToOpen_46 : decode cX5_launchesToOpen 46 = .ok (.iload_n 2, 1) := by decide +kernel
theorem dX5_launchesToOpen_47 : decode cX5_launchesToOpen 47 = .ok (.goto 4, 3) := by decide +kernel
theorem dX5_launchesToOpen_50 : decode cX5_launchesToOpen 50 = .ok (.iconst (-1), 1) := by decide +kernel
theorem dX5_launchesToOpen_51 : decode cX5_launchesToOpen 51 = .ok (.ireturn, 1) := by decide +kernel
theorem dX5_untilOpen_0 : decode cX5_untilOpen 0 = .ok (.aload_n 0, 1) := by decide +kernel
theorem dX5_untilOpen_1 : decode cX5_untilOpen 1 = .ok (.iload_n 1, 1) := by decide +kernel
theorem dX5_untilOpen_2 : decode cX5_untilOpen 2 = .ok (.invokestatic 61, 3) := by decide +kernel
theorem dX5_untilOpen_5 : decode cX5_untilOpen 5 = .ok (.ifCond .eq 7, 3) := by decide +kernel
theorem dX5_untilOpen_8 : decode cX5_untilOpen 8 = .ok (.iconst 0, 1) := by decide +kernel
theorem dX5_untilOpen_9 : decode cX5_untilOpen 9 = .ok (.goto 4, 3) := by decide +kernel
theorem dX5_untilOpen_12 : decode cX5_untilOpen 12 = .ok (.iconst 1, 1) := by decide +kernel
theorem dX5_untilOpen_13 : decode cX5_untilOpen 13 = .ok (.putfield 35, 3) := by decide +kernel
theorem dX5_untilOpen_16 : decode cX5_untilOpen 16 = .ok (.aload_n 0, 1) := by decide +kernel
theorem dX5_untilOpen_17 : decode cX5_untilOpen 17 = .ok (.getfield 35, 3) := by decide +kernel
theorem dX5_untilOpen_20 : decode cX5_untilOpen 20 = .ok (.ifCond .le 7, 3) := by decide +kernel
theorem dX5_untilOpen_23 : decode cX5_untilOpen 23 = .ok (.iconst 0, 1) := by decide +kernel
theorem dX5_untilOpen_24 : decode cX5_untilOpen 24 = .ok (.goto 8, 3) := by decide +kernel
theorem dX5_untilOpen_27 : decode cX5_untilOpen 27 = .ok (.aload_n 0, 1) := by decide +kernel
theorem dX5_untilOpen_28 : decode cX5_untilOpen 28 = .ok (.iload_n 1, 1) := by decide +kernel
theorem dX5_untilOpen_29 : decode cX5_untilOpen 29 = .ok (.invokevirtual 174, 3) := by decide +kernel
theorem dX5_untilOpen_32 : decode cX5_untilOpen 32 = .ok (.ireturn, 1) := by decide +kernel
theorem dX5_share_0 : decode cX5_share 0 = .ok (.aload_n 0, 1) := by decide +kernel
theorem dX5_share_1 : decode cX5_share 1 = .ok (.getfield 7, 3) := by decide +kernel
theorem dX5_share_4 : decode cX5_share 4 = .ok (.iconst 3, 1) := by decide +kernel
theorem dX5_share_5 : decode cX5_share 5 = .ok (.iaload, 1) := by decide +kernel
theorem dX5_share_6 : decode cX5_share 6 = .ok (.ifCond .ne 7, 3) := by decide +kernel
theorem dX5_share_9 : decode cX5_share 9 = .ok (.dconst 0, 1) := by decide +kernel
theorem dX5_share_10 : decode cX5_share 10 = .ok (.goto 18, 3) := by decide +kernel
theorem dX5_share_13 : decode cX5_share 13 = .ok (.aload_n 0, 1) := by decide +kernel
theorem dX5_share_14 : decode cX5_share 14 = .ok (.getfield 7, 3) := by decide +kernel
theorem dX5_share_17 : decode cX5_share 17 = .ok (.iconst 4, 1) := by decide +kernel
theorem dX5_share_18 : decode cX5_share 18 = .ok (.iaload, 1) := by decide +kernel
theorem dX5_share_19 : decode cX5_share 19 = .ok (.i2d, 1) := by decide +kernel
theorem dX5_share_20 : decode cX5_share 20 = .ok (.aload_n 0, 1) := by decide +kernel
theorem dX5_share_21 : decode cX5_share 21 = .ok (.getfield 7, 3) := by decide +kernel
theorem dX5_share_24 : decode cX5_share 24 = .ok (.iconst 3, 1) := by decide +kernel
theorem dX5_share_25 : decode cX5_share 25 = .ok (.iaload, 1) := by decide +kernel
theorem dX5_share_26 : decode cX5_share 26 = .ok (.i2d, 1) := by decide +kernel
theorem dX5_share_27 : decode cX5_share 27 = .ok (.ddiv, 1) := by decide +kernel
theorem dX5_share_28 : decode cX5_share 28 = .ok (.dreturn, 1) := by decide +kernel
theorem dX5_payback_0 : decode cX5_payback 0 = .ok (.aload_n 0, 1) := by decide +kernel
theorem dX5_payback_1 : decode cX5_payback 1 = .ok (.iconst 0, 1) := by decide +kernel
theorem dX5_payback_2 : decode cX5_payback 2 = .ok (.putfield 35, 3) := by decide +kernel
theorem dX5_payback_5 : decode cX5_payback 5 = .ok (.aload_n 0, 1) := by decide +kernel
theorem dX5_payback_6 : decode cX5_payback 6 = .ok (.invokevirtual 177, 3) := by decide +kernel
theorem dX5_payback_9 : decode cX5_payback 9 = .ok (.dreturn, 1) := by decide +kernel
theorem dX5_digest_0 : decode cX5_digest 0 = .ok (.aload_n 0, 1) := by decide +kernel
theorem dX5_digest_1 : decode cX5_digest 1 = .ok (.iconst 0, 1) := by decide +kernel
theorem dX5_digest_2 : decode cX5_digest 2 = .ok (.putfield 35, 3) := by decide +kernel
theorem dX5_digest_5 : decode cX5_digest 5 = .ok (.ldc2_w 181, 3) := by decide +kernel
theorem dX5_digest_8 : decode cX5_digest 8 = .ok (.lstore_n 1, 1) := by decide +kernel
theorem dX5_digest_9 : decode cX5_digest 9 = .ok (.iconst 0, 1) := by decide +kernel
theorem dX5_digest_10 : decode cX5_digest 10 = .ok (.istore_n 3, 1) := by decide +kernel
theorem dX5_digest_11 : decode cX5_digest 11 = .ok (.iload_n 3, 1) := by decide +kernel
theorem dX5_digest_12 : decode cX5_digest 12 = .ok (.bipush 18, 2) := by decide +kernel
theorem dX5_digest_14 : decode cX5_digest 14 = .ok (.if_icmp .ge 22, 3) := by decide +kernel
theorem dX5_digest_17 : decode cX5_digest 17 = .ok (.ldc2_w 183, 3) := by decide +kernel
theorem dX5_digest_20 : decode cX5_digest 20 = .ok (.lload_n 1, 1) := by decide +kernel
theorem dX5_digest_21 : decode cX5_digest 21 = .ok (.lmul, 1) := by decide +kernel
theorem dX5_digest_22 : decode cX5_digest 22 = .ok (.aload_n 0, 1) := by decide +kernel
theorem dX5_digest_23 : decode cX5_digest 23 = .ok (.iload_n 3, 1) := by decide +kernel
theorem dX5_digest_24 : decode cX5_digest 24 = .ok (.invokevirtual 149, 3) := by decide +kernel
theorem dX5_digest_27 : decode cX5_digest 27 = .ok (.i2l, 1) := by decide +kernel
theorem dX5_digest_28 : decode cX5_digest 28 = .ok (.ladd, 1) := by decide +kernel
theorem dX5_digest_29 : decode cX5_digest 29 = .ok (.lstore_n 1, 1) := by decide +kernel
theorem dX5_digest_30 : decode cX5_digest 30 = .ok (.iinc 3 1, 3) := by decide +kernel
theorem dX5_digest_33 : decode cX5_digest 33 = .ok (.goto (-22), 3) := by decide +kernel
theorem dX5_digest_36 : decode cX5_digest 36 = .ok (.iconst 0, 1) := by decide +kernel
theorem dX5_digest_37 : decode cX5_digest 37 = .ok (.istore_n 3, 1) := by decide +kernel
theorem dX5_digest_38 : decode cX5_digest 38 = .ok (.iload_n 3, 1) := by decide +kernel
theorem dX5_digest_39 : decode cX5_digest 39 = .ok (.bipush 56, 2) := by decide +kernel
theorem dX5_digest_41 : decode cX5_digest 41 = .ok (.if_icmp .ge 24, 3) := by decide +kernel
theorem dX5_digest_44 : decode cX5_digest 44 = .ok (.ldc2_w 183, 3) := by decide +kernel
theorem dX5_digest_47 : decode cX5_digest 47 = .ok (.lload_n 1, 1) := by decide +kernel
theorem dX5_digest_48 : decode cX5_digest 48 = .ok (.lmul, 1) := by decide +kernel
theorem dX5_digest_49 : decode cX5_digest 49 = .ok (.aload_n 0, 1) := by decide +kernel
theorem dX5_digest_50 : decode cX5_digest 50 = .ok (.iload_n 3, 1) := by decide +kernel
theorem dX5_digest_51 : decode cX5_digest 51 = .ok (.invokevirtual 53, 3) := by decide +kernel
theorem dX5_digest_54 : decode cX5_digest 54 = .ok (.i2l, 1) := by decide +kernel
theorem dX5_digest_55 : decode cX5_digest 55 = .ok (.ladd, 1) := by decide +kernel
theorem dX5_digest_56 : decode cX5_digest 56 = .ok (.lconst 1, 1) := by decide +kernel
theorem dX5_digest_57 : decode cX5_digest 57 = .ok (.ladd, 1) := by decide +kernel
theorem dX5_digest_58 : decode cX5_digest 58 = .ok (.lstore_n 1, 1) := by decide +kernel
theorem dX5_digest_59 : decode cX5_digest 59 = .ok (.iinc 3 1, 3) := by decide +kernel
theorem dX5_digest_62 : decode cX5_digest 62 = .ok (.goto (-24), 3) := by decide +kernel
theorem dX5_digest_65 : decode cX5_digest 65 = .ok (.aload_n 0, 1) := by decide +kernel
theorem dX5_digest_66 : decode cX5_digest 66 = .ok (.invokevirtual 146, 3) := by decide +kernel
theorem dX5_digest_69 : decode cX5_digest 69 = .ok (.istore_n 3, 1) := by decide +kernel
theorem dX5_digest_70 : decode cX5_digest 70 = .ok (.iconst 0, 1) := by decide +kernel
theorem dX5_digest_71 : decode cX5_digest 71 = .ok (.istore 4, 2) := by decide +kernel
theorem dX5_digest_73 : decode cX5_digest 73 = .ok (.iload 4, 2) := by decide +kernel
theorem dX5_digest_75 : decode cX5_digest 75 = .ok (.iload_n 3, 1) := by decide +kernel
theorem dX5_digest_76 : decode cX5_digest 76 = .ok (.if_icmp .ge 23, 3) := by decide +kernel
theorem dX5_digest_79 : decode cX5_digest 79 = .ok (.ldc2_w 183, 3) := by decide +kernel
theorem dX5_digest_82 : decode cX5_digest 82 = .ok (.lload_n 1, 1) := by decide +kernel
theorem dX5_digest_83 : decode cX5_digest 83 = .ok (.lmul, 1) := by decide +kernel
theorem dX5_digest_84 : decode cX5_digest 84 = .ok (.aload_n 0, 1) := by decide +kernel
theorem dX5_digest_85 : decode cX5_digest 85 = .ok (.iload 4, 2) := by decide +kernel
theorem dX5_digest_87 : decode cX5_digest 87 = .ok (.invokevirtual 140, 3) := by decide +kernel
theorem dX5_digest_90 : decode cX5_digest 90 = .ok (.i2l, 1) := by decide +kernel
theorem dX5_digest_91 : decode cX5_digest 91 = .ok (.ladd, 1) := by decide +kernel
theorem dX5_digest_92 : decode cX5_digest 92 = .ok (.lstore_n 1, 1) := by decide +kernel
theorem dX5_digest_93 : decode cX5_digest 93 = .ok (.iinc 4 1, 3) := by decide +kernel
theorem dX5_digest_96 : decode cX5_digest 96 = .ok (.goto (-23), 3) := by decide +kernel
theorem dX5_digest_99 : decode cX5_digest 99 = .ok (.iconst 0, 1) := by decide +kernel
theorem dX5_digest_100 : decode cX5_digest 100 = .ok (.istore 4, 2) := by decide +kernel
theorem dX5_digest_102 : decode cX5_digest 102 = .ok (.iload 4, 2) := by decide +kernel
theorem dX5_digest_104 : decode cX5_digest 104 = .ok (.bipush 8, 2) := by decide +kernel
theorem dX5_digest_106 : decode cX5_digest 106 = .ok (.if_icmp .ge 28, 3) := by decide +kernel
theorem dX5_digest_109 : decode cX5_digest 109 = .ok (.ldc2_w 183, 3) := by decide +kernel
theorem dX5_digest_112 : decode cX5_digest 112 = .ok (.lload_n 1, 1) := by decide +kernel
theorem dX5_digest_113 : decode cX5_digest 113 = .ok (.lmul, 1) := by decide +kernel
theorem dX5_digest_114 : decode cX5_digest 114 = .ok (.aload_n 0, 1) := by decide +kernel
theorem dX5_digest_115 : decode cX5_digest 115 = .ok (.getfield 7, 3) := by decide +kernel
theorem dX5_digest_118 : decode cX5_digest 118 = .ok (.sipush 167, 3) := by decide +kernel
theorem dX5_digest_121 : decode cX5_digest 121 = .ok (.iload 4, 2) := by decide +kernel
theorem dX5_digest_123 : decode cX5_digest 123 = .ok (.iadd, 1) := by decide +kernel
theorem dX5_digest_124 : decode cX5_digest 124 = .ok (.iaload, 1) := by decide +kernel
theorem dX5_digest_125 : decode cX5_digest 125 = .ok (.i2l, 1) := by decide +kernel
theorem dX5_digest_126 : decode cX5_digest 126 = .ok (.ladd, 1) := by decide +kernel
theorem dX5_digest_127 : decode cX5_digest 127 = .ok (.lstore_n 1, 1) := by decide +kernel
theorem dX5_digest_128 : decode cX5_digest 128 = .ok (.iinc 4 1, 3) := by decide +kernel
theorem dX5_digest_131 : decode cX5_digest 131 = .ok (.goto (-29), 3) := by decide +kernel
theorem dX5_digest_134 : decode cX5_digest 134 = .ok (.iconst 0, 1) := by decide +kernel
theorem dX5_digest_135 : decode cX5_digest 135 = .ok (.istore 4, 2) := by decide +kernel
theorem dX5_digest_137 : decode cX5_digest 137 = .ok (.iload 4, 2) := by decide +kernel
theorem dX5_digest_139 : decode cX5_digest 139 = .ok (.bipush 7, 2) := by decide +kernel
theorem dX5_digest_141 : decode cX5_digest 141 = .ok (.if_icmp .ge 40, 3) := by decide +kernel
theorem dX5_digest_144 : decode cX5_digest 144 = .ok (.iconst 0, 1) := by decide +kernel
theorem dX5_digest_145 : decode cX5_digest 145 = .ok (.istore 5, 2) := by decide +kernel
theorem dX5_digest_147 : decode cX5_digest 147 = .ok (.iload 5, 2) := by decide +kernel
theorem dX5_digest_149 : decode cX5_digest 149 = .ok (.iconst 5, 1) := by decide +kernel
theorem dX5_digest_150 : decode cX5_digest 150 = .ok (.if_icmp .ge 25, 3) := by decide +kernel
theorem dX5_digest_153 : decode cX5_digest 153 = .ok (.ldc2_w 183, 3) := by decide +kernel
theorem dX5_digest_156 : decode cX5_digest 156 = .ok (.lload_n 1, 1) := by decide +kernel
theorem dX5_digest_157 : decode cX5_digest 157 = .ok (.lmul, 1) := by decide +kernel
theorem dX5_digest_158 : decode cX5_digest 158 = .ok (.aload_n 0, 1) := by decide +kernel
theorem dX5_digest_159 : decode cX5_digest 159 = .ok (.iload 4, 2) := by decide +kernel
theorem dX5_digest_161 : decode cX5_digest 161 = .ok (.iload 5, 2) := by decide +kernel
theorem dX5_digest_163 : decode cX5_digest 163 = .ok (.invokevirtual 143, 3) := by decide +kernel
theorem dX5_digest_166 : decode cX5_digest 166 = .ok (.i2l, 1) := by decide +kernel
theorem dX5_digest_167 : decode cX5_digest 167 = .ok (.ladd, 1) := by decide +kernel
theorem dX5_digest_168 : decode cX5_digest 168 = .ok (.lstore_n 1, 1) := by decide +kernel
theorem dX5_digest_169 : decode cX5_digest 169 = .ok (.iinc 5 1, 3) := by decide +kernel
theorem dX5_digest_172 : decode cX5_digest 172 = .ok (.goto (-25), 3) := by decide +kernel
theorem dX5_digest_175 : decode cX5_digest 175 = .ok (.iinc 4 1, 3) := by decide +kernel
theorem dX5_digest_178 : decode cX5_digest 178 = .ok (.goto (-41), 3) := by decide +kernel
theorem dX5_digest_181 : decode cX5_digest 181 = .ok (.iconst 0, 1) := by decide +kernel
theorem dX5_digest_182 : decode cX5_digest 182 = .ok (.istore 4, 2) := by decide +kernel
theorem dX5_digest_184 : decode cX5_digest 184 = .ok (.iload 4, 2) := by decide +kernel
theorem dX5_digest_186 : decode cX5_digest 186 = .ok (.iconst 3, 1) := by decide +kernel
theorem dX5_digest_187 : decode cX5_digest 187 = .ok (.if_icmp .ge 27, 3) := by decide +kernel
theorem dX5_digest_190 : decode cX5_digest 190 = .ok (.ldc2_w 183, 3) := by decide +kernel
theorem dX5_digest_193 : decode cX5_digest 193 = .ok (.lload_n 1, 1) := by decide +kernel
theorem dX5_digest_194 : decode cX5_digest 194 = .ok (.lmul, 1) := by decide +kernel
theorem dX5_digest_195 : decode cX5_digest 195 = .ok (.aload_n 0, 1) := by decide +kernel
theorem dX5_digest_196 : decode cX5_digest 196 = .ok (.getfield 7, 3) := by decide +kernel
theorem dX5_digest_199 : decode cX5_digest 199 = .ok (.bipush 17, 2) := by decide +kernel
theorem dX5_digest_201 : decode cX5_digest 201 = .ok (.iload 4, 2) := by decide +kernel
theorem dX5_digest_203 : decode cX5_digest 203 = .ok (.iadd, 1) := by decide +kernel
theorem dX5_digest_204 : decode cX5_digest 204 = .ok (.iaload, 1) := by decide +kernel
theorem dX5_digest_205 : decode cX5_digest 205 = .ok (.i2l, 1) := by decide +kernel
theorem dX5_digest_206 : decode cX5_digest 206 = .ok (.ladd, 1) := by decide +kernel
theorem dX5_digest_207 : decode cX5_digest 207 = .ok (.lstore_n 1, 1) := by decide +kernel
theorem dX5_digest_208 : decode cX5_digest 208 = .ok (.iinc 4 1, 3) := by decide +kernel
theorem dX5_digest_211 : decode cX5_digest 211 = .ok (.goto (-27), 3) := by decide +kernel
theorem dX5_digest_214 : decode cX5_digest 214 = .ok (.iconst 0, 1) := by decide +kernel
theorem dX5_digest_215 : decode cX5_digest 215 = .ok (.istore 4, 2) := by decide +kernel
theorem dX5_digest_217 : decode cX5_digest 217 = .ok (.iload 4, 2) := by decide +kernel
theorem dX5_digest_219 : decode cX5_digest 219 = .ok (.bipush 7, 2) := by decide +kernel
theorem dX5_digest_221 : decode cX5_digest 221 = .ok (.if_icmp .ge 100, 3) := by decide +kernel
theorem dX5_digest_224 : decode cX5_digest 224 = .ok (.iconst 0, 1) := by decide +kernel
theorem dX5_digest_225 : decode cX5_digest 225 = .ok (.istore 5, 2) := by decide +kernel
theorem dX5_digest_227 : decode cX5_digest 227 = .ok (.iload 5, 2) := by decide +kernel
theorem dX5_digest_229 : decode cX5_digest 229 = .ok (.bipush 7, 2) := by decide +kernel
theorem dX5_digest_231 : decode cX5_digest 231 = .ok (.if_icmp .ge 39, 3) := by decide +kernel
theorem dX5_digest_234 : decode cX5_digest 234 = .ok (.ldc2_w 183, 3) := by decide +kernel
theorem dX5_digest_237 : decode cX5_digest 237 = .ok (.ldc2_w 183, 3) := by decide +kernel
theorem dX5_digest_240 : decode cX5_digest 240 = .ok (.lload_n 1, 1) := by decide +kernel
theorem dX5_digest_241 : decode cX5_digest 241 = .ok (.lmul, 1) := by decide +kernel
theorem dX5_digest_242 : decode cX5_digest 242 = .ok (.aload_n 0, 1) := by decide +kernel
theorem dX5_digest_243 : decode cX5_digest 243 = .ok (.iload 4, 2) := by decide +kernel
theorem dX5_digest_245 : decode cX5_digest 245 = .ok (.iload 5, 2) := by decide +kernel
theorem dX5_digest_247 : decode cX5_digest 247 = .ok (.invokevirtual 156, 3) := by decide +kernel
theorem dX5_digest_250 : decode cX5_digest 250 = .ok (.i2l, 1) := by decide +kernel
theorem dX5_digest_251 : decode cX5_digest 251 = .ok (.ladd, 1) := by decide +kernel
theorem dX5_digest_252 : decode cX5_digest 252 = .ok (.lmul, 1) := by decide +kernel
theorem dX5_digest_253 : decode cX5_digest 253 = .ok (.aload_n 0, 1) := by decide +kernel
theorem dX5_digest_254 : decode cX5_digest 254 = .ok (.iload 4, 2) := by decide +kernel
theorem dX5_digest_256 : decode cX5_digest 256 = .ok (.iload 5, 2) := by decide +kernel
theorem dX5_digest_258 : decode cX5_digest 258 = .ok (.invokevirtual 156, 3) := by decide +kernel
theorem dX5_digest_261 : decode cX5_digest 261 = .ok (.i2l, 1) := by decide +kernel
theorem dX5_digest_262 : decode cX5_digest 262 = .ok (.ladd, 1) := by decide +kernel
theorem dX5_digest_263 : decode cX5_digest 263 = .ok (.lstore_n 1, 1) := by decide +kernel
theorem dX5_digest_264 : decode cX5_digest 264 = .ok (.iinc 5 1, 3) := by decide +kernel
theorem dX5_digest_267 : decode cX5_digest 267 = .ok (.goto (-40), 3) := by decide +kernel
theorem dX5_digest_270 : decode cX5_digest 270 = .ok (.iconst 0, 1) := by decide +kernel
theorem dX5_digest_271 : decode cX5_digest 271 = .ok (.istore 5, 2) := by decide +kernel
theorem dX5_digest_273 : decode cX5_digest 273 = .ok (.iload 5, 2) := by decide +kernel
theorem dX5_digest_275 : decode cX5_digest 275 = .ok (.iconst 4, 1) := by decide +kernel
theorem dX5_digest_276 : decode cX5_digest 276 = .ok (.if_icmp .ge 25, 3) := by decide +kernel
theorem dX5_digest_279 : decode cX5_digest 279 = .ok (.ldc2_w 183, 3) := by decide +kernel
theorem dX5_digest_282 : decode cX5_digest 282 = .ok (.lload_n 1, 1) := by decide +kernel
theorem dX5_digest_283 : decode cX5_digest 283 = .ok (.lmul, 1) := by decide +kernel
theorem dX5_digest_284 : decode cX5_digest 284 = .ok (.aload_n 0, 1) := by decide +kernel
theorem dX5_digest_285 : decode cX5_digest 285 = .ok (.iload 4, 2) := by decide +kernel
theorem dX5_digest_287 : decode cX5_digest 287 = .ok (.iload 5, 2) := by decide +kernel
theorem dX5_digest_289 : decode cX5_digest 289 = .ok (.invokevirtual 168, 3) := by decide +kernel
theorem dX5_digest_292 : decode cX5_digest 292 = .ok (.i2l, 1) := by decide +kernel
theorem dX5_digest_293 : decode cX5_digest 293 = .ok (.ladd, 1) := by decide +kernel
theorem dX5_digest_294 : decode cX5_digest 294 = .ok (.lstore_n 1, 1) := by decide +kernel
theorem dX5_digest_295 : decode cX5_digest 295 = .ok (.iinc 5 1, 3) := by decide +kernel
theorem dX5_digest_298 : decode cX5_digest 298 = .ok (.goto (-25), 3) := by decide +kernel
theorem dX5_digest_301 : decode cX5_digest 301 = .ok (.ldc2_w 183, 3) := by decide +kernel
theorem dX5_digest_304 : decode cX5_digest 304 = .ok (.lload_n 1, 1) := by decide +kernel
theorem dX5_digest_305 : decode cX5_digest 305 = .ok (.lmul, 1) := by decide +kernel
theorem dX5_digest_306 : decode cX5_digest 306 = .ok (.aload_n 0, 1) := by decide +kernel
theorem dX5_digest_307 : decode cX5_digest 307 = .ok (.iload 4, 2) := by decide +kernel
theorem dX5_digest_309 : decode cX5_digest 309 = .ok (.invokevirtual 174, 3) := by decide +kernel
theorem dX5_digest_312 : decode cX5_digest 312 = .ok (.i2l, 1) := by decide +kernel
theorem dX5_digest_313 : decode cX5_digest 313 = .ok (.ladd, 1) := by decide +kernel
theorem dX5_digest_314 : decode cX5_digest 314 = .ok (.lstore_n 1, 1) := by decide +kernel
theorem dX5_digest_315 : decode cX5_digest 315 = .ok (.iinc 4 1, 3) := by decide +kernel
theorem dX5_digest_318 : decode cX5_digest 318 = .ok (.goto (-101), 3) := by decide +kernel
theorem dX5_digest_321 : decode cX5_digest 321 = .ok (.ldc2_w 183, 3) := by decide +kernel
theorem dX5_digest_324 : decode cX5_digest 324 = .ok (.lload_n 1, 1) := by decide +kernel
theorem dX5_digest_325 : decode cX5_digest 325 = .ok (.lmul, 1) := by decide +kernel
theorem dX5_digest_326 : decode cX5_digest 326 = .ok (.aload_n 0, 1) := by decide +kernel
theorem dX5_digest_327 : decode cX5_digest 327 = .ok (.invokevirtual 171, 3) := by decide +kernel
theorem dX5_digest_330 : decode cX5_digest 330 = .ok (.i2l, 1) := by decide +kernel
theorem dX5_digest_331 : decode cX5_digest 331 = .ok (.ladd, 1) := by decide +kernel
theorem dX5_digest_332 : decode cX5_digest 332 = .ok (.lstore_n 1, 1) := by decide +kernel
theorem dX5_digest_333 : decode cX5_digest 333 = .ok (.ldc2_w 183, 3) := by decide +kernel
theorem dX5_digest_336 : decode cX5_digest 336 = .ok (.lload_n 1, 1) := by decide +kernel
theorem dX5_digest_337 : decode cX5_digest 337 = .ok (.lmul, 1) := by decide +kernel
theorem dX5_digest_338 : decode cX5_digest 338 = .ok (.aload_n 0, 1) := by decide +kernel
theorem dX5_digest_339 : decode cX5_digest 339 = .ok (.invokevirtual 177, 3) := by decide +kernel
theorem dX5_digest_342 : decode cX5_digest 342 = .ok (.invokestatic 185, 3) := by decide +kernel
theorem dX5_digest_345 : decode cX5_digest 345 = .ok (.ladd, 1) := by decide +kernel
theorem dX5_digest_346 : decode cX5_digest 346 = .ok (.lstore_n 1, 1) := by decide +kernel
theorem dX5_digest_347 : decode cX5_digest 347 = .ok (.ldc2_w 183, 3) := by decide +kernel
theorem dX5_digest_350 : decode cX5_digest 350 = .ok (.lload_n 1, 1) := by decide +kernel
theorem dX5_digest_351 : decode cX5_digest 351 = .ok (.lmul, 1) := by decide +kernel
theorem dX5_digest_352 : decode cX5_digest 352 = .ok (.aload_n 0, 1) := by decide +kernel
theorem dX5_digest_353 : decode cX5_digest 353 = .ok (.getfield 109, 3) := by decide +kernel
theorem dX5_digest_356 : decode cX5_digest 356 = .ok (.i2l, 1) := by decide +kernel
theorem dX5_digest_357 : decode cX5_digest 357 = .ok (.ladd, 1) := by decide +kernel
theorem dX5_digest_358 : decode cX5_digest 358 = .ok (.lstore_n 1, 1) := by decide +kernel
theorem dX5_digest_359 : decode cX5_digest 359 = .ok (.iconst 0, 1) := by decide +kernel
theorem dX5_digest_360 : decode cX5_digest 360 = .ok (.istore 4, 2) := by decide +kernel
theorem dX5_digest_362 : decode cX5_digest 362 = .ok (.iload 4, 2) := by decide +kernel
theorem dX5_digest_364 : decode cX5_digest 364 = .ok (.aload_n 0, 1) := by decide +kernel
theorem dX5_digest_365 : decode cX5_digest 365 = .ok (.getfield 109, 3) := by decide +kernel
theorem dX5_digest_368 : decode cX5_digest 368 = .ok (.if_icmp .ge 24, 3) := by decide +kernel
theorem dX5_digest_371 : decode cX5_digest 371 = .ok (.ldc2_w 183, 3) := by decide +kernel
theorem dX5_digest_374 : decode cX5_digest 374 = .ok (.lload_n 1, 1) := by decide +kernel
theorem dX5_digest_375 : decode cX5_digest 375 = .ok (.lmul, 1) := by decide +kernel
theorem dX5_digest_376 : decode cX5_digest 376 = .ok (.aload_n 0, 1) := by decide +kernel
theorem dX5_digest_377 : decode cX5_digest 377 = .ok (.getfield 22, 3) := by decide +kernel
theorem dX5_digest_380 : decode cX5_digest 380 = .ok (.iload 4, 2) := by decide +kernel
theorem dX5_digest_382 : decode cX5_digest 382 = .ok (.iaload, 1) := by decide +kernel
theorem dX5_digest_383 : decode cX5_digest 383 = .ok (.i2l, 1) := by decide +kernel
theorem dX5_digest_384 : decode cX5_digest 384 = .ok (.ladd, 1) := by decide +kernel
theorem dX5_digest_385 : decode cX5_digest 385 = .ok (.lstore_n 1, 1) := by decide +kernel
theorem dX5_digest_386 : decode cX5_digest 386 = .ok (.iinc 4 1, 3) := by decide +kernel
theorem dX5_digest_389 : decode cX5_digest 389 = .ok (.goto (-27), 3) := by decide +kernel
theorem dX5_digest_392 : decode cX5_digest 392 = .ok (.lload_n 1, 1) := by decide +kernel
theorem dX5_digest_393 : decode cX5_digest 393 = .ok (.lreturn, 1) := by decide +kernel
theorem dJxe99ae_isNaN_b9ae7_0 : decode cJxe99ae_isNaN_b9ae7 0 = .ok (.dload_n 0, 1) := by decide +kernel
theorem dJxe99ae_isNaN_b9ae7_1 : decode cJxe99ae_isNaN_b9ae7 1 = .ok (.dload_n 0, 1) := by decide +kernel
theorem dJxe99ae_isNaN_b9ae7_2 : decode cJxe99ae_isNaN_b9ae7 2 = .ok (.dcmp .l, 1) := by decide +kernel
theorem dJxe99ae_isNaN_b9ae7_3 : decode cJxe99ae_isNaN_b9ae7 3 = .ok (.ifCond .eq 7, 3) := by decide +kernel
theorem dJxe99ae_isNaN_b9ae7_6 : decode cJxe99ae_isNaN_b9ae7 6 = .ok (.iconst 1, 1) := by decide +kernel
theorem dJxe99ae_isNaN_b9ae7_7 : decode cJxe99ae_isNaN_b9ae7 7 = .ok (.goto 4, 3) := by decide +kernel
theorem dJxe99ae_isNaN_b9ae7_10 : decode cJxe99ae_isNaN_b9ae7 10 = .ok (.iconst 0, 1) := by decide +kernel
theorem dJxe99ae_isNaN_b9ae7_11 : decode cJxe99ae_isNaN_b9ae7 11 = .ok (.ireturn, 1) := by decide +kernel
theorem dJxe99ae_doubleToLongBits_ccdee_0 : decode cJxe99ae_doubleToLongBits_ccdee 0 = .ok (.dload_n 0, 1) := by decide +kernel
theorem dJxe99ae_doubleToLongBits_ccdee_1 : decode cJxe99ae_doubleToLongBits_ccdee 1 = .ok (.invokestatic 122, 3) := by decide +kernel
theorem dJxe99ae_doubleToLongBits_ccdee_4 : decode cJxe99ae_doubleToLongBits_ccdee 4 = .ok (.ifCond .ne 8, 3) := by decide +kernel
theorem dJxe99ae_doubleToLongBits_ccdee_7 : decode cJxe99ae_doubleToLongBits_ccdee 7 = .ok (.dload_n 0, 1) := by decide +kernel
theorem dJxe99ae_doubleToLongBits_ccdee_8 : decode cJxe99ae_doubleToLongBits_ccdee 8 = .ok (.invokestatic 134, 3) := by decide +kernel
theorem dJxe99ae_doubleToLongBits_ccdee_11 : decode cJxe99ae_doubleToLongBits_ccdee 11 = .ok (.lreturn, 1) := by decide +kernel
theorem dJxe99ae_doubleToLongBits_ccdee_12 : decode cJxe99ae_doubleToLongBits_ccdee 12 = .ok (.ldc2_w 137, 3) := by decide +kernel
theorem dJxe99ae_doubleToLongBits_ccdee_15 : decode cJxe99ae_doubleToLongBits_ccdee 15 = .ok (.lreturn, 1) := by decide +kernel
theorem dJ7_fill_53178_0 : decode cJ7_fill_53178 0 = .ok (.iconst 0, 1) := by decide +kernel
theorem dJ7_fill_53178_1 : decode cJ7_fill_53178 1 = .ok (.istore_n 2, 1) := by decide +kernel
theorem dJ7_fill_53178_2 : decode cJ7_fill_53178 2 = .ok (.aload_n 0, 1) := by decide +kernel
theorem dJ7_fill_53178_3 : decode cJ7_fill_53178 3 = .ok (.arraylength, 1) := by decide +kernel
theorem dJ7_fill_53178_4 : decode cJ7_fill_53178 4 = .ok (.istore_n 3, 1) := by decide +kernel
theorem dJ7_fill_53178_5 : decode cJ7_fill_53178 5 = .ok (.iload_n 2, 1) := by decide +kernel
theorem dJ7_fill_53178_6 : decode cJ7_fill_53178 6 = .ok (.iload_n 3, 1) := by decide +kernel
theorem dJ7_fill_53178_7 : decode cJ7_fill_53178 7 = .ok (.if_icmp .ge 13, 3) := by decide +kernel
theorem dJ7_fill_53178_10 : decode cJ7_fill_53178 10 = .ok (.aload_n 0, 1) := by decide +kernel
theorem dJ7_fill_53178_11 : decode cJ7_fill_53178 11 = .ok (.iload_n 2, 1) := by decide +kernel
theorem dJ7_fill_53178_12 : decode cJ7_fill_53178 12 = .ok (.iload_n 1, 1) := by decide +kernel
theorem dJ7_fill_53178_13 : decode cJ7_fill_53178 13 = .ok (.iastore, 1) := by decide +kernel
theorem dJ7_fill_53178_14 : decode cJ7_fill_53178 14 = .ok (.iinc 2 1, 3) := by decide +kernel
theorem dJ7_fill_53178_17 : decode cJ7_fill_53178 17 = .ok (.goto (-12), 3) := by decide +kernel
theorem dJ7_fill_53178_20 : decode cJ7_fill_53178 20 = .ok (.return_, 1) := by decide +kernel
theorem dL_bend_0 : decode cL_bend 0 = .ok (.aload 4, 2) := by decide +kernel
theorem dL_bend_2 : decode cL_bend 2 = .ok (.iconst 0, 1) := by decide +kernel
theorem dL_bend_3 : decode cL_bend 3 = .ok (.aload_n 0, 1) := by decide +kernel
theorem dL_bend_4 : decode cL_bend 4 = .ok (.iload_n 1, 1) := by decide +kernel
theorem dL_bend_5 : decode cL_bend 5 = .ok (.iload_n 2, 1) := by decide +kernel
theorem dL_bend_6 : decode cL_bend 6 = .ok (.iload_n 3, 1) := by decide +kernel
theorem dL_bend_7 : decode cL_bend 7 = .ok (.invokevirtual 7, 3) := by decide +kernel
theorem dL_bend_10 : decode cL_bend 10 = .ok (.i2l, 1) := by decide +kernel
theorem dL_bend_11 : decode cL_bend 11 = .ok (.lastore, 1) := by decide +kernel
theorem dL_bend_12 : decode cL_bend 12 = .ok (.goto 11, 3) := by decide +kernel
theorem dL_bend_15 : decode cL_bend 15 = .ok (.astore 5, 2) := by decide +kernel
theorem dL_bend_17 : decode cL_bend 17 = .ok (.iconst 1, 1) := by decide +kernel
theorem dL_bend_18 : decode cL_bend 18 = .ok (.ireturn, 1) := by decide +kernel
theorem dL_bend_19 : decode cL_bend 19 = .ok (.astore 5, 2) := by decide +kernel
theorem dL_bend_21 : decode cL_bend 21 = .ok (.iconst 2, 1) := by decide +kernel
theorem dL_bend_22 : decode cL_bend 22 = .ok (.ireturn, 1) := by decide +kernel
theorem dL_bend_23 : decode cL_bend 23 = .ok (.iconst 0, 1) := by decide +kernel
theorem dL_bend_24 : decode cL_bend 24 = .ok (.ireturn, 1) := by decide +kernel
theorem dL_pocket_0 : decode cL_pocket 0 = .ok (.aload 4, 2) := by decide +kernel
theorem dL_pocket_2 : decode cL_pocket 2 = .ok (.iconst 0, 1) := by decide +kernel
theorem dL_pocket_3 : decode cL_pocket 3 = .ok (.aload_n 0, 1) := by decide +kernel
theorem dL_pocket_4 : decode cL_pocket 4 = .ok (.iload_n 1, 1) := by decide +kernel
theorem dL_pocket_5 : decode cL_pocket 5 = .ok (.iload_n 2, 1) := by decide +kernel
theorem dL_pocket_6 : decode cL_pocket 6 = .ok (.iload_n 3, 1) := by decide +kernel
theorem dL_pocket_7 : decode cL_pocket 7 = .ok (.invokevirtual 17, 3) := by decide +kernel
theorem dL_pocket_10 : decode cL_pocket 10 = .ok (.i2l, 1) := by decide +kernel
theorem dL_pocket_11 : decode cL_pocket 11 = .ok (.lastore, 1) := by decide +kernel
theorem dL_pocket_12 : decode cL_pocket 12 = .ok (.goto 11, 3) := by decide +kernel
theorem dL_pocket_15 : decode cL_pocket 15 = .ok (.astore 5, 2) := by decide +kernel
theorem dL_pocket_17 : decode cL_pocket 17 = .ok (.iconst 1, 1) := by decide +kernel
theorem dL_pocket_18 : decode cL_pocket 18 = .ok (.ireturn, 1) := by decide +kernel
theorem dL_pocket_19 : decode cL_pocket 19 = .ok (.astore 5, 2) := by decide +kernel
theorem dL_pocket_21 : decode cL_pocket 21 = .ok (.iconst 2, 1) := by decide +kernel
theorem dL_pocket_22 : decode cL_pocket 22 = .ok (.ireturn, 1) := by decide +kernel
theorem dL_pocket_23 : decode cL_pocket 23 = .ok (.iconst 0, 1) := by decide +kernel
theorem dL_pocket_24 : decode cL_pocket 24 = .ok (.ireturn, 1) := by decide +kernel
theorem dL_start_0 : decode cL_start 0 = .ok (.aload_n 2, 1) := by decide +kernel
theorem dL_start_1 : decode cL_start 1 = .ok (.iconst 0, 1) := by decide +kernel
theorem dL_start_2 : decode cL_start 2 = .ok (.aload_n 0, 1) := by decide +kernel
theorem dL_start_3 : decode cL_start 3 = .ok (.iload_n 1, 1) := by decide +kernel
theorem dL_start_4 : decode cL_start 4 = .ok (.invokevirtual 20, 3) := by decide +kernel
theorem dL_start_7 : decode cL_start 7 = .ok (.i2l, 1) := by decide +kernel
theorem dL_start_8 : decode cL_start 8 = .ok (.lastore, 1) := by decide +kernel
theorem dL_start_9 : decode cL_start 9 = .ok (.goto 6, 3) := by decide +kernel
theorem dL_start_12 : decode cL_start 12 = .ok (.astore_n 3, 1) := by decide +kernel
theorem dL_start_13 : decode cL_start 13 = .ok (.iconst 1, 1) := by decide +kernel
theorem dL_start_14 : decode cL_start 14 = .ok (.ireturn, 1) := by decide +kernel
theorem dL_start_15 : decode cL_start 15 = .ok (.iconst 0, 1) := by decide +kernel
theorem dL_start_16 : decode cL_start 16 = .ok (.ireturn, 1) := by decide +kernel
theorem dL_set_0 : decode cL_set 0 = .ok (.aload_n 3, 1) := by decide +kernel
theorem dL_set_1 : decode cL_set 1 = .ok (.iconst 0, 1) := by decide +kernel
theorem dL_set_2 : decode cL_set 2 = .ok (.aload_n 0, 1) := by decide +kernel
theorem dL_set_3 : decode cL_set 3 = .ok (.iload_n 1, 1) := by decide +kernel
theorem dL_set_4 : decode cL_set 4 = .ok (.iload_n 2, 1) := by decide +kernel
theorem dL_set_5 : decode cL_set 5 = .ok (.invokevirtual 24, 3) := by decide +kernel
theorem dL_set_8 : decode cL_set 8 = .ok (.i2l, 1) := by decide +kernel
theorem dL_set_9 : decode cL_set 9 = .ok (.lastore, 1) := by decide +kernel
theorem dL_set_10 : decode cL_set 10 = .ok (.goto 11, 3) := by decide +kernel
theorem dL_set_13 : decode cL_set 13 = .ok (.astore 4, 2) := by decide +kernel
theorem dL_set_15 : decode cL_set 15 = .ok (.iconst 1, 1) := by decide +kernel
theorem dL_set_16 : decode cL_set 16 = .ok (.ireturn, 1) := by decide +kernel
theorem dL_set_17 : decode cL_set 17 = .ok (.astore 4, 2) := by decide +kernel
theorem dL_set_19 : decode cL_set 19 = .ok (.iconst 2, 1) := by decide +kernel
theorem dL_set_20 : decode cL_set 20 = .ok (.ireturn, 1) := by decide +kernel
theorem dL_set_21 : decode cL_set 21 = .ok (.iconst 0, 1) := by decide +kernel
theorem dL_set_22 : decode cL_set 22 = .ok (.ireturn, 1) := by decide +kernel
theorem dL_shuffle_0 : decode cL_shuffle 0 = .ok (.aload_n 2, 1) := by decide +kernel
theorem dL_shuffle_1 : decode cL_shuffle 1 = .ok (.iconst 0, 1) := by decide +kernel
theorem dL_shuffle_2 : decode cL_shuffle 2 = .ok (.aload_n 0, 1) := by decide +kernel
theorem dL_shuffle_3 : decode cL_shuffle 3 = .ok (.iload_n 1, 1) := by decide +kernel
theorem dL_shuffle_4 : decode cL_shuffle 4 = .ok (.invokevirtual 28, 3) := by decide +kernel
theorem dL_shuffle_7 : decode cL_shuffle 7 = .ok (.i2l, 1) := by decide +kernel
theorem dL_shuffle_8 : decode cL_shuffle 8 = .ok (.lastore, 1) := by decide +kernel
theorem dL_shuffle_9 : decode cL_shuffle 9 = .ok (.goto 6, 3) := by decide +kernel
theorem dL_shuffle_12 : decode cL_shuffle 12 = .ok (.astore_n 3, 1) := by decide +kernel
theorem dL_shuffle_13 : decode cL_shuffle 13 = .ok (.iconst 1, 1) := by decide +kernel
theorem dL_shuffle_14 : decode cL_shuffle 14 = .ok (.ireturn, 1) := by decide +kernel
theorem dL_shuffle_15 : decode cL_shuffle 15 = .ok (.iconst 0, 1) := by decide +kernel
theorem dL_shuffle_16 : decode cL_shuffle 16 = .ok (.ireturn, 1) := by decide +kernel
theorem dL_buy_0 : decode cL_buy 0 = .ok (.aload_n 2, 1) := by decide +kernel
theorem dL_buy_1 : decode cL_buy 1 = .ok (.iconst 0, 1) := by decide +kernel
theorem dL_buy_2 : decode cL_buy 2 = .ok (.aload_n 0, 1) := by decide +kernel
theorem dL_buy_3 : decode cL_buy 3 = .ok (.iload_n 1, 1) := by decide +kernel
theorem dL_buy_4 : decode cL_buy 4 = .ok (.invokevirtual 31, 3) := by decide +kernel
theorem dL_buy_7 : decode cL_buy 7 = .ok (.i2l, 1) := by decide +kernel
theorem dL_buy_8 : decode cL_buy 8 = .ok (.lastore, 1) := by decide +kernel
theorem dL_buy_9 : decode cL_buy 9 = .ok (.goto 6, 3) := by decide +kernel
theorem dL_buy_12 : decode cL_buy 12 = .ok (.astore_n 3, 1) := by decide +kernel
theorem dL_buy_13 : decode cL_buy 13 = .ok (.iconst 1, 1) := by decide +kernel
theorem dL_buy_14 : decode cL_buy 14 = .ok (.ireturn, 1) := by decide +kernel
theorem dL_buy_15 : decode cL_buy 15 = .ok (.iconst 0, 1) := by decide +kernel
theorem dL_buy_16 : decode cL_buy 16 = .ok (.ireturn, 1) := by decide +kernel
theorem dL_launch_0 : decode cL_launch 0 = .ok (.aload_n 2, 1) := by decide +kernel
theorem dL_launch_1 : decode cL_launch 1 = .ok (.iconst 0, 1) := by decide +kernel
theorem dL_launch_2 : decode cL_launch 2 = .ok (.aload_n 0, 1) := by decide +kernel
theorem dL_launch_3 : decode cL_launch 3 = .ok (.iload_n 1, 1) := by decide +kernel
theorem dL_launch_4 : decode cL_launch 4 = .ok (.invokevirtual 34, 3) := by decide +kernel
theorem dL_launch_7 : decode cL_launch 7 = .ok (.i2l, 1) := by decide +kernel
theorem dL_launch_8 : decode cL_launch 8 = .ok (.lastore, 1) := by decide +kernel
theorem dL_launch_9 : decode cL_launch 9 = .ok (.goto 9, 3) := by decide +kernel
theorem dL_launch_12 : decode cL_launch 12 = .ok (.astore_n 3, 1) := by decide +kernel
theorem dL_launch_13 : decode cL_launch 13 = .ok (.iconst 1, 1) := by decide +kernel
theorem dL_launch_14 : decode cL_launch 14 = .ok (.ireturn, 1) := by decide +kernel
theorem dL_launch_15 : decode cL_launch 15 = .ok (.astore_n 3, 1) := by decide +kernel
theorem dL_launch_16 : decode cL_launch 16 = .ok (.iconst 2, 1) := by decide +kernel
theorem dL_launch_17 : decode cL_launch 17 = .ok (.ireturn, 1) := by decide +kernel
theorem dL_launch_18 : decode cL_launch 18 = .ok (.iconst 0, 1) := by decide +kernel
theorem dL_launch_19 : decode cL_launch 19 = .ok (.ireturn, 1) := by decide +kernel
theorem dL_play_0 : decode cL_play 0 = .ok (.aload_n 3, 1) := by decide +kernel
theorem dL_play_1 : decode cL_play 1 = .ok (.iconst 0, 1) := by decide +kernel
theorem dL_play_2 : decode cL_play 2 = .ok (.aload_n 0, 1) := by decide +kernel
theorem dL_play_3 : decode cL_play 3 = .ok (.iload_n 1, 1) := by decide +kernel
theorem dL_play_4 : decode cL_play 4 = .ok (.iload_n 2, 1) := by decide +kernel
theorem dL_play_5 : decode cL_play 5 = .ok (.invokevirtual 39, 3) := by decide +kernel
theorem dL_play_8 : decode cL_play 8 = .ok (.i2l, 1) := by decide +kernel
theorem dL_play_9 : decode cL_play 9 = .ok (.lastore, 1) := by decide +kernel
theorem dL_play_10 : decode cL_play 10 = .ok (.goto 11, 3) := by decide +kernel
theorem dL_play_13 : decode cL_play 13 = .ok (.astore 4, 2) := by decide +kernel
theorem dL_play_15 : decode cL_play 15 = .ok (.iconst 1, 1) := by decide +kernel
theorem dL_play_16 : decode cL_play 16 = .ok (.ireturn, 1) := by decide +kernel
theorem dL_play_17 : decode cL_play 17 = .ok (.astore 4, 2) := by decide +kernel
theorem dL_play_19 : decode cL_play 19 = .ok (.iconst 2, 1) := by decide +kernel
theorem dL_play_20 : decode cL_play 20 = .ok (.ireturn, 1) := by decide +kernel
theorem dL_play_21 : decode cL_play 21 = .ok (.iconst 0, 1) := by decide +kernel
theorem dL_play_22 : decode cL_play 22 = .ok (.ireturn, 1) := by decide +kernel
theorem dL_append_0 : decode cL_append 0 = .ok (.aload_n 2, 1) := by decide +kernel
theorem dL_append_1 : decode cL_append 1 = .ok (.iconst 0, 1) := by decide +kernel
theorem dL_append_2 : decode cL_append 2 = .ok (.aload_n 0, 1) := by decide +kernel
theorem dL_append_3 : decode cL_append 3 = .ok (.iload_n 1, 1) := by decide +kernel
theorem dL_append_4 : decode cL_append 4 = .ok (.invokevirtual 42, 3) := by decide +kernel
theorem dL_append_7 : decode cL_append 7 = .ok (.i2l, 1) := by decide +kernel
theorem dL_append_8 : decode cL_append 8 = .ok (.lastore, 1) := by decide +kernel
theorem dL_append_9 : decode cL_append 9 = .ok (.goto 9, 3) := by decide +kernel
theorem dL_append_12 : decode cL_append 12 = .ok (.astore_n 3, 1) := by decide +kernel
theorem dL_append_13 : decode cL_append 13 = .ok (.iconst 1, 1) := by decide +kernel
theorem dL_append_14 : decode cL_append 14 = .ok (.ireturn, 1) := by decide +kernel
theorem dL_append_15 : decode cL_append 15 = .ok (.astore_n 3, 1) := by decide +kernel
theorem dL_append_16 : decode cL_append 16 = .ok (.iconst 2, 1) := by decide +kernel
theorem dL_append_17 : decode cL_append 17 = .ok (.ireturn, 1) := by decide +kernel
theorem dL_append_18 : decode cL_append 18 = .ok (.iconst 0, 1) := by decide +kernel
theorem dL_append_19 : decode cL_append 19 = .ok (.ireturn, 1) := by decide +kernel
theorem dL_work_0 : decode cL_work 0 = .ok (.aload_n 1, 1) := by decide +kernel
theorem dL_work_1 : decode cL_work 1 = .ok (.iconst 0, 1) := by decide +kernel
theorem dL_work_2 : decode cL_work 2 = .ok (.aload_n 0, 1) := by decide +kernel
theorem dL_work_3 : decode cL_work 3 = .ok (.invokevirtual 45, 3) := by decide +kernel
theorem dL_work_6 : decode cL_work 6 = .ok (.i2l, 1) := by decide +kernel
theorem dL_work_7 : decode cL_work 7 = .ok (.lastore, 1) := by decide +kernel
theorem dL_work_8 : decode cL_work 8 = .ok (.goto 6, 3) := by decide +kernel
theorem dL_work_11 : decode cL_work 11 = .ok (.astore_n 2, 1) := by decide +kernel
theorem dL_work_12 : decode cL_work 12 = .ok (.iconst 1, 1) := by decide +kernel
theorem dL_work_13 : decode cL_work 13 = .ok (.ireturn, 1) := by decide +kernel
theorem dL_work_14 : decode cL_work 14 = .ok (.iconst 0, 1) := by decide +kernel
theorem dL_work_15 : decode cL_work 15 = .ok (.ireturn, 1) := by decide +kernel
theorem dL_undo_0 : decode cL_undo 0 = .ok (.aload_n 1, 1) := by decide +kernel
theorem dL_undo_1 : decode cL_undo 1 = .ok (.iconst 0, 1) := by decide +kernel
theorem dL_undo_2 : decode cL_undo 2 = .ok (.aload_n 0, 1) := by decide +kernel
theorem dL_undo_3 : decode cL_undo 3 = .ok (.invokevirtual 49, 3) := by decide +kernel
theorem dL_undo_6 : decode cL_undo 6 = .ok (.i2l, 1) := by decide +kernel
theorem dL_undo_7 : decode cL_undo 7 = .ok (.lastore, 1) := by decide +kernel
theorem dL_undo_8 : decode cL_undo 8 = .ok (.goto 6, 3) := by decide +kernel
theorem dL_undo_11 : decode cL_undo 11 = .ok (.astore_n 2, 1) := by decide +kernel
theorem dL_undo_12 : decode cL_undo 12 = .ok (.iconst 1, 1) := by decide +kernel
theorem dL_undo_13 : decode cL_undo 13 = .ok (.ireturn, 1) := by decide +kernel
theorem dL_undo_14 : decode cL_undo 14 = .ok (.iconst 0, 1) := by decide +kernel
theorem dL_undo_15 : decode cL_undo 15 = .ok (.ireturn, 1) := by decide +kernel
theorem dL_restore_0 : decode cL_restore 0 = .ok (.aload_n 1, 1) := by decide +kernel
theorem dL_restore_1 : decode cL_restore 1 = .ok (.iconst 0, 1) := by decide +kernel
theorem dL_restore_2 : decode cL_restore 2 = .ok (.aload_n 0, 1) := by decide +kernel
theorem dL_restore_3 : decode cL_restore 3 = .ok (.invokevirtual 52, 3) := by decide +kernel
theorem dL_restore_6 : decode cL_restore 6 = .ok (.i2l, 1) := by decide +kernel
theorem dL_restore_7 : decode cL_restore 7 = .ok (.lastore, 1) := by decide +kernel
theorem dL_restore_8 : decode cL_restore 8 = .ok (.goto 6, 3) := by decide +kernel
theorem dL_restore_11 : decode cL_restore 11 = .ok (.astore_n 2, 1) := by decide +kernel
theorem dL_restore_12 : decode cL_restore 12 = .ok (.iconst 1, 1) := by decide +kernel
theorem dL_restore_13 : decode cL_restore 13 = .ok (.ireturn, 1) := by decide +kernel
theorem dL_restore_14 : decode cL_restore 14 = .ok (.iconst 0, 1) := by decide +kernel
theorem dL_restore_15 : decode cL_restore 15 = .ok (.ireturn, 1) := by decide +kernel
theorem dL_pin_0 : decode cL_pin 0 = .ok (.aload_n 3, 1) := by decide +kernel
theorem dL_pin_1 : decode cL_pin 1 = .ok (.iconst 0, 1) := by decide +kernel
theorem dL_pin_2 : decode cL_pin 2 = .ok (.aload_n 0, 1) := by decide +kernel
theorem dL_pin_3 : decode cL_pin 3 = .ok (.iload_n 1, 1) := by decide +kernel
theorem dL_pin_4 : decode cL_pin 4 = .ok (.iload_n 2, 1) := by decide +kernel
theorem dL_pin_5 : decode cL_pin 5 = .ok (.invokevirtual 55, 3) := by decide +kernel
theorem dL_pin_8 : decode cL_pin 8 = .ok (.i2l, 1) := by decide +kernel
theorem dL_pin_9 : decode cL_pin 9 = .ok (.lastore, 1) := by decide +kernel
theorem dL_pin_10 : decode cL_pin 10 = .ok (.goto 7, 3) := by decide +kernel
theorem dL_pin_13 : decode cL_pin 13 = .ok (.astore 4, 2) := by decide +kernel
theorem dL_pin_15 : decode cL_pin 15 = .ok (.iconst 1, 1) := by decide +kernel
theorem dL_pin_16 : decode cL_pin 16 = .ok (.ireturn, 1) := by decide +kernel
theorem dL_pin_17 : decode cL_pin 17 = .ok (.iconst 0, 1) := by decide +kernel
theorem dL_pin_18 : decode cL_pin 18 = .ok (.ireturn, 1) := by decide +kernel
theorem dL_bent_0 : decode cL_bent 0 = .ok (.aload_n 2, 1) := by decide +kernel
theorem dL_bent_1 : decode cL_bent 1 = .ok (.iconst 0, 1) := by decide +kernel
theorem dL_bent_2 : decode cL_bent 2 = .ok (.aload_n 0, 1) := by decide +kernel
theorem dL_bent_3 : decode cL_bent 3 = .ok (.iload_n 1, 1) := by decide +kernel
theorem dL_bent_4 : decode cL_bent 4 = .ok (.invokevirtual 58, 3) := by decide +kernel
theorem dL_bent_7 : decode cL_bent 7 = .ok (.i2l, 1) := by decide +kernel
theorem dL_bent_8 : decode cL_bent 8 = .ok (.lastore, 1) := by decide +kernel
theorem dL_bent_9 : decode cL_bent 9 = .ok (.goto 6, 3) := by decide +kernel
theorem dL_bent_12 : decode cL_bent 12 = .ok (.astore_n 3, 1) := by decide +kernel
theorem dL_bent_13 : decode cL_bent 13 = .ok (.iconst 1, 1) := by decide +kernel
theorem dL_bent_14 : decode cL_bent 14 = .ok (.ireturn, 1) := by decide +kernel
theorem dL_bent_15 : decode cL_bent 15 = .ok (.iconst 0, 1) := by decide +kernel
theorem dL_bent_16 : decode cL_bent 16 = .ok (.ireturn, 1) := by decide +kernel
theorem dL_touched_0 : decode cL_touched 0 = .ok (.aload_n 2, 1) := by decide +kernel
theorem dL_touched_1 : decode cL_touched 1 = .ok (.iconst 0, 1) := by decide +kernel
theorem dL_touched_2 : decode cL_touched 2 = .ok (.aload_n 0, 1) := by decide +kernel
theorem dL_touched_3 : decode cL_touched 3 = .ok (.iload_n 1, 1) := by decide +kernel
theorem dL_touched_4 : decode cL_touched 4 = .ok (.invokevirtual 61, 3) := by decide +kernel
theorem dL_touched_7 : decode cL_touched 7 = .ok (.i2l, 1) := by decide +kernel
theorem dL_touched_8 : decode cL_touched 8 = .ok (.lastore, 1) := by decide +kernel
theorem dL_touched_9 : decode cL_touched 9 = .ok (.goto 6, 3) := by decide +kernel
theorem dL_touched_12 : decode cL_touched 12 = .ok (.astore_n 3, 1) := by decide +kernel
theorem dL_touched_13 : decode cL_touched 13 = .ok (.iconst 1, 1) := by decide +kernel
theorem dL_touched_14 : decode cL_touched 14 = .ok (.ireturn, 1) := by decide +kernel
theorem dL_touched_15 : decode cL_touched 15 = .ok (.iconst 0, 1) := by decide +kernel
theorem dL_touched_16 : decode cL_touched 16 = .ok (.ireturn, 1) := by decide +kernel
theorem dL_pocketOf_0 : decode cL_pocketOf 0 = .ok (.aload_n 3, 1) := by decide +kernel
theorem dL_pocketOf_1 : decode cL_pocketOf 1 = .ok (.iconst 0, 1) := by decide +kernel
theorem dL_pocketOf_2 : decode cL_pocketOf 2 = .ok (.aload_n 0, 1) := by decide +kernel
theorem dL_pocketOf_3 : decode cL_pocketOf 3 = .ok (.iload_n 1, 1) := by decide +kernel
theorem dL_pocketOf_4 : decode cL_pocketOf 4 = .ok (.iload_n 2, 1) := by decide +kernel
theorem dL_pocketOf_5 : decode cL_pocketOf 5 = .ok (.invokevirtual 64, 3) := by decide +kernel
theorem dL_pocketOf_8 : decode cL_pocketOf 8 = .ok (.i2l, 1) := by decide +kernel
theorem dL_pocketOf_9 : decode cL_pocketOf 9 = .ok (.lastore, 1) := by decide +kernel
theorem dL_pocketOf_10 : decode cL_pocketOf 10 = .ok (.goto 11, 3) := by decide +kernel
theorem dL_pocketOf_13 : decode cL_pocketOf 13 = .ok (.astore 4, 2) := by decide +kernel
theorem dL_pocketOf_15 : decode cL_pocketOf 15 = .ok (.iconst 1, 1) := by decide +kernel
theorem dL_pocketOf_16 : decode cL_pocketOf 16 = .ok (.ireturn, 1) := by decide +kernel
theorem dL_pocketOf_17 : decode cL_pocketOf 17 = .ok (.astore 4, 2) := by decide +kernel
theorem dL_pocketOf_19 : decode cL_pocketOf 19 = .ok (.iconst 2, 1) := by decide +kernel
theorem dL_pocketOf_20 : decode cL_pocketOf 20 = .ok (.ireturn, 1) := by decide +kernel
theorem dL_pocketOf_21 : decode cL_pocketOf 21 = .ok (.iconst 0, 1) := by decide +kernel
theorem dL_pocketOf_22 : decode cL_pocketOf 22 = .ok (.ireturn, 1) := by decide +kernel
theorem dL_reel_0 : decode cL_reel 0 = .ok (.aload_n 2, 1) := by decide +kernel
theorem dL_reel_1 : decode cL_reel 1 = .ok (.iconst 0, 1) := by decide +kernel
theorem dL_reel_2 : decode cL_reel 2 = .ok (.aload_n 0, 1) := by decide +kernel
theorem dL_reel_3 : decode cL_reel 3 = .ok (.iload_n 1, 1) := by decide +kernel
theorem dL_reel_4 : decode cL_reel 4 = .ok (.invokevirtual 67, 3) := by decide +kernel
theorem dL_reel_7 : decode cL_reel 7 = .ok (.i2l, 1) := by decide +kernel
theorem dL_reel_8 : decode cL_reel 8 = .ok (.lastore, 1) := by decide +kernel
theorem dL_reel_9 : decode cL_reel 9 = .ok (.goto 6, 3) := by decide +kernel
theorem dL_reel_12 : decode cL_reel 12 = .ok (.astore_n 3, 1) := by decide +kernel
theorem dL_reel_13 : decode cL_reel 13 = .ok (.iconst 1, 1) := by decide +kernel
theorem dL_reel_14 : decode cL_reel 14 = .ok (.ireturn, 1) := by decide +kernel
theorem dL_reel_15 : decode cL_reel 15 = .ok (.iconst 0, 1) := by decide +kernel
theorem dL_reel_16 : decode cL_reel 16 = .ok (.ireturn, 1) := by decide +kernel
theorem dL_count_0 : decode cL_count 0 = .ok (.aload_n 2, 1) := by decide +kernel
theorem dL_count_1 : decode cL_count 1 = .ok (.iconst 0, 1) := by decide +kernel
theorem dL_count_2 : decode cL_count 2 = .ok (.aload_n 0, 1) := by decide +kernel
theorem dL_count_3 : decode cL_count 3 = .ok (.iload_n 1, 1) := by decide +kernel
theorem dL_count_4 : decode cL_count 4 = .ok (.invokevirtual 70, 3) := by decide +kernel
theorem dL_count_7 : decode cL_count 7 = .ok (.i2l, 1) := by decide +kernel
theorem dL_count_8 : decode cL_count 8 = .ok (.lastore, 1) := by decide +kernel
theorem dL_count_9 : decode cL_count 9 = .ok (.goto 6, 3) := by decide +kernel
theorem dL_count_12 : decode cL_count 12 = .ok (.astore_n 3, 1) := by decide +kernel
theorem dL_count_13 : decode cL_count 13 = .ok (.iconst 1, 1) := by decide +kernel
theorem dL_count_14 : decode cL_count 14 = .ok (.ireturn, 1) := by decide +kernel
theorem dL_count_15 : decode cL_count 15 = .ok (.iconst 0, 1) := by decide +kernel
theorem dL_count_16 : decode cL_count 16 = .ok (.ireturn, 1) := by decide +kernel
theorem dL_ways_0 : decode cL_ways 0 = .ok (.aload_n 3, 1) := by decide +kernel
theorem dL_ways_1 : decode cL_ways 1 = .ok (.iconst 0, 1) := by decide +kernel
theorem dL_ways_2 : decode cL_ways 2 = .ok (.aload_n 0, 1) := by decide +kernel
theorem dL_ways_3 : decode cL_ways 3 = .ok (.iload_n 1, 1) := by decide +kernel
theorem dL_ways_4 : decode cL_ways 4 = .ok (.iload_n 2, 1) := by decide +kernel
theorem dL_ways_5 : decode cL_ways 5 = .ok (.invokevirtual 73, 3) := by decide +kernel
theorem dL_ways_8 : decode cL_ways 8 = .ok (.i2l, 1) := by decide +kernel
theorem dL_ways_9 : decode cL_ways 9 = .ok (.lastore, 1) := by decide +kernel
theorem dL_ways_10 : decode cL_ways 10 = .ok (.goto 7, 3) := by decide +kernel
theorem dL_ways_13 : decode cL_ways 13 = .ok (.astore 4, 2) := by decide +kernel
theorem dL_ways_15 : decode cL_ways 15 = .ok (.iconst 1, 1) := by decide +kernel
theorem dL_ways_16 : decode cL_ways 16 = .ok (.ireturn, 1) := by decide +kernel
theorem dL_ways_17 : decode cL_ways 17 = .ok (.iconst 0, 1) := by decide +kernel
theorem dL_ways_18 : decode cL_ways 18 = .ok (.ireturn, 1) := by decide +kernel
theorem dL_walked_0 : decode cL_walked 0 = .ok (.aload_n 3, 1) := by decide +kernel
theorem dL_walked_1 : decode cL_walked 1 = .ok (.iconst 0, 1) := by decide +kernel
theorem dL_walked_2 : decode cL_walked 2 = .ok (.aload_n 0, 1) := by decide +kernel
theorem dL_walked_3 : decode cL_walked 3 = .ok (.iload_n 1, 1) := by decide +kernel
theorem dL_walked_4 : decode cL_walked 4 = .ok (.iload_n 2, 1) := by decide +kernel
theorem dL_walked_5 : decode cL_walked 5 = .ok (.invokevirtual 76, 3) := by decide +kernel
theorem dL_walked_8 : decode cL_walked 8 = .ok (.i2l, 1) := by decide +kernel
theorem dL_walked_9 : decode cL_walked 9 = .ok (.lastore, 1) := by decide +kernel
theorem dL_walked_10 : decode cL_walked 10 = .ok (.goto 7, 3) := by decide +kernel
theorem dL_walked_13 : decode cL_walked 13 = .ok (.astore 4, 2) := by decide +kernel
theorem dL_walked_15 : decode cL_walked 15 = .ok (.iconst 1, 1) := by decide +kernel
theorem dL_walked_16 : decode cL_walked 16 = .ok (.ireturn, 1) := by decide +kernel
theorem dL_walked_17 : decode cL_walked 17 = .ok (.iconst 0, 1) := by decide +kernel
theorem dL_walked_18 : decode cL_walked 18 = .ok (.ireturn, 1) := by decide +kernel
theorem dL_ifLaunched_0 : decode cL_ifLaunched 0 = .ok (.aload_n 3, 1) := by decide +kernel
theorem dL_ifLaunched_1 : decode cL_ifLaunched 1 = .ok (.iconst 0, 1) := by decide +kernel
theorem dL_ifLaunched_2 : decode cL_ifLaunched 2 = .ok (.aload_n 0, 1) := by decide +kernel
theorem dL_ifLaunched_3 : decode cL_ifLaunched 3 = .ok (.iload_n 1, 1) := by decide +kernel
theorem dL_ifLaunched_4 : decode cL_ifLaunched 4 = .ok (.iload_n 2, 1) := by decide +kernel
theorem dL_ifLaunched_5 : decode cL_ifLaunched 5 = .ok (.invokevirtual 79, 3) := by decide +kernel
theorem dL_ifLaunched_8 : decode cL_ifLaunched 8 = .ok (.i2l, 1) := by decide +kernel
theorem dL_ifLaunched_9 : decode cL_ifLaunched 9 = .ok (.lastore, 1) := by decide +kernel
theorem dL_ifLaunched_10 : decode cL_ifLaunched 10 = .ok (.goto 11, 3) := by decide +kernel
theorem dL_ifLaunched_13 : decode cL_ifLaunched 13 = .ok (.astore 4, 2) := by decide +kernel
theorem dL_ifLaunched_15 : decode cL_ifLaunched 15 = .ok (.iconst 1, 1) := by decide +kernel
theorem dL_ifLaunched_16 : decode cL_ifLaunched 16 = .ok (.ireturn, 1) := by decide +kernel
theorem dL_ifLaunched_17 : decode cL_ifLaunched 17 = .ok (.astore 4, 2) := by decide +kernel
theorem dL_ifLaunched_19 : decode cL_ifLaunched 19 = .ok (.iconst 2, 1) := by decide +kernel
theorem dL_ifLaunched_20 : decode cL_ifLaunched 20 = .ok (.ireturn, 1) := by decide +kernel
theorem dL_ifLaunched_21 : decode cL_ifLaunched 21 = .ok (.iconst 0, 1) := by decide +kernel
theorem dL_ifLaunched_22 : decode cL_ifLaunched 22 = .ok (.ireturn, 1) := by decide +kernel
theorem dL_untilOpen_0 : decode cL_untilOpen 0 = .ok (.aload_n 2, 1) := by decide +kernel
theorem dL_untilOpen_1 : decode cL_untilOpen 1 = .ok (.iconst 0, 1) := by decide +kernel
theorem dL_untilOpen_2 : decode cL_untilOpen 2 = .ok (.aload_n 0, 1) := by decide +kernel
theorem dL_untilOpen_3 : decode cL_untilOpen 3 = .ok (.iload_n 1, 1) := by decide +kernel
theorem dL_untilOpen_4 : decode cL_untilOpen 4 = .ok (.invokevirtual 82, 3) := by decide +kernel
theorem dL_untilOpen_7 : decode cL_untilOpen 7 = .ok (.i2l, 1) := by decide +kernel
theorem dL_untilOpen_8 : decode cL_untilOpen 8 = .ok (.lastore, 1) := by decide +kernel
theorem dL_untilOpen_9 : decode cL_untilOpen 9 = .ok (.goto 6, 3) := by decide +kernel
theorem dL_untilOpen_12 : decode cL_untilOpen 12 = .ok (.astore_n 3, 1) := by decide +kernel
theorem dL_untilOpen_13 : decode cL_untilOpen 13 = .ok (.iconst 1, 1) := by decide +kernel
theorem dL_untilOpen_14 : decode cL_untilOpen 14 = .ok (.ireturn, 1) := by decide +kernel
theorem dL_untilOpen_15 : decode cL_untilOpen 15 = .ok (.iconst 0, 1) := by decide +kernel
theorem dL_untilOpen_16 : decode cL_untilOpen 16 = .ok (.ireturn, 1) := by decide +kernel
theorem dL_law_0 : decode cL_law 0 = .ok (.new 8, 3) := by decide +kernel
theorem dL_law_3 : decode cL_law 3 = .ok (.dup, 1) := by decide +kernel
theorem dL_law_4 : decode cL_law 4 = .ok (.invokespecial 85, 3) := by decide +kernel
theorem dL_law_7 : decode cL_law 7 = .ok (.astore_n 1, 1) := by decide +kernel
theorem dL_law_8 : decode cL_law 8 = .ok (.new 86, 3) := by decide +kernel
theorem dL_law_11 : decode cL_law 11 = .ok (.dup, 1) := by decide +kernel
theorem dL_law_12 : decode cL_law 12 = .ok (.invokespecial 88, 3) := by decide +kernel
theorem dL_law_15 : decode cL_law 15 = .ok (.astore_n 2, 1) := by decide +kernel
theorem dL_law_16 : decode cL_law 16 = .ok (.iconst 1, 1) := by decide +kernel
theorem dL_law_17 : decode cL_law 17 = .ok (.newarray .long, 2) := by decide +kernel
theorem dL_law_19 : decode cL_law 19 = .ok (.astore_n 3, 1) := by decide +kernel
theorem dL_law_20 : decode cL_law 20 = .ok (.iconst 0, 1) := by decide +kernel
theorem dL_law_21 : decode cL_law 21 = .ok (.istore 4, 2) := by decide +kernel
theorem dL_law_23 : decode cL_law 23 = .ok (.iload 4, 2) := by decide +kernel
theorem dL_law_25 : decode cL_law 25 = .ok (.aload_n 0, 1) := by decide +kernel
theorem dL_law_26 : decode cL_law 26 = .ok (.arraylength, 1) := by decide +kernel
theorem dL_law_27 : decode cL_law 27 = .ok (.iconst 4, 1) := by decide +kernel
theorem dL_law_28 : decode cL_law 28 = .ok (.isub, 1) := by decide +kernel
theorem dL_law_29 : decode cL_law 29 = .ok (.if_icmp .gt 1576, 3) := by decide +kernel
theorem dL_law_32 : decode cL_law 32 = .ok (.aload_n 0, 1) := by decide +kernel
theorem dL_law_33 : decode cL_law 33 = .ok (.iload 4, 2) := by decide +kernel
theorem dL_law_35 : decode cL_law 35 = .ok (.iaload, 1) := by decide +kernel
theorem dL_law_36 : decode cL_law 36 = .ok (.bipush 31, 2) := by decide +kernel
theorem dL_law_38 : decode cL_law 38 = .ok (.iand, 1) := by decide +kernel
theorem dL_law_39 : decode cL_law 39 = .ok (.tableswitch 1560 0 27 #[125, 205, 285, 341, 409, 465, 521, 577, 645, 701, 714, 727, 771, 815, 828, 872, 940, 996, 1052, 1120, 1176, 1232, 1300, 1368, 1436, 1449, 1505, 1546], 125) := by decide +kernel
theorem dL_law_164 : decode cL_law 164 = .ok (.aload_n 1, 1) := by decide +kernel
theorem dL_law_165 : decode cL_law 165 = .ok (.aload_n 0, 1) := by decide +kernel
theorem dL_law_166 : decode cL_law 166 = .ok (.iload 4, 2) := by decide +kernel
theorem dL_law_168 : decode cL_law 168 = .ok (.iconst 1, 1) := by decide +kernel
theorem dL_law_169 : decode cL_law 169 = .ok (.iadd, 1) := by decide +kernel
theorem dL_law_170 : decode cL_law 170 = .ok (.iaload, 1) := by decide +kernel
theorem dL_law_171 : decode cL_law 171 = .ok (.aload_n 0, 1) := by decide +kernel
theorem dL_law_172 : decode cL_law 172 = .ok (.iload 4, 2) := by decide +kernel
theorem dL_law_174 : decode cL_law 174 = .ok (.iconst 2, 1) := by decide +kernel
theorem dL_law_175 : decode cL_law 175 = .ok (.iadd, 1) := by decide +kernel
theorem dL_law_176 : decode cL_law 176 = .ok (.iaload, 1) := by decide +kernel
theorem dL_law_177 : decode cL_law 177 = .ok (.aload_n 0, 1) := by decide +kernel
theorem dL_law_178 : decode cL_law 178 = .ok (.iload 4, 2) := by decide +kernel
theorem dL_law_180 : decode cL_law 180 = .ok (.iconst 3, 1) := by decide +kernel
theorem dL_law_181 : decode cL_law 181 = .ok (.iadd, 1) := by decide +kernel
theorem dL_law_182 : decode cL_law 182 = .ok (.iaload, 1) := by decide +kernel
theorem dL_law_183 : decode cL_law 183 = .ok (.aload_n 3, 1) := by decide +kernel
theorem dL_law_184 : decode cL_law 184 = .ok (.invokestatic 89, 3) := by decide +kernel
theorem dL_law_187 : decode cL_law 187 = .ok (.istore 5, 2) := by decide +kernel
theorem dL_law_189 : decode cL_law 189 = .ok (.aload_n 2, 1) := by decide +kernel
theorem dL_law_190 : decode cL_law 190 = .ok (.aload_n 0, 1) := by decide +kernel
theorem dL_law_191 : decode cL_law 191 = .ok (.iload 4, 2) := by decide +kernel
theorem dL_law_193 : decode cL_law 193 = .ok (.iconst 1, 1) := by decide +kernel
theorem dL_law_194 : decode cL_law 194 = .ok (.iadd, 1) := by decide +kernel
theorem dL_law_195 : decode cL_law 195 = .ok (.iaload, 1) := by decide +kernel
theorem dL_law_196 : decode cL_law 196 = .ok (.aload_n 0, 1) := by decide +kernel
theorem dL_law_197 : decode cL_law 197 = .ok (.iload 4, 2) := by decide +kernel
theorem dL_law_199 : decode cL_law 199 = .ok (.iconst 2, 1) := by decide +kernel
theorem dL_law_200 : decode cL_law 200 = .ok (.iadd, 1) := by decide +kernel
theorem dL_law_201 : decode cL_law 201 = .ok (.iaload, 1) := by decide +kernel
theorem dL_law_202 : decode cL_law 202 = .ok (.aload_n 0, 1) := by decide +kernel
theorem dL_law_203 : decode cL_law 203 = .ok (.iload 4, 2) := by decide +kernel
theorem dL_law_205 : decode cL_law 205 = .ok (.iconst 3, 1) := by decide +kernel
theorem dL_law_206 : decode cL_law 206 = .ok (.iadd, 1) := by decide +kernel
theorem dL_law_207 : decode cL_law 207 = .ok (.iaload, 1) := by decide +kernel
theorem dL_law_208 : decode cL_law 208 = .ok (.invokevirtual 94, 3) := by decide +kernel
theorem dL_law_211 : decode cL_law 211 = .ok (.istore 6, 2) := by decide +kernel
theorem dL_law_213 : decode cL_law 213 = .ok (.aload_n 2, 1) := by decide +kernel
theorem dL_law_214 : decode cL_law 214 = .ok (.invokevirtual 95, 3) := by decide +kernel
theorem dL_law_217 : decode cL_law 217 = .ok (.iload 5, 2) := by decide +kernel
theorem dL_law_219 : decode cL_law 219 = .ok (.if_icmp .eq 5, 3) := by decide +kernel
theorem dL_law_222 : decode cL_law 222 = .ok (.iconst 0, 1) := by decide +kernel
theorem dL_law_223 : decode cL_law 223 = .ok (.ireturn, 1) := by decide +kernel
theorem dL_law_224 : decode cL_law 224 = .ok (.iload 5, 2) := by decide +kernel
theorem dL_law_226 : decode cL_law 226 = .ok (.ifCond .ne 15, 3) := by decide +kernel
theorem dL_law_229 : decode cL_law 229 = .ok (.aload_n 3, 1) := by decide +kernel
theorem dL_law_230 : decode cL_law 230 = .ok (.iconst 0, 1) := by decide +kernel
theorem dL_law_231 : decode cL_law 231 = .ok (.laload, 1) := by decide +kernel
theorem dL_law_232 : decode cL_law 232 = .ok (.iload 6, 2) := by decide +kernel
theorem dL_law_234 : decode cL_law 234 = .ok (.i2l, 1) := by decide +kernel
theorem dL_law_235 : decode cL_law 235 = .ok (.lcmp, 1) := by decide +kernel
theorem dL_law_236 : decode cL_law 236 = .ok (.ifCond .eq 5, 3) := by decide +kernel
theorem dL_law_239 : decode cL_law 239 = .ok (.iconst 0, 1) := by decide +kernel
theorem dL_law_240 : decode cL_law 240 = .ok (.ireturn, 1) := by decide +kernel
theorem dL_law_241 : decode cL_law 241 = .ok (.goto 1358, 3) := by decide +kernel
theorem dL_law_244 : decode cL_law 244 = .ok (.aload_n 1, 1) := by decide +kernel
theorem dL_law_245 : decode cL_law 245 = .ok (.aload_n 0, 1) := by decide +kernel
theorem dL_law_246 : decode cL_law 246 = .ok (.iload 4, 2) := by decide +kernel
theorem dL_law_248 : decode cL_law 248 = .ok (.iconst 1, 1) := by decide +kernel
theorem dL_law_249 : decode cL_law 249 = .ok (.iadd, 1) := by decide +kernel
theorem dL_law_250 : decode cL_law 250 = .ok (.iaload, 1) := by decide +kernel
theorem dL_law_251 : decode cL_law 251 = .ok (.aload_n 0, 1) := by decide +kernel
theorem dL_law_252 : decode cL_law 252 = .ok (.iload 4, 2) := by decide +kernel
theorem dL_law_254 : decode cL_law 254 = .ok (.iconst 2, 1) := by decide +kernel
theorem dL_law_255 : decode cL_law 255 = .ok (.iadd, 1) := by decide +kernel
theorem dL_law_256 : decode cL_law 256 = .ok (.iaload, 1) := by decide +kernel
theorem dL_law_257 : decode cL_law 257 = .ok (.aload_n 0, 1) := by decide +kernel
theorem dL_law_258 : decode cL_law 258 = .ok (.iload 4, 2) := by decide +kernel
theorem dL_law_260 : decode cL_law 260 = .ok (.iconst 3, 1) := by decide +kernel
theorem dL_law_261 : decode cL_law 261 = .ok (.iadd, 1) := by decide +kernel
theorem dL_law_262 : decode cL_law 262 = .ok (.iaload, 1) := by decide +kernel
theorem dL_law_263 : decode cL_law 263 = .ok (.aload_n 3, 1) := by decide +kernel
theorem dL_law_264 : decode cL_law 264 = .ok (.invokestatic 98, 3) := by decide +kernel
theorem dL_law_267 : decode cL_law 267 = .ok (.istore 5, 2) := by decide +kernel
theorem dL_law_269 : decode cL_law 269 = .ok (.aload_n 2, 1) := by decide +kernel
theorem dL_law_270 : decode cL_law 270 = .ok (.aload_n 0, 1) := by decide +kernel
theorem dL_law_271 : decode cL_law 271 = .ok (.iload 4, 2) := by decide +kernel
theorem dL_law_273 : decode cL_law 273 = .ok (.iconst 1, 1) := by decide +kernel
theorem dL_law_274 : decode cL_law 274 = .ok (.iadd, 1) := by decide +kernel
theorem dL_law_275 : decode cL_law 275 = .ok (.iaload, 1) := by decide +kernel
theorem dL_law_276 : decode cL_law 276 = .ok (.aload_n 0, 1) := by decide +kernel
theorem dL_law_277 : decode cL_law 277 = .ok (.iload 4, 2) := by decide +kernel
theorem dL_law_279 : decode cL_law 279 = .ok (.iconst 2, 1) := by decide +kernel
theorem dL_law_280 : decode cL_law 280 = .ok (.iadd, 1) := by decide +kernel
theorem dL_law_281 : decode cL_law 281 = .ok (.iaload, 1) := by decide +kernel
theorem dL_law_282 : decode cL_law 282 = .ok (.aload_n 0, 1) := by decide +kernel
theorem dL_law_283 : decode cL_law 283 = .ok (.iload 4, 2) := by decide +kernel
theorem dL_law_285 : decode cL_law 285 = .ok (.iconst 3, 1) := by decide +kernel
theorem dL_law_286 : decode cL_law 286 = .ok (.iadd, 1) := by decide +kernel
theorem dL_law_287 : decode cL_law 287 = .ok (.iaload, 1) := by decide +kernel
theorem dL_law_288 : decode cL_law 288 = .ok (.invokevirtual 100, 3) := by decide +kernel
theorem dL_law_291 : decode cL_law 291 = .ok (.istore 6, 2) := by decide +kernel
theorem dL_law_293 : decode cL_law 293 = .ok (.aload_n 2, 1) := by decide +kernel
theorem dL_law_294 : decode cL_law 294 = .ok (.invokevirtual 95, 3) := by decide +kernel
theorem dL_law_297 : decode cL_law 297 = .ok (.iload 5, 2) := by decide +kernel
theorem dL_law_299 : decode cL_law 299 = .ok (.if_icmp .eq 5, 3) := by decide +kernel
theorem dL_law_302 : decode cL_law 302 = .ok (.iconst 0, 1) := by decide +kernel
theorem dL_law_303 : decode cL_law 303 = .ok (.ireturn, 1) := by decide +kernel
theorem dL_law_304 : decode cL_law 304 = .ok (.iload 5, 2) := by decide +kernel
theorem dL_law_306 : decode cL_law 306 = .ok (.ifCond .ne 15, 3) := by decide +kernel
theorem dL_law_309 : decode cL_law 309 = .ok (.aload_n 3, 1) := by decide +kernel
theorem dL_law_310 : decode cL_law 310 = .ok (.iconst 0, 1) := by decide +kernel
theorem dL_law_311 : decode cL_law 311 = .ok (.laload, 1) := by decide +kernel
theorem dL_law_312 : decode cL_law 312 = .ok (.iload 6, 2) := by decide +kernel
theorem dL_law_314 : decode cL_law 314 = .ok (.i2l, 1) := by decide +kernel
theorem dL_law_315 : decode cL_law 315 = .ok (.lcmp, 1) := by decide +kernel
theorem dL_law_316 : decode cL_law 316 = .ok (.ifCond .eq 5, 3) := by decide +kernel
theorem dL_law_319 : decode cL_law 319 = .ok (.iconst 0, 1) := by decide +kernel
theorem dL_law_320 : decode cL_law 320 = .ok (.ireturn, 1) := by decide +kernel
theorem dL_law_321 : decode cL_law 321 = .ok (.goto 1278, 3) := by decide +kernel
theorem dL_law_324 : decode cL_law 324 = .ok (.aload_n 1, 1) := by decide +kernel
theorem dL_law_325 : decode cL_law 325 = .ok (.aload_n 0, 1) := by decide +kernel
theorem dL_law_326 : decode cL_law 326 = .ok (.iload 4, 2) := by decide +kernel
theorem dL_law_328 : decode cL_law 328 = .ok (.iconst 1, 1) := by decide +kernel
theorem dL_law_329 : decode cL_law 329 = .ok (.iadd, 1) := by decide +kernel
theorem dL_law_330 : decode cL_law 330 = .ok (.iaload, 1) := by decide +kernel
theorem dL_law_331 : decode cL_law 331 = .ok (.aload_n 3, 1) := by decide +kernel
theorem dL_law_332 : decode cL_law 332 = .ok (.invokestatic 101, 3) := by decide +kernel
theorem dL_law_335 : decode cL_law 335 = .ok (.istore 5, 2) := by decide +kernel
theorem dL_law_337 : decode cL_law 337 = .ok (.aload_n 2, 1) := by decide +kernel
theorem dL_law_338 : decode cL_law 338 = .ok (.aload_n 0, 1) := by decide +kernel
theorem dL_law_339 : decode cL_law 339 = .ok (.iload 4, 2) := by decide +kernel
theorem dL_law_341 : decode cL_law 341 = .ok (.iconst 1, 1) := by decide +kernel
theorem dL_law_342 : decode cL_law 342 = .ok (.iadd, 1) := by decide +kernel
theorem dL_law_343 : decode cL_law 343 = .ok (.iaload, 1) := by decide +kernel
theorem dL_law_344 : decode cL_law 344 = .ok (.invokevirtual 104, 3) := by decide +kernel
theorem dL_law_347 : decode cL_law 347 = .ok (.istore 6, 2) := by decide +kernel
theorem dL_law_349 : decode cL_law 349 = .ok (.aload_n 2, 1) := by decide +kernel
theorem dL_law_350 : decode cL_law 350 = .ok (.invokevirtual 95, 3) := by decide +kernel
theorem dL_law_353 : decode cL_law 353 = .ok (.iload 5, 2) := by decide +kernel
theorem dL_law_355 : decode cL_law 355 = .ok (.if_icmp .eq 5, 3) := by decide +kernel
theorem dL_law_358 : decode cL_law 358 = .ok (.iconst 0, 1) := by decide +kernel
theorem dL_law_359 : decode cL_law 359 = .ok (.ireturn, 1) := by decide +kernel
theorem dL_law_360 : decode cL_law 360 = .ok (.iload 5, 2) := by decide +kernel
theorem dL_law_362 : decode cL_law 362 = .ok (.ifCond .ne 15, 3) := by decide +kernel
theorem dL_law_365 : decode cL_law 365 = .ok (.aload_n 3, 1) := by decide +kernel
theorem dL_law_366 : decode cL_law 366 = .ok (.iconst 0, 1) := by decide +kernel
theorem dL_law_367 : decode cL_law 367 = .ok (.laload, 1) := by decide +kernel
theorem dL_law_368 : decode cL_law 368 = .ok (.iload 6, 2) := by decide +kernel
theorem dL_law_370 : decode cL_law 370 = .ok (.i2l, 1) := by decide +kernel
theorem dL_law_371 : decode cL_law 371 = .ok (.lcmp, 1) := by decide +kernel
theorem dL_law_372 : decode cL_law 372 = .ok (.ifCond .eq 5, 3) := by decide +kernel
theorem dL_law_375 : decode cL_law 375 = .ok (.iconst 0, 1) := by decide +kernel
theorem dL_law_376 : decode cL_law 376 = .ok (.ireturn, 1) := by decide +kernel
theorem dL_law_377 : decode cL_law 377 = .ok (.goto 1222, 3) := by decide +kernel
theorem dL_law_380 : decode cL_law 380 = .ok (.aload_n 1, 1) := by decide +kernel
theorem dL_law_381 : decode cL_law 381 = .ok (.aload_n 0, 1) := by decide +kernel
theorem dL_law_382 : decode cL_law 382 = .ok (.iload 4, 2) := by decide +kernel
theorem dL_law_384 : decode cL_law 384 = .ok (.iconst 1, 1) := by decide +kernel
theorem dL_law_385 : decode cL_law 385 = .ok (.iadd, 1) := by decide +kernel
theorem dL_law_386 : decode cL_law 386 = .ok (.iaload, 1) := by decide +kernel
theorem dL_law_387 : decode cL_law 387 = .ok (.aload_n 0, 1) := by decide +kernel
theorem dL_law_388 : decode cL_law 388 = .ok (.iload 4, 2) := by decide +kernel
theorem dL_law_390 : decode cL_law 390 = .ok (.iconst 2, 1) := by decide +kernel
theorem dL_law_391 : decode cL_law 391 = .ok (.iadd, 1) := by decide +kernel
theorem dL_law_392 : decode cL_law 392 = .ok (.iaload, 1) := by decide +kernel
theorem dL_law_393 : decode cL_law 393 = .ok (.aload_n 3, 1) := by decide +kernel
theorem dL_law_394 : decode cL_law 394 = .ok (.invokestatic 105, 3) := by decide +kernel
theorem dL_law_397 : decode cL_law 397 = .ok (.istore 5, 2) := by decide +kernel
theorem dL_law_399 : decode cL_law 399 = .ok (.aload_n 2, 1) := by decide +kernel
theorem dL_law_400 : decode cL_law 400 = .ok (.aload_n 0, 1) := by decide +kernel
theorem dL_law_401 : decode cL_law 401 = .ok (.iload 4, 2) := by decide +kernel
theorem dL_law_403 : decode cL_law 403 = .ok (.iconst 1, 1) := by decide +kernel
theorem dL_law_404 : decode cL_law 404 = .ok (.iadd, 1) := by decide +kernel
theorem dL_law_405 : decode cL_law 405 = .ok (.iaload, 1) := by decide +kernel
theorem dL_law_406 : decode cL_law 406 = .ok (.aload_n 0, 1) := by decide +kernel
theorem dL_law_407 : decode cL_law 407 = .ok (.iload 4, 2) := by decide +kernel
theorem dL_law_409 : decode cL_law 409 = .ok (.iconst 2, 1) := by decide +kernel
theorem dL_law_410 : decode cL_law 410 = .ok (.iadd, 1) := by decide +kernel
theorem dL_law_411 : decode cL_law 411 = .ok (.iaload, 1) := by decide +kernel
theorem dL_law_412 : decode cL_law 412 = .ok (.invokevirtual 108, 3) := by decide +kernel
theorem dL_law_415 : decode cL_law 415 = .ok (.istore 6, 2) := by decide +kernel
theorem dL_law_417 : decode cL_law 417 = .ok (.aload_n 2, 1) := by decide +kernel
theorem dL_law_418 : decode cL_law 418 = .ok (.invokevirtual 95, 3) := by decide +kernel
theorem dL_law_421 : decode cL_law 421 = .ok (.iload 5, 2) := by decide +kernel
theorem dL_law_423 : decode cL_law 423 = .ok (.if_icmp .eq 5, 3) := by decide +kernel
theorem dL_law_426 : decode cL_law 426 = .ok (.iconst 0, 1) := by decide +kernel
theorem dL_law_427 : decode cL_law 427 = .ok (.ireturn, 1) := by decide +kernel
theorem dL_law_428 : decode cL_law 428 = .ok (.iload 5, 2) := by decide +kernel
theorem dL_law_430 : decode cL_law 430 = .ok (.ifCond .ne 15, 3) := by decide +kernel
theorem dL_law_433 : decode cL_law 433 = .ok (.aload_n 3, 1) := by decide +kernel
theorem dL_law_434 : decode cL_law 434 = .ok (.iconst 0, 1) := by decide +kernel
theorem dL_law_435 : decode cL_law 435 = .ok (.laload, 1) := by decide +kernel
theorem dL_law_436 : decode cL_law 436 = .ok (.iload 6, 2) := by decide +kernel
theorem dL_law_438 : decode cL_law 438 = .ok (.i2l, 1) := by decide +kernel
theorem dL_law_439 : decode cL_law 439 = .ok (.lcmp, 1) := by decide +kernel
theorem dL_law_440 : decode cL_law 440 = .ok (.ifCond .eq 5, 3) := by decide +kernel
theorem dL_law_443 : decode cL_law 443 = .ok (.iconst 0, 1) := by decide +kernel
theorem dL_law_444 : decode cL_law 444 = .ok (.ireturn, 1) := by decide +kernel
theorem dL_law_445 : decode cL_law 445 = .ok (.goto 1154, 3) := by decide +kernel
theorem dL_law_448 : decode cL_law 448 = .ok (.aload_n 1, 1) := by decide +kernel
theorem dL_law_449 : decode cL_law 449 = .ok (.aload_n 0, 1) := by decide +kernel
theorem dL_law_450 : decode cL_law 450 = .ok (.iload 4, 2) := by decide +kernel
theorem dL_law_452 : decode cL_law 452 = .ok (.iconst 1, 1) := by decide +kernel
theorem dL_law_453 : decode cL_law 453 = .ok (.iadd, 1) := by decide +kernel
theorem dL_law_454 : decode cL_law 454 = .ok (.iaload, 1) := by decide +kernel
theorem dL_law_455 : decode cL_law 455 = .ok (.aload_n 3, 1) := by decide +kernel
theorem dL_law_456 : decode cL_law 456 = .ok (.invokestatic 109, 3) := by decide +kernel
theorem dL_law_459 : decode cL_law 459 = .ok (.istore 5, 2) := by decide +kernel
theorem dL_law_461 : decode cL_law 461 = .ok (.aload_n 2, 1) := by decide +kernel
theorem dL_law_462 : decode cL_law 462 = .ok (.aload_n 0, 1) := by decide +kernel
theorem dL_law_463 : decode cL_law 463 = .ok (.iload 4, 2) := by decide +kernel
theorem dL_law_465 : decode cL_law 465 = .ok (.iconst 1, 1) := by decide +kernel
theorem dL_law_466 : decode cL_law 466 = .ok (.iadd, 1) := by decide +kernel
theorem dL_law_467 : decode cL_law 467 = .ok (.iaload, 1) := by decide +kernel
theorem dL_law_468 : decode cL_law 468 = .ok (.invokevirtual 111, 3) := by decide +kernel
theorem dL_law_471 : decode cL_law 471 = .ok (.istore 6, 2) := by decide +kernel
theorem dL_law_473 : decode cL_law 473 = .ok (.aload_n 2, 1) := by decide +kernel
theorem dL_law_474 : decode cL_law 474 = .ok (.invokevirtual 95, 3) := by decide +kernel
theorem dL_law_477 : decode cL_law 477 = .ok (.iload 5, 2) := by decide +kernel
theorem dL_law_479 : decode cL_law 479 = .ok (.if_icmp .eq 5, 3) := by decide +kernel
theorem dL_law_482 : decode cL_law 482 = .ok (.iconst 0, 1) := by decide +kernel
theorem dL_law_483 : decode cL_law 483 = .ok (.ireturn, 1) := by decide +kernel
theorem dL_law_484 : decode cL_law 484 = .ok (.iload 5, 2) := by decide +kernel
theorem dL_law_486 : decode cL_law 486 = .ok (.ifCond .ne 15, 3) := by decide +kernel
theorem dL_law_489 : decode cL_law 489 = .ok (.aload_n 3, 1) := by decide +kernel
theorem dL_law_490 : decode cL_law 490 = .ok (.iconst 0, 1) := by decide +kernel
theorem dL_law_491 : decode cL_law 491 = .ok (.laload, 1) := by decide +kernel
theorem dL_law_492 : decode cL_law 492 = .ok (.iload 6, 2) := by decide +kernel
theorem dL_law_494 : decode cL_law 494 = .ok (.i2l, 1) := by decide +kernel
theorem dL_law_495 : decode cL_law 495 = .ok (.lcmp, 1) := by decide +kernel
theorem dL_law_496 : decode cL_law 496 = .ok (.ifCond .eq 5, 3) := by decide +kernel
theorem dL_law_499 : decode cL_law 499 = .ok (.iconst 0, 1) := by decide +kernel
theorem dL_law_500 : decode cL_law 500 = .ok (.ireturn, 1) := by decide +kernel
theorem dL_law_501 : decode cL_law 501 = .ok (.goto 1098, 3) := by decide +kernel
theorem dL_law_504 : decode cL_law 504 = .ok (.aload_n 1, 1) := by decide +kernel
theorem dL_law_505 : decode cL_law 505 = .ok (.aload_n 0, 1) := by decide +kernel
theorem dL_law_506 : decode cL_law 506 = .ok (.iload 4, 2) := by decide +kernel
theorem dL_law_508 : decode cL_law 508 = .ok (.iconst 1, 1) := by decide +kernel
theorem dL_law_509 : decode cL_law 509 = .ok (.iadd, 1) := by decide +kernel
theorem dL_law_510 : decode cL_law 510 = .ok (.iaload, 1) := by decide +kernel
theorem dL_law_511 : decode cL_law 511 = .ok (.aload_n 3, 1) := by decide +kernel
theorem dL_law_512 : decode cL_law 512 = .ok (.invokestatic 112, 3) := by decide +kernel
theorem dL_law_515 : decode cL_law 515 = .ok (.istore 5, 2) := by decide +kernel
theorem dL_law_517 : decode cL_law 517 = .ok (.aload_n 2, 1) := by decide +kernel
theorem dL_law_518 : decode cL_law 518 = .ok (.aload_n 0, 1) := by decide +kernel
theorem dL_law_519 : decode cL_law 519 = .ok (.iload 4, 2) := by decide +kernel
theorem dL_law_521 : decode cL_law 521 = .ok (.iconst 1, 1) := by decide +kernel
theorem dL_law_522 : decode cL_law 522 = .ok (.iadd, 1) := by decide +kernel
theorem dL_law_523 : decode cL_law 523 = .ok (.iaload, 1) := by decide +kernel
theorem dL_law_524 : decode cL_law 524 = .ok (.invokevirtual 114, 3) := by decide +kernel
theorem dL_law_527 : decode cL_law 527 = .ok (.istore 6, 2) := by decide +kernel
theorem dL_law_529 : decode cL_law 529 = .ok (.aload_n 2, 1) := by decide +kernel
theorem dL_law_530 : decode cL_law 530 = .ok (.invokevirtual 95, 3) := by decide +kernel
theorem dL_law_533 : decode cL_law 533 = .ok (.iload 5, 2) := by decide +kernel
theorem dL_law_535 : decode cL_law 535 = .ok (.if_icmp .eq 5, 3) := by decide +kernel
theorem dL_law_538 : decode cL_law 538 = .ok (.iconst 0, 1) := by decide +kernel
theorem dL_law_539 : decode cL_law 539 = .ok (.ireturn, 1) := by decide +kernel
theorem dL_law_540 : decode cL_law 540 = .ok (.iload 5, 2) := by decide +kernel
theorem dL_law_542 : decode cL_law 542 = .ok (.ifCond .ne 15, 3) := by decide +kernel
theorem dL_law_545 : decode cL_law 545 = .ok (.aload_n 3, 1) := by decide +kernel
theorem dL_law_546 : decode cL_law 546 = .ok (.iconst 0, 1) := by decide +kernel
theorem dL_law_547 : decode cL_law 547 = .ok (.laload, 1) := by decide +kernel
theorem dL_law_548 : decode cL_law 548 = .ok (.iload 6, 2) := by decide +kernel
theorem dL_law_550 : decode cL_law 550 = .ok (.i2l, 1) := by decide +kernel
theorem dL_law_551 : decode cL_law 551 = .ok (.lcmp, 1) := by decide +kernel
theorem dL_law_552 : decode cL_law 552 = .ok (.ifCond .eq 5, 3) := by decide +kernel
theorem dL_law_555 : decode cL_law 555 = .ok (.iconst 0, 1) := by decide +kernel
theorem dL_law_556 : decode cL_law 556 = .ok (.ireturn, 1) := by decide +kernel
theorem dL_law_557 : decode cL_law 557 = .ok (.goto 1042, 3) := by decide +kernel
theorem dL_law_560 : decode cL_law 560 = .ok (.aload_n 1, 1) := by decide +kernel
theorem dL_law_561 : decode cL_law 561 = .ok (.aload_n 0, 1) := by decide +kernel
theorem dL_law_562 : decode cL_law 562 = .ok (.iload 4, 2) := by decide +kernel
theorem dL_law_564 : decode cL_law 564 = .ok (.iconst 1, 1) := by decide +kernel
theorem dL_law_565 : decode cL_law 565 = .ok (.iadd, 1) := by decide +kernel
theorem dL_law_566 : decode cL_law 566 = .ok (.iaload, 1) := by decide +kernel
theorem dL_law_567 : decode cL_law 567 = .ok (.aload_n 3, 1) := by decide +kernel
theorem dL_law_568 : decode cL_law 568 = .ok (.invokestatic 115, 3) := by decide +kernel
theorem dL_law_571 : decode cL_law 571 = .ok (.istore 5, 2) := by decide +kernel
theorem dL_law_573 : decode cL_law 573 = .ok (.aload_n 2, 1) := by decide +kernel
theorem dL_law_574 : decode cL_law 574 = .ok (.aload_n 0, 1) := by decide +kernel
theorem dL_law_575 : decode cL_law 575 = .ok (.iload 4, 2) := by decide +kernel
theorem dL_law_577 : decode cL_law 577 = .ok (.iconst 1, 1) := by decide +kernel
theorem dL_law_578 : decode cL_law 578 = .ok (.iadd, 1) := by decide +kernel
theorem dL_law_579 : decode cL_law 579 = .ok (.iaload, 1) := by decide +kernel
theorem dL_law_580 : decode cL_law 580 = .ok (.invokevirtual 117, 3) := by decide +kernel
theorem dL_law_583 : decode cL_law 583 = .ok (.istore 6, 2) := by decide +kernel
theorem dL_law_585 : decode cL_law 585 = .ok (.aload_n 2, 1) := by decide +kernel
theorem dL_law_586 : decode cL_law 586 = .ok (.invokevirtual 95, 3) := by decide +kernel
theorem dL_law_589 : decode cL_law 589 = .ok (.iload 5, 2) := by decide +kernel
theorem dL_law_591 : decode cL_law 591 = .ok (.if_icmp .eq 5, 3) := by decide +kernel
theorem dL_law_594 : decode cL_law 594 = .ok (.iconst 0, 1) := by decide +kernel
theorem dL_law_595 : decode cL_law 595 = .ok (.ireturn, 1) := by decide +kernel
theorem dL_law_596 : decode cL_law 596 = .ok (.iload 5, 2) := by decide +kernel
theorem dL_law_598 : decode cL_law 598 = .ok (.ifCond .ne 15, 3) := by decide +kernel
theorem dL_law_601 : decode cL_law 601 = .ok (.aload_n 3, 1) := by decide +kernel
theorem dL_law_602 : decode cL_law 602 = .ok (.iconst 0, 1) := by decide +kernel
theorem dL_law_603 : decode cL_law 603 = .ok (.laload, 1) := by decide +kernel
theorem dL_law_604 : decode cL_law 604 = .ok (.iload 6, 2) := by decide +kernel
theorem dL_law_606 : decode cL_law 606 = .ok (.i2l, 1) := by decide +kernel
theorem dL_law_607 : decode cL_law 607 = .ok (.lcmp, 1) := by decide +kernel
theorem dL_law_608 : decode cL_law 608 = .ok (.ifCond .eq 5, 3) := by decide +kernel
theorem dL_law_611 : decode cL_law 611 = .ok (.iconst 0, 1) := by decide +kernel
theorem dL_law_612 : decode cL_law 612 = .ok (.ireturn, 1) := by decide +kernel
theorem dL_law_613 : decode cL_law 613 = .ok (.goto 986, 3) := by decide +kernel
theorem dL_law_616 : decode cL_law 616 = .ok (.aload_n 1, 1) := by decide +kernel
theorem dL_law_617 : decode cL_law 617 = .ok (.aload_n 0, 1) := by decide +kernel
theorem dL_law_618 : decode cL_law 618 = .ok (.iload 4, 2) := by decide +kernel
theorem dL_law_620 : decode cL_law 620 = .ok (.iconst 1, 1) := by decide +kernel
theorem dL_law_621 : decode cL_law 621 = .ok (.iadd, 1) := by decide +kernel
theorem dL_law_622 : decode cL_law 622 = .ok (.iaload, 1) := by decide +kernel
theorem dL_law_623 : decode cL_law 623 = .ok (.aload_n 0, 1) := by decide +kernel
theorem dL_law_624 : decode cL_law 624 = .ok (.iload 4, 2) := by decide +kernel
theorem dL_law_626 : decode cL_law 626 = .ok (.iconst 2, 1) := by decide +kernel
theorem dL_law_627 : decode cL_law 627 = .ok (.iadd, 1) := by decide +kernel
theorem dL_law_628 : decode cL_law 628 = .ok (.iaload, 1) := by decide +kernel
theorem dL_law_629 : decode cL_law 629 = .ok (.aload_n 3, 1) := by decide +kernel
theorem dL_law_630 : decode cL_law 630 = .ok (.invokestatic 118, 3) := by decide +kernel
theorem dL_law_633 : decode cL_law 633 = .ok (.istore 5, 2) := by decide +kernel
theorem dL_law_635 : decode cL_law 635 = .ok (.aload_n 2, 1) := by decide +kernel
theorem dL_law_636 : decode cL_law 636 = .ok (.aload_n 0, 1) := by decide +kernel
theorem dL_law_637 : decode cL_law 637 = .ok (.iload 4, 2) := by decide +kernel
theorem dL_law_639 : decode cL_law 639 = .ok (.iconst 1, 1) := by decide +kernel
theorem dL_law_640 : decode cL_law 640 = .ok (.iadd, 1) := by decide +kernel
theorem dL_law_641 : decode cL_law 641 = .ok (.iaload, 1) := by decide +kernel
theorem dL_law_642 : decode cL_law 642 = .ok (.aload_n 0, 1) := by decide +kernel
theorem dL_law_643 : decode cL_law 643 = .ok (.iload 4, 2) := by decide +kernel
theorem dL_law_645 : decode cL_law 645 = .ok (.iconst 2, 1) := by decide +kernel
theorem dL_law_646 : decode cL_law 646 = .ok (.iadd, 1) := by decide +kernel
theorem dL_law_647 : decode cL_law 647 = .ok (.iaload, 1) := by decide +kernel
theorem dL_law_648 : decode cL_law 648 = .ok (.invokevirtual 120, 3) := by decide +kernel
theorem dL_law_651 : decode cL_law 651 = .ok (.istore 6, 2) := by decide +kernel
theorem dL_law_653 : decode cL_law 653 = .ok (.aload_n 2, 1) := by decide +kernel
theorem dL_law_654 : decode cL_law 654 = .ok (.invokevirtual 95, 3) := by decide +kernel
theorem dL_law_657 : decode cL_law 657 = .ok (.iload 5, 2) := by decide +kernel
theorem dL_law_659 : decode cL_law 659 = .ok (.if_icmp .eq 5, 3) := by decide +kernel
theorem dL_law_662 : decode cL_law 662 = .ok (.iconst 0, 1) := by decide +kernel
theorem dL_law_663 : decode cL_law 663 = .ok (.ireturn, 1) := by decide +kernel
theorem dL_law_664 : decode cL_law 664 = .ok (.iload 5, 2) := by decide +kernel
theorem dL_law_666 : decode cL_law 666 = .ok (.ifCond .ne 15, 3) := by decide +kernel
theorem dL_law_669 : decode cL_law 669 = .ok (.aload_n 3, 1) := by decide +kernel
theorem dL_law_670 : decode cL_law 670 = .ok (.iconst 0, 1) := by decide +kernel
theorem dL_law_671 : decode cL_law 671 = .ok (.laload, 1) := by decide +kernel
theorem dL_law_672 : decode cL_law 672 = .ok (.iload 6, 2) := by decide +kernel
theorem dL_law_674 : decode cL_law 674 = .ok (.i2l, 1) := by decide +kernel
theorem dL_law_675 : decode cL_law 675 = .ok (.lcmp, 1) := by decide +kernel
theorem dL_law_676 : decode cL_law 676 = .ok (.ifCond .eq 5, 3) := by decide +kernel
theorem dL_law_679 : decode cL_law 679 = .ok (.iconst 0, 1) := by decide +kernel
theorem dL_law_680 : decode cL_law 680 = .ok (.ireturn, 1) := by decide +kernel
theorem dL_law_681 : decode cL_law 681 = .ok (.goto 918, 3) := by decide +kernel
theorem dL_law_684 : decode cL_law 684 = .ok (.aload_n 1, 1) := by decide +kernel
theorem dL_law_685 : decode cL_law 685 = .ok (.aload_n 0, 1) := by decide +kernel
theorem dL_law_686 : decode cL_law 686 = .ok (.iload 4, 2) := by decide +kernel
theorem dL_law_688 : decode cL_law 688 = .ok (.iconst 1, 1) := by decide +kernel
theorem dL_law_689 : decode cL_law 689 = .ok (.iadd, 1) := by decide +kernel
theorem dL_law_690 : decode cL_law 690 = .ok (.iaload, 1) := by decide +kernel
theorem dL_law_691 : decode cL_law 691 = .ok (.aload_n 3, 1) := by decide +kernel
theorem dL_law_692 : decode cL_law 692 = .ok (.invokestatic 121, 3) := by decide +kernel
theorem dL_law_695 : decode cL_law 695 = .ok (.istore 5, 2) := by decide +kernel
theorem dL_law_697 : decode cL_law 697 = .ok (.aload_n 2, 1) := by decide +kernel
theorem dL_law_698 : decode cL_law 698 = .ok (.aload_n 0, 1) := by decide +kernel
theorem dL_law_699 : decode cL_law 699 = .ok (.iload 4, 2) := by decide +kernel
theorem dL_law_701 : decode cL_law 701 = .ok (.iconst 1, 1) := by decide +kernel
theorem dL_law_702 : decode cL_law 702 = .ok (.iadd, 1) := by decide +kernel
theorem dL_law_703 : decode cL_law 703 = .ok (.iaload, 1) := by decide +kernel
theorem dL_law_704 : decode cL_law 704 = .ok (.invokevirtual 123, 3) := by decide +kernel
theorem dL_law_707 : decode cL_law 707 = .ok (.istore 6, 2) := by decide +kernel
theorem dL_law_709 : decode cL_law 709 = .ok (.aload_n 2, 1) := by decide +kernel
theorem dL_law_710 : decode cL_law 710 = .ok (.invokevirtual 95, 3) := by decide +kernel
theorem dL_law_713 : decode cL_law 713 = .ok (.iload 5, 2) := by decide +kernel
theorem dL_law_715 : decode cL_law 715 = .ok (.if_icmp .eq 5, 3) := by decide +kernel
theorem dL_law_718 : decode cL_law 718 = .ok (.iconst 0, 1) := by decide +kernel
theorem dL_law_719 : decode cL_law 719 = .ok (.ireturn, 1) := by decide +kernel
theorem dL_law_720 : decode cL_law 720 = .ok (.iload 5, 2) := by decide +kernel
theorem dL_law_722 : decode cL_law 722 = .ok (.ifCond .ne 15, 3) := by decide +kernel
theorem dL_law_725 : decode cL_law 725 = .ok (.aload_n 3, 1) := by decide +kernel
theorem dL_law_726 : decode cL_law 726 = .ok (.iconst 0, 1) := by decide +kernel
theorem dL_law_727 : decode cL_law 727 = .ok (.laload, 1) := by decide +kernel
theorem dL_law_728 : decode cL_law 728 = .ok (.iload 6, 2) := by decide +kernel
theorem dL_law_730 : decode cL_law 730 = .ok (.i2l, 1) := by decide +kernel
theorem dL_law_731 : decode cL_law 731 = .ok (.lcmp, 1) := by decide +kernel
theorem dL_law_732 : decode cL_law 732 = .ok (.ifCond .eq 5, 3) := by decide +kernel
theorem dL_law_735 : decode cL_law 735 = .ok (.iconst 0, 1) := by decide +kernel
theorem dL_law_736 : decode cL_law 736 = .ok (.ireturn, 1) := by decide +kernel
theorem dL_law_737 : decode cL_law 737 = .ok (.goto 862, 3) := by decide +kernel
theorem dL_law_740 : decode cL_law 740 = .ok (.aload_n 1, 1) := by decide +kernel
theorem dL_law_741 : decode cL_law 741 = .ok (.invokevirtual 124, 3) := by decide +kernel
theorem dL_law_744 : decode cL_law 744 = .ok (.aload_n 2, 1) := by decide +kernel
theorem dL_law_745 : decode cL_law 745 = .ok (.invokevirtual 127, 3) := by decide +kernel
theorem dL_law_748 : decode cL_law 748 = .ok (.if_icmp .eq 851, 3) := by decide +kernel
theorem dL_law_751 : decode cL_law 751 = .ok (.iconst 0, 1) := by decide +kernel
theorem dL_law_752 : decode cL_law 752 = .ok (.ireturn, 1) := by decide +kernel
theorem dL_law_753 : decode cL_law 753 = .ok (.aload_n 1, 1) := by decide +kernel
theorem dL_law_754 : decode cL_law 754 = .ok (.invokevirtual 128, 3) := by decide +kernel
theorem dL_law_757 : decode cL_law 757 = .ok (.aload_n 2, 1) := by decide +kernel
theorem dL_law_758 : decode cL_law 758 = .ok (.invokevirtual 131, 3) := by decide +kernel
theorem dL_law_761 : decode cL_law 761 = .ok (.if_icmp .eq 838, 3) := by decide +kernel
theorem dL_law_764 : decode cL_law 764 = .ok (.iconst 0, 1) := by decide +kernel
theorem dL_law_765 : decode cL_law 765 = .ok (.ireturn, 1) := by decide +kernel
theorem dL_law_766 : decode cL_law 766 = .ok (.aload_n 1, 1) := by decide +kernel
theorem dL_law_767 : decode cL_law 767 = .ok (.aload_n 3, 1) := by decide +kernel
theorem dL_law_768 : decode cL_law 768 = .ok (.invokestatic 132, 3) := by decide +kernel
theorem dL_law_771 : decode cL_law 771 = .ok (.istore 5, 2) := by decide +kernel
theorem dL_law_773 : decode cL_law 773 = .ok (.aload_n 2, 1) := by decide +kernel
theorem dL_law_774 : decode cL_law 774 = .ok (.invokevirtual 135, 3) := by decide +kernel
theorem dL_law_777 : decode cL_law 777 = .ok (.istore 6, 2) := by decide +kernel
theorem dL_law_779 : decode cL_law 779 = .ok (.aload_n 2, 1) := by decide +kernel
theorem dL_law_780 : decode cL_law 780 = .ok (.invokevirtual 95, 3) := by decide +kernel
theorem dL_law_783 : decode cL_law 783 = .ok (.iload 5, 2) := by decide +kernel
theorem dL_law_785 : decode cL_law 785 = .ok (.if_icmp .eq 5, 3) := by decide +kernel
theorem dL_law_788 : decode cL_law 788 = .ok (.iconst 0, 1) := by decide +kernel
theorem dL_law_789 : decode cL_law 789 = .ok (.ireturn, 1) := by decide +kernel
theorem dL_law_790 : decode cL_law 790 = .ok (.iload 5, 2) := by decide +kernel
theorem dL_law_792 : decode cL_law 792 = .ok (.ifCond .ne 15, 3) := by decide +kernel
theorem dL_law_795 : decode cL_law 795 = .ok (.aload_n 3, 1) := by decide +kernel
theorem dL_law_796 : decode cL_law 796 = .ok (.iconst 0, 1) := by decide +kernel
theorem dL_law_797 : decode cL_law 797 = .ok (.laload, 1) := by decide +kernel
theorem dL_law_798 : decode cL_law 798 = .ok (.iload 6, 2) := by decide +kernel
theorem dL_law_800 : decode cL_law 800 = .ok (.i2l, 1) := by decide +kernel
theorem dL_law_801 : decode cL_law 801 = .ok (.lcmp, 1) := by decide +kernel
theorem dL_law_802 : decode cL_law 802 = .ok (.ifCond .eq 5, 3) := by decide +kernel
theorem dL_law_805 : decode cL_law 805 = .ok (.iconst 0, 1) := by decide +kernel
theorem dL_law_806 : decode cL_law 806 = .ok (.ireturn, 1) := by decide +kernel
theorem dL_law_807 : decode cL_law 807 = .ok (.goto 792, 3) := by decide +kernel
theorem dL_law_810 : decode cL_law 810 = .ok (.aload_n 1, 1) := by decide +kernel
theorem dL_law_811 : decode cL_law 811 = .ok (.aload_n 3, 1) := by decide +kernel
theorem dL_law_812 : decode cL_law 812 = .ok (.invokestatic 136, 3) := by decide +kernel
theorem dL_law_815 : decode cL_law 815 = .ok (.istore 5, 2) := by decide +kernel
theorem dL_law_817 : decode cL_law 817 = .ok (.aload_n 2, 1) := by decide +kernel
theorem dL_law_818 : decode cL_law 818 = .ok (.invokevirtual 138, 3) := by decide +kernel
theorem dL_law_821 : decode cL_law 821 = .ok (.istore 6, 2) := by decide +kernel
theorem dL_law_823 : decode cL_law 823 = .ok (.aload_n 2, 1) := by decide +kernel
theorem dL_law_824 : decode cL_law 824 = .ok (.invokevirtual 95, 3) := by decide +kernel
theorem dL_law_827 : decode cL_law 827 = .ok (.iload 5, 2) := by decide +kernel
theorem dL_law_829 : decode cL_law 829 = .ok (.if_icmp .eq 5, 3) := by decide +kernel
theorem dL_law_832 : decode cL_law 832 = .ok (.iconst 0, 1) := by decide +kernel
theorem dL_law_833 : decode cL_law 833 = .ok (.ireturn, 1) := by decide +kernel
theorem dL_law_834 : decode cL_law 834 = .ok (.iload 5, 2) := by decide +kernel
theorem dL_law_836 : decode cL_law 836 = .ok (.ifCond .ne 15, 3) := by decide +kernel
theorem dL_law_839 : decode cL_law 839 = .ok (.aload_n 3, 1) := by decide +kernel
theorem dL_law_840 : decode cL_law 840 = .ok (.iconst 0, 1) := by decide +kernel
theorem dL_law_841 : decode cL_law 841 = .ok (.laload, 1) := by decide +kernel
theorem dL_law_842 : decode cL_law 842 = .ok (.iload 6, 2) := by decide +kernel
theorem dL_law_844 : decode cL_law 844 = .ok (.i2l, 1) := by decide +kernel
theorem dL_law_845 : decode cL_law 845 = .ok (.lcmp, 1) := by decide +kernel
theorem dL_law_846 : decode cL_law 846 = .ok (.ifCond .eq 5, 3) := by decide +kernel
theorem dL_law_849 : decode cL_law 849 = .ok (.iconst 0, 1) := by decide +kernel
theorem dL_law_850 : decode cL_law 850 = .ok (.ireturn, 1) := by decide +kernel
theorem dL_law_851 : decode cL_law 851 = .ok (.goto 748, 3) := by decide +kernel
theorem dL_law_854 : decode cL_law 854 = .ok (.aload_n 1, 1) := by decide +kernel
theorem dL_law_855 : decode cL_law 855 = .ok (.invokevirtual 139, 3) := by decide +kernel
theorem dL_law_858 : decode cL_law 858 = .ok (.aload_n 2, 1) := by decide +kernel
theorem dL_law_859 : decode cL_law 859 = .ok (.invokevirtual 142, 3) := by decide +kernel
theorem dL_law_862 : decode cL_law 862 = .ok (.if_icmp .eq 737, 3) := by decide +kernel
theorem dL_law_865 : decode cL_law 865 = .ok (.iconst 0, 1) := by decide +kernel
theorem dL_law_866 : decode cL_law 866 = .ok (.ireturn, 1) := by decide +kernel
theorem dL_law_867 : decode cL_law 867 = .ok (.aload_n 1, 1) := by decide +kernel
theorem dL_law_868 : decode cL_law 868 = .ok (.aload_n 3, 1) := by decide +kernel
theorem dL_law_869 : decode cL_law 869 = .ok (.invokestatic 143, 3) := by decide +kernel
theorem dL_law_872 : decode cL_law 872 = .ok (.istore 5, 2) := by decide +kernel
theorem dL_law_874 : decode cL_law 874 = .ok (.aload_n 2, 1) := by decide +kernel
theorem dL_law_875 : decode cL_law 875 = .ok (.invokevirtual 145, 3) := by decide +kernel
theorem dL_law_878 : decode cL_law 878 = .ok (.istore 6, 2) := by decide +kernel
theorem dL_law_880 : decode cL_law 880 = .ok (.aload_n 2, 1) := by decide +kernel
theorem dL_law_881 : decode cL_law 881 = .ok (.invokevirtual 95, 3) := by decide +kernel
theorem dL_law_884 : decode cL_law 884 = .ok (.iload 5, 2) := by decide +kernel
theorem dL_law_886 : decode cL_law 886 = .ok (.if_icmp .eq 5, 3) := by decide +kernel
theorem dL_law_889 : decode cL_law 889 = .ok (.iconst 0, 1) := by decide +kernel
theorem dL_law_890 : decode cL_law 890 = .ok (.ireturn, 1) := by decide +kernel
theorem dL_law_891 : decode cL_law 891 = .ok (.iload 5, 2) := by decide +kernel
theorem dL_law_893 : decode cL_law 893 = .ok (.ifCond .ne 15, 3) := by decide +kernel
theorem dL_law_896 : decode cL_law 896 = .ok (.aload_n 3, 1) := by decide +kernel
theorem dL_law_897 : decode cL_law 897 = .ok (.iconst 0, 1) := by decide +kernel
theorem dL_law_898 : decode cL_law 898 = .ok (.laload, 1) := by decide +kernel
theorem dL_law_899 : decode cL_law 899 = .ok (.iload 6, 2) := by decide +kernel
theorem dL_law_901 : decode cL_law 901 = .ok (.i2l, 1) := by decide +kernel
theorem dL_law_902 : decode cL_law 902 = .ok (.lcmp, 1) := by decide +kernel
theorem dL_law_903 : decode cL_law 903 = .ok (.ifCond .eq 5, 3) := by decide +kernel
theorem dL_law_906 : decode cL_law 906 = .ok (.iconst 0, 1) := by decide +kernel
theorem dL_law_907 : decode cL_law 907 = .ok (.ireturn, 1) := by decide +kernel
theorem dL_law_908 : decode cL_law 908 = .ok (.goto 691, 3) := by decide +kernel
theorem dL_law_911 : decode cL_law 911 = .ok (.aload_n 1, 1) := by decide +kernel
theorem dL_law_912 : decode cL_law 912 = .ok (.aload_n 0, 1) := by decide +kernel
theorem dL_law_913 : decode cL_law 913 = .ok (.iload 4, 2) := by decide +kernel
theorem dL_law_915 : decode cL_law 915 = .ok (.iconst 1, 1) := by decide +kernel
theorem dL_law_916 : decode cL_law 916 = .ok (.iadd, 1) := by decide +kernel
theorem dL_law_917 : decode cL_law 917 = .ok (.iaload, 1) := by decide +kernel
theorem dL_law_918 : decode cL_law 918 = .ok (.aload_n 0, 1) := by decide +kernel
theorem dL_law_919 : decode cL_law 919 = .ok (.iload 4, 2) := by decide +kernel
theorem dL_law_921 : decode cL_law 921 = .ok (.iconst 2, 1) := by decide +kernel
theorem dL_law_922 : decode cL_law 922 = .ok (.iadd, 1) := by decide +kernel
theorem dL_law_923 : decode cL_law 923 = .ok (.iaload, 1) := by decide +kernel
theorem dL_law_924 : decode cL_law 924 = .ok (.aload_n 3, 1) := by decide +kernel
theorem dL_law_925 : decode cL_law 925 = .ok (.invokestatic 146, 3) := by decide +kernel
theorem dL_law_928 : decode cL_law 928 = .ok (.istore 5, 2) := by decide +kernel
theorem dL_law_930 : decode cL_law 930 = .ok (.aload_n 2, 1) := by decide +kernel
theorem dL_law_931 : decode cL_law 931 = .ok (.aload_n 0, 1) := by decide +kernel
theorem dL_law_932 : decode cL_law 932 = .ok (.iload 4, 2) := by decide +kernel
theorem dL_law_934 : decode cL_law 934 = .ok (.iconst 1, 1) := by decide +kernel
theorem dL_law_935 : decode cL_law 935 = .ok (.iadd, 1) := by decide +kernel
theorem dL_law_936 : decode cL_law 936 = .ok (.iaload, 1) := by decide +kernel
theorem dL_law_937 : decode cL_law 937 = .ok (.aload_n 0, 1) := by decide +kernel
theorem dL_law_938 : decode cL_law 938 = .ok (.iload 4, 2) := by decide +kernel
theorem dL_law_940 : decode cL_law 940 = .ok (.iconst 2, 1) := by decide +kernel
theorem dL_law_941 : decode cL_law 941 = .ok (.iadd, 1) := by decide +kernel
theorem dL_law_942 : decode cL_law 942 = .ok (.iaload, 1) := by decide +kernel
theorem dL_law_943 : decode cL_law 943 = .ok (.invokevirtual 148, 3) := by decide +kernel
theorem dL_law_946 : decode cL_law 946 = .ok (.istore 6, 2) := by decide +kernel
theorem dL_law_948 : decode cL_law 948 = .ok (.aload_n 2, 1) := by decide +kernel
theorem dL_law_949 : decode cL_law 949 = .ok (.invokevirtual 95, 3) := by decide +kernel
theorem dL_law_952 : decode cL_law 952 = .ok (.iload 5, 2) := by decide +kernel
theorem dL_law_954 : decode cL_law 954 = .ok (.if_icmp .eq 5, 3) := by decide +kernel
theorem dL_law_957 : decode cL_law 957 = .ok (.iconst 0, 1) := by decide +kernel
theorem dL_law_958 : decode cL_law 958 = .ok (.ireturn, 1) := by decide +kernel
theorem dL_law_959 : decode cL_law 959 = .ok (.iload 5, 2) := by decide +kernel
theorem dL_law_961 : decode cL_law 961 = .ok (.ifCond .ne 15, 3) := by decide +kernel
theorem dL_law_964 : decode cL_law 964 = .ok (.aload_n 3, 1) := by decide +kernel
theorem dL_law_965 : decode cL_law 965 = .ok (.iconst 0, 1) := by decide +kernel
theorem dL_law_966 : decode cL_law 966 = .ok (.laload, 1) := by decide +kernel
theorem dL_law_967 : decode cL_law 967 = .ok (.iload 6, 2) := by decide +kernel
theorem dL_law_969 : decode cL_law 969 = .ok (.i2l, 1) := by decide +kernel
theorem dL_law_970 : decode cL_law 970 = .ok (.lcmp, 1) := by decide +kernel
theorem dL_law_971 : decode cL_law 971 = .ok (.ifCond .eq 5, 3) := by decide +kernel
theorem dL_law_974 : decode cL_law 974 = .ok (.iconst 0, 1) := by decide +kernel
theorem dL_law_975 : decode cL_law 975 = .ok (.ireturn, 1) := by decide +kernel
theorem dL_law_976 : decode cL_law 976 = .ok (.goto 623, 3) := by decide +kernel
theorem dL_law_979 : decode cL_law 979 = .ok (.aload_n 1, 1) := by decide +kernel
theorem dL_law_980 : decode cL_law 980 = .ok (.aload_n 0, 1) := by decide +kernel
theorem dL_law_981 : decode cL_law 981 = .ok (.iload 4, 2) := by decide +kernel
theorem dL_law_983 : decode cL_law 983 = .ok (.iconst 1, 1) := by decide +kernel
theorem dL_law_984 : decode cL_law 984 = .ok (.iadd, 1) := by decide +kernel
theorem dL_law_985 : decode cL_law 985 = .ok (.iaload, 1) := by decide +kernel
theorem dL_law_986 : decode cL_law 986 = .ok (.aload_n 3, 1) := by decide +kernel
theorem dL_law_987 : decode cL_law 987 = .ok (.invokestatic 149, 3) := by decide +kernel
theorem dL_law_990 : decode cL_law 990 = .ok (.istore 5, 2) := by decide +kernel
theorem dL_law_992 : decode cL_law 992 = .ok (.aload_n 2, 1) := by decide +kernel
theorem dL_law_993 : decode cL_law 993 = .ok (.aload_n 0, 1) := by decide +kernel
theorem dL_law_994 : decode cL_law 994 = .ok (.iload 4, 2) := by decide +kernel
theorem dL_law_996 : decode cL_law 996 = .ok (.iconst 1, 1) := by decide +kernel
theorem dL_law_997 : decode cL_law 997 = .ok (.iadd, 1) := by decide +kernel
theorem dL_law_998 : decode cL_law 998 = .ok (.iaload, 1) := by decide +kernel
theorem dL_law_999 : decode cL_law 999 = .ok (.invokevirtual 151, 3) := by decide +kernel
theorem dL_law_1002 : decode cL_law 1002 = .ok (.istore 6, 2) := by decide +kernel
theorem dL_law_1004 : decode cL_law 1004 = .ok (.aload_n 2, 1) := by decide +kernel
theorem dL_law_1005 : decode cL_law 1005 = .ok (.invokevirtual 95, 3) := by decide +kernel
theorem dL_law_1008 : decode cL_law 1008 = .ok (.iload 5, 2) := by decide +kernel
theorem dL_law_1010 : decode cL_law 1010 = .ok (.if_icmp .eq 5, 3) := by decide +kernel
theorem dL_law_1013 : decode cL_law 1013 = .ok (.iconst 0, 1) := by decide +kernel
theorem dL_law_1014 : decode cL_law 1014 = .ok (.ireturn, 1) := by decide +kernel
theorem dL_law_1015 : decode cL_law 1015 = .ok (.iload 5, 2) := by decide +kernel
theorem dL_law_1017 : decode cL_law 1017 = .ok (.ifCond .ne 15, 3) := by decide +kernel
theorem dL_law_1020 : decode cL_law 1020 = .ok (.aload_n 3, 1) := by decide +kernel
theorem dL_law_1021 : decode cL_law 1021 = .ok (.iconst 0, 1) := by decide +kernel
theorem dL_law_1022 : decode cL_law 1022 = .ok (.laload, 1) := by decide +kernel
theorem dL_law_1023 : decode cL_law 1023 = .ok (.iload 6, 2) := by decide +kernel
theorem dL_law_1025 : decode cL_law 1025 = .ok (.i2l, 1) := by decide +kernel
theorem dL_law_1026 : decode cL_law 1026 = .ok (.lcmp, 1) := by decide +kernel
theorem dL_law_1027 : decode cL_law 1027 = .ok (.ifCond .eq 5, 3) := by decide +kernel
theorem dL_law_1030 : decode cL_law 1030 = .ok (.iconst 0, 1) := by decide +kernel
theorem dL_law_1031 : decode cL_law 1031 = .ok (.ireturn, 1) := by decide +kernel
theorem dL_law_1032 : decode cL_law 1032 = .ok (.goto 567, 3) := by decide +kernel
theorem dL_law_1035 : decode cL_law 1035 = .ok (.aload_n 1, 1) := by decide +kernel
theorem dL_law_1036 : decode cL_law 1036 = .ok (.aload_n 0, 1) := by decide +kernel
theorem dL_law_1037 : decode cL_law 1037 = .ok (.iload 4, 2) := by decide +kernel
theorem dL_law_1039 : decode cL_law 1039 = .ok (.iconst 1, 1) := by decide +kernel
theorem dL_law_1040 : decode cL_law 1040 = .ok (.iadd, 1) := by decide +kernel
theorem dL_law_1041 : decode cL_law 1041 = .ok (.iaload, 1) := by decide +kernel
theorem dL_law_1042 : decode cL_law 1042 = .ok (.aload_n 3, 1) := by decide +kernel
theorem dL_law_1043 : decode cL_law 1043 = .ok (.invokestatic 152, 3) := by decide +kernel
theorem dL_law_1046 : decode cL_law 1046 = .ok (.istore 5, 2) := by decide +kernel
theorem dL_law_1048 : decode cL_law 1048 = .ok (.aload_n 2, 1) := by decide +kernel
theorem dL_law_1049 : decode cL_law 1049 = .ok (.aload_n 0, 1) := by decide +kernel
theorem dL_law_1050 : decode cL_law 1050 = .ok (.iload 4, 2) := by decide +kernel
theorem dL_law_1052 : decode cL_law 1052 = .ok (.iconst 1, 1) := by decide +kernel
theorem dL_law_1053 : decode cL_law 1053 = .ok (.iadd, 1) := by decide +kernel
theorem dL_law_1054 : decode cL_law 1054 = .ok (.iaload, 1) := by decide +kernel
theorem dL_law_1055 : decode cL_law 1055 = .ok (.invokevirtual 154, 3) := by decide +kernel
theorem dL_law_1058 : decode cL_law 1058 = .ok (.istore 6, 2) := by decide +kernel
theorem dL_law_1060 : decode cL_law 1060 = .ok (.aload_n 2, 1) := by decide +kernel
theorem dL_law_1061 : decode cL_law 1061 = .ok (.invokevirtual 95, 3) := by decide +kernel
theorem dL_law_1064 : decode cL_law 1064 = .ok (.iload 5, 2) := by decide +kernel
theorem dL_law_1066 : decode cL_law 1066 = .ok (.if_icmp .eq 5, 3) := by decide +kernel
theorem dL_law_1069 : decode cL_law 1069 = .ok (.iconst 0, 1) := by decide +kernel
theorem dL_law_1070 : decode cL_law 1070 = .ok (.ireturn, 1) := by decide +kernel
theorem dL_law_1071 : decode cL_law 1071 = .ok (.iload 5, 2) := by decide +kernel
theorem dL_law_1073 : decode cL_law 1073 = .ok (.ifCond .ne 15, 3) := by decide +kernel
theorem dL_law_1076 : decode cL_law 1076 = .ok (.aload_n 3, 1) := by decide +kernel
theorem dL_law_1077 : decode cL_law 1077 = .ok (.iconst 0, 1) := by decide +kernel
theorem dL_law_1078 : decode cL_law 1078 = .ok (.laload, 1) := by decide +kernel
theorem dL_law_1079 : decode cL_law 1079 = .ok (.iload 6, 2) := by decide +kernel
theorem dL_law_1081 : decode cL_law 1081 = .ok (.i2l, 1) := by decide +kernel
theorem dL_law_1082 : decode cL_law 1082 = .ok (.lcmp, 1) := by decide +kernel
theorem dL_law_1083 : decode cL_law 1083 = .ok (.ifCond .eq 5, 3) := by decide +kernel
theorem dL_law_1086 : decode cL_law 1086 = .ok (.iconst 0, 1) := by decide +kernel
theorem dL_law_1087 : decode cL_law 1087 = .ok (.ireturn, 1) := by decide +kernel
theorem dL_law_1088 : decode cL_law 1088 = .ok (.goto 511, 3) := by decide +kernel
theorem dL_law_1091 : decode cL_law 1091 = .ok (.aload_n 1, 1) := by decide +kernel
theorem dL_law_1092 : decode cL_law 1092 = .ok (.aload_n 0, 1) := by decide +kernel
theorem dL_law_1093 : decode cL_law 1093 = .ok (.iload 4, 2) := by decide +kernel
theorem dL_law_1095 : decode cL_law 1095 = .ok (.iconst 1, 1) := by decide +kernel
theorem dL_law_1096 : decode cL_law 1096 = .ok (.iadd, 1) := by decide +kernel
theorem dL_law_1097 : decode cL_law 1097 = .ok (.iaload, 1) := by decide +kernel
theorem dL_law_1098 : decode cL_law 1098 = .ok (.aload_n 0, 1) := by decide +kernel
theorem dL_law_1099 : decode cL_law 1099 = .ok (.iload 4, 2) := by decide +kernel
theorem dL_law_1101 : decode cL_law 1101 = .ok (.iconst 2, 1) := by decide +kernel
theorem dL_law_1102 : decode cL_law 1102 = .ok (.iadd, 1) := by decide +kernel
theorem dL_law_1103 : decode cL_law 1103 = .ok (.iaload, 1) := by decide +kernel
theorem dL_law_1104 : decode cL_law 1104 = .ok (.aload_n 3, 1) := by decide +kernel
theorem dL_law_1105 : decode cL_law 1105 = .ok (.invokestatic 155, 3) := by decide +kernel
theorem dL_law_1108 : decode cL_law 1108 = .ok (.istore 5, 2) := by decide +kernel
theorem dL_law_1110 : decode cL_law 1110 = .ok (.aload_n 2, 1) := by decide +kernel
theorem dL_law_1111 : decode cL_law 1111 = .ok (.aload_n 0, 1) := by decide +kernel
theorem dL_law_1112 : decode cL_law 1112 = .ok (.iload 4, 2) := by decide +kernel
theorem dL_law_1114 : decode cL_law 1114 = .ok (.iconst 1, 1) := by decide +kernel
theorem dL_law_1115 : decode cL_law 1115 = .ok (.iadd, 1) := by decide +kernel
theorem dL_law_1116 : decode cL_law 1116 = .ok (.iaload, 1) := by decide +kernel
theorem dL_law_1117 : decode cL_law 1117 = .ok (.aload_n 0, 1) := by decide +kernel
theorem dL_law_1118 : decode cL_law 1118 = .ok (.iload 4, 2) := by decide +kernel
theorem dL_law_1120 : decode cL_law 1120 = .ok (.iconst 2, 1) := by decide +kernel
theorem dL_law_1121 : decode cL_law 1121 = .ok (.iadd, 1) := by decide +kernel
theorem dL_law_1122 : decode cL_law 1122 = .ok (.iaload, 1) := by decide +kernel
theorem dL_law_1123 : decode cL_law 1123 = .ok (.invokevirtual 157, 3) := by decide +kernel
theorem dL_law_1126 : decode cL_law 1126 = .ok (.istore 6, 2) := by decide +kernel
theorem dL_law_1128 : decode cL_law 1128 = .ok (.aload_n 2, 1) := by decide +kernel
theorem dL_law_1129 : decode cL_law 1129 = .ok (.invokevirtual 95, 3) := by decide +kernel
theorem dL_law_1132 : decode cL_law 1132 = .ok (.iload 5, 2) := by decide +kernel
theorem dL_law_1134 : decode cL_law 1134 = .ok (.if_icmp .eq 5, 3) := by decide +kernel
theorem dL_law_1137 : decode cL_law 1137 = .ok (.iconst 0, 1) := by decide +kernel
theorem dL_law_1138 : decode cL_law 1138 = .ok (.ireturn, 1) := by decide +kernel
theorem dL_law_1139 : decode cL_law 1139 = .ok (.iload 5, 2) := by decide +kernel
theorem dL_law_1141 : decode cL_law 1141 = .ok (.ifCond .ne 15, 3) := by decide +kernel
theorem dL_law_1144 : decode cL_law 1144 = .ok (.aload_n 3, 1) := by decide +kernel
theorem dL_law_1145 : decode cL_law 1145 = .ok (.iconst 0, 1) := by decide +kernel
theorem dL_law_1146 : decode cL_law 1146 = .ok (.laload, 1) := by decide +kernel
theorem dL_law_1147 : decode cL_law 1147 = .ok (.iload 6, 2) := by decide +kernel
theorem dL_law_1149 : decode cL_law 1149 = .ok (.i2l, 1) := by decide +kernel
theorem dL_law_1150 : decode cL_law 1150 = .ok (.lcmp, 1) := by decide +kernel
theorem dL_law_1151 : decode cL_law 1151 = .ok (.ifCond .eq 5, 3) := by decide +kernel
theorem dL_law_1154 : decode cL_law 1154 = .ok (.iconst 0, 1) := by decide +kernel
theorem dL_law_1155 : decode cL_law 1155 = .ok (.ireturn, 1) := by decide +kernel
theorem dL_law_1156 : decode cL_law 1156 = .ok (.goto 443, 3) := by decide +kernel
theorem dL_law_1159 : decode cL_law 1159 = .ok (.aload_n 1, 1) := by decide +kernel
theorem dL_law_1160 : decode cL_law 1160 = .ok (.aload_n 0, 1) := by decide +kernel
theorem dL_law_1161 : decode cL_law 1161 = .ok (.iload 4, 2) := by decide +kernel
theorem dL_law_1163 : decode cL_law 1163 = .ok (.iconst 1, 1) := by decide +kernel
theorem dL_law_1164 : decode cL_law 1164 = .ok (.iadd, 1) := by decide +kernel
theorem dL_law_1165 : decode cL_law 1165 = .ok (.iaload, 1) := by decide +kernel
theorem dL_law_1166 : decode cL_law 1166 = .ok (.aload_n 3, 1) := by decide +kernel
theorem dL_law_1167 : decode cL_law 1167 = .ok (.invokestatic 158, 3) := by decide +kernel
theorem dL_law_1170 : decode cL_law 1170 = .ok (.istore 5, 2) := by decide +kernel
theorem dL_law_1172 : decode cL_law 1172 = .ok (.aload_n 2, 1) := by decide +kernel
theorem dL_law_1173 : decode cL_law 1173 = .ok (.aload_n 0, 1) := by decide +kernel
theorem dL_law_1174 : decode cL_law 1174 = .ok (.iload 4, 2) := by decide +kernel
theorem dL_law_1176 : decode cL_law 1176 = .ok (.iconst 1, 1) := by decide +kernel
theorem dL_law_1177 : decode cL_law 1177 = .ok (.iadd, 1) := by decide +kernel
theorem dL_law_1178 : decode cL_law 1178 = .ok (.iaload, 1) := by decide +kernel
theorem dL_law_1179 : decode cL_law 1179 = .ok (.invokevirtual 160, 3) := by decide +kernel
theorem dL_law_1182 : decode cL_law 1182 = .ok (.istore 6, 2) := by decide +kernel
theorem dL_law_1184 : decode cL_law 1184 = .ok (.aload_n 2, 1) := by decide +kernel
theorem dL_law_1185 : decode cL_law 1185 = .ok (.invokevirtual 95, 3) := by decide +kernel
theorem dL_law_1188 : decode cL_law 1188 = .ok (.iload 5, 2) := by decide +kernel
theorem dL_law_1190 : decode cL_law 1190 = .ok (.if_icmp .eq 5, 3) := by decide +kernel
theorem dL_law_1193 : decode cL_law 1193 = .ok (.iconst 0, 1) := by decide +kernel
theorem dL_law_1194 : decode cL_law 1194 = .ok (.ireturn, 1) := by decide +kernel
theorem dL_law_1195 : decode cL_law 1195 = .ok (.iload 5, 2) := by decide +kernel
theorem dL_law_1197 : decode cL_law 1197 = .ok (.ifCond .ne 15, 3) := by decide +kernel
theorem dL_law_1200 : decode cL_law 1200 = .ok (.aload_n 3, 1) := by decide +kernel
theorem dL_law_1201 : decode cL_law 1201 = .ok (.iconst 0, 1) := by decide +kernel
theorem dL_law_1202 : decode cL_law 1202 = .ok (.laload, 1) := by decide +kernel
theorem dL_law_1203 : decode cL_law 1203 = .ok (.iload 6, 2) := by decide +kernel
theorem dL_law_1205 : decode cL_law 1205 = .ok (.i2l, 1) := by decide +kernel
theorem dL_law_1206 : decode cL_law 1206 = .ok (.lcmp, 1) := by decide +kernel
theorem dL_law_1207 : decode cL_law 1207 = .ok (.ifCond .eq 5, 3) := by decide +kernel
theorem dL_law_1210 : decode cL_law 1210 = .ok (.iconst 0, 1) := by decide +kernel
theorem dL_law_1211 : decode cL_law 1211 = .ok (.ireturn, 1) := by decide +kernel
theorem dL_law_1212 : decode cL_law 1212 = .ok (.goto 387, 3) := by decide +kernel
theorem dL_law_1215 : decode cL_law 1215 = .ok (.aload_n 1, 1) := by decide +kernel
theorem dL_law_1216 : decode cL_law 1216 = .ok (.aload_n 0, 1) := by decide +kernel
theorem dL_law_1217 : decode cL_law 1217 = .ok (.iload 4, 2) := by decide +kernel
theorem dL_law_1219 : decode cL_law 1219 = .ok (.iconst 1, 1) := by decide +kernel
theorem dL_law_1220 : decode cL_law 1220 = .ok (.iadd, 1) := by decide +kernel
theorem dL_law_1221 : decode cL_law 1221 = .ok (.iaload, 1) := by decide +kernel
theorem dL_law_1222 : decode cL_law 1222 = .ok (.aload_n 3, 1) := by decide +kernel
theorem dL_law_1223 : decode cL_law 1223 = .ok (.invokestatic 161, 3) := by decide +kernel
theorem dL_law_1226 : decode cL_law 1226 = .ok (.istore 5, 2) := by decide +kernel
theorem dL_law_1228 : decode cL_law 1228 = .ok (.aload_n 2, 1) := by decide +kernel
theorem dL_law_1229 : decode cL_law 1229 = .ok (.aload_n 0, 1) := by decide +kernel
theorem dL_law_1230 : decode cL_law 1230 = .ok (.iload 4, 2) := by decide +kernel
theorem dL_law_1232 : decode cL_law 1232 = .ok (.iconst 1, 1) := by decide +kernel
theorem dL_law_1233 : decode cL_law 1233 = .ok (.iadd, 1) := by decide +kernel
theorem dL_law_1234 : decode cL_law 1234 = .ok (.iaload, 1) := by decide +kernel
theorem dL_law_1235 : decode cL_law 1235 = .ok (.invokevirtual 163, 3) := by decide +kernel
theorem dL_law_1238 : decode cL_law 1238 = .ok (.istore 6, 2) := by decide +kernel
theorem dL_law_1240 : decode cL_law 1240 = .ok (.aload_n 2, 1) := by decide +kernel
theorem dL_law_1241 : decode cL_law 1241 = .ok (.invokevirtual 95, 3) := by decide +kernel
theorem dL_law_1244 : decode cL_law 1244 = .ok (.iload 5, 2) := by decide +kernel
theorem dL_law_1246 : decode cL_law 1246 = .ok (.if_icmp .eq 5, 3) := by decide +kernel
theorem dL_law_1249 : decode cL_law 1249 = .ok (.iconst 0, 1) := by decide +kernel
theorem dL_law_1250 : decode cL_law 1250 = .ok (.ireturn, 1) := by decide +kernel
theorem dL_law_1251 : decode cL_law 1251 = .ok (.iload 5, 2) := by decide +kernel
theorem dL_law_1253 : decode cL_law 1253 = .ok (.ifCond .ne 15, 3) := by decide +kernel
theorem dL_law_1256 : decode cL_law 1256 = .ok (.aload_n 3, 1) := by decide +kernel
theorem dL_law_1257 : decode cL_law 1257 = .ok (.iconst 0, 1) := by decide +kernel
theorem dL_law_1258 : decode cL_law 1258 = .ok (.laload, 1) := by decide +kernel
theorem dL_law_1259 : decode cL_law 1259 = .ok (.iload 6, 2) := by decide +kernel
theorem dL_law_1261 : decode cL_law 1261 = .ok (.i2l, 1) := by decide +kernel
theorem dL_law_1262 : decode cL_law 1262 = .ok (.lcmp, 1) := by decide +kernel
theorem dL_law_1263 : decode cL_law 1263 = .ok (.ifCond .eq 5, 3) := by decide +kernel
theorem dL_law_1266 : decode cL_law 1266 = .ok (.iconst 0, 1) := by decide +kernel
theorem dL_law_1267 : decode cL_law 1267 = .ok (.ireturn, 1) := by decide +kernel
theorem dL_law_1268 : decode cL_law 1268 = .ok (.goto 331, 3) := by decide +kernel
theorem dL_law_1271 : decode cL_law 1271 = .ok (.aload_n 1, 1) := by decide +kernel
theorem dL_law_1272 : decode cL_law 1272 = .ok (.aload_n 0, 1) := by decide +kernel
theorem dL_law_1273 : decode cL_law 1273 = .ok (.iload 4, 2) := by decide +kernel
theorem dL_law_1275 : decode cL_law 1275 = .ok (.iconst 1, 1) := by decide +kernel
theorem dL_law_1276 : decode cL_law 1276 = .ok (.iadd, 1) := by decide +kernel
theorem dL_law_1277 : decode cL_law 1277 = .ok (.iaload, 1) := by decide +kernel
theorem dL_law_1278 : decode cL_law 1278 = .ok (.aload_n 0, 1) := by decide +kernel
theorem dL_law_1279 : decode cL_law 1279 = .ok (.iload 4, 2) := by decide +kernel
theorem dL_law_1281 : decode cL_law 1281 = .ok (.iconst 2, 1) := by decide +kernel
theorem dL_law_1282 : decode cL_law 1282 = .ok (.iadd, 1) := by decide +kernel
theorem dL_law_1283 : decode cL_law 1283 = .ok (.iaload, 1) := by decide +kernel
theorem dL_law_1284 : decode cL_law 1284 = .ok (.aload_n 3, 1) := by decide +kernel
theorem dL_law_1285 : decode cL_law 1285 = .ok (.invokestatic 164, 3) := by decide +kernel
theorem dL_law_1288 : decode cL_law 1288 = .ok (.istore 5, 2) := by decide +kernel
theorem dL_law_1290 : decode cL_law 1290 = .ok (.aload_n 2, 1) := by decide +kernel
theorem dL_law_1291 : decode cL_law 1291 = .ok (.aload_n 0, 1) := by decide +kernel
theorem dL_law_1292 : decode cL_law 1292 = .ok (.iload 4, 2) := by decide +kernel
theorem dL_law_1294 : decode cL_law 1294 = .ok (.iconst 1, 1) := by decide +kernel
theorem dL_law_1295 : decode cL_law 1295 = .ok (.iadd, 1) := by decide +kernel
theorem dL_law_1296 : decode cL_law 1296 = .ok (.iaload, 1) := by decide +kernel
theorem dL_law_1297 : decode cL_law 1297 = .ok (.aload_n 0, 1) := by decide +kernel
theorem dL_law_1298 : decode cL_law 1298 = .ok (.iload 4, 2) := by decide +kernel
theorem dL_law_1300 : decode cL_law 1300 = .ok (.iconst 2, 1) := by decide +kernel
theorem dL_law_1301 : decode cL_law 1301 = .ok (.iadd, 1) := by decide +kernel
theorem dL_law_1302 : decode cL_law 1302 = .ok (.iaload, 1) := by decide +kernel
theorem dL_law_1303 : decode cL_law 1303 = .ok (.invokevirtual 166, 3) := by decide +kernel
theorem dL_law_1306 : decode cL_law 1306 = .ok (.istore 6, 2) := by decide +kernel
theorem dL_law_1308 : decode cL_law 1308 = .ok (.aload_n 2, 1) := by decide +kernel
theorem dL_law_1309 : decode cL_law 1309 = .ok (.invokevirtual 95, 3) := by decide +kernel
theorem dL_law_1312 : decode cL_law 1312 = .ok (.iload 5, 2) := by decide +kernel
theorem dL_law_1314 : decode cL_law 1314 = .ok (.if_icmp .eq 5, 3) := by decide +kernel
theorem dL_law_1317 : decode cL_law 1317 = .ok (.iconst 0, 1) := by decide +kernel
theorem dL_law_1318 : decode cL_law 1318 = .ok (.ireturn, 1) := by decide +kernel
theorem dL_law_1319 : decode cL_law 1319 = .ok (.iload 5, 2) := by decide +kernel
theorem dL_law_1321 : decode cL_law 1321 = .ok (.ifCond .ne 15, 3) := by decide +kernel
theorem dL_law_1324 : decode cL_law 1324 = .ok (.aload_n 3, 1) := by decide +kernel
theorem dL_law_1325 : decode cL_law 1325 = .ok (.iconst 0, 1) := by decide +kernel
theorem dL_law_1326 : decode cL_law 1326 = .ok (.laload, 1) := by decide +kernel
theorem dL_law_1327 : decode cL_law 1327 = .ok (.iload 6, 2) := by decide +kernel
theorem dL_law_1329 : decode cL_law 1329 = .ok (.i2l, 1) := by decide +kernel
theorem dL_law_1330 : decode cL_law 1330 = .ok (.lcmp, 1) := by decide +kernel
theorem dL_law_1331 : decode cL_law 1331 = .ok (.ifCond .eq 5, 3) := by decide +kernel
theorem dL_law_1334 : decode cL_law 1334 = .ok (.iconst 0, 1) := by decide +kernel
theorem dL_law_1335 : decode cL_law 1335 = .ok (.ireturn, 1) := by decide +kernel
theorem dL_law_1336 : decode cL_law 1336 = .ok (.goto 263, 3) := by decide +kernel
theorem dL_law_1339 : decode cL_law 1339 = .ok (.aload_n 1, 1) := by decide +kernel
theorem dL_law_1340 : decode cL_law 1340 = .ok (.aload_n 0, 1) := by decide +kernel
theorem dL_law_1341 : decode cL_law 1341 = .ok (.iload 4, 2) := by decide +kernel
theorem dL_law_1343 : decode cL_law 1343 = .ok (.iconst 1, 1) := by decide +kernel
theorem dL_law_1344 : decode cL_law 1344 = .ok (.iadd, 1) := by decide +kernel
theorem dL_law_1345 : decode cL_law 1345 = .ok (.iaload, 1) := by decide +kernel
theorem dL_law_1346 : decode cL_law 1346 = .ok (.aload_n 0, 1) := by decide +kernel
theorem dL_law_1347 : decode cL_law 1347 = .ok (.iload 4, 2) := by decide +kernel
theorem dL_law_1349 : decode cL_law 1349 = .ok (.iconst 2, 1) := by decide +kernel
theorem dL_law_1350 : decode cL_law 1350 = .ok (.iadd, 1) := by decide +kernel
theorem dL_law_1351 : decode cL_law 1351 = .ok (.iaload, 1) := by decide +kernel
theorem dL_law_1352 : decode cL_law 1352 = .ok (.aload_n 3, 1) := by decide +kernel
theorem dL_law_1353 : decode cL_law 1353 = .ok (.invokestatic 167, 3) := by decide +kernel
theorem dL_law_1356 : decode cL_law 1356 = .ok (.istore 5, 2) := by decide +kernel
theorem dL_law_1358 : decode cL_law 1358 = .ok (.aload_n 2, 1) := by decide +kernel
theorem dL_law_1359 : decode cL_law 1359 = .ok (.aload_n 0, 1) := by decide +kernel
theorem dL_law_1360 : decode cL_law 1360 = .ok (.iload 4, 2) := by decide +kernel
theorem dL_law_1362 : decode cL_law 1362 = .ok (.iconst 1, 1) := by decide +kernel
theorem dL_law_1363 : decode cL_law 1363 = .ok (.iadd, 1) := by decide +kernel
theorem dL_law_1364 : decode cL_law 1364 = .ok (.iaload, 1) := by decide +kernel
theorem dL_law_1365 : decode cL_law 1365 = .ok (.aload_n 0, 1) := by decide +kernel
theorem dL_law_1366 : decode cL_law 1366 = .ok (.iload 4, 2) := by decide +kernel
theorem dL_law_1368 : decode cL_law 1368 = .ok (.iconst 2, 1) := by decide +kernel
theorem dL_law_1369 : decode cL_law 1369 = .ok (.iadd, 1) := by decide +kernel
theorem dL_law_1370 : decode cL_law 1370 = .ok (.iaload, 1) := by decide +kernel
theorem dL_law_1371 : decode cL_law 1371 = .ok (.invokevirtual 169, 3) := by decide +kernel
theorem dL_law_1374 : decode cL_law 1374 = .ok (.istore 6, 2) := by decide +kernel
theorem dL_law_1376 : decode cL_law 1376 = .ok (.aload_n 2, 1) := by decide +kernel
theorem dL_law_1377 : decode cL_law 1377 = .ok (.invokevirtual 95, 3) := by decide +kernel
theorem dL_law_1380 : decode cL_law 1380 = .ok (.iload 5, 2) := by decide +kernel
theorem dL_law_1382 : decode cL_law 1382 = .ok (.if_icmp .eq 5, 3) := by decide +kernel
theorem dL_law_1385 : decode cL_law 1385 = .ok (.iconst 0, 1) := by decide +kernel
theorem dL_law_1386 : decode cL_law 1386 = .ok (.ireturn, 1) := by decide +kernel
theorem dL_law_1387 : decode cL_law 1387 = .ok (.iload 5, 2) := by decide +kernel
theorem dL_law_1389 : decode cL_law 1389 = .ok (.ifCond .ne 15, 3) := by decide +kernel
theorem dL_law_1392 : decode cL_law 1392 = .ok (.aload_n 3, 1) := by decide +kernel
theorem dL_law_1393 : decode cL_law 1393 = .ok (.iconst 0, 1) := by decide +kernel
theorem dL_law_1394 : decode cL_law 1394 = .ok (.laload, 1) := by decide +kernel
theorem dL_law_1395 : decode cL_law 1395 = .ok (.iload 6, 2) := by decide +kernel
theorem dL_law_1397 : decode cL_law 1397 = .ok (.i2l, 1) := by decide +kernel
theorem dL_law_1398 : decode cL_law 1398 = .ok (.lcmp, 1) := by decide +kernel
theorem dL_law_1399 : decode cL_law 1399 = .ok (.ifCond .eq 5, 3) := by decide +kernel
theorem dL_law_1402 : decode cL_law 1402 = .ok (.iconst 0, 1) := by decide +kernel
theorem dL_law_1403 : decode cL_law 1403 = .ok (.ireturn, 1) := by decide +kernel
theorem dL_law_1404 : decode cL_law 1404 = .ok (.goto 195, 3) := by decide +kernel
theorem dL_law_1407 : decode cL_law 1407 = .ok (.aload_n 1, 1) := by decide +kernel
theorem dL_law_1408 : decode cL_law 1408 = .ok (.aload_n 0, 1) := by decide +kernel
theorem dL_law_1409 : decode cL_law 1409 = .ok (.iload 4, 2) := by decide +kernel
theorem dL_law_1411 : decode cL_law 1411 = .ok (.iconst 1, 1) := by decide +kernel
theorem dL_law_1412 : decode cL_law 1412 = .ok (.iadd, 1) := by decide +kernel
theorem dL_law_1413 : decode cL_law 1413 = .ok (.iaload, 1) := by decide +kernel
theorem dL_law_1414 : decode cL_law 1414 = .ok (.aload_n 0, 1) := by decide +kernel
theorem dL_law_1415 : decode cL_law 1415 = .ok (.iload 4, 2) := by decide +kernel
theorem dL_law_1417 : decode cL_law 1417 = .ok (.iconst 2, 1) := by decide +kernel
theorem dL_law_1418 : decode cL_law 1418 = .ok (.iadd, 1) := by decide +kernel
theorem dL_law_1419 : decode cL_law 1419 = .ok (.iaload, 1) := by decide +kernel
theorem dL_law_1420 : decode cL_law 1420 = .ok (.aload_n 3, 1) := by decide +kernel
theorem dL_law_1421 : decode cL_law 1421 = .ok (.invokestatic 170, 3) := by decide +kernel
theorem dL_law_1424 : decode cL_law 1424 = .ok (.istore 5, 2) := by decide +kernel
theorem dL_law_1426 : decode cL_law 1426 = .ok (.aload_n 2, 1) := by decide +kernel
theorem dL_law_1427 : decode cL_law 1427 = .ok (.aload_n 0, 1) := by decide +kernel
theorem dL_law_1428 : decode cL_law 1428 = .ok (.iload 4, 2) := by decide +kernel
theorem dL_law_1430 : decode cL_law 1430 = .ok (.iconst 1, 1) := by decide +kernel
theorem dL_law_1431 : decode cL_law 1431 = .ok (.iadd, 1) := by decide +kernel
theorem dL_law_1432 : decode cL_law 1432 = .ok (.iaload, 1) := by decide +kernel
theorem dL_law_1433 : decode cL_law 1433 = .ok (.aload_n 0, 1) := by decide +kernel
theorem dL_law_1434 : decode cL_law 1434 = .ok (.iload 4, 2) := by decide +kernel
theorem dL_law_1436 : decode cL_law 1436 = .ok (.iconst 2, 1) := by decide +kernel
theorem dL_law_1437 : decode cL_law 1437 = .ok (.iadd, 1) := by decide +kernel
theorem dL_law_1438 : decode cL_law 1438 = .ok (.iaload, 1) := by decide +kernel
theorem dL_law_1439 : decode cL_law 1439 = .ok (.invokevirtual 172, 3) := by decide +kernel
theorem dL_law_1442 : decode cL_law 1442 = .ok (.istore 6, 2) := by decide +kernel
theorem dL_law_1444 : decode cL_law 1444 = .ok (.aload_n 2, 1) := by decide +kernel
theorem dL_law_1445 : decode cL_law 1445 = .ok (.invokevirtual 95, 3) := by decide +kernel
theorem dL_law_1448 : decode cL_law 1448 = .ok (.iload 5, 2) := by decide +kernel
theorem dL_law_1450 : decode cL_law 1450 = .ok (.if_icmp .eq 5, 3) := by decide +kernel
theorem dL_law_1453 : decode cL_law 1453 = .ok (.iconst 0, 1) := by decide +kernel
theorem dL_law_1454 : decode cL_law 1454 = .ok (.ireturn, 1) := by decide +kernel
theorem dL_law_1455 : decode cL_law 1455 = .ok (.iload 5, 2) := by decide +kernel
theorem dL_law_1457 : decode cL_law 1457 = .ok (.ifCond .ne 15, 3) := by decide +kernel
theorem dL_law_1460 : decode cL_law 1460 = .ok (.aload_n 3, 1) := by decide +kernel
theorem dL_law_1461 : decode cL_law 1461 = .ok (.iconst 0, 1) := by decide +kernel
theorem dL_law_1462 : decode cL_law 1462 = .ok (.laload, 1) := by decide +kernel
theorem dL_law_1463 : decode cL_law 1463 = .ok (.iload 6, 2) := by decide +kernel
theorem dL_law_1465 : decode cL_law 1465 = .ok (.i2l, 1) := by decide +kernel
theorem dL_law_1466 : decode cL_law 1466 = .ok (.lcmp, 1) := by decide +kernel
theorem dL_law_1467 : decode cL_law 1467 = .ok (.ifCond .eq 5, 3) := by decide +kernel
theorem dL_law_1470 : decode cL_law 1470 = .ok (.iconst 0, 1) := by decide +kernel
theorem dL_law_1471 : decode cL_law 1471 = .ok (.ireturn, 1) := by decide +kernel
theorem dL_law_1472 : decode cL_law 1472 = .ok (.goto 127, 3) := by decide +kernel
theorem dL_law_1475 : decode cL_law 1475 = .ok (.aload_n 1, 1) := by decide +kernel
theorem dL_law_1476 : decode cL_law 1476 = .ok (.invokevirtual 173, 3) := by decide +kernel
theorem dL_law_1479 : decode cL_law 1479 = .ok (.aload_n 2, 1) := by decide +kernel
theorem dL_law_1480 : decode cL_law 1480 = .ok (.invokevirtual 176, 3) := by decide +kernel
theorem dL_law_1483 : decode cL_law 1483 = .ok (.if_icmp .eq 116, 3) := by decide +kernel
theorem dL_law_1486 : decode cL_law 1486 = .ok (.iconst 0, 1) := by decide +kernel
theorem dL_law_1487 : decode cL_law 1487 = .ok (.ireturn, 1) := by decide +kernel
theorem dL_law_1488 : decode cL_law 1488 = .ok (.aload_n 1, 1) := by decide +kernel
theorem dL_law_1489 : decode cL_law 1489 = .ok (.aload_n 0, 1) := by decide +kernel
theorem dL_law_1490 : decode cL_law 1490 = .ok (.iload 4, 2) := by decide +kernel
theorem dL_law_1492 : decode cL_law 1492 = .ok (.iconst 1, 1) := by decide +kernel
theorem dL_law_1493 : decode cL_law 1493 = .ok (.iadd, 1) := by decide +kernel
theorem dL_law_1494 : decode cL_law 1494 = .ok (.iaload, 1) := by decide +kernel
theorem dL_law_1495 : decode cL_law 1495 = .ok (.aload_n 3, 1) := by decide +kernel
theorem dL_law_1496 : decode cL_law 1496 = .ok (.invokestatic 177, 3) := by decide +kernel
theorem dL_law_1499 : decode cL_law 1499 = .ok (.istore 5, 2) := by decide +kernel
theorem dL_law_1501 : decode cL_law 1501 = .ok (.aload_n 2, 1) := by decide +kernel
theorem dL_law_1502 : decode cL_law 1502 = .ok (.aload_n 0, 1) := by decide +kernel
theorem dL_law_1503 : decode cL_law 1503 = .ok (.iload 4, 2) := by decide +kernel
theorem dL_law_1505 : decode cL_law 1505 = .ok (.iconst 1, 1) := by decide +kernel
theorem dL_law_1506 : decode cL_law 1506 = .ok (.iadd, 1) := by decide +kernel
theorem dL_law_1507 : decode cL_law 1507 = .ok (.iaload, 1) := by decide +kernel
theorem dL_law_1508 : decode cL_law 1508 = .ok (.invokevirtual 179, 3) := by decide +kernel
theorem dL_law_1511 : decode cL_law 1511 = .ok (.istore 6, 2) := by decide +kernel
theorem dL_law_1513 : decode cL_law 1513 = .ok (.aload_n 2, 1) := by decide +kernel
theorem dL_law_1514 : decode cL_law 1514 = .ok (.invokevirtual 95, 3) := by decide +kernel
theorem dL_law_1517 : decode cL_law 1517 = .ok (.iload 5, 2) := by decide +kernel
theorem dL_law_1519 : decode cL_law 1519 = .ok (.if_icmp .eq 5, 3) := by decide +kernel
theorem dL_law_1522 : decode cL_law 1522 = .ok (.iconst 0, 1) := by decide +kernel
theorem dL_law_1523 : decode cL_law 1523 = .ok (.ireturn, 1) := by decide +kernel
theorem dL_law_1524 : decode cL_law 1524 = .ok (.iload 5, 2) := by decide +kernel
theorem dL_law_1526 : decode cL_law 1526 = .ok (.ifCond .ne 15, 3) := by decide +kernel
theorem dL_law_1529 : decode cL_law 1529 = .ok (.aload_n 3, 1) := by decide +kernel
theorem dL_law_1530 : decode cL_law 1530 = .ok (.iconst 0, 1) := by decide +kernel
theorem dL_law_1531 : decode cL_law 1531 = .ok (.laload, 1) := by decide +kernel
theorem dL_law_1532 : decode cL_law 1532 = .ok (.iload 6, 2) := by decide +kernel
theorem dL_law_1534 : decode cL_law 1534 = .ok (.i2l, 1) := by decide +kernel
theorem dL_law_1535 : decode cL_law 1535 = .ok (.lcmp, 1) := by decide +kernel
theorem dL_law_1536 : decode cL_law 1536 = .ok (.ifCond .eq 5, 3) := by decide +kernel
theorem dL_law_1539 : decode cL_law 1539 = .ok (.iconst 0, 1) := by decide +kernel
theorem dL_law_1540 : decode cL_law 1540 = .ok (.ireturn, 1) := by decide +kernel
theorem dL_law_1541 : decode cL_law 1541 = .ok (.goto 58, 3) := by decide +kernel
theorem dL_law_1544 : decode cL_law 1544 = .ok (.aload_n 1, 1) := by decide +kernel
theorem dL_law_1545 : decode cL_law 1545 = .ok (.invokevirtual 180, 3) := by decide +kernel
theorem dL_law_1548 : decode cL_law 1548 = .ok (.dstore 5, 2) := by decide +kernel
theorem dL_law_1550 : decode cL_law 1550 = .ok (.aload_n 2, 1) := by decide +kernel
theorem dL_law_1551 : decode cL_law 1551 = .ok (.invokevirtual 184, 3) := by decide +kernel
theorem dL_law_1554 : decode cL_law 1554 = .ok (.dstore 7, 2) := by decide +kernel
theorem dL_law_1556 : decode cL_law 1556 = .ok (.dload 5, 2) := by decide +kernel
theorem dL_law_1558 : decode cL_law 1558 = .ok (.dload 7, 2) := by decide +kernel
theorem dL_law_1560 : decode cL_law 1560 = .ok (.dcmp .l, 1) := by decide +kernel
theorem dL_law_1561 : decode cL_law 1561 = .ok (.ifCond .eq 21, 3) := by decide +kernel
theorem dL_law_1564 : decode cL_law 1564 = .ok (.dload 5, 2) := by decide +kernel
theorem dL_law_1566 : decode cL_law 1566 = .ok (.dload 5, 2) := by decide +kernel
theorem dL_law_1568 : decode cL_law 1568 = .ok (.dcmp .l, 1) := by decide +kernel
theorem dL_law_1569 : decode cL_law 1569 = .ok (.ifCond .eq 11, 3) := by decide +kernel
theorem dL_law_1572 : decode cL_law 1572 = .ok (.dload 7, 2) := by decide +kernel
theorem dL_law_1574 : decode cL_law 1574 = .ok (.dload 7, 2) := by decide +kernel
theorem dL_law_1576 : decode cL_law 1576 = .ok (.dcmp .l, 1) := by decide +kernel
theorem dL_law_1577 : decode cL_law 1577 = .ok (.ifCond .ne 5, 3) := by decide +kernel
theorem dL_law_1580 : decode cL_law 1580 = .ok (.iconst 0, 1) := by decide +kernel
theorem dL_law_1581 : decode cL_law 1581 = .ok (.ireturn, 1) := by decide +kernel
theorem dL_law_1582 : decode cL_law 1582 = .ok (.goto 17, 3) := by decide +kernel
theorem dL_law_1585 : decode cL_law 1585 = .ok (.aload_n 1, 1) := by decide +kernel
theorem dL_law_1586 : decode cL_law 1586 = .ok (.invokevirtual 185, 3) := by decide +kernel
theorem dL_law_1589 : decode cL_law 1589 = .ok (.aload_n 2, 1) := by decide +kernel
theorem dL_law_1590 : decode cL_law 1590 = .ok (.invokevirtual 189, 3) := by decide +kernel
theorem dL_law_1593 : decode cL_law 1593 = .ok (.lcmp, 1) := by decide +kernel
theorem dL_law_1594 : decode cL_law 1594 = .ok (.ifCond .eq 5, 3) := by decide +kernel
theorem dL_law_1597 : decode cL_law 1597 = .ok (.iconst 0, 1) := by decide +kernel
theorem dL_law_1598 : decode cL_law 1598 = .ok (.ireturn, 1) := by decide +kernel
theorem dL_law_1599 : decode cL_law 1599 = .ok (.iinc 4 4, 3) := by decide +kernel
theorem dL_law_1602 : decode cL_law 1602 = .ok (.goto (-1579), 3) := by decide +kernel
theorem dL_law_1605 : decode cL_law 1605 = .ok (.iconst 1, 1) := by decide +kernel
theorem dL_law_1606 : decode cL_law 1606 = .ok (.ireturn, 1) := by decide +kernel
end
section
/-! ===== BEGIN a constructor that throws (launches without stack traces) ===== -/
section VXIA
variable {p : Program} {l : Launch} {e : Env} {R : Room} {s : State} {m : MethodId} {args : Array Value} {below : List Frame} {meth : Method} {c : Code} {T : State} {locs : List Loc} {cells slots : Nat}
theorem vx_callI (X : Stand p l e R s m args below meth c T locs cells slots) (hexec : p.tables.exec = Jvm.exec) {own : String} {index : Nat} {y : MethodName} {bytes : ByteArray} {maxL : Nat}
    (hown : s.vm.findClass own = some m.cls) (hy1 : y.name = "<init>") (hlink : (Cond.methodLink own index y).before args s = true) (hinst : (Cond.instanceMethod y).before args s = true)
    (hcode : (Cond.code y bytes maxL none).before args s = true) (hy : y.cls ≠ "java/lang/invoke/MethodHandle" ∧ y.cls ≠ "java/lang/invoke/VarHandle")
    {W9 : Nat} {Pre : Pt → Array Value → Prop} {Post : Pt → Array Value → Option Value → Pt → Prop} {PostX : Pt → Array Value → Addr → Pt → Prop} (hK : vx_Back l R p e below s args y 3 W9 Pre Post PostX)
    {g : JFrame} (hg : g.method = m) (hsize : g.locals.size = c.maxLocals) {a : Addr} {argsL rest : List Value} (hlen : ∀ sig, parseMethodDescriptor y.desc = some sig → argsL.length = sig.parameters.length)
    (hstack : g.stack = argsL.reverse ++ .ref a :: rest) (hW : 2 * g.monitorRoom + (rest.map fun v => v.category).sum ≤ W9) (hdg : decode c.code g.pc = .ok (.invokespecial index, 3))
    (hpre : ∀ vm₁, s.WarmedH vm₁ → Pre ⟨T.setVm vm₁, locs, cells, slots⟩ (Value.ref a :: argsL).toArray) :
    (∃ (v : Option Value) (vm₁ : Vm) (B : Pt), s.WarmedH vm₁ ∧ Stand p l e R s m args below meth c B.U B.locs B.cells B.slots ∧ Post ⟨T.setVm vm₁, locs, cells, slots⟩ (Value.ref a :: argsL).toArray v B ∧
      ∀ target, Steps p.tables e below (B.U.setTop { g with pc := g.pc + 3, stack := v.toList ++ rest }) target → Steps p.tables e below (T.setTop g) target) ∨
    (∃ (q : Addr) (vm₁ : Vm) (B : Pt), s.WarmedH vm₁ ∧ Stand p l e R s m args below meth c B.U B.locs B.cells B.slots ∧ PostX ⟨T.setVm vm₁, locs, cells, slots⟩ (Value.ref a :: argsL).toArray q B ∧
      Steps p.tables e below (T.setTop g) ((B.U.setTop { g with stack := rest }).pushFrame (.throwing q))) := by
  subst hg
  have hpl : e.platform.magicAccessors = ({} : Platform).magicAccessors := by rw [X.admits.platform]
  obtain ⟨mk, methM, cM, kP, vm₁, hnamed, hmethM, hcodeM, -, hlocalsM, -, hkP, -, hW₁, hstep₁⟩ := Steps.initColdArgs (e := e) X.here hexec X.warmed hpl hown hy1 hy hlink hinst hcode (f := g) rfl hlen hstack hdg
  have X₁ := X.noted hW₁
  rcases hK g.method meth c ⟨T.setVm vm₁, locs, cells, slots⟩ { g with stack := rest } (.invokespecial index) mk (Value.ref a :: argsL).toArray X₁ rfl hsize hdg hW (X₁.named hnamed) (hpre vm₁ X₁.warmed) with ⟨v, B, X', hpost, hsteps⟩ | ⟨q, B, X', hpost, hsteps⟩
  · exact Or.inl ⟨v, vm₁, B, X₁.warmed, X', hpost, fun target h => hstep₁ _ fun acts => by rw [doInvoke_state]; exact hsteps.trans h⟩
  · exact Or.inr ⟨q, vm₁, B, X₁.warmed, X', hpost, hstep₁ _ fun acts => by rw [doInvoke_state]; exact hsteps⟩
end VXIA
section VXIB
variable {p : Program} {l : Launch} {e : Env} {R : Room} {s : State} {m : MethodId} {args : Array Value} {below : List Frame} {meth : Method} {c : Code} {H : Heap} {locs : List Loc} {cells slots : Nat}
variable {y : MethodName} {bytes cc : ByteArray} {maxL nL mc ms n index : Nat} {ret : Option FieldType} {ws : List Cond} {rm : Room} {Pc : Array Value → State → Prop} {Qc : Array Value → State → Outcome → State → Prop} {XC : String → State → State → Prop} {free : Addr → Prop} {Ts : List Cond} {own C : String} {b : Addr} {As rest : List Value} {g : JFrame}
theorem vx_runI (S : CallFix p m c cc nL s args Ts own) (hM : vx_Met l y ws rm Pc Qc XC mc ms free) (cw : CallB R s args own index y bytes maxL none ws rm mc ms n ∧ y.name = "<init>" ∧ (Cond.instanceMethod y).before args s = true) (hp : PreS s H Pc (.ref b :: As))
    (hg : g.method = m) (hn : As.length = n) (hsize : g.locals.size = nL) (hstack : g.stack = As.reverse ++ .ref b :: rest) (hW : 2 * g.monitorRoom + (rest.map fun v => v.category).sum ≤ 8) (hdg : decode cc g.pc = .ok (.invokespecial index, 3)) (hf : cells + mc ≤ R.cells ∧ slots + ms ≤ R.slots) :
    vx_Run p l e R s m args below meth c H locs cells slots mc ms g rest (Qc (Value.ref b :: As).toArray) XC free := by
  have hK : vx_Back l R p e below s args y 3 8 (PreOf R mc ms Pc) (PostOf Qc mc ms free) (vx_Post XC mc ms free) := vx_callBack cw.1 hM hp.1
  obtain ⟨⟨-, -, -, -, -, -, hcode, -, hy, hlen, hl⟩, hy1, hin⟩ := cw
  obtain ⟨hx, hb, hml, ho, -⟩ := S
  have hPc := hp.2
  intro T hT X
  rcases vx_callI X hx (bytes := bytes) (maxL := maxL) ho hy1 hl hin hcode hy hK hg (hsize.trans hml.symm) (a := b) (argsL := As) (rest := rest) (fun sig h => hn.trans (hlen sig h)) hstack hW (by rw [hb]; exact hdg)
    (fun vm₁ hW₁ => ⟨hf.1, hf.2, hPc (T.setVm vm₁) hT hW₁⟩) with ⟨v, vm₁, ⟨U', l2, c2, s2⟩, hW₁, X', ⟨g', mk, t, L, e1, e2, hq, h1, hL, h2, h3⟩, st⟩ | ⟨q, vm₁, ⟨U', l2, c2, s2⟩, hW₁, X', ⟨g', mk, t, L, E, ce, e1, e2, hq, hce, hcv, hcl, h1, hL, h2, h3⟩, st⟩
  · dsimp only [Pt.U, Pt.locs, Pt.cells, Pt.slots] at X' e1 e2 h1 h2 h3 st
    subst h1; subst h2; subst h3
    exact Or.inl ⟨v, (T.setVm vm₁).calling g' mk (Value.ref b :: As).toArray, t, U', L, hT, X', hL, e1, e2, hq, st⟩
  · dsimp only [Pt.U, Pt.locs, Pt.cells, Pt.slots] at X' e1 e2 h1 h2 h3 st hcl
    subst h1; subst h2; subst h3
    exact Or.inr ⟨q, (T.setVm vm₁).calling g' mk (Value.ref b :: As).toArray, t, U', L, E, ce, hT, X', hL, e1, e2, hq, hce, hcv, vx_cls hW₁ hcl, st⟩
end VXIB
/-! ===== END ===== -/
/-! ===== BEGIN a private constructor of a nest mate that throws ===== -/
section VXIC
variable {p : Program} {l : Launch} {e : Env} {R : Room} {s : State} {m : MethodId} {args : Array Value} {below : List Frame} {meth : Method} {c : Code} {T : State} {locs : List Loc} {cells slots : Nat}
theorem vx_callIN (X : Stand p l e R s m args below meth c T locs cells slots) (hexec : p.tables.exec = Jvm.exec) {own : String} {index : Nat} {host : String} {y : MethodName} {bytes : ByteArray} {maxL : Nat}
    (hown : s.vm.findClass own = some m.cls) (hy1 : y.name = "<init>") (hlink : (Cond.methodLinkNest own index y host).before args s = true) (hinst : (Cond.instanceMethod y).before args s = true)
    (hcode : (Cond.code y bytes maxL none).before args s = true) (hy : y.cls ≠ "java/lang/invoke/MethodHandle" ∧ y.cls ≠ "java/lang/invoke/VarHandle")
    {W9 : Nat} {Pre : Pt → Array Value → Prop} {Post : Pt → Array Value → Option Value → Pt → Prop} {PostX : Pt → Array Value → Addr → Pt → Prop} (hK : vx_Back l R p e below s args y 3 W9 Pre Post PostX)
    {g : JFrame} (hg : g.method = m) (hsize : g.locals.size = c.maxLocals) {a : Addr} {argsL rest : List Value} (hlen : ∀ sig, parseMethodDescriptor y.desc = some sig → argsL.length = sig.parameters.length)
    (hstack : g.stack = argsL.reverse ++ .ref a :: rest) (hW : 2 * g.monitorRoom + (rest.map fun v => v.category).sum ≤ W9) (hdg : decode c.code g.pc = .ok (.invokespecial index, 3))
    (hpre : ∀ vm₁, s.WarmedH vm₁ → Pre ⟨T.setVm vm₁, locs, cells, slots⟩ (Value.ref a :: argsL).toArray) :
    (∃ (v : Option Value) (vm₁ : Vm) (B : Pt), s.WarmedH vm₁ ∧ Stand p l e R s m args below meth c B.U B.locs B.cells B.slots ∧ Post ⟨T.setVm vm₁, locs, cells, slots⟩ (Value.ref a :: argsL).toArray v B ∧
      ∀ target, Steps p.tables e below (B.U.setTop { g with pc := g.pc + 3, stack := v.toList ++ rest }) target → Steps p.tables e below (T.setTop g) target) ∨
    (∃ (q : Addr) (vm₁ : Vm) (B : Pt), s.WarmedH vm₁ ∧ Stand p l e R s m args below meth c B.U B.locs B.cells B.slots ∧ PostX ⟨T.setVm vm₁, locs, cells, slots⟩ (Value.ref a :: argsL).toArray q B ∧
      Steps p.tables e below (T.setTop g) ((B.U.setTop { g with stack := rest }).pushFrame (.throwing q))) := by
  subst hg
  have hpl : e.platform.magicAccessors = ({} : Platform).magicAccessors := by rw [X.admits.platform]
  obtain ⟨mk, methM, cM, kP, vm₁, hnamed, hmethM, hcodeM, -, hlocalsM, -, hkP, -, hW₁, hstep₁⟩ := Steps.initColdArgsNest (e := e) X.here hexec X.warmed hpl hown hy1 hy hlink hinst hcode (f := g) rfl hlen hstack hdg
  have X₁ := X.noted hW₁
  rcases hK g.method meth c ⟨T.setVm vm₁, locs, cells, slots⟩ { g with stack := rest } (.invokespecial index) mk (Value.ref a :: argsL).toArray X₁ rfl hsize hdg hW (X₁.named hnamed) (hpre vm₁ X₁.warmed) with ⟨v, B, X', hpost, hsteps⟩ | ⟨q, B, X', hpost, hsteps⟩
  · exact Or.inl ⟨v, vm₁, B, X₁.warmed, X', hpost, fun target h => hstep₁ _ fun acts => by rw [doInvoke_state]; exact hsteps.trans h⟩
  · exact Or.inr ⟨q, vm₁, B, X₁.warmed, X', hpost, hstep₁ _ fun acts => by rw [doInvoke_state]; exact hsteps⟩
end VXIC
section VXID
variable {p : Program} {l : Launch} {e : Env} {R : Room} {s : State} {m : MethodId} {args : Array Value} {below : List Frame} {meth : Method} {c : Code} {H : Heap} {locs : List Loc} {cells slots : Nat}
theorem vx_runIN {y : MethodName} {bytes cc : ByteArray} {maxL nL mc ms n index : Nat} {ws : List Cond} {rm : Room} {Pc : Array Value → State → Prop} {Qc : Array Value → State → Outcome → State → Prop} {XC : String → State → State → Prop} {free : Addr → Prop} {Ts : List Cond} {own host : String} {b : Addr} {As rest : List Value} {g : JFrame}
    (S : CallFix p m c cc nL s args Ts own) (hM : vx_Met l y ws rm Pc Qc XC mc ms free) (cw : va_CN R s args own index y host bytes maxL none ws rm mc ms n ∧ y.name = "<init>" ∧ (Cond.instanceMethod y).before args s = true) (hp : PreS s H Pc (.ref b :: As))
    (hg : g.method = m) (hn : As.length = n) (hsize : g.locals.size = nL) (hstack : g.stack = As.reverse ++ .ref b :: rest) (hW : 2 * g.monitorRoom + (rest.map fun v => v.category).sum ≤ 8) (hdg : decode cc g.pc = .ok (.invokespecial index, 3)) (hf : cells + mc ≤ R.cells ∧ slots + ms ≤ R.slots) :
    vx_Run p l e R s m args below meth c H locs cells slots mc ms g rest (Qc (Value.ref b :: As).toArray) XC free := by
  obtain ⟨⟨⟨hrc, hrs, hfr, hlo, hws, hcw⟩, hcode, hini, hy, hlen, hl⟩, hx1, hx2⟩ := cw
  have hK : vx_Back l R p e below s args y 3 8 (PreOf R mc ms Pc) (PostOf Qc mc ms free) (vx_Post XC mc ms free) := vx_back (bytes := bytes) (maxL := maxL) (ret := none) hM hp.1 hrc hrs hfr hlo hws hcw (fun a' U hW => word_at hW (Or.inl (by first | rfl | simp [Cond.onTables, Cond.keeps, Cond.steady])) hini)
  obtain ⟨hx, hb, hml, ho, -⟩ := S
  have hPc := hp.2
  intro T hT X
  rcases vx_callIN X hx (bytes := bytes) (maxL := maxL) ho hx1 hl hx2 hcode hy hK hg (hsize.trans hml.symm) (a := b) (argsL := As) (rest := rest) (fun sig h => hn.trans (hlen sig h)) hstack hW (by rw [hb]; exact hdg)
    (fun vm₁ hW₁ => ⟨hf.1, hf.2, hPc (T.setVm vm₁) hT hW₁⟩) with ⟨v, vm₁, ⟨U', l2, c2, s2⟩, hW₁, X', ⟨g', mk, t, L, e1, e2, hq, h1, hL, h2, h3⟩, st⟩ | ⟨q, vm₁, ⟨U', l2, c2, s2⟩, hW₁, X', ⟨g', mk, t, L, E, ce, e1, e2, hq, hce, hcv, hcl, h1, hL, h2, h3⟩, st⟩
  · dsimp only [Pt.U, Pt.locs, Pt.cells, Pt.slots] at X' e1 e2 h1 h2 h3 st
    subst h1; subst h2; subst h3
    exact Or.inl ⟨v, (T.setVm vm₁).calling g' mk (Value.ref b :: As).toArray, t, U', L, hT, X', hL, e1, e2, hq, st⟩
  · dsimp only [Pt.U, Pt.locs, Pt.cells, Pt.slots] at X' e1 e2 h1 h2 h3 st hcl
    subst h1; subst h2; subst h3
    exact Or.inr ⟨q, (T.setVm vm₁).calling g' mk (Value.ref b :: As).toArray, t, U', L, E, ce, hT, X', hL, e1, e2, hq, hce, hcv, vx_cls hW₁ hcl, st⟩
end VXID
/-! ===== END ===== -/
/-! ===== BEGIN a private method of a nest mate that may throw (follows va_callVN, va_callSN, va_runVN, va_runSN) ===== -/
section
variable {p : Program} {l : Launch} {e : Env} {R : Room} {s : State} {m : MethodId} {args : Array Value} {below : List Frame} {meth : Method} {c : Code} {H : Heap} {locs : List Loc} {cells slots : Nat}
variable {T : State}
theorem vx_callVN (X : Stand p l e R s m args below meth c T locs cells slots) (hexec : p.tables.exec = Jvm.exec) {own C : String} {index : Nat} {host : String} {y : MethodName} {bytes : ByteArray} {maxL : Nat} {ret : Option FieldType}
    (hown : s.vm.findClass own = some m.cls) (hlink : (Cond.methodLinkNest own index y host).before args s = true) (hinst : (Cond.instanceMethod y).before args s = true) (hsel : (Cond.selects C y y).before args s = true)
    (hcode : (Cond.code y bytes maxL ret).before args s = true) (hy : y.cls ≠ "java/lang/invoke/MethodHandle" ∧ y.cls ≠ "java/lang/invoke/VarHandle")
    {W : Nat} {Pre : Pt → Array Value → Prop} {Post : Pt → Array Value → Option Value → Pt → Prop} {PostX : Pt → Array Value → Addr → Pt → Prop} (hK : vx_Back l R p e below s args y 3 W Pre Post PostX)
    {b : Addr} {cellB : Cell} (hcell : T.heap[b]? = some cellB) (hobj : cellB.vm.isStatics = false) (hcls : s.vm.findClass C = some cellB.cls)
    {g : JFrame} (hg : g.method = m) (hsize : g.locals.size = c.maxLocals) {argsL rest : List Value} (hlen : ∀ sig, parseMethodDescriptor y.desc = some sig → argsL.length = sig.parameters.length)
    (hstack : g.stack = argsL.reverse ++ .ref b :: rest) (hW : 2 * g.monitorRoom + (rest.map fun v => v.category).sum ≤ W) (hdg : decode c.code g.pc = .ok (.invokevirtual index, 3))
    (hpre : ∀ vm₁, s.WarmedH vm₁ → Pre ⟨T.setVm vm₁, locs, cells, slots⟩ (Value.ref b :: argsL).toArray) :
    (∃ (v : Option Value) (vm₁ : Vm) (B : Pt), s.WarmedH vm₁ ∧ Stand p l e R s m args below meth c B.U B.locs B.cells B.slots ∧ Post ⟨T.setVm vm₁, locs, cells, slots⟩ (Value.ref b :: argsL).toArray v B ∧
      ∀ target, Steps p.tables e below (B.U.setTop { g with pc := g.pc + 3, stack := v.toList ++ rest }) target → Steps p.tables e below (T.setTop g) target) ∨
    (∃ (q : Addr) (vm₁ : Vm) (B : Pt), s.WarmedH vm₁ ∧ Stand p l e R s m args below meth c B.U B.locs B.cells B.slots ∧ PostX ⟨T.setVm vm₁, locs, cells, slots⟩ (Value.ref b :: argsL).toArray q B ∧
      Steps p.tables e below (T.setTop g) ((B.U.setTop { g with stack := rest }).pushFrame (.throwing q))) := by
  obtain ⟨mk, methM, hnamed, hmethM, hstM, habM⟩ := Cond.instanceMethod_spec hinst
  obtain ⟨methM', cM, hmethM', -, -, -, -, -, -, hsigM⟩ := Cond.code_spec hnamed hcode
  cases hmethM.symm.trans hmethM'
  obtain ⟨c2, r2, m2, q1, q2, q3, q4, kP, hkP, hkPi⟩ := Cond.selects_spec hsel
  cases hcls.symm.trans q1
  cases (State.methodFound?_of_named hnamed hy).symm.trans q2
  cases hnamed.symm.trans q3
  have hselP : selectMethod e.platform s.vm cellB.cls mk = .method mk := by rw [Launch.admits_selectMethod X.admits]; exact q4
  obtain ⟨vm₁, X₁, hstep₁⟩ := X.invokevirtualNest hexec hown hlink hnamed hmethM hstM hkP hkPi hy (a := b) (cell := cellB) hcell
    (fun z h => by rw [h] at hobj; cases hobj) hselP hmethM habM hkP hkPi (g := g) hg (argsL := argsL) (rest := rest) (hlen _ hsigM) hstack hdg
  rcases hK m meth c ⟨T.setVm vm₁, locs, cells, slots⟩ { g with stack := rest } (.invokevirtual index) mk (Value.ref b :: argsL).toArray X₁ hg hsize hdg hW (X₁.named hnamed) (hpre vm₁ X₁.warmed) with ⟨v, B, X', hpost, hsteps⟩ | ⟨q, B, X', hpost, hsteps⟩
  · exact Or.inl ⟨v, vm₁, B, X₁.warmed, X', hpost, fun target h => hstep₁ _ fun acts => by rw [doInvoke_state]; exact hsteps.trans h⟩
  · exact Or.inr ⟨q, vm₁, B, X₁.warmed, X', hpost, hstep₁ _ fun acts => by rw [doInvoke_state]; exact hsteps⟩
theorem vx_callSN (X : Stand p l e R s m args below meth c T locs cells slots) (hexec : p.tables.exec = Jvm.exec) {own : String} {index : Nat} {host : String} {y : MethodName} {bytes : ByteArray} {maxL : Nat} {ret : Option FieldType}
    (hown : s.vm.findClass own = some m.cls) (hlink : (Cond.methodLinkNest own index y host).before args s = true) (hstat : (Cond.static y).before args s = true) (hinit : (Cond.initialized y.cls).before args s = true)
    (hcode : (Cond.code y bytes maxL ret).before args s = true) (hy : y.cls ≠ "java/lang/invoke/MethodHandle" ∧ y.cls ≠ "java/lang/invoke/VarHandle")
    {W : Nat} {Pre : Pt → Array Value → Prop} {Post : Pt → Array Value → Option Value → Pt → Prop} {PostX : Pt → Array Value → Addr → Pt → Prop} (hK : vx_Back l R p e below s args y 3 W Pre Post PostX)
    {g : JFrame} (hg : g.method = m) (hsize : g.locals.size = c.maxLocals) {argsL rest : List Value} (hlen : ∀ sig, parseMethodDescriptor y.desc = some sig → argsL.length = sig.parameters.length)
    (hstack : g.stack = argsL.reverse ++ rest) (hW : 2 * g.monitorRoom + (rest.map fun v => v.category).sum ≤ W) (hdg : decode c.code g.pc = .ok (.invokestatic index, 3))
    (hpre : ∀ vm₁, s.WarmedH vm₁ → Pre ⟨T.setVm vm₁, locs, cells, slots⟩ argsL.toArray) :
    (∃ (v : Option Value) (vm₁ : Vm) (B : Pt), s.WarmedH vm₁ ∧ Stand p l e R s m args below meth c B.U B.locs B.cells B.slots ∧ Post ⟨T.setVm vm₁, locs, cells, slots⟩ argsL.toArray v B ∧
      ∀ target, Steps p.tables e below (B.U.setTop { g with pc := g.pc + 3, stack := v.toList ++ rest }) target → Steps p.tables e below (T.setTop g) target) ∨
    (∃ (q : Addr) (vm₁ : Vm) (B : Pt), s.WarmedH vm₁ ∧ Stand p l e R s m args below meth c B.U B.locs B.cells B.slots ∧ PostX ⟨T.setVm vm₁, locs, cells, slots⟩ argsL.toArray q B ∧
      Steps p.tables e below (T.setTop g) ((B.U.setTop { g with stack := rest }).pushFrame (.throwing q))) := by
  obtain ⟨mk, hnamed⟩ := Cond.code_named hcode
  obtain ⟨methM, cM, hmethM, -, -, -, -, -, -, hsigM⟩ := Cond.code_spec hnamed hcode
  have hstatic : methM.isStatic = true := Cond.static_spec hnamed hmethM hstat
  obtain ⟨kP, hkP, -⟩ := className_of_methodNamed hnamed
  have hinitP : kP.init = .initialized := Cond.initialized_spec (findClass_of_methodNamed hnamed) hkP hinit
  obtain ⟨vm₁, X₁, hstep₁⟩ := X.invokestaticNest hexec hown hlink hnamed hmethM hstatic hkP hinitP hy (g := g) hg (argsL := argsL) (rest := rest) (hlen _ hsigM) hstack hdg
  rcases hK m meth c ⟨T.setVm vm₁, locs, cells, slots⟩ { g with stack := rest } (.invokestatic index) mk argsL.toArray X₁ hg hsize hdg hW (X₁.named hnamed) (hpre vm₁ X₁.warmed) with ⟨v, B, X', hpost, hsteps⟩ | ⟨q, B, X', hpost, hsteps⟩
  · exact Or.inl ⟨v, vm₁, B, X₁.warmed, X', hpost, fun target h => hstep₁ _ fun acts => by rw [doInvoke_state]; exact hsteps.trans h⟩
  · exact Or.inr ⟨q, vm₁, B, X₁.warmed, X', hpost, hstep₁ _ fun acts => by rw [doInvoke_state]; exact hsteps⟩
theorem vx_runVN {y : MethodName} {bytes cc : ByteArray} {maxL nL mc ms n index : Nat} {ret : Option FieldType} {ws : List Cond} {rm : Room} {Pc : Array Value → State → Prop} {Qc : Array Value → State → Outcome → State → Prop} {XC : String → State → State → Prop} {free : Addr → Prop} {Ts : List Cond} {own C host : String} {b : Addr} {As rest : List Value} {g : JFrame}
    (S : CallFix p m c cc nL s args Ts own) (hM : vx_Met l y ws rm Pc Qc XC mc ms free) (cw : va_CN R s args own index y host bytes maxL ret ws rm mc ms n ∧ (Cond.instanceMethod y).before args s = true ∧ (Cond.selects C y y).before args s = true) (hp : PreV s H C b Pc As)
    (hg : g.method = m) (hn : As.length = n) (hsize : g.locals.size = nL) (hstack : g.stack = As.reverse ++ .ref b :: rest) (hW : 2 * g.monitorRoom + (rest.map fun v => v.category).sum ≤ 8) (hdg : decode cc g.pc = .ok (.invokevirtual index, 3)) (hf : cells + mc ≤ R.cells ∧ slots + ms ≤ R.slots) :
    vx_Run p l e R s m args below meth c H locs cells slots mc ms g rest (Qc (Value.ref b :: As).toArray) XC free := by
  obtain ⟨⟨⟨hrc, hrs, hfr, hlo, hws, hcw⟩, hcode, hini, hy, hlen, hl⟩, hx1, hx2⟩ := cw
  have hK : vx_Back l R p e below s args y 3 8 (PreOf R mc ms Pc) (PostOf Qc mc ms free) (vx_Post XC mc ms free) := vx_back (bytes := bytes) (maxL := maxL) (ret := ret) hM hp.1 hrc hrs hfr hlo hws hcw (fun a' U hW => word_at hW (Or.inl (by first | rfl | simp [Cond.onTables, Cond.keeps, Cond.steady])) hini)
  obtain ⟨hx, hb, hml, ho, -⟩ := S
  obtain ⟨-, ⟨cellB, hcB, hoB, hclB⟩, hPc⟩ := hp
  intro T hT X
  rcases vx_callVN X hx (C := C) (bytes := bytes) (maxL := maxL) (ret := ret) ho hl hx1 hx2 hcode hy hK (by rw [hT]; exact hcB) hoB hclB hg (hsize.trans hml.symm) (argsL := As) (rest := rest) (fun sig h => hn.trans (hlen sig h)) hstack hW (by rw [hb]; exact hdg)
    (fun vm₁ hW₁ => ⟨hf.1, hf.2, hPc (T.setVm vm₁) hT hW₁⟩) with ⟨v, vm₁, ⟨U', l2, c2, s2⟩, hW₁, X', ⟨g', mk, t, L, e1, e2, hq, h1, hL, h2, h3⟩, st⟩ | ⟨q, vm₁, ⟨U', l2, c2, s2⟩, hW₁, X', ⟨g', mk, t, L, E, ce, e1, e2, hq, hce, hcv, hcl, h1, hL, h2, h3⟩, st⟩
  · dsimp only [Pt.U, Pt.locs, Pt.cells, Pt.slots] at X' e1 e2 h1 h2 h3 st
    subst h1; subst h2; subst h3
    exact Or.inl ⟨v, (T.setVm vm₁).calling g' mk (Value.ref b :: As).toArray, t, U', L, hT, X', hL, e1, e2, hq, st⟩
  · dsimp only [Pt.U, Pt.locs, Pt.cells, Pt.slots] at X' e1 e2 h1 h2 h3 st hcl
    subst h1; subst h2; subst h3
    exact Or.inr ⟨q, (T.setVm vm₁).calling g' mk (Value.ref b :: As).toArray, t, U', L, E, ce, hT, X', hL, e1, e2, hq, hce, hcv, vx_cls hW₁ hcl, st⟩
theorem vx_runSN {y : MethodName} {bytes cc : ByteArray} {maxL nL mc ms n index : Nat} {ret : Option FieldType} {ws : List Cond} {rm : Room} {Pc : Array Value → State → Prop} {Qc : Array Value → State → Outcome → State → Prop} {XC : String → State → State → Prop} {free : Addr → Prop} {Ts : List Cond} {own host : String} {As rest : List Value} {g : JFrame}
    (S : CallFix p m c cc nL s args Ts own) (hM : vx_Met l y ws rm Pc Qc XC mc ms free) (cw : va_CN R s args own index y host bytes maxL ret ws rm mc ms n ∧ (Cond.static y).before args s = true ∧ True) (hp : PreS s H Pc As)
    (hg : g.method = m) (hn : As.length = n) (hsize : g.locals.size = nL) (hstack : g.stack = As.reverse ++ rest) (hW : 2 * g.monitorRoom + (rest.map fun v => v.category).sum ≤ 8) (hdg : decode cc g.pc = .ok (.invokestatic index, 3)) (hf : cells + mc ≤ R.cells ∧ slots + ms ≤ R.slots) :
    vx_Run p l e R s m args below meth c H locs cells slots mc ms g rest (Qc As.toArray) XC free := by
  obtain ⟨⟨⟨hrc, hrs, hfr, hlo, hws, hcw⟩, hcode, hini, hy, hlen, hl⟩, hx1, hx2⟩ := cw
  have hK : vx_Back l R p e below s args y 3 8 (PreOf R mc ms Pc) (PostOf Qc mc ms free) (vx_Post XC mc ms free) := vx_back (bytes := bytes) (maxL := maxL) (ret := ret) hM hp.1 hrc hrs hfr hlo hws hcw (fun a' U hW => word_at hW (Or.inl (by first | rfl | simp [Cond.onTables, Cond.keeps, Cond.steady])) hini)
  obtain ⟨hx, hb, hml, ho, -⟩ := S
  have hPc := hp.2
  intro T hT X
  rcases vx_callSN X hx (bytes := bytes) (maxL := maxL) (ret := ret) ho hl hx1 hini hcode hy hK hg (hsize.trans hml.symm) (argsL := As) (rest := rest) (fun sig h => hn.trans (hlen sig h)) hstack hW (by rw [hb]; exact hdg)
    (fun vm₁ hW₁ => ⟨hf.1, hf.2, hPc (T.setVm vm₁) hT hW₁⟩) with ⟨v, vm₁, ⟨U', l2, c2, s2⟩, hW₁, X', ⟨g', mk, t, L, e1, e2, hq, h1, hL, h2, h3⟩, st⟩ | ⟨q, vm₁, ⟨U', l2, c2, s2⟩, hW₁, X', ⟨g', mk, t, L, E, ce, e1, e2, hq, hce, hcv, hcl, h1, hL, h2, h3⟩, st⟩
  · dsimp only [Pt.U, Pt.locs, Pt.cells, Pt.slots] at X' e1 e2 h1 h2 h3 st
    subst h1; subst h2; subst h3
    exact Or.inl ⟨v, (T.setVm vm₁).calling g' mk As.toArray, t, U', L, hT, X', hL, e1, e2, hq, st⟩
  · dsimp only [Pt.U, Pt.locs, Pt.cells, Pt.slots] at X' e1 e2 h1 h2 h3 st hcl
    subst h1; subst h2; subst h3
    exact Or.inr ⟨q, (T.setVm vm₁).calling g' mk As.toArray, t, U', L, E, ce, hT, X', hL, e1, e2, hq, hce, hcv, vx_cls hW₁ hcl, st⟩
end
/-! ===== END ===== -/
end
section
/-! The machine's own picture of the heap: a function from addresses to cells, whole behind 'base'; V: a walk's point said in it. -/
abbrev zC : Type := Option (vp_A ⊕ (Nat × List Value))
abbrev zH : Type := Nat → zC
abbrev zO : Type := (Option Value) ⊕ String
def zput (h : zH) (a : Nat) (c : zC) : zH := fun q => if q = a then c else h q
def zty (x : (Nat → Int32) ⊕ (Nat → Int64) ⊕ (Nat → UInt32) ⊕ (Nat → UInt64) ⊕ (Nat → Option Nat)) : FieldType := match x with
  | .inl _ => .int
  | .inr (.inl _) => .long
  | .inr (.inr (.inl _)) => .float
  | .inr (.inr (.inr (.inl _))) => .double
  | .inr (.inr (.inr (.inr _))) => .object RX0
def zAt (D : va_G) (U : State) (H : Heap) (a : Nat) (c : zC) : Prop := match c with
  | none => True
  | some (.inl x) => ∃ cA : ClassId, H[a]? = some (vp_cell cA x) ∧ ArrOfT U cA (zty x.2) ∧ va_RA U cA (zty x.2)
  | some (.inr o) => va_at D vwCl (a, .inr o) H
def zHp (D : va_G) (base : Nat) (h : zH) (n : Nat) (U : State) (H : Heap) : Prop :=
  H.size = n ∧ base ≤ n ∧ (∀ a, a < base ∨ n ≤ a → h a = none) ∧ ∀ a, zAt D U H a (h a)
theorem zAt.kept {D : va_G} {U : State} {H H1 : Heap} {a : Nat} {c : zC} (h : zAt D U H a c) (hq : H1[a]? = H[a]?) : zAt D U H1 a c := by
  match c, h with
  | none, _ => trivial
  | some (.inl x), h => obtain ⟨cA, h1, h2⟩ := h; exact ⟨cA, by rw [hq]; exact h1, h2⟩
  | some (.inr o), h => exact va_at.kept (show va_at D vwCl (a, .inr o) H from h) hq
theorem zAt.moved {D : va_G} {U u : State} {H : Heap} {a : Nat} {c : zC} (hvm : u.vm.Alike U.vm) (h : zAt D u H a c) : zAt D U H a c := by
  match c, h with
  | none, _ => trivial
  | some (.inl x), h => obtain ⟨cA, h1, h2, h3⟩ := h; exact ⟨cA, h1, arrOfT_moved hvm h2, h3.moved hvm⟩
  | some (.inr o), h => exact h
theorem zAt.lt {D : va_G} {U : State} {H : Heap} {a : Nat} {c : zC} (h : zAt D U H a c) (hc : c ≠ none) : a < H.size := by
  match c, h with
  | none, _ => exact absurd rfl hc
  | some (.inl x), h => obtain ⟨cA, h1, -⟩ := h; exact (Array.getElem?_eq_some_iff.mp h1).1
  | some (.inr o), h => exact va_at.lt (show va_at D vwCl (a, .inr o) H from h)
theorem zHp.moved {D : va_G} {base n : Nat} {h : zH} {U u : State} {H : Heap} (hvm : u.vm.Alike U.vm) (hh : zHp D base h n u H) : zHp D base h n U H :=
  ⟨hh.1, hh.2.1, hh.2.2.1, fun a => (hh.2.2.2 a).moved hvm⟩
theorem zHp.in {D : va_G} {base n : Nat} {h : zH} {U : State} {H : Heap} (hh : zHp D base h n U H) {a : Nat} (ha : h a ≠ none) : base ≤ a ∧ a < n := by
  constructor
  · exact Nat.not_lt.mp fun q => ha (hh.2.2.1 a (Or.inl q))
  · exact Nat.not_le.mp fun q => ha (hh.2.2.1 a (Or.inr q))
theorem zHp.put {D : va_G} {base n : Nat} {h h' : zH} {U : State} {H H1 : Heap} {a : Nat} {c : zC} (hh : zHp D base h n U H) (ha : h a ≠ none) (z : H1.size = H.size) (oq : ∀ q, q ≠ a → H1[q]? = H[q]?) (hc : zAt D U H1 a c) (he : zput h a c = h') : zHp D base h' n U H1 := by
  subst he
  obtain ⟨i1, i2⟩ := hh.in ha
  refine ⟨z.trans hh.1, hh.2.1, fun q hq => ?_, fun q => ?_⟩
  · have hne : q ≠ a := by omega
    simp only [zput, hne, if_false]
    exact hh.2.2.1 q hq
  · by_cases hqa : q = a
    · subst hqa
      simp only [zput, if_true]
      exact hc
    · simp only [zput, hqa, if_false]
      exact (hh.2.2.2 q).kept (oq q hqa)
theorem zHp.push {D : va_G} {base n : Nat} {h h' : zH} {U : State} {H H1 : Heap} {c : zC} (hh : zHp D base h n U H) (z : H1.size = n + 1) (oq : ∀ q, q < n → H1[q]? = H[q]?) (hc : zAt D U H1 n c) (he : zput h n c = h') : zHp D base h' (n + 1) U H1 := by
  subst he
  refine ⟨z, Nat.le_succ_of_le hh.2.1, fun q hq => ?_, fun q => ?_⟩
  · have h2 := hh.2.1
    have hne : q ≠ n := by omega
    simp only [zput, hne, if_false]
    exact hh.2.2.1 q (by omega)
  · by_cases hqa : q = n
    · subst hqa
      simp only [zput, if_true]
      exact hc
    · simp only [zput, hqa, if_false]
      by_cases hlt : q < n
      · exact (hh.2.2.2 q).kept (oq q hlt)
      · rw [hh.2.2.1 q (Or.inr (by omega))]; trivial
/-! the words that all methods share -/
def zGA : List Cond := lw_tbl.filter goodWord
theorem zga_in {w : Cond} (i : Nat) (h : lw_tbl[i]? = some w) (hg : goodWord w = true) : w ∈ zGA := List.mem_filter.mpr ⟨List.mem_of_getElem? h, hg⟩
theorem zGA_good {big : List Cond} (h : ∀ w ∈ zGA, w ∈ big) : GoodIn big zGA := fun w hw => ⟨h w hw, good_of_word (List.mem_filter.mp hw).2⟩
/-- words of the tables that aren't kept by the word laws: moved one by one -/
def zng : Cond → Bool
  | .declares _ => true
  | .castable _ _ => true
  | .methodLinkNest _ _ _ _ => true
  | .fieldLinkNest _ _ _ _ _ _ => true
  | .arrayOver (.object _) => true
  | _ => false
def zNG : List Cond := tables_1.filter zng
theorem zng_in {w : Cond} (i : Nat) (h : tables_1[i]? = some w) (hg : zng w = true) : w ∈ zNG := List.mem_filter.mpr ⟨List.mem_of_getElem? h, hg⟩
theorem zng_moved {w : Cond} {s U : State} (hW : s.WarmedH U.vm) (hg : zng w = true) (h : va_Nw w s) : va_Nw w U := by
  cases w with
  | declares x => exact va_Nw.warmD hW h
  | castable a b => exact va_Nw.warmC hW h
  | methodLinkNest a i x b => exact va_Nw.warmM hW h
  | fieldLinkNest a i b n d e => exact va_Nw.warmF hW h
  | arrayOver t =>
    cases t with
    | object C => exact va_AO.moved hW.alike h
    | _ => cases hg
  | _ => cases hg
theorem zng_use {w : Cond} {s : State} {A : Array Value} (hg : zng w = true) (h : va_Nw w s) : w.before A s = true := by
  cases w with
  | declares x => exact va_Nw.use rfl h
  | castable a b => exact va_Nw.use rfl h
  | methodLinkNest a i x b => exact va_Nw.use rfl h
  | fieldLinkNest a i b n d e => exact va_Nw.use rfl h
  | arrayOver t =>
    cases t with
    | object C => exact va_AO.use h
    | _ => cases hg
  | _ => cases hg
theorem zw_ai : Cond.arrayClass .int ∈ zGA := zga_in 125 (by decide +kernel) (by decide +kernel)
theorem zw_al : Cond.arrayClass .long ∈ zGA := zga_in 1015 (by decide +kernel) (by decide +kernel)
theorem zw_ao : Cond.arrayOver (.object RX0) ∈ zNG := zng_in 86 (by decide +kernel) (by decide +kernel)
theorem zw_acn : Cond.native arraycopyName ∈ zGA := zga_in 85 (by decide +kernel) (by decide +kernel)
theorem zw_acs : Cond.static arraycopyName ∈ zGA := zga_in 84 (by decide +kernel) (by decide +kernel)
theorem zw_aci : Cond.initialized "java/lang/System" ∈ zGA := zga_in 51 (by decide +kernel) (by decide +kernel)
theorem zw_d2n : Cond.native ⟨"java/lang/Double", "doubleToRawLongBits", "(D)J"⟩ ∈ zGA := zga_in 1013 (by decide +kernel) (by decide +kernel)
theorem zw_d2s : Cond.static ⟨"java/lang/Double", "doubleToRawLongBits", "(D)J"⟩ ∈ zGA := zga_in 1012 (by decide +kernel) (by decide +kernel)
theorem zw_d2i : Cond.initialized "java/lang/Double" ∈ zGA := zga_in 63 (by decide +kernel) (by decide +kernel)
theorem zw_oii : Cond.instanceMethod Lib.objectInit ∈ zGA := zga_in 70 (by decide +kernel) (by decide +kernel)
theorem zw_oic : Cond.code Lib.objectInit ⟨#[0xb1]⟩ 1 none ∈ zGA := zga_in 71 (by decide +kernel) (by decide +kernel)
def zNC : List (String × String) := [("java/lang/IllegalArgumentException", "java/lang/IndexOutOfBoundsException"), ("java/lang/IllegalArgumentException", "java/lang/IllegalStateException"), ("java/lang/IllegalStateException", "java/lang/IllegalArgumentException"), ("java/lang/IllegalStateException", "java/lang/IndexOutOfBoundsException"), ("java/lang/IndexOutOfBoundsException", "java/lang/IllegalArgumentException"), ("java/lang/IndexOutOfBoundsException", "java/lang/IllegalStateException")]
def zStr : List (Nat × String) := [(209, "there is no such thing on the board"), (212, "the value is out of range"), (77, "no ball is in the hand"), (93, "the buffer is full"), (112, "the buffer is not complete works"), (125, "no state is saved"), (133, "there is no snapshot")]
def zfk : Nat → Int32 := fun k => [0, 2, 1, 0, 1, 2, 0].getD k 0
def zfp : Nat → Int32 := fun k => [0, 3, 10, 2, 10, 3, 0].getD k 0
/-- what is fixed: the tables' facts, and the cells ahead of 'base' that a walk may look at -/
def zSt (base : Nat) (nm : String) (f : Nat → Int32) (U : State) (H : Heap) : Prop := ∃ t : Nat, va_Z RX4 nm "[I" (.ref t) (fun q => base ≤ q) U H ∧ va_X t 7 f U H ∧ t < base ∧ t < H.size
def zK (base : Nat) (D : va_G) (U : State) (H : Heap) : Prop :=
  va_K D vwCl [] U ∧ (∀ w ∈ zNG, va_Nw w U) ∧ (∀ q ∈ zNC, va_Nc q.1 q.2 U) ∧ (∀ q ∈ zStr, ∃ sa, vk_R RX4 q.1 q.2 sa U) ∧
  vx_Zq Bundle.tN "UNASSIGNED_STACK" Bundle.steD (fun q => base ≤ q) U H ∧ vx_Zq Bundle.tN "SUPPRESSED_SENTINEL" Bundle.listD (fun q => base ≤ q) U H ∧
  zSt base "FIRST_KINDS" zfk U H ∧ zSt base "FIRST_PAYS" zfp U H
theorem zSt.moved {base : Nat} {nm : String} {f : Nat → Int32} {s U : State} {H0 H : Heap} (hW : s.WarmedH U.vm) (hz : H0.size ≤ H.size) (hq : ∀ a, a < H0.size → ¬ base ≤ a → H[a]? = H0[a]?) (h : zSt base nm f s H0) : zSt base nm f U H := by
  obtain ⟨t, h1, h2, h3, h4⟩ := h
  exact ⟨t, va_Z.kept (va_Z.moved hW.alike h1) hq, va_X.kept (va_X.moved hW.alike h2) (hq t h4 (by omega)), h3, by omega⟩
theorem zK.moved {base : Nat} {D : va_G} {s U : State} {H0 H : Heap} (hW : s.WarmedH U.vm) (hz : H0.size ≤ H.size) (hq : ∀ a, a < H0.size → ¬ base ≤ a → H[a]? = H0[a]?) (h : zK base D s H0) : zK base D U H := by
  obtain ⟨h1, h2, h3, h4, h5, h6, h7, h8⟩ := h
  refine ⟨va_K.moved hW.alike h1, fun w hw => zng_moved hW (List.mem_filter.mp hw).2 (h2 w hw), fun q hq => va_Nc.moved hW.alike (h3 q hq), fun q hq => ?_, vx_Zq.kept (vx_Zq.moved hW.alike h5) hq, vx_Zq.kept (vx_Zq.moved hW.alike h6) hq, h7.moved hW hz hq, h8.moved hW hz hq⟩
  obtain ⟨sa, h⟩ := h4 q hq
  exact ⟨sa, vk_R.warm hW h⟩
/-- the frame: what is ahead of 'base' stays -/
def zF (base : Nat) (st t : State) : Prop := va_F (fun q => base ≤ q) st t
/-- a point of a walk: the heap as h says, n its size -/
def zS (D : va_G) (base : Nat) (h : zH) (n : Nat) (s : State) (H : Heap) (locs : List Loc) : Prop :=
  zHp D base h n s H ∧ va_S (fun q => base ≤ q) s.heap H locs ∧ base ≤ s.heap.size
def zP (D : va_G) (base : Nat) (As : List Value) (h : zH) (n : Nat) : Array Value → State → Prop := va_Pc As (fun U => zK base D U U.heap ∧ zHp D base h n U U.heap)
def zQ (D : va_G) (base : Nat) (P : zO → zH → Nat → Prop) : Array Value → State → Outcome → State → Prop := fun _ st o t =>
  (∃ (v : Option Value) (h' : zH) (n' : Nat), o = .returned v ∧ P (.inl v) h' n' ∧ zHp D base h' n' t t.heap) ∧ zF base st t
def zXC (D : va_G) (base : Nat) (P : zO → zH → Nat → Prop) : String → State → State → Prop := fun E st t =>
  (∃ (h' : zH) (n' : Nat), P (.inr E) h' n' ∧ zHp D base h' n' t t.heap) ∧ zF base st t
/-- A CONTRACT: from As and the heap h (n cells), y comes to its end with an outcome, a heap and a size that P allows -/
def zCt (l : Launch) (D : va_G) (base dd : Nat) (y : MethodName) (cw : Cond) (As : List Value) (h : zH) (n mc ms : Nat) (P : zO → zH → Nat → Prop) : Prop :=
  vx_Met l y (cw :: zGA) ({ frames := dd, cells := mc, slots := ms, locals := 64 * dd }) (zP D base As h n) (zQ D base P) (zXC D base P) mc ms (fun q => base ≤ q)
def zR (r : Option Value) (h' : zH) (n' : Nat) : zO → zH → Nat → Prop := fun o a b => o = .inl r ∧ a = h' ∧ b = n'
abbrev zVT : Type := Nat → List (Nat × Value) → List Value → zH → Nat → Nat → Nat → Prop
abbrev zXT : Type := Nat → List (Nat × Value) → List Value → zH → Nat → Nat → Nat → String → Prop
def zV (p : Program) (l : Launch) (e : Env) (R : Room) (s : State) (m : MethodId) (args : Array Value) (below : List Frame) (meth : Method) (c : Code) (Q : State → Prop) (D : va_G) (base nL : Nat) : zVT := fun pc ls st h n k g =>
  ∀ (H : Heap) (locs : List Loc) (la : Array Slot), lv_has la nL ls → zS D base h n s H locs → W p l e R s m args below meth c H locs k g Q (F0 m pc la st)
def zX (p : Program) (l : Launch) (e : Env) (R : Room) (s : State) (m : MethodId) (args : Array Value) (below : List Frame) (meth : Method) (c : Code) (Q : State → Prop) (D : va_G) (base nL : Nat) : zXT := fun pc ls st h n k g E =>
  ∀ (H : Heap) (locs : List Loc) (la : Array Slot) (q : Addr) (ce : Cell), lv_has la nL ls → zS D base h n s H locs → H[q]? = some ce → ce.vm = .none → s.vm.findClass E = some ce.cls → vx_W p l e R s m args below meth c H locs k g Q (F0 m pc la st) q
theorem zS.put {D : va_G} {base n a : Nat} {h h' : zH} {s : State} {H H1 : Heap} {locs : List Loc} {c : zC} {i : Nat} (hS : zS D base h n s H locs) (ha : h a ≠ none) (z : H1.size = H.size) (oq : ∀ q, q ≠ a → H1[q]? = H[q]?) (hc : zAt D s H1 a c) (he : zput h a c = h') : zS D base h' n s H1 (locs ++ [⟨a, i⟩]) :=
  ⟨hS.1.put ha z oq hc he, hS.2.1.put z oq (hS.1.in ha).1, hS.2.2⟩
theorem zS.push {D : va_G} {base n : Nat} {h h' : zH} {s : State} {H H1 : Heap} {locs : List Loc} {c : zC} (hS : zS D base h n s H locs) (z : H1.size = n + 1) (oq : ∀ q, q < n → H1[q]? = H[q]?) (hc : zAt D s H1 n c) (he : zput h n c = h') : zS D base h' (n + 1) s H1 locs := by
  have hz := hS.1.1
  have h1 := hS.2.1.1
  exact ⟨hS.1.push z oq hc he, ⟨by omega, fun q hq hA => (oq q (by omega)).trans (hS.2.1.2.1 q hq hA), hS.2.1.2.2⟩, hS.2.2⟩
def zix (i : Int32) (j : Nat) : Prop := ¬ i < 0 ∧ i.toNatClampNeg = j
theorem zix_nI {j : Nat} (h : j < 2 ^ 31) : zix (nI j) j := ⟨nI_pos h, nI_clamp h⟩
theorem zix.in {i : Int32} {j N : Nat} (h : zix i j) (hj : j < N) : ¬ (i < 0 ∨ N ≤ i.toNatClampNeg) := by
  rintro (h1 | h1)
  · exact h.1 h1
  · rw [h.2] at h1; omega
theorem zix.lt {i : Int32} {j N : Nat} (h : zix i j) (hj : j < N) : i.toNatClampNeg < N := by rw [h.2]; exact hj
def zset1 (ls : List (Nat × Value)) (i : Nat) (v : Value) : List (Nat × Value) := (i, v) :: ls.filter (fun q => !(q.1 == i) && !(q.1 + 1 == i && q.2.category == 2))
def zset2 (ls : List (Nat × Value)) (i : Nat) (v : Value) : List (Nat × Value) := (i, v) :: ls.filter (fun q => !(q.1 == i) && (!(q.1 == i + 1) && !(q.1 + 1 == i && q.2.category == 2)))
/-! links: a field, a method, a class, out of the shared words -/
def zFL (own : String) (idx ci j : Nat) : Prop := ∃ (C : String) (T : u_T) (N : Nat), vwCl[ci]? = some (C, T, N) ∧ j < N ∧ Cond.fieldLink own idx (T j).1 (T j).2.1 (T j).2.2.1 ∈ zGA ∧ (∀ w ∈ u_ws C T N, w ∈ zGA)
def zFP (own : String) (idx ci j : Nat) (fin : Bool) (ty : FieldType) : Prop := ∃ (C : String) (T : u_T) (N : Nat) (tys : Nat → FieldType), vwCl[ci]? = some (C, T, N) ∧ j < N ∧ Cond.fieldLink own idx (T j).1 (T j).2.1 (T j).2.2.1 ∈ zGA ∧ (∀ w ∈ u_ws C T N, w ∈ zGA) ∧
  (∀ k, k < N → parseFieldDescriptor (T k).2.2.1 = some (tys k)) ∧ (∀ a, a < N → ∀ b, b < N → a ≠ b → (T a).2.1 ≠ (T b).2.1) ∧ (T j).2.2.2 = fin ∧ parseFieldDescriptor (T j).2.2.1 = some ty ∧ (T j).1 = own
def zNW (own : String) (idx ci : Nat) (fs : List Value) (N : Nat) : Prop := ∃ (C : String) (T : u_T) (tys : Nat → FieldType), vwCl[ci]? = some (C, T, N) ∧ (∀ w ∈ u_ws C T N, w ∈ zGA) ∧ (∀ k, k < N → parseFieldDescriptor (T k).2.2.1 = some (tys k)) ∧ (∀ j, j < N → defaultValue (tys j) = vp_V fs j) ∧
  Cond.classLink own idx C ∈ zGA ∧ Cond.instantiable C N ∈ zGA ∧ Cond.initialized C ∈ zGA
/-- a method and its code -/
def zMY (y : MethodName) (bytes : ByteArray) (maxL : Nat) (ret : Option FieldType) (na : Nat) : Prop := Cond.code y bytes maxL ret ∈ zGA ∧ Cond.initialized y.cls ∈ zGA ∧ y.cls ≠ "java/lang/invoke/MethodHandle" ∧ y.cls ≠ "java/lang/invoke/VarHandle" ∧ (parseMethodDescriptor y.desc).map (fun d => d.parameters.length) = some na ∧ maxL ≤ 45
def zMH (y : MethodName) (bytes : ByteArray) (maxL : Nat) (ret : Option FieldType) (hh : List (Nat × Nat × Nat × Nat)) (na : Nat) : Prop := Cond.codeWith y bytes maxL ret hh ∈ zGA ∧ Cond.initialized y.cls ∈ zGA ∧ y.cls ≠ "java/lang/invoke/MethodHandle" ∧ y.cls ≠ "java/lang/invoke/VarHandle" ∧ (parseMethodDescriptor y.desc).map (fun d => d.parameters.length) = some na ∧ maxL ≤ 45
def zLV (own : String) (idx : Nat) (y : MethodName) : Prop := Cond.methodLink own idx y ∈ zGA ∧ Cond.instanceMethod y ∈ zGA ∧ Cond.selects y.cls y y ∈ zGA
def zLS (own : String) (idx : Nat) (y : MethodName) : Prop := Cond.methodLink own idx y ∈ zGA ∧ Cond.static y ∈ zGA
def zLI (own : String) (idx : Nat) (y : MethodName) : Prop := Cond.methodLink own idx y ∈ zGA ∧ Cond.instanceMethod y ∈ zGA ∧ y.name = "<init>"
def zLSN (own : String) (idx : Nat) (y : MethodName) (host : String) : Prop := Cond.methodLinkNest own idx y host ∈ zNG ∧ Cond.static y ∈ zGA
def zLIN (own : String) (idx : Nat) (y : MethodName) (host : String) : Prop := Cond.methodLinkNest own idx y host ∈ zNG ∧ Cond.instanceMethod y ∈ zGA ∧ y.name = "<init>"
def zcat (st : List Value) : Nat := (st.map fun v => v.category).sum
section ZR
variable {p : Program} {l : Launch} {e : Env} {R : Room} {s : State} {m : MethodId} {args : Array Value} {below : List Frame} {meth : Method} {c : Code} {H : Heap} {locs : List Loc} {cells slots : Nat} {Q : State → Prop}
variable {cc : ByteArray} {pc n a : Nat} {la : Array Slot} {st rest : List Value} {D : va_G} {base : Nat} {h : zH} {own : String}
theorem z_iald (hx : p.tables.exec = Jvm.exec) (hb : c.code = cc) (hS : zS D base h n s H locs) {N : Nat} {f : Nat → Int32} {i : Int32} {j : Nat} (ha : h a = some (.inl (N, .inl f))) (hi : zix i j) (hj : j < N) (d : decode cc pc = .ok (.iaload, 1))
    (kk : W p l e R s m args below meth c H locs cells slots Q (F0 m (pc + 1) la (.int (f j) :: st))) : W p l e R s m args below meth c H locs cells slots Q (F0 m pc la (.int i :: .ref a :: st)) := by
  have hA := hS.1.2.2.2 a
  rw [ha] at hA
  obtain ⟨cA, h1, h2, -⟩ := hA
  exact W.iald (v := .int (f j)) hx hb h1 (h2 N (fun j => .int (f j))) (fun q => by cases q) (by show ¬ (i < 0 ∨ (arrV _ _ _).slots.size ≤ _); rw [arrV_size]; exact hi.in hj) (by show (arrV _ _ _).slots[_]? = _; rw [arrV_read _ _ (hi.lt hj), hi.2]) rfl rfl d kk
theorem z_lald (hx : p.tables.exec = Jvm.exec) (hb : c.code = cc) (hS : zS D base h n s H locs) {N : Nat} {f : Nat → Int64} {i : Int32} {j : Nat} (ha : h a = some (.inl (N, .inr (.inl f)))) (hi : zix i j) (hj : j < N) (d : decode cc pc = .ok (.laload, 1))
    (kk : W p l e R s m args below meth c H locs cells slots Q (F0 m (pc + 1) la (.long (f j) :: st))) : W p l e R s m args below meth c H locs cells slots Q (F0 m pc la (.int i :: .ref a :: st)) := by
  have hA := hS.1.2.2.2 a
  rw [ha] at hA
  obtain ⟨cA, h1, h2, -⟩ := hA
  exact W.lald (v := .long (f j)) hx hb h1 (h2 N (fun j => .long (f j))) (fun q => by cases q) (by show ¬ (i < 0 ∨ (arrV _ _ _).slots.size ≤ _); rw [arrV_size]; exact hi.in hj) (by show (arrV _ _ _).slots[_]? = _; rw [arrV_read _ _ (hi.lt hj), hi.2]) rfl rfl d kk
theorem z_aald (hx : p.tables.exec = Jvm.exec) (hb : c.code = cc) (hS : zS D base h n s H locs) {N : Nat} {f : Nat → Option Nat} {i : Int32} {j : Nat} (ha : h a = some (.inl (N, .inr (.inr (.inr (.inr f)))))) (hi : zix i j) (hj : j < N) (d : decode cc pc = .ok (.aaload, 1))
    (kk : W p l e R s m args below meth c H locs cells slots Q (F0 m (pc + 1) la (va_rf (f j) :: st))) : W p l e R s m args below meth c H locs cells slots Q (F0 m pc la (.int i :: .ref a :: st)) := by
  have hA := hS.1.2.2.2 a
  rw [ha] at hA
  obtain ⟨cA, h1, h2, -⟩ := hA
  exact W.aald (v := va_rf (f j)) (ty := .object RX0) hx hb h1 (h2 N (fun j => va_rf (f j))) rfl (fun q => by cases q) (by show ¬ (i < 0 ∨ (arrV _ _ _).slots.size ≤ _); rw [arrV_size]; exact hi.in hj) (by show (arrV _ _ _).slots[_]? = _; rw [arrV_read _ _ (hi.lt hj), hi.2]) rfl rfl d kk
theorem z_alen (hx : p.tables.exec = Jvm.exec) (hb : c.code = cc) (hS : zS D base h n s H locs) {N : Nat} {f : Nat → Int32} {v : Int32} (ha : h a = some (.inl (N, .inl f))) (hv : Int32.ofNat N = v) (d : decode cc pc = .ok (.arraylength, 1))
    (kk : W p l e R s m args below meth c H locs cells slots Q (F0 m (pc + 1) la (.int v :: st))) : W p l e R s m args below meth c H locs cells slots Q (F0 m pc la (.ref a :: st)) := by
  have hA := hS.1.2.2.2 a
  rw [ha] at hA
  obtain ⟨cA, h1, h2, -⟩ := hA
  subst hv
  exact W.alen (n := Int32.ofNat N) hx hb h1 (h2 N (fun j => .int (f j))) (by rw [vp_cell_i, arrV_size] <;> rfl) rfl rfl d kk
theorem z_iast (hx : p.tables.exec = Jvm.exec) (hb : c.code = cc) (hS : zS D base h n s H locs) {N : Nat} {f : Nat → Int32} {i x : Int32} {j : Nat} (ha : h a = some (.inl (N, .inl f))) (hi : zix i j) (hj : j < N) (d : decode cc pc = .ok (.iastore, 1))
    (kk : ∀ H locs, zS D base (zput h a (some (.inl (N, .inl (va_up f j x))))) n s H locs → W p l e R s m args below meth c H locs cells slots Q (F0 m (pc + 1) la st)) : W p l e R s m args below meth c H locs cells slots Q (F0 m pc la (.int x :: .int i :: .ref a :: st)) := by
  have hA := hS.1.2.2.2 a
  rw [ha] at hA
  obtain ⟨cA, h1, h2, h3⟩ := hA
  refine W.iast hx hb h1 (h2 N (fun j => .int (f j))) (fun q => by cases q) (by show ¬ (i < 0 ∨ (arrV _ _ _).slots.size ≤ _); rw [arrV_size]; exact hi.in hj) rfl rfl d fun H1 e z oq => ?_
  refine kk H1 _ (hS.put (c := some (.inl (N, .inl (va_up f j x)))) (by rw [ha]; exact fun q => by cases q) z oq ⟨cA, ?_, h2, h3⟩ rfl)
  rw [e, vp_cell_i, vp_cell_i, arrV_store, hi.2]
  congr 2
  funext q
  by_cases hq : q = j
  · subst hq
    simp [updV, va_up]
  · simp [updV, va_up, hq]
theorem z_last (hx : p.tables.exec = Jvm.exec) (hb : c.code = cc) (hS : zS D base h n s H locs) {N : Nat} {f : Nat → Int64} {i : Int32} {x : Int64} {j : Nat} (ha : h a = some (.inl (N, .inr (.inl f)))) (hi : zix i j) (hj : j < N) (d : decode cc pc = .ok (.lastore, 1))
    (kk : ∀ H locs, zS D base (zput h a (some (.inl (N, .inr (.inl (va_up f j x)))))) n s H locs → W p l e R s m args below meth c H locs cells slots Q (F0 m (pc + 1) la st)) : W p l e R s m args below meth c H locs cells slots Q (F0 m pc la (.long x :: .int i :: .ref a :: st)) := by
  have hA := hS.1.2.2.2 a
  rw [ha] at hA
  obtain ⟨cA, h1, h2, h3⟩ := hA
  refine W.last hx hb h1 (h2 N (fun j => .long (f j))) (fun q => by cases q) (by show ¬ (i < 0 ∨ (arrV _ _ _).slots.size ≤ _); rw [arrV_size]; exact hi.in hj) rfl rfl d fun H1 e z oq => ?_
  refine kk H1 _ (hS.put (c := some (.inl (N, .inr (.inl (va_up f j x))))) (by rw [ha]; exact fun q => by cases q) z oq ⟨cA, ?_, h2, h3⟩ rfl)
  rw [e, vp_cell_l, vp_cell_l, arrV_store, hi.2]
  congr 2
  funext q
  by_cases hq : q = j
  · subst hq
    simp [updV, va_up]
  · simp [updV, va_up, hq]
theorem z_aast (hx : p.tables.exec = Jvm.exec) (hb : c.code = cc) (hK : zK base D s s.heap) (hS : zS D base h n s H locs) {b N : Nat} {f : Nat → Option Nat} {fs : List Value} {i : Int32} {j : Nat} (ha : h a = some (.inl (N, .inr (.inr (.inr (.inr f)))))) (hb9 : h b = some (.inr (0, fs))) (hi : zix i j) (hj : j < N) (d : decode cc pc = .ok (.aastore, 1))
    (kk : ∀ H locs, zS D base (zput h a (some (.inl (N, .inr (.inr (.inr (.inr (va_up f j (some b)))))))))  n s H locs → W p l e R s m args below meth c H locs cells slots Q (F0 m (pc + 1) la st)) : W p l e R s m args below meth c H locs cells slots Q (F0 m pc la (.ref b :: .int i :: .ref a :: st)) := by
  have hA := hS.1.2.2.2 a
  have hB := hS.1.2.2.2 b
  rw [ha] at hA
  rw [hb9] at hB
  obtain ⟨cA, h1, h2, h3⟩ := hA
  obtain ⟨r', hr', cellV, g1, g2, g3, -⟩ := hB
  have hcls := (hK.1.1 0 (RX0, TX0, 10) rfl).2
  obtain ⟨kA, comp, k1, k2, k3, k4⟩ := (show va_RA s cA (.object RX0) from h3)
  have hcomp : comp = D.1 0 := Option.some.inj (k3.symm.trans hcls.1)
  subst hcomp
  obtain ⟨kC, hkC, -⟩ := hcls.2
  refine W.aast hx hb h1 (fun q h => by cases h) (fun h => by cases h) k1 k2 rfl hkC ⟨hi.1, by show _ < (arrV _ _ _).slots.size; rw [arrV_size]; exact hi.lt hj⟩ g1 (fun q h => by rw [g3] at h; cases h) (by rw [g2]; exact hkC) (by rw [g2]; exact va_assign hcls) rfl rfl d fun H1 e z oq => ?_
  refine kk H1 _ (hS.put (c := some (.inl (N, .inr (.inr (.inr (.inr (va_up f j (some b)))))))) (by rw [ha]; exact fun q => by cases q) z oq ⟨cA, ?_, h2, h3⟩ rfl)
  rw [e, vp_cell_q, vp_cell_q, arrV_store, hi.2]
  congr 2
  funext q
  by_cases hq : q = j
  · subst hq
    simp [updV, va_up, va_rf]
  · simp [updV, va_up, hq]
theorem z_getf (hx : p.tables.exec = Jvm.exec) (hb : c.code = cc) (hown : s.vm.findClass own = some m.cls) (hts : ∀ w ∈ zGA, w.before args s = true) (hK : zK base D s s.heap) (hS : zS D base h n s H locs) {i ci j : Nat} {fs : List Value} {v : Value} (hf : zFL own i ci j) (ha : h a = some (.inr (ci, fs))) (hv : fs[j]? = some v) (d : decode cc pc = .ok (.getfield i, 3))
    (kk : W p l e R s m args below meth c H locs cells slots Q (F0 m (pc + 3) la (v :: st))) : W p l e R s m args below meth c H locs cells slots Q (F0 m pc la (.ref a :: st)) := by
  obtain ⟨C, T, N, hc, hj, hl, hin⟩ := hf
  have hA := hS.1.2.2.2 a
  rw [ha] at hA
  exact va_get (D := D) (cl := vwCl) (ws := [(a, .inr (ci, fs))]) (tys := []) hx hb hts hin hown hK.1 (fun k q hq => by
    have hk : k < 1 := (List.getElem?_eq_some_iff.mp hq).1
    rw [show k = 0 by omega] at hq
    cases hq
    exact hA) 0 rfl hc j hj (hts _ hl) (fun _ h => h) hv d kk
theorem z_putf (hx : p.tables.exec = Jvm.exec) (hb : c.code = cc) (hown : s.vm.findClass own = some m.cls) (hts : ∀ w ∈ zGA, w.before args s = true) (hK : zK base D s s.heap) (hS : zS D base h n s H locs) {i ci k : Nat} {fs : List Value} {v : Value} {ty : FieldType} (hf : zFP own i ci k false ty) (ha : h a = some (.inr (ci, fs))) (hl : k < fs.length) (hn : narrow ty v = v) (hfit : fits ty v = true) (d : decode cc pc = .ok (.putfield i, 3))
    (kk : ∀ H locs, zS D base (zput h a (some (.inr (ci, fs.set k v)))) n s H locs → W p l e R s m args below meth c H locs cells slots Q (F0 m (pc + 3) la st)) : W p l e R s m args below meth c H locs cells slots Q (F0 m pc la (v :: .ref a :: st)) := by
  obtain ⟨C, T, N, ty0, hc, hk, hlink, hin, hty, hnm, hfin, hd, -⟩ := hf
  have hA := hS.1.2.2.2 a
  rw [ha] at hA
  have hap := va_apart (own := own) hts hin ty0 hty hnm hK.1 hc
  obtain ⟨r, h1, cell, q1, q2, q3, q4⟩ := hA
  have hr : r = (C, T, N) := Option.some.inj (h1.symm.trans hc)
  subst hr
  obtain ⟨hSl, hfc, kC, hkC, hkind⟩ := hK.1.1 ci _ hc
  obtain ⟨cf, kf, fi, f, hi, hsl⟩ := hSl k hk
  have hlay := hts _ (hin _ (u_in_lay hk))
  unfold u_lay at hlay
  rw [if_neg (by rw [hfin]; decide)] at hlay
  have hst := (u_facts hfc hkC (u_lays hts hin hk) hi).1
  have h6 := u_store hfc hkC hkind hlay hi hd hn hfit
  refine W.putK hx hb (f := f) ⟨hown, hts _ hlink, ⟨_, _, _, hi⟩, hst⟩ (by rw [q2]; exact h6) q1 q3 (by rw [hsl]; exact k2_hasslot (q4 k hk)) rfl rfl d fun H' e1 e2 e3 => ?_
  rw [hsl] at e1 ⊢
  exact kk H' _ (hS.put (c := some (.inr (ci, fs.set k v))) (by rw [ha]; exact fun q => by cases q) e2 e3 ⟨_, hc, t_OB.to (V := updV (vp_V fs) k v) ⟨_, e1, q2, q3, t_set q4 hap hk v⟩ (fun j _ => vp_updV_set hl v j)⟩ rfl)
theorem z_putF (hx : p.tables.exec = Jvm.exec) (hb : c.code = cc) (hown : s.vm.findClass own = some m.cls) (hts : ∀ w ∈ zGA, w.before args s = true) (hin2 : meth.name = "<init>") (hK : zK base D s s.heap) (hS : zS D base h n s H locs) {i ci k : Nat} {fs : List Value} {v : Value} {ty : FieldType} (hf : zFP own i ci k true ty) (ha : h a = some (.inr (ci, fs))) (hl : k < fs.length) (hn : narrow ty v = v) (hfit : fits ty v = true) (d : decode cc pc = .ok (.putfield i, 3))
    (kk : ∀ H locs, zS D base (zput h a (some (.inr (ci, fs.set k v)))) n s H locs → W p l e R s m args below meth c H locs cells slots Q (F0 m (pc + 3) la st)) : W p l e R s m args below meth c H locs cells slots Q (F0 m pc la (v :: .ref a :: st)) := by
  obtain ⟨C, T, N, ty0, hc, hk, hlink, hin, hty, hnm, hfin, hd, hdecl⟩ := hf
  have hA := hS.1.2.2.2 a
  rw [ha] at hA
  have hap := va_apart (own := own) hts hin ty0 hty hnm hK.1 hc
  obtain ⟨r, h1, cell, q1, q2, q3, q4⟩ := hA
  have hr : r = (C, T, N) := Option.some.inj (h1.symm.trans hc)
  subst hr
  obtain ⟨hSl, hfc, kC, hkC, hkind⟩ := hK.1.1 ci _ hc
  obtain ⟨cf, kf, fi, f, hi, hsl⟩ := hSl k hk
  have hlay := hts _ (hin _ (u_in_lay hk))
  unfold u_lay at hlay
  rw [if_pos hfin] at hlay
  have hst := (u_facts hfc hkC (u_lays hts hin hk) hi).1
  have hcf : m.cls = cf := by
    obtain ⟨_, _, c', _, _, _, -, -, hf', -, -, -, hown2, -⟩ := Cond.laysFinal_spec hlay
    have e1 : c' = cf := by have := hi.symm.trans hf'; simp at this; exact this.1.symm
    rw [hdecl] at hown2
    rw [← e1]; exact Option.some.inj (hown.symm.trans hown2)
  have h6 := u_fits hfc hkC hkind (Or.inr hlay) hi hd hn hfit
  refine W.putFinK hx hb hown (hts _ hlink) hi hst hcf hin2 (by rw [q2]; exact h6) q1 q3 (by rw [hsl]; exact k2_hasslot (q4 k hk)) rfl rfl d fun H' e1 e2 e3 => ?_
  rw [hsl] at e1 ⊢
  exact kk H' _ (hS.put (c := some (.inr (ci, fs.set k v))) (by rw [ha]; exact fun q => by cases q) e2 e3 ⟨_, hc, t_OB.to (V := updV (vp_V fs) k v) ⟨_, e1, q2, q3, t_set q4 hap hk v⟩ (fun j _ => vp_updV_set hl v j)⟩ rfl)
theorem z_newi (hx : p.tables.exec = Jvm.exec) (hb : c.code = cc) (hts : ∀ w ∈ zGA, w.before args s = true) (hS : zS D base h n s H locs) {i : Int32} {N : Nat} (hi : zix i N) (hN : N ≤ 100000) (r1 : cells + 1 ≤ R.cells) (r2 : slots + N ≤ R.slots) (d : decode cc pc = .ok (.newarray .int, 2))
    (kk : ∀ H, zS D base (zput h n (some (.inl (N, .inl (fun _ => 0))))) (n + 1) s H locs → W p l e R s m args below meth c H locs (cells + 1) (slots + N) Q (F0 m (pc + 2) la (.ref n :: st))) : W p l e R s m args below meth c H locs cells slots Q (F0 m pc la (.int i :: st)) := by
  refine va_newaK (atype := .int) hx hb (hts _ zw_ai) rfl d rfl hi.1 hi.2 (by show N * 4 ≤ _; omega) r1 r2 hS.1.1 fun H1 cA e1 z1 o1 hAr hNm => ?_
  exact kk H1 (hS.push (c := some (.inl (N, .inl (fun _ => 0)))) z1 o1 ⟨cA, e1, hAr, hNm⟩ rfl)
theorem z_newl (hx : p.tables.exec = Jvm.exec) (hb : c.code = cc) (hts : ∀ w ∈ zGA, w.before args s = true) (hS : zS D base h n s H locs) {i : Int32} {N : Nat} (hi : zix i N) (hN : N ≤ 100000) (r1 : cells + 1 ≤ R.cells) (r2 : slots + N ≤ R.slots) (d : decode cc pc = .ok (.newarray .long, 2))
    (kk : ∀ H, zS D base (zput h n (some (.inl (N, .inr (.inl (fun _ => 0)))))) (n + 1) s H locs → W p l e R s m args below meth c H locs (cells + 1) (slots + N) Q (F0 m (pc + 2) la (.ref n :: st))) : W p l e R s m args below meth c H locs cells slots Q (F0 m pc la (.int i :: st)) := by
  refine va_newaK (atype := .long) hx hb (hts _ zw_al) rfl d rfl hi.1 hi.2 (by show N * 8 ≤ _; omega) r1 r2 hS.1.1 fun H1 cA e1 z1 o1 hAr hNm => ?_
  exact kk H1 (hS.push (c := some (.inl (N, .inr (.inl (fun _ => 0))))) z1 o1 ⟨cA, e1, hAr, hNm⟩ rfl)
theorem z_newq (hx : p.tables.exec = Jvm.exec) (hb : c.code = cc) (hown : s.vm.findClass own = some m.cls) (hts : ∀ w ∈ zGA, w.before args s = true) (hK : zK base D s s.heap) (hS : zS D base h n s H locs) {x : Nat} {i : Int32} {N : Nat} (hc : Cond.classLink own x RX0 ∈ zGA) (hi : zix i N) (hN : N ≤ 100000) (r1 : cells + 1 ≤ R.cells) (r2 : slots + N ≤ R.slots) (d : decode cc pc = .ok (.anewarray x, 3))
    (kk : ∀ H, zS D base (zput h n (some (.inl (N, .inr (.inr (.inr (.inr (fun _ => none)))))))) (n + 1) s H locs → W p l e R s m args below meth c H locs (cells + 1) (slots + N) Q (F0 m (pc + 3) la (.ref n :: st))) : W p l e R s m args below meth c H locs cells slots Q (F0 m pc la (.int i :: st)) := by
  have hz := hS.1.1
  have hi2 := hi.2
  subst hi2
  refine W.anew hx hb hown (hts _ hc) (va_AO.use (hK.2.1 _ zw_ao)) rfl d rfl hi.1 (by omega) r1 r2 fun cA kA comp f1 f2 f3 f4 => ?_
  generalize hH1 : H.push ({ cls := cA, slots := Array.replicate i.toNatClampNeg .null, vm := .none } : Cell) = H1
  have z1 : H1.size = n + 1 := by rw [← hH1, Array.size_push, hz]
  have e1 : H1[n]? = some (arrV cA i.toNatClampNeg (fun _ => .null)) := by rw [← hH1, ← hz, Array.getElem?_push_size, ← arrV_new]
  have o1 : ∀ q : Nat, q < n → H1[q]? = H[q]? := fun q hq => by rw [← hH1, Array.getElem?_push, if_neg (by omega)]
  have hAr : ArrOfT s cA (.object RX0) := fun N z => ⟨(fun k h => by cases h), kA, f2, comp, f3⟩
  rw [hz]
  exact kk H1 (hS.push (c := some (.inl (i.toNatClampNeg, .inr (.inr (.inr (.inr (fun _ => none))))))) z1 o1 ⟨cA, e1, hAr, kA, comp, f2, f3, f4, f1⟩ rfl)
theorem z_new (hx : p.tables.exec = Jvm.exec) (hb : c.code = cc) (hown : s.vm.findClass own = some m.cls) (hts : ∀ w ∈ zGA, w.before args s = true) (hK : zK base D s s.heap) (hS : zS D base h n s H locs) {x ci N : Nat} {fs : List Value} (hw : zNW own x ci fs N) (r1 : cells + 1 ≤ R.cells) (r2 : slots + N ≤ R.slots) (d : decode cc pc = .ok (.new x, 3))
    (kk : ∀ H, zS D base (zput h n (some (.inr (ci, fs)))) (n + 1) s H locs → W p l e R s m args below meth c H locs (cells + 1) (slots + N) Q (F0 m (pc + 3) la (.ref n :: st))) : W p l e R s m args below meth c H locs cells slots Q (F0 m pc la st) := by
  obtain ⟨C, T, tys, hc, hin, hty, hfs, hcl, hinst, hini⟩ := hw
  have hKn := hK.1.1 ci _ hc
  refine W.newcK hx hb hown (hts _ hcl) (hts _ hinst) (hts _ hini) rfl d r1 r2 hKn.2.1 hS.1.1 fun H1 kC hkC e1 z1 o1 => ?_
  exact kk H1 (hS.push (c := some (.inr (ci, fs))) z1 o1 ⟨_, hc, (u_born tys hts hin hKn hkC e1 hty).to hfs⟩ rfl)
theorem z_gets {nm : String} {f : Nat → Int32} (hx : p.tables.exec = Jvm.exec) (hb : c.code = cc) (hown : s.vm.findClass own = some m.cls) (hZ : zSt base nm f s s.heap) (hK : zK base D s s.heap) (hS : zS D base h n s H locs) {x : Nat} (hw : Cond.fieldLinkNest own x RX4 nm "[I" RX4 ∈ zNG) (d : decode cc pc = .ok (.getstatic x, 3))
    (kk : ∀ t, va_X t 7 f s s.heap ∧ t < base ∧ t < s.heap.size → W p l e R s m args below meth c H locs cells slots Q (F0 m (pc + 3) la (.ref t :: st))) : W p l e R s m args below meth c H locs cells slots Q (F0 m pc la st) := by
  obtain ⟨t, h1, h2, h3, h4⟩ := hZ
  exact va_getsN hx hb h1 hS.2.1 hown (va_Nw.use rfl (hK.2.1 _ hw)) (fun _ h => h) d (kk t ⟨h2, h3, h4⟩)
theorem z_copy0 (hx : p.tables.exec = Jvm.exec) (hb : c.code = cc) (hml : c.maxLocals = la.size) (hown : s.vm.findClass own = some m.cls) (hts : ∀ w ∈ zGA, w.before args s = true) (hS : zS D base h n s H locs) {x b N M j : Nat} {cn : Int32} {f f0 : Nat → Int32} (hw : Cond.methodLink own x arraycopyName ∈ zGA)
    {scr : Cell} (hs1 : H[b]? = some scr) (hs2 : s.isArrayOf scr .int) (hs3 : scr.vm ≠ .unknown) (hs4 : scr.slots.size = M) (hs5 : ∀ j : Nat, j < M → scr.slots[j]? = some (.int (f j))) (ha : h a = some (.inl (N, .inl f0))) (hc : zix cn j) (hM : j ≤ M) (hN : j ≤ N) (r1 : 1 ≤ R.frames) (r2 : 64 ≤ R.locals) (r3 : zcat st ≤ 8) (d : decode cc pc = .ok (.invokestatic x, 3))
    (kk : ∀ H locs, zS D base (zput h a (some (.inl (N, .inl (va_cpy f f0 0 0 j))))) n s H locs → W p l e R s m args below meth c H locs cells slots Q (F0 m (pc + 3) la st)) : W p l e R s m args below meth c H locs cells slots Q (F0 m pc la (.int cn :: .int 0 :: .ref a :: .int 0 :: .ref b :: st)) := by
  have nn : ∀ z : Int32, ¬ z < 0 → z.toInt = (z.toNatClampNeg : Int) := by
    intro z hz
    have hz0 : (0 : Int) ≤ z.toInt := by
      have := Int32.not_lt.mp hz
      simpa using Int32.le_iff_toInt_le.mp this
    show z.toInt = ((z.toInt.toNat : Nat) : Int)
    omega
  have z0 : (0 : Int32).toNatClampNeg = 0 := by decide
  have zi0 : (0 : Int32).toInt = 0 := by decide
  have hA := hS.1.2.2.2 a
  rw [ha] at hA
  obtain ⟨c1, hc1, hAr, hRA⟩ := hA
  have hAr : ArrOfT s c1 .int := hAr
  intro T hT X
  obtain ⟨hs6, k0, hk0, cm0, hkk0⟩ := hs2
  obtain ⟨-, k1, hk1, cm1, hkk1⟩ := hAr N (fun j => .int (f0 j))
  have hcn := nn cn hc.1
  rw [hc.2] at hcn
  obtain ⟨vm', X', step⟩ := X.arraycopy hx hown (hts _ hw) (hts _ zw_acn) (hts _ zw_acs) (hts _ zw_aci) (src := b) (dst := a) (cs := scr) (cd := vp_cell c1 (N, .inl f0)) (srcPos := 0) (destPos := 0) (n := cn) (by rw [hT]; exact hs1) (by rw [hT]; exact hc1)
    hs6 (fun _ h => by cases h) hs3 (fun h => by cases h) hk0 hk1 hkk0 hkk1 (by simp [refKind]) (by decide) (by decide) hc.1
    (by rw [hcn, zi0, hs4]; omega)
    (by rw [hcn, zi0]; show ¬ _ > ((arrV c1 N (fun j => .int (f0 j))).slots.size : Int); rw [arrV_size]; omega)
    (fun vm₁ _ i hi => by
      rw [hc.2] at hi
      have e : scr.slots.getD ((0 : Int32).toNatClampNeg + i) .null = .int (f ((0 : Int32).toNatClampNeg + i)) := by
        rw [Array.getD_eq_getD_getElem?, hs5 _ (by rw [z0]; omega)]
        rfl
      refine ⟨?_, ?_⟩
      · rw [e]
        rfl
      · rw [e]
        exact trivial)
    (g := F0 m pc la (.int cn :: .int 0 :: .ref a :: .int 0 :: .ref b :: st)) rfl (by rw [hml]) (rest := st) rfl (by rw [hb]; exact d) r1 (by unfold zcat at r3; show 2 * 0 + _ + _ ≤ _; have hw9 : nativeFrameWords "java/lang/System" "arraycopy" 5 ≤ 20 := (by decide); omega)
  have e1 : copied scr (vp_cell c1 (N, .inl f0)) 0 0 cn = vp_cell c1 (N, .inl (va_cpy f f0 (0 : Int32).toNatClampNeg (0 : Int32).toNatClampNeg cn.toNatClampNeg)) := va_copiedX (fun z => .int z) scr c1 f f0 hs5 (by rw [z0, hc.2]; omega)
  rw [e1, z0, hc.2] at X' step
  have hl : a < H.size := (Array.getElem?_eq_some_iff.mp hc1).1
  have hheap : ((T.setVm vm').setCell a (vp_cell c1 (N, .inl (va_cpy f f0 0 0 j)))).heap = H.setIfInBounds a (vp_cell c1 (N, .inl (va_cpy f f0 0 0 j))) := by rw [← hT]; rfl
  have oq : ∀ q : Nat, q ≠ a → (H.setIfInBounds a (vp_cell c1 (N, .inl (va_cpy f f0 0 0 j))))[q]? = H[q]? := fun q hq => by simp [Array.getElem?_setIfInBounds, Ne.symm hq]
  have hin := (hS.1.in (a := a) (by rw [ha]; exact fun q => by cases q)).1
  obtain ⟨t, a1, b1⟩ := kk _ _ ⟨hS.1.put (c := some (.inl (N, .inl (va_cpy f f0 0 0 j)))) (by rw [ha]; exact fun q => by cases q) (by simp) oq ⟨c1, (show (H.setIfInBounds a _)[a]? = some _ by simp [Array.getElem?_setIfInBounds, hl]), hAr, hRA⟩ rfl, ⟨by simp; exact hS.2.1.1, fun q g1 g2 => by
      rw [oq q (fun e => g2 (by rw [e]; exact hin))]
      exact hS.2.1.2.1 q g1 g2, fun q hq => by
      rcases List.mem_append.mp hq with h | h
      · exact hS.2.1.2.2 q h
      · obtain ⟨z, -, hz⟩ := List.mem_map.mp h
        rw [← hz]
        exact hin⟩, hS.2.2⟩ _ hheap X'
  exact ⟨t, step t a1, b1⟩
theorem z_copyi (hx : p.tables.exec = Jvm.exec) (hb : c.code = cc) (hml : c.maxLocals = la.size) (hown : s.vm.findClass own = some m.cls) (hts : ∀ w ∈ zGA, w.before args s = true) (hS : zS D base h n s H locs) {x b N M j : Nat} {cn : Int32} {f f0 : Nat → Int32} (hw : Cond.methodLink own x arraycopyName ∈ zGA)
    (hb9 : h b = some (.inl (M, .inl f))) (ha : h a = some (.inl (N, .inl f0))) (hc : zix cn j) (hM : j ≤ M) (hN : j ≤ N) (r1 : 1 ≤ R.frames) (r2 : 64 ≤ R.locals) (r3 : zcat st ≤ 8) (d : decode cc pc = .ok (.invokestatic x, 3))
    (kk : ∀ H locs, zS D base (zput h a (some (.inl (N, .inl (va_cpy f f0 0 0 j))))) n s H locs → W p l e R s m args below meth c H locs cells slots Q (F0 m (pc + 3) la st)) : W p l e R s m args below meth c H locs cells slots Q (F0 m pc la (.int cn :: .int 0 :: .ref a :: .int 0 :: .ref b :: st)) := by
  have hA := hS.1.2.2.2 b
  rw [hb9] at hA
  obtain ⟨c0, h1, h2, -⟩ := hA
  exact z_copy0 hx hb hml hown hts hS hw h1 (h2 M (fun j => .int (f j))) (fun h => by cases h) (by show (arrV _ _ _).slots.size = _; rw [arrV_size]) (fun j hj => by show (arrV _ _ _).slots[_]? = _; rw [arrV_read _ _ hj]) ha hc hM hN r1 r2 r3 d kk
theorem z_copyx (hx : p.tables.exec = Jvm.exec) (hb : c.code = cc) (hml : c.maxLocals = la.size) (hown : s.vm.findClass own = some m.cls) (hts : ∀ w ∈ zGA, w.before args s = true) (hS : zS D base h n s H locs) {x t N : Nat} {f f0 : Nat → Int32} (hw : Cond.methodLink own x arraycopyName ∈ zGA)
    (ht : va_X t 7 f s s.heap ∧ t < base ∧ t < s.heap.size) (ha : h a = some (.inl (N, .inl f0))) (hN : 7 ≤ N) (r1 : 1 ≤ R.frames) (r2 : 64 ≤ R.locals) (r3 : zcat st ≤ 8) (d : decode cc pc = .ok (.invokestatic x, 3))
    (kk : ∀ H locs, zS D base (zput h a (some (.inl (N, .inl (va_cpy f f0 0 0 7))))) n s H locs → W p l e R s m args below meth c H locs cells slots Q (F0 m (pc + 3) la st)) : W p l e R s m args below meth c H locs cells slots Q (F0 m pc la (.int 7 :: .int 0 :: .ref a :: .int 0 :: .ref t :: st)) := by
  obtain ⟨⟨scr, h1, h2, h3, h4, h5⟩, h6, h7⟩ := ht
  exact z_copy0 hx hb hml hown hts hS hw (by rw [hS.2.1.2.1 t h7 (by omega)]; exact h1) h2 h3 h4 h5 ha ⟨by decide, by decide⟩ (Nat.le_refl _) hN r1 r2 r3 d kk
/-! calls -/
theorem zP_blind {As : List Value} {h : zH} {n : Nat} : FrameBlind (zP D base As h n) := by
  intro a U g mk hp
  obtain ⟨h1, h2, h3⟩ := hp
  exact ⟨h1, h2.moved (State.WarmedH.refl U) (Nat.le_refl _) (fun _ _ _ => rfl), h3.moved (Vm.Alike.refl U.vm)⟩
theorem zP_at (hK : zK base D s s.heap) (hS : zS D base h n s H locs) {As : List Value} {U : State} (hU : U.heap = H) (hW : s.WarmedH U.vm) : zP D base As h n As.toArray U :=
  ⟨rfl, hK.moved hW (by rw [hU]; exact hS.2.1.1) (by rw [hU]; exact hS.2.1.2.1), by rw [hU]; exact hS.1.moved hW.alike⟩
theorem zGood {ws : List Cond} (h : ∀ w ∈ ws, w ∈ zGA) : GoodIn zGA ws := fun w hw => ⟨h w hw, good_of_word (List.mem_filter.mp (h w hw)).2⟩
theorem zGoodC {w : Cond} (h : w ∈ zGA) : GoodIn zGA (w :: zGA) := zGood (fun v hv => by
  rcases List.mem_cons.mp hv with rfl | hv
  · exact h
  · exact hv)
theorem z_done {P : zO → zH → Nat → Prop} {mc ms : Nat} {st0 : List Value} {aa : Array Value} (hS : zS D base h n s H locs)
    (hr : vx_Run p l e R s m args below meth c H locs cells slots mc ms (F0 m pc la st0) rest (zQ D base P aa) (zXC D base P) (fun q => base ≤ q))
    (kk : ∀ v h2 n2, n ≤ n2 → P (.inl v) h2 n2 → ∀ H locs, zS D base h2 n2 s H locs → W p l e R s m args below meth c H locs (cells + mc) (slots + ms) Q (F0 m (pc + 3) la (v.toList ++ rest)))
    (kx : ∀ E h2 n2, n ≤ n2 → P (.inr E) h2 n2 → ∀ H locs q ce, zS D base h2 n2 s H locs → H[q]? = some ce → ce.vm = .none → s.vm.findClass E = some ce.cls → vx_W p l e R s m args below meth c H locs (cells + mc) (slots + ms) Q (F0 m pc la rest) q) : W p l e R s m args below meth c H locs cells slots Q (F0 m pc la st0) := by
  intro T hT X
  have hz := hS.1.1
  rcases hr T hT X with ⟨v, st₀, t, T', L, h0, X', hL, e1, e2, ⟨⟨v', h2, n2, hv, hp, hh⟩, hF⟩, st⟩ | ⟨q, st₀, t, T', L, E, ce, h0, X', hL, e1, e2, ⟨⟨h2, n2, hp, hh⟩, hF⟩, hce, hcv, hcl, st⟩
  · cases hv
    obtain ⟨k1, k2, k3⟩ := vx_keep (A1 := fun q => base ≤ q) h0 e1 hS.2.1 (fun q _ h => h) (fun q h => h) hL hF
    have hvm : t.vm.Alike s.vm := by rw [← e2]; exact X'.warmed.alike.symm
    obtain ⟨t2, a1, b1⟩ := kk v h2 n2 (by have := hh.1; rw [← e1] at this; omega) hp T'.heap (locs ++ L) ⟨by rw [e1]; exact hh.moved hvm, k3, hS.2.2⟩ T' rfl X'
    exact ⟨t2, st t2 a1, b1⟩
  · obtain ⟨k1, k2, k3⟩ := vx_keep (A1 := fun q => base ≤ q) h0 e1 hS.2.1 (fun q _ h => h) (fun q h => h) hL hF
    have hvm : t.vm.Alike s.vm := by rw [← e2]; exact X'.warmed.alike.symm
    obtain ⟨t2, a1, b1⟩ := kx E h2 n2 (by have := hh.1; rw [← e1] at this; omega) hp T'.heap (locs ++ L) q ce ⟨by rw [e1]; exact hh.moved hvm, k3, hS.2.2⟩ (by rw [e1]; exact hce) hcv hcl T' rfl X'
    exact ⟨t2, st.trans a1, b1⟩
section ZC
variable {ls : List (Nat × Value)} {nL x na dd2 mc ms maxL : Nat} {y2 : MethodName} {bytes : ByteArray} {ret : Option FieldType} {P : zO → zH → Nat → Prop} {As : List Value} {b : Nat} {host : String} {hh : List (Nat × Nat × Nat × Nat)}
theorem z_callV {ci : Nat} {fs : List Value} (hx : p.tables.exec = Jvm.exec) (hb : c.code = cc) (hml : c.maxLocals = nL) (hown : s.vm.findClass own = some m.cls) (hts : ∀ w ∈ zGA, w.before args s = true) (hK : zK base D s s.heap) (hS : zS D base h n s H locs) (hl : lv_has la nL ls)
    (hM : zCt l D base dd2 y2 (.code y2 bytes maxL ret) (.ref b :: As) h n mc ms P) (hm : zMY y2 bytes maxL ret na) (hv : zLV own x y2) (hb9 : h b = some (.inr (ci, fs))) (hcl : (vwCl[ci]?).map (fun q => q.1) = some y2.cls) (hA : As.length = na) (hst : st = As.reverse ++ .ref b :: rest)
    (q1 : dd2 + 1 ≤ R.frames) (q2 : 64 * (dd2 + 1) ≤ R.locals) (q3 : zcat rest ≤ 8) (q4 : cells + mc ≤ R.cells) (q5 : slots + ms ≤ R.slots) (d : decode cc pc = .ok (.invokevirtual x, 3))
    (kk : ∀ v h2 n2, n ≤ n2 → P (.inl v) h2 n2 → ∀ H locs, zS D base h2 n2 s H locs → W p l e R s m args below meth c H locs (cells + mc) (slots + ms) Q (F0 m (pc + 3) la (v.toList ++ rest)))
    (kx : ∀ E h2 n2, n ≤ n2 → P (.inr E) h2 n2 → ∀ H locs q ce, zS D base h2 n2 s H locs → H[q]? = some ce → ce.vm = .none → s.vm.findClass E = some ce.cls → vx_W p l e R s m args below meth c H locs (cells + mc) (slots + ms) Q (F0 m pc la rest) q) : W p l e R s m args below meth c H locs cells slots Q (F0 m pc la st) := by
  obtain ⟨m1, m2, m3, m4, m5, m6⟩ := hm
  obtain ⟨v1, v2, v3⟩ := hv
  have hB := hS.1.2.2.2 b
  rw [hb9] at hB
  obtain ⟨r, hr, -⟩ := id hB
  rw [hr] at hcl
  have hcl : r.1 = y2.cls := Option.some.inj hcl
  have hrec := va_recv (cl := vwCl) (ws := [(b, .inr (ci, fs))]) (tys := []) (q0 := 0) hK.1 (fun k q hq => by
    have hk : k < 1 := (List.getElem?_eq_some_iff.mp hq).1
    rw [show k = 0 by omega] at hq
    cases hq
    exact hB) hr rfl
  rw [hcl] at hrec
  exact z_done hS (vx_runV (As := As) (rest := rest) ⟨hx, hb, hml, hown, hts⟩ hM (cwV na hts (C := y2.cls) (zGood (fun w hw => by
    rcases List.mem_append.mp hw with hw | hw
    · simp only [List.mem_cons, List.not_mem_nil, or_false] at hw
      rcases hw with rfl | rfl | rfl | rfl <;> assumption
    · rcases List.mem_cons.mp hw with rfl | hw
      · exact m1
      · exact hw)) rfl rfl rfl ⟨rfl, m3, m4, m5⟩ ⟨q1, by show 8 + (maxL + 11) + 64 * dd2 ≤ _; omega⟩) ⟨zP_blind, hrec, fun U hU hW => zP_at hK hS hU hW⟩ rfl hA hl.1 hst (by show 2 * 0 + _ ≤ 8; unfold zcat at q3; omega) d ⟨q4, q5⟩) kk kx
theorem z_callS (hx : p.tables.exec = Jvm.exec) (hb : c.code = cc) (hml : c.maxLocals = nL) (hown : s.vm.findClass own = some m.cls) (hts : ∀ w ∈ zGA, w.before args s = true) (hK : zK base D s s.heap) (hS : zS D base h n s H locs) (hl : lv_has la nL ls)
    (hM : zCt l D base dd2 y2 (.code y2 bytes maxL ret) As h n mc ms P) (hm : zMY y2 bytes maxL ret na) (hv : zLS own x y2) (hA : As.length = na) (hst : st = As.reverse ++ rest)
    (q1 : dd2 + 1 ≤ R.frames) (q2 : 64 * (dd2 + 1) ≤ R.locals) (q3 : zcat rest ≤ 8) (q4 : cells + mc ≤ R.cells) (q5 : slots + ms ≤ R.slots) (d : decode cc pc = .ok (.invokestatic x, 3))
    (kk : ∀ v h2 n2, n ≤ n2 → P (.inl v) h2 n2 → ∀ H locs, zS D base h2 n2 s H locs → W p l e R s m args below meth c H locs (cells + mc) (slots + ms) Q (F0 m (pc + 3) la (v.toList ++ rest)))
    (kx : ∀ E h2 n2, n ≤ n2 → P (.inr E) h2 n2 → ∀ H locs q ce, zS D base h2 n2 s H locs → H[q]? = some ce → ce.vm = .none → s.vm.findClass E = some ce.cls → vx_W p l e R s m args below meth c H locs (cells + mc) (slots + ms) Q (F0 m pc la rest) q) : W p l e R s m args below meth c H locs cells slots Q (F0 m pc la st) := by
  obtain ⟨m1, m2, m3, m4, m5, m6⟩ := hm
  obtain ⟨v1, v2⟩ := hv
  exact z_done hS (vx_runS (As := As) (rest := rest) ⟨hx, hb, hml, hown, hts⟩ hM ⟨callB_of na hts (zGoodC m1) rfl rfl rfl (hts _ m2) (hts _ v1) ⟨m3, m4, m5⟩ ⟨q1, by show 8 + (maxL + 11) + 64 * dd2 ≤ _; omega⟩, hts _ v2⟩ ⟨zP_blind, fun U hU hW => zP_at hK hS hU hW⟩ rfl hA hl.1 hst (by show 2 * 0 + _ ≤ 8; unfold zcat at q3; omega) d ⟨q4, q5⟩) kk kx
theorem z_callSH (hx : p.tables.exec = Jvm.exec) (hb : c.code = cc) (hml : c.maxLocals = nL) (hown : s.vm.findClass own = some m.cls) (hts : ∀ w ∈ zGA, w.before args s = true) (hK : zK base D s s.heap) (hS : zS D base h n s H locs) (hl : lv_has la nL ls)
    (hM : zCt l D base dd2 y2 (.codeWith y2 bytes maxL ret hh) As h n mc ms P) (hm : zMH y2 bytes maxL ret hh na) (hv : zLS own x y2) (hA : As.length = na) (hst : st = As.reverse ++ rest)
    (q1 : dd2 + 1 ≤ R.frames) (q2 : 64 * (dd2 + 1) ≤ R.locals) (q3 : zcat rest ≤ 8) (q4 : cells + mc ≤ R.cells) (q5 : slots + ms ≤ R.slots) (d : decode cc pc = .ok (.invokestatic x, 3))
    (kk : ∀ v h2 n2, n ≤ n2 → P (.inl v) h2 n2 → ∀ H locs, zS D base h2 n2 s H locs → W p l e R s m args below meth c H locs (cells + mc) (slots + ms) Q (F0 m (pc + 3) la (v.toList ++ rest)))
    (kx : ∀ E h2 n2, n ≤ n2 → P (.inr E) h2 n2 → ∀ H locs q ce, zS D base h2 n2 s H locs → H[q]? = some ce → ce.vm = .none → s.vm.findClass E = some ce.cls → vx_W p l e R s m args below meth c H locs (cells + mc) (slots + ms) Q (F0 m pc la rest) q) : W p l e R s m args below meth c H locs cells slots Q (F0 m pc la st) := by
  obtain ⟨m1, m2, m3, m4, m5, m6⟩ := hm
  obtain ⟨v1, v2⟩ := hv
  refine z_done hS (vx_runSX (hh := hh) (bytes := bytes) (maxL := maxL) (ret := ret) (n := na) (As := As) (rest := rest) ⟨hx, hb, hml, hown, hts⟩ hM ?_ ⟨zP_blind, fun U hU hW => zP_at hK hS hU hW⟩ rfl hA hl.1 hst (by show 2 * 0 + _ ≤ 8; unfold zcat at q3; omega) d ⟨q4, q5⟩) kk kx
  refine ⟨⟨rfl, rfl, q1, by show 8 + (maxL + 11) + 64 * dd2 ≤ _; omega, pay_in hts (zGoodC m1), List.mem_cons_self⟩, hts _ m1, hts _ m2, ⟨m3, m4⟩, fun sig h => ?_, hts _ v1, hts _ v2⟩
  rw [h] at m5
  exact (Option.some.inj m5).symm
theorem z_callSN (hx : p.tables.exec = Jvm.exec) (hb : c.code = cc) (hml : c.maxLocals = nL) (hown : s.vm.findClass own = some m.cls) (hts : ∀ w ∈ zGA, w.before args s = true) (hK : zK base D s s.heap) (hS : zS D base h n s H locs) (hl : lv_has la nL ls)
    (hM : zCt l D base dd2 y2 (.code y2 bytes maxL ret) As h n mc ms P) (hm : zMY y2 bytes maxL ret na) (hv : zLSN own x y2 host) (hA : As.length = na) (hst : st = As.reverse ++ rest)
    (q1 : dd2 + 1 ≤ R.frames) (q2 : 64 * (dd2 + 1) ≤ R.locals) (q3 : zcat rest ≤ 8) (q4 : cells + mc ≤ R.cells) (q5 : slots + ms ≤ R.slots) (d : decode cc pc = .ok (.invokestatic x, 3))
    (kk : ∀ v h2 n2, n ≤ n2 → P (.inl v) h2 n2 → ∀ H locs, zS D base h2 n2 s H locs → W p l e R s m args below meth c H locs (cells + mc) (slots + ms) Q (F0 m (pc + 3) la (v.toList ++ rest)))
    (kx : ∀ E h2 n2, n ≤ n2 → P (.inr E) h2 n2 → ∀ H locs q ce, zS D base h2 n2 s H locs → H[q]? = some ce → ce.vm = .none → s.vm.findClass E = some ce.cls → vx_W p l e R s m args below meth c H locs (cells + mc) (slots + ms) Q (F0 m pc la rest) q) : W p l e R s m args below meth c H locs cells slots Q (F0 m pc la st) := by
  obtain ⟨m1, m2, m3, m4, m5, m6⟩ := hm
  obtain ⟨v1, v2⟩ := hv
  exact z_done hS (vx_runSN (As := As) (rest := rest) ⟨hx, hb, hml, hown, hts⟩ hM ⟨va_cnB na hts (zGoodC m1) rfl rfl rfl (hK.2.1 _ v1) (hts _ m2) ⟨m3, m4, m5⟩ ⟨q1, by show 8 + (maxL + 11) + 64 * dd2 ≤ _; omega⟩, hts _ v2, trivial⟩ ⟨zP_blind, fun U hU hW => zP_at hK hS hU hW⟩ rfl hA hl.1 hst (by show 2 * 0 + _ ≤ 8; unfold zcat at q3; omega) d ⟨q4, q5⟩) kk kx
theorem z_callI (hx : p.tables.exec = Jvm.exec) (hb : c.code = cc) (hml : c.maxLocals = nL) (hown : s.vm.findClass own = some m.cls) (hts : ∀ w ∈ zGA, w.before args s = true) (hK : zK base D s s.heap) (hS : zS D base h n s H locs) (hl : lv_has la nL ls)
    (hM : zCt l D base dd2 y2 (.code y2 bytes maxL none) (.ref b :: As) h n mc ms P) (hm : zMY y2 bytes maxL none na) (hv : zLI own x y2) (hA : As.length = na) (hst : st = As.reverse ++ .ref b :: rest)
    (q1 : dd2 + 1 ≤ R.frames) (q2 : 64 * (dd2 + 1) ≤ R.locals) (q3 : zcat rest ≤ 8) (q4 : cells + mc ≤ R.cells) (q5 : slots + ms ≤ R.slots) (d : decode cc pc = .ok (.invokespecial x, 3))
    (kk : ∀ v h2 n2, n ≤ n2 → P (.inl v) h2 n2 → ∀ H locs, zS D base h2 n2 s H locs → W p l e R s m args below meth c H locs (cells + mc) (slots + ms) Q (F0 m (pc + 3) la (v.toList ++ rest)))
    (kx : ∀ E h2 n2, n ≤ n2 → P (.inr E) h2 n2 → ∀ H locs q ce, zS D base h2 n2 s H locs → H[q]? = some ce → ce.vm = .none → s.vm.findClass E = some ce.cls → vx_W p l e R s m args below meth c H locs (cells + mc) (slots + ms) Q (F0 m pc la rest) q) : W p l e R s m args below meth c H locs cells slots Q (F0 m pc la st) := by
  obtain ⟨m1, m2, m3, m4, m5, m6⟩ := hm
  obtain ⟨v1, v2, v3⟩ := hv
  exact z_done hS (vx_runI (As := As) (rest := rest) ⟨hx, hb, hml, hown, hts⟩ hM ⟨callB_of na hts (zGoodC m1) rfl rfl rfl (hts _ m2) (hts _ v1) ⟨m3, m4, m5⟩ ⟨q1, by show 8 + (maxL + 11) + 64 * dd2 ≤ _; omega⟩, v3, hts _ v2⟩ ⟨zP_blind, fun U hU hW => zP_at hK hS hU hW⟩ rfl hA hl.1 hst (by show 2 * 0 + _ ≤ 8; unfold zcat at q3; omega) d ⟨q4, q5⟩) kk kx
theorem z_callIN (hx : p.tables.exec = Jvm.exec) (hb : c.code = cc) (hml : c.maxLocals = nL) (hown : s.vm.findClass own = some m.cls) (hts : ∀ w ∈ zGA, w.before args s = true) (hK : zK base D s s.heap) (hS : zS D base h n s H locs) (hl : lv_has la nL ls)
    (hM : zCt l D base dd2 y2 (.code y2 bytes maxL none) (.ref b :: As) h n mc ms P) (hm : zMY y2 bytes maxL none na) (hv : zLIN own x y2 host) (hA : As.length = na) (hst : st = As.reverse ++ .ref b :: rest)
    (q1 : dd2 + 1 ≤ R.frames) (q2 : 64 * (dd2 + 1) ≤ R.locals) (q3 : zcat rest ≤ 8) (q4 : cells + mc ≤ R.cells) (q5 : slots + ms ≤ R.slots) (d : decode cc pc = .ok (.invokespecial x, 3))
    (kk : ∀ v h2 n2, n ≤ n2 → P (.inl v) h2 n2 → ∀ H locs, zS D base h2 n2 s H locs → W p l e R s m args below meth c H locs (cells + mc) (slots + ms) Q (F0 m (pc + 3) la (v.toList ++ rest)))
    (kx : ∀ E h2 n2, n ≤ n2 → P (.inr E) h2 n2 → ∀ H locs q ce, zS D base h2 n2 s H locs → H[q]? = some ce → ce.vm = .none → s.vm.findClass E = some ce.cls → vx_W p l e R s m args below meth c H locs (cells + mc) (slots + ms) Q (F0 m pc la rest) q) : W p l e R s m args below meth c H locs cells slots Q (F0 m pc la st) := by
  obtain ⟨m1, m2, m3, m4, m5, m6⟩ := hm
  obtain ⟨v1, v2, v3⟩ := hv
  exact z_done hS (vx_runIN (As := As) (rest := rest) ⟨hx, hb, hml, hown, hts⟩ hM ⟨va_cnB na hts (zGoodC m1) rfl rfl rfl (hK.2.1 _ v1) (hts _ m2) ⟨m3, m4, m5⟩ ⟨q1, by show 8 + (maxL + 11) + 64 * dd2 ≤ _; omega⟩, v3, hts _ v2⟩ ⟨zP_blind, fun U hU hW => zP_at hK hS hU hW⟩ rfl hA hl.1 hst (by show 2 * 0 + _ ≤ 8; unfold zcat at q3; omega) d ⟨q4, q5⟩) kk kx
end ZC
end ZR
def zSx (base : Nat) (s : State) (t : Nat) (f : Nat → Int32) : Prop := va_X t 7 f s s.heap ∧ t < base ∧ t < s.heap.size
end
section
def zl_iconst (l : Launch) (D : va_G) (base : Nat) (cc : ByteArray) (own : String) (y : MethodName) (R : Room) (nL : Nat) (Sx : Nat → (Nat → Int32) → Prop) (V : zVT) (X : zXT) : Prop := ∀ (pc : Nat) (ls : List (Nat × Value)) (st : List Value) (h : zH) (n k g : Nat) (i : Int) (v : Int32), (decode cc pc = .ok (.iconst i, 1)) → (Int32.ofInt i = v) → (V (pc + 1) ls (.int v :: st) h n k g) → V pc ls (st) h n k g
def zl_bipush (l : Launch) (D : va_G) (base : Nat) (cc : ByteArray) (own : String) (y : MethodName) (R : Room) (nL : Nat) (Sx : Nat → (Nat → Int32) → Prop) (V : zVT) (X : zXT) : Prop := ∀ (pc : Nat) (ls : List (Nat × Value)) (st : List Value) (h : zH) (n k g : Nat) (i : Int) (v : Int32), (decode cc pc = .ok (.bipush i, 2)) → ((Int8.ofInt i).toInt32 = v) → (V (pc + 2) ls (.int v :: st) h n k g) → V pc ls (st) h n k g
def zl_sipush (l : Launch) (D : va_G) (base : Nat) (cc : ByteArray) (own : String) (y : MethodName) (R : Room) (nL : Nat) (Sx : Nat → (Nat → Int32) → Prop) (V : zVT) (X : zXT) : Prop := ∀ (pc : Nat) (ls : List (Nat × Value)) (st : List Value) (h : zH) (n k g : Nat) (i : Int) (v : Int32), (decode cc pc = .ok (.sipush i, 3)) → ((Int16.ofInt i).toInt32 = v) → (V (pc + 3) ls (.int v :: st) h n k g) → V pc ls (st) h n k g
def zl_lconst (l : Launch) (D : va_G) (base : Nat) (cc : ByteArray) (own : String) (y : MethodName) (R : Room) (nL : Nat) (Sx : Nat → (Nat → Int32) → Prop) (V : zVT) (X : zXT) : Prop := ∀ (pc : Nat) (ls : List (Nat × Value)) (st : List Value) (h : zH) (n k g : Nat) (i : Fin 2) (v : Int64), (decode cc pc = .ok (.lconst i, 1)) → (Int64.ofNat (i : Nat) = v) → (V (pc + 1) ls (.long v :: st) h n k g) → V pc ls (st) h n k g
def zl_dconst0 (l : Launch) (D : va_G) (base : Nat) (cc : ByteArray) (own : String) (y : MethodName) (R : Room) (nL : Nat) (Sx : Nat → (Nat → Int32) → Prop) (V : zVT) (X : zXT) : Prop := ∀ (pc : Nat) (ls : List (Nat × Value)) (st : List Value) (h : zH) (n k g : Nat) , (decode cc pc = .ok (.dconst 0, 1)) → (V (pc + 1) ls (.double FP.dconst0 :: st) h n k g) → V pc ls (st) h n k g
def zl_dconst1 (l : Launch) (D : va_G) (base : Nat) (cc : ByteArray) (own : String) (y : MethodName) (R : Room) (nL : Nat) (Sx : Nat → (Nat → Int32) → Prop) (V : zVT) (X : zXT) : Prop := ∀ (pc : Nat) (ls : List (Nat × Value)) (st : List Value) (h : zH) (n k g : Nat) , (decode cc pc = .ok (.dconst 1, 1)) → (V (pc + 1) ls (.double FP.dconst1 :: st) h n k g) → V pc ls (st) h n k g
def zl_null (l : Launch) (D : va_G) (base : Nat) (cc : ByteArray) (own : String) (y : MethodName) (R : Room) (nL : Nat) (Sx : Nat → (Nat → Int32) → Prop) (V : zVT) (X : zXT) : Prop := ∀ (pc : Nat) (ls : List (Nat × Value)) (st : List Value) (h : zH) (n k g : Nat) , (decode cc pc = .ok (.aconst_null, 1)) → (V (pc + 1) ls (.null :: st) h n k g) → V pc ls (st) h n k g
def zl_ldc (l : Launch) (D : va_G) (base : Nat) (cc : ByteArray) (own : String) (y : MethodName) (R : Room) (nL : Nat) (Sx : Nat → (Nat → Int32) → Prop) (V : zVT) (X : zXT) : Prop := ∀ (pc : Nat) (ls : List (Nat × Value)) (st : List Value) (h : zH) (n k g : Nat) (i : Nat) (v : Int32), (decode cc pc = .ok (.ldc i, 2)) → (Cond.constant own i v ∈ zGA) → (V (pc + 2) ls (.int v :: st) h n k g) → V pc ls (st) h n k g
def zl_ldc2 (l : Launch) (D : va_G) (base : Nat) (cc : ByteArray) (own : String) (y : MethodName) (R : Room) (nL : Nat) (Sx : Nat → (Nat → Int32) → Prop) (V : zVT) (X : zXT) : Prop := ∀ (pc : Nat) (ls : List (Nat × Value)) (st : List Value) (h : zH) (n k g : Nat) (i : Nat) (v : Int64), (decode cc pc = .ok (.ldc2_w i, 3)) → (Cond.constantLong own i v ∈ zGA) → (V (pc + 3) ls (.long v :: st) h n k g) → V pc ls (st) h n k g
def zl_ldc2d (l : Launch) (D : va_G) (base : Nat) (cc : ByteArray) (own : String) (y : MethodName) (R : Room) (nL : Nat) (Sx : Nat → (Nat → Int32) → Prop) (V : zVT) (X : zXT) : Prop := ∀ (pc : Nat) (ls : List (Nat × Value)) (st : List Value) (h : zH) (n k g : Nat) (i : Nat) (v : UInt64), (decode cc pc = .ok (.ldc2_w i, 3)) → (Cond.constantDouble own i v ∈ zGA) → (V (pc + 3) ls (.double v :: st) h n k g) → V pc ls (st) h n k g
def zl_iload_n (l : Launch) (D : va_G) (base : Nat) (cc : ByteArray) (own : String) (y : MethodName) (R : Room) (nL : Nat) (Sx : Nat → (Nat → Int32) → Prop) (V : zVT) (X : zXT) : Prop := ∀ (pc : Nat) (ls : List (Nat × Value)) (st : List Value) (h : zH) (n k g : Nat) (i : Fin 4) (j : Nat) (x : Int32), (decode cc pc = .ok (.iload_n i, 1)) → (ls[j]? = some ((i : Nat), .int x)) → (V (pc + 1) ls (.int x :: st) h n k g) → V pc ls (st) h n k g
def zl_iload (l : Launch) (D : va_G) (base : Nat) (cc : ByteArray) (own : String) (y : MethodName) (R : Room) (nL : Nat) (Sx : Nat → (Nat → Int32) → Prop) (V : zVT) (X : zXT) : Prop := ∀ (pc : Nat) (ls : List (Nat × Value)) (st : List Value) (h : zH) (n k g : Nat) (i : Nat) (j : Nat) (x : Int32), (decode cc pc = .ok (.iload i, 2)) → (ls[j]? = some (i, .int x)) → (V (pc + 2) ls (.int x :: st) h n k g) → V pc ls (st) h n k g
def zl_istore_n (l : Launch) (D : va_G) (base : Nat) (cc : ByteArray) (own : String) (y : MethodName) (R : Room) (nL : Nat) (Sx : Nat → (Nat → Int32) → Prop) (V : zVT) (X : zXT) : Prop := ∀ (pc : Nat) (ls : List (Nat × Value)) (st : List Value) (h : zH) (n k g : Nat) (i : Fin 4) (x : Int32) (ls2 : List (Nat × Value)), (decode cc pc = .ok (.istore_n i, 1)) → ((i : Nat) < nL) → (zset1 ls (i : Nat) (.int x) = ls2) → (V (pc + 1) ls2 st h n k g) → V pc ls (.int x :: st) h n k g
def zl_istore (l : Launch) (D : va_G) (base : Nat) (cc : ByteArray) (own : String) (y : MethodName) (R : Room) (nL : Nat) (Sx : Nat → (Nat → Int32) → Prop) (V : zVT) (X : zXT) : Prop := ∀ (pc : Nat) (ls : List (Nat × Value)) (st : List Value) (h : zH) (n k g : Nat) (i : Nat) (x : Int32) (ls2 : List (Nat × Value)), (decode cc pc = .ok (.istore i, 2)) → ((i : Nat) < nL) → (zset1 ls (i : Nat) (.int x) = ls2) → (V (pc + 2) ls2 st h n k g) → V pc ls (.int x :: st) h n k g
def zl_lload_n (l : Launch) (D : va_G) (base : Nat) (cc : ByteArray) (own : String) (y : MethodName) (R : Room) (nL : Nat) (Sx : Nat → (Nat → Int32) → Prop) (V : zVT) (X : zXT) : Prop := ∀ (pc : Nat) (ls : List (Nat × Value)) (st : List Value) (h : zH) (n k g : Nat) (i : Fin 4) (j : Nat) (x : Int64), (decode cc pc = .ok (.lload_n i, 1)) → (ls[j]? = some ((i : Nat), .long x)) → (V (pc + 1) ls (.long x :: st) h n k g) → V pc ls (st) h n k g
def zl_lload (l : Launch) (D : va_G) (base : Nat) (cc : ByteArray) (own : String) (y : MethodName) (R : Room) (nL : Nat) (Sx : Nat → (Nat → Int32) → Prop) (V : zVT) (X : zXT) : Prop := ∀ (pc : Nat) (ls : List (Nat × Value)) (st : List Value) (h : zH) (n k g : Nat) (i : Nat) (j : Nat) (x : Int64), (decode cc pc = .ok (.lload i, 2)) → (ls[j]? = some (i, .long x)) → (V (pc + 2) ls (.long x :: st) h n k g) → V pc ls (st) h n k g
def zl_lstore_n (l : Launch) (D : va_G) (base : Nat) (cc : ByteArray) (own : String) (y : MethodName) (R : Room) (nL : Nat) (Sx : Nat → (Nat → Int32) → Prop) (V : zVT) (X : zXT) : Prop := ∀ (pc : Nat) (ls : List (Nat × Value)) (st : List Value) (h : zH) (n k g : Nat) (i : Fin 4) (x : Int64) (ls2 : List (Nat × Value)), (decode cc pc = .ok (.lstore_n i, 1)) → ((i : Nat) + 1 < nL) → (zset2 ls (i : Nat) (.long x) = ls2) → (V (pc + 1) ls2 st h n k g) → V pc ls (.long x :: st) h n k g
def zl_lstore (l : Launch) (D : va_G) (base : Nat) (cc : ByteArray) (own : String) (y : MethodName) (R : Room) (nL : Nat) (Sx : Nat → (Nat → Int32) → Prop) (V : zVT) (X : zXT) : Prop := ∀ (pc : Nat) (ls : List (Nat × Value)) (st : List Value) (h : zH) (n k g : Nat) (i : Nat) (x : Int64) (ls2 : List (Nat × Value)), (decode cc pc = .ok (.lstore i, 2)) → ((i : Nat) + 1 < nL) → (zset2 ls (i : Nat) (.long x) = ls2) → (V (pc + 2) ls2 st h n k g) → V pc ls (.long x :: st) h n k g
def zl_aload_n (l : Launch) (D : va_G) (base : Nat) (cc : ByteArray) (own : String) (y : MethodName) (R : Room) (nL : Nat) (Sx : Nat → (Nat → Int32) → Prop) (V : zVT) (X : zXT) : Prop := ∀ (pc : Nat) (ls : List (Nat × Value)) (st : List Value) (h : zH) (n k g : Nat) (i : Fin 4) (j : Nat) (x : Nat), (decode cc pc = .ok (.aload_n i, 1)) → (ls[j]? = some ((i : Nat), .ref x)) → (V (pc + 1) ls (.ref x :: st) h n k g) → V pc ls (st) h n k g
def zl_aload (l : Launch) (D : va_G) (base : Nat) (cc : ByteArray) (own : String) (y : MethodName) (R : Room) (nL : Nat) (Sx : Nat → (Nat → Int32) → Prop) (V : zVT) (X : zXT) : Prop := ∀ (pc : Nat) (ls : List (Nat × Value)) (st : List Value) (h : zH) (n k g : Nat) (i : Nat) (j : Nat) (x : Nat), (decode cc pc = .ok (.aload i, 2)) → (ls[j]? = some (i, .ref x)) → (V (pc + 2) ls (.ref x :: st) h n k g) → V pc ls (st) h n k g
def zl_astore_n (l : Launch) (D : va_G) (base : Nat) (cc : ByteArray) (own : String) (y : MethodName) (R : Room) (nL : Nat) (Sx : Nat → (Nat → Int32) → Prop) (V : zVT) (X : zXT) : Prop := ∀ (pc : Nat) (ls : List (Nat × Value)) (st : List Value) (h : zH) (n k g : Nat) (i : Fin 4) (x : Nat) (ls2 : List (Nat × Value)), (decode cc pc = .ok (.astore_n i, 1)) → ((i : Nat) < nL) → (zset1 ls (i : Nat) (.ref x) = ls2) → (V (pc + 1) ls2 st h n k g) → V pc ls (.ref x :: st) h n k g
def zl_astore (l : Launch) (D : va_G) (base : Nat) (cc : ByteArray) (own : String) (y : MethodName) (R : Room) (nL : Nat) (Sx : Nat → (Nat → Int32) → Prop) (V : zVT) (X : zXT) : Prop := ∀ (pc : Nat) (ls : List (Nat × Value)) (st : List Value) (h : zH) (n k g : Nat) (i : Nat) (x : Nat) (ls2 : List (Nat × Value)), (decode cc pc = .ok (.astore i, 2)) → ((i : Nat) < nL) → (zset1 ls (i : Nat) (.ref x) = ls2) → (V (pc + 2) ls2 st h n k g) → V pc ls (.ref x :: st) h n k g
def zl_dload_n (l : Launch) (D : va_G) (base : Nat) (cc : ByteArray) (own : String) (y : MethodName) (R : Room) (nL : Nat) (Sx : Nat → (Nat → Int32) → Prop) (V : zVT) (X : zXT) : Prop := ∀ (pc : Nat) (ls : List (Nat × Value)) (st : List Value) (h : zH) (n k g : Nat) (i : Fin 4) (j : Nat) (x : UInt64), (decode cc pc = .ok (.dload_n i, 1)) → (ls[j]? = some ((i : Nat), .double x)) → (V (pc + 1) ls (.double x :: st) h n k g) → V pc ls (st) h n k g
def zl_dload (l : Launch) (D : va_G) (base : Nat) (cc : ByteArray) (own : String) (y : MethodName) (R : Room) (nL : Nat) (Sx : Nat → (Nat → Int32) → Prop) (V : zVT) (X : zXT) : Prop := ∀ (pc : Nat) (ls : List (Nat × Value)) (st : List Value) (h : zH) (n k g : Nat) (i : Nat) (j : Nat) (x : UInt64), (decode cc pc = .ok (.dload i, 2)) → (ls[j]? = some (i, .double x)) → (V (pc + 2) ls (.double x :: st) h n k g) → V pc ls (st) h n k g
def zl_dstore_n (l : Launch) (D : va_G) (base : Nat) (cc : ByteArray) (own : String) (y : MethodName) (R : Room) (nL : Nat) (Sx : Nat → (Nat → Int32) → Prop) (V : zVT) (X : zXT) : Prop := ∀ (pc : Nat) (ls : List (Nat × Value)) (st : List Value) (h : zH) (n k g : Nat) (i : Fin 4) (x : UInt64) (ls2 : List (Nat × Value)), (decode cc pc = .ok (.dstore_n i, 1)) → ((i : Nat) + 1 < nL) → (zset2 ls (i : Nat) (.double x) = ls2) → (V (pc + 1) ls2 st h n k g) → V pc ls (.double x :: st) h n k g
def zl_dstore (l : Launch) (D : va_G) (base : Nat) (cc : ByteArray) (own : String) (y : MethodName) (R : Room) (nL : Nat) (Sx : Nat → (Nat → Int32) → Prop) (V : zVT) (X : zXT) : Prop := ∀ (pc : Nat) (ls : List (Nat × Value)) (st : List Value) (h : zH) (n k g : Nat) (i : Nat) (x : UInt64) (ls2 : List (Nat × Value)), (decode cc pc = .ok (.dstore i, 2)) → ((i : Nat) + 1 < nL) → (zset2 ls (i : Nat) (.double x) = ls2) → (V (pc + 2) ls2 st h n k g) → V pc ls (.double x :: st) h n k g
def zl_aload_nN (l : Launch) (D : va_G) (base : Nat) (cc : ByteArray) (own : String) (y : MethodName) (R : Room) (nL : Nat) (Sx : Nat → (Nat → Int32) → Prop) (V : zVT) (X : zXT) : Prop := ∀ (pc : Nat) (ls : List (Nat × Value)) (st : List Value) (h : zH) (n k g : Nat) (i : Fin 4) (j : Nat), (decode cc pc = .ok (.aload_n i, 1)) → (ls[j]? = some ((i : Nat), .null)) → (V (pc + 1) ls (.null :: st) h n k g) → V pc ls (st) h n k g
def zl_astore_nN (l : Launch) (D : va_G) (base : Nat) (cc : ByteArray) (own : String) (y : MethodName) (R : Room) (nL : Nat) (Sx : Nat → (Nat → Int32) → Prop) (V : zVT) (X : zXT) : Prop := ∀ (pc : Nat) (ls : List (Nat × Value)) (st : List Value) (h : zH) (n k g : Nat) (i : Fin 4) (ls2 : List (Nat × Value)), (decode cc pc = .ok (.astore_n i, 1)) → ((i : Nat) < nL) → (zset1 ls (i : Nat) .null = ls2) → (V (pc + 1) ls2 st h n k g) → V pc ls (.null :: st) h n k g
def zl_iinc (l : Launch) (D : va_G) (base : Nat) (cc : ByteArray) (own : String) (y : MethodName) (R : Room) (nL : Nat) (Sx : Nat → (Nat → Int32) → Prop) (V : zVT) (X : zXT) : Prop := ∀ (pc : Nat) (ls : List (Nat × Value)) (st : List Value) (h : zH) (n k g : Nat) (i : Nat) (j : Nat) (w : Int) (x v : Int32) (ls2 : List (Nat × Value)), (decode cc pc = .ok (.iinc i w, 3)) → (ls[j]? = some (i, .int x)) → (x + Int32.ofInt w = v) → (i < nL) → (zset1 ls i (.int v) = ls2) → (V (pc + 3) ls2 st h n k g) → V pc ls (st) h n k g
def zl_iadd (l : Launch) (D : va_G) (base : Nat) (cc : ByteArray) (own : String) (y : MethodName) (R : Room) (nL : Nat) (Sx : Nat → (Nat → Int32) → Prop) (V : zVT) (X : zXT) : Prop := ∀ (pc : Nat) (ls : List (Nat × Value)) (st : List Value) (h : zH) (n k g : Nat) (x y : Int32), (decode cc pc = .ok (.iadd, 1)) → (V (pc + 1) ls (.int (x + y) :: st) h n k g) → V pc ls (.int y :: .int x :: st) h n k g
def zl_isub (l : Launch) (D : va_G) (base : Nat) (cc : ByteArray) (own : String) (y : MethodName) (R : Room) (nL : Nat) (Sx : Nat → (Nat → Int32) → Prop) (V : zVT) (X : zXT) : Prop := ∀ (pc : Nat) (ls : List (Nat × Value)) (st : List Value) (h : zH) (n k g : Nat) (x y : Int32), (decode cc pc = .ok (.isub, 1)) → (V (pc + 1) ls (.int (x - y) :: st) h n k g) → V pc ls (.int y :: .int x :: st) h n k g
def zl_imul (l : Launch) (D : va_G) (base : Nat) (cc : ByteArray) (own : String) (y : MethodName) (R : Room) (nL : Nat) (Sx : Nat → (Nat → Int32) → Prop) (V : zVT) (X : zXT) : Prop := ∀ (pc : Nat) (ls : List (Nat × Value)) (st : List Value) (h : zH) (n k g : Nat) (x y : Int32), (decode cc pc = .ok (.imul, 1)) → (V (pc + 1) ls (.int (x * y) :: st) h n k g) → V pc ls (.int y :: .int x :: st) h n k g
def zl_iand (l : Launch) (D : va_G) (base : Nat) (cc : ByteArray) (own : String) (y : MethodName) (R : Room) (nL : Nat) (Sx : Nat → (Nat → Int32) → Prop) (V : zVT) (X : zXT) : Prop := ∀ (pc : Nat) (ls : List (Nat × Value)) (st : List Value) (h : zH) (n k g : Nat) (x y : Int32), (decode cc pc = .ok (.iand, 1)) → (V (pc + 1) ls (.int (x &&& y) :: st) h n k g) → V pc ls (.int y :: .int x :: st) h n k g
def zl_idiv (l : Launch) (D : va_G) (base : Nat) (cc : ByteArray) (own : String) (y : MethodName) (R : Room) (nL : Nat) (Sx : Nat → (Nat → Int32) → Prop) (V : zVT) (X : zXT) : Prop := ∀ (pc : Nat) (ls : List (Nat × Value)) (st : List Value) (h : zH) (n k g : Nat) (x y : Int32), (decode cc pc = .ok (.idiv, 1)) → (¬ y = 0) → (V (pc + 1) ls (.int (x / y) :: st) h n k g) → V pc ls (.int y :: .int x :: st) h n k g
def zl_irem (l : Launch) (D : va_G) (base : Nat) (cc : ByteArray) (own : String) (y : MethodName) (R : Room) (nL : Nat) (Sx : Nat → (Nat → Int32) → Prop) (V : zVT) (X : zXT) : Prop := ∀ (pc : Nat) (ls : List (Nat × Value)) (st : List Value) (h : zH) (n k g : Nat) (x y : Int32), (decode cc pc = .ok (.irem, 1)) → (¬ y = 0) → (V (pc + 1) ls (.int (x - x / y * y) :: st) h n k g) → V pc ls (.int y :: .int x :: st) h n k g
def zl_ladd (l : Launch) (D : va_G) (base : Nat) (cc : ByteArray) (own : String) (y : MethodName) (R : Room) (nL : Nat) (Sx : Nat → (Nat → Int32) → Prop) (V : zVT) (X : zXT) : Prop := ∀ (pc : Nat) (ls : List (Nat × Value)) (st : List Value) (h : zH) (n k g : Nat) (x y : Int64), (decode cc pc = .ok (.ladd, 1)) → (V (pc + 1) ls (.long (x + y) :: st) h n k g) → V pc ls (.long y :: .long x :: st) h n k g
def zl_lsub (l : Launch) (D : va_G) (base : Nat) (cc : ByteArray) (own : String) (y : MethodName) (R : Room) (nL : Nat) (Sx : Nat → (Nat → Int32) → Prop) (V : zVT) (X : zXT) : Prop := ∀ (pc : Nat) (ls : List (Nat × Value)) (st : List Value) (h : zH) (n k g : Nat) (x y : Int64), (decode cc pc = .ok (.lsub, 1)) → (V (pc + 1) ls (.long (x - y) :: st) h n k g) → V pc ls (.long y :: .long x :: st) h n k g
def zl_lmul (l : Launch) (D : va_G) (base : Nat) (cc : ByteArray) (own : String) (y : MethodName) (R : Room) (nL : Nat) (Sx : Nat → (Nat → Int32) → Prop) (V : zVT) (X : zXT) : Prop := ∀ (pc : Nat) (ls : List (Nat × Value)) (st : List Value) (h : zH) (n k g : Nat) (x y : Int64), (decode cc pc = .ok (.lmul, 1)) → (V (pc + 1) ls (.long (x * y) :: st) h n k g) → V pc ls (.long y :: .long x :: st) h n k g
def zl_ldiv (l : Launch) (D : va_G) (base : Nat) (cc : ByteArray) (own : String) (y : MethodName) (R : Room) (nL : Nat) (Sx : Nat → (Nat → Int32) → Prop) (V : zVT) (X : zXT) : Prop := ∀ (pc : Nat) (ls : List (Nat × Value)) (st : List Value) (h : zH) (n k g : Nat) (x y : Int64), (decode cc pc = .ok (.ldiv, 1)) → (¬ y = 0) → (V (pc + 1) ls (.long (x / y) :: st) h n k g) → V pc ls (.long y :: .long x :: st) h n k g
def zl_lrem (l : Launch) (D : va_G) (base : Nat) (cc : ByteArray) (own : String) (y : MethodName) (R : Room) (nL : Nat) (Sx : Nat → (Nat → Int32) → Prop) (V : zVT) (X : zXT) : Prop := ∀ (pc : Nat) (ls : List (Nat × Value)) (st : List Value) (h : zH) (n k g : Nat) (x y : Int64), (decode cc pc = .ok (.lrem, 1)) → (¬ y = 0) → (V (pc + 1) ls (.long (x - x / y * y) :: st) h n k g) → V pc ls (.long y :: .long x :: st) h n k g
def zl_i2l (l : Launch) (D : va_G) (base : Nat) (cc : ByteArray) (own : String) (y : MethodName) (R : Room) (nL : Nat) (Sx : Nat → (Nat → Int32) → Prop) (V : zVT) (X : zXT) : Prop := ∀ (pc : Nat) (ls : List (Nat × Value)) (st : List Value) (h : zH) (n k g : Nat) (x : Int32) (v : Int64), (decode cc pc = .ok (.i2l, 1)) → (x.toInt64 = v) → (V (pc + 1) ls (.long v :: st) h n k g) → V pc ls (.int x :: st) h n k g
def zl_l2i (l : Launch) (D : va_G) (base : Nat) (cc : ByteArray) (own : String) (y : MethodName) (R : Room) (nL : Nat) (Sx : Nat → (Nat → Int32) → Prop) (V : zVT) (X : zXT) : Prop := ∀ (pc : Nat) (ls : List (Nat × Value)) (st : List Value) (h : zH) (n k g : Nat) (x : Int64) (v : Int32), (decode cc pc = .ok (.l2i, 1)) → (x.toInt32 = v) → (V (pc + 1) ls (.int v :: st) h n k g) → V pc ls (.long x :: st) h n k g
def zl_i2d (l : Launch) (D : va_G) (base : Nat) (cc : ByteArray) (own : String) (y : MethodName) (R : Room) (nL : Nat) (Sx : Nat → (Nat → Int32) → Prop) (V : zVT) (X : zXT) : Prop := ∀ (pc : Nat) (ls : List (Nat × Value)) (st : List Value) (h : zH) (n k g : Nat) (x : Int32), (decode cc pc = .ok (.i2d, 1)) → (V (pc + 1) ls (.double (FP.i2d x) :: st) h n k g) → V pc ls (.int x :: st) h n k g
def zl_d2l (l : Launch) (D : va_G) (base : Nat) (cc : ByteArray) (own : String) (y : MethodName) (R : Room) (nL : Nat) (Sx : Nat → (Nat → Int32) → Prop) (V : zVT) (X : zXT) : Prop := ∀ (pc : Nat) (ls : List (Nat × Value)) (st : List Value) (h : zH) (n k g : Nat) (x : UInt64), (decode cc pc = .ok (.d2l, 1)) → (V (pc + 1) ls (.long (FP.d2l x) :: st) h n k g) → V pc ls (.double x :: st) h n k g
def zl_ddiv (l : Launch) (D : va_G) (base : Nat) (cc : ByteArray) (own : String) (y : MethodName) (R : Room) (nL : Nat) (Sx : Nat → (Nat → Int32) → Prop) (V : zVT) (X : zXT) : Prop := ∀ (pc : Nat) (ls : List (Nat × Value)) (st : List Value) (h : zH) (n k g : Nat) (x y : UInt64), (decode cc pc = .ok (.ddiv, 1)) → (vf_n64 (FP.ddiv x y)) → (V (pc + 1) ls (.double (FP.ddiv x y) :: st) h n k g) → V pc ls (.double y :: .double x :: st) h n k g
def zl_dmul (l : Launch) (D : va_G) (base : Nat) (cc : ByteArray) (own : String) (y : MethodName) (R : Room) (nL : Nat) (Sx : Nat → (Nat → Int32) → Prop) (V : zVT) (X : zXT) : Prop := ∀ (pc : Nat) (ls : List (Nat × Value)) (st : List Value) (h : zH) (n k g : Nat) (x y : UInt64), (decode cc pc = .ok (.dmul, 1)) → (vf_n64 (FP.dmul x y)) → (V (pc + 1) ls (.double (FP.dmul x y) :: st) h n k g) → V pc ls (.double y :: .double x :: st) h n k g
def zl_dsub (l : Launch) (D : va_G) (base : Nat) (cc : ByteArray) (own : String) (y : MethodName) (R : Room) (nL : Nat) (Sx : Nat → (Nat → Int32) → Prop) (V : zVT) (X : zXT) : Prop := ∀ (pc : Nat) (ls : List (Nat × Value)) (st : List Value) (h : zH) (n k g : Nat) (x y : UInt64), (decode cc pc = .ok (.dsub, 1)) → (vf_n64 (FP.dsub x y)) → (V (pc + 1) ls (.double (FP.dsub x y) :: st) h n k g) → V pc ls (.double y :: .double x :: st) h n k g
def zl_dcmp (l : Launch) (D : va_G) (base : Nat) (cc : ByteArray) (own : String) (y : MethodName) (R : Room) (nL : Nat) (Sx : Nat → (Nat → Int32) → Prop) (V : zVT) (X : zXT) : Prop := ∀ (pc : Nat) (ls : List (Nat × Value)) (st : List Value) (h : zH) (n k g : Nat) (x y : UInt64) (op : CmpOp), (decode cc pc = .ok (.dcmp op, 1)) → (V (pc + 1) ls (.int (Op.cmpValue (FP.dcmp x y) op) :: st) h n k g) → V pc ls (.double y :: .double x :: st) h n k g
def zl_lcmp (l : Launch) (D : va_G) (base : Nat) (cc : ByteArray) (own : String) (y : MethodName) (R : Room) (nL : Nat) (Sx : Nat → (Nat → Int32) → Prop) (V : zVT) (X : zXT) : Prop := ∀ (pc : Nat) (ls : List (Nat × Value)) (st : List Value) (h : zH) (n k g : Nat) (x y : Int64), (decode cc pc = .ok (.lcmp, 1)) → (V (pc + 1) ls (.int (lg_cmp x y) :: st) h n k g) → V pc ls (.long y :: .long x :: st) h n k g
def zl_dup (l : Launch) (D : va_G) (base : Nat) (cc : ByteArray) (own : String) (y : MethodName) (R : Room) (nL : Nat) (Sx : Nat → (Nat → Int32) → Prop) (V : zVT) (X : zXT) : Prop := ∀ (pc : Nat) (ls : List (Nat × Value)) (st : List Value) (h : zH) (n k g : Nat) (v : Value), (decode cc pc = .ok (.dup, 1)) → (v.category = 1) → (V (pc + 1) ls (v :: v :: st) h n k g) → V pc ls (v :: st) h n k g
def zl_dup2 (l : Launch) (D : va_G) (base : Nat) (cc : ByteArray) (own : String) (y : MethodName) (R : Room) (nL : Nat) (Sx : Nat → (Nat → Int32) → Prop) (V : zVT) (X : zXT) : Prop := ∀ (pc : Nat) (ls : List (Nat × Value)) (st : List Value) (h : zH) (n k g : Nat) (v w : Value), (decode cc pc = .ok (.dup2, 1)) → (v.category = 1) → (w.category = 1) → (V (pc + 1) ls (v :: w :: v :: w :: st) h n k g) → V pc ls (v :: w :: st) h n k g
def zl_pop (l : Launch) (D : va_G) (base : Nat) (cc : ByteArray) (own : String) (y : MethodName) (R : Room) (nL : Nat) (Sx : Nat → (Nat → Int32) → Prop) (V : zVT) (X : zXT) : Prop := ∀ (pc : Nat) (ls : List (Nat × Value)) (st : List Value) (h : zH) (n k g : Nat) (v : Value), (decode cc pc = .ok (.pop, 1)) → (v.category = 1) → (V (pc + 1) ls (st) h n k g) → V pc ls (v :: st) h n k g
def zl_goto (l : Launch) (D : va_G) (base : Nat) (cc : ByteArray) (own : String) (y : MethodName) (R : Room) (nL : Nat) (Sx : Nat → (Nat → Int32) → Prop) (V : zVT) (X : zXT) : Prop := ∀ (pc : Nat) (ls : List (Nat × Value)) (st : List Value) (h : zH) (n k g : Nat) (off : Int) (tgt : Nat), (decode cc pc = .ok (.goto off, 3)) → ((pc : Int) + off = (tgt : Int)) → (V tgt ls st h n k g) → V pc ls (st) h n k g
def zl_if_eq_t (l : Launch) (D : va_G) (base : Nat) (cc : ByteArray) (own : String) (y : MethodName) (R : Room) (nL : Nat) (Sx : Nat → (Nat → Int32) → Prop) (V : zVT) (X : zXT) : Prop := ∀ (pc : Nat) (ls : List (Nat × Value)) (st : List Value) (h : zH) (n k g : Nat) (x : Int32) (off : Int) (tgt : Nat), (decode cc pc = .ok (.ifCond .eq off, 3)) → ((pc : Int) + off = (tgt : Int)) → (x = 0) → (V tgt ls st h n k g) → V pc ls (.int x :: st) h n k g
def zl_if_eq_f (l : Launch) (D : va_G) (base : Nat) (cc : ByteArray) (own : String) (y : MethodName) (R : Room) (nL : Nat) (Sx : Nat → (Nat → Int32) → Prop) (V : zVT) (X : zXT) : Prop := ∀ (pc : Nat) (ls : List (Nat × Value)) (st : List Value) (h : zH) (n k g : Nat) (x : Int32) (off : Int) (tgt : Nat), (decode cc pc = .ok (.ifCond .eq off, 3)) → ((pc : Int) + off = (tgt : Int)) → (¬ x = 0) → (V (pc + 3) ls st h n k g) → V pc ls (.int x :: st) h n k g
def zl_icmp_eq_t (l : Launch) (D : va_G) (base : Nat) (cc : ByteArray) (own : String) (y : MethodName) (R : Room) (nL : Nat) (Sx : Nat → (Nat → Int32) → Prop) (V : zVT) (X : zXT) : Prop := ∀ (pc : Nat) (ls : List (Nat × Value)) (st : List Value) (h : zH) (n k g : Nat) (x y : Int32) (off : Int) (tgt : Nat), (decode cc pc = .ok (.if_icmp .eq off, 3)) → ((pc : Int) + off = (tgt : Int)) → (x = y) → (V tgt ls st h n k g) → V pc ls (.int y :: .int x :: st) h n k g
def zl_icmp_eq_f (l : Launch) (D : va_G) (base : Nat) (cc : ByteArray) (own : String) (y : MethodName) (R : Room) (nL : Nat) (Sx : Nat → (Nat → Int32) → Prop) (V : zVT) (X : zXT) : Prop := ∀ (pc : Nat) (ls : List (Nat × Value)) (st : List Value) (h : zH) (n k g : Nat) (x y : Int32) (off : Int) (tgt : Nat), (decode cc pc = .ok (.if_icmp .eq off, 3)) → ((pc : Int) + off = (tgt : Int)) → (¬ x = y) → (V (pc + 3) ls st h n k g) → V pc ls (.int y :: .int x :: st) h n k g
def zl_if_ne_t (l : Launch) (D : va_G) (base : Nat) (cc : ByteArray) (own : String) (y : MethodName) (R : Room) (nL : Nat) (Sx : Nat → (Nat → Int32) → Prop) (V : zVT) (X : zXT) : Prop := ∀ (pc : Nat) (ls : List (Nat × Value)) (st : List Value) (h : zH) (n k g : Nat) (x : Int32) (off : Int) (tgt : Nat), (decode cc pc = .ok (.ifCond .ne off, 3)) → ((pc : Int) + off = (tgt : Int)) → (¬ x = 0) → (V tgt ls st h n k g) → V pc ls (.int x :: st) h n k g
def zl_if_ne_f (l : Launch) (D : va_G) (base : Nat) (cc : ByteArray) (own : String) (y : MethodName) (R : Room) (nL : Nat) (Sx : Nat → (Nat → Int32) → Prop) (V : zVT) (X : zXT) : Prop := ∀ (pc : Nat) (ls : List (Nat × Value)) (st : List Value) (h : zH) (n k g : Nat) (x : Int32) (off : Int) (tgt : Nat), (decode cc pc = .ok (.ifCond .ne off, 3)) → ((pc : Int) + off = (tgt : Int)) → (x = 0) → (V (pc + 3) ls st h n k g) → V pc ls (.int x :: st) h n k g
def zl_icmp_ne_t (l : Launch) (D : va_G) (base : Nat) (cc : ByteArray) (own : String) (y : MethodName) (R : Room) (nL : Nat) (Sx : Nat → (Nat → Int32) → Prop) (V : zVT) (X : zXT) : Prop := ∀ (pc : Nat) (ls : List (Nat × Value)) (st : List Value) (h : zH) (n k g : Nat) (x y : Int32) (off : Int) (tgt : Nat), (decode cc pc = .ok (.if_icmp .ne off, 3)) → ((pc : Int) + off = (tgt : Int)) → (¬ x = y) → (V tgt ls st h n k g) → V pc ls (.int y :: .int x :: st) h n k g
def zl_icmp_ne_f (l : Launch) (D : va_G) (base : Nat) (cc : ByteArray) (own : String) (y : MethodName) (R : Room) (nL : Nat) (Sx : Nat → (Nat → Int32) → Prop) (V : zVT) (X : zXT) : Prop := ∀ (pc : Nat) (ls : List (Nat × Value)) (st : List Value) (h : zH) (n k g : Nat) (x y : Int32) (off : Int) (tgt : Nat), (decode cc pc = .ok (.if_icmp .ne off, 3)) → ((pc : Int) + off = (tgt : Int)) → (x = y) → (V (pc + 3) ls st h n k g) → V pc ls (.int y :: .int x :: st) h n k g
def zl_if_lt_t (l : Launch) (D : va_G) (base : Nat) (cc : ByteArray) (own : String) (y : MethodName) (R : Room) (nL : Nat) (Sx : Nat → (Nat → Int32) → Prop) (V : zVT) (X : zXT) : Prop := ∀ (pc : Nat) (ls : List (Nat × Value)) (st : List Value) (h : zH) (n k g : Nat) (x : Int32) (off : Int) (tgt : Nat), (decode cc pc = .ok (.ifCond .lt off, 3)) → ((pc : Int) + off = (tgt : Int)) → (x < 0) → (V tgt ls st h n k g) → V pc ls (.int x :: st) h n k g
def zl_if_lt_f (l : Launch) (D : va_G) (base : Nat) (cc : ByteArray) (own : String) (y : MethodName) (R : Room) (nL : Nat) (Sx : Nat → (Nat → Int32) → Prop) (V : zVT) (X : zXT) : Prop := ∀ (pc : Nat) (ls : List (Nat × Value)) (st : List Value) (h : zH) (n k g : Nat) (x : Int32) (off : Int) (tgt : Nat), (decode cc pc = .ok (.ifCond .lt off, 3)) → ((pc : Int) + off = (tgt : Int)) → (¬ x < 0) → (V (pc + 3) ls st h n k g) → V pc ls (.int x :: st) h n k g
def zl_icmp_lt_t (l : Launch) (D : va_G) (base : Nat) (cc : ByteArray) (own : String) (y : MethodName) (R : Room) (nL : Nat) (Sx : Nat → (Nat → Int32) → Prop) (V : zVT) (X : zXT) : Prop := ∀ (pc : Nat) (ls : List (Nat × Value)) (st : List Value) (h : zH) (n k g : Nat) (x y : Int32) (off : Int) (tgt : Nat), (decode cc pc = .ok (.if_icmp .lt off, 3)) → ((pc : Int) + off = (tgt : Int)) → (x < y) → (V tgt ls st h n k g) → V pc ls (.int y :: .int x :: st) h n k g
def zl_icmp_lt_f (l : Launch) (D : va_G) (base : Nat) (cc : ByteArray) (own : String) (y : MethodName) (R : Room) (nL : Nat) (Sx : Nat → (Nat → Int32) → Prop) (V : zVT) (X : zXT) : Prop := ∀ (pc : Nat) (ls : List (Nat × Value)) (st : List Value) (h : zH) (n k g : Nat) (x y : Int32) (off : Int) (tgt : Nat), (decode cc pc = .ok (.if_icmp .lt off, 3)) → ((pc : Int) + off = (tgt : Int)) → (¬ x < y) → (V (pc + 3) ls st h n k g) → V pc ls (.int y :: .int x :: st) h n k g
def zl_if_ge_t (l : Launch) (D : va_G) (base : Nat) (cc : ByteArray) (own : String) (y : MethodName) (R : Room) (nL : Nat) (Sx : Nat → (Nat → Int32) → Prop) (V : zVT) (X : zXT) : Prop := ∀ (pc : Nat) (ls : List (Nat × Value)) (st : List Value) (h : zH) (n k g : Nat) (x : Int32) (off : Int) (tgt : Nat), (decode cc pc = .ok (.ifCond .ge off, 3)) → ((pc : Int) + off = (tgt : Int)) → (0 ≤ x) → (V tgt ls st h n k g) → V pc ls (.int x :: st) h n k g
def zl_if_ge_f (l : Launch) (D : va_G) (base : Nat) (cc : ByteArray) (own : String) (y : MethodName) (R : Room) (nL : Nat) (Sx : Nat → (Nat → Int32) → Prop) (V : zVT) (X : zXT) : Prop := ∀ (pc : Nat) (ls : List (Nat × Value)) (st : List Value) (h : zH) (n k g : Nat) (x : Int32) (off : Int) (tgt : Nat), (decode cc pc = .ok (.ifCond .ge off, 3)) → ((pc : Int) + off = (tgt : Int)) → (¬ 0 ≤ x) → (V (pc + 3) ls st h n k g) → V pc ls (.int x :: st) h n k g
def zl_icmp_ge_t (l : Launch) (D : va_G) (base : Nat) (cc : ByteArray) (own : String) (y : MethodName) (R : Room) (nL : Nat) (Sx : Nat → (Nat → Int32) → Prop) (V : zVT) (X : zXT) : Prop := ∀ (pc : Nat) (ls : List (Nat × Value)) (st : List Value) (h : zH) (n k g : Nat) (x y : Int32) (off : Int) (tgt : Nat), (decode cc pc = .ok (.if_icmp .ge off, 3)) → ((pc : Int) + off = (tgt : Int)) → (y ≤ x) → (V tgt ls st h n k g) → V pc ls (.int y :: .int x :: st) h n k g
def zl_icmp_ge_f (l : Launch) (D : va_G) (base : Nat) (cc : ByteArray) (own : String) (y : MethodName) (R : Room) (nL : Nat) (Sx : Nat → (Nat → Int32) → Prop) (V : zVT) (X : zXT) : Prop := ∀ (pc : Nat) (ls : List (Nat × Value)) (st : List Value) (h : zH) (n k g : Nat) (x y : Int32) (off : Int) (tgt : Nat), (decode cc pc = .ok (.if_icmp .ge off, 3)) → ((pc : Int) + off = (tgt : Int)) → (¬ y ≤ x) → (V (pc + 3) ls st h n k g) → V pc ls (.int y :: .int x :: st) h n k g
def zl_if_gt_t (l : Launch) (D : va_G) (base : Nat) (cc : ByteArray) (own : String) (y : MethodName) (R : Room) (nL : Nat) (Sx : Nat → (Nat → Int32) → Prop) (V : zVT) (X : zXT) : Prop := ∀ (pc : Nat) (ls : List (Nat × Value)) (st : List Value) (h : zH) (n k g : Nat) (x : Int32) (off : Int) (tgt : Nat), (decode cc pc = .ok (.ifCond .gt off, 3)) → ((pc : Int) + off = (tgt : Int)) → (0 < x) → (V tgt ls st h n k g) → V pc ls (.int x :: st) h n k g
def zl_if_gt_f (l : Launch) (D : va_G) (base : Nat) (cc : ByteArray) (own : String) (y : MethodName) (R : Room) (nL : Nat) (Sx : Nat → (Nat → Int32) → Prop) (V : zVT) (X : zXT) : Prop := ∀ (pc : Nat) (ls : List (Nat × Value)) (st : List Value) (h : zH) (n k g : Nat) (x : Int32) (off : Int) (tgt : Nat), (decode cc pc = .ok (.ifCond .gt off, 3)) → ((pc : Int) + off = (tgt : Int)) → (¬ 0 < x) → (V (pc + 3) ls st h n k g) → V pc ls (.int x :: st) h n k g
def zl_icmp_gt_t (l : Launch) (D : va_G) (base : Nat) (cc : ByteArray) (own : String) (y : MethodName) (R : Room) (nL : Nat) (Sx : Nat → (Nat → Int32) → Prop) (V : zVT) (X : zXT) : Prop := ∀ (pc : Nat) (ls : List (Nat × Value)) (st : List Value) (h : zH) (n k g : Nat) (x y : Int32) (off : Int) (tgt : Nat), (decode cc pc = .ok (.if_icmp .gt off, 3)) → ((pc : Int) + off = (tgt : Int)) → (y < x) → (V tgt ls st h n k g) → V pc ls (.int y :: .int x :: st) h n k g
def zl_icmp_gt_f (l : Launch) (D : va_G) (base : Nat) (cc : ByteArray) (own : String) (y : MethodName) (R : Room) (nL : Nat) (Sx : Nat → (Nat → Int32) → Prop) (V : zVT) (X : zXT) : Prop := ∀ (pc : Nat) (ls : List (Nat × Value)) (st : List Value) (h : zH) (n k g : Nat) (x y : Int32) (off : Int) (tgt : Nat), (decode cc pc = .ok (.if_icmp .gt off, 3)) → ((pc : Int) + off = (tgt : Int)) → (¬ y < x) → (V (pc + 3) ls st h n k g) → V pc ls (.int y :: .int x :: st) h n k g
def zl_if_le_t (l : Launch) (D : va_G) (base : Nat) (cc : ByteArray) (own : String) (y : MethodName) (R : Room) (nL : Nat) (Sx : Nat → (Nat → Int32) → Prop) (V : zVT) (X : zXT) : Prop := ∀ (pc : Nat) (ls : List (Nat × Value)) (st : List Value) (h : zH) (n k g : Nat) (x : Int32) (off : Int) (tgt : Nat), (decode cc pc = .ok (.ifCond .le off, 3)) → ((pc : Int) + off = (tgt : Int)) → (x ≤ 0) → (V tgt ls st h n k g) → V pc ls (.int x :: st) h n k g
def zl_if_le_f (l : Launch) (D : va_G) (base : Nat) (cc : ByteArray) (own : String) (y : MethodName) (R : Room) (nL : Nat) (Sx : Nat → (Nat → Int32) → Prop) (V : zVT) (X : zXT) : Prop := ∀ (pc : Nat) (ls : List (Nat × Value)) (st : List Value) (h : zH) (n k g : Nat) (x : Int32) (off : Int) (tgt : Nat), (decode cc pc = .ok (.ifCond .le off, 3)) → ((pc : Int) + off = (tgt : Int)) → (¬ x ≤ 0) → (V (pc + 3) ls st h n k g) → V pc ls (.int x :: st) h n k g
def zl_icmp_le_t (l : Launch) (D : va_G) (base : Nat) (cc : ByteArray) (own : String) (y : MethodName) (R : Room) (nL : Nat) (Sx : Nat → (Nat → Int32) → Prop) (V : zVT) (X : zXT) : Prop := ∀ (pc : Nat) (ls : List (Nat × Value)) (st : List Value) (h : zH) (n k g : Nat) (x y : Int32) (off : Int) (tgt : Nat), (decode cc pc = .ok (.if_icmp .le off, 3)) → ((pc : Int) + off = (tgt : Int)) → (x ≤ y) → (V tgt ls st h n k g) → V pc ls (.int y :: .int x :: st) h n k g
def zl_icmp_le_f (l : Launch) (D : va_G) (base : Nat) (cc : ByteArray) (own : String) (y : MethodName) (R : Room) (nL : Nat) (Sx : Nat → (Nat → Int32) → Prop) (V : zVT) (X : zXT) : Prop := ∀ (pc : Nat) (ls : List (Nat × Value)) (st : List Value) (h : zH) (n k g : Nat) (x y : Int32) (off : Int) (tgt : Nat), (decode cc pc = .ok (.if_icmp .le off, 3)) → ((pc : Int) + off = (tgt : Int)) → (¬ x ≤ y) → (V (pc + 3) ls st h n k g) → V pc ls (.int y :: .int x :: st) h n k g
def zl_ifnonnull (l : Launch) (D : va_G) (base : Nat) (cc : ByteArray) (own : String) (y : MethodName) (R : Room) (nL : Nat) (Sx : Nat → (Nat → Int32) → Prop) (V : zVT) (X : zXT) : Prop := ∀ (pc : Nat) (ls : List (Nat × Value)) (st : List Value) (h : zH) (n k g : Nat) (x : Nat) (off : Int) (tgt : Nat), (decode cc pc = .ok (.ifnonnull off, 3)) → ((pc : Int) + off = (tgt : Int)) → (V tgt ls st h n k g) → V pc ls (.ref x :: st) h n k g
def zl_ifnonnullN (l : Launch) (D : va_G) (base : Nat) (cc : ByteArray) (own : String) (y : MethodName) (R : Room) (nL : Nat) (Sx : Nat → (Nat → Int32) → Prop) (V : zVT) (X : zXT) : Prop := ∀ (pc : Nat) (ls : List (Nat × Value)) (st : List Value) (h : zH) (n k g : Nat) (off : Int), (decode cc pc = .ok (.ifnonnull off, 3)) → (V (pc + 3) ls st h n k g) → V pc ls (.null :: st) h n k g
def zl_lookup (l : Launch) (D : va_G) (base : Nat) (cc : ByteArray) (own : String) (y : MethodName) (R : Room) (nL : Nat) (Sx : Nat → (Nat → Int32) → Prop) (V : zVT) (X : zXT) : Prop := ∀ (pc : Nat) (ls : List (Nat × Value)) (st : List Value) (h : zH) (n k g : Nat) (dflt : Int) (ps : Array (Int × Int)) (len : Nat) (x : Int32) (off : Int) (tgt : Nat), (decode cc pc = .ok (.lookupswitch dflt ps, len)) → ((ps.toList.zip (ps.toList.drop 1)).all (fun (a, next) => a.1 < next.1) = true) → (Op.lookupswitch.offset ps.toList dflt x.toInt = off) → ((pc : Int) + off = (tgt : Int)) → (V tgt ls st h n k g) → V pc ls (.int x :: st) h n k g
def zl_tblin (l : Launch) (D : va_G) (base : Nat) (cc : ByteArray) (own : String) (y : MethodName) (R : Room) (nL : Nat) (Sx : Nat → (Nat → Int32) → Prop) (V : zVT) (X : zXT) : Prop := ∀ (pc : Nat) (ls : List (Nat × Value)) (st : List Value) (h : zH) (n k g : Nat) (dflt lo hi : Int) (offs : Array Int) (len : Nat) (x : Int32) (off : Int) (tgt : Nat), (decode cc pc = .ok (.tableswitch dflt lo hi offs, len)) → (¬ x.toInt < lo) → (¬ hi < x.toInt) → (offs[(x.toInt - lo).toNat]? = some off) → ((pc : Int) + off = (tgt : Int)) → (V tgt ls st h n k g) → V pc ls (.int x :: st) h n k g
def zl_tblout (l : Launch) (D : va_G) (base : Nat) (cc : ByteArray) (own : String) (y : MethodName) (R : Room) (nL : Nat) (Sx : Nat → (Nat → Int32) → Prop) (V : zVT) (X : zXT) : Prop := ∀ (pc : Nat) (ls : List (Nat × Value)) (st : List Value) (h : zH) (n k g : Nat) (dflt lo hi : Int) (offs : Array Int) (len : Nat) (x : Int32) (tgt : Nat), (decode cc pc = .ok (.tableswitch dflt lo hi offs, len)) → (x.toInt < lo ∨ hi < x.toInt) → ((pc : Int) + dflt = (tgt : Int)) → (V tgt ls st h n k g) → V pc ls (.int x :: st) h n k g
def zl_getf (l : Launch) (D : va_G) (base : Nat) (cc : ByteArray) (own : String) (y : MethodName) (R : Room) (nL : Nat) (Sx : Nat → (Nat → Int32) → Prop) (V : zVT) (X : zXT) : Prop := ∀ (pc : Nat) (ls : List (Nat × Value)) (st : List Value) (h : zH) (n k g : Nat) (i : Nat) (ci j a : Nat) (fs : List Value) (v : Value), (decode cc pc = .ok (.getfield i, 3)) → (zFL own i ci j) → (h a = some (.inr (ci, fs))) → (fs[j]? = some v) → (V (pc + 3) ls (v :: st) h n k g) → V pc ls (.ref a :: st) h n k g
def zl_putf (l : Launch) (D : va_G) (base : Nat) (cc : ByteArray) (own : String) (y : MethodName) (R : Room) (nL : Nat) (Sx : Nat → (Nat → Int32) → Prop) (V : zVT) (X : zXT) : Prop := ∀ (pc : Nat) (ls : List (Nat × Value)) (st : List Value) (h : zH) (n k g : Nat) (i : Nat) (ci j a : Nat) (fs : List Value) (v : Value) (ty : FieldType) (h2 : zH), (decode cc pc = .ok (.putfield i, 3)) → (zFP own i ci j false ty) → (h a = some (.inr (ci, fs))) → (j < fs.length) → (narrow ty v = v) → (fits ty v = true) → (zput h a (some (.inr (ci, fs.set j v))) = h2) → (V (pc + 3) ls st h2 n k g) → V pc ls (v :: .ref a :: st) h n k g
def zl_putF (l : Launch) (D : va_G) (base : Nat) (cc : ByteArray) (own : String) (y : MethodName) (R : Room) (nL : Nat) (Sx : Nat → (Nat → Int32) → Prop) (V : zVT) (X : zXT) : Prop := ∀ (pc : Nat) (ls : List (Nat × Value)) (st : List Value) (h : zH) (n k g : Nat) (i : Nat) (ci j a : Nat) (fs : List Value) (v : Value) (ty : FieldType) (h2 : zH), (decode cc pc = .ok (.putfield i, 3)) → (y.name = "<init>") → (zFP own i ci j true ty) → (h a = some (.inr (ci, fs))) → (j < fs.length) → (narrow ty v = v) → (fits ty v = true) → (zput h a (some (.inr (ci, fs.set j v))) = h2) → (V (pc + 3) ls st h2 n k g) → V pc ls (v :: .ref a :: st) h n k g
def zl_iald (l : Launch) (D : va_G) (base : Nat) (cc : ByteArray) (own : String) (y : MethodName) (R : Room) (nL : Nat) (Sx : Nat → (Nat → Int32) → Prop) (V : zVT) (X : zXT) : Prop := ∀ (pc : Nat) (ls : List (Nat × Value)) (st : List Value) (h : zH) (n k g : Nat) (a N : Nat) (f : Nat → Int32) (i : Int32) (j : Nat), (decode cc pc = .ok (.iaload, 1)) → (h a = some (.inl (N, .inl f))) → (zix i j) → (j < N) → (V (pc + 1) ls (.int (f j) :: st) h n k g) → V pc ls (.int i :: .ref a :: st) h n k g
def zl_lald (l : Launch) (D : va_G) (base : Nat) (cc : ByteArray) (own : String) (y : MethodName) (R : Room) (nL : Nat) (Sx : Nat → (Nat → Int32) → Prop) (V : zVT) (X : zXT) : Prop := ∀ (pc : Nat) (ls : List (Nat × Value)) (st : List Value) (h : zH) (n k g : Nat) (a N : Nat) (f : Nat → Int64) (i : Int32) (j : Nat), (decode cc pc = .ok (.laload, 1)) → (h a = some (.inl (N, .inr (.inl f)))) → (zix i j) → (j < N) → (V (pc + 1) ls (.long (f j) :: st) h n k g) → V pc ls (.int i :: .ref a :: st) h n k g
def zl_aald (l : Launch) (D : va_G) (base : Nat) (cc : ByteArray) (own : String) (y : MethodName) (R : Room) (nL : Nat) (Sx : Nat → (Nat → Int32) → Prop) (V : zVT) (X : zXT) : Prop := ∀ (pc : Nat) (ls : List (Nat × Value)) (st : List Value) (h : zH) (n k g : Nat) (a N : Nat) (f : Nat → Option Nat) (i : Int32) (j : Nat), (decode cc pc = .ok (.aaload, 1)) → (h a = some (.inl (N, .inr (.inr (.inr (.inr f)))))) → (zix i j) → (j < N) → (V (pc + 1) ls (va_rf (f j) :: st) h n k g) → V pc ls (.int i :: .ref a :: st) h n k g
def zl_iast (l : Launch) (D : va_G) (base : Nat) (cc : ByteArray) (own : String) (y : MethodName) (R : Room) (nL : Nat) (Sx : Nat → (Nat → Int32) → Prop) (V : zVT) (X : zXT) : Prop := ∀ (pc : Nat) (ls : List (Nat × Value)) (st : List Value) (h : zH) (n k g : Nat) (a N : Nat) (f : Nat → Int32) (i x : Int32) (j : Nat) (h2 : zH), (decode cc pc = .ok (.iastore, 1)) → (h a = some (.inl (N, .inl f))) → (zix i j) → (j < N) → (zput h a (some (.inl (N, .inl (va_up f j x)))) = h2) → (V (pc + 1) ls st h2 n k g) → V pc ls (.int x :: .int i :: .ref a :: st) h n k g
def zl_last (l : Launch) (D : va_G) (base : Nat) (cc : ByteArray) (own : String) (y : MethodName) (R : Room) (nL : Nat) (Sx : Nat → (Nat → Int32) → Prop) (V : zVT) (X : zXT) : Prop := ∀ (pc : Nat) (ls : List (Nat × Value)) (st : List Value) (h : zH) (n k g : Nat) (a N : Nat) (f : Nat → Int64) (i : Int32) (x : Int64) (j : Nat) (h2 : zH), (decode cc pc = .ok (.lastore, 1)) → (h a = some (.inl (N, .inr (.inl f)))) → (zix i j) → (j < N) → (zput h a (some (.inl (N, .inr (.inl (va_up f j x))))) = h2) → (V (pc + 1) ls st h2 n k g) → V pc ls (.long x :: .int i :: .ref a :: st) h n k g
def zl_aast (l : Launch) (D : va_G) (base : Nat) (cc : ByteArray) (own : String) (y : MethodName) (R : Room) (nL : Nat) (Sx : Nat → (Nat → Int32) → Prop) (V : zVT) (X : zXT) : Prop := ∀ (pc : Nat) (ls : List (Nat × Value)) (st : List Value) (h : zH) (n k g : Nat) (a b N : Nat) (f : Nat → Option Nat) (fs : List Value) (i : Int32) (j : Nat) (h2 : zH), (decode cc pc = .ok (.aastore, 1)) → (h a = some (.inl (N, .inr (.inr (.inr (.inr f)))))) → (h b = some (.inr (0, fs))) → (zix i j) → (j < N) → (zput h a (some (.inl (N, .inr (.inr (.inr (.inr (va_up f j (some b)))))))) = h2) → (V (pc + 1) ls st h2 n k g) → V pc ls (.ref b :: .int i :: .ref a :: st) h n k g
def zl_alen (l : Launch) (D : va_G) (base : Nat) (cc : ByteArray) (own : String) (y : MethodName) (R : Room) (nL : Nat) (Sx : Nat → (Nat → Int32) → Prop) (V : zVT) (X : zXT) : Prop := ∀ (pc : Nat) (ls : List (Nat × Value)) (st : List Value) (h : zH) (n k g : Nat) (a N : Nat) (f : Nat → Int32) (v : Int32), (decode cc pc = .ok (.arraylength, 1)) → (h a = some (.inl (N, .inl f))) → (Int32.ofNat N = v) → (V (pc + 1) ls (.int v :: st) h n k g) → V pc ls (.ref a :: st) h n k g
def zl_newi (l : Launch) (D : va_G) (base : Nat) (cc : ByteArray) (own : String) (y : MethodName) (R : Room) (nL : Nat) (Sx : Nat → (Nat → Int32) → Prop) (V : zVT) (X : zXT) : Prop := ∀ (pc : Nat) (ls : List (Nat × Value)) (st : List Value) (h : zH) (n k g : Nat) (i : Int32) (N : Nat) (h2 : zH), (decode cc pc = .ok (.newarray .int, 2)) → (zix i N) → (N ≤ 100000) → (k + 1 ≤ R.cells) → (g + N ≤ R.slots) → (zput h n (some (.inl (N, .inl (fun _ => 0)))) = h2) → (V (pc + 2) ls (.ref n :: st) h2 (n + 1) (k + 1) (g + N)) → V pc ls (.int i :: st) h n k g
def zl_newl (l : Launch) (D : va_G) (base : Nat) (cc : ByteArray) (own : String) (y : MethodName) (R : Room) (nL : Nat) (Sx : Nat → (Nat → Int32) → Prop) (V : zVT) (X : zXT) : Prop := ∀ (pc : Nat) (ls : List (Nat × Value)) (st : List Value) (h : zH) (n k g : Nat) (i : Int32) (N : Nat) (h2 : zH), (decode cc pc = .ok (.newarray .long, 2)) → (zix i N) → (N ≤ 100000) → (k + 1 ≤ R.cells) → (g + N ≤ R.slots) → (zput h n (some (.inl (N, .inr (.inl (fun _ => 0))))) = h2) → (V (pc + 2) ls (.ref n :: st) h2 (n + 1) (k + 1) (g + N)) → V pc ls (.int i :: st) h n k g
def zl_newq (l : Launch) (D : va_G) (base : Nat) (cc : ByteArray) (own : String) (y : MethodName) (R : Room) (nL : Nat) (Sx : Nat → (Nat → Int32) → Prop) (V : zVT) (X : zXT) : Prop := ∀ (pc : Nat) (ls : List (Nat × Value)) (st : List Value) (h : zH) (n k g : Nat) (x : Nat) (i : Int32) (N : Nat) (h2 : zH), (decode cc pc = .ok (.anewarray x, 3)) → (Cond.classLink own x RX0 ∈ zGA) → (zix i N) → (N ≤ 100000) → (k + 1 ≤ R.cells) → (g + N ≤ R.slots) → (zput h n (some (.inl (N, .inr (.inr (.inr (.inr (fun _ => none))))))) = h2) → (V (pc + 3) ls (.ref n :: st) h2 (n + 1) (k + 1) (g + N)) → V pc ls (.int i :: st) h n k g
def zl_new (l : Launch) (D : va_G) (base : Nat) (cc : ByteArray) (own : String) (y : MethodName) (R : Room) (nL : Nat) (Sx : Nat → (Nat → Int32) → Prop) (V : zVT) (X : zXT) : Prop := ∀ (pc : Nat) (ls : List (Nat × Value)) (st : List Value) (h : zH) (n k g : Nat) (x ci N : Nat) (fs : List Value) (h2 : zH), (decode cc pc = .ok (.new x, 3)) → (zNW own x ci fs N) → (k + 1 ≤ R.cells) → (g + N ≤ R.slots) → (zput h n (some (.inr (ci, fs))) = h2) → (V (pc + 3) ls (.ref n :: st) h2 (n + 1) (k + 1) (g + N)) → V pc ls (st) h n k g
def zl_getsK (l : Launch) (D : va_G) (base : Nat) (cc : ByteArray) (own : String) (y : MethodName) (R : Room) (nL : Nat) (Sx : Nat → (Nat → Int32) → Prop) (V : zVT) (X : zXT) : Prop := ∀ (pc : Nat) (ls : List (Nat × Value)) (st : List Value) (h : zH) (n k g : Nat) (x : Nat), (decode cc pc = .ok (.getstatic x, 3)) → (Cond.fieldLinkNest own x RX4 "FIRST_KINDS" "[I" RX4 ∈ zNG) → (∀ t, Sx t zfk → V (pc + 3) ls (.ref t :: st) h n k g) → V pc ls (st) h n k g
def zl_getsP (l : Launch) (D : va_G) (base : Nat) (cc : ByteArray) (own : String) (y : MethodName) (R : Room) (nL : Nat) (Sx : Nat → (Nat → Int32) → Prop) (V : zVT) (X : zXT) : Prop := ∀ (pc : Nat) (ls : List (Nat × Value)) (st : List Value) (h : zH) (n k g : Nat) (x : Nat), (decode cc pc = .ok (.getstatic x, 3)) → (Cond.fieldLinkNest own x RX4 "FIRST_PAYS" "[I" RX4 ∈ zNG) → (∀ t, Sx t zfp → V (pc + 3) ls (.ref t :: st) h n k g) → V pc ls (st) h n k g
def zl_copyx (l : Launch) (D : va_G) (base : Nat) (cc : ByteArray) (own : String) (y : MethodName) (R : Room) (nL : Nat) (Sx : Nat → (Nat → Int32) → Prop) (V : zVT) (X : zXT) : Prop := ∀ (pc : Nat) (ls : List (Nat × Value)) (st : List Value) (h : zH) (n k g : Nat) (x a t N : Nat) (f f0 : Nat → Int32) (h2 : zH), (decode cc pc = .ok (.invokestatic x, 3)) → (Cond.methodLink own x arraycopyName ∈ zGA) → (Sx t f) → (h a = some (.inl (N, .inl f0))) → (7 ≤ N) → (1 ≤ R.frames) → (64 ≤ R.locals) → (zcat st ≤ 8) → (zput h a (some (.inl (N, .inl (va_cpy f f0 0 0 7)))) = h2) → (V (pc + 3) ls st h2 n k g) → V pc ls (.int 7 :: .int 0 :: .ref a :: .int 0 :: .ref t :: st) h n k g
def zl_copyi (l : Launch) (D : va_G) (base : Nat) (cc : ByteArray) (own : String) (y : MethodName) (R : Room) (nL : Nat) (Sx : Nat → (Nat → Int32) → Prop) (V : zVT) (X : zXT) : Prop := ∀ (pc : Nat) (ls : List (Nat × Value)) (st : List Value) (h : zH) (n k g : Nat) (x a b N M j : Nat) (c : Int32) (f f0 : Nat → Int32) (h2 : zH), (decode cc pc = .ok (.invokestatic x, 3)) → (Cond.methodLink own x arraycopyName ∈ zGA) → (h b = some (.inl (M, .inl f))) → (h a = some (.inl (N, .inl f0))) → (zix c j) → (j ≤ M) → (j ≤ N) → (1 ≤ R.frames) → (64 ≤ R.locals) → (zcat st ≤ 8) → (zput h a (some (.inl (N, .inl (va_cpy f f0 0 0 j)))) = h2) → (V (pc + 3) ls st h2 n k g) → V pc ls (.int c :: .int 0 :: .ref a :: .int 0 :: .ref b :: st) h n k g
def zl_d2raw (l : Launch) (D : va_G) (base : Nat) (cc : ByteArray) (own : String) (y : MethodName) (R : Room) (nL : Nat) (Sx : Nat → (Nat → Int32) → Prop) (V : zVT) (X : zXT) : Prop := ∀ (pc : Nat) (ls : List (Nat × Value)) (st : List Value) (h : zH) (n k g : Nat) (x : Nat) (v : UInt64), (decode cc pc = .ok (.invokestatic x, 3)) → (Cond.methodLink own x ⟨"java/lang/Double", "doubleToRawLongBits", "(D)J"⟩ ∈ zGA) → (1 ≤ R.frames) → (64 ≤ R.locals) → (zcat st ≤ 8) → (V (pc + 3) ls (.long v.toInt64 :: st) h n k g) → V pc ls (.double v :: st) h n k g
def zl_objInit (l : Launch) (D : va_G) (base : Nat) (cc : ByteArray) (own : String) (y : MethodName) (R : Room) (nL : Nat) (Sx : Nat → (Nat → Int32) → Prop) (V : zVT) (X : zXT) : Prop := ∀ (pc : Nat) (ls : List (Nat × Value)) (st : List Value) (h : zH) (n k g : Nat) (x a : Nat), (decode cc pc = .ok (.invokespecial x, 3)) → (Cond.methodLink own x Lib.objectInit ∈ zGA) → (1 ≤ R.frames) → (64 ≤ R.locals) → (zcat st ≤ 8) → (V (pc + 3) ls st h n k g) → V pc ls (.ref a :: st) h n k g
def zl_callV (l : Launch) (D : va_G) (base : Nat) (cc : ByteArray) (own : String) (y : MethodName) (R : Room) (nL : Nat) (Sx : Nat → (Nat → Int32) → Prop) (V : zVT) (X : zXT) : Prop := ∀ (pc : Nat) (ls : List (Nat × Value)) (st : List Value) (h : zH) (n k g : Nat) (x na dd2 mc ms maxL : Nat) (y2 : MethodName) (bytes : ByteArray) (ret : Option FieldType) (P : zO → zH → Nat → Prop) (rest : List Value) (b ci : Nat) (fs : List Value) (As : List Value), (decode cc pc = .ok (.invokevirtual x, 3)) → (zCt l D base dd2 y2 (.code y2 bytes maxL ret) (.ref b :: As) h n mc ms P) → (zMY y2 bytes maxL ret na) → (zLV own x y2) → (h b = some (.inr (ci, fs))) → ((vwCl[ci]?).map (fun q => q.1) = some y2.cls) → (As.length = na) → (st = As.reverse ++ .ref b :: rest) → (dd2 + 1 ≤ R.frames) → (64 * (dd2 + 1) ≤ R.locals) → (zcat rest ≤ 8) → (k + mc ≤ R.cells) → (g + ms ≤ R.slots) → (∀ v h2 n2, n ≤ n2 → P (.inl v) h2 n2 → V (pc + 3) ls (v.toList ++ rest) h2 n2 (k + mc) (g + ms)) → (∀ E h2 n2, n ≤ n2 → P (.inr E) h2 n2 → X pc ls rest h2 n2 (k + mc) (g + ms) E) → V pc ls (st) h n k g
def zl_callS (l : Launch) (D : va_G) (base : Nat) (cc : ByteArray) (own : String) (y : MethodName) (R : Room) (nL : Nat) (Sx : Nat → (Nat → Int32) → Prop) (V : zVT) (X : zXT) : Prop := ∀ (pc : Nat) (ls : List (Nat × Value)) (st : List Value) (h : zH) (n k g : Nat) (x na dd2 mc ms maxL : Nat) (y2 : MethodName) (bytes : ByteArray) (ret : Option FieldType) (P : zO → zH → Nat → Prop) (rest : List Value) (As : List Value), (decode cc pc = .ok (.invokestatic x, 3)) → (zCt l D base dd2 y2 (.code y2 bytes maxL ret) As h n mc ms P) → (zMY y2 bytes maxL ret na) → (zLS own x y2) → (As.length = na) → (st = As.reverse ++ rest) → (dd2 + 1 ≤ R.frames) → (64 * (dd2 + 1) ≤ R.locals) → (zcat rest ≤ 8) → (k + mc ≤ R.cells) → (g + ms ≤ R.slots) → (∀ v h2 n2, n ≤ n2 → P (.inl v) h2 n2 → V (pc + 3) ls (v.toList ++ rest) h2 n2 (k + mc) (g + ms)) → (∀ E h2 n2, n ≤ n2 → P (.inr E) h2 n2 → X pc ls rest h2 n2 (k + mc) (g + ms) E) → V pc ls (st) h n k g
def zl_callSH (l : Launch) (D : va_G) (base : Nat) (cc : ByteArray) (own : String) (y : MethodName) (R : Room) (nL : Nat) (Sx : Nat → (Nat → Int32) → Prop) (V : zVT) (X : zXT) : Prop := ∀ (pc : Nat) (ls : List (Nat × Value)) (st : List Value) (h : zH) (n k g : Nat) (x na dd2 mc ms maxL : Nat) (y2 : MethodName) (bytes : ByteArray) (ret : Option FieldType) (P : zO → zH → Nat → Prop) (rest : List Value) (hh : List (Nat × Nat × Nat × Nat)) (As : List Value), (decode cc pc = .ok (.invokestatic x, 3)) → (zCt l D base dd2 y2 (.codeWith y2 bytes maxL ret hh) As h n mc ms P) → (zMH y2 bytes maxL ret hh na) → (zLS own x y2) → (As.length = na) → (st = As.reverse ++ rest) → (dd2 + 1 ≤ R.frames) → (64 * (dd2 + 1) ≤ R.locals) → (zcat rest ≤ 8) → (k + mc ≤ R.cells) → (g + ms ≤ R.slots) → (∀ v h2 n2, n ≤ n2 → P (.inl v) h2 n2 → V (pc + 3) ls (v.toList ++ rest) h2 n2 (k + mc) (g + ms)) → (∀ E h2 n2, n ≤ n2 → P (.inr E) h2 n2 → X pc ls rest h2 n2 (k + mc) (g + ms) E) → V pc ls (st) h n k g
def zl_callSN (l : Launch) (D : va_G) (base : Nat) (cc : ByteArray) (own : String) (y : MethodName) (R : Room) (nL : Nat) (Sx : Nat → (Nat → Int32) → Prop) (V : zVT) (X : zXT) : Prop := ∀ (pc : Nat) (ls : List (Nat × Value)) (st : List Value) (h : zH) (n k g : Nat) (x na dd2 mc ms maxL : Nat) (y2 : MethodName) (bytes : ByteArray) (ret : Option FieldType) (P : zO → zH → Nat → Prop) (rest : List Value) (host : String) (As : List Value), (decode cc pc = .ok (.invokestatic x, 3)) → (zCt l D base dd2 y2 (.code y2 bytes maxL ret) As h n mc ms P) → (zMY y2 bytes maxL ret na) → (zLSN own x y2 host) → (As.length = na) → (st = As.reverse ++ rest) → (dd2 + 1 ≤ R.frames) → (64 * (dd2 + 1) ≤ R.locals) → (zcat rest ≤ 8) → (k + mc ≤ R.cells) → (g + ms ≤ R.slots) → (∀ v h2 n2, n ≤ n2 → P (.inl v) h2 n2 → V (pc + 3) ls (v.toList ++ rest) h2 n2 (k + mc) (g + ms)) → (∀ E h2 n2, n ≤ n2 → P (.inr E) h2 n2 → X pc ls rest h2 n2 (k + mc) (g + ms) E) → V pc ls (st) h n k g
def zl_callI (l : Launch) (D : va_G) (base : Nat) (cc : ByteArray) (own : String) (y : MethodName) (R : Room) (nL : Nat) (Sx : Nat → (Nat → Int32) → Prop) (V : zVT) (X : zXT) : Prop := ∀ (pc : Nat) (ls : List (Nat × Value)) (st : List Value) (h : zH) (n k g : Nat) (x na dd2 mc ms maxL : Nat) (y2 : MethodName) (bytes : ByteArray) (P : zO → zH → Nat → Prop) (rest : List Value) (b : Nat) (As : List Value), (decode cc pc = .ok (.invokespecial x, 3)) → (zCt l D base dd2 y2 (.code y2 bytes maxL none) (.ref b :: As) h n mc ms P) → (zMY y2 bytes maxL none na) → (zLI own x y2) → (As.length = na) → (st = As.reverse ++ .ref b :: rest) → (dd2 + 1 ≤ R.frames) → (64 * (dd2 + 1) ≤ R.locals) → (zcat rest ≤ 8) → (k + mc ≤ R.cells) → (g + ms ≤ R.slots) → (∀ v h2 n2, n ≤ n2 → P (.inl v) h2 n2 → V (pc + 3) ls (v.toList ++ rest) h2 n2 (k + mc) (g + ms)) → (∀ E h2 n2, n ≤ n2 → P (.inr E) h2 n2 → X pc ls rest h2 n2 (k + mc) (g + ms) E) → V pc ls (st) h n k g
def zl_callIN (l : Launch) (D : va_G) (base : Nat) (cc : ByteArray) (own : String) (y : MethodName) (R : Room) (nL : Nat) (Sx : Nat → (Nat → Int32) → Prop) (V : zVT) (X : zXT) : Prop := ∀ (pc : Nat) (ls : List (Nat × Value)) (st : List Value) (h : zH) (n k g : Nat) (x na dd2 mc ms maxL : Nat) (y2 : MethodName) (bytes : ByteArray) (P : zO → zH → Nat → Prop) (rest : List Value) (host : String) (b : Nat) (As : List Value), (decode cc pc = .ok (.invokespecial x, 3)) → (zCt l D base dd2 y2 (.code y2 bytes maxL none) (.ref b :: As) h n mc ms P) → (zMY y2 bytes maxL none na) → (zLIN own x y2 host) → (As.length = na) → (st = As.reverse ++ .ref b :: rest) → (dd2 + 1 ≤ R.frames) → (64 * (dd2 + 1) ≤ R.locals) → (zcat rest ≤ 8) → (k + mc ≤ R.cells) → (g + ms ≤ R.slots) → (∀ v h2 n2, n ≤ n2 → P (.inl v) h2 n2 → V (pc + 3) ls (v.toList ++ rest) h2 n2 (k + mc) (g + ms)) → (∀ E h2 n2, n ≤ n2 → P (.inr E) h2 n2 → X pc ls rest h2 n2 (k + mc) (g + ms) E) → V pc ls (st) h n k g
def zLaws (l : Launch) (D : va_G) (base : Nat) (cc : ByteArray) (own : String) (y : MethodName) (R : Room) (nL : Nat) (Sx : Nat → (Nat → Int32) → Prop) (V : zVT) (X : zXT) : Prop := zl_iconst l D base cc own y R nL Sx V X ∧ zl_bipush l D base cc own y R nL Sx V X ∧ zl_sipush l D base cc own y R nL Sx V X ∧ zl_lconst l D base cc own y R nL Sx V X ∧ zl_dconst0 l D base cc own y R nL Sx V X ∧ zl_dconst1 l D base cc own y R nL Sx V X ∧ zl_null l D base cc own y R nL Sx V X ∧ zl_ldc l D base cc own y R nL Sx V X ∧ zl_ldc2 l D base cc own y R nL Sx V X ∧ zl_ldc2d l D base cc own y R nL Sx V X ∧ zl_iload_n l D base cc own y R nL Sx V X ∧ zl_iload l D base cc own y R nL Sx V X ∧ zl_istore_n l D base cc own y R nL Sx V X ∧ zl_istore l D base cc own y R nL Sx V X ∧ zl_lload_n l D base cc own y R nL Sx V X ∧ zl_lload l D base cc own y R nL Sx V X ∧ zl_lstore_n l D base cc own y R nL Sx V X ∧ zl_lstore l D base cc own y R nL Sx V X ∧ zl_aload_n l D base cc own y R nL Sx V X ∧ zl_aload l D base cc own y R nL Sx V X ∧ zl_astore_n l D base cc own y R nL Sx V X ∧ zl_astore l D base cc own y R nL Sx V X ∧ zl_dload_n l D base cc own y R nL Sx V X ∧ zl_dload l D base cc own y R nL Sx V X ∧ zl_dstore_n l D base cc own y R nL Sx V X ∧ zl_dstore l D base cc own y R nL Sx V X ∧ zl_aload_nN l D base cc own y R nL Sx V X ∧ zl_astore_nN l D base cc own y R nL Sx V X ∧ zl_iinc l D base cc own y R nL Sx V X ∧ zl_iadd l D base cc own y R nL Sx V X ∧ zl_isub l D base cc own y R nL Sx V X ∧ zl_imul l D base cc own y R nL Sx V X ∧ zl_iand l D base cc own y R nL Sx V X ∧ zl_idiv l D base cc own y R nL Sx V X ∧ zl_irem l D base cc own y R nL Sx V X ∧ zl_ladd l D base cc own y R nL Sx V X ∧ zl_lsub l D base cc own y R nL Sx V X ∧ zl_lmul l D base cc own y R nL Sx V X ∧ zl_ldiv l D base cc own y R nL Sx V X ∧ zl_lrem l D base cc own y R nL Sx V X ∧ zl_i2l l D base cc own y R nL Sx V X ∧ zl_l2i l D base cc own y R nL Sx V X ∧ zl_i2d l D base cc own y R nL Sx V X ∧ zl_d2l l D base cc own y R nL Sx V X ∧ zl_ddiv l D base cc own y R nL Sx V X ∧ zl_dmul l D base cc own y R nL Sx V X ∧ zl_dsub l D base cc own y R nL Sx V X ∧ zl_dcmp l D base cc own y R nL Sx V X ∧ zl_lcmp l D base cc own y R nL Sx V X ∧ zl_dup l D base cc own y R nL Sx V X ∧ zl_dup2 l D base cc own y R nL Sx V X ∧ zl_pop l D base cc own y R nL Sx V X ∧ zl_goto l D base cc own y R nL Sx V X ∧ zl_if_eq_t l D base cc own y R nL Sx V X ∧ zl_if_eq_f l D base cc own y R nL Sx V X ∧ zl_icmp_eq_t l D base cc own y R nL Sx V X ∧ zl_icmp_eq_f l D base cc own y R nL Sx V X ∧ zl_if_ne_t l D base cc own y R nL Sx V X ∧ zl_if_ne_f l D base cc own y R nL Sx V X ∧ zl_icmp_ne_t l D base cc own y R nL Sx V X ∧ zl_icmp_ne_f l D base cc own y R nL Sx V X ∧ zl_if_lt_t l D base cc own y R nL Sx V X ∧ zl_if_lt_f l D base cc own y R nL Sx V X ∧ zl_icmp_lt_t l D base cc own y R nL Sx V X ∧ zl_icmp_lt_f l D base cc own y R nL Sx V X ∧ zl_if_ge_t l D base cc own y R nL Sx V X ∧ zl_if_ge_f l D base cc own y R nL Sx V X ∧ zl_icmp_ge_t l D base cc own y R nL Sx V X ∧ zl_icmp_ge_f l D base cc own y R nL Sx V X ∧ zl_if_gt_t l D base cc own y R nL Sx V X ∧ zl_if_gt_f l D base cc own y R nL Sx V X ∧ zl_icmp_gt_t l D base cc own y R nL Sx V X ∧ zl_icmp_gt_f l D base cc own y R nL Sx V X ∧ zl_if_le_t l D base cc own y R nL Sx V X ∧ zl_if_le_f l D base cc own y R nL Sx V X ∧ zl_icmp_le_t l D base cc own y R nL Sx V X ∧ zl_icmp_le_f l D base cc own y R nL Sx V X ∧ zl_ifnonnull l D base cc own y R nL Sx V X ∧ zl_ifnonnullN l D base cc own y R nL Sx V X ∧ zl_lookup l D base cc own y R nL Sx V X ∧ zl_tblin l D base cc own y R nL Sx V X ∧ zl_tblout l D base cc own y R nL Sx V X ∧ zl_getf l D base cc own y R nL Sx V X ∧ zl_putf l D base cc own y R nL Sx V X ∧ zl_putF l D base cc own y R nL Sx V X ∧ zl_iald l D base cc own y R nL Sx V X ∧ zl_lald l D base cc own y R nL Sx V X ∧ zl_aald l D base cc own y R nL Sx V X ∧ zl_iast l D base cc own y R nL Sx V X ∧ zl_last l D base cc own y R nL Sx V X ∧ zl_aast l D base cc own y R nL Sx V X ∧ zl_alen l D base cc own y R nL Sx V X ∧ zl_newi l D base cc own y R nL Sx V X ∧ zl_newl l D base cc own y R nL Sx V X ∧ zl_newq l D base cc own y R nL Sx V X ∧ zl_new l D base cc own y R nL Sx V X ∧ zl_getsK l D base cc own y R nL Sx V X ∧ zl_getsP l D base cc own y R nL Sx V X ∧ zl_copyx l D base cc own y R nL Sx V X ∧ zl_copyi l D base cc own y R nL Sx V X ∧ zl_d2raw l D base cc own y R nL Sx V X ∧ zl_objInit l D base cc own y R nL Sx V X ∧ zl_callV l D base cc own y R nL Sx V X ∧ zl_callS l D base cc own y R nL Sx V X ∧ zl_callSH l D base cc own y R nL Sx V X ∧ zl_callSN l D base cc own y R nL Sx V X ∧ zl_callI l D base cc own y R nL Sx V X ∧ zl_callIN l D base cc own y R nL Sx V X
theorem zLaws.iconst {l : Launch} {D : va_G} {base : Nat} {cc : ByteArray} {own : String} {y : MethodName} {R : Room} {nL : Nat} {Sx : Nat → (Nat → Int32) → Prop} {V : zVT} {X : zXT} (L : zLaws l D base cc own y R nL Sx V X) {pc : Nat} {ls : List (Nat × Value)} {st : List Value} {h : zH} {n k g : Nat} {i : Int} {v : Int32} (d : decode cc pc = .ok (.iconst i, 1)) (e : Int32.ofInt i = v) (kk : V (pc + 1) ls (.int v :: st) h n k g) : V pc ls (st) h n k g := by
  exact L.1 pc ls st h n k g i v d e kk
theorem zLaws.bipush {l : Launch} {D : va_G} {base : Nat} {cc : ByteArray} {own : String} {y : MethodName} {R : Room} {nL : Nat} {Sx : Nat → (Nat → Int32) → Prop} {V : zVT} {X : zXT} (L : zLaws l D base cc own y R nL Sx V X) {pc : Nat} {ls : List (Nat × Value)} {st : List Value} {h : zH} {n k g : Nat} {i : Int} {v : Int32} (d : decode cc pc = .ok (.bipush i, 2)) (e : (Int8.ofInt i).toInt32 = v) (kk : V (pc + 2) ls (.int v :: st) h n k g) : V pc ls (st) h n k g := by
  exact L.2.1 pc ls st h n k g i v d e kk
theorem zLaws.sipush {l : Launch} {D : va_G} {base : Nat} {cc : ByteArray} {own : String} {y : MethodName} {R : Room} {nL : Nat} {Sx : Nat → (Nat → Int32) → Prop} {V : zVT} {X : zXT} (L : zLaws l D base cc own y R nL Sx V X) {pc : Nat} {ls : List (Nat × Value)} {st : List Value} {h : zH} {n k g : Nat} {i : Int} {v : Int32} (d : decode cc pc = .ok (.sipush i, 3)) (e : (Int16.ofInt i).toInt32 = v) (kk : V (pc + 3) ls (.int v :: st) h n k g) : V pc ls (st) h n k g := by
  exact L.2.2.1 pc ls st h n k g i v d e kk
theorem zLaws.lconst {l : Launch} {D : va_G} {base : Nat} {cc : ByteArray} {own : String} {y : MethodName} {R : Room} {nL : Nat} {Sx : Nat → (Nat → Int32) → Prop} {V : zVT} {X : zXT} (L : zLaws l D base cc own y R nL Sx V X) {pc : Nat} {ls : List (Nat × Value)} {st : List Value} {h : zH} {n k g : Nat} {i : Fin 2} {v : Int64} (d : decode cc pc = .ok (.lconst i, 1)) (e : Int64.ofNat (i : Nat) = v) (kk : V (pc + 1) ls (.long v :: st) h n k g) : V pc ls (st) h n k g := by
  exact L.2.2.2.1 pc ls st h n k g i v d e kk
theorem zLaws.dconst0 {l : Launch} {D : va_G} {base : Nat} {cc : ByteArray} {own : String} {y : MethodName} {R : Room} {nL : Nat} {Sx : Nat → (Nat → Int32) → Prop} {V : zVT} {X : zXT} (L : zLaws l D base cc own y R nL Sx V X) {pc : Nat} {ls : List (Nat × Value)} {st : List Value} {h : zH} {n k g : Nat}  (d : decode cc pc = .ok (.dconst 0, 1)) (kk : V (pc + 1) ls (.double FP.dconst0 :: st) h n k g) : V pc ls (st) h n k g := by
  exact L.2.2.2.2.1 pc ls st h n k g  d kk
theorem zLaws.dconst1 {l : Launch} {D : va_G} {base : Nat} {cc : ByteArray} {own : String} {y : MethodName} {R : Room} {nL : Nat} {Sx : Nat → (Nat → Int32) → Prop} {V : zVT} {X : zXT} (L : zLaws l D base cc own y R nL Sx V X) {pc : Nat} {ls : List (Nat × Value)} {st : List Value} {h : zH} {n k g : Nat}  (d : decode cc pc = .ok (.dconst 1, 1)) (kk : V (pc + 1) ls (.double FP.dconst1 :: st) h n k g) : V pc ls (st) h n k g := by
  exact L.2.2.2.2.2.1 pc ls st h n k g  d kk
theorem zLaws.null {l : Launch} {D : va_G} {base : Nat} {cc : ByteArray} {own : String} {y : MethodName} {R : Room} {nL : Nat} {Sx : Nat → (Nat → Int32) → Prop} {V : zVT} {X : zXT} (L : zLaws l D base cc own y R nL Sx V X) {pc : Nat} {ls : List (Nat × Value)} {st : List Value} {h : zH} {n k g : Nat}  (d : decode cc pc = .ok (.aconst_null, 1)) (kk : V (pc + 1) ls (.null :: st) h n k g) : V pc ls (st) h n k g := by
  exact L.2.2.2.2.2.2.1 pc ls st h n k g  d kk
theorem zLaws.ldc {l : Launch} {D : va_G} {base : Nat} {cc : ByteArray} {own : String} {y : MethodName} {R : Room} {nL : Nat} {Sx : Nat → (Nat → Int32) → Prop} {V : zVT} {X : zXT} (L : zLaws l D base cc own y R nL Sx V X) {pc : Nat} {ls : List (Nat × Value)} {st : List Value} {h : zH} {n k g : Nat} {i : Nat} {v : Int32} (d : decode cc pc = .ok (.ldc i, 2)) (e : Cond.constant own i v ∈ zGA) (kk : V (pc + 2) ls (.int v :: st) h n k g) : V pc ls (st) h n k g := by
  exact L.2.2.2.2.2.2.2.1 pc ls st h n k g i v d e kk
theorem zLaws.ldc2 {l : Launch} {D : va_G} {base : Nat} {cc : ByteArray} {own : String} {y : MethodName} {R : Room} {nL : Nat} {Sx : Nat → (Nat → Int32) → Prop} {V : zVT} {X : zXT} (L : zLaws l D base cc own y R nL Sx V X) {pc : Nat} {ls : List (Nat × Value)} {st : List Value} {h : zH} {n k g : Nat} {i : Nat} {v : Int64} (d : decode cc pc = .ok (.ldc2_w i, 3)) (e : Cond.constantLong own i v ∈ zGA) (kk : V (pc + 3) ls (.long v :: st) h n k g) : V pc ls (st) h n k g := by
  exact L.2.2.2.2.2.2.2.2.1 pc ls st h n k g i v d e kk
theorem zLaws.ldc2d {l : Launch} {D : va_G} {base : Nat} {cc : ByteArray} {own : String} {y : MethodName} {R : Room} {nL : Nat} {Sx : Nat → (Nat → Int32) → Prop} {V : zVT} {X : zXT} (L : zLaws l D base cc own y R nL Sx V X) {pc : Nat} {ls : List (Nat × Value)} {st : List Value} {h : zH} {n k g : Nat} {i : Nat} {v : UInt64} (d : decode cc pc = .ok (.ldc2_w i, 3)) (e : Cond.constantDouble own i v ∈ zGA) (kk : V (pc + 3) ls (.double v :: st) h n k g) : V pc ls (st) h n k g := by
  exact L.2.2.2.2.2.2.2.2.2.1 pc ls st h n k g i v d e kk
theorem zLaws.iload_n {l : Launch} {D : va_G} {base : Nat} {cc : ByteArray} {own : String} {y : MethodName} {R : Room} {nL : Nat} {Sx : Nat → (Nat → Int32) → Prop} {V : zVT} {X : zXT} (L : zLaws l D base cc own y R nL Sx V X) {pc : Nat} {ls : List (Nat × Value)} {st : List Value} {h : zH} {n k g : Nat} {i : Fin 4} (j : Nat) {x : Int32} (d : decode cc pc = .ok (.iload_n i, 1)) (e : ls[j]? = some ((i : Nat), .int x)) (kk : V (pc + 1) ls (.int x :: st) h n k g) : V pc ls (st) h n k g := by
  exact L.2.2.2.2.2.2.2.2.2.2.1 pc ls st h n k g i j x d e kk
theorem zLaws.iload {l : Launch} {D : va_G} {base : Nat} {cc : ByteArray} {own : String} {y : MethodName} {R : Room} {nL : Nat} {Sx : Nat → (Nat → Int32) → Prop} {V : zVT} {X : zXT} (L : zLaws l D base cc own y R nL Sx V X) {pc : Nat} {ls : List (Nat × Value)} {st : List Value} {h : zH} {n k g : Nat} {i : Nat} (j : Nat) {x : Int32} (d : decode cc pc = .ok (.iload i, 2)) (e : ls[j]? = some (i, .int x)) (kk : V (pc + 2) ls (.int x :: st) h n k g) : V pc ls (st) h n k g := by
  exact L.2.2.2.2.2.2.2.2.2.2.2.1 pc ls st h n k g i j x d e kk
theorem zLaws.istore_n {l : Launch} {D : va_G} {base : Nat} {cc : ByteArray} {own : String} {y : MethodName} {R : Room} {nL : Nat} {Sx : Nat → (Nat → Int32) → Prop} {V : zVT} {X : zXT} (L : zLaws l D base cc own y R nL Sx V X) {pc : Nat} {ls : List (Nat × Value)} {st : List Value} {h : zH} {n k g : Nat} {i : Fin 4} {x : Int32} {ls2 : List (Nat × Value)} (d : decode cc pc = .ok (.istore_n i, 1)) (w : (i : Nat) < nL) (e : zset1 ls (i : Nat) (.int x) = ls2) (kk : V (pc + 1) ls2 st h n k g) : V pc ls (.int x :: st) h n k g := by
  exact L.2.2.2.2.2.2.2.2.2.2.2.2.1 pc ls st h n k g i x ls2 d w e kk
theorem zLaws.istore {l : Launch} {D : va_G} {base : Nat} {cc : ByteArray} {own : String} {y : MethodName} {R : Room} {nL : Nat} {Sx : Nat → (Nat → Int32) → Prop} {V : zVT} {X : zXT} (L : zLaws l D base cc own y R nL Sx V X) {pc : Nat} {ls : List (Nat × Value)} {st : List Value} {h : zH} {n k g : Nat} {i : Nat} {x : Int32} {ls2 : List (Nat × Value)} (d : decode cc pc = .ok (.istore i, 2)) (w : (i : Nat) < nL) (e : zset1 ls (i : Nat) (.int x) = ls2) (kk : V (pc + 2) ls2 st h n k g) : V pc ls (.int x :: st) h n k g := by
  exact L.2.2.2.2.2.2.2.2.2.2.2.2.2.1 pc ls st h n k g i x ls2 d w e kk
theorem zLaws.lload_n {l : Launch} {D : va_G} {base : Nat} {cc : ByteArray} {own : String} {y : MethodName} {R : Room} {nL : Nat} {Sx : Nat → (Nat → Int32) → Prop} {V : zVT} {X : zXT} (L : zLaws l D base cc own y R nL Sx V X) {pc : Nat} {ls : List (Nat × Value)} {st : List Value} {h : zH} {n k g : Nat} {i : Fin 4} (j : Nat) {x : Int64} (d : decode cc pc = .ok (.lload_n i, 1)) (e : ls[j]? = some ((i : Nat), .long x)) (kk : V (pc + 1) ls (.long x :: st) h n k g) : V pc ls (st) h n k g := by
  exact L.2.2.2.2.2.2.2.2.2.2.2.2.2.2.1 pc ls st h n k g i j x d e kk
theorem zLaws.lload {l : Launch} {D : va_G} {base : Nat} {cc : ByteArray} {own : String} {y : MethodName} {R : Room} {nL : Nat} {Sx : Nat → (Nat → Int32) → Prop} {V : zVT} {X : zXT} (L : zLaws l D base cc own y R nL Sx V X) {pc : Nat} {ls : List (Nat × Value)} {st : List Value} {h : zH} {n k g : Nat} {i : Nat} (j : Nat) {x : Int64} (d : decode cc pc = .ok (.lload i, 2)) (e : ls[j]? = some (i, .long x)) (kk : V (pc + 2) ls (.long x :: st) h n k g) : V pc ls (st) h n k g := by
  exact L.2.2.2.2.2.2.2.2.2.2.2.2.2.2.2.1 pc ls st h n k g i j x d e kk
theorem zLaws.lstore_n {l : Launch} {D : va_G} {base : Nat} {cc : ByteArray} {own : String} {y : MethodName} {R : Room} {nL : Nat} {Sx : Nat → (Nat → Int32) → Prop} {V : zVT} {X : zXT} (L : zLaws l D base cc own y R nL Sx V X) {pc : Nat} {ls : List (Nat × Value)} {st : List Value} {h : zH} {n k g : Nat} {i : Fin 4} {x : Int64} {ls2 : List (Nat × Value)} (d : decode cc pc = .ok (.lstore_n i, 1)) (w : (i : Nat) + 1 < nL) (e : zset2 ls (i : Nat) (.long x) = ls2) (kk : V (pc + 1) ls2 st h n k g) : V pc ls (.long x :: st) h n k g := by
  exact L.2.2.2.2.2.2.2.2.2.2.2.2.2.2.2.2.1 pc ls st h n k g i x ls2 d w e kk
theorem zLaws.lstore {l : Launch} {D : va_G} {base : Nat} {cc : ByteArray} {own : String} {y : MethodName} {R : Room} {nL : Nat} {Sx : Nat → (Nat → Int32) → Prop} {V : zVT} {X : zXT} (L : zLaws l D base cc own y R nL Sx V X) {pc : Nat} {ls : List (Nat × Value)} {st : List Value} {h : zH} {n k g : Nat} {i : Nat} {x : Int64} {ls2 : List (Nat × Value)} (d : decode cc pc = .ok (.lstore i, 2)) (w : (i : Nat) + 1 < nL) (e : zset2 ls (i : Nat) (.long x) = ls2) (kk : V (pc + 2) ls2 st h n k g) : V pc ls (.long x :: st) h n k g := by
  exact L.2.2.2.2.2.2.2.2.2.2.2.2.2.2.2.2.2.1 pc ls st h n k g i x ls2 d w e kk
theorem zLaws.aload_n {l : Launch} {D : va_G} {base : Nat} {cc : ByteArray} {own : String} {y : MethodName} {R : Room} {nL : Nat} {Sx : Nat → (Nat → Int32) → Prop} {V : zVT} {X : zXT} (L : zLaws l D base cc own y R nL Sx V X) {pc : Nat} {ls : List (Nat × Value)} {st : List Value} {h : zH} {n k g : Nat} {i : Fin 4} (j : Nat) {x : Nat} (d : decode cc pc = .ok (.aload_n i, 1)) (e : ls[j]? = some ((i : Nat), .ref x)) (kk : V (pc + 1) ls (.ref x :: st) h n k g) : V pc ls (st) h n k g := by
  exact L.2.2.2.2.2.2.2.2.2.2.2.2.2.2.2.2.2.2.1 pc ls st h n k g i j x d e kk
theorem zLaws.aload {l : Launch} {D : va_G} {base : Nat} {cc : ByteArray} {own : String} {y : MethodName} {R : Room} {nL : Nat} {Sx : Nat → (Nat → Int32) → Prop} {V : zVT} {X : zXT} (L : zLaws l D base cc own y R nL Sx V X) {pc : Nat} {ls : List (Nat × Value)} {st : List Value} {h : zH} {n k g : Nat} {i : Nat} (j : Nat) {x : Nat} (d : decode cc pc = .ok (.aload i, 2)) (e : ls[j]? = some (i, .ref x)) (kk : V (pc + 2) ls (.ref x :: st) h n k g) : V pc ls (st) h n k g := by
  exact L.2.2.2.2.2.2.2.2.2.2.2.2.2.2.2.2.2.2.2.1 pc ls st h n k g i j x d e kk
theorem zLaws.astore_n {l : Launch} {D : va_G} {base : Nat} {cc : ByteArray} {own : String} {y : MethodName} {R : Room} {nL : Nat} {Sx : Nat → (Nat → Int32) → Prop} {V : zVT} {X : zXT} (L : zLaws l D base cc own y R nL Sx V X) {pc : Nat} {ls : List (Nat × Value)} {st : List Value} {h : zH} {n k g : Nat} {i : Fin 4} {x : Nat} {ls2 : List (Nat × Value)} (d : decode cc pc = .ok (.astore_n i, 1)) (w : (i : Nat) < nL) (e : zset1 ls (i : Nat) (.ref x) = ls2) (kk : V (pc + 1) ls2 st h n k g) : V pc ls (.ref x :: st) h n k g := by
  exact L.2.2.2.2.2.2.2.2.2.2.2.2.2.2.2.2.2.2.2.2.1 pc ls st h n k g i x ls2 d w e kk
theorem zLaws.astore {l : Launch} {D : va_G} {base : Nat} {cc : ByteArray} {own : String} {y : MethodName} {R : Room} {nL : Nat} {Sx : Nat → (Nat → Int32) → Prop} {V : zVT} {X : zXT} (L : zLaws l D base cc own y R nL Sx V X) {pc : Nat} {ls : List (Nat × Value)} {st : List Value} {h : zH} {n k g : Nat} {i : Nat} {x : Nat} {ls2 : List (Nat × Value)} (d : decode cc pc = .ok (.astore i, 2)) (w : (i : Nat) < nL) (e : zset1 ls (i : Nat) (.ref x) = ls2) (kk : V (pc + 2) ls2 st h n k g) : V pc ls (.ref x :: st) h n k g := by
  exact L.2.2.2.2.2.2.2.2.2.2.2.2.2.2.2.2.2.2.2.2.2.1 pc ls st h n k g i x ls2 d w e kk
theorem zLaws.dload_n {l : Launch} {D : va_G} {base : Nat} {cc : ByteArray} {own : String} {y : MethodName} {R : Room} {nL : Nat} {Sx : Nat → (Nat → Int32) → Prop} {V : zVT} {X : zXT} (L : zLaws l D base cc own y R nL Sx V X) {pc : Nat} {ls : List (Nat × Value)} {st : List Value} {h : zH} {n k g : Nat} {i : Fin 4} (j : Nat) {x : UInt64} (d : decode cc pc = .ok (.dload_n i, 1)) (e : ls[j]? = some ((i : Nat), .double x)) (kk : V (pc + 1) ls (.double x :: st) h n k g) : V pc ls (st) h n k g := by
  exact L.2.2.2.2.2.2.2.2.2.2.2.2.2.2.2.2.2.2.2.2.2.2.1 pc ls st h n k g i j x d e kk
theorem zLaws.dload {l : Launch} {D : va_G} {base : Nat} {cc : ByteArray} {own : String} {y : MethodName} {R : Room} {nL : Nat} {Sx : Nat → (Nat → Int32) → Prop} {V : zVT} {X : zXT} (L : zLaws l D base cc own y R nL Sx V X) {pc : Nat} {ls : List (Nat × Value)} {st : List Value} {h : zH} {n k g : Nat} {i : Nat} (j : Nat) {x : UInt64} (d : decode cc pc = .ok (.dload i, 2)) (e : ls[j]? = some (i, .double x)) (kk : V (pc + 2) ls (.double x :: st) h n k g) : V pc ls (st) h n k g := by
  exact L.2.2.2.2.2.2.2.2.2.2.2.2.2.2.2.2.2.2.2.2.2.2.2.1 pc ls st h n k g i j x d e kk
theorem zLaws.dstore_n {l : Launch} {D : va_G} {base : Nat} {cc : ByteArray} {own : String} {y : MethodName} {R : Room} {nL : Nat} {Sx : Nat → (Nat → Int32) → Prop} {V : zVT} {X : zXT} (L : zLaws l D base cc own y R nL Sx V X) {pc : Nat} {ls : List (Nat × Value)} {st : List Value} {h : zH} {n k g : Nat} {i : Fin 4} {x : UInt64} {ls2 : List (Nat × Value)} (d : decode cc pc = .ok (.dstore_n i, 1)) (w : (i : Nat) + 1 < nL) (e : zset2 ls (i : Nat) (.double x) = ls2) (kk : V (pc + 1) ls2 st h n k g) : V pc ls (.double x :: st) h n k g := by
  exact L.2.2.2.2.2.2.2.2.2.2.2.2.2.2.2.2.2.2.2.2.2.2.2.2.1 pc ls st h n k g i x ls2 d w e kk
theorem zLaws.dstore {l : Launch} {D : va_G} {base : Nat} {cc : ByteArray} {own : String} {y : MethodName} {R : Room} {nL : Nat} {Sx : Nat → (Nat → Int32) → Prop} {V : zVT} {X : zXT} (L : zLaws l D base cc own y R nL Sx V X) {pc : Nat} {ls : List (Nat × Value)} {st : List Value} {h : zH} {n k g : Nat} {i : Nat} {x : UInt64} {ls2 : List (Nat × Value)} (d : decode cc pc = .ok (.dstore i, 2)) (w : (i : Nat) + 1 < nL) (e : zset2 ls (i : Nat) (.double x) = ls2) (kk : V (pc + 2) ls2 st h n k g) : V pc ls (.double x :: st) h n k g := by
  exact L.2.2.2.2.2.2.2.2.2.2.2.2.2.2.2.2.2.2.2.2.2.2.2.2.2.1 pc ls st h n k g i x ls2 d w e kk
theorem zLaws.aload_nN {l : Launch} {D : va_G} {base : Nat} {cc : ByteArray} {own : String} {y : MethodName} {R : Room} {nL : Nat} {Sx : Nat → (Nat → Int32) → Prop} {V : zVT} {X : zXT} (L : zLaws l D base cc own y R nL Sx V X) {pc : Nat} {ls : List (Nat × Value)} {st : List Value} {h : zH} {n k g : Nat} {i : Fin 4} (j : Nat) (d : decode cc pc = .ok (.aload_n i, 1)) (e : ls[j]? = some ((i : Nat), .null)) (kk : V (pc + 1) ls (.null :: st) h n k g) : V pc ls (st) h n k g := by
  exact L.2.2.2.2.2.2.2.2.2.2.2.2.2.2.2.2.2.2.2.2.2.2.2.2.2.2.1 pc ls st h n k g i j d e kk
theorem zLaws.astore_nN {l : Launch} {D : va_G} {base : Nat} {cc : ByteArray} {own : String} {y : MethodName} {R : Room} {nL : Nat} {Sx : Nat → (Nat → Int32) → Prop} {V : zVT} {X : zXT} (L : zLaws l D base cc own y R nL Sx V X) {pc : Nat} {ls : List (Nat × Value)} {st : List Value} {h : zH} {n k g : Nat} {i : Fin 4} {ls2 : List (Nat × Value)} (d : decode cc pc = .ok (.astore_n i, 1)) (w : (i : Nat) < nL) (e : zset1 ls (i : Nat) .null = ls2) (kk : V (pc + 1) ls2 st h n k g) : V pc ls (.null :: st) h n k g := by
  exact L.2.2.2.2.2.2.2.2.2.2.2.2.2.2.2.2.2.2.2.2.2.2.2.2.2.2.2.1 pc ls st h n k g i ls2 d w e kk
theorem zLaws.iinc {l : Launch} {D : va_G} {base : Nat} {cc : ByteArray} {own : String} {y : MethodName} {R : Room} {nL : Nat} {Sx : Nat → (Nat → Int32) → Prop} {V : zVT} {X : zXT} (L : zLaws l D base cc own y R nL Sx V X) {pc : Nat} {ls : List (Nat × Value)} {st : List Value} {h : zH} {n k g : Nat} {i : Nat} (j : Nat) {w : Int} {x v : Int32} {ls2 : List (Nat × Value)} (d : decode cc pc = .ok (.iinc i w, 3)) (e : ls[j]? = some (i, .int x)) (hv : x + Int32.ofInt w = v) (w1 : i < nL) (e2 : zset1 ls i (.int v) = ls2) (kk : V (pc + 3) ls2 st h n k g) : V pc ls (st) h n k g := by
  exact L.2.2.2.2.2.2.2.2.2.2.2.2.2.2.2.2.2.2.2.2.2.2.2.2.2.2.2.2.1 pc ls st h n k g i j w x v ls2 d e hv w1 e2 kk
theorem zLaws.iadd {l : Launch} {D : va_G} {base : Nat} {cc : ByteArray} {own : String} {y : MethodName} {R : Room} {nL : Nat} {Sx : Nat → (Nat → Int32) → Prop} {V : zVT} {X : zXT} (L : zLaws l D base cc own y R nL Sx V X) {pc : Nat} {ls : List (Nat × Value)} {st : List Value} {h : zH} {n k g : Nat} {x y : Int32} (d : decode cc pc = .ok (.iadd, 1)) (kk : V (pc + 1) ls (.int (x + y) :: st) h n k g) : V pc ls (.int y :: .int x :: st) h n k g := by
  exact L.2.2.2.2.2.2.2.2.2.2.2.2.2.2.2.2.2.2.2.2.2.2.2.2.2.2.2.2.2.1 pc ls st h n k g x y d kk
theorem zLaws.isub {l : Launch} {D : va_G} {base : Nat} {cc : ByteArray} {own : String} {y : MethodName} {R : Room} {nL : Nat} {Sx : Nat → (Nat → Int32) → Prop} {V : zVT} {X : zXT} (L : zLaws l D base cc own y R nL Sx V X) {pc : Nat} {ls : List (Nat × Value)} {st : List Value} {h : zH} {n k g : Nat} {x y : Int32} (d : decode cc pc = .ok (.isub, 1)) (kk : V (pc + 1) ls (.int (x - y) :: st) h n k g) : V pc ls (.int y :: .int x :: st) h n k g := by
  exact L.2.2.2.2.2.2.2.2.2.2.2.2.2.2.2.2.2.2.2.2.2.2.2.2.2.2.2.2.2.2.1 pc ls st h n k g x y d kk
theorem zLaws.imul {l : Launch} {D : va_G} {base : Nat} {cc : ByteArray} {own : String} {y : MethodName} {R : Room} {nL : Nat} {Sx : Nat → (Nat → Int32) → Prop} {V : zVT} {X : zXT} (L : zLaws l D base cc own y R nL Sx V X) {pc : Nat} {ls : List (Nat × Value)} {st : List Value} {h : zH} {n k g : Nat} {x y : Int32} (d : decode cc pc = .ok (.imul, 1)) (kk : V (pc + 1) ls (.int (x * y) :: st) h n k g) : V pc ls (.int y :: .int x :: st) h n k g := by
  exact L.2.2.2.2.2.2.2.2.2.2.2.2.2.2.2.2.2.2.2.2.2.2.2.2.2.2.2.2.2.2.2.1 pc ls st h n k g x y d kk
theorem zLaws.iand {l : Launch} {D : va_G} {base : Nat} {cc : ByteArray} {own : String} {y : MethodName} {R : Room} {nL : Nat} {Sx : Nat → (Nat → Int32) → Prop} {V : zVT} {X : zXT} (L : zLaws l D base cc own y R nL Sx V X) {pc : Nat} {ls : List (Nat × Value)} {st : List Value} {h : zH} {n k g : Nat} {x y : Int32} (d : decode cc pc = .ok (.iand, 1)) (kk : V (pc + 1) ls (.int (x &&& y) :: st) h n k g) : V pc ls (.int y :: .int x :: st) h n k g := by
  exact L.2.2.2.2.2.2.2.2.2.2.2.2.2.2.2.2.2.2.2.2.2.2.2.2.2.2.2.2.2.2.2.2.1 pc ls st h n k g x y d kk
theorem zLaws.idiv {l : Launch} {D : va_G} {base : Nat} {cc : ByteArray} {own : String} {y : MethodName} {R : Room} {nL : Nat} {Sx : Nat → (Nat → Int32) → Prop} {V : zVT} {X : zXT} (L : zLaws l D base cc own y R nL Sx V X) {pc : Nat} {ls : List (Nat × Value)} {st : List Value} {h : zH} {n k g : Nat} {x y : Int32} (d : decode cc pc = .ok (.idiv, 1)) (e : ¬ y = 0) (kk : V (pc + 1) ls (.int (x / y) :: st) h n k g) : V pc ls (.int y :: .int x :: st) h n k g := by
  exact L.2.2.2.2.2.2.2.2.2.2.2.2.2.2.2.2.2.2.2.2.2.2.2.2.2.2.2.2.2.2.2.2.2.1 pc ls st h n k g x y d e kk
theorem zLaws.irem {l : Launch} {D : va_G} {base : Nat} {cc : ByteArray} {own : String} {y : MethodName} {R : Room} {nL : Nat} {Sx : Nat → (Nat → Int32) → Prop} {V : zVT} {X : zXT} (L : zLaws l D base cc own y R nL Sx V X) {pc : Nat} {ls : List (Nat × Value)} {st : List Value} {h : zH} {n k g : Nat} {x y : Int32} (d : decode cc pc = .ok (.irem, 1)) (e : ¬ y = 0) (kk : V (pc + 1) ls (.int (x - x / y * y) :: st) h n k g) : V pc ls (.int y :: .int x :: st) h n k g := by
  exact L.2.2.2.2.2.2.2.2.2.2.2.2.2.2.2.2.2.2.2.2.2.2.2.2.2.2.2.2.2.2.2.2.2.2.1 pc ls st h n k g x y d e kk
theorem zLaws.ladd {l : Launch} {D : va_G} {base : Nat} {cc : ByteArray} {own : String} {y : MethodName} {R : Room} {nL : Nat} {Sx : Nat → (Nat → Int32) → Prop} {V : zVT} {X : zXT} (L : zLaws l D base cc own y R nL Sx V X) {pc : Nat} {ls : List (Nat × Value)} {st : List Value} {h : zH} {n k g : Nat} {x y : Int64} (d : decode cc pc = .ok (.ladd, 1)) (kk : V (pc + 1) ls (.long (x + y) :: st) h n k g) : V pc ls (.long y :: .long x :: st) h n k g := by
  exact L.2.2.2.2.2.2.2.2.2.2.2.2.2.2.2.2.2.2.2.2.2.2.2.2.2.2.2.2.2.2.2.2.2.2.2.1 pc ls st h n k g x y d kk
theorem zLaws.lsub {l : Launch} {D : va_G} {base : Nat} {cc : ByteArray} {own : String} {y : MethodName} {R : Room} {nL : Nat} {Sx : Nat → (Nat → Int32) → Prop} {V : zVT} {X : zXT} (L : zLaws l D base cc own y R nL Sx V X) {pc : Nat} {ls : List (Nat × Value)} {st : List Value} {h : zH} {n k g : Nat} {x y : Int64} (d : decode cc pc = .ok (.lsub, 1)) (kk : V (pc + 1) ls (.long (x - y) :: st) h n k g) : V pc ls (.long y :: .long x :: st) h n k g := by
  exact L.2.2.2.2.2.2.2.2.2.2.2.2.2.2.2.2.2.2.2.2.2.2.2.2.2.2.2.2.2.2.2.2.2.2.2.2.1 pc ls st h n k g x y d kk
theorem zLaws.lmul {l : Launch} {D : va_G} {base : Nat} {cc : ByteArray} {own : String} {y : MethodName} {R : Room} {nL : Nat} {Sx : Nat → (Nat → Int32) → Prop} {V : zVT} {X : zXT} (L : zLaws l D base cc own y R nL Sx V X) {pc : Nat} {ls : List (Nat × Value)} {st : List Value} {h : zH} {n k g : Nat} {x y : Int64} (d : decode cc pc = .ok (.lmul, 1)) (kk : V (pc + 1) ls (.long (x * y) :: st) h n k g) : V pc ls (.long y :: .long x :: st) h n k g := by
  exact L.2.2.2.2.2.2.2.2.2.2.2.2.2.2.2.2.2.2.2.2.2.2.2.2.2.2.2.2.2.2.2.2.2.2.2.2.2.1 pc ls st h n k g x y d kk
theorem zLaws.ldiv {l : Launch} {D : va_G} {base : Nat} {cc : ByteArray} {own : String} {y : MethodName} {R : Room} {nL : Nat} {Sx : Nat → (Nat → Int32) → Prop} {V : zVT} {X : zXT} (L : zLaws l D base cc own y R nL Sx V X) {pc : Nat} {ls : List (Nat × Value)} {st : List Value} {h : zH} {n k g : Nat} {x y : Int64} (d : decode cc pc = .ok (.ldiv, 1)) (e : ¬ y = 0) (kk : V (pc + 1) ls (.long (x / y) :: st) h n k g) : V pc ls (.long y :: .long x :: st) h n k g := by
  exact L.2.2.2.2.2.2.2.2.2.2.2.2.2.2.2.2.2.2.2.2.2.2.2.2.2.2.2.2.2.2.2.2.2.2.2.2.2.2.1 pc ls st h n k g x y d e kk
theorem zLaws.lrem {l : Launch} {D : va_G} {base : Nat} {cc : ByteArray} {own : String} {y : MethodName} {R : Room} {nL : Nat} {Sx : Nat → (Nat → Int32) → Prop} {V : zVT} {X : zXT} (L : zLaws l D base cc own y R nL Sx V X) {pc : Nat} {ls : List (Nat × Value)} {st : List Value} {h : zH} {n k g : Nat} {x y : Int64} (d : decode cc pc = .ok (.lrem, 1)) (e : ¬ y = 0) (kk : V (pc + 1) ls (.long (x - x / y * y) :: st) h n k g) : V pc ls (.long y :: .long x :: st) h n k g := by
  exact L.2.2.2.2.2.2.2.2.2.2.2.2.2.2.2.2.2.2.2.2.2.2.2.2.2.2.2.2.2.2.2.2.2.2.2.2.2.2.2.1 pc ls st h n k g x y d e kk
theorem zLaws.i2l {l : Launch} {D : va_G} {base : Nat} {cc : ByteArray} {own : String} {y : MethodName} {R : Room} {nL : Nat} {Sx : Nat → (Nat → Int32) → Prop} {V : zVT} {X : zXT} (L : zLaws l D base cc own y R nL Sx V X) {pc : Nat} {ls : List (Nat × Value)} {st : List Value} {h : zH} {n k g : Nat} {x : Int32} {v : Int64} (d : decode cc pc = .ok (.i2l, 1)) (e : x.toInt64 = v) (kk : V (pc + 1) ls (.long v :: st) h n k g) : V pc ls (.int x :: st) h n k g := by
  exact L.2.2.2.2.2.2.2.2.2.2.2.2.2.2.2.2.2.2.2.2.2.2.2.2.2.2.2.2.2.2.2.2.2.2.2.2.2.2.2.2.1 pc ls st h n k g x v d e kk
theorem zLaws.l2i {l : Launch} {D : va_G} {base : Nat} {cc : ByteArray} {own : String} {y : MethodName} {R : Room} {nL : Nat} {Sx : Nat → (Nat → Int32) → Prop} {V : zVT} {X : zXT} (L : zLaws l D base cc own y R nL Sx V X) {pc : Nat} {ls : List (Nat × Value)} {st : List Value} {h : zH} {n k g : Nat} {x : Int64} {v : Int32} (d : decode cc pc = .ok (.l2i, 1)) (e : x.toInt32 = v) (kk : V (pc + 1) ls (.int v :: st) h n k g) : V pc ls (.long x :: st) h n k g := by
  exact L.2.2.2.2.2.2.2.2.2.2.2.2.2.2.2.2.2.2.2.2.2.2.2.2.2.2.2.2.2.2.2.2.2.2.2.2.2.2.2.2.2.1 pc ls st h n k g x v d e kk
theorem zLaws.i2d {l : Launch} {D : va_G} {base : Nat} {cc : ByteArray} {own : String} {y : MethodName} {R : Room} {nL : Nat} {Sx : Nat → (Nat → Int32) → Prop} {V : zVT} {X : zXT} (L : zLaws l D base cc own y R nL Sx V X) {pc : Nat} {ls : List (Nat × Value)} {st : List Value} {h : zH} {n k g : Nat} {x : Int32} (d : decode cc pc = .ok (.i2d, 1)) (kk : V (pc + 1) ls (.double (FP.i2d x) :: st) h n k g) : V pc ls (.int x :: st) h n k g := by
  exact L.2.2.2.2.2.2.2.2.2.2.2.2.2.2.2.2.2.2.2.2.2.2.2.2.2.2.2.2.2.2.2.2.2.2.2.2.2.2.2.2.2.2.1 pc ls st h n k g x d kk
theorem zLaws.d2l {l : Launch} {D : va_G} {base : Nat} {cc : ByteArray} {own : String} {y : MethodName} {R : Room} {nL : Nat} {Sx : Nat → (Nat → Int32) → Prop} {V : zVT} {X : zXT} (L : zLaws l D base cc own y R nL Sx V X) {pc : Nat} {ls : List (Nat × Value)} {st : List Value} {h : zH} {n k g : Nat} {x : UInt64} (d : decode cc pc = .ok (.d2l, 1)) (kk : V (pc + 1) ls (.long (FP.d2l x) :: st) h n k g) : V pc ls (.double x :: st) h n k g := by
  exact L.2.2.2.2.2.2.2.2.2.2.2.2.2.2.2.2.2.2.2.2.2.2.2.2.2.2.2.2.2.2.2.2.2.2.2.2.2.2.2.2.2.2.2.1 pc ls st h n k g x d kk
theorem zLaws.ddiv {l : Launch} {D : va_G} {base : Nat} {cc : ByteArray} {own : String} {y : MethodName} {R : Room} {nL : Nat} {Sx : Nat → (Nat → Int32) → Prop} {V : zVT} {X : zXT} (L : zLaws l D base cc own y R nL Sx V X) {pc : Nat} {ls : List (Nat × Value)} {st : List Value} {h : zH} {n k g : Nat} {x y : UInt64} (d : decode cc pc = .ok (.ddiv, 1)) (e : vf_n64 (FP.ddiv x y)) (kk : V (pc + 1) ls (.double (FP.ddiv x y) :: st) h n k g) : V pc ls (.double y :: .double x :: st) h n k g := by
  exact L.2.2.2.2.2.2.2.2.2.2.2.2.2.2.2.2.2.2.2.2.2.2.2.2.2.2.2.2.2.2.2.2.2.2.2.2.2.2.2.2.2.2.2.2.1 pc ls st h n k g x y d e kk
theorem zLaws.dmul {l : Launch} {D : va_G} {base : Nat} {cc : ByteArray} {own : String} {y : MethodName} {R : Room} {nL : Nat} {Sx : Nat → (Nat → Int32) → Prop} {V : zVT} {X : zXT} (L : zLaws l D base cc own y R nL Sx V X) {pc : Nat} {ls : List (Nat × Value)} {st : List Value} {h : zH} {n k g : Nat} {x y : UInt64} (d : decode cc pc = .ok (.dmul, 1)) (e : vf_n64 (FP.dmul x y)) (kk : V (pc + 1) ls (.double (FP.dmul x y) :: st) h n k g) : V pc ls (.double y :: .double x :: st) h n k g := by
  exact L.2.2.2.2.2.2.2.2.2.2.2.2.2.2.2.2.2.2.2.2.2.2.2.2.2.2.2.2.2.2.2.2.2.2.2.2.2.2.2.2.2.2.2.2.2.1 pc ls st h n k g x y d e kk
theorem zLaws.dsub {l : Launch} {D : va_G} {base : Nat} {cc : ByteArray} {own : String} {y : MethodName} {R : Room} {nL : Nat} {Sx : Nat → (Nat → Int32) → Prop} {V : zVT} {X : zXT} (L : zLaws l D base cc own y R nL Sx V X) {pc : Nat} {ls : List (Nat × Value)} {st : List Value} {h : zH} {n k g : Nat} {x y : UInt64} (d : decode cc pc = .ok (.dsub, 1)) (e : vf_n64 (FP.dsub x y)) (kk : V (pc + 1) ls (.double (FP.dsub x y) :: st) h n k g) : V pc ls (.double y :: .double x :: st) h n k g := by
  exact L.2.2.2.2.2.2.2.2.2.2.2.2.2.2.2.2.2.2.2.2.2.2.2.2.2.2.2.2.2.2.2.2.2.2.2.2.2.2.2.2.2.2.2.2.2.2.1 pc ls st h n k g x y d e kk
theorem zLaws.dcmp {l : Launch} {D : va_G} {base : Nat} {cc : ByteArray} {own : String} {y : MethodName} {R : Room} {nL : Nat} {Sx : Nat → (Nat → Int32) → Prop} {V : zVT} {X : zXT} (L : zLaws l D base cc own y R nL Sx V X) {pc : Nat} {ls : List (Nat × Value)} {st : List Value} {h : zH} {n k g : Nat} {x y : UInt64} {op : CmpOp} (d : decode cc pc = .ok (.dcmp op, 1)) (kk : V (pc + 1) ls (.int (Op.cmpValue (FP.dcmp x y) op) :: st) h n k g) : V pc ls (.double y :: .double x :: st) h n k g := by
  exact L.2.2.2.2.2.2.2.2.2.2.2.2.2.2.2.2.2.2.2.2.2.2.2.2.2.2.2.2.2.2.2.2.2.2.2.2.2.2.2.2.2.2.2.2.2.2.2.1 pc ls st h n k g x y op d kk
theorem zLaws.lcmp {l : Launch} {D : va_G} {base : Nat} {cc : ByteArray} {own : String} {y : MethodName} {R : Room} {nL : Nat} {Sx : Nat → (Nat → Int32) → Prop} {V : zVT} {X : zXT} (L : zLaws l D base cc own y R nL Sx V X) {pc : Nat} {ls : List (Nat × Value)} {st : List Value} {h : zH} {n k g : Nat} {x y : Int64} (d : decode cc pc = .ok (.lcmp, 1)) (kk : V (pc + 1) ls (.int (lg_cmp x y) :: st) h n k g) : V pc ls (.long y :: .long x :: st) h n k g := by
  exact L.2.2.2.2.2.2.2.2.2.2.2.2.2.2.2.2.2.2.2.2.2.2.2.2.2.2.2.2.2.2.2.2.2.2.2.2.2.2.2.2.2.2.2.2.2.2.2.2.1 pc ls st h n k g x y d kk
theorem zLaws.dup {l : Launch} {D : va_G} {base : Nat} {cc : ByteArray} {own : String} {y : MethodName} {R : Room} {nL : Nat} {Sx : Nat → (Nat → Int32) → Prop} {V : zVT} {X : zXT} (L : zLaws l D base cc own y R nL Sx V X) {pc : Nat} {ls : List (Nat × Value)} {st : List Value} {h : zH} {n k g : Nat} {v : Value} (d : decode cc pc = .ok (.dup, 1)) (e : v.category = 1) (kk : V (pc + 1) ls (v :: v :: st) h n k g) : V pc ls (v :: st) h n k g := by
  exact L.2.2.2.2.2.2.2.2.2.2.2.2.2.2.2.2.2.2.2.2.2.2.2.2.2.2.2.2.2.2.2.2.2.2.2.2.2.2.2.2.2.2.2.2.2.2.2.2.2.1 pc ls st h n k g v d e kk
theorem zLaws.dup2 {l : Launch} {D : va_G} {base : Nat} {cc : ByteArray} {own : String} {y : MethodName} {R : Room} {nL : Nat} {Sx : Nat → (Nat → Int32) → Prop} {V : zVT} {X : zXT} (L : zLaws l D base cc own y R nL Sx V X) {pc : Nat} {ls : List (Nat × Value)} {st : List Value} {h : zH} {n k g : Nat} {v w : Value} (d : decode cc pc = .ok (.dup2, 1)) (e : v.category = 1) (e2 : w.category = 1) (kk : V (pc + 1) ls (v :: w :: v :: w :: st) h n k g) : V pc ls (v :: w :: st) h n k g := by
  exact L.2.2.2.2.2.2.2.2.2.2.2.2.2.2.2.2.2.2.2.2.2.2.2.2.2.2.2.2.2.2.2.2.2.2.2.2.2.2.2.2.2.2.2.2.2.2.2.2.2.2.1 pc ls st h n k g v w d e e2 kk
theorem zLaws.pop {l : Launch} {D : va_G} {base : Nat} {cc : ByteArray} {own : String} {y : MethodName} {R : Room} {nL : Nat} {Sx : Nat → (Nat → Int32) → Prop} {V : zVT} {X : zXT} (L : zLaws l D base cc own y R nL Sx V X) {pc : Nat} {ls : List (Nat × Value)} {st : List Value} {h : zH} {n k g : Nat} {v : Value} (d : decode cc pc = .ok (.pop, 1)) (e : v.category = 1) (kk : V (pc + 1) ls (st) h n k g) : V pc ls (v :: st) h n k g := by
  exact L.2.2.2.2.2.2.2.2.2.2.2.2.2.2.2.2.2.2.2.2.2.2.2.2.2.2.2.2.2.2.2.2.2.2.2.2.2.2.2.2.2.2.2.2.2.2.2.2.2.2.2.1 pc ls st h n k g v d e kk
theorem zLaws.goto {l : Launch} {D : va_G} {base : Nat} {cc : ByteArray} {own : String} {y : MethodName} {R : Room} {nL : Nat} {Sx : Nat → (Nat → Int32) → Prop} {V : zVT} {X : zXT} (L : zLaws l D base cc own y R nL Sx V X) {pc : Nat} {ls : List (Nat × Value)} {st : List Value} {h : zH} {n k g : Nat} {off : Int} {tgt : Nat} (d : decode cc pc = .ok (.goto off, 3)) (ht : (pc : Int) + off = (tgt : Int)) (kk : V tgt ls st h n k g) : V pc ls (st) h n k g := by
  exact L.2.2.2.2.2.2.2.2.2.2.2.2.2.2.2.2.2.2.2.2.2.2.2.2.2.2.2.2.2.2.2.2.2.2.2.2.2.2.2.2.2.2.2.2.2.2.2.2.2.2.2.2.1 pc ls st h n k g off tgt d ht kk
theorem zLaws.if_eq_t {l : Launch} {D : va_G} {base : Nat} {cc : ByteArray} {own : String} {y : MethodName} {R : Room} {nL : Nat} {Sx : Nat → (Nat → Int32) → Prop} {V : zVT} {X : zXT} (L : zLaws l D base cc own y R nL Sx V X) {pc : Nat} {ls : List (Nat × Value)} {st : List Value} {h : zH} {n k g : Nat} {x : Int32} {off : Int} {tgt : Nat} (d : decode cc pc = .ok (.ifCond .eq off, 3)) (ht : (pc : Int) + off = (tgt : Int)) (c : x = 0) (kk : V tgt ls st h n k g) : V pc ls (.int x :: st) h n k g := by
  exact L.2.2.2.2.2.2.2.2.2.2.2.2.2.2.2.2.2.2.2.2.2.2.2.2.2.2.2.2.2.2.2.2.2.2.2.2.2.2.2.2.2.2.2.2.2.2.2.2.2.2.2.2.2.1 pc ls st h n k g x off tgt d ht c kk
theorem zLaws.if_eq_f {l : Launch} {D : va_G} {base : Nat} {cc : ByteArray} {own : String} {y : MethodName} {R : Room} {nL : Nat} {Sx : Nat → (Nat → Int32) → Prop} {V : zVT} {X : zXT} (L : zLaws l D base cc own y R nL Sx V X) {pc : Nat} {ls : List (Nat × Value)} {st : List Value} {h : zH} {n k g : Nat} {x : Int32} {off : Int} {tgt : Nat} (d : decode cc pc = .ok (.ifCond .eq off, 3)) (ht : (pc : Int) + off = (tgt : Int)) (c : ¬ x = 0) (kk : V (pc + 3) ls st h n k g) : V pc ls (.int x :: st) h n k g := by
  exact L.2.2.2.2.2.2.2.2.2.2.2.2.2.2.2.2.2.2.2.2.2.2.2.2.2.2.2.2.2.2.2.2.2.2.2.2.2.2.2.2.2.2.2.2.2.2.2.2.2.2.2.2.2.2.1 pc ls st h n k g x off tgt d ht c kk
theorem zLaws.icmp_eq_t {l : Launch} {D : va_G} {base : Nat} {cc : ByteArray} {own : String} {y : MethodName} {R : Room} {nL : Nat} {Sx : Nat → (Nat → Int32) → Prop} {V : zVT} {X : zXT} (L : zLaws l D base cc own y R nL Sx V X) {pc : Nat} {ls : List (Nat × Value)} {st : List Value} {h : zH} {n k g : Nat} {x y : Int32} {off : Int} {tgt : Nat} (d : decode cc pc = .ok (.if_icmp .eq off, 3)) (ht : (pc : Int) + off = (tgt : Int)) (c : x = y) (kk : V tgt ls st h n k g) : V pc ls (.int y :: .int x :: st) h n k g := by
  exact L.2.2.2.2.2.2.2.2.2.2.2.2.2.2.2.2.2.2.2.2.2.2.2.2.2.2.2.2.2.2.2.2.2.2.2.2.2.2.2.2.2.2.2.2.2.2.2.2.2.2.2.2.2.2.2.1 pc ls st h n k g x y off tgt d ht c kk
theorem zLaws.icmp_eq_f {l : Launch} {D : va_G} {base : Nat} {cc : ByteArray} {own : String} {y : MethodName} {R : Room} {nL : Nat} {Sx : Nat → (Nat → Int32) → Prop} {V : zVT} {X : zXT} (L : zLaws l D base cc own y R nL Sx V X) {pc : Nat} {ls : List (Nat × Value)} {st : List Value} {h : zH} {n k g : Nat} {x y : Int32} {off : Int} {tgt : Nat} (d : decode cc pc = .ok (.if_icmp .eq off, 3)) (ht : (pc : Int) + off = (tgt : Int)) (c : ¬ x = y) (kk : V (pc + 3) ls st h n k g) : V pc ls (.int y :: .int x :: st) h n k g := by
  exact L.2.2.2.2.2.2.2.2.2.2.2.2.2.2.2.2.2.2.2.2.2.2.2.2.2.2.2.2.2.2.2.2.2.2.2.2.2.2.2.2.2.2.2.2.2.2.2.2.2.2.2.2.2.2.2.2.1 pc ls st h n k g x y off tgt d ht c kk
theorem zLaws.if_ne_t {l : Launch} {D : va_G} {base : Nat} {cc : ByteArray} {own : String} {y : MethodName} {R : Room} {nL : Nat} {Sx : Nat → (Nat → Int32) → Prop} {V : zVT} {X : zXT} (L : zLaws l D base cc own y R nL Sx V X) {pc : Nat} {ls : List (Nat × Value)} {st : List Value} {h : zH} {n k g : Nat} {x : Int32} {off : Int} {tgt : Nat} (d : decode cc pc = .ok (.ifCond .ne off, 3)) (ht : (pc : Int) + off = (tgt : Int)) (c : ¬ x = 0) (kk : V tgt ls st h n k g) : V pc ls (.int x :: st) h n k g := by
  exact L.2.2.2.2.2.2.2.2.2.2.2.2.2.2.2.2.2.2.2.2.2.2.2.2.2.2.2.2.2.2.2.2.2.2.2.2.2.2.2.2.2.2.2.2.2.2.2.2.2.2.2.2.2.2.2.2.2.1 pc ls st h n k g x off tgt d ht c kk
theorem zLaws.if_ne_f {l : Launch} {D : va_G} {base : Nat} {cc : ByteArray} {own : String} {y : MethodName} {R : Room} {nL : Nat} {Sx : Nat → (Nat → Int32) → Prop} {V : zVT} {X : zXT} (L : zLaws l D base cc own y R nL Sx V X) {pc : Nat} {ls : List (Nat × Value)} {st : List Value} {h : zH} {n k g : Nat} {x : Int32} {off : Int} {tgt : Nat} (d : decode cc pc = .ok (.ifCond .ne off, 3)) (ht : (pc : Int) + off = (tgt : Int)) (c : x = 0) (kk : V (pc + 3) ls st h n k g) : V pc ls (.int x :: st) h n k g := by
  exact L.2.2.2.2.2.2.2.2.2.2.2.2.2.2.2.2.2.2.2.2.2.2.2.2.2.2.2.2.2.2.2.2.2.2.2.2.2.2.2.2.2.2.2.2.2.2.2.2.2.2.2.2.2.2.2.2.2.2.1 pc ls st h n k g x off tgt d ht c kk
theorem zLaws.icmp_ne_t {l : Launch} {D : va_G} {base : Nat} {cc : ByteArray} {own : String} {y : MethodName} {R : Room} {nL : Nat} {Sx : Nat → (Nat → Int32) → Prop} {V : zVT} {X : zXT} (L : zLaws l D base cc own y R nL Sx V X) {pc : Nat} {ls : List (Nat × Value)} {st : List Value} {h : zH} {n k g : Nat} {x y : Int32} {off : Int} {tgt : Nat} (d : decode cc pc = .ok (.if_icmp .ne off, 3)) (ht : (pc : Int) + off = (tgt : Int)) (c : ¬ x = y) (kk : V tgt ls st h n k g) : V pc ls (.int y :: .int x :: st) h n k g := by
  exact L.2.2.2.2.2.2.2.2.2.2.2.2.2.2.2.2.2.2.2.2.2.2.2.2.2.2.2.2.2.2.2.2.2.2.2.2.2.2.2.2.2.2.2.2.2.2.2.2.2.2.2.2.2.2.2.2.2.2.2.1 pc ls st h n k g x y off tgt d ht c kk
theorem zLaws.icmp_ne_f {l : Launch} {D : va_G} {base : Nat} {cc : ByteArray} {own : String} {y : MethodName} {R : Room} {nL : Nat} {Sx : Nat → (Nat → Int32) → Prop} {V : zVT} {X : zXT} (L : zLaws l D base cc own y R nL Sx V X) {pc : Nat} {ls : List (Nat × Value)} {st : List Value} {h : zH} {n k g : Nat} {x y : Int32} {off : Int} {tgt : Nat} (d : decode cc pc = .ok (.if_icmp .ne off, 3)) (ht : (pc : Int) + off = (tgt : Int)) (c : x = y) (kk : V (pc + 3) ls st h n k g) : V pc ls (.int y :: .int x :: st) h n k g := by
  exact L.2.2.2.2.2.2.2.2.2.2.2.2.2.2.2.2.2.2.2.2.2.2.2.2.2.2.2.2.2.2.2.2.2.2.2.2.2.2.2.2.2.2.2.2.2.2.2.2.2.2.2.2.2.2.2.2.2.2.2.2.1 pc ls st h n k g x y off tgt d ht c kk
theorem zLaws.if_lt_t {l : Launch} {D : va_G} {base : Nat} {cc : ByteArray} {own : String} {y : MethodName} {R : Room} {nL : Nat} {Sx : Nat → (Nat → Int32) → Prop} {V : zVT} {X : zXT} (L : zLaws l D base cc own y R nL Sx V X) {pc : Nat} {ls : List (Nat × Value)} {st : List Value} {h : zH} {n k g : Nat} {x : Int32} {off : Int} {tgt : Nat} (d : decode cc pc = .ok (.ifCond .lt off, 3)) (ht : (pc : Int) + off = (tgt : Int)) (c : x < 0) (kk : V tgt ls st h n k g) : V pc ls (.int x :: st) h n k g := by
  exact L.2.2.2.2.2.2.2.2.2.2.2.2.2.2.2.2.2.2.2.2.2.2.2.2.2.2.2.2.2.2.2.2.2.2.2.2.2.2.2.2.2.2.2.2.2.2.2.2.2.2.2.2.2.2.2.2.2.2.2.2.2.1 pc ls st h n k g x off tgt d ht c kk
theorem zLaws.if_lt_f {l : Launch} {D : va_G} {base : Nat} {cc : ByteArray} {own : String} {y : MethodName} {R : Room} {nL : Nat} {Sx : Nat → (Nat → Int32) → Prop} {V : zVT} {X : zXT} (L : zLaws l D base cc own y R nL Sx V X) {pc : Nat} {ls : List (Nat × Value)} {st : List Value} {h : zH} {n k g : Nat} {x : Int32} {off : Int} {tgt : Nat} (d : decode cc pc = .ok (.ifCond .lt off, 3)) (ht : (pc : Int) + off = (tgt : Int)) (c : ¬ x < 0) (kk : V (pc + 3) ls st h n k g) : V pc ls (.int x :: st) h n k g := by
  exact L.2.2.2.2.2.2.2.2.2.2.2.2.2.2.2.2.2.2.2.2.2.2.2.2.2.2.2.2.2.2.2.2.2.2.2.2.2.2.2.2.2.2.2.2.2.2.2.2.2.2.2.2.2.2.2.2.2.2.2.2.2.2.1 pc ls st h n k g x off tgt d ht c kk
theorem zLaws.icmp_lt_t {l : Launch} {D : va_G} {base : Nat} {cc : ByteArray} {own : String} {y : MethodName} {R : Room} {nL : Nat} {Sx : Nat → (Nat → Int32) → Prop} {V : zVT} {X : zXT} (L : zLaws l D base cc own y R nL Sx V X) {pc : Nat} {ls : List (Nat × Value)} {st : List Value} {h : zH} {n k g : Nat} {x y : Int32} {off : Int} {tgt : Nat} (d : decode cc pc = .ok (.if_icmp .lt off, 3)) (ht : (pc : Int) + off = (tgt : Int)) (c : x < y) (kk : V tgt ls st h n k g) : V pc ls (.int y :: .int x :: st) h n k g := by
  exact L.2.2.2.2.2.2.2.2.2.2.2.2.2.2.2.2.2.2.2.2.2.2.2.2.2.2.2.2.2.2.2.2.2.2.2.2.2.2.2.2.2.2.2.2.2.2.2.2.2.2.2.2.2.2.2.2.2.2.2.2.2.2.2.1 pc ls st h n k g x y off tgt d ht c kk
theorem zLaws.icmp_lt_f {l : Launch} {D : va_G} {base : Nat} {cc : ByteArray} {own : String} {y : MethodName} {R : Room} {nL : Nat} {Sx : Nat → (Nat → Int32) → Prop} {V : zVT} {X : zXT} (L : zLaws l D base cc own y R nL Sx V X) {pc : Nat} {ls : List (Nat × Value)} {st : List Value} {h : zH} {n k g : Nat} {x y : Int32} {off : Int} {tgt : Nat} (d : decode cc pc = .ok (.if_icmp .lt off, 3)) (ht : (pc : Int) + off = (tgt : Int)) (c : ¬ x < y) (kk : V (pc + 3) ls st h n k g) : V pc ls (.int y :: .int x :: st) h n k g := by
  exact L.2.2.2.2.2.2.2.2.2.2.2.2.2.2.2.2.2.2.2.2.2.2.2.2.2.2.2.2.2.2.2.2.2.2.2.2.2.2.2.2.2.2.2.2.2.2.2.2.2.2.2.2.2.2.2.2.2.2.2.2.2.2.2.2.1 pc ls st h n k g x y off tgt d ht c kk
theorem zLaws.if_ge_t {l : Launch} {D : va_G} {base : Nat} {cc : ByteArray} {own : String} {y : MethodName} {R : Room} {nL : Nat} {Sx : Nat → (Nat → Int32) → Prop} {V : zVT} {X : zXT} (L : zLaws l D base cc own y R nL Sx V X) {pc : Nat} {ls : List (Nat × Value)} {st : List Value} {h : zH} {n k g : Nat} {x : Int32} {off : Int} {tgt : Nat} (d : decode cc pc = .ok (.ifCond .ge off, 3)) (ht : (pc : Int) + off = (tgt : Int)) (c : 0 ≤ x) (kk : V tgt ls st h n k g) : V pc ls (.int x :: st) h n k g := by
  exact L.2.2.2.2.2.2.2.2.2.2.2.2.2.2.2.2.2.2.2.2.2.2.2.2.2.2.2.2.2.2.2.2.2.2.2.2.2.2.2.2.2.2.2.2.2.2.2.2.2.2.2.2.2.2.2.2.2.2.2.2.2.2.2.2.2.1 pc ls st h n k g x off tgt d ht c kk
theorem zLaws.if_ge_f {l : Launch} {D : va_G} {base : Nat} {cc : ByteArray} {own : String} {y : MethodName} {R : Room} {nL : Nat} {Sx : Nat → (Nat → Int32) → Prop} {V : zVT} {X : zXT} (L : zLaws l D base cc own y R nL Sx V X) {pc : Nat} {ls : List (Nat × Value)} {st : List Value} {h : zH} {n k g : Nat} {x : Int32} {off : Int} {tgt : Nat} (d : decode cc pc = .ok (.ifCond .ge off, 3)) (ht : (pc : Int) + off = (tgt : Int)) (c : ¬ 0 ≤ x) (kk : V (pc + 3) ls st h n k g) : V pc ls (.int x :: st) h n k g := by
  exact L.2.2.2.2.2.2.2.2.2.2.2.2.2.2.2.2.2.2.2.2.2.2.2.2.2.2.2.2.2.2.2.2.2.2.2.2.2.2.2.2.2.2.2.2.2.2.2.2.2.2.2.2.2.2.2.2.2.2.2.2.2.2.2.2.2.2.1 pc ls st h n k g x off tgt d ht c kk
theorem zLaws.icmp_ge_t {l : Launch} {D : va_G} {base : Nat} {cc : ByteArray} {own : String} {y : MethodName} {R : Room} {nL : Nat} {Sx : Nat → (Nat → Int32) → Prop} {V : zVT} {X : zXT} (L : zLaws l D base cc own y R nL Sx V X) {pc : Nat} {ls : List (Nat × Value)} {st : List Value} {h : zH} {n k g : Nat} {x y : Int32} {off : Int} {tgt : Nat} (d : decode cc pc = .ok (.if_icmp .ge off, 3)) (ht : (pc : Int) + off = (tgt : Int)) (c : y ≤ x) (kk : V tgt ls st h n k g) : V pc ls (.int y :: .int x :: st) h n k g := by
  exact L.2.2.2.2.2.2.2.2.2.2.2.2.2.2.2.2.2.2.2.2.2.2.2.2.2.2.2.2.2.2.2.2.2.2.2.2.2.2.2.2.2.2.2.2.2.2.2.2.2.2.2.2.2.2.2.2.2.2.2.2.2.2.2.2.2.2.2.1 pc ls st h n k g x y off tgt d ht c kk
theorem zLaws.icmp_ge_f {l : Launch} {D : va_G} {base : Nat} {cc : ByteArray} {own : String} {y : MethodName} {R : Room} {nL : Nat} {Sx : Nat → (Nat → Int32) → Prop} {V : zVT} {X : zXT} (L : zLaws l D base cc own y R nL Sx V X) {pc : Nat} {ls : List (Nat × Value)} {st : List Value} {h : zH} {n k g : Nat} {x y : Int32} {off : Int} {tgt : Nat} (d : decode cc pc = .ok (.if_icmp .ge off, 3)) (ht : (pc : Int) + off = (tgt : Int)) (c : ¬ y ≤ x) (kk : V (pc + 3) ls st h n k g) : V pc ls (.int y :: .int x :: st) h n k g := by
  exact L.2.2.2.2.2.2.2.2.2.2.2.2.2.2.2.2.2.2.2.2.2.2.2.2.2.2.2.2.2.2.2.2.2.2.2.2.2.2.2.2.2.2.2.2.2.2.2.2.2.2.2.2.2.2.2.2.2.2.2.2.2.2.2.2.2.2.2.2.1 pc ls st h n k g x y off tgt d ht c kk
theorem zLaws.if_gt_t {l : Launch} {D : va_G} {base : Nat} {cc : ByteArray} {own : String} {y : MethodName} {R : Room} {nL : Nat} {Sx : Nat → (Nat → Int32) → Prop} {V : zVT} {X : zXT} (L : zLaws l D base cc own y R nL Sx V X) {pc : Nat} {ls : List (Nat × Value)} {st : List Value} {h : zH} {n k g : Nat} {x : Int32} {off : Int} {tgt : Nat} (d : decode cc pc = .ok (.ifCond .gt off, 3)) (ht : (pc : Int) + off = (tgt : Int)) (c : 0 < x) (kk : V tgt ls st h n k g) : V pc ls (.int x :: st) h n k g := by
  exact L.2.2.2.2.2.2.2.2.2.2.2.2.2.2.2.2.2.2.2.2.2.2.2.2.2.2.2.2.2.2.2.2.2.2.2.2.2.2.2.2.2.2.2.2.2.2.2.2.2.2.2.2.2.2.2.2.2.2.2.2.2.2.2.2.2.2.2.2.2.1 pc ls st h n k g x off tgt d ht c kk
theorem zLaws.if_gt_f {l : Launch} {D : va_G} {base : Nat} {cc : ByteArray} {own : String} {y : MethodName} {R : Room} {nL : Nat} {Sx : Nat → (Nat → Int32) → Prop} {V : zVT} {X : zXT} (L : zLaws l D base cc own y R nL Sx V X) {pc : Nat} {ls : List (Nat × Value)} {st : List Value} {h : zH} {n k g : Nat} {x : Int32} {off : Int} {tgt : Nat} (d : decode cc pc = .ok (.ifCond .gt off, 3)) (ht : (pc : Int) + off = (tgt : Int)) (c : ¬ 0 < x) (kk : V (pc + 3) ls st h n k g) : V pc ls (.int x :: st) h n k g := by
  exact L.2.2.2.2.2.2.2.2.2.2.2.2.2.2.2.2.2.2.2.2.2.2.2.2.2.2.2.2.2.2.2.2.2.2.2.2.2.2.2.2.2.2.2.2.2.2.2.2.2.2.2.2.2.2.2.2.2.2.2.2.2.2.2.2.2.2.2.2.2.2.1 pc ls st h n k g x off tgt d ht c kk
theorem zLaws.icmp_gt_t {l : Launch} {D : va_G} {base : Nat} {cc : ByteArray} {own : String} {y : MethodName} {R : Room} {nL : Nat} {Sx : Nat → (Nat → Int32) → Prop} {V : zVT} {X : zXT} (L : zLaws l D base cc own y R nL Sx V X) {pc : Nat} {ls : List (Nat × Value)} {st : List Value} {h : zH} {n k g : Nat} {x y : Int32} {off : Int} {tgt : Nat} (d : decode cc pc = .ok (.if_icmp .gt off, 3)) (ht : (pc : Int) + off = (tgt : Int)) (c : y < x) (kk : V tgt ls st h n k g) : V pc ls (.int y :: .int x :: st) h n k g := by
  exact L.2.2.2.2.2.2.2.2.2.2.2.2.2.2.2.2.2.2.2.2.2.2.2.2.2.2.2.2.2.2.2.2.2.2.2.2.2.2.2.2.2.2.2.2.2.2.2.2.2.2.2.2.2.2.2.2.2.2.2.2.2.2.2.2.2.2.2.2.2.2.2.1 pc ls st h n k g x y off tgt d ht c kk
theorem zLaws.icmp_gt_f {l : Launch} {D : va_G} {base : Nat} {cc : ByteArray} {own : String} {y : MethodName} {R : Room} {nL : Nat} {Sx : Nat → (Nat → Int32) → Prop} {V : zVT} {X : zXT} (L : zLaws l D base cc own y R nL Sx V X) {pc : Nat} {ls : List (Nat × Value)} {st : List Value} {h : zH} {n k g : Nat} {x y : Int32} {off : Int} {tgt : Nat} (d : decode cc pc = .ok (.if_icmp .gt off, 3)) (ht : (pc : Int) + off = (tgt : Int)) (c : ¬ y < x) (kk : V (pc + 3) ls st h n k g) : V pc ls (.int y :: .int x :: st) h n k g := by
  exact L.2.2.2.2.2.2.2.2.2.2.2.2.2.2.2.2.2.2.2.2.2.2.2.2.2.2.2.2.2.2.2.2.2.2.2.2.2.2.2.2.2.2.2.2.2.2.2.2.2.2.2.2.2.2.2.2.2.2.2.2.2.2.2.2.2.2.2.2.2.2.2.2.1 pc ls st h n k g x y off tgt d ht c kk
theorem zLaws.if_le_t {l : Launch} {D : va_G} {base : Nat} {cc : ByteArray} {own : String} {y : MethodName} {R : Room} {nL : Nat} {Sx : Nat → (Nat → Int32) → Prop} {V : zVT} {X : zXT} (L : zLaws l D base cc own y R nL Sx V X) {pc : Nat} {ls : List (Nat × Value)} {st : List Value} {h : zH} {n k g : Nat} {x : Int32} {off : Int} {tgt : Nat} (d : decode cc pc = .ok (.ifCond .le off, 3)) (ht : (pc : Int) + off = (tgt : Int)) (c : x ≤ 0) (kk : V tgt ls st h n k g) : V pc ls (.int x :: st) h n k g := by
  exact L.2.2.2.2.2.2.2.2.2.2.2.2.2.2.2.2.2.2.2.2.2.2.2.2.2.2.2.2.2.2.2.2.2.2.2.2.2.2.2.2.2.2.2.2.2.2.2.2.2.2.2.2.2.2.2.2.2.2.2.2.2.2.2.2.2.2.2.2.2.2.2.2.2.1 pc ls st h n k g x off tgt d ht c kk
theorem zLaws.if_le_f {l : Launch} {D : va_G} {base : Nat} {cc : ByteArray} {own : String} {y : MethodName} {R : Room} {nL : Nat} {Sx : Nat → (Nat → Int32) → Prop} {V : zVT} {X : zXT} (L : zLaws l D base cc own y R nL Sx V X) {pc : Nat} {ls : List (Nat × Value)} {st : List Value} {h : zH} {n k g : Nat} {x : Int32} {off : Int} {tgt : Nat} (d : decode cc pc = .ok (.ifCond .le off, 3)) (ht : (pc : Int) + off = (tgt : Int)) (c : ¬ x ≤ 0) (kk : V (pc + 3) ls st h n k g) : V pc ls (.int x :: st) h n k g := by
  exact L.2.2.2.2.2.2.2.2.2.2.2.2.2.2.2.2.2.2.2.2.2.2.2.2.2.2.2.2.2.2.2.2.2.2.2.2.2.2.2.2.2.2.2.2.2.2.2.2.2.2.2.2.2.2.2.2.2.2.2.2.2.2.2.2.2.2.2.2.2.2.2.2.2.2.1 pc ls st h n k g x off tgt d ht c kk
theorem zLaws.icmp_le_t {l : Launch} {D : va_G} {base : Nat} {cc : ByteArray} {own : String} {y : MethodName} {R : Room} {nL : Nat} {Sx : Nat → (Nat → Int32) → Prop} {V : zVT} {X : zXT} (L : zLaws l D base cc own y R nL Sx V X) {pc : Nat} {ls : List (Nat × Value)} {st : List Value} {h : zH} {n k g : Nat} {x y : Int32} {off : Int} {tgt : Nat} (d : decode cc pc = .ok (.if_icmp .le off, 3)) (ht : (pc : Int) + off = (tgt : Int)) (c : x ≤ y) (kk : V tgt ls st h n k g) : V pc ls (.int y :: .int x :: st) h n k g := by
  exact L.2.2.2.2.2.2.2.2.2.2.2.2.2.2.2.2.2.2.2.2.2.2.2.2.2.2.2.2.2.2.2.2.2.2.2.2.2.2.2.2.2.2.2.2.2.2.2.2.2.2.2.2.2.2.2.2.2.2.2.2.2.2.2.2.2.2.2.2.2.2.2.2.2.2.2.1 pc ls st h n k g x y off tgt d ht c kk
theorem zLaws.icmp_le_f {l : Launch} {D : va_G} {base : Nat} {cc : ByteArray} {own : String} {y : MethodName} {R : Room} {nL : Nat} {Sx : Nat → (Nat → Int32) → Prop} {V : zVT} {X : zXT} (L : zLaws l D base cc own y R nL Sx V X) {pc : Nat} {ls : List (Nat × Value)} {st : List Value} {h : zH} {n k g : Nat} {x y : Int32} {off : Int} {tgt : Nat} (d : decode cc pc = .ok (.if_icmp .le off, 3)) (ht : (pc : Int) + off = (tgt : Int)) (c : ¬ x ≤ y) (kk : V (pc + 3) ls st h n k g) : V pc ls (.int y :: .int x :: st) h n k g := by
  exact L.2.2.2.2.2.2.2.2.2.2.2.2.2.2.2.2.2.2.2.2.2.2.2.2.2.2.2.2.2.2.2.2.2.2.2.2.2.2.2.2.2.2.2.2.2.2.2.2.2.2.2.2.2.2.2.2.2.2.2.2.2.2.2.2.2.2.2.2.2.2.2.2.2.2.2.2.1 pc ls st h n k g x y off tgt d ht c kk
theorem zLaws.ifnonnull {l : Launch} {D : va_G} {base : Nat} {cc : ByteArray} {own : String} {y : MethodName} {R : Room} {nL : Nat} {Sx : Nat → (Nat → Int32) → Prop} {V : zVT} {X : zXT} (L : zLaws l D base cc own y R nL Sx V X) {pc : Nat} {ls : List (Nat × Value)} {st : List Value} {h : zH} {n k g : Nat} {x : Nat} {off : Int} {tgt : Nat} (d : decode cc pc = .ok (.ifnonnull off, 3)) (ht : (pc : Int) + off = (tgt : Int)) (kk : V tgt ls st h n k g) : V pc ls (.ref x :: st) h n k g := by
  exact L.2.2.2.2.2.2.2.2.2.2.2.2.2.2.2.2.2.2.2.2.2.2.2.2.2.2.2.2.2.2.2.2.2.2.2.2.2.2.2.2.2.2.2.2.2.2.2.2.2.2.2.2.2.2.2.2.2.2.2.2.2.2.2.2.2.2.2.2.2.2.2.2.2.2.2.2.2.1 pc ls st h n k g x off tgt d ht kk
theorem zLaws.ifnonnullN {l : Launch} {D : va_G} {base : Nat} {cc : ByteArray} {own : String} {y : MethodName} {R : Room} {nL : Nat} {Sx : Nat → (Nat → Int32) → Prop} {V : zVT} {X : zXT} (L : zLaws l D base cc own y R nL Sx V X) {pc : Nat} {ls : List (Nat × Value)} {st : List Value} {h : zH} {n k g : Nat} {off : Int} (d : decode cc pc = .ok (.ifnonnull off, 3)) (kk : V (pc + 3) ls st h n k g) : V pc ls (.null :: st) h n k g := by
  exact L.2.2.2.2.2.2.2.2.2.2.2.2.2.2.2.2.2.2.2.2.2.2.2.2.2.2.2.2.2.2.2.2.2.2.2.2.2.2.2.2.2.2.2.2.2.2.2.2.2.2.2.2.2.2.2.2.2.2.2.2.2.2.2.2.2.2.2.2.2.2.2.2.2.2.2.2.2.2.1 pc ls st h n k g off d kk
theorem zLaws.lookup {l : Launch} {D : va_G} {base : Nat} {cc : ByteArray} {own : String} {y : MethodName} {R : Room} {nL : Nat} {Sx : Nat → (Nat → Int32) → Prop} {V : zVT} {X : zXT} (L : zLaws l D base cc own y R nL Sx V X) {pc : Nat} {ls : List (Nat × Value)} {st : List Value} {h : zH} {n k g : Nat} {dflt : Int} {ps : Array (Int × Int)} {len : Nat} {x : Int32} {off : Int} {tgt : Nat} (d : decode cc pc = .ok (.lookupswitch dflt ps, len)) (hp : (ps.toList.zip (ps.toList.drop 1)).all (fun (a, next) => a.1 < next.1) = true) (ho : Op.lookupswitch.offset ps.toList dflt x.toInt = off) (ht : (pc : Int) + off = (tgt : Int)) (kk : V tgt ls st h n k g) : V pc ls (.int x :: st) h n k g := by
  exact L.2.2.2.2.2.2.2.2.2.2.2.2.2.2.2.2.2.2.2.2.2.2.2.2.2.2.2.2.2.2.2.2.2.2.2.2.2.2.2.2.2.2.2.2.2.2.2.2.2.2.2.2.2.2.2.2.2.2.2.2.2.2.2.2.2.2.2.2.2.2.2.2.2.2.2.2.2.2.2.1 pc ls st h n k g dflt ps len x off tgt d hp ho ht kk
theorem zLaws.tblin {l : Launch} {D : va_G} {base : Nat} {cc : ByteArray} {own : String} {y : MethodName} {R : Room} {nL : Nat} {Sx : Nat → (Nat → Int32) → Prop} {V : zVT} {X : zXT} (L : zLaws l D base cc own y R nL Sx V X) {pc : Nat} {ls : List (Nat × Value)} {st : List Value} {h : zH} {n k g : Nat} {dflt lo hi : Int} {offs : Array Int} {len : Nat} {x : Int32} {off : Int} {tgt : Nat} (d : decode cc pc = .ok (.tableswitch dflt lo hi offs, len)) (h1 : ¬ x.toInt < lo) (h2 : ¬ hi < x.toInt) (ho : offs[(x.toInt - lo).toNat]? = some off) (ht : (pc : Int) + off = (tgt : Int)) (kk : V tgt ls st h n k g) : V pc ls (.int x :: st) h n k g := by
  exact L.2.2.2.2.2.2.2.2.2.2.2.2.2.2.2.2.2.2.2.2.2.2.2.2.2.2.2.2.2.2.2.2.2.2.2.2.2.2.2.2.2.2.2.2.2.2.2.2.2.2.2.2.2.2.2.2.2.2.2.2.2.2.2.2.2.2.2.2.2.2.2.2.2.2.2.2.2.2.2.2.1 pc ls st h n k g dflt lo hi offs len x off tgt d h1 h2 ho ht kk
theorem zLaws.tblout {l : Launch} {D : va_G} {base : Nat} {cc : ByteArray} {own : String} {y : MethodName} {R : Room} {nL : Nat} {Sx : Nat → (Nat → Int32) → Prop} {V : zVT} {X : zXT} (L : zLaws l D base cc own y R nL Sx V X) {pc : Nat} {ls : List (Nat × Value)} {st : List Value} {h : zH} {n k g : Nat} {dflt lo hi : Int} {offs : Array Int} {len : Nat} {x : Int32} {tgt : Nat} (d : decode cc pc = .ok (.tableswitch dflt lo hi offs, len)) (ho : x.toInt < lo ∨ hi < x.toInt) (ht : (pc : Int) + dflt = (tgt : Int)) (kk : V tgt ls st h n k g) : V pc ls (.int x :: st) h n k g := by
  exact L.2.2.2.2.2.2.2.2.2.2.2.2.2.2.2.2.2.2.2.2.2.2.2.2.2.2.2.2.2.2.2.2.2.2.2.2.2.2.2.2.2.2.2.2.2.2.2.2.2.2.2.2.2.2.2.2.2.2.2.2.2.2.2.2.2.2.2.2.2.2.2.2.2.2.2.2.2.2.2.2.2.1 pc ls st h n k g dflt lo hi offs len x tgt d ho ht kk
theorem zLaws.getf {l : Launch} {D : va_G} {base : Nat} {cc : ByteArray} {own : String} {y : MethodName} {R : Room} {nL : Nat} {Sx : Nat → (Nat → Int32) → Prop} {V : zVT} {X : zXT} (L : zLaws l D base cc own y R nL Sx V X) {pc : Nat} {ls : List (Nat × Value)} {st : List Value} {h : zH} {n k g : Nat} {i : Nat} {ci j a : Nat} {fs : List Value} {v : Value} (d : decode cc pc = .ok (.getfield i, 3)) (hf : zFL own i ci j) (ha : h a = some (.inr (ci, fs))) (hv : fs[j]? = some v) (kk : V (pc + 3) ls (v :: st) h n k g) : V pc ls (.ref a :: st) h n k g := by
  exact L.2.2.2.2.2.2.2.2.2.2.2.2.2.2.2.2.2.2.2.2.2.2.2.2.2.2.2.2.2.2.2.2.2.2.2.2.2.2.2.2.2.2.2.2.2.2.2.2.2.2.2.2.2.2.2.2.2.2.2.2.2.2.2.2.2.2.2.2.2.2.2.2.2.2.2.2.2.2.2.2.2.2.1 pc ls st h n k g i ci j a fs v d hf ha hv kk
theorem zLaws.putf {l : Launch} {D : va_G} {base : Nat} {cc : ByteArray} {own : String} {y : MethodName} {R : Room} {nL : Nat} {Sx : Nat → (Nat → Int32) → Prop} {V : zVT} {X : zXT} (L : zLaws l D base cc own y R nL Sx V X) {pc : Nat} {ls : List (Nat × Value)} {st : List Value} {h : zH} {n k g : Nat} {i : Nat} {ci j a : Nat} {fs : List Value} {v : Value} {ty : FieldType} {h2 : zH} (d : decode cc pc = .ok (.putfield i, 3)) (hf : zFP own i ci j false ty) (ha : h a = some (.inr (ci, fs))) (hj : j < fs.length) (hn : narrow ty v = v) (hi : fits ty v = true) (he : zput h a (some (.inr (ci, fs.set j v))) = h2) (kk : V (pc + 3) ls st h2 n k g) : V pc ls (v :: .ref a :: st) h n k g := by
  exact L.2.2.2.2.2.2.2.2.2.2.2.2.2.2.2.2.2.2.2.2.2.2.2.2.2.2.2.2.2.2.2.2.2.2.2.2.2.2.2.2.2.2.2.2.2.2.2.2.2.2.2.2.2.2.2.2.2.2.2.2.2.2.2.2.2.2.2.2.2.2.2.2.2.2.2.2.2.2.2.2.2.2.2.1 pc ls st h n k g i ci j a fs v ty h2 d hf ha hj hn hi he kk
theorem zLaws.putF {l : Launch} {D : va_G} {base : Nat} {cc : ByteArray} {own : String} {y : MethodName} {R : Room} {nL : Nat} {Sx : Nat → (Nat → Int32) → Prop} {V : zVT} {X : zXT} (L : zLaws l D base cc own y R nL Sx V X) {pc : Nat} {ls : List (Nat × Value)} {st : List Value} {h : zH} {n k g : Nat} {i : Nat} {ci j a : Nat} {fs : List Value} {v : Value} {ty : FieldType} {h2 : zH} (d : decode cc pc = .ok (.putfield i, 3)) (hy9 : y.name = "<init>") (hf : zFP own i ci j true ty) (ha : h a = some (.inr (ci, fs))) (hj : j < fs.length) (hn : narrow ty v = v) (hi : fits ty v = true) (he : zput h a (some (.inr (ci, fs.set j v))) = h2) (kk : V (pc + 3) ls st h2 n k g) : V pc ls (v :: .ref a :: st) h n k g := by
  exact L.2.2.2.2.2.2.2.2.2.2.2.2.2.2.2.2.2.2.2.2.2.2.2.2.2.2.2.2.2.2.2.2.2.2.2.2.2.2.2.2.2.2.2.2.2.2.2.2.2.2.2.2.2.2.2.2.2.2.2.2.2.2.2.2.2.2.2.2.2.2.2.2.2.2.2.2.2.2.2.2.2.2.2.2.1 pc ls st h n k g i ci j a fs v ty h2 d hy9 hf ha hj hn hi he kk
theorem zLaws.iald {l : Launch} {D : va_G} {base : Nat} {cc : ByteArray} {own : String} {y : MethodName} {R : Room} {nL : Nat} {Sx : Nat → (Nat → Int32) → Prop} {V : zVT} {X : zXT} (L : zLaws l D base cc own y R nL Sx V X) {pc : Nat} {ls : List (Nat × Value)} {st : List Value} {h : zH} {n k g : Nat} {a N : Nat} {f : Nat → Int32} {i : Int32} {j : Nat} (d : decode cc pc = .ok (.iaload, 1)) (ha : h a = some (.inl (N, .inl f))) (hi : zix i j) (hj : j < N) (kk : V (pc + 1) ls (.int (f j) :: st) h n k g) : V pc ls (.int i :: .ref a :: st) h n k g := by
  exact L.2.2.2.2.2.2.2.2.2.2.2.2.2.2.2.2.2.2.2.2.2.2.2.2.2.2.2.2.2.2.2.2.2.2.2.2.2.2.2.2.2.2.2.2.2.2.2.2.2.2.2.2.2.2.2.2.2.2.2.2.2.2.2.2.2.2.2.2.2.2.2.2.2.2.2.2.2.2.2.2.2.2.2.2.2.1 pc ls st h n k g a N f i j d ha hi hj kk
theorem zLaws.lald {l : Launch} {D : va_G} {base : Nat} {cc : ByteArray} {own : String} {y : MethodName} {R : Room} {nL : Nat} {Sx : Nat → (Nat → Int32) → Prop} {V : zVT} {X : zXT} (L : zLaws l D base cc own y R nL Sx V X) {pc : Nat} {ls : List (Nat × Value)} {st : List Value} {h : zH} {n k g : Nat} {a N : Nat} {f : Nat → Int64} {i : Int32} {j : Nat} (d : decode cc pc = .ok (.laload, 1)) (ha : h a = some (.inl (N, .inr (.inl f)))) (hi : zix i j) (hj : j < N) (kk : V (pc + 1) ls (.long (f j) :: st) h n k g) : V pc ls (.int i :: .ref a :: st) h n k g := by
  exact L.2.2.2.2.2.2.2.2.2.2.2.2.2.2.2.2.2.2.2.2.2.2.2.2.2.2.2.2.2.2.2.2.2.2.2.2.2.2.2.2.2.2.2.2.2.2.2.2.2.2.2.2.2.2.2.2.2.2.2.2.2.2.2.2.2.2.2.2.2.2.2.2.2.2.2.2.2.2.2.2.2.2.2.2.2.2.1 pc ls st h n k g a N f i j d ha hi hj kk
theorem zLaws.aald {l : Launch} {D : va_G} {base : Nat} {cc : ByteArray} {own : String} {y : MethodName} {R : Room} {nL : Nat} {Sx : Nat → (Nat → Int32) → Prop} {V : zVT} {X : zXT} (L : zLaws l D base cc own y R nL Sx V X) {pc : Nat} {ls : List (Nat × Value)} {st : List Value} {h : zH} {n k g : Nat} {a N : Nat} {f : Nat → Option Nat} {i : Int32} {j : Nat} (d : decode cc pc = .ok (.aaload, 1)) (ha : h a = some (.inl (N, .inr (.inr (.inr (.inr f)))))) (hi : zix i j) (hj : j < N) (kk : V (pc + 1) ls (va_rf (f j) :: st) h n k g) : V pc ls (.int i :: .ref a :: st) h n k g := by
  exact L.2.2.2.2.2.2.2.2.2.2.2.2.2.2.2.2.2.2.2.2.2.2.2.2.2.2.2.2.2.2.2.2.2.2.2.2.2.2.2.2.2.2.2.2.2.2.2.2.2.2.2.2.2.2.2.2.2.2.2.2.2.2.2.2.2.2.2.2.2.2.2.2.2.2.2.2.2.2.2.2.2.2.2.2.2.2.2.1 pc ls st h n k g a N f i j d ha hi hj kk
theorem zLaws.iast {l : Launch} {D : va_G} {base : Nat} {cc : ByteArray} {own : String} {y : MethodName} {R : Room} {nL : Nat} {Sx : Nat → (Nat → Int32) → Prop} {V : zVT} {X : zXT} (L : zLaws l D base cc own y R nL Sx V X) {pc : Nat} {ls : List (Nat × Value)} {st : List Value} {h : zH} {n k g : Nat} {a N : Nat} {f : Nat → Int32} {i x : Int32} {j : Nat} {h2 : zH} (d : decode cc pc = .ok (.iastore, 1)) (ha : h a = some (.inl (N, .inl f))) (hi : zix i j) (hj : j < N) (he : zput h a (some (.inl (N, .inl (va_up f j x)))) = h2) (kk : V (pc + 1) ls st h2 n k g) : V pc ls (.int x :: .int i :: .ref a :: st) h n k g := by
  exact L.2.2.2.2.2.2.2.2.2.2.2.2.2.2.2.2.2.2.2.2.2.2.2.2.2.2.2.2.2.2.2.2.2.2.2.2.2.2.2.2.2.2.2.2.2.2.2.2.2.2.2.2.2.2.2.2.2.2.2.2.2.2.2.2.2.2.2.2.2.2.2.2.2.2.2.2.2.2.2.2.2.2.2.2.2.2.2.2.1 pc ls st h n k g a N f i x j h2 d ha hi hj he kk
theorem zLaws.last {l : Launch} {D : va_G} {base : Nat} {cc : ByteArray} {own : String} {y : MethodName} {R : Room} {nL : Nat} {Sx : Nat → (Nat → Int32) → Prop} {V : zVT} {X : zXT} (L : zLaws l D base cc own y R nL Sx V X) {pc : Nat} {ls : List (Nat × Value)} {st : List Value} {h : zH} {n k g : Nat} {a N : Nat} {f : Nat → Int64} {i : Int32} {x : Int64} {j : Nat} {h2 : zH} (d : decode cc pc = .ok (.lastore, 1)) (ha : h a = some (.inl (N, .inr (.inl f)))) (hi : zix i j) (hj : j < N) (he : zput h a (some (.inl (N, .inr (.inl (va_up f j x))))) = h2) (kk : V (pc + 1) ls st h2 n k g) : V pc ls (.long x :: .int i :: .ref a :: st) h n k g := by
  exact L.2.2.2.2.2.2.2.2.2.2.2.2.2.2.2.2.2.2.2.2.2.2.2.2.2.2.2.2.2.2.2.2.2.2.2.2.2.2.2.2.2.2.2.2.2.2.2.2.2.2.2.2.2.2.2.2.2.2.2.2.2.2.2.2.2.2.2.2.2.2.2.2.2.2.2.2.2.2.2.2.2.2.2.2.2.2.2.2.2.1 pc ls st h n k g a N f i x j h2 d ha hi hj he kk
theorem zLaws.aast {l : Launch} {D : va_G} {base : Nat} {cc : ByteArray} {own : String} {y : MethodName} {R : Room} {nL : Nat} {Sx : Nat → (Nat → Int32) → Prop} {V : zVT} {X : zXT} (L : zLaws l D base cc own y R nL Sx V X) {pc : Nat} {ls : List (Nat × Value)} {st : List Value} {h : zH} {n k g : Nat} {a b N : Nat} {f : Nat → Option Nat} {fs : List Value} {i : Int32} {j : Nat} {h2 : zH} (d : decode cc pc = .ok (.aastore, 1)) (ha : h a = some (.inl (N, .inr (.inr (.inr (.inr f)))))) (hb9 : h b = some (.inr (0, fs))) (hi : zix i j) (hj : j < N) (he : zput h a (some (.inl (N, .inr (.inr (.inr (.inr (va_up f j (some b)))))))) = h2) (kk : V (pc + 1) ls st h2 n k g) : V pc ls (.ref b :: .int i :: .ref a :: st) h n k g := by
  exact L.2.2.2.2.2.2.2.2.2.2.2.2.2.2.2.2.2.2.2.2.2.2.2.2.2.2.2.2.2.2.2.2.2.2.2.2.2.2.2.2.2.2.2.2.2.2.2.2.2.2.2.2.2.2.2.2.2.2.2.2.2.2.2.2.2.2.2.2.2.2.2.2.2.2.2.2.2.2.2.2.2.2.2.2.2.2.2.2.2.2.1 pc ls st h n k g a b N f fs i j h2 d ha hb9 hi hj he kk
theorem zLaws.alen {l : Launch} {D : va_G} {base : Nat} {cc : ByteArray} {own : String} {y : MethodName} {R : Room} {nL : Nat} {Sx : Nat → (Nat → Int32) → Prop} {V : zVT} {X : zXT} (L : zLaws l D base cc own y R nL Sx V X) {pc : Nat} {ls : List (Nat × Value)} {st : List Value} {h : zH} {n k g : Nat} {a N : Nat} {f : Nat → Int32} {v : Int32} (d : decode cc pc = .ok (.arraylength, 1)) (ha : h a = some (.inl (N, .inl f))) (hv : Int32.ofNat N = v) (kk : V (pc + 1) ls (.int v :: st) h n k g) : V pc ls (.ref a :: st) h n k g := by
  exact L.2.2.2.2.2.2.2.2.2.2.2.2.2.2.2.2.2.2.2.2.2.2.2.2.2.2.2.2.2.2.2.2.2.2.2.2.2.2.2.2.2.2.2.2.2.2.2.2.2.2.2.2.2.2.2.2.2.2.2.2.2.2.2.2.2.2.2.2.2.2.2.2.2.2.2.2.2.2.2.2.2.2.2.2.2.2.2.2.2.2.2.1 pc ls st h n k g a N f v d ha hv kk
theorem zLaws.newi {l : Launch} {D : va_G} {base : Nat} {cc : ByteArray} {own : String} {y : MethodName} {R : Room} {nL : Nat} {Sx : Nat → (Nat → Int32) → Prop} {V : zVT} {X : zXT} (L : zLaws l D base cc own y R nL Sx V X) {pc : Nat} {ls : List (Nat × Value)} {st : List Value} {h : zH} {n k g : Nat} {i : Int32} {N : Nat} {h2 : zH} (d : decode cc pc = .ok (.newarray .int, 2)) (hi : zix i N) (hN : N ≤ 100000) (r1 : k + 1 ≤ R.cells) (r2 : g + N ≤ R.slots) (he : zput h n (some (.inl (N, .inl (fun _ => 0)))) = h2) (kk : V (pc + 2) ls (.ref n :: st) h2 (n + 1) (k + 1) (g + N)) : V pc ls (.int i :: st) h n k g := by
  exact L.2.2.2.2.2.2.2.2.2.2.2.2.2.2.2.2.2.2.2.2.2.2.2.2.2.2.2.2.2.2.2.2.2.2.2.2.2.2.2.2.2.2.2.2.2.2.2.2.2.2.2.2.2.2.2.2.2.2.2.2.2.2.2.2.2.2.2.2.2.2.2.2.2.2.2.2.2.2.2.2.2.2.2.2.2.2.2.2.2.2.2.2.1 pc ls st h n k g i N h2 d hi hN r1 r2 he kk
theorem zLaws.newl {l : Launch} {D : va_G} {base : Nat} {cc : ByteArray} {own : String} {y : MethodName} {R : Room} {nL : Nat} {Sx : Nat → (Nat → Int32) → Prop} {V : zVT} {X : zXT} (L : zLaws l D base cc own y R nL Sx V X) {pc : Nat} {ls : List (Nat × Value)} {st : List Value} {h : zH} {n k g : Nat} {i : Int32} {N : Nat} {h2 : zH} (d : decode cc pc = .ok (.newarray .long, 2)) (hi : zix i N) (hN : N ≤ 100000) (r1 : k + 1 ≤ R.cells) (r2 : g + N ≤ R.slots) (he : zput h n (some (.inl (N, .inr (.inl (fun _ => 0))))) = h2) (kk : V (pc + 2) ls (.ref n :: st) h2 (n + 1) (k + 1) (g + N)) : V pc ls (.int i :: st) h n k g := by
  exact L.2.2.2.2.2.2.2.2.2.2.2.2.2.2.2.2.2.2.2.2.2.2.2.2.2.2.2.2.2.2.2.2.2.2.2.2.2.2.2.2.2.2.2.2.2.2.2.2.2.2.2.2.2.2.2.2.2.2.2.2.2.2.2.2.2.2.2.2.2.2.2.2.2.2.2.2.2.2.2.2.2.2.2.2.2.2.2.2.2.2.2.2.2.1 pc ls st h n k g i N h2 d hi hN r1 r2 he kk
theorem zLaws.newq {l : Launch} {D : va_G} {base : Nat} {cc : ByteArray} {own : String} {y : MethodName} {R : Room} {nL : Nat} {Sx : Nat → (Nat → Int32) → Prop} {V : zVT} {X : zXT} (L : zLaws l D base cc own y R nL Sx V X) {pc : Nat} {ls : List (Nat × Value)} {st : List Value} {h : zH} {n k g : Nat} {x : Nat} {i : Int32} {N : Nat} {h2 : zH} (d : decode cc pc = .ok (.anewarray x, 3)) (hc : Cond.classLink own x RX0 ∈ zGA) (hi : zix i N) (hN : N ≤ 100000) (r1 : k + 1 ≤ R.cells) (r2 : g + N ≤ R.slots) (he : zput h n (some (.inl (N, .inr (.inr (.inr (.inr (fun _ => none))))))) = h2) (kk : V (pc + 3) ls (.ref n :: st) h2 (n + 1) (k + 1) (g + N)) : V pc ls (.int i :: st) h n k g := by
  exact L.2.2.2.2.2.2.2.2.2.2.2.2.2.2.2.2.2.2.2.2.2.2.2.2.2.2.2.2.2.2.2.2.2.2.2.2.2.2.2.2.2.2.2.2.2.2.2.2.2.2.2.2.2.2.2.2.2.2.2.2.2.2.2.2.2.2.2.2.2.2.2.2.2.2.2.2.2.2.2.2.2.2.2.2.2.2.2.2.2.2.2.2.2.2.1 pc ls st h n k g x i N h2 d hc hi hN r1 r2 he kk
theorem zLaws.new {l : Launch} {D : va_G} {base : Nat} {cc : ByteArray} {own : String} {y : MethodName} {R : Room} {nL : Nat} {Sx : Nat → (Nat → Int32) → Prop} {V : zVT} {X : zXT} (L : zLaws l D base cc own y R nL Sx V X) {pc : Nat} {ls : List (Nat × Value)} {st : List Value} {h : zH} {n k g : Nat} {x ci N : Nat} {fs : List Value} {h2 : zH} (d : decode cc pc = .ok (.new x, 3)) (hw : zNW own x ci fs N) (r1 : k + 1 ≤ R.cells) (r2 : g + N ≤ R.slots) (he : zput h n (some (.inr (ci, fs))) = h2) (kk : V (pc + 3) ls (.ref n :: st) h2 (n + 1) (k + 1) (g + N)) : V pc ls (st) h n k g := by
  exact L.2.2.2.2.2.2.2.2.2.2.2.2.2.2.2.2.2.2.2.2.2.2.2.2.2.2.2.2.2.2.2.2.2.2.2.2.2.2.2.2.2.2.2.2.2.2.2.2.2.2.2.2.2.2.2.2.2.2.2.2.2.2.2.2.2.2.2.2.2.2.2.2.2.2.2.2.2.2.2.2.2.2.2.2.2.2.2.2.2.2.2.2.2.2.2.1 pc ls st h n k g x ci N fs h2 d hw r1 r2 he kk
theorem zLaws.getsK {l : Launch} {D : va_G} {base : Nat} {cc : ByteArray} {own : String} {y : MethodName} {R : Room} {nL : Nat} {Sx : Nat → (Nat → Int32) → Prop} {V : zVT} {X : zXT} (L : zLaws l D base cc own y R nL Sx V X) {pc : Nat} {ls : List (Nat × Value)} {st : List Value} {h : zH} {n k g : Nat} {x : Nat} (d : decode cc pc = .ok (.getstatic x, 3)) (hw : Cond.fieldLinkNest own x RX4 "FIRST_KINDS" "[I" RX4 ∈ zNG) (kk : ∀ t, Sx t zfk → V (pc + 3) ls (.ref t :: st) h n k g) : V pc ls (st) h n k g := by
  exact L.2.2.2.2.2.2.2.2.2.2.2.2.2.2.2.2.2.2.2.2.2.2.2.2.2.2.2.2.2.2.2.2.2.2.2.2.2.2.2.2.2.2.2.2.2.2.2.2.2.2.2.2.2.2.2.2.2.2.2.2.2.2.2.2.2.2.2.2.2.2.2.2.2.2.2.2.2.2.2.2.2.2.2.2.2.2.2.2.2.2.2.2.2.2.2.2.1 pc ls st h n k g x d hw kk
theorem zLaws.getsP {l : Launch} {D : va_G} {base : Nat} {cc : ByteArray} {own : String} {y : MethodName} {R : Room} {nL : Nat} {Sx : Nat → (Nat → Int32) → Prop} {V : zVT} {X : zXT} (L : zLaws l D base cc own y R nL Sx V X) {pc : Nat} {ls : List (Nat × Value)} {st : List Value} {h : zH} {n k g : Nat} {x : Nat} (d : decode cc pc = .ok (.getstatic x, 3)) (hw : Cond.fieldLinkNest own x RX4 "FIRST_PAYS" "[I" RX4 ∈ zNG) (kk : ∀ t, Sx t zfp → V (pc + 3) ls (.ref t :: st) h n k g) : V pc ls (st) h n k g := by
  exact L.2.2.2.2.2.2.2.2.2.2.2.2.2.2.2.2.2.2.2.2.2.2.2.2.2.2.2.2.2.2.2.2.2.2.2.2.2.2.2.2.2.2.2.2.2.2.2.2.2.2.2.2.2.2.2.2.2.2.2.2.2.2.2.2.2.2.2.2.2.2.2.2.2.2.2.2.2.2.2.2.2.2.2.2.2.2.2.2.2.2.2.2.2.2.2.2.2.1 pc ls st h n k g x d hw kk
theorem zLaws.copyx {l : Launch} {D : va_G} {base : Nat} {cc : ByteArray} {own : String} {y : MethodName} {R : Room} {nL : Nat} {Sx : Nat → (Nat → Int32) → Prop} {V : zVT} {X : zXT} (L : zLaws l D base cc own y R nL Sx V X) {pc : Nat} {ls : List (Nat × Value)} {st : List Value} {h : zH} {n k g : Nat} {x a t N : Nat} {f f0 : Nat → Int32} {h2 : zH} (d : decode cc pc = .ok (.invokestatic x, 3)) (hw : Cond.methodLink own x arraycopyName ∈ zGA) (ht : Sx t f) (ha : h a = some (.inl (N, .inl f0))) (hN : 7 ≤ N) (r1 : 1 ≤ R.frames) (r2 : 64 ≤ R.locals) (r3 : zcat st ≤ 8) (he : zput h a (some (.inl (N, .inl (va_cpy f f0 0 0 7)))) = h2) (kk : V (pc + 3) ls st h2 n k g) : V pc ls (.int 7 :: .int 0 :: .ref a :: .int 0 :: .ref t :: st) h n k g := by
  exact L.2.2.2.2.2.2.2.2.2.2.2.2.2.2.2.2.2.2.2.2.2.2.2.2.2.2.2.2.2.2.2.2.2.2.2.2.2.2.2.2.2.2.2.2.2.2.2.2.2.2.2.2.2.2.2.2.2.2.2.2.2.2.2.2.2.2.2.2.2.2.2.2.2.2.2.2.2.2.2.2.2.2.2.2.2.2.2.2.2.2.2.2.2.2.2.2.2.2.1 pc ls st h n k g x a t N f f0 h2 d hw ht ha hN r1 r2 r3 he kk
theorem zLaws.copyi {l : Launch} {D : va_G} {base : Nat} {cc : ByteArray} {own : String} {y : MethodName} {R : Room} {nL : Nat} {Sx : Nat → (Nat → Int32) → Prop} {V : zVT} {X : zXT} (L : zLaws l D base cc own y R nL Sx V X) {pc : Nat} {ls : List (Nat × Value)} {st : List Value} {h : zH} {n k g : Nat} {x a b N M j : Nat} {c : Int32} {f f0 : Nat → Int32} {h2 : zH} (d : decode cc pc = .ok (.invokestatic x, 3)) (hw : Cond.methodLink own x arraycopyName ∈ zGA) (hb9 : h b = some (.inl (M, .inl f))) (ha : h a = some (.inl (N, .inl f0))) (hc : zix c j) (hM : j ≤ M) (hN : j ≤ N) (r1 : 1 ≤ R.frames) (r2 : 64 ≤ R.locals) (r3 : zcat st ≤ 8) (he : zput h a (some (.inl (N, .inl (va_cpy f f0 0 0 j)))) = h2) (kk : V (pc + 3) ls st h2 n k g) : V pc ls (.int c :: .int 0 :: .ref a :: .int 0 :: .ref b :: st) h n k g := by
  exact L.2.2.2.2.2.2.2.2.2.2.2.2.2.2.2.2.2.2.2.2.2.2.2.2.2.2.2.2.2.2.2.2.2.2.2.2.2.2.2.2.2.2.2.2.2.2.2.2.2.2.2.2.2.2.2.2.2.2.2.2.2.2.2.2.2.2.2.2.2.2.2.2.2.2.2.2.2.2.2.2.2.2.2.2.2.2.2.2.2.2.2.2.2.2.2.2.2.2.2.1 pc ls st h n k g x a b N M j c f f0 h2 d hw hb9 ha hc hM hN r1 r2 r3 he kk
theorem zLaws.d2raw {l : Launch} {D : va_G} {base : Nat} {cc : ByteArray} {own : String} {y : MethodName} {R : Room} {nL : Nat} {Sx : Nat → (Nat → Int32) → Prop} {V : zVT} {X : zXT} (L : zLaws l D base cc own y R nL Sx V X) {pc : Nat} {ls : List (Nat × Value)} {st : List Value} {h : zH} {n k g : Nat} {x : Nat} {v : UInt64} (d : decode cc pc = .ok (.invokestatic x, 3)) (hw : Cond.methodLink own x ⟨"java/lang/Double", "doubleToRawLongBits", "(D)J"⟩ ∈ zGA) (r1 : 1 ≤ R.frames) (r2 : 64 ≤ R.locals) (r3 : zcat st ≤ 8) (kk : V (pc + 3) ls (.long v.toInt64 :: st) h n k g) : V pc ls (.double v :: st) h n k g := by
  exact L.2.2.2.2.2.2.2.2.2.2.2.2.2.2.2.2.2.2.2.2.2.2.2.2.2.2.2.2.2.2.2.2.2.2.2.2.2.2.2.2.2.2.2.2.2.2.2.2.2.2.2.2.2.2.2.2.2.2.2.2.2.2.2.2.2.2.2.2.2.2.2.2.2.2.2.2.2.2.2.2.2.2.2.2.2.2.2.2.2.2.2.2.2.2.2.2.2.2.2.2.1 pc ls st h n k g x v d hw r1 r2 r3 kk
theorem zLaws.objInit {l : Launch} {D : va_G} {base : Nat} {cc : ByteArray} {own : String} {y : MethodName} {R : Room} {nL : Nat} {Sx : Nat → (Nat → Int32) → Prop} {V : zVT} {X : zXT} (L : zLaws l D base cc own y R nL Sx V X) {pc : Nat} {ls : List (Nat × Value)} {st : List Value} {h : zH} {n k g : Nat} {x a : Nat} (d : decode cc pc = .ok (.invokespecial x, 3)) (hw : Cond.methodLink own x Lib.objectInit ∈ zGA) (r1 : 1 ≤ R.frames) (r2 : 64 ≤ R.locals) (r3 : zcat st ≤ 8) (kk : V (pc + 3) ls st h n k g) : V pc ls (.ref a :: st) h n k g := by
  exact L.2.2.2.2.2.2.2.2.2.2.2.2.2.2.2.2.2.2.2.2.2.2.2.2.2.2.2.2.2.2.2.2.2.2.2.2.2.2.2.2.2.2.2.2.2.2.2.2.2.2.2.2.2.2.2.2.2.2.2.2.2.2.2.2.2.2.2.2.2.2.2.2.2.2.2.2.2.2.2.2.2.2.2.2.2.2.2.2.2.2.2.2.2.2.2.2.2.2.2.2.2.1 pc ls st h n k g x a d hw r1 r2 r3 kk
theorem zLaws.callV {l : Launch} {D : va_G} {base : Nat} {cc : ByteArray} {own : String} {y : MethodName} {R : Room} {nL : Nat} {Sx : Nat → (Nat → Int32) → Prop} {V : zVT} {X : zXT} (L : zLaws l D base cc own y R nL Sx V X) {pc : Nat} {ls : List (Nat × Value)} {st : List Value} {h : zH} {n k g : Nat} {x na dd2 mc ms maxL : Nat} {y2 : MethodName} {bytes : ByteArray} {ret : Option FieldType} {P : zO → zH → Nat → Prop} {rest : List Value} {b ci : Nat} {fs : List Value} {As : List Value} (d : decode cc pc = .ok (.invokevirtual x, 3)) (hM : zCt l D base dd2 y2 (.code y2 bytes maxL ret) (.ref b :: As) h n mc ms P) (hm : zMY y2 bytes maxL ret na) (hv : zLV own x y2) (hb9 : h b = some (.inr (ci, fs))) (hcl : (vwCl[ci]?).map (fun q => q.1) = some y2.cls) (hA : As.length = na) (hst : st = As.reverse ++ .ref b :: rest) (q1 : dd2 + 1 ≤ R.frames) (q2 : 64 * (dd2 + 1) ≤ R.locals) (q3 : zcat rest ≤ 8) (q4 : k + mc ≤ R.cells) (q5 : g + ms ≤ R.slots) (kk : ∀ v h2 n2, n ≤ n2 → P (.inl v) h2 n2 → V (pc + 3) ls (v.toList ++ rest) h2 n2 (k + mc) (g + ms)) (kx : ∀ E h2 n2, n ≤ n2 → P (.inr E) h2 n2 → X pc ls rest h2 n2 (k + mc) (g + ms) E) : V pc ls (st) h n k g := by
  exact L.2.2.2.2.2.2.2.2.2.2.2.2.2.2.2.2.2.2.2.2.2.2.2.2.2.2.2.2.2.2.2.2.2.2.2.2.2.2.2.2.2.2.2.2.2.2.2.2.2.2.2.2.2.2.2.2.2.2.2.2.2.2.2.2.2.2.2.2.2.2.2.2.2.2.2.2.2.2.2.2.2.2.2.2.2.2.2.2.2.2.2.2.2.2.2.2.2.2.2.2.2.2.1 pc ls st h n k g x na dd2 mc ms maxL y2 bytes ret P rest b ci fs As d hM hm hv hb9 hcl hA hst q1 q2 q3 q4 q5 kk kx
theorem zLaws.callS {l : Launch} {D : va_G} {base : Nat} {cc : ByteArray} {own : String} {y : MethodName} {R : Room} {nL : Nat} {Sx : Nat → (Nat → Int32) → Prop} {V : zVT} {X : zXT} (L : zLaws l D base cc own y R nL Sx V X) {pc : Nat} {ls : List (Nat × Value)} {st : List Value} {h : zH} {n k g : Nat} {x na dd2 mc ms maxL : Nat} {y2 : MethodName} {bytes : ByteArray} {ret : Option FieldType} {P : zO → zH → Nat → Prop} {rest : List Value} {As : List Value} (d : decode cc pc = .ok (.invokestatic x, 3)) (hM : zCt l D base dd2 y2 (.code y2 bytes maxL ret) As h n mc ms P) (hm : zMY y2 bytes maxL ret na) (hv : zLS own x y2) (hA : As.length = na) (hst : st = As.reverse ++ rest) (q1 : dd2 + 1 ≤ R.frames) (q2 : 64 * (dd2 + 1) ≤ R.locals) (q3 : zcat rest ≤ 8) (q4 : k + mc ≤ R.cells) (q5 : g + ms ≤ R.slots) (kk : ∀ v h2 n2, n ≤ n2 → P (.inl v) h2 n2 → V (pc + 3) ls (v.toList ++ rest) h2 n2 (k + mc) (g + ms)) (kx : ∀ E h2 n2, n ≤ n2 → P (.inr E) h2 n2 → X pc ls rest h2 n2 (k + mc) (g + ms) E) : V pc ls (st) h n k g := by
  exact L.2.2.2.2.2.2.2.2.2.2.2.2.2.2.2.2.2.2.2.2.2.2.2.2.2.2.2.2.2.2.2.2.2.2.2.2.2.2.2.2.2.2.2.2.2.2.2.2.2.2.2.2.2.2.2.2.2.2.2.2.2.2.2.2.2.2.2.2.2.2.2.2.2.2.2.2.2.2.2.2.2.2.2.2.2.2.2.2.2.2.2.2.2.2.2.2.2.2.2.2.2.2.2.1 pc ls st h n k g x na dd2 mc ms maxL y2 bytes ret P rest As d hM hm hv hA hst q1 q2 q3 q4 q5 kk kx
theorem zLaws.callSH {l : Launch} {D : va_G} {base : Nat} {cc : ByteArray} {own : String} {y : MethodName} {R : Room} {nL : Nat} {Sx : Nat → (Nat → Int32) → Prop} {V : zVT} {X : zXT} (L : zLaws l D base cc own y R nL Sx V X) {pc : Nat} {ls : List (Nat × Value)} {st : List Value} {h : zH} {n k g : Nat} {x na dd2 mc ms maxL : Nat} {y2 : MethodName} {bytes : ByteArray} {ret : Option FieldType} {P : zO → zH → Nat → Prop} {rest : List Value} {hh : List (Nat × Nat × Nat × Nat)} {As : List Value} (d : decode cc pc = .ok (.invokestatic x, 3)) (hM : zCt l D base dd2 y2 (.codeWith y2 bytes maxL ret hh) As h n mc ms P) (hm : zMH y2 bytes maxL ret hh na) (hv : zLS own x y2) (hA : As.length = na) (hst : st = As.reverse ++ rest) (q1 : dd2 + 1 ≤ R.frames) (q2 : 64 * (dd2 + 1) ≤ R.locals) (q3 : zcat rest ≤ 8) (q4 : k + mc ≤ R.cells) (q5 : g + ms ≤ R.slots) (kk : ∀ v h2 n2, n ≤ n2 → P (.inl v) h2 n2 → V (pc + 3) ls (v.toList ++ rest) h2 n2 (k + mc) (g + ms)) (kx : ∀ E h2 n2, n ≤ n2 → P (.inr E) h2 n2 → X pc ls rest h2 n2 (k + mc) (g + ms) E) : V pc ls (st) h n k g := by
  exact L.2.2.2.2.2.2.2.2.2.2.2.2.2.2.2.2.2.2.2.2.2.2.2.2.2.2.2.2.2.2.2.2.2.2.2.2.2.2.2.2.2.2.2.2.2.2.2.2.2.2.2.2.2.2.2.2.2.2.2.2.2.2.2.2.2.2.2.2.2.2.2.2.2.2.2.2.2.2.2.2.2.2.2.2.2.2.2.2.2.2.2.2.2.2.2.2.2.2.2.2.2.2.2.2.1 pc ls st h n k g x na dd2 mc ms maxL y2 bytes ret P rest hh As d hM hm hv hA hst q1 q2 q3 q4 q5 kk kx
theorem zLaws.callSN {l : Launch} {D : va_G} {base : Nat} {cc : ByteArray} {own : String} {y : MethodName} {R : Room} {nL : Nat} {Sx : Nat → (Nat → Int32) → Prop} {V : zVT} {X : zXT} (L : zLaws l D base cc own y R nL Sx V X) {pc : Nat} {ls : List (Nat × Value)} {st : List Value} {h : zH} {n k g : Nat} {x na dd2 mc ms maxL : Nat} {y2 : MethodName} {bytes : ByteArray} {ret : Option FieldType} {P : zO → zH → Nat → Prop} {rest : List Value} {host : String} {As : List Value} (d : decode cc pc = .ok (.invokestatic x, 3)) (hM : zCt l D base dd2 y2 (.code y2 bytes maxL ret) As h n mc ms P) (hm : zMY y2 bytes maxL ret na) (hv : zLSN own x y2 host) (hA : As.length = na) (hst : st = As.reverse ++ rest) (q1 : dd2 + 1 ≤ R.frames) (q2 : 64 * (dd2 + 1) ≤ R.locals) (q3 : zcat rest ≤ 8) (q4 : k + mc ≤ R.cells) (q5 : g + ms ≤ R.slots) (kk : ∀ v h2 n2, n ≤ n2 → P (.inl v) h2 n2 → V (pc + 3) ls (v.toList ++ rest) h2 n2 (k + mc) (g + ms)) (kx : ∀ E h2 n2, n ≤ n2 → P (.inr E) h2 n2 → X pc ls rest h2 n2 (k + mc) (g + ms) E) : V pc ls (st) h n k g := by
  exact L.2.2.2.2.2.2.2.2.2.2.2.2.2.2.2.2.2.2.2.2.2.2.2.2.2.2.2.2.2.2.2.2.2.2.2.2.2.2.2.2.2.2.2.2.2.2.2.2.2.2.2.2.2.2.2.2.2.2.2.2.2.2.2.2.2.2.2.2.2.2.2.2.2.2.2.2.2.2.2.2.2.2.2.2.2.2.2.2.2.2.2.2.2.2.2.2.2.2.2.2.2.2.2.2.2.1 pc ls st h n k g x na dd2 mc ms maxL y2 bytes ret P rest host As d hM hm hv hA hst q1 q2 q3 q4 q5 kk kx
theorem zLaws.callI {l : Launch} {D : va_G} {base : Nat} {cc : ByteArray} {own : String} {y : MethodName} {R : Room} {nL : Nat} {Sx : Nat → (Nat → Int32) → Prop} {V : zVT} {X : zXT} (L : zLaws l D base cc own y R nL Sx V X) {pc : Nat} {ls : List (Nat × Value)} {st : List Value} {h : zH} {n k g : Nat} {x na dd2 mc ms maxL : Nat} {y2 : MethodName} {bytes : ByteArray} {P : zO → zH → Nat → Prop} {rest : List Value} {b : Nat} {As : List Value} (d : decode cc pc = .ok (.invokespecial x, 3)) (hM : zCt l D base dd2 y2 (.code y2 bytes maxL none) (.ref b :: As) h n mc ms P) (hm : zMY y2 bytes maxL none na) (hv : zLI own x y2) (hA : As.length = na) (hst : st = As.reverse ++ .ref b :: rest) (q1 : dd2 + 1 ≤ R.frames) (q2 : 64 * (dd2 + 1) ≤ R.locals) (q3 : zcat rest ≤ 8) (q4 : k + mc ≤ R.cells) (q5 : g + ms ≤ R.slots) (kk : ∀ v h2 n2, n ≤ n2 → P (.inl v) h2 n2 → V (pc + 3) ls (v.toList ++ rest) h2 n2 (k + mc) (g + ms)) (kx : ∀ E h2 n2, n ≤ n2 → P (.inr E) h2 n2 → X pc ls rest h2 n2 (k + mc) (g + ms) E) : V pc ls (st) h n k g := by
  exact L.2.2.2.2.2.2.2.2.2.2.2.2.2.2.2.2.2.2.2.2.2.2.2.2.2.2.2.2.2.2.2.2.2.2.2.2.2.2.2.2.2.2.2.2.2.2.2.2.2.2.2.2.2.2.2.2.2.2.2.2.2.2.2.2.2.2.2.2.2.2.2.2.2.2.2.2.2.2.2.2.2.2.2.2.2.2.2.2.2.2.2.2.2.2.2.2.2.2.2.2.2.2.2.2.2.2.1 pc ls st h n k g x na dd2 mc ms maxL y2 bytes P rest b As d hM hm hv hA hst q1 q2 q3 q4 q5 kk kx
theorem zLaws.callIN {l : Launch} {D : va_G} {base : Nat} {cc : ByteArray} {own : String} {y : MethodName} {R : Room} {nL : Nat} {Sx : Nat → (Nat → Int32) → Prop} {V : zVT} {X : zXT} (L : zLaws l D base cc own y R nL Sx V X) {pc : Nat} {ls : List (Nat × Value)} {st : List Value} {h : zH} {n k g : Nat} {x na dd2 mc ms maxL : Nat} {y2 : MethodName} {bytes : ByteArray} {P : zO → zH → Nat → Prop} {rest : List Value} {host : String} {b : Nat} {As : List Value} (d : decode cc pc = .ok (.invokespecial x, 3)) (hM : zCt l D base dd2 y2 (.code y2 bytes maxL none) (.ref b :: As) h n mc ms P) (hm : zMY y2 bytes maxL none na) (hv : zLIN own x y2 host) (hA : As.length = na) (hst : st = As.reverse ++ .ref b :: rest) (q1 : dd2 + 1 ≤ R.frames) (q2 : 64 * (dd2 + 1) ≤ R.locals) (q3 : zcat rest ≤ 8) (q4 : k + mc ≤ R.cells) (q5 : g + ms ≤ R.slots) (kk : ∀ v h2 n2, n ≤ n2 → P (.inl v) h2 n2 → V (pc + 3) ls (v.toList ++ rest) h2 n2 (k + mc) (g + ms)) (kx : ∀ E h2 n2, n ≤ n2 → P (.inr E) h2 n2 → X pc ls rest h2 n2 (k + mc) (g + ms) E) : V pc ls (st) h n k g := by
  exact L.2.2.2.2.2.2.2.2.2.2.2.2.2.2.2.2.2.2.2.2.2.2.2.2.2.2.2.2.2.2.2.2.2.2.2.2.2.2.2.2.2.2.2.2.2.2.2.2.2.2.2.2.2.2.2.2.2.2.2.2.2.2.2.2.2.2.2.2.2.2.2.2.2.2.2.2.2.2.2.2.2.2.2.2.2.2.2.2.2.2.2.2.2.2.2.2.2.2.2.2.2.2.2.2.2.2.2 pc ls st h n k g x na dd2 mc ms maxL y2 bytes P rest host b As d hM hm hv hA hst q1 q2 q3 q4 q5 kk kx
theorem zp_iconst {p : Program} {l : Launch} {e : Env} {R : Room} {s : State} {m : MethodId} {args : Array Value} {below : List Frame} {meth : Method} {c : Code} {Q : State → Prop} {D : va_G} {base : Nat} {cc : ByteArray} {own : String} {y : MethodName} {nL : Nat} (hx : p.tables.exec = Jvm.exec) (hb : c.code = cc) (hml : c.maxLocals = nL) (hown : s.vm.findClass own = some m.cls) (hts : ∀ w ∈ zGA, w.before args s = true) (hnm : meth.name = y.name) (hK : zK base D s s.heap) : zl_iconst l D base cc own y R nL (zSx base s) (zV p l e R s m args below meth c Q D base nL) (zX p l e R s m args below meth c Q D base nL) := by
  have hSx : ∀ t f, zSx base s t f → zSx base s t f := fun _ _ h => h
  have hSy : ∀ t f, zSx base s t f → zSx base s t f := fun _ _ h => h
  intro pc ls st h n k g i v d e kk H locs la hl hS
  exact lv_iconst hx hb d e (kk H locs la hl hS)
theorem zp_bipush {p : Program} {l : Launch} {e : Env} {R : Room} {s : State} {m : MethodId} {args : Array Value} {below : List Frame} {meth : Method} {c : Code} {Q : State → Prop} {D : va_G} {base : Nat} {cc : ByteArray} {own : String} {y : MethodName} {nL : Nat} (hx : p.tables.exec = Jvm.exec) (hb : c.code = cc) (hml : c.maxLocals = nL) (hown : s.vm.findClass own = some m.cls) (hts : ∀ w ∈ zGA, w.before args s = true) (hnm : meth.name = y.name) (hK : zK base D s s.heap) : zl_bipush l D base cc own y R nL (zSx base s) (zV p l e R s m args below meth c Q D base nL) (zX p l e R s m args below meth c Q D base nL) := by
  have hSx : ∀ t f, zSx base s t f → zSx base s t f := fun _ _ h => h
  have hSy : ∀ t f, zSx base s t f → zSx base s t f := fun _ _ h => h
  intro pc ls st h n k g i v d e kk H locs la hl hS
  exact lv_bipush hx hb d e (kk H locs la hl hS)
theorem zp_sipush {p : Program} {l : Launch} {e : Env} {R : Room} {s : State} {m : MethodId} {args : Array Value} {below : List Frame} {meth : Method} {c : Code} {Q : State → Prop} {D : va_G} {base : Nat} {cc : ByteArray} {own : String} {y : MethodName} {nL : Nat} (hx : p.tables.exec = Jvm.exec) (hb : c.code = cc) (hml : c.maxLocals = nL) (hown : s.vm.findClass own = some m.cls) (hts : ∀ w ∈ zGA, w.before args s = true) (hnm : meth.name = y.name) (hK : zK base D s s.heap) : zl_sipush l D base cc own y R nL (zSx base s) (zV p l e R s m args below meth c Q D base nL) (zX p l e R s m args below meth c Q D base nL) := by
  have hSx : ∀ t f, zSx base s t f → zSx base s t f := fun _ _ h => h
  have hSy : ∀ t f, zSx base s t f → zSx base s t f := fun _ _ h => h
  intro pc ls st h n k g i v d e kk H locs la hl hS
  exact lv_sipush hx hb d e (kk H locs la hl hS)
theorem zp_lconst {p : Program} {l : Launch} {e : Env} {R : Room} {s : State} {m : MethodId} {args : Array Value} {below : List Frame} {meth : Method} {c : Code} {Q : State → Prop} {D : va_G} {base : Nat} {cc : ByteArray} {own : String} {y : MethodName} {nL : Nat} (hx : p.tables.exec = Jvm.exec) (hb : c.code = cc) (hml : c.maxLocals = nL) (hown : s.vm.findClass own = some m.cls) (hts : ∀ w ∈ zGA, w.before args s = true) (hnm : meth.name = y.name) (hK : zK base D s s.heap) : zl_lconst l D base cc own y R nL (zSx base s) (zV p l e R s m args below meth c Q D base nL) (zX p l e R s m args below meth c Q D base nL) := by
  have hSx : ∀ t f, zSx base s t f → zSx base s t f := fun _ _ h => h
  have hSy : ∀ t f, zSx base s t f → zSx base s t f := fun _ _ h => h
  intro pc ls st h n k g i v d e kk H locs la hl hS
  exact lv_lconst hx hb d e (kk H locs la hl hS)
theorem zp_dconst0 {p : Program} {l : Launch} {e : Env} {R : Room} {s : State} {m : MethodId} {args : Array Value} {below : List Frame} {meth : Method} {c : Code} {Q : State → Prop} {D : va_G} {base : Nat} {cc : ByteArray} {own : String} {y : MethodName} {nL : Nat} (hx : p.tables.exec = Jvm.exec) (hb : c.code = cc) (hml : c.maxLocals = nL) (hown : s.vm.findClass own = some m.cls) (hts : ∀ w ∈ zGA, w.before args s = true) (hnm : meth.name = y.name) (hK : zK base D s s.heap) : zl_dconst0 l D base cc own y R nL (zSx base s) (zV p l e R s m args below meth c Q D base nL) (zX p l e R s m args below meth c Q D base nL) := by
  have hSx : ∀ t f, zSx base s t f → zSx base s t f := fun _ _ h => h
  have hSy : ∀ t f, zSx base s t f → zSx base s t f := fun _ _ h => h
  intro pc ls st h n k g  d kk H locs la hl hS
  exact lv_dconst0 hx hb d (kk H locs la hl hS)
theorem zp_dconst1 {p : Program} {l : Launch} {e : Env} {R : Room} {s : State} {m : MethodId} {args : Array Value} {below : List Frame} {meth : Method} {c : Code} {Q : State → Prop} {D : va_G} {base : Nat} {cc : ByteArray} {own : String} {y : MethodName} {nL : Nat} (hx : p.tables.exec = Jvm.exec) (hb : c.code = cc) (hml : c.maxLocals = nL) (hown : s.vm.findClass own = some m.cls) (hts : ∀ w ∈ zGA, w.before args s = true) (hnm : meth.name = y.name) (hK : zK base D s s.heap) : zl_dconst1 l D base cc own y R nL (zSx base s) (zV p l e R s m args below meth c Q D base nL) (zX p l e R s m args below meth c Q D base nL) := by
  have hSx : ∀ t f, zSx base s t f → zSx base s t f := fun _ _ h => h
  have hSy : ∀ t f, zSx base s t f → zSx base s t f := fun _ _ h => h
  intro pc ls st h n k g  d kk H locs la hl hS
  exact lv_dconst1 hx hb d (kk H locs la hl hS)
theorem zp_null {p : Program} {l : Launch} {e : Env} {R : Room} {s : State} {m : MethodId} {args : Array Value} {below : List Frame} {meth : Method} {c : Code} {Q : State → Prop} {D : va_G} {base : Nat} {cc : ByteArray} {own : String} {y : MethodName} {nL : Nat} (hx : p.tables.exec = Jvm.exec) (hb : c.code = cc) (hml : c.maxLocals = nL) (hown : s.vm.findClass own = some m.cls) (hts : ∀ w ∈ zGA, w.before args s = true) (hnm : meth.name = y.name) (hK : zK base D s s.heap) : zl_null l D base cc own y R nL (zSx base s) (zV p l e R s m args below meth c Q D base nL) (zX p l e R s m args below meth c Q D base nL) := by
  have hSx : ∀ t f, zSx base s t f → zSx base s t f := fun _ _ h => h
  have hSy : ∀ t f, zSx base s t f → zSx base s t f := fun _ _ h => h
  intro pc ls st h n k g  d kk H locs la hl hS
  exact lv_null hx hb d (kk H locs la hl hS)
theorem zp_ldc {p : Program} {l : Launch} {e : Env} {R : Room} {s : State} {m : MethodId} {args : Array Value} {below : List Frame} {meth : Method} {c : Code} {Q : State → Prop} {D : va_G} {base : Nat} {cc : ByteArray} {own : String} {y : MethodName} {nL : Nat} (hx : p.tables.exec = Jvm.exec) (hb : c.code = cc) (hml : c.maxLocals = nL) (hown : s.vm.findClass own = some m.cls) (hts : ∀ w ∈ zGA, w.before args s = true) (hnm : meth.name = y.name) (hK : zK base D s s.heap) : zl_ldc l D base cc own y R nL (zSx base s) (zV p l e R s m args below meth c Q D base nL) (zX p l e R s m args below meth c Q D base nL) := by
  have hSx : ∀ t f, zSx base s t f → zSx base s t f := fun _ _ h => h
  have hSy : ∀ t f, zSx base s t f → zSx base s t f := fun _ _ h => h
  intro pc ls st h n k g i v d e kk H locs la hl hS
  exact lv_ldc hx hb hown (hts _ e) d (kk H locs la hl hS)
theorem zp_ldc2 {p : Program} {l : Launch} {e : Env} {R : Room} {s : State} {m : MethodId} {args : Array Value} {below : List Frame} {meth : Method} {c : Code} {Q : State → Prop} {D : va_G} {base : Nat} {cc : ByteArray} {own : String} {y : MethodName} {nL : Nat} (hx : p.tables.exec = Jvm.exec) (hb : c.code = cc) (hml : c.maxLocals = nL) (hown : s.vm.findClass own = some m.cls) (hts : ∀ w ∈ zGA, w.before args s = true) (hnm : meth.name = y.name) (hK : zK base D s s.heap) : zl_ldc2 l D base cc own y R nL (zSx base s) (zV p l e R s m args below meth c Q D base nL) (zX p l e R s m args below meth c Q D base nL) := by
  have hSx : ∀ t f, zSx base s t f → zSx base s t f := fun _ _ h => h
  have hSy : ∀ t f, zSx base s t f → zSx base s t f := fun _ _ h => h
  intro pc ls st h n k g i v d e kk H locs la hl hS
  exact lv_ldc2 hx hb hown (hts _ e) d (kk H locs la hl hS)
theorem zp_ldc2d {p : Program} {l : Launch} {e : Env} {R : Room} {s : State} {m : MethodId} {args : Array Value} {below : List Frame} {meth : Method} {c : Code} {Q : State → Prop} {D : va_G} {base : Nat} {cc : ByteArray} {own : String} {y : MethodName} {nL : Nat} (hx : p.tables.exec = Jvm.exec) (hb : c.code = cc) (hml : c.maxLocals = nL) (hown : s.vm.findClass own = some m.cls) (hts : ∀ w ∈ zGA, w.before args s = true) (hnm : meth.name = y.name) (hK : zK base D s s.heap) : zl_ldc2d l D base cc own y R nL (zSx base s) (zV p l e R s m args below meth c Q D base nL) (zX p l e R s m args below meth c Q D base nL) := by
  have hSx : ∀ t f, zSx base s t f → zSx base s t f := fun _ _ h => h
  have hSy : ∀ t f, zSx base s t f → zSx base s t f := fun _ _ h => h
  intro pc ls st h n k g i v d e kk H locs la hl hS
  exact lv_ldc2d hx hb hown (hts _ e) d (kk H locs la hl hS)
theorem zp_iload_n {p : Program} {l : Launch} {e : Env} {R : Room} {s : State} {m : MethodId} {args : Array Value} {below : List Frame} {meth : Method} {c : Code} {Q : State → Prop} {D : va_G} {base : Nat} {cc : ByteArray} {own : String} {y : MethodName} {nL : Nat} (hx : p.tables.exec = Jvm.exec) (hb : c.code = cc) (hml : c.maxLocals = nL) (hown : s.vm.findClass own = some m.cls) (hts : ∀ w ∈ zGA, w.before args s = true) (hnm : meth.name = y.name) (hK : zK base D s s.heap) : zl_iload_n l D base cc own y R nL (zSx base s) (zV p l e R s m args below meth c Q D base nL) (zX p l e R s m args below meth c Q D base nL) := by
  have hSx : ∀ t f, zSx base s t f → zSx base s t f := fun _ _ h => h
  have hSy : ∀ t f, zSx base s t f → zSx base s t f := fun _ _ h => h
  intro pc ls st h n k g i j x d e kk H locs la hl hS
  exact lv_iload_n hx hb d rfl (lv_at hl j e) (kk H locs la hl hS)
theorem zp_iload {p : Program} {l : Launch} {e : Env} {R : Room} {s : State} {m : MethodId} {args : Array Value} {below : List Frame} {meth : Method} {c : Code} {Q : State → Prop} {D : va_G} {base : Nat} {cc : ByteArray} {own : String} {y : MethodName} {nL : Nat} (hx : p.tables.exec = Jvm.exec) (hb : c.code = cc) (hml : c.maxLocals = nL) (hown : s.vm.findClass own = some m.cls) (hts : ∀ w ∈ zGA, w.before args s = true) (hnm : meth.name = y.name) (hK : zK base D s s.heap) : zl_iload l D base cc own y R nL (zSx base s) (zV p l e R s m args below meth c Q D base nL) (zX p l e R s m args below meth c Q D base nL) := by
  have hSx : ∀ t f, zSx base s t f → zSx base s t f := fun _ _ h => h
  have hSy : ∀ t f, zSx base s t f → zSx base s t f := fun _ _ h => h
  intro pc ls st h n k g i j x d e kk H locs la hl hS
  exact lv_iload hx hb d (lv_at hl j e) (kk H locs la hl hS)
theorem zp_istore_n {p : Program} {l : Launch} {e : Env} {R : Room} {s : State} {m : MethodId} {args : Array Value} {below : List Frame} {meth : Method} {c : Code} {Q : State → Prop} {D : va_G} {base : Nat} {cc : ByteArray} {own : String} {y : MethodName} {nL : Nat} (hx : p.tables.exec = Jvm.exec) (hb : c.code = cc) (hml : c.maxLocals = nL) (hown : s.vm.findClass own = some m.cls) (hts : ∀ w ∈ zGA, w.before args s = true) (hnm : meth.name = y.name) (hK : zK base D s s.heap) : zl_istore_n l D base cc own y R nL (zSx base s) (zV p l e R s m args below meth c Q D base nL) (zX p l e R s m args below meth c Q D base nL) := by
  have hSx : ∀ t f, zSx base s t f → zSx base s t f := fun _ _ h => h
  have hSy : ∀ t f, zSx base s t f → zSx base s t f := fun _ _ h => h
  intro pc ls st h n k g i x ls2 d w e kk H locs la hl hS
  exact lv_istore_n hx hb d rfl hl w e (fun la hl => kk H locs la hl hS)
theorem zp_istore {p : Program} {l : Launch} {e : Env} {R : Room} {s : State} {m : MethodId} {args : Array Value} {below : List Frame} {meth : Method} {c : Code} {Q : State → Prop} {D : va_G} {base : Nat} {cc : ByteArray} {own : String} {y : MethodName} {nL : Nat} (hx : p.tables.exec = Jvm.exec) (hb : c.code = cc) (hml : c.maxLocals = nL) (hown : s.vm.findClass own = some m.cls) (hts : ∀ w ∈ zGA, w.before args s = true) (hnm : meth.name = y.name) (hK : zK base D s s.heap) : zl_istore l D base cc own y R nL (zSx base s) (zV p l e R s m args below meth c Q D base nL) (zX p l e R s m args below meth c Q D base nL) := by
  have hSx : ∀ t f, zSx base s t f → zSx base s t f := fun _ _ h => h
  have hSy : ∀ t f, zSx base s t f → zSx base s t f := fun _ _ h => h
  intro pc ls st h n k g i x ls2 d w e kk H locs la hl hS
  exact lv_istore hx hb d hl w e (fun la hl => kk H locs la hl hS)
theorem zp_lload_n {p : Program} {l : Launch} {e : Env} {R : Room} {s : State} {m : MethodId} {args : Array Value} {below : List Frame} {meth : Method} {c : Code} {Q : State → Prop} {D : va_G} {base : Nat} {cc : ByteArray} {own : String} {y : MethodName} {nL : Nat} (hx : p.tables.exec = Jvm.exec) (hb : c.code = cc) (hml : c.maxLocals = nL) (hown : s.vm.findClass own = some m.cls) (hts : ∀ w ∈ zGA, w.before args s = true) (hnm : meth.name = y.name) (hK : zK base D s s.heap) : zl_lload_n l D base cc own y R nL (zSx base s) (zV p l e R s m args below meth c Q D base nL) (zX p l e R s m args below meth c Q D base nL) := by
  have hSx : ∀ t f, zSx base s t f → zSx base s t f := fun _ _ h => h
  have hSy : ∀ t f, zSx base s t f → zSx base s t f := fun _ _ h => h
  intro pc ls st h n k g i j x d e kk H locs la hl hS
  exact lv_lload_n hx hb d rfl (lv_at hl j e) (kk H locs la hl hS)
theorem zp_lload {p : Program} {l : Launch} {e : Env} {R : Room} {s : State} {m : MethodId} {args : Array Value} {below : List Frame} {meth : Method} {c : Code} {Q : State → Prop} {D : va_G} {base : Nat} {cc : ByteArray} {own : String} {y : MethodName} {nL : Nat} (hx : p.tables.exec = Jvm.exec) (hb : c.code = cc) (hml : c.maxLocals = nL) (hown : s.vm.findClass own = some m.cls) (hts : ∀ w ∈ zGA, w.before args s = true) (hnm : meth.name = y.name) (hK : zK base D s s.heap) : zl_lload l D base cc own y R nL (zSx base s) (zV p l e R s m args below meth c Q D base nL) (zX p l e R s m args below meth c Q D base nL) := by
  have hSx : ∀ t f, zSx base s t f → zSx base s t f := fun _ _ h => h
  have hSy : ∀ t f, zSx base s t f → zSx base s t f := fun _ _ h => h
  intro pc ls st h n k g i j x d e kk H locs la hl hS
  exact lv_lload hx hb d (lv_at hl j e) (kk H locs la hl hS)
theorem zp_lstore_n {p : Program} {l : Launch} {e : Env} {R : Room} {s : State} {m : MethodId} {args : Array Value} {below : List Frame} {meth : Method} {c : Code} {Q : State → Prop} {D : va_G} {base : Nat} {cc : ByteArray} {own : String} {y : MethodName} {nL : Nat} (hx : p.tables.exec = Jvm.exec) (hb : c.code = cc) (hml : c.maxLocals = nL) (hown : s.vm.findClass own = some m.cls) (hts : ∀ w ∈ zGA, w.before args s = true) (hnm : meth.name = y.name) (hK : zK base D s s.heap) : zl_lstore_n l D base cc own y R nL (zSx base s) (zV p l e R s m args below meth c Q D base nL) (zX p l e R s m args below meth c Q D base nL) := by
  have hSx : ∀ t f, zSx base s t f → zSx base s t f := fun _ _ h => h
  have hSy : ∀ t f, zSx base s t f → zSx base s t f := fun _ _ h => h
  intro pc ls st h n k g i x ls2 d w e kk H locs la hl hS
  exact lv_lstore_n hx hb d rfl hl w e (fun la hl => kk H locs la hl hS)
theorem zp_lstore {p : Program} {l : Launch} {e : Env} {R : Room} {s : State} {m : MethodId} {args : Array Value} {below : List Frame} {meth : Method} {c : Code} {Q : State → Prop} {D : va_G} {base : Nat} {cc : ByteArray} {own : String} {y : MethodName} {nL : Nat} (hx : p.tables.exec = Jvm.exec) (hb : c.code = cc) (hml : c.maxLocals = nL) (hown : s.vm.findClass own = some m.cls) (hts : ∀ w ∈ zGA, w.before args s = true) (hnm : meth.name = y.name) (hK : zK base D s s.heap) : zl_lstore l D base cc own y R nL (zSx base s) (zV p l e R s m args below meth c Q D base nL) (zX p l e R s m args below meth c Q D base nL) := by
  have hSx : ∀ t f, zSx base s t f → zSx base s t f := fun _ _ h => h
  have hSy : ∀ t f, zSx base s t f → zSx base s t f := fun _ _ h => h
  intro pc ls st h n k g i x ls2 d w e kk H locs la hl hS
  exact lv_lstore hx hb d hl w e (fun la hl => kk H locs la hl hS)
theorem zp_aload_n {p : Program} {l : Launch} {e : Env} {R : Room} {s : State} {m : MethodId} {args : Array Value} {below : List Frame} {meth : Method} {c : Code} {Q : State → Prop} {D : va_G} {base : Nat} {cc : ByteArray} {own : String} {y : MethodName} {nL : Nat} (hx : p.tables.exec = Jvm.exec) (hb : c.code = cc) (hml : c.maxLocals = nL) (hown : s.vm.findClass own = some m.cls) (hts : ∀ w ∈ zGA, w.before args s = true) (hnm : meth.name = y.name) (hK : zK base D s s.heap) : zl_aload_n l D base cc own y R nL (zSx base s) (zV p l e R s m args below meth c Q D base nL) (zX p l e R s m args below meth c Q D base nL) := by
  have hSx : ∀ t f, zSx base s t f → zSx base s t f := fun _ _ h => h
  have hSy : ∀ t f, zSx base s t f → zSx base s t f := fun _ _ h => h
  intro pc ls st h n k g i j x d e kk H locs la hl hS
  exact lv_aload_n hx hb d rfl (lv_at hl j e) (kk H locs la hl hS)
theorem zp_aload {p : Program} {l : Launch} {e : Env} {R : Room} {s : State} {m : MethodId} {args : Array Value} {below : List Frame} {meth : Method} {c : Code} {Q : State → Prop} {D : va_G} {base : Nat} {cc : ByteArray} {own : String} {y : MethodName} {nL : Nat} (hx : p.tables.exec = Jvm.exec) (hb : c.code = cc) (hml : c.maxLocals = nL) (hown : s.vm.findClass own = some m.cls) (hts : ∀ w ∈ zGA, w.before args s = true) (hnm : meth.name = y.name) (hK : zK base D s s.heap) : zl_aload l D base cc own y R nL (zSx base s) (zV p l e R s m args below meth c Q D base nL) (zX p l e R s m args below meth c Q D base nL) := by
  have hSx : ∀ t f, zSx base s t f → zSx base s t f := fun _ _ h => h
  have hSy : ∀ t f, zSx base s t f → zSx base s t f := fun _ _ h => h
  intro pc ls st h n k g i j x d e kk H locs la hl hS
  exact lv_aload hx hb d (lv_at hl j e) (kk H locs la hl hS)
theorem zp_astore_n {p : Program} {l : Launch} {e : Env} {R : Room} {s : State} {m : MethodId} {args : Array Value} {below : List Frame} {meth : Method} {c : Code} {Q : State → Prop} {D : va_G} {base : Nat} {cc : ByteArray} {own : String} {y : MethodName} {nL : Nat} (hx : p.tables.exec = Jvm.exec) (hb : c.code = cc) (hml : c.maxLocals = nL) (hown : s.vm.findClass own = some m.cls) (hts : ∀ w ∈ zGA, w.before args s = true) (hnm : meth.name = y.name) (hK : zK base D s s.heap) : zl_astore_n l D base cc own y R nL (zSx base s) (zV p l e R s m args below meth c Q D base nL) (zX p l e R s m args below meth c Q D base nL) := by
  have hSx : ∀ t f, zSx base s t f → zSx base s t f := fun _ _ h => h
  have hSy : ∀ t f, zSx base s t f → zSx base s t f := fun _ _ h => h
  intro pc ls st h n k g i x ls2 d w e kk H locs la hl hS
  exact lv_astore_n hx hb d rfl hl w e (fun la hl => kk H locs la hl hS)
theorem zp_astore {p : Program} {l : Launch} {e : Env} {R : Room} {s : State} {m : MethodId} {args : Array Value} {below : List Frame} {meth : Method} {c : Code} {Q : State → Prop} {D : va_G} {base : Nat} {cc : ByteArray} {own : String} {y : MethodName} {nL : Nat} (hx : p.tables.exec = Jvm.exec) (hb : c.code = cc) (hml : c.maxLocals = nL) (hown : s.vm.findClass own = some m.cls) (hts : ∀ w ∈ zGA, w.before args s = true) (hnm : meth.name = y.name) (hK : zK base D s s.heap) : zl_astore l D base cc own y R nL (zSx base s) (zV p l e R s m args below meth c Q D base nL) (zX p l e R s m args below meth c Q D base nL) := by
  have hSx : ∀ t f, zSx base s t f → zSx base s t f := fun _ _ h => h
  have hSy : ∀ t f, zSx base s t f → zSx base s t f := fun _ _ h => h
  intro pc ls st h n k g i x ls2 d w e kk H locs la hl hS
  exact lv_astore hx hb d hl w e (fun la hl => kk H locs la hl hS)
theorem zp_dload_n {p : Program} {l : Launch} {e : Env} {R : Room} {s : State} {m : MethodId} {args : Array Value} {below : List Frame} {meth : Method} {c : Code} {Q : State → Prop} {D : va_G} {base : Nat} {cc : ByteArray} {own : String} {y : MethodName} {nL : Nat} (hx : p.tables.exec = Jvm.exec) (hb : c.code = cc) (hml : c.maxLocals = nL) (hown : s.vm.findClass own = some m.cls) (hts : ∀ w ∈ zGA, w.before args s = true) (hnm : meth.name = y.name) (hK : zK base D s s.heap) : zl_dload_n l D base cc own y R nL (zSx base s) (zV p l e R s m args below meth c Q D base nL) (zX p l e R s m args below meth c Q D base nL) := by
  have hSx : ∀ t f, zSx base s t f → zSx base s t f := fun _ _ h => h
  have hSy : ∀ t f, zSx base s t f → zSx base s t f := fun _ _ h => h
  intro pc ls st h n k g i j x d e kk H locs la hl hS
  exact lv_dload_n hx hb d rfl (lv_at hl j e) (kk H locs la hl hS)
theorem zp_dload {p : Program} {l : Launch} {e : Env} {R : Room} {s : State} {m : MethodId} {args : Array Value} {below : List Frame} {meth : Method} {c : Code} {Q : State → Prop} {D : va_G} {base : Nat} {cc : ByteArray} {own : String} {y : MethodName} {nL : Nat} (hx : p.tables.exec = Jvm.exec) (hb : c.code = cc) (hml : c.maxLocals = nL) (hown : s.vm.findClass own = some m.cls) (hts : ∀ w ∈ zGA, w.before args s = true) (hnm : meth.name = y.name) (hK : zK base D s s.heap) : zl_dload l D base cc own y R nL (zSx base s) (zV p l e R s m args below meth c Q D base nL) (zX p l e R s m args below meth c Q D base nL) := by
  have hSx : ∀ t f, zSx base s t f → zSx base s t f := fun _ _ h => h
  have hSy : ∀ t f, zSx base s t f → zSx base s t f := fun _ _ h => h
  intro pc ls st h n k g i j x d e kk H locs la hl hS
  exact lv_dload hx hb d (lv_at hl j e) (kk H locs la hl hS)
theorem zp_dstore_n {p : Program} {l : Launch} {e : Env} {R : Room} {s : State} {m : MethodId} {args : Array Value} {below : List Frame} {meth : Method} {c : Code} {Q : State → Prop} {D : va_G} {base : Nat} {cc : ByteArray} {own : String} {y : MethodName} {nL : Nat} (hx : p.tables.exec = Jvm.exec) (hb : c.code = cc) (hml : c.maxLocals = nL) (hown : s.vm.findClass own = some m.cls) (hts : ∀ w ∈ zGA, w.before args s = true) (hnm : meth.name = y.name) (hK : zK base D s s.heap) : zl_dstore_n l D base cc own y R nL (zSx base s) (zV p l e R s m args below meth c Q D base nL) (zX p l e R s m args below meth c Q D base nL) := by
  have hSx : ∀ t f, zSx base s t f → zSx base s t f := fun _ _ h => h
  have hSy : ∀ t f, zSx base s t f → zSx base s t f := fun _ _ h => h
  intro pc ls st h n k g i x ls2 d w e kk H locs la hl hS
  exact lv_dstore_n hx hb d rfl hl w e (fun la hl => kk H locs la hl hS)
theorem zp_dstore {p : Program} {l : Launch} {e : Env} {R : Room} {s : State} {m : MethodId} {args : Array Value} {below : List Frame} {meth : Method} {c : Code} {Q : State → Prop} {D : va_G} {base : Nat} {cc : ByteArray} {own : String} {y : MethodName} {nL : Nat} (hx : p.tables.exec = Jvm.exec) (hb : c.code = cc) (hml : c.maxLocals = nL) (hown : s.vm.findClass own = some m.cls) (hts : ∀ w ∈ zGA, w.before args s = true) (hnm : meth.name = y.name) (hK : zK base D s s.heap) : zl_dstore l D base cc own y R nL (zSx base s) (zV p l e R s m args below meth c Q D base nL) (zX p l e R s m args below meth c Q D base nL) := by
  have hSx : ∀ t f, zSx base s t f → zSx base s t f := fun _ _ h => h
  have hSy : ∀ t f, zSx base s t f → zSx base s t f := fun _ _ h => h
  intro pc ls st h n k g i x ls2 d w e kk H locs la hl hS
  exact lv_dstore hx hb d hl w e (fun la hl => kk H locs la hl hS)
theorem zp_aload_nN {p : Program} {l : Launch} {e : Env} {R : Room} {s : State} {m : MethodId} {args : Array Value} {below : List Frame} {meth : Method} {c : Code} {Q : State → Prop} {D : va_G} {base : Nat} {cc : ByteArray} {own : String} {y : MethodName} {nL : Nat} (hx : p.tables.exec = Jvm.exec) (hb : c.code = cc) (hml : c.maxLocals = nL) (hown : s.vm.findClass own = some m.cls) (hts : ∀ w ∈ zGA, w.before args s = true) (hnm : meth.name = y.name) (hK : zK base D s s.heap) : zl_aload_nN l D base cc own y R nL (zSx base s) (zV p l e R s m args below meth c Q D base nL) (zX p l e R s m args below meth c Q D base nL) := by
  have hSx : ∀ t f, zSx base s t f → zSx base s t f := fun _ _ h => h
  have hSy : ∀ t f, zSx base s t f → zSx base s t f := fun _ _ h => h
  intro pc ls st h n k g i j d e kk H locs la hl hS
  exact lv_aload_nN hx hb d rfl (lv_at hl j e) (kk H locs la hl hS)
theorem zp_astore_nN {p : Program} {l : Launch} {e : Env} {R : Room} {s : State} {m : MethodId} {args : Array Value} {below : List Frame} {meth : Method} {c : Code} {Q : State → Prop} {D : va_G} {base : Nat} {cc : ByteArray} {own : String} {y : MethodName} {nL : Nat} (hx : p.tables.exec = Jvm.exec) (hb : c.code = cc) (hml : c.maxLocals = nL) (hown : s.vm.findClass own = some m.cls) (hts : ∀ w ∈ zGA, w.before args s = true) (hnm : meth.name = y.name) (hK : zK base D s s.heap) : zl_astore_nN l D base cc own y R nL (zSx base s) (zV p l e R s m args below meth c Q D base nL) (zX p l e R s m args below meth c Q D base nL) := by
  have hSx : ∀ t f, zSx base s t f → zSx base s t f := fun _ _ h => h
  have hSy : ∀ t f, zSx base s t f → zSx base s t f := fun _ _ h => h
  intro pc ls st h n k g i ls2 d w e kk H locs la hl hS
  exact lv_astore_nN hx hb d rfl hl w e (fun la hl => kk H locs la hl hS)
theorem zp_iinc {p : Program} {l : Launch} {e : Env} {R : Room} {s : State} {m : MethodId} {args : Array Value} {below : List Frame} {meth : Method} {c : Code} {Q : State → Prop} {D : va_G} {base : Nat} {cc : ByteArray} {own : String} {y : MethodName} {nL : Nat} (hx : p.tables.exec = Jvm.exec) (hb : c.code = cc) (hml : c.maxLocals = nL) (hown : s.vm.findClass own = some m.cls) (hts : ∀ w ∈ zGA, w.before args s = true) (hnm : meth.name = y.name) (hK : zK base D s s.heap) : zl_iinc l D base cc own y R nL (zSx base s) (zV p l e R s m args below meth c Q D base nL) (zX p l e R s m args below meth c Q D base nL) := by
  have hSx : ∀ t f, zSx base s t f → zSx base s t f := fun _ _ h => h
  have hSy : ∀ t f, zSx base s t f → zSx base s t f := fun _ _ h => h
  intro pc ls st h n k g i j w x v ls2 d e hv w1 e2 kk H locs la hl hS
  exact lv_iinc hx hb d hl e hv w1 e2 (fun la hl => kk H locs la hl hS)
theorem zp_iadd {p : Program} {l : Launch} {e : Env} {R : Room} {s : State} {m : MethodId} {args : Array Value} {below : List Frame} {meth : Method} {c : Code} {Q : State → Prop} {D : va_G} {base : Nat} {cc : ByteArray} {own : String} {y : MethodName} {nL : Nat} (hx : p.tables.exec = Jvm.exec) (hb : c.code = cc) (hml : c.maxLocals = nL) (hown : s.vm.findClass own = some m.cls) (hts : ∀ w ∈ zGA, w.before args s = true) (hnm : meth.name = y.name) (hK : zK base D s s.heap) : zl_iadd l D base cc own y R nL (zSx base s) (zV p l e R s m args below meth c Q D base nL) (zX p l e R s m args below meth c Q D base nL) := by
  have hSx : ∀ t f, zSx base s t f → zSx base s t f := fun _ _ h => h
  have hSy : ∀ t f, zSx base s t f → zSx base s t f := fun _ _ h => h
  intro pc ls st h n k g x y d kk H locs la hl hS
  exact lv_iadd hx hb d (kk H locs la hl hS)
theorem zp_isub {p : Program} {l : Launch} {e : Env} {R : Room} {s : State} {m : MethodId} {args : Array Value} {below : List Frame} {meth : Method} {c : Code} {Q : State → Prop} {D : va_G} {base : Nat} {cc : ByteArray} {own : String} {y : MethodName} {nL : Nat} (hx : p.tables.exec = Jvm.exec) (hb : c.code = cc) (hml : c.maxLocals = nL) (hown : s.vm.findClass own = some m.cls) (hts : ∀ w ∈ zGA, w.before args s = true) (hnm : meth.name = y.name) (hK : zK base D s s.heap) : zl_isub l D base cc own y R nL (zSx base s) (zV p l e R s m args below meth c Q D base nL) (zX p l e R s m args below meth c Q D base nL) := by
  have hSx : ∀ t f, zSx base s t f → zSx base s t f := fun _ _ h => h
  have hSy : ∀ t f, zSx base s t f → zSx base s t f := fun _ _ h => h
  intro pc ls st h n k g x y d kk H locs la hl hS
  exact lv_isub hx hb d (kk H locs la hl hS)
theorem zp_imul {p : Program} {l : Launch} {e : Env} {R : Room} {s : State} {m : MethodId} {args : Array Value} {below : List Frame} {meth : Method} {c : Code} {Q : State → Prop} {D : va_G} {base : Nat} {cc : ByteArray} {own : String} {y : MethodName} {nL : Nat} (hx : p.tables.exec = Jvm.exec) (hb : c.code = cc) (hml : c.maxLocals = nL) (hown : s.vm.findClass own = some m.cls) (hts : ∀ w ∈ zGA, w.before args s = true) (hnm : meth.name = y.name) (hK : zK base D s s.heap) : zl_imul l D base cc own y R nL (zSx base s) (zV p l e R s m args below meth c Q D base nL) (zX p l e R s m args below meth c Q D base nL) := by
  have hSx : ∀ t f, zSx base s t f → zSx base s t f := fun _ _ h => h
  have hSy : ∀ t f, zSx base s t f → zSx base s t f := fun _ _ h => h
  intro pc ls st h n k g x y d kk H locs la hl hS
  exact lv_imul hx hb d (kk H locs la hl hS)
theorem zp_iand {p : Program} {l : Launch} {e : Env} {R : Room} {s : State} {m : MethodId} {args : Array Value} {below : List Frame} {meth : Method} {c : Code} {Q : State → Prop} {D : va_G} {base : Nat} {cc : ByteArray} {own : String} {y : MethodName} {nL : Nat} (hx : p.tables.exec = Jvm.exec) (hb : c.code = cc) (hml : c.maxLocals = nL) (hown : s.vm.findClass own = some m.cls) (hts : ∀ w ∈ zGA, w.before args s = true) (hnm : meth.name = y.name) (hK : zK base D s s.heap) : zl_iand l D base cc own y R nL (zSx base s) (zV p l e R s m args below meth c Q D base nL) (zX p l e R s m args below meth c Q D base nL) := by
  have hSx : ∀ t f, zSx base s t f → zSx base s t f := fun _ _ h => h
  have hSy : ∀ t f, zSx base s t f → zSx base s t f := fun _ _ h => h
  intro pc ls st h n k g x y d kk H locs la hl hS
  exact lv_iand hx hb d (kk H locs la hl hS)
theorem zp_idiv {p : Program} {l : Launch} {e : Env} {R : Room} {s : State} {m : MethodId} {args : Array Value} {below : List Frame} {meth : Method} {c : Code} {Q : State → Prop} {D : va_G} {base : Nat} {cc : ByteArray} {own : String} {y : MethodName} {nL : Nat} (hx : p.tables.exec = Jvm.exec) (hb : c.code = cc) (hml : c.maxLocals = nL) (hown : s.vm.findClass own = some m.cls) (hts : ∀ w ∈ zGA, w.before args s = true) (hnm : meth.name = y.name) (hK : zK base D s s.heap) : zl_idiv l D base cc own y R nL (zSx base s) (zV p l e R s m args below meth c Q D base nL) (zX p l e R s m args below meth c Q D base nL) := by
  have hSx : ∀ t f, zSx base s t f → zSx base s t f := fun _ _ h => h
  have hSy : ∀ t f, zSx base s t f → zSx base s t f := fun _ _ h => h
  intro pc ls st h n k g x y d e kk H locs la hl hS
  exact lv_idiv hx hb d e (kk H locs la hl hS)
theorem zp_irem {p : Program} {l : Launch} {e : Env} {R : Room} {s : State} {m : MethodId} {args : Array Value} {below : List Frame} {meth : Method} {c : Code} {Q : State → Prop} {D : va_G} {base : Nat} {cc : ByteArray} {own : String} {y : MethodName} {nL : Nat} (hx : p.tables.exec = Jvm.exec) (hb : c.code = cc) (hml : c.maxLocals = nL) (hown : s.vm.findClass own = some m.cls) (hts : ∀ w ∈ zGA, w.before args s = true) (hnm : meth.name = y.name) (hK : zK base D s s.heap) : zl_irem l D base cc own y R nL (zSx base s) (zV p l e R s m args below meth c Q D base nL) (zX p l e R s m args below meth c Q D base nL) := by
  have hSx : ∀ t f, zSx base s t f → zSx base s t f := fun _ _ h => h
  have hSy : ∀ t f, zSx base s t f → zSx base s t f := fun _ _ h => h
  intro pc ls st h n k g x y d e kk H locs la hl hS
  exact lv_irem hx hb d e (kk H locs la hl hS)
theorem zp_ladd {p : Program} {l : Launch} {e : Env} {R : Room} {s : State} {m : MethodId} {args : Array Value} {below : List Frame} {meth : Method} {c : Code} {Q : State → Prop} {D : va_G} {base : Nat} {cc : ByteArray} {own : String} {y : MethodName} {nL : Nat} (hx : p.tables.exec = Jvm.exec) (hb : c.code = cc) (hml : c.maxLocals = nL) (hown : s.vm.findClass own = some m.cls) (hts : ∀ w ∈ zGA, w.before args s = true) (hnm : meth.name = y.name) (hK : zK base D s s.heap) : zl_ladd l D base cc own y R nL (zSx base s) (zV p l e R s m args below meth c Q D base nL) (zX p l e R s m args below meth c Q D base nL) := by
  have hSx : ∀ t f, zSx base s t f → zSx base s t f := fun _ _ h => h
  have hSy : ∀ t f, zSx base s t f → zSx base s t f := fun _ _ h => h
  intro pc ls st h n k g x y d kk H locs la hl hS
  exact lv_ladd hx hb d (kk H locs la hl hS)
theorem zp_lsub {p : Program} {l : Launch} {e : Env} {R : Room} {s : State} {m : MethodId} {args : Array Value} {below : List Frame} {meth : Method} {c : Code} {Q : State → Prop} {D : va_G} {base : Nat} {cc : ByteArray} {own : String} {y : MethodName} {nL : Nat} (hx : p.tables.exec = Jvm.exec) (hb : c.code = cc) (hml : c.maxLocals = nL) (hown : s.vm.findClass own = some m.cls) (hts : ∀ w ∈ zGA, w.before args s = true) (hnm : meth.name = y.name) (hK : zK base D s s.heap) : zl_lsub l D base cc own y R nL (zSx base s) (zV p l e R s m args below meth c Q D base nL) (zX p l e R s m args below meth c Q D base nL) := by
  have hSx : ∀ t f, zSx base s t f → zSx base s t f := fun _ _ h => h
  have hSy : ∀ t f, zSx base s t f → zSx base s t f := fun _ _ h => h
  intro pc ls st h n k g x y d kk H locs la hl hS
  exact lv_lsub hx hb d (kk H locs la hl hS)
theorem zp_lmul {p : Program} {l : Launch} {e : Env} {R : Room} {s : State} {m : MethodId} {args : Array Value} {below : List Frame} {meth : Method} {c : Code} {Q : State → Prop} {D : va_G} {base : Nat} {cc : ByteArray} {own : String} {y : MethodName} {nL : Nat} (hx : p.tables.exec = Jvm.exec) (hb : c.code = cc) (hml : c.maxLocals = nL) (hown : s.vm.findClass own = some m.cls) (hts : ∀ w ∈ zGA, w.before args s = true) (hnm : meth.name = y.name) (hK : zK base D s s.heap) : zl_lmul l D base cc own y R nL (zSx base s) (zV p l e R s m args below meth c Q D base nL) (zX p l e R s m args below meth c Q D base nL) := by
  have hSx : ∀ t f, zSx base s t f → zSx base s t f := fun _ _ h => h
  have hSy : ∀ t f, zSx base s t f → zSx base s t f := fun _ _ h => h
  intro pc ls st h n k g x y d kk H locs la hl hS
  exact lv_lmul hx hb d (kk H locs la hl hS)
theorem zp_ldiv {p : Program} {l : Launch} {e : Env} {R : Room} {s : State} {m : MethodId} {args : Array Value} {below : List Frame} {meth : Method} {c : Code} {Q : State → Prop} {D : va_G} {base : Nat} {cc : ByteArray} {own : String} {y : MethodName} {nL : Nat} (hx : p.tables.exec = Jvm.exec) (hb : c.code = cc) (hml : c.maxLocals = nL) (hown : s.vm.findClass own = some m.cls) (hts : ∀ w ∈ zGA, w.before args s = true) (hnm : meth.name = y.name) (hK : zK base D s s.heap) : zl_ldiv l D base cc own y R nL (zSx base s) (zV p l e R s m args below meth c Q D base nL) (zX p l e R s m args below meth c Q D base nL) := by
  have hSx : ∀ t f, zSx base s t f → zSx base s t f := fun _ _ h => h
  have hSy : ∀ t f, zSx base s t f → zSx base s t f := fun _ _ h => h
  intro pc ls st h n k g x y d e kk H locs la hl hS
  exact lv_ldiv hx hb d e (kk H locs la hl hS)
theorem zp_lrem {p : Program} {l : Launch} {e : Env} {R : Room} {s : State} {m : MethodId} {args : Array Value} {below : List Frame} {meth : Method} {c : Code} {Q : State → Prop} {D : va_G} {base : Nat} {cc : ByteArray} {own : String} {y : MethodName} {nL : Nat} (hx : p.tables.exec = Jvm.exec) (hb : c.code = cc) (hml : c.maxLocals = nL) (hown : s.vm.findClass own = some m.cls) (hts : ∀ w ∈ zGA, w.before args s = true) (hnm : meth.name = y.name) (hK : zK base D s s.heap) : zl_lrem l D base cc own y R nL (zSx base s) (zV p l e R s m args below meth c Q D base nL) (zX p l e R s m args below meth c Q D base nL) := by
  have hSx : ∀ t f, zSx base s t f → zSx base s t f := fun _ _ h => h
  have hSy : ∀ t f, zSx base s t f → zSx base s t f := fun _ _ h => h
  intro pc ls st h n k g x y d e kk H locs la hl hS
  exact lv_lrem hx hb d e (kk H locs la hl hS)
theorem zp_i2l {p : Program} {l : Launch} {e : Env} {R : Room} {s : State} {m : MethodId} {args : Array Value} {below : List Frame} {meth : Method} {c : Code} {Q : State → Prop} {D : va_G} {base : Nat} {cc : ByteArray} {own : String} {y : MethodName} {nL : Nat} (hx : p.tables.exec = Jvm.exec) (hb : c.code = cc) (hml : c.maxLocals = nL) (hown : s.vm.findClass own = some m.cls) (hts : ∀ w ∈ zGA, w.before args s = true) (hnm : meth.name = y.name) (hK : zK base D s s.heap) : zl_i2l l D base cc own y R nL (zSx base s) (zV p l e R s m args below meth c Q D base nL) (zX p l e R s m args below meth c Q D base nL) := by
  have hSx : ∀ t f, zSx base s t f → zSx base s t f := fun _ _ h => h
  have hSy : ∀ t f, zSx base s t f → zSx base s t f := fun _ _ h => h
  intro pc ls st h n k g x v d e kk H locs la hl hS
  exact lv_i2l hx hb d e (kk H locs la hl hS)
theorem zp_l2i {p : Program} {l : Launch} {e : Env} {R : Room} {s : State} {m : MethodId} {args : Array Value} {below : List Frame} {meth : Method} {c : Code} {Q : State → Prop} {D : va_G} {base : Nat} {cc : ByteArray} {own : String} {y : MethodName} {nL : Nat} (hx : p.tables.exec = Jvm.exec) (hb : c.code = cc) (hml : c.maxLocals = nL) (hown : s.vm.findClass own = some m.cls) (hts : ∀ w ∈ zGA, w.before args s = true) (hnm : meth.name = y.name) (hK : zK base D s s.heap) : zl_l2i l D base cc own y R nL (zSx base s) (zV p l e R s m args below meth c Q D base nL) (zX p l e R s m args below meth c Q D base nL) := by
  have hSx : ∀ t f, zSx base s t f → zSx base s t f := fun _ _ h => h
  have hSy : ∀ t f, zSx base s t f → zSx base s t f := fun _ _ h => h
  intro pc ls st h n k g x v d e kk H locs la hl hS
  exact lv_l2i hx hb d e (kk H locs la hl hS)
theorem zp_i2d {p : Program} {l : Launch} {e : Env} {R : Room} {s : State} {m : MethodId} {args : Array Value} {below : List Frame} {meth : Method} {c : Code} {Q : State → Prop} {D : va_G} {base : Nat} {cc : ByteArray} {own : String} {y : MethodName} {nL : Nat} (hx : p.tables.exec = Jvm.exec) (hb : c.code = cc) (hml : c.maxLocals = nL) (hown : s.vm.findClass own = some m.cls) (hts : ∀ w ∈ zGA, w.before args s = true) (hnm : meth.name = y.name) (hK : zK base D s s.heap) : zl_i2d l D base cc own y R nL (zSx base s) (zV p l e R s m args below meth c Q D base nL) (zX p l e R s m args below meth c Q D base nL) := by
  have hSx : ∀ t f, zSx base s t f → zSx base s t f := fun _ _ h => h
  have hSy : ∀ t f, zSx base s t f → zSx base s t f := fun _ _ h => h
  intro pc ls st h n k g x d kk H locs la hl hS
  exact lv_i2d hx hb d (kk H locs la hl hS)
theorem zp_d2l {p : Program} {l : Launch} {e : Env} {R : Room} {s : State} {m : MethodId} {args : Array Value} {below : List Frame} {meth : Method} {c : Code} {Q : State → Prop} {D : va_G} {base : Nat} {cc : ByteArray} {own : String} {y : MethodName} {nL : Nat} (hx : p.tables.exec = Jvm.exec) (hb : c.code = cc) (hml : c.maxLocals = nL) (hown : s.vm.findClass own = some m.cls) (hts : ∀ w ∈ zGA, w.before args s = true) (hnm : meth.name = y.name) (hK : zK base D s s.heap) : zl_d2l l D base cc own y R nL (zSx base s) (zV p l e R s m args below meth c Q D base nL) (zX p l e R s m args below meth c Q D base nL) := by
  have hSx : ∀ t f, zSx base s t f → zSx base s t f := fun _ _ h => h
  have hSy : ∀ t f, zSx base s t f → zSx base s t f := fun _ _ h => h
  intro pc ls st h n k g x d kk H locs la hl hS
  exact lv_d2l hx hb d (kk H locs la hl hS)
theorem zp_ddiv {p : Program} {l : Launch} {e : Env} {R : Room} {s : State} {m : MethodId} {args : Array Value} {below : List Frame} {meth : Method} {c : Code} {Q : State → Prop} {D : va_G} {base : Nat} {cc : ByteArray} {own : String} {y : MethodName} {nL : Nat} (hx : p.tables.exec = Jvm.exec) (hb : c.code = cc) (hml : c.maxLocals = nL) (hown : s.vm.findClass own = some m.cls) (hts : ∀ w ∈ zGA, w.before args s = true) (hnm : meth.name = y.name) (hK : zK base D s s.heap) : zl_ddiv l D base cc own y R nL (zSx base s) (zV p l e R s m args below meth c Q D base nL) (zX p l e R s m args below meth c Q D base nL) := by
  have hSx : ∀ t f, zSx base s t f → zSx base s t f := fun _ _ h => h
  have hSy : ∀ t f, zSx base s t f → zSx base s t f := fun _ _ h => h
  intro pc ls st h n k g x y d e kk H locs la hl hS
  exact lv_ddiv hx hb d e (kk H locs la hl hS)
theorem zp_dmul {p : Program} {l : Launch} {e : Env} {R : Room} {s : State} {m : MethodId} {args : Array Value} {below : List Frame} {meth : Method} {c : Code} {Q : State → Prop} {D : va_G} {base : Nat} {cc : ByteArray} {own : String} {y : MethodName} {nL : Nat} (hx : p.tables.exec = Jvm.exec) (hb : c.code = cc) (hml : c.maxLocals = nL) (hown : s.vm.findClass own = some m.cls) (hts : ∀ w ∈ zGA, w.before args s = true) (hnm : meth.name = y.name) (hK : zK base D s s.heap) : zl_dmul l D base cc own y R nL (zSx base s) (zV p l e R s m args below meth c Q D base nL) (zX p l e R s m args below meth c Q D base nL) := by
  have hSx : ∀ t f, zSx base s t f → zSx base s t f := fun _ _ h => h
  have hSy : ∀ t f, zSx base s t f → zSx base s t f := fun _ _ h => h
  intro pc ls st h n k g x y d e kk H locs la hl hS
  exact lv_dmul hx hb d e (kk H locs la hl hS)
theorem zp_dsub {p : Program} {l : Launch} {e : Env} {R : Room} {s : State} {m : MethodId} {args : Array Value} {below : List Frame} {meth : Method} {c : Code} {Q : State → Prop} {D : va_G} {base : Nat} {cc : ByteArray} {own : String} {y : MethodName} {nL : Nat} (hx : p.tables.exec = Jvm.exec) (hb : c.code = cc) (hml : c.maxLocals = nL) (hown : s.vm.findClass own = some m.cls) (hts : ∀ w ∈ zGA, w.before args s = true) (hnm : meth.name = y.name) (hK : zK base D s s.heap) : zl_dsub l D base cc own y R nL (zSx base s) (zV p l e R s m args below meth c Q D base nL) (zX p l e R s m args below meth c Q D base nL) := by
  have hSx : ∀ t f, zSx base s t f → zSx base s t f := fun _ _ h => h
  have hSy : ∀ t f, zSx base s t f → zSx base s t f := fun _ _ h => h
  intro pc ls st h n k g x y d e kk H locs la hl hS
  exact lv_dsub hx hb d e (kk H locs la hl hS)
theorem zp_dcmp {p : Program} {l : Launch} {e : Env} {R : Room} {s : State} {m : MethodId} {args : Array Value} {below : List Frame} {meth : Method} {c : Code} {Q : State → Prop} {D : va_G} {base : Nat} {cc : ByteArray} {own : String} {y : MethodName} {nL : Nat} (hx : p.tables.exec = Jvm.exec) (hb : c.code = cc) (hml : c.maxLocals = nL) (hown : s.vm.findClass own = some m.cls) (hts : ∀ w ∈ zGA, w.before args s = true) (hnm : meth.name = y.name) (hK : zK base D s s.heap) : zl_dcmp l D base cc own y R nL (zSx base s) (zV p l e R s m args below meth c Q D base nL) (zX p l e R s m args below meth c Q D base nL) := by
  have hSx : ∀ t f, zSx base s t f → zSx base s t f := fun _ _ h => h
  have hSy : ∀ t f, zSx base s t f → zSx base s t f := fun _ _ h => h
  intro pc ls st h n k g x y op d kk H locs la hl hS
  exact lv_dcmp hx hb d (kk H locs la hl hS)
theorem zp_lcmp {p : Program} {l : Launch} {e : Env} {R : Room} {s : State} {m : MethodId} {args : Array Value} {below : List Frame} {meth : Method} {c : Code} {Q : State → Prop} {D : va_G} {base : Nat} {cc : ByteArray} {own : String} {y : MethodName} {nL : Nat} (hx : p.tables.exec = Jvm.exec) (hb : c.code = cc) (hml : c.maxLocals = nL) (hown : s.vm.findClass own = some m.cls) (hts : ∀ w ∈ zGA, w.before args s = true) (hnm : meth.name = y.name) (hK : zK base D s s.heap) : zl_lcmp l D base cc own y R nL (zSx base s) (zV p l e R s m args below meth c Q D base nL) (zX p l e R s m args below meth c Q D base nL) := by
  have hSx : ∀ t f, zSx base s t f → zSx base s t f := fun _ _ h => h
  have hSy : ∀ t f, zSx base s t f → zSx base s t f := fun _ _ h => h
  intro pc ls st h n k g x y d kk H locs la hl hS
  exact W.lcmp hx hb d (kk H locs la hl hS)
theorem zp_dup {p : Program} {l : Launch} {e : Env} {R : Room} {s : State} {m : MethodId} {args : Array Value} {below : List Frame} {meth : Method} {c : Code} {Q : State → Prop} {D : va_G} {base : Nat} {cc : ByteArray} {own : String} {y : MethodName} {nL : Nat} (hx : p.tables.exec = Jvm.exec) (hb : c.code = cc) (hml : c.maxLocals = nL) (hown : s.vm.findClass own = some m.cls) (hts : ∀ w ∈ zGA, w.before args s = true) (hnm : meth.name = y.name) (hK : zK base D s s.heap) : zl_dup l D base cc own y R nL (zSx base s) (zV p l e R s m args below meth c Q D base nL) (zX p l e R s m args below meth c Q D base nL) := by
  have hSx : ∀ t f, zSx base s t f → zSx base s t f := fun _ _ h => h
  have hSy : ∀ t f, zSx base s t f → zSx base s t f := fun _ _ h => h
  intro pc ls st h n k g v d e kk H locs la hl hS
  exact lv_dup hx hb d e (kk H locs la hl hS)
theorem zp_dup2 {p : Program} {l : Launch} {e : Env} {R : Room} {s : State} {m : MethodId} {args : Array Value} {below : List Frame} {meth : Method} {c : Code} {Q : State → Prop} {D : va_G} {base : Nat} {cc : ByteArray} {own : String} {y : MethodName} {nL : Nat} (hx : p.tables.exec = Jvm.exec) (hb : c.code = cc) (hml : c.maxLocals = nL) (hown : s.vm.findClass own = some m.cls) (hts : ∀ w ∈ zGA, w.before args s = true) (hnm : meth.name = y.name) (hK : zK base D s s.heap) : zl_dup2 l D base cc own y R nL (zSx base s) (zV p l e R s m args below meth c Q D base nL) (zX p l e R s m args below meth c Q D base nL) := by
  have hSx : ∀ t f, zSx base s t f → zSx base s t f := fun _ _ h => h
  have hSy : ∀ t f, zSx base s t f → zSx base s t f := fun _ _ h => h
  intro pc ls st h n k g v w d e e2 kk H locs la hl hS
  exact lv_dup2_11 hx hb d e e2 (kk H locs la hl hS)
theorem zp_pop {p : Program} {l : Launch} {e : Env} {R : Room} {s : State} {m : MethodId} {args : Array Value} {below : List Frame} {meth : Method} {c : Code} {Q : State → Prop} {D : va_G} {base : Nat} {cc : ByteArray} {own : String} {y : MethodName} {nL : Nat} (hx : p.tables.exec = Jvm.exec) (hb : c.code = cc) (hml : c.maxLocals = nL) (hown : s.vm.findClass own = some m.cls) (hts : ∀ w ∈ zGA, w.before args s = true) (hnm : meth.name = y.name) (hK : zK base D s s.heap) : zl_pop l D base cc own y R nL (zSx base s) (zV p l e R s m args below meth c Q D base nL) (zX p l e R s m args below meth c Q D base nL) := by
  have hSx : ∀ t f, zSx base s t f → zSx base s t f := fun _ _ h => h
  have hSy : ∀ t f, zSx base s t f → zSx base s t f := fun _ _ h => h
  intro pc ls st h n k g v d e kk H locs la hl hS
  exact lv_pop hx hb d e (kk H locs la hl hS)
theorem zp_goto {p : Program} {l : Launch} {e : Env} {R : Room} {s : State} {m : MethodId} {args : Array Value} {below : List Frame} {meth : Method} {c : Code} {Q : State → Prop} {D : va_G} {base : Nat} {cc : ByteArray} {own : String} {y : MethodName} {nL : Nat} (hx : p.tables.exec = Jvm.exec) (hb : c.code = cc) (hml : c.maxLocals = nL) (hown : s.vm.findClass own = some m.cls) (hts : ∀ w ∈ zGA, w.before args s = true) (hnm : meth.name = y.name) (hK : zK base D s s.heap) : zl_goto l D base cc own y R nL (zSx base s) (zV p l e R s m args below meth c Q D base nL) (zX p l e R s m args below meth c Q D base nL) := by
  have hSx : ∀ t f, zSx base s t f → zSx base s t f := fun _ _ h => h
  have hSy : ∀ t f, zSx base s t f → zSx base s t f := fun _ _ h => h
  intro pc ls st h n k g off tgt d ht kk H locs la hl hS
  exact lv_goto hx hb d ht (kk H locs la hl hS)
theorem zp_if_eq_t {p : Program} {l : Launch} {e : Env} {R : Room} {s : State} {m : MethodId} {args : Array Value} {below : List Frame} {meth : Method} {c : Code} {Q : State → Prop} {D : va_G} {base : Nat} {cc : ByteArray} {own : String} {y : MethodName} {nL : Nat} (hx : p.tables.exec = Jvm.exec) (hb : c.code = cc) (hml : c.maxLocals = nL) (hown : s.vm.findClass own = some m.cls) (hts : ∀ w ∈ zGA, w.before args s = true) (hnm : meth.name = y.name) (hK : zK base D s s.heap) : zl_if_eq_t l D base cc own y R nL (zSx base s) (zV p l e R s m args below meth c Q D base nL) (zX p l e R s m args below meth c Q D base nL) := by
  have hSx : ∀ t f, zSx base s t f → zSx base s t f := fun _ _ h => h
  have hSy : ∀ t f, zSx base s t f → zSx base s t f := fun _ _ h => h
  intro pc ls st h n k g x off tgt d ht c kk H locs la hl hS
  exact lv_if_eq hx hb d ht (fun _ => kk H locs la hl hS) (fun c9 => by first | exact absurd c c9 | exact absurd c9 c)
theorem zp_if_eq_f {p : Program} {l : Launch} {e : Env} {R : Room} {s : State} {m : MethodId} {args : Array Value} {below : List Frame} {meth : Method} {c : Code} {Q : State → Prop} {D : va_G} {base : Nat} {cc : ByteArray} {own : String} {y : MethodName} {nL : Nat} (hx : p.tables.exec = Jvm.exec) (hb : c.code = cc) (hml : c.maxLocals = nL) (hown : s.vm.findClass own = some m.cls) (hts : ∀ w ∈ zGA, w.before args s = true) (hnm : meth.name = y.name) (hK : zK base D s s.heap) : zl_if_eq_f l D base cc own y R nL (zSx base s) (zV p l e R s m args below meth c Q D base nL) (zX p l e R s m args below meth c Q D base nL) := by
  have hSx : ∀ t f, zSx base s t f → zSx base s t f := fun _ _ h => h
  have hSy : ∀ t f, zSx base s t f → zSx base s t f := fun _ _ h => h
  intro pc ls st h n k g x off tgt d ht c kk H locs la hl hS
  exact lv_if_eq hx hb d ht (fun c9 => by first | exact absurd c c9 | exact absurd c9 c) (fun _ => kk H locs la hl hS)
theorem zp_icmp_eq_t {p : Program} {l : Launch} {e : Env} {R : Room} {s : State} {m : MethodId} {args : Array Value} {below : List Frame} {meth : Method} {c : Code} {Q : State → Prop} {D : va_G} {base : Nat} {cc : ByteArray} {own : String} {y : MethodName} {nL : Nat} (hx : p.tables.exec = Jvm.exec) (hb : c.code = cc) (hml : c.maxLocals = nL) (hown : s.vm.findClass own = some m.cls) (hts : ∀ w ∈ zGA, w.before args s = true) (hnm : meth.name = y.name) (hK : zK base D s s.heap) : zl_icmp_eq_t l D base cc own y R nL (zSx base s) (zV p l e R s m args below meth c Q D base nL) (zX p l e R s m args below meth c Q D base nL) := by
  have hSx : ∀ t f, zSx base s t f → zSx base s t f := fun _ _ h => h
  have hSy : ∀ t f, zSx base s t f → zSx base s t f := fun _ _ h => h
  intro pc ls st h n k g x y off tgt d ht c kk H locs la hl hS
  exact lv_icmp_eq hx hb d ht (fun _ => kk H locs la hl hS) (fun c9 => by first | exact absurd c c9 | exact absurd c9 c)
theorem zp_icmp_eq_f {p : Program} {l : Launch} {e : Env} {R : Room} {s : State} {m : MethodId} {args : Array Value} {below : List Frame} {meth : Method} {c : Code} {Q : State → Prop} {D : va_G} {base : Nat} {cc : ByteArray} {own : String} {y : MethodName} {nL : Nat} (hx : p.tables.exec = Jvm.exec) (hb : c.code = cc) (hml : c.maxLocals = nL) (hown : s.vm.findClass own = some m.cls) (hts : ∀ w ∈ zGA, w.before args s = true) (hnm : meth.name = y.name) (hK : zK base D s s.heap) : zl_icmp_eq_f l D base cc own y R nL (zSx base s) (zV p l e R s m args below meth c Q D base nL) (zX p l e R s m args below meth c Q D base nL) := by
  have hSx : ∀ t f, zSx base s t f → zSx base s t f := fun _ _ h => h
  have hSy : ∀ t f, zSx base s t f → zSx base s t f := fun _ _ h => h
  intro pc ls st h n k g x y off tgt d ht c kk H locs la hl hS
  exact lv_icmp_eq hx hb d ht (fun c9 => by first | exact absurd c c9 | exact absurd c9 c) (fun _ => kk H locs la hl hS)
theorem zp_if_ne_t {p : Program} {l : Launch} {e : Env} {R : Room} {s : State} {m : MethodId} {args : Array Value} {below : List Frame} {meth : Method} {c : Code} {Q : State → Prop} {D : va_G} {base : Nat} {cc : ByteArray} {own : String} {y : MethodName} {nL : Nat} (hx : p.tables.exec = Jvm.exec) (hb : c.code = cc) (hml : c.maxLocals = nL) (hown : s.vm.findClass own = some m.cls) (hts : ∀ w ∈ zGA, w.before args s = true) (hnm : meth.name = y.name) (hK : zK base D s s.heap) : zl_if_ne_t l D base cc own y R nL (zSx base s) (zV p l e R s m args below meth c Q D base nL) (zX p l e R s m args below meth c Q D base nL) := by
  have hSx : ∀ t f, zSx base s t f → zSx base s t f := fun _ _ h => h
  have hSy : ∀ t f, zSx base s t f → zSx base s t f := fun _ _ h => h
  intro pc ls st h n k g x off tgt d ht c kk H locs la hl hS
  exact lv_if_ne hx hb d ht (fun _ => kk H locs la hl hS) (fun c9 => by first | exact absurd c c9 | exact absurd c9 c)
theorem zp_if_ne_f {p : Program} {l : Launch} {e : Env} {R : Room} {s : State} {m : MethodId} {args : Array Value} {below : List Frame} {meth : Method} {c : Code} {Q : State → Prop} {D : va_G} {base : Nat} {cc : ByteArray} {own : String} {y : MethodName} {nL : Nat} (hx : p.tables.exec = Jvm.exec) (hb : c.code = cc) (hml : c.maxLocals = nL) (hown : s.vm.findClass own = some m.cls) (hts : ∀ w ∈ zGA, w.before args s = true) (hnm : meth.name = y.name) (hK : zK base D s s.heap) : zl_if_ne_f l D base cc own y R nL (zSx base s) (zV p l e R s m args below meth c Q D base nL) (zX p l e R s m args below meth c Q D base nL) := by
  have hSx : ∀ t f, zSx base s t f → zSx base s t f := fun _ _ h => h
  have hSy : ∀ t f, zSx base s t f → zSx base s t f := fun _ _ h => h
  intro pc ls st h n k g x off tgt d ht c kk H locs la hl hS
  exact lv_if_ne hx hb d ht (fun c9 => by first | exact absurd c c9 | exact absurd c9 c) (fun _ => kk H locs la hl hS)
theorem zp_icmp_ne_t {p : Program} {l : Launch} {e : Env} {R : Room} {s : State} {m : MethodId} {args : Array Value} {below : List Frame} {meth : Method} {c : Code} {Q : State → Prop} {D : va_G} {base : Nat} {cc : ByteArray} {own : String} {y : MethodName} {nL : Nat} (hx : p.tables.exec = Jvm.exec) (hb : c.code = cc) (hml : c.maxLocals = nL) (hown : s.vm.findClass own = some m.cls) (hts : ∀ w ∈ zGA, w.before args s = true) (hnm : meth.name = y.name) (hK : zK base D s s.heap) : zl_icmp_ne_t l D base cc own y R nL (zSx base s) (zV p l e R s m args below meth c Q D base nL) (zX p l e R s m args below meth c Q D base nL) := by
  have hSx : ∀ t f, zSx base s t f → zSx base s t f := fun _ _ h => h
  have hSy : ∀ t f, zSx base s t f → zSx base s t f := fun _ _ h => h
  intro pc ls st h n k g x y off tgt d ht c kk H locs la hl hS
  exact lv_icmp_ne hx hb d ht (fun _ => kk H locs la hl hS) (fun c9 => by first | exact absurd c c9 | exact absurd c9 c)
theorem zp_icmp_ne_f {p : Program} {l : Launch} {e : Env} {R : Room} {s : State} {m : MethodId} {args : Array Value} {below : List Frame} {meth : Method} {c : Code} {Q : State → Prop} {D : va_G} {base : Nat} {cc : ByteArray} {own : String} {y : MethodName} {nL : Nat} (hx : p.tables.exec = Jvm.exec) (hb : c.code = cc) (hml : c.maxLocals = nL) (hown : s.vm.findClass own = some m.cls) (hts : ∀ w ∈ zGA, w.before args s = true) (hnm : meth.name = y.name) (hK : zK base D s s.heap) : zl_icmp_ne_f l D base cc own y R nL (zSx base s) (zV p l e R s m args below meth c Q D base nL) (zX p l e R s m args below meth c Q D base nL) := by
  have hSx : ∀ t f, zSx base s t f → zSx base s t f := fun _ _ h => h
  have hSy : ∀ t f, zSx base s t f → zSx base s t f := fun _ _ h => h
  intro pc ls st h n k g x y off tgt d ht c kk H locs la hl hS
  exact lv_icmp_ne hx hb d ht (fun c9 => by first | exact absurd c c9 | exact absurd c9 c) (fun _ => kk H locs la hl hS)
theorem zp_if_lt_t {p : Program} {l : Launch} {e : Env} {R : Room} {s : State} {m : MethodId} {args : Array Value} {below : List Frame} {meth : Method} {c : Code} {Q : State → Prop} {D : va_G} {base : Nat} {cc : ByteArray} {own : String} {y : MethodName} {nL : Nat} (hx : p.tables.exec = Jvm.exec) (hb : c.code = cc) (hml : c.maxLocals = nL) (hown : s.vm.findClass own = some m.cls) (hts : ∀ w ∈ zGA, w.before args s = true) (hnm : meth.name = y.name) (hK : zK base D s s.heap) : zl_if_lt_t l D base cc own y R nL (zSx base s) (zV p l e R s m args below meth c Q D base nL) (zX p l e R s m args below meth c Q D base nL) := by
  have hSx : ∀ t f, zSx base s t f → zSx base s t f := fun _ _ h => h
  have hSy : ∀ t f, zSx base s t f → zSx base s t f := fun _ _ h => h
  intro pc ls st h n k g x off tgt d ht c kk H locs la hl hS
  exact lv_if_lt hx hb d ht (fun _ => kk H locs la hl hS) (fun c9 => by first | exact absurd c c9 | exact absurd c9 c)
theorem zp_if_lt_f {p : Program} {l : Launch} {e : Env} {R : Room} {s : State} {m : MethodId} {args : Array Value} {below : List Frame} {meth : Method} {c : Code} {Q : State → Prop} {D : va_G} {base : Nat} {cc : ByteArray} {own : String} {y : MethodName} {nL : Nat} (hx : p.tables.exec = Jvm.exec) (hb : c.code = cc) (hml : c.maxLocals = nL) (hown : s.vm.findClass own = some m.cls) (hts : ∀ w ∈ zGA, w.before args s = true) (hnm : meth.name = y.name) (hK : zK base D s s.heap) : zl_if_lt_f l D base cc own y R nL (zSx base s) (zV p l e R s m args below meth c Q D base nL) (zX p l e R s m args below meth c Q D base nL) := by
  have hSx : ∀ t f, zSx base s t f → zSx base s t f := fun _ _ h => h
  have hSy : ∀ t f, zSx base s t f → zSx base s t f := fun _ _ h => h
  intro pc ls st h n k g x off tgt d ht c kk H locs la hl hS
  exact lv_if_lt hx hb d ht (fun c9 => by first | exact absurd c c9 | exact absurd c9 c) (fun _ => kk H locs la hl hS)
theorem zp_icmp_lt_t {p : Program} {l : Launch} {e : Env} {R : Room} {s : State} {m : MethodId} {args : Array Value} {below : List Frame} {meth : Method} {c : Code} {Q : State → Prop} {D : va_G} {base : Nat} {cc : ByteArray} {own : String} {y : MethodName} {nL : Nat} (hx : p.tables.exec = Jvm.exec) (hb : c.code = cc) (hml : c.maxLocals = nL) (hown : s.vm.findClass own = some m.cls) (hts : ∀ w ∈ zGA, w.before args s = true) (hnm : meth.name = y.name) (hK : zK base D s s.heap) : zl_icmp_lt_t l D base cc own y R nL (zSx base s) (zV p l e R s m args below meth c Q D base nL) (zX p l e R s m args below meth c Q D base nL) := by
  have hSx : ∀ t f, zSx base s t f → zSx base s t f := fun _ _ h => h
  have hSy : ∀ t f, zSx base s t f → zSx base s t f := fun _ _ h => h
  intro pc ls st h n k g x y off tgt d ht c kk H locs la hl hS
  exact lv_icmp_lt hx hb d ht (fun _ => kk H locs la hl hS) (fun c9 => by first | exact absurd c c9 | exact absurd c9 c)
theorem zp_icmp_lt_f {p : Program} {l : Launch} {e : Env} {R : Room} {s : State} {m : MethodId} {args : Array Value} {below : List Frame} {meth : Method} {c : Code} {Q : State → Prop} {D : va_G} {base : Nat} {cc : ByteArray} {own : String} {y : MethodName} {nL : Nat} (hx : p.tables.exec = Jvm.exec) (hb : c.code = cc) (hml : c.maxLocals = nL) (hown : s.vm.findClass own = some m.cls) (hts : ∀ w ∈ zGA, w.before args s = true) (hnm : meth.name = y.name) (hK : zK base D s s.heap) : zl_icmp_lt_f l D base cc own y R nL (zSx base s) (zV p l e R s m args below meth c Q D base nL) (zX p l e R s m args below meth c Q D base nL) := by
  have hSx : ∀ t f, zSx base s t f → zSx base s t f := fun _ _ h => h
  have hSy : ∀ t f, zSx base s t f → zSx base s t f := fun _ _ h => h
  intro pc ls st h n k g x y off tgt d ht c kk H locs la hl hS
  exact lv_icmp_lt hx hb d ht (fun c9 => by first | exact absurd c c9 | exact absurd c9 c) (fun _ => kk H locs la hl hS)
theorem zp_if_ge_t {p : Program} {l : Launch} {e : Env} {R : Room} {s : State} {m : MethodId} {args : Array Value} {below : List Frame} {meth : Method} {c : Code} {Q : State → Prop} {D : va_G} {base : Nat} {cc : ByteArray} {own : String} {y : MethodName} {nL : Nat} (hx : p.tables.exec = Jvm.exec) (hb : c.code = cc) (hml : c.maxLocals = nL) (hown : s.vm.findClass own = some m.cls) (hts : ∀ w ∈ zGA, w.before args s = true) (hnm : meth.name = y.name) (hK : zK base D s s.heap) : zl_if_ge_t l D base cc own y R nL (zSx base s) (zV p l e R s m args below meth c Q D base nL) (zX p l e R s m args below meth c Q D base nL) := by
  have hSx : ∀ t f, zSx base s t f → zSx base s t f := fun _ _ h => h
  have hSy : ∀ t f, zSx base s t f → zSx base s t f := fun _ _ h => h
  intro pc ls st h n k g x off tgt d ht c kk H locs la hl hS
  exact lv_if_ge hx hb d ht (fun _ => kk H locs la hl hS) (fun c9 => by first | exact absurd c c9 | exact absurd c9 c)
theorem zp_if_ge_f {p : Program} {l : Launch} {e : Env} {R : Room} {s : State} {m : MethodId} {args : Array Value} {below : List Frame} {meth : Method} {c : Code} {Q : State → Prop} {D : va_G} {base : Nat} {cc : ByteArray} {own : String} {y : MethodName} {nL : Nat} (hx : p.tables.exec = Jvm.exec) (hb : c.code = cc) (hml : c.maxLocals = nL) (hown : s.vm.findClass own = some m.cls) (hts : ∀ w ∈ zGA, w.before args s = true) (hnm : meth.name = y.name) (hK : zK base D s s.heap) : zl_if_ge_f l D base cc own y R nL (zSx base s) (zV p l e R s m args below meth c Q D base nL) (zX p l e R s m args below meth c Q D base nL) := by
  have hSx : ∀ t f, zSx base s t f → zSx base s t f := fun _ _ h => h
  have hSy : ∀ t f, zSx base s t f → zSx base s t f := fun _ _ h => h
  intro pc ls st h n k g x off tgt d ht c kk H locs la hl hS
  exact lv_if_ge hx hb d ht (fun c9 => by first | exact absurd c c9 | exact absurd c9 c) (fun _ => kk H locs la hl hS)
theorem zp_icmp_ge_t {p : Program} {l : Launch} {e : Env} {R : Room} {s : State} {m : MethodId} {args : Array Value} {below : List Frame} {meth : Method} {c : Code} {Q : State → Prop} {D : va_G} {base : Nat} {cc : ByteArray} {own : String} {y : MethodName} {nL : Nat} (hx : p.tables.exec = Jvm.exec) (hb : c.code = cc) (hml : c.maxLocals = nL) (hown : s.vm.findClass own = some m.cls) (hts : ∀ w ∈ zGA, w.before args s = true) (hnm : meth.name = y.name) (hK : zK base D s s.heap) : zl_icmp_ge_t l D base cc own y R nL (zSx base s) (zV p l e R s m args below meth c Q D base nL) (zX p l e R s m args below meth c Q D base nL) := by
  have hSx : ∀ t f, zSx base s t f → zSx base s t f := fun _ _ h => h
  have hSy : ∀ t f, zSx base s t f → zSx base s t f := fun _ _ h => h
  intro pc ls st h n k g x y off tgt d ht c kk H locs la hl hS
  exact lv_icmp_ge hx hb d ht (fun _ => kk H locs la hl hS) (fun c9 => by first | exact absurd c c9 | exact absurd c9 c)
theorem zp_icmp_ge_f {p : Program} {l : Launch} {e : Env} {R : Room} {s : State} {m : MethodId} {args : Array Value} {below : List Frame} {meth : Method} {c : Code} {Q : State → Prop} {D : va_G} {base : Nat} {cc : ByteArray} {own : String} {y : MethodName} {nL : Nat} (hx : p.tables.exec = Jvm.exec) (hb : c.code = cc) (hml : c.maxLocals = nL) (hown : s.vm.findClass own = some m.cls) (hts : ∀ w ∈ zGA, w.before args s = true) (hnm : meth.name = y.name) (hK : zK base D s s.heap) : zl_icmp_ge_f l D base cc own y R nL (zSx base s) (zV p l e R s m args below meth c Q D base nL) (zX p l e R s m args below meth c Q D base nL) := by
  have hSx : ∀ t f, zSx base s t f → zSx base s t f := fun _ _ h => h
  have hSy : ∀ t f, zSx base s t f → zSx base s t f := fun _ _ h => h
  intro pc ls st h n k g x y off tgt d ht c kk H locs la hl hS
  exact lv_icmp_ge hx hb d ht (fun c9 => by first | exact absurd c c9 | exact absurd c9 c) (fun _ => kk H locs la hl hS)
theorem zp_if_gt_t {p : Program} {l : Launch} {e : Env} {R : Room} {s : State} {m : MethodId} {args : Array Value} {below : List Frame} {meth : Method} {c : Code} {Q : State → Prop} {D : va_G} {base : Nat} {cc : ByteArray} {own : String} {y : MethodName} {nL : Nat} (hx : p.tables.exec = Jvm.exec) (hb : c.code = cc) (hml : c.maxLocals = nL) (hown : s.vm.findClass own = some m.cls) (hts : ∀ w ∈ zGA, w.before args s = true) (hnm : meth.name = y.name) (hK : zK base D s s.heap) : zl_if_gt_t l D base cc own y R nL (zSx base s) (zV p l e R s m args below meth c Q D base nL) (zX p l e R s m args below meth c Q D base nL) := by
  have hSx : ∀ t f, zSx base s t f → zSx base s t f := fun _ _ h => h
  have hSy : ∀ t f, zSx base s t f → zSx base s t f := fun _ _ h => h
  intro pc ls st h n k g x off tgt d ht c kk H locs la hl hS
  exact lv_if_gt hx hb d ht (fun _ => kk H locs la hl hS) (fun c9 => by first | exact absurd c c9 | exact absurd c9 c)
theorem zp_if_gt_f {p : Program} {l : Launch} {e : Env} {R : Room} {s : State} {m : MethodId} {args : Array Value} {below : List Frame} {meth : Method} {c : Code} {Q : State → Prop} {D : va_G} {base : Nat} {cc : ByteArray} {own : String} {y : MethodName} {nL : Nat} (hx : p.tables.exec = Jvm.exec) (hb : c.code = cc) (hml : c.maxLocals = nL) (hown : s.vm.findClass own = some m.cls) (hts : ∀ w ∈ zGA, w.before args s = true) (hnm : meth.name = y.name) (hK : zK base D s s.heap) : zl_if_gt_f l D base cc own y R nL (zSx base s) (zV p l e R s m args below meth c Q D base nL) (zX p l e R s m args below meth c Q D base nL) := by
  have hSx : ∀ t f, zSx base s t f → zSx base s t f := fun _ _ h => h
  have hSy : ∀ t f, zSx base s t f → zSx base s t f := fun _ _ h => h
  intro pc ls st h n k g x off tgt d ht c kk H locs la hl hS
  exact lv_if_gt hx hb d ht (fun c9 => by first | exact absurd c c9 | exact absurd c9 c) (fun _ => kk H locs la hl hS)
theorem zp_icmp_gt_t {p : Program} {l : Launch} {e : Env} {R : Room} {s : State} {m : MethodId} {args : Array Value} {below : List Frame} {meth : Method} {c : Code} {Q : State → Prop} {D : va_G} {base : Nat} {cc : ByteArray} {own : String} {y : MethodName} {nL : Nat} (hx : p.tables.exec = Jvm.exec) (hb : c.code = cc) (hml : c.maxLocals = nL) (hown : s.vm.findClass own = some m.cls) (hts : ∀ w ∈ zGA, w.before args s = true) (hnm : meth.name = y.name) (hK : zK base D s s.heap) : zl_icmp_gt_t l D base cc own y R nL (zSx base s) (zV p l e R s m args below meth c Q D base nL) (zX p l e R s m args below meth c Q D base nL) := by
  have hSx : ∀ t f, zSx base s t f → zSx base s t f := fun _ _ h => h
  have hSy : ∀ t f, zSx base s t f → zSx base s t f := fun _ _ h => h
  intro pc ls st h n k g x y off tgt d ht c kk H locs la hl hS
  exact lv_icmp_gt hx hb d ht (fun _ => kk H locs la hl hS) (fun c9 => by first | exact absurd c c9 | exact absurd c9 c)
theorem zp_icmp_gt_f {p : Program} {l : Launch} {e : Env} {R : Room} {s : State} {m : MethodId} {args : Array Value} {below : List Frame} {meth : Method} {c : Code} {Q : State → Prop} {D : va_G} {base : Nat} {cc : ByteArray} {own : String} {y : MethodName} {nL : Nat} (hx : p.tables.exec = Jvm.exec) (hb : c.code = cc) (hml : c.maxLocals = nL) (hown : s.vm.findClass own = some m.cls) (hts : ∀ w ∈ zGA, w.before args s = true) (hnm : meth.name = y.name) (hK : zK base D s s.heap) : zl_icmp_gt_f l D base cc own y R nL (zSx base s) (zV p l e R s m args below meth c Q D base nL) (zX p l e R s m args below meth c Q D base nL) := by
  have hSx : ∀ t f, zSx base s t f → zSx base s t f := fun _ _ h => h
  have hSy : ∀ t f, zSx base s t f → zSx base s t f := fun _ _ h => h
  intro pc ls st h n k g x y off tgt d ht c kk H locs la hl hS
  exact lv_icmp_gt hx hb d ht (fun c9 => by first | exact absurd c c9 | exact absurd c9 c) (fun _ => kk H locs la hl hS)
theorem zp_if_le_t {p : Program} {l : Launch} {e : Env} {R : Room} {s : State} {m : MethodId} {args : Array Value} {below : List Frame} {meth : Method} {c : Code} {Q : State → Prop} {D : va_G} {base : Nat} {cc : ByteArray} {own : String} {y : MethodName} {nL : Nat} (hx : p.tables.exec = Jvm.exec) (hb : c.code = cc) (hml : c.maxLocals = nL) (hown : s.vm.findClass own = some m.cls) (hts : ∀ w ∈ zGA, w.before args s = true) (hnm : meth.name = y.name) (hK : zK base D s s.heap) : zl_if_le_t l D base cc own y R nL (zSx base s) (zV p l e R s m args below meth c Q D base nL) (zX p l e R s m args below meth c Q D base nL) := by
  have hSx : ∀ t f, zSx base s t f → zSx base s t f := fun _ _ h => h
  have hSy : ∀ t f, zSx base s t f → zSx base s t f := fun _ _ h => h
  intro pc ls st h n k g x off tgt d ht c kk H locs la hl hS
  exact lv_if_le hx hb d ht (fun _ => kk H locs la hl hS) (fun c9 => by first | exact absurd c c9 | exact absurd c9 c)
theorem zp_if_le_f {p : Program} {l : Launch} {e : Env} {R : Room} {s : State} {m : MethodId} {args : Array Value} {below : List Frame} {meth : Method} {c : Code} {Q : State → Prop} {D : va_G} {base : Nat} {cc : ByteArray} {own : String} {y : MethodName} {nL : Nat} (hx : p.tables.exec = Jvm.exec) (hb : c.code = cc) (hml : c.maxLocals = nL) (hown : s.vm.findClass own = some m.cls) (hts : ∀ w ∈ zGA, w.before args s = true) (hnm : meth.name = y.name) (hK : zK base D s s.heap) : zl_if_le_f l D base cc own y R nL (zSx base s) (zV p l e R s m args below meth c Q D base nL) (zX p l e R s m args below meth c Q D base nL) := by
  have hSx : ∀ t f, zSx base s t f → zSx base s t f := fun _ _ h => h
  have hSy : ∀ t f, zSx base s t f → zSx base s t f := fun _ _ h => h
  intro pc ls st h n k g x off tgt d ht c kk H locs la hl hS
  exact lv_if_le hx hb d ht (fun c9 => by first | exact absurd c c9 | exact absurd c9 c) (fun _ => kk H locs la hl hS)
theorem zp_icmp_le_t {p : Program} {l : Launch} {e : Env} {R : Room} {s : State} {m : MethodId} {args : Array Value} {below : List Frame} {meth : Method} {c : Code} {Q : State → Prop} {D : va_G} {base : Nat} {cc : ByteArray} {own : String} {y : MethodName} {nL : Nat} (hx : p.tables.exec = Jvm.exec) (hb : c.code = cc) (hml : c.maxLocals = nL) (hown : s.vm.findClass own = some m.cls) (hts : ∀ w ∈ zGA, w.before args s = true) (hnm : meth.name = y.name) (hK : zK base D s s.heap) : zl_icmp_le_t l D base cc own y R nL (zSx base s) (zV p l e R s m args below meth c Q D base nL) (zX p l e R s m args below meth c Q D base nL) := by
  have hSx : ∀ t f, zSx base s t f → zSx base s t f := fun _ _ h => h
  have hSy : ∀ t f, zSx base s t f → zSx base s t f := fun _ _ h => h
  intro pc ls st h n k g x y off tgt d ht c kk H locs la hl hS
  exact lv_icmp_le hx hb d ht (fun _ => kk H locs la hl hS) (fun c9 => by first | exact absurd c c9 | exact absurd c9 c)
theorem zp_icmp_le_f {p : Program} {l : Launch} {e : Env} {R : Room} {s : State} {m : MethodId} {args : Array Value} {below : List Frame} {meth : Method} {c : Code} {Q : State → Prop} {D : va_G} {base : Nat} {cc : ByteArray} {own : String} {y : MethodName} {nL : Nat} (hx : p.tables.exec = Jvm.exec) (hb : c.code = cc) (hml : c.maxLocals = nL) (hown : s.vm.findClass own = some m.cls) (hts : ∀ w ∈ zGA, w.before args s = true) (hnm : meth.name = y.name) (hK : zK base D s s.heap) : zl_icmp_le_f l D base cc own y R nL (zSx base s) (zV p l e R s m args below meth c Q D base nL) (zX p l e R s m args below meth c Q D base nL) := by
  have hSx : ∀ t f, zSx base s t f → zSx base s t f := fun _ _ h => h
  have hSy : ∀ t f, zSx base s t f → zSx base s t f := fun _ _ h => h
  intro pc ls st h n k g x y off tgt d ht c kk H locs la hl hS
  exact lv_icmp_le hx hb d ht (fun c9 => by first | exact absurd c c9 | exact absurd c9 c) (fun _ => kk H locs la hl hS)
theorem zp_ifnonnull {p : Program} {l : Launch} {e : Env} {R : Room} {s : State} {m : MethodId} {args : Array Value} {below : List Frame} {meth : Method} {c : Code} {Q : State → Prop} {D : va_G} {base : Nat} {cc : ByteArray} {own : String} {y : MethodName} {nL : Nat} (hx : p.tables.exec = Jvm.exec) (hb : c.code = cc) (hml : c.maxLocals = nL) (hown : s.vm.findClass own = some m.cls) (hts : ∀ w ∈ zGA, w.before args s = true) (hnm : meth.name = y.name) (hK : zK base D s s.heap) : zl_ifnonnull l D base cc own y R nL (zSx base s) (zV p l e R s m args below meth c Q D base nL) (zX p l e R s m args below meth c Q D base nL) := by
  have hSx : ∀ t f, zSx base s t f → zSx base s t f := fun _ _ h => h
  have hSy : ∀ t f, zSx base s t f → zSx base s t f := fun _ _ h => h
  intro pc ls st h n k g x off tgt d ht kk H locs la hl hS
  exact lv_ifnonnull hx hb d ht (kk H locs la hl hS)
theorem zp_ifnonnullN {p : Program} {l : Launch} {e : Env} {R : Room} {s : State} {m : MethodId} {args : Array Value} {below : List Frame} {meth : Method} {c : Code} {Q : State → Prop} {D : va_G} {base : Nat} {cc : ByteArray} {own : String} {y : MethodName} {nL : Nat} (hx : p.tables.exec = Jvm.exec) (hb : c.code = cc) (hml : c.maxLocals = nL) (hown : s.vm.findClass own = some m.cls) (hts : ∀ w ∈ zGA, w.before args s = true) (hnm : meth.name = y.name) (hK : zK base D s s.heap) : zl_ifnonnullN l D base cc own y R nL (zSx base s) (zV p l e R s m args below meth c Q D base nL) (zX p l e R s m args below meth c Q D base nL) := by
  have hSx : ∀ t f, zSx base s t f → zSx base s t f := fun _ _ h => h
  have hSy : ∀ t f, zSx base s t f → zSx base s t f := fun _ _ h => h
  intro pc ls st h n k g off d kk H locs la hl hS
  exact lv_ifnonnullN hx hb d (kk H locs la hl hS)
theorem zp_lookup {p : Program} {l : Launch} {e : Env} {R : Room} {s : State} {m : MethodId} {args : Array Value} {below : List Frame} {meth : Method} {c : Code} {Q : State → Prop} {D : va_G} {base : Nat} {cc : ByteArray} {own : String} {y : MethodName} {nL : Nat} (hx : p.tables.exec = Jvm.exec) (hb : c.code = cc) (hml : c.maxLocals = nL) (hown : s.vm.findClass own = some m.cls) (hts : ∀ w ∈ zGA, w.before args s = true) (hnm : meth.name = y.name) (hK : zK base D s s.heap) : zl_lookup l D base cc own y R nL (zSx base s) (zV p l e R s m args below meth c Q D base nL) (zX p l e R s m args below meth c Q D base nL) := by
  have hSx : ∀ t f, zSx base s t f → zSx base s t f := fun _ _ h => h
  have hSy : ∀ t f, zSx base s t f → zSx base s t f := fun _ _ h => h
  intro pc ls st h n k g dflt ps len x off tgt d hp ho ht kk H locs la hl hS
  exact lv_lookup hx hb d hp ho ht (kk H locs la hl hS)
theorem zp_tblin {p : Program} {l : Launch} {e : Env} {R : Room} {s : State} {m : MethodId} {args : Array Value} {below : List Frame} {meth : Method} {c : Code} {Q : State → Prop} {D : va_G} {base : Nat} {cc : ByteArray} {own : String} {y : MethodName} {nL : Nat} (hx : p.tables.exec = Jvm.exec) (hb : c.code = cc) (hml : c.maxLocals = nL) (hown : s.vm.findClass own = some m.cls) (hts : ∀ w ∈ zGA, w.before args s = true) (hnm : meth.name = y.name) (hK : zK base D s s.heap) : zl_tblin l D base cc own y R nL (zSx base s) (zV p l e R s m args below meth c Q D base nL) (zX p l e R s m args below meth c Q D base nL) := by
  have hSx : ∀ t f, zSx base s t f → zSx base s t f := fun _ _ h => h
  have hSy : ∀ t f, zSx base s t f → zSx base s t f := fun _ _ h => h
  intro pc ls st h n k g dflt lo hi offs len x off tgt d h1 h2 ho ht kk H locs la hl hS
  exact lv_tableIn hx hb d h1 h2 ho ht (kk H locs la hl hS)
theorem zp_tblout {p : Program} {l : Launch} {e : Env} {R : Room} {s : State} {m : MethodId} {args : Array Value} {below : List Frame} {meth : Method} {c : Code} {Q : State → Prop} {D : va_G} {base : Nat} {cc : ByteArray} {own : String} {y : MethodName} {nL : Nat} (hx : p.tables.exec = Jvm.exec) (hb : c.code = cc) (hml : c.maxLocals = nL) (hown : s.vm.findClass own = some m.cls) (hts : ∀ w ∈ zGA, w.before args s = true) (hnm : meth.name = y.name) (hK : zK base D s s.heap) : zl_tblout l D base cc own y R nL (zSx base s) (zV p l e R s m args below meth c Q D base nL) (zX p l e R s m args below meth c Q D base nL) := by
  have hSx : ∀ t f, zSx base s t f → zSx base s t f := fun _ _ h => h
  have hSy : ∀ t f, zSx base s t f → zSx base s t f := fun _ _ h => h
  intro pc ls st h n k g dflt lo hi offs len x tgt d ho ht kk H locs la hl hS
  exact lv_tableOut hx hb d ho ht (kk H locs la hl hS)
theorem zp_getf {p : Program} {l : Launch} {e : Env} {R : Room} {s : State} {m : MethodId} {args : Array Value} {below : List Frame} {meth : Method} {c : Code} {Q : State → Prop} {D : va_G} {base : Nat} {cc : ByteArray} {own : String} {y : MethodName} {nL : Nat} (hx : p.tables.exec = Jvm.exec) (hb : c.code = cc) (hml : c.maxLocals = nL) (hown : s.vm.findClass own = some m.cls) (hts : ∀ w ∈ zGA, w.before args s = true) (hnm : meth.name = y.name) (hK : zK base D s s.heap) : zl_getf l D base cc own y R nL (zSx base s) (zV p l e R s m args below meth c Q D base nL) (zX p l e R s m args below meth c Q D base nL) := by
  have hSx : ∀ t f, zSx base s t f → zSx base s t f := fun _ _ h => h
  have hSy : ∀ t f, zSx base s t f → zSx base s t f := fun _ _ h => h
  intro pc ls st h n k g i ci j a fs v d hf ha hv kk H locs la hl hS
  exact z_getf hx hb hown hts hK hS hf ha hv d (kk H locs la hl hS)
theorem zp_putf {p : Program} {l : Launch} {e : Env} {R : Room} {s : State} {m : MethodId} {args : Array Value} {below : List Frame} {meth : Method} {c : Code} {Q : State → Prop} {D : va_G} {base : Nat} {cc : ByteArray} {own : String} {y : MethodName} {nL : Nat} (hx : p.tables.exec = Jvm.exec) (hb : c.code = cc) (hml : c.maxLocals = nL) (hown : s.vm.findClass own = some m.cls) (hts : ∀ w ∈ zGA, w.before args s = true) (hnm : meth.name = y.name) (hK : zK base D s s.heap) : zl_putf l D base cc own y R nL (zSx base s) (zV p l e R s m args below meth c Q D base nL) (zX p l e R s m args below meth c Q D base nL) := by
  have hSx : ∀ t f, zSx base s t f → zSx base s t f := fun _ _ h => h
  have hSy : ∀ t f, zSx base s t f → zSx base s t f := fun _ _ h => h
  intro pc ls st h n k g i ci j a fs v ty h2 d hf ha hj hn hi he kk H locs la hl hS
  exact z_putf hx hb hown hts hK hS hf ha hj hn hi d (fun H locs hS => kk H locs la hl (by rw [← he]; exact hS))
theorem zp_putF {p : Program} {l : Launch} {e : Env} {R : Room} {s : State} {m : MethodId} {args : Array Value} {below : List Frame} {meth : Method} {c : Code} {Q : State → Prop} {D : va_G} {base : Nat} {cc : ByteArray} {own : String} {y : MethodName} {nL : Nat} (hx : p.tables.exec = Jvm.exec) (hb : c.code = cc) (hml : c.maxLocals = nL) (hown : s.vm.findClass own = some m.cls) (hts : ∀ w ∈ zGA, w.before args s = true) (hnm : meth.name = y.name) (hK : zK base D s s.heap) : zl_putF l D base cc own y R nL (zSx base s) (zV p l e R s m args below meth c Q D base nL) (zX p l e R s m args below meth c Q D base nL) := by
  have hSx : ∀ t f, zSx base s t f → zSx base s t f := fun _ _ h => h
  have hSy : ∀ t f, zSx base s t f → zSx base s t f := fun _ _ h => h
  intro pc ls st h n k g i ci j a fs v ty h2 d hy9 hf ha hj hn hi he kk H locs la hl hS
  exact z_putF hx hb hown hts (hnm.trans hy9) hK hS hf ha hj hn hi d (fun H locs hS => kk H locs la hl (by rw [← he]; exact hS))
theorem zp_iald {p : Program} {l : Launch} {e : Env} {R : Room} {s : State} {m : MethodId} {args : Array Value} {below : List Frame} {meth : Method} {c : Code} {Q : State → Prop} {D : va_G} {base : Nat} {cc : ByteArray} {own : String} {y : MethodName} {nL : Nat} (hx : p.tables.exec = Jvm.exec) (hb : c.code = cc) (hml : c.maxLocals = nL) (hown : s.vm.findClass own = some m.cls) (hts : ∀ w ∈ zGA, w.before args s = true) (hnm : meth.name = y.name) (hK : zK base D s s.heap) : zl_iald l D base cc own y R nL (zSx base s) (zV p l e R s m args below meth c Q D base nL) (zX p l e R s m args below meth c Q D base nL) := by
  have hSx : ∀ t f, zSx base s t f → zSx base s t f := fun _ _ h => h
  have hSy : ∀ t f, zSx base s t f → zSx base s t f := fun _ _ h => h
  intro pc ls st h n k g a N f i j d ha hi hj kk H locs la hl hS
  exact z_iald hx hb hS ha hi hj d (kk H locs la hl hS)
theorem zp_lald {p : Program} {l : Launch} {e : Env} {R : Room} {s : State} {m : MethodId} {args : Array Value} {below : List Frame} {meth : Method} {c : Code} {Q : State → Prop} {D : va_G} {base : Nat} {cc : ByteArray} {own : String} {y : MethodName} {nL : Nat} (hx : p.tables.exec = Jvm.exec) (hb : c.code = cc) (hml : c.maxLocals = nL) (hown : s.vm.findClass own = some m.cls) (hts : ∀ w ∈ zGA, w.before args s = true) (hnm : meth.name = y.name) (hK : zK base D s s.heap) : zl_lald l D base cc own y R nL (zSx base s) (zV p l e R s m args below meth c Q D base nL) (zX p l e R s m args below meth c Q D base nL) := by
  have hSx : ∀ t f, zSx base s t f → zSx base s t f := fun _ _ h => h
  have hSy : ∀ t f, zSx base s t f → zSx base s t f := fun _ _ h => h
  intro pc ls st h n k g a N f i j d ha hi hj kk H locs la hl hS
  exact z_lald hx hb hS ha hi hj d (kk H locs la hl hS)
theorem zp_aald {p : Program} {l : Launch} {e : Env} {R : Room} {s : State} {m : MethodId} {args : Array Value} {below : List Frame} {meth : Method} {c : Code} {Q : State → Prop} {D : va_G} {base : Nat} {cc : ByteArray} {own : String} {y : MethodName} {nL : Nat} (hx : p.tables.exec = Jvm.exec) (hb : c.code = cc) (hml : c.maxLocals = nL) (hown : s.vm.findClass own = some m.cls) (hts : ∀ w ∈ zGA, w.before args s = true) (hnm : meth.name = y.name) (hK : zK base D s s.heap) : zl_aald l D base cc own y R nL (zSx base s) (zV p l e R s m args below meth c Q D base nL) (zX p l e R s m args below meth c Q D base nL) := by
  have hSx : ∀ t f, zSx base s t f → zSx base s t f := fun _ _ h => h
  have hSy : ∀ t f, zSx base s t f → zSx base s t f := fun _ _ h => h
  intro pc ls st h n k g a N f i j d ha hi hj kk H locs la hl hS
  exact z_aald hx hb hS ha hi hj d (kk H locs la hl hS)
theorem zp_iast {p : Program} {l : Launch} {e : Env} {R : Room} {s : State} {m : MethodId} {args : Array Value} {below : List Frame} {meth : Method} {c : Code} {Q : State → Prop} {D : va_G} {base : Nat} {cc : ByteArray} {own : String} {y : MethodName} {nL : Nat} (hx : p.tables.exec = Jvm.exec) (hb : c.code = cc) (hml : c.maxLocals = nL) (hown : s.vm.findClass own = some m.cls) (hts : ∀ w ∈ zGA, w.before args s = true) (hnm : meth.name = y.name) (hK : zK base D s s.heap) : zl_iast l D base cc own y R nL (zSx base s) (zV p l e R s m args below meth c Q D base nL) (zX p l e R s m args below meth c Q D base nL) := by
  have hSx : ∀ t f, zSx base s t f → zSx base s t f := fun _ _ h => h
  have hSy : ∀ t f, zSx base s t f → zSx base s t f := fun _ _ h => h
  intro pc ls st h n k g a N f i x j h2 d ha hi hj he kk H locs la hl hS
  exact z_iast hx hb hS ha hi hj d (fun H locs hS => kk H locs la hl (by rw [← he]; exact hS))
theorem zp_last {p : Program} {l : Launch} {e : Env} {R : Room} {s : State} {m : MethodId} {args : Array Value} {below : List Frame} {meth : Method} {c : Code} {Q : State → Prop} {D : va_G} {base : Nat} {cc : ByteArray} {own : String} {y : MethodName} {nL : Nat} (hx : p.tables.exec = Jvm.exec) (hb : c.code = cc) (hml : c.maxLocals = nL) (hown : s.vm.findClass own = some m.cls) (hts : ∀ w ∈ zGA, w.before args s = true) (hnm : meth.name = y.name) (hK : zK base D s s.heap) : zl_last l D base cc own y R nL (zSx base s) (zV p l e R s m args below meth c Q D base nL) (zX p l e R s m args below meth c Q D base nL) := by
  have hSx : ∀ t f, zSx base s t f → zSx base s t f := fun _ _ h => h
  have hSy : ∀ t f, zSx base s t f → zSx base s t f := fun _ _ h => h
  intro pc ls st h n k g a N f i x j h2 d ha hi hj he kk H locs la hl hS
  exact z_last hx hb hS ha hi hj d (fun H locs hS => kk H locs la hl (by rw [← he]; exact hS))
theorem zp_aast {p : Program} {l : Launch} {e : Env} {R : Room} {s : State} {m : MethodId} {args : Array Value} {below : List Frame} {meth : Method} {c : Code} {Q : State → Prop} {D : va_G} {base : Nat} {cc : ByteArray} {own : String} {y : MethodName} {nL : Nat} (hx : p.tables.exec = Jvm.exec) (hb : c.code = cc) (hml : c.maxLocals = nL) (hown : s.vm.findClass own = some m.cls) (hts : ∀ w ∈ zGA, w.before args s = true) (hnm : meth.name = y.name) (hK : zK base D s s.heap) : zl_aast l D base cc own y R nL (zSx base s) (zV p l e R s m args below meth c Q D base nL) (zX p l e R s m args below meth c Q D base nL) := by
  have hSx : ∀ t f, zSx base s t f → zSx base s t f := fun _ _ h => h
  have hSy : ∀ t f, zSx base s t f → zSx base s t f := fun _ _ h => h
  intro pc ls st h n k g a b N f fs i j h2 d ha hb9 hi hj he kk H locs la hl hS
  exact z_aast hx hb hK hS ha hb9 hi hj d (fun H locs hS => kk H locs la hl (by rw [← he]; exact hS))
theorem zp_alen {p : Program} {l : Launch} {e : Env} {R : Room} {s : State} {m : MethodId} {args : Array Value} {below : List Frame} {meth : Method} {c : Code} {Q : State → Prop} {D : va_G} {base : Nat} {cc : ByteArray} {own : String} {y : MethodName} {nL : Nat} (hx : p.tables.exec = Jvm.exec) (hb : c.code = cc) (hml : c.maxLocals = nL) (hown : s.vm.findClass own = some m.cls) (hts : ∀ w ∈ zGA, w.before args s = true) (hnm : meth.name = y.name) (hK : zK base D s s.heap) : zl_alen l D base cc own y R nL (zSx base s) (zV p l e R s m args below meth c Q D base nL) (zX p l e R s m args below meth c Q D base nL) := by
  have hSx : ∀ t f, zSx base s t f → zSx base s t f := fun _ _ h => h
  have hSy : ∀ t f, zSx base s t f → zSx base s t f := fun _ _ h => h
  intro pc ls st h n k g a N f v d ha hv kk H locs la hl hS
  exact z_alen hx hb hS ha hv d (kk H locs la hl hS)
theorem zp_newi {p : Program} {l : Launch} {e : Env} {R : Room} {s : State} {m : MethodId} {args : Array Value} {below : List Frame} {meth : Method} {c : Code} {Q : State → Prop} {D : va_G} {base : Nat} {cc : ByteArray} {own : String} {y : MethodName} {nL : Nat} (hx : p.tables.exec = Jvm.exec) (hb : c.code = cc) (hml : c.maxLocals = nL) (hown : s.vm.findClass own = some m.cls) (hts : ∀ w ∈ zGA, w.before args s = true) (hnm : meth.name = y.name) (hK : zK base D s s.heap) : zl_newi l D base cc own y R nL (zSx base s) (zV p l e R s m args below meth c Q D base nL) (zX p l e R s m args below meth c Q D base nL) := by
  have hSx : ∀ t f, zSx base s t f → zSx base s t f := fun _ _ h => h
  have hSy : ∀ t f, zSx base s t f → zSx base s t f := fun _ _ h => h
  intro pc ls st h n k g i N h2 d hi hN r1 r2 he kk H locs la hl hS
  exact z_newi hx hb hts hS hi hN r1 r2 d (fun H hS => kk H locs la hl (by rw [← he]; exact hS))
theorem zp_newl {p : Program} {l : Launch} {e : Env} {R : Room} {s : State} {m : MethodId} {args : Array Value} {below : List Frame} {meth : Method} {c : Code} {Q : State → Prop} {D : va_G} {base : Nat} {cc : ByteArray} {own : String} {y : MethodName} {nL : Nat} (hx : p.tables.exec = Jvm.exec) (hb : c.code = cc) (hml : c.maxLocals = nL) (hown : s.vm.findClass own = some m.cls) (hts : ∀ w ∈ zGA, w.before args s = true) (hnm : meth.name = y.name) (hK : zK base D s s.heap) : zl_newl l D base cc own y R nL (zSx base s) (zV p l e R s m args below meth c Q D base nL) (zX p l e R s m args below meth c Q D base nL) := by
  have hSx : ∀ t f, zSx base s t f → zSx base s t f := fun _ _ h => h
  have hSy : ∀ t f, zSx base s t f → zSx base s t f := fun _ _ h => h
  intro pc ls st h n k g i N h2 d hi hN r1 r2 he kk H locs la hl hS
  exact z_newl hx hb hts hS hi hN r1 r2 d (fun H hS => kk H locs la hl (by rw [← he]; exact hS))
theorem zp_newq {p : Program} {l : Launch} {e : Env} {R : Room} {s : State} {m : MethodId} {args : Array Value} {below : List Frame} {meth : Method} {c : Code} {Q : State → Prop} {D : va_G} {base : Nat} {cc : ByteArray} {own : String} {y : MethodName} {nL : Nat} (hx : p.tables.exec = Jvm.exec) (hb : c.code = cc) (hml : c.maxLocals = nL) (hown : s.vm.findClass own = some m.cls) (hts : ∀ w ∈ zGA, w.before args s = true) (hnm : meth.name = y.name) (hK : zK base D s s.heap) : zl_newq l D base cc own y R nL (zSx base s) (zV p l e R s m args below meth c Q D base nL) (zX p l e R s m args below meth c Q D base nL) := by
  have hSx : ∀ t f, zSx base s t f → zSx base s t f := fun _ _ h => h
  have hSy : ∀ t f, zSx base s t f → zSx base s t f := fun _ _ h => h
  intro pc ls st h n k g x i N h2 d hc hi hN r1 r2 he kk H locs la hl hS
  exact z_newq hx hb hown hts hK hS hc hi hN r1 r2 d (fun H hS => kk H locs la hl (by rw [← he]; exact hS))
theorem zp_new {p : Program} {l : Launch} {e : Env} {R : Room} {s : State} {m : MethodId} {args : Array Value} {below : List Frame} {meth : Method} {c : Code} {Q : State → Prop} {D : va_G} {base : Nat} {cc : ByteArray} {own : String} {y : MethodName} {nL : Nat} (hx : p.tables.exec = Jvm.exec) (hb : c.code = cc) (hml : c.maxLocals = nL) (hown : s.vm.findClass own = some m.cls) (hts : ∀ w ∈ zGA, w.before args s = true) (hnm : meth.name = y.name) (hK : zK base D s s.heap) : zl_new l D base cc own y R nL (zSx base s) (zV p l e R s m args below meth c Q D base nL) (zX p l e R s m args below meth c Q D base nL) := by
  have hSx : ∀ t f, zSx base s t f → zSx base s t f := fun _ _ h => h
  have hSy : ∀ t f, zSx base s t f → zSx base s t f := fun _ _ h => h
  intro pc ls st h n k g x ci N fs h2 d hw r1 r2 he kk H locs la hl hS
  exact z_new hx hb hown hts hK hS hw r1 r2 d (fun H hS => kk H locs la hl (by rw [← he]; exact hS))
theorem zp_getsK {p : Program} {l : Launch} {e : Env} {R : Room} {s : State} {m : MethodId} {args : Array Value} {below : List Frame} {meth : Method} {c : Code} {Q : State → Prop} {D : va_G} {base : Nat} {cc : ByteArray} {own : String} {y : MethodName} {nL : Nat} (hx : p.tables.exec = Jvm.exec) (hb : c.code = cc) (hml : c.maxLocals = nL) (hown : s.vm.findClass own = some m.cls) (hts : ∀ w ∈ zGA, w.before args s = true) (hnm : meth.name = y.name) (hK : zK base D s s.heap) : zl_getsK l D base cc own y R nL (zSx base s) (zV p l e R s m args below meth c Q D base nL) (zX p l e R s m args below meth c Q D base nL) := by
  have hSx : ∀ t f, zSx base s t f → zSx base s t f := fun _ _ h => h
  have hSy : ∀ t f, zSx base s t f → zSx base s t f := fun _ _ h => h
  intro pc ls st h n k g x d hw kk H locs la hl hS
  exact z_gets hx hb hown hK.2.2.2.2.2.2.1 hK hS hw d (fun t ht => kk t (hSx t _ ht) H locs la hl hS)
theorem zp_getsP {p : Program} {l : Launch} {e : Env} {R : Room} {s : State} {m : MethodId} {args : Array Value} {below : List Frame} {meth : Method} {c : Code} {Q : State → Prop} {D : va_G} {base : Nat} {cc : ByteArray} {own : String} {y : MethodName} {nL : Nat} (hx : p.tables.exec = Jvm.exec) (hb : c.code = cc) (hml : c.maxLocals = nL) (hown : s.vm.findClass own = some m.cls) (hts : ∀ w ∈ zGA, w.before args s = true) (hnm : meth.name = y.name) (hK : zK base D s s.heap) : zl_getsP l D base cc own y R nL (zSx base s) (zV p l e R s m args below meth c Q D base nL) (zX p l e R s m args below meth c Q D base nL) := by
  have hSx : ∀ t f, zSx base s t f → zSx base s t f := fun _ _ h => h
  have hSy : ∀ t f, zSx base s t f → zSx base s t f := fun _ _ h => h
  intro pc ls st h n k g x d hw kk H locs la hl hS
  exact z_gets hx hb hown hK.2.2.2.2.2.2.2 hK hS hw d (fun t ht => kk t (hSx t _ ht) H locs la hl hS)
theorem zp_copyx {p : Program} {l : Launch} {e : Env} {R : Room} {s : State} {m : MethodId} {args : Array Value} {below : List Frame} {meth : Method} {c : Code} {Q : State → Prop} {D : va_G} {base : Nat} {cc : ByteArray} {own : String} {y : MethodName} {nL : Nat} (hx : p.tables.exec = Jvm.exec) (hb : c.code = cc) (hml : c.maxLocals = nL) (hown : s.vm.findClass own = some m.cls) (hts : ∀ w ∈ zGA, w.before args s = true) (hnm : meth.name = y.name) (hK : zK base D s s.heap) : zl_copyx l D base cc own y R nL (zSx base s) (zV p l e R s m args below meth c Q D base nL) (zX p l e R s m args below meth c Q D base nL) := by
  have hSx : ∀ t f, zSx base s t f → zSx base s t f := fun _ _ h => h
  have hSy : ∀ t f, zSx base s t f → zSx base s t f := fun _ _ h => h
  intro pc ls st h n k g x a t N f f0 h2 d hw ht ha hN r1 r2 r3 he kk H locs la hl hS
  exact z_copyx hx hb (hml.trans hl.1.symm) hown hts hS hw (hSy t f ht) ha hN r1 r2 r3 d (fun H locs hS => kk H locs la hl (by rw [← he]; exact hS))
theorem zp_copyi {p : Program} {l : Launch} {e : Env} {R : Room} {s : State} {m : MethodId} {args : Array Value} {below : List Frame} {meth : Method} {c : Code} {Q : State → Prop} {D : va_G} {base : Nat} {cc : ByteArray} {own : String} {y : MethodName} {nL : Nat} (hx : p.tables.exec = Jvm.exec) (hb : c.code = cc) (hml : c.maxLocals = nL) (hown : s.vm.findClass own = some m.cls) (hts : ∀ w ∈ zGA, w.before args s = true) (hnm : meth.name = y.name) (hK : zK base D s s.heap) : zl_copyi l D base cc own y R nL (zSx base s) (zV p l e R s m args below meth c Q D base nL) (zX p l e R s m args below meth c Q D base nL) := by
  have hSx : ∀ t f, zSx base s t f → zSx base s t f := fun _ _ h => h
  have hSy : ∀ t f, zSx base s t f → zSx base s t f := fun _ _ h => h
  intro pc ls st h n k g x a b N M j c f f0 h2 d hw hb9 ha hc hM hN r1 r2 r3 he kk H locs la hl hS
  exact z_copyi hx hb (hml.trans hl.1.symm) hown hts hS hw hb9 ha hc hM hN r1 r2 r3 d (fun H locs hS => kk H locs la hl (by rw [← he]; exact hS))
theorem zp_d2raw {p : Program} {l : Launch} {e : Env} {R : Room} {s : State} {m : MethodId} {args : Array Value} {below : List Frame} {meth : Method} {c : Code} {Q : State → Prop} {D : va_G} {base : Nat} {cc : ByteArray} {own : String} {y : MethodName} {nL : Nat} (hx : p.tables.exec = Jvm.exec) (hb : c.code = cc) (hml : c.maxLocals = nL) (hown : s.vm.findClass own = some m.cls) (hts : ∀ w ∈ zGA, w.before args s = true) (hnm : meth.name = y.name) (hK : zK base D s s.heap) : zl_d2raw l D base cc own y R nL (zSx base s) (zV p l e R s m args below meth c Q D base nL) (zX p l e R s m args below meth c Q D base nL) := by
  have hSx : ∀ t f, zSx base s t f → zSx base s t f := fun _ _ h => h
  have hSy : ∀ t f, zSx base s t f → zSx base s t f := fun _ _ h => h
  intro pc ls st h n k g x v d hw r1 r2 r3 kk H locs la hl hS
  exact vn_d2l hx hb (hml.trans hl.1.symm) hown (hts _ hw) (hts _ zw_d2n) (hts _ zw_d2s) (hts _ zw_d2i) r1 (by unfold zcat at r3; omega) d (kk H locs la hl hS)
theorem zp_objInit {p : Program} {l : Launch} {e : Env} {R : Room} {s : State} {m : MethodId} {args : Array Value} {below : List Frame} {meth : Method} {c : Code} {Q : State → Prop} {D : va_G} {base : Nat} {cc : ByteArray} {own : String} {y : MethodName} {nL : Nat} (hx : p.tables.exec = Jvm.exec) (hb : c.code = cc) (hml : c.maxLocals = nL) (hown : s.vm.findClass own = some m.cls) (hts : ∀ w ∈ zGA, w.before args s = true) (hnm : meth.name = y.name) (hK : zK base D s s.heap) : zl_objInit l D base cc own y R nL (zSx base s) (zV p l e R s m args below meth c Q D base nL) (zX p l e R s m args below meth c Q D base nL) := by
  have hSx : ∀ t f, zSx base s t f → zSx base s t f := fun _ _ h => h
  have hSy : ∀ t f, zSx base s t f → zSx base s t f := fun _ _ h => h
  intro pc ls st h n k g x a d hw r1 r2 r3 kk H locs la hl hS
  exact W.objInit hx hb hown (hts _ hw) (hts _ zw_oii) (hts _ zw_oic) rfl (hl.1.trans hml.symm) rfl d r1 (by unfold zcat at r3; show 2 * 0 + _ + 12 ≤ _; omega) (kk H locs la hl hS)
theorem zp_callV {p : Program} {l : Launch} {e : Env} {R : Room} {s : State} {m : MethodId} {args : Array Value} {below : List Frame} {meth : Method} {c : Code} {Q : State → Prop} {D : va_G} {base : Nat} {cc : ByteArray} {own : String} {y : MethodName} {nL : Nat} (hx : p.tables.exec = Jvm.exec) (hb : c.code = cc) (hml : c.maxLocals = nL) (hown : s.vm.findClass own = some m.cls) (hts : ∀ w ∈ zGA, w.before args s = true) (hnm : meth.name = y.name) (hK : zK base D s s.heap) : zl_callV l D base cc own y R nL (zSx base s) (zV p l e R s m args below meth c Q D base nL) (zX p l e R s m args below meth c Q D base nL) := by
  have hSx : ∀ t f, zSx base s t f → zSx base s t f := fun _ _ h => h
  have hSy : ∀ t f, zSx base s t f → zSx base s t f := fun _ _ h => h
  intro pc ls st h n k g x na dd2 mc ms maxL y2 bytes ret P rest b ci fs As d hM hm hv hb9 hcl hA hst q1 q2 q3 q4 q5 kk kx H locs la hl hS
  exact z_callV hx hb hml hown hts hK hS hl hM hm hv hb9 hcl hA hst q1 q2 q3 q4 q5 d (fun v h2 n2 hn hp H locs hS => kk v h2 n2 hn hp H locs la hl hS) (fun E h2 n2 hn hp H locs q ce hS h1 h2 h3 => kx E _ n2 hn hp H locs la q ce hl hS h1 h2 h3)
theorem zp_callS {p : Program} {l : Launch} {e : Env} {R : Room} {s : State} {m : MethodId} {args : Array Value} {below : List Frame} {meth : Method} {c : Code} {Q : State → Prop} {D : va_G} {base : Nat} {cc : ByteArray} {own : String} {y : MethodName} {nL : Nat} (hx : p.tables.exec = Jvm.exec) (hb : c.code = cc) (hml : c.maxLocals = nL) (hown : s.vm.findClass own = some m.cls) (hts : ∀ w ∈ zGA, w.before args s = true) (hnm : meth.name = y.name) (hK : zK base D s s.heap) : zl_callS l D base cc own y R nL (zSx base s) (zV p l e R s m args below meth c Q D base nL) (zX p l e R s m args below meth c Q D base nL) := by
  have hSx : ∀ t f, zSx base s t f → zSx base s t f := fun _ _ h => h
  have hSy : ∀ t f, zSx base s t f → zSx base s t f := fun _ _ h => h
  intro pc ls st h n k g x na dd2 mc ms maxL y2 bytes ret P rest As d hM hm hv hA hst q1 q2 q3 q4 q5 kk kx H locs la hl hS
  exact z_callS hx hb hml hown hts hK hS hl hM hm hv hA hst q1 q2 q3 q4 q5 d (fun v h2 n2 hn hp H locs hS => kk v h2 n2 hn hp H locs la hl hS) (fun E h2 n2 hn hp H locs q ce hS h1 h2 h3 => kx E _ n2 hn hp H locs la q ce hl hS h1 h2 h3)
theorem zp_callSH {p : Program} {l : Launch} {e : Env} {R : Room} {s : State} {m : MethodId} {args : Array Value} {below : List Frame} {meth : Method} {c : Code} {Q : State → Prop} {D : va_G} {base : Nat} {cc : ByteArray} {own : String} {y : MethodName} {nL : Nat} (hx : p.tables.exec = Jvm.exec) (hb : c.code = cc) (hml : c.maxLocals = nL) (hown : s.vm.findClass own = some m.cls) (hts : ∀ w ∈ zGA, w.before args s = true) (hnm : meth.name = y.name) (hK : zK base D s s.heap) : zl_callSH l D base cc own y R nL (zSx base s) (zV p l e R s m args below meth c Q D base nL) (zX p l e R s m args below meth c Q D base nL) := by
  have hSx : ∀ t f, zSx base s t f → zSx base s t f := fun _ _ h => h
  have hSy : ∀ t f, zSx base s t f → zSx base s t f := fun _ _ h => h
  intro pc ls st h n k g x na dd2 mc ms maxL y2 bytes ret P rest hh As d hM hm hv hA hst q1 q2 q3 q4 q5 kk kx H locs la hl hS
  exact z_callSH hx hb hml hown hts hK hS hl hM hm hv hA hst q1 q2 q3 q4 q5 d (fun v h2 n2 hn hp H locs hS => kk v h2 n2 hn hp H locs la hl hS) (fun E h2 n2 hn hp H locs q ce hS h1 h2 h3 => kx E _ n2 hn hp H locs la q ce hl hS h1 h2 h3)
theorem zp_callSN {p : Program} {l : Launch} {e : Env} {R : Room} {s : State} {m : MethodId} {args : Array Value} {below : List Frame} {meth : Method} {c : Code} {Q : State → Prop} {D : va_G} {base : Nat} {cc : ByteArray} {own : String} {y : MethodName} {nL : Nat} (hx : p.tables.exec = Jvm.exec) (hb : c.code = cc) (hml : c.maxLocals = nL) (hown : s.vm.findClass own = some m.cls) (hts : ∀ w ∈ zGA, w.before args s = true) (hnm : meth.name = y.name) (hK : zK base D s s.heap) : zl_callSN l D base cc own y R nL (zSx base s) (zV p l e R s m args below meth c Q D base nL) (zX p l e R s m args below meth c Q D base nL) := by
  have hSx : ∀ t f, zSx base s t f → zSx base s t f := fun _ _ h => h
  have hSy : ∀ t f, zSx base s t f → zSx base s t f := fun _ _ h => h
  intro pc ls st h n k g x na dd2 mc ms maxL y2 bytes ret P rest host As d hM hm hv hA hst q1 q2 q3 q4 q5 kk kx H locs la hl hS
  exact z_callSN hx hb hml hown hts hK hS hl hM hm hv hA hst q1 q2 q3 q4 q5 d (fun v h2 n2 hn hp H locs hS => kk v h2 n2 hn hp H locs la hl hS) (fun E h2 n2 hn hp H locs q ce hS h1 h2 h3 => kx E _ n2 hn hp H locs la q ce hl hS h1 h2 h3)
theorem zp_callI {p : Program} {l : Launch} {e : Env} {R : Room} {s : State} {m : MethodId} {args : Array Value} {below : List Frame} {meth : Method} {c : Code} {Q : State → Prop} {D : va_G} {base : Nat} {cc : ByteArray} {own : String} {y : MethodName} {nL : Nat} (hx : p.tables.exec = Jvm.exec) (hb : c.code = cc) (hml : c.maxLocals = nL) (hown : s.vm.findClass own = some m.cls) (hts : ∀ w ∈ zGA, w.before args s = true) (hnm : meth.name = y.name) (hK : zK base D s s.heap) : zl_callI l D base cc own y R nL (zSx base s) (zV p l e R s m args below meth c Q D base nL) (zX p l e R s m args below meth c Q D base nL) := by
  have hSx : ∀ t f, zSx base s t f → zSx base s t f := fun _ _ h => h
  have hSy : ∀ t f, zSx base s t f → zSx base s t f := fun _ _ h => h
  intro pc ls st h n k g x na dd2 mc ms maxL y2 bytes P rest b As d hM hm hv hA hst q1 q2 q3 q4 q5 kk kx H locs la hl hS
  exact z_callI hx hb hml hown hts hK hS hl hM hm hv hA hst q1 q2 q3 q4 q5 d (fun v h2 n2 hn hp H locs hS => kk v h2 n2 hn hp H locs la hl hS) (fun E h2 n2 hn hp H locs q ce hS h1 h2 h3 => kx E _ n2 hn hp H locs la q ce hl hS h1 h2 h3)
theorem zp_callIN {p : Program} {l : Launch} {e : Env} {R : Room} {s : State} {m : MethodId} {args : Array Value} {below : List Frame} {meth : Method} {c : Code} {Q : State → Prop} {D : va_G} {base : Nat} {cc : ByteArray} {own : String} {y : MethodName} {nL : Nat} (hx : p.tables.exec = Jvm.exec) (hb : c.code = cc) (hml : c.maxLocals = nL) (hown : s.vm.findClass own = some m.cls) (hts : ∀ w ∈ zGA, w.before args s = true) (hnm : meth.name = y.name) (hK : zK base D s s.heap) : zl_callIN l D base cc own y R nL (zSx base s) (zV p l e R s m args below meth c Q D base nL) (zX p l e R s m args below meth c Q D base nL) := by
  have hSx : ∀ t f, zSx base s t f → zSx base s t f := fun _ _ h => h
  have hSy : ∀ t f, zSx base s t f → zSx base s t f := fun _ _ h => h
  intro pc ls st h n k g x na dd2 mc ms maxL y2 bytes P rest host b As d hM hm hv hA hst q1 q2 q3 q4 q5 kk kx H locs la hl hS
  exact z_callIN hx hb hml hown hts hK hS hl hM hm hv hA hst q1 q2 q3 q4 q5 d (fun v h2 n2 hn hp H locs hS => kk v h2 n2 hn hp H locs la hl hS) (fun E h2 n2 hn hp H locs q ce hS h1 h2 h3 => kx E _ n2 hn hp H locs la q ce hl hS h1 h2 h3)
theorem zLaws.of {p : Program} {l : Launch} {e : Env} {R : Room} {s : State} {m : MethodId} {args : Array Value} {below : List Frame} {meth : Method} {c : Code} {Q : State → Prop} {D : va_G} {base : Nat} {cc : ByteArray} {own : String} {y : MethodName} {nL : Nat} (hx : p.tables.exec = Jvm.exec) (hb : c.code = cc) (hml : c.maxLocals = nL) (hown : s.vm.findClass own = some m.cls) (hts : ∀ w ∈ zGA, w.before args s = true) (hnm : meth.name = y.name) (hK : zK base D s s.heap) : zLaws l D base cc own y R nL (zSx base s) (zV p l e R s m args below meth c Q D base nL) (zX p l e R s m args below meth c Q D base nL) :=
  ⟨zp_iconst hx hb hml hown hts hnm hK, zp_bipush hx hb hml hown hts hnm hK, zp_sipush hx hb hml hown hts hnm hK, zp_lconst hx hb hml hown hts hnm hK, zp_dconst0 hx hb hml hown hts hnm hK, zp_dconst1 hx hb hml hown hts hnm hK, zp_null hx hb hml hown hts hnm hK, zp_ldc hx hb hml hown hts hnm hK, zp_ldc2 hx hb hml hown hts hnm hK, zp_ldc2d hx hb hml hown hts hnm hK, zp_iload_n hx hb hml hown hts hnm hK, zp_iload hx hb hml hown hts hnm hK, zp_istore_n hx hb hml hown hts hnm hK, zp_istore hx hb hml hown hts hnm hK, zp_lload_n hx hb hml hown hts hnm hK, zp_lload hx hb hml hown hts hnm hK, zp_lstore_n hx hb hml hown hts hnm hK, zp_lstore hx hb hml hown hts hnm hK, zp_aload_n hx hb hml hown hts hnm hK, zp_aload hx hb hml hown hts hnm hK, zp_astore_n hx hb hml hown hts hnm hK, zp_astore hx hb hml hown hts hnm hK, zp_dload_n hx hb hml hown hts hnm hK, zp_dload hx hb hml hown hts hnm hK, zp_dstore_n hx hb hml hown hts hnm hK, zp_dstore hx hb hml hown hts hnm hK, zp_aload_nN hx hb hml hown hts hnm hK, zp_astore_nN hx hb hml hown hts hnm hK, zp_iinc hx hb hml hown hts hnm hK, zp_iadd hx hb hml hown hts hnm hK, zp_isub hx hb hml hown hts hnm hK, zp_imul hx hb hml hown hts hnm hK, zp_iand hx hb hml hown hts hnm hK, zp_idiv hx hb hml hown hts hnm hK, zp_irem hx hb hml hown hts hnm hK, zp_ladd hx hb hml hown hts hnm hK, zp_lsub hx hb hml hown hts hnm hK, zp_lmul hx hb hml hown hts hnm hK, zp_ldiv hx hb hml hown hts hnm hK, zp_lrem hx hb hml hown hts hnm hK, zp_i2l hx hb hml hown hts hnm hK, zp_l2i hx hb hml hown hts hnm hK, zp_i2d hx hb hml hown hts hnm hK, zp_d2l hx hb hml hown hts hnm hK, zp_ddiv hx hb hml hown hts hnm hK, zp_dmul hx hb hml hown hts hnm hK, zp_dsub hx hb hml hown hts hnm hK, zp_dcmp hx hb hml hown hts hnm hK, zp_lcmp hx hb hml hown hts hnm hK, zp_dup hx hb hml hown hts hnm hK, zp_dup2 hx hb hml hown hts hnm hK, zp_pop hx hb hml hown hts hnm hK, zp_goto hx hb hml hown hts hnm hK, zp_if_eq_t hx hb hml hown hts hnm hK, zp_if_eq_f hx hb hml hown hts hnm hK, zp_icmp_eq_t hx hb hml hown hts hnm hK, zp_icmp_eq_f hx hb hml hown hts hnm hK, zp_if_ne_t hx hb hml hown hts hnm hK, zp_if_ne_f hx hb hml hown hts hnm hK, zp_icmp_ne_t hx hb hml hown hts hnm hK, zp_icmp_ne_f hx hb hml hown hts hnm hK, zp_if_lt_t hx hb hml hown hts hnm hK, zp_if_lt_f hx hb hml hown hts hnm hK, zp_icmp_lt_t hx hb hml hown hts hnm hK, zp_icmp_lt_f hx hb hml hown hts hnm hK, zp_if_ge_t hx hb hml hown hts hnm hK, zp_if_ge_f hx hb hml hown hts hnm hK, zp_icmp_ge_t hx hb hml hown hts hnm hK, zp_icmp_ge_f hx hb hml hown hts hnm hK, zp_if_gt_t hx hb hml hown hts hnm hK, zp_if_gt_f hx hb hml hown hts hnm hK, zp_icmp_gt_t hx hb hml hown hts hnm hK, zp_icmp_gt_f hx hb hml hown hts hnm hK, zp_if_le_t hx hb hml hown hts hnm hK, zp_if_le_f hx hb hml hown hts hnm hK, zp_icmp_le_t hx hb hml hown hts hnm hK, zp_icmp_le_f hx hb hml hown hts hnm hK, zp_ifnonnull hx hb hml hown hts hnm hK, zp_ifnonnullN hx hb hml hown hts hnm hK, zp_lookup hx hb hml hown hts hnm hK, zp_tblin hx hb hml hown hts hnm hK, zp_tblout hx hb hml hown hts hnm hK, zp_getf hx hb hml hown hts hnm hK, zp_putf hx hb hml hown hts hnm hK, zp_putF hx hb hml hown hts hnm hK, zp_iald hx hb hml hown hts hnm hK, zp_lald hx hb hml hown hts hnm hK, zp_aald hx hb hml hown hts hnm hK, zp_iast hx hb hml hown hts hnm hK, zp_last hx hb hml hown hts hnm hK, zp_aast hx hb hml hown hts hnm hK, zp_alen hx hb hml hown hts hnm hK, zp_newi hx hb hml hown hts hnm hK, zp_newl hx hb hml hown hts hnm hK, zp_newq hx hb hml hown hts hnm hK, zp_new hx hb hml hown hts hnm hK, zp_getsK hx hb hml hown hts hnm hK, zp_getsP hx hb hml hown hts hnm hK, zp_copyx hx hb hml hown hts hnm hK, zp_copyi hx hb hml hown hts hnm hK, zp_d2raw hx hb hml hown hts hnm hK, zp_objInit hx hb hml hown hts hnm hK, zp_callV hx hb hml hown hts hnm hK, zp_callS hx hb hml hown hts hnm hK, zp_callSH hx hb hml hown hts hnm hK, zp_callSN hx hb hml hown hts hnm hK, zp_callI hx hb hml hown hts hnm hK, zp_callIN hx hb hml hown hts hnm hK⟩
end
section
def zEr : List String := ["java/lang/RuntimeException", "java/lang/Exception"]
/-- what a throw of a new cls(text) wants of the words -/
def zTH (ik is ic : Nat) (cls text : String) : Prop := Bundle.fit cls = true ∧ (∀ w ∈ Cond.classLink RX4 ik cls :: Cond.initialized cls :: vx_atS RX4 ic cls zEr, vx_ot w = true) ∧ Cond.classLink RX4 ik cls ∈ zGA ∧ Cond.initialized cls ∈ zGA ∧ (is, text) ∈ zStr ∧
  (∀ w ∈ (vx_atS RX4 ic cls zEr).filter goodWord, w ∈ zGA) ∧ (∀ w ∈ (vx_atS RX4 ic cls zEr).filter (fun w => !goodWord w), w ∈ zNG)
def zEnds (own : String) (cc : ByteArray) (R : Room) (ret : Option FieldType) (mc ms : Nat) (P : zO → zH → Nat → Prop) (V : zVT) : Prop :=
  (∀ {pc : Nat} {ls : List (Nat × Value)} {h : zH} {n k g : Nat} {v : Int32} {ty : FieldType}, decode cc pc = .ok (.ireturn, 1) → ret = some ty → narrow ty (.int v) = .int v → k ≤ mc → g ≤ ms → P (.inl (some (.int v))) h n → V pc ls [.int v] h n k g) ∧
  (∀ {pc : Nat} {ls : List (Nat × Value)} {h : zH} {n k g : Nat} {v : Int64}, decode cc pc = .ok (.lreturn, 1) → ret = some .long → k ≤ mc → g ≤ ms → P (.inl (some (.long v))) h n → V pc ls [.long v] h n k g) ∧
  (∀ {pc : Nat} {ls : List (Nat × Value)} {h : zH} {n k g : Nat} {v : UInt64}, decode cc pc = .ok (.dreturn, 1) → ret = some .double → k ≤ mc → g ≤ ms → P (.inl (some (.double v))) h n → V pc ls [.double v] h n k g) ∧
  (∀ {pc : Nat} {ls : List (Nat × Value)} {h : zH} {n k g : Nat}, decode cc pc = .ok (.return_, 1) → ret = none → k ≤ mc → g ≤ ms → P (.inl none) h n → V pc ls [] h n k g)
def zEndX (own : String) (cc : ByteArray) (R : Room) (mc ms : Nat) (P : zO → zH → Nat → Prop) (V : zVT) (X : zXT) : Prop :=
  (∀ {pc : Nat} {ls : List (Nat × Value)} {st : List Value} {h : zH} {n k g ik is ic : Nat} {cls text : String}, own = RX4 → zTH ik is ic cls text → decode cc pc = .ok (.new ik, 3) → decode cc (pc + 3) = .ok (.dup, 1) → decode cc (pc + 4) = .ok (.ldc is, 2) → decode cc (pc + 6) = .ok (.invokespecial ic, 3) → decode cc (pc + 9) = .ok (.athrow, 1) →
    6 ≤ R.frames → 128 ≤ R.locals → zcat st ≤ 8 → k + 1 ≤ R.cells → g + 6 ≤ R.slots → k + 1 ≤ mc → g + 6 ≤ ms → (∀ n2, n ≤ n2 → P (.inr cls) h n2) → V pc ls st h n k g) ∧
  (∀ {pc : Nat} {ls : List (Nat × Value)} {st : List Value} {h : zH} {n k g : Nat} {E : String}, k ≤ mc → g ≤ ms → P (.inr E) h n → X pc ls st h n k g E)
section ZE
variable {p : Program} {l : Launch} {e : Env} {R : Room} {s : State} {m : MethodId} {args : Array Value} {below : List Frame} {meth : Method} {c : Code} {D : va_G} {base : Nat} {cc : ByteArray} {own : String} {nL mc ms : Nat} {ret : Option FieldType} {P : zO → zH → Nat → Prop} {X : zXT}
theorem zQ_end {h : zH} {n : Nat} {H : Heap} {locs : List Loc} {v : Option Value} (hS : zS D base h n s H locs) (hp : P (.inl v) h n) {aa : Array Value} (t : State) (ht : t.heap = H) (hW : s.WarmedH t.vm) : zQ D base P aa s (.returned v) t :=
  ⟨⟨v, h, n, rfl, hp, by rw [ht]; exact hS.1.moved hW.alike⟩, hS.2.1.F ht⟩
theorem zEnds.of (hx : p.tables.exec = Jvm.exec) (hb : c.code = cc) (hr : meth.sig.returnType = ret) (hlocks : meth.locks = false) : zEnds own cc R ret mc ms P (zV p l e R s m args below meth c (vx_MQ below (zQ D base P) (zXC D base P) args s mc ms (fun q => base ≤ q)) D base nL) := by
  refine ⟨?_, ?_, ?_, ?_⟩
  · intro pc ls h n k g v ty d e1 e2 hk hg hp H locs la hl hS
    exact vx_ret (W.widen hk hg (W.zret hx hb (hr.trans e1) e2 (fun t ht hW => zQ_end hS hp t ht hW) hS.2.1.2.2 d hlocks))
  · intro pc ls h n k g v d e1 hk hg hp H locs la hl hS
    exact vx_ret (W.widen hk hg (W.lret hx hb (hr.trans e1) (fun t ht hW => zQ_end hS hp t ht hW) hS.2.1.2.2 d hlocks))
  · intro pc ls h n k g v d e1 hk hg hp H locs la hl hS
    exact vx_ret (W.widen hk hg (W.dret hx hb (hr.trans e1) (fun t ht hW => zQ_end hS hp t ht hW) hS.2.1.2.2 d hlocks))
  · intro pc ls h n k g d e1 hk hg hp H locs la hl hS
    exact vx_ret (W.widen hk hg (W.vret hx hb (hr.trans e1) (fun t ht hW => zQ_end hS hp t ht hW) hS.2.1.2.2 d hlocks))
theorem zHp.grow {h : zH} {n : Nat} {H H1 : Heap} {U u : State} (hh : zHp D base h n u H) (hvm : u.vm.Alike U.vm) (hz : H.size ≤ H1.size) (hq : ∀ q : Nat, q < H.size → H1[q]? = H[q]?) : zHp D base h H1.size U H1 := by
  have h1 := hh.1
  have h2 := hh.2.1
  refine ⟨rfl, by omega, fun a ha => hh.2.2.1 a (by omega), fun a => ?_⟩
  by_cases hc : h a = none
  · rw [hc]; trivial
  · have := (hh.in hc).2
    exact ((hh.2.2.2 a).kept (hq a (by omega))).moved hvm
theorem zEndX.of (hx : p.tables.exec = Jvm.exec) (hb : c.code = cc) (hml : c.maxLocals = nL) (hown : s.vm.findClass own = some m.cls) (hts : ∀ w ∈ zGA, w.before args s = true) (hK : zK base D s s.heap) (hlocks : meth.locks = false) (hst : l.stackTraces = false) (htab : ∀ x ∈ c.exceptionTable.toList, False) :
    zEndX own cc R mc ms P (zV p l e R s m args below meth c (vx_MQ below (zQ D base P) (zXC D base P) args s mc ms (fun q => base ≤ q)) D base nL) (zX p l e R s m args below meth c (vx_MQ below (zQ D base P) (zXC D base P) args s mc ms (fun q => base ≤ q)) D base nL) := by
  refine ⟨?_, ?_⟩
  · intro pc ls st h n k g ik is ic cls text ho hT d0 d3 d4 d6 d9 r1 r2 r3 r4 r5 r6 r7 hp H locs la hl hS
    subst ho
    obtain ⟨t1, t2, t3, t4, t5, t6, t7⟩ := hT
    obtain ⟨sa, hsa⟩ := hK.2.2.2.1 _ t5
    refine vx_throwS (names := zEr) (A := fun q => base ≤ q) hx hb hst hown t1 (by decide +kernel) (hts _ t3) (hts _ t4) hsa (vx_hat (fun w hw => hts w (t6 w hw)) (B := zNG) t7 (fun w hw => zng_use (List.mem_filter.mp hw).2 (hK.2.1 w hw))) t2 hK.2.2.2.2.1 hK.2.2.2.2.2.1 hS.2.1 (hl.1.trans hml.symm) d0 d3 d4 d6 d9 (fun x hx => absurd hx (fun hx => htab x hx)) (by show 2 + 3 < _; omega) (by unfold zcat at r3; show _ + (13 * (2 + 1) + 43) ≤ _; omega) r4 r5 hlocks ?_ hS.2.1.2.2 r6 r7
    intro t hvm hz hq
    exact ⟨⟨h, t.heap.size, hp _ (by have := hS.1.1; omega), hS.1.grow hvm hz hq⟩, by have := hS.2.1.1; omega, fun q h1 h2 => by
      rw [hq q (Nat.lt_of_lt_of_le h1 hS.2.1.1)]
      exact hS.2.1.2.1 q h1 h2⟩
  · intro pc ls st h n k g E hk hg hp H locs la q ce hl hS h1 h2 h3
    exact vx_out (fun x hx => absurd hx (fun hx => htab x hx)) hlocks h1 h2 h3 (fun t ht hvm => ⟨⟨h, n, hp, by rw [ht]; exact hS.1.moved hvm⟩, hS.2.1.F ht⟩) hS.2.1.2.2 hk hg
end ZE
/-- a contract from a walk in V: a body without handlers -/
theorem zCt.of {l : Launch} {D : va_G} {base dd : Nat} {y : MethodName} {cc : ByteArray} {maxL : Nat} {ret : Option FieldType} {As : List Value} {h : zH} {n mc ms : Nat} {P : zO → zH → Nat → Prop} (G : l.stackTraces = false) (hy : plainName y.cls = true) (hA : (lg_sl As).length ≤ maxL)
    (body : ∀ (Sx : Nat → (Nat → Int32) → Prop) (V : zVT) (X : zXT), zLaws l D base cc y.cls y ({ frames := dd, cells := mc, slots := ms, locals := 64 * dd }) maxL Sx V X → zEnds y.cls cc ({ frames := dd, cells := mc, slots := ms, locals := 64 * dd }) ret mc ms P V → zEndX y.cls cc ({ frames := dd, cells := mc, slots := ms, locals := 64 * dd }) mc ms P V X → V 0 (lv_args 0 As) [] h n 0 0) :
    zCt l D base dd y (.code y cc maxL ret) As h n mc ms P := by
  refine vx_ofW (cc := cc) (maxL := maxL) (ret := ret) hy rfl ?_
  intro p e s m args below meth c s₁ B hml htab hP
  obtain ⟨rfl, hK, hH⟩ := hP
  have hx := B.exec
  have hb := B.bytes
  have hr := B.returns
  have hts0 := atoms_spec (ws := Cond.code y cc maxL ret :: zGA) B.pre
  have hts : ∀ w ∈ zGA, w.before As.toArray s = true := fun w hw => hts0 w (List.mem_cons_of_mem _ hw)
  have hown : s.vm.findClass y.cls = some m.cls := findClass_of_methodNamed B.named
  have hlocks := B.notSynchronized
  have hin : meth.name = y.name := (name_of_methodNamed B.named B.method).1
  have hl := lv_entry As (n := maxL) hA
  rw [lg_entry_eq]
  generalize (lg_sl As ++ List.replicate (maxL - (lg_sl As).length) Slot.unset).toArray = la at hl ⊢
  have hz := hH.1
  exact body _ _ _ (zLaws.of hx hb hml hown hts hin hK) (zEnds.of hx hb hr hlocks) (zEndX.of hx hb hml hown hts hK hlocks G htab) s.heap [] la hl ⟨hH, va_S.rf, by have := hH.2.1; omega⟩
/-- the same, of a body with handlers -/
theorem zCt.ofH {l : Launch} {D : va_G} {base dd : Nat} {y : MethodName} {cc : ByteArray} {maxL : Nat} {ret : Option FieldType} {hh : List (Nat × Nat × Nat × Nat)} {As : List Value} {h : zH} {n mc ms : Nat} {P : zO → zH → Nat → Prop} (hy : plainName y.cls = true) (hA : (lg_sl As).length ≤ maxL)
    (body : ∀ (Sx : Nat → (Nat → Int32) → Prop) (V : zVT) (X : zXT), zLaws l D base cc y.cls y ({ frames := dd, cells := mc, slots := ms, locals := 64 * dd }) maxL Sx V X → zEnds y.cls cc ({ frames := dd, cells := mc, slots := ms, locals := 64 * dd }) ret mc ms P V →
      (∀ {pc : Nat} {ls : List (Nat × Value)} {st : List Value} {h : zH} {n k g : Nat} {E nm : String} (pre : List ExceptionTableEntry) (x : ExceptionTableEntry) (suf : List ExceptionTableEntry), tableOf hh = pre ++ x :: suf → (∀ z ∈ pre, covers z pc = false ∨ (z.catchType ≠ 0 ∧ ∃ nm : String, Cond.classLink y.cls z.catchType nm ∈ zGA ∧ (E, nm) ∈ zNC)) → covers x pc = true → x.catchType ≠ 0 → Cond.classLink y.cls x.catchType nm ∈ zGA → Cond.castable E nm ∈ zNG →
        (∀ q, V x.handlerPc ls [.ref q] h n k g) → X pc ls st h n k g E) → V 0 (lv_args 0 As) [] h n 0 0) :
    zCt l D base dd y (.codeWith y cc maxL ret hh) As h n mc ms P := by
  refine vx_ofWH (cc := cc) (maxL := maxL) (ret := ret) (hh := hh) hy rfl ?_
  intro p e s m args below meth c s₁ B hml hP
  obtain ⟨rfl, hK, hH⟩ := hP
  have hx := B.exec
  have hb := B.bytes
  have hr := B.returns
  have hts0 := atoms_spec (ws := Cond.codeWith y cc maxL ret hh :: zGA) B.pre
  have hts : ∀ w ∈ zGA, w.before As.toArray s = true := fun w hw => hts0 w (List.mem_cons_of_mem _ hw)
  have htab := vx_table (x := y) B (hts0 _ List.mem_cons_self)
  have hown : s.vm.findClass y.cls = some m.cls := findClass_of_methodNamed B.named
  have hlocks := B.notSynchronized
  have hin : meth.name = y.name := (name_of_methodNamed B.named B.method).1
  have hl := lv_entry As (n := maxL) hA
  rw [lg_entry_eq]
  generalize (lg_sl As ++ List.replicate (maxL - (lg_sl As).length) Slot.unset).toArray = la at hl ⊢
  have hz := hH.1
  refine body _ _ _ (zLaws.of hx hb hml hown hts hin hK) (zEnds.of hx hb hr hlocks) ?_ s.heap [] la hl ⟨hH, va_S.rf, by have := hH.2.1; omega⟩
  intro pc ls st h n k g E nm pre x suf e1 e2 e3 e4 e5 e6 kk H locs la q ce hl hS h1 h2 h3
  exact vx_catch hown pre x suf (htab.trans e1) (fun z hz => (e2 z hz).imp (fun q => q) (fun ⟨a1, nm, a2, a3⟩ => ⟨a1, nm, hts _ a2, hK.2.2.1 _ a3⟩)) e3 e4 (hts _ e5) (va_Nw.use rfl (hK.2.1 _ e6)) h1 h2 h3 (kk q H locs la hl hS)
/-- a call whose end is one: it returns r, the heap is h2 -/
theorem zR_x {r : Option Value} {h2 : zH} {n2 : Nat} {E : String} {a : zH} {b : Nat} {Q : Prop} (h : zR r h2 n2 (.inr E) a b) : Q := by cases h.1
theorem zR_v {r v : Option Value} {h2 a : zH} {n2 b : Nat} (h : zR r h2 n2 (.inl v) a b) : v = r ∧ a = h2 ∧ b = n2 := ⟨Sum.inl.inj h.1, h.2.1, h.2.2⟩
end
