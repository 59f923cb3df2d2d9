section
-- ===== PART A: goes FIRST, ahead of the names: the tables' words, and 'selects' of the private methods out of them =====
/-- a private method of a class that the tables say can be made, by its rows of tables_1 -/
def lw_okq (q : MethodName × Nat) : Prop := (q.1.cls ≠ "java/lang/invoke/MethodHandle" ∧ q.1.cls ≠ "java/lang/invoke/VarHandle") ∧ Cond.instantiable q.1.cls q.2 ∈ tables_1 ∧ Cond.privateMethod q.1 ∈ tables_1 ∧ Cond.instanceMethod q.1 ∈ tables_1
theorem lw_p0 : lw_okq (⟨"RoamBooks", "receivedAt", "(I)I"⟩, 7) := ⟨⟨by decide +kernel, by decide +kernel⟩, List.mem_of_getElem? (i := 26) (by decide +kernel), List.mem_of_getElem? (i := 161) (by decide +kernel), List.mem_of_getElem? (i := 162) (by decide +kernel)⟩
theorem lw_p1 : lw_okq (⟨"RoamBooks", "requirePlace", "(I)V"⟩, 7) := ⟨⟨by decide +kernel, by decide +kernel⟩, List.mem_of_getElem? (i := 26) (by decide +kernel), List.mem_of_getElem? (i := 165) (by decide +kernel), List.mem_of_getElem? (i := 166) (by decide +kernel)⟩
theorem lw_p2 : lw_okq (⟨"java/lang/Throwable", "fillInStackTrace", "(I)Ljava/lang/Throwable;"⟩, 6) := ⟨⟨by decide +kernel, by decide +kernel⟩, List.mem_of_getElem? (i := 207) (by decide +kernel), List.mem_of_getElem? (i := 205) (by decide +kernel), List.mem_of_getElem? (i := 206) (by decide +kernel)⟩
theorem lw_p3 : lw_okq (⟨"RoamBooks", "detachIfNotReceived", "(LRoamBooks$Subscriber;)V"⟩, 7) := ⟨⟨by decide +kernel, by decide +kernel⟩, List.mem_of_getElem? (i := 26) (by decide +kernel), List.mem_of_getElem? (i := 275) (by decide +kernel), List.mem_of_getElem? (i := 276) (by decide +kernel)⟩
theorem lw_p4 : lw_okq (⟨"RoamBooks", "networkAt", "(I)LRoamBooks$Network;"⟩, 7) := ⟨⟨by decide +kernel, by decide +kernel⟩, List.mem_of_getElem? (i := 26) (by decide +kernel), List.mem_of_getElem? (i := 289) (by decide +kernel), List.mem_of_getElem? (i := 290) (by decide +kernel)⟩
theorem lw_p5 : lw_okq (⟨"RoamBooks", "requireNetwork", "(I)V"⟩, 7) := ⟨⟨by decide +kernel, by decide +kernel⟩, List.mem_of_getElem? (i := 26) (by decide +kernel), List.mem_of_getElem? (i := 293) (by decide +kernel), List.mem_of_getElem? (i := 294) (by decide +kernel)⟩
theorem lw_p6 : lw_okq (⟨"RoamBooks", "detachAllFrom", "(I)V"⟩, 7) := ⟨⟨by decide +kernel, by decide +kernel⟩, List.mem_of_getElem? (i := 26) (by decide +kernel), List.mem_of_getElem? (i := 302) (by decide +kernel), List.mem_of_getElem? (i := 303) (by decide +kernel)⟩
theorem lw_p7 : lw_okq (⟨"java/util/ArrayList", "add", "(Ljava/lang/Object;[Ljava/lang/Object;I)V"⟩, 3) := ⟨⟨by decide +kernel, by decide +kernel⟩, List.mem_of_getElem? (i := 38) (by decide +kernel), List.mem_of_getElem? (i := 371) (by decide +kernel), List.mem_of_getElem? (i := 372) (by decide +kernel)⟩
theorem lw_p8 : lw_okq (⟨"java/util/ArrayList", "grow", "()[Ljava/lang/Object;"⟩, 3) := ⟨⟨by decide +kernel, by decide +kernel⟩, List.mem_of_getElem? (i := 38) (by decide +kernel), List.mem_of_getElem? (i := 375) (by decide +kernel), List.mem_of_getElem? (i := 376) (by decide +kernel)⟩
theorem lw_p9 : lw_okq (⟨"java/util/ArrayList", "grow", "(I)[Ljava/lang/Object;"⟩, 3) := ⟨⟨by decide +kernel, by decide +kernel⟩, List.mem_of_getElem? (i := 38) (by decide +kernel), List.mem_of_getElem? (i := 379) (by decide +kernel), List.mem_of_getElem? (i := 380) (by decide +kernel)⟩
theorem lw_p10 : lw_okq (⟨"RoamBooks", "subscriberAt", "(I)LRoamBooks$Subscriber;"⟩, 7) := ⟨⟨by decide +kernel, by decide +kernel⟩, List.mem_of_getElem? (i := 26) (by decide +kernel), List.mem_of_getElem? (i := 521) (by decide +kernel), List.mem_of_getElem? (i := 522) (by decide +kernel)⟩
theorem lw_p11 : lw_okq (⟨"RoamBooks", "whyNotUsable", "(LRoamBooks$Subscriber;I)I"⟩, 7) := ⟨⟨by decide +kernel, by decide +kernel⟩, List.mem_of_getElem? (i := 26) (by decide +kernel), List.mem_of_getElem? (i := 541) (by decide +kernel), List.mem_of_getElem? (i := 542) (by decide +kernel)⟩
theorem lw_p12 : lw_okq (⟨"RoamBooks", "agreementNow", "(II)LRoamBooks$Agreement;"⟩, 7) := ⟨⟨by decide +kernel, by decide +kernel⟩, List.mem_of_getElem? (i := 26) (by decide +kernel), List.mem_of_getElem? (i := 545) (by decide +kernel), List.mem_of_getElem? (i := 546) (by decide +kernel)⟩
theorem lw_p13 : lw_okq (⟨"RoamBooks", "isSteered", "(LRoamBooks$Subscriber;I)Z"⟩, 7) := ⟨⟨by decide +kernel, by decide +kernel⟩, List.mem_of_getElem? (i := 26) (by decide +kernel), List.mem_of_getElem? (i := 553) (by decide +kernel), List.mem_of_getElem? (i := 554) (by decide +kernel)⟩
theorem lw_p14 : lw_okq (⟨"RoamBooks", "makeContact", "(LRoamBooks$Subscriber;I)V"⟩, 7) := ⟨⟨by decide +kernel, by decide +kernel⟩, List.mem_of_getElem? (i := 26) (by decide +kernel), List.mem_of_getElem? (i := 557) (by decide +kernel), List.mem_of_getElem? (i := 558) (by decide +kernel)⟩
theorem lw_p15 : lw_okq (⟨"RoamBooks$Book", "isLine", "(I)Z"⟩, 1) := ⟨⟨by decide +kernel, by decide +kernel⟩, List.mem_of_getElem? (i := 70) (by decide +kernel), List.mem_of_getElem? (i := 565) (by decide +kernel), List.mem_of_getElem? (i := 566) (by decide +kernel)⟩
def lw_privs_1 : List (MethodName × Nat) := [(⟨"RoamBooks", "receivedAt", "(I)I"⟩, 7), (⟨"RoamBooks", "requirePlace", "(I)V"⟩, 7), (⟨"java/lang/Throwable", "fillInStackTrace", "(I)Ljava/lang/Throwable;"⟩, 6), (⟨"RoamBooks", "detachIfNotReceived", "(LRoamBooks$Subscriber;)V"⟩, 7), (⟨"RoamBooks", "networkAt", "(I)LRoamBooks$Network;"⟩, 7), (⟨"RoamBooks", "requireNetwork", "(I)V"⟩, 7), (⟨"RoamBooks", "detachAllFrom", "(I)V"⟩, 7), (⟨"java/util/ArrayList", "add", "(Ljava/lang/Object;[Ljava/lang/Object;I)V"⟩, 3), (⟨"java/util/ArrayList", "grow", "()[Ljava/lang/Object;"⟩, 3), (⟨"java/util/ArrayList", "grow", "(I)[Ljava/lang/Object;"⟩, 3), (⟨"RoamBooks", "subscriberAt", "(I)LRoamBooks$Subscriber;"⟩, 7), (⟨"RoamBooks", "whyNotUsable", "(LRoamBooks$Subscriber;I)I"⟩, 7), (⟨"RoamBooks", "agreementNow", "(II)LRoamBooks$Agreement;"⟩, 7), (⟨"RoamBooks", "isSteered", "(LRoamBooks$Subscriber;I)Z"⟩, 7), (⟨"RoamBooks", "makeContact", "(LRoamBooks$Subscriber;I)V"⟩, 7), (⟨"RoamBooks$Book", "isLine", "(I)Z"⟩, 1)]
theorem lw_r1 : ∀ q ∈ lw_privs_1, lw_okq q := List.forall_mem_cons.mpr ⟨lw_p0, List.forall_mem_cons.mpr ⟨lw_p1, List.forall_mem_cons.mpr ⟨lw_p2, List.forall_mem_cons.mpr ⟨lw_p3, List.forall_mem_cons.mpr ⟨lw_p4, List.forall_mem_cons.mpr ⟨lw_p5, List.forall_mem_cons.mpr ⟨lw_p6, List.forall_mem_cons.mpr ⟨lw_p7, List.forall_mem_cons.mpr ⟨lw_p8, List.forall_mem_cons.mpr ⟨lw_p9, List.forall_mem_cons.mpr ⟨lw_p10, List.forall_mem_cons.mpr ⟨lw_p11, List.forall_mem_cons.mpr ⟨lw_p12, List.forall_mem_cons.mpr ⟨lw_p13, List.forall_mem_cons.mpr ⟨lw_p14, List.forall_mem_cons.mpr ⟨lw_p15, fun _ h => absurd h List.not_mem_nil⟩⟩⟩⟩⟩⟩⟩⟩⟩⟩⟩⟩⟩⟩⟩⟩
theorem lw_p16 : lw_okq (⟨"RoamBooks", "whyNotFound", "(LRoamBooks$Subscriber;LRoamBooks$Subscriber;)I"⟩, 7) := ⟨⟨by decide +kernel, by decide +kernel⟩, List.mem_of_getElem? (i := 26) (by decide +kernel), List.mem_of_getElem? (i := 641) (by decide +kernel), List.mem_of_getElem? (i := 642) (by decide +kernel)⟩
theorem lw_p17 : lw_okq (⟨"RoamBooks", "priceOfCalling", "(LRoamBooks$Subscriber;)I"⟩, 7) := ⟨⟨by decide +kernel, by decide +kernel⟩, List.mem_of_getElem? (i := 26) (by decide +kernel), List.mem_of_getElem? (i := 645) (by decide +kernel), List.mem_of_getElem? (i := 646) (by decide +kernel)⟩
theorem lw_p18 : lw_okq (⟨"RoamBooks", "priceOfBeingCalled", "(LRoamBooks$Subscriber;)I"⟩, 7) := ⟨⟨by decide +kernel, by decide +kernel⟩, List.mem_of_getElem? (i := 26) (by decide +kernel), List.mem_of_getElem? (i := 653) (by decide +kernel), List.mem_of_getElem? (i := 654) (by decide +kernel)⟩
theorem lw_p19 : lw_okq (⟨"RoamBooks", "settle", "(LRoamBooks$Subscriber;II)V"⟩, 7) := ⟨⟨by decide +kernel, by decide +kernel⟩, List.mem_of_getElem? (i := 26) (by decide +kernel), List.mem_of_getElem? (i := 681) (by decide +kernel), List.mem_of_getElem? (i := 682) (by decide +kernel)⟩
theorem lw_p20 : lw_okq (⟨"RoamBooks", "accountOf", "(II)LRoamBooks$Account;"⟩, 7) := ⟨⟨by decide +kernel, by decide +kernel⟩, List.mem_of_getElem? (i := 26) (by decide +kernel), List.mem_of_getElem? (i := 685) (by decide +kernel), List.mem_of_getElem? (i := 686) (by decide +kernel)⟩
theorem lw_p21 : lw_okq (⟨"RoamBooks$Account", "minutesTakenIn", "(I)I"⟩, 3) := ⟨⟨by decide +kernel, by decide +kernel⟩, List.mem_of_getElem? (i := 109) (by decide +kernel), List.mem_of_getElem? (i := 792) (by decide +kernel), List.mem_of_getElem? (i := 793) (by decide +kernel)⟩
theorem lw_p22 : lw_okq (⟨"RoamBooks$Account", "owedIn", "(II)I"⟩, 3) := ⟨⟨by decide +kernel, by decide +kernel⟩, List.mem_of_getElem? (i := 109) (by decide +kernel), List.mem_of_getElem? (i := 796) (by decide +kernel), List.mem_of_getElem? (i := 797) (by decide +kernel)⟩
theorem lw_p23 : lw_okq (⟨"RoamBooks", "beginHours", "(II)V"⟩, 7) := ⟨⟨by decide +kernel, by decide +kernel⟩, List.mem_of_getElem? (i := 26) (by decide +kernel), List.mem_of_getElem? (i := 817) (by decide +kernel), List.mem_of_getElem? (i := 818) (by decide +kernel)⟩
theorem lw_p24 : lw_okq (⟨"RoamBooks", "beginHour", "(I)V"⟩, 7) := ⟨⟨by decide +kernel, by decide +kernel⟩, List.mem_of_getElem? (i := 26) (by decide +kernel), List.mem_of_getElem? (i := 822) (by decide +kernel), List.mem_of_getElem? (i := 823) (by decide +kernel)⟩
theorem lw_p25 : lw_okq (⟨"RoamBooks", "beginMonth", "()V"⟩, 7) := ⟨⟨by decide +kernel, by decide +kernel⟩, List.mem_of_getElem? (i := 26) (by decide +kernel), List.mem_of_getElem? (i := 831) (by decide +kernel), List.mem_of_getElem? (i := 832) (by decide +kernel)⟩
theorem lw_p26 : lw_okq (⟨"RoamBooksModel", "empties", "(I)V"⟩, 39) := ⟨⟨by decide +kernel, by decide +kernel⟩, List.mem_of_getElem? (i := 835) (by decide +kernel), List.mem_of_getElem? (i := 984) (by decide +kernel), List.mem_of_getElem? (i := 985) (by decide +kernel)⟩
theorem lw_p27 : lw_okq (⟨"RoamBooksModel", "isSubscriber", "(I)Z"⟩, 39) := ⟨⟨by decide +kernel, by decide +kernel⟩, List.mem_of_getElem? (i := 835) (by decide +kernel), List.mem_of_getElem? (i := 1018) (by decide +kernel), List.mem_of_getElem? (i := 1019) (by decide +kernel)⟩
theorem lw_p28 : lw_okq (⟨"RoamBooksModel", "reason", "(II)I"⟩, 39) := ⟨⟨by decide +kernel, by decide +kernel⟩, List.mem_of_getElem? (i := 835) (by decide +kernel), List.mem_of_getElem? (i := 1030) (by decide +kernel), List.mem_of_getElem? (i := 1031) (by decide +kernel)⟩
theorem lw_p29 : lw_okq (⟨"RoamBooksModel", "agreement", "(II)I"⟩, 39) := ⟨⟨by decide +kernel, by decide +kernel⟩, List.mem_of_getElem? (i := 835) (by decide +kernel), List.mem_of_getElem? (i := 1034) (by decide +kernel), List.mem_of_getElem? (i := 1035) (by decide +kernel)⟩
theorem lw_p30 : lw_okq (⟨"RoamBooksModel", "isSteered", "(II)Z"⟩, 39) := ⟨⟨by decide +kernel, by decide +kernel⟩, List.mem_of_getElem? (i := 835) (by decide +kernel), List.mem_of_getElem? (i := 1038) (by decide +kernel), List.mem_of_getElem? (i := 1039) (by decide +kernel)⟩
theorem lw_p31 : lw_okq (⟨"RoamBooksModel", "makesContact", "(I)V"⟩, 39) := ⟨⟨by decide +kernel, by decide +kernel⟩, List.mem_of_getElem? (i := 835) (by decide +kernel), List.mem_of_getElem? (i := 1042) (by decide +kernel), List.mem_of_getElem? (i := 1043) (by decide +kernel)⟩
def lw_privs_2 : List (MethodName × Nat) := [(⟨"RoamBooks", "whyNotFound", "(LRoamBooks$Subscriber;LRoamBooks$Subscriber;)I"⟩, 7), (⟨"RoamBooks", "priceOfCalling", "(LRoamBooks$Subscriber;)I"⟩, 7), (⟨"RoamBooks", "priceOfBeingCalled", "(LRoamBooks$Subscriber;)I"⟩, 7), (⟨"RoamBooks", "settle", "(LRoamBooks$Subscriber;II)V"⟩, 7), (⟨"RoamBooks", "accountOf", "(II)LRoamBooks$Account;"⟩, 7), (⟨"RoamBooks$Account", "minutesTakenIn", "(I)I"⟩, 3), (⟨"RoamBooks$Account", "owedIn", "(II)I"⟩, 3), (⟨"RoamBooks", "beginHours", "(II)V"⟩, 7), (⟨"RoamBooks", "beginHour", "(I)V"⟩, 7), (⟨"RoamBooks", "beginMonth", "()V"⟩, 7), (⟨"RoamBooksModel", "empties", "(I)V"⟩, 39), (⟨"RoamBooksModel", "isSubscriber", "(I)Z"⟩, 39), (⟨"RoamBooksModel", "reason", "(II)I"⟩, 39), (⟨"RoamBooksModel", "agreement", "(II)I"⟩, 39), (⟨"RoamBooksModel", "isSteered", "(II)Z"⟩, 39), (⟨"RoamBooksModel", "makesContact", "(I)V"⟩, 39)]
theorem lw_r2 : ∀ q ∈ lw_privs_2, lw_okq q := List.forall_mem_cons.mpr ⟨lw_p16, List.forall_mem_cons.mpr ⟨lw_p17, List.forall_mem_cons.mpr ⟨lw_p18, List.forall_mem_cons.mpr ⟨lw_p19, List.forall_mem_cons.mpr ⟨lw_p20, List.forall_mem_cons.mpr ⟨lw_p21, List.forall_mem_cons.mpr ⟨lw_p22, List.forall_mem_cons.mpr ⟨lw_p23, List.forall_mem_cons.mpr ⟨lw_p24, List.forall_mem_cons.mpr ⟨lw_p25, List.forall_mem_cons.mpr ⟨lw_p26, List.forall_mem_cons.mpr ⟨lw_p27, List.forall_mem_cons.mpr ⟨lw_p28, List.forall_mem_cons.mpr ⟨lw_p29, List.forall_mem_cons.mpr ⟨lw_p30, List.forall_mem_cons.mpr ⟨lw_p31, fun _ h => absurd h List.not_mem_nil⟩⟩⟩⟩⟩⟩⟩⟩⟩⟩⟩⟩⟩⟩⟩⟩
theorem lw_p32 : lw_okq (⟨"RoamBooksModel", "abroadOf", "(I)I"⟩, 39) := ⟨⟨by decide +kernel, by decide +kernel⟩, List.mem_of_getElem? (i := 835) (by decide +kernel), List.mem_of_getElem? (i := 1066) (by decide +kernel), List.mem_of_getElem? (i := 1067) (by decide +kernel)⟩
theorem lw_p33 : lw_okq (⟨"RoamBooksModel", "nobody", "(II)I"⟩, 39) := ⟨⟨by decide +kernel, by decide +kernel⟩, List.mem_of_getElem? (i := 835) (by decide +kernel), List.mem_of_getElem? (i := 1081) (by decide +kernel), List.mem_of_getElem? (i := 1082) (by decide +kernel)⟩
theorem lw_p34 : lw_okq (⟨"RoamBooksModel", "isAbroad", "(I)Z"⟩, 39) := ⟨⟨by decide +kernel, by decide +kernel⟩, List.mem_of_getElem? (i := 835) (by decide +kernel), List.mem_of_getElem? (i := 1085) (by decide +kernel), List.mem_of_getElem? (i := 1086) (by decide +kernel)⟩
theorem lw_p35 : lw_okq (⟨"RoamBooksModel", "isAbove", "(II)Z"⟩, 39) := ⟨⟨by decide +kernel, by decide +kernel⟩, List.mem_of_getElem? (i := 835) (by decide +kernel), List.mem_of_getElem? (i := 1089) (by decide +kernel), List.mem_of_getElem? (i := 1090) (by decide +kernel)⟩
theorem lw_p36 : lw_okq (⟨"RoamBooksModel", "pays", "(II)V"⟩, 39) := ⟨⟨by decide +kernel, by decide +kernel⟩, List.mem_of_getElem? (i := 835) (by decide +kernel), List.mem_of_getElem? (i := 1093) (by decide +kernel), List.mem_of_getElem? (i := 1094) (by decide +kernel)⟩
theorem lw_p37 : lw_okq (⟨"RoamBooksModel", "records", "(II)V"⟩, 39) := ⟨⟨by decide +kernel, by decide +kernel⟩, List.mem_of_getElem? (i := 835) (by decide +kernel), List.mem_of_getElem? (i := 1097) (by decide +kernel), List.mem_of_getElem? (i := 1098) (by decide +kernel)⟩
theorem lw_p38 : lw_okq (⟨"RoamBooksModel", "minutesOf", "(III)I"⟩, 39) := ⟨⟨by decide +kernel, by decide +kernel⟩, List.mem_of_getElem? (i := 835) (by decide +kernel), List.mem_of_getElem? (i := 1109) (by decide +kernel), List.mem_of_getElem? (i := 1110) (by decide +kernel)⟩
theorem lw_p39 : lw_okq (⟨"RoamBooksModel", "isOf", "(III)Z"⟩, 39) := ⟨⟨by decide +kernel, by decide +kernel⟩, List.mem_of_getElem? (i := 835) (by decide +kernel), List.mem_of_getElem? (i := 1113) (by decide +kernel), List.mem_of_getElem? (i := 1114) (by decide +kernel)⟩
theorem lw_p40 : lw_okq (⟨"RoamBooksModel", "priceOf", "(II)I"⟩, 39) := ⟨⟨by decide +kernel, by decide +kernel⟩, List.mem_of_getElem? (i := 835) (by decide +kernel), List.mem_of_getElem? (i := 1125) (by decide +kernel), List.mem_of_getElem? (i := 1126) (by decide +kernel)⟩
theorem lw_p41 : lw_okq (⟨"RoamBooksModel", "begins", "()V"⟩, 39) := ⟨⟨by decide +kernel, by decide +kernel⟩, List.mem_of_getElem? (i := 835) (by decide +kernel), List.mem_of_getElem? (i := 1143) (by decide +kernel), List.mem_of_getElem? (i := 1144) (by decide +kernel)⟩
def lw_privs_3 : List (MethodName × Nat) := [(⟨"RoamBooksModel", "abroadOf", "(I)I"⟩, 39), (⟨"RoamBooksModel", "nobody", "(II)I"⟩, 39), (⟨"RoamBooksModel", "isAbroad", "(I)Z"⟩, 39), (⟨"RoamBooksModel", "isAbove", "(II)Z"⟩, 39), (⟨"RoamBooksModel", "pays", "(II)V"⟩, 39), (⟨"RoamBooksModel", "records", "(II)V"⟩, 39), (⟨"RoamBooksModel", "minutesOf", "(III)I"⟩, 39), (⟨"RoamBooksModel", "isOf", "(III)Z"⟩, 39), (⟨"RoamBooksModel", "priceOf", "(II)I"⟩, 39), (⟨"RoamBooksModel", "begins", "()V"⟩, 39)]
theorem lw_r3 : ∀ q ∈ lw_privs_3, lw_okq q := List.forall_mem_cons.mpr ⟨lw_p32, List.forall_mem_cons.mpr ⟨lw_p33, List.forall_mem_cons.mpr ⟨lw_p34, List.forall_mem_cons.mpr ⟨lw_p35, List.forall_mem_cons.mpr ⟨lw_p36, List.forall_mem_cons.mpr ⟨lw_p37, List.forall_mem_cons.mpr ⟨lw_p38, List.forall_mem_cons.mpr ⟨lw_p39, List.forall_mem_cons.mpr ⟨lw_p40, List.forall_mem_cons.mpr ⟨lw_p41, fun _ h => absurd h List.not_mem_nil⟩⟩⟩⟩⟩⟩⟩⟩⟩⟩
def lw_privs : List (MethodName × Nat) := lw_privs_1 ++ (lw_privs_2 ++ (lw_privs_3))
def lw_tbl : List Cond := k2_sels lw_privs ++ tables_1
theorem lw_privs_ok : ∀ q ∈ lw_privs, lw_okq q := by
  show ∀ q ∈ lw_privs_1 ++ (lw_privs_2 ++ (lw_privs_3)), lw_okq q
  exact List.forall_mem_append.mpr ⟨lw_r1, List.forall_mem_append.mpr ⟨lw_r2, lw_r3⟩⟩

/-! ===== BEGIN words of one list among another's, by their places ===== -/
theorem goodIn_r {big : List Cond} (ws : List Cond) (ps : List Nat) (hp : ws = ps.filterMap (fun i => big[i]?)) (h : ws.all goodWord = true) : GoodIn big ws := by
  intro w hw
  have h1 := List.all_eq_true.mp h w hw
  rw [hp] at hw
  obtain ⟨i, -, hi⟩ := List.mem_filterMap.mp hw
  have hm : w ∈ big := by first | exact List.mem_of_getElem? hi | exact List.getElem?_mem hi
  exact ⟨hm, good_of_word h1⟩
theorem goodIn_app {big a b : List Cond} (ha : GoodIn big a) (hb : GoodIn big b) : GoodIn big (a ++ b) := fun w h => (List.mem_append.mp h).elim (ha w) (hb w)
theorem goodIn_ca {big a b : List Cond} {c : Cond} (ha : GoodIn big (c :: a)) (hb : GoodIn big b) : GoodIn big (c :: (a ++ b)) := fun w h => (List.mem_cons.mp h).elim (fun e => ha w (List.mem_cons.mpr (Or.inl e))) (fun h => (List.mem_append.mp h).elim (fun h => ha w (List.mem_cons.mpr (Or.inr h))) (hb w))
theorem goodIn_sub {big ws : List Cond} (hm : ∀ w ∈ ws, w ∈ big) (h : ws.all goodWord = true) : GoodIn big ws := fun w hw => ⟨hm w hw, good_of_word (List.all_eq_true.mp h w hw)⟩
/-! ===== END ===== -/

/-! ===== BEGIN exceptions that leave a method, and their catching by the caller (launches without stack traces) ===== -/
section VXA
/-! The laws vx_back, vx_callV, vx_callS, vx_callSW, vx_throw0, vx_throwS follow proofs of the library, with one case more: JvmDerived/Free/Laws.lean (Back.of_free), Shelf42/LK1.lean (callV, callS), Shelf/KitTraced.lean (throwNew0V, throwNewS). -/
/-- where a method has thrown q: the class by its name, the cell, what was written, the world -/
def vx_T (XC : String → State → State → Prop) (st : State) (q : Addr) (t : State) (mc ms : Nat) (free : Addr → Prop) : Prop :=
  ∃ (E : String) (ce : Cell) (L : List Loc), XC E st t ∧ t.heap[q]? = some ce ∧ ce.vm = .none ∧ st.vm.findClass E = some ce.cls ∧ st.WarmedH t.vm ∧ st.sameButNew ({ t with vm := st.vm } : State) L mc ms ∧ ∀ z ∈ L, free z.base
def vx_Q (Qc : Array Value → State → Outcome → State → Prop) (XC : String → State → State → Prop) (mc ms : Nat) (free : Addr → Prop) : Array Value → State → Outcome → State → Prop := fun a st o t =>
  (Qc a st o t ∧ ∃ L, FrameEnd st o t L mc ms ∧ ∀ q ∈ L, free q.base) ∨ ∃ q, o = .threw q ∧ vx_T XC st q t mc ms free
/-- a callee that returns or throws -/
def vx_Met (l : Launch) (y : MethodName) (ws : List Cond) (rm : Room) (Pc : Array Value → State → Prop) (Qc : Array Value → State → Outcome → State → Prop) (XC : String → State → State → Prop) (mc ms : Nat) (free : Addr → Prop) : Prop :=
  MetFree l y (headSpec ws rm) Pc (fun _ _ _ _ _ => True) (vx_Q Qc XC mc ms free)
def vx_Post (XC : String → State → State → Prop) (mc ms : Nat) (free : Addr → Prop) : Pt → Array Value → Addr → Pt → Prop := fun A a q B =>
  ∃ (g : JFrame) (mk : MethodId) (t : State) (L : List Loc) (E : String) (ce : Cell), B.U.heap = t.heap ∧ B.U.vm = t.vm ∧ XC E (A.U.calling g mk a) t ∧ t.heap[q]? = some ce ∧ ce.vm = .none ∧ A.U.vm.findClass E = some ce.cls ∧ B.locs = A.locs ++ L ∧ (∀ z ∈ L, free z.base) ∧ B.cells = A.cells + mc ∧ B.slots = A.slots + ms
def vx_Back (l : Launch) (R : Room) (p : Program) (e : Env) (below : List Frame) (s : State) (sargs : Array Value) (y : MethodName) (len W9 : Nat)
    (Pre : Pt → Array Value → Prop) (Post : Pt → Array Value → Option Value → Pt → Prop) (PostX : Pt → Array Value → Addr → Pt → Prop) : Prop :=
  ∀ (m : MethodId) (meth : Method) (c : Code) (A : Pt) (g : JFrame) (ig : Instr) (mk : MethodId) (a : Array Value),
    Stand p l e R s m sargs below meth c A.U A.locs A.cells A.slots → g.method = m → g.locals.size = c.maxLocals → decode c.code g.pc = .ok (ig, len) →
    2 * g.monitorRoom + (g.stack.map fun v => v.category).sum ≤ W9 → A.U.methodNamed? y = some mk → Pre A a →
    (∃ (v : Option Value) (B : Pt), Stand p l e R s m sargs below meth c B.U B.locs B.cells B.slots ∧ Post A a v B ∧
      Steps p.tables e below (doInvoke e (A.U.setTop g) [] mk a).1 (B.U.setTop { g with pc := g.pc + len, stack := v.toList ++ g.stack })) ∨
    (∃ (q : Addr) (B : Pt), Stand p l e R s m sargs below meth c B.U B.locs B.cells B.slots ∧ PostX A a q B ∧
      Steps p.tables e below (doInvoke e (A.U.setTop g) [] mk a).1 ((B.U.setTop g).pushFrame (.throwing q)))
section Payer
variable {l : Launch} {R : Room} {p : Program} {e : Env} {below : List Frame} {s : State} {sargs : Array Value} {y : MethodName} {len W9 : Nat}
theorem vx_back {ws : List Cond} {rm : Room} {Pc : Array Value → State → Prop} {Qc : Array Value → State → Outcome → State → Prop} {XC : String → State → State → Prop} {mc ms : Nat} {free : Addr → Prop} {bytes : ByteArray} {maxL : Nat} {ret : Option FieldType}
    (hM : vx_Met l y ws rm Pc Qc XC mc ms free) (hblind : FrameBlind Pc) (hrc : rm.cells = mc) (hrs : rm.slots = ms)
    (hframes : rm.frames + 1 ≤ R.frames) (hlocals : W9 + (maxL + 11) + rm.locals ≤ R.locals)
    (hws : ∀ w ∈ ws, ∀ a' U, s.WarmedH U.vm → w.before a' U = true) (hcode : Cond.code y bytes maxL ret ∈ ws) (hinit : ∀ a' U, s.WarmedH U.vm → (Cond.initialized y.cls).before a' U = true) :
    vx_Back l R p e below s sargs y len W9 (PreOf R mc ms Pc) (PostOf Qc mc ms free) (vx_Post XC mc ms free) := by
  intro m meth c A g ig mk a X hg hsize hdg hW hn hp
  have h1 : (headSpec ws rm).pre.before a A.U = true := atoms_intro fun w hw => hws w hw _ _ X.warmed
  have h2 : (Cond.code y bytes maxL ret).before a A.U = true := hws _ hcode _ _ X.warmed
  have h3 : (Cond.initialized y.cls).before a A.U = true := hinit _ _ X.warmed
  have h4 : A.cells + (headSpec ws rm).room.cells ≤ R.cells := by rw [show (headSpec ws rm).room.cells = mc from hrc]; exact hp.1
  have h5 : A.slots + (headSpec ws rm).room.slots ≤ R.slots := by rw [show (headSpec ws rm).room.slots = ms from hrs]; exact hp.2.1
  have hPc : Pc a (A.U.calling g mk a) := hblind _ _ _ _ hp.2.2
  obtain ⟨U, Ls, c0, s0⟩ := A
  dsimp only [Pt.U, Pt.locs, Pt.cells, Pt.slots] at h1 h2 h3 h4 h5 X hn hPc ⊢
  obtain ⟨methY, cY, hmY, hcY, -, hlY, -, -, -, -⟩ := Cond.code_spec hn h2
  obtain ⟨kY, hkY, -⟩ := className_of_methodNamed hn
  have hinitY : kY.init = .initialized := Cond.initialized_spec (findClass_of_methodNamed hn) hkY h3
  have h : At U g.method c below := by rw [hg]; exact X.here
  have hlocals9 : W9 + (maxL + 11) + (headSpec ws rm).room.locals ≤ R.locals := hlocals
  have happ : (headSpec ws rm).appliesLoose y e.platform (U.calling g mk a) = true :=
    Spec.appliesLoose_calling (g := g) h hdg hn hkY hinitY
      (X.room_calling (g := g) (R' := (headSpec ws rm).room) hsize hmY hcY hframes (by rw [hlY]; omega) h4 h5) h1
  obtain ⟨mid, hmid⟩ := h.above
  have hfr : (U.setTop g).frames = (.java g :: mid) ++ below := by rw [State.frames_setTop' g h.top, hmid]; rfl
  obtain ⟨o, s₂, hsteps, -, hend, hq⟩ := Steps.callFree hM p X.admits X.cas X.clock (acts := []) hfr happ hPc trivial
  have hq' : vx_Q Qc XC mc ms free a (U.calling g mk a) o s₂ := hq
  rw [State.frames_setTop' g h.top] at hend
  obtain ⟨g₀, hg0⟩ := Option.isSome_iff_exists.mp h.top
  obtain ⟨r, hr⟩ := State.topJava?_eq_some.mp hg0
  have hr' : (({ U with heap := s₂.heap, slotsUsed := s₂.slotsUsed } : State).setVm s₂.vm).frames = .java g₀ :: r := hr
  rcases hq' with ⟨hqc, L, hfe, hL⟩ | ⟨q, rfl, E, ce, L, hx, hce, hcv, hcl, hW₂, hsm, hL⟩
  · obtain ⟨⟨v, rfl⟩, hW₂, e2, q2, q3, q4, q5, q6⟩ := id hfe
    have e3 : s₂ = ({ (U.calling g mk a).setFrames s₂.frames with heap := s₂.heap, slotsUsed := s₂.slotsUsed } : State).setVm s₂.vm := by
      have : s₂ = ({ s₂ with vm := (U.calling g mk a).vm } : State).setVm s₂.vm := rfl
      rw [e2] at this
      exact this
    obtain ⟨c₂, i₂, len₂, hc₂, hd₂, hf₂⟩ := hend
    have hW' : U.WarmedH s₂.vm := hW₂
    have hcc : c₂ = c := by
      have h1 : s₂.code? g.method = U.code? g.method := by
        rw [State.code?_eq, State.code?_eq, hW'.alike.method?]
      exact Option.some.inj (hc₂.symm.trans (h1.trans h.code))
    subst hcc
    have hlen : len₂ = len := by rw [hdg] at hd₂; cases hd₂; rfl
    subst hlen
    have hs₂ : s₂ = (({ U with heap := s₂.heap, slotsUsed := s₂.slotsUsed } : State).setVm s₂.vm).setTop { g with pc := g.pc + len₂, stack := v.toList ++ g.stack } := by
      refine e3.trans ?_
      rw [hf₂, State.calling_eq h.top, State.setFrames_setFrames, State.setTop_of_frames _ hr', hr]
      rfl
    have hsame : U.sameButNew ({ U with heap := s₂.heap, slotsUsed := s₂.slotsUsed } : State) L mc ms := by
      refine ⟨?_, q2, q3, q4, q5, q6⟩
      obtain ⟨t, ht, -⟩ := State.frames_cons hr
      show ({ U with heap := s₂.heap, slotsUsed := s₂.slotsUsed } : State) = { U.setFrames U.frames with heap := s₂.heap, slotsUsed := s₂.slotsUsed }
      rw [State.setFrames_self ht]
    subst hg
    refine Or.inl ⟨v, ⟨(({ U with heap := s₂.heap, slotsUsed := s₂.slotsUsed } : State).setVm s₂.vm), Ls ++ L, c0 + mc, s0 + ms⟩,
      ⟨X.admits, X.cas, X.clock, X.frames, X.room, X.hears, X.method, X.code, (X.here.setHeapUsed s₂.heap s₂.slotsUsed).setVm hW'.alike, X.tail, State.WarmedH.trans X.warmed hW', X.limits, X.bytes, X.same.trans (hsame.setVm s.vm)⟩,
      ⟨g, mk, s₂, L, rfl, rfl, hqc, rfl, hL, rfl, rfl⟩, ?_⟩
    show Steps p.tables e below _ ((({ U with heap := s₂.heap, slotsUsed := s₂.slotsUsed } : State).setVm s₂.vm).setTop { g with pc := g.pc + len₂, stack := v.toList ++ g.stack })
    rw [← hs₂]
    exact hsteps
  · obtain ⟨e2, q2, q3, q4, q5, q6⟩ := id hsm
    have e3 : s₂ = ({ (U.calling g mk a).setFrames s₂.frames with heap := s₂.heap, slotsUsed := s₂.slotsUsed } : State).setVm s₂.vm := by
      have : s₂ = ({ s₂ with vm := (U.calling g mk a).vm } : State).setVm s₂.vm := rfl
      rw [e2] at this
      exact this
    have hf₂ : s₂.frames = .throwing q :: .java g :: U.frames.tail := hend
    have hW' : U.WarmedH s₂.vm := hW₂
    have hs₂ : s₂ = ((({ U with heap := s₂.heap, slotsUsed := s₂.slotsUsed } : State).setVm s₂.vm).setTop g).pushFrame (.throwing q) := by
      refine e3.trans ?_
      rw [hf₂, State.calling_eq h.top, State.setFrames_setFrames, State.pushFrame, State.frames_setTop _ hr', State.setTop_of_frames _ hr', State.setFrames_setFrames, hr]
      rfl
    have hsame : U.sameButNew ({ U with heap := s₂.heap, slotsUsed := s₂.slotsUsed } : State) L mc ms := by
      refine ⟨?_, q2, q3, q4, q5, q6⟩
      obtain ⟨t, ht, -⟩ := State.frames_cons hr
      show ({ U with heap := s₂.heap, slotsUsed := s₂.slotsUsed } : State) = { U.setFrames U.frames with heap := s₂.heap, slotsUsed := s₂.slotsUsed }
      rw [State.setFrames_self ht]
    subst hg
    refine Or.inr ⟨q, ⟨(({ U with heap := s₂.heap, slotsUsed := s₂.slotsUsed } : State).setVm s₂.vm), Ls ++ L, c0 + mc, s0 + ms⟩,
      ⟨X.admits, X.cas, X.clock, X.frames, X.room, X.hears, X.method, X.code, (X.here.setHeapUsed s₂.heap s₂.slotsUsed).setVm hW'.alike, X.tail, State.WarmedH.trans X.warmed hW', X.limits, X.bytes, X.same.trans (hsame.setVm s.vm)⟩,
      ⟨g, mk, s₂, L, E, ce, rfl, rfl, hx, hce, hcv, hcl, rfl, hL, rfl, rfl⟩, ?_⟩
    show Steps p.tables e below _ (((({ U with heap := s₂.heap, slotsUsed := s₂.slotsUsed } : State).setVm s₂.vm).setTop g).pushFrame (.throwing q))
    rw [← hs₂]
    exact hsteps
end Payer
section Calls
variable {p : Program} {l : Launch} {e : Env} {R : Room} {s : State} {m : MethodId} {args : Array Value} {below : List Frame} {meth : Method} {c : Code} {T : State} {locs : List Loc} {cells slots : Nat}
theorem vx_callV (X : Stand p l e R s m args below meth c T locs cells slots) (hexec : p.tables.exec = Jvm.exec) {own C : String} {index : Nat} {y : MethodName} {bytes : ByteArray} {maxL : Nat} {ret : Option FieldType}
    (hown : s.vm.findClass own = some m.cls) (hlink : (Cond.methodLink own index y).before args s = true) (hinst : (Cond.instanceMethod y).before args s = true) (hsel : (Cond.selects C y y).before args s = true)
    (hcode : (Cond.code y bytes maxL ret).before args s = true) (hy : y.cls ≠ "java/lang/invoke/MethodHandle" ∧ y.cls ≠ "java/lang/invoke/VarHandle")
    {W9 : Nat} {Pre : Pt → Array Value → Prop} {Post : Pt → Array Value → Option Value → Pt → Prop} {PostX : Pt → Array Value → Addr → Pt → Prop} (hK : vx_Back l R p e below s args y 3 W9 Pre Post PostX)
    {b : Addr} {cellB : Cell} (hcell : T.heap[b]? = some cellB) (hobj : cellB.vm.isStatics = false) (hcls : s.vm.findClass C = some cellB.cls)
    {g : JFrame} (hg : g.method = m) (hsize : g.locals.size = c.maxLocals) {argsL rest : List Value} (hlen : ∀ sig, parseMethodDescriptor y.desc = some sig → argsL.length = sig.parameters.length)
    (hstack : g.stack = argsL.reverse ++ .ref b :: rest) (hW : 2 * g.monitorRoom + (rest.map fun v => v.category).sum ≤ W9) (hdg : decode c.code g.pc = .ok (.invokevirtual index, 3))
    (hpre : ∀ vm₁, s.WarmedH vm₁ → Pre ⟨T.setVm vm₁, locs, cells, slots⟩ (Value.ref b :: argsL).toArray) :
    (∃ (v : Option Value) (vm₁ : Vm) (B : Pt), s.WarmedH vm₁ ∧ Stand p l e R s m args below meth c B.U B.locs B.cells B.slots ∧ Post ⟨T.setVm vm₁, locs, cells, slots⟩ (Value.ref b :: argsL).toArray v B ∧
      ∀ target, Steps p.tables e below (B.U.setTop { g with pc := g.pc + 3, stack := v.toList ++ rest }) target → Steps p.tables e below (T.setTop g) target) ∨
    (∃ (q : Addr) (vm₁ : Vm) (B : Pt), s.WarmedH vm₁ ∧ Stand p l e R s m args below meth c B.U B.locs B.cells B.slots ∧ PostX ⟨T.setVm vm₁, locs, cells, slots⟩ (Value.ref b :: argsL).toArray q B ∧
      Steps p.tables e below (T.setTop g) ((B.U.setTop { g with stack := rest }).pushFrame (.throwing q))) := by
  obtain ⟨mk, methM, hnamed, hmethM, hstM, habM⟩ := Cond.instanceMethod_spec hinst
  obtain ⟨methM', cM, hmethM', -, -, -, -, -, -, hsigM⟩ := Cond.code_spec hnamed hcode
  cases hmethM.symm.trans hmethM'
  obtain ⟨c2, r2, m2, q1, q2, q3, q4, kP, hkP, hkPi⟩ := Cond.selects_spec hsel
  cases hcls.symm.trans q1
  cases (State.methodFound?_of_named hnamed hy).symm.trans q2
  cases hnamed.symm.trans q3
  have hselP : selectMethod e.platform s.vm cellB.cls mk = .method mk := by rw [Launch.admits_selectMethod X.admits]; exact q4
  obtain ⟨vm₁, X₁, hstep₁⟩ := X.invokevirtual hexec hown hlink hnamed hmethM hstM hkP hkPi hy (a := b) (cell := cellB) hcell
    (fun z h => by rw [h] at hobj; cases hobj) hselP hmethM habM hkP hkPi (g := g) hg (argsL := argsL) (rest := rest) (hlen _ hsigM) hstack hdg
  rcases hK m meth c ⟨T.setVm vm₁, locs, cells, slots⟩ { g with stack := rest } (.invokevirtual index) mk (Value.ref b :: argsL).toArray X₁ hg hsize hdg hW (X₁.named hnamed) (hpre vm₁ X₁.warmed) with ⟨v, B, X', hpost, hsteps⟩ | ⟨q, B, X', hpost, hsteps⟩
  · exact Or.inl ⟨v, vm₁, B, X₁.warmed, X', hpost, fun target h => hstep₁ _ fun acts => by rw [doInvoke_state]; exact hsteps.trans h⟩
  · exact Or.inr ⟨q, vm₁, B, X₁.warmed, X', hpost, hstep₁ _ fun acts => by rw [doInvoke_state]; exact hsteps⟩
theorem vx_callS (X : Stand p l e R s m args below meth c T locs cells slots) (hexec : p.tables.exec = Jvm.exec) {own : String} {index : Nat} {y : MethodName} {bytes : ByteArray} {maxL : Nat} {ret : Option FieldType}
    (hown : s.vm.findClass own = some m.cls) (hlink : (Cond.methodLink own index y).before args s = true) (hstat : (Cond.static y).before args s = true) (hinit : (Cond.initialized y.cls).before args s = true)
    (hcode : (Cond.code y bytes maxL ret).before args s = true) (hy : y.cls ≠ "java/lang/invoke/MethodHandle" ∧ y.cls ≠ "java/lang/invoke/VarHandle")
    {W9 : Nat} {Pre : Pt → Array Value → Prop} {Post : Pt → Array Value → Option Value → Pt → Prop} {PostX : Pt → Array Value → Addr → Pt → Prop} (hK : vx_Back l R p e below s args y 3 W9 Pre Post PostX)
    {g : JFrame} (hg : g.method = m) (hsize : g.locals.size = c.maxLocals) {argsL rest : List Value} (hlen : ∀ sig, parseMethodDescriptor y.desc = some sig → argsL.length = sig.parameters.length)
    (hstack : g.stack = argsL.reverse ++ rest) (hW : 2 * g.monitorRoom + (rest.map fun v => v.category).sum ≤ W9) (hdg : decode c.code g.pc = .ok (.invokestatic index, 3))
    (hpre : ∀ vm₁, s.WarmedH vm₁ → Pre ⟨T.setVm vm₁, locs, cells, slots⟩ argsL.toArray) :
    (∃ (v : Option Value) (vm₁ : Vm) (B : Pt), s.WarmedH vm₁ ∧ Stand p l e R s m args below meth c B.U B.locs B.cells B.slots ∧ Post ⟨T.setVm vm₁, locs, cells, slots⟩ argsL.toArray v B ∧
      ∀ target, Steps p.tables e below (B.U.setTop { g with pc := g.pc + 3, stack := v.toList ++ rest }) target → Steps p.tables e below (T.setTop g) target) ∨
    (∃ (q : Addr) (vm₁ : Vm) (B : Pt), s.WarmedH vm₁ ∧ Stand p l e R s m args below meth c B.U B.locs B.cells B.slots ∧ PostX ⟨T.setVm vm₁, locs, cells, slots⟩ argsL.toArray q B ∧
      Steps p.tables e below (T.setTop g) ((B.U.setTop { g with stack := rest }).pushFrame (.throwing q))) := by
  obtain ⟨mk, hnamed⟩ := Cond.code_named hcode
  obtain ⟨methM, cM, hmethM, -, -, -, -, -, -, hsigM⟩ := Cond.code_spec hnamed hcode
  have hstatic : methM.isStatic = true := Cond.static_spec hnamed hmethM hstat
  obtain ⟨kP, hkP, -⟩ := className_of_methodNamed hnamed
  have hinitP : kP.init = .initialized := Cond.initialized_spec (findClass_of_methodNamed hnamed) hkP hinit
  obtain ⟨vm₁, X₁, hstep₁⟩ := X.invokestatic hexec hown hlink hnamed hmethM hstatic hkP hinitP hy (g := g) hg (argsL := argsL) (rest := rest) (hlen _ hsigM) hstack hdg
  rcases hK m meth c ⟨T.setVm vm₁, locs, cells, slots⟩ { g with stack := rest } (.invokestatic index) mk argsL.toArray X₁ hg hsize hdg hW (X₁.named hnamed) (hpre vm₁ X₁.warmed) with ⟨v, B, X', hpost, hsteps⟩ | ⟨q, B, X', hpost, hsteps⟩
  · exact Or.inl ⟨v, vm₁, B, X₁.warmed, X', hpost, fun target h => hstep₁ _ fun acts => by rw [doInvoke_state]; exact hsteps.trans h⟩
  · exact Or.inr ⟨q, vm₁, B, X₁.warmed, X', hpost, hstep₁ _ fun acts => by rw [doInvoke_state]; exact hsteps⟩
end Calls
theorem vx_cls {s : State} {T : State} {vm₁ : Vm} {E : String} {k : ClassId} (hW : s.WarmedH vm₁) (h : (T.setVm vm₁).vm.findClass E = some k) : s.vm.findClass E = some k := by
  have h1 : vm₁.findClass E = some k := h
  rw [hW.alike.findClass] at h1
  exact h1
/-- the method's frame g, with q thrown over it -/
def vx_W (p : Program) (l : Launch) (e : Env) (R : Room) (s : State) (m : MethodId) (args : Array Value) (below : List Frame) (meth : Method) (c : Code) (H : Heap) (locs : List Loc) (cells slots : Nat) (Q : State → Prop) (g : JFrame) (q : Addr) : Prop :=
  ∀ T : State, T.heap = H → Stand p l e R s m args below meth c T locs cells slots → ∃ t, Steps p.tables e below ((T.setTop g).pushFrame (.throwing q)) t ∧ Q t
def vx_Run (p : Program) (l : Launch) (e : Env) (R : Room) (s : State) (m : MethodId) (args : Array Value) (below : List Frame) (meth : Method) (c : Code) (H : Heap) (locs : List Loc) (cells slots mc ms : Nat) (g : JFrame) (rest : List Value) (Qa : State → Outcome → State → Prop) (XC : String → State → State → Prop) (free : Addr → Prop) : Prop :=
  ∀ T : State, T.heap = H → Stand p l e R s m args below meth c T locs cells slots →
    (∃ (v : Option Value) (st₀ t T' : State) (L : List Loc), st₀.heap = H ∧ Stand p l e R s m args below meth c T' (locs ++ L) (cells + mc) (slots + ms) ∧ (∀ q ∈ L, free q.base) ∧ T'.heap = t.heap ∧ T'.vm = t.vm ∧ Qa st₀ (.returned v) t ∧
      Goes p e below T g T' { g with pc := g.pc + 3, stack := v.toList ++ rest }) ∨
    (∃ (q : Addr) (st₀ t T' : State) (L : List Loc) (E : String) (ce : Cell), st₀.heap = H ∧ Stand p l e R s m args below meth c T' (locs ++ L) (cells + mc) (slots + ms) ∧ (∀ z ∈ L, free z.base) ∧ T'.heap = t.heap ∧ T'.vm = t.vm ∧ XC E st₀ t ∧ t.heap[q]? = some ce ∧ ce.vm = .none ∧ s.vm.findClass E = some ce.cls ∧
      Steps p.tables e below (T.setTop g) ((T'.setTop { g with stack := rest }).pushFrame (.throwing q)))
def vx_X {S : Type} (px : S → Prop) (B : String → S → State → Prop) (A : Nat → Prop) : String → State → State → Prop := fun E st t => ∃ u : S, px u ∧ B E u t ∧ va_F A st t
section Runs
variable {p : Program} {l : Launch} {e : Env} {R : Room} {s : State} {m : MethodId} {args : Array Value} {below : List Frame} {meth : Method} {c : Code} {H : Heap} {locs : List Loc} {cells slots : Nat}
variable {y : MethodName} {bytes cc : ByteArray} {maxL nL mc ms n index : Nat} {ret : Option FieldType} {ws : List Cond} {rm : Room} {Pc : Array Value → State → Prop} {Qc : Array Value → State → Outcome → State → Prop} {XC : String → State → State → Prop} {free : Addr → Prop} {Ts : List Cond} {own C : String} {b : Addr} {As rest : List Value} {g : JFrame}
theorem vx_callBack (cb : CallB R s args own index y bytes maxL ret ws rm mc ms n) (hM : vx_Met l y ws rm Pc Qc XC mc ms free) (hbl : FrameBlind Pc) : vx_Back l R p e below s args y 3 8 (PreOf R mc ms Pc) (PostOf Qc mc ms free) (vx_Post XC mc ms free) := by
  obtain ⟨hrc, hrs, hfr, hlo, hws, hcw, -, hini, -⟩ := cb
  exact vx_back (bytes := bytes) (maxL := maxL) (ret := ret) hM hbl hrc hrs hfr hlo hws hcw (fun a' U hW => word_at hW (Or.inl (by first | rfl | simp [Cond.onTables, Cond.keeps, Cond.steady])) hini)
theorem vx_runV (S : CallFix p m c cc nL s args Ts own) (hM : vx_Met l y ws rm Pc Qc XC mc ms free) (cw : CallW R s args own C index y bytes maxL ret ws rm mc ms n) (hp : PreV s H C b Pc As)
    (hg : g.method = m) (hn : As.length = n) (hsize : g.locals.size = nL) (hstack : g.stack = As.reverse ++ .ref b :: rest) (hW : 2 * g.monitorRoom + (rest.map fun v => v.category).sum ≤ 8) (hdg : decode cc g.pc = .ok (.invokevirtual index, 3)) (hf : cells + mc ≤ R.cells ∧ slots + ms ≤ R.slots) :
    vx_Run p l e R s m args below meth c H locs cells slots mc ms g rest (Qc (Value.ref b :: As).toArray) XC free := by
  have hK : vx_Back l R p e below s args y 3 8 (PreOf R mc ms Pc) (PostOf Qc mc ms free) (vx_Post XC mc ms free) := vx_callBack cw.1 hM hp.1
  obtain ⟨⟨-, -, -, -, -, -, hcode, -, hy, hlen, hl⟩, hin, hse⟩ := cw
  obtain ⟨hx, hb, hml, ho, -⟩ := S
  obtain ⟨-, ⟨cellB, hcB, hoB, hclB⟩, hPc⟩ := hp
  intro T hT X
  rcases vx_callV X hx (C := C) (bytes := bytes) (maxL := maxL) (ret := ret) ho hl hin hse hcode hy hK (by rw [hT]; exact hcB) hoB hclB hg (hsize.trans hml.symm) (argsL := As) (rest := rest) (fun sig h => hn.trans (hlen sig h)) hstack hW (by rw [hb]; exact hdg)
    (fun vm₁ hW₁ => ⟨hf.1, hf.2, hPc (T.setVm vm₁) hT hW₁⟩) with ⟨v, vm₁, ⟨U', l2, c2, s2⟩, hW₁, X', ⟨g', mk, t, L, e1, e2, hq, h1, hL, h2, h3⟩, st⟩ | ⟨q, vm₁, ⟨U', l2, c2, s2⟩, hW₁, X', ⟨g', mk, t, L, E, ce, e1, e2, hq, hce, hcv, hcl, h1, hL, h2, h3⟩, st⟩
  · dsimp only [Pt.U, Pt.locs, Pt.cells, Pt.slots] at X' e1 e2 h1 h2 h3 st
    subst h1; subst h2; subst h3
    exact Or.inl ⟨v, (T.setVm vm₁).calling g' mk (Value.ref b :: As).toArray, t, U', L, hT, X', hL, e1, e2, hq, st⟩
  · dsimp only [Pt.U, Pt.locs, Pt.cells, Pt.slots] at X' e1 e2 h1 h2 h3 st hcl
    subst h1; subst h2; subst h3
    exact Or.inr ⟨q, (T.setVm vm₁).calling g' mk (Value.ref b :: As).toArray, t, U', L, E, ce, hT, X', hL, e1, e2, hq, hce, hcv, vx_cls hW₁ hcl, st⟩
theorem vx_runS (S : CallFix p m c cc nL s args Ts own) (hM : vx_Met l y ws rm Pc Qc XC mc ms free) (cw : CallB R s args own index y bytes maxL ret ws rm mc ms n ∧ (Cond.static y).before args s = true) (hp : PreS s H Pc As)
    (hg : g.method = m) (hn : As.length = n) (hsize : g.locals.size = nL) (hstack : g.stack = As.reverse ++ rest) (hW : 2 * g.monitorRoom + (rest.map fun v => v.category).sum ≤ 8) (hdg : decode cc g.pc = .ok (.invokestatic index, 3)) (hf : cells + mc ≤ R.cells ∧ slots + ms ≤ R.slots) :
    vx_Run p l e R s m args below meth c H locs cells slots mc ms g rest (Qc As.toArray) XC free := by
  have hK : vx_Back l R p e below s args y 3 8 (PreOf R mc ms Pc) (PostOf Qc mc ms free) (vx_Post XC mc ms free) := vx_callBack cw.1 hM hp.1
  obtain ⟨⟨-, -, -, -, -, -, hcode, hini, hy, hlen, hl⟩, hstt⟩ := cw
  obtain ⟨hx, hb, hml, ho, -⟩ := S
  intro T hT X
  rcases vx_callS X hx (bytes := bytes) (maxL := maxL) (ret := ret) ho hl hstt hini hcode hy hK hg (hsize.trans hml.symm) (argsL := As) (rest := rest) (fun sig h => hn.trans (hlen sig h)) hstack hW (by rw [hb]; exact hdg)
    (fun vm₁ hW₁ => ⟨hf.1, hf.2, hp.2 (T.setVm vm₁) hT hW₁⟩) with ⟨v, vm₁, ⟨U', l2, c2, s2⟩, hW₁, X', ⟨g', mk, t, L, e1, e2, hq, h1, hL, h2, h3⟩, st⟩ | ⟨q, vm₁, ⟨U', l2, c2, s2⟩, hW₁, X', ⟨g', mk, t, L, E, ce, e1, e2, hq, hce, hcv, hcl, h1, hL, h2, h3⟩, st⟩
  · dsimp only [Pt.U, Pt.locs, Pt.cells, Pt.slots] at X' e1 e2 h1 h2 h3 st
    subst h1; subst h2; subst h3
    exact Or.inl ⟨v, (T.setVm vm₁).calling g' mk As.toArray, t, U', L, hT, X', hL, e1, e2, hq, st⟩
  · dsimp only [Pt.U, Pt.locs, Pt.cells, Pt.slots] at X' e1 e2 h1 h2 h3 st hcl
    subst h1; subst h2; subst h3
    exact Or.inr ⟨q, (T.setVm vm₁).calling g' mk As.toArray, t, U', L, E, ce, hT, X', hL, e1, e2, hq, hce, hcv, vx_cls hW₁ hcl, st⟩
end Runs
section Rows
variable {p : Program} {l : Launch} {e : Env} {R : Room} {s : State} {m : MethodId} {args : Array Value} {below : List Frame} {meth : Method} {c : Code} {H : Heap} {locs : List Loc} {cells slots : Nat} {Q : State → Prop}
variable {mc ms : Nat} {free : Addr → Prop} {A0 A1 : Nat → Prop} {H0 : Heap} {a : Array Value} {pc : Nat} {ls : Array Slot} {st0 rest : List Value}
theorem vx_keep {st₀ t T' : State} {L : List Loc} (h0 : st₀.heap = H) (e1 : T'.heap = t.heap) (hS : va_S A0 H0 H locs) (hA : ∀ q, q < H.size → A1 q → A0 q) (hf : ∀ q, free q → A0 q) (hL : ∀ q ∈ L, free q.base) (hF : va_F A1 st₀ t) :
    H.size ≤ T'.heap.size ∧ (∀ q : Nat, q < H.size → ¬ A1 q → T'.heap[q]? = H[q]?) ∧ va_S A0 H0 T'.heap (locs ++ L) := by
  obtain ⟨hz, hk⟩ := hF
  rw [h0] at hz hk
  exact ⟨by rw [e1]; exact hz, fun q h1 h2 => by rw [e1]; exact hk q h1 h2,
    ⟨Nat.le_trans hS.1 (by rw [e1]; exact hz), fun q h1 h2 => by rw [e1, hk q (Nat.lt_of_lt_of_le h1 hS.1) (fun z => h2 (hA q (Nat.lt_of_lt_of_le h1 hS.1) z))]; exact hS.2.1 q h1 h2, fun q hq => by
      rcases List.mem_append.mp hq with h | h
      · exact hS.2.2 q h
      · exact hf _ (hL q h)⟩⟩
theorem vx_calli {S SX : Type} {post : Int32 → S → Prop} {px : SX → Prop} {B : S → State → Prop} {BX : String → SX → State → Prop} {AX : Nat → Prop} (hr : vx_Run p l e R s m args below meth c H locs cells slots mc ms (F0 m pc ls st0) rest (va_Qi post B A1 a) (vx_X px BX AX) free) (hS : va_S A0 H0 H locs) (hA : ∀ q, q < H.size → A1 q → A0 q) (hf : ∀ q, free q → A0 q) (hAX : ∀ q, q < H.size → AX q → A0 q)
    (kx : ∀ (E : String) (ce : Cell) (q9 : Addr) (u : SX) (t : State) (H1 : Heap) (locs1 : List Loc), t.heap = H1 → s.vm.Alike t.vm → px u → BX E u t → H.size ≤ H1.size → (∀ q : Nat, q < H.size → ¬ AX q → H1[q]? = H[q]?) → va_S A0 H0 H1 locs1 → H1[q9]? = some ce → ce.vm = .none → s.vm.findClass E = some ce.cls → vx_W p l e R s m args below meth c H1 locs1 (cells + mc) (slots + ms) Q (F0 m pc ls rest) q9)
    (kk : ∀ (r : Int32) (u : S) (t : State) (H1 : Heap) (locs1 : List Loc), t.heap = H1 → s.vm.Alike t.vm → post r u → B u t → H.size ≤ H1.size → (∀ q : Nat, q < H.size → ¬ A1 q → H1[q]? = H[q]?) → va_S A0 H0 H1 locs1 → W p l e R s m args below meth c H1 locs1 (cells + mc) (slots + ms) Q (F0 m (pc + 3) ls (.int r :: rest))) : W p l e R s m args below meth c H locs cells slots Q (F0 m pc ls st0) := by
  intro T hT X
  rcases hr T hT X with ⟨v, st₀, t, T', L, h0, X', hL, e1, e2, ⟨⟨r, u, hv, hp, hb⟩, hF⟩, st⟩ | ⟨q, st₀, t, T', L, E, ce, h0, X', hL, e1, e2, ⟨u, hp, hb, hF⟩, hce, hcv, hcl, st⟩
  · cases hv
    obtain ⟨k1, k2, k3⟩ := vx_keep h0 e1 hS hA hf hL hF
    obtain ⟨t2, a1, b1⟩ := kk r u t T'.heap (locs ++ L) e1.symm (by rw [← e2]; exact X'.warmed.alike) hp hb k1 k2 k3 T' rfl X'
    exact ⟨t2, st t2 a1, b1⟩
  · obtain ⟨k1, k2, k3⟩ := vx_keep h0 e1 hS hAX hf hL hF
    obtain ⟨t2, a1, b1⟩ := kx E ce q u t T'.heap (locs ++ L) e1.symm (by rw [← e2]; exact X'.warmed.alike) hp hb k1 k2 k3 (by rw [e1]; exact hce) hcv hcl T' rfl X'
    exact ⟨t2, st.trans a1, b1⟩
theorem vx_calll {S SX : Type} {post : Int64 → S → Prop} {px : SX → Prop} {B : S → State → Prop} {BX : String → SX → State → Prop} {AX : Nat → Prop} (hr : vx_Run p l e R s m args below meth c H locs cells slots mc ms (F0 m pc ls st0) rest (va_Ql post B A1 a) (vx_X px BX AX) free) (hS : va_S A0 H0 H locs) (hA : ∀ q, q < H.size → A1 q → A0 q) (hf : ∀ q, free q → A0 q) (hAX : ∀ q, q < H.size → AX q → A0 q)
    (kx : ∀ (E : String) (ce : Cell) (q9 : Addr) (u : SX) (t : State) (H1 : Heap) (locs1 : List Loc), t.heap = H1 → s.vm.Alike t.vm → px u → BX E u t → H.size ≤ H1.size → (∀ q : Nat, q < H.size → ¬ AX q → H1[q]? = H[q]?) → va_S A0 H0 H1 locs1 → H1[q9]? = some ce → ce.vm = .none → s.vm.findClass E = some ce.cls → vx_W p l e R s m args below meth c H1 locs1 (cells + mc) (slots + ms) Q (F0 m pc ls rest) q9)
    (kk : ∀ (r : Int64) (u : S) (t : State) (H1 : Heap) (locs1 : List Loc), t.heap = H1 → s.vm.Alike t.vm → post r u → B u t → H.size ≤ H1.size → (∀ q : Nat, q < H.size → ¬ A1 q → H1[q]? = H[q]?) → va_S A0 H0 H1 locs1 → W p l e R s m args below meth c H1 locs1 (cells + mc) (slots + ms) Q (F0 m (pc + 3) ls (.long r :: rest))) : W p l e R s m args below meth c H locs cells slots Q (F0 m pc ls st0) := by
  intro T hT X
  rcases hr T hT X with ⟨v, st₀, t, T', L, h0, X', hL, e1, e2, ⟨⟨r, u, hv, hp, hb⟩, hF⟩, st⟩ | ⟨q, st₀, t, T', L, E, ce, h0, X', hL, e1, e2, ⟨u, hp, hb, hF⟩, hce, hcv, hcl, st⟩
  · cases hv
    obtain ⟨k1, k2, k3⟩ := vx_keep h0 e1 hS hA hf hL hF
    obtain ⟨t2, a1, b1⟩ := kk r u t T'.heap (locs ++ L) e1.symm (by rw [← e2]; exact X'.warmed.alike) hp hb k1 k2 k3 T' rfl X'
    exact ⟨t2, st t2 a1, b1⟩
  · obtain ⟨k1, k2, k3⟩ := vx_keep h0 e1 hS hAX hf hL hF
    obtain ⟨t2, a1, b1⟩ := kx E ce q u t T'.heap (locs ++ L) e1.symm (by rw [← e2]; exact X'.warmed.alike) hp hb k1 k2 k3 (by rw [e1]; exact hce) hcv hcl T' rfl X'
    exact ⟨t2, st.trans a1, b1⟩
theorem vx_callf {S SX : Type} {post : UInt32 → S → Prop} {px : SX → Prop} {B : S → State → Prop} {BX : String → SX → State → Prop} {AX : Nat → Prop} (hr : vx_Run p l e R s m args below meth c H locs cells slots mc ms (F0 m pc ls st0) rest (va_Qf post B A1 a) (vx_X px BX AX) free) (hS : va_S A0 H0 H locs) (hA : ∀ q, q < H.size → A1 q → A0 q) (hf : ∀ q, free q → A0 q) (hAX : ∀ q, q < H.size → AX q → A0 q)
    (kx : ∀ (E : String) (ce : Cell) (q9 : Addr) (u : SX) (t : State) (H1 : Heap) (locs1 : List Loc), t.heap = H1 → s.vm.Alike t.vm → px u → BX E u t → H.size ≤ H1.size → (∀ q : Nat, q < H.size → ¬ AX q → H1[q]? = H[q]?) → va_S A0 H0 H1 locs1 → H1[q9]? = some ce → ce.vm = .none → s.vm.findClass E = some ce.cls → vx_W p l e R s m args below meth c H1 locs1 (cells + mc) (slots + ms) Q (F0 m pc ls rest) q9)
    (kk : ∀ (r : UInt32) (u : S) (t : State) (H1 : Heap) (locs1 : List Loc), t.heap = H1 → s.vm.Alike t.vm → post r u → B u t → H.size ≤ H1.size → (∀ q : Nat, q < H.size → ¬ A1 q → H1[q]? = H[q]?) → va_S A0 H0 H1 locs1 → W p l e R s m args below meth c H1 locs1 (cells + mc) (slots + ms) Q (F0 m (pc + 3) ls (.float r :: rest))) : W p l e R s m args below meth c H locs cells slots Q (F0 m pc ls st0) := by
  intro T hT X
  rcases hr T hT X with ⟨v, st₀, t, T', L, h0, X', hL, e1, e2, ⟨⟨r, u, hv, hp, hb⟩, hF⟩, st⟩ | ⟨q, st₀, t, T', L, E, ce, h0, X', hL, e1, e2, ⟨u, hp, hb, hF⟩, hce, hcv, hcl, st⟩
  · cases hv
    obtain ⟨k1, k2, k3⟩ := vx_keep h0 e1 hS hA hf hL hF
    obtain ⟨t2, a1, b1⟩ := kk r u t T'.heap (locs ++ L) e1.symm (by rw [← e2]; exact X'.warmed.alike) hp hb k1 k2 k3 T' rfl X'
    exact ⟨t2, st t2 a1, b1⟩
  · obtain ⟨k1, k2, k3⟩ := vx_keep h0 e1 hS hAX hf hL hF
    obtain ⟨t2, a1, b1⟩ := kx E ce q u t T'.heap (locs ++ L) e1.symm (by rw [← e2]; exact X'.warmed.alike) hp hb k1 k2 k3 (by rw [e1]; exact hce) hcv hcl T' rfl X'
    exact ⟨t2, st.trans a1, b1⟩
theorem vx_calld {S SX : Type} {post : UInt64 → S → Prop} {px : SX → Prop} {B : S → State → Prop} {BX : String → SX → State → Prop} {AX : Nat → Prop} (hr : vx_Run p l e R s m args below meth c H locs cells slots mc ms (F0 m pc ls st0) rest (va_Qd post B A1 a) (vx_X px BX AX) free) (hS : va_S A0 H0 H locs) (hA : ∀ q, q < H.size → A1 q → A0 q) (hf : ∀ q, free q → A0 q) (hAX : ∀ q, q < H.size → AX q → A0 q)
    (kx : ∀ (E : String) (ce : Cell) (q9 : Addr) (u : SX) (t : State) (H1 : Heap) (locs1 : List Loc), t.heap = H1 → s.vm.Alike t.vm → px u → BX E u t → H.size ≤ H1.size → (∀ q : Nat, q < H.size → ¬ AX q → H1[q]? = H[q]?) → va_S A0 H0 H1 locs1 → H1[q9]? = some ce → ce.vm = .none → s.vm.findClass E = some ce.cls → vx_W p l e R s m args below meth c H1 locs1 (cells + mc) (slots + ms) Q (F0 m pc ls rest) q9)
    (kk : ∀ (r : UInt64) (u : S) (t : State) (H1 : Heap) (locs1 : List Loc), t.heap = H1 → s.vm.Alike t.vm → post r u → B u t → H.size ≤ H1.size → (∀ q : Nat, q < H.size → ¬ A1 q → H1[q]? = H[q]?) → va_S A0 H0 H1 locs1 → W p l e R s m args below meth c H1 locs1 (cells + mc) (slots + ms) Q (F0 m (pc + 3) ls (.double r :: rest))) : W p l e R s m args below meth c H locs cells slots Q (F0 m pc ls st0) := by
  intro T hT X
  rcases hr T hT X with ⟨v, st₀, t, T', L, h0, X', hL, e1, e2, ⟨⟨r, u, hv, hp, hb⟩, hF⟩, st⟩ | ⟨q, st₀, t, T', L, E, ce, h0, X', hL, e1, e2, ⟨u, hp, hb, hF⟩, hce, hcv, hcl, st⟩
  · cases hv
    obtain ⟨k1, k2, k3⟩ := vx_keep h0 e1 hS hA hf hL hF
    obtain ⟨t2, a1, b1⟩ := kk r u t T'.heap (locs ++ L) e1.symm (by rw [← e2]; exact X'.warmed.alike) hp hb k1 k2 k3 T' rfl X'
    exact ⟨t2, st t2 a1, b1⟩
  · obtain ⟨k1, k2, k3⟩ := vx_keep h0 e1 hS hAX hf hL hF
    obtain ⟨t2, a1, b1⟩ := kx E ce q u t T'.heap (locs ++ L) e1.symm (by rw [← e2]; exact X'.warmed.alike) hp hb k1 k2 k3 (by rw [e1]; exact hce) hcv hcl T' rfl X'
    exact ⟨t2, st.trans a1, b1⟩
theorem vx_callv {S SX : Type} {post : S → Prop} {px : SX → Prop} {B : S → State → Prop} {BX : String → SX → State → Prop} {AX : Nat → Prop} (hr : vx_Run p l e R s m args below meth c H locs cells slots mc ms (F0 m pc ls st0) rest (va_Qv post B A1 a) (vx_X px BX AX) free) (hS : va_S A0 H0 H locs) (hA : ∀ q, q < H.size → A1 q → A0 q) (hf : ∀ q, free q → A0 q) (hAX : ∀ q, q < H.size → AX q → A0 q)
    (kx : ∀ (E : String) (ce : Cell) (q9 : Addr) (u : SX) (t : State) (H1 : Heap) (locs1 : List Loc), t.heap = H1 → s.vm.Alike t.vm → px u → BX E u t → H.size ≤ H1.size → (∀ q : Nat, q < H.size → ¬ AX q → H1[q]? = H[q]?) → va_S A0 H0 H1 locs1 → H1[q9]? = some ce → ce.vm = .none → s.vm.findClass E = some ce.cls → vx_W p l e R s m args below meth c H1 locs1 (cells + mc) (slots + ms) Q (F0 m pc ls rest) q9)
    (kk : ∀ (u : S) (t : State) (H1 : Heap) (locs1 : List Loc), t.heap = H1 → s.vm.Alike t.vm → post u → B u t → H.size ≤ H1.size → (∀ q : Nat, q < H.size → ¬ A1 q → H1[q]? = H[q]?) → va_S A0 H0 H1 locs1 → W p l e R s m args below meth c H1 locs1 (cells + mc) (slots + ms) Q (F0 m (pc + 3) ls (rest))) : W p l e R s m args below meth c H locs cells slots Q (F0 m pc ls st0) := by
  intro T hT X
  rcases hr T hT X with ⟨v, st₀, t, T', L, h0, X', hL, e1, e2, ⟨⟨u, hv, hp, hb⟩, hF⟩, st⟩ | ⟨q, st₀, t, T', L, E, ce, h0, X', hL, e1, e2, ⟨u, hp, hb, hF⟩, hce, hcv, hcl, st⟩
  · cases hv
    obtain ⟨k1, k2, k3⟩ := vx_keep h0 e1 hS hA hf hL hF
    obtain ⟨t2, a1, b1⟩ := kk u t T'.heap (locs ++ L) e1.symm (by rw [← e2]; exact X'.warmed.alike) hp hb k1 k2 k3 T' rfl X'
    exact ⟨t2, st t2 a1, b1⟩
  · obtain ⟨k1, k2, k3⟩ := vx_keep h0 e1 hS hAX hf hL hF
    obtain ⟨t2, a1, b1⟩ := kx E ce q u t T'.heap (locs ++ L) e1.symm (by rw [← e2]; exact X'.warmed.alike) hp hb k1 k2 k3 (by rw [e1]; exact hce) hcv hcl T' rfl X'
    exact ⟨t2, st.trans a1, b1⟩
/-- caught by the row x of this method's table; the rows ahead don't take it -/
theorem vx_catch {own name : String} {E : String} {ce : Cell} {q : Addr} (hown : s.vm.findClass own = some m.cls) (pre : List ExceptionTableEntry) (x : ExceptionTableEntry) (suf : List ExceptionTableEntry) (hsplit : c.exceptionTable.toList = pre ++ x :: suf)
    (hpass : ∀ z ∈ pre, covers z pc = false ∨ (z.catchType ≠ 0 ∧ ∃ nm : String, (Cond.classLink own z.catchType nm).before args s = true ∧ va_Nc E nm s)) (hx : covers x pc = true) (h0 : x.catchType ≠ 0)
    (hlink : (Cond.classLink own x.catchType name).before args s = true) (hcast : (Cond.castable E name).before args s = true) (hcell : H[q]? = some ce) (hv : ce.vm = .none) (hcl : s.vm.findClass E = some ce.cls)
    (kk : W p l e R s m args below meth c H locs cells slots Q (F0 m x.handlerPc ls [.ref q])) : vx_W p l e R s m args below meth c H locs cells slots Q (F0 m pc ls rest) q := by
  intro T hT X
  have hpl : e.platform.magicAccessors = ({} : Platform).magicAccessors := by rw [X.admits.platform]
  obtain ⟨c3, c4, hc3, hc4, hasg⟩ := Cond.castable_spec hcast
  cases Option.some.inj (hc3.symm.trans hcl)
  obtain ⟨c5, hc5, hcl5⟩ := Cond.classLink_spec hown hlink e.platform hpl
  cases Option.some.inj (hc4.symm.trans hc5)
  obtain ⟨vm', X', st⟩ := X.thenCaughtThrough q (g := F0 m pc ls rest) rfl (Steps.refl _) (by rw [hT]; exact hcell) (by rw [hv]; rfl) (by obtain ⟨k9, h9, -⟩ := Vm.findClass_spec hcl; exact ⟨k9, h9⟩) pre x suf hsplit
    (fun z hz => by
      rcases hpass z hz with h | ⟨hz0, nm, hl1, hn1⟩
      · exact Or.inl h
      · obtain ⟨c6, hc6, hcl6⟩ := Cond.classLink_spec hown hl1 e.platform hpl
        obtain ⟨a8, b8, h1, h2, h3⟩ := hn1
        cases Option.some.inj (h1.symm.trans hcl)
        cases Option.some.inj (h2.symm.trans hc6)
        exact Or.inr ⟨hz0, _, hcl6, h3⟩) hx (Or.inr ⟨h0, c4, hcl5, hasg⟩)
  obtain ⟨t, a1, b1⟩ := kk (T.setVm vm') hT X'
  exact ⟨t, st.trans a1, b1⟩
end Rows
section Ends
variable {p : Program} {l : Launch} {e : Env} {R : Room} {s : State} {m : MethodId} {args : Array Value} {below : List Frame} {meth : Method} {c : Code} {H : Heap} {locs : List Loc} {cells slots : Nat} {Q : State → Prop}
variable {mc ms : Nat} {free : Addr → Prop} {A0 A1 : Nat → Prop} {H0 : Heap} {a : Array Value} {ls : Array Slot} {st0 rest : List Value}
variable {Qc : Array Value → State → Outcome → State → Prop} {XC : String → State → State → Prop}
/-- what a body that may throw owes at its end -/
def vx_MQ (below : List Frame) (Qc : Array Value → State → Outcome → State → Prop) (XC : String → State → State → Prop) (a : Array Value) (s : State) (mc ms : Nat) (free : Addr → Prop) : State → Prop := fun t =>
  ∃ o, t.status = .running ∧ Ended t below o ∧ vx_Q Qc XC mc ms free a s o t
theorem vx_ret {g : JFrame} {mc ms : Nat} (k : W p l e R s m args below meth c H locs cells slots (MQ below Qc args s mc ms free) g) : W p l e R s m args below meth c H locs cells slots (vx_MQ below Qc XC args s mc ms free) g := by
  intro T hT X
  obtain ⟨t, a1, o, b1, b2, b3, b4⟩ := k T hT X
  exact ⟨t, a1, o, b1, b2, Or.inl ⟨b3, b4⟩⟩
/-- not caught here: it goes on to the caller -/
theorem vx_widen {g : JFrame} {q : Addr} {k n : Nat} (h1 : cells ≤ k) (h2 : slots ≤ n) (kk : vx_W p l e R s m args below meth c H locs k n Q g q) : vx_W p l e R s m args below meth c H locs cells slots Q g q := fun T hT X => kk T hT (stand_widen X h1 h2)
theorem vx_out {pc : Nat} {E : String} {ce : Cell} {q : Addr} {mc ms : Nat} (hout : ∀ x ∈ c.exceptionTable.toList, covers x pc = false) (hlocks : meth.locks = false) (hcell : H[q]? = some ce) (hv : ce.vm = .none) (hcl : s.vm.findClass E = some ce.cls)
    (hx : ∀ t : State, t.heap = H → s.vm.Alike t.vm → XC E s t) (hf : ∀ z ∈ locs, free z.base) (hc : cells ≤ mc) (hs : slots ≤ ms) :
    vx_W p l e R s m args below meth c H locs cells slots (vx_MQ below Qc XC args s mc ms free) (F0 m pc ls rest) q := by
  intro T hT X
  obtain ⟨st1, hrun, hend, hW, hsm⟩ := X.leaveThrown q (g := F0 m pc ls rest) rfl rfl rfl hout hlocks
  have hcell9 : (T.setFrames (.throwing q :: below)).heap[q]? = some ce := by
    show T.heap[q]? = some ce
    rw [hT]; exact hcell
  exact ⟨_, st1, .threw q, hrun, hend, Or.inr ⟨q, rfl, E, ce, locs, hx _ hT hW.alike, hcell9, hv, hcl, hW, hsm.mono hc hs, hf⟩⟩
theorem vx_frame {U : State} {k n : Nat} (h : s.sameButNew ({ U with vm := s.vm } : State) locs k n) : s.heap.size ≤ U.heap.size ∧ ∀ q : Nat, q < s.heap.size → (∀ z ∈ locs, z.base ≠ q) → U.heap[q]? = s.heap[q]? := by
  obtain ⟨-, h2, -, -, -, h6⟩ := h
  refine ⟨h2, fun q hq hz => ?_⟩
  obtain ⟨c9, e1, e2, e3, e4⟩ := h6 q _ (Array.getElem?_eq_getElem hq)
  have hs : c9.slots = (s.heap[q]).slots := Array.ext_getElem? fun i => e4 i fun hm => hz _ hm rfl
  have h9 : c9 = s.heap[q] := by
    rw [hs] at e2
    exact e2
  have e5 : U.heap[q]? = some c9 := e1
  rw [e5, h9, Array.getElem?_eq_getElem hq]
/-- the words of a throw but the four that speak of the heap -/
def vx_no (w : Cond) : Bool := decide (w ≠ .isRef (.static Bundle.tN "UNASSIGNED_STACK" Bundle.steD)) && decide (w ≠ .isRef (.static Bundle.tN "SUPPRESSED_SENTINEL" Bundle.listD)) && decide (w ≠ .laysStatic Bundle.tN "UNASSIGNED_STACK" Bundle.steD) && decide (w ≠ .laysStatic Bundle.tN "SUPPRESSED_SENTINEL" Bundle.listD)
def vx_at0 (own : String) (ic : Nat) (X : String) (names : List String) : List Cond := (Bundle.ownAtoms0 own ic X names).filter vx_no
def vx_atS (own : String) (ic : Nat) (X : String) (names : List String) : List Cond := (Bundle.ownAtoms own ic X names).filter vx_no
/-- a word that the tables alone decide, or a good one -/
def vx_ot (w : Cond) : Bool := w.onTables || goodWord w
theorem vx_ot_at {args a' : Array Value} {s U : State} {w : Cond} (hW : s.WarmedH U.vm) (hvm : s.vm = U.vm) (hg : vx_ot w = true) (h : w.before args s = true) : w.before a' U = true := by
  simp only [vx_ot, Bool.or_eq_true] at hg
  rcases hg with hg | hg
  · exact va_tabs hg hvm h
  · exact word_at hW (good_of_word hg) h
/-- a list's words: the good ones out of the method's own list, the others by premises of their own -/
theorem vx_hat {args : Array Value} {s : State} {L B : List Cond} (h1 : ∀ w ∈ L.filter goodWord, w.before args s = true) (h2 : ∀ w ∈ L.filter (fun w => !goodWord w), w ∈ B) (h3 : ∀ w ∈ B, w.before args s = true) : ∀ w ∈ L, w.before args s = true := by
  intro w hw
  by_cases g : goodWord w = true
  · exact h1 w (List.mem_filter.mpr ⟨hw, g⟩)
  · refine h3 w (h2 w (List.mem_filter.mpr ⟨hw, ?_⟩))
    show (!goodWord w) = true
    cases hgw : goodWord w
    · rfl
    · exact absurd hgw g
theorem vx_c {args : Array Value} {s : State} {w : Cond} {B : List Cond} (h : w.before args s = true) (t : ∀ w ∈ B, w.before args s = true) : ∀ w' ∈ w :: B, w'.before args s = true := fun w' h' => (List.mem_cons.mp h').elim (fun e => by rw [e]; exact h) (t w')
theorem vx_n {args : Array Value} {s : State} : ∀ w ∈ ([] : List Cond), w.before args s = true := fun _ h => nomatch h
theorem vx_own {args : Array Value} {s : State} {L : List Cond} (h1 : ∀ w ∈ L.filter vx_no, w.before args s = true)
    (hU : (Cond.isRef (.static Bundle.tN "UNASSIGNED_STACK" Bundle.steD)).before args s = true) (hN : (Cond.isRef (.static Bundle.tN "SUPPRESSED_SENTINEL" Bundle.listD)).before args s = true)
    (lU : (Cond.laysStatic Bundle.tN "UNASSIGNED_STACK" Bundle.steD).before args s = true) (lN : (Cond.laysStatic Bundle.tN "SUPPRESSED_SENTINEL" Bundle.listD).before args s = true) : ∀ w ∈ L, w.before args s = true := by
  intro w hw
  by_cases e1 : w = .isRef (.static Bundle.tN "UNASSIGNED_STACK" Bundle.steD)
  · rw [e1]; exact hU
  · by_cases e2 : w = .isRef (.static Bundle.tN "SUPPRESSED_SENTINEL" Bundle.listD)
    · rw [e2]; exact hN
    · by_cases e3 : w = .laysStatic Bundle.tN "UNASSIGNED_STACK" Bundle.steD
      · rw [e3]; exact lU
      · by_cases e4 : w = .laysStatic Bundle.tN "SUPPRESSED_SENTINEL" Bundle.listD
        · rw [e4]; exact lN
        · exact h1 w (List.mem_filter.mpr ⟨hw, by unfold vx_no; rw [decide_eq_true e1, decide_eq_true e2, decide_eq_true e3, decide_eq_true e4]; rfl⟩)
/-- where a static field lies, its class's statics cell in H -/
def vx_L (C n d : String) (A : Nat → Prop) (U : State) (H : Heap) : Prop := ∃ (c : ClassId) (k : Class) (i : Nat) (f : Field) (a : Nat) (cell : Cell), U.vm.findClass C = some c ∧ U.fieldFound? C n d = some (c, k, i, f) ∧ f.isStatic = true ∧ k.statics = some a ∧ H[a]? = some cell ∧ cell.vm.isStatics = true ∧ cell.cls = c ∧ f.slot < cell.slots.size ∧ k.staticTypes[f.slot]? = some f.type ∧ ¬ A a
theorem vx_L.moved {C n d : String} {A : Nat → Prop} {u U : State} {H : Heap} (hvm : u.vm.Alike U.vm) (h : vx_L C n d A u H) : vx_L C n d A U H := by
  obtain ⟨c, k, i, f, a, cell, h1, h2, h3, h4, h5, h6, h7, h8, h9, h10⟩ := h
  obtain ⟨k', hi', he⟩ := State.fieldFound?_setVm hvm h2
  exact ⟨c, k', i, f, a, cell, by rw [hvm.findClass]; exact h1, hi', h3, by rw [he]; exact h4, h5, h6, h7, h8, by rw [he]; exact h9, h10⟩
theorem vx_L.kept {C n d : String} {A : Nat → Prop} {U : State} {H H1 : Heap} (h : vx_L C n d A U H) (hq : ∀ a : Nat, a < H.size → ¬ A a → H1[a]? = H[a]?) : vx_L C n d A U H1 := by
  obtain ⟨c, k, i, f, a, cell, h1, h2, h3, h4, h5, h6, h7, h8, h9, h10⟩ := h
  exact ⟨c, k, i, f, a, cell, h1, h2, h3, h4, by rw [hq a (Array.getElem?_eq_some_iff.mp h5).1 h10]; exact h5, h6, h7, h8, h9, h10⟩
theorem vx_L.narrow {C n d : String} {A B : Nat → Prop} {U : State} {H : Heap} (h : vx_L C n d A U H) (hAB : ∀ q, B q → A q) : vx_L C n d B U H := by
  obtain ⟨c, k, i, f, a, cell, h1, h2, h3, h4, h5, h6, h7, h8, h9, h10⟩ := h
  exact ⟨c, k, i, f, a, cell, h1, h2, h3, h4, h5, h6, h7, h8, h9, fun z => h10 (hAB _ z)⟩
theorem vx_L.word {C n d : String} {A : Nat → Prop} {s : State} {args : Array Value} (h : vx_L C n d A s s.heap) : (Cond.laysStatic C n d).before args s = true := by
  obtain ⟨c, k, i, f, a, cell, h1, h2, h3, h4, h5, h6, h7, h8, h9, -⟩ := h
  show (Cond.laysStatic C n d).holds args s none s [] = true
  exact Cond.laysStatic_of h1 h2 h3 h4 h5 h6 h7 h8 h9
/-- .. and what it holds: null or some reference -/
def vx_Zq (C n d : String) (A : Nat → Prop) (U : State) (H : Heap) : Prop := va_Zq C n d A U H ∧ vx_L C n d A U H
theorem vx_Zq.moved {C n d : String} {A : Nat → Prop} {u U : State} {H : Heap} (hvm : u.vm.Alike U.vm) (h : vx_Zq C n d A u H) : vx_Zq C n d A U H := ⟨va_Zq.moved hvm h.1, vx_L.moved hvm h.2⟩
theorem vx_Zq.kept {C n d : String} {A : Nat → Prop} {U : State} {H H1 : Heap} (h : vx_Zq C n d A U H) (hq : ∀ a : Nat, a < H.size → ¬ A a → H1[a]? = H[a]?) : vx_Zq C n d A U H1 := ⟨va_Zq.kept h.1 hq, vx_L.kept h.2 hq⟩
theorem vx_Zq.narrow {C n d : String} {A B : Nat → Prop} {U : State} {H : Heap} (h : vx_Zq C n d A U H) (hAB : ∀ q, B q → A q) : vx_Zq C n d B U H := ⟨va_Zq.narrow h.1 hAB, vx_L.narrow h.2 hAB⟩
theorem vx_Zqof {args : Array Value} {s : State} {C n d : String} {A : Nat → Prop} (hl : (Cond.laysStatic C n d).before args s = true) (hini : (Cond.initialized C).before args s = true) (h : (Cond.isRef (.static C n d)).before args s = true) (hA : ∀ a : Nat, a < s.heap.size → ¬ A a) : vx_Zq C n d A s s.heap := by
  refine ⟨va_Zqof hl hini h hA, ?_⟩
  obtain ⟨c, k, i, f, a, cell, h1, h2, h3, h4, h5, h6, h7, h8, h9⟩ := Cond.laysStatic_spec hl
  exact ⟨c, k, i, f, a, cell, h1, h2, h3, h4, h5, h6, h7, h8, h9, hA a (Array.getElem?_eq_some_iff.mp h5).1⟩
theorem vx_isRef {C n d : String} {v : Value} {A : Nat → Prop} {s : State} {args : Array Value} (h : va_Z C n d v A s s.heap) (hv : v.isRef = true) : (Cond.isRef (.static C n d)).before args s = true := by
  obtain ⟨cf, kf, fi, f, a, cell, h1, h2, h3, h4, h5, h6, h7, -⟩ := h
  have he : (Term.static C n d).eval args s none [] s = some v := by
    simp [Term.eval, State.fieldNamed?, h1, h2, h4, h5, h6, h7]
  simp only [Cond.before, Cond.holds, Cond.value, he]
  cases v <;> simp_all [Value.isRef]
theorem vx_isRefq {C n d : String} {A : Nat → Prop} {s : State} {args : Array Value} (h : va_Zq C n d A s s.heap) : (Cond.isRef (.static C n d)).before args s = true := by
  rcases h with h | ⟨t, h⟩
  · exact vx_isRef h rfl
  · exact vx_isRef h rfl
/-- the same frame, seen from here: as if the method were called anew in this heap -/
theorem vx_rebase {T : State} (X : Stand p l e R s m args below meth c T locs cells slots) {R' : Room} (hf : R'.frames ≤ R.frames) (hl : R'.locals ≤ R.locals) (hc : cells + R'.cells ≤ R.cells) (hs : slots + R'.slots ≤ R.slots) :
    Stand p l e R' ((T.setVm s.vm).setFrames (.invoking m args :: below)) m args below meth c T [] 0 0 := by
  have htop : (T.setVm s.vm).topJava?.isSome := X.here.top
  have hF : ((T.setVm s.vm).setFrames (.invoking m args :: below)).frames = .invoking m args :: below := State.frames_setFrames _ (State.cur_lt_of_top htop)
  obtain ⟨g₀, hg0⟩ := Option.isSome_iff_exists.mp htop
  obtain ⟨r, hr⟩ := State.topJava?_eq_some.mp hg0
  have hl9 : e.platform.stackLimits (T.setVm s.vm).me = e.platform.stackLimits s.me := X.limits
  have hb9 : (T.setVm s.vm).me.stackBytes = s.me.stackBytes := X.bytes
  refine ⟨X.admits, X.cas, X.clock, hF, ?_, X.hears, X.method, X.code, X.here, X.tail, X.warmed, ?_, ?_, ?_⟩
  · have h := X.room
    have hU : ((T.setVm s.vm).setFrames (.invoking m args :: below)).localsInUse = s.localsInUse := by
      rw [State.localsInUse_invoking hF (meth := meth) (c := c) X.method X.code, State.localsInUse_invoking X.frames X.method X.code]
    simp only [State.hasRoom, Bool.and_eq_true, decide_eq_true_eq] at h ⊢
    obtain ⟨⟨⟨⟨h1, h2, h3, h4, h5, h6⟩, h7⟩, h8⟩, h9⟩ := h
    rw [X.frames, List.length_cons] at h2 h3
    have q1 := X.heapSize
    have q2 := X.used
    simp only [hF, hU, List.length_cons, State.stackLimits_setFrames, State.stackBytes_setFrames, hl9, hb9]
    refine ⟨⟨⟨⟨by omega, by omega, by omega, by omega, by omega, h6⟩, ?_⟩, ?_⟩, X.book⟩
    · show T.heap.size + R'.cells ≤ e.platform.maxCells
      omega
    · show T.slotsUsed + R'.slots ≤ e.platform.maxSlots
      omega
  · rw [State.stackLimits_setFrames]; rfl
  · rw [State.stackBytes_setFrames]; rfl
  · refine ⟨?_, Nat.le_refl _, Nat.le_refl _, ?_, ?_, fun a c9 h9 => ⟨c9, h9, rfl, rfl, fun _ _ => rfl⟩⟩
    · obtain ⟨t, ht, -⟩ := State.frames_cons hr
      show T.setVm s.vm = { ((T.setVm s.vm).setFrames (.invoking m args :: below)).setFrames (T.setVm s.vm).frames with heap := T.heap, slotsUsed := T.slotsUsed }
      rw [State.setFrames_setFrames, State.setFrames_self ht]
      rfl
    · show T.slotsUsed = T.slotsUsed + ((T.heap.toList.drop T.heap.size).map (·.slots.size)).sum
      rw [List.drop_eq_nil_of_le (Nat.le_of_eq Array.length_toList)]
      rfl
    · show ((T.heap.toList.drop T.heap.size).map (·.slots.size)).sum ≤ 0
      rw [List.drop_eq_nil_of_le (Nat.le_of_eq Array.length_toList)]
      exact Nat.le_refl _
/-- 'throw new E()': new; dup; invokespecial; athrow -/
theorem vx_throw0 {cc : ByteArray} {pc : Nat} (hexec : p.tables.exec = Jvm.exec) (hb : c.code = cc) (hl : l.stackTraces = false) {own cls : String} {names : List String} {ik ic mc ms : Nat} {A : Nat → Prop}
    (hown : s.vm.findClass own = some m.cls) (hcls : Bundle.fit cls = true) (hnames : ∀ n ∈ names, Bundle.fit n = true)
    (hk : (Cond.classLink own ik cls).before args s = true) (hini : (Cond.initialized cls).before args s = true) (hat : ∀ w ∈ vx_at0 own ic cls names, w.before args s = true)
    (hgood : ∀ w ∈ Cond.classLink own ik cls :: Cond.initialized cls :: vx_at0 own ic cls names, vx_ot w = true)
    (hU : vx_Zq Bundle.tN "UNASSIGNED_STACK" Bundle.steD A s s.heap) (hN : vx_Zq Bundle.tN "SUPPRESSED_SENTINEL" Bundle.listD A s s.heap) (hS : va_S A s.heap H locs) (hsize : ls.size = c.maxLocals)
    (d0 : decode cc pc = .ok (.new ik, 3)) (d3 : decode cc (pc + 3) = .ok (.dup, 1)) (d4 : decode cc (pc + 4) = .ok (.invokespecial ic, 3)) (d7 : decode cc (pc + 7) = .ok (.athrow, 1))
    (hout : ∀ x ∈ c.exceptionTable.toList, covers x (pc + 7) = false)
    (hRframes : names.length + 3 < R.frames) (hRlocals : (rest.map fun v => v.category).sum + (13 * (names.length + 1) + 42) ≤ R.locals) (hRcells : cells + 1 ≤ R.cells) (hRslots : slots + 6 ≤ R.slots) (hlocks : meth.locks = false)
    (hx : ∀ t : State, s.vm.Alike t.vm → H.size ≤ t.heap.size → (∀ q : Nat, q < H.size → t.heap[q]? = H[q]?) → XC cls s t)
    (hf : ∀ z ∈ locs, free z.base) (hc : cells + 1 ≤ mc) (hs : slots + 6 ≤ ms) :
    W p l e R s m args below meth c H locs cells slots (vx_MQ below Qc XC args s mc ms free) (F0 m pc ls rest) := by
  intro T hT X
  have htr : e.platform.stackTraces = false := (show e.platform.stackTraces = l.stackTraces by rw [X.admits.platform]).trans hl
  have Y := vx_rebase X (R' := { frames := R.frames, locals := R.locals, cells := 1, slots := 6 }) (Nat.le_refl _) (Nat.le_refl _) hRcells hRslots
  obtain ⟨s', hA⟩ : ∃ z, z = (T.setVm s.vm).setFrames (.invoking m args :: below) := ⟨_, rfl⟩
  rw [← hA] at Y
  have hvm : s'.vm = s.vm := by rw [hA]; rfl
  have hhp : s'.heap = H := by rw [hA]; exact hT
  have hW0 : s.WarmedH s'.vm := by rw [hvm]; exact State.WarmedH.refl s
  have hat' : ∀ w ∈ vx_at0 own ic cls names, w.before args s' = true := fun w hw => vx_ot_at hW0 hvm.symm (hgood w (List.mem_cons_of_mem _ (List.mem_cons_of_mem _ hw))) (hat w hw)
  have hk' : (Cond.classLink own ik cls).before args s' = true := vx_ot_at hW0 hvm.symm (hgood _ List.mem_cons_self) hk
  have hini' : (Cond.initialized cls).before args s' = true := vx_ot_at hW0 hvm.symm (hgood _ (List.mem_cons_of_mem _ List.mem_cons_self)) hini
  have hU' : vx_Zq Bundle.tN "UNASSIGNED_STACK" Bundle.steD A s' s'.heap := by rw [hhp]; exact vx_Zq.moved hW0.alike (hU.kept hS.2.1)
  have hN' : vx_Zq Bundle.tN "SUPPRESSED_SENTINEL" Bundle.listD A s' s'.heap := by rw [hhp]; exact vx_Zq.moved hW0.alike (hN.kept hS.2.1)
  have h : ∀ w ∈ Bundle.ownAtoms0 own ic cls names, w.before args s' = true := vx_own hat' (vx_isRefq hU'.1) (vx_isRefq hN'.1) hU'.2.word hN'.2.word
  have hown' : s'.vm.findClass own = some m.cls := by rw [hvm]; exact hown
  have hins : (Cond.instantiable cls 6).before args s' = true := h _ (by simp [Bundle.ownAtoms0])
  obtain ⟨vm₁, cX, kX, hfX, hkX, -, -, X₁, st1⟩ := Y.newCold hexec (own := own) (C := cls) (index := ik) (n := 6) hown' hk' hins hini'
    (g := F0 m pc ls rest) rfl (by rw [hb]; exact d0) (Nat.le_refl _) (Nat.le_refl _)
  generalize hT1 : (T.setVm vm₁).pushCell { cls := cX, slots := kX.instanceTypes.map defaultValue, vm := .none } = T1 at X₁ st1
  have hcat : (Value.ref T.heap.size).category = 1 := rfl
  have hcellA : T1.heap[T.heap.size]? = some (freshCell cX kX) := by rw [← hT1]; exact State.heap_pushCell_size _ _
  have d3' : decode c.code (pc + 3) = .ok (.dup, 1) := by rw [hb]; exact d3
  obtain ⟨U, hsteps, hrun, hend, hW, hsame, ce, hce, hO⟩ := X₁.ctorThrow0 hexec htr (own := own) (cls := cls) (names := names) (ic := ic) hown' hcls hnames h (fun x hx => nomatch hx) hfX hkX hcellA (by rw [hhp, hT]; exact Nat.le_refl _)
    (g := { method := m, pc := pc + 4, locals := ls, stack := .ref T.heap.size :: .ref T.heap.size :: rest, locked := none }) rfl hsize rfl rfl (rest := rest) rfl
    (by rw [hb]; exact d4) (by rw [hb]; exact d7) hout hRframes (by simp only [List.map_cons, List.sum_cons, hcat]; omega) hlocks
  obtain ⟨f1, f2⟩ := vx_frame hsame
  rw [hhp] at f1 f2
  have hWs : s.WarmedH U.vm := State.WarmedH.trans hW0 hW
  have hcl : s.vm.findClass cls = some ce.cls := by
    have h9 := hO.cls
    rw [hvm] at h9
    exact h9
  have hall : s.sameButNew ({ U with vm := s.vm } : State) locs mc ms := by
    subst hA
    obtain ⟨e1, e2⟩ := hsame
    rw [State.setFrames_setFrames] at e1
    have h2 : (T.setVm s.vm).sameButNew ({ U with vm := s.vm } : State) [] (0 + 1) (0 + 6) := ⟨e1, e2⟩
    have h3 := X.same.trans h2
    rw [List.append_nil] at h3
    exact h3.mono hc hs
  refine ⟨U, ?_, .threw T.heap.size, hrun, hend, Or.inr ⟨T.heap.size, rfl, cls, ce, locs, hx U hWs.alike f1 (fun q hq => f2 q hq (fun z hz => nomatch hz)), hce, hO.vm, hcl, hWs, hall, hf⟩⟩
  refine st1 _ ?_
  show Steps p.tables e below (T1.setTop { method := m, pc := pc + 3, locals := ls, stack := .ref T.heap.size :: rest, locked := none }) _
  jvm_step X₁.here [X₁.here.top, hexec, d3', Value.category]
  exact hsteps
/-- 'throw new E("text")': new; dup; ldc; invokespecial; athrow -/
theorem vx_throwS {cc : ByteArray} {pc : Nat} (hexec : p.tables.exec = Jvm.exec) (hb : c.code = cc) (hl : l.stackTraces = false) {own cls text : String} {names : List String} {ik is ic mc ms sa : Nat} {A : Nat → Prop}
    (hown : s.vm.findClass own = some m.cls) (hcls : Bundle.fit cls = true) (hnames : ∀ n ∈ names, Bundle.fit n = true)
    (hk : (Cond.classLink own ik cls).before args s = true) (hini : (Cond.initialized cls).before args s = true) (hstr : vk_R own is text sa s) (hat : ∀ w ∈ vx_atS own ic cls names, w.before args s = true)
    (hgood : ∀ w ∈ Cond.classLink own ik cls :: Cond.initialized cls :: vx_atS own ic cls names, vx_ot w = true)
    (hU : vx_Zq Bundle.tN "UNASSIGNED_STACK" Bundle.steD A s s.heap) (hN : vx_Zq Bundle.tN "SUPPRESSED_SENTINEL" Bundle.listD A s s.heap) (hS : va_S A s.heap H locs) (hsize : ls.size = c.maxLocals)
    (d0 : decode cc pc = .ok (.new ik, 3)) (d3 : decode cc (pc + 3) = .ok (.dup, 1)) (d4 : decode cc (pc + 4) = .ok (.ldc is, 2)) (d6 : decode cc (pc + 6) = .ok (.invokespecial ic, 3)) (d9 : decode cc (pc + 9) = .ok (.athrow, 1))
    (hout : ∀ x ∈ c.exceptionTable.toList, covers x (pc + 9) = false)
    (hRframes : names.length + 3 < R.frames) (hRlocals : (rest.map fun v => v.category).sum + (13 * (names.length + 1) + 43) ≤ R.locals) (hRcells : cells + 1 ≤ R.cells) (hRslots : slots + 6 ≤ R.slots) (hlocks : meth.locks = false)
    (hx : ∀ t : State, s.vm.Alike t.vm → H.size ≤ t.heap.size → (∀ q : Nat, q < H.size → t.heap[q]? = H[q]?) → XC cls s t)
    (hf : ∀ z ∈ locs, free z.base) (hc : cells + 1 ≤ mc) (hs : slots + 6 ≤ ms) :
    W p l e R s m args below meth c H locs cells slots (vx_MQ below Qc XC args s mc ms free) (F0 m pc ls rest) := by
  intro T hT X
  have htr : e.platform.stackTraces = false := (show e.platform.stackTraces = l.stackTraces by rw [X.admits.platform]).trans hl
  have Y := vx_rebase X (R' := { frames := R.frames, locals := R.locals, cells := 1, slots := 6 }) (Nat.le_refl _) (Nat.le_refl _) hRcells hRslots
  obtain ⟨s', hA⟩ : ∃ z, z = (T.setVm s.vm).setFrames (.invoking m args :: below) := ⟨_, rfl⟩
  rw [← hA] at Y
  have hvm : s'.vm = s.vm := by rw [hA]; rfl
  have hhp : s'.heap = H := by rw [hA]; exact hT
  have hW0 : s.WarmedH s'.vm := by rw [hvm]; exact State.WarmedH.refl s
  have hat' : ∀ w ∈ vx_atS own ic cls names, w.before args s' = true := fun w hw => vx_ot_at hW0 hvm.symm (hgood w (List.mem_cons_of_mem _ (List.mem_cons_of_mem _ hw))) (hat w hw)
  have hk' : (Cond.classLink own ik cls).before args s' = true := vx_ot_at hW0 hvm.symm (hgood _ List.mem_cons_self) hk
  have hini' : (Cond.initialized cls).before args s' = true := vx_ot_at hW0 hvm.symm (hgood _ (List.mem_cons_of_mem _ List.mem_cons_self)) hini
  have hU' : vx_Zq Bundle.tN "UNASSIGNED_STACK" Bundle.steD A s' s'.heap := by rw [hhp]; exact vx_Zq.moved hW0.alike (hU.kept hS.2.1)
  have hN' : vx_Zq Bundle.tN "SUPPRESSED_SENTINEL" Bundle.listD A s' s'.heap := by rw [hhp]; exact vx_Zq.moved hW0.alike (hN.kept hS.2.1)
  have h : ∀ w ∈ Bundle.ownAtoms own ic cls names, w.before args s' = true := vx_own hat' (vx_isRefq hU'.1) (vx_isRefq hN'.1) hU'.2.word hN'.2.word
  have hown' : s'.vm.findClass own = some m.cls := by rw [hvm]; exact hown
  have hins : (Cond.instantiable cls 6).before args s' = true := h _ (by simp [Bundle.ownAtoms])
  obtain ⟨vm₁, cX, kX, hfX, hkX, -, -, X₁, st1⟩ := Y.newCold hexec (own := own) (C := cls) (index := ik) (n := 6) hown' hk' hins hini'
    (g := F0 m pc ls rest) rfl (by rw [hb]; exact d0) (Nat.le_refl _) (Nat.le_refl _)
  generalize hT1 : (T.setVm vm₁).pushCell { cls := cX, slots := kX.instanceTypes.map defaultValue, vm := .none } = T1 at X₁ st1
  have hcat : (Value.ref T.heap.size).category = 1 := rfl
  have hcellA : T1.heap[T.heap.size]? = some (freshCell cX kX) := by rw [← hT1]; exact State.heap_pushCell_size _ _
  have d3' : decode c.code (pc + 3) = .ok (.dup, 1) := by rw [hb]; exact d3
  have d4' : decode c.code (pc + 4) = .ok (.ldc is, 2) := by rw [hb]; exact d4
  have hstr' : vk_R own is text sa s' := vk_R.warm hW0 hstr
  obtain ⟨U, hsteps, hrun, hend, hW, hsame, ce, hce, hO⟩ := X₁.ctorThrowS hexec htr (own := own) (cls := cls) (names := names) (ic := ic) hown' hcls hnames h (fun x hx => nomatch hx) hfX hkX hcellA (by rw [hhp, hT]; exact Nat.le_refl _) (msg := .ref sa) rfl
    (g := { method := m, pc := pc + 6, locals := ls, stack := .ref sa :: .ref T.heap.size :: .ref T.heap.size :: rest, locked := none }) rfl hsize rfl rfl (rest := rest) rfl
    (by rw [hb]; exact d6) (by rw [hb]; exact d9) hout hRframes (by simp only [List.map_cons, List.sum_cons, hcat]; omega) hlocks
  obtain ⟨f1, f2⟩ := vx_frame hsame
  rw [hhp] at f1 f2
  have hWs : s.WarmedH U.vm := State.WarmedH.trans hW0 hW
  have hcl : s.vm.findClass cls = some ce.cls := by
    have h9 := hO.cls
    rw [hvm] at h9
    exact h9
  have hall : s.sameButNew ({ U with vm := s.vm } : State) locs mc ms := by
    subst hA
    obtain ⟨e1, e2⟩ := hsame
    rw [State.setFrames_setFrames] at e1
    have h2 : (T.setVm s.vm).sameButNew ({ U with vm := s.vm } : State) [] (0 + 1) (0 + 6) := ⟨e1, e2⟩
    have h3 := X.same.trans h2
    rw [List.append_nil] at h3
    exact h3.mono hc hs
  refine ⟨U, ?_, .threw T.heap.size, hrun, hend, Or.inr ⟨T.heap.size, rfl, cls, ce, locs, hx U hWs.alike f1 (fun q hq => f2 q hq (fun z hz => nomatch hz)), hce, hO.vm, hcl, hWs, hall, hf⟩⟩
  refine st1 _ ?_
  show Steps p.tables e below (T1.setTop { method := m, pc := pc + 3, locals := ls, stack := .ref T.heap.size :: rest, locked := none }) _
  jvm_step X₁.here [X₁.here.top, hexec, d3', Value.category]
  exact X₁.ldcString hexec (own := own) (text := text) (index := is) (a := sa) hown' hstr'.1 hstr'.2
    (g := { method := m, pc := pc + 4, locals := ls, stack := .ref T.heap.size :: .ref T.heap.size :: rest, locked := none }) rfl d4' _ hsteps
/-- 'throw new E("text")', the text by a wide index -/
theorem vx_throwSW {cc : ByteArray} {pc : Nat} (hexec : p.tables.exec = Jvm.exec) (hb : c.code = cc) (hl : l.stackTraces = false) {own cls text : String} {names : List String} {ik is ic mc ms sa : Nat} {A : Nat → Prop}
    (hown : s.vm.findClass own = some m.cls) (hcls : Bundle.fit cls = true) (hnames : ∀ n ∈ names, Bundle.fit n = true)
    (hk : (Cond.classLink own ik cls).before args s = true) (hini : (Cond.initialized cls).before args s = true) (hstr : vk_R own is text sa s) (hat : ∀ w ∈ vx_atS own ic cls names, w.before args s = true)
    (hgood : ∀ w ∈ Cond.classLink own ik cls :: Cond.initialized cls :: vx_atS own ic cls names, vx_ot w = true)
    (hU : vx_Zq Bundle.tN "UNASSIGNED_STACK" Bundle.steD A s s.heap) (hN : vx_Zq Bundle.tN "SUPPRESSED_SENTINEL" Bundle.listD A s s.heap) (hS : va_S A s.heap H locs) (hsize : ls.size = c.maxLocals)
    (d0 : decode cc pc = .ok (.new ik, 3)) (d3 : decode cc (pc + 3) = .ok (.dup, 1)) (d4 : decode cc (pc + 4) = .ok (.ldc_w is, 3)) (d7 : decode cc (pc + 7) = .ok (.invokespecial ic, 3)) (d10 : decode cc (pc + 10) = .ok (.athrow, 1))
    (hout : ∀ x ∈ c.exceptionTable.toList, covers x (pc + 10) = false)
    (hRframes : names.length + 3 < R.frames) (hRlocals : (rest.map fun v => v.category).sum + (13 * (names.length + 1) + 43) ≤ R.locals) (hRcells : cells + 1 ≤ R.cells) (hRslots : slots + 6 ≤ R.slots) (hlocks : meth.locks = false)
    (hx : ∀ t : State, s.vm.Alike t.vm → H.size ≤ t.heap.size → (∀ q : Nat, q < H.size → t.heap[q]? = H[q]?) → XC cls s t)
    (hf : ∀ z ∈ locs, free z.base) (hc : cells + 1 ≤ mc) (hs : slots + 6 ≤ ms) :
    W p l e R s m args below meth c H locs cells slots (vx_MQ below Qc XC args s mc ms free) (F0 m pc ls rest) := by
  intro T hT X
  have htr : e.platform.stackTraces = false := (show e.platform.stackTraces = l.stackTraces by rw [X.admits.platform]).trans hl
  have Y := vx_rebase X (R' := { frames := R.frames, locals := R.locals, cells := 1, slots := 6 }) (Nat.le_refl _) (Nat.le_refl _) hRcells hRslots
  obtain ⟨s', hA⟩ : ∃ z, z = (T.setVm s.vm).setFrames (.invoking m args :: below) := ⟨_, rfl⟩
  rw [← hA] at Y
  have hvm : s'.vm = s.vm := by rw [hA]; rfl
  have hhp : s'.heap = H := by rw [hA]; exact hT
  have hW0 : s.WarmedH s'.vm := by rw [hvm]; exact State.WarmedH.refl s
  have hat' : ∀ w ∈ vx_atS own ic cls names, w.before args s' = true := fun w hw => vx_ot_at hW0 hvm.symm (hgood w (List.mem_cons_of_mem _ (List.mem_cons_of_mem _ hw))) (hat w hw)
  have hk' : (Cond.classLink own ik cls).before args s' = true := vx_ot_at hW0 hvm.symm (hgood _ List.mem_cons_self) hk
  have hini' : (Cond.initialized cls).before args s' = true := vx_ot_at hW0 hvm.symm (hgood _ (List.mem_cons_of_mem _ List.mem_cons_self)) hini
  have hU' : vx_Zq Bundle.tN "UNASSIGNED_STACK" Bundle.steD A s' s'.heap := by rw [hhp]; exact vx_Zq.moved hW0.alike (hU.kept hS.2.1)
  have hN' : vx_Zq Bundle.tN "SUPPRESSED_SENTINEL" Bundle.listD A s' s'.heap := by rw [hhp]; exact vx_Zq.moved hW0.alike (hN.kept hS.2.1)
  have h : ∀ w ∈ Bundle.ownAtoms own ic cls names, w.before args s' = true := vx_own hat' (vx_isRefq hU'.1) (vx_isRefq hN'.1) hU'.2.word hN'.2.word
  have hown' : s'.vm.findClass own = some m.cls := by rw [hvm]; exact hown
  have hins : (Cond.instantiable cls 6).before args s' = true := h _ (by simp [Bundle.ownAtoms])
  obtain ⟨vm₁, cX, kX, hfX, hkX, -, -, X₁, st1⟩ := Y.newCold hexec (own := own) (C := cls) (index := ik) (n := 6) hown' hk' hins hini'
    (g := F0 m pc ls rest) rfl (by rw [hb]; exact d0) (Nat.le_refl _) (Nat.le_refl _)
  generalize hT1 : (T.setVm vm₁).pushCell { cls := cX, slots := kX.instanceTypes.map defaultValue, vm := .none } = T1 at X₁ st1
  have hcat : (Value.ref T.heap.size).category = 1 := rfl
  have hcellA : T1.heap[T.heap.size]? = some (freshCell cX kX) := by rw [← hT1]; exact State.heap_pushCell_size _ _
  have d3' : decode c.code (pc + 3) = .ok (.dup, 1) := by rw [hb]; exact d3
  have d4' : decode c.code (pc + 4) = .ok (.ldc_w is, 3) := by rw [hb]; exact d4
  have hstr' : vk_R own is text sa s' := vk_R.warm hW0 hstr
  obtain ⟨U, hsteps, hrun, hend, hW, hsame, ce, hce, hO⟩ := X₁.ctorThrowS hexec htr (own := own) (cls := cls) (names := names) (ic := ic) hown' hcls hnames h (fun x hx => nomatch hx) hfX hkX hcellA (by rw [hhp, hT]; exact Nat.le_refl _) (msg := .ref sa) rfl
    (g := { method := m, pc := pc + 7, locals := ls, stack := .ref sa :: .ref T.heap.size :: .ref T.heap.size :: rest, locked := none }) rfl hsize rfl rfl (rest := rest) rfl
    (by rw [hb]; exact d7) (by rw [hb]; exact d10) hout hRframes (by simp only [List.map_cons, List.sum_cons, hcat]; omega) hlocks
  obtain ⟨f1, f2⟩ := vx_frame hsame
  rw [hhp] at f1 f2
  have hWs : s.WarmedH U.vm := State.WarmedH.trans hW0 hW
  have hcl : s.vm.findClass cls = some ce.cls := by
    have h9 := hO.cls
    rw [hvm] at h9
    exact h9
  have hall : s.sameButNew ({ U with vm := s.vm } : State) locs mc ms := by
    subst hA
    obtain ⟨e1, e2⟩ := hsame
    rw [State.setFrames_setFrames] at e1
    have h2 : (T.setVm s.vm).sameButNew ({ U with vm := s.vm } : State) [] (0 + 1) (0 + 6) := ⟨e1, e2⟩
    have h3 := X.same.trans h2
    rw [List.append_nil] at h3
    exact h3.mono hc hs
  refine ⟨U, ?_, .threw T.heap.size, hrun, hend, Or.inr ⟨T.heap.size, rfl, cls, ce, locs, hx U hWs.alike f1 (fun q hq => f2 q hq (fun z hz => nomatch hz)), hce, hO.vm, hcl, hWs, hall, hf⟩⟩
  refine st1 _ ?_
  show Steps p.tables e below (T1.setTop { method := m, pc := pc + 3, locals := ls, stack := .ref T.heap.size :: rest, locked := none }) _
  jvm_step X₁.here [X₁.here.top, hexec, d3', Value.category]
  exact X₁.ldcStringW hexec (own := own) (text := text) (index := is) (a := sa) hown' hstr'.1 hstr'.2
    (g := { method := m, pc := pc + 4, locals := ls, stack := .ref T.heap.size :: .ref T.heap.size :: rest, locked := none }) rfl d4' _ hsteps
end Ends
section Bodies
variable {l : Launch}
theorem vx_ofW {y : MethodName} {ws ws' : List Cond} {rm : Room} {Pc : Array Value → State → Prop} {Qc : Array Value → State → Outcome → State → Prop} {XC : String → State → State → Prop} {mc ms : Nat} {free : Addr → Prop} {cc : ByteArray} {maxL : Nat} {ret : Option FieldType}
    (hy : plainName y.cls = true) (hw : ws = Cond.code y cc maxL ret :: ws')
    (body : ∀ p e s m args below meth c s₁, BodyLoose p l y (headSpec ws rm) cc maxL ret e s m args below meth c s₁ → c.maxLocals = maxL → (∀ x ∈ c.exceptionTable.toList, False) → Pc args s →
      W p l e (headSpec ws rm).room s m args below meth c s.heap [] 0 0 (vx_MQ below Qc XC args s mc ms free) (entryFrame m args maxL)) : vx_Met l y ws rm Pc Qc XC mc ms free := by
  refine MetFree.of_bodyS (code := cc) (maxLocals := maxL) (ret := ret) hy ?_ ?_
  · intro args s m h hn
    obtain ⟨meth, c, h1, h2, h3, h4, h5, h6, -, -⟩ := Cond.code_spec hn (atoms_spec (ws := ws) h _ (by rw [hw]; exact List.mem_cons_self))
    exact ⟨meth, c, h1, h2, h3, h4, h5, h6⟩
  · intro p e s m args below meth c s₁ B hml hP _
    have hh0 : s₁.heap = s.heap := by rw [B.state]; rfl
    have ht : ∀ x ∈ c.exceptionTable.toList, False := by
      obtain ⟨meth9, c9, h1, h2, -, -, -, -, h7, -⟩ := Cond.code_spec B.named (atoms_spec (ws := ws) B.pre _ (by rw [hw]; exact List.mem_cons_self))
      cases Option.some.inj (h1.symm.trans B.method)
      cases Option.some.inj (h2.symm.trans (Stand.of_body B).code)
      intro x hx
      rw [Array.isEmpty_iff.mp h7] at hx
      cases hx
    obtain ⟨t, a1, o, b1, b2, b3⟩ := body p e s m args below meth c s₁ B hml ht hP s₁ hh0 (Stand.of_body B)
    exact ⟨t, o, a1, b1, b2, b3⟩
/-- the table of a body with handlers -/
theorem vx_table {p : Program} {x y : MethodName} {S : Spec} {cc bytes : ByteArray} {maxL maxL' : Nat} {ret ret' : Option FieldType} {e : Env} {s s₁ : State} {m : MethodId} {args : Array Value} {below : List Frame} {meth : Method} {c : Code} {hh : List (Nat × Nat × Nat × Nat)}
    (B : BodyLoose p l y S cc maxL ret e s m args below meth c s₁) (h : (Cond.codeWith y bytes maxL' ret' hh).before args s = true) : c.exceptionTable.toList = tableOf hh := by
  obtain ⟨m9, meth9, c9, hn9, h1, h2, -, -, h6, -⟩ := Cond.codeWith_spec h
  cases Option.some.inj (hn9.symm.trans B.named)
  cases Option.some.inj (h1.symm.trans B.method)
  cases Option.some.inj (h2.symm.trans (Stand.of_body B).code)
  rw [← h6, table_eq]
end Bodies
end VXA
/-! ===== END ===== -/
/-! ===== BEGIN a static call of a method with an exception table ===== -/
section VXS
variable {p : Program} {l : Launch} {e : Env} {R : Room} {s : State} {m : MethodId} {args : Array Value} {below : List Frame} {meth : Method} {c : Code} {T : State} {H : Heap} {locs : List Loc} {cells slots : Nat}
abbrev vx_CSW (R : Room) (s : State) (args : Array Value) (own : String) (index : Nat) (y : MethodName) (bytes : ByteArray) (maxL : Nat) (ret : Option FieldType) (hh : List (Nat × Nat × Nat × Nat)) (ws : List Cond) (rm : Room) (mc ms n : Nat) : Prop :=
  (rm.cells = mc ∧ rm.slots = ms ∧ rm.frames + 1 ≤ R.frames ∧ 8 + (maxL + 11) + rm.locals ≤ R.locals ∧ (∀ w ∈ ws, ∀ (a' : Array Value) (U : State), s.WarmedH U.vm → w.before a' U = true) ∧ Cond.codeWith y bytes maxL ret hh ∈ ws) ∧
  (Cond.codeWith y bytes maxL ret hh).before args s = true ∧ (Cond.initialized y.cls).before args s = true ∧ (y.cls ≠ "java/lang/invoke/MethodHandle" ∧ y.cls ≠ "java/lang/invoke/VarHandle") ∧
  (∀ sig, parseMethodDescriptor y.desc = some sig → n = sig.parameters.length) ∧ (Cond.methodLink own index y).before args s = true ∧ (Cond.static y).before args s = true
theorem vx_cwSW {own : String} {index maxL mc ms : Nat} {y : MethodName} {bytes : ByteArray} {ret : Option FieldType} {hh : List (Nat × Nat × Nat × Nat)} {Ts ws ws' : List Cond} {rm : Room} (n : Nat) (ht : ∀ w ∈ Ts, w.before args s = true) (hT : GoodIn Ts (va_wsS own index y ws)) (hw : ws = Cond.codeWith y bytes maxL ret hh :: ws') (hrc : rm.cells = mc) (hrs : rm.slots = ms)
    (hd : y.cls ≠ "java/lang/invoke/MethodHandle" ∧ y.cls ≠ "java/lang/invoke/VarHandle" ∧ (parseMethodDescriptor y.desc).map (fun d => d.parameters.length) = some n) (hR : rm.frames + 1 ≤ R.frames ∧ 8 + (maxL + 11) + rm.locals ≤ R.locals) :
    vx_CSW R s args own index y bytes maxL ret hh ws rm mc ms n := by
  have ok : ∀ w ∈ va_wsS own index y ws, w.before args s = true := fun w h => ht w (hT w h).1
  have hG : GoodIn Ts ws := fun w h => hT w (by unfold va_wsS; exact List.mem_append_right _ h)
  have hc : Cond.codeWith y bytes maxL ret hh ∈ ws := by rw [hw]; exact List.mem_cons_self
  refine ⟨⟨hrc, hrs, hR.1, hR.2, pay_in ht hG, hc⟩, ht _ (hG _ hc).1, ok _ (by simp [va_wsS]), ⟨hd.1, hd.2.1⟩, fun sig h => ?_, ok _ (by simp [va_wsS]), ok _ (by simp [va_wsS])⟩
  have h2 := hd.2.2
  rw [h] at h2
  exact (Option.some.inj h2).symm
theorem vx_callSW (X : Stand p l e R s m args below meth c T locs cells slots) (hexec : p.tables.exec = Jvm.exec) {own : String} {index : Nat} {y : MethodName} {bytes : ByteArray} {maxL : Nat} {ret : Option FieldType} {hh : List (Nat × Nat × Nat × Nat)}
    (hown : s.vm.findClass own = some m.cls) (hlink : (Cond.methodLink own index y).before args s = true) (hstat : (Cond.static y).before args s = true) (hinit : (Cond.initialized y.cls).before args s = true)
    (hcode : (Cond.codeWith y bytes maxL ret hh).before args s = true) (hy : y.cls ≠ "java/lang/invoke/MethodHandle" ∧ y.cls ≠ "java/lang/invoke/VarHandle")
    {W9 : Nat} {Pre : Pt → Array Value → Prop} {Post : Pt → Array Value → Option Value → Pt → Prop} (hK : Back l R p e below s args y 3 W9 Pre Post)
    {g : JFrame} (hg : g.method = m) (hsize : g.locals.size = c.maxLocals) {argsL rest : List Value} (hlen : ∀ sig, parseMethodDescriptor y.desc = some sig → argsL.length = sig.parameters.length)
    (hstack : g.stack = argsL.reverse ++ rest) (hW : 2 * g.monitorRoom + (rest.map fun v => v.category).sum ≤ W9) (hdg : decode c.code g.pc = .ok (.invokestatic index, 3))
    (hpre : ∀ vm₁, s.WarmedH vm₁ → Pre ⟨T.setVm vm₁, locs, cells, slots⟩ argsL.toArray) :
    ∃ (v : Option Value) (vm₁ : Vm) (B : Pt), s.WarmedH vm₁ ∧ Stand p l e R s m args below meth c B.U B.locs B.cells B.slots ∧ Post ⟨T.setVm vm₁, locs, cells, slots⟩ argsL.toArray v B ∧
      ∀ target, Steps p.tables e below (B.U.setTop { g with pc := g.pc + 3, stack := v.toList ++ rest }) target → Steps p.tables e below (T.setTop g) target := by
  obtain ⟨mk, methM, cM, hnamed, hmethM, -, -, -, -, -, -, hsigM⟩ := Cond.codeWith_spec hcode
  have hstatic : methM.isStatic = true := Cond.static_spec hnamed hmethM hstat
  obtain ⟨kP, hkP, -⟩ := className_of_methodNamed hnamed
  have hinitP : kP.init = .initialized := Cond.initialized_spec (findClass_of_methodNamed hnamed) hkP hinit
  obtain ⟨vm₁, X₁, hstep₁⟩ := X.invokestatic hexec hown hlink hnamed hmethM hstatic hkP hinitP hy (g := g) hg (argsL := argsL) (rest := rest) (hlen _ hsigM) hstack hdg
  obtain ⟨v, B, X', hpost, hsteps⟩ := hK m meth c ⟨T.setVm vm₁, locs, cells, slots⟩ { g with stack := rest } (.invokestatic index) mk argsL.toArray X₁ hg hsize hdg hW (X₁.named hnamed) (hpre vm₁ X₁.warmed)
  exact ⟨v, vm₁, B, X₁.warmed, X', hpost, fun target h => hstep₁ _ fun acts => by rw [doInvoke_state]; exact hsteps.trans h⟩
theorem vx_runSW {y : MethodName} {bytes cc : ByteArray} {maxL nL mc ms n index : Nat} {ret : Option FieldType} {hh : List (Nat × Nat × Nat × Nat)} {ws : List Cond} {rm : Room} {Pc : Array Value → State → Prop} {Qc : Array Value → State → Outcome → State → Prop} {free : Addr → Prop} {Ts : List Cond} {own : String} {As rest : List Value} {g : JFrame}
    (S : CallFix p m c cc nL s args Ts own) (hM : Met l y ws rm Pc Qc mc ms free) (cw : vx_CSW R s args own index y bytes maxL ret hh ws rm mc ms n) (hp : PreS s H Pc As)
    (hg : g.method = m) (hn : As.length = n) (hsize : g.locals.size = nL) (hstack : g.stack = As.reverse ++ rest) (hW : 2 * g.monitorRoom + (rest.map fun v => v.category).sum ≤ 8) (hdg : decode cc g.pc = .ok (.invokestatic index, 3)) (hf : cells + mc ≤ R.cells ∧ slots + ms ≤ R.slots) :
    va_Run p l e R s m args below meth c H locs cells slots mc ms g rest (Qc As.toArray) (free) := by
  obtain ⟨⟨hrc, hrs, hfr, hlo, hws, hcw⟩, hcode, hini, hy, hlen, hl, hstt⟩ := cw
  have hK : Back l R p e below s args y 3 8 (PreOf R mc ms Pc) (PostOf Qc mc ms free) := va_backW (hh := hh) (bytes := bytes) (maxL := maxL) (ret := ret) hM hp.1 hrc hrs hfr hlo hws hcw (fun a' U hW => word_at hW (Or.inl (by first | rfl | simp [Cond.onTables, Cond.keeps, Cond.steady])) hini)
  obtain ⟨hx, hb, hml, ho, -⟩ := S
  intro T hT X
  obtain ⟨v, vm₁, ⟨U', l2, c2, s2⟩, hW₁, X', ⟨g', mk, t, L, e1, e2, hq, h1, hL, h2, h3⟩, st⟩ := vx_callSW X hx (hh := hh) (bytes := bytes) (maxL := maxL) (ret := ret) ho hl hstt hini hcode hy hK hg (hsize.trans hml.symm) (argsL := As) (rest := rest) (fun sig h => hn.trans (hlen sig h)) hstack hW (by rw [hb]; exact hdg)
    (fun vm₁ hW₁ => ⟨hf.1, hf.2, hp.2 (T.setVm vm₁) hT hW₁⟩)
  dsimp only [Pt.U, Pt.locs, Pt.cells, Pt.slots] at X' e1 e2 h1 h2 h3 st
  subst h1; subst h2; subst h3
  exact ⟨v, (T.setVm vm₁).calling g' mk As.toArray, t, U', L, hT, X', hL, e1, e2, hq, st⟩
/-- not caught here, past rows that name other classes: it goes on to the caller -/
theorem vx_outP {p : Program} {l : Launch} {e : Env} {R : Room} {s : State} {m : MethodId} {args : Array Value} {below : List Frame} {meth : Method} {c : Code} {H : Heap} {locs : List Loc} {cells slots : Nat} {free : Addr → Prop} {ls : Array Slot} {rest : List Value} {Qc : Array Value → State → Outcome → State → Prop} {XC : String → State → State → Prop}
    {pc : Nat} {own E : String} {ce : Cell} {q : Addr} {mc ms : Nat} (hown : s.vm.findClass own = some m.cls) (hlocks : meth.locks = false)
    (hpass : ∀ z ∈ c.exceptionTable.toList, covers z pc = false ∨ (z.catchType ≠ 0 ∧ ∃ nm : String, (Cond.classLink own z.catchType nm).before args s = true ∧ va_Nc E nm s)) (hcell : H[q]? = some ce) (hv : ce.vm = .none) (hcl : s.vm.findClass E = some ce.cls)
    (hx : ∀ t : State, t.heap = H → s.vm.Alike t.vm → XC E s t) (hf : ∀ z ∈ locs, free z.base) (hc : cells ≤ mc) (hs : slots ≤ ms) :
    vx_W p l e R s m args below meth c H locs cells slots (vx_MQ below Qc XC args s mc ms free) (F0 m pc ls rest) q := by
  intro T hT X
  have hpl : e.platform.magicAccessors = ({} : Platform).magicAccessors := by rw [X.admits.platform]
  obtain ⟨vm', hW', X', st⟩ := X.outThrough hlocks q (g := F0 m pc ls rest) rfl rfl rfl (cell := ce) (by rw [hT]; exact hcell) (by rw [hv]; rfl)
    (by obtain ⟨k9, h9, -⟩ := Vm.findClass_spec hcl; exact ⟨k9, h9⟩) (fun z hz => by
      rcases hpass z hz with h | ⟨hz0, nm, hl1, hn1⟩
      · exact Or.inl h
      · obtain ⟨c6, hc6, hcl6⟩ := Cond.classLink_spec hown hl1 e.platform hpl
        obtain ⟨a8, b8, h1, h2, h3⟩ := hn1
        cases Option.some.inj (h1.symm.trans hcl)
        cases Option.some.inj (h2.symm.trans hc6)
        exact Or.inr ⟨hz0, _, hcl6, h3⟩)
  obtain ⟨g₀, hfr⟩ := X'.frames_eq
  have hcell9 : ((T.setVm vm').setFrames (.throwing q :: below)).heap[q]? = some ce := by
    show T.heap[q]? = some ce
    rw [hT]; exact hcell
  have hend : Ended ((T.setVm vm').setFrames (.throwing q :: below)) below (.threw q) := State.frames_setFrames _ (State.cur_lt_of_frames hfr)
  refine ⟨(T.setVm vm').setFrames (.throwing q :: below), ?_, .threw q, X'.here.running, hend, Or.inr ⟨q, rfl, E, ce, locs, hx _ hT (X'.ends _).1.alike, hcell9, hv, hcl, (X'.ends _).1, (X'.ends _).2.mono hc hs, hf⟩⟩
  rw [X.pushThrowing_eq]
  exact st
/-- a thing of a world lies in the heap -/
theorem vx_lt {D : va_G} {cl : List vw_C} {ws : va_W} {H1 : Heap} (h : va_P D cl ws H1) {k : Nat} {q : Nat × va_E} (hk : ws[k]? = some q) : q.1 < H1.size := (h k q hk).lt
end VXS
/-! ===== END ===== -/
/-! ===== BEGIN methods with a table of their own: called by a name, returning or throwing ===== -/
section VXH
/-! vx_backW, vx_callVX, vx_callSX, vx_callVW, vx_runVW, vx_runVX, vx_runSX, vx_ofWH follow the same proofs as their sisters above (Free/Laws.lean, Shelf42/LK1.lean); vx_outP calls Shelf42/NT130.lean (outThrough). -/
section
variable {l : Launch} {R : Room} {p : Program} {e : Env} {below : List Frame} {s : State} {sargs : Array Value} {y : MethodName} {len W9 : Nat}
theorem vx_backW {ws : List Cond} {rm : Room} {Pc : Array Value → State → Prop} {Qc : Array Value → State → Outcome → State → Prop} {XC : String → State → State → Prop} {mc ms : Nat} {free : Addr → Prop} {bytes : ByteArray} {maxL : Nat} {ret : Option FieldType} {hh : List (Nat × Nat × Nat × Nat)}
    (hM : vx_Met l y ws rm Pc Qc XC mc ms free) (hblind : FrameBlind Pc) (hrc : rm.cells = mc) (hrs : rm.slots = ms)
    (hframes : rm.frames + 1 ≤ R.frames) (hlocals : W9 + (maxL + 11) + rm.locals ≤ R.locals)
    (hws : ∀ w ∈ ws, ∀ a' U, s.WarmedH U.vm → w.before a' U = true) (hcode : Cond.codeWith y bytes maxL ret hh ∈ ws) (hinit : ∀ a' U, s.WarmedH U.vm → (Cond.initialized y.cls).before a' U = true) :
    vx_Back l R p e below s sargs y len W9 (PreOf R mc ms Pc) (PostOf Qc mc ms free) (vx_Post XC mc ms free) := by
  intro m meth c A g ig mk a X hg hsize hdg hW hn hp
  have h1 : (headSpec ws rm).pre.before a A.U = true := atoms_intro fun w hw => hws w hw _ _ X.warmed
  have h2 : (Cond.codeWith y bytes maxL ret hh).before a A.U = true := hws _ hcode _ _ X.warmed
  have h3 : (Cond.initialized y.cls).before a A.U = true := hinit _ _ X.warmed
  have h4 : A.cells + (headSpec ws rm).room.cells ≤ R.cells := by rw [show (headSpec ws rm).room.cells = mc from hrc]; exact hp.1
  have h5 : A.slots + (headSpec ws rm).room.slots ≤ R.slots := by rw [show (headSpec ws rm).room.slots = ms from hrs]; exact hp.2.1
  have hPc : Pc a (A.U.calling g mk a) := hblind _ _ _ _ hp.2.2
  obtain ⟨U, Ls, c0, s0⟩ := A
  dsimp only [Pt.U, Pt.locs, Pt.cells, Pt.slots] at h1 h2 h3 h4 h5 X hn hPc ⊢
  obtain ⟨m9, methY, cY, hn9, hmY, hcY, -, hlY, -⟩ := Cond.codeWith_spec h2
  cases Option.some.inj (hn9.symm.trans hn)
  obtain ⟨kY, hkY, -⟩ := className_of_methodNamed hn
  have hinitY : kY.init = .initialized := Cond.initialized_spec (findClass_of_methodNamed hn) hkY h3
  have h : At U g.method c below := by rw [hg]; exact X.here
  have hlocals9 : W9 + (maxL + 11) + (headSpec ws rm).room.locals ≤ R.locals := hlocals
  have happ : (headSpec ws rm).appliesLoose y e.platform (U.calling g mk a) = true :=
    Spec.appliesLoose_calling (g := g) h hdg hn hkY hinitY
      (X.room_calling (g := g) (R' := (headSpec ws rm).room) hsize hmY hcY hframes (by rw [hlY]; omega) h4 h5) h1
  obtain ⟨mid, hmid⟩ := h.above
  have hfr : (U.setTop g).frames = (.java g :: mid) ++ below := by rw [State.frames_setTop' g h.top, hmid]; rfl
  obtain ⟨o, s₂, hsteps, -, hend, hq⟩ := Steps.callFree hM p X.admits X.cas X.clock (acts := []) hfr happ hPc trivial
  have hq' : vx_Q Qc XC mc ms free a (U.calling g mk a) o s₂ := hq
  rw [State.frames_setTop' g h.top] at hend
  obtain ⟨g₀, hg0⟩ := Option.isSome_iff_exists.mp h.top
  obtain ⟨r, hr⟩ := State.topJava?_eq_some.mp hg0
  have hr' : (({ U with heap := s₂.heap, slotsUsed := s₂.slotsUsed } : State).setVm s₂.vm).frames = .java g₀ :: r := hr
  rcases hq' with ⟨hqc, L, hfe, hL⟩ | ⟨q, rfl, E, ce, L, hx, hce, hcv, hcl, hW₂, hsm, hL⟩
  · obtain ⟨⟨v, rfl⟩, hW₂, e2, q2, q3, q4, q5, q6⟩ := id hfe
    have e3 : s₂ = ({ (U.calling g mk a).setFrames s₂.frames with heap := s₂.heap, slotsUsed := s₂.slotsUsed } : State).setVm s₂.vm := by
      have : s₂ = ({ s₂ with vm := (U.calling g mk a).vm } : State).setVm s₂.vm := rfl
      rw [e2] at this
      exact this
    obtain ⟨c₂, i₂, len₂, hc₂, hd₂, hf₂⟩ := hend
    have hW' : U.WarmedH s₂.vm := hW₂
    have hcc : c₂ = c := by
      have h1 : s₂.code? g.method = U.code? g.method := by
        rw [State.code?_eq, State.code?_eq, hW'.alike.method?]
      exact Option.some.inj (hc₂.symm.trans (h1.trans h.code))
    subst hcc
    have hlen : len₂ = len := by rw [hdg] at hd₂; cases hd₂; rfl
    subst hlen
    have hs₂ : s₂ = (({ U with heap := s₂.heap, slotsUsed := s₂.slotsUsed } : State).setVm s₂.vm).setTop { g with pc := g.pc + len₂, stack := v.toList ++ g.stack } := by
      refine e3.trans ?_
      rw [hf₂, State.calling_eq h.top, State.setFrames_setFrames, State.setTop_of_frames _ hr', hr]
      rfl
    have hsame : U.sameButNew ({ U with heap := s₂.heap, slotsUsed := s₂.slotsUsed } : State) L mc ms := by
      refine ⟨?_, q2, q3, q4, q5, q6⟩
      obtain ⟨t, ht, -⟩ := State.frames_cons hr
      show ({ U with heap := s₂.heap, slotsUsed := s₂.slotsUsed } : State) = { U.setFrames U.frames with heap := s₂.heap, slotsUsed := s₂.slotsUsed }
      rw [State.setFrames_self ht]
    subst hg
    refine Or.inl ⟨v, ⟨(({ U with heap := s₂.heap, slotsUsed := s₂.slotsUsed } : State).setVm s₂.vm), Ls ++ L, c0 + mc, s0 + ms⟩,
      ⟨X.admits, X.cas, X.clock, X.frames, X.room, X.hears, X.method, X.code, (X.here.setHeapUsed s₂.heap s₂.slotsUsed).setVm hW'.alike, X.tail, State.WarmedH.trans X.warmed hW', X.limits, X.bytes, X.same.trans (hsame.setVm s.vm)⟩,
      ⟨g, mk, s₂, L, rfl, rfl, hqc, rfl, hL, rfl, rfl⟩, ?_⟩
    show Steps p.tables e below _ ((({ U with heap := s₂.heap, slotsUsed := s₂.slotsUsed } : State).setVm s₂.vm).setTop { g with pc := g.pc + len₂, stack := v.toList ++ g.stack })
    rw [← hs₂]
    exact hsteps
  · obtain ⟨e2, q2, q3, q4, q5, q6⟩ := id hsm
    have e3 : s₂ = ({ (U.calling g mk a).setFrames s₂.frames with heap := s₂.heap, slotsUsed := s₂.slotsUsed } : State).setVm s₂.vm := by
      have : s₂ = ({ s₂ with vm := (U.calling g mk a).vm } : State).setVm s₂.vm := rfl
      rw [e2] at this
      exact this
    have hf₂ : s₂.frames = .throwing q :: .java g :: U.frames.tail := hend
    have hW' : U.WarmedH s₂.vm := hW₂
    have hs₂ : s₂ = ((({ U with heap := s₂.heap, slotsUsed := s₂.slotsUsed } : State).setVm s₂.vm).setTop g).pushFrame (.throwing q) := by
      refine e3.trans ?_
      rw [hf₂, State.calling_eq h.top, State.setFrames_setFrames, State.pushFrame, State.frames_setTop _ hr', State.setTop_of_frames _ hr', State.setFrames_setFrames, hr]
      rfl
    have hsame : U.sameButNew ({ U with heap := s₂.heap, slotsUsed := s₂.slotsUsed } : State) L mc ms := by
      refine ⟨?_, q2, q3, q4, q5, q6⟩
      obtain ⟨t, ht, -⟩ := State.frames_cons hr
      show ({ U with heap := s₂.heap, slotsUsed := s₂.slotsUsed } : State) = { U.setFrames U.frames with heap := s₂.heap, slotsUsed := s₂.slotsUsed }
      rw [State.setFrames_self ht]
    subst hg
    refine Or.inr ⟨q, ⟨(({ U with heap := s₂.heap, slotsUsed := s₂.slotsUsed } : State).setVm s₂.vm), Ls ++ L, c0 + mc, s0 + ms⟩,
      ⟨X.admits, X.cas, X.clock, X.frames, X.room, X.hears, X.method, X.code, (X.here.setHeapUsed s₂.heap s₂.slotsUsed).setVm hW'.alike, X.tail, State.WarmedH.trans X.warmed hW', X.limits, X.bytes, X.same.trans (hsame.setVm s.vm)⟩,
      ⟨g, mk, s₂, L, E, ce, rfl, rfl, hx, hce, hcv, hcl, rfl, hL, rfl, rfl⟩, ?_⟩
    show Steps p.tables e below _ (((({ U with heap := s₂.heap, slotsUsed := s₂.slotsUsed } : State).setVm s₂.vm).setTop g).pushFrame (.throwing q))
    rw [← hs₂]
    exact hsteps
end
variable {p : Program} {l : Launch} {e : Env} {R : Room} {s : State} {m : MethodId} {args : Array Value} {below : List Frame} {meth : Method} {c : Code} {T : State} {H : Heap} {locs : List Loc} {cells slots : Nat}
theorem vx_callVX (X : Stand p l e R s m args below meth c T locs cells slots) (hexec : p.tables.exec = Jvm.exec) {own C : String} {index : Nat} {y : MethodName} {bytes : ByteArray} {maxL : Nat} {ret : Option FieldType} {hh : List (Nat × Nat × Nat × Nat)}
    (hown : s.vm.findClass own = some m.cls) (hlink : (Cond.methodLink own index y).before args s = true) (hinst : (Cond.instanceMethod y).before args s = true) (hsel : (Cond.selects C y y).before args s = true)
    (hcode : (Cond.codeWith y bytes maxL ret hh).before args s = true) (hy : y.cls ≠ "java/lang/invoke/MethodHandle" ∧ y.cls ≠ "java/lang/invoke/VarHandle")
    {W9 : Nat} {Pre : Pt → Array Value → Prop} {Post : Pt → Array Value → Option Value → Pt → Prop} {PostX : Pt → Array Value → Addr → Pt → Prop} (hK : vx_Back l R p e below s args y 3 W9 Pre Post PostX)
    {b : Addr} {cellB : Cell} (hcell : T.heap[b]? = some cellB) (hobj : cellB.vm.isStatics = false) (hcls : s.vm.findClass C = some cellB.cls)
    {g : JFrame} (hg : g.method = m) (hsize : g.locals.size = c.maxLocals) {argsL rest : List Value} (hlen : ∀ sig, parseMethodDescriptor y.desc = some sig → argsL.length = sig.parameters.length)
    (hstack : g.stack = argsL.reverse ++ .ref b :: rest) (hW : 2 * g.monitorRoom + (rest.map fun v => v.category).sum ≤ W9) (hdg : decode c.code g.pc = .ok (.invokevirtual index, 3))
    (hpre : ∀ vm₁, s.WarmedH vm₁ → Pre ⟨T.setVm vm₁, locs, cells, slots⟩ (Value.ref b :: argsL).toArray) :
    (∃ (v : Option Value) (vm₁ : Vm) (B : Pt), s.WarmedH vm₁ ∧ Stand p l e R s m args below meth c B.U B.locs B.cells B.slots ∧ Post ⟨T.setVm vm₁, locs, cells, slots⟩ (Value.ref b :: argsL).toArray v B ∧
      ∀ target, Steps p.tables e below (B.U.setTop { g with pc := g.pc + 3, stack := v.toList ++ rest }) target → Steps p.tables e below (T.setTop g) target) ∨
    (∃ (q : Addr) (vm₁ : Vm) (B : Pt), s.WarmedH vm₁ ∧ Stand p l e R s m args below meth c B.U B.locs B.cells B.slots ∧ PostX ⟨T.setVm vm₁, locs, cells, slots⟩ (Value.ref b :: argsL).toArray q B ∧
      Steps p.tables e below (T.setTop g) ((B.U.setTop { g with stack := rest }).pushFrame (.throwing q))) := by
  obtain ⟨mk, methM, hnamed, hmethM, hstM, habM⟩ := Cond.instanceMethod_spec hinst
  obtain ⟨m8, methM', cM, hn8, hmethM', -, -, -, -, -, -, hsigM⟩ := Cond.codeWith_spec hcode
  cases Option.some.inj (hn8.symm.trans hnamed)
  cases hmethM.symm.trans hmethM'
  obtain ⟨c2, r2, m2, q1, q2, q3, q4, kP, hkP, hkPi⟩ := Cond.selects_spec hsel
  cases hcls.symm.trans q1
  cases (State.methodFound?_of_named hnamed hy).symm.trans q2
  cases hnamed.symm.trans q3
  have hselP : selectMethod e.platform s.vm cellB.cls mk = .method mk := by rw [Launch.admits_selectMethod X.admits]; exact q4
  obtain ⟨vm₁, X₁, hstep₁⟩ := X.invokevirtual hexec hown hlink hnamed hmethM hstM hkP hkPi hy (a := b) (cell := cellB) hcell
    (fun z h => by rw [h] at hobj; cases hobj) hselP hmethM habM hkP hkPi (g := g) hg (argsL := argsL) (rest := rest) (hlen _ hsigM) hstack hdg
  rcases hK m meth c ⟨T.setVm vm₁, locs, cells, slots⟩ { g with stack := rest } (.invokevirtual index) mk (Value.ref b :: argsL).toArray X₁ hg hsize hdg hW (X₁.named hnamed) (hpre vm₁ X₁.warmed) with ⟨v, B, X', hpost, hsteps⟩ | ⟨q, B, X', hpost, hsteps⟩
  · exact Or.inl ⟨v, vm₁, B, X₁.warmed, X', hpost, fun target h => hstep₁ _ fun acts => by rw [doInvoke_state]; exact hsteps.trans h⟩
  · exact Or.inr ⟨q, vm₁, B, X₁.warmed, X', hpost, hstep₁ _ fun acts => by rw [doInvoke_state]; exact hsteps⟩
theorem vx_callSX (X : Stand p l e R s m args below meth c T locs cells slots) (hexec : p.tables.exec = Jvm.exec) {own : String} {index : Nat} {y : MethodName} {bytes : ByteArray} {maxL : Nat} {ret : Option FieldType} {hh : List (Nat × Nat × Nat × Nat)}
    (hown : s.vm.findClass own = some m.cls) (hlink : (Cond.methodLink own index y).before args s = true) (hstat : (Cond.static y).before args s = true) (hinit : (Cond.initialized y.cls).before args s = true)
    (hcode : (Cond.codeWith y bytes maxL ret hh).before args s = true) (hy : y.cls ≠ "java/lang/invoke/MethodHandle" ∧ y.cls ≠ "java/lang/invoke/VarHandle")
    {W9 : Nat} {Pre : Pt → Array Value → Prop} {Post : Pt → Array Value → Option Value → Pt → Prop} {PostX : Pt → Array Value → Addr → Pt → Prop} (hK : vx_Back l R p e below s args y 3 W9 Pre Post PostX)
    {g : JFrame} (hg : g.method = m) (hsize : g.locals.size = c.maxLocals) {argsL rest : List Value} (hlen : ∀ sig, parseMethodDescriptor y.desc = some sig → argsL.length = sig.parameters.length)
    (hstack : g.stack = argsL.reverse ++ rest) (hW : 2 * g.monitorRoom + (rest.map fun v => v.category).sum ≤ W9) (hdg : decode c.code g.pc = .ok (.invokestatic index, 3))
    (hpre : ∀ vm₁, s.WarmedH vm₁ → Pre ⟨T.setVm vm₁, locs, cells, slots⟩ argsL.toArray) :
    (∃ (v : Option Value) (vm₁ : Vm) (B : Pt), s.WarmedH vm₁ ∧ Stand p l e R s m args below meth c B.U B.locs B.cells B.slots ∧ Post ⟨T.setVm vm₁, locs, cells, slots⟩ argsL.toArray v B ∧
      ∀ target, Steps p.tables e below (B.U.setTop { g with pc := g.pc + 3, stack := v.toList ++ rest }) target → Steps p.tables e below (T.setTop g) target) ∨
    (∃ (q : Addr) (vm₁ : Vm) (B : Pt), s.WarmedH vm₁ ∧ Stand p l e R s m args below meth c B.U B.locs B.cells B.slots ∧ PostX ⟨T.setVm vm₁, locs, cells, slots⟩ argsL.toArray q B ∧
      Steps p.tables e below (T.setTop g) ((B.U.setTop { g with stack := rest }).pushFrame (.throwing q))) := by
  obtain ⟨mk, methM, cM, hnamed, hmethM, -, -, -, -, -, -, hsigM⟩ := Cond.codeWith_spec hcode
  have hstatic : methM.isStatic = true := Cond.static_spec hnamed hmethM hstat
  obtain ⟨kP, hkP, -⟩ := className_of_methodNamed hnamed
  have hinitP : kP.init = .initialized := Cond.initialized_spec (findClass_of_methodNamed hnamed) hkP hinit
  obtain ⟨vm₁, X₁, hstep₁⟩ := X.invokestatic hexec hown hlink hnamed hmethM hstatic hkP hinitP hy (g := g) hg (argsL := argsL) (rest := rest) (hlen _ hsigM) hstack hdg
  rcases hK m meth c ⟨T.setVm vm₁, locs, cells, slots⟩ { g with stack := rest } (.invokestatic index) mk argsL.toArray X₁ hg hsize hdg hW (X₁.named hnamed) (hpre vm₁ X₁.warmed) with ⟨v, B, X', hpost, hsteps⟩ | ⟨q, B, X', hpost, hsteps⟩
  · exact Or.inl ⟨v, vm₁, B, X₁.warmed, X', hpost, fun target h => hstep₁ _ fun acts => by rw [doInvoke_state]; exact hsteps.trans h⟩
  · exact Or.inr ⟨q, vm₁, B, X₁.warmed, X', hpost, hstep₁ _ fun acts => by rw [doInvoke_state]; exact hsteps⟩
theorem vx_callVW (X : Stand p l e R s m args below meth c T locs cells slots) (hexec : p.tables.exec = Jvm.exec) {own C : String} {index : Nat} {y : MethodName} {bytes : ByteArray} {maxL : Nat} {ret : Option FieldType} {hh : List (Nat × Nat × Nat × Nat)}
    (hown : s.vm.findClass own = some m.cls) (hlink : (Cond.methodLink own index y).before args s = true) (hinst : (Cond.instanceMethod y).before args s = true) (hsel : (Cond.selects C y y).before args s = true)
    (hcode : (Cond.codeWith y bytes maxL ret hh).before args s = true) (hy : y.cls ≠ "java/lang/invoke/MethodHandle" ∧ y.cls ≠ "java/lang/invoke/VarHandle")
    {W9 : Nat} {Pre : Pt → Array Value → Prop} {Post : Pt → Array Value → Option Value → Pt → Prop} (hK : Back l R p e below s args y 3 W9 Pre Post)
    {b : Addr} {cellB : Cell} (hcell : T.heap[b]? = some cellB) (hobj : cellB.vm.isStatics = false) (hcls : s.vm.findClass C = some cellB.cls)
    {g : JFrame} (hg : g.method = m) (hsize : g.locals.size = c.maxLocals) {argsL rest : List Value} (hlen : ∀ sig, parseMethodDescriptor y.desc = some sig → argsL.length = sig.parameters.length)
    (hstack : g.stack = argsL.reverse ++ .ref b :: rest) (hW : 2 * g.monitorRoom + (rest.map fun v => v.category).sum ≤ W9) (hdg : decode c.code g.pc = .ok (.invokevirtual index, 3))
    (hpre : ∀ vm₁, s.WarmedH vm₁ → Pre ⟨T.setVm vm₁, locs, cells, slots⟩ (Value.ref b :: argsL).toArray) :
    ∃ (v : Option Value) (vm₁ : Vm) (B : Pt), s.WarmedH vm₁ ∧ Stand p l e R s m args below meth c B.U B.locs B.cells B.slots ∧ Post ⟨T.setVm vm₁, locs, cells, slots⟩ (Value.ref b :: argsL).toArray v B ∧
      ∀ target, Steps p.tables e below (B.U.setTop { g with pc := g.pc + 3, stack := v.toList ++ rest }) target → Steps p.tables e below (T.setTop g) target := by
  obtain ⟨mk, methM, hnamed, hmethM, hstM, habM⟩ := Cond.instanceMethod_spec hinst
  obtain ⟨m8, methM', cM, hn8, hmethM', -, -, -, -, -, -, hsigM⟩ := Cond.codeWith_spec hcode
  cases Option.some.inj (hn8.symm.trans hnamed)
  cases hmethM.symm.trans hmethM'
  obtain ⟨c2, r2, m2, q1, q2, q3, q4, kP, hkP, hkPi⟩ := Cond.selects_spec hsel
  cases hcls.symm.trans q1
  cases (State.methodFound?_of_named hnamed hy).symm.trans q2
  cases hnamed.symm.trans q3
  have hselP : selectMethod e.platform s.vm cellB.cls mk = .method mk := by rw [Launch.admits_selectMethod X.admits]; exact q4
  obtain ⟨vm₁, X₁, hstep₁⟩ := X.invokevirtual hexec hown hlink hnamed hmethM hstM hkP hkPi hy (a := b) (cell := cellB) hcell
    (fun z h => by rw [h] at hobj; cases hobj) hselP hmethM habM hkP hkPi (g := g) hg (argsL := argsL) (rest := rest) (hlen _ hsigM) hstack hdg
  obtain ⟨v, B, X', hpost, hsteps⟩ := hK m meth c ⟨T.setVm vm₁, locs, cells, slots⟩ { g with stack := rest } (.invokevirtual index) mk (Value.ref b :: argsL).toArray X₁ hg hsize hdg hW (X₁.named hnamed) (hpre vm₁ X₁.warmed)
  exact ⟨v, vm₁, B, X₁.warmed, X', hpost, fun target h => hstep₁ _ fun acts => by rw [doInvoke_state]; exact hsteps.trans h⟩
abbrev vx_CVW (R : Room) (s : State) (args : Array Value) (own C : String) (index : Nat) (y : MethodName) (bytes : ByteArray) (maxL : Nat) (ret : Option FieldType) (hh : List (Nat × Nat × Nat × Nat)) (ws : List Cond) (rm : Room) (mc ms n : Nat) : Prop :=
  (rm.cells = mc ∧ rm.slots = ms ∧ rm.frames + 1 ≤ R.frames ∧ 8 + (maxL + 11) + rm.locals ≤ R.locals ∧ (∀ w ∈ ws, ∀ (a' : Array Value) (U : State), s.WarmedH U.vm → w.before a' U = true) ∧ Cond.codeWith y bytes maxL ret hh ∈ ws) ∧
  (Cond.codeWith y bytes maxL ret hh).before args s = true ∧ (Cond.initialized y.cls).before args s = true ∧ (y.cls ≠ "java/lang/invoke/MethodHandle" ∧ y.cls ≠ "java/lang/invoke/VarHandle") ∧
  (∀ sig, parseMethodDescriptor y.desc = some sig → n = sig.parameters.length) ∧ (Cond.methodLink own index y).before args s = true ∧ (Cond.instanceMethod y).before args s = true ∧ (Cond.selects C y y).before args s = true
theorem vx_cwVW {own C : String} {index maxL mc ms : Nat} {y : MethodName} {bytes : ByteArray} {ret : Option FieldType} {hh : List (Nat × Nat × Nat × Nat)} {Ts ws ws' : List Cond} {rm : Room} (n : Nat) (ht : ∀ w ∈ Ts, w.before args s = true) (hT : GoodIn Ts (wsV own index C y ws)) (hw : ws = Cond.codeWith y bytes maxL ret hh :: ws') (hrc : rm.cells = mc) (hrs : rm.slots = ms)
    (hd : y.cls = C ∧ y.cls ≠ "java/lang/invoke/MethodHandle" ∧ y.cls ≠ "java/lang/invoke/VarHandle" ∧ (parseMethodDescriptor y.desc).map (fun d => d.parameters.length) = some n) (hR : rm.frames + 1 ≤ R.frames ∧ 8 + (maxL + 11) + rm.locals ≤ R.locals) :
    vx_CVW R s args own C index y bytes maxL ret hh ws rm mc ms n := by
  obtain ⟨hC, hd⟩ := hd
  subst hC
  have ok : ∀ w ∈ wsV own index y.cls y ws, w.before args s = true := fun w h => ht w (hT w h).1
  have hG : GoodIn Ts ws := fun w h => hT w (by unfold wsV; exact List.mem_append_right _ h)
  have hc : Cond.codeWith y bytes maxL ret hh ∈ ws := by rw [hw]; exact List.mem_cons_self
  refine ⟨⟨hrc, hrs, hR.1, hR.2, pay_in ht hG, hc⟩, ht _ (hG _ hc).1, ok _ (by simp [wsV]), ⟨hd.1, hd.2.1⟩, fun sig h => ?_, ok _ (by simp [wsV]), ok _ (by simp [wsV]), ok _ (by simp [wsV])⟩
  have h2 := hd.2.2
  rw [h] at h2
  exact (Option.some.inj h2).symm
theorem vx_runVW {y : MethodName} {bytes cc : ByteArray} {maxL nL mc ms n index : Nat} {ret : Option FieldType} {hh : List (Nat × Nat × Nat × Nat)} {ws : List Cond} {rm : Room} {Pc : Array Value → State → Prop} {Qc : Array Value → State → Outcome → State → Prop} {free : Addr → Prop} {Ts : List Cond} {own C : String} {b : Addr} {As rest : List Value} {g : JFrame}
    (S : CallFix p m c cc nL s args Ts own) (hM : Met l y ws rm Pc Qc mc ms free) (cw : vx_CVW R s args own C index y bytes maxL ret hh ws rm mc ms n) (hp : PreV s H C b Pc As)
    (hg : g.method = m) (hn : As.length = n) (hsize : g.locals.size = nL) (hstack : g.stack = As.reverse ++ .ref b :: rest) (hW : 2 * g.monitorRoom + (rest.map fun v => v.category).sum ≤ 8) (hdg : decode cc g.pc = .ok (.invokevirtual index, 3)) (hf : cells + mc ≤ R.cells ∧ slots + ms ≤ R.slots) :
    va_Run p l e R s m args below meth c H locs cells slots mc ms g rest (Qc (Value.ref b :: As).toArray) free := by
  obtain ⟨⟨hrc, hrs, hfr, hlo, hws, hcw⟩, hcode, hini, hy, hlen, hl, hin, hse⟩ := cw
  have hK : Back l R p e below s args y 3 8 (PreOf R mc ms Pc) (PostOf Qc mc ms free) := va_backW (hh := hh) (bytes := bytes) (maxL := maxL) (ret := ret) hM hp.1 hrc hrs hfr hlo hws hcw (fun a' U hW => word_at hW (Or.inl (by first | rfl | simp [Cond.onTables, Cond.keeps, Cond.steady])) hini)
  obtain ⟨hx, hb, hml, ho, -⟩ := S
  obtain ⟨-, ⟨cellB, hcB, hoB, hclB⟩, hPc⟩ := hp
  intro T hT X
  obtain ⟨v, vm₁, ⟨U', l2, c2, s2⟩, hW₁, X', ⟨g', mk, t, L, e1, e2, hq, h1, hL, h2, h3⟩, st⟩ := vx_callVW X hx (C := C) (hh := hh) (bytes := bytes) (maxL := maxL) (ret := ret) ho hl hin hse hcode hy hK (by rw [hT]; exact hcB) hoB hclB hg (hsize.trans hml.symm) (argsL := As) (rest := rest) (fun sig h => hn.trans (hlen sig h)) hstack hW (by rw [hb]; exact hdg)
    (fun vm₁ hW₁ => ⟨hf.1, hf.2, hPc (T.setVm vm₁) hT hW₁⟩)
  dsimp only [Pt.U, Pt.locs, Pt.cells, Pt.slots] at X' e1 e2 h1 h2 h3 st
  subst h1; subst h2; subst h3
  exact ⟨v, (T.setVm vm₁).calling g' mk (Value.ref b :: As).toArray, t, U', L, hT, X', hL, e1, e2, hq, st⟩
section
variable {y : MethodName} {bytes cc : ByteArray} {maxL nL mc ms n index : Nat} {ret : Option FieldType} {ws : List Cond} {rm : Room} {Pc : Array Value → State → Prop} {Qc : Array Value → State → Outcome → State → Prop} {XC : String → State → State → Prop} {free : Addr → Prop} {Ts : List Cond} {own C : String} {b : Addr} {As rest : List Value} {g : JFrame}
theorem vx_runVX {hh : List (Nat × Nat × Nat × Nat)} (S : CallFix p m c cc nL s args Ts own) (hM : vx_Met l y ws rm Pc Qc XC mc ms free) (cw : vx_CVW R s args own C index y bytes maxL ret hh ws rm mc ms n) (hp : PreV s H C b Pc As)
    (hg : g.method = m) (hn : As.length = n) (hsize : g.locals.size = nL) (hstack : g.stack = As.reverse ++ .ref b :: rest) (hW : 2 * g.monitorRoom + (rest.map fun v => v.category).sum ≤ 8) (hdg : decode cc g.pc = .ok (.invokevirtual index, 3)) (hf : cells + mc ≤ R.cells ∧ slots + ms ≤ R.slots) :
    vx_Run p l e R s m args below meth c H locs cells slots mc ms g rest (Qc (Value.ref b :: As).toArray) XC free := by
  obtain ⟨⟨hrc, hrs, hfr, hlo, hws, hcw⟩, hcode, hini, hy, hlen, hl, hin, hse⟩ := cw
  have hK : vx_Back l R p e below s args y 3 8 (PreOf R mc ms Pc) (PostOf Qc mc ms free) (vx_Post XC mc ms free) := vx_backW (hh := hh) (bytes := bytes) (maxL := maxL) (ret := ret) hM hp.1 hrc hrs hfr hlo hws hcw (fun a' U hW => word_at hW (Or.inl (by first | rfl | simp [Cond.onTables, Cond.keeps, Cond.steady])) hini)
  obtain ⟨hx, hb, hml, ho, -⟩ := S
  obtain ⟨-, ⟨cellB, hcB, hoB, hclB⟩, hPc⟩ := hp
  intro T hT X
  rcases vx_callVX X hx (C := C) (hh := hh) (bytes := bytes) (maxL := maxL) (ret := ret) ho hl hin hse hcode hy hK (by rw [hT]; exact hcB) hoB hclB hg (hsize.trans hml.symm) (argsL := As) (rest := rest) (fun sig h => hn.trans (hlen sig h)) hstack hW (by rw [hb]; exact hdg)
    (fun vm₁ hW₁ => ⟨hf.1, hf.2, hPc (T.setVm vm₁) hT hW₁⟩) with ⟨v, vm₁, ⟨U', l2, c2, s2⟩, hW₁, X', ⟨g', mk, t, L, e1, e2, hq, h1, hL, h2, h3⟩, st⟩ | ⟨q, vm₁, ⟨U', l2, c2, s2⟩, hW₁, X', ⟨g', mk, t, L, E, ce, e1, e2, hq, hce, hcv, hcl, h1, hL, h2, h3⟩, st⟩
  · dsimp only [Pt.U, Pt.locs, Pt.cells, Pt.slots] at X' e1 e2 h1 h2 h3 st
    subst h1; subst h2; subst h3
    exact Or.inl ⟨v, (T.setVm vm₁).calling g' mk (Value.ref b :: As).toArray, t, U', L, hT, X', hL, e1, e2, hq, st⟩
  · dsimp only [Pt.U, Pt.locs, Pt.cells, Pt.slots] at X' e1 e2 h1 h2 h3 st hcl
    subst h1; subst h2; subst h3
    exact Or.inr ⟨q, (T.setVm vm₁).calling g' mk (Value.ref b :: As).toArray, t, U', L, E, ce, hT, X', hL, e1, e2, hq, hce, hcv, vx_cls hW₁ hcl, st⟩
theorem vx_runSX {hh : List (Nat × Nat × Nat × Nat)} (S : CallFix p m c cc nL s args Ts own) (hM : vx_Met l y ws rm Pc Qc XC mc ms free) (cw : vx_CSW R s args own index y bytes maxL ret hh ws rm mc ms n) (hp : PreS s H Pc As)
    (hg : g.method = m) (hn : As.length = n) (hsize : g.locals.size = nL) (hstack : g.stack = As.reverse ++ rest) (hW : 2 * g.monitorRoom + (rest.map fun v => v.category).sum ≤ 8) (hdg : decode cc g.pc = .ok (.invokestatic index, 3)) (hf : cells + mc ≤ R.cells ∧ slots + ms ≤ R.slots) :
    vx_Run p l e R s m args below meth c H locs cells slots mc ms g rest (Qc As.toArray) XC free := by
  obtain ⟨⟨hrc, hrs, hfr, hlo, hws, hcw⟩, hcode, hini, hy, hlen, hl, hstt⟩ := cw
  have hK : vx_Back l R p e below s args y 3 8 (PreOf R mc ms Pc) (PostOf Qc mc ms free) (vx_Post XC mc ms free) := vx_backW (hh := hh) (bytes := bytes) (maxL := maxL) (ret := ret) hM hp.1 hrc hrs hfr hlo hws hcw (fun a' U hW => word_at hW (Or.inl (by first | rfl | simp [Cond.onTables, Cond.keeps, Cond.steady])) hini)
  obtain ⟨hx, hb, hml, ho, -⟩ := S
  intro T hT X
  rcases vx_callSX X hx (hh := hh) (bytes := bytes) (maxL := maxL) (ret := ret) ho hl hstt hini hcode hy hK hg (hsize.trans hml.symm) (argsL := As) (rest := rest) (fun sig h => hn.trans (hlen sig h)) hstack hW (by rw [hb]; exact hdg)
    (fun vm₁ hW₁ => ⟨hf.1, hf.2, hp.2 (T.setVm vm₁) hT hW₁⟩) with ⟨v, vm₁, ⟨U', l2, c2, s2⟩, hW₁, X', ⟨g', mk, t, L, e1, e2, hq, h1, hL, h2, h3⟩, st⟩ | ⟨q, vm₁, ⟨U', l2, c2, s2⟩, hW₁, X', ⟨g', mk, t, L, E, ce, e1, e2, hq, hce, hcv, hcl, h1, hL, h2, h3⟩, st⟩
  · dsimp only [Pt.U, Pt.locs, Pt.cells, Pt.slots] at X' e1 e2 h1 h2 h3 st
    subst h1; subst h2; subst h3
    exact Or.inl ⟨v, (T.setVm vm₁).calling g' mk As.toArray, t, U', L, hT, X', hL, e1, e2, hq, st⟩
  · dsimp only [Pt.U, Pt.locs, Pt.cells, Pt.slots] at X' e1 e2 h1 h2 h3 st hcl
    subst h1; subst h2; subst h3
    exact Or.inr ⟨q, (T.setVm vm₁).calling g' mk As.toArray, t, U', L, E, ce, hT, X', hL, e1, e2, hq, hce, hcv, vx_cls hW₁ hcl, st⟩
end
end VXH
theorem vx_ofWH {l : Launch} {y : MethodName} {ws ws' : List Cond} {rm : Room} {Pc : Array Value → State → Prop} {Qc : Array Value → State → Outcome → State → Prop} {XC : String → State → State → Prop} {mc ms : Nat} {free : Addr → Prop} {cc : ByteArray} {maxL : Nat} {ret : Option FieldType} {hh : List (Nat × Nat × Nat × Nat)}
    (hy : plainName y.cls = true) (hw : ws = Cond.codeWith y cc maxL ret hh :: ws')
    (body : ∀ p e s m args below meth c s₁, BodyLoose p l y (headSpec ws rm) cc maxL ret e s m args below meth c s₁ → c.maxLocals = maxL → Pc args s →
      W p l e (headSpec ws rm).room s m args below meth c s.heap [] 0 0 (vx_MQ below Qc XC args s mc ms free) (entryFrame m args maxL)) : vx_Met l y ws rm Pc Qc XC mc ms free := by
  refine MetFree.of_bodyS (code := cc) (maxLocals := maxL) (ret := ret) hy ?_ ?_
  · intro args s m h hn
    obtain ⟨m9, meth, c, hn9, h1, h2, h3, h4, -, h5, h6, -⟩ := Cond.codeWith_spec (atoms_spec (ws := ws) h _ (by rw [hw]; exact List.mem_cons_self))
    cases hn.symm.trans hn9
    exact ⟨meth, c, h1, h2, h3, h4, h5, h6⟩
  · intro p e s m args below meth c s₁ B hml hP _
    have hh0 : s₁.heap = s.heap := by rw [B.state]; rfl
    obtain ⟨t, a1, o, b1, b2, b3⟩ := body p e s m args below meth c s₁ B hml hP s₁ hh0 (Stand.of_body B)
    exact ⟨t, o, a1, b1, b2, b3⟩
/-! ===== END ===== -/
end
section
def RX0 : String := "RoamBooks$Account"
def TX0 : u_T := fun k => match k with
  | 0 => ("RoamBooks$Account", "records", "Ljava/util/ArrayList;", true)
  | 1 => ("RoamBooks$Account", "files", "I", false)
  | _ => ("RoamBooks$Account", "filesTaken", "I", false)
def tyX0 : Nat → FieldType := fun k => match k with
  | 0 => .object "java/util/ArrayList"
  | 1 => .int
  | _ => .int
theorem nmX0 : ∀ a, a < 3 → ∀ b, b < 3 → a ≠ b → (TX0 a).2.1 ≠ (TX0 b).2.1 := by decide +kernel
theorem tyX0_ok : ∀ k, k < 3 → parseFieldDescriptor (TX0 k).2.2.1 = some (tyX0 k) := by decide +kernel
abbrev cX0_init : ByteArray := prog_2_method_1_code
def yX0_init : MethodName := ⟨RX0, "<init>", "()V"⟩
abbrev cX0_minutesThatAre : ByteArray := prog_2_method_2_code
def yX0_minutesThatAre : MethodName := ⟨RX0, "minutesThatAre", "(I)I"⟩
abbrev cX0_hasUnfiled : ByteArray := prog_2_method_3_code
def yX0_hasUnfiled : MethodName := ⟨RX0, "hasUnfiled", "()Z"⟩
abbrev cX0_fileTheRest : ByteArray := prog_2_method_4_code
def yX0_fileTheRest : MethodName := ⟨RX0, "fileTheRest", "()I"⟩
abbrev cX0_takeNextFile : ByteArray := prog_2_method_5_code
def yX0_takeNextFile : MethodName := ⟨RX0, "takeNextFile", "(I)I"⟩
abbrev cX0_owed : ByteArray := prog_2_method_6_code
def yX0_owed : MethodName := ⟨RX0, "owed", "()I"⟩
abbrev cX0_owedFileByFile : ByteArray := prog_2_method_7_code
def yX0_owedFileByFile : MethodName := ⟨RX0, "owedFileByFile", "()I"⟩
abbrev cX0_minutesTakenIn : ByteArray := prog_2_method_8_code
def yX0_minutesTakenIn : MethodName := ⟨RX0, "minutesTakenIn", "(I)I"⟩
abbrev cX0_owedIn : ByteArray := prog_2_method_9_code
def yX0_owedIn : MethodName := ⟨RX0, "owedIn", "(II)I"⟩
def RX1 : String := "RoamBooks$Agreement"
def TX1 : u_T := fun k => match k with
  | 0 => ("RoamBooks$Agreement", "home", "I", true)
  | 1 => ("RoamBooks$Agreement", "visited", "I", true)
  | 2 => ("RoamBooks$Agreement", "from", "I", true)
  | 3 => ("RoamBooks$Agreement", "to", "I", true)
  | 4 => ("RoamBooks$Agreement", "price", "I", true)
  | 5 => ("RoamBooks$Agreement", "threshold", "I", true)
  | _ => ("RoamBooks$Agreement", "lower", "I", true)
def tyX1 : Nat → FieldType := fun k => match k with
  | 0 => .int
  | 1 => .int
  | 2 => .int
  | 3 => .int
  | 4 => .int
  | 5 => .int
  | _ => .int
theorem nmX1 : ∀ a, a < 7 → ∀ b, b < 7 → a ≠ b → (TX1 a).2.1 ≠ (TX1 b).2.1 := by decide +kernel
theorem tyX1_ok : ∀ k, k < 7 → parseFieldDescriptor (TX1 k).2.2.1 = some (tyX1 k) := by decide +kernel
abbrev cX1_init : ByteArray := prog_3_method_1_code
def yX1_init : MethodName := ⟨RX1, "<init>", "(IIIIIII)V"⟩
abbrev cX1_holds : ByteArray := prog_3_method_2_code
def yX1_holds : MethodName := ⟨RX1, "holds", "(III)Z"⟩
abbrev cX1_priceAt : ByteArray := prog_3_method_3_code
def yX1_priceAt : MethodName := ⟨RX1, "priceAt", "(I)I"⟩
def RX2 : String := "RoamBooks$Book"
def TX2 : u_T := fun k => match k with
  | _ => ("RoamBooks$Book", "contacts", "[I", true)
def tyX2 : Nat → FieldType := fun k => match k with
  | _ => .array .int
theorem nmX2 : ∀ a, a < 1 → ∀ b, b < 1 → a ≠ b → (TX2 a).2.1 ≠ (TX2 b).2.1 := by decide +kernel
theorem tyX2_ok : ∀ k, k < 1 → parseFieldDescriptor (TX2 k).2.2.1 = some (tyX2 k) := by decide +kernel
abbrev cX2_init : ByteArray := prog_4_method_1_code
def yX2_init : MethodName := ⟨RX2, "<init>", "()V"⟩
abbrev cX2_latest : ByteArray := prog_4_method_2_code
def yX2_latest : MethodName := ⟨RX2, "latest", "(I)I"⟩
abbrev cX2_has : ByteArray := prog_4_method_3_code
def yX2_has : MethodName := ⟨RX2, "has", "(I)Z"⟩
abbrev cX2_put : ByteArray := prog_4_method_4_code
def yX2_put : MethodName := ⟨RX2, "put", "(II)V"⟩
abbrev cX2_takeOut : ByteArray := prog_4_method_5_code
def yX2_takeOut : MethodName := ⟨RX2, "takeOut", "(I)V"⟩
abbrev cX2_takeOutUpTo : ByteArray := prog_4_method_6_code
def yX2_takeOutUpTo : MethodName := ⟨RX2, "takeOutUpTo", "(I)V"⟩
abbrev cX2_clear : ByteArray := prog_4_method_7_code
def yX2_clear : MethodName := ⟨RX2, "clear", "()V"⟩
abbrev cX2_count : ByteArray := prog_4_method_8_code
def yX2_count : MethodName := ⟨RX2, "count", "()I"⟩
abbrev cX2_isLine : ByteArray := prog_4_method_9_code
def yX2_isLine : MethodName := ⟨RX2, "isLine", "(I)Z"⟩
def RX3 : String := "RoamBooks$Call"
def TX3 : u_T := fun k => match k with
  | 0 => ("RoamBooks$Call", "caller", "I", true)
  | 1 => ("RoamBooks$Call", "callerPaid", "I", true)
  | 2 => ("RoamBooks$Call", "called", "I", true)
  | _ => ("RoamBooks$Call", "calledPaid", "I", true)
def tyX3 : Nat → FieldType := fun k => match k with
  | 0 => .int
  | 1 => .int
  | 2 => .int
  | _ => .int
theorem nmX3 : ∀ a, a < 4 → ∀ b, b < 4 → a ≠ b → (TX3 a).2.1 ≠ (TX3 b).2.1 := by decide +kernel
theorem tyX3_ok : ∀ k, k < 4 → parseFieldDescriptor (TX3 k).2.2.1 = some (tyX3 k) := by decide +kernel
abbrev cX3_init : ByteArray := prog_5_method_1_code
def yX3_init : MethodName := ⟨RX3, "<init>", "(IIII)V"⟩
abbrev cX3_paidBy : ByteArray := prog_5_method_2_code
def yX3_paidBy : MethodName := ⟨RX3, "paidBy", "(I)I"⟩
def RX4 : String := "RoamBooks$CallRecord"
def TX4 : u_T := fun k => match k with
  | 0 => ("RoamBooks$CallRecord", "minutes", "I", true)
  | 1 => ("RoamBooks$CallRecord", "made", "I", true)
  | 2 => ("RoamBooks$CallRecord", "agreement", "LRoamBooks$Agreement;", true)
  | 3 => ("RoamBooks$CallRecord", "state", "I", false)
  | _ => ("RoamBooks$CallRecord", "inFile", "I", false)
def tyX4 : Nat → FieldType := fun k => match k with
  | 0 => .int
  | 1 => .int
  | 2 => .object "RoamBooks$Agreement"
  | 3 => .int
  | _ => .int
theorem nmX4 : ∀ a, a < 5 → ∀ b, b < 5 → a ≠ b → (TX4 a).2.1 ≠ (TX4 b).2.1 := by decide +kernel
theorem tyX4_ok : ∀ k, k < 5 → parseFieldDescriptor (TX4 k).2.2.1 = some (tyX4 k) := by decide +kernel
abbrev cX4_init : ByteArray := prog_6_method_1_code
def yX4_init : MethodName := ⟨RX4, "<init>", "(IILRoamBooks$Agreement;)V"⟩
abbrev cX4_owed : ByteArray := prog_6_method_2_code
def yX4_owed : MethodName := ⟨RX4, "owed", "(I)I"⟩
def RX5 : String := "RoamBooks$Network"
def TX5 : u_T := fun k => match k with
  | 0 => ("RoamBooks$Network", "book", "LRoamBooks$Book;", true)
  | 1 => ("RoamBooks$Network", "dead", "Z", false)
  | 2 => ("RoamBooks$Network", "favourite", "I", false)
  | 3 => ("RoamBooks$Network", "priceAtHome", "I", false)
  | 4 => ("RoamBooks$Network", "priceAbroad", "I", false)
  | 5 => ("RoamBooks$Network", "priceCalled", "I", false)
  | _ => ("RoamBooks$Network", "noticesToLose", "I", false)
def tyX5 : Nat → FieldType := fun k => match k with
  | 0 => .object "RoamBooks$Book"
  | 1 => .boolean
  | 2 => .int
  | 3 => .int
  | 4 => .int
  | 5 => .int
  | _ => .int
theorem nmX5 : ∀ a, a < 7 → ∀ b, b < 7 → a ≠ b → (TX5 a).2.1 ≠ (TX5 b).2.1 := by decide +kernel
theorem tyX5_ok : ∀ k, k < 7 → parseFieldDescriptor (TX5 k).2.2.1 = some (tyX5 k) := by decide +kernel
abbrev cX5_init : ByteArray := prog_7_method_1_code
def yX5_init : MethodName := ⟨RX5, "<init>", "()V"⟩
def RX6 : String := "RoamBooks$Subscriber"
def TX6 : u_T := fun k => match k with
  | 0 => ("RoamBooks$Subscriber", "number", "I", true)
  | 1 => ("RoamBooks$Subscriber", "home", "I", true)
  | 2 => ("RoamBooks$Subscriber", "forbidden", "I", true)
  | 3 => ("RoamBooks$Subscriber", "place", "I", false)
  | 4 => ("RoamBooks$Subscriber", "attached", "I", false)
  | 5 => ("RoamBooks$Subscriber", "note", "I", false)
  | 6 => ("RoamBooks$Subscriber", "steered", "I", false)
  | 7 => ("RoamBooks$Subscriber", "cap", "I", false)
  | 8 => ("RoamBooks$Subscriber", "consents", "Z", false)
  | 9 => ("RoamBooks$Subscriber", "paid", "I", false)
  | _ => ("RoamBooks$Subscriber", "paidAbroad", "I", false)
def tyX6 : Nat → FieldType := fun k => match k with
  | 0 => .int
  | 1 => .int
  | 2 => .int
  | 3 => .int
  | 4 => .int
  | 5 => .int
  | 6 => .int
  | 7 => .int
  | 8 => .boolean
  | 9 => .int
  | _ => .int
theorem nmX6 : ∀ a, a < 11 → ∀ b, b < 11 → a ≠ b → (TX6 a).2.1 ≠ (TX6 b).2.1 := by decide +kernel
theorem tyX6_ok : ∀ k, k < 11 → parseFieldDescriptor (TX6 k).2.2.1 = some (tyX6 k) := by decide +kernel
abbrev cX6_init : ByteArray := prog_8_method_1_code
def yX6_init : MethodName := ⟨RX6, "<init>", "(IIII)V"⟩
abbrev cX6_isAbroad : ByteArray := prog_8_method_2_code
def yX6_isAbroad : MethodName := ⟨RX6, "isAbroad", "()Z"⟩
abbrev cX6_wouldComeAboveCap : ByteArray := prog_8_method_3_code
def yX6_wouldComeAboveCap : MethodName := ⟨RX6, "wouldComeAboveCap", "(I)Z"⟩
abbrev cX6_isWarned : ByteArray := prog_8_method_4_code
def yX6_isWarned : MethodName := ⟨RX6, "isWarned", "()Z"⟩
def RX7 : String := "RoamBooks"
def TX7 : u_T := fun k => match k with
  | 0 => ("RoamBooks", "received", "[I", true)
  | 1 => ("RoamBooks", "networks", "[LRoamBooks$Network;", true)
  | 2 => ("RoamBooks", "accounts", "[LRoamBooks$Account;", true)
  | 3 => ("RoamBooks", "agreements", "Ljava/util/ArrayList;", true)
  | 4 => ("RoamBooks", "subscribers", "Ljava/util/ArrayList;", true)
  | 5 => ("RoamBooks", "calls", "Ljava/util/ArrayList;", true)
  | _ => ("RoamBooks", "minute", "I", false)
def tyX7 : Nat → FieldType := fun k => match k with
  | 0 => .array .int
  | 1 => .array (.object "RoamBooks$Network")
  | 2 => .array (.object "RoamBooks$Account")
  | 3 => .object "java/util/ArrayList"
  | 4 => .object "java/util/ArrayList"
  | 5 => .object "java/util/ArrayList"
  | _ => .int
theorem nmX7 : ∀ a, a < 7 → ∀ b, b < 7 → a ≠ b → (TX7 a).2.1 ≠ (TX7 b).2.1 := by decide +kernel
theorem tyX7_ok : ∀ k, k < 7 → parseFieldDescriptor (TX7 k).2.2.1 = some (tyX7 k) := by decide +kernel
abbrev cX7_init : ByteArray := prog_1_method_1_code
def yX7_init : MethodName := ⟨RX7, "<init>", "()V"⟩
abbrev cX7_reach : ByteArray := prog_1_method_2_code
def yX7_reach : MethodName := ⟨RX7, "reach", "(II)I"⟩
abbrev cX7_dead : ByteArray := prog_1_method_3_code
def yX7_dead : MethodName := ⟨RX7, "dead", "(IZ)Z"⟩
abbrev cX7_agree : ByteArray := prog_1_method_4_code
def yX7_agree : MethodName := ⟨RX7, "agree", "(IIIIIII)I"⟩
abbrev cX7_steer : ByteArray := prog_1_method_5_code
def yX7_steer : MethodName := ⟨RX7, "steer", "(II)I"⟩
abbrev cX7_prices : ByteArray := prog_1_method_6_code
def yX7_prices : MethodName := ⟨RX7, "prices", "(IIII)V"⟩
abbrev cX7_lose : ByteArray := prog_1_method_7_code
def yX7_lose : MethodName := ⟨RX7, "lose", "(II)I"⟩
abbrev cX7_crash : ByteArray := prog_1_method_8_code
def yX7_crash : MethodName := ⟨RX7, "crash", "(I)I"⟩
abbrev cX7_subscriber : ByteArray := prog_1_method_9_code
def yX7_subscriber : MethodName := ⟨RX7, "subscriber", "(III)I"⟩
abbrev cX7_move : ByteArray := prog_1_method_10_code
def yX7_move : MethodName := ⟨RX7, "move", "(II)I"⟩
abbrev cX7_off : ByteArray := prog_1_method_11_code
def yX7_off : MethodName := ⟨RX7, "off", "(I)I"⟩
abbrev cX7_attach : ByteArray := prog_1_method_12_code
def yX7_attach : MethodName := ⟨RX7, "attach", "(II)I"⟩
abbrev cX7_emergency : ByteArray := prog_1_method_13_code
def yX7_emergency : MethodName := ⟨RX7, "emergency", "(I)I"⟩
abbrev cX7_where : ByteArray := prog_1_method_14_code
def yX7_where : MethodName := ⟨RX7, "where", "(I)I"⟩
abbrev cX7_contact : ByteArray := prog_1_method_15_code
def yX7_contact : MethodName := ⟨RX7, "contact", "(II)I"⟩
abbrev cX7_agrees : ByteArray := prog_1_method_16_code
def yX7_agrees : MethodName := ⟨RX7, "agrees", "(I)Z"⟩
abbrev cX7_subscriberIs : ByteArray := prog_1_method_17_code
def yX7_subscriberIs : MethodName := ⟨RX7, "subscriberIs", "(II)I"⟩
abbrev cX7_cap : ByteArray := prog_1_method_18_code
def yX7_cap : MethodName := ⟨RX7, "cap", "(IIZ)V"⟩
abbrev cX7_call : ByteArray := prog_1_method_19_code
def yX7_call : MethodName := ⟨RX7, "call", "(III)I"⟩
abbrev cX7_paidAnew : ByteArray := prog_1_method_20_code
def yX7_paidAnew : MethodName := ⟨RX7, "paidAnew", "(I)I"⟩
abbrev cX7_file : ByteArray := prog_1_method_21_code
def yX7_file : MethodName := ⟨RX7, "file", "(II)I"⟩
abbrev cX7_deliver : ByteArray := prog_1_method_22_code
def yX7_deliver : MethodName := ⟨RX7, "deliver", "(III)I"⟩
abbrev cX7_owes : ByteArray := prog_1_method_23_code
def yX7_owes : MethodName := ⟨RX7, "owes", "(II)I"⟩
abbrev cX7_owesAnew : ByteArray := prog_1_method_24_code
def yX7_owesAnew : MethodName := ⟨RX7, "owesAnew", "(II)I"⟩
abbrev cX7_recorded : ByteArray := prog_1_method_25_code
def yX7_recorded : MethodName := ⟨RX7, "recorded", "(III)I"⟩
abbrev cX7_pass : ByteArray := prog_1_method_26_code
def yX7_pass : MethodName := ⟨RX7, "pass", "(I)I"⟩
abbrev cX7_requireRange : ByteArray := prog_1_method_27_code
def yX7_requireRange : MethodName := ⟨RX7, "requireRange", "(III)V"⟩
abbrev cX7_requireDifferent : ByteArray := prog_1_method_28_code
def yX7_requireDifferent : MethodName := ⟨RX7, "requireDifferent", "(II)V"⟩
abbrev cX7_requireRoom : ByteArray := prog_1_method_29_code
def yX7_requireRoom : MethodName := ⟨RX7, "requireRoom", "(II)V"⟩
abbrev cX7_requireNetwork : ByteArray := prog_1_method_30_code
def yX7_requireNetwork : MethodName := ⟨RX7, "requireNetwork", "(I)V"⟩
abbrev cX7_requirePlace : ByteArray := prog_1_method_31_code
def yX7_requirePlace : MethodName := ⟨RX7, "requirePlace", "(I)V"⟩
abbrev cX7_networkAt : ByteArray := prog_1_method_32_code
def yX7_networkAt : MethodName := ⟨RX7, "networkAt", "(I)LRoamBooks$Network;"⟩
abbrev cX7_receivedAt : ByteArray := prog_1_method_33_code
def yX7_receivedAt : MethodName := ⟨RX7, "receivedAt", "(I)I"⟩
abbrev cX7_subscriberAt : ByteArray := prog_1_method_34_code
def yX7_subscriberAt : MethodName := ⟨RX7, "subscriberAt", "(I)LRoamBooks$Subscriber;"⟩
abbrev cX7_accountOf : ByteArray := prog_1_method_35_code
def yX7_accountOf : MethodName := ⟨RX7, "accountOf", "(II)LRoamBooks$Account;"⟩
abbrev cX7_isIn : ByteArray := prog_1_method_36_code
def yX7_isIn : MethodName := ⟨RX7, "isIn", "(II)Z"⟩
abbrev cX7_detachIfNotReceived : ByteArray := prog_1_method_37_code
def yX7_detachIfNotReceived : MethodName := ⟨RX7, "detachIfNotReceived", "(LRoamBooks$Subscriber;)V"⟩
abbrev cX7_detachAllFrom : ByteArray := prog_1_method_38_code
def yX7_detachAllFrom : MethodName := ⟨RX7, "detachAllFrom", "(I)V"⟩
abbrev cX7_agreementNow : ByteArray := prog_1_method_39_code
def yX7_agreementNow : MethodName := ⟨RX7, "agreementNow", "(II)LRoamBooks$Agreement;"⟩
abbrev cX7_whyNotUsable : ByteArray := prog_1_method_40_code
def yX7_whyNotUsable : MethodName := ⟨RX7, "whyNotUsable", "(LRoamBooks$Subscriber;I)I"⟩
abbrev cX7_isSteered : ByteArray := prog_1_method_41_code
def yX7_isSteered : MethodName := ⟨RX7, "isSteered", "(LRoamBooks$Subscriber;I)Z"⟩
abbrev cX7_makeContact : ByteArray := prog_1_method_42_code
def yX7_makeContact : MethodName := ⟨RX7, "makeContact", "(LRoamBooks$Subscriber;I)V"⟩
abbrev cX7_beginHours : ByteArray := prog_1_method_43_code
def yX7_beginHours : MethodName := ⟨RX7, "beginHours", "(II)V"⟩
abbrev cX7_beginHour : ByteArray := prog_1_method_44_code
def yX7_beginHour : MethodName := ⟨RX7, "beginHour", "(I)V"⟩
abbrev cX7_beginMonth : ByteArray := prog_1_method_45_code
def yX7_beginMonth : MethodName := ⟨RX7, "beginMonth", "()V"⟩
abbrev cX7_whyNotFound : ByteArray := prog_1_method_46_code
def yX7_whyNotFound : MethodName := ⟨RX7, "whyNotFound", "(LRoamBooks$Subscriber;LRoamBooks$Subscriber;)I"⟩
abbrev cX7_priceOfCalling : ByteArray := prog_1_method_47_code
def yX7_priceOfCalling : MethodName := ⟨RX7, "priceOfCalling", "(LRoamBooks$Subscriber;)I"⟩
abbrev cX7_priceOfBeingCalled : ByteArray := prog_1_method_48_code
def yX7_priceOfBeingCalled : MethodName := ⟨RX7, "priceOfBeingCalled", "(LRoamBooks$Subscriber;)I"⟩
abbrev cX7_settle : ByteArray := prog_1_method_49_code
def yX7_settle : MethodName := ⟨RX7, "settle", "(LRoamBooks$Subscriber;II)V"⟩
def RX8 : String := "RoamBooksModel"
def TX8 : u_T := fun k => match k with
  | 0 => ("RoamBooksModel", "thrown", "I", false)
  | 1 => ("RoamBooksModel", "now", "I", false)
  | 2 => ("RoamBooksModel", "received", "[I", true)
  | 3 => ("RoamBooksModel", "isDead", "[Z", true)
  | 4 => ("RoamBooksModel", "favourite", "[I", true)
  | 5 => ("RoamBooksModel", "price", "[I", true)
  | 6 => ("RoamBooksModel", "losing", "[I", true)
  | 7 => ("RoamBooksModel", "agreements", "I", false)
  | 8 => ("RoamBooksModel", "agreedHome", "[I", true)
  | 9 => ("RoamBooksModel", "agreedVisited", "[I", true)
  | 10 => ("RoamBooksModel", "from", "[I", true)
  | 11 => ("RoamBooksModel", "to", "[I", true)
  | 12 => ("RoamBooksModel", "agreedPrice", "[I", true)
  | 13 => ("RoamBooksModel", "threshold", "[I", true)
  | 14 => ("RoamBooksModel", "lower", "[I", true)
  | 15 => ("RoamBooksModel", "subscribers", "I", false)
  | 16 => ("RoamBooksModel", "home", "[I", true)
  | 17 => ("RoamBooksModel", "place", "[I", true)
  | 18 => ("RoamBooksModel", "forbidden", "[I", true)
  | 19 => ("RoamBooksModel", "attached", "[I", true)
  | 20 => ("RoamBooksModel", "steered", "[I", true)
  | 21 => ("RoamBooksModel", "note", "[I", true)
  | 22 => ("RoamBooksModel", "cap", "[I", true)
  | 23 => ("RoamBooksModel", "consents", "[Z", true)
  | 24 => ("RoamBooksModel", "paid", "[I", true)
  | 25 => ("RoamBooksModel", "month", "[I", true)
  | 26 => ("RoamBooksModel", "abroad", "[I", true)
  | 27 => ("RoamBooksModel", "book", "[I", true)
  | 28 => ("RoamBooksModel", "calls", "I", false)
  | 29 => ("RoamBooksModel", "records", "I", false)
  | 30 => ("RoamBooksModel", "recordHome", "[I", true)
  | 31 => ("RoamBooksModel", "recordVisited", "[I", true)
  | 32 => ("RoamBooksModel", "minutes", "[I", true)
  | 33 => ("RoamBooksModel", "madeAt", "[I", true)
  | 34 => ("RoamBooksModel", "madeBy", "[I", true)
  | 35 => ("RoamBooksModel", "state", "[I", true)
  | 36 => ("RoamBooksModel", "fileOf", "[I", true)
  | 37 => ("RoamBooksModel", "files", "[I", true)
  | _ => ("RoamBooksModel", "taken", "[I", true)
def tyX8 : Nat → FieldType := fun k => match k with
  | 0 => .int
  | 1 => .int
  | 2 => .array .int
  | 3 => .array .boolean
  | 4 => .array .int
  | 5 => .array .int
  | 6 => .array .int
  | 7 => .int
  | 8 => .array .int
  | 9 => .array .int
  | 10 => .array .int
  | 11 => .array .int
  | 12 => .array .int
  | 13 => .array .int
  | 14 => .array .int
  | 15 => .int
  | 16 => .array .int
  | 17 => .array .int
  | 18 => .array .int
  | 19 => .array .int
  | 20 => .array .int
  | 21 => .array .int
  | 22 => .array .int
  | 23 => .array .boolean
  | 24 => .array .int
  | 25 => .array .int
  | 26 => .array .int
  | 27 => .array .int
  | 28 => .int
  | 29 => .int
  | 30 => .array .int
  | 31 => .array .int
  | 32 => .array .int
  | 33 => .array .int
  | 34 => .array .int
  | 35 => .array .int
  | 36 => .array .int
  | 37 => .array .int
  | _ => .array .int
theorem nmX8 : ∀ a, a < 39 → ∀ b, b < 39 → a ≠ b → (TX8 a).2.1 ≠ (TX8 b).2.1 := by decide +kernel
theorem tyX8_ok : ∀ k, k < 39 → parseFieldDescriptor (TX8 k).2.2.1 = some (tyX8 k) := by decide +kernel
abbrev cX8_init : ByteArray := prog_10_method_1_code
def yX8_init : MethodName := ⟨RX8, "<init>", "()V"⟩
abbrev cX8_thrown : ByteArray := prog_10_method_2_code
def yX8_thrown : MethodName := ⟨RX8, "thrown", "()I"⟩
abbrev cX8_in : ByteArray := prog_10_method_3_code
def yX8_in : MethodName := ⟨RX8, "in", "(III)Z"⟩
abbrev cX8_isNetwork : ByteArray := prog_10_method_4_code
def yX8_isNetwork : MethodName := ⟨RX8, "isNetwork", "(I)Z"⟩
abbrev cX8_isPlace : ByteArray := prog_10_method_5_code
def yX8_isPlace : MethodName := ⟨RX8, "isPlace", "(I)Z"⟩
abbrev cX8_isSubscriber : ByteArray := prog_10_method_6_code
def yX8_isSubscriber : MethodName := ⟨RX8, "isSubscriber", "(I)Z"⟩
abbrev cX8_isIn : ByteArray := prog_10_method_7_code
def yX8_isIn : MethodName := ⟨RX8, "isIn", "(II)Z"⟩
abbrev cX8_reach : ByteArray := prog_10_method_8_code
def yX8_reach : MethodName := ⟨RX8, "reach", "(II)I"⟩
abbrev cX8_empties : ByteArray := prog_10_method_9_code
def yX8_empties : MethodName := ⟨RX8, "empties", "(I)V"⟩
abbrev cX8_dead : ByteArray := prog_10_method_10_code
def yX8_dead : MethodName := ⟨RX8, "dead", "(IZ)Z"⟩
abbrev cX8_agree : ByteArray := prog_10_method_11_code
def yX8_agree : MethodName := ⟨RX8, "agree", "(IIIIIII)I"⟩
abbrev cX8_agreement : ByteArray := prog_10_method_12_code
def yX8_agreement : MethodName := ⟨RX8, "agreement", "(II)I"⟩
abbrev cX8_steer : ByteArray := prog_10_method_13_code
def yX8_steer : MethodName := ⟨RX8, "steer", "(II)I"⟩
abbrev cX8_prices : ByteArray := prog_10_method_14_code
def yX8_prices : MethodName := ⟨RX8, "prices", "(IIII)V"⟩
abbrev cX8_lose : ByteArray := prog_10_method_15_code
def yX8_lose : MethodName := ⟨RX8, "lose", "(II)I"⟩
abbrev cX8_crash : ByteArray := prog_10_method_16_code
def yX8_crash : MethodName := ⟨RX8, "crash", "(I)I"⟩
abbrev cX8_subscriber : ByteArray := prog_10_method_17_code
def yX8_subscriber : MethodName := ⟨RX8, "subscriber", "(III)I"⟩
abbrev cX8_move : ByteArray := prog_10_method_18_code
def yX8_move : MethodName := ⟨RX8, "move", "(II)I"⟩
abbrev cX8_off : ByteArray := prog_10_method_19_code
def yX8_off : MethodName := ⟨RX8, "off", "(I)I"⟩
abbrev cX8_reason : ByteArray := prog_10_method_20_code
def yX8_reason : MethodName := ⟨RX8, "reason", "(II)I"⟩
abbrev cX8_isSteered : ByteArray := prog_10_method_21_code
def yX8_isSteered : MethodName := ⟨RX8, "isSteered", "(II)Z"⟩
abbrev cX8_makesContact : ByteArray := prog_10_method_22_code
def yX8_makesContact : MethodName := ⟨RX8, "makesContact", "(I)V"⟩
abbrev cX8_attach : ByteArray := prog_10_method_23_code
def yX8_attach : MethodName := ⟨RX8, "attach", "(II)I"⟩
abbrev cX8_emergency : ByteArray := prog_10_method_24_code
def yX8_emergency : MethodName := ⟨RX8, "emergency", "(I)I"⟩
abbrev cX8_where : ByteArray := prog_10_method_25_code
def yX8_where : MethodName := ⟨RX8, "where", "(I)I"⟩
abbrev cX8_contact : ByteArray := prog_10_method_26_code
def yX8_contact : MethodName := ⟨RX8, "contact", "(II)I"⟩
abbrev cX8_agrees : ByteArray := prog_10_method_27_code
def yX8_agrees : MethodName := ⟨RX8, "agrees", "(I)Z"⟩
abbrev cX8_abroadOf : ByteArray := prog_10_method_28_code
def yX8_abroadOf : MethodName := ⟨RX8, "abroadOf", "(I)I"⟩
abbrev cX8_subscriberIs : ByteArray := prog_10_method_29_code
def yX8_subscriberIs : MethodName := ⟨RX8, "subscriberIs", "(II)I"⟩
abbrev cX8_cap : ByteArray := prog_10_method_30_code
def yX8_cap : MethodName := ⟨RX8, "cap", "(IIZ)V"⟩
abbrev cX8_isAbroad : ByteArray := prog_10_method_31_code
def yX8_isAbroad : MethodName := ⟨RX8, "isAbroad", "(I)Z"⟩
abbrev cX8_isAbove : ByteArray := prog_10_method_32_code
def yX8_isAbove : MethodName := ⟨RX8, "isAbove", "(II)Z"⟩
abbrev cX8_pays : ByteArray := prog_10_method_33_code
def yX8_pays : MethodName := ⟨RX8, "pays", "(II)V"⟩
abbrev cX8_records : ByteArray := prog_10_method_34_code
def yX8_records : MethodName := ⟨RX8, "records", "(II)V"⟩
abbrev cX8_nobody : ByteArray := prog_10_method_35_code
def yX8_nobody : MethodName := ⟨RX8, "nobody", "(II)I"⟩
abbrev cX8_call : ByteArray := prog_10_method_36_code
def yX8_call : MethodName := ⟨RX8, "call", "(III)I"⟩
abbrev cX8_paidAnew : ByteArray := prog_10_method_37_code
def yX8_paidAnew : MethodName := ⟨RX8, "paidAnew", "(I)I"⟩
abbrev cX8_isOf : ByteArray := prog_10_method_38_code
def yX8_isOf : MethodName := ⟨RX8, "isOf", "(III)Z"⟩
abbrev cX8_minutesOf : ByteArray := prog_10_method_39_code
def yX8_minutesOf : MethodName := ⟨RX8, "minutesOf", "(III)I"⟩
abbrev cX8_file : ByteArray := prog_10_method_40_code
def yX8_file : MethodName := ⟨RX8, "file", "(II)I"⟩
abbrev cX8_deliver : ByteArray := prog_10_method_41_code
def yX8_deliver : MethodName := ⟨RX8, "deliver", "(III)I"⟩
abbrev cX8_priceOf : ByteArray := prog_10_method_42_code
def yX8_priceOf : MethodName := ⟨RX8, "priceOf", "(II)I"⟩
abbrev cX8_owes : ByteArray := prog_10_method_43_code
def yX8_owes : MethodName := ⟨RX8, "owes", "(II)I"⟩
abbrev cX8_owesAnew : ByteArray := prog_10_method_44_code
def yX8_owesAnew : MethodName := ⟨RX8, "owesAnew", "(II)I"⟩
abbrev cX8_recorded : ByteArray := prog_10_method_45_code
def yX8_recorded : MethodName := ⟨RX8, "recorded", "(III)I"⟩
abbrev cX8_begins : ByteArray := prog_10_method_46_code
def yX8_begins : MethodName := ⟨RX8, "begins", "()V"⟩
abbrev cX8_pass : ByteArray := prog_10_method_47_code
def yX8_pass : MethodName := ⟨RX8, "pass", "(I)I"⟩
def RJx145de : String := "java/io/Serializable"
def TJx145de : u_T := fun k => match k with
  | _ => ("", "", "", false)
def tyJx145de : Nat → FieldType := fun k => match k with
  | _ => .int
theorem nmJx145de : ∀ a, a < 0 → ∀ b, b < 0 → a ≠ b → (TJx145de a).2.1 ≠ (TJx145de b).2.1 := by decide +kernel
theorem tyJx145de_ok : ∀ k, k < 0 → parseFieldDescriptor (TJx145de k).2.2.1 = some (tyJx145de k) := by decide +kernel
def RJx8e188 : String := "java/lang/Cloneable"
def TJx8e188 : u_T := fun k => match k with
  | _ => ("", "", "", false)
def tyJx8e188 : Nat → FieldType := fun k => match k with
  | _ => .int
theorem nmJx8e188 : ∀ a, a < 0 → ∀ b, b < 0 → a ≠ b → (TJx8e188 a).2.1 ≠ (TJx8e188 b).2.1 := by decide +kernel
theorem tyJx8e188_ok : ∀ k, k < 0 → parseFieldDescriptor (TJx8e188 k).2.2.1 = some (tyJx8e188 k) := by decide +kernel
def RJxab1ab : String := "java/lang/Iterable"
def TJxab1ab : u_T := fun k => match k with
  | _ => ("", "", "", false)
def tyJxab1ab : Nat → FieldType := fun k => match k with
  | _ => .int
theorem nmJxab1ab : ∀ a, a < 0 → ∀ b, b < 0 → a ≠ b → (TJxab1ab a).2.1 ≠ (TJxab1ab b).2.1 := by decide +kernel
theorem tyJxab1ab_ok : ∀ k, k < 0 → parseFieldDescriptor (TJxab1ab k).2.2.1 = some (tyJxab1ab k) := by decide +kernel
def RJ9 : String := "java/lang/Math"
def TJ9 : u_T := fun k => match k with
  | _ => ("", "", "", false)
def tyJ9 : Nat → FieldType := fun k => match k with
  | _ => .int
theorem nmJ9 : ∀ a, a < 0 → ∀ b, b < 0 → a ≠ b → (TJ9 a).2.1 ≠ (TJ9 b).2.1 := by decide +kernel
theorem tyJ9_ok : ∀ k, k < 0 → parseFieldDescriptor (TJ9 k).2.2.1 = some (tyJ9 k) := by decide +kernel
abbrev cJ9_max_7cf53 : ByteArray := prog_18_method_65_code
def yJ9_max_7cf53 : MethodName := ⟨RJ9, "max", "(II)I"⟩
abbrev cJ9_min_7cf53 : ByteArray := prog_18_method_69_code
def yJ9_min_7cf53 : MethodName := ⟨RJ9, "min", "(II)I"⟩
def RJ0 : String := "java/lang/String"
def TJ0 : u_T := fun k => match k with
  | _ => ("", "", "", false)
def tyJ0 : Nat → FieldType := fun k => match k with
  | _ => .int
theorem nmJ0 : ∀ a, a < 0 → ∀ b, b < 0 → a ≠ b → (TJ0 a).2.1 ≠ (TJ0 b).2.1 := by decide +kernel
theorem tyJ0_ok : ∀ k, k < 0 → parseFieldDescriptor (TJ0 k).2.2.1 = some (tyJ0 k) := by decide +kernel
def RJ10 : String := "java/lang/System"
def TJ10 : u_T := fun k => match k with
  | _ => ("", "", "", false)
def tyJ10 : Nat → FieldType := fun k => match k with
  | _ => .int
theorem nmJ10 : ∀ a, a < 0 → ∀ b, b < 0 → a ≠ b → (TJ10 a).2.1 ≠ (TJ10 b).2.1 := by decide +kernel
theorem tyJ10_ok : ∀ k, k < 0 → parseFieldDescriptor (TJ10 k).2.2.1 = some (tyJ10 k) := by decide +kernel
def RJxa1e45 : String := "java/util/AbstractCollection"
def TJxa1e45 : u_T := fun k => match k with
  | _ => ("", "", "", false)
def tyJxa1e45 : Nat → FieldType := fun k => match k with
  | _ => .int
theorem nmJxa1e45 : ∀ a, a < 0 → ∀ b, b < 0 → a ≠ b → (TJxa1e45 a).2.1 ≠ (TJxa1e45 b).2.1 := by decide +kernel
theorem tyJxa1e45_ok : ∀ k, k < 0 → parseFieldDescriptor (TJxa1e45 k).2.2.1 = some (tyJxa1e45 k) := by decide +kernel
abbrev cJxa1e45_init_da8c8 : ByteArray := prog_23_method_1_code
def yJxa1e45_init_da8c8 : MethodName := ⟨RJxa1e45, "<init>", "()V"⟩
def RJxc12de : String := "java/util/AbstractList"
def TJxc12de : u_T := fun k => match k with
  | _ => ("", "", "", false)
def tyJxc12de : Nat → FieldType := fun k => match k with
  | _ => .int
theorem nmJxc12de : ∀ a, a < 0 → ∀ b, b < 0 → a ≠ b → (TJxc12de a).2.1 ≠ (TJxc12de b).2.1 := by decide +kernel
theorem tyJxc12de_ok : ∀ k, k < 0 → parseFieldDescriptor (TJxc12de k).2.2.1 = some (tyJxc12de k) := by decide +kernel
abbrev cJxc12de_init_da8c8 : ByteArray := prog_24_method_1_code
def yJxc12de_init_da8c8 : MethodName := ⟨RJxc12de, "<init>", "()V"⟩
def RJx4a65c : String := "java/util/ArrayList"
def TJx4a65c : u_T := fun k => match k with
  | 0 => ("java/util/AbstractList", "modCount", "I", false)
  | 1 => ("java/util/ArrayList", "elementData", "[Ljava/lang/Object;", false)
  | _ => ("java/util/ArrayList", "size", "I", false)
def tyJx4a65c : Nat → FieldType := fun k => match k with
  | 0 => .int
  | 1 => .array (.object "java/lang/Object")
  | _ => .int
theorem nmJx4a65c : ∀ a, a < 3 → ∀ b, b < 3 → a ≠ b → (TJx4a65c a).2.1 ≠ (TJx4a65c b).2.1 := by decide +kernel
theorem tyJx4a65c_ok : ∀ k, k < 3 → parseFieldDescriptor (TJx4a65c k).2.2.1 = some (tyJx4a65c k) := by decide +kernel
abbrev cJx4a65c_init_da8c8 : ByteArray := prog_25_method_2_code
def yJx4a65c_init_da8c8 : MethodName := ⟨RJx4a65c, "<init>", "()V"⟩
abbrev cJx4a65c_grow_92f84 : ByteArray := prog_25_method_6_code
def yJx4a65c_grow_92f84 : MethodName := ⟨RJx4a65c, "grow", "(I)[Ljava/lang/Object;"⟩
abbrev cJx4a65c_grow_d5877 : ByteArray := prog_25_method_7_code
def yJx4a65c_grow_d5877 : MethodName := ⟨RJx4a65c, "grow", "()[Ljava/lang/Object;"⟩
abbrev cJx4a65c_size_8abf5 : ByteArray := prog_25_method_8_code
def yJx4a65c_size_8abf5 : MethodName := ⟨RJx4a65c, "size", "()I"⟩
abbrev cJx4a65c_elementData_915e3 : ByteArray := prog_25_method_18_code
def yJx4a65c_elementData_915e3 : MethodName := ⟨RJx4a65c, "elementData", "(I)Ljava/lang/Object;"⟩
abbrev cJx4a65c_get_915e3 : ByteArray := prog_25_method_20_code
def yJx4a65c_get_915e3 : MethodName := ⟨RJx4a65c, "get", "(I)Ljava/lang/Object;"⟩
abbrev cJx4a65c_add_72be8 : ByteArray := prog_25_method_24_code
def yJx4a65c_add_72be8 : MethodName := ⟨RJx4a65c, "add", "(Ljava/lang/Object;[Ljava/lang/Object;I)V"⟩
abbrev cJx4a65c_add_9ea2d : ByteArray := prog_25_method_25_code
def yJx4a65c_add_9ea2d : MethodName := ⟨RJx4a65c, "add", "(Ljava/lang/Object;)Z"⟩
def RJ7 : String := "java/util/Arrays"
def TJ7 : u_T := fun k => match k with
  | _ => ("", "", "", false)
def tyJ7 : Nat → FieldType := fun k => match k with
  | _ => .int
theorem nmJ7 : ∀ a, a < 0 → ∀ b, b < 0 → a ≠ b → (TJ7 a).2.1 ≠ (TJ7 b).2.1 := by decide +kernel
theorem tyJ7_ok : ∀ k, k < 0 → parseFieldDescriptor (TJ7 k).2.2.1 = some (tyJ7 k) := by decide +kernel
abbrev cJ7_fill_53178 : ByteArray := prog_26_method_103_code
def yJ7_fill_53178 : MethodName := ⟨RJ7, "fill", "([II)V"⟩
abbrev cJ7_copyOf_1904c : ByteArray := prog_26_method_119_code
def yJ7_copyOf_1904c : MethodName := ⟨RJ7, "copyOf", "([Ljava/lang/Object;I)[Ljava/lang/Object;"⟩
abbrev cJ7_copyOf_6403c : ByteArray := prog_26_method_120_code
def yJ7_copyOf_6403c : MethodName := ⟨RJ7, "copyOf", "([Ljava/lang/Object;ILjava/lang/Class;)[Ljava/lang/Object;"⟩
def RJx5ef63 : String := "java/util/Collection"
def TJx5ef63 : u_T := fun k => match k with
  | _ => ("", "", "", false)
def tyJx5ef63 : Nat → FieldType := fun k => match k with
  | _ => .int
theorem nmJx5ef63 : ∀ a, a < 0 → ∀ b, b < 0 → a ≠ b → (TJx5ef63 a).2.1 ≠ (TJx5ef63 b).2.1 := by decide +kernel
theorem tyJx5ef63_ok : ∀ k, k < 0 → parseFieldDescriptor (TJx5ef63 k).2.2.1 = some (tyJx5ef63 k) := by decide +kernel
def RJxbd725 : String := "java/util/List"
def TJxbd725 : u_T := fun k => match k with
  | _ => ("", "", "", false)
def tyJxbd725 : Nat → FieldType := fun k => match k with
  | _ => .int
theorem nmJxbd725 : ∀ a, a < 0 → ∀ b, b < 0 → a ≠ b → (TJxbd725 a).2.1 ≠ (TJxbd725 b).2.1 := by decide +kernel
theorem tyJxbd725_ok : ∀ k, k < 0 → parseFieldDescriptor (TJxbd725 k).2.2.1 = some (tyJxbd725 k) := by decide +kernel
def RJ15 : String := "java/util/Objects"
def TJ15 : u_T := fun k => match k with
  | _ => ("", "", "", false)
def tyJ15 : Nat → FieldType := fun k => match k with
  | _ => .int
theorem nmJ15 : ∀ a, a < 0 → ∀ b, b < 0 → a ≠ b → (TJ15 a).2.1 ≠ (TJ15 b).2.1 := by decide +kernel
theorem tyJ15_ok : ∀ k, k < 0 → parseFieldDescriptor (TJ15 k).2.2.1 = some (tyJ15 k) := by decide +kernel
abbrev cJ15_checkIndex_7cf53 : ByteArray := prog_29_method_17_code
def yJ15_checkIndex_7cf53 : MethodName := ⟨RJ15, "checkIndex", "(II)I"⟩
def RJxf0a74 : String := "java/util/RandomAccess"
def TJxf0a74 : u_T := fun k => match k with
  | _ => ("", "", "", false)
def tyJxf0a74 : Nat → FieldType := fun k => match k with
  | _ => .int
theorem nmJxf0a74 : ∀ a, a < 0 → ∀ b, b < 0 → a ≠ b → (TJxf0a74 a).2.1 ≠ (TJxf0a74 b).2.1 := by decide +kernel
theorem tyJxf0a74_ok : ∀ k, k < 0 → parseFieldDescriptor (TJxf0a74 k).2.2.1 = some (tyJxf0a74 k) := by decide +kernel
def RJxa66e6 : String := "java/util/SequencedCollection"
def TJxa66e6 : u_T := fun k => match k with
  | _ => ("", "", "", false)
def tyJxa66e6 : Nat → FieldType := fun k => match k with
  | _ => .int
theorem nmJxa66e6 : ∀ a, a < 0 → ∀ b, b < 0 → a ≠ b → (TJxa66e6 a).2.1 ≠ (TJxa66e6 b).2.1 := by decide +kernel
theorem tyJxa66e6_ok : ∀ k, k < 0 → parseFieldDescriptor (TJxa66e6 k).2.2.1 = some (tyJxa66e6 k) := by decide +kernel
def RJ8 : String := "jdk/internal/util/ArraysSupport"
def TJ8 : u_T := fun k => match k with
  | _ => ("", "", "", false)
def tyJ8 : Nat → FieldType := fun k => match k with
  | _ => .int
theorem nmJ8 : ∀ a, a < 0 → ∀ b, b < 0 → a ≠ b → (TJ8 a).2.1 ≠ (TJ8 b).2.1 := by decide +kernel
theorem tyJ8_ok : ∀ k, k < 0 → parseFieldDescriptor (TJ8 k).2.2.1 = some (tyJ8 k) := by decide +kernel
abbrev cJ8_newLength_cabcc : ByteArray := prog_32_method_27_code
def yJ8_newLength_cabcc : MethodName := ⟨RJ8, "newLength", "(III)I"⟩
abbrev cJ8_hugeLength_7cf53 : ByteArray := prog_32_method_28_code
def yJ8_hugeLength_7cf53 : MethodName := ⟨RJ8, "hugeLength", "(II)I"⟩
def RJ3 : String := "jdk/internal/util/Preconditions"
def TJ3 : u_T := fun k => match k with
  | _ => ("", "", "", false)
def tyJ3 : Nat → FieldType := fun k => match k with
  | _ => .int
theorem nmJ3 : ∀ a, a < 0 → ∀ b, b < 0 → a ≠ b → (TJ3 a).2.1 ≠ (TJ3 b).2.1 := by decide +kernel
theorem tyJ3_ok : ∀ k, k < 0 → parseFieldDescriptor (TJ3 k).2.2.1 = some (tyJ3 k) := by decide +kernel
abbrev cJ3_checkIndex_8e157 : ByteArray := prog_33_method_11_code
def yJ3_checkIndex_8e157 : MethodName := ⟨RJ3, "checkIndex", "(IILjava/util/function/BiFunction;)I"⟩
def RL : String := "RoamBooksLaw"
abbrev cL_reach : ByteArray := method_3_code
def yL_reach : MethodName := ⟨RL, "reach", "(LRoamBooks;II[J)I"⟩
abbrev cL_dead : ByteArray := method_4_code
def yL_dead : MethodName := ⟨RL, "dead", "(LRoamBooks;IZ[J)I"⟩
abbrev cL_agree : ByteArray := method_5_code
def yL_agree : MethodName := ⟨RL, "agree", "(LRoamBooks;IIIIIII[J)I"⟩
abbrev cL_steer : ByteArray := method_6_code
def yL_steer : MethodName := ⟨RL, "steer", "(LRoamBooks;II[J)I"⟩
abbrev cL_prices : ByteArray := method_7_code
def yL_prices : MethodName := ⟨RL, "prices", "(LRoamBooks;IIII)I"⟩
abbrev cL_lose : ByteArray := method_8_code
def yL_lose : MethodName := ⟨RL, "lose", "(LRoamBooks;II[J)I"⟩
abbrev cL_crash : ByteArray := method_9_code
def yL_crash : MethodName := ⟨RL, "crash", "(LRoamBooks;I[J)I"⟩
abbrev cL_subscriber : ByteArray := method_10_code
def yL_subscriber : MethodName := ⟨RL, "subscriber", "(LRoamBooks;III[J)I"⟩
abbrev cL_move : ByteArray := method_11_code
def yL_move : MethodName := ⟨RL, "move", "(LRoamBooks;II[J)I"⟩
abbrev cL_off : ByteArray := method_12_code
def yL_off : MethodName := ⟨RL, "off", "(LRoamBooks;I[J)I"⟩
abbrev cL_attach : ByteArray := method_13_code
def yL_attach : MethodName := ⟨RL, "attach", "(LRoamBooks;II[J)I"⟩
abbrev cL_emergency : ByteArray := method_14_code
def yL_emergency : MethodName := ⟨RL, "emergency", "(LRoamBooks;I[J)I"⟩
abbrev cL_where : ByteArray := method_15_code
def yL_where : MethodName := ⟨RL, "where", "(LRoamBooks;I[J)I"⟩
abbrev cL_contact : ByteArray := method_16_code
def yL_contact : MethodName := ⟨RL, "contact", "(LRoamBooks;II[J)I"⟩
abbrev cL_agrees : ByteArray := method_17_code
def yL_agrees : MethodName := ⟨RL, "agrees", "(LRoamBooks;I[J)I"⟩
abbrev cL_subscriberIs : ByteArray := method_18_code
def yL_subscriberIs : MethodName := ⟨RL, "subscriberIs", "(LRoamBooks;II[J)I"⟩
abbrev cL_cap : ByteArray := method_19_code
def yL_cap : MethodName := ⟨RL, "cap", "(LRoamBooks;IIZ)I"⟩
abbrev cL_call : ByteArray := method_20_code
def yL_call : MethodName := ⟨RL, "call", "(LRoamBooks;III[J)I"⟩
abbrev cL_paidAnew : ByteArray := method_21_code
def yL_paidAnew : MethodName := ⟨RL, "paidAnew", "(LRoamBooks;I[J)I"⟩
abbrev cL_file : ByteArray := method_22_code
def yL_file : MethodName := ⟨RL, "file", "(LRoamBooks;II[J)I"⟩
abbrev cL_deliver : ByteArray := method_23_code
def yL_deliver : MethodName := ⟨RL, "deliver", "(LRoamBooks;III[J)I"⟩
abbrev cL_owes : ByteArray := method_24_code
def yL_owes : MethodName := ⟨RL, "owes", "(LRoamBooks;II[J)I"⟩
abbrev cL_owesAnew : ByteArray := method_25_code
def yL_owesAnew : MethodName := ⟨RL, "owesAnew", "(LRoamBooks;II[J)I"⟩
abbrev cL_recorded : ByteArray := method_26_code
def yL_recorded : MethodName := ⟨RL, "recorded", "(LRoamBooks;III[J)I"⟩
abbrev cL_pass : ByteArray := method_27_code
def yL_pass : MethodName := ⟨RL, "pass", "(LRoamBooks;I[J)I"⟩
abbrev cL_law : ByteArray := code
def yL_law : MethodName := ⟨RL, "law", "([I)Z"⟩
abbrev vwCl : List vw_C := [(RJx4a65c, TJx4a65c, 3), (RX0, TX0, 3), (RX1, TX1, 7), (RX2, TX2, 1), (RX3, TX3, 4), (RX4, TX4, 5), (RX5, TX5, 7), (RX6, TX6, 11), (RX7, TX7, 7), (RX8, TX8, 39)]
end
section
/-! THE ENGINE: heaps by roles. A role (r : rb_R) names a cell; 'ad' says at which address it lies. A world G holds what the cells hold, in terms of roles. -/
abbrev rb_R : Type := Nat × Nat × Nat
abbrev rb_V : Type := Int32 ⊕ (Option rb_R ⊕ Int64)
abbrev rbI (x : Int32) : rb_V := .inl x
abbrev rbO (o : Option rb_R) : rb_V := .inr (.inl o)
abbrev rbR (r : rb_R) : rb_V := .inr (.inl (some r))
abbrev rbL (x : Int64) : rb_V := .inr (.inr x)
def rb_c (ad : rb_R → Nat) (v : rb_V) : Value := match v with
  | .inl x => .int x
  | .inr (.inl o) => va_rf (o.map ad)
  | .inr (.inr x) => .long x
def rb_cat (v : rb_V) : Nat := match v with
  | .inr (.inr _) => 2
  | _ => 1
theorem rb_cat_c (ad : rb_R → Nat) (v : rb_V) : (rb_c ad v).category = rb_cat v := by
  rcases v with x | o | x
  · rfl
  · cases o <;> rfl
  · rfl
/-- domain, lengths of arrays, ints, references, longs -/
abbrev rb_G : Type := (rb_R → Prop) × (rb_R → Nat) × (rb_R → Nat → Int32) × (rb_R → Nat → Option rb_R) × (rb_R → Nat → Int64)
def gD (G : rb_G) : rb_R → Prop := G.1
def gN (G : rb_G) : rb_R → Nat := G.2.1
def gI (G : rb_G) : rb_R → Nat → Int32 := G.2.2.1
def gP (G : rb_G) : rb_R → Nat → Option rb_R := G.2.2.2.1
def gJ (G : rb_G) : rb_R → Nat → Int64 := G.2.2.2.2
def up2 {α : Type} (f : rb_R → Nat → α) (r : rb_R) (k : Nat) (v : α) : rb_R → Nat → α := fun r' k' => if r' = r ∧ k' = k then v else f r' k'
def sI (G : rb_G) (r : rb_R) (k : Nat) (v : Int32) : rb_G := (gD G, gN G, up2 (gI G) r k v, gP G, gJ G)
def sP (G : rb_G) (r : rb_R) (k : Nat) (v : Option rb_R) : rb_G := (gD G, gN G, gI G, up2 (gP G) r k v, gJ G)
def sJ (G : rb_G) (r : rb_R) (k : Nat) (v : Int64) : rb_G := (gD G, gN G, gI G, gP G, up2 (gJ G) r k v)
/-- a new cell of length n, blank -/
def sN (G : rb_G) (r : rb_R) (n : Nat) : rb_G := (fun x => x = r ∨ gD G x, fun x => if x = r then n else gN G x, fun x k => if x = r then 0 else gI G x k, fun x k => if x = r then none else gP G x k, fun x k => if x = r then 0 else gJ G x k)
/-- a role whose cell is of no concern -/
def sO (G : rb_G) (r : rb_R) : rb_G := (fun x => x = r ∨ gD G x, gN G, gI G, gP G, gJ G)
theorem up2_s {α : Type} (f : rb_R → Nat → α) (r : rb_R) (k : Nat) (v : α) : up2 f r k v r k = v := by simp [up2]
theorem up2_n {α : Type} (f : rb_R → Nat → α) (r : rb_R) (k : Nat) (v : α) {r' : rb_R} {k' : Nat} (h : ¬ (r' = r ∧ k' = k)) : up2 f r k v r' k' = f r' k' := by simp [up2, h]
/-- the kind of a role by its family: a class of vwCl (below 10), 10 int[], 11 boolean[], 12 long[], 13 Object[], 14 Network[], 15 Account[], 20 no concern -/
def rb_k (f : Nat) : Nat := [8, 10, 14, 15, 0, 6, 3, 10, 1, 7, 2, 4, 5, 13, 10, 11, 9, 12].getD f 20
def rb_lay (k : Nat) : List Bool := [[false, true, false], [true, false, false], [false, false, false, false, false, false, false], [true], [false, false, false, false], [false, false, true, false, false], [true, false, false, false, false, false, false], [false, false, false, false, false, false, false, false, false, false, false], [true, true, true, true, true, true, false], [false, false, true, true, true, true, true, false, true, true, true, true, true, true, true, false, true, true, true, true, true, true, true, true, true, true, true, true, false, false, true, true, true, true, true, true, true, true, true]].getD k []
def rb_vals (cv : rb_V → Value) : List Bool → Nat → (Nat → Int32) → (Nat → Option rb_R) → List Value
  | [], _, _, _ => []
  | b :: t, k, I, P => (if b = true then cv (rbO (P k)) else cv (rbI (I k))) :: rb_vals cv t (k + 1) I P
theorem rb_vals_get (cv : rb_V → Value) (I : Nat → Int32) (P : Nat → Option rb_R) : ∀ (l : List Bool) (k0 k : Nat), (rb_vals cv l k0 I P)[k]? = (l[k]?).map (fun b => if b = true then cv (rbO (P (k0 + k))) else cv (rbI (I (k0 + k)))) := by
  intro l
  induction l with
  | nil => intro k0 k; simp [rb_vals]
  | cons b t ih =>
    intro k0 k
    cases k with
    | zero => simp [rb_vals]
    | succ k =>
      simp only [rb_vals, List.getElem?_cons_succ]
      rw [ih (k0 + 1) k, show k0 + 1 + k = k0 + (k + 1) by omega]
theorem rb_vals_len (cv : rb_V → Value) (I : Nat → Int32) (P : Nat → Option rb_R) : ∀ (l : List Bool) (k0 : Nat), (rb_vals cv l k0 I P).length = l.length := by
  intro l
  induction l with
  | nil => intro k0; rfl
  | cons b t ih => intro k0; simp [rb_vals, ih]
theorem rb_vals_setI (cv : rb_V → Value) (I I' : Nat → Int32) (P : Nat → Option rb_R) (l : List Bool) (k : Nat) (v : Int32) (hb : l[k]? = some false) (h1 : I' k = v) (h2 : ∀ j, j ≠ k → I' j = I j) : (rb_vals cv l 0 I P).set k (cv (rbI v)) = rb_vals cv l 0 I' P := by
  apply List.ext_getElem?
  intro j
  have hlt : k < (rb_vals cv l 0 I P).length := by rw [rb_vals_len]; exact (List.getElem?_eq_some_iff.mp hb).1
  by_cases hj : j = k
  · subst hj
    rw [List.getElem?_set_self hlt, rb_vals_get, hb]
    simp [h1]
  · rw [List.getElem?_set_ne (Ne.symm hj), rb_vals_get, rb_vals_get]
    simp only [Nat.zero_add]
    rw [h2 j hj]
theorem rb_vals_setP (cv : rb_V → Value) (I : Nat → Int32) (P P' : Nat → Option rb_R) (l : List Bool) (k : Nat) (v : Option rb_R) (hb : l[k]? = some true) (h1 : P' k = v) (h2 : ∀ j, j ≠ k → P' j = P j) : (rb_vals cv l 0 I P).set k (cv (rbO v)) = rb_vals cv l 0 I P' := by
  apply List.ext_getElem?
  intro j
  have hlt : k < (rb_vals cv l 0 I P).length := by rw [rb_vals_len]; exact (List.getElem?_eq_some_iff.mp hb).1
  by_cases hj : j = k
  · subst hj
    rw [List.getElem?_set_self hlt, rb_vals_get, hb]
    simp [h1]
  · rw [List.getElem?_set_ne (Ne.symm hj), rb_vals_get, rb_vals_get]
    simp only [Nat.zero_add]
    rw [h2 j hj]
/-- what lies at a role's address -/
def rb_e (ad : rb_R → Nat) (cA : Nat → ClassId) (G : rb_G) (r : rb_R) : va_E :=
  if rb_k r.1 < 10 then .inr (rb_k r.1, rb_vals (rb_c ad) (rb_lay (rb_k r.1)) 0 (gI G r) (gP G r))
  else if rb_k r.1 < 12 then .inl (cA (rb_k r.1), gN G r, .inl (gI G r))
  else if rb_k r.1 = 12 then .inl (cA 12, gN G r, .inr (.inl (gJ G r)))
  else .inl (cA (rb_k r.1), gN G r, .inr (.inr (.inr (.inr (fun j => (gP G r j).map ad)))))
/-- the classes' ids and slots, the arrays' classes, the address of ArrayList's empty row, the script's address, the address of Object[]'s class object -/
abbrev rb_X : Type := va_G × (Nat → ClassId) × Nat × Nat × Nat
def rb_tys (cA : Nat → ClassId) : List (ClassId × FieldType) := [(cA 10, .int), (cA 11, .boolean), (cA 12, .long), (cA 13, .object "java/lang/Object"), (cA 14, .object RX5), (cA 15, .object RX0)]
def rb_P (X : rb_X) (ad : rb_R → Nat) (A : Nat → Prop) (G : rb_G) (H : Heap) : Prop :=
  (∀ r, gD G r → rb_k r.1 < 20 → A (ad r) ∧ va_at X.1 vwCl (ad r, rb_e ad X.2.1 G r) H) ∧
  (∀ r r', gD G r → gD G r' → rb_k r.1 < 20 → rb_k r'.1 < 20 → ad r = ad r' → r = r') ∧
  (∀ r k r', gD G r → gP G r k = some r' → gD G r') ∧ ad (19, 0, 0) = X.2.2.1 ∧ ad (18, 0, 0) = X.2.2.2.1 ∧ ad (21, 0, 0) = X.2.2.2.2
def rb_nx (G : rb_G) (ad : rb_R → Nat) (G' : rb_G) (ad' : rb_R → Nat) : Prop := ∀ r, gD G r → gD G' r ∧ ad' r = ad r
theorem rb_nx.rf {G : rb_G} {ad : rb_R → Nat} : rb_nx G ad G ad := fun _ h => ⟨h, rfl⟩
theorem rb_nx.tr {G1 G2 G3 : rb_G} {a1 a2 a3 : rb_R → Nat} (h : rb_nx G1 a1 G2 a2) (h' : rb_nx G2 a2 G3 a3) : rb_nx G1 a1 G3 a3 := fun r hr => ⟨(h' r (h r hr).1).1, ((h' r (h r hr).1).2).trans (h r hr).2⟩
def rb_ok (G : rb_G) (v : rb_V) : Prop := ∀ r, v = rbR r → gD G r
theorem rb_ok_i (G : rb_G) (x : Int32) : rb_ok G (rbI x) := fun r h => by cases h
theorem rb_ok_l (G : rb_G) (x : Int64) : rb_ok G (rbL x) := fun r h => by cases h
theorem rb_ok_n (G : rb_G) : rb_ok G (rbO none) := fun r h => by cases h
theorem rb_ok_r {G : rb_G} {r : rb_R} (h : gD G r) : rb_ok G (rbR r) := fun r' h' => by cases h'; exact h
theorem rb_ok.mono {G G' : rb_G} {v : rb_V} (h : rb_ok G v) (hm : ∀ r, gD G r → gD G' r) : rb_ok G' v := fun r e => hm r (h r e)
theorem rb_c_nx {G G' : rb_G} {ad ad' : rb_R → Nat} (hn : rb_nx G ad G' ad') {v : rb_V} (h : rb_ok G v) : rb_c ad' v = rb_c ad v := by
  rcases v with x | o | x
  · rfl
  · cases o with
    | none => rfl
    | some r => show Value.ref (ad' r) = Value.ref (ad r); rw [(hn r (h r rfl)).2]
  · rfl
def rb_okL (G : rb_G) (st : List rb_V) : Prop := ∀ v ∈ st, rb_ok G v
def rb_okO (G : rb_G) (Lv : List (Option rb_V)) : Prop := ∀ v, some v ∈ Lv → rb_ok G v
theorem rb_okL.mono {G G' : rb_G} {st : List rb_V} (h : rb_okL G st) (hm : ∀ r, gD G r → gD G' r) : rb_okL G' st := fun v hv => (h v hv).mono hm
theorem rb_okO.mono {G G' : rb_G} {Lv : List (Option rb_V)} (h : rb_okO G Lv) (hm : ∀ r, gD G r → gD G' r) : rb_okO G' Lv := fun v hv => (h v hv).mono hm
theorem rb_okL.cons {G : rb_G} {v : rb_V} {st : List rb_V} (h : rb_okL G st) (hv : rb_ok G v) : rb_okL G (v :: st) := List.forall_mem_cons.mpr ⟨hv, h⟩
theorem rb_okL.tl {G : rb_G} {v : rb_V} {st : List rb_V} (h : rb_okL G (v :: st)) : rb_okL G st := (List.forall_mem_cons.mp h).2
theorem rb_okL.hd {G : rb_G} {v : rb_V} {st : List rb_V} (h : rb_okL G (v :: st)) : rb_ok G v := (List.forall_mem_cons.mp h).1
theorem rb_map_nx {G G' : rb_G} {ad ad' : rb_R → Nat} (hn : rb_nx G ad G' ad') {st : List rb_V} (h : rb_okL G st) : st.map (rb_c ad') = st.map (rb_c ad) := List.map_congr_left fun v hv => rb_c_nx hn (h v hv)
/-- the locals as an association list -/
def rb_al (ad : rb_R → Nat) : Nat → List (Option rb_V) → List (Nat × Value)
  | _, [] => []
  | i, none :: t => rb_al ad (i + 1) t
  | i, some v :: t => (i, rb_c ad v) :: rb_al ad (i + 1) t
theorem rb_al_mem (ad : rb_R → Nat) : ∀ (Lv : List (Option rb_V)) (i0 : Nat) (q : Nat × Value), q ∈ rb_al ad i0 Lv ↔ ∃ (k : Nat) (v : rb_V), Lv[k]? = some (some v) ∧ q = (i0 + k, rb_c ad v) := by
  intro Lv
  induction Lv with
  | nil => intro i0 q; simp [rb_al]
  | cons o t ih =>
    intro i0 q
    have ih' := ih (i0 + 1) q
    have key : (∃ (k : Nat) (v : rb_V), t[k]? = some (some v) ∧ q = (i0 + 1 + k, rb_c ad v)) ↔ ∃ (k : Nat) (v : rb_V), 0 < k ∧ (o :: t)[k]? = some (some v) ∧ q = (i0 + k, rb_c ad v) := by
      constructor
      · rintro ⟨k, v, h1, h2⟩
        exact ⟨k + 1, v, by omega, by simpa using h1, by rw [h2]; congr 1; omega⟩
      · rintro ⟨k, v, h0, h1, h2⟩
        obtain ⟨j, rfl⟩ : ∃ j, k = j + 1 := ⟨k - 1, by omega⟩
        exact ⟨j, v, by simpa using h1, by rw [h2]; congr 1; omega⟩
    cases o with
    | none =>
      simp only [rb_al]
      rw [ih', key]
      constructor
      · rintro ⟨k, v, -, h1, h2⟩; exact ⟨k, v, h1, h2⟩
      · rintro ⟨k, v, h1, h2⟩
        refine ⟨k, v, ?_, h1, h2⟩
        cases k with
        | zero => simp at h1
        | succ k => omega
    | some w =>
      simp only [rb_al, List.mem_cons]
      rw [ih', key]
      constructor
      · rintro (h | ⟨k, v, -, h1, h2⟩)
        · exact ⟨0, w, by simp, by rw [h]; simp⟩
        · exact ⟨k, v, h1, h2⟩
      · rintro ⟨k, v, h1, h2⟩
        cases k with
        | zero => simp at h1; subst h1; exact Or.inl (by rw [h2]; simp)
        | succ k => exact Or.inr ⟨k + 1, v, by omega, h1, h2⟩
def rb_ls (ad : rb_R → Nat) (ls : Array Slot) (Lv : List (Option rb_V)) : Prop := lv_has ls Lv.length (rb_al ad 0 Lv)
theorem rb_ls.get {ad : rb_R → Nat} {ls : Array Slot} {Lv : List (Option rb_V)} (h : rb_ls ad ls Lv) {i : Nat} {v : rb_V} (hi : Lv[i]? = some (some v)) : ls[i]? = some (.val (rb_c ad v)) := by
  have := h.2.2 (i, rb_c ad v) ((rb_al_mem ad Lv 0 _).mpr ⟨i, v, hi, by rw [Nat.zero_add]⟩)
  exact this
/-- fewer locals known -/
theorem rb_ls.weak {ad : rb_R → Nat} {ls : Array Slot} {Lv Lv' : List (Option rb_V)} (h : rb_ls ad ls Lv) (hl : Lv'.length = Lv.length) (hs : ∀ (i : Nat) (v : rb_V), Lv'[i]? = some (some v) → Lv[i]? = some (some v)) : rb_ls ad ls Lv' := by
  refine ⟨by rw [h.1, hl], h.2.1, fun q hq => ?_⟩
  obtain ⟨k, v, h1, rfl⟩ := (rb_al_mem ad Lv' 0 q).mp hq
  exact h.2.2 _ ((rb_al_mem ad Lv 0 _).mpr ⟨k, v, hs k v h1, rfl⟩)
/-- what a store leaves -/
theorem rb_ls.store {ad : rb_R → Nat} {ls' : Array Slot} {Lv : List (Option rb_V)} {i : Nat} {v : rb_V} (hi : i < Lv.length)
    (h : lv_has ls' Lv.length ((i, rb_c ad v) :: (rb_al ad 0 Lv).filter (fun q => !(q.1 == i) && !(q.1 + 1 == i && q.2.category == 2)))) (hc : ∀ w, some w ∈ Lv → rb_cat w = 1) : rb_ls ad ls' (Lv.set i (some v)) := by
  refine ⟨by rw [h.1, List.length_set], h.2.1, fun q hq => ?_⟩
  obtain ⟨k, w, h1, rfl⟩ := (rb_al_mem ad _ 0 q).mp hq
  apply h.2.2
  by_cases hk : k = i
  · subst hk
    rw [List.getElem?_set_self hi] at h1
    cases h1
    rw [Nat.zero_add]
    exact List.mem_cons_self
  · rw [List.getElem?_set_ne (Ne.symm hk)] at h1
    refine List.mem_cons_of_mem _ (List.mem_filter.mpr ⟨(rb_al_mem ad Lv 0 _).mpr ⟨k, w, h1, rfl⟩, ?_⟩)
    have hcw : (rb_c ad w).category = 1 := by rw [rb_cat_c]; exact hc w (List.mem_of_getElem? h1)
    simp [hcw, hk]
/-- the words of the tables that stay -/
def TS : List Cond := lw_tbl.filter goodWord
theorem ts_mem {w : Cond} (i : Nat) (h : lw_tbl[i]? = some w) (hg : goodWord w = true) : w ∈ TS := List.mem_filter.mpr ⟨List.mem_of_getElem? h, hg⟩
theorem ts_good : GoodIn TS TS := fun w hw => ⟨hw, good_of_word (List.mem_filter.mp hw).2⟩
theorem ts_code {c : Cond} (h : c ∈ TS) : GoodIn TS (c :: TS) := fun w hw => (List.mem_cons.mp hw).elim (fun e => by rw [e]; exact ts_good c h) (fun h => ts_good w h)
def rb_cst : List (String × String) := [("RoamBooks$Agreement", "java/lang/Object"), ("RoamBooks$Subscriber", "java/lang/Object"), ("RoamBooks$Call", "java/lang/Object"), ("RoamBooks$CallRecord", "java/lang/Object"), ("java/lang/IndexOutOfBoundsException", "java/lang/IndexOutOfBoundsException"), ("java/lang/IllegalArgumentException", "java/lang/IllegalArgumentException"), ("java/lang/IllegalStateException", "java/lang/IllegalStateException")]
def rb_ncs : List (String × String) := [("java/lang/IllegalArgumentException", "java/lang/IndexOutOfBoundsException"), ("java/lang/IllegalStateException", "java/lang/IndexOutOfBoundsException"), ("java/lang/IllegalStateException", "java/lang/IllegalArgumentException")]
def rb_strs : List (Nat × String) := [(281, "no such place"), (273, "an argument is out of range"), (279, "no such network"), (275, "both are the same"), (277, "there are as many as there may be"), (283, "no such subscriber"), (147, "it is attached to that network"), (196, "what is out of range"), (235, "no records are left to file"), (245, "no such file"), (264, "time ends before that")]
def rb_dcl : List MethodName := [⟨"java/lang/RuntimeException", "<init>", "(Ljava/lang/String;)V"⟩, ⟨"java/lang/Exception", "<init>", "(Ljava/lang/String;)V"⟩, ⟨"java/lang/Throwable", "<init>", "(Ljava/lang/String;)V"⟩]
/-- what the tables say, besides the words that stay -/
def rb_K1 (X : rb_X) (U : State) : Prop :=
  va_K X.1 vwCl (rb_tys X.2.1) U ∧ (∀ C ∈ ["java/lang/Object", RX5, RX0], va_AO C U) ∧ (∀ q ∈ rb_cst, va_Nw (.castable q.1 q.2) U) ∧ (∀ q ∈ rb_ncs, va_Nc q.1 q.2 U) ∧
  (∀ q ∈ rb_strs, ∃ a, vk_R RX7 q.1 q.2 a U) ∧ va_Nw (.methodLinkNest RX7 38 yX5_init RX7) U ∧ va_Nw (.methodLinkNest RX7 39 yX0_init RX7) U ∧ va_Mi "[Ljava/lang/Object;" X.2.2.2.2 U ∧ va_Dc U ∧ (∀ y ∈ rb_dcl, va_Nw (.declares y) U)
theorem rb_K1.warm {X : rb_X} {s U : State} (hW : s.WarmedH U.vm) (h : rb_K1 X s) : rb_K1 X U :=
  ⟨va_K.moved hW.alike h.1, fun C hC => va_AO.moved hW.alike (h.2.1 C hC), fun q hq => va_Nw.warmC hW (h.2.2.1 q hq), fun q hq => va_Nc.moved hW.alike (h.2.2.2.1 q hq), fun q hq => (h.2.2.2.2.1 q hq).imp fun _ h => vk_R.warm hW h,
   va_Nw.warmM hW h.2.2.2.2.2.1, va_Nw.warmM hW h.2.2.2.2.2.2.1, va_Mi.moved hW.alike h.2.2.2.2.2.2.2.1, va_Dc.moved hW.alike h.2.2.2.2.2.2.2.2.1, fun y hy => va_Nw.warmD hW (h.2.2.2.2.2.2.2.2.2 y hy)⟩
/-- what lies outside of the world -/
def rb_K2 (X : rb_X) (A : Nat → Prop) (U : State) (H : Heap) : Prop :=
  vx_Zq Bundle.tN "UNASSIGNED_STACK" Bundle.steD A U H ∧ vx_Zq Bundle.tN "SUPPRESSED_SENTINEL" Bundle.listD A U H ∧ va_Z "java/util/ArrayList" "DEFAULTCAPACITY_EMPTY_ELEMENTDATA" "[Ljava/lang/Object;" (.ref X.2.2.1) A U H ∧
  va_T (.object "java/lang/Object") X.2.2.1 0 (fun _ => .null) A U H
theorem rb_K2.moved {X : rb_X} {A : Nat → Prop} {u U : State} {H H1 : Heap} (hvm : u.vm.Alike U.vm) (h : rb_K2 X A u H) (hq : ∀ a : Nat, a < H.size → ¬ A a → H1[a]? = H[a]?) : rb_K2 X A U H1 :=
  ⟨vx_Zq.moved hvm (h.1.kept hq), vx_Zq.moved hvm (h.2.1.kept hq), va_Z.moved hvm (h.2.2.1.kept hq), va_T.moved hvm (h.2.2.2.kept hq)⟩
/-- the walk's constants -/
abbrev rb_F : Type := Program × Launch × Env × Room × State × MethodId × Array Value × List Frame × Method × Code × (State → Prop) × rb_X × (Nat → Prop) × (rb_R → Nat) × rb_G
def rb_W (Φ : rb_F) (cells slots : Nat) (pc : Nat) (Lv : List (Option rb_V)) (st : List rb_V) (G : rb_G) : Prop := match Φ with
  | (p, l, e, R, s, m, args, below, meth, c, Q, X, A, ad0, G0) => ∀ (ad : rb_R → Nat) (H : Heap) (locs : List Loc) (ls : Array Slot), rb_P X ad A G H → rb_nx G0 ad0 G ad → va_S A s.heap H locs → rb_ls ad ls Lv → rb_okL G st → rb_okO G Lv →
      W p l e R s m args below meth c H locs cells slots Q (F0 m pc ls (st.map (rb_c ad)))
/-- thrown over the method's frame: an exception of class E -/
def rb_Wx (Φ : rb_F) (cells slots : Nat) (pc : Nat) (Lv : List (Option rb_V)) (st : List rb_V) (G : rb_G) (E : String) : Prop := match Φ with
  | (p, l, e, R, s, m, args, below, meth, c, Q, X, A, ad0, G0) => ∀ (ad : rb_R → Nat) (H : Heap) (locs : List Loc) (ls : Array Slot) (q : Addr) (ce : Cell), rb_P X ad A G H → rb_nx G0 ad0 G ad → va_S A s.heap H locs → rb_ls ad ls Lv → rb_okL G st → rb_okO G Lv →
      H[q]? = some ce → ce.vm = .none → s.vm.findClass E = some ce.cls → vx_W p l e R s m args below meth c H locs cells slots Q (F0 m pc ls (st.map (rb_c ad))) q
/-- what holds in a body -/
def rb_C (Φ : rb_F) (own : String) (cc : ByteArray) (nL fr lo mc ms : Nat) : Prop := match Φ with
  | (p, l, _, R, s, m, args, _, meth, c, _, X, A, _, _) => p.tables.exec = Jvm.exec ∧ c.code = cc ∧ c.maxLocals = nL ∧ s.vm.findClass own = some m.cls ∧ (∀ w ∈ TS, w.before args s = true) ∧ meth.locks = false ∧
      R = { frames := fr, cells := mc, slots := ms, locals := lo } ∧ l.stackTraces = false ∧ rb_K1 X s ∧ rb_K2 X A s s.heap ∧ ∀ q, s.heap.size ≤ q → A q
/-- how a method may end -/
def rb_Q (X : rb_X) (A : Nat → Prop) (ad : rb_R → Nat) (G : rb_G) (Post : Option rb_V → rb_G → Prop) : Array Value → State → Outcome → State → Prop := fun _ st oc t =>
  (∃ (v : Option rb_V) (G' : rb_G) (ad' : rb_R → Nat), oc = .returned (v.map (rb_c ad')) ∧ Post v G' ∧ rb_nx G ad G' ad' ∧ (∀ w, v = some w → rb_ok G' w) ∧ rb_P X ad' A G' t.heap) ∧ va_F A st t
def rb_QX (X : rb_X) (A : Nat → Prop) (ad : rb_R → Nat) (G : rb_G) (PX : String → rb_G → Prop) : String → State → State → Prop := fun E st t =>
  (∃ (G' : rb_G) (ad' : rb_R → Nat), PX E G' ∧ rb_nx G ad G' ad' ∧ rb_P X ad' A G' t.heap) ∧ va_F A st t
def rb_In (X : rb_X) (A : Nat → Prop) (ad : rb_R → Nat) (av : List rb_V) (G : rb_G) (U : State) : Prop :=
  (∀ q, U.heap.size ≤ q → A q) ∧ rb_P X ad A G U.heap ∧ rb_K1 X U ∧ rb_K2 X A U U.heap ∧ rb_okL G av
/-- the contract of a method that may throw; of one that doesn't -/
def rb_M (l : Launch) (X : rb_X) (y : MethodName) (w : Cond) (fr lo mc ms : Nat) (av : List rb_V) (G : rb_G) (Post : Option rb_V → rb_G → Prop) (PX : String → rb_G → Prop) : Prop :=
  l.stackTraces = false → ∀ (A : Nat → Prop) (ad : rb_R → Nat), vx_Met l y (w :: TS) { frames := fr, cells := mc, slots := ms, locals := lo } (va_Pc (av.map (rb_c ad)) (rb_In X A ad av G)) (rb_Q X A ad G Post) (rb_QX X A ad G PX) mc ms A
def rb_N (l : Launch) (X : rb_X) (y : MethodName) (w : Cond) (fr lo mc ms : Nat) (av : List rb_V) (G : rb_G) (Post : Option rb_V → rb_G → Prop) : Prop :=
  l.stackTraces = false → ∀ (A : Nat → Prop) (ad : rb_R → Nat), Met l y (w :: TS) { frames := fr, cells := mc, slots := ms, locals := lo } (va_Pc (av.map (rb_c ad)) (rb_In X A ad av G)) (rb_Q X A ad G Post) mc ms A
theorem rb_N.m {l : Launch} {X : rb_X} {y : MethodName} {w : Cond} {fr lo mc ms : Nat} {av : List rb_V} {G : rb_G} {Post : Option rb_V → rb_G → Prop} (h : rb_N l X y w fr lo mc ms av G Post) : rb_M l X y w fr lo mc ms av G Post (fun _ _ => False) := by
  intro hl A ad p e h1 h2 h3 s m args below h4 h5 h6 h7
  obtain ⟨n, o, g1, g2, g3, g4, g5⟩ := h hl A ad p e h1 h2 h3 s m args below h4 h5 h6 h7
  exact ⟨n, o, g1, g2, g3, Or.inl ⟨g4, g5⟩⟩
/-- the walk's end, as the contract wants it -/
def rb_E (Φ : rb_F) (ret : Option FieldType) (Post : Option rb_V → rb_G → Prop) (mc ms : Nat) : Prop := match Φ with
  | (p, l, e, R, s, m, args, below, meth, c, Q, X, A, ad0, G0) => meth.sig.returnType = ret ∧ ∀ (H : Heap) (locs : List Loc) (g : JFrame), W p l e R s m args below meth c H locs mc ms (MQ below (rb_Q X A ad0 G0 Post) args s mc ms A) g → W p l e R s m args below meth c H locs mc ms Q g
def rb_EX (Φ : rb_F) (PX : String → rb_G → Prop) (mc ms : Nat) : Prop := match Φ with
  | (_, _, _, _, s, _, args, below, _, c, Q, X, A, ad0, G0) => (∀ x ∈ c.exceptionTable.toList, False) ∧ ∃ Qc, Q = vx_MQ below Qc (rb_QX X A ad0 G0 PX) args s mc ms A
theorem rb_blind {X : rb_X} {A : Nat → Prop} {ad : rb_R → Nat} {av : List rb_V} {vs : List Value} {G : rb_G} : FrameBlind (va_Pc vs (rb_In X A ad av G)) := by
  rintro a U g mk ⟨q0, q1, q2, q3, q4, q5⟩
  exact ⟨q0, q1, q2, rb_K1.warm (State.WarmedH.refl U) q3, rb_K2.moved (u := U) (U := U.calling g mk a) (Vm.Alike.refl U.vm) q4 (fun _ _ _ => rfl), q5⟩
def rb_c1 (Lv : List (Option rb_V)) : Bool := Lv.all fun o => match o with
  | none => true
  | some v => rb_cat v == 1
theorem rb_c1_use {Lv : List (Option rb_V)} (h : rb_c1 Lv = true) : ∀ w, some w ∈ Lv → rb_cat w = 1 := by
  intro w hw
  have := List.all_eq_true.mp h _ hw
  simpa using this
theorem rb_al_args (ad : rb_R → Nat) : ∀ (av : List rb_V) (i : Nat) (n : Nat), rb_c1 (av.map some) = true → rb_al ad i (av.map some ++ List.replicate n none) = lv_args i (av.map (rb_c ad)) := by
  intro av
  induction av with
  | nil =>
    intro i n _
    show rb_al ad i (List.replicate n none) = []
    induction n generalizing i with
    | zero => rfl
    | succ n ih => exact ih (i + 1)
  | cons v t ih =>
    intro i n h
    have hv : rb_cat v = 1 := rb_c1_use h v (by simp)
    have ht : rb_c1 (t.map some) = true := by simp only [rb_c1, List.map_cons, List.all_cons, Bool.and_eq_true] at h ⊢; exact h.2
    show (i, rb_c ad v) :: rb_al ad (i + 1) (t.map some ++ List.replicate n none) = (i, rb_c ad v) :: lv_args (if (rb_c ad v).category = 2 then i + 2 else i + 1) (t.map (rb_c ad))
    rw [ih (i + 1) n ht, rb_cat_c, hv, if_neg (by decide)]
theorem rb_sl_len (ad : rb_R → Nat) : ∀ (av : List rb_V), rb_c1 (av.map some) = true → (lg_sl (av.map (rb_c ad))).length = av.length := by
  intro av
  induction av with
  | nil => intro _; rfl
  | cons v t ih =>
    intro h
    have hv : rb_cat v = 1 := rb_c1_use h v (by simp)
    have ht : rb_c1 (t.map some) = true := by simp only [rb_c1, List.map_cons, List.all_cons, Bool.and_eq_true] at h ⊢; exact h.2
    have e : (rb_c ad v).category = 1 := by rw [rb_cat_c, hv]
    simp only [lg_sl, List.map_cons, List.flatMap_cons, e]
    simp only [lg_sl] at ih
    simp [ih ht]
theorem rb_entry (ad : rb_R → Nat) (av : List rb_V) {n : Nat} (h : rb_c1 (av.map some) = true) (hn : av.length ≤ n) : rb_ls ad ((lg_sl (av.map (rb_c ad)) ++ List.replicate (n - (lg_sl (av.map (rb_c ad))).length) Slot.unset).toArray) (av.map some ++ List.replicate (n - av.length) none) := by
  have h1 := lv_entry (av.map (rb_c ad)) (n := n) (by rw [rb_sl_len ad av h]; exact hn)
  unfold rb_ls
  rw [rb_al_args ad av 0 _ h]
  have : (av.map some ++ List.replicate (n - av.length) (none : Option rb_V)).length = n := by simp; omega
  rw [this]
  exact h1
/-- the method's name -/
def rb_nm (Φ : rb_F) (nm : String) : Prop := match Φ with
  | (_, _, _, _, _, _, _, _, meth, _, _, _, _, _, _) => meth.name = nm
theorem rb_startN {l : Launch} {X : rb_X} {y : MethodName} {cc : ByteArray} {maxL : Nat} {ret : Option FieldType} {fr lo mc ms : Nat} {av : List rb_V} {G : rb_G} {Post : Option rb_V → rb_G → Prop} (own : String) (hy : y.cls = own) (hpl : plainName own = true) (hc1 : rb_c1 (av.map some) = true) (hn : av.length ≤ maxL)
    (body : ∀ Φ, rb_C Φ own cc maxL fr lo mc ms → rb_E Φ ret Post mc ms → rb_nm Φ y.name → rb_W Φ 0 0 0 (av.map some ++ List.replicate (maxL - av.length) none) [] G) : rb_N l X y (.code y cc maxL ret) fr lo mc ms av G Post := by
  intro hl A ad
  refine Met.ofW (cc := cc) (maxL := maxL) (ret := ret) (by rw [hy]; exact hpl) rfl ?_
  intro p e s m args below meth c s₁ B hml hv
  obtain ⟨rfl, hA, hP, hK1, hK2, hok⟩ := hv
  have hts0 := atoms_spec (ws := .code y cc maxL ret :: TS) B.pre
  have K := body (p, l, e, (headSpec (.code y cc maxL ret :: TS) { frames := fr, cells := mc, slots := ms, locals := lo }).room, s, m, (av.map (rb_c ad)).toArray, below, meth, c, MQ below (rb_Q X A ad G Post) (av.map (rb_c ad)).toArray s mc ms A, X, A, ad, G)
    ⟨B.exec, B.bytes, hml, by rw [← hy]; exact findClass_of_methodNamed B.named, fun w hw => hts0 w (List.mem_cons_of_mem _ hw), B.notSynchronized, rfl, hl, hK1, hK2, hA⟩ ⟨B.returns, fun _ _ _ h => h⟩ (name_of_methodNamed B.named B.method).1
  rw [lg_entry_eq]
  exact K ad s.heap [] _ hP rb_nx.rf va_S.rf (rb_entry ad av hc1 hn) (fun v hv => by cases hv) (fun v hv => by
    rcases List.mem_append.mp hv with h | h
    · obtain ⟨w, hw, e⟩ := List.mem_map.mp h
      cases e
      exact hok v hw
    · cases (List.mem_replicate.mp h).2)
theorem rb_startM {l : Launch} {X : rb_X} {y : MethodName} {cc : ByteArray} {maxL : Nat} {ret : Option FieldType} {fr lo mc ms : Nat} {av : List rb_V} {G : rb_G} {Post : Option rb_V → rb_G → Prop} {PX : String → rb_G → Prop} (own : String) (hy : y.cls = own) (hpl : plainName own = true) (hc1 : rb_c1 (av.map some) = true) (hn : av.length ≤ maxL)
    (body : ∀ Φ, rb_C Φ own cc maxL fr lo mc ms → rb_E Φ ret Post mc ms → rb_EX Φ PX mc ms → rb_W Φ 0 0 0 (av.map some ++ List.replicate (maxL - av.length) none) [] G) : rb_M l X y (.code y cc maxL ret) fr lo mc ms av G Post PX := by
  intro hl A ad
  refine vx_ofW (cc := cc) (maxL := maxL) (ret := ret) (by rw [hy]; exact hpl) rfl ?_
  intro p e s m args below meth c s₁ B hml htab hv
  obtain ⟨rfl, hA, hP, hK1, hK2, hok⟩ := hv
  have hts0 := atoms_spec (ws := .code y cc maxL ret :: TS) B.pre
  have K := body (p, l, e, (headSpec (.code y cc maxL ret :: TS) { frames := fr, cells := mc, slots := ms, locals := lo }).room, s, m, (av.map (rb_c ad)).toArray, below, meth, c, vx_MQ below (rb_Q X A ad G Post) (rb_QX X A ad G PX) (av.map (rb_c ad)).toArray s mc ms A, X, A, ad, G)
    ⟨B.exec, B.bytes, hml, by rw [← hy]; exact findClass_of_methodNamed B.named, fun w hw => hts0 w (List.mem_cons_of_mem _ hw), B.notSynchronized, rfl, hl, hK1, hK2, hA⟩ ⟨B.returns, fun _ _ _ h => vx_ret h⟩ ⟨htab, _, rfl⟩
  rw [lg_entry_eq]
  exact K ad s.heap [] _ hP rb_nx.rf va_S.rf (rb_entry ad av hc1 hn) (fun v hv => by cases hv) (fun v hv => by
    rcases List.mem_append.mp hv with h | h
    · obtain ⟨w, hw, e⟩ := List.mem_map.mp h
      cases e
      exact hok v hw
    · cases (List.mem_replicate.mp h).2)
end
section
section
variable {Φ : rb_F} {own : String} {cc : ByteArray} {nL fr lo mc ms cells slots pc : Nat} {Lv Lv' : List (Option rb_V)} {st : List rb_V} {G : rb_G}
theorem rb_iconst (C : rb_C Φ own cc nL fr lo mc ms) {n : Int} {v : Int32} (hd : decode cc pc = .ok (.iconst n, 1)) (hc : Int32.ofInt n = v) (kk : rb_W Φ cells slots (pc + 1) Lv (rbI v :: st) G) : rb_W Φ cells slots pc Lv st G := by
  obtain ⟨p, l, e, R, s, m, args, below, meth, c, Q, X, A, ad0, G0⟩ := Φ
  intro ad H locs ls hP hn hS hl ho hv
  exact lv_iconst C.1 C.2.1 hd hc (kk ad H locs ls hP hn hS hl (ho.cons (rb_ok_i _ _)) hv)
theorem rb_bipush (C : rb_C Φ own cc nL fr lo mc ms) {n : Int} {v : Int32} (hd : decode cc pc = .ok (.bipush n, 2)) (hc : (Int8.ofInt n).toInt32 = v) (kk : rb_W Φ cells slots (pc + 2) Lv (rbI v :: st) G) : rb_W Φ cells slots pc Lv st G := by
  obtain ⟨p, l, e, R, s, m, args, below, meth, c, Q, X, A, ad0, G0⟩ := Φ
  intro ad H locs ls hP hn hS hl ho hv
  exact lv_bipush C.1 C.2.1 hd hc (kk ad H locs ls hP hn hS hl (ho.cons (rb_ok_i _ _)) hv)
theorem rb_sipush (C : rb_C Φ own cc nL fr lo mc ms) {n : Int} {v : Int32} (hd : decode cc pc = .ok (.sipush n, 3)) (hc : (Int16.ofInt n).toInt32 = v) (kk : rb_W Φ cells slots (pc + 3) Lv (rbI v :: st) G) : rb_W Φ cells slots pc Lv st G := by
  obtain ⟨p, l, e, R, s, m, args, below, meth, c, Q, X, A, ad0, G0⟩ := Φ
  intro ad H locs ls hP hn hS hl ho hv
  exact lv_sipush C.1 C.2.1 hd hc (kk ad H locs ls hP hn hS hl (ho.cons (rb_ok_i _ _)) hv)
theorem rb_lconst (C : rb_C Φ own cc nL fr lo mc ms) {n : Fin 2} {v : Int64} (hd : decode cc pc = .ok (.lconst n, 1)) (hc : Int64.ofNat (n : Nat) = v) (kk : rb_W Φ cells slots (pc + 1) Lv (rbL v :: st) G) : rb_W Φ cells slots pc Lv st G := by
  obtain ⟨p, l, e, R, s, m, args, below, meth, c, Q, X, A, ad0, G0⟩ := Φ
  intro ad H locs ls hP hn hS hl ho hv
  exact lv_lconst C.1 C.2.1 hd hc (kk ad H locs ls hP hn hS hl (ho.cons (rb_ok_l _ _)) hv)
theorem rb_null (C : rb_C Φ own cc nL fr lo mc ms) (hd : decode cc pc = .ok (.aconst_null, 1)) (kk : rb_W Φ cells slots (pc + 1) Lv (rbO none :: st) G) : rb_W Φ cells slots pc Lv st G := by
  obtain ⟨p, l, e, R, s, m, args, below, meth, c, Q, X, A, ad0, G0⟩ := Φ
  intro ad H locs ls hP hn hS hl ho hv
  exact lv_null C.1 C.2.1 hd (kk ad H locs ls hP hn hS hl (ho.cons (rb_ok_n _)) hv)
theorem rb_iload_n (C : rb_C Φ own cc nL fr lo mc ms) {k : Fin 4} {x : Int32} (hd : decode cc pc = .ok (.iload_n k, 1)) (hi : Lv[(k : Nat)]? = some (some (rbI x))) (kk : rb_W Φ cells slots (pc + 1) Lv (rbI x :: st) G) : rb_W Φ cells slots pc Lv st G := by
  obtain ⟨p, l, e, R, s, m, args, below, meth, c, Q, X, A, ad0, G0⟩ := Φ
  intro ad H locs ls hP hn hS hl ho hv
  exact lv_iload_n C.1 C.2.1 hd rfl (hl.get hi) (kk ad H locs ls hP hn hS hl (ho.cons (rb_ok_i _ _)) hv)
theorem rb_iload (C : rb_C Φ own cc nL fr lo mc ms) {i : Nat} {x : Int32} (hd : decode cc pc = .ok (.iload i, 2)) (hi : Lv[i]? = some (some (rbI x))) (kk : rb_W Φ cells slots (pc + 2) Lv (rbI x :: st) G) : rb_W Φ cells slots pc Lv st G := by
  obtain ⟨p, l, e, R, s, m, args, below, meth, c, Q, X, A, ad0, G0⟩ := Φ
  intro ad H locs ls hP hn hS hl ho hv
  exact lv_iload C.1 C.2.1 hd (hl.get hi) (kk ad H locs ls hP hn hS hl (ho.cons (rb_ok_i _ _)) hv)
theorem rb_aload_n (C : rb_C Φ own cc nL fr lo mc ms) {k : Fin 4} {o : Option rb_R} (hd : decode cc pc = .ok (.aload_n k, 1)) (hi : Lv[(k : Nat)]? = some (some (rbO o))) (kk : rb_W Φ cells slots (pc + 1) Lv (rbO o :: st) G) : rb_W Φ cells slots pc Lv st G := by
  obtain ⟨p, l, e, R, s, m, args, below, meth, c, Q, X, A, ad0, G0⟩ := Φ
  intro ad H locs ls hP hn hS hl ho hv
  have hg := hl.get hi
  have hk := kk ad H locs ls hP hn hS hl (ho.cons (hv _ (List.mem_of_getElem? hi))) hv
  cases o with
  | none => exact lv_aload_nN C.1 C.2.1 hd rfl hg hk
  | some r => exact lv_aload_n C.1 C.2.1 hd rfl hg hk
theorem rb_aload (C : rb_C Φ own cc nL fr lo mc ms) {i : Nat} {o : Option rb_R} (hd : decode cc pc = .ok (.aload i, 2)) (hi : Lv[i]? = some (some (rbO o))) (kk : rb_W Φ cells slots (pc + 2) Lv (rbO o :: st) G) : rb_W Φ cells slots pc Lv st G := by
  obtain ⟨p, l, e, R, s, m, args, below, meth, c, Q, X, A, ad0, G0⟩ := Φ
  intro ad H locs ls hP hn hS hl ho hv
  have hg := hl.get hi
  have hk := kk ad H locs ls hP hn hS hl (ho.cons (hv _ (List.mem_of_getElem? hi))) hv
  cases o with
  | none => exact lv_aloadN C.1 C.2.1 hd hg hk
  | some r => exact lv_aload C.1 C.2.1 hd hg hk
theorem rb_okO_set {v : rb_V} {i : Nat} (h : rb_okO G Lv) (hv : rb_ok G v) (hL : Lv.set i (some v) = Lv') : rb_okO G Lv' := by
  subst hL
  intro w hw
  rcases List.mem_or_eq_of_mem_set hw with h1 | h1
  · exact h w h1
  · cases h1; exact hv
theorem rb_istore_n (C : rb_C Φ own cc nL fr lo mc ms) {k : Fin 4} {x : Int32} (hd : decode cc pc = .ok (.istore_n k, 1)) (hi : (k : Nat) < Lv.length) (h1 : rb_c1 Lv = true) (hL : Lv.set (k : Nat) (some (rbI x)) = Lv') (kk : rb_W Φ cells slots (pc + 1) Lv' st G) : rb_W Φ cells slots pc Lv (rbI x :: st) G := by
  obtain ⟨p, l, e, R, s, m, args, below, meth, c, Q, X, A, ad0, G0⟩ := Φ
  intro ad H locs ls hP hn hS hl ho hv
  exact lv_istore_n C.1 C.2.1 hd rfl hl hi rfl (fun ls' hl' => kk ad H locs ls' hP hn hS (hL ▸ rb_ls.store hi hl' (rb_c1_use h1)) ho.tl (rb_okO_set hv (rb_ok_i _ _) hL))
theorem rb_istore (C : rb_C Φ own cc nL fr lo mc ms) {i : Nat} {x : Int32} (hd : decode cc pc = .ok (.istore i, 2)) (hi : i < Lv.length) (h1 : rb_c1 Lv = true) (hL : Lv.set i (some (rbI x)) = Lv') (kk : rb_W Φ cells slots (pc + 2) Lv' st G) : rb_W Φ cells slots pc Lv (rbI x :: st) G := by
  obtain ⟨p, l, e, R, s, m, args, below, meth, c, Q, X, A, ad0, G0⟩ := Φ
  intro ad H locs ls hP hn hS hl ho hv
  exact lv_istore C.1 C.2.1 hd hl hi rfl (fun ls' hl' => kk ad H locs ls' hP hn hS (hL ▸ rb_ls.store hi hl' (rb_c1_use h1)) ho.tl (rb_okO_set hv (rb_ok_i _ _) hL))
theorem rb_astore_n (C : rb_C Φ own cc nL fr lo mc ms) {k : Fin 4} {o : Option rb_R} (hd : decode cc pc = .ok (.astore_n k, 1)) (hi : (k : Nat) < Lv.length) (h1 : rb_c1 Lv = true) (hL : Lv.set (k : Nat) (some (rbO o)) = Lv') (kk : rb_W Φ cells slots (pc + 1) Lv' st G) : rb_W Φ cells slots pc Lv (rbO o :: st) G := by
  obtain ⟨p, l, e, R, s, m, args, below, meth, c, Q, X, A, ad0, G0⟩ := Φ
  intro ad H locs ls hP hn hS hl ho hv
  cases o with
  | none => exact lv_astore_nN C.1 C.2.1 hd rfl hl hi rfl (fun ls' hl' => kk ad H locs ls' hP hn hS (hL ▸ rb_ls.store (v := rbO none) hi hl' (rb_c1_use h1)) ho.tl (rb_okO_set hv ho.hd hL))
  | some r => exact lv_astore_n C.1 C.2.1 hd rfl hl hi rfl (fun ls' hl' => kk ad H locs ls' hP hn hS (hL ▸ rb_ls.store (v := rbO (some r)) hi hl' (rb_c1_use h1)) ho.tl (rb_okO_set hv ho.hd hL))
theorem rb_astore (C : rb_C Φ own cc nL fr lo mc ms) {i : Nat} {o : Option rb_R} (hd : decode cc pc = .ok (.astore i, 2)) (hi : i < Lv.length) (h1 : rb_c1 Lv = true) (hL : Lv.set i (some (rbO o)) = Lv') (kk : rb_W Φ cells slots (pc + 2) Lv' st G) : rb_W Φ cells slots pc Lv (rbO o :: st) G := by
  obtain ⟨p, l, e, R, s, m, args, below, meth, c, Q, X, A, ad0, G0⟩ := Φ
  intro ad H locs ls hP hn hS hl ho hv
  cases o with
  | none => exact lv_astoreN C.1 C.2.1 hd hl hi rfl (fun ls' hl' => kk ad H locs ls' hP hn hS (hL ▸ rb_ls.store (v := rbO none) hi hl' (rb_c1_use h1)) ho.tl (rb_okO_set hv ho.hd hL))
  | some r => exact lv_astore C.1 C.2.1 hd hl hi rfl (fun ls' hl' => kk ad H locs ls' hP hn hS (hL ▸ rb_ls.store (v := rbO (some r)) hi hl' (rb_c1_use h1)) ho.tl (rb_okO_set hv ho.hd hL))
theorem rb_iinc (C : rb_C Φ own cc nL fr lo mc ms) {i : Nat} {n : Int} {x v : Int32} (hd : decode cc pc = .ok (.iinc i n, 3)) (hg : Lv[i]? = some (some (rbI x))) (hx : x + Int32.ofInt n = v) (h1 : rb_c1 Lv = true) (hL : Lv.set i (some (rbI v)) = Lv') (kk : rb_W Φ cells slots (pc + 3) Lv' st G) : rb_W Φ cells slots pc Lv st G := by
  obtain ⟨p, l, e, R, s, m, args, below, meth, c, Q, X, A, ad0, G0⟩ := Φ
  intro ad H locs ls hP hn hS hl ho hv
  have hi : i < Lv.length := (List.getElem?_eq_some_iff.mp hg).1
  obtain ⟨j, hj⟩ : ∃ j : Nat, (rb_al ad 0 Lv)[j]? = some (i, .int x) := List.getElem?_of_mem ((rb_al_mem ad Lv 0 _).mpr ⟨i, rbI x, hg, by rw [Nat.zero_add]; rfl⟩)
  exact lv_iinc C.1 C.2.1 hd hl hj hx hi rfl (fun ls' hl' => kk ad H locs ls' hP hn hS (hL ▸ rb_ls.store (v := rbI v) hi hl' (rb_c1_use h1)) ho (rb_okO_set hv (rb_ok_i _ _) hL))
theorem rb_iadd (C : rb_C Φ own cc nL fr lo mc ms) {x y : Int32} (hd : decode cc pc = .ok (.iadd, 1)) (kk : rb_W Φ cells slots (pc + 1) Lv (rbI (x + y) :: st) G) : rb_W Φ cells slots pc Lv (rbI y :: rbI x :: st) G := by
  obtain ⟨p, l, e, R, s, m, args, below, meth, c, Q, X, A, ad0, G0⟩ := Φ
  intro ad H locs ls hP hn hS hl ho hv
  exact lv_iadd C.1 C.2.1 hd (kk ad H locs ls hP hn hS hl (ho.tl.tl.cons (rb_ok_i _ _)) hv)
theorem rb_isub (C : rb_C Φ own cc nL fr lo mc ms) {x y : Int32} (hd : decode cc pc = .ok (.isub, 1)) (kk : rb_W Φ cells slots (pc + 1) Lv (rbI (x - y) :: st) G) : rb_W Φ cells slots pc Lv (rbI y :: rbI x :: st) G := by
  obtain ⟨p, l, e, R, s, m, args, below, meth, c, Q, X, A, ad0, G0⟩ := Φ
  intro ad H locs ls hP hn hS hl ho hv
  exact lv_isub C.1 C.2.1 hd (kk ad H locs ls hP hn hS hl (ho.tl.tl.cons (rb_ok_i _ _)) hv)
theorem rb_imul (C : rb_C Φ own cc nL fr lo mc ms) {x y : Int32} (hd : decode cc pc = .ok (.imul, 1)) (kk : rb_W Φ cells slots (pc + 1) Lv (rbI (x * y) :: st) G) : rb_W Φ cells slots pc Lv (rbI y :: rbI x :: st) G := by
  obtain ⟨p, l, e, R, s, m, args, below, meth, c, Q, X, A, ad0, G0⟩ := Φ
  intro ad H locs ls hP hn hS hl ho hv
  exact lv_imul C.1 C.2.1 hd (kk ad H locs ls hP hn hS hl (ho.tl.tl.cons (rb_ok_i _ _)) hv)
theorem rb_iand (C : rb_C Φ own cc nL fr lo mc ms) {x y : Int32} (hd : decode cc pc = .ok (.iand, 1)) (kk : rb_W Φ cells slots (pc + 1) Lv (rbI (x &&& y) :: st) G) : rb_W Φ cells slots pc Lv (rbI y :: rbI x :: st) G := by
  obtain ⟨p, l, e, R, s, m, args, below, meth, c, Q, X, A, ad0, G0⟩ := Φ
  intro ad H locs ls hP hn hS hl ho hv
  exact lv_iand C.1 C.2.1 hd (kk ad H locs ls hP hn hS hl (ho.tl.tl.cons (rb_ok_i _ _)) hv)
theorem rb_ishr (C : rb_C Φ own cc nL fr lo mc ms) {x y : Int32} (hd : decode cc pc = .ok (.ishr, 1)) (kk : rb_W Φ cells slots (pc + 1) Lv (rbI (x >>> (y &&& 31)) :: st) G) : rb_W Φ cells slots pc Lv (rbI y :: rbI x :: st) G := by
  obtain ⟨p, l, e, R, s, m, args, below, meth, c, Q, X, A, ad0, G0⟩ := Φ
  intro ad H locs ls hP hn hS hl ho hv
  exact lv_ishr C.1 C.2.1 hd (kk ad H locs ls hP hn hS hl (ho.tl.tl.cons (rb_ok_i _ _)) hv)
theorem rb_idiv (C : rb_C Φ own cc nL fr lo mc ms) {x y : Int32} (hd : decode cc pc = .ok (.idiv, 1)) (hne : ¬ y = 0) (kk : rb_W Φ cells slots (pc + 1) Lv (rbI (x / y) :: st) G) : rb_W Φ cells slots pc Lv (rbI y :: rbI x :: st) G := by
  obtain ⟨p, l, e, R, s, m, args, below, meth, c, Q, X, A, ad0, G0⟩ := Φ
  intro ad H locs ls hP hn hS hl ho hv
  exact lv_idiv C.1 C.2.1 hd hne (kk ad H locs ls hP hn hS hl (ho.tl.tl.cons (rb_ok_i _ _)) hv)
theorem rb_irem (C : rb_C Φ own cc nL fr lo mc ms) {x y : Int32} (hd : decode cc pc = .ok (.irem, 1)) (hne : ¬ y = 0) (kk : rb_W Φ cells slots (pc + 1) Lv (rbI (x - x / y * y) :: st) G) : rb_W Φ cells slots pc Lv (rbI y :: rbI x :: st) G := by
  obtain ⟨p, l, e, R, s, m, args, below, meth, c, Q, X, A, ad0, G0⟩ := Φ
  intro ad H locs ls hP hn hS hl ho hv
  exact lv_irem C.1 C.2.1 hd hne (kk ad H locs ls hP hn hS hl (ho.tl.tl.cons (rb_ok_i _ _)) hv)
theorem rb_lmul (C : rb_C Φ own cc nL fr lo mc ms) {x y : Int64} (hd : decode cc pc = .ok (.lmul, 1)) (kk : rb_W Φ cells slots (pc + 1) Lv (rbL (x * y) :: st) G) : rb_W Φ cells slots pc Lv (rbL y :: rbL x :: st) G := by
  obtain ⟨p, l, e, R, s, m, args, below, meth, c, Q, X, A, ad0, G0⟩ := Φ
  intro ad H locs ls hP hn hS hl ho hv
  exact lv_lmul C.1 C.2.1 hd (kk ad H locs ls hP hn hS hl (ho.tl.tl.cons (rb_ok_l _ _)) hv)
theorem rb_lcmp (C : rb_C Φ own cc nL fr lo mc ms) {x y : Int64} (hd : decode cc pc = .ok (.lcmp, 1)) (kk : rb_W Φ cells slots (pc + 1) Lv (rbI (lg_cmp x y) :: st) G) : rb_W Φ cells slots pc Lv (rbL y :: rbL x :: st) G := by
  obtain ⟨p, l, e, R, s, m, args, below, meth, c, Q, X, A, ad0, G0⟩ := Φ
  intro ad H locs ls hP hn hS hl ho hv
  exact W.lcmp C.1 C.2.1 hd (kk ad H locs ls hP hn hS hl (ho.tl.tl.cons (rb_ok_i _ _)) hv)
theorem rb_i2l (C : rb_C Φ own cc nL fr lo mc ms) {x : Int32} (hd : decode cc pc = .ok (.i2l, 1)) (kk : rb_W Φ cells slots (pc + 1) Lv (rbL x.toInt64 :: st) G) : rb_W Φ cells slots pc Lv (rbI x :: st) G := by
  obtain ⟨p, l, e, R, s, m, args, below, meth, c, Q, X, A, ad0, G0⟩ := Φ
  intro ad H locs ls hP hn hS hl ho hv
  exact lv_i2l C.1 C.2.1 hd rfl (kk ad H locs ls hP hn hS hl (ho.tl.cons (rb_ok_l _ _)) hv)
theorem rb_dup (C : rb_C Φ own cc nL fr lo mc ms) {v : rb_V} (hd : decode cc pc = .ok (.dup, 1)) (hc : rb_cat v = 1) (kk : rb_W Φ cells slots (pc + 1) Lv (v :: v :: st) G) : rb_W Φ cells slots pc Lv (v :: st) G := by
  obtain ⟨p, l, e, R, s, m, args, below, meth, c, Q, X, A, ad0, G0⟩ := Φ
  intro ad H locs ls hP hn hS hl ho hv
  exact lv_dup C.1 C.2.1 hd (by rw [rb_cat_c, hc]) (kk ad H locs ls hP hn hS hl (ho.cons ho.hd) hv)
theorem rb_pop (C : rb_C Φ own cc nL fr lo mc ms) {v : rb_V} (hd : decode cc pc = .ok (.pop, 1)) (hc : rb_cat v = 1) (kk : rb_W Φ cells slots (pc + 1) Lv st G) : rb_W Φ cells slots pc Lv (v :: st) G := by
  obtain ⟨p, l, e, R, s, m, args, below, meth, c, Q, X, A, ad0, G0⟩ := Φ
  intro ad H locs ls hP hn hS hl ho hv
  exact lv_pop C.1 C.2.1 hd (by rw [rb_cat_c, hc]) (kk ad H locs ls hP hn hS hl ho.tl hv)
theorem rb_dup_x1 (C : rb_C Φ own cc nL fr lo mc ms) {v w : rb_V} (hd : decode cc pc = .ok (.dup_x1, 1)) (hc : rb_cat v = 1) (hw : rb_cat w = 1) (kk : rb_W Φ cells slots (pc + 1) Lv (v :: w :: v :: st) G) : rb_W Φ cells slots pc Lv (v :: w :: st) G := by
  obtain ⟨p, l, e, R, s, m, args, below, meth, c, Q, X, A, ad0, G0⟩ := Φ
  intro ad H locs ls hP hn hS hl ho hv
  exact lv_dup_x1 C.1 C.2.1 hd (by rw [rb_cat_c, hc]) (by rw [rb_cat_c, hw]) (kk ad H locs ls hP hn hS hl (((ho.tl.tl.cons ho.hd).cons ho.tl.hd).cons ho.hd) hv)
theorem rb_dup2 (C : rb_C Φ own cc nL fr lo mc ms) {v w : rb_V} (hd : decode cc pc = .ok (.dup2, 1)) (hc : rb_cat v = 1) (hw : rb_cat w = 1) (kk : rb_W Φ cells slots (pc + 1) Lv (v :: w :: v :: w :: st) G) : rb_W Φ cells slots pc Lv (v :: w :: st) G := by
  obtain ⟨p, l, e, R, s, m, args, below, meth, c, Q, X, A, ad0, G0⟩ := Φ
  intro ad H locs ls hP hn hS hl ho hv
  exact lv_dup2_11 C.1 C.2.1 hd (by rw [rb_cat_c, hc]) (by rw [rb_cat_c, hw]) (kk ad H locs ls hP hn hS hl ((ho.cons ho.tl.hd).cons ho.hd) hv)
theorem rb_if_eq (C : rb_C Φ own cc nL fr lo mc ms) {x : Int32} {off : Int} (tgt : Nat) (hd : decode cc pc = .ok (.ifCond .eq off, 3)) (ht : (pc : Int) + off = (tgt : Int)) (kt : x = 0 → rb_W Φ cells slots tgt Lv st G) (kf : ¬ x = 0 → rb_W Φ cells slots (pc + 3) Lv st G) : rb_W Φ cells slots pc Lv (rbI x :: st) G := by
  obtain ⟨p, l, e, R, s, m, args, below, meth, c, Q, X, A, ad0, G0⟩ := Φ
  intro ad H locs ls hP hn hS hl ho hv
  exact lv_if_eq C.1 C.2.1 hd ht (fun q => kt q ad H locs ls hP hn hS hl ho.tl hv) (fun q => kf q ad H locs ls hP hn hS hl ho.tl hv)
theorem rb_icmp_eq (C : rb_C Φ own cc nL fr lo mc ms) {x y : Int32} {off : Int} (tgt : Nat) (hd : decode cc pc = .ok (.if_icmp .eq off, 3)) (ht : (pc : Int) + off = (tgt : Int)) (kt : x = y → rb_W Φ cells slots tgt Lv st G) (kf : ¬ x = y → rb_W Φ cells slots (pc + 3) Lv st G) : rb_W Φ cells slots pc Lv (rbI y :: rbI x :: st) G := by
  obtain ⟨p, l, e, R, s, m, args, below, meth, c, Q, X, A, ad0, G0⟩ := Φ
  intro ad H locs ls hP hn hS hl ho hv
  exact lv_icmp_eq C.1 C.2.1 hd ht (fun q => kt q ad H locs ls hP hn hS hl ho.tl.tl hv) (fun q => kf q ad H locs ls hP hn hS hl ho.tl.tl hv)
theorem rb_if_ne (C : rb_C Φ own cc nL fr lo mc ms) {x : Int32} {off : Int} (tgt : Nat) (hd : decode cc pc = .ok (.ifCond .ne off, 3)) (ht : (pc : Int) + off = (tgt : Int)) (kt : ¬ x = 0 → rb_W Φ cells slots tgt Lv st G) (kf : x = 0 → rb_W Φ cells slots (pc + 3) Lv st G) : rb_W Φ cells slots pc Lv (rbI x :: st) G := by
  obtain ⟨p, l, e, R, s, m, args, below, meth, c, Q, X, A, ad0, G0⟩ := Φ
  intro ad H locs ls hP hn hS hl ho hv
  exact lv_if_ne C.1 C.2.1 hd ht (fun q => kt q ad H locs ls hP hn hS hl ho.tl hv) (fun q => kf q ad H locs ls hP hn hS hl ho.tl hv)
theorem rb_icmp_ne (C : rb_C Φ own cc nL fr lo mc ms) {x y : Int32} {off : Int} (tgt : Nat) (hd : decode cc pc = .ok (.if_icmp .ne off, 3)) (ht : (pc : Int) + off = (tgt : Int)) (kt : ¬ x = y → rb_W Φ cells slots tgt Lv st G) (kf : x = y → rb_W Φ cells slots (pc + 3) Lv st G) : rb_W Φ cells slots pc Lv (rbI y :: rbI x :: st) G := by
  obtain ⟨p, l, e, R, s, m, args, below, meth, c, Q, X, A, ad0, G0⟩ := Φ
  intro ad H locs ls hP hn hS hl ho hv
  exact lv_icmp_ne C.1 C.2.1 hd ht (fun q => kt q ad H locs ls hP hn hS hl ho.tl.tl hv) (fun q => kf q ad H locs ls hP hn hS hl ho.tl.tl hv)
theorem rb_if_lt (C : rb_C Φ own cc nL fr lo mc ms) {x : Int32} {off : Int} (tgt : Nat) (hd : decode cc pc = .ok (.ifCond .lt off, 3)) (ht : (pc : Int) + off = (tgt : Int)) (kt : x < 0 → rb_W Φ cells slots tgt Lv st G) (kf : ¬ x < 0 → rb_W Φ cells slots (pc + 3) Lv st G) : rb_W Φ cells slots pc Lv (rbI x :: st) G := by
  obtain ⟨p, l, e, R, s, m, args, below, meth, c, Q, X, A, ad0, G0⟩ := Φ
  intro ad H locs ls hP hn hS hl ho hv
  exact lv_if_lt C.1 C.2.1 hd ht (fun q => kt q ad H locs ls hP hn hS hl ho.tl hv) (fun q => kf q ad H locs ls hP hn hS hl ho.tl hv)
theorem rb_icmp_lt (C : rb_C Φ own cc nL fr lo mc ms) {x y : Int32} {off : Int} (tgt : Nat) (hd : decode cc pc = .ok (.if_icmp .lt off, 3)) (ht : (pc : Int) + off = (tgt : Int)) (kt : x < y → rb_W Φ cells slots tgt Lv st G) (kf : ¬ x < y → rb_W Φ cells slots (pc + 3) Lv st G) : rb_W Φ cells slots pc Lv (rbI y :: rbI x :: st) G := by
  obtain ⟨p, l, e, R, s, m, args, below, meth, c, Q, X, A, ad0, G0⟩ := Φ
  intro ad H locs ls hP hn hS hl ho hv
  exact lv_icmp_lt C.1 C.2.1 hd ht (fun q => kt q ad H locs ls hP hn hS hl ho.tl.tl hv) (fun q => kf q ad H locs ls hP hn hS hl ho.tl.tl hv)
theorem rb_if_ge (C : rb_C Φ own cc nL fr lo mc ms) {x : Int32} {off : Int} (tgt : Nat) (hd : decode cc pc = .ok (.ifCond .ge off, 3)) (ht : (pc : Int) + off = (tgt : Int)) (kt : 0 ≤ x → rb_W Φ cells slots tgt Lv st G) (kf : ¬ 0 ≤ x → rb_W Φ cells slots (pc + 3) Lv st G) : rb_W Φ cells slots pc Lv (rbI x :: st) G := by
  obtain ⟨p, l, e, R, s, m, args, below, meth, c, Q, X, A, ad0, G0⟩ := Φ
  intro ad H locs ls hP hn hS hl ho hv
  exact lv_if_ge C.1 C.2.1 hd ht (fun q => kt q ad H locs ls hP hn hS hl ho.tl hv) (fun q => kf q ad H locs ls hP hn hS hl ho.tl hv)
theorem rb_icmp_ge (C : rb_C Φ own cc nL fr lo mc ms) {x y : Int32} {off : Int} (tgt : Nat) (hd : decode cc pc = .ok (.if_icmp .ge off, 3)) (ht : (pc : Int) + off = (tgt : Int)) (kt : y ≤ x → rb_W Φ cells slots tgt Lv st G) (kf : ¬ y ≤ x → rb_W Φ cells slots (pc + 3) Lv st G) : rb_W Φ cells slots pc Lv (rbI y :: rbI x :: st) G := by
  obtain ⟨p, l, e, R, s, m, args, below, meth, c, Q, X, A, ad0, G0⟩ := Φ
  intro ad H locs ls hP hn hS hl ho hv
  exact lv_icmp_ge C.1 C.2.1 hd ht (fun q => kt q ad H locs ls hP hn hS hl ho.tl.tl hv) (fun q => kf q ad H locs ls hP hn hS hl ho.tl.tl hv)
theorem rb_if_gt (C : rb_C Φ own cc nL fr lo mc ms) {x : Int32} {off : Int} (tgt : Nat) (hd : decode cc pc = .ok (.ifCond .gt off, 3)) (ht : (pc : Int) + off = (tgt : Int)) (kt : 0 < x → rb_W Φ cells slots tgt Lv st G) (kf : ¬ 0 < x → rb_W Φ cells slots (pc + 3) Lv st G) : rb_W Φ cells slots pc Lv (rbI x :: st) G := by
  obtain ⟨p, l, e, R, s, m, args, below, meth, c, Q, X, A, ad0, G0⟩ := Φ
  intro ad H locs ls hP hn hS hl ho hv
  exact lv_if_gt C.1 C.2.1 hd ht (fun q => kt q ad H locs ls hP hn hS hl ho.tl hv) (fun q => kf q ad H locs ls hP hn hS hl ho.tl hv)
theorem rb_icmp_gt (C : rb_C Φ own cc nL fr lo mc ms) {x y : Int32} {off : Int} (tgt : Nat) (hd : decode cc pc = .ok (.if_icmp .gt off, 3)) (ht : (pc : Int) + off = (tgt : Int)) (kt : y < x → rb_W Φ cells slots tgt Lv st G) (kf : ¬ y < x → rb_W Φ cells slots (pc + 3) Lv st G) : rb_W Φ cells slots pc Lv (rbI y :: rbI x :: st) G := by
  obtain ⟨p, l, e, R, s, m, args, below, meth, c, Q, X, A, ad0, G0⟩ := Φ
  intro ad H locs ls hP hn hS hl ho hv
  exact lv_icmp_gt C.1 C.2.1 hd ht (fun q => kt q ad H locs ls hP hn hS hl ho.tl.tl hv) (fun q => kf q ad H locs ls hP hn hS hl ho.tl.tl hv)
theorem rb_if_le (C : rb_C Φ own cc nL fr lo mc ms) {x : Int32} {off : Int} (tgt : Nat) (hd : decode cc pc = .ok (.ifCond .le off, 3)) (ht : (pc : Int) + off = (tgt : Int)) (kt : x ≤ 0 → rb_W Φ cells slots tgt Lv st G) (kf : ¬ x ≤ 0 → rb_W Φ cells slots (pc + 3) Lv st G) : rb_W Φ cells slots pc Lv (rbI x :: st) G := by
  obtain ⟨p, l, e, R, s, m, args, below, meth, c, Q, X, A, ad0, G0⟩ := Φ
  intro ad H locs ls hP hn hS hl ho hv
  exact lv_if_le C.1 C.2.1 hd ht (fun q => kt q ad H locs ls hP hn hS hl ho.tl hv) (fun q => kf q ad H locs ls hP hn hS hl ho.tl hv)
theorem rb_icmp_le (C : rb_C Φ own cc nL fr lo mc ms) {x y : Int32} {off : Int} (tgt : Nat) (hd : decode cc pc = .ok (.if_icmp .le off, 3)) (ht : (pc : Int) + off = (tgt : Int)) (kt : x ≤ y → rb_W Φ cells slots tgt Lv st G) (kf : ¬ x ≤ y → rb_W Φ cells slots (pc + 3) Lv st G) : rb_W Φ cells slots pc Lv (rbI y :: rbI x :: st) G := by
  obtain ⟨p, l, e, R, s, m, args, below, meth, c, Q, X, A, ad0, G0⟩ := Φ
  intro ad H locs ls hP hn hS hl ho hv
  exact lv_icmp_le C.1 C.2.1 hd ht (fun q => kt q ad H locs ls hP hn hS hl ho.tl.tl hv) (fun q => kf q ad H locs ls hP hn hS hl ho.tl.tl hv)
theorem rb_goto (C : rb_C Φ own cc nL fr lo mc ms) {off : Int} (tgt : Nat) (hd : decode cc pc = .ok (.goto off, 3)) (ht : (pc : Int) + off = (tgt : Int)) (kk : rb_W Φ cells slots tgt Lv st G) : rb_W Φ cells slots pc Lv st G := by
  obtain ⟨p, l, e, R, s, m, args, below, meth, c, Q, X, A, ad0, G0⟩ := Φ
  intro ad H locs ls hP hn hS hl ho hv
  exact lv_goto C.1 C.2.1 hd ht (kk ad H locs ls hP hn hS hl ho hv)
theorem rb_ifnonnull (C : rb_C Φ own cc nL fr lo mc ms) {o : Option rb_R} {off : Int} (tgt : Nat) (hd : decode cc pc = .ok (.ifnonnull off, 3)) (ht : (pc : Int) + off = (tgt : Int)) (kt : ∀ r, o = some r → rb_W Φ cells slots tgt Lv st G) (kf : o = none → rb_W Φ cells slots (pc + 3) Lv st G) : rb_W Φ cells slots pc Lv (rbO o :: st) G := by
  obtain ⟨p, l, e, R, s, m, args, below, meth, c, Q, X, A, ad0, G0⟩ := Φ
  intro ad H locs ls hP hn hS hl ho hv
  cases o with
  | none => exact lv_ifnonnullN C.1 C.2.1 hd (kf rfl ad H locs ls hP hn hS hl ho.tl hv)
  | some r => exact lv_ifnonnull C.1 C.2.1 hd ht (kt r rfl ad H locs ls hP hn hS hl ho.tl hv)
theorem rb_ldc (C : rb_C Φ own cc nL fr lo mc ms) {index : Nat} {v : Int32} (hd : decode cc pc = .ok (.ldc index, 2)) (hw : Cond.constant own index v ∈ TS) (kk : rb_W Φ cells slots (pc + 2) Lv (rbI v :: st) G) : rb_W Φ cells slots pc Lv st G := by
  obtain ⟨p, l, e, R, s, m, args, below, meth, c, Q, X, A, ad0, G0⟩ := Φ
  intro ad H locs ls hP hn hS hl ho hv
  exact lv_ldc C.1 C.2.1 C.2.2.2.1 (C.2.2.2.2.1 _ hw) hd (kk ad H locs ls hP hn hS hl (ho.cons (rb_ok_i _ _)) hv)
theorem rb_ldcw (C : rb_C Φ own cc nL fr lo mc ms) {index : Nat} {v : Int32} (hd : decode cc pc = .ok (.ldc_w index, 3)) (hw : Cond.constant own index v ∈ TS) (kk : rb_W Φ cells slots (pc + 3) Lv (rbI v :: st) G) : rb_W Φ cells slots pc Lv st G := by
  obtain ⟨p, l, e, R, s, m, args, below, meth, c, Q, X, A, ad0, G0⟩ := Φ
  intro ad H locs ls hP hn hS hl ho hv
  exact lv_ldcw C.1 C.2.1 C.2.2.2.1 (C.2.2.2.2.1 _ hw) hd (kk ad H locs ls hP hn hS hl (ho.cons (rb_ok_i _ _)) hv)
theorem rb_ldc2 (C : rb_C Φ own cc nL fr lo mc ms) {index : Nat} {v : Int64} (hd : decode cc pc = .ok (.ldc2_w index, 3)) (hw : Cond.constantLong own index v ∈ TS) (kk : rb_W Φ cells slots (pc + 3) Lv (rbL v :: st) G) : rb_W Φ cells slots pc Lv st G := by
  obtain ⟨p, l, e, R, s, m, args, below, meth, c, Q, X, A, ad0, G0⟩ := Φ
  intro ad H locs ls hP hn hS hl ho hv
  exact lv_ldc2 C.1 C.2.1 C.2.2.2.1 (C.2.2.2.2.1 _ hw) hd (kk ad H locs ls hP hn hS hl (ho.cons (rb_ok_l _ _)) hv)
theorem rb_tableIn (C : rb_C Φ own cc nL fr lo mc ms) {dflt lo' hi : Int} {offs : Array Int} {len : Nat} {x : Int32} {off : Int} (tgt : Nat) (hd : decode cc pc = .ok (.tableswitch dflt lo' hi offs, len)) (h1 : ¬ x.toInt < lo') (h2 : ¬ hi < x.toInt) (hoff : offs[(x.toInt - lo').toNat]? = some off) (ht : (pc : Int) + off = (tgt : Int)) (kk : rb_W Φ cells slots tgt Lv st G) : rb_W Φ cells slots pc Lv (rbI x :: st) G := by
  obtain ⟨p, l, e, R, s, m, args, below, meth, c, Q, X, A, ad0, G0⟩ := Φ
  intro ad H locs ls hP hn hS hl ho hv
  exact lv_tableIn C.1 C.2.1 hd h1 h2 hoff ht (kk ad H locs ls hP hn hS hl ho.tl hv)
theorem rb_tableOut (C : rb_C Φ own cc nL fr lo mc ms) {dflt lo' hi : Int} {offs : Array Int} {len : Nat} {x : Int32} (tgt : Nat) (hd : decode cc pc = .ok (.tableswitch dflt lo' hi offs, len)) (h1 : x.toInt < lo' ∨ hi < x.toInt) (ht : (pc : Int) + dflt = (tgt : Int)) (kk : rb_W Φ cells slots tgt Lv st G) : rb_W Φ cells slots pc Lv (rbI x :: st) G := by
  obtain ⟨p, l, e, R, s, m, args, below, meth, c, Q, X, A, ad0, G0⟩ := Φ
  intro ad H locs ls hP hn hS hl ho hv
  exact lv_tableOut C.1 C.2.1 hd h1 ht (kk ad H locs ls hP hn hS hl ho.tl hv)
/-- fewer locals known, more room used -/
theorem rb_W.weak {cells' slots' : Nat} (kk : rb_W Φ cells' slots' pc Lv' st G) (hc : cells ≤ cells') (hs : slots ≤ slots') (hlen : Lv'.length = Lv.length) (hsub : ∀ (i : Nat) (v : rb_V), Lv'[i]? = some (some v) → Lv[i]? = some (some v)) : rb_W Φ cells slots pc Lv st G := by
  obtain ⟨p, l, e, R, s, m, args, below, meth, c, Q, X, A, ad0, G0⟩ := Φ
  intro ad H locs ls hP hn hS hl ho hv
  refine W.widen hc hs (kk ad H locs ls hP hn hS (hl.weak hlen hsub) ho fun v hv' => ?_)
  obtain ⟨i, hi⟩ := List.getElem?_of_mem hv'
  exact hv v (List.mem_of_getElem? (hsub i v hi))
theorem rb_W.room {cells' slots' : Nat} (kk : rb_W Φ cells' slots' pc Lv st G) (hc : cells ≤ cells') (hs : slots ≤ slots') : rb_W Φ cells slots pc Lv st G := rb_W.weak kk hc hs rfl (fun _ _ h => h)
/-- ends -/
theorem rb_iret (C : rb_C Φ own cc nL fr lo mc ms) {Post : Option rb_V → rb_G → Prop} (hE : rb_E Φ (some .int) Post mc ms) {v : Int32} (hd : decode cc pc = .ok (.ireturn, 1)) (hc : cells ≤ mc) (hs : slots ≤ ms) (hp : Post (some (rbI v)) G) : rb_W Φ cells slots pc Lv [rbI v] G := by
  obtain ⟨p, l, e, R, s, m, args, below, meth, c, Q, X, A, ad0, G0⟩ := Φ
  intro ad H locs ls hP hn hS hl ho hv
  have hlk : meth.locks = false := C.2.2.2.2.2.1
  exact W.widen hc hs (hE.2 H locs _ (W.iret C.1 C.2.1 hE.1 (fun t ht hW => ⟨⟨some (rbI v), G, ad, rfl, hp, hn, fun w h => by cases h; exact rb_ok_i _ _, by rw [ht]; exact hP⟩, hS.F ht⟩) hS.2.2 hd hlk))
theorem rb_zret (C : rb_C Φ own cc nL fr lo mc ms) {Post : Option rb_V → rb_G → Prop} (hE : rb_E Φ (some .boolean) Post mc ms) {v : Int32} (hd : decode cc pc = .ok (.ireturn, 1)) (hz : narrow .boolean (.int v) = .int v) (hc : cells ≤ mc) (hs : slots ≤ ms) (hp : Post (some (rbI v)) G) : rb_W Φ cells slots pc Lv [rbI v] G := by
  obtain ⟨p, l, e, R, s, m, args, below, meth, c, Q, X, A, ad0, G0⟩ := Φ
  intro ad H locs ls hP hn hS hl ho hv
  have hlk : meth.locks = false := C.2.2.2.2.2.1
  exact W.widen hc hs (hE.2 H locs _ (W.zret C.1 C.2.1 hE.1 hz (fun t ht hW => ⟨⟨some (rbI v), G, ad, rfl, hp, hn, fun w h => by cases h; exact rb_ok_i _ _, by rw [ht]; exact hP⟩, hS.F ht⟩) hS.2.2 hd hlk))
theorem rb_vret (C : rb_C Φ own cc nL fr lo mc ms) {Post : Option rb_V → rb_G → Prop} (hE : rb_E Φ none Post mc ms) (hd : decode cc pc = .ok (.return_, 1)) (hc : cells ≤ mc) (hs : slots ≤ ms) (hp : Post none G) : rb_W Φ cells slots pc Lv [] G := by
  obtain ⟨p, l, e, R, s, m, args, below, meth, c, Q, X, A, ad0, G0⟩ := Φ
  intro ad H locs ls hP hn hS hl ho hv
  have hlk : meth.locks = false := C.2.2.2.2.2.1
  exact W.widen hc hs (hE.2 H locs _ (W.vret C.1 C.2.1 hE.1 (fun t ht hW => ⟨⟨none, G, ad, rfl, hp, hn, (fun w h => nomatch h), by rw [ht]; exact hP⟩, hS.F ht⟩) hS.2.2 hd hlk))
theorem rb_aret (C : rb_C Φ own cc nL fr lo mc ms) {Post : Option rb_V → rb_G → Prop} {rt : FieldType} (hE : rb_E Φ (some rt) Post mc ms) (hrt : (∃ n, rt = .object n) ∨ ∃ t, rt = .array t) {o : Option rb_R} (hd : decode cc pc = .ok (.areturn, 1)) (hc : cells ≤ mc) (hs : slots ≤ ms) (hp : Post (some (rbO o)) G) : rb_W Φ cells slots pc Lv [rbO o] G := by
  obtain ⟨p, l, e, R, s, m, args, below, meth, c, Q, X, A, ad0, G0⟩ := Φ
  intro ad H locs ls hP hn hS hl ho hv
  have hlk : meth.locks = false := C.2.2.2.2.2.1
  exact W.widen hc hs (hE.2 H locs _ (W.aret C.1 C.2.1 hE.1 hrt (va_rf_or (o.map ad)) (fun t ht hW => ⟨⟨some (rbO o), G, ad, rfl, hp, hn, fun w h => by cases h; exact ho.hd, by rw [ht]; exact hP⟩, hS.F ht⟩) hS.2.2 hd hlk))
/-- an exception that goes through -/
theorem rb_out (C : rb_C Φ own cc nL fr lo mc ms) {PX : String → rb_G → Prop} (hE : rb_EX Φ PX mc ms) {E : String} (hc : cells ≤ mc) (hs : slots ≤ ms) (hp : PX E G) : rb_Wx Φ cells slots pc Lv st G E := by
  obtain ⟨p, l, e, R, s, m, args, below, meth, c, Q, X, A, ad0, G0⟩ := Φ
  intro ad H locs ls q ce hP hn hS hl ho hv h1 h2 h3
  obtain ⟨ht, Qc, hQ⟩ := hE
  subst hQ
  exact vx_out (fun x hx => (ht x hx).elim) C.2.2.2.2.2.1 h1 h2 h3 (fun t ht hvm => ⟨⟨G, ad, hp, hn, by rw [ht]; exact hP⟩, hS.F ht⟩) hS.2.2 hc hs
end
end
section
/-! heap rows -/
theorem rb_P.upd {X : rb_X} {ad : rb_R → Nat} {A : Nat → Prop} {G G' : rb_G} {H H1 : Heap} {r : rb_R} (hP : rb_P X ad A G H) (hr : gD G r) (hk : rb_k r.1 < 20) (he : va_at X.1 vwCl (ad r, rb_e ad X.2.1 G' r) H1) (oq : ∀ q : Nat, q ≠ ad r → H1[q]? = H[q]?) (hD : gD G' = gD G)
    (hs : ∀ r', r' ≠ r → rb_e ad X.2.1 G' r' = rb_e ad X.2.1 G r') (hcl : ∀ r1 k r2, gD G r1 → gP G' r1 k = some r2 → gD G r2) : rb_P X ad A G' H1 := by
  obtain ⟨h1, h2, h3, h4, h5⟩ := hP
  refine ⟨fun r' hr' hk' => ?_, fun r1 r2 a b => ?_, fun r1 k r2 a b => ?_, h4, h5⟩
  · rw [hD] at hr'
    obtain ⟨g1, g2⟩ := h1 r' hr' hk'
    refine ⟨g1, ?_⟩
    by_cases e : r' = r
    · subst e; exact he
    · rw [hs r' e]
      exact g2.kept (oq _ fun q => e (h2 r' r hr' hr hk' hk q))
  · rw [hD] at a b
    exact h2 r1 r2 a b
  · rw [hD] at a ⊢
    exact hcl r1 k r2 a b
theorem rb_e_sI {ad : rb_R → Nat} {cA : Nat → ClassId} {G : rb_G} {r : rb_R} {k : Nat} {v : Int32} {r' : rb_R} (h : r' ≠ r) : rb_e ad cA (sI G r k v) r' = rb_e ad cA G r' := by
  have e : gI (sI G r k v) r' = gI G r' := by funext j; exact up2_n _ _ _ _ (fun q => h q.1)
  unfold rb_e
  rw [e]
  rfl
theorem rb_e_sP {ad : rb_R → Nat} {cA : Nat → ClassId} {G : rb_G} {r : rb_R} {k : Nat} {v : Option rb_R} {r' : rb_R} (h : r' ≠ r) : rb_e ad cA (sP G r k v) r' = rb_e ad cA G r' := by
  have e : gP (sP G r k v) r' = gP G r' := by funext j; exact up2_n _ _ _ _ (fun q => h q.1)
  unfold rb_e
  rw [e]
  rfl
theorem rb_e_sJ {ad : rb_R → Nat} {cA : Nat → ClassId} {G : rb_G} {r : rb_R} {k : Nat} {v : Int64} {r' : rb_R} (h : r' ≠ r) : rb_e ad cA (sJ G r k v) r' = rb_e ad cA G r' := by
  have e : gJ (sJ G r k v) r' = gJ G r' := by funext j; exact up2_n _ _ _ _ (fun q => h q.1)
  unfold rb_e
  rw [e]
  rfl
theorem rb_cl_sP {G : rb_G} {r : rb_R} {k0 : Nat} {o : Option rb_R} (h3 : ∀ r1 k r2, gD G r1 → gP G r1 k = some r2 → gD G r2) (ho : ∀ r', o = some r' → gD G r') : ∀ r1 k r2, gD G r1 → gP (sP G r k0 o) r1 k = some r2 → gD G r2 := by
  intro r1 k r2 a b
  have b' : up2 (gP G) r k0 o r1 k = some r2 := b
  unfold up2 at b'
  split at b'
  · exact ho r2 b'
  · exact h3 r1 k r2 a b'
theorem rb_ok_o {G : rb_G} {o : Option rb_R} (h : rb_ok G (rbO o)) : ∀ r', o = some r' → gD G r' := fun r' e => h r' (by rw [e])
/-- a field: by its pool number, its class's number in vwCl, its place, whether a reference, whether final, its type -/
def rb_Fld (own : String) (idx ci k : Nat) (b fin : Bool) (ty : FieldType) : Prop := ∃ (RC : String) (TT : u_T) (N : Nat) (ty0 : Nat → FieldType), vwCl[ci]? = some (RC, TT, N) ∧ (∀ w ∈ u_ws RC TT N, w ∈ TS) ∧ k < N ∧ (rb_lay ci)[k]? = some b ∧ ci < 10 ∧
  Cond.fieldLink own idx (TT k).1 (TT k).2.1 (TT k).2.2.1 ∈ TS ∧ (∀ k, k < N → parseFieldDescriptor (TT k).2.2.1 = some (ty0 k)) ∧ (∀ a, a < N → ∀ b, b < N → a ≠ b → (TT a).2.1 ≠ (TT b).2.1) ∧ parseFieldDescriptor (TT k).2.2.1 = some ty ∧ (TT k).2.2.2 = fin ∧ (fin = true → (TT k).1 = own)
/-- .. to be read alone -/
def rb_FldR (own : String) (idx ci k : Nat) (b : Bool) : Prop := ∃ (RC : String) (TT : u_T) (N : Nat), vwCl[ci]? = some (RC, TT, N) ∧ (∀ w ∈ u_ws RC TT N, w ∈ TS) ∧ k < N ∧ (rb_lay ci)[k]? = some b ∧ ci < 10 ∧ Cond.fieldLink own idx (TT k).1 (TT k).2.1 (TT k).2.2.1 ∈ TS
theorem rb_Fld.r {own : String} {idx ci k : Nat} {b fin : Bool} {ty : FieldType} (h : rb_Fld own idx ci k b fin ty) : rb_FldR own idx ci k b := by
  obtain ⟨RC, TT, N, ty0, h1, h2, h3, h4, h5, h6, -⟩ := h
  exact ⟨RC, TT, N, h1, h2, h3, h4, h5, h6⟩
def rb_rt (ty : FieldType) : Bool := match ty with
  | .object _ => true
  | .array _ => true
  | _ => false
theorem rb_rt_fit {ty : FieldType} (h : rb_rt ty = true) (o : Option Nat) : narrow ty (va_rf o) = va_rf o ∧ fits ty (va_rf o) = true := by
  cases ty <;> first | (simp [rb_rt] at h; done) | (cases o <;> exact ⟨rfl, rfl⟩)
section
variable {Φ : rb_F} {own : String} {cc : ByteArray} {nL fr lo mc ms cells slots pc : Nat} {Lv Lv' : List (Option rb_V)} {st : List rb_V} {G : rb_G}
theorem rb_eo {ad : rb_R → Nat} {cA : Nat → ClassId} {G : rb_G} {r : rb_R} {ci : Nat} (hk : rb_k r.1 = ci) (h : ci < 10) : rb_e ad cA G r = .inr (ci, rb_vals (rb_c ad) (rb_lay ci) 0 (gI G r) (gP G r)) := by
  unfold rb_e
  rw [hk, if_pos h]
theorem rb_eI {ad : rb_R → Nat} {cA : Nat → ClassId} {G : rb_G} {r : rb_R} {ci : Nat} (hk : rb_k r.1 = ci) (h : ¬ ci < 10) (h2 : ci < 12) : rb_e ad cA G r = .inl (cA ci, gN G r, .inl (gI G r)) := by
  unfold rb_e
  rw [hk, if_neg h, if_pos h2]
theorem rb_eL {ad : rb_R → Nat} {cA : Nat → ClassId} {G : rb_G} {r : rb_R} (hk : rb_k r.1 = 12) : rb_e ad cA G r = .inl (cA 12, gN G r, .inr (.inl (gJ G r))) := by
  unfold rb_e
  rw [hk]
  rfl
theorem rb_eP {ad : rb_R → Nat} {cA : Nat → ClassId} {G : rb_G} {r : rb_R} {ci : Nat} (hk : rb_k r.1 = ci) (h : 12 < ci) : rb_e ad cA G r = .inl (cA ci, gN G r, .inr (.inr (.inr (.inr (fun j => (gP G r j).map ad))))) := by
  unfold rb_e
  rw [hk, if_neg (by omega), if_neg (by omega), if_neg (by omega)]
theorem rb_one {D : va_G} {cl : List vw_C} {q : Nat × va_E} {H : Heap} (h : va_at D cl q H) : va_P D cl [q] H := by
  intro k x hx
  cases k with
  | zero => cases hx; exact h
  | succ k => simp at hx
theorem rb_getI (C : rb_C Φ own cc nL fr lo mc ms) {r : rb_R} {idx ci k : Nat} (F : rb_FldR own idx ci k false) (hd : decode cc pc = .ok (.getfield idx, 3)) (hk : rb_k r.1 = ci) (kk : rb_W Φ cells slots (pc + 3) Lv (rbI (gI G r k) :: st) G) : rb_W Φ cells slots pc Lv (rbR r :: st) G := by
  obtain ⟨p, l, e, R, s, m, args, below, meth, c, Q, X, A, ad0, G0⟩ := Φ
  intro ad H locs ls hP hn hS hl ho hv
  obtain ⟨RC, TT, N, hc, hin, hkN, hb, hci, hlk⟩ := F
  have hr := ho.hd r rfl
  obtain ⟨-, hat⟩ := hP.1 r hr (by rw [hk]; omega)
  rw [rb_eo hk hci] at hat
  refine va_get (C := RC) (T := TT) (N := N) (ci := ci) C.1 C.2.1 C.2.2.2.2.1 hin C.2.2.2.1 C.2.2.2.2.2.2.2.2.1.1 (rb_one hat) 0 rfl hc k hkN (C.2.2.2.2.1 _ hlk) (fun _ h => h) (v := .int (gI G r k)) ?_ hd (kk ad H locs ls hP hn hS hl (ho.tl.cons (rb_ok_i _ _)) hv)
  rw [rb_vals_get, hb, Nat.zero_add]
  rfl
theorem rb_getP (C : rb_C Φ own cc nL fr lo mc ms) {r : rb_R} {idx ci k : Nat} (F : rb_FldR own idx ci k true) (hd : decode cc pc = .ok (.getfield idx, 3)) (hk : rb_k r.1 = ci) {o : Option rb_R} (hv0 : gP G r k = o) (kk : rb_W Φ cells slots (pc + 3) Lv (rbO o :: st) G) : rb_W Φ cells slots pc Lv (rbR r :: st) G := by
  subst hv0
  obtain ⟨p, l, e, R, s, m, args, below, meth, c, Q, X, A, ad0, G0⟩ := Φ
  intro ad H locs ls hP hn hS hl ho hv
  obtain ⟨RC, TT, N, hc, hin, hkN, hb, hci, hlk⟩ := F
  have hr := ho.hd r rfl
  obtain ⟨-, hat⟩ := hP.1 r hr (by rw [hk]; omega)
  rw [rb_eo hk hci] at hat
  refine va_get (C := RC) (T := TT) (N := N) (ci := ci) C.1 C.2.1 C.2.2.2.2.1 hin C.2.2.2.1 C.2.2.2.2.2.2.2.2.1.1 (rb_one hat) 0 rfl hc k hkN (C.2.2.2.2.1 _ hlk) (fun _ h => h) (v := rb_c ad (rbO (gP G r k))) ?_ hd (kk ad H locs ls hP hn hS hl (ho.tl.cons (fun r' e => hP.2.2.1 r k r' hr (by cases hq : gP G r k with | none => rw [hq] at e; cases e | some z => rw [hq] at e; cases e; rfl))) hv)
  rw [rb_vals_get, hb, Nat.zero_add]
  rfl
theorem rb_putI (C : rb_C Φ own cc nL fr lo mc ms) {r : rb_R} {v : Int32} {idx ci k : Nat} {ty : FieldType} (F : rb_Fld own idx ci k false false ty) (hd : decode cc pc = .ok (.putfield idx, 3)) (hk : rb_k r.1 = ci) (hnf : narrow ty (.int v) = .int v ∧ fits ty (.int v) = true) (kk : rb_W Φ cells slots (pc + 3) Lv st (sI G r k v)) : rb_W Φ cells slots pc Lv (rbI v :: rbR r :: st) G := by
  obtain ⟨p, l, e, R, s, m, args, below, meth, c, Q, X, A, ad0, G0⟩ := Φ
  intro ad H locs ls hP hn hS hl ho hv
  obtain ⟨RC, TT, N, ty0, hc, hin, hkN, hb, hci, hlk, hty, hnm, hd9, hf9, -⟩ := F
  have hr := ho.tl.hd r rfl
  have hk20 : rb_k r.1 < 20 := by rw [hk]; omega
  obtain ⟨hAr, hat⟩ := hP.1 r hr hk20
  rw [rb_eo hk hci] at hat
  obtain ⟨r9, h1, cell, q1, q2, q3, q4⟩ := hat
  cases Option.some.inj (h1.symm.trans hc)
  obtain ⟨hS9, hfc, kC, hkC, hkind⟩ := C.2.2.2.2.2.2.2.2.1.1.1 ci _ hc
  obtain ⟨cf, kf, fi, f, hi, hsl⟩ := hS9 k hkN
  have hap := va_apart (own := own) C.2.2.2.2.1 hin ty0 hty hnm C.2.2.2.2.2.2.2.2.1.1 hc
  have hlay := C.2.2.2.2.1 _ (hin _ (u_in_lay hkN))
  unfold u_lay at hlay
  rw [if_neg (by rw [hf9]; decide)] at hlay
  have hst := (u_facts hfc hkC (u_lays C.2.2.2.2.1 hin hkN) hi).1
  have h6 := u_store hfc hkC hkind hlay hi hd9 hnf.1 hnf.2
  refine W.putK C.1 C.2.1 (f := f) ⟨C.2.2.2.1, C.2.2.2.2.1 _ hlk, ⟨_, _, _, hi⟩, hst⟩ (by rw [q2]; exact h6) q1 q3 (by rw [hsl]; exact k2_hasslot (q4 k hkN)) rfl rfl hd fun H' e1 e2 e3 => ?_
  rw [hsl] at e1 ⊢
  have hlen : k < (rb_vals (rb_c ad) (rb_lay ci) 0 (gI G r) (gP G r)).length := by rw [rb_vals_len]; exact (List.getElem?_eq_some_iff.mp hb).1
  refine kk ad H' _ ls (hP.upd hr hk20 ?_ e3 rfl (fun r' h => rb_e_sI h) hP.2.2.1) hn (hS.put e2 e3 hAr) hl ho.tl.tl hv
  rw [rb_eo hk hci]
  refine ⟨_, hc, t_OB.to (V := updV (vp_V (rb_vals (rb_c ad) (rb_lay ci) 0 (gI G r) (gP G r))) k (.int v)) ⟨_, e1, q2, q3, t_set q4 hap hkN _⟩ (fun j _ => ?_)⟩
  rw [vp_updV_set hlen]
  exact congrArg (fun l => vp_V l j) (rb_vals_setI (rb_c ad) (gI G r) (gI (sI G r k v) r) (gP G r) (rb_lay ci) k v hb (up2_s _ _ _ _) (fun j hj => up2_n _ _ _ _ (fun q => hj q.2)))
theorem rb_putP (C : rb_C Φ own cc nL fr lo mc ms) {r : rb_R} {o : Option rb_R} {idx ci k : Nat} {ty : FieldType} (F : rb_Fld own idx ci k true false ty) (hd : decode cc pc = .ok (.putfield idx, 3)) (hk : rb_k r.1 = ci) (hrt : rb_rt ty = true) (kk : rb_W Φ cells slots (pc + 3) Lv st (sP G r k o)) : rb_W Φ cells slots pc Lv (rbO o :: rbR r :: st) G := by
  obtain ⟨p, l, e, R, s, m, args, below, meth, c, Q, X, A, ad0, G0⟩ := Φ
  intro ad H locs ls hP hn hS hl ho hv
  obtain ⟨RC, TT, N, ty0, hc, hin, hkN, hb, hci, hlk, hty, hnm, hd9, hf9, -⟩ := F
  have hr := ho.tl.hd r rfl
  have hk20 : rb_k r.1 < 20 := by rw [hk]; omega
  obtain ⟨hAr, hat⟩ := hP.1 r hr hk20
  rw [rb_eo hk hci] at hat
  obtain ⟨r9, h1, cell, q1, q2, q3, q4⟩ := hat
  cases Option.some.inj (h1.symm.trans hc)
  obtain ⟨hS9, hfc, kC, hkC, hkind⟩ := C.2.2.2.2.2.2.2.2.1.1.1 ci _ hc
  obtain ⟨cf, kf, fi, f, hi, hsl⟩ := hS9 k hkN
  have hap := va_apart (own := own) C.2.2.2.2.1 hin ty0 hty hnm C.2.2.2.2.2.2.2.2.1.1 hc
  have hlay := C.2.2.2.2.1 _ (hin _ (u_in_lay hkN))
  unfold u_lay at hlay
  rw [if_neg (by rw [hf9]; decide)] at hlay
  have hst := (u_facts hfc hkC (u_lays C.2.2.2.2.1 hin hkN) hi).1
  have hnf := rb_rt_fit hrt (o.map ad)
  have h6 := u_store hfc hkC hkind hlay hi hd9 hnf.1 hnf.2
  refine W.putK C.1 C.2.1 (f := f) (v := va_rf (o.map ad)) ⟨C.2.2.2.1, C.2.2.2.2.1 _ hlk, ⟨_, _, _, hi⟩, hst⟩ (by rw [q2]; exact h6) q1 q3 (by rw [hsl]; exact k2_hasslot (q4 k hkN)) rfl rfl hd fun H' e1 e2 e3 => ?_
  rw [hsl] at e1 ⊢
  have hlen : k < (rb_vals (rb_c ad) (rb_lay ci) 0 (gI G r) (gP G r)).length := by rw [rb_vals_len]; exact (List.getElem?_eq_some_iff.mp hb).1
  refine kk ad H' _ ls (hP.upd hr hk20 ?_ e3 rfl (fun r' h => rb_e_sP h) (rb_cl_sP hP.2.2.1 (rb_ok_o ho.hd))) hn (hS.put e2 e3 hAr) hl ho.tl.tl hv
  rw [rb_eo hk hci]
  refine ⟨_, hc, t_OB.to (V := updV (vp_V (rb_vals (rb_c ad) (rb_lay ci) 0 (gI G r) (gP G r))) k (va_rf (o.map ad))) ⟨_, e1, q2, q3, t_set q4 hap hkN _⟩ (fun j _ => ?_)⟩
  rw [vp_updV_set hlen]
  exact congrArg (fun l => vp_V l j) (rb_vals_setP (rb_c ad) (gI G r) (gP G r) (gP (sP G r k o) r) (rb_lay ci) k o hb (up2_s _ _ _ _) (fun j hj => up2_n _ _ _ _ (fun q => hj q.2)))
theorem rb_putFI (C : rb_C Φ own cc nL fr lo mc ms) (hin2 : rb_nm Φ "<init>") {r : rb_R} {v : Int32} {idx ci k : Nat} {ty : FieldType} (F : rb_Fld own idx ci k false true ty) (hd : decode cc pc = .ok (.putfield idx, 3)) (hk : rb_k r.1 = ci) (hnf : narrow ty (.int v) = .int v ∧ fits ty (.int v) = true) (kk : rb_W Φ cells slots (pc + 3) Lv st (sI G r k v)) : rb_W Φ cells slots pc Lv (rbI v :: rbR r :: st) G := by
  obtain ⟨p, l, e, R, s, m, args, below, meth, c, Q, X, A, ad0, G0⟩ := Φ
  intro ad H locs ls hP hn hS hl ho hv
  obtain ⟨RC, TT, N, ty0, hc, hin, hkN, hb, hci, hlk, hty, hnm, hd9, hf9, hdecl⟩ := F
  have hr := ho.tl.hd r rfl
  have hk20 : rb_k r.1 < 20 := by rw [hk]; omega
  obtain ⟨hAr, hat⟩ := hP.1 r hr hk20
  rw [rb_eo hk hci] at hat
  obtain ⟨r9, h1, cell, q1, q2, q3, q4⟩ := hat
  cases Option.some.inj (h1.symm.trans hc)
  obtain ⟨hS9, hfc, kC, hkC, hkind⟩ := C.2.2.2.2.2.2.2.2.1.1.1 ci _ hc
  obtain ⟨cf, kf, fi, f, hi, hsl⟩ := hS9 k hkN
  have hap := va_apart (own := own) C.2.2.2.2.1 hin ty0 hty hnm C.2.2.2.2.2.2.2.2.1.1 hc
  have hlay := C.2.2.2.2.1 _ (hin _ (u_in_lay hkN))
  unfold u_lay at hlay
  rw [if_pos hf9] at hlay
  have hst := (u_facts hfc hkC (u_lays C.2.2.2.2.1 hin hkN) hi).1
  have hcf : m.cls = cf := by
    obtain ⟨_, _, c', _, _, _, -, -, hf', -, -, -, hown2, -⟩ := Cond.laysFinal_spec hlay
    have e1 : c' = cf := by have := hi.symm.trans hf'; simp at this; exact this.1.symm
    rw [hdecl rfl] at hown2
    rw [← e1]; exact Option.some.inj (C.2.2.2.1.symm.trans hown2)
  have h6 := u_fits hfc hkC hkind (Or.inr hlay) hi hd9 hnf.1 hnf.2
  refine W.putFinK C.1 C.2.1 C.2.2.2.1 (C.2.2.2.2.1 _ hlk) hi hst hcf hin2 (by rw [q2]; exact h6) q1 q3 (by rw [hsl]; exact k2_hasslot (q4 k hkN)) rfl rfl hd fun H' e1 e2 e3 => ?_
  rw [hsl] at e1 ⊢
  have hlen : k < (rb_vals (rb_c ad) (rb_lay ci) 0 (gI G r) (gP G r)).length := by rw [rb_vals_len]; exact (List.getElem?_eq_some_iff.mp hb).1
  refine kk ad H' _ ls (hP.upd hr hk20 ?_ e3 rfl (fun r' h => rb_e_sI h) hP.2.2.1) hn (hS.put e2 e3 hAr) hl ho.tl.tl hv
  rw [rb_eo hk hci]
  refine ⟨_, hc, t_OB.to (V := updV (vp_V (rb_vals (rb_c ad) (rb_lay ci) 0 (gI G r) (gP G r))) k (.int v)) ⟨_, e1, q2, q3, t_set q4 hap hkN _⟩ (fun j _ => ?_)⟩
  rw [vp_updV_set hlen]
  exact congrArg (fun l => vp_V l j) (rb_vals_setI (rb_c ad) (gI G r) (gI (sI G r k v) r) (gP G r) (rb_lay ci) k v hb (up2_s _ _ _ _) (fun j hj => up2_n _ _ _ _ (fun q => hj q.2)))
theorem rb_putFP (C : rb_C Φ own cc nL fr lo mc ms) (hin2 : rb_nm Φ "<init>") {r : rb_R} {o : Option rb_R} {idx ci k : Nat} {ty : FieldType} (F : rb_Fld own idx ci k true true ty) (hd : decode cc pc = .ok (.putfield idx, 3)) (hk : rb_k r.1 = ci) (hrt : rb_rt ty = true) (kk : rb_W Φ cells slots (pc + 3) Lv st (sP G r k o)) : rb_W Φ cells slots pc Lv (rbO o :: rbR r :: st) G := by
  obtain ⟨p, l, e, R, s, m, args, below, meth, c, Q, X, A, ad0, G0⟩ := Φ
  intro ad H locs ls hP hn hS hl ho hv
  obtain ⟨RC, TT, N, ty0, hc, hin, hkN, hb, hci, hlk, hty, hnm, hd9, hf9, hdecl⟩ := F
  have hr := ho.tl.hd r rfl
  have hk20 : rb_k r.1 < 20 := by rw [hk]; omega
  obtain ⟨hAr, hat⟩ := hP.1 r hr hk20
  rw [rb_eo hk hci] at hat
  obtain ⟨r9, h1, cell, q1, q2, q3, q4⟩ := hat
  cases Option.some.inj (h1.symm.trans hc)
  obtain ⟨hS9, hfc, kC, hkC, hkind⟩ := C.2.2.2.2.2.2.2.2.1.1.1 ci _ hc
  obtain ⟨cf, kf, fi, f, hi, hsl⟩ := hS9 k hkN
  have hap := va_apart (own := own) C.2.2.2.2.1 hin ty0 hty hnm C.2.2.2.2.2.2.2.2.1.1 hc
  have hlay := C.2.2.2.2.1 _ (hin _ (u_in_lay hkN))
  unfold u_lay at hlay
  rw [if_pos hf9] at hlay
  have hst := (u_facts hfc hkC (u_lays C.2.2.2.2.1 hin hkN) hi).1
  have hcf : m.cls = cf := by
    obtain ⟨_, _, c', _, _, _, -, -, hf', -, -, -, hown2, -⟩ := Cond.laysFinal_spec hlay
    have e1 : c' = cf := by have := hi.symm.trans hf'; simp at this; exact this.1.symm
    rw [hdecl rfl] at hown2
    rw [← e1]; exact Option.some.inj (C.2.2.2.1.symm.trans hown2)
  have hnf := rb_rt_fit hrt (o.map ad)
  have h6 := u_fits hfc hkC hkind (Or.inr hlay) hi hd9 hnf.1 hnf.2
  refine W.putFinK C.1 C.2.1 (v := va_rf (o.map ad)) C.2.2.2.1 (C.2.2.2.2.1 _ hlk) hi hst hcf hin2 (by rw [q2]; exact h6) q1 q3 (by rw [hsl]; exact k2_hasslot (q4 k hkN)) rfl rfl hd fun H' e1 e2 e3 => ?_
  rw [hsl] at e1 ⊢
  have hlen : k < (rb_vals (rb_c ad) (rb_lay ci) 0 (gI G r) (gP G r)).length := by rw [rb_vals_len]; exact (List.getElem?_eq_some_iff.mp hb).1
  refine kk ad H' _ ls (hP.upd hr hk20 ?_ e3 rfl (fun r' h => rb_e_sP h) (rb_cl_sP hP.2.2.1 (rb_ok_o ho.hd))) hn (hS.put e2 e3 hAr) hl ho.tl.tl hv
  rw [rb_eo hk hci]
  refine ⟨_, hc, t_OB.to (V := updV (vp_V (rb_vals (rb_c ad) (rb_lay ci) 0 (gI G r) (gP G r))) k (va_rf (o.map ad))) ⟨_, e1, q2, q3, t_set q4 hap hkN _⟩ (fun j _ => ?_)⟩
  rw [vp_updV_set hlen]
  exact congrArg (fun l => vp_V l j) (rb_vals_setP (rb_c ad) (gI G r) (gP G r) (gP (sP G r k o) r) (rb_lay ci) k o hb (up2_s _ _ _ _) (fun j hj => up2_n _ _ _ _ (fun q => hj q.2)))
/-- arrays: reads -/
theorem rb_iald (C : rb_C Φ own cc nL fr lo mc ms) {r : rb_R} {i : Int32} (hd : decode cc pc = .ok (.iaload, 1)) (hk : rb_k r.1 = 10) (hi : vp_in i (gN G r)) (kk : rb_W Φ cells slots (pc + 1) Lv (rbI (gI G r i.toNatClampNeg) :: st) G) : rb_W Φ cells slots pc Lv (rbI i :: rbR r :: st) G := by
  obtain ⟨p, l, e, R, s, m, args, below, meth, c, Q, X, A, ad0, G0⟩ := Φ
  intro ad H locs ls hP hn hS hl ho hv
  obtain ⟨-, hat⟩ := hP.1 r (ho.tl.hd r rfl) (by rw [hk]; decide)
  rw [rb_eI hk (by decide) (by decide)] at hat
  exact va_iald C.1 C.2.1 C.2.2.2.2.2.2.2.2.1.1 (rb_one hat) 0 0 rfl rfl hi hd (kk ad H locs ls hP hn hS hl (ho.tl.tl.cons (rb_ok_i _ _)) hv)
theorem rb_zald (C : rb_C Φ own cc nL fr lo mc ms) {r : rb_R} {i : Int32} (hd : decode cc pc = .ok (.baload, 1)) (hk : rb_k r.1 = 11) (hi : vp_in i (gN G r)) (kk : rb_W Φ cells slots (pc + 1) Lv (rbI (gI G r i.toNatClampNeg) :: st) G) : rb_W Φ cells slots pc Lv (rbI i :: rbR r :: st) G := by
  obtain ⟨p, l, e, R, s, m, args, below, meth, c, Q, X, A, ad0, G0⟩ := Φ
  intro ad H locs ls hP hn hS hl ho hv
  obtain ⟨-, hat⟩ := hP.1 r (ho.tl.hd r rfl) (by rw [hk]; decide)
  rw [rb_eI hk (by decide) (by decide)] at hat
  exact va_zald C.1 C.2.1 C.2.2.2.2.2.2.2.2.1.1 (rb_one hat) 0 1 rfl rfl hi hd (kk ad H locs ls hP hn hS hl (ho.tl.tl.cons (rb_ok_i _ _)) hv)
theorem rb_lald (C : rb_C Φ own cc nL fr lo mc ms) {r : rb_R} {i : Int32} (hd : decode cc pc = .ok (.laload, 1)) (hk : rb_k r.1 = 12) (hi : vp_in i (gN G r)) (kk : rb_W Φ cells slots (pc + 1) Lv (rbL (gJ G r i.toNatClampNeg) :: st) G) : rb_W Φ cells slots pc Lv (rbI i :: rbR r :: st) G := by
  obtain ⟨p, l, e, R, s, m, args, below, meth, c, Q, X, A, ad0, G0⟩ := Φ
  intro ad H locs ls hP hn hS hl ho hv
  obtain ⟨-, hat⟩ := hP.1 r (ho.tl.hd r rfl) (by rw [hk]; decide)
  rw [rb_eL hk] at hat
  exact va_lald C.1 C.2.1 C.2.2.2.2.2.2.2.2.1.1 (rb_one hat) 0 2 rfl rfl hi hd (kk ad H locs ls hP hn hS hl (ho.tl.tl.cons (rb_ok_l _ _)) hv)
/-- the places of the rows of references: number in rb_tys, component -/
def rb_cp (k : Nat) : String := if k = 13 then "java/lang/Object" else if k = 14 then RX5 else RX0
theorem rb_tys_q (cA : Nat → ClassId) {k : Nat} (h1 : 12 < k) (h2 : k < 16) : (rb_tys cA)[k - 10]? = some (cA k, .object (rb_cp k)) := by
  rcases (by omega : k = 13 ∨ k = 14 ∨ k = 15) with rfl | rfl | rfl <;> rfl
theorem rb_aald (C : rb_C Φ own cc nL fr lo mc ms) {r : rb_R} {i : Int32} {k : Nat} (hd : decode cc pc = .ok (.aaload, 1)) (hk : rb_k r.1 = k) (h1 : 12 < k) (h2 : k < 16) (hi : vp_in i (gN G r)) {o : Option rb_R} (hv0 : gP G r i.toNatClampNeg = o) (kk : rb_W Φ cells slots (pc + 1) Lv (rbO o :: st) G) : rb_W Φ cells slots pc Lv (rbI i :: rbR r :: st) G := by
  subst hv0
  obtain ⟨p, l, e, R, s, m, args, below, meth, c, Q, X, A, ad0, G0⟩ := Φ
  intro ad H locs ls hP hn hS hl ho hv
  have hr := ho.tl.hd r rfl
  obtain ⟨-, hat⟩ := hP.1 r hr (by rw [hk]; omega)
  rw [rb_eP hk h1] at hat
  exact va_aldq C.1 C.2.1 C.2.2.2.2.2.2.2.2.1.1 (rb_one hat) 0 (k - 10) rfl (rb_tys_q _ h1 h2) hi hd (kk ad H locs ls hP hn hS hl (ho.tl.tl.cons (fun r' e => hP.2.2.1 r _ r' hr (by cases hq : gP G r i.toNatClampNeg with | none => rw [hq] at e; cases e | some z => rw [hq] at e; cases e; rfl))) hv)
theorem rb_alen (C : rb_C Φ own cc nL fr lo mc ms) {r : rb_R} {k : Nat} (hd : decode cc pc = .ok (.arraylength, 1)) (hk : rb_k r.1 = k) (h1 : 9 < k) (h2 : k < 16) (kk : rb_W Φ cells slots (pc + 1) Lv (rbI (nI (gN G r)) :: st) G) : rb_W Φ cells slots pc Lv (rbR r :: st) G := by
  obtain ⟨p, l, e, R, s, m, args, below, meth, c, Q, X, A, ad0, G0⟩ := Φ
  intro ad H locs ls hP hn hS hl ho hv
  have hr := ho.hd r rfl
  obtain ⟨-, hat⟩ := hP.1 r hr (by rw [hk]; omega)
  have hk9 := kk ad H locs ls hP hn hS hl (ho.tl.cons (rb_ok_i _ _)) hv
  rcases (by omega : k = 10 ∨ k = 11 ∨ k = 12 ∨ 12 < k) with rfl | rfl | rfl | h3
  · rw [rb_eI hk (by decide) (by decide)] at hat
    exact va_alen C.1 C.2.1 C.2.2.2.2.2.2.2.2.1.1 (rb_one hat) 0 0 rfl (ty := .int) rfl rfl hd hk9
  · rw [rb_eI hk (by decide) (by decide)] at hat
    exact va_alen C.1 C.2.1 C.2.2.2.2.2.2.2.2.1.1 (rb_one hat) 0 1 rfl (ty := .boolean) rfl rfl hd hk9
  · rw [rb_eL hk] at hat
    exact va_alen C.1 C.2.1 C.2.2.2.2.2.2.2.2.1.1 (rb_one hat) 0 2 rfl (ty := .long) rfl rfl hd hk9
  · rw [rb_eP hk h3] at hat
    exact va_alen C.1 C.2.1 C.2.2.2.2.2.2.2.2.1.1 (rb_one hat) 0 (k - 10) rfl (rb_tys_q _ h3 h2) rfl hd hk9
/-- the empty row of ArrayList -/
theorem rb_alenE (C : rb_C Φ own cc nL fr lo mc ms) (hd : decode cc pc = .ok (.arraylength, 1)) (kk : rb_W Φ cells slots (pc + 1) Lv (rbI 0 :: st) G) : rb_W Φ cells slots pc Lv (rbR (19, 0, 0) :: st) G := by
  obtain ⟨p, l, e, R, s, m, args, below, meth, c, Q, X, A, ad0, G0⟩ := Φ
  intro ad H locs ls hP hn hS hl ho hv
  have h := kk ad H locs ls hP hn hS hl (ho.tl.cons (rb_ok_i _ _)) hv
  show W p l e R s m args below meth c H locs cells slots Q (F0 m pc ls (Value.ref (ad (19, 0, 0)) :: st.map (rb_c ad)))
  rw [hP.2.2.2.1]
  exact va_tlen C.1 C.2.1 C.2.2.2.2.2.2.2.2.2.1.2.2.2 hS (v := 0) rfl hd h
/-- arrays: writes -/
theorem rb_iast (C : rb_C Φ own cc nL fr lo mc ms) {r : rb_R} {i x : Int32} (hd : decode cc pc = .ok (.iastore, 1)) (hk : rb_k r.1 = 10) (hi : vp_in i (gN G r)) (kk : rb_W Φ cells slots (pc + 1) Lv st (sI G r i.toNatClampNeg x)) : rb_W Φ cells slots pc Lv (rbI x :: rbI i :: rbR r :: st) G := by
  obtain ⟨p, l, e, R, s, m, args, below, meth, c, Q, X, A, ad0, G0⟩ := Φ
  intro ad H locs ls hP hn hS hl ho hv
  have hr := ho.tl.tl.hd r rfl
  have hk20 : rb_k r.1 < 20 := by rw [hk]; decide
  obtain ⟨hAr, hat⟩ := hP.1 r hr hk20
  rw [rb_eI hk (by decide) (by decide)] at hat
  refine W.iast C.1 C.2.1 hat ((C.2.2.2.2.2.2.2.2.1.1.2 0 _ rfl).1 (gN G r) (fun j => .int (gI G r j))) (fun q => by cases q) (by show ¬ (i < 0 ∨ (arrV _ _ _).slots.size ≤ _); rw [arrV_size]; exact hi) rfl rfl hd fun H1 e1 e2 e3 => ?_
  refine kk ad H1 _ ls (hP.upd hr hk20 ?_ e3 rfl (fun r' h => rb_e_sI h) hP.2.2.1) hn (hS.put e2 e3 hAr) hl ho.tl.tl.tl hv
  rw [rb_eI hk (by decide) (by decide)]
  show H1[ad r]? = some (vp_cell _ _)
  rw [e1, vp_cell_i, vp_cell_i, arrV_store]
  congr 2
  funext q
  by_cases hq : q = i.toNatClampNeg
  · subst hq
    simp [updV, sI, gI, up2]
  · simp [updV, sI, gI, up2, hq]
theorem rb_zast (C : rb_C Φ own cc nL fr lo mc ms) {r : rb_R} {i x : Int32} (hd : decode cc pc = .ok (.bastore, 1)) (hk : rb_k r.1 = 11) (hi : vp_in i (gN G r)) (hz : narrow .boolean (.int x) = .int x) (kk : rb_W Φ cells slots (pc + 1) Lv st (sI G r i.toNatClampNeg x)) : rb_W Φ cells slots pc Lv (rbI x :: rbI i :: rbR r :: st) G := by
  obtain ⟨p, l, e, R, s, m, args, below, meth, c, Q, X, A, ad0, G0⟩ := Φ
  intro ad H locs ls hP hn hS hl ho hv
  have hr := ho.tl.tl.hd r rfl
  have hk20 : rb_k r.1 < 20 := by rw [hk]; decide
  obtain ⟨hAr, hat⟩ := hP.1 r hr hk20
  rw [rb_eI hk (by decide) (by decide)] at hat
  refine W.zast C.1 C.2.1 hat ((C.2.2.2.2.2.2.2.2.1.1.2 1 _ rfl).1 (gN G r) (fun j => .int (gI G r j))) (fun q => by cases q) (by show ¬ (i < 0 ∨ (arrV _ _ _).slots.size ≤ _); rw [arrV_size]; exact hi) rfl rfl hd fun H1 e1 e2 e3 => ?_
  refine kk ad H1 _ ls (hP.upd hr hk20 ?_ e3 rfl (fun r' h => rb_e_sI h) hP.2.2.1) hn (hS.put e2 e3 hAr) hl ho.tl.tl.tl hv
  rw [rb_eI hk (by decide) (by decide)]
  show H1[ad r]? = some (vp_cell _ _)
  rw [e1, hz, vp_cell_i, vp_cell_i, arrV_store]
  congr 2
  funext q
  by_cases hq : q = i.toNatClampNeg
  · subst hq
    simp [updV, sI, gI, up2]
  · simp [updV, sI, gI, up2, hq]
theorem rb_last (C : rb_C Φ own cc nL fr lo mc ms) {r : rb_R} {i : Int32} {x : Int64} (hd : decode cc pc = .ok (.lastore, 1)) (hk : rb_k r.1 = 12) (hi : vp_in i (gN G r)) (kk : rb_W Φ cells slots (pc + 1) Lv st (sJ G r i.toNatClampNeg x)) : rb_W Φ cells slots pc Lv (rbL x :: rbI i :: rbR r :: st) G := by
  obtain ⟨p, l, e, R, s, m, args, below, meth, c, Q, X, A, ad0, G0⟩ := Φ
  intro ad H locs ls hP hn hS hl ho hv
  have hr := ho.tl.tl.hd r rfl
  have hk20 : rb_k r.1 < 20 := by rw [hk]; decide
  obtain ⟨hAr, hat⟩ := hP.1 r hr hk20
  rw [rb_eL hk] at hat
  refine W.last C.1 C.2.1 hat ((C.2.2.2.2.2.2.2.2.1.1.2 2 _ rfl).1 (gN G r) (fun j => .long (gJ G r j))) (fun q => by cases q) (by show ¬ (i < 0 ∨ (arrV _ _ _).slots.size ≤ _); rw [arrV_size]; exact hi) rfl rfl hd fun H1 e1 e2 e3 => ?_
  refine kk ad H1 _ ls (hP.upd hr hk20 ?_ e3 rfl (fun r' h => rb_e_sJ h) hP.2.2.1) hn (hS.put e2 e3 hAr) hl ho.tl.tl.tl hv
  rw [rb_eL hk]
  show H1[ad r]? = some (vp_cell _ _)
  rw [e1, vp_cell_l, vp_cell_l, arrV_store]
  congr 2
  funext q
  by_cases hq : q = i.toNatClampNeg
  · subst hq
    simp [updV, sJ, gJ, up2]
  · simp [updV, sJ, gJ, up2, hq]
/-- an object of class ci may lie in a row of kind k -/
def rb_fit2 (k ci : Nat) : Prop := (k = 14 ∧ ci = 6) ∨ (k = 15 ∧ ci = 1) ∨ (k = 13 ∧ (ci = 2 ∨ ci = 7 ∨ ci = 4 ∨ ci = 5))
theorem rb_aast (C : rb_C Φ own cc nL fr lo mc ms) {r v : rb_R} {i : Int32} {k ci : Nat} (hd : decode cc pc = .ok (.aastore, 1)) (hk : rb_k r.1 = k) (hkv : rb_k v.1 = ci) (hf : rb_fit2 k ci) (hi : vp_in i (gN G r)) (kk : rb_W Φ cells slots (pc + 1) Lv st (sP G r i.toNatClampNeg (some v))) : rb_W Φ cells slots pc Lv (rbR v :: rbI i :: rbR r :: st) G := by
  obtain ⟨p, l, e, R, s, m, args, below, meth, c, Q, X, A, ad0, G0⟩ := Φ
  intro ad H locs ls hP hn hS hl ho hv
  have hr := ho.tl.tl.hd r rfl
  have hrv := ho.hd v rfl
  have h12 : 12 < k ∧ k < 16 ∧ ci < 10 := by
    rcases hf with ⟨rfl, rfl⟩ | ⟨rfl, rfl⟩ | ⟨rfl, rfl | rfl | rfl | rfl⟩ <;> decide
  have hk20 : rb_k r.1 < 20 := by rw [hk]; omega
  obtain ⟨hAr, hat⟩ := hP.1 r hr hk20
  rw [rb_eP hk h12.1] at hat
  obtain ⟨-, hav⟩ := hP.1 v hrv (by rw [hkv]; omega)
  rw [rb_eo hkv h12.2.2] at hav
  have h0 : ¬ i < 0 := fun q => hi (Or.inl q)
  have hlt : i.toNatClampNeg < gN G r := Nat.not_le.mp fun q => hi (Or.inr q)
  have hK1 := C.2.2.2.2.2.2.2.2.1
  obtain ⟨r', hr', cellV, g1, g2, g3, -⟩ := hav
  obtain ⟨hArr, hRA⟩ := hK1.1.2 (k - 10) _ (rb_tys_q _ h12.1 h12.2.1)
  obtain ⟨kA, comp, k1, k2, k3, -⟩ := hRA
  have hcls := (hK1.1.1 ci r' hr').2
  obtain ⟨kC, hkC, hkind⟩ := hcls.2
  have hasg : s.vm.assignable (X.1.1 ci) comp = true := by
    have cst : ∀ nm : String, (nm, "java/lang/Object") ∈ rb_cst → s.vm.findClass nm = some (X.1.1 ci) → s.vm.findClass "java/lang/Object" = some comp → s.vm.assignable (X.1.1 ci) comp = true := by
      intro nm hm f1 f2
      obtain ⟨c0, t0, e1, e2, e3⟩ := Cond.castable_spec (va_Nw.use (A := #[]) rfl (hK1.2.2.1 _ hm))
      cases Option.some.inj (e1.symm.trans f1)
      cases Option.some.inj (e2.symm.trans f2)
      exact e3
    rcases hf with ⟨rfl, rfl⟩ | ⟨rfl, rfl⟩ | ⟨rfl, rfl | rfl | rfl | rfl⟩
    · cases Option.some.inj (hr'.symm.trans (rfl : vwCl[6]? = some (RX5, TX5, 7)))
      cases Option.some.inj (k3.symm.trans hcls.1)
      exact va_assign hcls
    · cases Option.some.inj (hr'.symm.trans (rfl : vwCl[1]? = some (RX0, TX0, 3)))
      cases Option.some.inj (k3.symm.trans hcls.1)
      exact va_assign hcls
    · cases Option.some.inj (hr'.symm.trans (rfl : vwCl[2]? = some (RX1, TX1, 7)))
      exact cst RX1 (by decide +kernel) hcls.1 k3
    · cases Option.some.inj (hr'.symm.trans (rfl : vwCl[7]? = some (RX6, TX6, 11)))
      exact cst RX6 (by decide +kernel) hcls.1 k3
    · cases Option.some.inj (hr'.symm.trans (rfl : vwCl[4]? = some (RX3, TX3, 4)))
      exact cst RX3 (by decide +kernel) hcls.1 k3
    · cases Option.some.inj (hr'.symm.trans (rfl : vwCl[5]? = some (RX4, TX4, 5)))
      exact cst RX4 (by decide +kernel) hcls.1 k3
  obtain ⟨kcomp, hkcomp, -⟩ := Vm.findClass_spec k3
  refine W.aast C.1 C.2.1 hat (fun q h => by cases h) (fun h => by cases h) k1 k2 rfl hkcomp ⟨h0, by show _ < (arrV _ _ _).slots.size; rw [arrV_size]; exact hlt⟩ g1 (fun q h => by rw [g3] at h; cases h) (by rw [g2]; exact hkC) (by rw [g2]; exact hasg) rfl rfl hd fun H1 e1 e2 e3 => ?_
  refine kk ad H1 _ ls (hP.upd hr hk20 ?_ e3 rfl (fun r' h => rb_e_sP h) (rb_cl_sP hP.2.2.1 (fun r2 e2 => by cases e2; exact hrv))) hn (hS.put e2 e3 hAr) hl ho.tl.tl.tl hv
  rw [rb_eP hk h12.1]
  show H1[ad r]? = some (vp_cell _ _)
  rw [e1, vp_cell_q, vp_cell_q, arrV_store]
  congr 2
  funext q
  by_cases hq : q = i.toNatClampNeg
  · subst hq
    simp [updV, sP, gP, up2, va_rf]
  · simp [updV, sP, gP, up2, hq]
end
end
section
/-! new cells -/
theorem rb_e_nx {ad ad' : rb_R → Nat} {cA : Nat → ClassId} {G G' : rb_G} {r : rb_R} (h : ∀ r', gD G r' → ad' r' = ad r') (hr : gD G r) (hcl : ∀ r1 k r2, gD G r1 → gP G r1 k = some r2 → gD G r2) (hN : gN G' r = gN G r) (hI : gI G' r = gI G r) (hP : gP G' r = gP G r) (hJ : gJ G' r = gJ G r) : rb_e ad' cA G' r = rb_e ad cA G r := by
  have e1 : ∀ k, rb_c ad' (rbO (gP G r k)) = rb_c ad (rbO (gP G r k)) := by
    intro k
    cases hq : gP G r k with
    | none => rfl
    | some z => show Value.ref (ad' z) = Value.ref (ad z); rw [h z (hcl r k z hr hq)]
  have e2 : ∀ l k0, rb_vals (rb_c ad') l k0 (gI G r) (gP G r) = rb_vals (rb_c ad) l k0 (gI G r) (gP G r) := by
    intro l k0
    apply List.ext_getElem?
    intro j
    rw [rb_vals_get, rb_vals_get, e1]
    rfl
  have e3 : (fun j => (gP G r j).map ad') = fun j => (gP G r j).map ad := by
    funext j
    cases hq : gP G r j with
    | none => rfl
    | some z => show some (ad' z) = some (ad z); rw [h z (hcl r j z hr hq)]
  unfold rb_e
  rw [hN, hI, hP, hJ, e2, e3]
theorem rb_ls.nx {G G' : rb_G} {ad ad' : rb_R → Nat} {ls : Array Slot} {Lv : List (Option rb_V)} (hn : rb_nx G ad G' ad') (hv : rb_okO G Lv) (h : rb_ls ad ls Lv) : rb_ls ad' ls Lv := by
  refine ⟨h.1, h.2.1, fun q hq => ?_⟩
  obtain ⟨k, v, h1, rfl⟩ := (rb_al_mem ad' Lv 0 q).mp hq
  refine h.2.2 _ ((rb_al_mem ad Lv 0 _).mpr ⟨k, v, h1, ?_⟩)
  rw [rb_c_nx hn (hv v (List.mem_of_getElem? h1))]
def rb_adN (ad : rb_R → Nat) (r : rb_R) (q : Nat) : rb_R → Nat := fun x => if x = r then q else ad x
theorem rb_nx.new {G : rb_G} {ad : rb_R → Nat} {r : rb_R} {n q : Nat} (hf : ¬ gD G r) : rb_nx G ad (sN G r n) (rb_adN ad r q) := fun x hx => ⟨Or.inr hx, by
  unfold rb_adN
  rw [if_neg (fun e => hf (by rw [← e]; exact hx))]⟩
theorem rb_P.new {X : rb_X} {ad : rb_R → Nat} {A : Nat → Prop} {G : rb_G} {H H1 : Heap} {r : rb_R} {n : Nat} (hP : rb_P X ad A G H) (hf : ¬ gD G r) (hk : rb_k r.1 < 20) (hA : A H.size) (ho : ∀ q : Nat, q < H.size → H1[q]? = H[q]?)
    (hat : va_at X.1 vwCl (H.size, rb_e (rb_adN ad r H.size) X.2.1 (sN G r n) r) H1) : rb_P X (rb_adN ad r H.size) A (sN G r n) H1 := by
  obtain ⟨h1, h2, h3, h4, h5⟩ := hP
  have hnx : ∀ r', gD G r' → rb_adN ad r H.size r' = ad r' := fun r' hr' => (rb_nx.new (n := n) (q := H.size) (ad := ad) hf r' hr').2
  have hself : rb_adN ad r H.size r = H.size := by unfold rb_adN; rw [if_pos rfl]
  refine ⟨fun r' hr' hk' => ?_, fun r1 r2 a b k1 k2 e => ?_, fun r1 k r2 a b => ?_, ?_, ?_⟩
  · by_cases e : r' = r
    · subst e
      rw [hself]
      exact ⟨hA, hat⟩
    · have hr0 : gD G r' := hr'.resolve_left e
      obtain ⟨g1, g2⟩ := h1 r' hr0 hk'
      rw [hnx r' hr0]
      refine ⟨g1, ?_⟩
      rw [rb_e_nx (ad := ad) (G := G) hnx hr0 h3 (by show (if r' = r then n else gN G r') = gN G r'; rw [if_neg e]) (by funext k; show (if r' = r then 0 else gI G r' k) = gI G r' k; rw [if_neg e]) (by funext k; show (if r' = r then none else gP G r' k) = gP G r' k; rw [if_neg e]) (by funext k; show (if r' = r then 0 else gJ G r' k) = gJ G r' k; rw [if_neg e])]
      exact g2.kept (ho _ g2.lt)
  · by_cases e1 : r1 = r
    · by_cases e2 : r2 = r
      · rw [e1, e2]
      · have hr0 : gD G r2 := b.resolve_left e2
        have := (h1 r2 hr0 k2).2.lt
        rw [e1, hself, hnx r2 hr0] at e
        have : ad r2 < H.size := this
        omega
    · have hr1 : gD G r1 := a.resolve_left e1
      by_cases e2 : r2 = r
      · have := (h1 r1 hr1 k1).2.lt
        rw [e2, hself, hnx r1 hr1] at e
        have : ad r1 < H.size := this
        omega
      · have hr2 : gD G r2 := b.resolve_left e2
        rw [hnx r1 hr1, hnx r2 hr2] at e
        exact h2 r1 r2 hr1 hr2 k1 k2 e
  · have b' : (if r1 = r then none else gP G r1 k) = some r2 := b
    split at b'
    · cases b'
    · exact Or.inr (h3 r1 k r2 (a.resolve_left (by assumption)) b')
  · unfold rb_adN
    rw [if_neg (fun e => by rw [← e] at hk; exact absurd hk (by decide))]
    exact h4
  · unfold rb_adN
    rw [if_neg (fun e => by rw [← e] at hk; exact absurd hk (by decide)), if_neg (fun e => by rw [← e] at hk; exact absurd hk (by decide))]
    exact h5
theorem va_S.new {A : Nat → Prop} {H0 H H1 : Heap} {locs : List Loc} (h : va_S A H0 H locs) (z : H1.size = H.size + 1) (o : ∀ q : Nat, q < H.size → H1[q]? = H[q]?) : va_S A H0 H1 locs :=
  ⟨Nat.le_trans h.1 (by omega), fun q h1 h2 => (o q (Nat.lt_of_lt_of_le h1 h.1)).trans (h.2.1 q h1 h2), h.2.2⟩
def rb_z : List Bool → List Value
  | [] => []
  | b :: t => (if b = true then Value.null else .int 0) :: rb_z t
theorem rb_vals_z (ad : rb_R → Nat) : ∀ (l : List Bool) (k0 : Nat), rb_vals (rb_c ad) l k0 (fun _ => 0) (fun _ => none) = rb_z l := by
  intro l
  induction l with
  | nil => intro k0; rfl
  | cons b t ih =>
    intro k0
    show (if b = true then Value.null else Value.int 0) :: rb_vals (rb_c ad) t (k0 + 1) (fun _ => 0) (fun _ => none) = _
    rw [ih]
    rfl
/-- a class that is made: by its pool number, its number in vwCl, its slots -/
def rb_Cls (own : String) (idx ci N : Nat) : Prop := ∃ (RC : String) (TT : u_T) (ty0 : Nat → FieldType), vwCl[ci]? = some (RC, TT, N) ∧ (∀ w ∈ u_ws RC TT N, w ∈ TS) ∧ ci < 10 ∧ Cond.classLink own idx RC ∈ TS ∧ Cond.instantiable RC N ∈ TS ∧ Cond.initialized RC ∈ TS ∧
  (∀ k, k < N → parseFieldDescriptor (TT k).2.2.1 = some (ty0 k)) ∧ ∀ j, j < N → defaultValue (ty0 j) = vp_V (rb_z (rb_lay ci)) j
section
variable {Φ : rb_F} {own : String} {cc : ByteArray} {nL fr lo mc ms cells slots pc : Nat} {Lv Lv' : List (Option rb_V)} {st rest As : List rb_V} {G : rb_G}
theorem sN_I {G : rb_G} {r : rb_R} {n : Nat} : gI (sN G r n) r = fun _ => 0 := by funext k; show (if r = r then 0 else _) = 0; rw [if_pos rfl]
theorem sN_P {G : rb_G} {r : rb_R} {n : Nat} : gP (sN G r n) r = fun _ => none := by funext k; show (if r = r then none else _) = none; rw [if_pos rfl]
theorem sN_J {G : rb_G} {r : rb_R} {n : Nat} : gJ (sN G r n) r = fun _ => 0 := by funext k; show (if r = r then 0 else _) = 0; rw [if_pos rfl]
theorem sN_N {G : rb_G} {r : rb_R} {n : Nat} : gN (sN G r n) r = n := by show (if r = r then n else _) = n; rw [if_pos rfl]
theorem rb_new (C : rb_C Φ own cc nL fr lo mc ms) (r : rb_R) {idx ci N : Nat} (F : rb_Cls own idx ci N) (hd : decode cc pc = .ok (.new idx, 3)) (hk : rb_k r.1 = ci) (hf : ¬ gD G r) (hc : cells + 1 ≤ mc) (hs : slots + N ≤ ms) (kk : rb_W Φ (cells + 1) (slots + N) (pc + 3) Lv (rbR r :: st) (sN G r 0)) : rb_W Φ cells slots pc Lv st G := by
  obtain ⟨p, l, e, R, s, m, args, below, meth, c, Q, X, A, ad0, G0⟩ := Φ
  intro ad H locs ls hP hn hS hl ho hv
  obtain ⟨RC, TT, ty0, hcl, hin, hci, hlk, hinst, hini, hty, hdef⟩ := F
  have hK1 := C.2.2.2.2.2.2.2.2.1
  have hR := C.2.2.2.2.2.2.1
  subst hR
  have hKn := hK1.1.1 ci _ hcl
  refine W.newcK C.1 C.2.1 C.2.2.2.1 (C.2.2.2.2.1 _ hlk) (C.2.2.2.2.1 _ hinst) (C.2.2.2.2.1 _ hini) rfl hd hc hs hKn.2.1 rfl fun H1 kC hkC e1 z1 o1 => ?_
  have hnx : rb_nx G ad (sN G r 0) (rb_adN ad r H.size) := rb_nx.new hf
  have hA : A H.size := C.2.2.2.2.2.2.2.2.2.2 _ hS.1
  have key : rb_P X (rb_adN ad r H.size) A (sN G r 0) H1 := by
    refine hP.new hf (by rw [hk]; omega) hA o1 ?_
    rw [rb_eo hk hci, sN_I, sN_P, rb_vals_z]
    exact ⟨_, hcl, (u_born ty0 C.2.2.2.2.1 hin hKn hkC e1 hty).to hdef⟩
  have hself : rb_adN ad r H.size r = H.size := by unfold rb_adN; rw [if_pos rfl]
  have h := kk (rb_adN ad r H.size) H1 locs ls key (hn.tr hnx) (hS.new z1 o1) (hl.nx hnx hv) ((ho.mono (fun x hx => (hnx x hx).1)).cons (rb_ok_r (Or.inl rfl))) (hv.mono (fun x hx => (hnx x hx).1))
  have e2 : (rbR r :: st).map (rb_c (rb_adN ad r H.size)) = Value.ref H.size :: st.map (rb_c ad) := by
    show Value.ref (rb_adN ad r H.size r) :: st.map (rb_c (rb_adN ad r H.size)) = _
    rw [hself, rb_map_nx hnx ho]
  rw [e2] at h
  exact h
theorem rb_newaG (C : rb_C Φ own cc nL fr lo mc ms) (r : rb_R) {at' : ArrayType} {k t0 : Nat} {n : Int32} {N : Nat} {ty : FieldType} (hw : Cond.arrayClass (newarray.typeOf at') ∈ TS) (hty : newarray.typeOf at' = ty) (ht0 : ∀ cA, (rb_tys cA)[t0]? = some (cA k, ty)) (hnr : ∀ U c, va_RA U c ty = (U.vm.findClass ("[" ++ ty.toString) = some c))
    (hd : decode cc pc = .ok (.newarray at', 2)) (hk : rb_k r.1 = k) (hk20 : k < 20) (he : ∀ (ad : rb_R → Nat) (cA : Nat → ClassId), rb_e ad cA (sN G r N) r = .inl (cA k, (rb_e ad cA (sN G r N) r).elim (fun x => x.2) (fun _ => (0, .inl fun _ => 0))) ∧ vp_cell (cA k) ((rb_e ad cA (sN G r N) r).elim (fun x => x.2) (fun _ => (0, .inl fun _ => 0))) = arrV (cA k) N (fun _ => defaultValue ty))
    (hf : ¬ gD G r) (hn : ¬ n < 0) (hN : n.toNatClampNeg = N) (hby : N * componentBytes ty ≤ 536870912) (hc : cells + 1 ≤ mc) (hs : slots + N ≤ ms) (kk : rb_W Φ (cells + 1) (slots + N) (pc + 2) Lv (rbR r :: st) (sN G r N)) : rb_W Φ cells slots pc Lv (rbI n :: st) G := by
  obtain ⟨p, l, e, R, s, m, args, below, meth, c, Q, X, A, ad0, G0⟩ := Φ
  intro ad H locs ls hP hn' hS hl ho hv
  have hK1 := C.2.2.2.2.2.2.2.2.1
  have hR := C.2.2.2.2.2.2.1
  subst hR
  subst hty
  refine va_newaK C.1 C.2.1 (C.2.2.2.2.1 _ hw) rfl hd rfl hn hN hby hc hs rfl fun H1 cA' e1 z1 o1 _ hnm => ?_
  have hnx : rb_nx G ad (sN G r N) (rb_adN ad r H.size) := rb_nx.new hf
  have hA : A H.size := C.2.2.2.2.2.2.2.2.2.2 _ hS.1
  have hcA : cA' = X.2.1 k := by
    have h2 := (hK1.1.2 t0 _ (ht0 X.2.1)).2
    rw [hnr] at h2
    exact Option.some.inj (hnm.symm.trans h2)
  subst hcA
  have key : rb_P X (rb_adN ad r H.size) A (sN G r N) H1 := by
    refine hP.new hf (by rw [hk]; exact hk20) hA o1 ?_
    obtain ⟨x1, x2⟩ := he (rb_adN ad r H.size) X.2.1
    rw [x1]
    show H1[H.size]? = some (vp_cell _ _)
    rw [x2]
    exact e1
  have hself : rb_adN ad r H.size r = H.size := by unfold rb_adN; rw [if_pos rfl]
  have h := kk (rb_adN ad r H.size) H1 locs ls key (hn'.tr hnx) (hS.new z1 o1) (hl.nx hnx hv) ((ho.tl.mono (fun x hx => (hnx x hx).1)).cons (rb_ok_r (Or.inl rfl))) (hv.mono (fun x hx => (hnx x hx).1))
  have e2 : (rbR r :: st).map (rb_c (rb_adN ad r H.size)) = Value.ref H.size :: st.map (rb_c ad) := by
    show Value.ref (rb_adN ad r H.size r) :: st.map (rb_c (rb_adN ad r H.size)) = _
    rw [hself, rb_map_nx hnx ho.tl]
  rw [e2] at h
  exact h
theorem rb_newaI (C : rb_C Φ own cc nL fr lo mc ms) (r : rb_R) {n : Int32} (N : Nat) (hw : Cond.arrayClass .int ∈ TS) (hd : decode cc pc = .ok (.newarray .int, 2)) (hk : rb_k r.1 = 10) (hf : ¬ gD G r) (hn : ¬ n < 0) (hN : n.toNatClampNeg = N) (hby : N * 4 ≤ 536870912) (hc : cells + 1 ≤ mc) (hs : slots + N ≤ ms) (kk : rb_W Φ (cells + 1) (slots + N) (pc + 2) Lv (rbR r :: st) (sN G r N)) : rb_W Φ cells slots pc Lv (rbI n :: st) G := by
  refine rb_newaG C r (at' := .int) (k := 10) (t0 := 0) (ty := .int) hw rfl (fun _ => rfl) (fun _ _ => rfl) hd hk (by decide) (fun ad cA => ?_) hf hn hN hby hc hs kk
  rw [rb_eI hk (by decide) (by decide)]
  refine ⟨rfl, ?_⟩
  show vp_cell _ (gN (sN G r N) r, .inl (gI (sN G r N) r)) = _
  rw [sN_N, sN_I]
  rfl
theorem rb_newaZ (C : rb_C Φ own cc nL fr lo mc ms) (r : rb_R) {n : Int32} (N : Nat) (hw : Cond.arrayClass .boolean ∈ TS) (hd : decode cc pc = .ok (.newarray .boolean, 2)) (hk : rb_k r.1 = 11) (hf : ¬ gD G r) (hn : ¬ n < 0) (hN : n.toNatClampNeg = N) (hby : N * componentBytes .boolean ≤ 536870912) (hc : cells + 1 ≤ mc) (hs : slots + N ≤ ms) (kk : rb_W Φ (cells + 1) (slots + N) (pc + 2) Lv (rbR r :: st) (sN G r N)) : rb_W Φ cells slots pc Lv (rbI n :: st) G := by
  refine rb_newaG C r (at' := .boolean) (k := 11) (t0 := 1) (ty := .boolean) hw rfl (fun _ => rfl) (fun _ _ => rfl) hd hk (by decide) (fun ad cA => ?_) hf hn hN hby hc hs kk
  rw [rb_eI hk (by decide) (by decide)]
  refine ⟨rfl, ?_⟩
  show vp_cell _ (gN (sN G r N) r, .inl (gI (sN G r N) r)) = _
  rw [sN_N, sN_I]
  rfl
theorem rb_newaL (C : rb_C Φ own cc nL fr lo mc ms) (r : rb_R) {n : Int32} (N : Nat) (hw : Cond.arrayClass .long ∈ TS) (hd : decode cc pc = .ok (.newarray .long, 2)) (hk : rb_k r.1 = 12) (hf : ¬ gD G r) (hn : ¬ n < 0) (hN : n.toNatClampNeg = N) (hby : N * componentBytes .long ≤ 536870912) (hc : cells + 1 ≤ mc) (hs : slots + N ≤ ms) (kk : rb_W Φ (cells + 1) (slots + N) (pc + 2) Lv (rbR r :: st) (sN G r N)) : rb_W Φ cells slots pc Lv (rbI n :: st) G := by
  refine rb_newaG C r (at' := .long) (k := 12) (t0 := 2) (ty := .long) hw rfl (fun _ => rfl) (fun _ _ => rfl) hd hk (by decide) (fun ad cA => ?_) hf hn hN hby hc hs kk
  rw [rb_eL hk]
  refine ⟨rfl, ?_⟩
  show vp_cell _ (gN (sN G r N) r, .inr (.inl (gJ (sN G r N) r))) = _
  rw [sN_N, sN_J]
  rfl
/-- anewarray -/
theorem rb_anew (C : rb_C Φ own cc nL fr lo mc ms) (r : rb_R) {idx k : Nat} {n : Int32} (N : Nat) (hw : Cond.classLink own idx (rb_cp k) ∈ TS) (h1 : 12 < k) (h2 : k < 16) (hd : decode cc pc = .ok (.anewarray idx, 3)) (hk : rb_k r.1 = k) (hf : ¬ gD G r) (hn : ¬ n < 0) (hN : n.toNatClampNeg = N) (hby : N * 4 ≤ 536870912) (hc : cells + 1 ≤ mc) (hs : slots + N ≤ ms) (kk : rb_W Φ (cells + 1) (slots + N) (pc + 3) Lv (rbR r :: st) (sN G r N)) : rb_W Φ cells slots pc Lv (rbI n :: st) G := by
  obtain ⟨p, l, e, R, s, m, args, below, meth, c, Q, X, A, ad0, G0⟩ := Φ
  intro ad H locs ls hP hn' hS hl ho hv
  have hK1 := C.2.2.2.2.2.2.2.2.1
  have hR := C.2.2.2.2.2.2.1
  subst hR
  subst hN
  have hAO : va_AO (rb_cp k) s := hK1.2.1 _ (by rcases (by omega : k = 13 ∨ k = 14 ∨ k = 15) with rfl | rfl | rfl <;> simp [rb_cp])
  refine W.anew C.1 C.2.1 C.2.2.2.1 (C.2.2.2.2.1 _ hw) (va_AO.use hAO) rfl hd rfl hn hby hc hs fun cA' kA comp f1 f2 f3 f4 => ?_
  generalize hH1 : H.push ({ cls := cA', slots := Array.replicate n.toNatClampNeg .null, vm := .none } : Cell) = H1
  have z1 : H1.size = H.size + 1 := by rw [← hH1, Array.size_push]
  have e1 : H1[H.size]? = some (arrV cA' n.toNatClampNeg (fun _ => .null)) := by rw [← hH1, Array.getElem?_push_size, ← arrV_new]
  have o1 : ∀ q : Nat, q < H.size → H1[q]? = H[q]? := fun q hq => by rw [← hH1, Array.getElem?_push, if_neg (Nat.ne_of_lt hq)]
  have hnx : rb_nx G ad (sN G r n.toNatClampNeg) (rb_adN ad r H.size) := rb_nx.new hf
  have hA : A H.size := C.2.2.2.2.2.2.2.2.2.2 _ hS.1
  have hcA : cA' = X.2.1 k := by
    obtain ⟨kA2, comp2, g1, g2, g3, g4⟩ := (hK1.1.2 (k - 10) _ (rb_tys_q X.2.1 h1 h2)).2
    exact Option.some.inj (f1.symm.trans g4)
  subst hcA
  have key : rb_P X (rb_adN ad r H.size) A (sN G r n.toNatClampNeg) H1 := by
    refine hP.new hf (by rw [hk]; omega) hA o1 ?_
    rw [rb_eP hk h1, sN_N, sN_P]
    exact e1
  have hself : rb_adN ad r H.size r = H.size := by unfold rb_adN; rw [if_pos rfl]
  have h := kk (rb_adN ad r H.size) H1 locs ls key (hn'.tr hnx) (hS.new z1 o1) (hl.nx hnx hv) ((ho.tl.mono (fun x hx => (hnx x hx).1)).cons (rb_ok_r (Or.inl rfl))) (hv.mono (fun x hx => (hnx x hx).1))
  have e2 : (rbR r :: st).map (rb_c (rb_adN ad r H.size)) = Value.ref H.size :: st.map (rb_c ad) := by
    show Value.ref (rb_adN ad r H.size r) :: st.map (rb_c (rb_adN ad r H.size)) = _
    rw [hself, rb_map_nx hnx ho.tl]
  rw [e2] at h
  exact h
/-- checkcast of an object of just that class -/
theorem rb_cast (C : rb_C Φ own cc nL fr lo mc ms) {r : rb_R} {idx ci N : Nat} {RC : String} {TT : u_T} (hw : Cond.classLink own idx RC ∈ TS) (hc : vwCl[ci]? = some (RC, TT, N)) (hci : ci < 10) (hd : decode cc pc = .ok (.checkcast idx, 3)) (hk : rb_k r.1 = ci) (kk : rb_W Φ cells slots (pc + 3) Lv (rbR r :: st) G) : rb_W Φ cells slots pc Lv (rbR r :: st) G := by
  obtain ⟨p, l, e, R, s, m, args, below, meth, c, Q, X, A, ad0, G0⟩ := Φ
  intro ad H locs ls hP hn hS hl ho hv
  have hK1 := C.2.2.2.2.2.2.2.2.1
  obtain ⟨-, hat⟩ := hP.1 r (ho.hd r rfl) (by rw [hk]; omega)
  rw [rb_eo hk hci] at hat
  exact va_castS C.1 C.2.1 C.2.2.2.1 (C.2.2.2.2.1 _ hw) (hK1.1.1 ci _ hc).2 (va_recv hK1.1 (rb_one hat) hc (q0 := 0) rfl) hd (kk ad H locs ls hP hn hS hl ho hv)
/-- the static that holds ArrayList's empty row -/
theorem rb_getE (C : rb_C Φ own cc nL fr lo mc ms) {idx : Nat} (hw : Cond.fieldLink own idx "java/util/ArrayList" "DEFAULTCAPACITY_EMPTY_ELEMENTDATA" "[Ljava/lang/Object;" ∈ TS) (hd : decode cc pc = .ok (.getstatic idx, 3)) (hD : gD G (19, 0, 0)) (kk : rb_W Φ cells slots (pc + 3) Lv (rbR (19, 0, 0) :: st) G) : rb_W Φ cells slots pc Lv st G := by
  obtain ⟨p, l, e, R, s, m, args, below, meth, c, Q, X, A, ad0, G0⟩ := Φ
  intro ad H locs ls hP hn hS hl ho hv
  have h := kk ad H locs ls hP hn hS hl (ho.cons (rb_ok_r hD)) hv
  have e1 : (rbR (19, 0, 0) :: st).map (rb_c ad) = Value.ref X.2.2.1 :: st.map (rb_c ad) := by
    show Value.ref (ad (19, 0, 0)) :: _ = _
    rw [hP.2.2.2.1]
  rw [e1] at h
  exact va_gets C.1 C.2.1 C.2.2.2.2.2.2.2.2.2.1.2.2.1 hS C.2.2.2.1 (C.2.2.2.2.1 _ hw) (fun _ h => h) hd h
/-! calls -/
theorem rb_run_x {p : Program} {l : Launch} {e : Env} {R : Room} {s : State} {m : MethodId} {args : Array Value} {below : List Frame} {meth : Method} {c : Code} {H : Heap} {locs : List Loc} {mc' ms' : Nat} {g : JFrame} {rs : List Value} {Qa : State → Outcome → State → Prop} {XC : String → State → State → Prop} {free : Addr → Prop}
    (h : va_Run p l e R s m args below meth c H locs cells slots mc' ms' g rs Qa free) : vx_Run p l e R s m args below meth c H locs cells slots mc' ms' g rs Qa XC free := by
  intro T hT X
  exact Or.inl (h T hT X)
theorem rb_after {p : Program} {l : Launch} {e : Env} {R : Room} {s : State} {m : MethodId} {args : Array Value} {below : List Frame} {meth : Method} {c : Code} {Q : State → Prop} {X : rb_X} {A : Nat → Prop} {ad0 ad : rb_R → Nat} {G0 : rb_G} {H : Heap} {locs : List Loc} {ls : Array Slot} {mc' ms' : Nat} {st0 : List Value} {a : Array Value} {Post : Option rb_V → rb_G → Prop} {PX : String → rb_G → Prop}
    (hr : vx_Run p l e R s m args below meth c H locs cells slots mc' ms' (F0 m pc ls st0) (rest.map (rb_c ad)) (rb_Q X A ad G Post a) (rb_QX X A ad G PX) A) (hn : rb_nx G0 ad0 G ad) (hS : va_S A s.heap H locs) (hl : rb_ls ad ls Lv) (ho : rb_okL G rest) (hv : rb_okO G Lv)
    (kk : ∀ v G', Post v G' → rb_W (p, l, e, R, s, m, args, below, meth, c, Q, X, A, ad0, G0) (cells + mc') (slots + ms') (pc + 3) Lv (v.toList ++ rest) G')
    (kx : ∀ E G', PX E G' → rb_Wx (p, l, e, R, s, m, args, below, meth, c, Q, X, A, ad0, G0) (cells + mc') (slots + ms') pc Lv rest G' E) : W p l e R s m args below meth c H locs cells slots Q (F0 m pc ls st0) := by
  intro T hT Xs
  rcases hr T hT Xs with ⟨v, st₀, t, T', L, h0, X', hL, e1, e2, ⟨⟨v', G', ad', hv', hp, hnx, hok, hP'⟩, hF⟩, stp⟩ | ⟨q, st₀, t, T', L, E, ce, h0, X', hL, e1, e2, ⟨⟨G', ad', hp, hnx, hP'⟩, hF⟩, hce, hcv, hcl, stp⟩
  · cases hv'
    obtain ⟨k1, k2, k3⟩ := vx_keep h0 e1 hS (fun _ _ h => h) (fun _ h => h) hL hF
    have hmono : ∀ r, gD G r → gD G' r := fun r hr => (hnx r hr).1
    have hok2 : rb_okL G' (v'.toList ++ rest) := by
      intro w hw
      rcases List.mem_append.mp hw with h | h
      · exact hok w (by simpa using h)
      · exact (ho w h).mono hmono
    obtain ⟨t2, a1, b1⟩ := kk v' G' hp ad' T'.heap (locs ++ L) ls (by rw [e1]; exact hP') (hn.tr hnx) k3 (hl.nx hnx hv) hok2 (hv.mono hmono) T' rfl X'
    refine ⟨t2, stp t2 ?_, b1⟩
    have e3 : (v'.toList ++ rest).map (rb_c ad') = (v'.map (rb_c ad')).toList ++ rest.map (rb_c ad) := by
      rw [List.map_append, rb_map_nx hnx ho]
      cases v' <;> rfl
    rw [e3] at a1
    exact a1
  · obtain ⟨k1, k2, k3⟩ := vx_keep h0 e1 hS (fun _ _ h => h) (fun _ h => h) hL hF
    have hmono : ∀ r, gD G r → gD G' r := fun r hr => (hnx r hr).1
    obtain ⟨t2, a1, b1⟩ := kx E G' hp ad' T'.heap (locs ++ L) ls q ce (by rw [e1]; exact hP') (hn.tr hnx) k3 (hl.nx hnx hv) (ho.mono hmono) (hv.mono hmono) (by rw [e1]; exact hce) hcv hcl T' rfl X'
    refine ⟨t2, stp.trans ?_, b1⟩
    rw [rb_map_nx hnx ho] at a1
    exact a1
/-- the words of a call -/
def rb_Vc (own : String) (idx : Nat) (D : String) (y : MethodName) (b : ByteArray) (n : Nat) (ret : Option FieldType) (k : Nat) : Prop := Cond.methodLink own idx y ∈ TS ∧ Cond.instanceMethod y ∈ TS ∧ Cond.selects D y y ∈ TS ∧ Cond.initialized D ∈ TS ∧ Cond.code y b n ret ∈ TS ∧
  (y.cls = D ∧ y.cls ≠ "java/lang/invoke/MethodHandle" ∧ y.cls ≠ "java/lang/invoke/VarHandle" ∧ (parseMethodDescriptor y.desc).map (fun d => d.parameters.length) = some k)
def rb_Sc (own : String) (idx : Nat) (y : MethodName) (b : ByteArray) (n : Nat) (ret : Option FieldType) (k : Nat) : Prop := Cond.methodLink own idx y ∈ TS ∧ Cond.static y ∈ TS ∧ Cond.initialized y.cls ∈ TS ∧ Cond.code y b n ret ∈ TS ∧
  (y.cls ≠ "java/lang/invoke/MethodHandle" ∧ y.cls ≠ "java/lang/invoke/VarHandle" ∧ (parseMethodDescriptor y.desc).map (fun d => d.parameters.length) = some k)
def rb_Ic (own : String) (idx : Nat) (y : MethodName) (b : ByteArray) (n : Nat) (k : Nat) : Prop := Cond.methodLink own idx y ∈ TS ∧ Cond.instanceMethod y ∈ TS ∧ Cond.initialized y.cls ∈ TS ∧ Cond.code y b n none ∈ TS ∧ y.name = "<init>" ∧
  (y.cls ≠ "java/lang/invoke/MethodHandle" ∧ y.cls ≠ "java/lang/invoke/VarHandle" ∧ (parseMethodDescriptor y.desc).map (fun d => d.parameters.length) = some k)
/-- a method called by a name, on an object of just that class -/
theorem rb_callV (C : rb_C Φ own cc nL fr lo mc ms) {r : rb_R} {idx n k ci N fr' lo' mc' ms' : Nat} {D : String} {TT : u_T} {y : MethodName} {b : ByteArray} {ret : Option FieldType} {Post : Option rb_V → rb_G → Prop} {PX : String → rb_G → Prop}
    (F : rb_Vc own idx D y b n ret k) (hM : ∀ l X, rb_M l X y (.code y b n ret) fr' lo' mc' ms' (rbR r :: As) G Post PX) (hc : vwCl[ci]? = some (D, TT, N)) (hci : ci < 10) (hk : rb_k r.1 = ci) (hd : decode cc pc = .ok (.invokevirtual idx, 3)) (hst : st = As.reverse ++ (rbR r :: rest)) (hk9 : As.length = k) (hlen : Lv.length = nL) (hcat : (rest.map rb_cat).sum ≤ 8)
    (hroom : fr' + 1 ≤ fr ∧ 8 + (n + 11) + lo' ≤ lo) (hc9 : cells + mc' ≤ mc) (hs9 : slots + ms' ≤ ms) (kk : ∀ v G', Post v G' → rb_W Φ (cells + mc') (slots + ms') (pc + 3) Lv (v.toList ++ rest) G') (kx : ∀ E G', PX E G' → rb_Wx Φ (cells + mc') (slots + ms') pc Lv rest G' E) : rb_W Φ cells slots pc Lv st G := by
  obtain ⟨p, l, e, R, s, m, args, below, meth, c, Q, X, A, ad0, G0⟩ := Φ
  intro ad H locs ls hP hn hS hl ho hv
  subst hst
  have hK1 := C.2.2.2.2.2.2.2.2.1
  have hR := C.2.2.2.2.2.2.1
  subst hR
  obtain ⟨w1, w2, w3, w4, w5, w6⟩ := F
  have hor : rb_okL G (rbR r :: rest) := fun v hv => ho v (List.mem_append_right _ hv)
  have hoa : rb_okL G (rbR r :: As) := fun v hv => (List.mem_cons.mp hv).elim (fun e => by rw [e]; exact hor.hd) (fun h => ho v (List.mem_append_left _ (List.mem_reverse.mpr h)))
  obtain ⟨-, hat⟩ := hP.1 r (hor.hd r rfl) (by rw [hk]; omega)
  rw [rb_eo hk hci] at hat
  have hG : GoodIn TS (wsV own idx D y (Cond.code y b n ret :: TS)) := fun w hw => by
    unfold wsV at hw
    rcases List.mem_append.mp hw with h | h
    · simp only [List.mem_cons, List.not_mem_nil, or_false] at h
      rcases h with rfl | rfl | rfl | rfl
      · exact ts_good _ w1
      · exact ts_good _ w2
      · exact ts_good _ w3
      · exact ts_good _ w4
    · exact ts_code w5 w h
  have hrun := vx_runV (R := ({ frames := fr, cells := mc, slots := ms, locals := lo } : Room)) (n := k) (ret := ret) (maxL := n) (bytes := b) (As := As.map (rb_c ad)) (rest := rest.map (rb_c ad)) (cells := cells) (slots := slots) (locs := locs) (b := ad r) (e := e) (p := p) (g := F0 m pc ls ((As.reverse ++ (rbR r :: rest)).map (rb_c ad)))
    (meth := meth) (below := below) ⟨C.1, C.2.1, C.2.2.1, C.2.2.2.1, C.2.2.2.2.1⟩ (hM l X C.2.2.2.2.2.2.2.1 A ad) (cwV (C := D) k C.2.2.2.2.1 hG rfl rfl rfl w6 hroom)
    ⟨rb_blind, va_recv hK1.1 (rb_one hat) hc (q0 := 0) rfl, fun U hU hW => ⟨rfl, fun q hq => C.2.2.2.2.2.2.2.2.2.2 q (Nat.le_trans hS.1 (by rw [← hU]; exact hq)), by rw [hU]; exact hP, hK1.warm hW, by rw [hU]; exact C.2.2.2.2.2.2.2.2.2.1.moved hW.alike hS.2.1, hoa⟩⟩
    rfl (by rw [List.length_map]; exact hk9) (by show ls.size = nL; rw [hl.1, hlen]) (by show (As.reverse ++ (rbR r :: rest)).map (rb_c ad) = _; rw [List.map_append, List.map_reverse]; rfl)
    (lv_room (by rw [List.map_map, show ((fun v => Value.category v) ∘ rb_c ad) = rb_cat from funext fun v => rb_cat_c ad v]; exact hcat)) hd ⟨hc9, hs9⟩
  exact rb_after hrun hn hS hl hor.tl hv kk kx
theorem rb_callS (C : rb_C Φ own cc nL fr lo mc ms) {idx n k fr' lo' mc' ms' : Nat} {y : MethodName} {b : ByteArray} {ret : Option FieldType} {Post : Option rb_V → rb_G → Prop} {PX : String → rb_G → Prop}
    (F : rb_Sc own idx y b n ret k) (hM : ∀ l X, rb_M l X y (.code y b n ret) fr' lo' mc' ms' As G Post PX) (hd : decode cc pc = .ok (.invokestatic idx, 3)) (hst : st = As.reverse ++ rest) (hk9 : As.length = k) (hlen : Lv.length = nL) (hcat : (rest.map rb_cat).sum ≤ 8)
    (hroom : fr' + 1 ≤ fr ∧ 8 + (n + 11) + lo' ≤ lo) (hc9 : cells + mc' ≤ mc) (hs9 : slots + ms' ≤ ms) (kk : ∀ v G', Post v G' → rb_W Φ (cells + mc') (slots + ms') (pc + 3) Lv (v.toList ++ rest) G') (kx : ∀ E G', PX E G' → rb_Wx Φ (cells + mc') (slots + ms') pc Lv rest G' E) : rb_W Φ cells slots pc Lv st G := by
  obtain ⟨p, l, e, R, s, m, args, below, meth, c, Q, X, A, ad0, G0⟩ := Φ
  intro ad H locs ls hP hn hS hl ho hv
  subst hst
  have hK1 := C.2.2.2.2.2.2.2.2.1
  have hR := C.2.2.2.2.2.2.1
  subst hR
  obtain ⟨w1, w2, w4, w5, w6⟩ := F
  have hor : rb_okL G rest := fun v hv => ho v (List.mem_append_right _ hv)
  have hoa : rb_okL G As := fun v h => ho v (List.mem_append_left _ (List.mem_reverse.mpr h))
  have hrun := vx_runS (R := ({ frames := fr, cells := mc, slots := ms, locals := lo } : Room)) (n := k) (ret := ret) (maxL := n) (bytes := b) (As := As.map (rb_c ad)) (rest := rest.map (rb_c ad)) (cells := cells) (slots := slots) (locs := locs) (e := e) (p := p) (H := H) (g := F0 m pc ls ((As.reverse ++ rest).map (rb_c ad)))
    (meth := meth) (below := below) ⟨C.1, C.2.1, C.2.2.1, C.2.2.2.1, C.2.2.2.2.1⟩ (hM l X C.2.2.2.2.2.2.2.1 A ad) ⟨callB_of k C.2.2.2.2.1 (ts_code w5) rfl rfl rfl (C.2.2.2.2.1 _ w4) (C.2.2.2.2.1 _ w1) w6 hroom, C.2.2.2.2.1 _ w2⟩
    ⟨rb_blind, fun U hU hW => ⟨rfl, fun q hq => C.2.2.2.2.2.2.2.2.2.2 q (Nat.le_trans hS.1 (by rw [← hU]; exact hq)), by rw [hU]; exact hP, hK1.warm hW, by rw [hU]; exact C.2.2.2.2.2.2.2.2.2.1.moved hW.alike hS.2.1, hoa⟩⟩
    rfl (by rw [List.length_map]; exact hk9) (by show ls.size = nL; rw [hl.1, hlen]) (by show (As.reverse ++ rest).map (rb_c ad) = _; rw [List.map_append, List.map_reverse])
    (lv_room (by rw [List.map_map, show ((fun v => Value.category v) ∘ rb_c ad) = rb_cat from funext fun v => rb_cat_c ad v]; exact hcat)) hd ⟨hc9, hs9⟩
  exact rb_after hrun hn hS hl hor hv kk kx
/-- a constructor -/
theorem rb_callI (C : rb_C Φ own cc nL fr lo mc ms) {r : rb_R} {idx n k fr' lo' mc' ms' : Nat} {y : MethodName} {b : ByteArray} {Post : Option rb_V → rb_G → Prop}
    (F : rb_Ic own idx y b n k) (hM : ∀ l X, rb_N l X y (.code y b n none) fr' lo' mc' ms' (rbR r :: As) G Post) (hd : decode cc pc = .ok (.invokespecial idx, 3)) (hst : st = As.reverse ++ (rbR r :: rest)) (hk9 : As.length = k) (hlen : Lv.length = nL) (hcat : (rest.map rb_cat).sum ≤ 8)
    (hroom : fr' + 1 ≤ fr ∧ 8 + (n + 11) + lo' ≤ lo) (hc9 : cells + mc' ≤ mc) (hs9 : slots + ms' ≤ ms) (kk : ∀ v G', Post v G' → rb_W Φ (cells + mc') (slots + ms') (pc + 3) Lv (v.toList ++ rest) G') : rb_W Φ cells slots pc Lv st G := by
  obtain ⟨p, l, e, R, s, m, args, below, meth, c, Q, X, A, ad0, G0⟩ := Φ
  intro ad H locs ls hP hn hS hl ho hv
  subst hst
  have hK1 := C.2.2.2.2.2.2.2.2.1
  have hR := C.2.2.2.2.2.2.1
  subst hR
  obtain ⟨w1, w2, w4, w5, w6, w7⟩ := F
  have hor : rb_okL G (rbR r :: rest) := fun v hv => ho v (List.mem_append_right _ hv)
  have hoa : rb_okL G (rbR r :: As) := fun v hv => (List.mem_cons.mp hv).elim (fun e => by rw [e]; exact hor.hd) (fun h => ho v (List.mem_append_left _ (List.mem_reverse.mpr h)))
  have hrun := va_runI (R := ({ frames := fr, cells := mc, slots := ms, locals := lo } : Room)) (n := k) (maxL := n) (bytes := b) (As := As.map (rb_c ad)) (rest := rest.map (rb_c ad)) (cells := cells) (slots := slots) (locs := locs) (b := ad r) (e := e) (p := p) (H := H) (g := F0 m pc ls ((As.reverse ++ (rbR r :: rest)).map (rb_c ad)))
    (meth := meth) (below := below) ⟨C.1, C.2.1, C.2.2.1, C.2.2.2.1, C.2.2.2.2.1⟩ (hM l X C.2.2.2.2.2.2.2.1 A ad) (cwI k C.2.2.2.2.1 (ts_code w5) rfl rfl rfl (C.2.2.2.2.1 _ w4) (C.2.2.2.2.1 _ w1) (C.2.2.2.2.1 _ w2) w6 w7 hroom)
    ⟨rb_blind, fun U hU hW => ⟨rfl, fun q hq => C.2.2.2.2.2.2.2.2.2.2 q (Nat.le_trans hS.1 (by rw [← hU]; exact hq)), by rw [hU]; exact hP, hK1.warm hW, by rw [hU]; exact C.2.2.2.2.2.2.2.2.2.1.moved hW.alike hS.2.1, hoa⟩⟩
    rfl (by rw [List.length_map]; exact hk9) (by show ls.size = nL; rw [hl.1, hlen]) (by show (As.reverse ++ (rbR r :: rest)).map (rb_c ad) = _; rw [List.map_append, List.map_reverse]; rfl)
    (lv_room (by rw [List.map_map, show ((fun v => Value.category v) ∘ rb_c ad) = rb_cat from funext fun v => rb_cat_c ad v]; exact hcat)) hd ⟨hc9, hs9⟩
  exact rb_after (PX := fun _ _ => False) (rb_run_x hrun) hn hS hl hor.tl hv kk (fun E G' h => h.elim)
/-- a private constructor of a nest mate -/
theorem rb_callIN (C : rb_C Φ own cc nL fr lo mc ms) {r : rb_R} {idx n k fr' lo' mc' ms' : Nat} {host : String} {y : MethodName} {b : ByteArray} {Post : Option rb_V → rb_G → Prop}
    (hlk : ∀ X s, rb_K1 X s → va_Nw (.methodLinkNest own idx y host) s) (w2 : Cond.instanceMethod y ∈ TS) (w4 : Cond.initialized y.cls ∈ TS) (w5 : Cond.code y b n none ∈ TS) (w6 : y.name = "<init>") (w7 : y.cls ≠ "java/lang/invoke/MethodHandle" ∧ y.cls ≠ "java/lang/invoke/VarHandle" ∧ (parseMethodDescriptor y.desc).map (fun d => d.parameters.length) = some k)
    (hM : ∀ l X, rb_N l X y (.code y b n none) fr' lo' mc' ms' (rbR r :: As) G Post) (hd : decode cc pc = .ok (.invokespecial idx, 3)) (hst : st = As.reverse ++ (rbR r :: rest)) (hk9 : As.length = k) (hlen : Lv.length = nL) (hcat : (rest.map rb_cat).sum ≤ 8)
    (hroom : fr' + 1 ≤ fr ∧ 8 + (n + 11) + lo' ≤ lo) (hc9 : cells + mc' ≤ mc) (hs9 : slots + ms' ≤ ms) (kk : ∀ v G', Post v G' → rb_W Φ (cells + mc') (slots + ms') (pc + 3) Lv (v.toList ++ rest) G') : rb_W Φ cells slots pc Lv st G := by
  obtain ⟨p, l, e, R, s, m, args, below, meth, c, Q, X, A, ad0, G0⟩ := Φ
  intro ad H locs ls hP hn hS hl ho hv
  subst hst
  have hK1 := C.2.2.2.2.2.2.2.2.1
  have hR := C.2.2.2.2.2.2.1
  subst hR
  have hor : rb_okL G (rbR r :: rest) := fun v hv => ho v (List.mem_append_right _ hv)
  have hoa : rb_okL G (rbR r :: As) := fun v hv => (List.mem_cons.mp hv).elim (fun e => by rw [e]; exact hor.hd) (fun h => ho v (List.mem_append_left _ (List.mem_reverse.mpr h)))
  have hrun := va_runIN (R := ({ frames := fr, cells := mc, slots := ms, locals := lo } : Room)) (n := k) (maxL := n) (bytes := b) (As := As.map (rb_c ad)) (rest := rest.map (rb_c ad)) (cells := cells) (slots := slots) (locs := locs) (b := ad r) (e := e) (p := p) (H := H) (g := F0 m pc ls ((As.reverse ++ (rbR r :: rest)).map (rb_c ad)))
    (meth := meth) (below := below) ⟨C.1, C.2.1, C.2.2.1, C.2.2.2.1, C.2.2.2.2.1⟩ (hM l X C.2.2.2.2.2.2.2.1 A ad) ⟨va_cnB k C.2.2.2.2.1 (ts_code w5) rfl rfl rfl (hlk X s hK1) (C.2.2.2.2.1 _ w4) w7 hroom, w6, C.2.2.2.2.1 _ w2⟩
    ⟨rb_blind, fun U hU hW => ⟨rfl, fun q hq => C.2.2.2.2.2.2.2.2.2.2 q (Nat.le_trans hS.1 (by rw [← hU]; exact hq)), by rw [hU]; exact hP, hK1.warm hW, by rw [hU]; exact C.2.2.2.2.2.2.2.2.2.1.moved hW.alike hS.2.1, hoa⟩⟩
    rfl (by rw [List.length_map]; exact hk9) (by show ls.size = nL; rw [hl.1, hlen]) (by show (As.reverse ++ (rbR r :: rest)).map (rb_c ad) = _; rw [List.map_append, List.map_reverse]; rfl)
    (lv_room (by rw [List.map_map, show ((fun v => Value.category v) ∘ rb_c ad) = rb_cat from funext fun v => rb_cat_c ad v]; exact hcat)) hd ⟨hc9, hs9⟩
  exact rb_after (PX := fun _ _ => False) (rb_run_x hrun) hn hS hl hor.tl hv kk (fun E G' h => h.elim)
/-- Object.<init> -/
theorem rb_objInit (C : rb_C Φ own cc nL fr lo mc ms) {r : rb_R} {idx : Nat} (w1 : Cond.methodLink own idx objectInit ∈ TS) (w2 : Cond.instanceMethod objectInit ∈ TS) (w3 : Cond.code objectInit ⟨#[0xb1]⟩ 1 none ∈ TS) (hd : decode cc pc = .ok (.invokespecial idx, 3)) (hlen : Lv.length = nL) (hcat : (st.map rb_cat).sum + 12 ≤ lo) (hfr : 1 ≤ fr) (kk : rb_W Φ cells slots (pc + 3) Lv st G) : rb_W Φ cells slots pc Lv (rbR r :: st) G := by
  obtain ⟨p, l, e, R, s, m, args, below, meth, c, Q, X, A, ad0, G0⟩ := Φ
  intro ad H locs ls hP hn hS hl ho hv
  have hR := C.2.2.2.2.2.2.1
  subst hR
  refine W.objInit C.1 C.2.1 C.2.2.2.1 (C.2.2.2.2.1 _ w1) (C.2.2.2.2.1 _ w2) (C.2.2.2.2.1 _ w3) (g := F0 m pc ls ((rbR r :: st).map (rb_c ad))) rfl (by show ls.size = _; rw [hl.1, hlen, C.2.2.1]) rfl hd hfr ?_ (kk ad H locs ls hP hn hS hl ho.tl hv)
  show 2 * 0 + ((st.map (rb_c ad)).map fun v => v.category).sum + 12 ≤ lo
  rw [List.map_map, show ((fun v => Value.category v) ∘ rb_c ad) = rb_cat from funext fun v => rb_cat_c ad v]
  omega
end
end
section
/-! exceptions -/
theorem rb_P.keep {X : rb_X} {ad : rb_R → Nat} {A : Nat → Prop} {G : rb_G} {H H1 : Heap} (hP : rb_P X ad A G H) (h : ∀ q : Nat, q < H.size → H1[q]? = H[q]?) : rb_P X ad A G H1 :=
  ⟨fun r hr hk => ⟨(hP.1 r hr hk).1, (hP.1 r hr hk).2.kept (h _ (hP.1 r hr hk).2.lt)⟩, hP.2⟩
def rb_sup : List String := ["java/lang/RuntimeException", "java/lang/Exception"]
def rb_Thr (ik ic : Nat) (cls : String) : Prop := Cond.classLink RX7 ik cls ∈ TS ∧ Cond.initialized cls ∈ TS ∧ Bundle.fit cls = true ∧ (∀ w ∈ (vx_atS RX7 ic cls rb_sup).filter goodWord, w ∈ TS) ∧ (∀ w ∈ (vx_atS RX7 ic cls rb_sup).filter (fun w => !goodWord w), w ∈ Cond.castable cls cls :: rb_dcl.map Cond.declares) ∧
  (cls, cls) ∈ rb_cst ∧ ∀ w ∈ Cond.classLink RX7 ik cls :: Cond.initialized cls :: vx_atS RX7 ic cls rb_sup, vx_ot w = true
section
variable {Φ : rb_F} {own : String} {cc : ByteArray} {nL fr lo mc ms cells slots pc : Nat} {Lv Lv' : List (Option rb_V)} {st rest As : List rb_V} {G : rb_G}
theorem rb_throw (C : rb_C Φ RX7 cc nL fr lo mc ms) {PX : String → rb_G → Prop} (hE : rb_EX Φ PX mc ms) {cls text : String} {ik is ic : Nat} (F : rb_Thr ik ic cls) (hst : (is, text) ∈ rb_strs) (d0 : decode cc pc = .ok (.new ik, 3)) (d3 : decode cc (pc + 3) = .ok (.dup, 1)) (d4 : decode cc (pc + 4) = .ok (.ldc is, 2)) (d6 : decode cc (pc + 6) = .ok (.invokespecial ic, 3)) (d9 : decode cc (pc + 9) = .ok (.athrow, 1))
    (hlen : Lv.length = nL) (hfr : 5 < fr) (hlo : (st.map rb_cat).sum + 82 ≤ lo) (hc : cells + 1 ≤ mc) (hs : slots + 6 ≤ ms) (hp : PX cls G) : rb_W Φ cells slots pc Lv st G := by
  obtain ⟨p, l, e, R, s, m, args, below, meth, c, Q, X, A, ad0, G0⟩ := Φ
  intro ad H locs ls hP hn hS hl ho hv
  have hR := C.2.2.2.2.2.2.1
  subst hR
  have hK1 := C.2.2.2.2.2.2.2.2.1
  have hK2 := C.2.2.2.2.2.2.2.2.2.1
  obtain ⟨ht, Qc, hQ⟩ := hE
  subst hQ
  obtain ⟨w1, w2, w3, w4, w5, w6, w7⟩ := F
  obtain ⟨sa, hsa⟩ := hK1.2.2.2.2.1 _ hst
  refine vx_throwS (names := rb_sup) (sa := sa) C.1 C.2.1 C.2.2.2.2.2.2.2.1 C.2.2.2.1 w3 (by decide +kernel) (C.2.2.2.2.1 _ w1) (C.2.2.2.2.1 _ w2) hsa
    (vx_hat (fun w hw => C.2.2.2.2.1 _ (w4 w hw)) w5 (vx_c (va_Nw.use rfl (hK1.2.2.1 _ w6)) (fun w hw => by obtain ⟨y, hy, e⟩ := List.mem_map.mp hw; rw [← e]; exact va_Nw.use rfl (hK1.2.2.2.2.2.2.2.2.2 y hy)))) w7 hK2.1 hK2.2.1 hS (by rw [hl.1, hlen, C.2.2.1]) d0 d3 d4 d6 d9 (fun x hx => (ht x hx).elim) hfr ?_ (Nat.le_trans hc (Nat.le_refl _)) (Nat.le_trans hs (Nat.le_refl _)) C.2.2.2.2.2.1
    (fun t hvm hz hk => ⟨⟨G, ad, hp, hn, hP.keep hk⟩, Nat.le_trans hS.1 hz, fun q h1 h2 => (hk q (Nat.lt_of_lt_of_le h1 hS.1)).trans (hS.2.1 q h1 h2)⟩) hS.2.2 hc hs
  show ((st.map (rb_c ad)).map fun v => v.category).sum + 82 ≤ lo
  rw [List.map_map, show ((fun v => Value.category v) ∘ rb_c ad) = rb_cat from funext fun v => rb_cat_c ad v]
  exact hlo
theorem rb_throwW (C : rb_C Φ RX7 cc nL fr lo mc ms) {PX : String → rb_G → Prop} (hE : rb_EX Φ PX mc ms) {cls text : String} {ik is ic : Nat} (F : rb_Thr ik ic cls) (hst : (is, text) ∈ rb_strs) (d0 : decode cc pc = .ok (.new ik, 3)) (d3 : decode cc (pc + 3) = .ok (.dup, 1)) (d4 : decode cc (pc + 4) = .ok (.ldc_w is, 3)) (d6 : decode cc (pc + 7) = .ok (.invokespecial ic, 3)) (d9 : decode cc (pc + 10) = .ok (.athrow, 1))
    (hlen : Lv.length = nL) (hfr : 5 < fr) (hlo : (st.map rb_cat).sum + 82 ≤ lo) (hc : cells + 1 ≤ mc) (hs : slots + 6 ≤ ms) (hp : PX cls G) : rb_W Φ cells slots pc Lv st G := by
  obtain ⟨p, l, e, R, s, m, args, below, meth, c, Q, X, A, ad0, G0⟩ := Φ
  intro ad H locs ls hP hn hS hl ho hv
  have hR := C.2.2.2.2.2.2.1
  subst hR
  have hK1 := C.2.2.2.2.2.2.2.2.1
  have hK2 := C.2.2.2.2.2.2.2.2.2.1
  obtain ⟨ht, Qc, hQ⟩ := hE
  subst hQ
  obtain ⟨w1, w2, w3, w4, w5, w6, w7⟩ := F
  obtain ⟨sa, hsa⟩ := hK1.2.2.2.2.1 _ hst
  refine vx_throwSW (names := rb_sup) (sa := sa) C.1 C.2.1 C.2.2.2.2.2.2.2.1 C.2.2.2.1 w3 (by decide +kernel) (C.2.2.2.2.1 _ w1) (C.2.2.2.2.1 _ w2) hsa
    (vx_hat (fun w hw => C.2.2.2.2.1 _ (w4 w hw)) w5 (vx_c (va_Nw.use rfl (hK1.2.2.1 _ w6)) (fun w hw => by obtain ⟨y, hy, e⟩ := List.mem_map.mp hw; rw [← e]; exact va_Nw.use rfl (hK1.2.2.2.2.2.2.2.2.2 y hy)))) w7 hK2.1 hK2.2.1 hS (by rw [hl.1, hlen, C.2.2.1]) d0 d3 d4 d6 d9 (fun x hx => (ht x hx).elim) hfr ?_ (Nat.le_trans hc (Nat.le_refl _)) (Nat.le_trans hs (Nat.le_refl _)) C.2.2.2.2.2.1
    (fun t hvm hz hk => ⟨⟨G, ad, hp, hn, hP.keep hk⟩, Nat.le_trans hS.1 hz, fun q h1 h2 => (hk q (Nat.lt_of_lt_of_le h1 hS.1)).trans (hS.2.1 q h1 h2)⟩) hS.2.2 hc hs
  show ((st.map (rb_c ad)).map fun v => v.category).sum + 82 ≤ lo
  rw [List.map_map, show ((fun v => Value.category v) ∘ rb_c ad) = rb_cat from funext fun v => rb_cat_c ad v]
  exact hlo
/-! methods with a table -/
def rb_T (Φ : rb_F) (hh : List (Nat × Nat × Nat × Nat)) : Prop := match Φ with
  | (_, _, _, _, _, _, _, _, _, c, _, _, _, _, _) => c.exceptionTable.toList = tableOf hh
theorem rb_startW {l : Launch} {X : rb_X} {y : MethodName} {cc : ByteArray} {maxL : Nat} {ret : Option FieldType} {hh : List (Nat × Nat × Nat × Nat)} {fr lo mc ms : Nat} {av : List rb_V} {G : rb_G} {Post : Option rb_V → rb_G → Prop} (own : String) (hy : y.cls = own) (hpl : plainName own = true) (hc1 : rb_c1 (av.map some) = true) (hn : av.length ≤ maxL)
    (body : ∀ Φ, rb_C Φ own cc maxL fr lo mc ms → rb_E Φ ret Post mc ms → rb_T Φ hh → rb_W Φ 0 0 0 (av.map some ++ List.replicate (maxL - av.length) none) [] G) : rb_N l X y (.codeWith y cc maxL ret hh) fr lo mc ms av G Post := by
  intro hl A ad
  refine va_MetW (cc := cc) (maxL := maxL) (ret := ret) (by rw [hy]; exact hpl) rfl ?_
  intro p e s m args below meth c s₁ B hml hv
  obtain ⟨rfl, hA, hP, hK1, hK2, hok⟩ := hv
  have hts0 := atoms_spec (ws := .codeWith y cc maxL ret hh :: TS) B.pre
  have K := body (p, l, e, (headSpec (.codeWith y cc maxL ret hh :: TS) { frames := fr, cells := mc, slots := ms, locals := lo }).room, s, m, (av.map (rb_c ad)).toArray, below, meth, c, MQ below (rb_Q X A ad G Post) (av.map (rb_c ad)).toArray s mc ms A, X, A, ad, G)
    ⟨B.exec, B.bytes, hml, by rw [← hy]; exact findClass_of_methodNamed B.named, fun w hw => hts0 w (List.mem_cons_of_mem _ hw), B.notSynchronized, rfl, hl, hK1, hK2, hA⟩ ⟨B.returns, fun _ _ _ h => h⟩ (vx_table (x := y) B (hts0 _ List.mem_cons_self))
  rw [lg_entry_eq]
  exact K ad s.heap [] _ hP rb_nx.rf va_S.rf (rb_entry ad av hc1 hn) (fun v hv => by cases hv) (fun v hv => by
    rcases List.mem_append.mp hv with h | h
    · obtain ⟨w, hw, e⟩ := List.mem_map.mp h
      cases e
      exact hok v hw
    · cases (List.mem_replicate.mp h).2)
/-- caught: astore; iconst; ireturn -/
theorem rb_catch (C : rb_C Φ own cc nL fr lo mc ms) {hh : List (Nat × Nat × Nat × Nat)} (T : rb_T Φ hh) {Post : Option rb_V → rb_G → Prop} (hE : rb_E Φ (some .int) Post mc ms) {E : String} (pre : List ExceptionTableEntry) (x : ExceptionTableEntry) (suf : List ExceptionTableEntry) (hsplit : tableOf hh = pre ++ x :: suf)
    (hpass : ∀ z ∈ pre, z.catchType ≠ 0 ∧ ∃ nm : String, Cond.classLink own z.catchType nm ∈ TS ∧ (E, nm) ∈ rb_ncs) (hx : covers x pc = true) (h0 : x.catchType ≠ 0) (hlk : Cond.classLink own x.catchType E ∈ TS) (hce : (E, E) ∈ rb_cst) {i pc1 pc2 : Nat} {n : Int} {v : Int32}
    (da : (decode cc x.handlerPc = .ok (.astore i, 2) ∧ pc1 = x.handlerPc + 2) ∨ (decode cc x.handlerPc = .ok (.astore_n 3, 1) ∧ i = 3 ∧ pc1 = x.handlerPc + 1)) (di : decode cc pc1 = .ok (.iconst n, 1)) (hp2 : pc2 = pc1 + 1) (dr : decode cc pc2 = .ok (.ireturn, 1)) (hv0 : Int32.ofInt n = v) (hi : i < Lv.length) (hc : cells ≤ mc) (hs : slots ≤ ms) (hp : Post (some (rbI v)) G) : rb_Wx Φ cells slots pc Lv st G E := by
  obtain ⟨p, l, e, R, s, m, args, below, meth, c, Q, X, A, ad0, G0⟩ := Φ
  intro ad H locs ls q ce hP hn hS hl ho hv h1 h2 h3
  have hK1 := C.2.2.2.2.2.2.2.2.1
  have hlk9 : meth.locks = false := C.2.2.2.2.2.1
  have hend : ∀ ls', W p l e R s m args below meth c H locs cells slots Q (F0 m pc1 ls' []) := by
    intro ls'
    refine lv_iconst C.1 C.2.1 di hv0 ?_
    rw [hp2] at dr
    exact W.widen hc hs (hE.2 H locs _ (W.iret C.1 C.2.1 hE.1 (fun t ht hW => ⟨⟨some (rbI v), G, ad, rfl, hp, hn, (fun w h => by cases h; exact rb_ok_i _ _), by rw [ht]; exact hP⟩, hS.F ht⟩) hS.2.2 dr hlk9))
  refine vx_catch (name := E) C.2.2.2.1 pre x suf (T.trans hsplit) (fun z hz => Or.inr ?_) hx h0 (C.2.2.2.2.1 _ hlk) (va_Nw.use rfl (hK1.2.2.1 _ hce)) h1 h2 h3 ?_
  · obtain ⟨z0, nm, z1, z2⟩ := hpass z hz
    exact ⟨z0, nm, C.2.2.2.2.1 _ z1, hK1.2.2.2.1 _ z2⟩
  · rcases da with ⟨da, e1⟩ | ⟨da, e0, e1⟩
    · rw [e1] at hend
      exact lv_astore C.1 C.2.1 da hl hi rfl (fun ls' _ => hend ls')
    · rw [e1] at hend
      exact lv_astore_n C.1 C.2.1 da rfl hl (by rw [e0] at hi; exact hi) rfl (fun ls' _ => hend ls')
def rb_SWc (own : String) (idx : Nat) (y : MethodName) (b : ByteArray) (n : Nat) (ret : Option FieldType) (hh : List (Nat × Nat × Nat × Nat)) (k : Nat) : Prop := Cond.methodLink own idx y ∈ TS ∧ Cond.static y ∈ TS ∧ Cond.initialized y.cls ∈ TS ∧ Cond.codeWith y b n ret hh ∈ TS ∧
  (y.cls ≠ "java/lang/invoke/MethodHandle" ∧ y.cls ≠ "java/lang/invoke/VarHandle" ∧ (parseMethodDescriptor y.desc).map (fun d => d.parameters.length) = some k)
theorem rb_callSW (C : rb_C Φ own cc nL fr lo mc ms) {idx n k fr' lo' mc' ms' : Nat} {y : MethodName} {b : ByteArray} {ret : Option FieldType} {hh : List (Nat × Nat × Nat × Nat)} {Post : Option rb_V → rb_G → Prop}
    (F : rb_SWc own idx y b n ret hh k) (hM : ∀ l X, rb_N l X y (.codeWith y b n ret hh) fr' lo' mc' ms' As G Post) (hd : decode cc pc = .ok (.invokestatic idx, 3)) (hst : st = As.reverse ++ rest) (hk9 : As.length = k) (hlen : Lv.length = nL) (hcat : (rest.map rb_cat).sum ≤ 8)
    (hroom : fr' + 1 ≤ fr ∧ 8 + (n + 11) + lo' ≤ lo) (hc9 : cells + mc' ≤ mc) (hs9 : slots + ms' ≤ ms) (kk : ∀ v G', Post v G' → rb_W Φ (cells + mc') (slots + ms') (pc + 3) Lv (v.toList ++ rest) G') : rb_W Φ cells slots pc Lv st G := by
  obtain ⟨p, l, e, R, s, m, args, below, meth, c, Q, X, A, ad0, G0⟩ := Φ
  intro ad H locs ls hP hn hS hl ho hv
  subst hst
  have hK1 := C.2.2.2.2.2.2.2.2.1
  have hR := C.2.2.2.2.2.2.1
  subst hR
  obtain ⟨w1, w2, w4, w5, w6⟩ := F
  have hor : rb_okL G rest := fun v hv => ho v (List.mem_append_right _ hv)
  have hoa : rb_okL G As := fun v h => ho v (List.mem_append_left _ (List.mem_reverse.mpr h))
  have hG : GoodIn TS (va_wsS own idx y (Cond.codeWith y b n ret hh :: TS)) := fun w hw => by
    unfold va_wsS at hw
    rcases List.mem_append.mp hw with h | h
    · simp only [List.mem_cons, List.not_mem_nil, or_false] at h
      rcases h with rfl | rfl | rfl
      · exact ts_good _ w1
      · exact ts_good _ w2
      · exact ts_good _ w4
    · exact ts_code w5 w h
  have hrun := vx_runSW (R := ({ frames := fr, cells := mc, slots := ms, locals := lo } : Room)) (n := k) (ret := ret) (maxL := n) (bytes := b) (hh := hh) (As := As.map (rb_c ad)) (rest := rest.map (rb_c ad)) (cells := cells) (slots := slots) (locs := locs) (e := e) (p := p) (H := H) (g := F0 m pc ls ((As.reverse ++ rest).map (rb_c ad)))
    (meth := meth) (below := below) ⟨C.1, C.2.1, C.2.2.1, C.2.2.2.1, C.2.2.2.2.1⟩ (hM l X C.2.2.2.2.2.2.2.1 A ad) (vx_cwSW k C.2.2.2.2.1 hG rfl rfl rfl w6 hroom)
    ⟨rb_blind, fun U hU hW => ⟨rfl, fun q hq => C.2.2.2.2.2.2.2.2.2.2 q (Nat.le_trans hS.1 (by rw [← hU]; exact hq)), by rw [hU]; exact hP, hK1.warm hW, by rw [hU]; exact C.2.2.2.2.2.2.2.2.2.1.moved hW.alike hS.2.1, hoa⟩⟩
    rfl (by rw [List.length_map]; exact hk9) (by show ls.size = nL; rw [hl.1, hlen]) (by show (As.reverse ++ rest).map (rb_c ad) = _; rw [List.map_append, List.map_reverse])
    (lv_room (by rw [List.map_map, show ((fun v => Value.category v) ∘ rb_c ad) = rb_cat from funext fun v => rb_cat_c ad v]; exact hcat)) hd ⟨hc9, hs9⟩
  exact rb_after (PX := fun _ _ => False) (rb_run_x hrun) hn hS hl hor hv kk (fun E G' h => h.elim)
end
end
section
/-! facts of the tables, by place (a program wrote them) -/
theorem ts_sub {ws : List Cond} (ps : List Nat) (hp : ws = ps.filterMap (fun i => lw_tbl[i]?)) (h : ws.all goodWord = true) : ∀ w ∈ ws, w ∈ TS := by
  intro w hw
  have h1 := List.all_eq_true.mp h w hw
  rw [hp] at hw
  obtain ⟨i, -, hi⟩ := List.mem_filterMap.mp hw
  exact ts_mem i hi h1
theorem inC_Jx4a65c : ∀ w ∈ u_ws RJx4a65c TJx4a65c 3, w ∈ TS := ts_sub [102, 98, 100] (by decide +kernel) (by decide +kernel)
theorem inC_X0 : ∀ w ∈ u_ws RX0 TX0 3, w ∈ TS := ts_sub [164, 166, 168] (by decide +kernel) (by decide +kernel)
theorem inC_X1 : ∀ w ∈ u_ws RX1 TX1 7, w ∈ TS := ts_sub [393, 395, 397, 399, 401, 403, 405] (by decide +kernel) (by decide +kernel)
theorem inC_X2 : ∀ w ∈ u_ws RX2 TX2 1, w ∈ TS := ts_sub [121] (by decide +kernel) (by decide +kernel)
theorem inC_X3 : ∀ w ∈ u_ws RX3 TX3 4, w ∈ TS := ts_sub [713, 715, 717, 719] (by decide +kernel) (by decide +kernel)
theorem inC_X4 : ∀ w ∈ u_ws RX4 TX4 5, w ∈ TS := ts_sub [745, 747, 749, 751, 753] (by decide +kernel) (by decide +kernel)
theorem inC_X5 : ∀ w ∈ u_ws RX5 TX5 7, w ∈ TS := ts_sub [136, 138, 140, 142, 144, 146, 148] (by decide +kernel) (by decide +kernel)
theorem inC_X6 : ∀ w ∈ u_ws RX6 TX6 11, w ∈ TS := ts_sub [532, 534, 536, 538, 540, 542, 544, 546, 548, 550, 552] (by decide +kernel) (by decide +kernel)
theorem inC_X7 : ∀ w ∈ u_ws RX7 TX7 7, w ∈ TS := ts_sub [178, 180, 182, 184, 186, 188, 190] (by decide +kernel) (by decide +kernel)
theorem inC_X8 : ∀ w ∈ u_ws RX8 TX8 39, w ∈ TS := ts_sub [921, 923, 925, 927, 929, 931, 933, 935, 937, 939, 941, 943, 945, 947, 949, 951, 953, 955, 957, 959, 961, 963, 965, 967, 969, 971, 973, 975, 977, 979, 981, 983, 985, 987, 989, 991, 993, 995, 997] (by decide +kernel) (by decide +kernel)
theorem F_Jx4a65c_9 : rb_Fld RJx4a65c 9 0 1 true false (.array (.object "java/lang/Object")) := ⟨RJx4a65c, TJx4a65c, 3, tyJx4a65c, rfl, inC_Jx4a65c, by decide, rfl, by decide, ts_mem 93 (by decide +kernel) rfl, tyJx4a65c_ok, nmJx4a65c, by decide +kernel, rfl, (fun h => nomatch h)⟩
theorem FR_Jx4a65c_9 : rb_FldR RJx4a65c 9 0 1 true := F_Jx4a65c_9.r
theorem F_Jx4a65c_48 : rb_Fld RJx4a65c 48 0 2 false false .int := ⟨RJx4a65c, TJx4a65c, 3, tyJx4a65c, rfl, inC_Jx4a65c, by decide, rfl, by decide, ts_mem 94 (by decide +kernel) rfl, tyJx4a65c_ok, nmJx4a65c, by decide +kernel, rfl, (fun h => nomatch h)⟩
theorem FR_Jx4a65c_48 : rb_FldR RJx4a65c 48 0 2 false := F_Jx4a65c_48.r
theorem F_Jxc12de_7 : rb_Fld RJxc12de 7 0 0 false false .int := ⟨RJx4a65c, TJx4a65c, 3, tyJx4a65c, rfl, inC_Jx4a65c, by decide, rfl, by decide, ts_mem 95 (by decide +kernel) rfl, tyJx4a65c_ok, nmJx4a65c, by decide +kernel, rfl, (fun h => nomatch h)⟩
theorem FR_Jxc12de_7 : rb_FldR RJxc12de 7 0 0 false := F_Jxc12de_7.r
theorem F_X2_9 : rb_Fld RX2 9 3 0 true true (.array .int) := ⟨RX2, TX2, 1, tyX2, rfl, inC_X2, by decide, rfl, by decide, ts_mem 120 (by decide +kernel) rfl, tyX2_ok, nmX2, by decide +kernel, rfl, (fun _ => rfl)⟩
theorem FR_X2_9 : rb_FldR RX2 9 3 0 true := F_X2_9.r
theorem F_X5_12 : rb_Fld RX5 12 6 0 true true (.object RX2) := ⟨RX5, TX5, 7, tyX5, rfl, inC_X5, by decide, rfl, by decide, ts_mem 124 (by decide +kernel) rfl, tyX5_ok, nmX5, by decide +kernel, rfl, (fun _ => rfl)⟩
theorem FR_X5_12 : rb_FldR RX5 12 6 0 true := F_X5_12.r
theorem FR_X7_74 : rb_FldR RX7 74 6 0 true := ⟨RX5, TX5, 7, rfl, inC_X5, by decide, rfl, by decide, ts_mem 125 (by decide +kernel) rfl⟩
theorem F_X7_70 : rb_Fld RX7 70 6 1 false false .boolean := ⟨RX5, TX5, 7, tyX5, rfl, inC_X5, by decide, rfl, by decide, ts_mem 126 (by decide +kernel) rfl, tyX5_ok, nmX5, by decide +kernel, rfl, (fun h => nomatch h)⟩
theorem FR_X7_70 : rb_FldR RX7 70 6 1 false := F_X7_70.r
theorem F_X5_18 : rb_Fld RX5 18 6 2 false false .int := ⟨RX5, TX5, 7, tyX5, rfl, inC_X5, by decide, rfl, by decide, ts_mem 127 (by decide +kernel) rfl, tyX5_ok, nmX5, by decide +kernel, rfl, (fun h => nomatch h)⟩
theorem FR_X5_18 : rb_FldR RX5 18 6 2 false := F_X5_18.r
theorem F_X7_108 : rb_Fld RX7 108 6 2 false false .int := ⟨RX5, TX5, 7, tyX5, rfl, inC_X5, by decide, rfl, by decide, ts_mem 128 (by decide +kernel) rfl, tyX5_ok, nmX5, by decide +kernel, rfl, (fun h => nomatch h)⟩
theorem FR_X7_108 : rb_FldR RX7 108 6 2 false := F_X7_108.r
theorem F_X5_22 : rb_Fld RX5 22 6 3 false false .int := ⟨RX5, TX5, 7, tyX5, rfl, inC_X5, by decide, rfl, by decide, ts_mem 129 (by decide +kernel) rfl, tyX5_ok, nmX5, by decide +kernel, rfl, (fun h => nomatch h)⟩
theorem FR_X5_22 : rb_FldR RX5 22 6 3 false := F_X5_22.r
theorem F_X7_111 : rb_Fld RX7 111 6 3 false false .int := ⟨RX5, TX5, 7, tyX5, rfl, inC_X5, by decide, rfl, by decide, ts_mem 130 (by decide +kernel) rfl, tyX5_ok, nmX5, by decide +kernel, rfl, (fun h => nomatch h)⟩
theorem FR_X7_111 : rb_FldR RX7 111 6 3 false := F_X7_111.r
theorem F_X5_25 : rb_Fld RX5 25 6 4 false false .int := ⟨RX5, TX5, 7, tyX5, rfl, inC_X5, by decide, rfl, by decide, ts_mem 131 (by decide +kernel) rfl, tyX5_ok, nmX5, by decide +kernel, rfl, (fun h => nomatch h)⟩
theorem FR_X5_25 : rb_FldR RX5 25 6 4 false := F_X5_25.r
theorem F_X7_114 : rb_Fld RX7 114 6 4 false false .int := ⟨RX5, TX5, 7, tyX5, rfl, inC_X5, by decide, rfl, by decide, ts_mem 132 (by decide +kernel) rfl, tyX5_ok, nmX5, by decide +kernel, rfl, (fun h => nomatch h)⟩
theorem FR_X7_114 : rb_FldR RX7 114 6 4 false := F_X7_114.r
theorem F_X5_28 : rb_Fld RX5 28 6 5 false false .int := ⟨RX5, TX5, 7, tyX5, rfl, inC_X5, by decide, rfl, by decide, ts_mem 133 (by decide +kernel) rfl, tyX5_ok, nmX5, by decide +kernel, rfl, (fun h => nomatch h)⟩
theorem FR_X5_28 : rb_FldR RX5 28 6 5 false := F_X5_28.r
theorem F_X7_117 : rb_Fld RX7 117 6 5 false false .int := ⟨RX5, TX5, 7, tyX5, rfl, inC_X5, by decide, rfl, by decide, ts_mem 134 (by decide +kernel) rfl, tyX5_ok, nmX5, by decide +kernel, rfl, (fun h => nomatch h)⟩
theorem FR_X7_117 : rb_FldR RX7 117 6 5 false := F_X7_117.r
theorem F_X7_120 : rb_Fld RX7 120 6 6 false false .int := ⟨RX5, TX5, 7, tyX5, rfl, inC_X5, by decide, rfl, by decide, ts_mem 135 (by decide +kernel) rfl, tyX5_ok, nmX5, by decide +kernel, rfl, (fun h => nomatch h)⟩
theorem FR_X7_120 : rb_FldR RX7 120 6 6 false := F_X7_120.r
theorem F_X0_12 : rb_Fld RX0 12 1 0 true true (.object RJx4a65c) := ⟨RX0, TX0, 3, tyX0, rfl, inC_X0, by decide, rfl, by decide, ts_mem 158 (by decide +kernel) rfl, tyX0_ok, nmX0, by decide +kernel, rfl, (fun _ => rfl)⟩
theorem FR_X0_12 : rb_FldR RX0 12 1 0 true := F_X0_12.r
theorem FR_X7_320 : rb_FldR RX7 320 1 0 true := ⟨RX0, TX0, 3, rfl, inC_X0, by decide, rfl, by decide, ts_mem 159 (by decide +kernel) rfl⟩
theorem F_X0_39 : rb_Fld RX0 39 1 1 false false .int := ⟨RX0, TX0, 3, tyX0, rfl, inC_X0, by decide, rfl, by decide, ts_mem 160 (by decide +kernel) rfl, tyX0_ok, nmX0, by decide +kernel, rfl, (fun h => nomatch h)⟩
theorem FR_X0_39 : rb_FldR RX0 39 1 1 false := F_X0_39.r
theorem F_X7_237 : rb_Fld RX7 237 1 1 false false .int := ⟨RX0, TX0, 3, tyX0, rfl, inC_X0, by decide, rfl, by decide, ts_mem 161 (by decide +kernel) rfl, tyX0_ok, nmX0, by decide +kernel, rfl, (fun h => nomatch h)⟩
theorem FR_X7_237 : rb_FldR RX7 237 1 1 false := F_X7_237.r
theorem F_X0_45 : rb_Fld RX0 45 1 2 false false .int := ⟨RX0, TX0, 3, tyX0, rfl, inC_X0, by decide, rfl, by decide, ts_mem 162 (by decide +kernel) rfl, tyX0_ok, nmX0, by decide +kernel, rfl, (fun h => nomatch h)⟩
theorem FR_X0_45 : rb_FldR RX0 45 1 2 false := F_X0_45.r
theorem F_X7_248 : rb_Fld RX7 248 1 2 false false .int := ⟨RX0, TX0, 3, tyX0, rfl, inC_X0, by decide, rfl, by decide, ts_mem 163 (by decide +kernel) rfl, tyX0_ok, nmX0, by decide +kernel, rfl, (fun h => nomatch h)⟩
theorem FR_X7_248 : rb_FldR RX7 248 1 2 false := F_X7_248.r
theorem F_X7_9 : rb_Fld RX7 9 8 0 true true (.array .int) := ⟨RX7, TX7, 7, tyX7, rfl, inC_X7, by decide, rfl, by decide, ts_mem 171 (by decide +kernel) rfl, tyX7_ok, nmX7, by decide +kernel, rfl, (fun _ => rfl)⟩
theorem FR_X7_9 : rb_FldR RX7 9 8 0 true := F_X7_9.r
theorem F_X7_15 : rb_Fld RX7 15 8 1 true true (.array (.object RX5)) := ⟨RX7, TX7, 7, tyX7, rfl, inC_X7, by decide, rfl, by decide, ts_mem 172 (by decide +kernel) rfl, tyX7_ok, nmX7, by decide +kernel, rfl, (fun _ => rfl)⟩
theorem FR_X7_15 : rb_FldR RX7 15 8 1 true := F_X7_15.r
theorem F_X7_21 : rb_Fld RX7 21 8 2 true true (.array (.object RX0)) := ⟨RX7, TX7, 7, tyX7, rfl, inC_X7, by decide, rfl, by decide, ts_mem 173 (by decide +kernel) rfl, tyX7_ok, nmX7, by decide +kernel, rfl, (fun _ => rfl)⟩
theorem FR_X7_21 : rb_FldR RX7 21 8 2 true := F_X7_21.r
theorem F_X7_28 : rb_Fld RX7 28 8 3 true true (.object RJx4a65c) := ⟨RX7, TX7, 7, tyX7, rfl, inC_X7, by decide, rfl, by decide, ts_mem 174 (by decide +kernel) rfl, tyX7_ok, nmX7, by decide +kernel, rfl, (fun _ => rfl)⟩
theorem FR_X7_28 : rb_FldR RX7 28 8 3 true := F_X7_28.r
theorem F_X7_32 : rb_Fld RX7 32 8 4 true true (.object RJx4a65c) := ⟨RX7, TX7, 7, tyX7, rfl, inC_X7, by decide, rfl, by decide, ts_mem 175 (by decide +kernel) rfl, tyX7_ok, nmX7, by decide +kernel, rfl, (fun _ => rfl)⟩
theorem FR_X7_32 : rb_FldR RX7 32 8 4 true := F_X7_32.r
theorem F_X7_35 : rb_Fld RX7 35 8 5 true true (.object RJx4a65c) := ⟨RX7, TX7, 7, tyX7, rfl, inC_X7, by decide, rfl, by decide, ts_mem 176 (by decide +kernel) rfl, tyX7_ok, nmX7, by decide +kernel, rfl, (fun _ => rfl)⟩
theorem FR_X7_35 : rb_FldR RX7 35 8 5 true := F_X7_35.r
theorem F_X7_160 : rb_Fld RX7 160 8 6 false false .int := ⟨RX7, TX7, 7, tyX7, rfl, inC_X7, by decide, rfl, by decide, ts_mem 177 (by decide +kernel) rfl, tyX7_ok, nmX7, by decide +kernel, rfl, (fun h => nomatch h)⟩
theorem FR_X7_160 : rb_FldR RX7 160 8 6 false := F_X7_160.r
theorem F_X1_7 : rb_Fld RX1 7 2 0 false true .int := ⟨RX1, TX1, 7, tyX1, rfl, inC_X1, by decide, rfl, by decide, ts_mem 386 (by decide +kernel) rfl, tyX1_ok, nmX1, by decide +kernel, rfl, (fun _ => rfl)⟩
theorem FR_X1_7 : rb_FldR RX1 7 2 0 false := F_X1_7.r
theorem F_X1_13 : rb_Fld RX1 13 2 1 false true .int := ⟨RX1, TX1, 7, tyX1, rfl, inC_X1, by decide, rfl, by decide, ts_mem 387 (by decide +kernel) rfl, tyX1_ok, nmX1, by decide +kernel, rfl, (fun _ => rfl)⟩
theorem FR_X1_13 : rb_FldR RX1 13 2 1 false := F_X1_13.r
theorem F_X1_16 : rb_Fld RX1 16 2 2 false true .int := ⟨RX1, TX1, 7, tyX1, rfl, inC_X1, by decide, rfl, by decide, ts_mem 388 (by decide +kernel) rfl, tyX1_ok, nmX1, by decide +kernel, rfl, (fun _ => rfl)⟩
theorem FR_X1_16 : rb_FldR RX1 16 2 2 false := F_X1_16.r
theorem F_X1_19 : rb_Fld RX1 19 2 3 false true .int := ⟨RX1, TX1, 7, tyX1, rfl, inC_X1, by decide, rfl, by decide, ts_mem 389 (by decide +kernel) rfl, tyX1_ok, nmX1, by decide +kernel, rfl, (fun _ => rfl)⟩
theorem FR_X1_19 : rb_FldR RX1 19 2 3 false := F_X1_19.r
theorem F_X1_22 : rb_Fld RX1 22 2 4 false true .int := ⟨RX1, TX1, 7, tyX1, rfl, inC_X1, by decide, rfl, by decide, ts_mem 390 (by decide +kernel) rfl, tyX1_ok, nmX1, by decide +kernel, rfl, (fun _ => rfl)⟩
theorem FR_X1_22 : rb_FldR RX1 22 2 4 false := F_X1_22.r
theorem F_X1_25 : rb_Fld RX1 25 2 5 false true .int := ⟨RX1, TX1, 7, tyX1, rfl, inC_X1, by decide, rfl, by decide, ts_mem 391 (by decide +kernel) rfl, tyX1_ok, nmX1, by decide +kernel, rfl, (fun _ => rfl)⟩
theorem FR_X1_25 : rb_FldR RX1 25 2 5 false := F_X1_25.r
theorem F_X1_28 : rb_Fld RX1 28 2 6 false true .int := ⟨RX1, TX1, 7, tyX1, rfl, inC_X1, by decide, rfl, by decide, ts_mem 392 (by decide +kernel) rfl, tyX1_ok, nmX1, by decide +kernel, rfl, (fun _ => rfl)⟩
theorem FR_X1_28 : rb_FldR RX1 28 2 6 false := F_X1_28.r
theorem F_X6_21 : rb_Fld RX6 21 7 0 false true .int := ⟨RX6, TX6, 11, tyX6, rfl, inC_X6, by decide, rfl, by decide, ts_mem 512 (by decide +kernel) rfl, tyX6_ok, nmX6, by decide +kernel, rfl, (fun _ => rfl)⟩
theorem FR_X6_21 : rb_FldR RX6 21 7 0 false := F_X6_21.r
theorem FR_X7_132 : rb_FldR RX7 132 7 0 false := ⟨RX6, TX6, 11, rfl, inC_X6, by decide, rfl, by decide, ts_mem 513 (by decide +kernel) rfl⟩
theorem F_X6_24 : rb_Fld RX6 24 7 1 false true .int := ⟨RX6, TX6, 11, tyX6, rfl, inC_X6, by decide, rfl, by decide, ts_mem 514 (by decide +kernel) rfl, tyX6_ok, nmX6, by decide +kernel, rfl, (fun _ => rfl)⟩
theorem FR_X6_24 : rb_FldR RX6 24 7 1 false := F_X6_24.r
theorem FR_X7_292 : rb_FldR RX7 292 7 1 false := ⟨RX6, TX6, 11, rfl, inC_X6, by decide, rfl, by decide, ts_mem 515 (by decide +kernel) rfl⟩
theorem F_X6_30 : rb_Fld RX6 30 7 2 false true .int := ⟨RX6, TX6, 11, tyX6, rfl, inC_X6, by decide, rfl, by decide, ts_mem 516 (by decide +kernel) rfl, tyX6_ok, nmX6, by decide +kernel, rfl, (fun _ => rfl)⟩
theorem FR_X6_30 : rb_FldR RX6 30 7 2 false := F_X6_30.r
theorem FR_X7_289 : rb_FldR RX7 289 7 2 false := ⟨RX6, TX6, 11, rfl, inC_X6, by decide, rfl, by decide, ts_mem 517 (by decide +kernel) rfl⟩
theorem F_X6_27 : rb_Fld RX6 27 7 3 false false .int := ⟨RX6, TX6, 11, tyX6, rfl, inC_X6, by decide, rfl, by decide, ts_mem 518 (by decide +kernel) rfl, tyX6_ok, nmX6, by decide +kernel, rfl, (fun h => nomatch h)⟩
theorem FR_X6_27 : rb_FldR RX6 27 7 3 false := F_X6_27.r
theorem F_X7_58 : rb_Fld RX7 58 7 3 false false .int := ⟨RX6, TX6, 11, tyX6, rfl, inC_X6, by decide, rfl, by decide, ts_mem 519 (by decide +kernel) rfl, tyX6_ok, nmX6, by decide +kernel, rfl, (fun h => nomatch h)⟩
theorem FR_X7_58 : rb_FldR RX7 58 7 3 false := F_X7_58.r
theorem F_X6_9 : rb_Fld RX6 9 7 4 false false .int := ⟨RX6, TX6, 11, tyX6, rfl, inC_X6, by decide, rfl, by decide, ts_mem 520 (by decide +kernel) rfl, tyX6_ok, nmX6, by decide +kernel, rfl, (fun h => nomatch h)⟩
theorem FR_X6_9 : rb_FldR RX6 9 7 4 false := F_X6_9.r
theorem F_X7_142 : rb_Fld RX7 142 7 4 false false .int := ⟨RX6, TX6, 11, tyX6, rfl, inC_X6, by decide, rfl, by decide, ts_mem 521 (by decide +kernel) rfl, tyX6_ok, nmX6, by decide +kernel, rfl, (fun h => nomatch h)⟩
theorem FR_X7_142 : rb_FldR RX7 142 7 4 false := F_X7_142.r
theorem F_X6_15 : rb_Fld RX6 15 7 5 false false .int := ⟨RX6, TX6, 11, tyX6, rfl, inC_X6, by decide, rfl, by decide, ts_mem 522 (by decide +kernel) rfl, tyX6_ok, nmX6, by decide +kernel, rfl, (fun h => nomatch h)⟩
theorem FR_X6_15 : rb_FldR RX6 15 7 5 false := F_X6_15.r
theorem F_X7_171 : rb_Fld RX7 171 7 5 false false .int := ⟨RX6, TX6, 11, tyX6, rfl, inC_X6, by decide, rfl, by decide, ts_mem 523 (by decide +kernel) rfl, tyX6_ok, nmX6, by decide +kernel, rfl, (fun h => nomatch h)⟩
theorem FR_X7_171 : rb_FldR RX7 171 7 5 false := F_X7_171.r
theorem F_X7_139 : rb_Fld RX7 139 7 6 false false .int := ⟨RX6, TX6, 11, tyX6, rfl, inC_X6, by decide, rfl, by decide, ts_mem 524 (by decide +kernel) rfl, tyX6_ok, nmX6, by decide +kernel, rfl, (fun h => nomatch h)⟩
theorem FR_X7_139 : rb_FldR RX7 139 7 6 false := F_X7_139.r
theorem F_X6_18 : rb_Fld RX6 18 7 7 false false .int := ⟨RX6, TX6, 11, tyX6, rfl, inC_X6, by decide, rfl, by decide, ts_mem 525 (by decide +kernel) rfl, tyX6_ok, nmX6, by decide +kernel, rfl, (fun h => nomatch h)⟩
theorem FR_X6_18 : rb_FldR RX6 18 7 7 false := F_X6_18.r
theorem F_X7_191 : rb_Fld RX7 191 7 7 false false .int := ⟨RX6, TX6, 11, tyX6, rfl, inC_X6, by decide, rfl, by decide, ts_mem 526 (by decide +kernel) rfl, tyX6_ok, nmX6, by decide +kernel, rfl, (fun h => nomatch h)⟩
theorem FR_X7_191 : rb_FldR RX7 191 7 7 false := F_X7_191.r
theorem F_X6_37 : rb_Fld RX6 37 7 8 false false .boolean := ⟨RX6, TX6, 11, tyX6, rfl, inC_X6, by decide, rfl, by decide, ts_mem 527 (by decide +kernel) rfl, tyX6_ok, nmX6, by decide +kernel, rfl, (fun h => nomatch h)⟩
theorem FR_X6_37 : rb_FldR RX6 37 7 8 false := F_X6_37.r
theorem F_X7_200 : rb_Fld RX7 200 7 8 false false .boolean := ⟨RX6, TX6, 11, tyX6, rfl, inC_X6, by decide, rfl, by decide, ts_mem 528 (by decide +kernel) rfl, tyX6_ok, nmX6, by decide +kernel, rfl, (fun h => nomatch h)⟩
theorem FR_X7_200 : rb_FldR RX7 200 7 8 false := F_X7_200.r
theorem F_X7_181 : rb_Fld RX7 181 7 9 false false .int := ⟨RX6, TX6, 11, tyX6, rfl, inC_X6, by decide, rfl, by decide, ts_mem 529 (by decide +kernel) rfl, tyX6_ok, nmX6, by decide +kernel, rfl, (fun h => nomatch h)⟩
theorem FR_X7_181 : rb_FldR RX7 181 7 9 false := F_X7_181.r
theorem F_X6_41 : rb_Fld RX6 41 7 10 false false .int := ⟨RX6, TX6, 11, tyX6, rfl, inC_X6, by decide, rfl, by decide, ts_mem 530 (by decide +kernel) rfl, tyX6_ok, nmX6, by decide +kernel, rfl, (fun h => nomatch h)⟩
theorem FR_X6_41 : rb_FldR RX6 41 7 10 false := F_X6_41.r
theorem F_X7_184 : rb_Fld RX7 184 7 10 false false .int := ⟨RX6, TX6, 11, tyX6, rfl, inC_X6, by decide, rfl, by decide, ts_mem 531 (by decide +kernel) rfl, tyX6_ok, nmX6, by decide +kernel, rfl, (fun h => nomatch h)⟩
theorem FR_X7_184 : rb_FldR RX7 184 7 10 false := F_X7_184.r
theorem F_X3_7 : rb_Fld RX3 7 4 0 false true .int := ⟨RX3, TX3, 4, tyX3, rfl, inC_X3, by decide, rfl, by decide, ts_mem 709 (by decide +kernel) rfl, tyX3_ok, nmX3, by decide +kernel, rfl, (fun _ => rfl)⟩
theorem FR_X3_7 : rb_FldR RX3 7 4 0 false := F_X3_7.r
theorem F_X3_13 : rb_Fld RX3 13 4 1 false true .int := ⟨RX3, TX3, 4, tyX3, rfl, inC_X3, by decide, rfl, by decide, ts_mem 710 (by decide +kernel) rfl, tyX3_ok, nmX3, by decide +kernel, rfl, (fun _ => rfl)⟩
theorem FR_X3_13 : rb_FldR RX3 13 4 1 false := F_X3_13.r
theorem F_X3_16 : rb_Fld RX3 16 4 2 false true .int := ⟨RX3, TX3, 4, tyX3, rfl, inC_X3, by decide, rfl, by decide, ts_mem 711 (by decide +kernel) rfl, tyX3_ok, nmX3, by decide +kernel, rfl, (fun _ => rfl)⟩
theorem FR_X3_16 : rb_FldR RX3 16 4 2 false := F_X3_16.r
theorem F_X3_19 : rb_Fld RX3 19 4 3 false true .int := ⟨RX3, TX3, 4, tyX3, rfl, inC_X3, by decide, rfl, by decide, ts_mem 712 (by decide +kernel) rfl, tyX3_ok, nmX3, by decide +kernel, rfl, (fun _ => rfl)⟩
theorem FR_X3_19 : rb_FldR RX3 19 4 3 false := F_X3_19.r
theorem F_X4_18 : rb_Fld RX4 18 5 0 false true .int := ⟨RX4, TX4, 5, tyX4, rfl, inC_X4, by decide, rfl, by decide, ts_mem 736 (by decide +kernel) rfl, tyX4_ok, nmX4, by decide +kernel, rfl, (fun _ => rfl)⟩
theorem FR_X4_18 : rb_FldR RX4 18 5 0 false := F_X4_18.r
theorem FR_X0_32 : rb_FldR RX0 32 5 0 false := ⟨RX4, TX4, 5, rfl, inC_X4, by decide, rfl, by decide, ts_mem 737 (by decide +kernel) rfl⟩
theorem F_X4_21 : rb_Fld RX4 21 5 1 false true .int := ⟨RX4, TX4, 5, tyX4, rfl, inC_X4, by decide, rfl, by decide, ts_mem 738 (by decide +kernel) rfl, tyX4_ok, nmX4, by decide +kernel, rfl, (fun _ => rfl)⟩
theorem FR_X4_21 : rb_FldR RX4 21 5 1 false := F_X4_21.r
theorem FR_X0_48 : rb_FldR RX0 48 5 1 false := ⟨RX4, TX4, 5, rfl, inC_X4, by decide, rfl, by decide, ts_mem 739 (by decide +kernel) rfl⟩
theorem F_X4_24 : rb_Fld RX4 24 5 2 true true (.object RX1) := ⟨RX4, TX4, 5, tyX4, rfl, inC_X4, by decide, rfl, by decide, ts_mem 740 (by decide +kernel) rfl, tyX4_ok, nmX4, by decide +kernel, rfl, (fun _ => rfl)⟩
theorem FR_X4_24 : rb_FldR RX4 24 5 2 true := F_X4_24.r
theorem F_X4_9 : rb_Fld RX4 9 5 3 false false .int := ⟨RX4, TX4, 5, tyX4, rfl, inC_X4, by decide, rfl, by decide, ts_mem 741 (by decide +kernel) rfl, tyX4_ok, nmX4, by decide +kernel, rfl, (fun h => nomatch h)⟩
theorem FR_X4_9 : rb_FldR RX4 9 5 3 false := F_X4_9.r
theorem F_X0_28 : rb_Fld RX0 28 5 3 false false .int := ⟨RX4, TX4, 5, tyX4, rfl, inC_X4, by decide, rfl, by decide, ts_mem 742 (by decide +kernel) rfl, tyX4_ok, nmX4, by decide +kernel, rfl, (fun h => nomatch h)⟩
theorem FR_X0_28 : rb_FldR RX0 28 5 3 false := F_X0_28.r
theorem F_X4_15 : rb_Fld RX4 15 5 4 false false .int := ⟨RX4, TX4, 5, tyX4, rfl, inC_X4, by decide, rfl, by decide, ts_mem 743 (by decide +kernel) rfl, tyX4_ok, nmX4, by decide +kernel, rfl, (fun h => nomatch h)⟩
theorem FR_X4_15 : rb_FldR RX4 15 5 4 false := F_X4_15.r
theorem F_X0_42 : rb_Fld RX0 42 5 4 false false .int := ⟨RX4, TX4, 5, tyX4, rfl, inC_X4, by decide, rfl, by decide, ts_mem 744 (by decide +kernel) rfl, tyX4_ok, nmX4, by decide +kernel, rfl, (fun h => nomatch h)⟩
theorem FR_X0_42 : rb_FldR RX0 42 5 4 false := F_X0_42.r
theorem F_X8_110 : rb_Fld RX8 110 9 0 false false .int := ⟨RX8, TX8, 39, tyX8, rfl, inC_X8, by decide, rfl, by decide, ts_mem 882 (by decide +kernel) rfl, tyX8_ok, nmX8, by decide +kernel, rfl, (fun h => nomatch h)⟩
theorem FR_X8_110 : rb_FldR RX8 110 9 0 false := F_X8_110.r
theorem F_X8_141 : rb_Fld RX8 141 9 1 false false .int := ⟨RX8, TX8, 39, tyX8, rfl, inC_X8, by decide, rfl, by decide, ts_mem 883 (by decide +kernel) rfl, tyX8_ok, nmX8, by decide +kernel, rfl, (fun h => nomatch h)⟩
theorem FR_X8_141 : rb_FldR RX8 141 9 1 false := F_X8_141.r
theorem F_X8_7 : rb_Fld RX8 7 9 2 true true (.array .int) := ⟨RX8, TX8, 39, tyX8, rfl, inC_X8, by decide, rfl, by decide, ts_mem 884 (by decide +kernel) rfl, tyX8_ok, nmX8, by decide +kernel, rfl, (fun _ => rfl)⟩
theorem FR_X8_7 : rb_FldR RX8 7 9 2 true := F_X8_7.r
theorem F_X8_13 : rb_Fld RX8 13 9 3 true true (.array .boolean) := ⟨RX8, TX8, 39, tyX8, rfl, inC_X8, by decide, rfl, by decide, ts_mem 885 (by decide +kernel) rfl, tyX8_ok, nmX8, by decide +kernel, rfl, (fun _ => rfl)⟩
theorem FR_X8_13 : rb_FldR RX8 13 9 3 true := F_X8_13.r
theorem F_X8_17 : rb_Fld RX8 17 9 4 true true (.array .int) := ⟨RX8, TX8, 39, tyX8, rfl, inC_X8, by decide, rfl, by decide, ts_mem 886 (by decide +kernel) rfl, tyX8_ok, nmX8, by decide +kernel, rfl, (fun _ => rfl)⟩
theorem FR_X8_17 : rb_FldR RX8 17 9 4 true := F_X8_17.r
theorem F_X8_20 : rb_Fld RX8 20 9 5 true true (.array .int) := ⟨RX8, TX8, 39, tyX8, rfl, inC_X8, by decide, rfl, by decide, ts_mem 887 (by decide +kernel) rfl, tyX8_ok, nmX8, by decide +kernel, rfl, (fun _ => rfl)⟩
theorem FR_X8_20 : rb_FldR RX8 20 9 5 true := F_X8_20.r
theorem F_X8_23 : rb_Fld RX8 23 9 6 true true (.array .int) := ⟨RX8, TX8, 39, tyX8, rfl, inC_X8, by decide, rfl, by decide, ts_mem 888 (by decide +kernel) rfl, tyX8_ok, nmX8, by decide +kernel, rfl, (fun _ => rfl)⟩
theorem FR_X8_23 : rb_FldR RX8 23 9 6 true := F_X8_23.r
theorem F_X8_138 : rb_Fld RX8 138 9 7 false false .int := ⟨RX8, TX8, 39, tyX8, rfl, inC_X8, by decide, rfl, by decide, ts_mem 889 (by decide +kernel) rfl, tyX8_ok, nmX8, by decide +kernel, rfl, (fun h => nomatch h)⟩
theorem FR_X8_138 : rb_FldR RX8 138 9 7 false := F_X8_138.r
theorem F_X8_26 : rb_Fld RX8 26 9 8 true true (.array .int) := ⟨RX8, TX8, 39, tyX8, rfl, inC_X8, by decide, rfl, by decide, ts_mem 890 (by decide +kernel) rfl, tyX8_ok, nmX8, by decide +kernel, rfl, (fun _ => rfl)⟩
theorem FR_X8_26 : rb_FldR RX8 26 9 8 true := F_X8_26.r
theorem F_X8_29 : rb_Fld RX8 29 9 9 true true (.array .int) := ⟨RX8, TX8, 39, tyX8, rfl, inC_X8, by decide, rfl, by decide, ts_mem 891 (by decide +kernel) rfl, tyX8_ok, nmX8, by decide +kernel, rfl, (fun _ => rfl)⟩
theorem FR_X8_29 : rb_FldR RX8 29 9 9 true := F_X8_29.r
theorem F_X8_32 : rb_Fld RX8 32 9 10 true true (.array .int) := ⟨RX8, TX8, 39, tyX8, rfl, inC_X8, by decide, rfl, by decide, ts_mem 892 (by decide +kernel) rfl, tyX8_ok, nmX8, by decide +kernel, rfl, (fun _ => rfl)⟩
theorem FR_X8_32 : rb_FldR RX8 32 9 10 true := F_X8_32.r
theorem F_X8_35 : rb_Fld RX8 35 9 11 true true (.array .int) := ⟨RX8, TX8, 39, tyX8, rfl, inC_X8, by decide, rfl, by decide, ts_mem 893 (by decide +kernel) rfl, tyX8_ok, nmX8, by decide +kernel, rfl, (fun _ => rfl)⟩
theorem FR_X8_35 : rb_FldR RX8 35 9 11 true := F_X8_35.r
theorem F_X8_38 : rb_Fld RX8 38 9 12 true true (.array .int) := ⟨RX8, TX8, 39, tyX8, rfl, inC_X8, by decide, rfl, by decide, ts_mem 894 (by decide +kernel) rfl, tyX8_ok, nmX8, by decide +kernel, rfl, (fun _ => rfl)⟩
theorem FR_X8_38 : rb_FldR RX8 38 9 12 true := F_X8_38.r
theorem F_X8_41 : rb_Fld RX8 41 9 13 true true (.array .int) := ⟨RX8, TX8, 39, tyX8, rfl, inC_X8, by decide, rfl, by decide, ts_mem 895 (by decide +kernel) rfl, tyX8_ok, nmX8, by decide +kernel, rfl, (fun _ => rfl)⟩
theorem FR_X8_41 : rb_FldR RX8 41 9 13 true := F_X8_41.r
theorem F_X8_44 : rb_Fld RX8 44 9 14 true true (.array .int) := ⟨RX8, TX8, 39, tyX8, rfl, inC_X8, by decide, rfl, by decide, ts_mem 896 (by decide +kernel) rfl, tyX8_ok, nmX8, by decide +kernel, rfl, (fun _ => rfl)⟩
theorem FR_X8_44 : rb_FldR RX8 44 9 14 true := F_X8_44.r
theorem F_X8_118 : rb_Fld RX8 118 9 15 false false .int := ⟨RX8, TX8, 39, tyX8, rfl, inC_X8, by decide, rfl, by decide, ts_mem 897 (by decide +kernel) rfl, tyX8_ok, nmX8, by decide +kernel, rfl, (fun h => nomatch h)⟩
theorem FR_X8_118 : rb_FldR RX8 118 9 15 false := F_X8_118.r
theorem F_X8_47 : rb_Fld RX8 47 9 16 true true (.array .int) := ⟨RX8, TX8, 39, tyX8, rfl, inC_X8, by decide, rfl, by decide, ts_mem 898 (by decide +kernel) rfl, tyX8_ok, nmX8, by decide +kernel, rfl, (fun _ => rfl)⟩
theorem FR_X8_47 : rb_FldR RX8 47 9 16 true := F_X8_47.r
theorem F_X8_50 : rb_Fld RX8 50 9 17 true true (.array .int) := ⟨RX8, TX8, 39, tyX8, rfl, inC_X8, by decide, rfl, by decide, ts_mem 899 (by decide +kernel) rfl, tyX8_ok, nmX8, by decide +kernel, rfl, (fun _ => rfl)⟩
theorem FR_X8_50 : rb_FldR RX8 50 9 17 true := F_X8_50.r
theorem F_X8_53 : rb_Fld RX8 53 9 18 true true (.array .int) := ⟨RX8, TX8, 39, tyX8, rfl, inC_X8, by decide, rfl, by decide, ts_mem 900 (by decide +kernel) rfl, tyX8_ok, nmX8, by decide +kernel, rfl, (fun _ => rfl)⟩
theorem FR_X8_53 : rb_FldR RX8 53 9 18 true := F_X8_53.r
theorem F_X8_56 : rb_Fld RX8 56 9 19 true true (.array .int) := ⟨RX8, TX8, 39, tyX8, rfl, inC_X8, by decide, rfl, by decide, ts_mem 901 (by decide +kernel) rfl, tyX8_ok, nmX8, by decide +kernel, rfl, (fun _ => rfl)⟩
theorem FR_X8_56 : rb_FldR RX8 56 9 19 true := F_X8_56.r
theorem F_X8_59 : rb_Fld RX8 59 9 20 true true (.array .int) := ⟨RX8, TX8, 39, tyX8, rfl, inC_X8, by decide, rfl, by decide, ts_mem 902 (by decide +kernel) rfl, tyX8_ok, nmX8, by decide +kernel, rfl, (fun _ => rfl)⟩
theorem FR_X8_59 : rb_FldR RX8 59 9 20 true := F_X8_59.r
theorem F_X8_62 : rb_Fld RX8 62 9 21 true true (.array .int) := ⟨RX8, TX8, 39, tyX8, rfl, inC_X8, by decide, rfl, by decide, ts_mem 903 (by decide +kernel) rfl, tyX8_ok, nmX8, by decide +kernel, rfl, (fun _ => rfl)⟩
theorem FR_X8_62 : rb_FldR RX8 62 9 21 true := F_X8_62.r
theorem F_X8_65 : rb_Fld RX8 65 9 22 true true (.array .int) := ⟨RX8, TX8, 39, tyX8, rfl, inC_X8, by decide, rfl, by decide, ts_mem 904 (by decide +kernel) rfl, tyX8_ok, nmX8, by decide +kernel, rfl, (fun _ => rfl)⟩
theorem FR_X8_65 : rb_FldR RX8 65 9 22 true := F_X8_65.r
theorem F_X8_68 : rb_Fld RX8 68 9 23 true true (.array .boolean) := ⟨RX8, TX8, 39, tyX8, rfl, inC_X8, by decide, rfl, by decide, ts_mem 905 (by decide +kernel) rfl, tyX8_ok, nmX8, by decide +kernel, rfl, (fun _ => rfl)⟩
theorem FR_X8_68 : rb_FldR RX8 68 9 23 true := F_X8_68.r
theorem F_X8_71 : rb_Fld RX8 71 9 24 true true (.array .int) := ⟨RX8, TX8, 39, tyX8, rfl, inC_X8, by decide, rfl, by decide, ts_mem 906 (by decide +kernel) rfl, tyX8_ok, nmX8, by decide +kernel, rfl, (fun _ => rfl)⟩
theorem FR_X8_71 : rb_FldR RX8 71 9 24 true := F_X8_71.r
theorem F_X8_74 : rb_Fld RX8 74 9 25 true true (.array .int) := ⟨RX8, TX8, 39, tyX8, rfl, inC_X8, by decide, rfl, by decide, ts_mem 907 (by decide +kernel) rfl, tyX8_ok, nmX8, by decide +kernel, rfl, (fun _ => rfl)⟩
theorem FR_X8_74 : rb_FldR RX8 74 9 25 true := F_X8_74.r
theorem F_X8_77 : rb_Fld RX8 77 9 26 true true (.array .int) := ⟨RX8, TX8, 39, tyX8, rfl, inC_X8, by decide, rfl, by decide, ts_mem 908 (by decide +kernel) rfl, tyX8_ok, nmX8, by decide +kernel, rfl, (fun _ => rfl)⟩
theorem FR_X8_77 : rb_FldR RX8 77 9 26 true := F_X8_77.r
theorem F_X8_80 : rb_Fld RX8 80 9 27 true true (.array .int) := ⟨RX8, TX8, 39, tyX8, rfl, inC_X8, by decide, rfl, by decide, ts_mem 909 (by decide +kernel) rfl, tyX8_ok, nmX8, by decide +kernel, rfl, (fun _ => rfl)⟩
theorem FR_X8_80 : rb_FldR RX8 80 9 27 true := F_X8_80.r
theorem F_X8_173 : rb_Fld RX8 173 9 28 false false .int := ⟨RX8, TX8, 39, tyX8, rfl, inC_X8, by decide, rfl, by decide, ts_mem 910 (by decide +kernel) rfl, tyX8_ok, nmX8, by decide +kernel, rfl, (fun h => nomatch h)⟩
theorem FR_X8_173 : rb_FldR RX8 173 9 28 false := F_X8_173.r
theorem F_X8_169 : rb_Fld RX8 169 9 29 false false .int := ⟨RX8, TX8, 39, tyX8, rfl, inC_X8, by decide, rfl, by decide, ts_mem 911 (by decide +kernel) rfl, tyX8_ok, nmX8, by decide +kernel, rfl, (fun h => nomatch h)⟩
theorem FR_X8_169 : rb_FldR RX8 169 9 29 false := F_X8_169.r
theorem F_X8_83 : rb_Fld RX8 83 9 30 true true (.array .int) := ⟨RX8, TX8, 39, tyX8, rfl, inC_X8, by decide, rfl, by decide, ts_mem 912 (by decide +kernel) rfl, tyX8_ok, nmX8, by decide +kernel, rfl, (fun _ => rfl)⟩
theorem FR_X8_83 : rb_FldR RX8 83 9 30 true := F_X8_83.r
theorem F_X8_86 : rb_Fld RX8 86 9 31 true true (.array .int) := ⟨RX8, TX8, 39, tyX8, rfl, inC_X8, by decide, rfl, by decide, ts_mem 913 (by decide +kernel) rfl, tyX8_ok, nmX8, by decide +kernel, rfl, (fun _ => rfl)⟩
theorem FR_X8_86 : rb_FldR RX8 86 9 31 true := F_X8_86.r
theorem F_X8_89 : rb_Fld RX8 89 9 32 true true (.array .int) := ⟨RX8, TX8, 39, tyX8, rfl, inC_X8, by decide, rfl, by decide, ts_mem 914 (by decide +kernel) rfl, tyX8_ok, nmX8, by decide +kernel, rfl, (fun _ => rfl)⟩
theorem FR_X8_89 : rb_FldR RX8 89 9 32 true := F_X8_89.r
theorem F_X8_92 : rb_Fld RX8 92 9 33 true true (.array .int) := ⟨RX8, TX8, 39, tyX8, rfl, inC_X8, by decide, rfl, by decide, ts_mem 915 (by decide +kernel) rfl, tyX8_ok, nmX8, by decide +kernel, rfl, (fun _ => rfl)⟩
theorem FR_X8_92 : rb_FldR RX8 92 9 33 true := F_X8_92.r
theorem F_X8_95 : rb_Fld RX8 95 9 34 true true (.array .int) := ⟨RX8, TX8, 39, tyX8, rfl, inC_X8, by decide, rfl, by decide, ts_mem 916 (by decide +kernel) rfl, tyX8_ok, nmX8, by decide +kernel, rfl, (fun _ => rfl)⟩
theorem FR_X8_95 : rb_FldR RX8 95 9 34 true := F_X8_95.r
theorem F_X8_98 : rb_Fld RX8 98 9 35 true true (.array .int) := ⟨RX8, TX8, 39, tyX8, rfl, inC_X8, by decide, rfl, by decide, ts_mem 917 (by decide +kernel) rfl, tyX8_ok, nmX8, by decide +kernel, rfl, (fun _ => rfl)⟩
theorem FR_X8_98 : rb_FldR RX8 98 9 35 true := F_X8_98.r
theorem F_X8_101 : rb_Fld RX8 101 9 36 true true (.array .int) := ⟨RX8, TX8, 39, tyX8, rfl, inC_X8, by decide, rfl, by decide, ts_mem 918 (by decide +kernel) rfl, tyX8_ok, nmX8, by decide +kernel, rfl, (fun _ => rfl)⟩
theorem FR_X8_101 : rb_FldR RX8 101 9 36 true := F_X8_101.r
theorem F_X8_104 : rb_Fld RX8 104 9 37 true true (.array .int) := ⟨RX8, TX8, 39, tyX8, rfl, inC_X8, by decide, rfl, by decide, ts_mem 919 (by decide +kernel) rfl, tyX8_ok, nmX8, by decide +kernel, rfl, (fun _ => rfl)⟩
theorem FR_X8_104 : rb_FldR RX8 104 9 37 true := F_X8_104.r
theorem F_X8_107 : rb_Fld RX8 107 9 38 true true (.array .int) := ⟨RX8, TX8, 39, tyX8, rfl, inC_X8, by decide, rfl, by decide, ts_mem 920 (by decide +kernel) rfl, tyX8_ok, nmX8, by decide +kernel, rfl, (fun _ => rfl)⟩
theorem FR_X8_107 : rb_FldR RX8 107 9 38 true := F_X8_107.r
theorem L_L_8 : Cond.classLink RL 8 RX7 ∈ TS := ts_mem 67 (by decide +kernel) rfl
theorem K_L_8 : rb_Cls RL 8 8 7 := ⟨RX7, TX7, tyX7, rfl, inC_X7, by decide, L_L_8, ts_mem 68 (by decide +kernel) rfl, ts_mem 43 (by decide +kernel) rfl, tyX7_ok, by decide +kernel⟩
theorem L_X7_13 : Cond.classLink RX7 13 RX5 ∈ TS := ts_mem 75 (by decide +kernel) rfl
theorem K_X7_13 : rb_Cls RX7 13 6 7 := ⟨RX5, TX5, tyX5, rfl, inC_X5, by decide, L_X7_13, ts_mem 106 (by decide +kernel) rfl, ts_mem 47 (by decide +kernel) rfl, tyX5_ok, by decide +kernel⟩
theorem L_X7_19 : Cond.classLink RX7 19 RX0 ∈ TS := ts_mem 77 (by decide +kernel) rfl
theorem K_X7_19 : rb_Cls RX7 19 1 3 := ⟨RX0, TX0, tyX0, rfl, inC_X0, by decide, L_X7_19, ts_mem 151 (by decide +kernel) rfl, ts_mem 50 (by decide +kernel) rfl, tyX0_ok, by decide +kernel⟩
theorem L_X7_25 : Cond.classLink RX7 25 RJx4a65c ∈ TS := ts_mem 79 (by decide +kernel) rfl
theorem K_X7_25 : rb_Cls RX7 25 0 3 := ⟨RJx4a65c, TJx4a65c, tyJx4a65c, rfl, inC_Jx4a65c, by decide, L_X7_25, ts_mem 80 (by decide +kernel) rfl, ts_mem 46 (by decide +kernel) rfl, tyJx4a65c_ok, by decide +kernel⟩
theorem L_X5_9 : Cond.classLink RX5 9 RX2 ∈ TS := ts_mem 111 (by decide +kernel) rfl
theorem K_X5_9 : rb_Cls RX5 9 3 1 := ⟨RX2, TX2, tyX2, rfl, inC_X2, by decide, L_X5_9, ts_mem 112 (by decide +kernel) rfl, ts_mem 48 (by decide +kernel) rfl, tyX2_ok, by decide +kernel⟩
theorem L_X0_9 : Cond.classLink RX0 9 RJx4a65c ∈ TS := ts_mem 156 (by decide +kernel) rfl
theorem K_X0_9 : rb_Cls RX0 9 0 3 := ⟨RJx4a65c, TJx4a65c, tyJx4a65c, rfl, inC_Jx4a65c, by decide, L_X0_9, ts_mem 80 (by decide +kernel) rfl, ts_mem 46 (by decide +kernel) rfl, tyJx4a65c_ok, by decide +kernel⟩
theorem L_L_13 : Cond.classLink RL 13 "java/lang/IndexOutOfBoundsException" ∈ TS := ts_mem 196 (by decide +kernel) rfl
theorem L_L_15 : Cond.classLink RL 15 "java/lang/IllegalArgumentException" ∈ TS := ts_mem 197 (by decide +kernel) rfl
theorem L_X7_243 : Cond.classLink RX7 243 "java/lang/IndexOutOfBoundsException" ∈ TS := ts_mem 210 (by decide +kernel) rfl
theorem L_X7_194 : Cond.classLink RX7 194 "java/lang/IllegalArgumentException" ∈ TS := ts_mem 281 (by decide +kernel) rfl
theorem L_X7_56 : Cond.classLink RX7 56 RX6 ∈ TS := ts_mem 315 (by decide +kernel) rfl
theorem K_X7_56 : rb_Cls RX7 56 7 11 := ⟨RX6, TX6, tyX6, rfl, inC_X6, by decide, L_X7_56, ts_mem 507 (by decide +kernel) rfl, ts_mem 64 (by decide +kernel) rfl, tyX6_ok, by decide +kernel⟩
theorem L_L_25 : Cond.classLink RL 25 "java/lang/IllegalStateException" ∈ TS := ts_mem 350 (by decide +kernel) rfl
theorem L_X7_145 : Cond.classLink RX7 145 "java/lang/IllegalStateException" ∈ TS := ts_mem 364 (by decide +kernel) rfl
theorem L_X7_99 : Cond.classLink RX7 99 RX1 ∈ TS := ts_mem 380 (by decide +kernel) rfl
theorem K_X7_99 : rb_Cls RX7 99 2 7 := ⟨RX1, TX1, tyX1, rfl, inC_X1, by decide, L_X7_99, ts_mem 381 (by decide +kernel) rfl, ts_mem 60 (by decide +kernel) rfl, tyX1_ok, by decide +kernel⟩
theorem L_J7_110 : Cond.classLink RJ7 110 "[Ljava/lang/Object;" ∈ TS := ts_mem 457 (by decide +kernel) rfl
theorem L_J7_2 : Cond.classLink RJ7 2 "java/lang/Object" ∈ TS := ts_mem 459 (by decide +kernel) rfl
theorem L_Jx4a65c_7 : Cond.classLink RJx4a65c 7 "java/lang/Object" ∈ TS := ts_mem 467 (by decide +kernel) rfl
theorem L_X7_218 : Cond.classLink RX7 218 RX3 ∈ TS := ts_mem 703 (by decide +kernel) rfl
theorem K_X7_218 : rb_Cls RX7 218 4 4 := ⟨RX3, TX3, tyX3, rfl, inC_X3, by decide, L_X7_218, ts_mem 704 (by decide +kernel) rfl, ts_mem 65 (by decide +kernel) rfl, tyX3_ok, by decide +kernel⟩
theorem L_X7_323 : Cond.classLink RX7 323 RX4 ∈ TS := ts_mem 730 (by decide +kernel) rfl
theorem K_X7_323 : rb_Cls RX7 323 5 5 := ⟨RX4, TX4, tyX4, rfl, inC_X4, by decide, L_X7_323, ts_mem 731 (by decide +kernel) rfl, ts_mem 66 (by decide +kernel) rfl, tyX4_ok, by decide +kernel⟩
theorem L_X0_26 : Cond.classLink RX0 26 RX4 ∈ TS := ts_mem 784 (by decide +kernel) rfl
theorem K_X0_26 : rb_Cls RX0 26 5 5 := ⟨RX4, TX4, tyX4, rfl, inC_X4, by decide, L_X0_26, ts_mem 731 (by decide +kernel) rfl, ts_mem 66 (by decide +kernel) rfl, tyX4_ok, by decide +kernel⟩
theorem L_L_99 : Cond.classLink RL 99 RX8 ∈ TS := ts_mem 876 (by decide +kernel) rfl
theorem K_L_99 : rb_Cls RL 99 9 39 := ⟨RX8, TX8, tyX8, rfl, inC_X8, by decide, L_L_99, ts_mem 877 (by decide +kernel) rfl, ts_mem 51 (by decide +kernel) rfl, tyX8_ok, by decide +kernel⟩
theorem M_L_98 : rb_Ic RL 98 yX7_init cX7_init 2 0 := ⟨ts_mem 69 (by decide +kernel) rfl, ts_mem 70 (by decide +kernel) rfl, ts_mem 43 (by decide +kernel) rfl, ts_mem 71 (by decide +kernel) rfl, rfl, by decide +kernel⟩
theorem M_X7_1 : Cond.methodLink RX7 1 objectInit ∈ TS := ts_mem 72 (by decide +kernel) rfl
theorem M_X7_27 : rb_Ic RX7 27 yJx4a65c_init_da8c8 cJx4a65c_init_da8c8 1 0 := ⟨ts_mem 81 (by decide +kernel) rfl, ts_mem 82 (by decide +kernel) rfl, ts_mem 46 (by decide +kernel) rfl, ts_mem 83 (by decide +kernel) rfl, rfl, by decide +kernel⟩
theorem M_Jx4a65c_1 : rb_Ic RJx4a65c 1 yJxc12de_init_da8c8 cJxc12de_init_da8c8 1 0 := ⟨ts_mem 84 (by decide +kernel) rfl, ts_mem 85 (by decide +kernel) rfl, ts_mem 45 (by decide +kernel) rfl, ts_mem 86 (by decide +kernel) rfl, rfl, by decide +kernel⟩
theorem M_Jxc12de_1 : rb_Ic RJxc12de 1 yJxa1e45_init_da8c8 cJxa1e45_init_da8c8 1 0 := ⟨ts_mem 87 (by decide +kernel) rfl, ts_mem 88 (by decide +kernel) rfl, ts_mem 44 (by decide +kernel) rfl, ts_mem 89 (by decide +kernel) rfl, rfl, by decide +kernel⟩
theorem M_Jxa1e45_1 : Cond.methodLink RJxa1e45 1 objectInit ∈ TS := ts_mem 90 (by decide +kernel) rfl
theorem M_X5_3 : Cond.methodLink RX5 3 objectInit ∈ TS := ts_mem 110 (by decide +kernel) rfl
theorem M_X5_11 : rb_Ic RX5 11 yX2_init cX2_init 1 0 := ⟨ts_mem 113 (by decide +kernel) rfl, ts_mem 114 (by decide +kernel) rfl, ts_mem 48 (by decide +kernel) rfl, ts_mem 115 (by decide +kernel) rfl, rfl, by decide +kernel⟩
theorem M_X2_3 : Cond.methodLink RX2 3 objectInit ∈ TS := ts_mem 116 (by decide +kernel) rfl
theorem M_X2_15 : rb_Sc RX2 15 yJ7_fill_53178 cJ7_fill_53178 4 none 2 := ⟨ts_mem 117 (by decide +kernel) rfl, ts_mem 118 (by decide +kernel) rfl, ts_mem 49 (by decide +kernel) rfl, ts_mem 119 (by decide +kernel) rfl, by decide +kernel⟩
theorem M_X0_3 : Cond.methodLink RX0 3 objectInit ∈ TS := ts_mem 155 (by decide +kernel) rfl
theorem M_X0_11 : rb_Ic RX0 11 yJx4a65c_init_da8c8 cJx4a65c_init_da8c8 1 0 := ⟨ts_mem 157 (by decide +kernel) rfl, ts_mem 82 (by decide +kernel) rfl, ts_mem 46 (by decide +kernel) rfl, ts_mem 83 (by decide +kernel) rfl, rfl, by decide +kernel⟩
theorem M_L_102 : rb_SWc RL 102 yL_reach cL_reach 5 (some .int) [(0, 10, 13, 13), (0, 10, 17, 15)] 4 := ⟨ts_mem 193 (by decide +kernel) rfl, ts_mem 194 (by decide +kernel) rfl, ts_mem 42 (by decide +kernel) rfl, ts_mem 195 (by decide +kernel) rfl, by decide +kernel⟩
theorem M_L_7 : rb_Vc RL 7 RX7 yX7_reach cX7_reach 6 (some .int) 2 := ⟨ts_mem 198 (by decide +kernel) rfl, ts_mem 199 (by decide +kernel) rfl, ts_mem 200 (by decide +kernel) rfl, ts_mem 43 (by decide +kernel) rfl, ts_mem 201 (by decide +kernel) rfl, by decide +kernel⟩
theorem M_X7_40 : rb_Vc RX7 40 RX7 yX7_receivedAt cX7_receivedAt 2 (some .int) 1 := ⟨ts_mem 202 (by decide +kernel) rfl, ts_mem 204 (by decide +kernel) rfl, ts_mem 0 (by decide +kernel) rfl, ts_mem 43 (by decide +kernel) rfl, ts_mem 205 (by decide +kernel) rfl, by decide +kernel⟩
theorem M_X7_126 : rb_Vc RX7 126 RX7 yX7_requirePlace cX7_requirePlace 2 none 1 := ⟨ts_mem 206 (by decide +kernel) rfl, ts_mem 208 (by decide +kernel) rfl, ts_mem 1 (by decide +kernel) rfl, ts_mem 43 (by decide +kernel) rfl, ts_mem 209 (by decide +kernel) rfl, by decide +kernel⟩
theorem M_X7_44 : rb_Sc RX7 44 yX7_requireRange cX7_requireRange 3 none 3 := ⟨ts_mem 278 (by decide +kernel) rfl, ts_mem 279 (by decide +kernel) rfl, ts_mem 43 (by decide +kernel) rfl, ts_mem 280 (by decide +kernel) rfl, by decide +kernel⟩
theorem M_X7_48 : rb_Vc RX7 48 RJx4a65c yJx4a65c_size_8abf5 cJx4a65c_size_8abf5 1 (some .int) 0 := ⟨ts_mem 297 (by decide +kernel) rfl, ts_mem 298 (by decide +kernel) rfl, ts_mem 299 (by decide +kernel) rfl, ts_mem 46 (by decide +kernel) rfl, ts_mem 300 (by decide +kernel) rfl, by decide +kernel⟩
theorem M_X7_52 : rb_Vc RX7 52 RJx4a65c yJx4a65c_get_915e3 cJx4a65c_get_915e3 2 (some (.object "java/lang/Object")) 1 := ⟨ts_mem 301 (by decide +kernel) rfl, ts_mem 302 (by decide +kernel) rfl, ts_mem 303 (by decide +kernel) rfl, ts_mem 46 (by decide +kernel) rfl, ts_mem 304 (by decide +kernel) rfl, by decide +kernel⟩
theorem M_Jx4a65c_118 : rb_Sc RJx4a65c 118 yJ15_checkIndex_7cf53 cJ15_checkIndex_7cf53 2 (some .int) 2 := ⟨ts_mem 305 (by decide +kernel) rfl, ts_mem 306 (by decide +kernel) rfl, ts_mem 57 (by decide +kernel) rfl, ts_mem 307 (by decide +kernel) rfl, by decide +kernel⟩
theorem M_J15_105 : rb_Sc RJ15 105 yJ3_checkIndex_8e157 cJ3_checkIndex_8e157 3 (some .int) 3 := ⟨ts_mem 308 (by decide +kernel) rfl, ts_mem 309 (by decide +kernel) rfl, ts_mem 58 (by decide +kernel) rfl, ts_mem 310 (by decide +kernel) rfl, by decide +kernel⟩
theorem M_Jx4a65c_123 : rb_Vc RJx4a65c 123 RJx4a65c yJx4a65c_elementData_915e3 cJx4a65c_elementData_915e3 2 (some (.object "java/lang/Object")) 1 := ⟨ts_mem 311 (by decide +kernel) rfl, ts_mem 312 (by decide +kernel) rfl, ts_mem 313 (by decide +kernel) rfl, ts_mem 46 (by decide +kernel) rfl, ts_mem 314 (by decide +kernel) rfl, by decide +kernel⟩
theorem M_X7_62 : rb_Vc RX7 62 RX7 yX7_detachIfNotReceived cX7_detachIfNotReceived 2 none 1 := ⟨ts_mem 316 (by decide +kernel) rfl, ts_mem 318 (by decide +kernel) rfl, ts_mem 3 (by decide +kernel) rfl, ts_mem 43 (by decide +kernel) rfl, ts_mem 319 (by decide +kernel) rfl, by decide +kernel⟩
theorem M_X7_167 : rb_Sc RX7 167 yX7_isIn cX7_isIn 2 (some .boolean) 2 := ⟨ts_mem 320 (by decide +kernel) rfl, ts_mem 321 (by decide +kernel) rfl, ts_mem 43 (by decide +kernel) rfl, ts_mem 322 (by decide +kernel) rfl, by decide +kernel⟩
theorem M_L_112 : rb_SWc RL 112 yL_dead cL_dead 5 (some .int) [(0, 17, 20, 13)] 4 := ⟨ts_mem 323 (by decide +kernel) rfl, ts_mem 324 (by decide +kernel) rfl, ts_mem 42 (by decide +kernel) rfl, ts_mem 325 (by decide +kernel) rfl, by decide +kernel⟩
theorem M_L_17 : rb_Vc RL 17 RX7 yX7_dead cX7_dead 5 (some .boolean) 2 := ⟨ts_mem 326 (by decide +kernel) rfl, ts_mem 327 (by decide +kernel) rfl, ts_mem 328 (by decide +kernel) rfl, ts_mem 43 (by decide +kernel) rfl, ts_mem 329 (by decide +kernel) rfl, by decide +kernel⟩
theorem M_X7_66 : rb_Vc RX7 66 RX7 yX7_networkAt cX7_networkAt 2 (some (.object "RoamBooks$Network")) 1 := ⟨ts_mem 330 (by decide +kernel) rfl, ts_mem 332 (by decide +kernel) rfl, ts_mem 4 (by decide +kernel) rfl, ts_mem 43 (by decide +kernel) rfl, ts_mem 333 (by decide +kernel) rfl, by decide +kernel⟩
theorem M_X7_87 : rb_Vc RX7 87 RX7 yX7_requireNetwork cX7_requireNetwork 2 none 1 := ⟨ts_mem 334 (by decide +kernel) rfl, ts_mem 336 (by decide +kernel) rfl, ts_mem 5 (by decide +kernel) rfl, ts_mem 43 (by decide +kernel) rfl, ts_mem 337 (by decide +kernel) rfl, by decide +kernel⟩
theorem M_X7_78 : rb_Vc RX7 78 RX2 yX2_clear cX2_clear 1 none 0 := ⟨ts_mem 339 (by decide +kernel) rfl, ts_mem 340 (by decide +kernel) rfl, ts_mem 341 (by decide +kernel) rfl, ts_mem 48 (by decide +kernel) rfl, ts_mem 342 (by decide +kernel) rfl, by decide +kernel⟩
theorem M_X7_83 : rb_Vc RX7 83 RX7 yX7_detachAllFrom cX7_detachAllFrom 4 none 1 := ⟨ts_mem 343 (by decide +kernel) rfl, ts_mem 345 (by decide +kernel) rfl, ts_mem 6 (by decide +kernel) rfl, ts_mem 43 (by decide +kernel) rfl, ts_mem 346 (by decide +kernel) rfl, by decide +kernel⟩
theorem M_L_116 : rb_SWc RL 116 yL_agree cL_agree 10 (some .int) [(0, 20, 23, 13), (0, 20, 27, 15), (0, 20, 31, 25)] 9 := ⟨ts_mem 347 (by decide +kernel) rfl, ts_mem 348 (by decide +kernel) rfl, ts_mem 42 (by decide +kernel) rfl, ts_mem 349 (by decide +kernel) rfl, by decide +kernel⟩
theorem M_L_21 : rb_Vc RL 21 RX7 yX7_agree cX7_agree 8 (some .int) 7 := ⟨ts_mem 351 (by decide +kernel) rfl, ts_mem 352 (by decide +kernel) rfl, ts_mem 353 (by decide +kernel) rfl, ts_mem 43 (by decide +kernel) rfl, ts_mem 354 (by decide +kernel) rfl, by decide +kernel⟩
theorem M_X7_90 : rb_Sc RX7 90 yX7_requireDifferent cX7_requireDifferent 2 none 2 := ⟨ts_mem 355 (by decide +kernel) rfl, ts_mem 356 (by decide +kernel) rfl, ts_mem 43 (by decide +kernel) rfl, ts_mem 357 (by decide +kernel) rfl, by decide +kernel⟩
theorem M_X7_96 : rb_Sc RX7 96 yX7_requireRoom cX7_requireRoom 2 none 2 := ⟨ts_mem 361 (by decide +kernel) rfl, ts_mem 362 (by decide +kernel) rfl, ts_mem 43 (by decide +kernel) rfl, ts_mem 363 (by decide +kernel) rfl, by decide +kernel⟩
theorem M_X7_101 : rb_Ic RX7 101 yX1_init cX1_init 8 7 := ⟨ts_mem 382 (by decide +kernel) rfl, ts_mem 383 (by decide +kernel) rfl, ts_mem 60 (by decide +kernel) rfl, ts_mem 384 (by decide +kernel) rfl, rfl, by decide +kernel⟩
theorem M_X1_1 : Cond.methodLink RX1 1 objectInit ∈ TS := ts_mem 385 (by decide +kernel) rfl
theorem M_X7_104 : rb_Vc RX7 104 RJx4a65c yJx4a65c_add_9ea2d cJx4a65c_add_9ea2d 2 (some .boolean) 1 := ⟨ts_mem 408 (by decide +kernel) rfl, ts_mem 409 (by decide +kernel) rfl, ts_mem 410 (by decide +kernel) rfl, ts_mem 46 (by decide +kernel) rfl, ts_mem 411 (by decide +kernel) rfl, by decide +kernel⟩
theorem M_Jx4a65c_131 : rb_Vc RJx4a65c 131 RJx4a65c yJx4a65c_add_72be8 cJx4a65c_add_72be8 4 none 3 := ⟨ts_mem 412 (by decide +kernel) rfl, ts_mem 414 (by decide +kernel) rfl, ts_mem 7 (by decide +kernel) rfl, ts_mem 46 (by decide +kernel) rfl, ts_mem 415 (by decide +kernel) rfl, by decide +kernel⟩
theorem M_Jx4a65c_129 : rb_Vc RJx4a65c 129 RJx4a65c yJx4a65c_grow_d5877 cJx4a65c_grow_d5877 1 (some (.array (.object "java/lang/Object"))) 0 := ⟨ts_mem 416 (by decide +kernel) rfl, ts_mem 418 (by decide +kernel) rfl, ts_mem 8 (by decide +kernel) rfl, ts_mem 46 (by decide +kernel) rfl, ts_mem 419 (by decide +kernel) rfl, by decide +kernel⟩
theorem M_Jx4a65c_69 : rb_Vc RJx4a65c 69 RJx4a65c yJx4a65c_grow_92f84 cJx4a65c_grow_92f84 4 (some (.array (.object "java/lang/Object"))) 1 := ⟨ts_mem 420 (by decide +kernel) rfl, ts_mem 422 (by decide +kernel) rfl, ts_mem 9 (by decide +kernel) rfl, ts_mem 46 (by decide +kernel) rfl, ts_mem 423 (by decide +kernel) rfl, by decide +kernel⟩
theorem M_Jx4a65c_73 : rb_Sc RJx4a65c 73 yJ8_newLength_cabcc cJ8_newLength_cabcc 4 (some .int) 3 := ⟨ts_mem 424 (by decide +kernel) rfl, ts_mem 425 (by decide +kernel) rfl, ts_mem 61 (by decide +kernel) rfl, ts_mem 426 (by decide +kernel) rfl, by decide +kernel⟩
theorem M_J8_194 : rb_Sc RJ8 194 yJ9_max_7cf53 cJ9_max_7cf53 2 (some .int) 2 := ⟨ts_mem 427 (by decide +kernel) rfl, ts_mem 428 (by decide +kernel) rfl, ts_mem 62 (by decide +kernel) rfl, ts_mem 429 (by decide +kernel) rfl, by decide +kernel⟩
theorem M_J8_201 : rb_Sc RJ8 201 yJ8_hugeLength_7cf53 cJ8_hugeLength_7cf53 3 (some .int) 2 := ⟨ts_mem 431 (by decide +kernel) rfl, ts_mem 432 (by decide +kernel) rfl, ts_mem 61 (by decide +kernel) rfl, ts_mem 433 (by decide +kernel) rfl, by decide +kernel⟩
theorem M_Jx4a65c_66 : rb_Sc RJx4a65c 66 yJ7_copyOf_1904c cJ7_copyOf_1904c 2 (some (.array (.object "java/lang/Object"))) 2 := ⟨ts_mem 434 (by decide +kernel) rfl, ts_mem 435 (by decide +kernel) rfl, ts_mem 49 (by decide +kernel) rfl, ts_mem 436 (by decide +kernel) rfl, by decide +kernel⟩
theorem M_J7_300 : rb_Sc RJ7 300 yJ7_copyOf_6403c cJ7_copyOf_6403c 4 (some (.array (.object "java/lang/Object"))) 3 := ⟨ts_mem 454 (by decide +kernel) rfl, ts_mem 455 (by decide +kernel) rfl, ts_mem 49 (by decide +kernel) rfl, ts_mem 456 (by decide +kernel) rfl, by decide +kernel⟩
theorem M_J7_304 : rb_Sc RJ7 304 yJ9_min_7cf53 cJ9_min_7cf53 2 (some .int) 2 := ⟨ts_mem 460 (by decide +kernel) rfl, ts_mem 461 (by decide +kernel) rfl, ts_mem 62 (by decide +kernel) rfl, ts_mem 462 (by decide +kernel) rfl, by decide +kernel⟩
theorem M_Jx4a65c_79 : rb_Sc RJx4a65c 79 yJ9_max_7cf53 cJ9_max_7cf53 2 (some .int) 2 := ⟨ts_mem 466 (by decide +kernel) rfl, ts_mem 428 (by decide +kernel) rfl, ts_mem 62 (by decide +kernel) rfl, ts_mem 429 (by decide +kernel) rfl, by decide +kernel⟩
theorem M_L_120 : rb_SWc RL 120 yL_steer cL_steer 5 (some .int) [(0, 10, 13, 13), (0, 10, 17, 15)] 4 := ⟨ts_mem 468 (by decide +kernel) rfl, ts_mem 469 (by decide +kernel) rfl, ts_mem 42 (by decide +kernel) rfl, ts_mem 470 (by decide +kernel) rfl, by decide +kernel⟩
theorem M_L_27 : rb_Vc RL 27 RX7 yX7_steer cX7_steer 5 (some .int) 2 := ⟨ts_mem 471 (by decide +kernel) rfl, ts_mem 472 (by decide +kernel) rfl, ts_mem 473 (by decide +kernel) rfl, ts_mem 43 (by decide +kernel) rfl, ts_mem 474 (by decide +kernel) rfl, by decide +kernel⟩
theorem M_L_123 : rb_SWc RL 123 yL_prices cL_prices 6 (some .int) [(0, 9, 12, 13), (0, 9, 16, 15)] 5 := ⟨ts_mem 475 (by decide +kernel) rfl, ts_mem 476 (by decide +kernel) rfl, ts_mem 42 (by decide +kernel) rfl, ts_mem 477 (by decide +kernel) rfl, by decide +kernel⟩
theorem M_L_30 : rb_Vc RL 30 RX7 yX7_prices cX7_prices 6 none 4 := ⟨ts_mem 478 (by decide +kernel) rfl, ts_mem 479 (by decide +kernel) rfl, ts_mem 480 (by decide +kernel) rfl, ts_mem 43 (by decide +kernel) rfl, ts_mem 481 (by decide +kernel) rfl, by decide +kernel⟩
theorem M_L_127 : rb_SWc RL 127 yL_lose cL_lose 5 (some .int) [(0, 10, 13, 13), (0, 10, 17, 15)] 4 := ⟨ts_mem 482 (by decide +kernel) rfl, ts_mem 483 (by decide +kernel) rfl, ts_mem 42 (by decide +kernel) rfl, ts_mem 484 (by decide +kernel) rfl, by decide +kernel⟩
theorem M_L_34 : rb_Vc RL 34 RX7 yX7_lose cX7_lose 5 (some .int) 2 := ⟨ts_mem 485 (by decide +kernel) rfl, ts_mem 486 (by decide +kernel) rfl, ts_mem 487 (by decide +kernel) rfl, ts_mem 43 (by decide +kernel) rfl, ts_mem 488 (by decide +kernel) rfl, by decide +kernel⟩
theorem M_L_130 : rb_SWc RL 130 yL_crash cL_crash 4 (some .int) [(0, 9, 12, 13)] 3 := ⟨ts_mem 489 (by decide +kernel) rfl, ts_mem 490 (by decide +kernel) rfl, ts_mem 42 (by decide +kernel) rfl, ts_mem 491 (by decide +kernel) rfl, by decide +kernel⟩
theorem M_L_37 : rb_Vc RL 37 RX7 yX7_crash cX7_crash 4 (some .int) 1 := ⟨ts_mem 492 (by decide +kernel) rfl, ts_mem 493 (by decide +kernel) rfl, ts_mem 494 (by decide +kernel) rfl, ts_mem 43 (by decide +kernel) rfl, ts_mem 495 (by decide +kernel) rfl, by decide +kernel⟩
theorem M_X7_123 : rb_Vc RX7 123 RX2 yX2_count cX2_count 3 (some .int) 0 := ⟨ts_mem 496 (by decide +kernel) rfl, ts_mem 497 (by decide +kernel) rfl, ts_mem 498 (by decide +kernel) rfl, ts_mem 48 (by decide +kernel) rfl, ts_mem 499 (by decide +kernel) rfl, by decide +kernel⟩
theorem M_L_134 : rb_SWc RL 134 yL_subscriber cL_subscriber 6 (some .int) [(0, 12, 15, 13), (0, 12, 19, 15), (0, 12, 23, 25)] 5 := ⟨ts_mem 500 (by decide +kernel) rfl, ts_mem 501 (by decide +kernel) rfl, ts_mem 42 (by decide +kernel) rfl, ts_mem 502 (by decide +kernel) rfl, by decide +kernel⟩
theorem M_L_41 : rb_Vc RL 41 RX7 yX7_subscriber cX7_subscriber 5 (some .int) 3 := ⟨ts_mem 503 (by decide +kernel) rfl, ts_mem 504 (by decide +kernel) rfl, ts_mem 505 (by decide +kernel) rfl, ts_mem 43 (by decide +kernel) rfl, ts_mem 506 (by decide +kernel) rfl, by decide +kernel⟩
theorem M_X7_129 : rb_Ic RX7 129 yX6_init cX6_init 5 4 := ⟨ts_mem 508 (by decide +kernel) rfl, ts_mem 509 (by decide +kernel) rfl, ts_mem 64 (by decide +kernel) rfl, ts_mem 510 (by decide +kernel) rfl, rfl, by decide +kernel⟩
theorem M_X6_3 : Cond.methodLink RX6 3 objectInit ∈ TS := ts_mem 511 (by decide +kernel) rfl
theorem M_L_138 : rb_SWc RL 138 yL_move cL_move 5 (some .int) [(0, 10, 13, 13)] 4 := ⟨ts_mem 555 (by decide +kernel) rfl, ts_mem 556 (by decide +kernel) rfl, ts_mem 42 (by decide +kernel) rfl, ts_mem 557 (by decide +kernel) rfl, by decide +kernel⟩
theorem M_L_45 : rb_Vc RL 45 RX7 yX7_move cX7_move 4 (some .int) 2 := ⟨ts_mem 558 (by decide +kernel) rfl, ts_mem 559 (by decide +kernel) rfl, ts_mem 560 (by decide +kernel) rfl, ts_mem 43 (by decide +kernel) rfl, ts_mem 561 (by decide +kernel) rfl, by decide +kernel⟩
theorem M_X7_135 : rb_Vc RX7 135 RX7 yX7_subscriberAt cX7_subscriberAt 2 (some (.object "RoamBooks$Subscriber")) 1 := ⟨ts_mem 562 (by decide +kernel) rfl, ts_mem 564 (by decide +kernel) rfl, ts_mem 10 (by decide +kernel) rfl, ts_mem 43 (by decide +kernel) rfl, ts_mem 565 (by decide +kernel) rfl, by decide +kernel⟩
theorem M_L_141 : rb_SWc RL 141 yL_off cL_off 4 (some .int) [(0, 9, 12, 13)] 3 := ⟨ts_mem 567 (by decide +kernel) rfl, ts_mem 568 (by decide +kernel) rfl, ts_mem 42 (by decide +kernel) rfl, ts_mem 569 (by decide +kernel) rfl, by decide +kernel⟩
theorem M_L_48 : rb_Vc RL 48 RX7 yX7_off cX7_off 4 (some .int) 1 := ⟨ts_mem 570 (by decide +kernel) rfl, ts_mem 571 (by decide +kernel) rfl, ts_mem 572 (by decide +kernel) rfl, ts_mem 43 (by decide +kernel) rfl, ts_mem 573 (by decide +kernel) rfl, by decide +kernel⟩
theorem M_L_144 : rb_SWc RL 144 yL_attach cL_attach 5 (some .int) [(0, 10, 13, 13), (0, 10, 17, 25)] 4 := ⟨ts_mem 574 (by decide +kernel) rfl, ts_mem 575 (by decide +kernel) rfl, ts_mem 42 (by decide +kernel) rfl, ts_mem 576 (by decide +kernel) rfl, by decide +kernel⟩
theorem M_L_51 : rb_Vc RL 51 RX7 yX7_attach cX7_attach 5 (some .int) 2 := ⟨ts_mem 577 (by decide +kernel) rfl, ts_mem 578 (by decide +kernel) rfl, ts_mem 579 (by decide +kernel) rfl, ts_mem 43 (by decide +kernel) rfl, ts_mem 580 (by decide +kernel) rfl, by decide +kernel⟩
theorem M_X7_152 : rb_Vc RX7 152 RX7 yX7_whyNotUsable cX7_whyNotUsable 3 (some .int) 2 := ⟨ts_mem 582 (by decide +kernel) rfl, ts_mem 584 (by decide +kernel) rfl, ts_mem 11 (by decide +kernel) rfl, ts_mem 43 (by decide +kernel) rfl, ts_mem 585 (by decide +kernel) rfl, by decide +kernel⟩
theorem M_X7_295 : rb_Vc RX7 295 RX7 yX7_agreementNow cX7_agreementNow 5 (some (.object "RoamBooks$Agreement")) 2 := ⟨ts_mem 586 (by decide +kernel) rfl, ts_mem 588 (by decide +kernel) rfl, ts_mem 12 (by decide +kernel) rfl, ts_mem 43 (by decide +kernel) rfl, ts_mem 589 (by decide +kernel) rfl, by decide +kernel⟩
theorem M_X7_285 : rb_Vc RX7 285 RX1 yX1_holds cX1_holds 4 (some .boolean) 3 := ⟨ts_mem 590 (by decide +kernel) rfl, ts_mem 591 (by decide +kernel) rfl, ts_mem 592 (by decide +kernel) rfl, ts_mem 60 (by decide +kernel) rfl, ts_mem 593 (by decide +kernel) rfl, by decide +kernel⟩
theorem M_X7_156 : rb_Vc RX7 156 RX7 yX7_isSteered cX7_isSteered 4 (some .boolean) 2 := ⟨ts_mem 594 (by decide +kernel) rfl, ts_mem 596 (by decide +kernel) rfl, ts_mem 13 (by decide +kernel) rfl, ts_mem 43 (by decide +kernel) rfl, ts_mem 597 (by decide +kernel) rfl, by decide +kernel⟩
theorem M_X7_163 : rb_Vc RX7 163 RX7 yX7_makeContact cX7_makeContact 4 none 2 := ⟨ts_mem 598 (by decide +kernel) rfl, ts_mem 600 (by decide +kernel) rfl, ts_mem 14 (by decide +kernel) rfl, ts_mem 43 (by decide +kernel) rfl, ts_mem 601 (by decide +kernel) rfl, by decide +kernel⟩
theorem M_X7_299 : rb_Vc RX7 299 RX2 yX2_put cX2_put 3 none 2 := ⟨ts_mem 602 (by decide +kernel) rfl, ts_mem 603 (by decide +kernel) rfl, ts_mem 604 (by decide +kernel) rfl, ts_mem 48 (by decide +kernel) rfl, ts_mem 605 (by decide +kernel) rfl, by decide +kernel⟩
theorem M_X2_21 : rb_Vc RX2 21 RX2 yX2_isLine cX2_isLine 2 (some .boolean) 1 := ⟨ts_mem 606 (by decide +kernel) rfl, ts_mem 608 (by decide +kernel) rfl, ts_mem 15 (by decide +kernel) rfl, ts_mem 48 (by decide +kernel) rfl, ts_mem 609 (by decide +kernel) rfl, by decide +kernel⟩
theorem M_X7_302 : rb_Vc RX7 302 RX2 yX2_takeOut cX2_takeOut 2 none 1 := ⟨ts_mem 610 (by decide +kernel) rfl, ts_mem 611 (by decide +kernel) rfl, ts_mem 612 (by decide +kernel) rfl, ts_mem 48 (by decide +kernel) rfl, ts_mem 613 (by decide +kernel) rfl, by decide +kernel⟩
theorem M_X2_29 : rb_Vc RX2 29 RX2 yX2_put cX2_put 3 none 2 := ⟨ts_mem 614 (by decide +kernel) rfl, ts_mem 603 (by decide +kernel) rfl, ts_mem 604 (by decide +kernel) rfl, ts_mem 48 (by decide +kernel) rfl, ts_mem 605 (by decide +kernel) rfl, by decide +kernel⟩
theorem M_L_147 : rb_SWc RL 147 yL_emergency cL_emergency 4 (some .int) [(0, 9, 12, 13)] 3 := ⟨ts_mem 615 (by decide +kernel) rfl, ts_mem 616 (by decide +kernel) rfl, ts_mem 42 (by decide +kernel) rfl, ts_mem 617 (by decide +kernel) rfl, by decide +kernel⟩
theorem M_L_54 : rb_Vc RL 54 RX7 yX7_emergency cX7_emergency 5 (some .int) 1 := ⟨ts_mem 618 (by decide +kernel) rfl, ts_mem 619 (by decide +kernel) rfl, ts_mem 620 (by decide +kernel) rfl, ts_mem 43 (by decide +kernel) rfl, ts_mem 621 (by decide +kernel) rfl, by decide +kernel⟩
theorem M_L_150 : rb_SWc RL 150 yL_where cL_where 4 (some .int) [(0, 9, 12, 13)] 3 := ⟨ts_mem 622 (by decide +kernel) rfl, ts_mem 623 (by decide +kernel) rfl, ts_mem 42 (by decide +kernel) rfl, ts_mem 624 (by decide +kernel) rfl, by decide +kernel⟩
theorem M_L_57 : rb_Vc RL 57 RX7 yX7_where cX7_where 2 (some .int) 1 := ⟨ts_mem 625 (by decide +kernel) rfl, ts_mem 626 (by decide +kernel) rfl, ts_mem 627 (by decide +kernel) rfl, ts_mem 43 (by decide +kernel) rfl, ts_mem 628 (by decide +kernel) rfl, by decide +kernel⟩
theorem M_L_153 : rb_SWc RL 153 yL_contact cL_contact 5 (some .int) [(0, 10, 13, 13)] 4 := ⟨ts_mem 629 (by decide +kernel) rfl, ts_mem 630 (by decide +kernel) rfl, ts_mem 42 (by decide +kernel) rfl, ts_mem 631 (by decide +kernel) rfl, by decide +kernel⟩
theorem M_L_60 : rb_Vc RL 60 RX7 yX7_contact cX7_contact 4 (some .int) 2 := ⟨ts_mem 632 (by decide +kernel) rfl, ts_mem 633 (by decide +kernel) rfl, ts_mem 634 (by decide +kernel) rfl, ts_mem 43 (by decide +kernel) rfl, ts_mem 635 (by decide +kernel) rfl, by decide +kernel⟩
theorem M_X7_174 : rb_Vc RX7 174 RX2 yX2_latest cX2_latest 2 (some .int) 1 := ⟨ts_mem 636 (by decide +kernel) rfl, ts_mem 637 (by decide +kernel) rfl, ts_mem 638 (by decide +kernel) rfl, ts_mem 48 (by decide +kernel) rfl, ts_mem 639 (by decide +kernel) rfl, by decide +kernel⟩
theorem M_L_156 : rb_SWc RL 156 yL_agrees cL_agrees 4 (some .int) [(0, 16, 19, 13)] 3 := ⟨ts_mem 640 (by decide +kernel) rfl, ts_mem 641 (by decide +kernel) rfl, ts_mem 42 (by decide +kernel) rfl, ts_mem 642 (by decide +kernel) rfl, by decide +kernel⟩
theorem M_L_63 : rb_Vc RL 63 RX7 yX7_agrees cX7_agrees 4 (some .boolean) 1 := ⟨ts_mem 643 (by decide +kernel) rfl, ts_mem 644 (by decide +kernel) rfl, ts_mem 645 (by decide +kernel) rfl, ts_mem 43 (by decide +kernel) rfl, ts_mem 646 (by decide +kernel) rfl, by decide +kernel⟩
theorem M_X7_177 : rb_Vc RX7 177 RX2 yX2_has cX2_has 2 (some .boolean) 1 := ⟨ts_mem 647 (by decide +kernel) rfl, ts_mem 648 (by decide +kernel) rfl, ts_mem 649 (by decide +kernel) rfl, ts_mem 48 (by decide +kernel) rfl, ts_mem 650 (by decide +kernel) rfl, by decide +kernel⟩
theorem M_X2_25 : rb_Vc RX2 25 RX2 yX2_latest cX2_latest 2 (some .int) 1 := ⟨ts_mem 651 (by decide +kernel) rfl, ts_mem 637 (by decide +kernel) rfl, ts_mem 638 (by decide +kernel) rfl, ts_mem 48 (by decide +kernel) rfl, ts_mem 639 (by decide +kernel) rfl, by decide +kernel⟩
theorem M_L_159 : rb_SWc RL 159 yL_subscriberIs cL_subscriberIs 5 (some .int) [(0, 10, 13, 13), (0, 10, 17, 15)] 4 := ⟨ts_mem 652 (by decide +kernel) rfl, ts_mem 653 (by decide +kernel) rfl, ts_mem 42 (by decide +kernel) rfl, ts_mem 654 (by decide +kernel) rfl, by decide +kernel⟩
theorem M_L_67 : rb_Vc RL 67 RX7 yX7_subscriberIs cX7_subscriberIs 4 (some .int) 2 := ⟨ts_mem 655 (by decide +kernel) rfl, ts_mem 656 (by decide +kernel) rfl, ts_mem 657 (by decide +kernel) rfl, ts_mem 43 (by decide +kernel) rfl, ts_mem 658 (by decide +kernel) rfl, by decide +kernel⟩
theorem M_X7_187 : rb_Vc RX7 187 RX6 yX6_isWarned cX6_isWarned 1 (some .boolean) 0 := ⟨ts_mem 659 (by decide +kernel) rfl, ts_mem 660 (by decide +kernel) rfl, ts_mem 661 (by decide +kernel) rfl, ts_mem 64 (by decide +kernel) rfl, ts_mem 662 (by decide +kernel) rfl, by decide +kernel⟩
theorem M_L_162 : rb_SWc RL 162 yL_cap cL_cap 5 (some .int) [(0, 7, 10, 13), (0, 7, 14, 15)] 4 := ⟨ts_mem 666 (by decide +kernel) rfl, ts_mem 667 (by decide +kernel) rfl, ts_mem 42 (by decide +kernel) rfl, ts_mem 668 (by decide +kernel) rfl, by decide +kernel⟩
theorem M_L_70 : rb_Vc RL 70 RX7 yX7_cap cX7_cap 5 none 3 := ⟨ts_mem 669 (by decide +kernel) rfl, ts_mem 670 (by decide +kernel) rfl, ts_mem 671 (by decide +kernel) rfl, ts_mem 43 (by decide +kernel) rfl, ts_mem 672 (by decide +kernel) rfl, by decide +kernel⟩
theorem M_L_166 : rb_SWc RL 166 yL_call cL_call 6 (some .int) [(0, 12, 15, 13), (0, 12, 19, 15), (0, 12, 23, 25)] 5 := ⟨ts_mem 674 (by decide +kernel) rfl, ts_mem 675 (by decide +kernel) rfl, ts_mem 42 (by decide +kernel) rfl, ts_mem 676 (by decide +kernel) rfl, by decide +kernel⟩
theorem M_L_74 : rb_Vc RL 74 RX7 yX7_call cX7_call 10 (some .int) 3 := ⟨ts_mem 677 (by decide +kernel) rfl, ts_mem 678 (by decide +kernel) rfl, ts_mem 679 (by decide +kernel) rfl, ts_mem 43 (by decide +kernel) rfl, ts_mem 680 (by decide +kernel) rfl, by decide +kernel⟩
theorem M_X7_204 : rb_Vc RX7 204 RX7 yX7_whyNotFound cX7_whyNotFound 3 (some .int) 2 := ⟨ts_mem 682 (by decide +kernel) rfl, ts_mem 684 (by decide +kernel) rfl, ts_mem 16 (by decide +kernel) rfl, ts_mem 43 (by decide +kernel) rfl, ts_mem 685 (by decide +kernel) rfl, by decide +kernel⟩
theorem M_X7_208 : rb_Vc RX7 208 RX7 yX7_priceOfCalling cX7_priceOfCalling 3 (some .int) 1 := ⟨ts_mem 686 (by decide +kernel) rfl, ts_mem 688 (by decide +kernel) rfl, ts_mem 17 (by decide +kernel) rfl, ts_mem 43 (by decide +kernel) rfl, ts_mem 689 (by decide +kernel) rfl, by decide +kernel⟩
theorem M_X7_317 : rb_Vc RX7 317 RX6 yX6_isAbroad cX6_isAbroad 1 (some .boolean) 0 := ⟨ts_mem 690 (by decide +kernel) rfl, ts_mem 691 (by decide +kernel) rfl, ts_mem 692 (by decide +kernel) rfl, ts_mem 64 (by decide +kernel) rfl, ts_mem 693 (by decide +kernel) rfl, by decide +kernel⟩
theorem M_X7_212 : rb_Vc RX7 212 RX7 yX7_priceOfBeingCalled cX7_priceOfBeingCalled 2 (some .int) 1 := ⟨ts_mem 694 (by decide +kernel) rfl, ts_mem 696 (by decide +kernel) rfl, ts_mem 18 (by decide +kernel) rfl, ts_mem 43 (by decide +kernel) rfl, ts_mem 697 (by decide +kernel) rfl, by decide +kernel⟩
theorem M_X7_215 : rb_Vc RX7 215 RX6 yX6_wouldComeAboveCap cX6_wouldComeAboveCap 2 (some .boolean) 1 := ⟨ts_mem 698 (by decide +kernel) rfl, ts_mem 699 (by decide +kernel) rfl, ts_mem 700 (by decide +kernel) rfl, ts_mem 64 (by decide +kernel) rfl, ts_mem 701 (by decide +kernel) rfl, by decide +kernel⟩
theorem M_X6_33 : rb_Vc RX6 33 RX6 yX6_isAbroad cX6_isAbroad 1 (some .boolean) 0 := ⟨ts_mem 702 (by decide +kernel) rfl, ts_mem 691 (by decide +kernel) rfl, ts_mem 692 (by decide +kernel) rfl, ts_mem 64 (by decide +kernel) rfl, ts_mem 693 (by decide +kernel) rfl, by decide +kernel⟩
theorem M_X7_220 : rb_Ic RX7 220 yX3_init cX3_init 5 4 := ⟨ts_mem 705 (by decide +kernel) rfl, ts_mem 706 (by decide +kernel) rfl, ts_mem 65 (by decide +kernel) rfl, ts_mem 707 (by decide +kernel) rfl, rfl, by decide +kernel⟩
theorem M_X3_1 : Cond.methodLink RX3 1 objectInit ∈ TS := ts_mem 708 (by decide +kernel) rfl
theorem M_X7_221 : rb_Vc RX7 221 RX7 yX7_settle cX7_settle 5 none 3 := ⟨ts_mem 722 (by decide +kernel) rfl, ts_mem 724 (by decide +kernel) rfl, ts_mem 19 (by decide +kernel) rfl, ts_mem 43 (by decide +kernel) rfl, ts_mem 725 (by decide +kernel) rfl, by decide +kernel⟩
theorem M_X7_228 : rb_Vc RX7 228 RX7 yX7_accountOf cX7_accountOf 3 (some (.object "RoamBooks$Account")) 2 := ⟨ts_mem 726 (by decide +kernel) rfl, ts_mem 728 (by decide +kernel) rfl, ts_mem 20 (by decide +kernel) rfl, ts_mem 43 (by decide +kernel) rfl, ts_mem 729 (by decide +kernel) rfl, by decide +kernel⟩
theorem M_X7_325 : rb_Ic RX7 325 yX4_init cX4_init 4 3 := ⟨ts_mem 732 (by decide +kernel) rfl, ts_mem 733 (by decide +kernel) rfl, ts_mem 66 (by decide +kernel) rfl, ts_mem 734 (by decide +kernel) rfl, rfl, by decide +kernel⟩
theorem M_X4_3 : Cond.methodLink RX4 3 objectInit ∈ TS := ts_mem 735 (by decide +kernel) rfl
theorem M_L_169 : rb_SWc RL 169 yL_paidAnew cL_paidAnew 4 (some .int) [(0, 9, 12, 13)] 3 := ⟨ts_mem 756 (by decide +kernel) rfl, ts_mem 757 (by decide +kernel) rfl, ts_mem 42 (by decide +kernel) rfl, ts_mem 758 (by decide +kernel) rfl, by decide +kernel⟩
theorem M_L_77 : rb_Vc RL 77 RX7 yX7_paidAnew cX7_paidAnew 5 (some .int) 1 := ⟨ts_mem 759 (by decide +kernel) rfl, ts_mem 760 (by decide +kernel) rfl, ts_mem 761 (by decide +kernel) rfl, ts_mem 43 (by decide +kernel) rfl, ts_mem 762 (by decide +kernel) rfl, by decide +kernel⟩
theorem M_X7_225 : rb_Vc RX7 225 RX3 yX3_paidBy cX3_paidBy 2 (some .int) 1 := ⟨ts_mem 763 (by decide +kernel) rfl, ts_mem 764 (by decide +kernel) rfl, ts_mem 765 (by decide +kernel) rfl, ts_mem 65 (by decide +kernel) rfl, ts_mem 766 (by decide +kernel) rfl, by decide +kernel⟩
theorem M_L_172 : rb_SWc RL 172 yL_file cL_file 5 (some .int) [(0, 10, 13, 13), (0, 10, 17, 25)] 4 := ⟨ts_mem 767 (by decide +kernel) rfl, ts_mem 768 (by decide +kernel) rfl, ts_mem 42 (by decide +kernel) rfl, ts_mem 769 (by decide +kernel) rfl, by decide +kernel⟩
theorem M_L_80 : rb_Vc RL 80 RX7 yX7_file cX7_file 4 (some .int) 2 := ⟨ts_mem 770 (by decide +kernel) rfl, ts_mem 771 (by decide +kernel) rfl, ts_mem 772 (by decide +kernel) rfl, ts_mem 43 (by decide +kernel) rfl, ts_mem 773 (by decide +kernel) rfl, by decide +kernel⟩
theorem M_X7_232 : rb_Vc RX7 232 RX0 yX0_hasUnfiled cX0_hasUnfiled 1 (some .boolean) 0 := ⟨ts_mem 774 (by decide +kernel) rfl, ts_mem 775 (by decide +kernel) rfl, ts_mem 776 (by decide +kernel) rfl, ts_mem 50 (by decide +kernel) rfl, ts_mem 777 (by decide +kernel) rfl, by decide +kernel⟩
theorem M_X0_35 : rb_Vc RX0 35 RX0 yX0_minutesThatAre cX0_minutesThatAre 5 (some .int) 1 := ⟨ts_mem 778 (by decide +kernel) rfl, ts_mem 779 (by decide +kernel) rfl, ts_mem 780 (by decide +kernel) rfl, ts_mem 50 (by decide +kernel) rfl, ts_mem 781 (by decide +kernel) rfl, by decide +kernel⟩
theorem M_X0_18 : rb_Vc RX0 18 RJx4a65c yJx4a65c_size_8abf5 cJx4a65c_size_8abf5 1 (some .int) 0 := ⟨ts_mem 782 (by decide +kernel) rfl, ts_mem 298 (by decide +kernel) rfl, ts_mem 299 (by decide +kernel) rfl, ts_mem 46 (by decide +kernel) rfl, ts_mem 300 (by decide +kernel) rfl, by decide +kernel⟩
theorem M_X0_22 : rb_Vc RX0 22 RJx4a65c yJx4a65c_get_915e3 cJx4a65c_get_915e3 2 (some (.object "java/lang/Object")) 1 := ⟨ts_mem 783 (by decide +kernel) rfl, ts_mem 302 (by decide +kernel) rfl, ts_mem 303 (by decide +kernel) rfl, ts_mem 46 (by decide +kernel) rfl, ts_mem 304 (by decide +kernel) rfl, by decide +kernel⟩
theorem M_X7_240 : rb_Vc RX7 240 RX0 yX0_fileTheRest cX0_fileTheRest 4 (some .int) 0 := ⟨ts_mem 786 (by decide +kernel) rfl, ts_mem 787 (by decide +kernel) rfl, ts_mem 788 (by decide +kernel) rfl, ts_mem 50 (by decide +kernel) rfl, ts_mem 789 (by decide +kernel) rfl, by decide +kernel⟩
theorem M_L_175 : rb_SWc RL 175 yL_deliver cL_deliver 6 (some .int) [(0, 12, 15, 13)] 5 := ⟨ts_mem 790 (by decide +kernel) rfl, ts_mem 791 (by decide +kernel) rfl, ts_mem 42 (by decide +kernel) rfl, ts_mem 792 (by decide +kernel) rfl, by decide +kernel⟩
theorem M_L_83 : rb_Vc RL 83 RX7 yX7_deliver cX7_deliver 5 (some .int) 3 := ⟨ts_mem 793 (by decide +kernel) rfl, ts_mem 794 (by decide +kernel) rfl, ts_mem 795 (by decide +kernel) rfl, ts_mem 43 (by decide +kernel) rfl, ts_mem 796 (by decide +kernel) rfl, by decide +kernel⟩
theorem M_X7_251 : rb_Vc RX7 251 RX0 yX0_takeNextFile cX0_takeNextFile 5 (some .int) 1 := ⟨ts_mem 798 (by decide +kernel) rfl, ts_mem 799 (by decide +kernel) rfl, ts_mem 800 (by decide +kernel) rfl, ts_mem 50 (by decide +kernel) rfl, ts_mem 801 (by decide +kernel) rfl, by decide +kernel⟩
theorem M_L_178 : rb_SWc RL 178 yL_owes cL_owes 5 (some .int) [(0, 10, 13, 13)] 4 := ⟨ts_mem 803 (by decide +kernel) rfl, ts_mem 804 (by decide +kernel) rfl, ts_mem 42 (by decide +kernel) rfl, ts_mem 805 (by decide +kernel) rfl, by decide +kernel⟩
theorem M_L_86 : rb_Vc RL 86 RX7 yX7_owes cX7_owes 3 (some .int) 2 := ⟨ts_mem 806 (by decide +kernel) rfl, ts_mem 807 (by decide +kernel) rfl, ts_mem 808 (by decide +kernel) rfl, ts_mem 43 (by decide +kernel) rfl, ts_mem 809 (by decide +kernel) rfl, by decide +kernel⟩
theorem M_X7_254 : rb_Vc RX7 254 RX0 yX0_owed cX0_owed 4 (some .int) 0 := ⟨ts_mem 810 (by decide +kernel) rfl, ts_mem 811 (by decide +kernel) rfl, ts_mem 812 (by decide +kernel) rfl, ts_mem 50 (by decide +kernel) rfl, ts_mem 813 (by decide +kernel) rfl, by decide +kernel⟩
theorem M_X0_52 : rb_Vc RX0 52 RX4 yX4_owed cX4_owed 2 (some .int) 1 := ⟨ts_mem 814 (by decide +kernel) rfl, ts_mem 815 (by decide +kernel) rfl, ts_mem 816 (by decide +kernel) rfl, ts_mem 66 (by decide +kernel) rfl, ts_mem 817 (by decide +kernel) rfl, by decide +kernel⟩
theorem M_X4_28 : rb_Vc RX4 28 RX1 yX1_priceAt cX1_priceAt 2 (some .int) 1 := ⟨ts_mem 818 (by decide +kernel) rfl, ts_mem 819 (by decide +kernel) rfl, ts_mem 820 (by decide +kernel) rfl, ts_mem 60 (by decide +kernel) rfl, ts_mem 821 (by decide +kernel) rfl, by decide +kernel⟩
theorem M_L_181 : rb_SWc RL 181 yL_owesAnew cL_owesAnew 5 (some .int) [(0, 10, 13, 13)] 4 := ⟨ts_mem 822 (by decide +kernel) rfl, ts_mem 823 (by decide +kernel) rfl, ts_mem 42 (by decide +kernel) rfl, ts_mem 824 (by decide +kernel) rfl, by decide +kernel⟩
theorem M_L_89 : rb_Vc RL 89 RX7 yX7_owesAnew cX7_owesAnew 3 (some .int) 2 := ⟨ts_mem 825 (by decide +kernel) rfl, ts_mem 826 (by decide +kernel) rfl, ts_mem 827 (by decide +kernel) rfl, ts_mem 43 (by decide +kernel) rfl, ts_mem 828 (by decide +kernel) rfl, by decide +kernel⟩
theorem M_X7_257 : rb_Vc RX7 257 RX0 yX0_owedFileByFile cX0_owedFileByFile 4 (some .int) 0 := ⟨ts_mem 829 (by decide +kernel) rfl, ts_mem 830 (by decide +kernel) rfl, ts_mem 831 (by decide +kernel) rfl, ts_mem 50 (by decide +kernel) rfl, ts_mem 832 (by decide +kernel) rfl, by decide +kernel⟩
theorem M_X0_55 : rb_Vc RX0 55 RX0 yX0_minutesTakenIn cX0_minutesTakenIn 5 (some .int) 1 := ⟨ts_mem 833 (by decide +kernel) rfl, ts_mem 835 (by decide +kernel) rfl, ts_mem 21 (by decide +kernel) rfl, ts_mem 50 (by decide +kernel) rfl, ts_mem 836 (by decide +kernel) rfl, by decide +kernel⟩
theorem M_X0_58 : rb_Vc RX0 58 RX0 yX0_owedIn cX0_owedIn 6 (some .int) 2 := ⟨ts_mem 837 (by decide +kernel) rfl, ts_mem 839 (by decide +kernel) rfl, ts_mem 22 (by decide +kernel) rfl, ts_mem 50 (by decide +kernel) rfl, ts_mem 840 (by decide +kernel) rfl, by decide +kernel⟩
theorem M_L_184 : rb_SWc RL 184 yL_recorded cL_recorded 6 (some .int) [(0, 12, 15, 13), (0, 12, 19, 15)] 5 := ⟨ts_mem 841 (by decide +kernel) rfl, ts_mem 842 (by decide +kernel) rfl, ts_mem 42 (by decide +kernel) rfl, ts_mem 843 (by decide +kernel) rfl, by decide +kernel⟩
theorem M_L_92 : rb_Vc RL 92 RX7 yX7_recorded cX7_recorded 5 (some .int) 3 := ⟨ts_mem 844 (by decide +kernel) rfl, ts_mem 845 (by decide +kernel) rfl, ts_mem 846 (by decide +kernel) rfl, ts_mem 43 (by decide +kernel) rfl, ts_mem 847 (by decide +kernel) rfl, by decide +kernel⟩
theorem M_X7_260 : rb_Vc RX7 260 RX0 yX0_minutesThatAre cX0_minutesThatAre 5 (some .int) 1 := ⟨ts_mem 848 (by decide +kernel) rfl, ts_mem 779 (by decide +kernel) rfl, ts_mem 780 (by decide +kernel) rfl, ts_mem 50 (by decide +kernel) rfl, ts_mem 781 (by decide +kernel) rfl, by decide +kernel⟩
theorem M_L_187 : rb_SWc RL 187 yL_pass cL_pass 4 (some .int) [(0, 9, 12, 15), (0, 9, 15, 25)] 3 := ⟨ts_mem 849 (by decide +kernel) rfl, ts_mem 850 (by decide +kernel) rfl, ts_mem 42 (by decide +kernel) rfl, ts_mem 851 (by decide +kernel) rfl, by decide +kernel⟩
theorem M_L_95 : rb_Vc RL 95 RX7 yX7_pass cX7_pass 3 (some .int) 1 := ⟨ts_mem 852 (by decide +kernel) rfl, ts_mem 853 (by decide +kernel) rfl, ts_mem 854 (by decide +kernel) rfl, ts_mem 43 (by decide +kernel) rfl, ts_mem 855 (by decide +kernel) rfl, by decide +kernel⟩
theorem M_X7_266 : rb_Vc RX7 266 RX7 yX7_beginHours cX7_beginHours 5 none 2 := ⟨ts_mem 858 (by decide +kernel) rfl, ts_mem 860 (by decide +kernel) rfl, ts_mem 23 (by decide +kernel) rfl, ts_mem 43 (by decide +kernel) rfl, ts_mem 861 (by decide +kernel) rfl, by decide +kernel⟩
theorem M_X7_305 : rb_Sc RX7 305 yJ9_min_7cf53 cJ9_min_7cf53 2 (some .int) 2 := ⟨ts_mem 862 (by decide +kernel) rfl, ts_mem 461 (by decide +kernel) rfl, ts_mem 62 (by decide +kernel) rfl, ts_mem 462 (by decide +kernel) rfl, by decide +kernel⟩
theorem M_X7_311 : rb_Vc RX7 311 RX7 yX7_beginHour cX7_beginHour 4 none 1 := ⟨ts_mem 863 (by decide +kernel) rfl, ts_mem 865 (by decide +kernel) rfl, ts_mem 24 (by decide +kernel) rfl, ts_mem 43 (by decide +kernel) rfl, ts_mem 866 (by decide +kernel) rfl, by decide +kernel⟩
theorem M_X7_314 : rb_Vc RX7 314 RX2 yX2_takeOutUpTo cX2_takeOutUpTo 3 none 1 := ⟨ts_mem 867 (by decide +kernel) rfl, ts_mem 868 (by decide +kernel) rfl, ts_mem 869 (by decide +kernel) rfl, ts_mem 48 (by decide +kernel) rfl, ts_mem 870 (by decide +kernel) rfl, by decide +kernel⟩
theorem M_X7_270 : rb_Vc RX7 270 RX7 yX7_beginMonth cX7_beginMonth 2 none 0 := ⟨ts_mem 872 (by decide +kernel) rfl, ts_mem 874 (by decide +kernel) rfl, ts_mem 25 (by decide +kernel) rfl, ts_mem 43 (by decide +kernel) rfl, ts_mem 875 (by decide +kernel) rfl, by decide +kernel⟩
theorem M_L_101 : rb_Ic RL 101 yX8_init cX8_init 2 0 := ⟨ts_mem 878 (by decide +kernel) rfl, ts_mem 879 (by decide +kernel) rfl, ts_mem 51 (by decide +kernel) rfl, ts_mem 880 (by decide +kernel) rfl, rfl, by decide +kernel⟩
theorem M_X8_1 : Cond.methodLink RX8 1 objectInit ∈ TS := ts_mem 881 (by decide +kernel) rfl
theorem M_L_108 : rb_Vc RL 108 RX8 yX8_thrown cX8_thrown 1 (some .int) 0 := ⟨ts_mem 1001 (by decide +kernel) rfl, ts_mem 1002 (by decide +kernel) rfl, ts_mem 1003 (by decide +kernel) rfl, ts_mem 51 (by decide +kernel) rfl, ts_mem 1004 (by decide +kernel) rfl, by decide +kernel⟩
theorem M_L_107 : rb_Vc RL 107 RX8 yX8_reach cX8_reach 5 (some .int) 2 := ⟨ts_mem 1005 (by decide +kernel) rfl, ts_mem 1006 (by decide +kernel) rfl, ts_mem 1007 (by decide +kernel) rfl, ts_mem 51 (by decide +kernel) rfl, ts_mem 1008 (by decide +kernel) rfl, by decide +kernel⟩
theorem M_X8_121 : rb_Sc RX8 121 yX8_isPlace cX8_isPlace 1 (some .boolean) 1 := ⟨ts_mem 1009 (by decide +kernel) rfl, ts_mem 1010 (by decide +kernel) rfl, ts_mem 51 (by decide +kernel) rfl, ts_mem 1011 (by decide +kernel) rfl, by decide +kernel⟩
theorem M_X8_114 : rb_Sc RX8 114 yX8_in cX8_in 3 (some .boolean) 3 := ⟨ts_mem 1012 (by decide +kernel) rfl, ts_mem 1013 (by decide +kernel) rfl, ts_mem 51 (by decide +kernel) rfl, ts_mem 1014 (by decide +kernel) rfl, by decide +kernel⟩
theorem M_X8_125 : rb_Sc RX8 125 yX8_isIn cX8_isIn 2 (some .boolean) 2 := ⟨ts_mem 1015 (by decide +kernel) rfl, ts_mem 1016 (by decide +kernel) rfl, ts_mem 51 (by decide +kernel) rfl, ts_mem 1017 (by decide +kernel) rfl, by decide +kernel⟩
theorem M_L_115 : rb_Vc RL 115 RX8 yX8_dead cX8_dead 5 (some .boolean) 2 := ⟨ts_mem 1018 (by decide +kernel) rfl, ts_mem 1019 (by decide +kernel) rfl, ts_mem 1020 (by decide +kernel) rfl, ts_mem 51 (by decide +kernel) rfl, ts_mem 1021 (by decide +kernel) rfl, by decide +kernel⟩
theorem M_X8_129 : rb_Sc RX8 129 yX8_isNetwork cX8_isNetwork 1 (some .boolean) 1 := ⟨ts_mem 1022 (by decide +kernel) rfl, ts_mem 1023 (by decide +kernel) rfl, ts_mem 51 (by decide +kernel) rfl, ts_mem 1024 (by decide +kernel) rfl, by decide +kernel⟩
theorem M_X8_132 : rb_Vc RX8 132 RX8 yX8_empties cX8_empties 3 none 1 := ⟨ts_mem 1025 (by decide +kernel) rfl, ts_mem 1027 (by decide +kernel) rfl, ts_mem 26 (by decide +kernel) rfl, ts_mem 51 (by decide +kernel) rfl, ts_mem 1028 (by decide +kernel) rfl, by decide +kernel⟩
theorem M_L_119 : rb_Vc RL 119 RX8 yX8_agree cX8_agree 10 (some .int) 7 := ⟨ts_mem 1029 (by decide +kernel) rfl, ts_mem 1030 (by decide +kernel) rfl, ts_mem 1031 (by decide +kernel) rfl, ts_mem 51 (by decide +kernel) rfl, ts_mem 1032 (by decide +kernel) rfl, by decide +kernel⟩
theorem M_L_122 : rb_Vc RL 122 RX8 yX8_steer cX8_steer 4 (some .int) 2 := ⟨ts_mem 1035 (by decide +kernel) rfl, ts_mem 1036 (by decide +kernel) rfl, ts_mem 1037 (by decide +kernel) rfl, ts_mem 51 (by decide +kernel) rfl, ts_mem 1038 (by decide +kernel) rfl, by decide +kernel⟩
theorem M_L_126 : rb_Vc RL 126 RX8 yX8_prices cX8_prices 5 none 4 := ⟨ts_mem 1039 (by decide +kernel) rfl, ts_mem 1040 (by decide +kernel) rfl, ts_mem 1041 (by decide +kernel) rfl, ts_mem 51 (by decide +kernel) rfl, ts_mem 1042 (by decide +kernel) rfl, by decide +kernel⟩
theorem M_L_129 : rb_Vc RL 129 RX8 yX8_lose cX8_lose 4 (some .int) 2 := ⟨ts_mem 1043 (by decide +kernel) rfl, ts_mem 1044 (by decide +kernel) rfl, ts_mem 1045 (by decide +kernel) rfl, ts_mem 51 (by decide +kernel) rfl, ts_mem 1046 (by decide +kernel) rfl, by decide +kernel⟩
theorem M_L_133 : rb_Vc RL 133 RX8 yX8_crash cX8_crash 4 (some .int) 1 := ⟨ts_mem 1047 (by decide +kernel) rfl, ts_mem 1048 (by decide +kernel) rfl, ts_mem 1049 (by decide +kernel) rfl, ts_mem 51 (by decide +kernel) rfl, ts_mem 1050 (by decide +kernel) rfl, by decide +kernel⟩
theorem M_L_137 : rb_Vc RL 137 RX8 yX8_subscriber cX8_subscriber 4 (some .int) 3 := ⟨ts_mem 1051 (by decide +kernel) rfl, ts_mem 1052 (by decide +kernel) rfl, ts_mem 1053 (by decide +kernel) rfl, ts_mem 51 (by decide +kernel) rfl, ts_mem 1054 (by decide +kernel) rfl, by decide +kernel⟩
theorem M_L_140 : rb_Vc RL 140 RX8 yX8_move cX8_move 3 (some .int) 2 := ⟨ts_mem 1055 (by decide +kernel) rfl, ts_mem 1056 (by decide +kernel) rfl, ts_mem 1057 (by decide +kernel) rfl, ts_mem 51 (by decide +kernel) rfl, ts_mem 1058 (by decide +kernel) rfl, by decide +kernel⟩
theorem M_X8_144 : rb_Vc RX8 144 RX8 yX8_isSubscriber cX8_isSubscriber 2 (some .boolean) 1 := ⟨ts_mem 1059 (by decide +kernel) rfl, ts_mem 1061 (by decide +kernel) rfl, ts_mem 27 (by decide +kernel) rfl, ts_mem 51 (by decide +kernel) rfl, ts_mem 1062 (by decide +kernel) rfl, by decide +kernel⟩
theorem M_L_143 : rb_Vc RL 143 RX8 yX8_off cX8_off 3 (some .int) 1 := ⟨ts_mem 1063 (by decide +kernel) rfl, ts_mem 1064 (by decide +kernel) rfl, ts_mem 1065 (by decide +kernel) rfl, ts_mem 51 (by decide +kernel) rfl, ts_mem 1066 (by decide +kernel) rfl, by decide +kernel⟩
theorem M_L_146 : rb_Vc RL 146 RX8 yX8_attach cX8_attach 4 (some .int) 2 := ⟨ts_mem 1067 (by decide +kernel) rfl, ts_mem 1068 (by decide +kernel) rfl, ts_mem 1069 (by decide +kernel) rfl, ts_mem 51 (by decide +kernel) rfl, ts_mem 1070 (by decide +kernel) rfl, by decide +kernel⟩
theorem M_X8_151 : rb_Vc RX8 151 RX8 yX8_reason cX8_reason 3 (some .int) 2 := ⟨ts_mem 1071 (by decide +kernel) rfl, ts_mem 1073 (by decide +kernel) rfl, ts_mem 28 (by decide +kernel) rfl, ts_mem 51 (by decide +kernel) rfl, ts_mem 1074 (by decide +kernel) rfl, by decide +kernel⟩
theorem M_X8_147 : rb_Vc RX8 147 RX8 yX8_agreement cX8_agreement 6 (some .int) 2 := ⟨ts_mem 1075 (by decide +kernel) rfl, ts_mem 1077 (by decide +kernel) rfl, ts_mem 29 (by decide +kernel) rfl, ts_mem 51 (by decide +kernel) rfl, ts_mem 1078 (by decide +kernel) rfl, by decide +kernel⟩
theorem M_X8_154 : rb_Vc RX8 154 RX8 yX8_isSteered cX8_isSteered 4 (some .boolean) 2 := ⟨ts_mem 1079 (by decide +kernel) rfl, ts_mem 1081 (by decide +kernel) rfl, ts_mem 30 (by decide +kernel) rfl, ts_mem 51 (by decide +kernel) rfl, ts_mem 1082 (by decide +kernel) rfl, by decide +kernel⟩
theorem M_X8_157 : rb_Vc RX8 157 RX8 yX8_makesContact cX8_makesContact 3 none 1 := ⟨ts_mem 1083 (by decide +kernel) rfl, ts_mem 1085 (by decide +kernel) rfl, ts_mem 31 (by decide +kernel) rfl, ts_mem 51 (by decide +kernel) rfl, ts_mem 1086 (by decide +kernel) rfl, by decide +kernel⟩
theorem M_L_149 : rb_Vc RL 149 RX8 yX8_emergency cX8_emergency 4 (some .int) 1 := ⟨ts_mem 1087 (by decide +kernel) rfl, ts_mem 1088 (by decide +kernel) rfl, ts_mem 1089 (by decide +kernel) rfl, ts_mem 51 (by decide +kernel) rfl, ts_mem 1090 (by decide +kernel) rfl, by decide +kernel⟩
theorem M_L_152 : rb_Vc RL 152 RX8 yX8_where cX8_where 2 (some .int) 1 := ⟨ts_mem 1091 (by decide +kernel) rfl, ts_mem 1092 (by decide +kernel) rfl, ts_mem 1093 (by decide +kernel) rfl, ts_mem 51 (by decide +kernel) rfl, ts_mem 1094 (by decide +kernel) rfl, by decide +kernel⟩
theorem M_L_155 : rb_Vc RL 155 RX8 yX8_contact cX8_contact 3 (some .int) 2 := ⟨ts_mem 1095 (by decide +kernel) rfl, ts_mem 1096 (by decide +kernel) rfl, ts_mem 1097 (by decide +kernel) rfl, ts_mem 51 (by decide +kernel) rfl, ts_mem 1098 (by decide +kernel) rfl, by decide +kernel⟩
theorem M_L_158 : rb_Vc RL 158 RX8 yX8_agrees cX8_agrees 5 (some .boolean) 1 := ⟨ts_mem 1099 (by decide +kernel) rfl, ts_mem 1100 (by decide +kernel) rfl, ts_mem 1101 (by decide +kernel) rfl, ts_mem 51 (by decide +kernel) rfl, ts_mem 1102 (by decide +kernel) rfl, by decide +kernel⟩
theorem M_L_161 : rb_Vc RL 161 RX8 yX8_subscriberIs cX8_subscriberIs 3 (some .int) 2 := ⟨ts_mem 1103 (by decide +kernel) rfl, ts_mem 1104 (by decide +kernel) rfl, ts_mem 1105 (by decide +kernel) rfl, ts_mem 51 (by decide +kernel) rfl, ts_mem 1106 (by decide +kernel) rfl, by decide +kernel⟩
theorem M_X8_161 : rb_Vc RX8 161 RX8 yX8_abroadOf cX8_abroadOf 2 (some .int) 1 := ⟨ts_mem 1107 (by decide +kernel) rfl, ts_mem 1109 (by decide +kernel) rfl, ts_mem 32 (by decide +kernel) rfl, ts_mem 51 (by decide +kernel) rfl, ts_mem 1110 (by decide +kernel) rfl, by decide +kernel⟩
theorem M_L_165 : rb_Vc RL 165 RX8 yX8_cap cX8_cap 4 none 3 := ⟨ts_mem 1112 (by decide +kernel) rfl, ts_mem 1113 (by decide +kernel) rfl, ts_mem 1114 (by decide +kernel) rfl, ts_mem 51 (by decide +kernel) rfl, ts_mem 1115 (by decide +kernel) rfl, by decide +kernel⟩
theorem M_L_168 : rb_Vc RL 168 RX8 yX8_call cX8_call 9 (some .int) 3 := ⟨ts_mem 1117 (by decide +kernel) rfl, ts_mem 1118 (by decide +kernel) rfl, ts_mem 1119 (by decide +kernel) rfl, ts_mem 51 (by decide +kernel) rfl, ts_mem 1120 (by decide +kernel) rfl, by decide +kernel⟩
theorem M_X8_176 : rb_Vc RX8 176 RX8 yX8_nobody cX8_nobody 3 (some .int) 2 := ⟨ts_mem 1122 (by decide +kernel) rfl, ts_mem 1124 (by decide +kernel) rfl, ts_mem 33 (by decide +kernel) rfl, ts_mem 51 (by decide +kernel) rfl, ts_mem 1125 (by decide +kernel) rfl, by decide +kernel⟩
theorem M_X8_166 : rb_Vc RX8 166 RX8 yX8_isAbroad cX8_isAbroad 2 (some .boolean) 1 := ⟨ts_mem 1126 (by decide +kernel) rfl, ts_mem 1128 (by decide +kernel) rfl, ts_mem 34 (by decide +kernel) rfl, ts_mem 51 (by decide +kernel) rfl, ts_mem 1129 (by decide +kernel) rfl, by decide +kernel⟩
theorem M_X8_179 : rb_Vc RX8 179 RX8 yX8_isAbove cX8_isAbove 3 (some .boolean) 2 := ⟨ts_mem 1130 (by decide +kernel) rfl, ts_mem 1132 (by decide +kernel) rfl, ts_mem 35 (by decide +kernel) rfl, ts_mem 51 (by decide +kernel) rfl, ts_mem 1133 (by decide +kernel) rfl, by decide +kernel⟩
theorem M_X8_182 : rb_Vc RX8 182 RX8 yX8_pays cX8_pays 3 none 2 := ⟨ts_mem 1134 (by decide +kernel) rfl, ts_mem 1136 (by decide +kernel) rfl, ts_mem 36 (by decide +kernel) rfl, ts_mem 51 (by decide +kernel) rfl, ts_mem 1137 (by decide +kernel) rfl, by decide +kernel⟩
theorem M_X8_186 : rb_Vc RX8 186 RX8 yX8_records cX8_records 3 none 2 := ⟨ts_mem 1138 (by decide +kernel) rfl, ts_mem 1140 (by decide +kernel) rfl, ts_mem 37 (by decide +kernel) rfl, ts_mem 51 (by decide +kernel) rfl, ts_mem 1141 (by decide +kernel) rfl, by decide +kernel⟩
theorem M_L_171 : rb_Vc RL 171 RX8 yX8_paidAnew cX8_paidAnew 2 (some .int) 1 := ⟨ts_mem 1142 (by decide +kernel) rfl, ts_mem 1143 (by decide +kernel) rfl, ts_mem 1144 (by decide +kernel) rfl, ts_mem 51 (by decide +kernel) rfl, ts_mem 1145 (by decide +kernel) rfl, by decide +kernel⟩
theorem M_L_174 : rb_Vc RL 174 RX8 yX8_file cX8_file 5 (some .int) 2 := ⟨ts_mem 1146 (by decide +kernel) rfl, ts_mem 1147 (by decide +kernel) rfl, ts_mem 1148 (by decide +kernel) rfl, ts_mem 51 (by decide +kernel) rfl, ts_mem 1149 (by decide +kernel) rfl, by decide +kernel⟩
theorem M_X8_191 : rb_Vc RX8 191 RX8 yX8_minutesOf cX8_minutesOf 6 (some .int) 3 := ⟨ts_mem 1150 (by decide +kernel) rfl, ts_mem 1152 (by decide +kernel) rfl, ts_mem 38 (by decide +kernel) rfl, ts_mem 51 (by decide +kernel) rfl, ts_mem 1153 (by decide +kernel) rfl, by decide +kernel⟩
theorem M_X8_188 : rb_Vc RX8 188 RX8 yX8_isOf cX8_isOf 4 (some .boolean) 3 := ⟨ts_mem 1154 (by decide +kernel) rfl, ts_mem 1156 (by decide +kernel) rfl, ts_mem 39 (by decide +kernel) rfl, ts_mem 51 (by decide +kernel) rfl, ts_mem 1157 (by decide +kernel) rfl, by decide +kernel⟩
theorem M_L_177 : rb_Vc RL 177 RX8 yX8_deliver cX8_deliver 9 (some .int) 3 := ⟨ts_mem 1158 (by decide +kernel) rfl, ts_mem 1159 (by decide +kernel) rfl, ts_mem 1160 (by decide +kernel) rfl, ts_mem 51 (by decide +kernel) rfl, ts_mem 1161 (by decide +kernel) rfl, by decide +kernel⟩
theorem M_L_180 : rb_Vc RL 180 RX8 yX8_owes cX8_owes 6 (some .int) 2 := ⟨ts_mem 1162 (by decide +kernel) rfl, ts_mem 1163 (by decide +kernel) rfl, ts_mem 1164 (by decide +kernel) rfl, ts_mem 51 (by decide +kernel) rfl, ts_mem 1165 (by decide +kernel) rfl, by decide +kernel⟩
theorem M_X8_195 : rb_Vc RX8 195 RX8 yX8_priceOf cX8_priceOf 3 (some .int) 2 := ⟨ts_mem 1166 (by decide +kernel) rfl, ts_mem 1168 (by decide +kernel) rfl, ts_mem 40 (by decide +kernel) rfl, ts_mem 51 (by decide +kernel) rfl, ts_mem 1169 (by decide +kernel) rfl, by decide +kernel⟩
theorem M_L_183 : rb_Vc RL 183 RX8 yX8_owesAnew cX8_owesAnew 3 (some .int) 2 := ⟨ts_mem 1170 (by decide +kernel) rfl, ts_mem 1171 (by decide +kernel) rfl, ts_mem 1172 (by decide +kernel) rfl, ts_mem 51 (by decide +kernel) rfl, ts_mem 1173 (by decide +kernel) rfl, by decide +kernel⟩
theorem M_X8_198 : rb_Vc RX8 198 RX8 yX8_owes cX8_owes 6 (some .int) 2 := ⟨ts_mem 1174 (by decide +kernel) rfl, ts_mem 1163 (by decide +kernel) rfl, ts_mem 1164 (by decide +kernel) rfl, ts_mem 51 (by decide +kernel) rfl, ts_mem 1165 (by decide +kernel) rfl, by decide +kernel⟩
theorem M_L_186 : rb_Vc RL 186 RX8 yX8_recorded cX8_recorded 4 (some .int) 3 := ⟨ts_mem 1175 (by decide +kernel) rfl, ts_mem 1176 (by decide +kernel) rfl, ts_mem 1177 (by decide +kernel) rfl, ts_mem 51 (by decide +kernel) rfl, ts_mem 1178 (by decide +kernel) rfl, by decide +kernel⟩
theorem M_L_189 : rb_Vc RL 189 RX8 yX8_pass cX8_pass 3 (some .int) 1 := ⟨ts_mem 1179 (by decide +kernel) rfl, ts_mem 1180 (by decide +kernel) rfl, ts_mem 1181 (by decide +kernel) rfl, ts_mem 51 (by decide +kernel) rfl, ts_mem 1182 (by decide +kernel) rfl, by decide +kernel⟩
theorem M_X8_202 : rb_Vc RX8 202 RX8 yX8_begins cX8_begins 2 none 0 := ⟨ts_mem 1184 (by decide +kernel) rfl, ts_mem 1186 (by decide +kernel) rfl, ts_mem 41 (by decide +kernel) rfl, ts_mem 51 (by decide +kernel) rfl, ts_mem 1187 (by decide +kernel) rfl, by decide +kernel⟩
theorem ts_oi : Cond.instanceMethod objectInit ∈ TS := ts_mem 73 (by decide +kernel) rfl
theorem ts_oc : Cond.code objectInit ⟨#[0xb1]⟩ 1 none ∈ TS := ts_mem 74 (by decide +kernel) rfl
theorem NI_X5 : Cond.instanceMethod yX5_init ∈ TS ∧ Cond.initialized yX5_init.cls ∈ TS ∧ Cond.code yX5_init cX5_init 1 none ∈ TS := ⟨ts_mem 108 (by decide +kernel) rfl, ts_mem 47 (by decide +kernel) rfl, ts_mem 109 (by decide +kernel) rfl⟩
theorem NI_X0 : Cond.instanceMethod yX0_init ∈ TS ∧ Cond.initialized yX0_init.cls ∈ TS ∧ Cond.code yX0_init cX0_init 1 none ∈ TS := ⟨ts_mem 153 (by decide +kernel) rfl, ts_mem 50 (by decide +kernel) rfl, ts_mem 154 (by decide +kernel) rfl⟩
theorem N_X7_94 : Cond.constant RX7 94 (999999) ∈ TS := ts_mem 359 (by decide +kernel) rfl
theorem N_X7_95 : Cond.constant RX7 95 (1000000) ∈ TS := ts_mem 360 (by decide +kernel) rfl
theorem N_J8_200 : Cond.constant RJ8 200 (2147483639) ∈ TS := ts_mem 430 (by decide +kernel) rfl
theorem N_X6_44 : Cond.constantLong RX6 44 (100) ∈ TS := ts_mem 663 (by decide +kernel) rfl
theorem N_X6_46 : Cond.constantLong RX6 46 (80) ∈ TS := ts_mem 664 (by decide +kernel) rfl
theorem N_X7_199 : Cond.constant RX7 199 (99999) ∈ TS := ts_mem 673 (by decide +kernel) rfl
theorem N_X7_203 : Cond.constant RX7 203 (36000) ∈ TS := ts_mem 681 (by decide +kernel) rfl
theorem N_X0_51 : Cond.constant RX0 51 (43200) ∈ TS := ts_mem 802 (by decide +kernel) rfl
theorem N_X7_263 : Cond.constant RX7 263 (50000) ∈ TS := ts_mem 856 (by decide +kernel) rfl
theorem N_X7_269 : Cond.constant RX7 269 (43200) ∈ TS := ts_mem 871 (by decide +kernel) rfl
theorem N_X8_136 : Cond.constant RX8 136 (999999) ∈ TS := ts_mem 1033 (by decide +kernel) rfl
theorem N_X8_137 : Cond.constant RX8 137 (1000000) ∈ TS := ts_mem 1034 (by decide +kernel) rfl
theorem N_X8_160 : Cond.constant RX8 160 (43200) ∈ TS := ts_mem 1111 (by decide +kernel) rfl
theorem N_X8_165 : Cond.constant RX8 165 (99999) ∈ TS := ts_mem 1116 (by decide +kernel) rfl
theorem N_X8_172 : Cond.constant RX8 172 (36000) ∈ TS := ts_mem 1121 (by decide +kernel) rfl
theorem N_X8_201 : Cond.constant RX8 201 (50000) ∈ TS := ts_mem 1183 (by decide +kernel) rfl
theorem ts_arr_int : Cond.arrayClass .int ∈ TS := ts_mem 105 (by decide +kernel) rfl
theorem ts_arr_boolean : Cond.arrayClass .boolean ∈ TS := ts_mem 1000 (by decide +kernel) rfl
theorem ts_arr_long : Cond.arrayClass .long ∈ TS := ts_mem 1188 (by decide +kernel) rfl
end
section
/-! rows that the JDK's methods want -/
theorem Thr_io : rb_Thr 243 247 "java/lang/IndexOutOfBoundsException" := ⟨L_X7_243, ts_mem 55 (by decide +kernel) rfl, by decide +kernel, fun w hw => List.mem_filter.mpr ⟨(show ∀ w ∈ (vx_atS RX7 247 "java/lang/IndexOutOfBoundsException" rb_sup).filter goodWord, w ∈ lw_tbl by decide +kernel) w hw, (List.mem_filter.mp hw).2⟩, by decide +kernel, by decide +kernel, by decide +kernel⟩
theorem Thr_ia : rb_Thr 194 198 "java/lang/IllegalArgumentException" := ⟨L_X7_194, ts_mem 56 (by decide +kernel) rfl, by decide +kernel, fun w hw => List.mem_filter.mpr ⟨(show ∀ w ∈ (vx_atS RX7 198 "java/lang/IllegalArgumentException" rb_sup).filter goodWord, w ∈ lw_tbl by decide +kernel) w hw, (List.mem_filter.mp hw).2⟩, by decide +kernel, by decide +kernel, by decide +kernel⟩
theorem Thr_is : rb_Thr 145 149 "java/lang/IllegalStateException" := ⟨L_X7_145, ts_mem 59 (by decide +kernel) rfl, by decide +kernel, fun w hw => List.mem_filter.mpr ⟨(show ∀ w ∈ (vx_atS RX7 149 "java/lang/IllegalStateException" rb_sup).filter goodWord, w ∈ lw_tbl by decide +kernel) w hw, (List.mem_filter.mp hw).2⟩, by decide +kernel, by decide +kernel, by decide +kernel⟩
/-- a whole row of references -/
def sQ (G : rb_G) (r : rb_R) (f : Nat → Option rb_R) : rb_G := (gD G, gN G, gI G, fun x k => if x = r then f k else gP G x k, gJ G)
section
variable {Φ : rb_F} {own : String} {cc : ByteArray} {nL fr lo mc ms cells slots pc : Nat} {Lv Lv' : List (Option rb_V)} {st rest As : List rb_V} {G : rb_G}
theorem rb_e_sQ {ad : rb_R → Nat} {cA : Nat → ClassId} {G : rb_G} {r : rb_R} {f : Nat → Option rb_R} {r' : rb_R} (h : r' ≠ r) : rb_e ad cA (sQ G r f) r' = rb_e ad cA G r' := by
  have e : gP (sQ G r f) r' = gP G r' := by funext j; show (if r' = r then f j else gP G r' j) = _; rw [if_neg h]
  unfold rb_e
  rw [e]
  rfl
theorem rb_acmp_ne (C : rb_C Φ own cc nL fr lo mc ms) {r r' : rb_R} {off : Int} (hd : decode cc pc = .ok (.if_acmp .ne off, 3)) {tgt : Nat} (ht : (pc : Int) + off = (tgt : Int)) (h : r = r') (kk : rb_W Φ cells slots (pc + 3) Lv st G) : rb_W Φ cells slots pc Lv (rbR r' :: rbR r :: st) G := by
  subst h
  obtain ⟨p, l, e, R, s, m, args, below, meth, c, Q, X, A, ad0, G0⟩ := Φ
  intro ad H locs ls hP hn hS hl ho hv
  exact lv_acmp_ne (rx := some (ad r)) (ry := some (ad r)) C.1 C.2.1 hd ht (fun q => absurd rfl q) (fun _ => kk ad H locs ls hP hn hS hl ho.tl.tl hv)
theorem rb_acmp_eqY (C : rb_C Φ own cc nL fr lo mc ms) {r r' : rb_R} {off : Int} (tgt : Nat) (hd : decode cc pc = .ok (.if_acmp .eq off, 3)) (ht : (pc : Int) + off = (tgt : Int)) (h : r = r') (kk : rb_W Φ cells slots tgt Lv st G) : rb_W Φ cells slots pc Lv (rbR r' :: rbR r :: st) G := by
  subst h
  obtain ⟨p, l, e, R, s, m, args, below, meth, c, Q, X, A, ad0, G0⟩ := Φ
  intro ad H locs ls hP hn hS hl ho hv
  exact lv_acmp_eq (rx := some (ad r)) (ry := some (ad r)) C.1 C.2.1 hd ht (fun _ => kk ad H locs ls hP hn hS hl ho.tl.tl hv) (fun q => absurd rfl q)
theorem rb_ldcM (C : rb_C Φ own cc nL fr lo mc ms) {idx : Nat} (hw : Cond.classLink own idx "[Ljava/lang/Object;" ∈ TS) (hd : decode cc pc = .ok (.ldc idx, 2)) (hD : gD G (21, 0, 0)) (kk : rb_W Φ cells slots (pc + 2) Lv (rbR (21, 0, 0) :: st) G) : rb_W Φ cells slots pc Lv st G := by
  obtain ⟨p, l, e, R, s, m, args, below, meth, c, Q, X, A, ad0, G0⟩ := Φ
  intro ad H locs ls hP hn hS hl ho hv
  have h := kk ad H locs ls hP hn hS hl (ho.cons (rb_ok_r hD)) hv
  have e1 : (rbR (21, 0, 0) :: st).map (rb_c ad) = Value.ref X.2.2.2.2 :: st.map (rb_c ad) := by
    show Value.ref (ad (21, 0, 0)) :: _ = _
    rw [hP.2.2.2.2.2]
  rw [e1] at h
  exact va_ldcM C.1 C.2.1 C.2.2.2.1 (C.2.2.2.2.1 _ hw) C.2.2.2.2.2.2.2.2.1.2.2.2.2.2.2.2.1 hd h
theorem rb_getC (C : rb_C Φ own cc nL fr lo mc ms) {r : rb_R} {idx : Nat} (hw : Cond.methodLink own idx ⟨"java/lang/Object", "getClass", "()Ljava/lang/Class;"⟩ ∈ TS) (hw2 : Cond.selects "[Ljava/lang/Object;" ⟨"java/lang/Object", "getClass", "()Ljava/lang/Class;"⟩ ⟨"java/lang/Object", "getClass", "()Ljava/lang/Class;"⟩ ∈ TS)
    (hw3 : Cond.instanceMethod ⟨"java/lang/Object", "getClass", "()Ljava/lang/Class;"⟩ ∈ TS) (hw4 : Cond.native ⟨"java/lang/Object", "getClass", "()Ljava/lang/Class;"⟩ ∈ TS) (hd : decode cc pc = .ok (.invokevirtual idx, 3)) (hk : rb_k r.1 = 13) (hD : gD G (21, 0, 0)) (hlen : Lv.length = nL) (hfr : 1 ≤ fr) (hcat : (st.map rb_cat).sum + 14 ≤ lo) (kk : rb_W Φ cells slots (pc + 3) Lv (rbR (21, 0, 0) :: st) G) : rb_W Φ cells slots pc Lv (rbR r :: st) G := by
  obtain ⟨p, l, e, R, s, m, args, below, meth, c, Q, X, A, ad0, G0⟩ := Φ
  intro ad H locs ls hP hn hS hl ho hv
  have hR := C.2.2.2.2.2.2.1
  subst hR
  have hK1 := C.2.2.2.2.2.2.2.2.1
  have h := kk ad H locs ls hP hn hS hl (ho.tl.cons (rb_ok_r hD)) hv
  have e1 : (rbR (21, 0, 0) :: st).map (rb_c ad) = Value.ref X.2.2.2.2 :: st.map (rb_c ad) := by
    show Value.ref (ad (21, 0, 0)) :: _ = _
    rw [hP.2.2.2.2.2]
  rw [e1] at h
  obtain ⟨-, hat⟩ := hP.1 r (ho.hd r rfl) (by rw [hk]; decide)
  rw [rb_eP hk (by decide)] at hat
  refine va_getC C.1 C.2.1 (by rw [C.2.2.1, hl.1, hlen]) C.2.2.2.1 (C.2.2.2.2.1 _ hw) hK1.2.2.2.2.2.2.2.2.1.use (C.2.2.2.2.1 _ hw2) (C.2.2.2.2.1 _ hw3) (C.2.2.2.2.1 _ hw4) hK1.2.2.2.2.2.2.2.1 ⟨_, hat, rfl, va_nmO (hK1.1.2 3 _ rfl).2 (by decide +kernel)⟩ hfr ?_ hd h
  show ((st.map (rb_c ad)).map fun v => v.category).sum + 14 ≤ lo
  rw [List.map_map, show ((fun v => Value.category v) ∘ rb_c ad) = rb_cat from funext fun v => rb_cat_c ad v]
  exact hcat
/-- an object of class ci may lie in a row of Object -/
theorem rb_asg {X : rb_X} {s : State} (hK1 : rb_K1 X s) {ci : Nat} {r' : vw_C} (hr' : vwCl[ci]? = some r') (hf : ci = 2 ∨ ci = 7 ∨ ci = 4 ∨ ci = 5) {comp : ClassId} (k3 : s.vm.findClass "java/lang/Object" = some comp) : s.vm.assignable (X.1.1 ci) comp = true := by
  have hcls := (hK1.1.1 ci r' hr').2
  have cst : ∀ nm : String, (nm, "java/lang/Object") ∈ rb_cst → s.vm.findClass nm = some (X.1.1 ci) → s.vm.assignable (X.1.1 ci) comp = true := by
    intro nm hm f1
    obtain ⟨c0, t0, e1, e2, e3⟩ := Cond.castable_spec (va_Nw.use (A := #[]) rfl (hK1.2.2.1 _ hm))
    cases Option.some.inj (e1.symm.trans f1)
    cases Option.some.inj (e2.symm.trans k3)
    exact e3
  rcases hf with rfl | rfl | rfl | rfl
  · cases Option.some.inj (hr'.symm.trans (rfl : vwCl[2]? = some (RX1, TX1, 7)))
    exact cst RX1 (by decide +kernel) hcls.1
  · cases Option.some.inj (hr'.symm.trans (rfl : vwCl[7]? = some (RX6, TX6, 11)))
    exact cst RX6 (by decide +kernel) hcls.1
  · cases Option.some.inj (hr'.symm.trans (rfl : vwCl[4]? = some (RX3, TX3, 4)))
    exact cst RX3 (by decide +kernel) hcls.1
  · cases Option.some.inj (hr'.symm.trans (rfl : vwCl[5]? = some (RX4, TX4, 5)))
    exact cst RX4 (by decide +kernel) hcls.1
/-- System.arraycopy from the first of two rows of Object, from place 0 to place 0 -/
theorem rb_copyq (C : rb_C Φ own cc nL fr lo mc ms) {r0 r1 : rb_R} {n : Int32} {idx N : Nat} (w1 : Cond.methodLink own idx arraycopyName ∈ TS) (w2 : Cond.native arraycopyName ∈ TS) (w3 : Cond.static arraycopyName ∈ TS) (w4 : Cond.initialized "java/lang/System" ∈ TS) (hd : decode cc pc = .ok (.invokestatic idx, 3)) (hk0 : rb_k r0.1 = 13) (hk1 : rb_k r1.1 = 13)
    (h3 : ¬ n < 0) (hN : n.toNatClampNeg = N) (h4 : N ≤ gN G r0) (h5 : N ≤ gN G r1) (hel : ∀ i, i < N → ∀ y, gP G r0 i = some y → rb_k y.1 = 2 ∨ rb_k y.1 = 7 ∨ rb_k y.1 = 4 ∨ rb_k y.1 = 5) (hlen : Lv.length = nL) (hfr : 1 ≤ fr) (hcat : (st.map rb_cat).sum + 18 ≤ lo)
    (kk : rb_W Φ cells slots (pc + 3) Lv st (sQ G r1 (fun j => if j < N then gP G r0 j else gP G r1 j))) : rb_W Φ cells slots pc Lv (rbI n :: rbI 0 :: rbR r1 :: rbI 0 :: rbR r0 :: st) G := by
  obtain ⟨p, l, e, R, s, m, args, below, meth, c, Q, X, A, ad0, G0⟩ := Φ
  intro ad H locs ls hP hn hS hl ho hv T hT XS
  have hR := C.2.2.2.2.2.2.1
  subst hR
  subst hN
  have hK1 := C.2.2.2.2.2.2.2.2.1
  have nn : n.toInt = (n.toNatClampNeg : Int) := by
    have hz0 : (0 : Int) ≤ n.toInt := by
      have := Int32.not_lt.mp h3
      simpa using Int32.le_iff_toInt_le.mp this
    show n.toInt = ((n.toInt.toNat : Nat) : Int)
    omega
  have hr1 : gD G r1 := ho.tl.tl.hd r1 rfl
  have hr0 : gD G r0 := ho.tl.tl.tl.tl.hd r0 rfl
  have hk120 : rb_k r1.1 < 20 := by rw [hk1]; decide
  obtain ⟨-, hat0⟩ := hP.1 r0 hr0 (by rw [hk0]; decide)
  obtain ⟨hA1, hat1⟩ := hP.1 r1 hr1 hk120
  rw [rb_eP hk0 (by decide)] at hat0
  rw [rb_eP hk1 (by decide)] at hat1
  have hc0 : H[ad r0]? = some (vp_cell (X.2.1 13) (gN G r0, .inr (.inr (.inr (.inr (fun j => (gP G r0 j).map ad)))))) := hat0
  have hc1 : H[ad r1]? = some (vp_cell (X.2.1 13) (gN G r1, .inr (.inr (.inr (.inr (fun j => (gP G r1 j).map ad)))))) := hat1
  obtain ⟨-, k0, hk0', cm0, hkk0⟩ := (hK1.1.2 3 _ rfl).1 (gN G r0) (fun j => va_rf ((gP G r0 j).map ad))
  obtain ⟨-, k1, hk1', cm1, hkk1⟩ := (hK1.1.2 3 _ rfl).1 (gN G r1) (fun j => va_rf ((gP G r1 j).map ad))
  obtain ⟨vm', X', step⟩ := XS.arraycopy C.1 C.2.2.2.1 (C.2.2.2.2.1 _ w1) (C.2.2.2.2.1 _ w2) (C.2.2.2.2.1 _ w3) (C.2.2.2.2.1 _ w4) (src := ad r0) (dst := ad r1) (cs := vp_cell (X.2.1 13) (gN G r0, .inr (.inr (.inr (.inr (fun j => (gP G r0 j).map ad)))))) (cd := vp_cell (X.2.1 13) (gN G r1, .inr (.inr (.inr (.inr (fun j => (gP G r1 j).map ad)))))) (srcPos := 0) (destPos := 0) (n := n) (by rw [hT]; exact hc0) (by rw [hT]; exact hc1)
    (fun _ h => by cases h) (fun _ h => by cases h) (fun h => by cases h) (fun h => by cases h) hk0' hk1' hkk0 hkk1 rfl (by decide) (by decide) h3
    (by rw [nn]; show ¬ (0 : Int32).toInt + _ > ((arrV (X.2.1 13) (gN G r0) (fun j => va_rf ((gP G r0 j).map ad))).slots.size : Int); rw [arrV_size, show (0 : Int32).toInt = 0 from rfl]; omega)
    (by rw [nn]; show ¬ (0 : Int32).toInt + _ > ((arrV (X.2.1 13) (gN G r1) (fun j => va_rf ((gP G r1 j).map ad))).slots.size : Int); rw [arrV_size, show (0 : Int32).toInt = 0 from rfl]; omega)
    (fun vm₁ hal i hi => by
      have e : (vp_cell (X.2.1 13) (gN G r0, .inr (.inr (.inr (.inr (fun j => (gP G r0 j).map ad)))))).slots.getD ((0 : Int32).toNatClampNeg + i) .null = va_rf ((gP G r0 i).map ad) := by
        show (arrV (X.2.1 13) (gN G r0) (fun j => va_rf ((gP G r0 j).map ad))).slots.getD _ _ = _
        rw [show (0 : Int32).toNatClampNeg = 0 from rfl, Nat.zero_add, Array.getD_eq_getD_getElem?, arrV_read _ _ (by omega)]
        rfl
      rw [e]
      cases hy : gP G r0 i with
      | none => exact ⟨rfl, trivial⟩
      | some y =>
        have hyk := hel i hi y hy
        have hyD := hP.2.2.1 r0 i y hr0 hy
        obtain ⟨-, haty⟩ := hP.1 y hyD (by omega)
        rw [rb_eo (ci := rb_k y.1) rfl (by omega)] at haty
        obtain ⟨r', hr', cellV, g1, g2, g3, -⟩ := haty
        obtain ⟨kA, comp, r1', r2', r3', -⟩ := (hK1.1.2 3 _ rfl).2
        cases hk1'.symm.trans r1'
        cases hkk1.symm.trans r2'
        have hcls := (hK1.1.1 _ r' hr').2
        obtain ⟨kC, hkC, -⟩ := hcls.2
        obtain ⟨kE, hkE, -⟩ := Vm.findClass_spec r3'
        obtain ⟨kC', hkC', -⟩ := hal.2.2 _ _ hkC
        obtain ⟨kE', hkE', -⟩ := hal.2.2 _ _ hkE
        refine ⟨rfl, cellV, (show T.heap[ad y]? = some cellV by rw [hT]; exact g1), (fun q h => by rw [g3] at h; cases h), ⟨kC', by rw [g2]; exact hkC'⟩, ?_, ?_⟩
        · exact ⟨kE', hkE'⟩
        · show vm₁.assignable _ _ = true
          rw [hal.assignable, g2]
          exact rb_asg hK1 hr' hyk r3')
    (g := F0 m pc ls ((rbI n :: rbI 0 :: rbR r1 :: rbI 0 :: rbR r0 :: st).map (rb_c ad))) rfl (by show ls.size = _; rw [C.2.2.1, hl.1, hlen]) (rest := st.map (rb_c ad)) rfl (by rw [C.2.1]; exact hd) hfr (by
      show 2 * 0 + ((st.map (rb_c ad)).map fun v => v.category).sum + (nativeFrameWords "java/lang/System" "arraycopy" 5 + 11) ≤ lo
      rw [List.map_map, show ((fun v => Value.category v) ∘ rb_c ad) = rb_cat from funext fun v => rb_cat_c ad v, show nativeFrameWords "java/lang/System" "arraycopy" 5 = 7 from by decide]
      omega)
  have e1 : copied (vp_cell (X.2.1 13) (gN G r0, .inr (.inr (.inr (.inr (fun j => (gP G r0 j).map ad)))))) (vp_cell (X.2.1 13) (gN G r1, .inr (.inr (.inr (.inr (fun j => (gP G r1 j).map ad)))))) 0 0 n = vp_cell (X.2.1 13) (gN G r1, .inr (.inr (.inr (.inr (fun j => (if j < n.toNatClampNeg then gP G r0 j else gP G r1 j).map ad))))) := by
    rw [vp_cell_q, vp_cell_q, vp_cell_q]
    refine (va_copied (fun z => va_rf z) (X.2.1 13) (X.2.1 13) (fun j => (gP G r0 j).map ad) (fun j => (gP G r1 j).map ad) (sp := 0) (dp := 0) (n := n.toNatClampNeg) (by omega)).trans ?_
    congr 1
    funext j
    simp only [va_cpy, Nat.zero_add, Nat.zero_le, true_and, Nat.sub_zero]
    by_cases hj : j < n.toNatClampNeg
    · rw [if_pos hj, if_pos hj]
    · rw [if_neg hj, if_neg hj]
  rw [e1] at X' step
  have hl9 : ad r1 < H.size := (Array.getElem?_eq_some_iff.mp hc1).1
  generalize hcell : vp_cell (X.2.1 13) (gN G r1, .inr (.inr (.inr (.inr (fun j => (if j < n.toNatClampNeg then gP G r0 j else gP G r1 j).map ad))))) = cellN at X' step
  have hheap : ((T.setVm vm').setCell (ad r1) cellN).heap = H.setIfInBounds (ad r1) cellN := by rw [← hT]; rfl
  have oq : ∀ q : Nat, q ≠ ad r1 → (H.setIfInBounds (ad r1) cellN)[q]? = H[q]? := fun q hq => by simp [Array.getElem?_setIfInBounds, Ne.symm hq]
  have hat2 : va_at X.1 vwCl (ad r1, rb_e ad X.2.1 (sQ G r1 (fun j => if j < n.toNatClampNeg then gP G r0 j else gP G r1 j)) r1) (H.setIfInBounds (ad r1) cellN) := by
    rw [rb_eP hk1 (by decide)]
    show (H.setIfInBounds (ad r1) cellN)[ad r1]? = some (vp_cell _ _)
    have e2 : (fun j => (gP (sQ G r1 (fun j => if j < n.toNatClampNeg then gP G r0 j else gP G r1 j)) r1 j).map ad) = fun j => (if j < n.toNatClampNeg then gP G r0 j else gP G r1 j).map ad := by
      funext j
      show Option.map ad (if r1 = r1 then _ else _) = _
      rw [if_pos rfl]
    rw [e2, show gN (sQ G r1 (fun j => if j < n.toNatClampNeg then gP G r0 j else gP G r1 j)) r1 = gN G r1 from rfl, hcell]
    simp [Array.getElem?_setIfInBounds, hl9]
  have hP2 : rb_P X ad A (sQ G r1 (fun j => if j < n.toNatClampNeg then gP G r0 j else gP G r1 j)) (H.setIfInBounds (ad r1) cellN) := by
    refine hP.upd hr1 hk120 hat2 oq rfl (fun r' h => rb_e_sQ h) (fun ra k rb ha hb => ?_)
    have hb' : (if ra = r1 then (if k < n.toNatClampNeg then gP G r0 k else gP G r1 k) else gP G ra k) = some rb := hb
    split at hb'
    · split at hb'
      · exact hP.2.2.1 r0 k rb hr0 hb'
      · exact hP.2.2.1 r1 k rb hr1 hb'
    · exact hP.2.2.1 ra k rb ha hb'
  obtain ⟨t, a1, b1⟩ := kk ad _ _ ls hP2 hn ⟨by simp; exact hS.1, fun q g1 g2 => by
      rw [oq q (fun e => g2 (by rw [e]; exact hA1))]
      exact hS.2.1 q g1 g2, fun q hq => by
      rcases List.mem_append.mp hq with h | h
      · exact hS.2.2 q h
      · obtain ⟨z, -, hz⟩ := List.mem_map.mp h
        rw [← hz]
        exact hA1⟩ hl ho.tl.tl.tl.tl.tl hv _ hheap X'
  exact ⟨t, step t a1, b1⟩
end
end
