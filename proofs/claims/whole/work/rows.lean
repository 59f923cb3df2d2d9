section
-- ===== PART A: goes FIRST, ahead of the names: the tables' words, and 'selects' of the private methods out of them =====
/-- a private method of a class that the tables say can be made, by its rows of tables_1 -/
def lw_okq (q : MethodName × Nat) : Prop := (q.1.cls ≠ "java/lang/invoke/MethodHandle" ∧ q.1.cls ≠ "java/lang/invoke/VarHandle") ∧ Cond.instantiable q.1.cls q.2 ∈ tables_1 ∧ Cond.privateMethod q.1 ∈ tables_1 ∧ Cond.instanceMethod q.1 ∈ tables_1
theorem lw_p0 : lw_okq (⟨"RoamBooks", "receivedAt", "(I)I"⟩, 7) := ⟨⟨by decide +kernel, by decide +kernel⟩, List.mem_of_getElem? (i := 26) (by decide +kernel), List.mem_of_getElem? (i := 161) (by decide +kernel), List.mem_of_getElem? (i := 162) (by decide +kernel)⟩
theorem lw_p1 : lw_okq (⟨"RoamBooks", "requirePlace", "(I)V"⟩, 7) := ⟨⟨by decide +kernel, by decide +kernel⟩, List.mem_of_getElem? (i := 26) (by decide +kernel), List.mem_of_getElem? (i := 165) (by decide +kernel), List.mem_of_getElem? (i := 166) (by decide +kernel)⟩
theorem lw_p2 : lw_okq (⟨"java/lang/Throwable", "fillInStackTrace", "(I)Ljava/lang/Throwable;"⟩, 6) := ⟨⟨by decide +kernel, by decide +kernel⟩, List.mem_of_getElem? (i := 207) (by decide +kernel), List.mem_of_getElem? (i := 205) (by decide +kernel), List.mem_of_getElem? (i := 206) (by decide +kernel)⟩
theorem lw_p3 : lw_okq (⟨"RoamBooks", "detachIfNotReceived", "(LRoamBooks$Subscriber;)V"⟩, 7) := ⟨⟨by decide +kernel, by decide +kernel⟩, List.mem_of_getElem? (i := 26) (by decide +kernel), List.mem_of_getElem? (i := 275) (by decide +kernel), List.mem_of_getElem? (i := 276) (by decide +kernel)⟩
theorem lw_p4 : lw_okq (⟨"RoamBooks", "networkAt", "(I)LRoamBooks$Network;"⟩, 7) := ⟨⟨by decide +kernel, by decide +kernel⟩, List.mem_of_getElem? (i := 26) (by decide +kernel), List.mem_of_getElem? (i := 289) (by decide +kernel), List.mem_of_getElem? (i := 290) (by decide +kernel)⟩
theorem lw_p5 : lw_okq (⟨"RoamBooks", "requireNetwork", "(I)V"⟩, 7) := ⟨⟨by decide +kernel, by decide +kernel⟩, List.mem_of_getElem? (i := 26) (by decide +kernel), List.mem_of_getElem? (i := 293) (by decide +kernel), List.mem_of_getElem? (i := 294) (by decide +kernel)⟩
theorem lw_p6 : lw_okq (⟨"RoamBooks", "detachAllFrom", "(I)V"⟩, 7) := ⟨⟨by decide +kernel, by decide +kernel⟩, List.mem_of_getElem? (i := 26) (by decide +kernel), List.mem_of_getElem? (i := 302) (by decide +kernel), List.mem_of_getElem? (i := 303) (by decide +kernel)⟩
theorem lw_p7 : lw_okq (⟨"java/util/ArrayList", "add", "(Ljava/lang/Object;[Ljava/lang/Object;I)V"⟩, 3) := ⟨⟨by decide +kernel, by decide +kernel⟩, List.mem_of_getElem? (i := 38) (by decide +kernel), List.mem_of_getElem? (i := 371) (by decide +kernel), List.mem_of_getElem? (i := 372) (by decide +kernel)⟩
theorem lw_p8 : lw_okq (⟨"java/util/ArrayList", "grow", "()[Ljava/lang/Object;"⟩, 3) := ⟨⟨by decide +kernel, by decide +kernel⟩, List.mem_of_getElem? (i := 38) (by decide +kernel), List.mem_of_getElem? (i := 375) (by decide +kernel), List.mem_of_getElem? (i := 376) (by decide +kernel)⟩
theorem lw_p9 : lw_okq (⟨"java/util/ArrayList", "grow", "(I)[Ljava/lang/Object;"⟩, 3) := ⟨⟨by decide +kernel, by decide +kernel⟩, List.mem_of_getElem? (i := 38) (by decide +kernel), List.mem_of_getElem? (i := 379) (by decide +kernel), List.mem_of_getElem? (i := 380) (by decide +kernel)⟩
theorem lw_p10 : lw_okq (⟨"RoamBooks", "subscriberAt", "(I)LRoamBooks$Subscriber;"⟩, 7) := ⟨⟨by decide +kernel, by decide +kernel⟩, List.mem_of_getElem? (i := 26) (by decide +kernel), List.mem_of_getElem? (i := 521) (by decide +kernel), List.mem_of_getElem? (i := 522) (by decide +kernel)⟩
theorem lw_p11 : lw_okq (⟨"RoamBooks", "whyNotUsable", "(LRoamBooks$Subscriber;I)I"⟩, 7) := ⟨⟨by decide +kernel, by decide +kernel⟩, List.mem_of_getElem? (i := 26) (by decide +kernel), List.mem_of_getElem? (i := 541) (by decide +kernel), List.mem_of_getElem? (i := 542) (by decide +kernel)⟩
theorem lw_p12 : lw_okq (⟨"RoamBooks", "agreementNow", "(II)LRoamBooks$Agreement;"⟩, 7) := ⟨⟨by decide +kernel, by decide +kernel⟩, List.mem_of_getElem? (i := 26) (by decide +kernel), List.mem_of_getElem? (i := 545) (by decide +kernel), List.mem_of_getElem? (i := 546) (by decide +kernel)⟩
theorem lw_p13 : lw_okq (⟨"RoamBooks", "isSteered", "(LRoamBooks$Subscriber;I)Z"⟩, 7) := ⟨⟨by decide +kernel, by decide +kernel⟩, List.mem_of_getElem? (i := 26) (by decide +kernel), List.mem_of_getElem? (i := 553) (by decide +kernel), List.mem_of_getElem? (i := 554) (by decide +kernel)⟩
theorem lw_p14 : lw_okq (⟨"RoamBooks", "makeContact", "(LRoamBooks$Subscriber;I)V"⟩, 7) := ⟨⟨by decide +kernel, by decide +kernel⟩, List.mem_of_getElem? (i := 26) (by decide +kernel), List.mem_of_getElem? (i := 557) (by decide +kernel), List.mem_of_getElem? (i := 558) (by decide +kernel)⟩
theorem lw_p15 : lw_okq (⟨"RoamBooks$Book", "isLine", "(I)Z"⟩, 1) := ⟨⟨by decide +kernel, by decide +kernel⟩, List.mem_of_getElem? (i := 70) (by decide +kernel), List.mem_of_getElem? (i := 565) (by decide +kernel), List.mem_of_getElem? (i := 566) (by decide +kernel)⟩
def lw_privs_1 : List (MethodName × Nat) := [(⟨"RoamBooks", "receivedAt", "(I)I"⟩, 7), (⟨"RoamBooks", "requirePlace", "(I)V"⟩, 7), (⟨"java/lang/Throwable", "fillInStackTrace", "(I)Ljava/lang/Throwable;"⟩, 6), (⟨"RoamBooks", "detachIfNotReceived", "(LRoamBooks$Subscriber;)V"⟩, 7), (⟨"RoamBooks", "networkAt", "(I)LRoamBooks$Network;"⟩, 7), (⟨"RoamBooks", "requireNetwork", "(I)V"⟩, 7), (⟨"RoamBooks", "detachAllFrom", "(I)V"⟩, 7), (⟨"java/util/ArrayList", "add", "(Ljava/lang/Object;[Ljava/lang/Object;I)V"⟩, 3), (⟨"java/util/ArrayList", "grow", "()[Ljava/lang/Object;"⟩, 3), (⟨"java/util/ArrayList", "grow", "(I)[Ljava/lang/Object;"⟩, 3), (⟨"RoamBooks", "subscriberAt", "(I)LRoamBooks$Subscriber;"⟩, 7), (⟨"RoamBooks", "whyNotUsable", "(LRoamBooks$Subscriber;I)I"⟩, 7), (⟨"RoamBooks", "agreementNow", "(II)LRoamBooks$Agreement;"⟩, 7), (⟨"RoamBooks", "isSteered", "(LRoamBooks$Subscriber;I)Z"⟩, 7), (⟨"RoamBooks", "makeContact", "(LRoamBooks$Subscriber;I)V"⟩, 7), (⟨"RoamBooks$Book", "isLine", "(I)Z"⟩, 1)]
theorem lw_r1 : ∀ q ∈ lw_privs_1, lw_okq q := List.forall_mem_cons.mpr ⟨lw_p0, List.forall_mem_cons.mpr ⟨lw_p1, List.forall_mem_cons.mpr ⟨lw_p2, List.forall_mem_cons.mpr ⟨lw_p3, List.forall_mem_cons.mpr ⟨lw_p4, List.forall_mem_cons.mpr ⟨lw_p5, List.forall_mem_cons.mpr ⟨lw_p6, List.forall_mem_cons.mpr ⟨lw_p7, List.forall_mem_cons.mpr ⟨lw_p8, List.forall_mem_cons.mpr ⟨lw_p9, List.forall_mem_cons.mpr ⟨lw_p10, List.forall_mem_cons.mpr ⟨lw_p11, List.forall_mem_cons.mpr ⟨lw_p12, List.forall_mem_cons.mpr ⟨lw_p13, List.forall_mem_cons.mpr ⟨lw_p14, List.forall_mem_cons.mpr ⟨lw_p15, fun _ h => absurd h List.not_mem_nil⟩⟩⟩⟩⟩⟩⟩⟩⟩⟩⟩⟩⟩⟩⟩⟩
theorem lw_p16 : lw_okq (⟨"RoamBooks", "whyNotFound", "(LRoamBooks$Subscriber;LRoamBooks$Subscriber;)I"⟩, 7) := ⟨⟨by decide +kernel, by decide +kernel⟩, List.mem_of_getElem? (i := 26) (by decide +kernel), List.mem_of_getElem? (i := 641) (by decide +kernel), List.mem_of_getElem? (i := 642) (by decide +kernel)⟩
theorem lw_p17 : lw_okq (⟨"RoamBooks", "priceOfCalling", "(LRoamBooks$Subscriber;)I"⟩, 7) := ⟨⟨by decide +kernel, by decide +kernel⟩, List.mem_of_getElem? (i := 26) (by decide +kernel), List.mem_of_getElem? (i := 645) (by decide +kernel), List.mem_of_getElem? (i := 646) (by decide +kernel)⟩
theorem lw_p18 : lw_okq (⟨"RoamBooks", "priceOfBeingCalled", "(LRoamBooks$Subscriber;)I"⟩, 7) := ⟨⟨by decide +kernel, by decide +kernel⟩, List.mem_of_getElem? (i := 26) (by decide +kernel), List.mem_of_getElem? (i := 653) (by decide +kernel), List.mem_of_getElem? (i := 654) (by decide +kernel)⟩
theorem lw_p19 : lw_okq (⟨"RoamBooks", "settle", "(LRoamBooks$Subscriber;II)V"⟩, 7) := ⟨⟨by decide +kernel, by decide +kernel⟩, List.mem_of_getElem? (i := 26) (by decide +kernel), List.mem_of_getElem? (i := 681) (by decide +kernel), List.mem_of_getElem? (i := 682) (by decide +kernel)⟩
theorem lw_p20 : lw_okq (⟨"RoamBooks", "accountOf", "(II)LRoamBooks$Account;"⟩, 7) := ⟨⟨by decide +kernel, by decide +kernel⟩, List.mem_of_getElem? (i := 26) (by decide +kernel), List.mem_of_getElem? (i := 685) (by decide +kernel), List.mem_of_getElem? (i := 686) (by decide +kernel)⟩
theorem lw_p21 : lw_okq (⟨"RoamBooks$Account", "minutesTakenIn", "(I)I"⟩, 3) := ⟨⟨by decide +kernel, by decide +kernel⟩, List.mem_of_getElem? (i := 109) (by decide +kernel), List.mem_of_getElem? (i := 792) (by decide +kernel), List.mem_of_getElem? (i := 793) (by decide +kernel)⟩
theorem lw_p22 : lw_okq (⟨"RoamBooks$Account", "owedIn", "(II)I"⟩, 3) := ⟨⟨by decide +kernel, by decide +kernel⟩, List.mem_of_getElem? (i := 109) (by decide +kernel), List.mem_of_getElem? (i := 796) (by decide +kernel), List.mem_of_getElem? (i := 797) (by decide +kernel)⟩
theorem lw_p23 : lw_okq (⟨"RoamBooks", "beginHours", "(II)V"⟩, 7) := ⟨⟨by decide +kernel, by decide +kernel⟩, List.mem_of_getElem? (i := 26) (by decide +kernel), List.mem_of_getElem? (i := 817) (by decide +kernel), List.mem_of_getElem? (i := 818) (by decide +kernel)⟩
theorem lw_p24 : lw_okq (⟨"RoamBooks", "beginHour", "(I)V"⟩, 7) := ⟨⟨by decide +kernel, by decide +kernel⟩, List.mem_of_getElem? (i := 26) (by decide +kernel), List.mem_of_getElem? (i := 822) (by decide +kernel), List.mem_of_getElem? (i := 823) (by decide +kernel)⟩
theorem lw_p25 : lw_okq (⟨"RoamBooks", "beginMonth", "()V"⟩, 7) := ⟨⟨by decide +kernel, by decide +kernel⟩, List.mem_of_getElem? (i := 26) (by decide +kernel), List.mem_of_getElem? (i := 831) (by decide +kernel), List.mem_of_getElem? (i := 832) (by decide +kernel)⟩
theorem lw_p26 : lw_okq (⟨"RoamBooksModel", "empties", "(I)V"⟩, 39) := ⟨⟨by decide +kernel, by decide +kernel⟩, List.mem_of_getElem? (i := 835) (by decide +kernel), List.mem_of_getElem? (i := 984) (by decide +kernel), List.mem_of_getElem? (i := 985) (by decide +kernel)⟩
theorem lw_p27 : lw_okq (⟨"RoamBooksModel", "isSubscriber", "(I)Z"⟩, 39) := ⟨⟨by decide +kernel, by decide +kernel⟩, List.mem_of_getElem? (i := 835) (by decide +kernel), List.mem_of_getElem? (i := 1018) (by decide +kernel), List.mem_of_getElem? (i := 1019) (by decide +kernel)⟩
theorem lw_p28 : lw_okq (⟨"RoamBooksModel", "reason", "(II)I"⟩, 39) := ⟨⟨by decide +kernel, by decide +kernel⟩, List.mem_of_getElem? (i := 835) (by decide +kernel), List.mem_of_getElem? (i := 1030) (by decide +kernel), List.mem_of_getElem? (i := 1031) (by decide +kernel)⟩
theorem lw_p29 : lw_okq (⟨"RoamBooksModel", "agreement", "(II)I"⟩, 39) := ⟨⟨by decide +kernel, by decide +kernel⟩, List.mem_of_getElem? (i := 835) (by decide +kernel), List.mem_of_getElem? (i := 1034) (by decide +kernel), List.mem_of_getElem? (i := 1035) (by decide +kernel)⟩
theorem lw_p30 : lw_okq (⟨"RoamBooksModel", "isSteered", "(II)Z"⟩, 39) := ⟨⟨by decide +kernel, by decide +kernel⟩, List.mem_of_getElem? (i := 835) (by decide +kernel), List.mem_of_getElem? (i := 1038) (by decide +kernel), List.mem_of_getElem? (i := 1039) (by decide +kernel)⟩
theorem lw_p31 : lw_okq (⟨"RoamBooksModel", "makesContact", "(I)V"⟩, 39) := ⟨⟨by decide +kernel, by decide +kernel⟩, List.mem_of_getElem? (i := 835) (by decide +kernel), List.mem_of_getElem? (i := 1042) (by decide +kernel), List.mem_of_getElem? (i := 1043) (by decide +kernel)⟩
def lw_privs_2 : List (MethodName × Nat) := [(⟨"RoamBooks", "whyNotFound", "(LRoamBooks$Subscriber;LRoamBooks$Subscriber;)I"⟩, 7), (⟨"RoamBooks", "priceOfCalling", "(LRoamBooks$Subscriber;)I"⟩, 7), (⟨"RoamBooks", "priceOfBeingCalled", "(LRoamBooks$Subscriber;)I"⟩, 7), (⟨"RoamBooks", "settle", "(LRoamBooks$Subscriber;II)V"⟩, 7), (⟨"RoamBooks", "accountOf", "(II)LRoamBooks$Account;"⟩, 7), (⟨"RoamBooks$Account", "minutesTakenIn", "(I)I"⟩, 3), (⟨"RoamBooks$Account", "owedIn", "(II)I"⟩, 3), (⟨"RoamBooks", "beginHours", "(II)V"⟩, 7), (⟨"RoamBooks", "beginHour", "(I)V"⟩, 7), (⟨"RoamBooks", "beginMonth", "()V"⟩, 7), (⟨"RoamBooksModel", "empties", "(I)V"⟩, 39), (⟨"RoamBooksModel", "isSubscriber", "(I)Z"⟩, 39), (⟨"RoamBooksModel", "reason", "(II)I"⟩, 39), (⟨"RoamBooksModel", "agreement", "(II)I"⟩, 39), (⟨"RoamBooksModel", "isSteered", "(II)Z"⟩, 39), (⟨"RoamBooksModel", "makesContact", "(I)V"⟩, 39)]
theorem lw_r2 : ∀ q ∈ lw_privs_2, lw_okq q := List.forall_mem_cons.mpr ⟨lw_p16, List.forall_mem_cons.mpr ⟨lw_p17, List.forall_mem_cons.mpr ⟨lw_p18, List.forall_mem_cons.mpr ⟨lw_p19, List.forall_mem_cons.mpr ⟨lw_p20, List.forall_mem_cons.mpr ⟨lw_p21, List.forall_mem_cons.mpr ⟨lw_p22, List.forall_mem_cons.mpr ⟨lw_p23, List.forall_mem_cons.mpr ⟨lw_p24, List.forall_mem_cons.mpr ⟨lw_p25, List.forall_mem_cons.mpr ⟨lw_p26, List.forall_mem_cons.mpr ⟨lw_p27, List.forall_mem_cons.mpr ⟨lw_p28, List.forall_mem_cons.mpr ⟨lw_p29, List.forall_mem_cons.mpr ⟨lw_p30, List.forall_mem_cons.mpr ⟨lw_p31, fun _ h => absurd h List.not_mem_nil⟩⟩⟩⟩⟩⟩⟩⟩⟩⟩⟩⟩⟩⟩⟩⟩
theorem lw_p32 : lw_okq (⟨"RoamBooksModel", "abroadOf", "(I)I"⟩, 39) := ⟨⟨by decide +kernel, by decide +kernel⟩, List.mem_of_getElem? (i := 835) (by decide +kernel), List.mem_of_getElem? (i := 1066) (by decide +kernel), List.mem_of_getElem? (i := 1067) (by decide +kernel)⟩
theorem lw_p33 : lw_okq (⟨"RoamBooksModel", "nobody", "(II)I"⟩, 39) := ⟨⟨by decide +kernel, by decide +kernel⟩, List.mem_of_getElem? (i := 835) (by decide +kernel), List.mem_of_getElem? (i := 1081) (by decide +kernel), List.mem_of_getElem? (i := 1082) (by decide +kernel)⟩
theorem lw_p34 : lw_okq (⟨"RoamBooksModel", "isAbroad", "(I)Z"⟩, 39) := ⟨⟨by decide +kernel, by decide +kernel⟩, List.mem_of_getElem? (i := 835) (by decide +kernel), List.mem_of_getElem? (i := 1085) (by decide +kernel), List.mem_of_getElem? (i := 1086) (by decide +kernel)⟩
theorem lw_p35 : lw_okq (⟨"RoamBooksModel", "isAbove", "(II)Z"⟩, 39) := ⟨⟨by decide +kernel, by decide +kernel⟩, List.mem_of_getElem? (i := 835) (by decide +kernel), List.mem_of_getElem? (i := 1089) (by decide +kernel), List.mem_of_getElem? (i := 1090) (by decide +kernel)⟩
theorem lw_p36 : lw_okq (⟨"RoamBooksModel", "pays", "(II)V"⟩, 39) := ⟨⟨by decide +kernel, by decide +kernel⟩, List.mem_of_getElem? (i := 835) (by decide +kernel), List.mem_of_getElem? (i := 1093) (by decide +kernel), List.mem_of_getElem? (i := 1094) (by decide +kernel)⟩
theorem lw_p37 : lw_okq (⟨"RoamBooksModel", "records", "(II)V"⟩, 39) := ⟨⟨by decide +kernel, by decide +kernel⟩, List.mem_of_getElem? (i := 835) (by decide +kernel), List.mem_of_getElem? (i := 1097) (by decide +kernel), List.mem_of_getElem? (i := 1098) (by decide +kernel)⟩
theorem lw_p38 : lw_okq (⟨"RoamBooksModel", "minutesOf", "(III)I"⟩, 39) := ⟨⟨by decide +kernel, by decide +kernel⟩, List.mem_of_getElem? (i := 835) (by decide +kernel), List.mem_of_getElem? (i := 1109) (by decide +kernel), List.mem_of_getElem? (i := 1110) (by decide +kernel)⟩
theorem lw_p39 : lw_okq (⟨"RoamBooksModel", "isOf", "(III)Z"⟩, 39) := ⟨⟨by decide +kernel, by decide +kernel⟩, List.mem_of_getElem? (i := 835) (by decide +kernel), List.mem_of_getElem? (i := 1113) (by decide +kernel), List.mem_of_getElem? (i := 1114) (by decide +kernel)⟩
theorem lw_p40 : lw_okq (⟨"RoamBooksModel", "priceOf", "(II)I"⟩, 39) := ⟨⟨by decide +kernel, by decide +kernel⟩, List.mem_of_getElem? (i := 835) (by decide +kernel), List.mem_of_getElem? (i := 1125) (by decide +kernel), List.mem_of_getElem? (i := 1126) (by decide +kernel)⟩
theorem lw_p41 : lw_okq (⟨"RoamBooksModel", "begins", "()V"⟩, 39) := ⟨⟨by decide +kernel, by decide +kernel⟩, List.mem_of_getElem? (i := 835) (by decide +kernel), List.mem_of_getElem? (i := 1143) (by decide +kernel), List.mem_of_getElem? (i := 1144) (by decide +kernel)⟩
def lw_privs_3 : List (MethodName × Nat) := [(⟨"RoamBooksModel", "abroadOf", "(I)I"⟩, 39), (⟨"RoamBooksModel", "nobody", "(II)I"⟩, 39), (⟨"RoamBooksModel", "isAbroad", "(I)Z"⟩, 39), (⟨"RoamBooksModel", "isAbove", "(II)Z"⟩, 39), (⟨"RoamBooksModel", "pays", "(II)V"⟩, 39), (⟨"RoamBooksModel", "records", "(II)V"⟩, 39), (⟨"RoamBooksModel", "minutesOf", "(III)I"⟩, 39), (⟨"RoamBooksModel", "isOf", "(III)Z"⟩, 39), (⟨"RoamBooksModel", "priceOf", "(II)I"⟩, 39), (⟨"RoamBooksModel", "begins", "()V"⟩, 39)]
theorem lw_r3 : ∀ q ∈ lw_privs_3, lw_okq q := List.forall_mem_cons.mpr ⟨lw_p32, List.forall_mem_cons.mpr ⟨lw_p33, List.forall_mem_cons.mpr ⟨lw_p34, List.forall_mem_cons.mpr ⟨lw_p35, List.forall_mem_cons.mpr ⟨lw_p36, List.forall_mem_cons.mpr ⟨lw_p37, List.forall_mem_cons.mpr ⟨lw_p38, List.forall_mem_cons.mpr ⟨lw_p39, List.forall_mem_cons.mpr ⟨lw_p40, List.forall_mem_cons.mpr ⟨lw_p41, fun _ h => absurd h List.not_mem_nil⟩⟩⟩⟩⟩⟩⟩⟩⟩⟩
def lw_privs : List (MethodName × Nat) := lw_privs_1 ++ (lw_privs_2 ++ (lw_privs_3))
def lw_tbl : List Cond := k2_sels lw_privs ++ tables_1
theorem lw_privs_ok : ∀ q ∈ lw_privs, lw_okq q := by
  show ∀ q ∈ lw_privs_1 ++ (lw_privs_2 ++ (lw_privs_3)), lw_okq q
  exact List.forall_mem_append.mpr ⟨lw_r1, List.forall_mem_append.mpr ⟨lw_r2, lw_r3⟩⟩

/-! ===== BEGIN words of one list among another's, by their places ===== -/
theorem goodIn_r {big : List Cond} (ws : List Cond) (ps : List Nat) (hp : ws = ps.filterMap (fun i => big[i]?)) (h : ws.all goodWord = true) : GoodIn big ws := by
  intro w hw
  have h1 := List.all_eq_true.mp h w hw
  rw [hp] at hw
  obtain ⟨i, -, hi⟩ := List.mem_filterMap.mp hw
  have hm : w ∈ big := by first | exact List.mem_of_getElem? hi | exact List.getElem?_mem hi
  exact ⟨hm, good_of_word h1⟩
theorem goodIn_app {big a b : List Cond} (ha : GoodIn big a) (hb : GoodIn big b) : GoodIn big (a ++ b) := fun w h => (List.mem_append.mp h).elim (ha w) (hb w)
theorem goodIn_ca {big a b : List Cond} {c : Cond} (ha : GoodIn big (c :: a)) (hb : GoodIn big b) : GoodIn big (c :: (a ++ b)) := fun w h => (List.mem_cons.mp h).elim (fun e => ha w (List.mem_cons.mpr (Or.inl e))) (fun h => (List.mem_append.mp h).elim (fun h => ha w (List.mem_cons.mpr (Or.inr h))) (hb w))
theorem goodIn_sub {big ws : List Cond} (hm : ∀ w ∈ ws, w ∈ big) (h : ws.all goodWord = true) : GoodIn big ws := fun w hw => ⟨hm w hw, good_of_word (List.all_eq_true.mp h w hw)⟩
/-! ===== END ===== -/

/-! ===== BEGIN exceptions that leave a method, and their catching by the caller (launches without stack traces) ===== -/
section VXA
/-! The laws vx_back, vx_callV, vx_callS, vx_callSW, vx_throw0, vx_throwS follow proofs of the library, with one case more: JvmDerived/Free/Laws.lean (Back.of_free), Shelf42/LK1.lean (callV, callS), Shelf/KitTraced.lean (throwNew0V, throwNewS). -/
/-- where a method has thrown q: the class by its name, the cell, what was written, the world -/
def vx_T (XC : String → State → State → Prop) (st : State) (q : Addr) (t : State) (mc ms : Nat) (free : Addr → Prop) : Prop :=
  ∃ (E : String) (ce : Cell) (L : List Loc), XC E st t ∧ t.heap[q]? = some ce ∧ ce.vm = .none ∧ st.vm.findClass E = some ce.cls ∧ st.WarmedH t.vm ∧ st.sameButNew ({ t with vm := st.vm } : State) L mc ms ∧ ∀ z ∈ L, free z.base
def vx_Q (Qc : Array Value → State → Outcome → State → Prop) (XC : String → State → State → Prop) (mc ms : Nat) (free : Addr → Prop) : Array Value → State → Outcome → State → Prop := fun a st o t =>
  (Qc a st o t ∧ ∃ L, FrameEnd st o t L mc ms ∧ ∀ q ∈ L, free q.base) ∨ ∃ q, o = .threw q ∧ vx_T XC st q t mc ms free
/-- a callee that returns or throws -/
def vx_Met (l : Launch) (y : MethodName) (ws : List Cond) (rm : Room) (Pc : Array Value → State → Prop) (Qc : Array Value → State → Outcome → State → Prop) (XC : String → State → State → Prop) (mc ms : Nat) (free : Addr → Prop) : Prop :=
  MetFree l y (headSpec ws rm) Pc (fun _ _ _ _ _ => True) (vx_Q Qc XC mc ms free)
def vx_Post (XC : String → State → State → Prop) (mc ms : Nat) (free : Addr → Prop) : Pt → Array Value → Addr → Pt → Prop := fun A a q B =>
  ∃ (g : JFrame) (mk : MethodId) (t : State) (L : List Loc) (E : String) (ce : Cell), B.U.heap = t.heap ∧ B.U.vm = t.vm ∧ XC E (A.U.calling g mk a) t ∧ t.heap[q]? = some ce ∧ ce.vm = .none ∧ A.U.vm.findClass E = some ce.cls ∧ B.locs = A.locs ++ L ∧ (∀ z ∈ L, free z.base) ∧ B.cells = A.cells + mc ∧ B.slots = A.slots + ms
def vx_Back (l : Launch) (R : Room) (p : Program) (e : Env) (below : List Frame) (s : State) (sargs : Array Value) (y : MethodName) (len W9 : Nat)
    (Pre : Pt → Array Value → Prop) (Post : Pt → Array Value → Option Value → Pt → Prop) (PostX : Pt → Array Value → Addr → Pt → Prop) : Prop :=
  ∀ (m : MethodId) (meth : Method) (c : Code) (A : Pt) (g : JFrame) (ig : Instr) (mk : MethodId) (a : Array Value),
    Stand p l e R s m sargs below meth c A.U A.locs A.cells A.slots → g.method = m → g.locals.size = c.maxLocals → decode c.code g.pc = .ok (ig, len) →
    2 * g.monitorRoom + (g.stack.map fun v => v.category).sum ≤ W9 → A.U.methodNamed? y = some mk → Pre A a →
    (∃ (v : Option Value) (B : Pt), Stand p l e R s m sargs below meth c B.U B.locs B.cells B.slots ∧ Post A a v B ∧
      Steps p.tables e below (doInvoke e (A.U.setTop g) [] mk a).1 (B.U.setTop { g with pc := g.pc + len, stack := v.toList ++ g.stack })) ∨
    (∃ (q : Addr) (B : Pt), Stand p l e R s m sargs below meth c B.U B.locs B.cells B.slots ∧ PostX A a q B ∧
      Steps p.tables e below (doInvoke e (A.U.setTop g) [] mk a).1 ((B.U.setTop g).pushFrame (.throwing q)))
section Payer
variable {l : Launch} {R : Room} {p : Program} {e : Env} {below : List Frame} {s : State} {sargs : Array Value} {y : MethodName} {len W9 : Nat}
theorem vx_back {ws : List Cond} {rm : Room} {Pc : Array Value → State → Prop} {Qc : Array Value → State → Outcome → State → Prop} {XC : String → State → State → Prop} {mc ms : Nat} {free : Addr → Prop} {bytes : ByteArray} {maxL : Nat} {ret : Option FieldType}
    (hM : vx_Met l y ws rm Pc Qc XC mc ms free) (hblind : FrameBlind Pc) (hrc : rm.cells = mc) (hrs : rm.slots = ms)
    (hframes : rm.frames + 1 ≤ R.frames) (hlocals : W9 + (maxL + 11) + rm.locals ≤ R.locals)
    (hws : ∀ w ∈ ws, ∀ a' U, s.WarmedH U.vm → w.before a' U = true) (hcode : Cond.code y bytes maxL ret ∈ ws) (hinit : ∀ a' U, s.WarmedH U.vm → (Cond.initialized y.cls).before a' U = true) :
    vx_Back l R p e below s sargs y len W9 (PreOf R mc ms Pc) (PostOf Qc mc ms free) (vx_Post XC mc ms free) := by
  intro m meth c A g ig mk a X hg hsize hdg hW hn hp
  have h1 : (headSpec ws rm).pre.before a A.U = true := atoms_intro fun w hw => hws w hw _ _ X.warmed
  have h2 : (Cond.code y bytes maxL ret).before a A.U = true := hws _ hcode _ _ X.warmed
  have h3 : (Cond.initialized y.cls).before a A.U = true := hinit _ _ X.warmed
  have h4 : A.cells + (headSpec ws rm).room.cells ≤ R.cells := by rw [show (headSpec ws rm).room.cells = mc from hrc]; exact hp.1
  have h5 : A.slots + (headSpec ws rm).room.slots ≤ R.slots := by rw [show (headSpec ws rm).room.slots = ms from hrs]; exact hp.2.1
  have hPc : Pc a (A.U.calling g mk a) := hblind _ _ _ _ hp.2.2
  obtain ⟨U, Ls, c0, s0⟩ := A
  dsimp only [Pt.U, Pt.locs, Pt.cells, Pt.slots] at h1 h2 h3 h4 h5 X hn hPc ⊢
  obtain ⟨methY, cY, hmY, hcY, -, hlY, -, -, -, -⟩ := Cond.code_spec hn h2
  obtain ⟨kY, hkY, -⟩ := className_of_methodNamed hn
  have hinitY : kY.init = .initialized := Cond.initialized_spec (findClass_of_methodNamed hn) hkY h3
  have h : At U g.method c below := by rw [hg]; exact X.here
  have hlocals9 : W9 + (maxL + 11) + (headSpec ws rm).room.locals ≤ R.locals := hlocals
  have happ : (headSpec ws rm).appliesLoose y e.platform (U.calling g mk a) = true :=
    Spec.appliesLoose_calling (g := g) h hdg hn hkY hinitY
      (X.room_calling (g := g) (R' := (headSpec ws rm).room) hsize hmY hcY hframes (by rw [hlY]; omega) h4 h5) h1
  obtain ⟨mid, hmid⟩ := h.above
  have hfr : (U.setTop g).frames = (.java g :: mid) ++ below := by rw [State.frames_setTop' g h.top, hmid]; rfl
  obtain ⟨o, s₂, hsteps, -, hend, hq⟩ := Steps.callFree hM p X.admits X.cas X.clock (acts := []) hfr happ hPc trivial
  have hq' : vx_Q Qc XC mc ms free a (U.calling g mk a) o s₂ := hq
  rw [State.frames_setTop' g h.top] at hend
  obtain ⟨g₀, hg0⟩ := Option.isSome_iff_exists.mp h.top
  obtain ⟨r, hr⟩ := State.topJava?_eq_some.mp hg0
  have hr' : (({ U with heap := s₂.heap, slotsUsed := s₂.slotsUsed } : State).setVm s₂.vm).frames = .java g₀ :: r := hr
  rcases hq' with ⟨hqc, L, hfe, hL⟩ | ⟨q, rfl, E, ce, L, hx, hce, hcv, hcl, hW₂, hsm, hL⟩
  · obtain ⟨⟨v, rfl⟩, hW₂, e2, q2, q3, q4, q5, q6⟩ := id hfe
    have e3 : s₂ = ({ (U.calling g mk a).setFrames s₂.frames with heap := s₂.heap, slotsUsed := s₂.slotsUsed } : State).setVm s₂.vm := by
      have : s₂ = ({ s₂ with vm := (U.calling g mk a).vm } : State).setVm s₂.vm := rfl
      rw [e2] at this
      exact this
    obtain ⟨c₂, i₂, len₂, hc₂, hd₂, hf₂⟩ := hend
    have hW' : U.WarmedH s₂.vm := hW₂
    have hcc : c₂ = c := by
      have h1 : s₂.code? g.method = U.code? g.method := by
        rw [State.code?_eq, State.code?_eq, hW'.alike.method?]
      exact Option.some.inj (hc₂.symm.trans (h1.trans h.code))
    subst hcc
    have hlen : len₂ = len := by rw [hdg] at hd₂; cases hd₂; rfl
    subst hlen
    have hs₂ : s₂ = (({ U with heap := s₂.heap, slotsUsed := s₂.slotsUsed } : State).setVm s₂.vm).setTop { g with pc := g.pc + len₂, stack := v.toList ++ g.stack } := by
      refine e3.trans ?_
      rw [hf₂, State.calling_eq h.top, State.setFrames_setFrames, State.setTop_of_frames _ hr', hr]
      rfl
    have hsame : U.sameButNew ({ U with heap := s₂.heap, slotsUsed := s₂.slotsUsed } : State) L mc ms := by
      refine ⟨?_, q2, q3, q4, q5, q6⟩
      obtain ⟨t, ht, -⟩ := State.frames_cons hr
      show ({ U with heap := s₂.heap, slotsUsed := s₂.slotsUsed } : State) = { U.setFrames U.frames with heap := s₂.heap, slotsUsed := s₂.slotsUsed }
      rw [State.setFrames_self ht]
    subst hg
    refine Or.inl ⟨v, ⟨(({ U with heap := s₂.heap, slotsUsed := s₂.slotsUsed } : State).setVm s₂.vm), Ls ++ L, c0 + mc, s0 + ms⟩,
      ⟨X.admits, X.cas, X.clock, X.frames, X.room, X.hears, X.method, X.code, (X.here.setHeapUsed s₂.heap s₂.slotsUsed).setVm hW'.alike, X.tail, State.WarmedH.trans X.warmed hW', X.limits, X.bytes, X.same.trans (hsame.setVm s.vm)⟩,
      ⟨g, mk, s₂, L, rfl, rfl, hqc, rfl, hL, rfl, rfl⟩, ?_⟩
    show Steps p.tables e below _ ((({ U with heap := s₂.heap, slotsUsed := s₂.slotsUsed } : State).setVm s₂.vm).setTop { g with pc := g.pc + len₂, stack := v.toList ++ g.stack })
    rw [← hs₂]
    exact hsteps
  · obtain ⟨e2, q2, q3, q4, q5, q6⟩ := id hsm
    have e3 : s₂ = ({ (U.calling g mk a).setFrames s₂.frames with heap := s₂.heap, slotsUsed := s₂.slotsUsed } : State).setVm s₂.vm := by
      have : s₂ = ({ s₂ with vm := (U.calling g mk a).vm } : State).setVm s₂.vm := rfl
      rw [e2] at this
      exact this
    have hf₂ : s₂.frames = .throwing q :: .java g :: U.frames.tail := hend
    have hW' : U.WarmedH s₂.vm := hW₂
    have hs₂ : s₂ = ((({ U with heap := s₂.heap, slotsUsed := s₂.slotsUsed } : State).setVm s₂.vm).setTop g).pushFrame (.throwing q) := by
      refine e3.trans ?_
      rw [hf₂, State.calling_eq h.top, State.setFrames_setFrames, State.pushFrame, State.frames_setTop _ hr', State.setTop_of_frames _ hr', State.setFrames_setFrames, hr]
      rfl
    have hsame : U.sameButNew ({ U with heap := s₂.heap, slotsUsed := s₂.slotsUsed } : State) L mc ms := by
      refine ⟨?_, q2, q3, q4, q5, q6⟩
      obtain ⟨t, ht, -⟩ := State.frames_cons hr
      show ({ U with heap := s₂.heap, slotsUsed := s₂.slotsUsed } : State) = { U.setFrames U.frames with heap := s₂.heap, slotsUsed := s₂.slotsUsed }
      rw [State.setFrames_self ht]
    subst hg
    refine Or.inr ⟨q, ⟨(({ U with heap := s₂.heap, slotsUsed := s₂.slotsUsed } : State).setVm s₂.vm), Ls ++ L, c0 + mc, s0 + ms⟩,
      ⟨X.admits, X.cas, X.clock, X.frames, X.room, X.hears, X.method, X.code, (X.here.setHeapUsed s₂.heap s₂.slotsUsed).setVm hW'.alike, X.tail, State.WarmedH.trans X.warmed hW', X.limits, X.bytes, X.same.trans (hsame.setVm s.vm)⟩,
      ⟨g, mk, s₂, L, E, ce, rfl, rfl, hx, hce, hcv, hcl, rfl, hL, rfl, rfl⟩, ?_⟩
    show Steps p.tables e below _ (((({ U with heap := s₂.heap, slotsUsed := s₂.slotsUsed } : State).setVm s₂.vm).setTop g).pushFrame (.throwing q))
    rw [← hs₂]
    exact hsteps
end Payer
section Calls
variable {p : Program} {l : Launch} {e : Env} {R : Room} {s : State} {m : MethodId} {args : Array Value} {below : List Frame} {meth : Method} {c : Code} {T : State} {locs : List Loc} {cells slots : Nat}
theorem vx_callV (X : Stand p l e R s m args below meth c T locs cells slots) (hexec : p.tables.exec = Jvm.exec) {own C : String} {index : Nat} {y : MethodName} {bytes : ByteArray} {maxL : Nat} {ret : Option FieldType}
    (hown : s.vm.findClass own = some m.cls) (hlink : (Cond.methodLink own index y).before args s = true) (hinst : (Cond.instanceMethod y).before args s = true) (hsel : (Cond.selects C y y).before args s = true)
    (hcode : (Cond.code y bytes maxL ret).before args s = true) (hy : y.cls ≠ "java/lang/invoke/MethodHandle" ∧ y.cls ≠ "java/lang/invoke/VarHandle")
    {W9 : Nat} {Pre : Pt → Array Value → Prop} {Post : Pt → Array Value → Option Value → Pt → Prop} {PostX : Pt → Array Value → Addr → Pt → Prop} (hK : vx_Back l R p e below s args y 3 W9 Pre Post PostX)
    {b : Addr} {cellB : Cell} (hcell : T.heap[b]? = some cellB) (hobj : cellB.vm.isStatics = false) (hcls : s.vm.findClass C = some cellB.cls)
    {g : JFrame} (hg : g.method = m) (hsize : g.locals.size = c.maxLocals) {argsL rest : List Value} (hlen : ∀ sig, parseMethodDescriptor y.desc = some sig → argsL.length = sig.parameters.length)
    (hstack : g.stack = argsL.reverse ++ .ref b :: rest) (hW : 2 * g.monitorRoom + (rest.map fun v => v.category).sum ≤ W9) (hdg : decode c.code g.pc = .ok (.invokevirtual index, 3))
    (hpre : ∀ vm₁, s.WarmedH vm₁ → Pre ⟨T.setVm vm₁, locs, cells, slots⟩ (Value.ref b :: argsL).toArray) :
    (∃ (v : Option Value) (vm₁ : Vm) (B : Pt), s.WarmedH vm₁ ∧ Stand p l e R s m args below meth c B.U B.locs B.cells B.slots ∧ Post ⟨T.setVm vm₁, locs, cells, slots⟩ (Value.ref b :: argsL).toArray v B ∧
      ∀ target, Steps p.tables e below (B.U.setTop { g with pc := g.pc + 3, stack := v.toList ++ rest }) target → Steps p.tables e below (T.setTop g) target) ∨
    (∃ (q : Addr) (vm₁ : Vm) (B : Pt), s.WarmedH vm₁ ∧ Stand p l e R s m args below meth c B.U B.locs B.cells B.slots ∧ PostX ⟨T.setVm vm₁, locs, cells, slots⟩ (Value.ref b :: argsL).toArray q B ∧
      Steps p.tables e below (T.setTop g) ((B.U.setTop { g with stack := rest }).pushFrame (.throwing q))) := by
  obtain ⟨mk, methM, hnamed, hmethM, hstM, habM⟩ := Cond.instanceMethod_spec hinst
  obtain ⟨methM', cM, hmethM', -, -, -, -, -, -, hsigM⟩ := Cond.code_spec hnamed hcode
  cases hmethM.symm.trans hmethM'
  obtain ⟨c2, r2, m2, q1, q2, q3, q4, kP, hkP, hkPi⟩ := Cond.selects_spec hsel
  cases hcls.symm.trans q1
  cases (State.methodFound?_of_named hnamed hy).symm.trans q2
  cases hnamed.symm.trans q3
  have hselP : selectMethod e.platform s.vm cellB.cls mk = .method mk := by rw [Launch.admits_selectMethod X.admits]; exact q4
  obtain ⟨vm₁, X₁, hstep₁⟩ := X.invokevirtual hexec hown hlink hnamed hmethM hstM hkP hkPi hy (a := b) (cell := cellB) hcell
    (fun z h => by rw [h] at hobj; cases hobj) hselP hmethM habM hkP hkPi (g := g) hg (argsL := argsL) (rest := rest) (hlen _ hsigM) hstack hdg
  rcases hK m meth c ⟨T.setVm vm₁, locs, cells, slots⟩ { g with stack := rest } (.invokevirtual index) mk (Value.ref b :: argsL).toArray X₁ hg hsize hdg hW (X₁.named hnamed) (hpre vm₁ X₁.warmed) with ⟨v, B, X', hpost, hsteps⟩ | ⟨q, B, X', hpost, hsteps⟩
  · exact Or.inl ⟨v, vm₁, B, X₁.warmed, X', hpost, fun target h => hstep₁ _ fun acts => by rw [doInvoke_state]; exact hsteps.trans h⟩
  · exact Or.inr ⟨q, vm₁, B, X₁.warmed, X', hpost, hstep₁ _ fun acts => by rw [doInvoke_state]; exact hsteps⟩
theorem vx_callS (X : Stand p l e R s m args below meth c T locs cells slots) (hexec : p.tables.exec = Jvm.exec) {own : String} {index : Nat} {y : MethodName} {bytes : ByteArray} {maxL : Nat} {ret : Option FieldType}
    (hown : s.vm.findClass own = some m.cls) (hlink : (Cond.methodLink own index y).before args s = true) (hstat : (Cond.static y).before args s = true) (hinit : (Cond.initialized y.cls).before args s = true)
    (hcode : (Cond.code y bytes maxL ret).before args s = true) (hy : y.cls ≠ "java/lang/invoke/MethodHandle" ∧ y.cls ≠ "java/lang/invoke/VarHandle")
    {W9 : Nat} {Pre : Pt → Array Value → Prop} {Post : Pt → Array Value → Option Value → Pt → Prop} {PostX : Pt → Array Value → Addr → Pt → Prop} (hK : vx_Back l R p e below s args y 3 W9 Pre Post PostX)
    {g : JFrame} (hg : g.method = m) (hsize : g.locals.size = c.maxLocals) {argsL rest : List Value} (hlen : ∀ sig, parseMethodDescriptor y.desc = some sig → argsL.length = sig.parameters.length)
    (hstack : g.stack = argsL.reverse ++ rest) (hW : 2 * g.monitorRoom + (rest.map fun v => v.category).sum ≤ W9) (hdg : decode c.code g.pc = .ok (.invokestatic index, 3))
    (hpre : ∀ vm₁, s.WarmedH vm₁ → Pre ⟨T.setVm vm₁, locs, cells, slots⟩ argsL.toArray) :
    (∃ (v : Option Value) (vm₁ : Vm) (B : Pt), s.WarmedH vm₁ ∧ Stand p l e R s m args below meth c B.U B.locs B.cells B.slots ∧ Post ⟨T.setVm vm₁, locs, cells, slots⟩ argsL.toArray v B ∧
      ∀ target, Steps p.tables e below (B.U.setTop { g with pc := g.pc + 3, stack := v.toList ++ rest }) target → Steps p.tables e below (T.setTop g) target) ∨
    (∃ (q : Addr) (vm₁ : Vm) (B : Pt), s.WarmedH vm₁ ∧ Stand p l e R s m args below meth c B.U B.locs B.cells B.slots ∧ PostX ⟨T.setVm vm₁, locs, cells, slots⟩ argsL.toArray q B ∧
      Steps p.tables e below (T.setTop g) ((B.U.setTop { g with stack := rest }).pushFrame (.throwing q))) := by
  obtain ⟨mk, hnamed⟩ := Cond.code_named hcode
  obtain ⟨methM, cM, hmethM, -, -, -, -, -, -, hsigM⟩ := Cond.code_spec hnamed hcode
  have hstatic : methM.isStatic = true := Cond.static_spec hnamed hmethM hstat
  obtain ⟨kP, hkP, -⟩ := className_of_methodNamed hnamed
  have hinitP : kP.init = .initialized := Cond.initialized_spec (findClass_of_methodNamed hnamed) hkP hinit
  obtain ⟨vm₁, X₁, hstep₁⟩ := X.invokestatic hexec hown hlink hnamed hmethM hstatic hkP hinitP hy (g := g) hg (argsL := argsL) (rest := rest) (hlen _ hsigM) hstack hdg
  rcases hK m meth c ⟨T.setVm vm₁, locs, cells, slots⟩ { g with stack := rest } (.invokestatic index) mk argsL.toArray X₁ hg hsize hdg hW (X₁.named hnamed) (hpre vm₁ X₁.warmed) with ⟨v, B, X', hpost, hsteps⟩ | ⟨q, B, X', hpost, hsteps⟩
  · exact Or.inl ⟨v, vm₁, B, X₁.warmed, X', hpost, fun target h => hstep₁ _ fun acts => by rw [doInvoke_state]; exact hsteps.trans h⟩
  · exact Or.inr ⟨q, vm₁, B, X₁.warmed, X', hpost, hstep₁ _ fun acts => by rw [doInvoke_state]; exact hsteps⟩
end Calls
theorem vx_cls {s : State} {T : State} {vm₁ : Vm} {E : String} {k : ClassId} (hW : s.WarmedH vm₁) (h : (T.setVm vm₁).vm.findClass E = some k) : s.vm.findClass E = some k := by
  have h1 : vm₁.findClass E = some k := h
  rw [hW.alike.findClass] at h1
  exact h1
/-- the method's frame g, with q thrown over it -/
def vx_W (p : Program) (l : Launch) (e : Env) (R : Room) (s : State) (m : MethodId) (args : Array Value) (below : List Frame) (meth : Method) (c : Code) (H : Heap) (locs : List Loc) (cells slots : Nat) (Q : State → Prop) (g : JFrame) (q : Addr) : Prop :=
  ∀ T : State, T.heap = H → Stand p l e R s m args below meth c T locs cells slots → ∃ t, Steps p.tables e below ((T.setTop g).pushFrame (.throwing q)) t ∧ Q t
def vx_Run (p : Program) (l : Launch) (e : Env) (R : Room) (s : State) (m : MethodId) (args : Array Value) (below : List Frame) (meth : Method) (c : Code) (H : Heap) (locs : List Loc) (cells slots mc ms : Nat) (g : JFrame) (rest : List Value) (Qa : State → Outcome → State → Prop) (XC : String → State → State → Prop) (free : Addr → Prop) : Prop :=
  ∀ T : State, T.heap = H → Stand p l e R s m args below meth c T locs cells slots →
    (∃ (v : Option Value) (st₀ t T' : State) (L : List Loc), st₀.heap = H ∧ Stand p l e R s m args below meth c T' (locs ++ L) (cells + mc) (slots + ms) ∧ (∀ q ∈ L, free q.base) ∧ T'.heap = t.heap ∧ T'.vm = t.vm ∧ Qa st₀ (.returned v) t ∧
      Goes p e below T g T' { g with pc := g.pc + 3, stack := v.toList ++ rest }) ∨
    (∃ (q : Addr) (st₀ t T' : State) (L : List Loc) (E : String) (ce : Cell), st₀.heap = H ∧ Stand p l e R s m args below meth c T' (locs ++ L) (cells + mc) (slots + ms) ∧ (∀ z ∈ L, free z.base) ∧ T'.heap = t.heap ∧ T'.vm = t.vm ∧ XC E st₀ t ∧ t.heap[q]? = some ce ∧ ce.vm = .none ∧ s.vm.findClass E = some ce.cls ∧
      Steps p.tables e below (T.setTop g) ((T'.setTop { g with stack := rest }).pushFrame (.throwing q)))
def vx_X {S : Type} (px : S → Prop) (B : String → S → State → Prop) (A : Nat → Prop) : String → State → State → Prop := fun E st t => ∃ u : S, px u ∧ B E u t ∧ va_F A st t
section Runs
variable {p : Program} {l : Launch} {e : Env} {R : Room} {s : State} {m : MethodId} {args : Array Value} {below : List Frame} {meth : Method} {c : Code} {H : Heap} {locs : List Loc} {cells slots : Nat}
variable {y : MethodName} {bytes cc : ByteArray} {maxL nL mc ms n index : Nat} {ret : Option FieldType} {ws : List Cond} {rm : Room} {Pc : Array Value → State → Prop} {Qc : Array Value → State → Outcome → State → Prop} {XC : String → State → State → Prop} {free : Addr → Prop} {Ts : List Cond} {own C : String} {b : Addr} {As rest : List Value} {g : JFrame}
theorem vx_callBack (cb : CallB R s args own index y bytes maxL ret ws rm mc ms n) (hM : vx_Met l y ws rm Pc Qc XC mc ms free) (hbl : FrameBlind Pc) : vx_Back l R p e below s args y 3 8 (PreOf R mc ms Pc) (PostOf Qc mc ms free) (vx_Post XC mc ms free) := by
  obtain ⟨hrc, hrs, hfr, hlo, hws, hcw, -, hini, -⟩ := cb
  exact vx_back (bytes := bytes) (maxL := maxL) (ret := ret) hM hbl hrc hrs hfr hlo hws hcw (fun a' U hW => word_at hW (Or.inl (by first | rfl | simp [Cond.onTables, Cond.keeps, Cond.steady])) hini)
theorem vx_runV (S : CallFix p m c cc nL s args Ts own) (hM : vx_Met l y ws rm Pc Qc XC mc ms free) (cw : CallW R s args own C index y bytes maxL ret ws rm mc ms n) (hp : PreV s H C b Pc As)
    (hg : g.method = m) (hn : As.length = n) (hsize : g.locals.size = nL) (hstack : g.stack = As.reverse ++ .ref b :: rest) (hW : 2 * g.monitorRoom + (rest.map fun v => v.category).sum ≤ 8) (hdg : decode cc g.pc = .ok (.invokevirtual index, 3)) (hf : cells + mc ≤ R.cells ∧ slots + ms ≤ R.slots) :
    vx_Run p l e R s m args below meth c H locs cells slots mc ms g rest (Qc (Value.ref b :: As).toArray) XC free := by
  have hK : vx_Back l R p e below s args y 3 8 (PreOf R mc ms Pc) (PostOf Qc mc ms free) (vx_Post XC mc ms free) := vx_callBack cw.1 hM hp.1
  obtain ⟨⟨-, -, -, -, -, -, hcode, -, hy, hlen, hl⟩, hin, hse⟩ := cw
  obtain ⟨hx, hb, hml, ho, -⟩ := S
  obtain ⟨-, ⟨cellB, hcB, hoB, hclB⟩, hPc⟩ := hp
  intro T hT X
  rcases vx_callV X hx (C := C) (bytes := bytes) (maxL := maxL) (ret := ret) ho hl hin hse hcode hy hK (by rw [hT]; exact hcB) hoB hclB hg (hsize.trans hml.symm) (argsL := As) (rest := rest) (fun sig h => hn.trans (hlen sig h)) hstack hW (by rw [hb]; exact hdg)
    (fun vm₁ hW₁ => ⟨hf.1, hf.2, hPc (T.setVm vm₁) hT hW₁⟩) with ⟨v, vm₁, ⟨U', l2, c2, s2⟩, hW₁, X', ⟨g', mk, t, L, e1, e2, hq, h1, hL, h2, h3⟩, st⟩ | ⟨q, vm₁, ⟨U', l2, c2, s2⟩, hW₁, X', ⟨g', mk, t, L, E, ce, e1, e2, hq, hce, hcv, hcl, h1, hL, h2, h3⟩, st⟩
  · dsimp only [Pt.U, Pt.locs, Pt.cells, Pt.slots] at X' e1 e2 h1 h2 h3 st
    subst h1; subst h2; subst h3
    exact Or.inl ⟨v, (T.setVm vm₁).calling g' mk (Value.ref b :: As).toArray, t, U', L, hT, X', hL, e1, e2, hq, st⟩
  · dsimp only [Pt.U, Pt.locs, Pt.cells, Pt.slots] at X' e1 e2 h1 h2 h3 st hcl
    subst h1; subst h2; subst h3
    exact Or.inr ⟨q, (T.setVm vm₁).calling g' mk (Value.ref b :: As).toArray, t, U', L, E, ce, hT, X', hL, e1, e2, hq, hce, hcv, vx_cls hW₁ hcl, st⟩
theorem vx_runS (S : CallFix p m c cc nL s args Ts own) (hM : vx_Met l y ws rm Pc Qc XC mc ms free) (cw : CallB R s args own index y bytes maxL ret ws rm mc ms n ∧ (Cond.static y).before args s = true) (hp : PreS s H Pc As)
    (hg : g.method = m) (hn : As.length = n) (hsize : g.locals.size = nL) (hstack : g.stack = As.reverse ++ rest) (hW : 2 * g.monitorRoom + (rest.map fun v => v.category).sum ≤ 8) (hdg : decode cc g.pc = .ok (.invokestatic index, 3)) (hf : cells + mc ≤ R.cells ∧ slots + ms ≤ R.slots) :
    vx_Run p l e R s m args below meth c H locs cells slots mc ms g rest (Qc As.toArray) XC free := by
  have hK : vx_Back l R p e below s args y 3 8 (PreOf R mc ms Pc) (PostOf Qc mc ms free) (vx_Post XC mc ms free) := vx_callBack cw.1 hM hp.1
  obtain ⟨⟨-, -, -, -, -, -, hcode, hini, hy, hlen, hl⟩, hstt⟩ := cw
  obtain ⟨hx, hb, hml, ho, -⟩ := S
  intro T hT X
  rcases vx_callS X hx (bytes := bytes) (maxL := maxL) (ret := ret) ho hl hstt hini hcode hy hK hg (hsize.trans hml.symm) (argsL := As) (rest := rest) (fun sig h => hn.trans (hlen sig h)) hstack hW (by rw [hb]; exact hdg)
    (fun vm₁ hW₁ => ⟨hf.1, hf.2, hp.2 (T.setVm vm₁) hT hW₁⟩) with ⟨v, vm₁, ⟨U', l2, c2, s2⟩, hW₁, X', ⟨g', mk, t, L, e1, e2, hq, h1, hL, h2, h3⟩, st⟩ | ⟨q, vm₁, ⟨U', l2, c2, s2⟩, hW₁, X', ⟨g', mk, t, L, E, ce, e1, e2, hq, hce, hcv, hcl, h1, hL, h2, h3⟩, st⟩
  · dsimp only [Pt.U, Pt.locs, Pt.cells, Pt.slots] at X' e1 e2 h1 h2 h3 st
    subst h1; subst h2; subst h3
    exact Or.inl ⟨v, (T.setVm vm₁).calling g' mk As.toArray, t, U', L, hT, X', hL, e1, e2, hq, st⟩
  · dsimp only [Pt.U, Pt.locs, Pt.cells, Pt.slots] at X' e1 e2 h1 h2 h3 st hcl
    subst h1; subst h2; subst h3
    exact Or.inr ⟨q, (T.setVm vm₁).calling g' mk As.toArray, t, U', L, E, ce, hT, X', hL, e1, e2, hq, hce, hcv, vx_cls hW₁ hcl, st⟩
end Runs
section Rows
variable {p : Program} {l : Launch} {e : Env} {R : Room} {s : State} {m : MethodId} {args : Array Value} {below : List Frame} {meth : Method} {c : Code} {H : Heap} {locs : List Loc} {cells slots : Nat} {Q : State → Prop}
variable {mc ms : Nat} {free : Addr → Prop} {A0 A1 : Nat → Prop} {H0 : Heap} {a : Array Value} {pc : Nat} {ls : Array Slot} {st0 rest : List Value}
theorem vx_keep {st₀ t T' : State} {L : List Loc} (h0 : st₀.heap = H) (e1 : T'.heap = t.heap) (hS : va_S A0 H0 H locs) (hA : ∀ q, q < H.size → A1 q → A0 q) (hf : ∀ q, free q → A0 q) (hL : ∀ q ∈ L, free q.base) (hF : va_F A1 st₀ t) :
    H.size ≤ T'.heap.size ∧ (∀ q : Nat, q < H.size → ¬ A1 q → T'.heap[q]? = H[q]?) ∧ va_S A0 H0 T'.heap (locs ++ L) := by
  obtain ⟨hz, hk⟩ := hF
  rw [h0] at hz hk
  exact ⟨by rw [e1]; exact hz, fun q h1 h2 => by rw [e1]; exact hk q h1 h2,
    ⟨Nat.le_trans hS.1 (by rw [e1]; exact hz), fun q h1 h2 => by rw [e1, hk q (Nat.lt_of_lt_of_le h1 hS.1) (fun z => h2 (hA q (Nat.lt_of_lt_of_le h1 hS.1) z))]; exact hS.2.1 q h1 h2, fun q hq => by
      rcases List.mem_append.mp hq with h | h
      · exact hS.2.2 q h
      · exact hf _ (hL q h)⟩⟩
theorem vx_calli {S SX : Type} {post : Int32 → S → Prop} {px : SX → Prop} {B : S → State → Prop} {BX : String → SX → State → Prop} {AX : Nat → Prop} (hr : vx_Run p l e R s m args below meth c H locs cells slots mc ms (F0 m pc ls st0) rest (va_Qi post B A1 a) (vx_X px BX AX) free) (hS : va_S A0 H0 H locs) (hA : ∀ q, q < H.size → A1 q → A0 q) (hf : ∀ q, free q → A0 q) (hAX : ∀ q, q < H.size → AX q → A0 q)
    (kx : ∀ (E : String) (ce : Cell) (q9 : Addr) (u : SX) (t : State) (H1 : Heap) (locs1 : List Loc), t.heap = H1 → s.vm.Alike t.vm → px u → BX E u t → H.size ≤ H1.size → (∀ q : Nat, q < H.size → ¬ AX q → H1[q]? = H[q]?) → va_S A0 H0 H1 locs1 → H1[q9]? = some ce → ce.vm = .none → s.vm.findClass E = some ce.cls → vx_W p l e R s m args below meth c H1 locs1 (cells + mc) (slots + ms) Q (F0 m pc ls rest) q9)
    (kk : ∀ (r : Int32) (u : S) (t : State) (H1 : Heap) (locs1 : List Loc), t.heap = H1 → s.vm.Alike t.vm → post r u → B u t → H.size ≤ H1.size → (∀ q : Nat, q < H.size → ¬ A1 q → H1[q]? = H[q]?) → va_S A0 H0 H1 locs1 → W p l e R s m args below meth c H1 locs1 (cells + mc) (slots + ms) Q (F0 m (pc + 3) ls (.int r :: rest))) : W p l e R s m args below meth c H locs cells slots Q (F0 m pc ls st0) := by
  intro T hT X
  rcases hr T hT X with ⟨v, st₀, t, T', L, h0, X', hL, e1, e2, ⟨⟨r, u, hv, hp, hb⟩, hF⟩, st⟩ | ⟨q, st₀, t, T', L, E, ce, h0, X', hL, e1, e2, ⟨u, hp, hb, hF⟩, hce, hcv, hcl, st⟩
  · cases hv
    obtain ⟨k1, k2, k3⟩ := vx_keep h0 e1 hS hA hf hL hF
    obtain ⟨t2, a1, b1⟩ := kk r u t T'.heap (locs ++ L) e1.symm (by rw [← e2]; exact X'.warmed.alike) hp hb k1 k2 k3 T' rfl X'
    exact ⟨t2, st t2 a1, b1⟩
  · obtain ⟨k1, k2, k3⟩ := vx_keep h0 e1 hS hAX hf hL hF
    obtain ⟨t2, a1, b1⟩ := kx E ce q u t T'.heap (locs ++ L) e1.symm (by rw [← e2]; exact X'.warmed.alike) hp hb k1 k2 k3 (by rw [e1]; exact hce) hcv hcl T' rfl X'
    exact ⟨t2, st.trans a1, b1⟩
theorem vx_calll {S SX : Type} {post : Int64 → S → Prop} {px : SX → Prop} {B : S → State → Prop} {BX : String → SX → State → Prop} {AX : Nat → Prop} (hr : vx_Run p l e R s m args below meth c H locs cells slots mc ms (F0 m pc ls st0) rest (va_Ql post B A1 a) (vx_X px BX AX) free) (hS : va_S A0 H0 H locs) (hA : ∀ q, q < H.size → A1 q → A0 q) (hf : ∀ q, free q → A0 q) (hAX : ∀ q, q < H.size → AX q → A0 q)
    (kx : ∀ (E : String) (ce : Cell) (q9 : Addr) (u : SX) (t : State) (H1 : Heap) (locs1 : List Loc), t.heap = H1 → s.vm.Alike t.vm → px u → BX E u t → H.size ≤ H1.size → (∀ q : Nat, q < H.size → ¬ AX q → H1[q]? = H[q]?) → va_S A0 H0 H1 locs1 → H1[q9]? = some ce → ce.vm = .none → s.vm.findClass E = some ce.cls → vx_W p l e R s m args below meth c H1 locs1 (cells + mc) (slots + ms) Q (F0 m pc ls rest) q9)
    (kk : ∀ (r : Int64) (u : S) (t : State) (H1 : Heap) (locs1 : List Loc), t.heap = H1 → s.vm.Alike t.vm → post r u → B u t → H.size ≤ H1.size → (∀ q : Nat, q < H.size → ¬ A1 q → H1[q]? = H[q]?) → va_S A0 H0 H1 locs1 → W p l e R s m args below meth c H1 locs1 (cells + mc) (slots + ms) Q (F0 m (pc + 3) ls (.long r :: rest))) : W p l e R s m args below meth c H locs cells slots Q (F0 m pc ls st0) := by
  intro T hT X
  rcases hr T hT X with ⟨v, st₀, t, T', L, h0, X', hL, e1, e2, ⟨⟨r, u, hv, hp, hb⟩, hF⟩, st⟩ | ⟨q, st₀, t, T', L, E, ce, h0, X', hL, e1, e2, ⟨u, hp, hb, hF⟩, hce, hcv, hcl, st⟩
  · cases hv
    obtain ⟨k1, k2, k3⟩ := vx_keep h0 e1 hS hA hf hL hF
    obtain ⟨t2, a1, b1⟩ := kk r u t T'.heap (locs ++ L) e1.symm (by rw [← e2]; exact X'.warmed.alike) hp hb k1 k2 k3 T' rfl X'
    exact ⟨t2, st t2 a1, b1⟩
  · obtain ⟨k1, k2, k3⟩ := vx_keep h0 e1 hS hAX hf hL hF
    obtain ⟨t2, a1, b1⟩ := kx E ce q u t T'.heap (locs ++ L) e1.symm (by rw [← e2]; exact X'.warmed.alike) hp hb k1 k2 k3 (by rw [e1]; exact hce) hcv hcl T' rfl X'
    exact ⟨t2, st.trans a1, b1⟩
theorem vx_callf {S SX : Type} {post : UInt32 → S → Prop} {px : SX → Prop} {B : S → State → Prop} {BX : String → SX → State → Prop} {AX : Nat → Prop} (hr : vx_Run p l e R s m args below meth c H locs cells slots mc ms (F0 m pc ls st0) rest (va_Qf post B A1 a) (vx_X px BX AX) free) (hS : va_S A0 H0 H locs) (hA : ∀ q, q < H.size → A1 q → A0 q) (hf : ∀ q, free q → A0 q) (hAX : ∀ q, q < H.size → AX q → A0 q)
    (kx : ∀ (E : String) (ce : Cell) (q9 : Addr) (u : SX) (t : State) (H1 : Heap) (locs1 : List Loc), t.heap = H1 → s.vm.Alike t.vm → px u → BX E u t → H.size ≤ H1.size → (∀ q : Nat, q < H.size → ¬ AX q → H1[q]? = H[q]?) → va_S A0 H0 H1 locs1 → H1[q9]? = some ce → ce.vm = .none → s.vm.findClass E = some ce.cls → vx_W p l e R s m args below meth c H1 locs1 (cells + mc) (slots + ms) Q (F0 m pc ls rest) q9)
    (kk : ∀ (r : UInt32) (u : S) (t : State) (H1 : Heap) (locs1 : List Loc), t.heap = H1 → s.vm.Alike t.vm → post r u → B u t → H.size ≤ H1.size → (∀ q : Nat, q < H.size → ¬ A1 q → H1[q]? = H[q]?) → va_S A0 H0 H1 locs1 → W p l e R s m args below meth c H1 locs1 (cells + mc) (slots + ms) Q (F0 m (pc + 3) ls (.float r :: rest))) : W p l e R s m args below meth c H locs cells slots Q (F0 m pc ls st0) := by
  intro T hT X
  rcases hr T hT X with ⟨v, st₀, t, T', L, h0, X', hL, e1, e2, ⟨⟨r, u, hv, hp, hb⟩, hF⟩, st⟩ | ⟨q, st₀, t, T', L, E, ce, h0, X', hL, e1, e2, ⟨u, hp, hb, hF⟩, hce, hcv, hcl, st⟩
  · cases hv
    obtain ⟨k1, k2, k3⟩ := vx_keep h0 e1 hS hA hf hL hF
    obtain ⟨t2, a1, b1⟩ := kk r u t T'.heap (locs ++ L) e1.symm (by rw [← e2]; exact X'.warmed.alike) hp hb k1 k2 k3 T' rfl X'
    exact ⟨t2, st t2 a1, b1⟩
  · obtain ⟨k1, k2, k3⟩ := vx_keep h0 e1 hS hAX hf hL hF
    obtain ⟨t2, a1, b1⟩ := kx E ce q u t T'.heap (locs ++ L) e1.symm (by rw [← e2]; exact X'.warmed.alike) hp hb k1 k2 k3 (by rw [e1]; exact hce) hcv hcl T' rfl X'
    exact ⟨t2, st.trans a1, b1⟩
theorem vx_calld {S SX : Type} {post : UInt64 → S → Prop} {px : SX → Prop} {B : S → State → Prop} {BX : String → SX → State → Prop} {AX : Nat → Prop} (hr : vx_Run p l e R s m args below meth c H locs cells slots mc ms (F0 m pc ls st0) rest (va_Qd post B A1 a) (vx_X px BX AX) free) (hS : va_S A0 H0 H locs) (hA : ∀ q, q < H.size → A1 q → A0 q) (hf : ∀ q, free q → A0 q) (hAX : ∀ q, q < H.size → AX q → A0 q)
    (kx : ∀ (E : String) (ce : Cell) (q9 : Addr) (u : SX) (t : State) (H1 : Heap) (locs1 : List Loc), t.heap = H1 → s.vm.Alike t.vm → px u → BX E u t → H.size ≤ H1.size → (∀ q : Nat, q < H.size → ¬ AX q → H1[q]? = H[q]?) → va_S A0 H0 H1 locs1 → H1[q9]? = some ce → ce.vm = .none → s.vm.findClass E = some ce.cls → vx_W p l e R s m args below meth c H1 locs1 (cells + mc) (slots + ms) Q (F0 m pc ls rest) q9)
    (kk : ∀ (r : UInt64) (u : S) (t : State) (H1 : Heap) (locs1 : List Loc), t.heap = H1 → s.vm.Alike t.vm → post r u → B u t → H.size ≤ H1.size → (∀ q : Nat, q < H.size → ¬ A1 q → H1[q]? = H[q]?) → va_S A0 H0 H1 locs1 → W p l e R s m args below meth c H1 locs1 (cells + mc) (slots + ms) Q (F0 m (pc + 3) ls (.double r :: rest))) : W p l e R s m args below meth c H locs cells slots Q (F0 m pc ls st0) := by
  intro T hT X
  rcases hr T hT X with ⟨v, st₀, t, T', L, h0, X', hL, e1, e2, ⟨⟨r, u, hv, hp, hb⟩, hF⟩, st⟩ | ⟨q, st₀, t, T', L, E, ce, h0, X', hL, e1, e2, ⟨u, hp, hb, hF⟩, hce, hcv, hcl, st⟩
  · cases hv
    obtain ⟨k1, k2, k3⟩ := vx_keep h0 e1 hS hA hf hL hF
    obtain ⟨t2, a1, b1⟩ := kk r u t T'.heap (locs ++ L) e1.symm (by rw [← e2]; exact X'.warmed.alike) hp hb k1 k2 k3 T' rfl X'
    exact ⟨t2, st t2 a1, b1⟩
  · obtain ⟨k1, k2, k3⟩ := vx_keep h0 e1 hS hAX hf hL hF
    obtain ⟨t2, a1, b1⟩ := kx E ce q u t T'.heap (locs ++ L) e1.symm (by rw [← e2]; exact X'.warmed.alike) hp hb k1 k2 k3 (by rw [e1]; exact hce) hcv hcl T' rfl X'
    exact ⟨t2, st.trans a1, b1⟩
theorem vx_callv {S SX : Type} {post : S → Prop} {px : SX → Prop} {B : S → State → Prop} {BX : String → SX → State → Prop} {AX : Nat → Prop} (hr : vx_Run p l e R s m args below meth c H locs cells slots mc ms (F0 m pc ls st0) rest (va_Qv post B A1 a) (vx_X px BX AX) free) (hS : va_S A0 H0 H locs) (hA : ∀ q, q < H.size → A1 q → A0 q) (hf : ∀ q, free q → A0 q) (hAX : ∀ q, q < H.size → AX q → A0 q)
    (kx : ∀ (E : String) (ce : Cell) (q9 : Addr) (u : SX) (t : State) (H1 : Heap) (locs1 : List Loc), t.heap = H1 → s.vm.Alike t.vm → px u → BX E u t → H.size ≤ H1.size → (∀ q : Nat, q < H.size → ¬ AX q → H1[q]? = H[q]?) → va_S A0 H0 H1 locs1 → H1[q9]? = some ce → ce.vm = .none → s.vm.findClass E = some ce.cls → vx_W p l e R s m args below meth c H1 locs1 (cells + mc) (slots + ms) Q (F0 m pc ls rest) q9)
    (kk : ∀ (u : S) (t : State) (H1 : Heap) (locs1 : List Loc), t.heap = H1 → s.vm.Alike t.vm → post u → B u t → H.size ≤ H1.size → (∀ q : Nat, q < H.size → ¬ A1 q → H1[q]? = H[q]?) → va_S A0 H0 H1 locs1 → W p l e R s m args below meth c H1 locs1 (cells + mc) (slots + ms) Q (F0 m (pc + 3) ls (rest))) : W p l e R s m args below meth c H locs cells slots Q (F0 m pc ls st0) := by
  intro T hT X
  rcases hr T hT X with ⟨v, st₀, t, T', L, h0, X', hL, e1, e2, ⟨⟨u, hv, hp, hb⟩, hF⟩, st⟩ | ⟨q, st₀, t, T', L, E, ce, h0, X', hL, e1, e2, ⟨u, hp, hb, hF⟩, hce, hcv, hcl, st⟩
  · cases hv
    obtain ⟨k1, k2, k3⟩ := vx_keep h0 e1 hS hA hf hL hF
    obtain ⟨t2, a1, b1⟩ := kk u t T'.heap (locs ++ L) e1.symm (by rw [← e2]; exact X'.warmed.alike) hp hb k1 k2 k3 T' rfl X'
    exact ⟨t2, st t2 a1, b1⟩
  · obtain ⟨k1, k2, k3⟩ := vx_keep h0 e1 hS hAX hf hL hF
    obtain ⟨t2, a1, b1⟩ := kx E ce q u t T'.heap (locs ++ L) e1.symm (by rw [← e2]; exact X'.warmed.alike) hp hb k1 k2 k3 (by rw [e1]; exact hce) hcv hcl T' rfl X'
    exact ⟨t2, st.trans a1, b1⟩
/-- caught by the row x of this method's table; the rows ahead don't take it -/
theorem vx_catch {own name : String} {E : String} {ce : Cell} {q : Addr} (hown : s.vm.findClass own = some m.cls) (pre : List ExceptionTableEntry) (x : ExceptionTableEntry) (suf : List ExceptionTableEntry) (hsplit : c.exceptionTable.toList = pre ++ x :: suf)
    (hpass : ∀ z ∈ pre, covers z pc = false ∨ (z.catchType ≠ 0 ∧ ∃ nm : String, (Cond.classLink own z.catchType nm).before args s = true ∧ va_Nc E nm s)) (hx : covers x pc = true) (h0 : x.catchType ≠ 0)
    (hlink : (Cond.classLink own x.catchType name).before args s = true) (hcast : (Cond.castable E name).before args s = true) (hcell : H[q]? = some ce) (hv : ce.vm = .none) (hcl : s.vm.findClass E = some ce.cls)
    (kk : W p l e R s m args below meth c H locs cells slots Q (F0 m x.handlerPc ls [.ref q])) : vx_W p l e R s m args below meth c H locs cells slots Q (F0 m pc ls rest) q := by
  intro T hT X
  have hpl : e.platform.magicAccessors = ({} : Platform).magicAccessors := by rw [X.admits.platform]
  obtain ⟨c3, c4, hc3, hc4, hasg⟩ := Cond.castable_spec hcast
  cases Option.some.inj (hc3.symm.trans hcl)
  obtain ⟨c5, hc5, hcl5⟩ := Cond.classLink_spec hown hlink e.platform hpl
  cases Option.some.inj (hc4.symm.trans hc5)
  obtain ⟨vm', X', st⟩ := X.thenCaughtThrough q (g := F0 m pc ls rest) rfl (Steps.refl _) (by rw [hT]; exact hcell) (by rw [hv]; rfl) (by obtain ⟨k9, h9, -⟩ := Vm.findClass_spec hcl; exact ⟨k9, h9⟩) pre x suf hsplit
    (fun z hz => by
      rcases hpass z hz with h | ⟨hz0, nm, hl1, hn1⟩
      · exact Or.inl h
      · obtain ⟨c6, hc6, hcl6⟩ := Cond.classLink_spec hown hl1 e.platform hpl
        obtain ⟨a8, b8, h1, h2, h3⟩ := hn1
        cases Option.some.inj (h1.symm.trans hcl)
        cases Option.some.inj (h2.symm.trans hc6)
        exact Or.inr ⟨hz0, _, hcl6, h3⟩) hx (Or.inr ⟨h0, c4, hcl5, hasg⟩)
  obtain ⟨t, a1, b1⟩ := kk (T.setVm vm') hT X'
  exact ⟨t, st.trans a1, b1⟩
end Rows
section Ends
variable {p : Program} {l : Launch} {e : Env} {R : Room} {s : State} {m : MethodId} {args : Array Value} {below : List Frame} {meth : Method} {c : Code} {H : Heap} {locs : List Loc} {cells slots : Nat} {Q : State → Prop}
variable {mc ms : Nat} {free : Addr → Prop} {A0 A1 : Nat → Prop} {H0 : Heap} {a : Array Value} {ls : Array Slot} {st0 rest : List Value}
variable {Qc : Array Value → State → Outcome → State → Prop} {XC : String → State → State → Prop}
/-- what a body that may throw owes at its end -/
def vx_MQ (below : List Frame) (Qc : Array Value → State → Outcome → State → Prop) (XC : String → State → State → Prop) (a : Array Value) (s : State) (mc ms : Nat) (free : Addr → Prop) : State → Prop := fun t =>
  ∃ o, t.status = .running ∧ Ended t below o ∧ vx_Q Qc XC mc ms free a s o t
theorem vx_ret {g : JFrame} {mc ms : Nat} (k : W p l e R s m args below meth c H locs cells slots (MQ below Qc args s mc ms free) g) : W p l e R s m args below meth c H locs cells slots (vx_MQ below Qc XC args s mc ms free) g := by
  intro T hT X
  obtain ⟨t, a1, o, b1, b2, b3, b4⟩ := k T hT X
  exact ⟨t, a1, o, b1, b2, Or.inl ⟨b3, b4⟩⟩
/-- not caught here: it goes on to the caller -/
theorem vx_widen {g : JFrame} {q : Addr} {k n : Nat} (h1 : cells ≤ k) (h2 : slots ≤ n) (kk : vx_W p l e R s m args below meth c H locs k n Q g q) : vx_W p l e R s m args below meth c H locs cells slots Q g q := fun T hT X => kk T hT (stand_widen X h1 h2)
theorem vx_out {pc : Nat} {E : String} {ce : Cell} {q : Addr} {mc ms : Nat} (hout : ∀ x ∈ c.exceptionTable.toList, covers x pc = false) (hlocks : meth.locks = false) (hcell : H[q]? = some ce) (hv : ce.vm = .none) (hcl : s.vm.findClass E = some ce.cls)
    (hx : ∀ t : State, t.heap = H → s.vm.Alike t.vm → XC E s t) (hf : ∀ z ∈ locs, free z.base) (hc : cells ≤ mc) (hs : slots ≤ ms) :
    vx_W p l e R s m args below meth c H locs cells slots (vx_MQ below Qc XC args s mc ms free) (F0 m pc ls rest) q := by
  intro T hT X
  obtain ⟨st1, hrun, hend, hW, hsm⟩ := X.leaveThrown q (g := F0 m pc ls rest) rfl rfl rfl hout hlocks
  have hcell9 : (T.setFrames (.throwing q :: below)).heap[q]? = some ce := by
    show T.heap[q]? = some ce
    rw [hT]; exact hcell
  exact ⟨_, st1, .threw q, hrun, hend, Or.inr ⟨q, rfl, E, ce, locs, hx _ hT hW.alike, hcell9, hv, hcl, hW, hsm.mono hc hs, hf⟩⟩
theorem vx_frame {U : State} {k n : Nat} (h : s.sameButNew ({ U with vm := s.vm } : State) locs k n) : s.heap.size ≤ U.heap.size ∧ ∀ q : Nat, q < s.heap.size → (∀ z ∈ locs, z.base ≠ q) → U.heap[q]? = s.heap[q]? := by
  obtain ⟨-, h2, -, -, -, h6⟩ := h
  refine ⟨h2, fun q hq hz => ?_⟩
  obtain ⟨c9, e1, e2, e3, e4⟩ := h6 q _ (Array.getElem?_eq_getElem hq)
  have hs : c9.slots = (s.heap[q]).slots := Array.ext_getElem? fun i => e4 i fun hm => hz _ hm rfl
  have h9 : c9 = s.heap[q] := by
    rw [hs] at e2
    exact e2
  have e5 : U.heap[q]? = some c9 := e1
  rw [e5, h9, Array.getElem?_eq_getElem hq]
/-- the words of a throw but the four that speak of the heap -/
def vx_no (w : Cond) : Bool := decide (w ≠ .isRef (.static Bundle.tN "UNASSIGNED_STACK" Bundle.steD)) && decide (w ≠ .isRef (.static Bundle.tN "SUPPRESSED_SENTINEL" Bundle.listD)) && decide (w ≠ .laysStatic Bundle.tN "UNASSIGNED_STACK" Bundle.steD) && decide (w ≠ .laysStatic Bundle.tN "SUPPRESSED_SENTINEL" Bundle.listD)
def vx_at0 (own : String) (ic : Nat) (X : String) (names : List String) : List Cond := (Bundle.ownAtoms0 own ic X names).filter vx_no
def vx_atS (own : String) (ic : Nat) (X : String) (names : List String) : List Cond := (Bundle.ownAtoms own ic X names).filter vx_no
/-- a word that the tables alone decide, or a good one -/
def vx_ot (w : Cond) : Bool := w.onTables || goodWord w
theorem vx_ot_at {args a' : Array Value} {s U : State} {w : Cond} (hW : s.WarmedH U.vm) (hvm : s.vm = U.vm) (hg : vx_ot w = true) (h : w.before args s = true) : w.before a' U = true := by
  simp only [vx_ot, Bool.or_eq_true] at hg
  rcases hg with hg | hg
  · exact va_tabs hg hvm h
  · exact word_at hW (good_of_word hg) h
/-- a list's words: the good ones out of the method's own list, the others by premises of their own -/
theorem vx_hat {args : Array Value} {s : State} {L B : List Cond} (h1 : ∀ w ∈ L.filter goodWord, w.before args s = true) (h2 : ∀ w ∈ L.filter (fun w => !goodWord w), w ∈ B) (h3 : ∀ w ∈ B, w.before args s = true) : ∀ w ∈ L, w.before args s = true := by
  intro w hw
  by_cases g : goodWord w = true
  · exact h1 w (List.mem_filter.mpr ⟨hw, g⟩)
  · refine h3 w (h2 w (List.mem_filter.mpr ⟨hw, ?_⟩))
    show (!goodWord w) = true
    cases hgw : goodWord w
    · rfl
    · exact absurd hgw g
theorem vx_c {args : Array Value} {s : State} {w : Cond} {B : List Cond} (h : w.before args s = true) (t : ∀ w ∈ B, w.before args s = true) : ∀ w' ∈ w :: B, w'.before args s = true := fun w' h' => (List.mem_cons.mp h').elim (fun e => by rw [e]; exact h) (t w')
theorem vx_n {args : Array Value} {s : State} : ∀ w ∈ ([] : List Cond), w.before args s = true := fun _ h => nomatch h
theorem vx_own {args : Array Value} {s : State} {L : List Cond} (h1 : ∀ w ∈ L.filter vx_no, w.before args s = true)
    (hU : (Cond.isRef (.static Bundle.tN "UNASSIGNED_STACK" Bundle.steD)).before args s = true) (hN : (Cond.isRef (.static Bundle.tN "SUPPRESSED_SENTINEL" Bundle.listD)).before args s = true)
    (lU : (Cond.laysStatic Bundle.tN "UNASSIGNED_STACK" Bundle.steD).before args s = true) (lN : (Cond.laysStatic Bundle.tN "SUPPRESSED_SENTINEL" Bundle.listD).before args s = true) : ∀ w ∈ L, w.before args s = true := by
  intro w hw
  by_cases e1 : w = .isRef (.static Bundle.tN "UNASSIGNED_STACK" Bundle.steD)
  · rw [e1]; exact hU
  · by_cases e2 : w = .isRef (.static Bundle.tN "SUPPRESSED_SENTINEL" Bundle.listD)
    · rw [e2]; exact hN
    · by_cases e3 : w = .laysStatic Bundle.tN "UNASSIGNED_STACK" Bundle.steD
      · rw [e3]; exact lU
      · by_cases e4 : w = .laysStatic Bundle.tN "SUPPRESSED_SENTINEL" Bundle.listD
        · rw [e4]; exact lN
        · exact h1 w (List.mem_filter.mpr ⟨hw, by unfold vx_no; rw [decide_eq_true e1, decide_eq_true e2, decide_eq_true e3, decide_eq_true e4]; rfl⟩)
/-- where a static field lies, its class's statics cell in H -/
def vx_L (C n d : String) (A : Nat → Prop) (U : State) (H : Heap) : Prop := ∃ (c : ClassId) (k : Class) (i : Nat) (f : Field) (a : Nat) (cell : Cell), U.vm.findClass C = some c ∧ U.fieldFound? C n d = some (c, k, i, f) ∧ f.isStatic = true ∧ k.statics = some a ∧ H[a]? = some cell ∧ cell.vm.isStatics = true ∧ cell.cls = c ∧ f.slot < cell.slots.size ∧ k.staticTypes[f.slot]? = some f.type ∧ ¬ A a
theorem vx_L.moved {C n d : String} {A : Nat → Prop} {u U : State} {H : Heap} (hvm : u.vm.Alike U.vm) (h : vx_L C n d A u H) : vx_L C n d A U H := by
  obtain ⟨c, k, i, f, a, cell, h1, h2, h3, h4, h5, h6, h7, h8, h9, h10⟩ := h
  obtain ⟨k', hi', he⟩ := State.fieldFound?_setVm hvm h2
  exact ⟨c, k', i, f, a, cell, by rw [hvm.findClass]; exact h1, hi', h3, by rw [he]; exact h4, h5, h6, h7, h8, by rw [he]; exact h9, h10⟩
theorem vx_L.kept {C n d : String} {A : Nat → Prop} {U : State} {H H1 : Heap} (h : vx_L C n d A U H) (hq : ∀ a : Nat, a < H.size → ¬ A a → H1[a]? = H[a]?) : vx_L C n d A U H1 := by
  obtain ⟨c, k, i, f, a, cell, h1, h2, h3, h4, h5, h6, h7, h8, h9, h10⟩ := h
  exact ⟨c, k, i, f, a, cell, h1, h2, h3, h4, by rw [hq a (Array.getElem?_eq_some_iff.mp h5).1 h10]; exact h5, h6, h7, h8, h9, h10⟩
theorem vx_L.narrow {C n d : String} {A B : Nat → Prop} {U : State} {H : Heap} (h : vx_L C n d A U H) (hAB : ∀ q, B q → A q) : vx_L C n d B U H := by
  obtain ⟨c, k, i, f, a, cell, h1, h2, h3, h4, h5, h6, h7, h8, h9, h10⟩ := h
  exact ⟨c, k, i, f, a, cell, h1, h2, h3, h4, h5, h6, h7, h8, h9, fun z => h10 (hAB _ z)⟩
theorem vx_L.word {C n d : String} {A : Nat → Prop} {s : State} {args : Array Value} (h : vx_L C n d A s s.heap) : (Cond.laysStatic C n d).before args s = true := by
  obtain ⟨c, k, i, f, a, cell, h1, h2, h3, h4, h5, h6, h7, h8, h9, -⟩ := h
  show (Cond.laysStatic C n d).holds args s none s [] = true
  exact Cond.laysStatic_of h1 h2 h3 h4 h5 h6 h7 h8 h9
/-- .. and what it holds: null or some reference -/
def vx_Zq (C n d : String) (A : Nat → Prop) (U : State) (H : Heap) : Prop := va_Zq C n d A U H ∧ vx_L C n d A U H
theorem vx_Zq.moved {C n d : String} {A : Nat → Prop} {u U : State} {H : Heap} (hvm : u.vm.Alike U.vm) (h : vx_Zq C n d A u H) : vx_Zq C n d A U H := ⟨va_Zq.moved hvm h.1, vx_L.moved hvm h.2⟩
theorem vx_Zq.kept {C n d : String} {A : Nat → Prop} {U : State} {H H1 : Heap} (h : vx_Zq C n d A U H) (hq : ∀ a : Nat, a < H.size → ¬ A a → H1[a]? = H[a]?) : vx_Zq C n d A U H1 := ⟨va_Zq.kept h.1 hq, vx_L.kept h.2 hq⟩
theorem vx_Zq.narrow {C n d : String} {A B : Nat → Prop} {U : State} {H : Heap} (h : vx_Zq C n d A U H) (hAB : ∀ q, B q → A q) : vx_Zq C n d B U H := ⟨va_Zq.narrow h.1 hAB, vx_L.narrow h.2 hAB⟩
theorem vx_Zqof {args : Array Value} {s : State} {C n d : String} {A : Nat → Prop} (hl : (Cond.laysStatic C n d).before args s = true) (hini : (Cond.initialized C).before args s = true) (h : (Cond.isRef (.static C n d)).before args s = true) (hA : ∀ a : Nat, a < s.heap.size → ¬ A a) : vx_Zq C n d A s s.heap := by
  refine ⟨va_Zqof hl hini h hA, ?_⟩
  obtain ⟨c, k, i, f, a, cell, h1, h2, h3, h4, h5, h6, h7, h8, h9⟩ := Cond.laysStatic_spec hl
  exact ⟨c, k, i, f, a, cell, h1, h2, h3, h4, h5, h6, h7, h8, h9, hA a (Array.getElem?_eq_some_iff.mp h5).1⟩
theorem vx_isRef {C n d : String} {v : Value} {A : Nat → Prop} {s : State} {args : Array Value} (h : va_Z C n d v A s s.heap) (hv : v.isRef = true) : (Cond.isRef (.static C n d)).before args s = true := by
  obtain ⟨cf, kf, fi, f, a, cell, h1, h2, h3, h4, h5, h6, h7, -⟩ := h
  have he : (Term.static C n d).eval args s none [] s = some v := by
    simp [Term.eval, State.fieldNamed?, h1, h2, h4, h5, h6, h7]
  simp only [Cond.before, Cond.holds, Cond.value, he]
  cases v <;> simp_all [Value.isRef]
theorem vx_isRefq {C n d : String} {A : Nat → Prop} {s : State} {args : Array Value} (h : va_Zq C n d A s s.heap) : (Cond.isRef (.static C n d)).before args s = true := by
  rcases h with h | ⟨t, h⟩
  · exact vx_isRef h rfl
  · exact vx_isRef h rfl
/-- the same frame, seen from here: as if the method were called anew in this heap -/
theorem vx_rebase {T : State} (X : Stand p l e R s m args below meth c T locs cells slots) {R' : Room} (hf : R'.frames ≤ R.frames) (hl : R'.locals ≤ R.locals) (hc : cells + R'.cells ≤ R.cells) (hs : slots + R'.slots ≤ R.slots) :
    Stand p l e R' ((T.setVm s.vm).setFrames (.invoking m args :: below)) m args below meth c T [] 0 0 := by
  have htop : (T.setVm s.vm).topJava?.isSome := X.here.top
  have hF : ((T.setVm s.vm).setFrames (.invoking m args :: below)).frames = .invoking m args :: below := State.frames_setFrames _ (State.cur_lt_of_top htop)
  obtain ⟨g₀, hg0⟩ := Option.isSome_iff_exists.mp htop
  obtain ⟨r, hr⟩ := State.topJava?_eq_some.mp hg0
  have hl9 : e.platform.stackLimits (T.setVm s.vm).me = e.platform.stackLimits s.me := X.limits
  have hb9 : (T.setVm s.vm).me.stackBytes = s.me.stackBytes := X.bytes
  refine ⟨X.admits, X.cas, X.clock, hF, ?_, X.hears, X.method, X.code, X.here, X.tail, X.warmed, ?_, ?_, ?_⟩
  · have h := X.room
    have hU : ((T.setVm s.vm).setFrames (.invoking m args :: below)).localsInUse = s.localsInUse := by
      rw [State.localsInUse_invoking hF (meth := meth) (c := c) X.method X.code, State.localsInUse_invoking X.frames X.method X.code]
    simp only [State.hasRoom, Bool.and_eq_true, decide_eq_true_eq] at h ⊢
    obtain ⟨⟨⟨⟨h1, h2, h3, h4, h5, h6⟩, h7⟩, h8⟩, h9⟩ := h
    rw [X.frames, List.length_cons] at h2 h3
    have q1 := X.heapSize
    have q2 := X.used
    simp only [hF, hU, List.length_cons, State.stackLimits_setFrames, State.stackBytes_setFrames, hl9, hb9]
    refine ⟨⟨⟨⟨by omega, by omega, by omega, by omega, by omega, h6⟩, ?_⟩, ?_⟩, X.book⟩
    · show T.heap.size + R'.cells ≤ e.platform.maxCells
      omega
    · show T.slotsUsed + R'.slots ≤ e.platform.maxSlots
      omega
  · rw [State.stackLimits_setFrames]; rfl
  · rw [State.stackBytes_setFrames]; rfl
  · refine ⟨?_, Nat.le_refl _, Nat.le_refl _, ?_, ?_, fun a c9 h9 => ⟨c9, h9, rfl, rfl, fun _ _ => rfl⟩⟩
    · obtain ⟨t, ht, -⟩ := State.frames_cons hr
      show T.setVm s.vm = { ((T.setVm s.vm).setFrames (.invoking m args :: below)).setFrames (T.setVm s.vm).frames with heap := T.heap, slotsUsed := T.slotsUsed }
      rw [State.setFrames_setFrames, State.setFrames_self ht]
      rfl
    · show T.slotsUsed = T.slotsUsed + ((T.heap.toList.drop T.heap.size).map (·.slots.size)).sum
      rw [List.drop_eq_nil_of_le (Nat.le_of_eq Array.length_toList)]
      rfl
    · show ((T.heap.toList.drop T.heap.size).map (·.slots.size)).sum ≤ 0
      rw [List.drop_eq_nil_of_le (Nat.le_of_eq Array.length_toList)]
      exact Nat.le_refl _
/-- 'throw new E()': new; dup; invokespecial; athrow -/
theorem vx_throw0 {cc : ByteArray} {pc : Nat} (hexec : p.tables.exec = Jvm.exec) (hb : c.code = cc) (hl : l.stackTraces = false) {own cls : String} {names : List String} {ik ic mc ms : Nat} {A : Nat → Prop}
    (hown : s.vm.findClass own = some m.cls) (hcls : Bundle.fit cls = true) (hnames : ∀ n ∈ names, Bundle.fit n = true)
    (hk : (Cond.classLink own ik cls).before args s = true) (hini : (Cond.initialized cls).before args s = true) (hat : ∀ w ∈ vx_at0 own ic cls names, w.before args s = true)
    (hgood : ∀ w ∈ Cond.classLink own ik cls :: Cond.initialized cls :: vx_at0 own ic cls names, vx_ot w = true)
    (hU : vx_Zq Bundle.tN "UNASSIGNED_STACK" Bundle.steD A s s.heap) (hN : vx_Zq Bundle.tN "SUPPRESSED_SENTINEL" Bundle.listD A s s.heap) (hS : va_S A s.heap H locs) (hsize : ls.size = c.maxLocals)
    (d0 : decode cc pc = .ok (.new ik, 3)) (d3 : decode cc (pc + 3) = .ok (.dup, 1)) (d4 : decode cc (pc + 4) = .ok (.invokespecial ic, 3)) (d7 : decode cc (pc + 7) = .ok (.athrow, 1))
    (hout : ∀ x ∈ c.exceptionTable.toList, covers x (pc + 7) = false)
    (hRframes : names.length + 3 < R.frames) (hRlocals : (rest.map fun v => v.category).sum + (13 * (names.length + 1) + 42) ≤ R.locals) (hRcells : cells + 1 ≤ R.cells) (hRslots : slots + 6 ≤ R.slots) (hlocks : meth.locks = false)
    (hx : ∀ t : State, s.vm.Alike t.vm → H.size ≤ t.heap.size → (∀ q : Nat, q < H.size → t.heap[q]? = H[q]?) → XC cls s t)
    (hf : ∀ z ∈ locs, free z.base) (hc : cells + 1 ≤ mc) (hs : slots + 6 ≤ ms) :
    W p l e R s m args below meth c H locs cells slots (vx_MQ below Qc XC args s mc ms free) (F0 m pc ls rest) := by
  intro T hT X
  have htr : e.platform.stackTraces = false := (show e.platform.stackTraces = l.stackTraces by rw [X.admits.platform]).trans hl
  have Y := vx_rebase X (R' := { frames := R.frames, locals := R.locals, cells := 1, slots := 6 }) (Nat.le_refl _) (Nat.le_refl _) hRcells hRslots
  obtain ⟨s', hA⟩ : ∃ z, z = (T.setVm s.vm).setFrames (.invoking m args :: below) := ⟨_, rfl⟩
  rw [← hA] at Y
  have hvm : s'.vm = s.vm := by rw [hA]; rfl
  have hhp : s'.heap = H := by rw [hA]; exact hT
  have hW0 : s.WarmedH s'.vm := by rw [hvm]; exact State.WarmedH.refl s
  have hat' : ∀ w ∈ vx_at0 own ic cls names, w.before args s' = true := fun w hw => vx_ot_at hW0 hvm.symm (hgood w (List.mem_cons_of_mem _ (List.mem_cons_of_mem _ hw))) (hat w hw)
  have hk' : (Cond.classLink own ik cls).before args s' = true := vx_ot_at hW0 hvm.symm (hgood _ List.mem_cons_self) hk
  have hini' : (Cond.initialized cls).before args s' = true := vx_ot_at hW0 hvm.symm (hgood _ (List.mem_cons_of_mem _ List.mem_cons_self)) hini
  have hU' : vx_Zq Bundle.tN "UNASSIGNED_STACK" Bundle.steD A s' s'.heap := by rw [hhp]; exact vx_Zq.moved hW0.alike (hU.kept hS.2.1)
  have hN' : vx_Zq Bundle.tN "SUPPRESSED_SENTINEL" Bundle.listD A s' s'.heap := by rw [hhp]; exact vx_Zq.moved hW0.alike (hN.kept hS.2.1)
  have h : ∀ w ∈ Bundle.ownAtoms0 own ic cls names, w.before args s' = true := vx_own hat' (vx_isRefq hU'.1) (vx_isRefq hN'.1) hU'.2.word hN'.2.word
  have hown' : s'.vm.findClass own = some m.cls := by rw [hvm]; exact hown
  have hins : (Cond.instantiable cls 6).before args s' = true := h _ (by simp [Bundle.ownAtoms0])
  obtain ⟨vm₁, cX, kX, hfX, hkX, -, -, X₁, st1⟩ := Y.newCold hexec (own := own) (C := cls) (index := ik) (n := 6) hown' hk' hins hini'
    (g := F0 m pc ls rest) rfl (by rw [hb]; exact d0) (Nat.le_refl _) (Nat.le_refl _)
  generalize hT1 : (T.setVm vm₁).pushCell { cls := cX, slots := kX.instanceTypes.map defaultValue, vm := .none } = T1 at X₁ st1
  have hcat : (Value.ref T.heap.size).category = 1 := rfl
  have hcellA : T1.heap[T.heap.size]? = some (freshCell cX kX) := by rw [← hT1]; exact State.heap_pushCell_size _ _
  have d3' : decode c.code (pc + 3) = .ok (.dup, 1) := by rw [hb]; exact d3
  obtain ⟨U, hsteps, hrun, hend, hW, hsame, ce, hce, hO⟩ := X₁.ctorThrow0 hexec htr (own := own) (cls := cls) (names := names) (ic := ic) hown' hcls hnames h (fun x hx => nomatch hx) hfX hkX hcellA (by rw [hhp, hT]; exact Nat.le_refl _)
    (g := { method := m, pc := pc + 4, locals := ls, stack := .ref T.heap.size :: .ref T.heap.size :: rest, locked := none }) rfl hsize rfl rfl (rest := rest) rfl
    (by rw [hb]; exact d4) (by rw [hb]; exact d7) hout hRframes (by simp only [List.map_cons, List.sum_cons, hcat]; omega) hlocks
  obtain ⟨f1, f2⟩ := vx_frame hsame
  rw [hhp] at f1 f2
  have hWs : s.WarmedH U.vm := State.WarmedH.trans hW0 hW
  have hcl : s.vm.findClass cls = some ce.cls := by
    have h9 := hO.cls
    rw [hvm] at h9
    exact h9
  have hall : s.sameButNew ({ U with vm := s.vm } : State) locs mc ms := by
    subst hA
    obtain ⟨e1, e2⟩ := hsame
    rw [State.setFrames_setFrames] at e1
    have h2 : (T.setVm s.vm).sameButNew ({ U with vm := s.vm } : State) [] (0 + 1) (0 + 6) := ⟨e1, e2⟩
    have h3 := X.same.trans h2
    rw [List.append_nil] at h3
    exact h3.mono hc hs
  refine ⟨U, ?_, .threw T.heap.size, hrun, hend, Or.inr ⟨T.heap.size, rfl, cls, ce, locs, hx U hWs.alike f1 (fun q hq => f2 q hq (fun z hz => nomatch hz)), hce, hO.vm, hcl, hWs, hall, hf⟩⟩
  refine st1 _ ?_
  show Steps p.tables e below (T1.setTop { method := m, pc := pc + 3, locals := ls, stack := .ref T.heap.size :: rest, locked := none }) _
  jvm_step X₁.here [X₁.here.top, hexec, d3', Value.category]
  exact hsteps
/-- 'throw new E("text")': new; dup; ldc; invokespecial; athrow -/
theorem vx_throwS {cc : ByteArray} {pc : Nat} (hexec : p.tables.exec = Jvm.exec) (hb : c.code = cc) (hl : l.stackTraces = false) {own cls text : String} {names : List String} {ik is ic mc ms sa : Nat} {A : Nat → Prop}
    (hown : s.vm.findClass own = some m.cls) (hcls : Bundle.fit cls = true) (hnames : ∀ n ∈ names, Bundle.fit n = true)
    (hk : (Cond.classLink own ik cls).before args s = true) (hini : (Cond.initialized cls).before args s = true) (hstr : vk_R own is text sa s) (hat : ∀ w ∈ vx_atS own ic cls names, w.before args s = true)
    (hgood : ∀ w ∈ Cond.classLink own ik cls :: Cond.initialized cls :: vx_atS own ic cls names, vx_ot w = true)
    (hU : vx_Zq Bundle.tN "UNASSIGNED_STACK" Bundle.steD A s s.heap) (hN : vx_Zq Bundle.tN "SUPPRESSED_SENTINEL" Bundle.listD A s s.heap) (hS : va_S A s.heap H locs) (hsize : ls.size = c.maxLocals)
    (d0 : decode cc pc = .ok (.new ik, 3)) (d3 : decode cc (pc + 3) = .ok (.dup, 1)) (d4 : decode cc (pc + 4) = .ok (.ldc is, 2)) (d6 : decode cc (pc + 6) = .ok (.invokespecial ic, 3)) (d9 : decode cc (pc + 9) = .ok (.athrow, 1))
    (hout : ∀ x ∈ c.exceptionTable.toList, covers x (pc + 9) = false)
    (hRframes : names.length + 3 < R.frames) (hRlocals : (rest.map fun v => v.category).sum + (13 * (names.length + 1) + 43) ≤ R.locals) (hRcells : cells + 1 ≤ R.cells) (hRslots : slots + 6 ≤ R.slots) (hlocks : meth.locks = false)
    (hx : ∀ t : State, s.vm.Alike t.vm → H.size ≤ t.heap.size → (∀ q : Nat, q < H.size → t.heap[q]? = H[q]?) → XC cls s t)
    (hf : ∀ z ∈ locs, free z.base) (hc : cells + 1 ≤ mc) (hs : slots + 6 ≤ ms) :
    W p l e R s m args below meth c H locs cells slots (vx_MQ below Qc XC args s mc ms free) (F0 m pc ls rest) := by
  intro T hT X
  have htr : e.platform.stackTraces = false := (show e.platform.stackTraces = l.stackTraces by rw [X.admits.platform]).trans hl
  have Y := vx_rebase X (R' := { frames := R.frames, locals := R.locals, cells := 1, slots := 6 }) (Nat.le_refl _) (Nat.le_refl _) hRcells hRslots
  obtain ⟨s', hA⟩ : ∃ z, z = (T.setVm s.vm).setFrames (.invoking m args :: below) := ⟨_, rfl⟩
  rw [← hA] at Y
  have hvm : s'.vm = s.vm := by rw [hA]; rfl
  have hhp : s'.heap = H := by rw [hA]; exact hT
  have hW0 : s.WarmedH s'.vm := by rw [hvm]; exact State.WarmedH.refl s
  have hat' : ∀ w ∈ vx_atS own ic cls names, w.before args s' = true := fun w hw => vx_ot_at hW0 hvm.symm (hgood w (List.mem_cons_of_mem _ (List.mem_cons_of_mem _ hw))) (hat w hw)
  have hk' : (Cond.classLink own ik cls).before args s' = true := vx_ot_at hW0 hvm.symm (hgood _ List.mem_cons_self) hk
  have hini' : (Cond.initialized cls).before args s' = true := vx_ot_at hW0 hvm.symm (hgood _ (List.mem_cons_of_mem _ List.mem_cons_self)) hini
  have hU' : vx_Zq Bundle.tN "UNASSIGNED_STACK" Bundle.steD A s' s'.heap := by rw [hhp]; exact vx_Zq.moved hW0.alike (hU.kept hS.2.1)
  have hN' : vx_Zq Bundle.tN "SUPPRESSED_SENTINEL" Bundle.listD A s' s'.heap := by rw [hhp]; exact vx_Zq.moved hW0.alike (hN.kept hS.2.1)
  have h : ∀ w ∈ Bundle.ownAtoms own ic cls names, w.before args s' = true := vx_own hat' (vx_isRefq hU'.1) (vx_isRefq hN'.1) hU'.2.word hN'.2.word
  have hown' : s'.vm.findClass own = some m.cls := by rw [hvm]; exact hown
  have hins : (Cond.instantiable cls 6).before args s' = true := h _ (by simp [Bundle.ownAtoms])
  obtain ⟨vm₁, cX, kX, hfX, hkX, -, -, X₁, st1⟩ := Y.newCold hexec (own := own) (C := cls) (index := ik) (n := 6) hown' hk' hins hini'
    (g := F0 m pc ls rest) rfl (by rw [hb]; exact d0) (Nat.le_refl _) (Nat.le_refl _)
  generalize hT1 : (T.setVm vm₁).pushCell { cls := cX, slots := kX.instanceTypes.map defaultValue, vm := .none } = T1 at X₁ st1
  have hcat : (Value.ref T.heap.size).category = 1 := rfl
  have hcellA : T1.heap[T.heap.size]? = some (freshCell cX kX) := by rw [← hT1]; exact State.heap_pushCell_size _ _
  have d3' : decode c.code (pc + 3) = .ok (.dup, 1) := by rw [hb]; exact d3
  have d4' : decode c.code (pc + 4) = .ok (.ldc is, 2) := by rw [hb]; exact d4
  have hstr' : vk_R own is text sa s' := vk_R.warm hW0 hstr
  obtain ⟨U, hsteps, hrun, hend, hW, hsame, ce, hce, hO⟩ := X₁.ctorThrowS hexec htr (own := own) (cls := cls) (names := names) (ic := ic) hown' hcls hnames h (fun x hx => nomatch hx) hfX hkX hcellA (by rw [hhp, hT]; exact Nat.le_refl _) (msg := .ref sa) rfl
    (g := { method := m, pc := pc + 6, locals := ls, stack := .ref sa :: .ref T.heap.size :: .ref T.heap.size :: rest, locked := none }) rfl hsize rfl rfl (rest := rest) rfl
    (by rw [hb]; exact d6) (by rw [hb]; exact d9) hout hRframes (by simp only [List.map_cons, List.sum_cons, hcat]; omega) hlocks
  obtain ⟨f1, f2⟩ := vx_frame hsame
  rw [hhp] at f1 f2
  have hWs : s.WarmedH U.vm := State.WarmedH.trans hW0 hW
  have hcl : s.vm.findClass cls = some ce.cls := by
    have h9 := hO.cls
    rw [hvm] at h9
    exact h9
  have hall : s.sameButNew ({ U with vm := s.vm } : State) locs mc ms := by
    subst hA
    obtain ⟨e1, e2⟩ := hsame
    rw [State.setFrames_setFrames] at e1
    have h2 : (T.setVm s.vm).sameButNew ({ U with vm := s.vm } : State) [] (0 + 1) (0 + 6) := ⟨e1, e2⟩
    have h3 := X.same.trans h2
    rw [List.append_nil] at h3
    exact h3.mono hc hs
  refine ⟨U, ?_, .threw T.heap.size, hrun, hend, Or.inr ⟨T.heap.size, rfl, cls, ce, locs, hx U hWs.alike f1 (fun q hq => f2 q hq (fun z hz => nomatch hz)), hce, hO.vm, hcl, hWs, hall, hf⟩⟩
  refine st1 _ ?_
  show Steps p.tables e below (T1.setTop { method := m, pc := pc + 3, locals := ls, stack := .ref T.heap.size :: rest, locked := none }) _
  jvm_step X₁.here [X₁.here.top, hexec, d3', Value.category]
  exact X₁.ldcString hexec (own := own) (text := text) (index := is) (a := sa) hown' hstr'.1 hstr'.2
    (g := { method := m, pc := pc + 4, locals := ls, stack := .ref T.heap.size :: .ref T.heap.size :: rest, locked := none }) rfl d4' _ hsteps
/-- 'throw new E("text")', the text by a wide index -/
theorem vx_throwSW {cc : ByteArray} {pc : Nat} (hexec : p.tables.exec = Jvm.exec) (hb : c.code = cc) (hl : l.stackTraces = false) {own cls text : String} {names : List String} {ik is ic mc ms sa : Nat} {A : Nat → Prop}
    (hown : s.vm.findClass own = some m.cls) (hcls : Bundle.fit cls = true) (hnames : ∀ n ∈ names, Bundle.fit n = true)
    (hk : (Cond.classLink own ik cls).before args s = true) (hini : (Cond.initialized cls).before args s = true) (hstr : vk_R own is text sa s) (hat : ∀ w ∈ vx_atS own ic cls names, w.before args s = true)
    (hgood : ∀ w ∈ Cond.classLink own ik cls :: Cond.initialized cls :: vx_atS own ic cls names, vx_ot w = true)
    (hU : vx_Zq Bundle.tN "UNASSIGNED_STACK" Bundle.steD A s s.heap) (hN : vx_Zq Bundle.tN "SUPPRESSED_SENTINEL" Bundle.listD A s s.heap) (hS : va_S A s.heap H locs) (hsize : ls.size = c.maxLocals)
    (d0 : decode cc pc = .ok (.new ik, 3)) (d3 : decode cc (pc + 3) = .ok (.dup, 1)) (d4 : decode cc (pc + 4) = .ok (.ldc_w is, 3)) (d7 : decode cc (pc + 7) = .ok (.invokespecial ic, 3)) (d10 : decode cc (pc + 10) = .ok (.athrow, 1))
    (hout : ∀ x ∈ c.exceptionTable.toList, covers x (pc + 10) = false)
    (hRframes : names.length + 3 < R.frames) (hRlocals : (rest.map fun v => v.category).sum + (13 * (names.length + 1) + 43) ≤ R.locals) (hRcells : cells + 1 ≤ R.cells) (hRslots : slots + 6 ≤ R.slots) (hlocks : meth.locks = false)
    (hx : ∀ t : State, s.vm.Alike t.vm → H.size ≤ t.heap.size → (∀ q : Nat, q < H.size → t.heap[q]? = H[q]?) → XC cls s t)
    (hf : ∀ z ∈ locs, free z.base) (hc : cells + 1 ≤ mc) (hs : slots + 6 ≤ ms) :
    W p l e R s m args below meth c H locs cells slots (vx_MQ below Qc XC args s mc ms free) (F0 m pc ls rest) := by
  intro T hT X
  have htr : e.platform.stackTraces = false := (show e.platform.stackTraces = l.stackTraces by rw [X.admits.platform]).trans hl
  have Y := vx_rebase X (R' := { frames := R.frames, locals := R.locals, cells := 1, slots := 6 }) (Nat.le_refl _) (Nat.le_refl _) hRcells hRslots
  obtain ⟨s', hA⟩ : ∃ z, z = (T.setVm s.vm).setFrames (.invoking m args :: below) := ⟨_, rfl⟩
  rw [← hA] at Y
  have hvm : s'.vm = s.vm := by rw [hA]; rfl
  have hhp : s'.heap = H := by rw [hA]; exact hT
  have hW0 : s.WarmedH s'.vm := by rw [hvm]; exact State.WarmedH.refl s
  have hat' : ∀ w ∈ vx_atS own ic cls names, w.before args s' = true := fun w hw => vx_ot_at hW0 hvm.symm (hgood w (List.mem_cons_of_mem _ (List.mem_cons_of_mem _ hw))) (hat w hw)
  have hk' : (Cond.classLink own ik cls).before args s' = true := vx_ot_at hW0 hvm.symm (hgood _ List.mem_cons_self) hk
  have hini' : (Cond.initialized cls).before args s' = true := vx_ot_at hW0 hvm.symm (hgood _ (List.mem_cons_of_mem _ List.mem_cons_self)) hini
  have hU' : vx_Zq Bundle.tN "UNASSIGNED_STACK" Bundle.steD A s' s'.heap := by rw [hhp]; exact vx_Zq.moved hW0.alike (hU.kept hS.2.1)
  have hN' : vx_Zq Bundle.tN "SUPPRESSED_SENTINEL" Bundle.listD A s' s'.heap := by rw [hhp]; exact vx_Zq.moved hW0.alike (hN.kept hS.2.1)
  have h : ∀ w ∈ Bundle.ownAtoms own ic cls names, w.before args s' = true := vx_own hat' (vx_isRefq hU'.1) (vx_isRefq hN'.1) hU'.2.word hN'.2.word
  have hown' : s'.vm.findClass own = some m.cls := by rw [hvm]; exact hown
  have hins : (Cond.instantiable cls 6).before args s' = true := h _ (by simp [Bundle.ownAtoms])
  obtain ⟨vm₁, cX, kX, hfX, hkX, -, -, X₁, st1⟩ := Y.newCold hexec (own := own) (C := cls) (index := ik) (n := 6) hown' hk' hins hini'
    (g := F0 m pc ls rest) rfl (by rw [hb]; exact d0) (Nat.le_refl _) (Nat.le_refl _)
  generalize hT1 : (T.setVm vm₁).pushCell { cls := cX, slots := kX.instanceTypes.map defaultValue, vm := .none } = T1 at X₁ st1
  have hcat : (Value.ref T.heap.size).category = 1 := rfl
  have hcellA : T1.heap[T.heap.size]? = some (freshCell cX kX) := by rw [← hT1]; exact State.heap_pushCell_size _ _
  have d3' : decode c.code (pc + 3) = .ok (.dup, 1) := by rw [hb]; exact d3
  have d4' : decode c.code (pc + 4) = .ok (.ldc_w is, 3) := by rw [hb]; exact d4
  have hstr' : vk_R own is text sa s' := vk_R.warm hW0 hstr
  obtain ⟨U, hsteps, hrun, hend, hW, hsame, ce, hce, hO⟩ := X₁.ctorThrowS hexec htr (own := own) (cls := cls) (names := names) (ic := ic) hown' hcls hnames h (fun x hx => nomatch hx) hfX hkX hcellA (by rw [hhp, hT]; exact Nat.le_refl _) (msg := .ref sa) rfl
    (g := { method := m, pc := pc + 7, locals := ls, stack := .ref sa :: .ref T.heap.size :: .ref T.heap.size :: rest, locked := none }) rfl hsize rfl rfl (rest := rest) rfl
    (by rw [hb]; exact d7) (by rw [hb]; exact d10) hout hRframes (by simp only [List.map_cons, List.sum_cons, hcat]; omega) hlocks
  obtain ⟨f1, f2⟩ := vx_frame hsame
  rw [hhp] at f1 f2
  have hWs : s.WarmedH U.vm := State.WarmedH.trans hW0 hW
  have hcl : s.vm.findClass cls = some ce.cls := by
    have h9 := hO.cls
    rw [hvm] at h9
    exact h9
  have hall : s.sameButNew ({ U with vm := s.vm } : State) locs mc ms := by
    subst hA
    obtain ⟨e1, e2⟩ := hsame
    rw [State.setFrames_setFrames] at e1
    have h2 : (T.setVm s.vm).sameButNew ({ U with vm := s.vm } : State) [] (0 + 1) (0 + 6) := ⟨e1, e2⟩
    have h3 := X.same.trans h2
    rw [List.append_nil] at h3
    exact h3.mono hc hs
  refine ⟨U, ?_, .threw T.heap.size, hrun, hend, Or.inr ⟨T.heap.size, rfl, cls, ce, locs, hx U hWs.alike f1 (fun q hq => f2 q hq (fun z hz => nomatch hz)), hce, hO.vm, hcl, hWs, hall, hf⟩⟩
  refine st1 _ ?_
  show Steps p.tables e below (T1.setTop { method := m, pc := pc + 3, locals := ls, stack := .ref T.heap.size :: rest, locked := none }) _
  jvm_step X₁.here [X₁.here.top, hexec, d3', Value.category]
  exact X₁.ldcStringW hexec (own := own) (text := text) (index := is) (a := sa) hown' hstr'.1 hstr'.2
    (g := { method := m, pc := pc + 4, locals := ls, stack := .ref T.heap.size :: .ref T.heap.size :: rest, locked := none }) rfl d4' _ hsteps
end Ends
section Bodies
variable {l : Launch}
theorem vx_ofW {y : MethodName} {ws ws' : List Cond} {rm : Room} {Pc : Array Value → State → Prop} {Qc : Array Value → State → Outcome → State → Prop} {XC : String → State → State → Prop} {mc ms : Nat} {free : Addr → Prop} {cc : ByteArray} {maxL : Nat} {ret : Option FieldType}
    (hy : plainName y.cls = true) (hw : ws = Cond.code y cc maxL ret :: ws')
    (body : ∀ p e s m args below meth c s₁, BodyLoose p l y (headSpec ws rm) cc maxL ret e s m args below meth c s₁ → c.maxLocals = maxL → (∀ x ∈ c.exceptionTable.toList, False) → Pc args s →
      W p l e (headSpec ws rm).room s m args below meth c s.heap [] 0 0 (vx_MQ below Qc XC args s mc ms free) (entryFrame m args maxL)) : vx_Met l y ws rm Pc Qc XC mc ms free := by
  refine MetFree.of_bodyS (code := cc) (maxLocals := maxL) (ret := ret) hy ?_ ?_
  · intro args s m h hn
    obtain ⟨meth, c, h1, h2, h3, h4, h5, h6, -, -⟩ := Cond.code_spec hn (atoms_spec (ws := ws) h _ (by rw [hw]; exact List.mem_cons_self))
    exact ⟨meth, c, h1, h2, h3, h4, h5, h6⟩
  · intro p e s m args below meth c s₁ B hml hP _
    have hh0 : s₁.heap = s.heap := by rw [B.state]; rfl
    have ht : ∀ x ∈ c.exceptionTable.toList, False := by
      obtain ⟨meth9, c9, h1, h2, -, -, -, -, h7, -⟩ := Cond.code_spec B.named (atoms_spec (ws := ws) B.pre _ (by rw [hw]; exact List.mem_cons_self))
      cases Option.some.inj (h1.symm.trans B.method)
      cases Option.some.inj (h2.symm.trans (Stand.of_body B).code)
      intro x hx
      rw [Array.isEmpty_iff.mp h7] at hx
      cases hx
    obtain ⟨t, a1, o, b1, b2, b3⟩ := body p e s m args below meth c s₁ B hml ht hP s₁ hh0 (Stand.of_body B)
    exact ⟨t, o, a1, b1, b2, b3⟩
/-- the table of a body with handlers -/
theorem vx_table {p : Program} {x y : MethodName} {S : Spec} {cc bytes : ByteArray} {maxL maxL' : Nat} {ret ret' : Option FieldType} {e : Env} {s s₁ : State} {m : MethodId} {args : Array Value} {below : List Frame} {meth : Method} {c : Code} {hh : List (Nat × Nat × Nat × Nat)}
    (B : BodyLoose p l y S cc maxL ret e s m args below meth c s₁) (h : (Cond.codeWith y bytes maxL' ret' hh).before args s = true) : c.exceptionTable.toList = tableOf hh := by
  obtain ⟨m9, meth9, c9, hn9, h1, h2, -, -, h6, -⟩ := Cond.codeWith_spec h
  cases Option.some.inj (hn9.symm.trans B.named)
  cases Option.some.inj (h1.symm.trans B.method)
  cases Option.some.inj (h2.symm.trans (Stand.of_body B).code)
  rw [← h6, table_eq]
end Bodies
end VXA
/-! ===== END ===== -/
/-! ===== BEGIN a static call of a method with an exception table ===== -/
section VXS
variable {p : Program} {l : Launch} {e : Env} {R : Room} {s : State} {m : MethodId} {args : Array Value} {below : List Frame} {meth : Method} {c : Code} {T : State} {H : Heap} {locs : List Loc} {cells slots : Nat}
abbrev vx_CSW (R : Room) (s : State) (args : Array Value) (own : String) (index : Nat) (y : MethodName) (bytes : ByteArray) (maxL : Nat) (ret : Option FieldType) (hh : List (Nat × Nat × Nat × Nat)) (ws : List Cond) (rm : Room) (mc ms n : Nat) : Prop :=
  (rm.cells = mc ∧ rm.slots = ms ∧ rm.frames + 1 ≤ R.frames ∧ 8 + (maxL + 11) + rm.locals ≤ R.locals ∧ (∀ w ∈ ws, ∀ (a' : Array Value) (U : State), s.WarmedH U.vm → w.before a' U = true) ∧ Cond.codeWith y bytes maxL ret hh ∈ ws) ∧
  (Cond.codeWith y bytes maxL ret hh).before args s = true ∧ (Cond.initialized y.cls).before args s = true ∧ (y.cls ≠ "java/lang/invoke/MethodHandle" ∧ y.cls ≠ "java/lang/invoke/VarHandle") ∧
  (∀ sig, parseMethodDescriptor y.desc = some sig → n = sig.parameters.length) ∧ (Cond.methodLink own index y).before args s = true ∧ (Cond.static y).before args s = true
theorem vx_cwSW {own : String} {index maxL mc ms : Nat} {y : MethodName} {bytes : ByteArray} {ret : Option FieldType} {hh : List (Nat × Nat × Nat × Nat)} {Ts ws ws' : List Cond} {rm : Room} (n : Nat) (ht : ∀ w ∈ Ts, w.before args s = true) (hT : GoodIn Ts (va_wsS own index y ws)) (hw : ws = Cond.codeWith y bytes maxL ret hh :: ws') (hrc : rm.cells = mc) (hrs : rm.slots = ms)
    (hd : y.cls ≠ "java/lang/invoke/MethodHandle" ∧ y.cls ≠ "java/lang/invoke/VarHandle" ∧ (parseMethodDescriptor y.desc).map (fun d => d.parameters.length) = some n) (hR : rm.frames + 1 ≤ R.frames ∧ 8 + (maxL + 11) + rm.locals ≤ R.locals) :
    vx_CSW R s args own index y bytes maxL ret hh ws rm mc ms n := by
  have ok : ∀ w ∈ va_wsS own index y ws, w.before args s = true := fun w h => ht w (hT w h).1
  have hG : GoodIn Ts ws := fun w h => hT w (by unfold va_wsS; exact List.mem_append_right _ h)
  have hc : Cond.codeWith y bytes maxL ret hh ∈ ws := by rw [hw]; exact List.mem_cons_self
  refine ⟨⟨hrc, hrs, hR.1, hR.2, pay_in ht hG, hc⟩, ht _ (hG _ hc).1, ok _ (by simp [va_wsS]), ⟨hd.1, hd.2.1⟩, fun sig h => ?_, ok _ (by simp [va_wsS]), ok _ (by simp [va_wsS])⟩
  have h2 := hd.2.2
  rw [h] at h2
  exact (Option.some.inj h2).symm
theorem vx_callSW (X : Stand p l e R s m args below meth c T locs cells slots) (hexec : p.tables.exec = Jvm.exec) {own : String} {index : Nat} {y : MethodName} {bytes : ByteArray} {maxL : Nat} {ret : Option FieldType} {hh : List (Nat × Nat × Nat × Nat)}
    (hown : s.vm.findClass own = some m.cls) (hlink : (Cond.methodLink own index y).before args s = true) (hstat : (Cond.static y).before args s = true) (hinit : (Cond.initialized y.cls).before args s = true)
    (hcode : (Cond.codeWith y bytes maxL ret hh).before args s = true) (hy : y.cls ≠ "java/lang/invoke/MethodHandle" ∧ y.cls ≠ "java/lang/invoke/VarHandle")
    {W9 : Nat} {Pre : Pt → Array Value → Prop} {Post : Pt → Array Value → Option Value → Pt → Prop} (hK : Back l R p e below s args y 3 W9 Pre Post)
    {g : JFrame} (hg : g.method = m) (hsize : g.locals.size = c.maxLocals) {argsL rest : List Value} (hlen : ∀ sig, parseMethodDescriptor y.desc = some sig → argsL.length = sig.parameters.length)
    (hstack : g.stack = argsL.reverse ++ rest) (hW : 2 * g.monitorRoom + (rest.map fun v => v.category).sum ≤ W9) (hdg : decode c.code g.pc = .ok (.invokestatic index, 3))
    (hpre : ∀ vm₁, s.WarmedH vm₁ → Pre ⟨T.setVm vm₁, locs, cells, slots⟩ argsL.toArray) :
    ∃ (v : Option Value) (vm₁ : Vm) (B : Pt), s.WarmedH vm₁ ∧ Stand p l e R s m args below meth c B.U B.locs B.cells B.slots ∧ Post ⟨T.setVm vm₁, locs, cells, slots⟩ argsL.toArray v B ∧
      ∀ target, Steps p.tables e below (B.U.setTop { g with pc := g.pc + 3, stack := v.toList ++ rest }) target → Steps p.tables e below (T.setTop g) target := by
  obtain ⟨mk, methM, cM, hnamed, hmethM, -, -, -, -, -, -, hsigM⟩ := Cond.codeWith_spec hcode
  have hstatic : methM.isStatic = true := Cond.static_spec hnamed hmethM hstat
  obtain ⟨kP, hkP, -⟩ := className_of_methodNamed hnamed
  have hinitP : kP.init = .initialized := Cond.initialized_spec (findClass_of_methodNamed hnamed) hkP hinit
  obtain ⟨vm₁, X₁, hstep₁⟩ := X.invokestatic hexec hown hlink hnamed hmethM hstatic hkP hinitP hy (g := g) hg (argsL := argsL) (rest := rest) (hlen _ hsigM) hstack hdg
  obtain ⟨v, B, X', hpost, hsteps⟩ := hK m meth c ⟨T.setVm vm₁, locs, cells, slots⟩ { g with stack := rest } (.invokestatic index) mk argsL.toArray X₁ hg hsize hdg hW (X₁.named hnamed) (hpre vm₁ X₁.warmed)
  exact ⟨v, vm₁, B, X₁.warmed, X', hpost, fun target h => hstep₁ _ fun acts => by rw [doInvoke_state]; exact hsteps.trans h⟩
theorem vx_runSW {y : MethodName} {bytes cc : ByteArray} {maxL nL mc ms n index : Nat} {ret : Option FieldType} {hh : List (Nat × Nat × Nat × Nat)} {ws : List Cond} {rm : Room} {Pc : Array Value → State → Prop} {Qc : Array Value → State → Outcome → State → Prop} {free : Addr → Prop} {Ts : List Cond} {own : String} {As rest : List Value} {g : JFrame}
    (S : CallFix p m c cc nL s args Ts own) (hM : Met l y ws rm Pc Qc mc ms free) (cw : vx_CSW R s args own index y bytes maxL ret hh ws rm mc ms n) (hp : PreS s H Pc As)
    (hg : g.method = m) (hn : As.length = n) (hsize : g.locals.size = nL) (hstack : g.stack = As.reverse ++ rest) (hW : 2 * g.monitorRoom + (rest.map fun v => v.category).sum ≤ 8) (hdg : decode cc g.pc = .ok (.invokestatic index, 3)) (hf : cells + mc ≤ R.cells ∧ slots + ms ≤ R.slots) :
    va_Run p l e R s m args below meth c H locs cells slots mc ms g rest (Qc As.toArray) (free) := by
  obtain ⟨⟨hrc, hrs, hfr, hlo, hws, hcw⟩, hcode, hini, hy, hlen, hl, hstt⟩ := cw
  have hK : Back l R p e below s args y 3 8 (PreOf R mc ms Pc) (PostOf Qc mc ms free) := va_backW (hh := hh) (bytes := bytes) (maxL := maxL) (ret := ret) hM hp.1 hrc hrs hfr hlo hws hcw (fun a' U hW => word_at hW (Or.inl (by first | rfl | simp [Cond.onTables, Cond.keeps, Cond.steady])) hini)
  obtain ⟨hx, hb, hml, ho, -⟩ := S
  intro T hT X
  obtain ⟨v, vm₁, ⟨U', l2, c2, s2⟩, hW₁, X', ⟨g', mk, t, L, e1, e2, hq, h1, hL, h2, h3⟩, st⟩ := vx_callSW X hx (hh := hh) (bytes := bytes) (maxL := maxL) (ret := ret) ho hl hstt hini hcode hy hK hg (hsize.trans hml.symm) (argsL := As) (rest := rest) (fun sig h => hn.trans (hlen sig h)) hstack hW (by rw [hb]; exact hdg)
    (fun vm₁ hW₁ => ⟨hf.1, hf.2, hp.2 (T.setVm vm₁) hT hW₁⟩)
  dsimp only [Pt.U, Pt.locs, Pt.cells, Pt.slots] at X' e1 e2 h1 h2 h3 st
  subst h1; subst h2; subst h3
  exact ⟨v, (T.setVm vm₁).calling g' mk As.toArray, t, U', L, hT, X', hL, e1, e2, hq, st⟩
/-- not caught here, past rows that name other classes: it goes on to the caller -/
theorem vx_outP {p : Program} {l : Launch} {e : Env} {R : Room} {s : State} {m : MethodId} {args : Array Value} {below : List Frame} {meth : Method} {c : Code} {H : Heap} {locs : List Loc} {cells slots : Nat} {free : Addr → Prop} {ls : Array Slot} {rest : List Value} {Qc : Array Value → State → Outcome → State → Prop} {XC : String → State → State → Prop}
    {pc : Nat} {own E : String} {ce : Cell} {q : Addr} {mc ms : Nat} (hown : s.vm.findClass own = some m.cls) (hlocks : meth.locks = false)
    (hpass : ∀ z ∈ c.exceptionTable.toList, covers z pc = false ∨ (z.catchType ≠ 0 ∧ ∃ nm : String, (Cond.classLink own z.catchType nm).before args s = true ∧ va_Nc E nm s)) (hcell : H[q]? = some ce) (hv : ce.vm = .none) (hcl : s.vm.findClass E = some ce.cls)
    (hx : ∀ t : State, t.heap = H → s.vm.Alike t.vm → XC E s t) (hf : ∀ z ∈ locs, free z.base) (hc : cells ≤ mc) (hs : slots ≤ ms) :
    vx_W p l e R s m args below meth c H locs cells slots (vx_MQ below Qc XC args s mc ms free) (F0 m pc ls rest) q := by
  intro T hT X
  have hpl : e.platform.magicAccessors = ({} : Platform).magicAccessors := by rw [X.admits.platform]
  obtain ⟨vm', hW', X', st⟩ := X.outThrough hlocks q (g := F0 m pc ls rest) rfl rfl rfl (cell := ce) (by rw [hT]; exact hcell) (by rw [hv]; rfl)
    (by obtain ⟨k9, h9, -⟩ := Vm.findClass_spec hcl; exact ⟨k9, h9⟩) (fun z hz => by
      rcases hpass z hz with h | ⟨hz0, nm, hl1, hn1⟩
      · exact Or.inl h
      · obtain ⟨c6, hc6, hcl6⟩ := Cond.classLink_spec hown hl1 e.platform hpl
        obtain ⟨a8, b8, h1, h2, h3⟩ := hn1
        cases Option.some.inj (h1.symm.trans hcl)
        cases Option.some.inj (h2.symm.trans hc6)
        exact Or.inr ⟨hz0, _, hcl6, h3⟩)
  obtain ⟨g₀, hfr⟩ := X'.frames_eq
  have hcell9 : ((T.setVm vm').setFrames (.throwing q :: below)).heap[q]? = some ce := by
    show T.heap[q]? = some ce
    rw [hT]; exact hcell
  have hend : Ended ((T.setVm vm').setFrames (.throwing q :: below)) below (.threw q) := State.frames_setFrames _ (State.cur_lt_of_frames hfr)
  refine ⟨(T.setVm vm').setFrames (.throwing q :: below), ?_, .threw q, X'.here.running, hend, Or.inr ⟨q, rfl, E, ce, locs, hx _ hT (X'.ends _).1.alike, hcell9, hv, hcl, (X'.ends _).1, (X'.ends _).2.mono hc hs, hf⟩⟩
  rw [X.pushThrowing_eq]
  exact st
/-- a thing of a world lies in the heap -/
theorem vx_lt {D : va_G} {cl : List vw_C} {ws : va_W} {H1 : Heap} (h : va_P D cl ws H1) {k : Nat} {q : Nat × va_E} (hk : ws[k]? = some q) : q.1 < H1.size := (h k q hk).lt
end VXS
/-! ===== END ===== -/
/-! ===== BEGIN methods with a table of their own: called by a name, returning or throwing ===== -/
section VXH
/-! vx_backW, vx_callVX, vx_callSX, vx_callVW, vx_runVW, vx_runVX, vx_runSX, vx_ofWH follow the same proofs as their sisters above (Free/Laws.lean, Shelf42/LK1.lean); vx_outP calls Shelf42/NT130.lean (outThrough). -/
section
variable {l : Launch} {R : Room} {p : Program} {e : Env} {below : List Frame} {s : State} {sargs : Array Value} {y : MethodName} {len W9 : Nat}
theorem vx_backW {ws : List Cond} {rm : Room} {Pc : Array Value → State → Prop} {Qc : Array Value → State → Outcome → State → Prop} {XC : String → State → State → Prop} {mc ms : Nat} {free : Addr → Prop} {bytes : ByteArray} {maxL : Nat} {ret : Option FieldType} {hh : List (Nat × Nat × Nat × Nat)}
    (hM : vx_Met l y ws rm Pc Qc XC mc ms free) (hblind : FrameBlind Pc) (hrc : rm.cells = mc) (hrs : rm.slots = ms)
    (hframes : rm.frames + 1 ≤ R.frames) (hlocals : W9 + (maxL + 11) + rm.locals ≤ R.locals)
    (hws : ∀ w ∈ ws, ∀ a' U, s.WarmedH U.vm → w.before a' U = true) (hcode : Cond.codeWith y bytes maxL ret hh ∈ ws) (hinit : ∀ a' U, s.WarmedH U.vm → (Cond.initialized y.cls).before a' U = true) :
    vx_Back l R p e below s sargs y len W9 (PreOf R mc ms Pc) (PostOf Qc mc ms free) (vx_Post XC mc ms free) := by
  intro m meth c A g ig mk a X hg hsize hdg hW hn hp
  have h1 : (headSpec ws rm).pre.before a A.U = true := atoms_intro fun w hw => hws w hw _ _ X.warmed
  have h2 : (Cond.codeWith y bytes maxL ret hh).before a A.U = true := hws _ hcode _ _ X.warmed
  have h3 : (Cond.initialized y.cls).before a A.U = true := hinit _ _ X.warmed
  have h4 : A.cells + (headSpec ws rm).room.cells ≤ R.cells := by rw [show (headSpec ws rm).room.cells = mc from hrc]; exact hp.1
  have h5 : A.slots + (headSpec ws rm).room.slots ≤ R.slots := by rw [show (headSpec ws rm).room.slots = ms from hrs]; exact hp.2.1
  have hPc : Pc a (A.U.calling g mk a) := hblind _ _ _ _ hp.2.2
  obtain ⟨U, Ls, c0, s0⟩ := A
  dsimp only [Pt.U, Pt.locs, Pt.cells, Pt.slots] at h1 h2 h3 h4 h5 X hn hPc ⊢
  obtain ⟨m9, methY, cY, hn9, hmY, hcY, -, hlY, -⟩ := Cond.codeWith_spec h2
  cases Option.some.inj (hn9.symm.trans hn)
  obtain ⟨kY, hkY, -⟩ := className_of_methodNamed hn
  have hinitY : kY.init = .initialized := Cond.initialized_spec (findClass_of_methodNamed hn) hkY h3
  have h : At U g.method c below := by rw [hg]; exact X.here
  have hlocals9 : W9 + (maxL + 11) + (headSpec ws rm).room.locals ≤ R.locals := hlocals
  have happ : (headSpec ws rm).appliesLoose y e.platform (U.calling g mk a) = true :=
    Spec.appliesLoose_calling (g := g) h hdg hn hkY hinitY
      (X.room_calling (g := g) (R' := (headSpec ws rm).room) hsize hmY hcY hframes (by rw [hlY]; omega) h4 h5) h1
  obtain ⟨mid, hmid⟩ := h.above
  have hfr : (U.setTop g).frames = (.java g :: mid) ++ below := by rw [State.frames_setTop' g h.top, hmid]; rfl
  obtain ⟨o, s₂, hsteps, -, hend, hq⟩ := Steps.callFree hM p X.admits X.cas X.clock (acts := []) hfr happ hPc trivial
  have hq' : vx_Q Qc XC mc ms free a (U.calling g mk a) o s₂ := hq
  rw [State.frames_setTop' g h.top] at hend
  obtain ⟨g₀, hg0⟩ := Option.isSome_iff_exists.mp h.top
  obtain ⟨r, hr⟩ := State.topJava?_eq_some.mp hg0
  have hr' : (({ U with heap := s₂.heap, slotsUsed := s₂.slotsUsed } : State).setVm s₂.vm).frames = .java g₀ :: r := hr
  rcases hq' with ⟨hqc, L, hfe, hL⟩ | ⟨q, rfl, E, ce, L, hx, hce, hcv, hcl, hW₂, hsm, hL⟩
  · obtain ⟨⟨v, rfl⟩, hW₂, e2, q2, q3, q4, q5, q6⟩ := id hfe
    have e3 : s₂ = ({ (U.calling g mk a).setFrames s₂.frames with heap := s₂.heap, slotsUsed := s₂.slotsUsed } : State).setVm s₂.vm := by
      have : s₂ = ({ s₂ with vm := (U.calling g mk a).vm } : State).setVm s₂.vm := rfl
      rw [e2] at this
      exact this
    obtain ⟨c₂, i₂, len₂, hc₂, hd₂, hf₂⟩ := hend
    have hW' : U.WarmedH s₂.vm := hW₂
    have hcc : c₂ = c := by
      have h1 : s₂.code? g.method = U.code? g.method := by
        rw [State.code?_eq, State.code?_eq, hW'.alike.method?]
      exact Option.some.inj (hc₂.symm.trans (h1.trans h.code))
    subst hcc
    have hlen : len₂ = len := by rw [hdg] at hd₂; cases hd₂; rfl
    subst hlen
    have hs₂ : s₂ = (({ U with heap := s₂.heap, slotsUsed := s₂.slotsUsed } : State).setVm s₂.vm).setTop { g with pc := g.pc + len₂, stack := v.toList ++ g.stack } := by
      refine e3.trans ?_
      rw [hf₂, State.calling_eq h.top, State.setFrames_setFrames, State.setTop_of_frames _ hr', hr]
      rfl
    have hsame : U.sameButNew ({ U with heap := s₂.heap, slotsUsed := s₂.slotsUsed } : State) L mc ms := by
      refine ⟨?_, q2, q3, q4, q5, q6⟩
      obtain ⟨t, ht, -⟩ := State.frames_cons hr
      show ({ U with heap := s₂.heap, slotsUsed := s₂.slotsUsed } : State) = { U.setFrames U.frames with heap := s₂.heap, slotsUsed := s₂.slotsUsed }
      rw [State.setFrames_self ht]
    subst hg
    refine Or.inl ⟨v, ⟨(({ U with heap := s₂.heap, slotsUsed := s₂.slotsUsed } : State).setVm s₂.vm), Ls ++ L, c0 + mc, s0 + ms⟩,
      ⟨X.admits, X.cas, X.clock, X.frames, X.room, X.hears, X.method, X.code, (X.here.setHeapUsed s₂.heap s₂.slotsUsed).setVm hW'.alike, X.tail, State.WarmedH.trans X.warmed hW', X.limits, X.bytes, X.same.trans (hsame.setVm s.vm)⟩,
      ⟨g, mk, s₂, L, rfl, rfl, hqc, rfl, hL, rfl, rfl⟩, ?_⟩
    show Steps p.tables e below _ ((({ U with heap := s₂.heap, slotsUsed := s₂.slotsUsed } : State).setVm s₂.vm).setTop { g with pc := g.pc + len₂, stack := v.toList ++ g.stack })
    rw [← hs₂]
    exact hsteps
  · obtain ⟨e2, q2, q3, q4, q5, q6⟩ := id hsm
    have e3 : s₂ = ({ (U.calling g mk a).setFrames s₂.frames with heap := s₂.heap, slotsUsed := s₂.slotsUsed } : State).setVm s₂.vm := by
      have : s₂ = ({ s₂ with vm := (U.calling g mk a).vm } : State).setVm s₂.vm := rfl
      rw [e2] at this
      exact this
    have hf₂ : s₂.frames = .throwing q :: .java g :: U.frames.tail := hend
    have hW' : U.WarmedH s₂.vm := hW₂
    have hs₂ : s₂ = ((({ U with heap := s₂.heap, slotsUsed := s₂.slotsUsed } : State).setVm s₂.vm).setTop g).pushFrame (.throwing q) := by
      refine e3.trans ?_
      rw [hf₂, State.calling_eq h.top, State.setFrames_setFrames, State.pushFrame, State.frames_setTop _ hr', State.setTop_of_frames _ hr', State.setFrames_setFrames, hr]
      rfl
    have hsame : U.sameButNew ({ U with heap := s₂.heap, slotsUsed := s₂.slotsUsed } : State) L mc ms := by
      refine ⟨?_, q2, q3, q4, q5, q6⟩
      obtain ⟨t, ht, -⟩ := State.frames_cons hr
      show ({ U with heap := s₂.heap, slotsUsed := s₂.slotsUsed } : State) = { U.setFrames U.frames with heap := s₂.heap, slotsUsed := s₂.slotsUsed }
      rw [State.setFrames_self ht]
    subst hg
    refine Or.inr ⟨q, ⟨(({ U with heap := s₂.heap, slotsUsed := s₂.slotsUsed } : State).setVm s₂.vm), Ls ++ L, c0 + mc, s0 + ms⟩,
      ⟨X.admits, X.cas, X.clock, X.frames, X.room, X.hears, X.method, X.code, (X.here.setHeapUsed s₂.heap s₂.slotsUsed).setVm hW'.alike, X.tail, State.WarmedH.trans X.warmed hW', X.limits, X.bytes, X.same.trans (hsame.setVm s.vm)⟩,
      ⟨g, mk, s₂, L, E, ce, rfl, rfl, hx, hce, hcv, hcl, rfl, hL, rfl, rfl⟩, ?_⟩
    show Steps p.tables e below _ (((({ U with heap := s₂.heap, slotsUsed := s₂.slotsUsed } : State).setVm s₂.vm).setTop g).pushFrame (.throwing q))
    rw [← hs₂]
    exact hsteps
end
variable {p : Program} {l : Launch} {e : Env} {R : Room} {s : State} {m : MethodId} {args : Array Value} {below : List Frame} {meth : Method} {c : Code} {T : State} {H : Heap} {locs : List Loc} {cells slots : Nat}
theorem vx_callVX (X : Stand p l e R s m args below meth c T locs cells slots) (hexec : p.tables.exec = Jvm.exec) {own C : String} {index : Nat} {y : MethodName} {bytes : ByteArray} {maxL : Nat} {ret : Option FieldType} {hh : List (Nat × Nat × Nat × Nat)}
    (hown : s.vm.findClass own = some m.cls) (hlink : (Cond.methodLink own index y).before args s = true) (hinst : (Cond.instanceMethod y).before args s = true) (hsel : (Cond.selects C y y).before args s = true)
    (hcode : (Cond.codeWith y bytes maxL ret hh).before args s = true) (hy : y.cls ≠ "java/lang/invoke/MethodHandle" ∧ y.cls ≠ "java/lang/invoke/VarHandle")
    {W9 : Nat} {Pre : Pt → Array Value → Prop} {Post : Pt → Array Value → Option Value → Pt → Prop} {PostX : Pt → Array Value → Addr → Pt → Prop} (hK : vx_Back l R p e below s args y 3 W9 Pre Post PostX)
    {b : Addr} {cellB : Cell} (hcell : T.heap[b]? = some cellB) (hobj : cellB.vm.isStatics = false) (hcls : s.vm.findClass C = some cellB.cls)
    {g : JFrame} (hg : g.method = m) (hsize : g.locals.size = c.maxLocals) {argsL rest : List Value} (hlen : ∀ sig, parseMethodDescriptor y.desc = some sig → argsL.length = sig.parameters.length)
    (hstack : g.stack = argsL.reverse ++ .ref b :: rest) (hW : 2 * g.monitorRoom + (rest.map fun v => v.category).sum ≤ W9) (hdg : decode c.code g.pc = .ok (.invokevirtual index, 3))
    (hpre : ∀ vm₁, s.WarmedH vm₁ → Pre ⟨T.setVm vm₁, locs, cells, slots⟩ (Value.ref b :: argsL).toArray) :
    (∃ (v : Option Value) (vm₁ : Vm) (B : Pt), s.WarmedH vm₁ ∧ Stand p l e R s m args below meth c B.U B.locs B.cells B.slots ∧ Post ⟨T.setVm vm₁, locs, cells, slots⟩ (Value.ref b :: argsL).toArray v B ∧
      ∀ target, Steps p.tables e below (B.U.setTop { g with pc := g.pc + 3, stack := v.toList ++ rest }) target → Steps p.tables e below (T.setTop g) target) ∨
    (∃ (q : Addr) (vm₁ : Vm) (B : Pt), s.WarmedH vm₁ ∧ Stand p l e R s m args below meth c B.U B.locs B.cells B.slots ∧ PostX ⟨T.setVm vm₁, locs, cells, slots⟩ (Value.ref b :: argsL).toArray q B ∧
      Steps p.tables e below (T.setTop g) ((B.U.setTop { g with stack := rest }).pushFrame (.throwing q))) := by
  obtain ⟨mk, methM, hnamed, hmethM, hstM, habM⟩ := Cond.instanceMethod_spec hinst
  obtain ⟨m8, methM', cM, hn8, hmethM', -, -, -, -, -, -, hsigM⟩ := Cond.codeWith_spec hcode
  cases Option.some.inj (hn8.symm.trans hnamed)
  cases hmethM.symm.trans hmethM'
  obtain ⟨c2, r2, m2, q1, q2, q3, q4, kP, hkP, hkPi⟩ := Cond.selects_spec hsel
  cases hcls.symm.trans q1
  cases (State.methodFound?_of_named hnamed hy).symm.trans q2
  cases hnamed.symm.trans q3
  have hselP : selectMethod e.platform s.vm cellB.cls mk = .method mk := by rw [Launch.admits_selectMethod X.admits]; exact q4
  obtain ⟨vm₁, X₁, hstep₁⟩ := X.invokevirtual hexec hown hlink hnamed hmethM hstM hkP hkPi hy (a := b) (cell := cellB) hcell
    (fun z h => by rw [h] at hobj; cases hobj) hselP hmethM habM hkP hkPi (g := g) hg (argsL := argsL) (rest := rest) (hlen _ hsigM) hstack hdg
  rcases hK m meth c ⟨T.setVm vm₁, locs, cells, slots⟩ { g with stack := rest } (.invokevirtual index) mk (Value.ref b :: argsL).toArray X₁ hg hsize hdg hW (X₁.named hnamed) (hpre vm₁ X₁.warmed) with ⟨v, B, X', hpost, hsteps⟩ | ⟨q, B, X', hpost, hsteps⟩
  · exact Or.inl ⟨v, vm₁, B, X₁.warmed, X', hpost, fun target h => hstep₁ _ fun acts => by rw [doInvoke_state]; exact hsteps.trans h⟩
  · exact Or.inr ⟨q, vm₁, B, X₁.warmed, X', hpost, hstep₁ _ fun acts => by rw [doInvoke_state]; exact hsteps⟩
theorem vx_callSX (X : Stand p l e R s m args below meth c T locs cells slots) (hexec : p.tables.exec = Jvm.exec) {own : String} {index : Nat} {y : MethodName} {bytes : ByteArray} {maxL : Nat} {ret : Option FieldType} {hh : List (Nat × Nat × Nat × Nat)}
    (hown : s.vm.findClass own = some m.cls) (hlink : (Cond.methodLink own index y).before args s = true) (hstat : (Cond.static y).before args s = true) (hinit : (Cond.initialized y.cls).before args s = true)
    (hcode : (Cond.codeWith y bytes maxL ret hh).before args s = true) (hy : y.cls ≠ "java/lang/invoke/MethodHandle" ∧ y.cls ≠ "java/lang/invoke/VarHandle")
    {W9 : Nat} {Pre : Pt → Array Value → Prop} {Post : Pt → Array Value → Option Value → Pt → Prop} {PostX : Pt → Array Value → Addr → Pt → Prop} (hK : vx_Back l R p e below s args y 3 W9 Pre Post PostX)
    {g : JFrame} (hg : g.method = m) (hsize : g.locals.size = c.maxLocals) {argsL rest : List Value} (hlen : ∀ sig, parseMethodDescriptor y.desc = some sig → argsL.length = sig.parameters.length)
    (hstack : g.stack = argsL.reverse ++ rest) (hW : 2 * g.monitorRoom + (rest.map fun v => v.category).sum ≤ W9) (hdg : decode c.code g.pc = .ok (.invokestatic index, 3))
    (hpre : ∀ vm₁, s.WarmedH vm₁ → Pre ⟨T.setVm vm₁, locs, cells, slots⟩ argsL.toArray) :
    (∃ (v : Option Value) (vm₁ : Vm) (B : Pt), s.WarmedH vm₁ ∧ Stand p l e R s m args below meth c B.U B.locs B.cells B.slots ∧ Post ⟨T.setVm vm₁, locs, cells, slots⟩ argsL.toArray v B ∧
      ∀ target, Steps p.tables e below (B.U.setTop { g with pc := g.pc + 3, stack := v.toList ++ rest }) target → Steps p.tables e below (T.setTop g) target) ∨
    (∃ (q : Addr) (vm₁ : Vm) (B : Pt), s.WarmedH vm₁ ∧ Stand p l e R s m args below meth c B.U B.locs B.cells B.slots ∧ PostX ⟨T.setVm vm₁, locs, cells, slots⟩ argsL.toArray q B ∧
      Steps p.tables e below (T.setTop g) ((B.U.setTop { g with stack := rest }).pushFrame (.throwing q))) := by
  obtain ⟨mk, methM, cM, hnamed, hmethM, -, -, -, -, -, -, hsigM⟩ := Cond.codeWith_spec hcode
  have hstatic : methM.isStatic = true := Cond.static_spec hnamed hmethM hstat
  obtain ⟨kP, hkP, -⟩ := className_of_methodNamed hnamed
  have hinitP : kP.init = .initialized := Cond.initialized_spec (findClass_of_methodNamed hnamed) hkP hinit
  obtain ⟨vm₁, X₁, hstep₁⟩ := X.invokestatic hexec hown hlink hnamed hmethM hstatic hkP hinitP hy (g := g) hg (argsL := argsL) (rest := rest) (hlen _ hsigM) hstack hdg
  rcases hK m meth c ⟨T.setVm vm₁, locs, cells, slots⟩ { g with stack := rest } (.invokestatic index) mk argsL.toArray X₁ hg hsize hdg hW (X₁.named hnamed) (hpre vm₁ X₁.warmed) with ⟨v, B, X', hpost, hsteps⟩ | ⟨q, B, X', hpost, hsteps⟩
  · exact Or.inl ⟨v, vm₁, B, X₁.warmed, X', hpost, fun target h => hstep₁ _ fun acts => by rw [doInvoke_state]; exact hsteps.trans h⟩
  · exact Or.inr ⟨q, vm₁, B, X₁.warmed, X', hpost, hstep₁ _ fun acts => by rw [doInvoke_state]; exact hsteps⟩
theorem vx_callVW (X : Stand p l e R s m args below meth c T locs cells slots) (hexec : p.tables.exec = Jvm.exec) {own C : String} {index : Nat} {y : MethodName} {bytes : ByteArray} {maxL : Nat} {ret : Option FieldType} {hh : List (Nat × Nat × Nat × Nat)}
    (hown : s.vm.findClass own = some m.cls) (hlink : (Cond.methodLink own index y).before args s = true) (hinst : (Cond.instanceMethod y).before args s = true) (hsel : (Cond.selects C y y).before args s = true)
    (hcode : (Cond.codeWith y bytes maxL ret hh).before args s = true) (hy : y.cls ≠ "java/lang/invoke/MethodHandle" ∧ y.cls ≠ "java/lang/invoke/VarHandle")
    {W9 : Nat} {Pre : Pt → Array Value → Prop} {Post : Pt → Array Value → Option Value → Pt → Prop} (hK : Back l R p e below s args y 3 W9 Pre Post)
    {b : Addr} {cellB : Cell} (hcell : T.heap[b]? = some cellB) (hobj : cellB.vm.isStatics = false) (hcls : s.vm.findClass C = some cellB.cls)
    {g : JFrame} (hg : g.method = m) (hsize : g.locals.size = c.maxLocals) {argsL rest : List Value} (hlen : ∀ sig, parseMethodDescriptor y.desc = some sig → argsL.length = sig.parameters.length)
    (hstack : g.stack = argsL.reverse ++ .ref b :: rest) (hW : 2 * g.monitorRoom + (rest.map fun v => v.category).sum ≤ W9) (hdg : decode c.code g.pc = .ok (.invokevirtual index, 3))
    (hpre : ∀ vm₁, s.WarmedH vm₁ → Pre ⟨T.setVm vm₁, locs, cells, slots⟩ (Value.ref b :: argsL).toArray) :
    ∃ (v : Option Value) (vm₁ : Vm) (B : Pt), s.WarmedH vm₁ ∧ Stand p l e R s m args below meth c B.U B.locs B.cells B.slots ∧ Post ⟨T.setVm vm₁, locs, cells, slots⟩ (Value.ref b :: argsL).toArray v B ∧
      ∀ target, Steps p.tables e below (B.U.setTop { g with pc := g.pc + 3, stack := v.toList ++ rest }) target → Steps p.tables e below (T.setTop g) target := by
  obtain ⟨mk, methM, hnamed, hmethM, hstM, habM⟩ := Cond.instanceMethod_spec hinst
  obtain ⟨m8, methM', cM, hn8, hmethM', -, -, -, -, -, -, hsigM⟩ := Cond.codeWith_spec hcode
  cases Option.some.inj (hn8.symm.trans hnamed)
  cases hmethM.symm.trans hmethM'
  obtain ⟨c2, r2, m2, q1, q2, q3, q4, kP, hkP, hkPi⟩ := Cond.selects_spec hsel
  cases hcls.symm.trans q1
  cases (State.methodFound?_of_named hnamed hy).symm.trans q2
  cases hnamed.symm.trans q3
  have hselP : selectMethod e.platform s.vm cellB.cls mk = .method mk := by rw [Launch.admits_selectMethod X.admits]; exact q4
  obtain ⟨vm₁, X₁, hstep₁⟩ := X.invokevirtual hexec hown hlink hnamed hmethM hstM hkP hkPi hy (a := b) (cell := cellB) hcell
    (fun z h => by rw [h] at hobj; cases hobj) hselP hmethM habM hkP hkPi (g := g) hg (argsL := argsL) (rest := rest) (hlen _ hsigM) hstack hdg
  obtain ⟨v, B, X', hpost, hsteps⟩ := hK m meth c ⟨T.setVm vm₁, locs, cells, slots⟩ { g with stack := rest } (.invokevirtual index) mk (Value.ref b :: argsL).toArray X₁ hg hsize hdg hW (X₁.named hnamed) (hpre vm₁ X₁.warmed)
  exact ⟨v, vm₁, B, X₁.warmed, X', hpost, fun target h => hstep₁ _ fun acts => by rw [doInvoke_state]; exact hsteps.trans h⟩
abbrev vx_CVW (R : Room) (s : State) (args : Array Value) (own C : String) (index : Nat) (y : MethodName) (bytes : ByteArray) (maxL : Nat) (ret : Option FieldType) (hh : List (Nat × Nat × Nat × Nat)) (ws : List Cond) (rm : Room) (mc ms n : Nat) : Prop :=
  (rm.cells = mc ∧ rm.slots = ms ∧ rm.frames + 1 ≤ R.frames ∧ 8 + (maxL + 11) + rm.locals ≤ R.locals ∧ (∀ w ∈ ws, ∀ (a' : Array Value) (U : State), s.WarmedH U.vm → w.before a' U = true) ∧ Cond.codeWith y bytes maxL ret hh ∈ ws) ∧
  (Cond.codeWith y bytes maxL ret hh).before args s = true ∧ (Cond.initialized y.cls).before args s = true ∧ (y.cls ≠ "java/lang/invoke/MethodHandle" ∧ y.cls ≠ "java/lang/invoke/VarHandle") ∧
  (∀ sig, parseMethodDescriptor y.desc = some sig → n = sig.parameters.length) ∧ (Cond.methodLink own index y).before args s = true ∧ (Cond.instanceMethod y).before args s = true ∧ (Cond.selects C y y).before args s = true
theorem vx_cwVW {own C : String} {index maxL mc ms : Nat} {y : MethodName} {bytes : ByteArray} {ret : Option FieldType} {hh : List (Nat × Nat × Nat × Nat)} {Ts ws ws' : List Cond} {rm : Room} (n : Nat) (ht : ∀ w ∈ Ts, w.before args s = true) (hT : GoodIn Ts (wsV own index C y ws)) (hw : ws = Cond.codeWith y bytes maxL ret hh :: ws') (hrc : rm.cells = mc) (hrs : rm.slots = ms)
    (hd : y.cls = C ∧ y.cls ≠ "java/lang/invoke/MethodHandle" ∧ y.cls ≠ "java/lang/invoke/VarHandle" ∧ (parseMethodDescriptor y.desc).map (fun d => d.parameters.length) = some n) (hR : rm.frames + 1 ≤ R.frames ∧ 8 + (maxL + 11) + rm.locals ≤ R.locals) :
    vx_CVW R s args own C index y bytes maxL ret hh ws rm mc ms n := by
  obtain ⟨hC, hd⟩ := hd
  subst hC
  have ok : ∀ w ∈ wsV own index y.cls y ws, w.before args s = true := fun w h => ht w (hT w h).1
  have hG : GoodIn Ts ws := fun w h => hT w (by unfold wsV; exact List.mem_append_right _ h)
  have hc : Cond.codeWith y bytes maxL ret hh ∈ ws := by rw [hw]; exact List.mem_cons_self
  refine ⟨⟨hrc, hrs, hR.1, hR.2, pay_in ht hG, hc⟩, ht _ (hG _ hc).1, ok _ (by simp [wsV]), ⟨hd.1, hd.2.1⟩, fun sig h => ?_, ok _ (by simp [wsV]), ok _ (by simp [wsV]), ok _ (by simp [wsV])⟩
  have h2 := hd.2.2
  rw [h] at h2
  exact (Option.some.inj h2).symm
theorem vx_runVW {y : MethodName} {bytes cc : ByteArray} {maxL nL mc ms n index : Nat} {ret : Option FieldType} {hh : List (Nat × Nat × Nat × Nat)} {ws : List Cond} {rm : Room} {Pc : Array Value → State → Prop} {Qc : Array Value → State → Outcome → State → Prop} {free : Addr → Prop} {Ts : List Cond} {own C : String} {b : Addr} {As rest : List Value} {g : JFrame}
    (S : CallFix p m c cc nL s args Ts own) (hM : Met l y ws rm Pc Qc mc ms free) (cw : vx_CVW R s args own C index y bytes maxL ret hh ws rm mc ms n) (hp : PreV s H C b Pc As)
    (hg : g.method = m) (hn : As.length = n) (hsize : g.locals.size = nL) (hstack : g.stack = As.reverse ++ .ref b :: rest) (hW : 2 * g.monitorRoom + (rest.map fun v => v.category).sum ≤ 8) (hdg : decode cc g.pc = .ok (.invokevirtual index, 3)) (hf : cells + mc ≤ R.cells ∧ slots + ms ≤ R.slots) :
    va_Run p l e R s m args below meth c H locs cells slots mc ms g rest (Qc (Value.ref b :: As).toArray) free := by
  obtain ⟨⟨hrc, hrs, hfr, hlo, hws, hcw⟩, hcode, hini, hy, hlen, hl, hin, hse⟩ := cw
  have hK : Back l R p e below s args y 3 8 (PreOf R mc ms Pc) (PostOf Qc mc ms free) := va_backW (hh := hh) (bytes := bytes) (maxL := maxL) (ret := ret) hM hp.1 hrc hrs hfr hlo hws hcw (fun a' U hW => word_at hW (Or.inl (by first | rfl | simp [Cond.onTables, Cond.keeps, Cond.steady])) hini)
  obtain ⟨hx, hb, hml, ho, -⟩ := S
  obtain ⟨-, ⟨cellB, hcB, hoB, hclB⟩, hPc⟩ := hp
  intro T hT X
  obtain ⟨v, vm₁, ⟨U', l2, c2, s2⟩, hW₁, X', ⟨g', mk, t, L, e1, e2, hq, h1, hL, h2, h3⟩, st⟩ := vx_callVW X hx (C := C) (hh := hh) (bytes := bytes) (maxL := maxL) (ret := ret) ho hl hin hse hcode hy hK (by rw [hT]; exact hcB) hoB hclB hg (hsize.trans hml.symm) (argsL := As) (rest := rest) (fun sig h => hn.trans (hlen sig h)) hstack hW (by rw [hb]; exact hdg)
    (fun vm₁ hW₁ => ⟨hf.1, hf.2, hPc (T.setVm vm₁) hT hW₁⟩)
  dsimp only [Pt.U, Pt.locs, Pt.cells, Pt.slots] at X' e1 e2 h1 h2 h3 st
  subst h1; subst h2; subst h3
  exact ⟨v, (T.setVm vm₁).calling g' mk (Value.ref b :: As).toArray, t, U', L, hT, X', hL, e1, e2, hq, st⟩
section
variable {y : MethodName} {bytes cc : ByteArray} {maxL nL mc ms n index : Nat} {ret : Option FieldType} {ws : List Cond} {rm : Room} {Pc : Array Value → State → Prop} {Qc : Array Value → State → Outcome → State → Prop} {XC : String → State → State → Prop} {free : Addr → Prop} {Ts : List Cond} {own C : String} {b : Addr} {As rest : List Value} {g : JFrame}
theorem vx_runVX {hh : List (Nat × Nat × Nat × Nat)} (S : CallFix p m c cc nL s args Ts own) (hM : vx_Met l y ws rm Pc Qc XC mc ms free) (cw : vx_CVW R s args own C index y bytes maxL ret hh ws rm mc ms n) (hp : PreV s H C b Pc As)
    (hg : g.method = m) (hn : As.length = n) (hsize : g.locals.size = nL) (hstack : g.stack = As.reverse ++ .ref b :: rest) (hW : 2 * g.monitorRoom + (rest.map fun v => v.category).sum ≤ 8) (hdg : decode cc g.pc = .ok (.invokevirtual index, 3)) (hf : cells + mc ≤ R.cells ∧ slots + ms ≤ R.slots) :
    vx_Run p l e R s m args below meth c H locs cells slots mc ms g rest (Qc (Value.ref b :: As).toArray) XC free := by
  obtain ⟨⟨hrc, hrs, hfr, hlo, hws, hcw⟩, hcode, hini, hy, hlen, hl, hin, hse⟩ := cw
  have hK : vx_Back l R p e below s args y 3 8 (PreOf R mc ms Pc) (PostOf Qc mc ms free) (vx_Post XC mc ms free) := vx_backW (hh := hh) (bytes := bytes) (maxL := maxL) (ret := ret) hM hp.1 hrc hrs hfr hlo hws hcw (fun a' U hW => word_at hW (Or.inl (by first | rfl | simp [Cond.onTables, Cond.keeps, Cond.steady])) hini)
  obtain ⟨hx, hb, hml, ho, -⟩ := S
  obtain ⟨-, ⟨cellB, hcB, hoB, hclB⟩, hPc⟩ := hp
  intro T hT X
  rcases vx_callVX X hx (C := C) (hh := hh) (bytes := bytes) (maxL := maxL) (ret := ret) ho hl hin hse hcode hy hK (by rw [hT]; exact hcB) hoB hclB hg (hsize.trans hml.symm) (argsL := As) (rest := rest) (fun sig h => hn.trans (hlen sig h)) hstack hW (by rw [hb]; exact hdg)
    (fun vm₁ hW₁ => ⟨hf.1, hf.2, hPc (T.setVm vm₁) hT hW₁⟩) with ⟨v, vm₁, ⟨U', l2, c2, s2⟩, hW₁, X', ⟨g', mk, t, L, e1, e2, hq, h1, hL, h2, h3⟩, st⟩ | ⟨q, vm₁, ⟨U', l2, c2, s2⟩, hW₁, X', ⟨g', mk, t, L, E, ce, e1, e2, hq, hce, hcv, hcl, h1, hL, h2, h3⟩, st⟩
  · dsimp only [Pt.U, Pt.locs, Pt.cells, Pt.slots] at X' e1 e2 h1 h2 h3 st
    subst h1; subst h2; subst h3
    exact Or.inl ⟨v, (T.setVm vm₁).calling g' mk (Value.ref b :: As).toArray, t, U', L, hT, X', hL, e1, e2, hq, st⟩
  · dsimp only [Pt.U, Pt.locs, Pt.cells, Pt.slots] at X' e1 e2 h1 h2 h3 st hcl
    subst h1; subst h2; subst h3
    exact Or.inr ⟨q, (T.setVm vm₁).calling g' mk (Value.ref b :: As).toArray, t, U', L, E, ce, hT, X', hL, e1, e2, hq, hce, hcv, vx_cls hW₁ hcl, st⟩
theorem vx_runSX {hh : List (Nat × Nat × Nat × Nat)} (S : CallFix p m c cc nL s args Ts own) (hM : vx_Met l y ws rm Pc Qc XC mc ms free) (cw : vx_CSW R s args own index y bytes maxL ret hh ws rm mc ms n) (hp : PreS s H Pc As)
    (hg : g.method = m) (hn : As.length = n) (hsize : g.locals.size = nL) (hstack : g.stack = As.reverse ++ rest) (hW : 2 * g.monitorRoom + (rest.map fun v => v.category).sum ≤ 8) (hdg : decode cc g.pc = .ok (.invokestatic index, 3)) (hf : cells + mc ≤ R.cells ∧ slots + ms ≤ R.slots) :
    vx_Run p l e R s m args below meth c H locs cells slots mc ms g rest (Qc As.toArray) XC free := by
  obtain ⟨⟨hrc, hrs, hfr, hlo, hws, hcw⟩, hcode, hini, hy, hlen, hl, hstt⟩ := cw
  have hK : vx_Back l R p e below s args y 3 8 (PreOf R mc ms Pc) (PostOf Qc mc ms free) (vx_Post XC mc ms free) := vx_backW (hh := hh) (bytes := bytes) (maxL := maxL) (ret := ret) hM hp.1 hrc hrs hfr hlo hws hcw (fun a' U hW => word_at hW (Or.inl (by first | rfl | simp [Cond.onTables, Cond.keeps, Cond.steady])) hini)
  obtain ⟨hx, hb, hml, ho, -⟩ := S
  intro T hT X
  rcases vx_callSX X hx (hh := hh) (bytes := bytes) (maxL := maxL) (ret := ret) ho hl hstt hini hcode hy hK hg (hsize.trans hml.symm) (argsL := As) (rest := rest) (fun sig h => hn.trans (hlen sig h)) hstack hW (by rw [hb]; exact hdg)
    (fun vm₁ hW₁ => ⟨hf.1, hf.2, hp.2 (T.setVm vm₁) hT hW₁⟩) with ⟨v, vm₁, ⟨U', l2, c2, s2⟩, hW₁, X', ⟨g', mk, t, L, e1, e2, hq, h1, hL, h2, h3⟩, st⟩ | ⟨q, vm₁, ⟨U', l2, c2, s2⟩, hW₁, X', ⟨g', mk, t, L, E, ce, e1, e2, hq, hce, hcv, hcl, h1, hL, h2, h3⟩, st⟩
  · dsimp only [Pt.U, Pt.locs, Pt.cells, Pt.slots] at X' e1 e2 h1 h2 h3 st
    subst h1; subst h2; subst h3
    exact Or.inl ⟨v, (T.setVm vm₁).calling g' mk As.toArray, t, U', L, hT, X', hL, e1, e2, hq, st⟩
  · dsimp only [Pt.U, Pt.locs, Pt.cells, Pt.slots] at X' e1 e2 h1 h2 h3 st hcl
    subst h1; subst h2; subst h3
    exact Or.inr ⟨q, (T.setVm vm₁).calling g' mk As.toArray, t, U', L, E, ce, hT, X', hL, e1, e2, hq, hce, hcv, vx_cls hW₁ hcl, st⟩
end
end VXH
theorem vx_ofWH {l : Launch} {y : MethodName} {ws ws' : List Cond} {rm : Room} {Pc : Array Value → State → Prop} {Qc : Array Value → State → Outcome → State → Prop} {XC : String → State → State → Prop} {mc ms : Nat} {free : Addr → Prop} {cc : ByteArray} {maxL : Nat} {ret : Option FieldType} {hh : List (Nat × Nat × Nat × Nat)}
    (hy : plainName y.cls = true) (hw : ws = Cond.codeWith y cc maxL ret hh :: ws')
    (body : ∀ p e s m args below meth c s₁, BodyLoose p l y (headSpec ws rm) cc maxL ret e s m args below meth c s₁ → c.maxLocals = maxL → Pc args s →
      W p l e (headSpec ws rm).room s m args below meth c s.heap [] 0 0 (vx_MQ below Qc XC args s mc ms free) (entryFrame m args maxL)) : vx_Met l y ws rm Pc Qc XC mc ms free := by
  refine MetFree.of_bodyS (code := cc) (maxLocals := maxL) (ret := ret) hy ?_ ?_
  · intro args s m h hn
    obtain ⟨m9, meth, c, hn9, h1, h2, h3, h4, -, h5, h6, -⟩ := Cond.codeWith_spec (atoms_spec (ws := ws) h _ (by rw [hw]; exact List.mem_cons_self))
    cases hn.symm.trans hn9
    exact ⟨meth, c, h1, h2, h3, h4, h5, h6⟩
  · intro p e s m args below meth c s₁ B hml hP _
    have hh0 : s₁.heap = s.heap := by rw [B.state]; rfl
    obtain ⟨t, a1, o, b1, b2, b3⟩ := body p e s m args below meth c s₁ B hml hP s₁ hh0 (Stand.of_body B)
    exact ⟨t, o, a1, b1, b2, b3⟩
/-! ===== END ===== -/
end
section
def RX0 : String := "RoamBooks$Account"
def TX0 : u_T := fun k => match k with
  | 0 => ("RoamBooks$Account", "records", "Ljava/util/ArrayList;", true)
  | 1 => ("RoamBooks$Account", "files", "I", false)
  | _ => ("RoamBooks$Account", "filesTaken", "I", false)
def tyX0 : Nat → FieldType := fun k => match k with
  | 0 => .object "java/util/ArrayList"
  | 1 => .int
  | _ => .int
theorem nmX0 : ∀ a, a < 3 → ∀ b, b < 3 → a ≠ b → (TX0 a).2.1 ≠ (TX0 b).2.1 := by decide +kernel
theorem tyX0_ok : ∀ k, k < 3 → parseFieldDescriptor (TX0 k).2.2.1 = some (tyX0 k) := by decide +kernel
abbrev cX0_init : ByteArray := prog_2_method_1_code
def yX0_init : MethodName := ⟨RX0, "<init>", "()V"⟩
abbrev cX0_minutesThatAre : ByteArray := prog_2_method_2_code
def yX0_minutesThatAre : MethodName := ⟨RX0, "minutesThatAre", "(I)I"⟩
abbrev cX0_hasUnfiled : ByteArray := prog_2_method_3_code
def yX0_hasUnfiled : MethodName := ⟨RX0, "hasUnfiled", "()Z"⟩
abbrev cX0_fileTheRest : ByteArray := prog_2_method_4_code
def yX0_fileTheRest : MethodName := ⟨RX0, "fileTheRest", "()I"⟩
abbrev cX0_takeNextFile : ByteArray := prog_2_method_5_code
def yX0_takeNextFile : MethodName := ⟨RX0, "takeNextFile", "(I)I"⟩
abbrev cX0_owed : ByteArray := prog_2_method_6_code
def yX0_owed : MethodName := ⟨RX0, "owed", "()I"⟩
abbrev cX0_owedFileByFile : ByteArray := prog_2_method_7_code
def yX0_owedFileByFile : MethodName := ⟨RX0, "owedFileByFile", "()I"⟩
abbrev cX0_minutesTakenIn : ByteArray := prog_2_method_8_code
def yX0_minutesTakenIn : MethodName := ⟨RX0, "minutesTakenIn", "(I)I"⟩
abbrev cX0_owedIn : ByteArray := prog_2_method_9_code
def yX0_owedIn : MethodName := ⟨RX0, "owedIn", "(II)I"⟩
def RX1 : String := "RoamBooks$Agreement"
def TX1 : u_T := fun k => match k with
  | 0 => ("RoamBooks$Agreement", "home", "I", true)
  | 1 => ("RoamBooks$Agreement", "visited", "I", true)
  | 2 => ("RoamBooks$Agreement", "from", "I", true)
  | 3 => ("RoamBooks$Agreement", "to", "I", true)
  | 4 => ("RoamBooks$Agreement", "price", "I", true)
  | 5 => ("RoamBooks$Agreement", "threshold", "I", true)
  | _ => ("RoamBooks$Agreement", "lower", "I", true)
def tyX1 : Nat → FieldType := fun k => match k with
  | 0 => .int
  | 1 => .int
  | 2 => .int
  | 3 => .int
  | 4 => .int
  | 5 => .int
  | _ => .int
theorem nmX1 : ∀ a, a < 7 → ∀ b, b < 7 → a ≠ b → (TX1 a).2.1 ≠ (TX1 b).2.1 := by decide +kernel
theorem tyX1_ok : ∀ k, k < 7 → parseFieldDescriptor (TX1 k).2.2.1 = some (tyX1 k) := by decide +kernel
abbrev cX1_init : ByteArray := prog_3_method_1_code
def yX1_init : MethodName := ⟨RX1, "<init>", "(IIIIIII)V"⟩
abbrev cX1_holds : ByteArray := prog_3_method_2_code
def yX1_holds : MethodName := ⟨RX1, "holds", "(III)Z"⟩
abbrev cX1_priceAt : ByteArray := prog_3_method_3_code
def yX1_priceAt : MethodName := ⟨RX1, "priceAt", "(I)I"⟩
def RX2 : String := "RoamBooks$Book"
def TX2 : u_T := fun k => match k with
  | _ => ("RoamBooks$Book", "contacts", "[I", true)
def tyX2 : Nat → FieldType := fun k => match k with
  | _ => .array .int
theorem nmX2 : ∀ a, a < 1 → ∀ b, b < 1 → a ≠ b → (TX2 a).2.1 ≠ (TX2 b).2.1 := by decide +kernel
theorem tyX2_ok : ∀ k, k < 1 → parseFieldDescriptor (TX2 k).2.2.1 = some (tyX2 k) := by decide +kernel
abbrev cX2_init : ByteArray := prog_4_method_1_code
def yX2_init : MethodName := ⟨RX2, "<init>", "()V"⟩
abbrev cX2_latest : ByteArray := prog_4_method_2_code
def yX2_latest : MethodName := ⟨RX2, "latest", "(I)I"⟩
abbrev cX2_has : ByteArray := prog_4_method_3_code
def yX2_has : MethodName := ⟨RX2, "has", "(I)Z"⟩
abbrev cX2_put : ByteArray := prog_4_method_4_code
def yX2_put : MethodName := ⟨RX2, "put", "(II)V"⟩
abbrev cX2_takeOut : ByteArray := prog_4_method_5_code
def yX2_takeOut : MethodName := ⟨RX2, "takeOut", "(I)V"⟩
abbrev cX2_takeOutUpTo : ByteArray := prog_4_method_6_code
def yX2_takeOutUpTo : MethodName := ⟨RX2, "takeOutUpTo", "(I)V"⟩
abbrev cX2_clear : ByteArray := prog_4_method_7_code
def yX2_clear : MethodName := ⟨RX2, "clear", "()V"⟩
abbrev cX2_count : ByteArray := prog_4_method_8_code
def yX2_count : MethodName := ⟨RX2, "count", "()I"⟩
abbrev cX2_isLine : ByteArray := prog_4_method_9_code
def yX2_isLine : MethodName := ⟨RX2, "isLine", "(I)Z"⟩
def RX3 : String := "RoamBooks$Call"
def TX3 : u_T := fun k => match k with
  | 0 => ("RoamBooks$Call", "caller", "I", true)
  | 1 => ("RoamBooks$Call", "callerPaid", "I", true)
  | 2 => ("RoamBooks$Call", "called", "I", true)
  | _ => ("RoamBooks$Call", "calledPaid", "I", true)
def tyX3 : Nat → FieldType := fun k => match k with
  | 0 => .int
  | 1 => .int
  | 2 => .int
  | _ => .int
theorem nmX3 : ∀ a, a < 4 → ∀ b, b < 4 → a ≠ b → (TX3 a).2.1 ≠ (TX3 b).2.1 := by decide +kernel
theorem tyX3_ok : ∀ k, k < 4 → parseFieldDescriptor (TX3 k).2.2.1 = some (tyX3 k) := by decide +kernel
abbrev cX3_init : ByteArray := prog_5_method_1_code
def yX3_init : MethodName := ⟨RX3, "<init>", "(IIII)V"⟩
abbrev cX3_paidBy : ByteArray := prog_5_method_2_code
def yX3_paidBy : MethodName := ⟨RX3, "paidBy", "(I)I"⟩
def RX4 : String := "RoamBooks$CallRecord"
def TX4 : u_T := fun k => match k with
  | 0 => ("RoamBooks$CallRecord", "minutes", "I", true)
  | 1 => ("RoamBooks$CallRecord", "made", "I", true)
  | 2 => ("RoamBooks$CallRecord", "agreement", "LRoamBooks$Agreement;", true)
  | 3 => ("RoamBooks$CallRecord", "state", "I", false)
  | _ => ("RoamBooks$CallRecord", "inFile", "I", false)
def tyX4 : Nat → FieldType := fun k => match k with
  | 0 => .int
  | 1 => .int
  | 2 => .object "RoamBooks$Agreement"
  | 3 => .int
  | _ => .int
theorem nmX4 : ∀ a, a < 5 → ∀ b, b < 5 → a ≠ b → (TX4 a).2.1 ≠ (TX4 b).2.1 := by decide +kernel
theorem tyX4_ok : ∀ k, k < 5 → parseFieldDescriptor (TX4 k).2.2.1 = some (tyX4 k) := by decide +kernel
abbrev cX4_init : ByteArray := prog_6_method_1_code
def yX4_init : MethodName := ⟨RX4, "<init>", "(IILRoamBooks$Agreement;)V"⟩
abbrev cX4_owed : ByteArray := prog_6_method_2_code
def yX4_owed : MethodName := ⟨RX4, "owed", "(I)I"⟩
def RX5 : String := "RoamBooks$Network"
def TX5 : u_T := fun k => match k with
  | 0 => ("RoamBooks$Network", "book", "LRoamBooks$Book;", true)
  | 1 => ("RoamBooks$Network", "dead", "Z", false)
  | 2 => ("RoamBooks$Network", "favourite", "I", false)
  | 3 => ("RoamBooks$Network", "priceAtHome", "I", false)
  | 4 => ("RoamBooks$Network", "priceAbroad", "I", false)
  | 5 => ("RoamBooks$Network", "priceCalled", "I", false)
  | _ => ("RoamBooks$Network", "noticesToLose", "I", false)
def tyX5 : Nat → FieldType := fun k => match k with
  | 0 => .object "RoamBooks$Book"
  | 1 => .boolean
  | 2 => .int
  | 3 => .int
  | 4 => .int
  | 5 => .int
  | _ => .int
theorem nmX5 : ∀ a, a < 7 → ∀ b, b < 7 → a ≠ b → (TX5 a).2.1 ≠ (TX5 b).2.1 := by decide +kernel
theorem tyX5_ok : ∀ k, k < 7 → parseFieldDescriptor (TX5 k).2.2.1 = some (tyX5 k) := by decide +kernel
abbrev cX5_init : ByteArray := prog_7_method_1_code
def yX5_init : MethodName := ⟨RX5, "<init>", "()V"⟩
def RX6 : String := "RoamBooks$Subscriber"
def TX6 : u_T := fun k => match k with
  | 0 => ("RoamBooks$Subscriber", "number", "I", true)
  | 1 => ("RoamBooks$Subscriber", "home", "I", true)
  | 2 => ("RoamBooks$Subscriber", "forbidden", "I", true)
  | 3 => ("RoamBooks$Subscriber", "place", "I", false)
  | 4 => ("RoamBooks$Subscriber", "attached", "I", false)
  | 5 => ("RoamBooks$Subscriber", "note", "I", false)
  | 6 => ("RoamBooks$Subscriber", "steered", "I", false)
  | 7 => ("RoamBooks$Subscriber", "cap", "I", false)
  | 8 => ("RoamBooks$Subscriber", "consents", "Z", false)
  | 9 => ("RoamBooks$Subscriber", "paid", "I", false)
  | _ => ("RoamBooks$Subscriber", "paidAbroad", "I", false)
def tyX6 : Nat → FieldType := fun k => match k with
  | 0 => .int
  | 1 => .int
  | 2 => .int
  | 3 => .int
  | 4 => .int
  | 5 => .int
  | 6 => .int
  | 7 => .int
  | 8 => .boolean
  | 9 => .int
  | _ => .int
theorem nmX6 : ∀ a, a < 11 → ∀ b, b < 11 → a ≠ b → (TX6 a).2.1 ≠ (TX6 b).2.1 := by decide +kernel
theorem tyX6_ok : ∀ k, k < 11 → parseFieldDescriptor (TX6 k).2.2.1 = some (tyX6 k) := by decide +kernel
abbrev cX6_init : ByteArray := prog_8_method_1_code
def yX6_init : MethodName := ⟨RX6, "<init>", "(IIII)V"⟩
abbrev cX6_isAbroad : ByteArray := prog_8_method_2_code
def yX6_isAbroad : MethodName := ⟨RX6, "isAbroad", "()Z"⟩
abbrev cX6_wouldComeAboveCap : ByteArray := prog_8_method_3_code
def yX6_wouldComeAboveCap : MethodName := ⟨RX6, "wouldComeAboveCap", "(I)Z"⟩
abbrev cX6_isWarned : ByteArray := prog_8_method_4_code
def yX6_isWarned : MethodName := ⟨RX6, "isWarned", "()Z"⟩
def RX7 : String := "RoamBooks"
def TX7 : u_T := fun k => match k with
  | 0 => ("RoamBooks", "received", "[I", true)
  | 1 => ("RoamBooks", "networks", "[LRoamBooks$Network;", true)
  | 2 => ("RoamBooks", "accounts", "[LRoamBooks$Account;", true)
  | 3 => ("RoamBooks", "agreements", "Ljava/util/ArrayList;", true)
  | 4 => ("RoamBooks", "subscribers", "Ljava/util/ArrayList;", true)
  | 5 => ("RoamBooks", "calls", "Ljava/util/ArrayList;", true)
  | _ => ("RoamBooks", "minute", "I", false)
def tyX7 : Nat → FieldType := fun k => match k with
  | 0 => .array .int
  | 1 => .array (.object "RoamBooks$Network")
  | 2 => .array (.object "RoamBooks$Account")
  | 3 => .object "java/util/ArrayList"
  | 4 => .object "java/util/ArrayList"
  | 5 => .object "java/util/ArrayList"
  | _ => .int
theorem nmX7 : ∀ a, a < 7 → ∀ b, b < 7 → a ≠ b → (TX7 a).2.1 ≠ (TX7 b).2.1 := by decide +kernel
theorem tyX7_ok : ∀ k, k < 7 → parseFieldDescriptor (TX7 k).2.2.1 = some (tyX7 k) := by decide +kernel
abbrev cX7_init : ByteArray := prog_1_method_1_code
def yX7_init : MethodName := ⟨RX7, "<init>", "()V"⟩
abbrev cX7_reach : ByteArray := prog_1_method_2_code
def yX7_reach : MethodName := ⟨RX7, "reach", "(II)I"⟩
abbrev cX7_dead : ByteArray := prog_1_method_3_code
def yX7_dead : MethodName := ⟨RX7, "dead", "(IZ)Z"⟩
abbrev cX7_agree : ByteArray := prog_1_method_4_code
def yX7_agree : MethodName := ⟨RX7, "agree", "(IIIIIII)I"⟩
abbrev cX7_steer : ByteArray := prog_1_method_5_code
def yX7_steer : MethodName := ⟨RX7, "steer", "(II)I"⟩
abbrev cX7_prices : ByteArray := prog_1_method_6_code
def yX7_prices : MethodName := ⟨RX7, "prices", "(IIII)V"⟩
abbrev cX7_lose : ByteArray := prog_1_method_7_code
def yX7_lose : MethodName := ⟨RX7, "lose", "(II)I"⟩
abbrev cX7_crash : ByteArray := prog_1_method_8_code
def yX7_crash : MethodName := ⟨RX7, "crash", "(I)I"⟩
abbrev cX7_subscriber : ByteArray := prog_1_method_9_code
def yX7_subscriber : MethodName := ⟨RX7, "subscriber", "(III)I"⟩
abbrev cX7_move : ByteArray := prog_1_method_10_code
def yX7_move : MethodName := ⟨RX7, "move", "(II)I"⟩
abbrev cX7_off : ByteArray := prog_1_method_11_code
def yX7_off : MethodName := ⟨RX7, "off", "(I)I"⟩
abbrev cX7_attach : ByteArray := prog_1_method_12_code
def yX7_attach : MethodName := ⟨RX7, "attach", "(II)I"⟩
abbrev cX7_emergency : ByteArray := prog_1_method_13_code
def yX7_emergency : MethodName := ⟨RX7, "emergency", "(I)I"⟩
abbrev cX7_where : ByteArray := prog_1_method_14_code
def yX7_where : MethodName := ⟨RX7, "where", "(I)I"⟩
abbrev cX7_contact : ByteArray := prog_1_method_15_code
def yX7_contact : MethodName := ⟨RX7, "contact", "(II)I"⟩
abbrev cX7_agrees : ByteArray := prog_1_method_16_code
def yX7_agrees : MethodName := ⟨RX7, "agrees", "(I)Z"⟩
abbrev cX7_subscriberIs : ByteArray := prog_1_method_17_code
def yX7_subscriberIs : MethodName := ⟨RX7, "subscriberIs", "(II)I"⟩
abbrev cX7_cap : ByteArray := prog_1_method_18_code
def yX7_cap : MethodName := ⟨RX7, "cap", "(IIZ)V"⟩
abbrev cX7_call : ByteArray := prog_1_method_19_code
def yX7_call : MethodName := ⟨RX7, "call", "(III)I"⟩
abbrev cX7_paidAnew : ByteArray := prog_1_method_20_code
def yX7_paidAnew : MethodName := ⟨RX7, "paidAnew", "(I)I"⟩
abbrev cX7_file : ByteArray := prog_1_method_21_code
def yX7_file : MethodName := ⟨RX7, "file", "(II)I"⟩
abbrev cX7_deliver : ByteArray := prog_1_method_22_code
def yX7_deliver : MethodName := ⟨RX7, "deliver", "(III)I"⟩
abbrev cX7_owes : ByteArray := prog_1_method_23_code
def yX7_owes : MethodName := ⟨RX7, "owes", "(II)I"⟩
abbrev cX7_owesAnew : ByteArray := prog_1_method_24_code
def yX7_owesAnew : MethodName := ⟨RX7, "owesAnew", "(II)I"⟩
abbrev cX7_recorded : ByteArray := prog_1_method_25_code
def yX7_recorded : MethodName := ⟨RX7, "recorded", "(III)I"⟩
abbrev cX7_pass : ByteArray := prog_1_method_26_code
def yX7_pass : MethodName := ⟨RX7, "pass", "(I)I"⟩
abbrev cX7_requireRange : ByteArray := prog_1_method_27_code
def yX7_requireRange : MethodName := ⟨RX7, "requireRange", "(III)V"⟩
abbrev cX7_requireDifferent : ByteArray := prog_1_method_28_code
def yX7_requireDifferent : MethodName := ⟨RX7, "requireDifferent", "(II)V"⟩
abbrev cX7_requireRoom : ByteArray := prog_1_method_29_code
def yX7_requireRoom : MethodName := ⟨RX7, "requireRoom", "(II)V"⟩
abbrev cX7_requireNetwork : ByteArray := prog_1_method_30_code
def yX7_requireNetwork : MethodName := ⟨RX7, "requireNetwork", "(I)V"⟩
abbrev cX7_requirePlace : ByteArray := prog_1_method_31_code
def yX7_requirePlace : MethodName := ⟨RX7, "requirePlace", "(I)V"⟩
abbrev cX7_networkAt : ByteArray := prog_1_method_32_code
def yX7_networkAt : MethodName := ⟨RX7, "networkAt", "(I)LRoamBooks$Network;"⟩
abbrev cX7_receivedAt : ByteArray := prog_1_method_33_code
def yX7_receivedAt : MethodName := ⟨RX7, "receivedAt", "(I)I"⟩
abbrev cX7_subscriberAt : ByteArray := prog_1_method_34_code
def yX7_subscriberAt : MethodName := ⟨RX7, "subscriberAt", "(I)LRoamBooks$Subscriber;"⟩
abbrev cX7_accountOf : ByteArray := prog_1_method_35_code
def yX7_accountOf : MethodName := ⟨RX7, "accountOf", "(II)LRoamBooks$Account;"⟩
abbrev cX7_isIn : ByteArray := prog_1_method_36_code
def yX7_isIn : MethodName := ⟨RX7, "isIn", "(II)Z"⟩
abbrev cX7_detachIfNotReceived : ByteArray := prog_1_method_37_code
def yX7_detachIfNotReceived : MethodName := ⟨RX7, "detachIfNotReceived", "(LRoamBooks$Subscriber;)V"⟩
abbrev cX7_detachAllFrom : ByteArray := prog_1_method_38_code
def yX7_detachAllFrom : MethodName := ⟨RX7, "detachAllFrom", "(I)V"⟩
abbrev cX7_agreementNow : ByteArray := prog_1_method_39_code
def yX7_agreementNow : MethodName := ⟨RX7, "agreementNow", "(II)LRoamBooks$Agreement;"⟩
abbrev cX7_whyNotUsable : ByteArray := prog_1_method_40_code
def yX7_whyNotUsable : MethodName := ⟨RX7, "whyNotUsable", "(LRoamBooks$Subscriber;I)I"⟩
abbrev cX7_isSteered : ByteArray := prog_1_method_41_code
def yX7_isSteered : MethodName := ⟨RX7, "isSteered", "(LRoamBooks$Subscriber;I)Z"⟩
abbrev cX7_makeContact : ByteArray := prog_1_method_42_code
def yX7_makeContact : MethodName := ⟨RX7, "makeContact", "(LRoamBooks$Subscriber;I)V"⟩
abbrev cX7_beginHours : ByteArray := prog_1_method_43_code
def yX7_beginHours : MethodName := ⟨RX7, "beginHours", "(II)V"⟩
abbrev cX7_beginHour : ByteArray := prog_1_method_44_code
def yX7_beginHour : MethodName := ⟨RX7, "beginHour", "(I)V"⟩
abbrev cX7_beginMonth : ByteArray := prog_1_method_45_code
def yX7_beginMonth : MethodName := ⟨RX7, "beginMonth", "()V"⟩
abbrev cX7_whyNotFound : ByteArray := prog_1_method_46_code
def yX7_whyNotFound : MethodName := ⟨RX7, "whyNotFound", "(LRoamBooks$Subscriber;LRoamBooks$Subscriber;)I"⟩
abbrev cX7_priceOfCalling : ByteArray := prog_1_method_47_code
def yX7_priceOfCalling : MethodName := ⟨RX7, "priceOfCalling", "(LRoamBooks$Subscriber;)I"⟩
abbrev cX7_priceOfBeingCalled : ByteArray := prog_1_method_48_code
def yX7_priceOfBeingCalled : MethodName := ⟨RX7, "priceOfBeingCalled", "(LRoamBooks$Subscriber;)I"⟩
abbrev cX7_settle : ByteArray := prog_1_method_49_code
def yX7_settle : MethodName := ⟨RX7, "settle", "(LRoamBooks$Subscriber;II)V"⟩
def RX8 : String := "RoamBooksModel"
def TX8 : u_T := fun k => match k with
  | 0 => ("RoamBooksModel", "thrown", "I", false)
  | 1 => ("RoamBooksModel", "now", "I", false)
  | 2 => ("RoamBooksModel", "received", "[I", true)
  | 3 => ("RoamBooksModel", "isDead", "[Z", true)
  | 4 => ("RoamBooksModel", "favourite", "[I", true)
  | 5 => ("RoamBooksModel", "price", "[I", true)
  | 6 => ("RoamBooksModel", "losing", "[I", true)
  | 7 => ("RoamBooksModel", "agreements", "I", false)
  | 8 => ("RoamBooksModel", "agreedHome", "[I", true)
  | 9 => ("RoamBooksModel", "agreedVisited", "[I", true)
  | 10 => ("RoamBooksModel", "from", "[I", true)
  | 11 => ("RoamBooksModel", "to", "[I", true)
  | 12 => ("RoamBooksModel", "agreedPrice", "[I", true)
  | 13 => ("RoamBooksModel", "threshold", "[I", true)
  | 14 => ("RoamBooksModel", "lower", "[I", true)
  | 15 => ("RoamBooksModel", "subscribers", "I", false)
  | 16 => ("RoamBooksModel", "home", "[I", true)
  | 17 => ("RoamBooksModel", "place", "[I", true)
  | 18 => ("RoamBooksModel", "forbidden", "[I", true)
  | 19 => ("RoamBooksModel", "attached", "[I", true)
  | 20 => ("RoamBooksModel", "steered", "[I", true)
  | 21 => ("RoamBooksModel", "note", "[I", true)
  | 22 => ("RoamBooksModel", "cap", "[I", true)
  | 23 => ("RoamBooksModel", "consents", "[Z", true)
  | 24 => ("RoamBooksModel", "paid", "[I", true)
  | 25 => ("RoamBooksModel", "month", "[I", true)
  | 26 => ("RoamBooksModel", "abroad", "[I", true)
  | 27 => ("RoamBooksModel", "book", "[I", true)
  | 28 => ("RoamBooksModel", "calls", "I", false)
  | 29 => ("RoamBooksModel", "records", "I", false)
  | 30 => ("RoamBooksModel", "recordHome", "[I", true)
  | 31 => ("RoamBooksModel", "recordVisited", "[I", true)
  | 32 => ("RoamBooksModel", "minutes", "[I", true)
  | 33 => ("RoamBooksModel", "madeAt", "[I", true)
  | 34 => ("RoamBooksModel", "madeBy", "[I", true)
  | 35 => ("RoamBooksModel", "state", "[I", true)
  | 36 => ("RoamBooksModel", "fileOf", "[I", true)
  | 37 => ("RoamBooksModel", "files", "[I", true)
  | _ => ("RoamBooksModel", "taken", "[I", true)
def tyX8 : Nat → FieldType := fun k => match k with
  | 0 => .int
  | 1 => .int
  | 2 => .array .int
  | 3 => .array .boolean
  | 4 => .array .int
  | 5 => .array .int
  | 6 => .array .int
  | 7 => .int
  | 8 => .array .int
  | 9 => .array .int
  | 10 => .array .int
  | 11 => .array .int
  | 12 => .array .int
  | 13 => .array .int
  | 14 => .array .int
  | 15 => .int
  | 16 => .array .int
  | 17 => .array .int
  | 18 => .array .int
  | 19 => .array .int
  | 20 => .array .int
  | 21 => .array .int
  | 22 => .array .int
  | 23 => .array .boolean
  | 24 => .array .int
  | 25 => .array .int
  | 26 => .array .int
  | 27 => .array .int
  | 28 => .int
  | 29 => .int
  | 30 => .array .int
  | 31 => .array .int
  | 32 => .array .int
  | 33 => .array .int
  | 34 => .array .int
  | 35 => .array .int
  | 36 => .array .int
  | 37 => .array .int
  | _ => .array .int
theorem nmX8 : ∀ a, a < 39 → ∀ b, b < 39 → a ≠ b → (TX8 a).2.1 ≠ (TX8 b).2.1 := by decide +kernel
theorem tyX8_ok : ∀ k, k < 39 → parseFieldDescriptor (TX8 k).2.2.1 = some (tyX8 k) := by decide +kernel
abbrev cX8_init : ByteArray := prog_10_method_1_code
def yX8_init : MethodName := ⟨RX8, "<init>", "()V"⟩
abbrev cX8_thrown : ByteArray := prog_10_method_2_code
def yX8_thrown : MethodName := ⟨RX8, "thrown", "()I"⟩
abbrev cX8_in : ByteArray := prog_10_method_3_code
def yX8_in : MethodName := ⟨RX8, "in", "(III)Z"⟩
abbrev cX8_isNetwork : ByteArray := prog_10_method_4_code
def yX8_isNetwork : MethodName := ⟨RX8, "isNetwork", "(I)Z"⟩
abbrev cX8_isPlace : ByteArray := prog_10_method_5_code
def yX8_isPlace : MethodName := ⟨RX8, "isPlace", "(I)Z"⟩
abbrev cX8_isSubscriber : ByteArray := prog_10_method_6_code
def yX8_isSubscriber : MethodName := ⟨RX8, "isSubscriber", "(I)Z"⟩
abbrev cX8_isIn : ByteArray := prog_10_method_7_code
def yX8_isIn : MethodName := ⟨RX8, "isIn", "(II)Z"⟩
abbrev cX8_reach : ByteArray := prog_10_method_8_code
def yX8_reach : MethodName := ⟨RX8, "reach", "(II)I"⟩
abbrev cX8_empties : ByteArray := prog_10_method_9_code
def yX8_empties : MethodName := ⟨RX8, "empties", "(I)V"⟩
abbrev cX8_dead : ByteArray := prog_10_method_10_code
def yX8_dead : MethodName := ⟨RX8, "dead", "(IZ)Z"⟩
abbrev cX8_agree : ByteArray := prog_10_method_11_code
def yX8_agree : MethodName := ⟨RX8, "agree", "(IIIIIII)I"⟩
abbrev cX8_agreement : ByteArray := prog_10_method_12_code
def yX8_agreement : MethodName := ⟨RX8, "agreement", "(II)I"⟩
abbrev cX8_steer : ByteArray := prog_10_method_13_code
def yX8_steer : MethodName := ⟨RX8, "steer", "(II)I"⟩
abbrev cX8_prices : ByteArray := prog_10_method_14_code
def yX8_prices : MethodName := ⟨RX8, "prices", "(IIII)V"⟩
abbrev cX8_lose : ByteArray := prog_10_method_15_code
def yX8_lose : MethodName := ⟨RX8, "lose", "(II)I"⟩
abbrev cX8_crash : ByteArray := prog_10_method_16_code
def yX8_crash : MethodName := ⟨RX8, "crash", "(I)I"⟩
abbrev cX8_subscriber : ByteArray := prog_10_method_17_code
def yX8_subscriber : MethodName := ⟨RX8, "subscriber", "(III)I"⟩
abbrev cX8_move : ByteArray := prog_10_method_18_code
def yX8_move : MethodName := ⟨RX8, "move", "(II)I"⟩
abbrev cX8_off : ByteArray := prog_10_method_19_code
def yX8_off : MethodName := ⟨RX8, "off", "(I)I"⟩
abbrev cX8_reason : ByteArray := prog_10_method_20_code
def yX8_reason : MethodName := ⟨RX8, "reason", "(II)I"⟩
abbrev cX8_isSteered : ByteArray := prog_10_method_21_code
def yX8_isSteered : MethodName := ⟨RX8, "isSteered", "(II)Z"⟩
abbrev cX8_makesContact : ByteArray := prog_10_method_22_code
def yX8_makesContact : MethodName := ⟨RX8, "makesContact", "(I)V"⟩
abbrev cX8_attach : ByteArray := prog_10_method_23_code
def yX8_attach : MethodName := ⟨RX8, "attach", "(II)I"⟩
abbrev cX8_emergency : ByteArray := prog_10_method_24_code
def yX8_emergency : MethodName := ⟨RX8, "emergency", "(I)I"⟩
abbrev cX8_where : ByteArray := prog_10_method_25_code
def yX8_where : MethodName := ⟨RX8, "where", "(I)I"⟩
abbrev cX8_contact : ByteArray := prog_10_method_26_code
def yX8_contact : MethodName := ⟨RX8, "contact", "(II)I"⟩
abbrev cX8_agrees : ByteArray := prog_10_method_27_code
def yX8_agrees : MethodName := ⟨RX8, "agrees", "(I)Z"⟩
abbrev cX8_abroadOf : ByteArray := prog_10_method_28_code
def yX8_abroadOf : MethodName := ⟨RX8, "abroadOf", "(I)I"⟩
abbrev cX8_subscriberIs : ByteArray := prog_10_method_29_code
def yX8_subscriberIs : MethodName := ⟨RX8, "subscriberIs", "(II)I"⟩
abbrev cX8_cap : ByteArray := prog_10_method_30_code
def yX8_cap : MethodName := ⟨RX8, "cap", "(IIZ)V"⟩
abbrev cX8_isAbroad : ByteArray := prog_10_method_31_code
def yX8_isAbroad : MethodName := ⟨RX8, "isAbroad", "(I)Z"⟩
abbrev cX8_isAbove : ByteArray := prog_10_method_32_code
def yX8_isAbove : MethodName := ⟨RX8, "isAbove", "(II)Z"⟩
abbrev cX8_pays : ByteArray := prog_10_method_33_code
def yX8_pays : MethodName := ⟨RX8, "pays", "(II)V"⟩
abbrev cX8_records : ByteArray := prog_10_method_34_code
def yX8_records : MethodName := ⟨RX8, "records", "(II)V"⟩
abbrev cX8_nobody : ByteArray := prog_10_method_35_code
def yX8_nobody : MethodName := ⟨RX8, "nobody", "(II)I"⟩
abbrev cX8_call : ByteArray := prog_10_method_36_code
def yX8_call : MethodName := ⟨RX8, "call", "(III)I"⟩
abbrev cX8_paidAnew : ByteArray := prog_10_method_37_code
def yX8_paidAnew : MethodName := ⟨RX8, "paidAnew", "(I)I"⟩
abbrev cX8_isOf : ByteArray := prog_10_method_38_code
def yX8_isOf : MethodName := ⟨RX8, "isOf", "(III)Z"⟩
abbrev cX8_minutesOf : ByteArray := prog_10_method_39_code
def yX8_minutesOf : MethodName := ⟨RX8, "minutesOf", "(III)I"⟩
abbrev cX8_file : ByteArray := prog_10_method_40_code
def yX8_file : MethodName := ⟨RX8, "file", "(II)I"⟩
abbrev cX8_deliver : ByteArray := prog_10_method_41_code
def yX8_deliver : MethodName := ⟨RX8, "deliver", "(III)I"⟩
abbrev cX8_priceOf : ByteArray := prog_10_method_42_code
def yX8_priceOf : MethodName := ⟨RX8, "priceOf", "(II)I"⟩
abbrev cX8_owes : ByteArray := prog_10_method_43_code
def yX8_owes : MethodName := ⟨RX8, "owes", "(II)I"⟩
abbrev cX8_owesAnew : ByteArray := prog_10_method_44_code
def yX8_owesAnew : MethodName := ⟨RX8, "owesAnew", "(II)I"⟩
abbrev cX8_recorded : ByteArray := prog_10_method_45_code
def yX8_recorded : MethodName := ⟨RX8, "recorded", "(III)I"⟩
abbrev cX8_begins : ByteArray := prog_10_method_46_code
def yX8_begins : MethodName := ⟨RX8, "begins", "()V"⟩
abbrev cX8_pass : ByteArray := prog_10_method_47_code
def yX8_pass : MethodName := ⟨RX8, "pass", "(I)I"⟩
def RJx145de : String := "java/io/Serializable"
def TJx145de : u_T := fun k => match k with
  | _ => ("", "", "", false)
def tyJx145de : Nat → FieldType := fun k => match k with
  | _ => .int
theorem nmJx145de : ∀ a, a < 0 → ∀ b, b < 0 → a ≠ b → (TJx145de a).2.1 ≠ (TJx145de b).2.1 := by decide +kernel
theorem tyJx145de_ok : ∀ k, k < 0 → parseFieldDescriptor (TJx145de k).2.2.1 = some (tyJx145de k) := by decide +kernel
def RJx8e188 : String := "java/lang/Cloneable"
def TJx8e188 : u_T := fun k => match k with
  | _ => ("", "", "", false)
def tyJx8e188 : Nat → FieldType := fun k => match k with
  | _ => .int
theorem nmJx8e188 : ∀ a, a < 0 → ∀ b, b < 0 → a ≠ b → (TJx8e188 a).2.1 ≠ (TJx8e188 b).2.1 := by decide +kernel
theorem tyJx8e188_ok : ∀ k, k < 0 → parseFieldDescriptor (TJx8e188 k).2.2.1 = some (tyJx8e188 k) := by decide +kernel
def RJxab1ab : String := "java/lang/Iterable"
def TJxab1ab : u_T := fun k => match k with
  | _ => ("", "", "", false)
def tyJxab1ab : Nat → FieldType := fun k => match k with
  | _ => .int
theorem nmJxab1ab : ∀ a, a < 0 → ∀ b, b < 0 → a ≠ b → (TJxab1ab a).2.1 ≠ (TJxab1ab b).2.1 := by decide +kernel
theorem tyJxab1ab_ok : ∀ k, k < 0 → parseFieldDescriptor (TJxab1ab k).2.2.1 = some (tyJxab1ab k) := by decide +kernel
def RJ9 : String := "java/lang/Math"
def TJ9 : u_T := fun k => match k with
  | _ => ("", "", "", false)
def tyJ9 : Nat → FieldType := fun k => match k with
  | _ => .int
theorem nmJ9 : ∀ a, a < 0 → ∀ b, b < 0 → a ≠ b → (TJ9 a).2.1 ≠ (TJ9 b).2.1 := by decide +kernel
theorem tyJ9_ok : ∀ k, k < 0 → parseFieldDescriptor (TJ9 k).2.2.1 = some (tyJ9 k) := by decide +kernel
abbrev cJ9_max_7cf53 : ByteArray := prog_18_method_65_code
def yJ9_max_7cf53 : MethodName := ⟨RJ9, "max", "(II)I"⟩
abbrev cJ9_min_7cf53 : ByteArray := prog_18_method_69_code
def yJ9_min_7cf53 : MethodName := ⟨RJ9, "min", "(II)I"⟩
def RJ0 : String := "java/lang/String"
def TJ0 : u_T := fun k => match k with
  | _ => ("", "", "", false)
def tyJ0 : Nat → FieldType := fun k => match k with
  | _ => .int
theorem nmJ0 : ∀ a, a < 0 → ∀ b, b < 0 → a ≠ b → (TJ0 a).2.1 ≠ (TJ0 b).2.1 := by decide +kernel
theorem tyJ0_ok : ∀ k, k < 0 → parseFieldDescriptor (TJ0 k).2.2.1 = some (tyJ0 k) := by decide +kernel
def RJ10 : String := "java/lang/System"
def TJ10 : u_T := fun k => match k with
  | _ => ("", "", "", false)
def tyJ10 : Nat → FieldType := fun k => match k with
  | _ => .int
theorem nmJ10 : ∀ a, a < 0 → ∀ b, b < 0 → a ≠ b → (TJ10 a).2.1 ≠ (TJ10 b).2.1 := by decide +kernel
theorem tyJ10_ok : ∀ k, k < 0 → parseFieldDescriptor (TJ10 k).2.2.1 = some (tyJ10 k) := by decide +kernel
def RJxa1e45 : String := "java/util/AbstractCollection"
def TJxa1e45 : u_T := fun k => match k with
  | _ => ("", "", "", false)
def tyJxa1e45 : Nat → FieldType := fun k => match k with
  | _ => .int
theorem nmJxa1e45 : ∀ a, a < 0 → ∀ b, b < 0 → a ≠ b → (TJxa1e45 a).2.1 ≠ (TJxa1e45 b).2.1 := by decide +kernel
theorem tyJxa1e45_ok : ∀ k, k < 0 → parseFieldDescriptor (TJxa1e45 k).2.2.1 = some (tyJxa1e45 k) := by decide +kernel
abbrev cJxa1e45_init_da8c8 : ByteArray := prog_23_method_1_code
def yJxa1e45_init_da8c8 : MethodName := ⟨RJxa1e45, "<init>", "()V"⟩
def RJxc12de : String := "java/util/AbstractList"
def TJxc12de : u_T := fun k => match k with
  | _ => ("", "", "", false)
def tyJxc12de : Nat → FieldType := fun k => match k with
  | _ => .int
theorem nmJxc12de : ∀ a, a < 0 → ∀ b, b < 0 → a ≠ b → (TJxc12de a).2.1 ≠ (TJxc12de b).2.1 := by decide +kernel
theorem tyJxc12de_ok : ∀ k, k < 0 → parseFieldDescriptor (TJxc12de k).2.2.1 = some (tyJxc12de k) := by decide +kernel
abbrev cJxc12de_init_da8c8 : ByteArray := prog_24_method_1_code
def yJxc12de_init_da8c8 : MethodName := ⟨RJxc12de, "<init>", "()V"⟩
def RJx4a65c : String := "java/util/ArrayList"
def TJx4a65c : u_T := fun k => match k with
  | 0 => ("java/util/AbstractList", "modCount", "I", false)
  | 1 => ("java/util/ArrayList", "elementData", "[Ljava/lang/Object;", false)
  | _ => ("java/util/ArrayList", "size", "I", false)
def tyJx4a65c : Nat → FieldType := fun k => match k with
  | 0 => .int
  | 1 => .array (.object "java/lang/Object")
  | _ => .int
theorem nmJx4a65c : ∀ a, a < 3 → ∀ b, b < 3 → a ≠ b → (TJx4a65c a).2.1 ≠ (TJx4a65c b).2.1 := by decide +kernel
theorem tyJx4a65c_ok : ∀ k, k < 3 → parseFieldDescriptor (TJx4a65c k).2.2.1 = some (tyJx4a65c k) := by decide +kernel
abbrev cJx4a65c_init_da8c8 : ByteArray := prog_25_method_2_code
def yJx4a65c_init_da8c8 : MethodName := ⟨RJx4a65c, "<init>", "()V"⟩
abbrev cJx4a65c_grow_92f84 : ByteArray := prog_25_method_6_code
def yJx4a65c_grow_92f84 : MethodName := ⟨RJx4a65c, "grow", "(I)[Ljava/lang/Object;"⟩
abbrev cJx4a65c_grow_d5877 : ByteArray := prog_25_method_7_code
def yJx4a65c_grow_d5877 : MethodName := ⟨RJx4a65c, "grow", "()[Ljava/lang/Object;"⟩
abbrev cJx4a65c_size_8abf5 : ByteArray := prog_25_method_8_code
def yJx4a65c_size_8abf5 : MethodName := ⟨RJx4a65c, "size", "()I"⟩
abbrev cJx4a65c_elementData_915e3 : ByteArray := prog_25_method_18_code
def yJx4a65c_elementData_915e3 : MethodName := ⟨RJx4a65c, "elementData", "(I)Ljava/lang/Object;"⟩
abbrev cJx4a65c_get_915e3 : ByteArray := prog_25_method_20_code
def yJx4a65c_get_915e3 : MethodName := ⟨RJx4a65c, "get", "(I)Ljava/lang/Object;"⟩
abbrev cJx4a65c_add_72be8 : ByteArray := prog_25_method_24_code
def yJx4a65c_add_72be8 : MethodName := ⟨RJx4a65c, "add", "(Ljava/lang/Object;[Ljava/lang/Object;I)V"⟩
abbrev cJx4a65c_add_9ea2d : ByteArray := prog_25_method_25_code
def yJx4a65c_add_9ea2d : MethodName := ⟨RJx4a65c, "add", "(Ljava/lang/Object;)Z"⟩
def RJ7 : String := "java/util/Arrays"
def TJ7 : u_T := fun k => match k with
  | _ => ("", "", "", false)
def tyJ7 : Nat → FieldType := fun k => match k with
  | _ => .int
theorem nmJ7 : ∀ a, a < 0 → ∀ b, b < 0 → a ≠ b → (TJ7 a).2.1 ≠ (TJ7 b).2.1 := by decide +kernel
theorem tyJ7_ok : ∀ k, k < 0 → parseFieldDescriptor (TJ7 k).2.2.1 = some (tyJ7 k) := by decide +kernel
abbrev cJ7_fill_53178 : ByteArray := prog_26_method_103_code
def yJ7_fill_53178 : MethodName := ⟨RJ7, "fill", "([II)V"⟩
abbrev cJ7_copyOf_1904c : ByteArray := prog_26_method_119_code
def yJ7_copyOf_1904c : MethodName := ⟨RJ7, "copyOf", "([Ljava/lang/Object;I)[Ljava/lang/Object;"⟩
abbrev cJ7_copyOf_6403c : ByteArray := prog_26_method_120_code
def yJ7_copyOf_6403c : MethodName := ⟨RJ7, "copyOf", "([Ljava/lang/Object;ILjava/lang/Class;)[Ljava/lang/Object;"⟩
def RJx5ef63 : String := "java/util/Collection"
def TJx5ef63 : u_T := fun k => match k with
  | _ => ("", "", "", false)
def tyJx5ef63 : Nat → FieldType := fun k => match k with
  | _ => .int
theorem nmJx5ef63 : ∀ a, a < 0 → ∀ b, b < 0 → a ≠ b → (TJx5ef63 a).2.1 ≠ (TJx5ef63 b).2.1 := by decide +kernel
theorem tyJx5ef63_ok : ∀ k, k < 0 → parseFieldDescriptor (TJx5ef63 k).2.2.1 = some (tyJx5ef63 k) := by decide +kernel
def RJxbd725 : String := "java/util/List"
def TJxbd725 : u_T := fun k => match k with
  | _ => ("", "", "", false)
def tyJxbd725 : Nat → FieldType := fun k => match k with
  | _ => .int
theorem nmJxbd725 : ∀ a, a < 0 → ∀ b, b < 0 → a ≠ b → (TJxbd725 a).2.1 ≠ (TJxbd725 b).2.1 := by decide +kernel
theorem tyJxbd725_ok : ∀ k, k < 0 → parseFieldDescriptor (TJxbd725 k).2.2.1 = some (tyJxbd725 k) := by decide +kernel
def RJ15 : String := "java/util/Objects"
def TJ15 : u_T := fun k => match k with
  | _ => ("", "", "", false)
def tyJ15 : Nat → FieldType := fun k => match k with
  | _ => .int
theorem nmJ15 : ∀ a, a < 0 → ∀ b, b < 0 → a ≠ b → (TJ15 a).2.1 ≠ (TJ15 b).2.1 := by decide +kernel
theorem tyJ15_ok : ∀ k, k < 0 → parseFieldDescriptor (TJ15 k).2.2.1 = some (tyJ15 k) := by decide +kernel
abbrev cJ15_checkIndex_7cf53 : ByteArray := prog_29_method_17_code
def yJ15_checkIndex_7cf53 : MethodName := ⟨RJ15, "checkIndex", "(II)I"⟩
def RJxf0a74 : String := "java/util/RandomAccess"
def TJxf0a74 : u_T := fun k => match k with
  | _ => ("", "", "", false)
def tyJxf0a74 : Nat → FieldType := fun k => match k with
  | _ => .int
theorem nmJxf0a74 : ∀ a, a < 0 → ∀ b, b < 0 → a ≠ b → (TJxf0a74 a).2.1 ≠ (TJxf0a74 b).2.1 := by decide +kernel
theorem tyJxf0a74_ok : ∀ k, k < 0 → parseFieldDescriptor (TJxf0a74 k).2.2.1 = some (tyJxf0a74 k) := by decide +kernel
def RJxa66e6 : String := "java/util/SequencedCollection"
def TJxa66e6 : u_T := fun k => match k with
  | _ => ("", "", "", false)
def tyJxa66e6 : Nat → FieldType := fun k => match k with
  | _ => .int
theorem nmJxa66e6 : ∀ a, a < 0 → ∀ b, b < 0 → a ≠ b → (TJxa66e6 a).2.1 ≠ (TJxa66e6 b).2.1 := by decide +kernel
theorem tyJxa66e6_ok : ∀ k, k < 0 → parseFieldDescriptor (TJxa66e6 k).2.2.1 = some (tyJxa66e6 k) := by decide +kernel
def RJ8 : String := "jdk/internal/util/ArraysSupport"
def TJ8 : u_T := fun k => match k with
  | _ => ("", "", "", false)
def tyJ8 : Nat → FieldType := fun k => match k with
  | _ => .int
theorem nmJ8 : ∀ a, a < 0 → ∀ b, b < 0 → a ≠ b → (TJ8 a).2.1 ≠ (TJ8 b).2.1 := by decide +kernel
theorem tyJ8_ok : ∀ k, k < 0 → parseFieldDescriptor (TJ8 k).2.2.1 = some (tyJ8 k) := by decide +kernel
abbrev cJ8_newLength_cabcc : ByteArray := prog_32_method_27_code
def yJ8_newLength_cabcc : MethodName := ⟨RJ8, "newLength", "(III)I"⟩
abbrev cJ8_hugeLength_7cf53 : ByteArray := prog_32_method_28_code
def yJ8_hugeLength_7cf53 : MethodName := ⟨RJ8, "hugeLength", "(II)I"⟩
def RJ3 : String := "jdk/internal/util/Preconditions"
def TJ3 : u_T := fun k => match k with
  | _ => ("", "", "", false)
def tyJ3 : Nat → FieldType := fun k => match k with
  | _ => .int
theorem nmJ3 : ∀ a, a < 0 → ∀ b, b < 0 → a ≠ b → (TJ3 a).2.1 ≠ (TJ3 b).2.1 := by decide +kernel
theorem tyJ3_ok : ∀ k, k < 0 → parseFieldDescriptor (TJ3 k).2.2.1 = some (tyJ3 k) := by decide +kernel
abbrev cJ3_checkIndex_8e157 : ByteArray := prog_33_method_11_code
def yJ3_checkIndex_8e157 : MethodName := ⟨RJ3, "checkIndex", "(IILjava/util/function/BiFunction;)I"⟩
def RL : String := "RoamBooksLaw"
abbrev cL_reach : ByteArray := method_3_code
def yL_reach : MethodName := ⟨RL, "reach", "(LRoamBooks;II[J)I"⟩
abbrev cL_dead : ByteArray := method_4_code
def yL_dead : MethodName := ⟨RL, "dead", "(LRoamBooks;IZ[J)I"⟩
abbrev cL_agree : ByteArray := method_5_code
def yL_agree : MethodName := ⟨RL, "agree", "(LRoamBooks;IIIIIII[J)I"⟩
abbrev cL_steer : ByteArray := method_6_code
def yL_steer : MethodName := ⟨RL, "steer", "(LRoamBooks;II[J)I"⟩
abbrev cL_prices : ByteArray := method_7_code
def yL_prices : MethodName := ⟨RL, "prices", "(LRoamBooks;IIII)I"⟩
abbrev cL_lose : ByteArray := method_8_code
def yL_lose : MethodName := ⟨RL, "lose", "(LRoamBooks;II[J)I"⟩
abbrev cL_crash : ByteArray := method_9_code
def yL_crash : MethodName := ⟨RL, "crash", "(LRoamBooks;I[J)I"⟩
abbrev cL_subscriber : ByteArray := method_10_code
def yL_subscriber : MethodName := ⟨RL, "subscriber", "(LRoamBooks;III[J)I"⟩
abbrev cL_move : ByteArray := method_11_code
def yL_move : MethodName := ⟨RL, "move", "(LRoamBooks;II[J)I"⟩
abbrev cL_off : ByteArray := method_12_code
def yL_off : MethodName := ⟨RL, "off", "(LRoamBooks;I[J)I"⟩
abbrev cL_attach : ByteArray := method_13_code
def yL_attach : MethodName := ⟨RL, "attach", "(LRoamBooks;II[J)I"⟩
abbrev cL_emergency : ByteArray := method_14_code
def yL_emergency : MethodName := ⟨RL, "emergency", "(LRoamBooks;I[J)I"⟩
abbrev cL_where : ByteArray := method_15_code
def yL_where : MethodName := ⟨RL, "where", "(LRoamBooks;I[J)I"⟩
abbrev cL_contact : ByteArray := method_16_code
def yL_contact : MethodName := ⟨RL, "contact", "(LRoamBooks;II[J)I"⟩
abbrev cL_agrees : ByteArray := method_17_code
def yL_agrees : MethodName := ⟨RL, "agrees", "(LRoamBooks;I[J)I"⟩
abbrev cL_subscriberIs : ByteArray := method_18_code
def yL_subscriberIs : MethodName := ⟨RL, "subscriberIs", "(LRoamBooks;II[J)I"⟩
abbrev cL_cap : ByteArray := method_19_code
def yL_cap : MethodName := ⟨RL, "cap", "(LRoamBooks;IIZ)I"⟩
abbrev cL_call : ByteArray := method_20_code
def yL_call : MethodName := ⟨RL, "call", "(LRoamBooks;III[J)I"⟩
abbrev cL_paidAnew : ByteArray := method_21_code
def yL_paidAnew : MethodName := ⟨RL, "paidAnew", "(LRoamBooks;I[J)I"⟩
abbrev cL_file : ByteArray := method_22_code
def yL_file : MethodName := ⟨RL, "file", "(LRoamBooks;II[J)I"⟩
abbrev cL_deliver : ByteArray := method_23_code
def yL_deliver : MethodName := ⟨RL, "deliver", "(LRoamBooks;III[J)I"⟩
abbrev cL_owes : ByteArray := method_24_code
def yL_owes : MethodName := ⟨RL, "owes", "(LRoamBooks;II[J)I"⟩
abbrev cL_owesAnew : ByteArray := method_25_code
def yL_owesAnew : MethodName := ⟨RL, "owesAnew", "(LRoamBooks;II[J)I"⟩
abbrev cL_recorded : ByteArray := method_26_code
def yL_recorded : MethodName := ⟨RL, "recorded", "(LRoamBooks;III[J)I"⟩
abbrev cL_pass : ByteArray := method_27_code
def yL_pass : MethodName := ⟨RL, "pass", "(LRoamBooks;I[J)I"⟩
abbrev cL_law : ByteArray := code
def yL_law : MethodName := ⟨RL, "law", "([I)Z"⟩
abbrev vwCl : List vw_C := [(RJx4a65c, TJx4a65c, 3), (RX0, TX0, 3), (RX1, TX1, 7), (RX2, TX2, 1), (RX3, TX3, 4), (RX4, TX4, 5), (RX5, TX5, 7), (RX6, TX6, 11), (RX7, TX7, 7), (RX8, TX8, 39)]
end
section
theorem dX0_init_0 : decode cX0_init 0 = .ok (.aload_n 0, 1) := by decide +kernel
theorem dX0_init_1 : decode cX0_init 1 = .ok (.invokespecial 3, 3) := by decide +kernel
theorem dX0_init_4 : decode cX0_init 4 = .ok (.aload_n 0, 1) := by decide +kernel
theorem dX0_init_5 : decode cX0_init 5 = .ok (.new 9, 3) := by decide +kernel
theorem dX0_init_8 : decode cX0_init 8 = .ok (.dup, 1) := by decide +kernel
theorem dX0_init_9 : decode cX0_init 9 = .ok (.invokespecial 11, 3) := by decide +kernel
theorem dX0_init_12 : decode cX0_init 12 = .ok (.putfield 12, 3) := by decide +kernel
theorem dX0_init_15 : decode cX0_init 15 = .ok (.return_, 1) := by decide +kernel
theorem dX0_minutesThatAre_0 : decode cX0_minutesThatAre 0 = .ok (.iconst 0, 1) := by decide +kernel
theorem dX0_minutesThatAre_1 : decode cX0_minutesThatAre 1 = .ok (.istore_n 2, 1) := by decide +kernel
theorem dX0_minutesThatAre_2 : decode cX0_minutesThatAre 2 = .ok (.iconst 0, 1) := by decide +kernel
theorem dX0_minutesThatAre_3 : decode cX0_minutesThatAre 3 = .ok (.istore_n 3, 1) := by decide +kernel
theorem dX0_minutesThatAre_4 : decode cX0_minutesThatAre 4 = .ok (.iload_n 3, 1) := by decide +kernel
theorem dX0_minutesThatAre_5 : decode cX0_minutesThatAre 5 = .ok (.aload_n 0, 1) := by decide +kernel
theorem dX0_minutesThatAre_6 : decode cX0_minutesThatAre 6 = .ok (.getfield 12, 3) := by decide +kernel
theorem dX0_minutesThatAre_9 : decode cX0_minutesThatAre 9 = .ok (.invokevirtual 18, 3) := by decide +kernel
theorem dX0_minutesThatAre_12 : decode cX0_minutesThatAre 12 = .ok (.if_icmp .ge 39, 3) := by decide +kernel
theorem dX0_minutesThatAre_15 : decode cX0_minutesThatAre 15 = .ok (.aload_n 0, 1) := by decide +kernel
theorem dX0_minutesThatAre_16 : decode cX0_minutesThatAre 16 = .ok (.getfield 12, 3) := by decide +kernel
theorem dX0_minutesThatAre_19 : decode cX0_minutesThatAre 19 = .ok (.iload_n 3, 1) := by decide +kernel
theorem dX0_minutesThatAre_20 : decode cX0_minutesThatAre 20 = .ok (.invokevirtual 22, 3) := by decide +kernel
theorem dX0_minutesThatAre_23 : decode cX0_minutesThatAre 23 = .ok (.checkcast 26, 3) := by decide +kernel
theorem dX0_minutesThatAre_26 : decode cX0_minutesThatAre 26 = .ok (.astore 4, 2) := by decide +kernel
theorem dX0_minutesThatAre_28 : decode cX0_minutesThatAre 28 = .ok (.aload 4, 2) := by decide +kernel
theorem dX0_minutesThatAre_30 : decode cX0_minutesThatAre 30 = .ok (.getfield 28, 3) := by decide +kernel
theorem dX0_minutesThatAre_33 : decode cX0_minutesThatAre 33 = .ok (.iload_n 1, 1) := by decide +kernel
theorem dX0_minutesThatAre_34 : decode cX0_minutesThatAre 34 = .ok (.if_icmp .ne 11, 3) := by decide +kernel
theorem dX0_minutesThatAre_37 : decode cX0_minutesThatAre 37 = .ok (.iload_n 2, 1) := by decide +kernel
theorem dX0_minutesThatAre_38 : decode cX0_minutesThatAre 38 = .ok (.aload 4, 2) := by decide +kernel
theorem dX0_minutesThatAre_40 : decode cX0_minutesThatAre 40 = .ok (.getfield 32, 3) := by decide +kernel
theorem dX0_minutesThatAre_43 : decode cX0_minutesThatAre 43 = .ok (.iadd, 1) := by decide +kernel
theorem dX0_minutesThatAre_44 : decode cX0_minutesThatAre 44 = .ok (.istore_n 2, 1) := by decide +kernel
theorem dX0_minutesThatAre_45 : decode cX0_minutesThatAre 45 = .ok (.iinc 3 1, 3) := by decide +kernel
theorem dX0_minutesThatAre_48 : decode cX0_minutesThatAre 48 = .ok (.goto (-44), 3) := by decide +kernel
theorem dX0_minutesThatAre_51 : decode cX0_minutesThatAre 51 = .ok (.iload_n 2, 1) := by decide +kernel
theorem dX0_minutesThatAre_52 : decode cX0_minutesThatAre 52 = .ok (.ireturn, 1) := by decide +kernel
theorem dX0_hasUnfiled_0 : decode cX0_hasUnfiled 0 = .ok (.aload_n 0, 1) := by decide +kernel
theorem dX0_hasUnfiled_1 : decode cX0_hasUnfiled 1 = .ok (.iconst 0, 1) := by decide +kernel
theorem dX0_hasUnfiled_2 : decode cX0_hasUnfiled 2 = .ok (.invokevirtual 35, 3) := by decide +kernel
theorem dX0_hasUnfiled_5 : decode cX0_hasUnfiled 5 = .ok (.ifCond .le 7, 3) := by decide +kernel
theorem dX0_hasUnfiled_8 : decode cX0_hasUnfiled 8 = .ok (.iconst 1, 1) := by decide +kernel
theorem dX0_hasUnfiled_9 : decode cX0_hasUnfiled 9 = .ok (.goto 4, 3) := by decide +kernel
theorem dX0_hasUnfiled_12 : decode cX0_hasUnfiled 12 = .ok (.iconst 0, 1) := by decide +kernel
theorem dX0_hasUnfiled_13 : decode cX0_hasUnfiled 13 = .ok (.ireturn, 1) := by decide +kernel
theorem dX0_fileTheRest_0 : decode cX0_fileTheRest 0 = .ok (.aload_n 0, 1) := by decide +kernel
theorem dX0_fileTheRest_1 : decode cX0_fileTheRest 1 = .ok (.getfield 39, 3) := by decide +kernel
theorem dX0_fileTheRest_4 : decode cX0_fileTheRest 4 = .ok (.istore_n 1, 1) := by decide +kernel
theorem dX0_fileTheRest_5 : decode cX0_fileTheRest 5 = .ok (.iconst 0, 1) := by decide +kernel
theorem dX0_fileTheRest_6 : decode cX0_fileTheRest 6 = .ok (.istore_n 2, 1) := by decide +kernel
theorem dX0_fileTheRest_7 : decode cX0_fileTheRest 7 = .ok (.iload_n 2, 1) := by decide +kernel
theorem dX0_fileTheRest_8 : decode cX0_fileTheRest 8 = .ok (.aload_n 0, 1) := by decide +kernel
theorem dX0_fileTheRest_9 : decode cX0_fileTheRest 9 = .ok (.getfield 12, 3) := by decide +kernel
theorem dX0_fileTheRest_12 : decode cX0_fileTheRest 12 = .ok (.invokevirtual 18, 3) := by decide +kernel
theorem dX0_fileTheRest_15 : decode cX0_fileTheRest 15 = .ok (.if_icmp .ge 38, 3) := by decide +kernel
theorem dX0_fileTheRest_18 : decode cX0_fileTheRest 18 = .ok (.aload_n 0, 1) := by decide +kernel
theorem dX0_fileTheRest_19 : decode cX0_fileTheRest 19 = .ok (.getfield 12, 3) := by decide +kernel
theorem dX0_fileTheRest_22 : decode cX0_fileTheRest 22 = .ok (.iload_n 2, 1) := by decide +kernel
theorem dX0_fileTheRest_23 : decode cX0_fileTheRest 23 = .ok (.invokevirtual 22, 3) := by decide +kernel
theorem dX0_fileTheRest_26 : decode cX0_fileTheRest 26 = .ok (.checkcast 26, 3) := by decide +kernel
theorem dX0_fileTheRest_29 : decode cX0_fileTheRest 29 = .ok (.astore_n 3, 1) := by decide +kernel
theorem dX0_fileTheRest_30 : decode cX0_fileTheRest 30 = .ok (.aload_n 3, 1) := by decide +kernel
theorem dX0_fileTheRest_31 : decode cX0_fileTheRest 31 = .ok (.getfield 28, 3) := by decide +kernel
theorem dX0_fileTheRest_34 : decode cX0_fileTheRest 34 = .ok (.ifCond .ne 13, 3) := by decide +kernel
theorem dX0_fileTheRest_37 : decode cX0_fileTheRest 37 = .ok (.aload_n 3, 1) := by decide +kernel
theorem dX0_fileTheRest_38 : decode cX0_fileTheRest 38 = .ok (.iconst 1, 1) := by decide +kernel
theorem dX0_fileTheRest_39 : decode cX0_fileTheRest 39 = .ok (.putfield 28, 3) := by decide +kernel
theorem dX0_fileTheRest_42 : decode cX0_fileTheRest 42 = .ok (.aload_n 3, 1) := by decide +kernel
theorem dX0_fileTheRest_43 : decode cX0_fileTheRest 43 = .ok (.iload_n 1, 1) := by decide +kernel
theorem dX0_fileTheRest_44 : decode cX0_fileTheRest 44 = .ok (.putfield 42, 3) := by decide +kernel
theorem dX0_fileTheRest_47 : decode cX0_fileTheRest 47 = .ok (.iinc 2 1, 3) := by decide +kernel
theorem dX0_fileTheRest_50 : decode cX0_fileTheRest 50 = .ok (.goto (-43), 3) := by decide +kernel
theorem dX0_fileTheRest_53 : decode cX0_fileTheRest 53 = .ok (.aload_n 0, 1) := by decide +kernel
theorem dX0_fileTheRest_54 : decode cX0_fileTheRest 54 = .ok (.dup, 1) := by decide +kernel
theorem dX0_fileTheRest_55 : decode cX0_fileTheRest 55 = .ok (.getfield 39, 3) := by decide +kernel
theorem dX0_fileTheRest_58 : decode cX0_fileTheRest 58 = .ok (.iconst 1, 1) := by decide +kernel
theorem dX0_fileTheRest_59 : decode cX0_fileTheRest 59 = .ok (.iadd, 1) := by decide +kernel
theorem dX0_fileTheRest_60 : decode cX0_fileTheRest 60 = .ok (.putfield 39, 3) := by decide +kernel
theorem dX0_fileTheRest_63 : decode cX0_fileTheRest 63 = .ok (.iload_n 1, 1) := by decide +kernel
theorem dX0_fileTheRest_64 : decode cX0_fileTheRest 64 = .ok (.ireturn, 1) := by decide +kernel
theorem dX0_takeNextFile_0 : decode cX0_takeNextFile 0 = .ok (.iconst 0, 1) := by decide +kernel
theorem dX0_takeNextFile_1 : decode cX0_takeNextFile 1 = .ok (.istore_n 2, 1) := by decide +kernel
theorem dX0_takeNextFile_2 : decode cX0_takeNextFile 2 = .ok (.iconst 0, 1) := by decide +kernel
theorem dX0_takeNextFile_3 : decode cX0_takeNextFile 3 = .ok (.istore_n 3, 1) := by decide +kernel
theorem dX0_takeNextFile_4 : decode cX0_takeNextFile 4 = .ok (.iload_n 3, 1) := by decide +kernel
theorem dX0_takeNextFile_5 : decode cX0_takeNextFile 5 = .ok (.aload_n 0, 1) := by decide +kernel
theorem dX0_takeNextFile_6 : decode cX0_takeNextFile 6 = .ok (.getfield 12, 3) := by decide +kernel
theorem dX0_takeNextFile_9 : decode cX0_takeNextFile 9 = .ok (.invokevirtual 18, 3) := by decide +kernel
theorem dX0_takeNextFile_12 : decode cX0_takeNextFile 12 = .ok (.if_icmp .ge 67, 3) := by decide +kernel
theorem dX0_takeNextFile_15 : decode cX0_takeNextFile 15 = .ok (.aload_n 0, 1) := by decide +kernel
theorem dX0_takeNextFile_16 : decode cX0_takeNextFile 16 = .ok (.getfield 12, 3) := by decide +kernel
theorem dX0_takeNextFile_19 : decode cX0_takeNextFile 19 = .ok (.iload_n 3, 1) := by decide +kernel
theorem dX0_takeNextFile_20 : decode cX0_takeNextFile 20 = .ok (.invokevirtual 22, 3) := by decide +kernel
theorem dX0_takeNextFile_23 : decode cX0_takeNextFile 23 = .ok (.checkcast 26, 3) := by decide +kernel
theorem dX0_takeNextFile_26 : decode cX0_takeNextFile 26 = .ok (.astore 4, 2) := by decide +kernel
theorem dX0_takeNextFile_28 : decode cX0_takeNextFile 28 = .ok (.aload 4, 2) := by decide +kernel
theorem dX0_takeNextFile_30 : decode cX0_takeNextFile 30 = .ok (.getfield 42, 3) := by decide +kernel
theorem dX0_takeNextFile_33 : decode cX0_takeNextFile 33 = .ok (.aload_n 0, 1) := by decide +kernel
theorem dX0_takeNextFile_34 : decode cX0_takeNextFile 34 = .ok (.getfield 45, 3) := by decide +kernel
theorem dX0_takeNextFile_37 : decode cX0_takeNextFile 37 = .ok (.if_icmp .eq 6, 3) := by decide +kernel
theorem dX0_takeNextFile_40 : decode cX0_takeNextFile 40 = .ok (.goto 33, 3) := by decide +kernel
theorem dX0_takeNextFile_43 : decode cX0_takeNextFile 43 = .ok (.iload_n 1, 1) := by decide +kernel
theorem dX0_takeNextFile_44 : decode cX0_takeNextFile 44 = .ok (.aload 4, 2) := by decide +kernel
theorem dX0_takeNextFile_46 : decode cX0_takeNextFile 46 = .ok (.getfield 48, 3) := by decide +kernel
theorem dX0_takeNextFile_49 : decode cX0_takeNextFile 49 = .ok (.isub, 1) := by decide +kernel
theorem dX0_takeNextFile_50 : decode cX0_takeNextFile 50 = .ok (.ldc 51, 2) := by decide +kernel
theorem dX0_takeNextFile_52 : decode cX0_takeNextFile 52 = .ok (.if_icmp .lt 15, 3) := by decide +kernel
theorem dX0_takeNextFile_55 : decode cX0_takeNextFile 55 = .ok (.aload 4, 2) := by decide +kernel
theorem dX0_takeNextFile_57 : decode cX0_takeNextFile 57 = .ok (.iconst 3, 1) := by decide +kernel
theorem dX0_takeNextFile_58 : decode cX0_takeNextFile 58 = .ok (.putfield 28, 3) := by decide +kernel
theorem dX0_takeNextFile_61 : decode cX0_takeNextFile 61 = .ok (.iinc 2 1, 3) := by decide +kernel
theorem dX0_takeNextFile_64 : decode cX0_takeNextFile 64 = .ok (.goto 9, 3) := by decide +kernel
theorem dX0_takeNextFile_67 : decode cX0_takeNextFile 67 = .ok (.aload 4, 2) := by decide +kernel
theorem dX0_takeNextFile_69 : decode cX0_takeNextFile 69 = .ok (.iconst 2, 1) := by decide +kernel
theorem dX0_takeNextFile_70 : decode cX0_takeNextFile 70 = .ok (.putfield 28, 3) := by decide +kernel
theorem dX0_takeNextFile_73 : decode cX0_takeNextFile 73 = .ok (.iinc 3 1, 3) := by decide +kernel
theorem dX0_takeNextFile_76 : decode cX0_takeNextFile 76 = .ok (.goto (-72), 3) := by decide +kernel
theorem dX0_takeNextFile_79 : decode cX0_takeNextFile 79 = .ok (.aload_n 0, 1) := by decide +kernel
theorem dX0_takeNextFile_80 : decode cX0_takeNextFile 80 = .ok (.dup, 1) := by decide +kernel
theorem dX0_takeNextFile_81 : decode cX0_takeNextFile 81 = .ok (.getfield 45, 3) := by decide +kernel
theorem dX0_takeNextFile_84 : decode cX0_takeNextFile 84 = .ok (.iconst 1, 1) := by decide +kernel
theorem dX0_takeNextFile_85 : decode cX0_takeNextFile 85 = .ok (.iadd, 1) := by decide +kernel
theorem dX0_takeNextFile_86 : decode cX0_takeNextFile 86 = .ok (.putfield 45, 3) := by decide +kernel
theorem dX0_takeNextFile_89 : decode cX0_takeNextFile 89 = .ok (.iload_n 2, 1) := by decide +kernel
theorem dX0_takeNextFile_90 : decode cX0_takeNextFile 90 = .ok (.ireturn, 1) := by decide +kernel
theorem dX0_owed_0 : decode cX0_owed 0 = .ok (.aload_n 0, 1) := by decide +kernel
theorem dX0_owed_1 : decode cX0_owed 1 = .ok (.iconst 2, 1) := by decide +kernel
theorem dX0_owed_2 : decode cX0_owed 2 = .ok (.invokevirtual 35, 3) := by decide +kernel
theorem dX0_owed_5 : decode cX0_owed 5 = .ok (.istore_n 1, 1) := by decide +kernel
theorem dX0_owed_6 : decode cX0_owed 6 = .ok (.iconst 0, 1) := by decide +kernel
theorem dX0_owed_7 : decode cX0_owed 7 = .ok (.istore_n 2, 1) := by decide +kernel
theorem dX0_owed_8 : decode cX0_owed 8 = .ok (.iconst 0, 1) := by decide +kernel
theorem dX0_owed_9 : decode cX0_owed 9 = .ok (.istore_n 3, 1) := by decide +kernel
theorem dX0_owed_10 : decode cX0_owed 10 = .ok (.iload_n 3, 1) := by decide +kernel
theorem dX0_owed_11 : decode cX0_owed 11 = .ok (.aload_n 0, 1) := by decide +kernel
theorem dX0_owed_12 : decode cX0_owed 12 = .ok (.getfield 12, 3) := by decide +kernel
theorem dX0_owed_15 : decode cX0_owed 15 = .ok (.invokevirtual 18, 3) := by decide +kernel
theorem dX0_owed_18 : decode cX0_owed 18 = .ok (.if_icmp .ge 27, 3) := by decide +kernel
theorem dX0_owed_21 : decode cX0_owed 21 = .ok (.iload_n 2, 1) := by decide +kernel
theorem dX0_owed_22 : decode cX0_owed 22 = .ok (.aload_n 0, 1) := by decide +kernel
theorem dX0_owed_23 : decode cX0_owed 23 = .ok (.getfield 12, 3) := by decide +kernel
theorem dX0_owed_26 : decode cX0_owed 26 = .ok (.iload_n 3, 1) := by decide +kernel
theorem dX0_owed_27 : decode cX0_owed 27 = .ok (.invokevirtual 22, 3) := by decide +kernel
theorem dX0_owed_30 : decode cX0_owed 30 = .ok (.checkcast 26, 3) := by decide +kernel
theorem dX0_owed_33 : decode cX0_owed 33 = .ok (.iload_n 1, 1) := by decide +kernel
theorem dX0_owed_34 : decode cX0_owed 34 = .ok (.invokevirtual 52, 3) := by decide +kernel
theorem dX0_owed_37 : decode cX0_owed 37 = .ok (.iadd, 1) := by decide +kernel
theorem dX0_owed_38 : decode cX0_owed 38 = .ok (.istore_n 2, 1) := by decide +kernel
theorem dX0_owed_39 : decode cX0_owed 39 = .ok (.iinc 3 1, 3) := by decide +kernel
theorem dX0_owed_42 : decode cX0_owed 42 = .ok (.goto (-32), 3) := by decide +kernel
theorem dX0_owed_45 : decode cX0_owed 45 = .ok (.iload_n 2, 1) := by decide +kernel
theorem dX0_owed_46 : decode cX0_owed 46 = .ok (.ireturn, 1) := by decide +kernel
theorem dX0_owedFileByFile_0 : decode cX0_owedFileByFile 0 = .ok (.iconst 0, 1) := by decide +kernel
theorem dX0_owedFileByFile_1 : decode cX0_owedFileByFile 1 = .ok (.istore_n 1, 1) := by decide +kernel
theorem dX0_owedFileByFile_2 : decode cX0_owedFileByFile 2 = .ok (.iconst 0, 1) := by decide +kernel
theorem dX0_owedFileByFile_3 : decode cX0_owedFileByFile 3 = .ok (.istore_n 2, 1) := by decide +kernel
theorem dX0_owedFileByFile_4 : decode cX0_owedFileByFile 4 = .ok (.iload_n 2, 1) := by decide +kernel
theorem dX0_owedFileByFile_5 : decode cX0_owedFileByFile 5 = .ok (.aload_n 0, 1) := by decide +kernel
theorem dX0_owedFileByFile_6 : decode cX0_owedFileByFile 6 = .ok (.getfield 45, 3) := by decide +kernel
theorem dX0_owedFileByFile_9 : decode cX0_owedFileByFile 9 = .ok (.if_icmp .ge 17, 3) := by decide +kernel
theorem dX0_owedFileByFile_12 : decode cX0_owedFileByFile 12 = .ok (.iload_n 1, 1) := by decide +kernel
theorem dX0_owedFileByFile_13 : decode cX0_owedFileByFile 13 = .ok (.aload_n 0, 1) := by decide +kernel
theorem dX0_owedFileByFile_14 : decode cX0_owedFileByFile 14 = .ok (.iload_n 2, 1) := by decide +kernel
theorem dX0_owedFileByFile_15 : decode cX0_owedFileByFile 15 = .ok (.invokevirtual 55, 3) := by decide +kernel
theorem dX0_owedFileByFile_18 : decode cX0_owedFileByFile 18 = .ok (.iadd, 1) := by decide +kernel
theorem dX0_owedFileByFile_19 : decode cX0_owedFileByFile 19 = .ok (.istore_n 1, 1) := by decide +kernel
theorem dX0_owedFileByFile_20 : decode cX0_owedFileByFile 20 = .ok (.iinc 2 1, 3) := by decide +kernel
theorem dX0_owedFileByFile_23 : decode cX0_owedFileByFile 23 = .ok (.goto (-19), 3) := by decide +kernel
theorem dX0_owedFileByFile_26 : decode cX0_owedFileByFile 26 = .ok (.iconst 0, 1) := by decide +kernel
theorem dX0_owedFileByFile_27 : decode cX0_owedFileByFile 27 = .ok (.istore_n 2, 1) := by decide +kernel
theorem dX0_owedFileByFile_28 : decode cX0_owedFileByFile 28 = .ok (.iconst 0, 1) := by decide +kernel
theorem dX0_owedFileByFile_29 : decode cX0_owedFileByFile 29 = .ok (.istore_n 3, 1) := by decide +kernel
theorem dX0_owedFileByFile_30 : decode cX0_owedFileByFile 30 = .ok (.iload_n 3, 1) := by decide +kernel
theorem dX0_owedFileByFile_31 : decode cX0_owedFileByFile 31 = .ok (.aload_n 0, 1) := by decide +kernel
theorem dX0_owedFileByFile_32 : decode cX0_owedFileByFile 32 = .ok (.getfield 45, 3) := by decide +kernel
theorem dX0_owedFileByFile_35 : decode cX0_owedFileByFile 35 = .ok (.if_icmp .ge 18, 3) := by decide +kernel
theorem dX0_owedFileByFile_38 : decode cX0_owedFileByFile 38 = .ok (.iload_n 2, 1) := by decide +kernel
theorem dX0_owedFileByFile_39 : decode cX0_owedFileByFile 39 = .ok (.aload_n 0, 1) := by decide +kernel
theorem dX0_owedFileByFile_40 : decode cX0_owedFileByFile 40 = .ok (.iload_n 3, 1) := by decide +kernel
theorem dX0_owedFileByFile_41 : decode cX0_owedFileByFile 41 = .ok (.iload_n 1, 1) := by decide +kernel
theorem dX0_owedFileByFile_42 : decode cX0_owedFileByFile 42 = .ok (.invokevirtual 58, 3) := by decide +kernel
theorem dX0_owedFileByFile_45 : decode cX0_owedFileByFile 45 = .ok (.iadd, 1) := by decide +kernel
theorem dX0_owedFileByFile_46 : decode cX0_owedFileByFile 46 = .ok (.istore_n 2, 1) := by decide +kernel
theorem dX0_owedFileByFile_47 : decode cX0_owedFileByFile 47 = .ok (.iinc 3 1, 3) := by decide +kernel
theorem dX0_owedFileByFile_50 : decode cX0_owedFileByFile 50 = .ok (.goto (-20), 3) := by decide +kernel
theorem dX0_owedFileByFile_53 : decode cX0_owedFileByFile 53 = .ok (.iload_n 2, 1) := by decide +kernel
theorem dX0_owedFileByFile_54 : decode cX0_owedFileByFile 54 = .ok (.ireturn, 1) := by decide +kernel
theorem dX0_minutesTakenIn_0 : decode cX0_minutesTakenIn 0 = .ok (.iconst 0, 1) := by decide +kernel
theorem dX0_minutesTakenIn_1 : decode cX0_minutesTakenIn 1 = .ok (.istore_n 2, 1) := by decide +kernel
theorem dX0_minutesTakenIn_2 : decode cX0_minutesTakenIn 2 = .ok (.iconst 0, 1) := by decide +kernel
theorem dX0_minutesTakenIn_3 : decode cX0_minutesTakenIn 3 = .ok (.istore_n 3, 1) := by decide +kernel
theorem dX0_minutesTakenIn_4 : decode cX0_minutesTakenIn 4 = .ok (.iload_n 3, 1) := by decide +kernel
theorem dX0_minutesTakenIn_5 : decode cX0_minutesTakenIn 5 = .ok (.aload_n 0, 1) := by decide +kernel
theorem dX0_minutesTakenIn_6 : decode cX0_minutesTakenIn 6 = .ok (.getfield 12, 3) := by decide +kernel
theorem dX0_minutesTakenIn_9 : decode cX0_minutesTakenIn 9 = .ok (.invokevirtual 18, 3) := by decide +kernel
theorem dX0_minutesTakenIn_12 : decode cX0_minutesTakenIn 12 = .ok (.if_icmp .ge 48, 3) := by decide +kernel
theorem dX0_minutesTakenIn_15 : decode cX0_minutesTakenIn 15 = .ok (.aload_n 0, 1) := by decide +kernel
theorem dX0_minutesTakenIn_16 : decode cX0_minutesTakenIn 16 = .ok (.getfield 12, 3) := by decide +kernel
theorem dX0_minutesTakenIn_19 : decode cX0_minutesTakenIn 19 = .ok (.iload_n 3, 1) := by decide +kernel
theorem dX0_minutesTakenIn_20 : decode cX0_minutesTakenIn 20 = .ok (.invokevirtual 22, 3) := by decide +kernel
theorem dX0_minutesTakenIn_23 : decode cX0_minutesTakenIn 23 = .ok (.checkcast 26, 3) := by decide +kernel
theorem dX0_minutesTakenIn_26 : decode cX0_minutesTakenIn 26 = .ok (.astore 4, 2) := by decide +kernel
theorem dX0_minutesTakenIn_28 : decode cX0_minutesTakenIn 28 = .ok (.aload 4, 2) := by decide +kernel
theorem dX0_minutesTakenIn_30 : decode cX0_minutesTakenIn 30 = .ok (.getfield 42, 3) := by decide +kernel
theorem dX0_minutesTakenIn_33 : decode cX0_minutesTakenIn 33 = .ok (.iload_n 1, 1) := by decide +kernel
theorem dX0_minutesTakenIn_34 : decode cX0_minutesTakenIn 34 = .ok (.if_icmp .ne 20, 3) := by decide +kernel
theorem dX0_minutesTakenIn_37 : decode cX0_minutesTakenIn 37 = .ok (.aload 4, 2) := by decide +kernel
theorem dX0_minutesTakenIn_39 : decode cX0_minutesTakenIn 39 = .ok (.getfield 28, 3) := by decide +kernel
theorem dX0_minutesTakenIn_42 : decode cX0_minutesTakenIn 42 = .ok (.iconst 2, 1) := by decide +kernel
theorem dX0_minutesTakenIn_43 : decode cX0_minutesTakenIn 43 = .ok (.if_icmp .ne 11, 3) := by decide +kernel
theorem dX0_minutesTakenIn_46 : decode cX0_minutesTakenIn 46 = .ok (.iload_n 2, 1) := by decide +kernel
theorem dX0_minutesTakenIn_47 : decode cX0_minutesTakenIn 47 = .ok (.aload 4, 2) := by decide +kernel
theorem dX0_minutesTakenIn_49 : decode cX0_minutesTakenIn 49 = .ok (.getfield 32, 3) := by decide +kernel
theorem dX0_minutesTakenIn_52 : decode cX0_minutesTakenIn 52 = .ok (.iadd, 1) := by decide +kernel
theorem dX0_minutesTakenIn_53 : decode cX0_minutesTakenIn 53 = .ok (.istore_n 2, 1) := by decide +kernel
theorem dX0_minutesTakenIn_54 : decode cX0_minutesTakenIn 54 = .ok (.iinc 3 1, 3) := by decide +kernel
theorem dX0_minutesTakenIn_57 : decode cX0_minutesTakenIn 57 = .ok (.goto (-53), 3) := by decide +kernel
theorem dX0_minutesTakenIn_60 : decode cX0_minutesTakenIn 60 = .ok (.iload_n 2, 1) := by decide +kernel
theorem dX0_minutesTakenIn_61 : decode cX0_minutesTakenIn 61 = .ok (.ireturn, 1) := by decide +kernel
theorem dX0_owedIn_0 : decode cX0_owedIn 0 = .ok (.iconst 0, 1) := by decide +kernel
theorem dX0_owedIn_1 : decode cX0_owedIn 1 = .ok (.istore_n 3, 1) := by decide +kernel
theorem dX0_owedIn_2 : decode cX0_owedIn 2 = .ok (.iconst 0, 1) := by decide +kernel
theorem dX0_owedIn_3 : decode cX0_owedIn 3 = .ok (.istore 4, 2) := by decide +kernel
theorem dX0_owedIn_5 : decode cX0_owedIn 5 = .ok (.iload 4, 2) := by decide +kernel
theorem dX0_owedIn_7 : decode cX0_owedIn 7 = .ok (.aload_n 0, 1) := by decide +kernel
theorem dX0_owedIn_8 : decode cX0_owedIn 8 = .ok (.getfield 12, 3) := by decide +kernel
theorem dX0_owedIn_11 : decode cX0_owedIn 11 = .ok (.invokevirtual 18, 3) := by decide +kernel
theorem dX0_owedIn_14 : decode cX0_owedIn 14 = .ok (.if_icmp .ge 41, 3) := by decide +kernel
theorem dX0_owedIn_17 : decode cX0_owedIn 17 = .ok (.aload_n 0, 1) := by decide +kernel
theorem dX0_owedIn_18 : decode cX0_owedIn 18 = .ok (.getfield 12, 3) := by decide +kernel
theorem dX0_owedIn_21 : decode cX0_owedIn 21 = .ok (.iload 4, 2) := by decide +kernel
theorem dX0_owedIn_23 : decode cX0_owedIn 23 = .ok (.invokevirtual 22, 3) := by decide +kernel
theorem dX0_owedIn_26 : decode cX0_owedIn 26 = .ok (.checkcast 26, 3) := by decide +kernel
theorem dX0_owedIn_29 : decode cX0_owedIn 29 = .ok (.astore 5, 2) := by decide +kernel
theorem dX0_owedIn_31 : decode cX0_owedIn 31 = .ok (.aload 5, 2) := by decide +kernel
theorem dX0_owedIn_33 : decode cX0_owedIn 33 = .ok (.getfield 42, 3) := by decide +kernel
theorem dX0_owedIn_36 : decode cX0_owedIn 36 = .ok (.iload_n 1, 1) := by decide +kernel
theorem dX0_owedIn_37 : decode cX0_owedIn 37 = .ok (.if_icmp .ne 12, 3) := by decide +kernel
theorem dX0_owedIn_40 : decode cX0_owedIn 40 = .ok (.iload_n 3, 1) := by decide +kernel
theorem dX0_owedIn_41 : decode cX0_owedIn 41 = .ok (.aload 5, 2) := by decide +kernel
theorem dX0_owedIn_43 : decode cX0_owedIn 43 = .ok (.iload_n 2, 1) := by decide +kernel
theorem dX0_owedIn_44 : decode cX0_owedIn 44 = .ok (.invokevirtual 52, 3) := by decide +kernel
theorem dX0_owedIn_47 : decode cX0_owedIn 47 = .ok (.iadd, 1) := by decide +kernel
theorem dX0_owedIn_48 : decode cX0_owedIn 48 = .ok (.istore_n 3, 1) := by decide +kernel
theorem dX0_owedIn_49 : decode cX0_owedIn 49 = .ok (.iinc 4 1, 3) := by decide +kernel
theorem dX0_owedIn_52 : decode cX0_owedIn 52 = .ok (.goto (-47), 3) := by decide +kernel
theorem dX0_owedIn_55 : decode cX0_owedIn 55 = .ok (.iload_n 3, 1) := by decide +kernel
theorem dX0_owedIn_56 : decode cX0_owedIn 56 = .ok (.ireturn, 1) := by decide +kernel
theorem dX1_init_0 : decode cX1_init 0 = .ok (.aload_n 0, 1) := by decide +kernel
theorem dX1_init_1 : decode cX1_init 1 = .ok (.invokespecial 1, 3) := by decide +kernel
theorem dX1_init_4 : decode cX1_init 4 = .ok (.aload_n 0, 1) := by decide +kernel
theorem dX1_init_5 : decode cX1_init 5 = .ok (.iload_n 1, 1) := by decide +kernel
theorem dX1_init_6 : decode cX1_init 6 = .ok (.putfield 7, 3) := by decide +kernel
theorem dX1_init_9 : decode cX1_init 9 = .ok (.aload_n 0, 1) := by decide +kernel
theorem dX1_init_10 : decode cX1_init 10 = .ok (.iload_n 2, 1) := by decide +kernel
theorem dX1_init_11 : decode cX1_init 11 = .ok (.putfield 13, 3) := by decide +kernel
theorem dX1_init_14 : decode cX1_init 14 = .ok (.aload_n 0, 1) := by decide +kernel
theorem dX1_init_15 : decode cX1_init 15 = .ok (.iload_n 3, 1) := by decide +kernel
theorem dX1_init_16 : decode cX1_init 16 = .ok (.putfield 16, 3) := by decide +kernel
theorem dX1_init_19 : decode cX1_init 19 = .ok (.aload_n 0, 1) := by decide +kernel
theorem dX1_init_20 : decode cX1_init 20 = .ok (.iload 4, 2) := by decide +kernel
theorem dX1_init_22 : decode cX1_init 22 = .ok (.putfield 19, 3) := by decide +kernel
theorem dX1_init_25 : decode cX1_init 25 = .ok (.aload_n 0, 1) := by decide +kernel
theorem dX1_init_26 : decode cX1_init 26 = .ok (.iload 5, 2) := by decide +kernel
theorem dX1_init_28 : decode cX1_init 28 = .ok (.putfield 22, 3) := by decide +kernel
theorem dX1_init_31 : decode cX1_init 31 = .ok (.aload_n 0, 1) := by decide +kernel
theorem dX1_init_32 : decode cX1_init 32 = .ok (.iload 6, 2) := by decide +kernel
theorem dX1_init_34 : decode cX1_init 34 = .ok (.putfield 25, 3) := by decide +kernel
theorem dX1_init_37 : decode cX1_init 37 = .ok (.aload_n 0, 1) := by decide +kernel
theorem dX1_init_38 : decode cX1_init 38 = .ok (.iload 7, 2) := by decide +kernel
theorem dX1_init_40 : decode cX1_init 40 = .ok (.putfield 28, 3) := by decide +kernel
theorem dX1_init_43 : decode cX1_init 43 = .ok (.return_, 1) := by decide +kernel
theorem dX1_holds_0 : decode cX1_holds 0 = .ok (.aload_n 0, 1) := by decide +kernel
theorem dX1_holds_1 : decode cX1_holds 1 = .ok (.getfield 7, 3) := by decide +kernel
theorem dX1_holds_4 : decode cX1_holds 4 = .ok (.iload_n 1, 1) := by decide +kernel
theorem dX1_holds_5 : decode cX1_holds 5 = .ok (.if_icmp .ne 31, 3) := by decide +kernel
theorem dX1_holds_8 : decode cX1_holds 8 = .ok (.aload_n 0, 1) := by decide +kernel
theorem dX1_holds_9 : decode cX1_holds 9 = .ok (.getfield 13, 3) := by decide +kernel
theorem dX1_holds_12 : decode cX1_holds 12 = .ok (.iload_n 2, 1) := by decide +kernel
theorem dX1_holds_13 : decode cX1_holds 13 = .ok (.if_icmp .ne 23, 3) := by decide +kernel
theorem dX1_holds_16 : decode cX1_holds 16 = .ok (.aload_n 0, 1) := by decide +kernel
theorem dX1_holds_17 : decode cX1_holds 17 = .ok (.getfield 16, 3) := by decide +kernel
theorem dX1_holds_20 : decode cX1_holds 20 = .ok (.iload_n 3, 1) := by decide +kernel
theorem dX1_holds_21 : decode cX1_holds 21 = .ok (.if_icmp .gt 15, 3) := by decide +kernel
theorem dX1_holds_24 : decode cX1_holds 24 = .ok (.iload_n 3, 1) := by decide +kernel
theorem dX1_holds_25 : decode cX1_holds 25 = .ok (.aload_n 0, 1) := by decide +kernel
theorem dX1_holds_26 : decode cX1_holds 26 = .ok (.getfield 19, 3) := by decide +kernel
theorem dX1_holds_29 : decode cX1_holds 29 = .ok (.if_icmp .ge 7, 3) := by decide +kernel
theorem dX1_holds_32 : decode cX1_holds 32 = .ok (.iconst 1, 1) := by decide +kernel
theorem dX1_holds_33 : decode cX1_holds 33 = .ok (.goto 4, 3) := by decide +kernel
theorem dX1_holds_36 : decode cX1_holds 36 = .ok (.iconst 0, 1) := by decide +kernel
theorem dX1_holds_37 : decode cX1_holds 37 = .ok (.ireturn, 1) := by decide +kernel
theorem dX1_priceAt_0 : decode cX1_priceAt 0 = .ok (.aload_n 0, 1) := by decide +kernel
theorem dX1_priceAt_1 : decode cX1_priceAt 1 = .ok (.getfield 25, 3) := by decide +kernel
theorem dX1_priceAt_4 : decode cX1_priceAt 4 = .ok (.ifCond .le 18, 3) := by decide +kernel
theorem dX1_priceAt_7 : decode cX1_priceAt 7 = .ok (.iload_n 1, 1) := by decide +kernel
theorem dX1_priceAt_8 : decode cX1_priceAt 8 = .ok (.aload_n 0, 1) := by decide +kernel
theorem dX1_priceAt_9 : decode cX1_priceAt 9 = .ok (.getfield 25, 3) := by decide +kernel
theorem dX1_priceAt_12 : decode cX1_priceAt 12 = .ok (.if_icmp .lt 10, 3) := by decide +kernel
theorem dX1_priceAt_15 : decode cX1_priceAt 15 = .ok (.aload_n 0, 1) := by decide +kernel
theorem dX1_priceAt_16 : decode cX1_priceAt 16 = .ok (.getfield 28, 3) := by decide +kernel
theorem dX1_priceAt_19 : decode cX1_priceAt 19 = .ok (.goto 7, 3) := by decide +kernel
theorem dX1_priceAt_22 : decode cX1_priceAt 22 = .ok (.aload_n 0, 1) := by decide +kernel
theorem dX1_priceAt_23 : decode cX1_priceAt 23 = .ok (.getfield 22, 3) := by decide +kernel
theorem dX1_priceAt_26 : decode cX1_priceAt 26 = .ok (.ireturn, 1) := by decide +kernel
theorem dX2_init_0 : decode cX2_init 0 = .ok (.aload_n 0, 1) := by decide +kernel
theorem dX2_init_1 : decode cX2_init 1 = .ok (.invokespecial 3, 3) := by decide +kernel
theorem dX2_init_4 : decode cX2_init 4 = .ok (.aload_n 0, 1) := by decide +kernel
theorem dX2_init_5 : decode cX2_init 5 = .ok (.bipush 10, 2) := by decide +kernel
theorem dX2_init_7 : decode cX2_init 7 = .ok (.newarray .int, 2) := by decide +kernel
theorem dX2_init_9 : decode cX2_init 9 = .ok (.putfield 9, 3) := by decide +kernel
theorem dX2_init_12 : decode cX2_init 12 = .ok (.aload_n 0, 1) := by decide +kernel
theorem dX2_init_13 : decode cX2_init 13 = .ok (.getfield 9, 3) := by decide +kernel
theorem dX2_init_16 : decode cX2_init 16 = .ok (.iconst (-1), 1) := by decide +kernel
theorem dX2_init_17 : decode cX2_init 17 = .ok (.invokestatic 15, 3) := by decide +kernel
theorem dX2_init_20 : decode cX2_init 20 = .ok (.return_, 1) := by decide +kernel
theorem dX2_latest_0 : decode cX2_latest 0 = .ok (.aload_n 0, 1) := by decide +kernel
theorem dX2_latest_1 : decode cX2_latest 1 = .ok (.iload_n 1, 1) := by decide +kernel
theorem dX2_latest_2 : decode cX2_latest 2 = .ok (.invokevirtual 21, 3) := by decide +kernel
theorem dX2_latest_5 : decode cX2_latest 5 = .ok (.ifCond .eq 12, 3) := by decide +kernel
theorem dX2_latest_8 : decode cX2_latest 8 = .ok (.aload_n 0, 1) := by decide +kernel
theorem dX2_latest_9 : decode cX2_latest 9 = .ok (.getfield 9, 3) := by decide +kernel
theorem dX2_latest_12 : decode cX2_latest 12 = .ok (.iload_n 1, 1) := by decide +kernel
theorem dX2_latest_13 : decode cX2_latest 13 = .ok (.iaload, 1) := by decide +kernel
theorem dX2_latest_14 : decode cX2_latest 14 = .ok (.goto 4, 3) := by decide +kernel
theorem dX2_latest_17 : decode cX2_latest 17 = .ok (.iconst (-1), 1) := by decide +kernel
theorem dX2_latest_18 : decode cX2_latest 18 = .ok (.ireturn, 1) := by decide +kernel
theorem dX2_has_0 : decode cX2_has 0 = .ok (.aload_n 0, 1) := by decide +kernel
theorem dX2_has_1 : decode cX2_has 1 = .ok (.iload_n 1, 1) := by decide +kernel
theorem dX2_has_2 : decode cX2_has 2 = .ok (.invokevirtual 25, 3) := by decide +kernel
theorem dX2_has_5 : decode cX2_has 5 = .ok (.iconst (-1), 1) := by decide +kernel
theorem dX2_has_6 : decode cX2_has 6 = .ok (.if_icmp .eq 7, 3) := by decide +kernel
theorem dX2_has_9 : decode cX2_has 9 = .ok (.iconst 1, 1) := by decide +kernel
theorem dX2_has_10 : decode cX2_has 10 = .ok (.goto 4, 3) := by decide +kernel
theorem dX2_has_13 : decode cX2_has 13 = .ok (.iconst 0, 1) := by decide +kernel
theorem dX2_has_14 : decode cX2_has 14 = .ok (.ireturn, 1) := by decide +kernel
theorem dX2_put_0 : decode cX2_put 0 = .ok (.aload_n 0, 1) := by decide +kernel
theorem dX2_put_1 : decode cX2_put 1 = .ok (.iload_n 1, 1) := by decide +kernel
theorem dX2_put_2 : decode cX2_put 2 = .ok (.invokevirtual 21, 3) := by decide +kernel
theorem dX2_put_5 : decode cX2_put 5 = .ok (.ifCond .eq 10, 3) := by decide +kernel
theorem dX2_put_8 : decode cX2_put 8 = .ok (.aload_n 0, 1) := by decide +kernel
theorem dX2_put_9 : decode cX2_put 9 = .ok (.getfield 9, 3) := by decide +kernel
theorem dX2_put_12 : decode cX2_put 12 = .ok (.iload_n 1, 1) := by decide +kernel
theorem dX2_put_13 : decode cX2_put 13 = .ok (.iload_n 2, 1) := by decide +kernel
theorem dX2_put_14 : decode cX2_put 14 = .ok (.iastore, 1) := by decide +kernel
theorem dX2_put_15 : decode cX2_put 15 = .ok (.return_, 1) := by decide +kernel
theorem dX2_takeOut_0 : decode cX2_takeOut 0 = .ok (.aload_n 0, 1) := by decide +kernel
theorem dX2_takeOut_1 : decode cX2_takeOut 1 = .ok (.iload_n 1, 1) := by decide +kernel
theorem dX2_takeOut_2 : decode cX2_takeOut 2 = .ok (.iconst (-1), 1) := by decide +kernel
theorem dX2_takeOut_3 : decode cX2_takeOut 3 = .ok (.invokevirtual 29, 3) := by decide +kernel
theorem dX2_takeOut_6 : decode cX2_takeOut 6 = .ok (.return_, 1) := by decide +kernel
theorem dX2_takeOutUpTo_0 : decode cX2_takeOutUpTo 0 = .ok (.iconst 0, 1) := by decide +kernel
theorem dX2_takeOutUpTo_1 : decode cX2_takeOutUpTo 1 = .ok (.istore_n 2, 1) := by decide +kernel
theorem dX2_takeOutUpTo_2 : decode cX2_takeOutUpTo 2 = .ok (.iload_n 2, 1) := by decide +kernel
theorem dX2_takeOutUpTo_3 : decode cX2_takeOutUpTo 3 = .ok (.aload_n 0, 1) := by decide +kernel
theorem dX2_takeOutUpTo_4 : decode cX2_takeOutUpTo 4 = .ok (.getfield 9, 3) := by decide +kernel
theorem dX2_takeOutUpTo_7 : decode cX2_takeOutUpTo 7 = .ok (.arraylength, 1) := by decide +kernel
theorem dX2_takeOutUpTo_8 : decode cX2_takeOutUpTo 8 = .ok (.if_icmp .ge 26, 3) := by decide +kernel
theorem dX2_takeOutUpTo_11 : decode cX2_takeOutUpTo 11 = .ok (.aload_n 0, 1) := by decide +kernel
theorem dX2_takeOutUpTo_12 : decode cX2_takeOutUpTo 12 = .ok (.getfield 9, 3) := by decide +kernel
theorem dX2_takeOutUpTo_15 : decode cX2_takeOutUpTo 15 = .ok (.iload_n 2, 1) := by decide +kernel
theorem dX2_takeOutUpTo_16 : decode cX2_takeOutUpTo 16 = .ok (.iaload, 1) := by decide +kernel
theorem dX2_takeOutUpTo_17 : decode cX2_takeOutUpTo 17 = .ok (.iload_n 1, 1) := by decide +kernel
theorem dX2_takeOutUpTo_18 : decode cX2_takeOutUpTo 18 = .ok (.if_icmp .gt 10, 3) := by decide +kernel
theorem dX2_takeOutUpTo_21 : decode cX2_takeOutUpTo 21 = .ok (.aload_n 0, 1) := by decide +kernel
theorem dX2_takeOutUpTo_22 : decode cX2_takeOutUpTo 22 = .ok (.getfield 9, 3) := by decide +kernel
theorem dX2_takeOutUpTo_25 : decode cX2_takeOutUpTo 25 = .ok (.iload_n 2, 1) := by decide +kernel
theorem dX2_takeOutUpTo_26 : decode cX2_takeOutUpTo 26 = .ok (.iconst (-1), 1) := by decide +kernel
theorem dX2_takeOutUpTo_27 : decode cX2_takeOutUpTo 27 = .ok (.iastore, 1) := by decide +kernel
theorem dX2_takeOutUpTo_28 : decode cX2_takeOutUpTo 28 = .ok (.iinc 2 1, 3) := by decide +kernel
theorem dX2_takeOutUpTo_31 : decode cX2_takeOutUpTo 31 = .ok (.goto (-29), 3) := by decide +kernel
theorem dX2_takeOutUpTo_34 : decode cX2_takeOutUpTo 34 = .ok (.return_, 1) := by decide +kernel
theorem dX2_clear_0 : decode cX2_clear 0 = .ok (.aload_n 0, 1) := by decide +kernel
theorem dX2_clear_1 : decode cX2_clear 1 = .ok (.getfield 9, 3) := by decide +kernel
theorem dX2_clear_4 : decode cX2_clear 4 = .ok (.iconst (-1), 1) := by decide +kernel
theorem dX2_clear_5 : decode cX2_clear 5 = .ok (.invokestatic 15, 3) := by decide +kernel
theorem dX2_clear_8 : decode cX2_clear 8 = .ok (.return_, 1) := by decide +kernel
theorem dX2_count_0 : decode cX2_count 0 = .ok (.iconst 0, 1) := by decide +kernel
theorem dX2_count_1 : decode cX2_count 1 = .ok (.istore_n 1, 1) := by decide +kernel
theorem dX2_count_2 : decode cX2_count 2 = .ok (.iconst 0, 1) := by decide +kernel
theorem dX2_count_3 : decode cX2_count 3 = .ok (.istore_n 2, 1) := by decide +kernel
theorem dX2_count_4 : decode cX2_count 4 = .ok (.iload_n 2, 1) := by decide +kernel
theorem dX2_count_5 : decode cX2_count 5 = .ok (.aload_n 0, 1) := by decide +kernel
theorem dX2_count_6 : decode cX2_count 6 = .ok (.getfield 9, 3) := by decide +kernel
theorem dX2_count_9 : decode cX2_count 9 = .ok (.arraylength, 1) := by decide +kernel
theorem dX2_count_10 : decode cX2_count 10 = .ok (.if_icmp .ge 22, 3) := by decide +kernel
theorem dX2_count_13 : decode cX2_count 13 = .ok (.aload_n 0, 1) := by decide +kernel
theorem dX2_count_14 : decode cX2_count 14 = .ok (.getfield 9, 3) := by decide +kernel
theorem dX2_count_17 : decode cX2_count 17 = .ok (.iload_n 2, 1) := by decide +kernel
theorem dX2_count_18 : decode cX2_count 18 = .ok (.iaload, 1) := by decide +kernel
theorem dX2_count_19 : decode cX2_count 19 = .ok (.iconst (-1), 1) := by decide +kernel
theorem dX2_count_20 : decode cX2_count 20 = .ok (.if_icmp .eq 6, 3) := by decide +kernel
theorem dX2_count_23 : decode cX2_count 23 = .ok (.iinc 1 1, 3) := by decide +kernel
theorem dX2_count_26 : decode cX2_count 26 = .ok (.iinc 2 1, 3) := by decide +kernel
theorem dX2_count_29 : decode cX2_count 29 = .ok (.goto (-25), 3) := by decide +kernel
theorem dX2_count_32 : decode cX2_count 32 = .ok (.iload_n 1, 1) := by decide +kernel
theorem dX2_count_33 : decode cX2_count 33 = .ok (.ireturn, 1) := by decide +kernel
theorem dX2_isLine_0 : decode cX2_isLine 0 = .ok (.iload_n 1, 1) := by decide +kernel
theorem dX2_isLine_1 : decode cX2_isLine 1 = .ok (.ifCond .lt 16, 3) := by decide +kernel
theorem dX2_isLine_4 : decode cX2_isLine 4 = .ok (.iload_n 1, 1) := by decide +kernel
theorem dX2_isLine_5 : decode cX2_isLine 5 = .ok (.aload_n 0, 1) := by decide +kernel
theorem dX2_isLine_6 : decode cX2_isLine 6 = .ok (.getfield 9, 3) := by decide +kernel
theorem dX2_isLine_9 : decode cX2_isLine 9 = .ok (.arraylength, 1) := by decide +kernel
theorem dX2_isLine_10 : decode cX2_isLine 10 = .ok (.if_icmp .ge 7, 3) := by decide +kernel
theorem dX2_isLine_13 : decode cX2_isLine 13 = .ok (.iconst 1, 1) := by decide +kernel
theorem dX2_isLine_14 : decode cX2_isLine 14 = .ok (.goto 4, 3) := by decide +kernel
theorem dX2_isLine_17 : decode cX2_isLine 17 = .ok (.iconst 0, 1) := by decide +kernel
theorem dX2_isLine_18 : decode cX2_isLine 18 = .ok (.ireturn, 1) := by decide +kernel
theorem dX3_init_0 : decode cX3_init 0 = .ok (.aload_n 0, 1) := by decide +kernel
theorem dX3_init_1 : decode cX3_init 1 = .ok (.invokespecial 1, 3) := by decide +kernel
theorem dX3_init_4 : decode cX3_init 4 = .ok (.aload_n 0, 1) := by decide +kernel
theorem dX3_init_5 : decode cX3_init 5 = .ok (.iload_n 1, 1) := by decide +kernel
theorem dX3_init_6 : decode cX3_init 6 = .ok (.putfield 7, 3) := by decide +kernel
theorem dX3_init_9 : decode cX3_init 9 = .ok (.aload_n 0, 1) := by decide +kernel
theorem dX3_init_10 : decode cX3_init 10 = .ok (.iload_n 2, 1) := by decide +kernel
theorem dX3_init_11 : decode cX3_init 11 = .ok (.putfield 13, 3) := by decide +kernel
theorem dX3_init_14 : decode cX3_init 14 = .ok (.aload_n 0, 1) := by decide +kernel
theorem dX3_init_15 : decode cX3_init 15 = .ok (.iload_n 3, 1) := by decide +kernel
theorem dX3_init_16 : decode cX3_init 16 = .ok (.putfield 16, 3) := by decide +kernel
theorem dX3_init_19 : decode cX3_init 19 = .ok (.aload_n 0, 1) := by decide +kernel
theorem dX3_init_20 : decode cX3_init 20 = .ok (.iload 4, 2) := by decide +kernel
theorem dX3_init_22 : decode cX3_init 22 = .ok (.putfield 19, 3) := by decide +kernel
theorem dX3_init_25 : decode cX3_init 25 = .ok (.return_, 1) := by decide +kernel
theorem dX3_paidBy_0 : decode cX3_paidBy 0 = .ok (.iload_n 1, 1) := by decide +kernel
theorem dX3_paidBy_1 : decode cX3_paidBy 1 = .ok (.aload_n 0, 1) := by decide +kernel
theorem dX3_paidBy_2 : decode cX3_paidBy 2 = .ok (.getfield 7, 3) := by decide +kernel
theorem dX3_paidBy_5 : decode cX3_paidBy 5 = .ok (.if_icmp .ne 8, 3) := by decide +kernel
theorem dX3_paidBy_8 : decode cX3_paidBy 8 = .ok (.aload_n 0, 1) := by decide +kernel
theorem dX3_paidBy_9 : decode cX3_paidBy 9 = .ok (.getfield 13, 3) := by decide +kernel
theorem dX3_paidBy_12 : decode cX3_paidBy 12 = .ok (.ireturn, 1) := by decide +kernel
theorem dX3_paidBy_13 : decode cX3_paidBy 13 = .ok (.iload_n 1, 1) := by decide +kernel
theorem dX3_paidBy_14 : decode cX3_paidBy 14 = .ok (.aload_n 0, 1) := by decide +kernel
theorem dX3_paidBy_15 : decode cX3_paidBy 15 = .ok (.getfield 16, 3) := by decide +kernel
theorem dX3_paidBy_18 : decode cX3_paidBy 18 = .ok (.if_icmp .ne 10, 3) := by decide +kernel
theorem dX3_paidBy_21 : decode cX3_paidBy 21 = .ok (.aload_n 0, 1) := by decide +kernel
theorem dX3_paidBy_22 : decode cX3_paidBy 22 = .ok (.getfield 19, 3) := by decide +kernel
theorem dX3_paidBy_25 : decode cX3_paidBy 25 = .ok (.goto 4, 3) := by decide +kernel
theorem dX3_paidBy_28 : decode cX3_paidBy 28 = .ok (.iconst 0, 1) := by decide +kernel
theorem dX3_paidBy_29 : decode cX3_paidBy 29 = .ok (.ireturn, 1) := by decide +kernel
theorem dX4_init_0 : decode cX4_init 0 = .ok (.aload_n 0, 1) := by decide +kernel
theorem dX4_init_1 : decode cX4_init 1 = .ok (.invokespecial 3, 3) := by decide +kernel
theorem dX4_init_4 : decode cX4_init 4 = .ok (.aload_n 0, 1) := by decide +kernel
theorem dX4_init_5 : decode cX4_init 5 = .ok (.iconst 0, 1) := by decide +kernel
theorem dX4_init_6 : decode cX4_init 6 = .ok (.putfield 9, 3) := by decide +kernel
theorem dX4_init_9 : decode cX4_init 9 = .ok (.aload_n 0, 1) := by decide +kernel
theorem dX4_init_10 : decode cX4_init 10 = .ok (.iconst (-1), 1) := by decide +kernel
theorem dX4_init_11 : decode cX4_init 11 = .ok (.putfield 15, 3) := by decide +kernel
theorem dX4_init_14 : decode cX4_init 14 = .ok (.aload_n 0, 1) := by decide +kernel
theorem dX4_init_15 : decode cX4_init 15 = .ok (.iload_n 1, 1) := by decide +kernel
theorem dX4_init_16 : decode cX4_init 16 = .ok (.putfield 18, 3) := by decide +kernel
theorem dX4_init_19 : decode cX4_init 19 = .ok (.aload_n 0, 1) := by decide +kernel
theorem dX4_init_20 : decode cX4_init 20 = .ok (.iload_n 2, 1) := by decide +kernel
theorem dX4_init_21 : decode cX4_init 21 = .ok (.putfield 21, 3) := by decide +kernel
theorem dX4_init_24 : decode cX4_init 24 = .ok (.aload_n 0, 1) := by decide +kernel
theorem dX4_init_25 : decode cX4_init 25 = .ok (.aload_n 3, 1) := by decide +kernel
theorem dX4_init_26 : decode cX4_init 26 = .ok (.putfield 24, 3) := by decide +kernel
theorem dX4_init_29 : decode cX4_init 29 = .ok (.return_, 1) := by decide +kernel
theorem dX4_owed_0 : decode cX4_owed 0 = .ok (.aload_n 0, 1) := by decide +kernel
theorem dX4_owed_1 : decode cX4_owed 1 = .ok (.getfield 9, 3) := by decide +kernel
theorem dX4_owed_4 : decode cX4_owed 4 = .ok (.iconst 2, 1) := by decide +kernel
theorem dX4_owed_5 : decode cX4_owed 5 = .ok (.if_icmp .ne 10, 3) := by decide +kernel
theorem dX4_owed_8 : decode cX4_owed 8 = .ok (.aload_n 0, 1) := by decide +kernel
theorem dX4_owed_9 : decode cX4_owed 9 = .ok (.getfield 24, 3) := by decide +kernel
theorem dX4_owed_12 : decode cX4_owed 12 = .ok (.ifnonnull 5, 3) := by decide +kernel
theorem dX4_owed_15 : decode cX4_owed 15 = .ok (.iconst 0, 1) := by decide +kernel
theorem dX4_owed_16 : decode cX4_owed 16 = .ok (.ireturn, 1) := by decide +kernel
theorem dX4_owed_17 : decode cX4_owed 17 = .ok (.aload_n 0, 1) := by decide +kernel
theorem dX4_owed_18 : decode cX4_owed 18 = .ok (.getfield 18, 3) := by decide +kernel
theorem dX4_owed_21 : decode cX4_owed 21 = .ok (.aload_n 0, 1) := by decide +kernel
theorem dX4_owed_22 : decode cX4_owed 22 = .ok (.getfield 24, 3) := by decide +kernel
theorem dX4_owed_25 : decode cX4_owed 25 = .ok (.iload_n 1, 1) := by decide +kernel
theorem dX4_owed_26 : decode cX4_owed 26 = .ok (.invokevirtual 28, 3) := by decide +kernel
theorem dX4_owed_29 : decode cX4_owed 29 = .ok (.imul, 1) := by decide +kernel
theorem dX4_owed_30 : decode cX4_owed 30 = .ok (.ireturn, 1) := by decide +kernel
theorem dX5_init_0 : decode cX5_init 0 = .ok (.aload_n 0, 1) := by decide +kernel
theorem dX5_init_1 : decode cX5_init 1 = .ok (.invokespecial 3, 3) := by decide +kernel
theorem dX5_init_4 : decode cX5_init 4 = .ok (.aload_n 0, 1) := by decide +kernel
theorem dX5_init_5 : decode cX5_init 5 = .ok (.new 9, 3) := by decide +kernel
theorem dX5_init_8 : decode cX5_init 8 = .ok (.dup, 1) := by decide +kernel
theorem dX5_init_9 : decode cX5_init 9 = .ok (.invokespecial 11, 3) := by decide +kernel
theorem dX5_init_12 : decode cX5_init 12 = .ok (.putfield 12, 3) := by decide +kernel
theorem dX5_init_15 : decode cX5_init 15 = .ok (.aload_n 0, 1) := by decide +kernel
theorem dX5_init_16 : decode cX5_init 16 = .ok (.iconst (-1), 1) := by decide +kernel
theorem dX5_init_17 : decode cX5_init 17 = .ok (.putfield 18, 3) := by decide +kernel
theorem dX5_init_20 : decode cX5_init 20 = .ok (.aload_n 0, 1) := by decide +kernel
theorem dX5_init_21 : decode cX5_init 21 = .ok (.bipush 10, 2) := by decide +kernel
theorem dX5_init_23 : decode cX5_init 23 = .ok (.putfield 22, 3) := by decide +kernel
theorem dX5_init_26 : decode cX5_init 26 = .ok (.aload_n 0, 1) := by decide +kernel
theorem dX5_init_27 : decode cX5_init 27 = .ok (.bipush 50, 2) := by decide +kernel
theorem dX5_init_29 : decode cX5_init 29 = .ok (.putfield 25, 3) := by decide +kernel
theorem dX5_init_32 : decode cX5_init 32 = .ok (.aload_n 0, 1) := by decide +kernel
theorem dX5_init_33 : decode cX5_init 33 = .ok (.bipush 20, 2) := by decide +kernel
theorem dX5_init_35 : decode cX5_init 35 = .ok (.putfield 28, 3) := by decide +kernel
theorem dX5_init_38 : decode cX5_init 38 = .ok (.return_, 1) := by decide +kernel
theorem dX6_init_0 : decode cX6_init 0 = .ok (.aload_n 0, 1) := by decide +kernel
theorem dX6_init_1 : decode cX6_init 1 = .ok (.invokespecial 3, 3) := by decide +kernel
theorem dX6_init_4 : decode cX6_init 4 = .ok (.aload_n 0, 1) := by decide +kernel
theorem dX6_init_5 : decode cX6_init 5 = .ok (.iconst (-1), 1) := by decide +kernel
theorem dX6_init_6 : decode cX6_init 6 = .ok (.putfield 9, 3) := by decide +kernel
theorem dX6_init_9 : decode cX6_init 9 = .ok (.aload_n 0, 1) := by decide +kernel
theorem dX6_init_10 : decode cX6_init 10 = .ok (.iconst (-1), 1) := by decide +kernel
theorem dX6_init_11 : decode cX6_init 11 = .ok (.putfield 15, 3) := by decide +kernel
theorem dX6_init_14 : decode cX6_init 14 = .ok (.aload_n 0, 1) := by decide +kernel
theorem dX6_init_15 : decode cX6_init 15 = .ok (.sipush 5000, 3) := by decide +kernel
theorem dX6_init_18 : decode cX6_init 18 = .ok (.putfield 18, 3) := by decide +kernel
theorem dX6_init_21 : decode cX6_init 21 = .ok (.aload_n 0, 1) := by decide +kernel
theorem dX6_init_22 : decode cX6_init 22 = .ok (.iload_n 1, 1) := by decide +kernel
theorem dX6_init_23 : decode cX6_init 23 = .ok (.putfield 21, 3) := by decide +kernel
theorem dX6_init_26 : decode cX6_init 26 = .ok (.aload_n 0, 1) := by decide +kernel
theorem dX6_init_27 : decode cX6_init 27 = .ok (.iload_n 2, 1) := by decide +kernel
theorem dX6_init_28 : decode cX6_init 28 = .ok (.putfield 24, 3) := by decide +kernel
theorem dX6_init_31 : decode cX6_init 31 = .ok (.aload_n 0, 1) := by decide +kernel
theorem dX6_init_32 : decode cX6_init 32 = .ok (.iload_n 3, 1) := by decide +kernel
theorem dX6_init_33 : decode cX6_init 33 = .ok (.putfield 27, 3) := by decide +kernel
theorem dX6_init_36 : decode cX6_init 36 = .ok (.aload_n 0, 1) := by decide +kernel
theorem dX6_init_37 : decode cX6_init 37 = .ok (.iload 4, 2) := by decide +kernel
theorem dX6_init_39 : decode cX6_init 39 = .ok (.putfield 30, 3) := by decide +kernel
theorem dX6_init_42 : decode cX6_init 42 = .ok (.return_, 1) := by decide +kernel
theorem dX6_isAbroad_0 : decode cX6_isAbroad 0 = .ok (.aload_n 0, 1) := by decide +kernel
theorem dX6_isAbroad_1 : decode cX6_isAbroad 1 = .ok (.getfield 9, 3) := by decide +kernel
theorem dX6_isAbroad_4 : decode cX6_isAbroad 4 = .ok (.iconst (-1), 1) := by decide +kernel
theorem dX6_isAbroad_5 : decode cX6_isAbroad 5 = .ok (.if_icmp .eq 18, 3) := by decide +kernel
theorem dX6_isAbroad_8 : decode cX6_isAbroad 8 = .ok (.aload_n 0, 1) := by decide +kernel
theorem dX6_isAbroad_9 : decode cX6_isAbroad 9 = .ok (.getfield 9, 3) := by decide +kernel
theorem dX6_isAbroad_12 : decode cX6_isAbroad 12 = .ok (.aload_n 0, 1) := by decide +kernel
theorem dX6_isAbroad_13 : decode cX6_isAbroad 13 = .ok (.getfield 24, 3) := by decide +kernel
theorem dX6_isAbroad_16 : decode cX6_isAbroad 16 = .ok (.if_icmp .eq 7, 3) := by decide +kernel
theorem dX6_isAbroad_19 : decode cX6_isAbroad 19 = .ok (.iconst 1, 1) := by decide +kernel
theorem dX6_isAbroad_20 : decode cX6_isAbroad 20 = .ok (.goto 4, 3) := by decide +kernel
theorem dX6_isAbroad_23 : decode cX6_isAbroad 23 = .ok (.iconst 0, 1) := by decide +kernel
theorem dX6_isAbroad_24 : decode cX6_isAbroad 24 = .ok (.ireturn, 1) := by decide +kernel
theorem dX6_wouldComeAboveCap_0 : decode cX6_wouldComeAboveCap 0 = .ok (.aload_n 0, 1) := by decide +kernel
theorem dX6_wouldComeAboveCap_1 : decode cX6_wouldComeAboveCap 1 = .ok (.invokevirtual 33, 3) := by decide +kernel
theorem dX6_wouldComeAboveCap_4 : decode cX6_wouldComeAboveCap 4 = .ok (.ifCond .eq 27, 3) := by decide +kernel
theorem dX6_wouldComeAboveCap_7 : decode cX6_wouldComeAboveCap 7 = .ok (.aload_n 0, 1) := by decide +kernel
theorem dX6_wouldComeAboveCap_8 : decode cX6_wouldComeAboveCap 8 = .ok (.getfield 37, 3) := by decide +kernel
theorem dX6_wouldComeAboveCap_11 : decode cX6_wouldComeAboveCap 11 = .ok (.ifCond .ne 20, 3) := by decide +kernel
theorem dX6_wouldComeAboveCap_14 : decode cX6_wouldComeAboveCap 14 = .ok (.aload_n 0, 1) := by decide +kernel
theorem dX6_wouldComeAboveCap_15 : decode cX6_wouldComeAboveCap 15 = .ok (.getfield 41, 3) := by decide +kernel
theorem dX6_wouldComeAboveCap_18 : decode cX6_wouldComeAboveCap 18 = .ok (.iload_n 1, 1) := by decide +kernel
theorem dX6_wouldComeAboveCap_19 : decode cX6_wouldComeAboveCap 19 = .ok (.iadd, 1) := by decide +kernel
theorem dX6_wouldComeAboveCap_20 : decode cX6_wouldComeAboveCap 20 = .ok (.aload_n 0, 1) := by decide +kernel
theorem dX6_wouldComeAboveCap_21 : decode cX6_wouldComeAboveCap 21 = .ok (.getfield 18, 3) := by decide +kernel
theorem dX6_wouldComeAboveCap_24 : decode cX6_wouldComeAboveCap 24 = .ok (.if_icmp .le 7, 3) := by decide +kernel
theorem dX6_wouldComeAboveCap_27 : decode cX6_wouldComeAboveCap 27 = .ok (.iconst 1, 1) := by decide +kernel
theorem dX6_wouldComeAboveCap_28 : decode cX6_wouldComeAboveCap 28 = .ok (.goto 4, 3) := by decide +kernel
theorem dX6_wouldComeAboveCap_31 : decode cX6_wouldComeAboveCap 31 = .ok (.iconst 0, 1) := by decide +kernel
theorem dX6_wouldComeAboveCap_32 : decode cX6_wouldComeAboveCap 32 = .ok (.ireturn, 1) := by decide +kernel
theorem dX6_isWarned_0 : decode cX6_isWarned 0 = .ok (.aload_n 0, 1) := by decide +kernel
theorem dX6_isWarned_1 : decode cX6_isWarned 1 = .ok (.getfield 41, 3) := by decide +kernel
theorem dX6_isWarned_4 : decode cX6_isWarned 4 = .ok (.i2l, 1) := by decide +kernel
theorem dX6_isWarned_5 : decode cX6_isWarned 5 = .ok (.ldc2_w 44, 3) := by decide +kernel
theorem dX6_isWarned_8 : decode cX6_isWarned 8 = .ok (.lmul, 1) := by decide +kernel
theorem dX6_isWarned_9 : decode cX6_isWarned 9 = .ok (.aload_n 0, 1) := by decide +kernel
theorem dX6_isWarned_10 : decode cX6_isWarned 10 = .ok (.getfield 18, 3) := by decide +kernel
theorem dX6_isWarned_13 : decode cX6_isWarned 13 = .ok (.i2l, 1) := by decide +kernel
theorem dX6_isWarned_14 : decode cX6_isWarned 14 = .ok (.ldc2_w 46, 3) := by decide +kernel
theorem dX6_isWarned_17 : decode cX6_isWarned 17 = .ok (.lmul, 1) := by decide +kernel
theorem dX6_isWarned_18 : decode cX6_isWarned 18 = .ok (.lcmp, 1) := by decide +kernel
theorem dX6_isWarned_19 : decode cX6_isWarned 19 = .ok (.ifCond .lt 7, 3) := by decide +kernel
theorem dX6_isWarned_22 : decode cX6_isWarned 22 = .ok (.iconst 1, 1) := by decide +kernel
theorem dX6_isWarned_23 : decode cX6_isWarned 23 = .ok (.goto 4, 3) := by decide +kernel
theorem dX6_isWarned_26 : decode cX6_isWarned 26 = .ok (.iconst 0, 1) := by decide +kernel
theorem dX6_isWarned_27 : decode cX6_isWarned 27 = .ok (.ireturn, 1) := by decide +kernel
theorem dX7_init_0 : decode cX7_init 0 = .ok (.aload_n 0, 1) := by decide +kernel
theorem dX7_init_1 : decode cX7_init 1 = .ok (.invokespecial 1, 3) := by decide +kernel
theorem dX7_init_4 : decode cX7_init 4 = .ok (.aload_n 0, 1) := by decide +kernel
theorem dX7_init_5 : decode cX7_init 5 = .ok (.bipush 8, 2) := by decide +kernel
theorem dX7_init_7 : decode cX7_init 7 = .ok (.newarray .int, 2) := by decide +kernel
theorem dX7_init_9 : decode cX7_init 9 = .ok (.putfield 9, 3) := by decide +kernel
theorem dX7_init_12 : decode cX7_init 12 = .ok (.aload_n 0, 1) := by decide +kernel
theorem dX7_init_13 : decode cX7_init 13 = .ok (.bipush 6, 2) := by decide +kernel
theorem dX7_init_15 : decode cX7_init 15 = .ok (.anewarray 13, 3) := by decide +kernel
theorem dX7_init_18 : decode cX7_init 18 = .ok (.putfield 15, 3) := by decide +kernel
theorem dX7_init_21 : decode cX7_init 21 = .ok (.aload_n 0, 1) := by decide +kernel
theorem dX7_init_22 : decode cX7_init 22 = .ok (.bipush 36, 2) := by decide +kernel
theorem dX7_init_24 : decode cX7_init 24 = .ok (.anewarray 19, 3) := by decide +kernel
theorem dX7_init_27 : decode cX7_init 27 = .ok (.putfield 21, 3) := by decide +kernel
theorem dX7_init_30 : decode cX7_init 30 = .ok (.aload_n 0, 1) := by decide +kernel
theorem dX7_init_31 : decode cX7_init 31 = .ok (.new 25, 3) := by decide +kernel
theorem dX7_init_34 : decode cX7_init 34 = .ok (.dup, 1) := by decide +kernel
theorem dX7_init_35 : decode cX7_init 35 = .ok (.invokespecial 27, 3) := by decide +kernel
theorem dX7_init_38 : decode cX7_init 38 = .ok (.putfield 28, 3) := by decide +kernel
theorem dX7_init_41 : decode cX7_init 41 = .ok (.aload_n 0, 1) := by decide +kernel
theorem dX7_init_42 : decode cX7_init 42 = .ok (.new 25, 3) := by decide +kernel
theorem dX7_init_45 : decode cX7_init 45 = .ok (.dup, 1) := by decide +kernel
theorem dX7_init_46 : decode cX7_init 46 = .ok (.invokespecial 27, 3) := by decide +kernel
theorem dX7_init_49 : decode cX7_init 49 = .ok (.putfield 32, 3) := by decide +kernel
theorem dX7_init_52 : decode cX7_init 52 = .ok (.aload_n 0, 1) := by decide +kernel
theorem dX7_init_53 : decode cX7_init 53 = .ok (.new 25, 3) := by decide +kernel
theorem dX7_init_56 : decode cX7_init 56 = .ok (.dup, 1) := by decide +kernel
theorem dX7_init_57 : decode cX7_init 57 = .ok (.invokespecial 27, 3) := by decide +kernel
theorem dX7_init_60 : decode cX7_init 60 = .ok (.putfield 35, 3) := by decide +kernel
theorem dX7_init_63 : decode cX7_init 63 = .ok (.iconst 0, 1) := by decide +kernel
theorem dX7_init_64 : decode cX7_init 64 = .ok (.istore_n 1, 1) := by decide +kernel
theorem dX7_init_65 : decode cX7_init 65 = .ok (.iload_n 1, 1) := by decide +kernel
theorem dX7_init_66 : decode cX7_init 66 = .ok (.aload_n 0, 1) := by decide +kernel
theorem dX7_init_67 : decode cX7_init 67 = .ok (.getfield 15, 3) := by decide +kernel
theorem dX7_init_70 : decode cX7_init 70 = .ok (.arraylength, 1) := by decide +kernel
theorem dX7_init_71 : decode cX7_init 71 = .ok (.if_icmp .ge 22, 3) := by decide +kernel
theorem dX7_init_74 : decode cX7_init 74 = .ok (.aload_n 0, 1) := by decide +kernel
theorem dX7_init_75 : decode cX7_init 75 = .ok (.getfield 15, 3) := by decide +kernel
theorem dX7_init_78 : decode cX7_init 78 = .ok (.iload_n 1, 1) := by decide +kernel
theorem dX7_init_79 : decode cX7_init 79 = .ok (.new 13, 3) := by decide +kernel
theorem dX7_init_82 : decode cX7_init 82 = .ok (.dup, 1) := by decide +kernel
theorem dX7_init_83 : decode cX7_init 83 = .ok (.invokespecial 38, 3) := by decide +kernel
theorem dX7_init_86 : decode cX7_init 86 = .ok (.aastore, 1) := by decide +kernel
theorem dX7_init_87 : decode cX7_init 87 = .ok (.iinc 1 1, 3) := by decide +kernel
theorem dX7_init_90 : decode cX7_init 90 = .ok (.goto (-25), 3) := by decide +kernel
theorem dX7_init_93 : decode cX7_init 93 = .ok (.iconst 0, 1) := by decide +kernel
theorem dX7_init_94 : decode cX7_init 94 = .ok (.istore_n 1, 1) := by decide +kernel
theorem dX7_init_95 : decode cX7_init 95 = .ok (.iload_n 1, 1) := by decide +kernel
theorem dX7_init_96 : decode cX7_init 96 = .ok (.aload_n 0, 1) := by decide +kernel
theorem dX7_init_97 : decode cX7_init 97 = .ok (.getfield 21, 3) := by decide +kernel
theorem dX7_init_100 : decode cX7_init 100 = .ok (.arraylength, 1) := by decide +kernel
theorem dX7_init_101 : decode cX7_init 101 = .ok (.if_icmp .ge 22, 3) := by decide +kernel
theorem dX7_init_104 : decode cX7_init 104 = .ok (.aload_n 0, 1) := by decide +kernel
theorem dX7_init_105 : decode cX7_init 105 = .ok (.getfield 21, 3) := by decide +kernel
theorem dX7_init_108 : decode cX7_init 108 = .ok (.iload_n 1, 1) := by decide +kernel
theorem dX7_init_109 : decode cX7_init 109 = .ok (.new 19, 3) := by decide +kernel
theorem dX7_init_112 : decode cX7_init 112 = .ok (.dup, 1) := by decide +kernel
theorem dX7_init_113 : decode cX7_init 113 = .ok (.invokespecial 39, 3) := by decide +kernel
theorem dX7_init_116 : decode cX7_init 116 = .ok (.aastore, 1) := by decide +kernel
theorem dX7_init_117 : decode cX7_init 117 = .ok (.iinc 1 1, 3) := by decide +kernel
theorem dX7_init_120 : decode cX7_init 120 = .ok (.goto (-25), 3) := by decide +kernel
theorem dX7_init_123 : decode cX7_init 123 = .ok (.return_, 1) := by decide +kernel
theorem dX7_reach_0 : decode cX7_reach 0 = .ok (.aload_n 0, 1) := by decide +kernel
theorem dX7_reach_1 : decode cX7_reach 1 = .ok (.iload_n 1, 1) := by decide +kernel
theorem dX7_reach_2 : decode cX7_reach 2 = .ok (.invokevirtual 40, 3) := by decide +kernel
theorem dX7_reach_5 : decode cX7_reach 5 = .ok (.istore_n 3, 1) := by decide +kernel
theorem dX7_reach_6 : decode cX7_reach 6 = .ok (.iload_n 2, 1) := by decide +kernel
theorem dX7_reach_7 : decode cX7_reach 7 = .ok (.iconst 0, 1) := by decide +kernel
theorem dX7_reach_8 : decode cX7_reach 8 = .ok (.bipush 63, 2) := by decide +kernel
theorem dX7_reach_10 : decode cX7_reach 10 = .ok (.invokestatic 44, 3) := by decide +kernel
theorem dX7_reach_13 : decode cX7_reach 13 = .ok (.aload_n 0, 1) := by decide +kernel
theorem dX7_reach_14 : decode cX7_reach 14 = .ok (.getfield 9, 3) := by decide +kernel
theorem dX7_reach_17 : decode cX7_reach 17 = .ok (.iload_n 1, 1) := by decide +kernel
theorem dX7_reach_18 : decode cX7_reach 18 = .ok (.iload_n 2, 1) := by decide +kernel
theorem dX7_reach_19 : decode cX7_reach 19 = .ok (.iastore, 1) := by decide +kernel
theorem dX7_reach_20 : decode cX7_reach 20 = .ok (.iconst 0, 1) := by decide +kernel
theorem dX7_reach_21 : decode cX7_reach 21 = .ok (.istore 4, 2) := by decide +kernel
theorem dX7_reach_23 : decode cX7_reach 23 = .ok (.iload 4, 2) := by decide +kernel
theorem dX7_reach_25 : decode cX7_reach 25 = .ok (.aload_n 0, 1) := by decide +kernel
theorem dX7_reach_26 : decode cX7_reach 26 = .ok (.getfield 32, 3) := by decide +kernel
theorem dX7_reach_29 : decode cX7_reach 29 = .ok (.invokevirtual 48, 3) := by decide +kernel
theorem dX7_reach_32 : decode cX7_reach 32 = .ok (.if_icmp .ge 38, 3) := by decide +kernel
theorem dX7_reach_35 : decode cX7_reach 35 = .ok (.aload_n 0, 1) := by decide +kernel
theorem dX7_reach_36 : decode cX7_reach 36 = .ok (.getfield 32, 3) := by decide +kernel
theorem dX7_reach_39 : decode cX7_reach 39 = .ok (.iload 4, 2) := by decide +kernel
theorem dX7_reach_41 : decode cX7_reach 41 = .ok (.invokevirtual 52, 3) := by decide +kernel
theorem dX7_reach_44 : decode cX7_reach 44 = .ok (.checkcast 56, 3) := by decide +kernel
theorem dX7_reach_47 : decode cX7_reach 47 = .ok (.astore 5, 2) := by decide +kernel
theorem dX7_reach_49 : decode cX7_reach 49 = .ok (.aload 5, 2) := by decide +kernel
theorem dX7_reach_51 : decode cX7_reach 51 = .ok (.getfield 58, 3) := by decide +kernel
theorem dX7_reach_54 : decode cX7_reach 54 = .ok (.iload_n 1, 1) := by decide +kernel
theorem dX7_reach_55 : decode cX7_reach 55 = .ok (.if_icmp .ne 9, 3) := by decide +kernel
theorem dX7_reach_58 : decode cX7_reach 58 = .ok (.aload_n 0, 1) := by decide +kernel
theorem dX7_reach_59 : decode cX7_reach 59 = .ok (.aload 5, 2) := by decide +kernel
theorem dX7_reach_61 : decode cX7_reach 61 = .ok (.invokevirtual 62, 3) := by decide +kernel
theorem dX7_reach_64 : decode cX7_reach 64 = .ok (.iinc 4 1, 3) := by decide +kernel
theorem dX7_reach_67 : decode cX7_reach 67 = .ok (.goto (-44), 3) := by decide +kernel
theorem dX7_reach_70 : decode cX7_reach 70 = .ok (.iload_n 3, 1) := by decide +kernel
theorem dX7_reach_71 : decode cX7_reach 71 = .ok (.ireturn, 1) := by decide +kernel
theorem dX7_dead_0 : decode cX7_dead 0 = .ok (.aload_n 0, 1) := by decide +kernel
theorem dX7_dead_1 : decode cX7_dead 1 = .ok (.iload_n 1, 1) := by decide +kernel
theorem dX7_dead_2 : decode cX7_dead 2 = .ok (.invokevirtual 66, 3) := by decide +kernel
theorem dX7_dead_5 : decode cX7_dead 5 = .ok (.astore_n 3, 1) := by decide +kernel
theorem dX7_dead_6 : decode cX7_dead 6 = .ok (.aload_n 3, 1) := by decide +kernel
theorem dX7_dead_7 : decode cX7_dead 7 = .ok (.getfield 70, 3) := by decide +kernel
theorem dX7_dead_10 : decode cX7_dead 10 = .ok (.istore 4, 2) := by decide +kernel
theorem dX7_dead_12 : decode cX7_dead 12 = .ok (.aload_n 3, 1) := by decide +kernel
theorem dX7_dead_13 : decode cX7_dead 13 = .ok (.iload_n 2, 1) := by decide +kernel
theorem dX7_dead_14 : decode cX7_dead 14 = .ok (.putfield 70, 3) := by decide +kernel
theorem dX7_dead_17 : decode cX7_dead 17 = .ok (.iload_n 2, 1) := by decide +kernel
theorem dX7_dead_18 : decode cX7_dead 18 = .ok (.ifCond .eq 15, 3) := by decide +kernel
theorem dX7_dead_21 : decode cX7_dead 21 = .ok (.aload_n 3, 1) := by decide +kernel
theorem dX7_dead_22 : decode cX7_dead 22 = .ok (.getfield 74, 3) := by decide +kernel
theorem dX7_dead_25 : decode cX7_dead 25 = .ok (.invokevirtual 78, 3) := by decide +kernel
theorem dX7_dead_28 : decode cX7_dead 28 = .ok (.aload_n 0, 1) := by decide +kernel
theorem dX7_dead_29 : decode cX7_dead 29 = .ok (.iload_n 1, 1) := by decide +kernel
theorem dX7_dead_30 : decode cX7_dead 30 = .ok (.invokevirtual 83, 3) := by decide +kernel
theorem dX7_dead_33 : decode cX7_dead 33 = .ok (.iload 4, 2) := by decide +kernel
theorem dX7_dead_35 : decode cX7_dead 35 = .ok (.ireturn, 1) := by decide +kernel
theorem dX7_agree_0 : decode cX7_agree 0 = .ok (.aload_n 0, 1) := by decide +kernel
theorem dX7_agree_1 : decode cX7_agree 1 = .ok (.iload_n 1, 1) := by decide +kernel
theorem dX7_agree_2 : decode cX7_agree 2 = .ok (.invokevirtual 87, 3) := by decide +kernel
theorem dX7_agree_5 : decode cX7_agree 5 = .ok (.aload_n 0, 1) := by decide +kernel
theorem dX7_agree_6 : decode cX7_agree 6 = .ok (.iload_n 2, 1) := by decide +kernel
theorem dX7_agree_7 : decode cX7_agree 7 = .ok (.invokevirtual 87, 3) := by decide +kernel
theorem dX7_agree_10 : decode cX7_agree 10 = .ok (.iload_n 1, 1) := by decide +kernel
theorem dX7_agree_11 : decode cX7_agree 11 = .ok (.iload_n 2, 1) := by decide +kernel
theorem dX7_agree_12 : decode cX7_agree 12 = .ok (.invokestatic 90, 3) := by decide +kernel
theorem dX7_agree_15 : decode cX7_agree 15 = .ok (.iload_n 3, 1) := by decide +kernel
theorem dX7_agree_16 : decode cX7_agree 16 = .ok (.iconst 0, 1) := by decide +kernel
theorem dX7_agree_17 : decode cX7_agree 17 = .ok (.ldc 94, 2) := by decide +kernel
theorem dX7_agree_19 : decode cX7_agree 19 = .ok (.invokestatic 44, 3) := by decide +kernel
theorem dX7_agree_22 : decode cX7_agree 22 = .ok (.iload 4, 2) := by decide +kernel
theorem dX7_agree_24 : decode cX7_agree 24 = .ok (.iload_n 3, 1) := by decide +kernel
theorem dX7_agree_25 : decode cX7_agree 25 = .ok (.iconst 1, 1) := by decide +kernel
theorem dX7_agree_26 : decode cX7_agree 26 = .ok (.iadd, 1) := by decide +kernel
theorem dX7_agree_27 : decode cX7_agree 27 = .ok (.ldc 95, 2) := by decide +kernel
theorem dX7_agree_29 : decode cX7_agree 29 = .ok (.invokestatic 44, 3) := by decide +kernel
theorem dX7_agree_32 : decode cX7_agree 32 = .ok (.iload 5, 2) := by decide +kernel
theorem dX7_agree_34 : decode cX7_agree 34 = .ok (.iconst 0, 1) := by decide +kernel
theorem dX7_agree_35 : decode cX7_agree 35 = .ok (.bipush 99, 2) := by decide +kernel
theorem dX7_agree_37 : decode cX7_agree 37 = .ok (.invokestatic 44, 3) := by decide +kernel
theorem dX7_agree_40 : decode cX7_agree 40 = .ok (.iload 6, 2) := by decide +kernel
theorem dX7_agree_42 : decode cX7_agree 42 = .ok (.iconst 0, 1) := by decide +kernel
theorem dX7_agree_43 : decode cX7_agree 43 = .ok (.sipush 9999, 3) := by decide +kernel
theorem dX7_agree_46 : decode cX7_agree 46 = .ok (.invokestatic 44, 3) := by decide +kernel
theorem dX7_agree_49 : decode cX7_agree 49 = .ok (.iload 7, 2) := by decide +kernel
theorem dX7_agree_51 : decode cX7_agree 51 = .ok (.iconst 0, 1) := by decide +kernel
theorem dX7_agree_52 : decode cX7_agree 52 = .ok (.iload 5, 2) := by decide +kernel
theorem dX7_agree_54 : decode cX7_agree 54 = .ok (.invokestatic 44, 3) := by decide +kernel
theorem dX7_agree_57 : decode cX7_agree 57 = .ok (.aload_n 0, 1) := by decide +kernel
theorem dX7_agree_58 : decode cX7_agree 58 = .ok (.getfield 28, 3) := by decide +kernel
theorem dX7_agree_61 : decode cX7_agree 61 = .ok (.invokevirtual 48, 3) := by decide +kernel
theorem dX7_agree_64 : decode cX7_agree 64 = .ok (.bipush 30, 2) := by decide +kernel
theorem dX7_agree_66 : decode cX7_agree 66 = .ok (.invokestatic 96, 3) := by decide +kernel
theorem dX7_agree_69 : decode cX7_agree 69 = .ok (.aload_n 0, 1) := by decide +kernel
theorem dX7_agree_70 : decode cX7_agree 70 = .ok (.getfield 28, 3) := by decide +kernel
theorem dX7_agree_73 : decode cX7_agree 73 = .ok (.new 99, 3) := by decide +kernel
theorem dX7_agree_76 : decode cX7_agree 76 = .ok (.dup, 1) := by decide +kernel
theorem dX7_agree_77 : decode cX7_agree 77 = .ok (.iload_n 1, 1) := by decide +kernel
theorem dX7_agree_78 : decode cX7_agree 78 = .ok (.iload_n 2, 1) := by decide +kernel
theorem dX7_agree_79 : decode cX7_agree 79 = .ok (.iload_n 3, 1) := by decide +kernel
theorem dX7_agree_80 : decode cX7_agree 80 = .ok (.iload 4, 2) := by decide +kernel
theorem dX7_agree_82 : decode cX7_agree 82 = .ok (.iload 5, 2) := by decide +kernel
theorem dX7_agree_84 : decode cX7_agree 84 = .ok (.iload 6, 2) := by decide +kernel
theorem dX7_agree_86 : decode cX7_agree 86 = .ok (.iload 7, 2) := by decide +kernel
theorem dX7_agree_88 : decode cX7_agree 88 = .ok (.invokespecial 101, 3) := by decide +kernel
theorem dX7_agree_91 : decode cX7_agree 91 = .ok (.invokevirtual 104, 3) := by decide +kernel
theorem dX7_agree_94 : decode cX7_agree 94 = .ok (.pop, 1) := by decide +kernel
theorem dX7_agree_95 : decode cX7_agree 95 = .ok (.aload_n 0, 1) := by decide +kernel
theorem dX7_agree_96 : decode cX7_agree 96 = .ok (.getfield 28, 3) := by decide +kernel
theorem dX7_agree_99 : decode cX7_agree 99 = .ok (.invokevirtual 48, 3) := by decide +kernel
theorem dX7_agree_102 : decode cX7_agree 102 = .ok (.ireturn, 1) := by decide +kernel
theorem dX7_steer_0 : decode cX7_steer 0 = .ok (.aload_n 0, 1) := by decide +kernel
theorem dX7_steer_1 : decode cX7_steer 1 = .ok (.iload_n 1, 1) := by decide +kernel
theorem dX7_steer_2 : decode cX7_steer 2 = .ok (.invokevirtual 66, 3) := by decide +kernel
theorem dX7_steer_5 : decode cX7_steer 5 = .ok (.astore_n 3, 1) := by decide +kernel
theorem dX7_steer_6 : decode cX7_steer 6 = .ok (.iload_n 2, 1) := by decide +kernel
theorem dX7_steer_7 : decode cX7_steer 7 = .ok (.iconst (-1), 1) := by decide +kernel
theorem dX7_steer_8 : decode cX7_steer 8 = .ok (.if_icmp .eq 8, 3) := by decide +kernel
theorem dX7_steer_11 : decode cX7_steer 11 = .ok (.aload_n 0, 1) := by decide +kernel
theorem dX7_steer_12 : decode cX7_steer 12 = .ok (.iload_n 2, 1) := by decide +kernel
theorem dX7_steer_13 : decode cX7_steer 13 = .ok (.invokevirtual 87, 3) := by decide +kernel
theorem dX7_steer_16 : decode cX7_steer 16 = .ok (.iload_n 1, 1) := by decide +kernel
theorem dX7_steer_17 : decode cX7_steer 17 = .ok (.iload_n 2, 1) := by decide +kernel
theorem dX7_steer_18 : decode cX7_steer 18 = .ok (.invokestatic 90, 3) := by decide +kernel
theorem dX7_steer_21 : decode cX7_steer 21 = .ok (.aload_n 3, 1) := by decide +kernel
theorem dX7_steer_22 : decode cX7_steer 22 = .ok (.getfield 108, 3) := by decide +kernel
theorem dX7_steer_25 : decode cX7_steer 25 = .ok (.istore 4, 2) := by decide +kernel
theorem dX7_steer_27 : decode cX7_steer 27 = .ok (.aload_n 3, 1) := by decide +kernel
theorem dX7_steer_28 : decode cX7_steer 28 = .ok (.iload_n 2, 1) := by decide +kernel
theorem dX7_steer_29 : decode cX7_steer 29 = .ok (.putfield 108, 3) := by decide +kernel
theorem dX7_steer_32 : decode cX7_steer 32 = .ok (.iload 4, 2) := by decide +kernel
theorem dX7_steer_34 : decode cX7_steer 34 = .ok (.ireturn, 1) := by decide +kernel
theorem dX7_prices_0 : decode cX7_prices 0 = .ok (.aload_n 0, 1) := by decide +kernel
theorem dX7_prices_1 : decode cX7_prices 1 = .ok (.iload_n 1, 1) := by decide +kernel
theorem dX7_prices_2 : decode cX7_prices 2 = .ok (.invokevirtual 66, 3) := by decide +kernel
theorem dX7_prices_5 : decode cX7_prices 5 = .ok (.astore 5, 2) := by decide +kernel
theorem dX7_prices_7 : decode cX7_prices 7 = .ok (.iload_n 2, 1) := by decide +kernel
theorem dX7_prices_8 : decode cX7_prices 8 = .ok (.iconst 0, 1) := by decide +kernel
theorem dX7_prices_9 : decode cX7_prices 9 = .ok (.bipush 99, 2) := by decide +kernel
theorem dX7_prices_11 : decode cX7_prices 11 = .ok (.invokestatic 44, 3) := by decide +kernel
theorem dX7_prices_14 : decode cX7_prices 14 = .ok (.iload_n 3, 1) := by decide +kernel
theorem dX7_prices_15 : decode cX7_prices 15 = .ok (.iconst 0, 1) := by decide +kernel
theorem dX7_prices_16 : decode cX7_prices 16 = .ok (.bipush 99, 2) := by decide +kernel
theorem dX7_prices_18 : decode cX7_prices 18 = .ok (.invokestatic 44, 3) := by decide +kernel
theorem dX7_prices_21 : decode cX7_prices 21 = .ok (.iload 4, 2) := by decide +kernel
theorem dX7_prices_23 : decode cX7_prices 23 = .ok (.iconst 0, 1) := by decide +kernel
theorem dX7_prices_24 : decode cX7_prices 24 = .ok (.bipush 99, 2) := by decide +kernel
theorem dX7_prices_26 : decode cX7_prices 26 = .ok (.invokestatic 44, 3) := by decide +kernel
theorem dX7_prices_29 : decode cX7_prices 29 = .ok (.aload 5, 2) := by decide +kernel
theorem dX7_prices_31 : decode cX7_prices 31 = .ok (.iload_n 2, 1) := by decide +kernel
theorem dX7_prices_32 : decode cX7_prices 32 = .ok (.putfield 111, 3) := by decide +kernel
theorem dX7_prices_35 : decode cX7_prices 35 = .ok (.aload 5, 2) := by decide +kernel
theorem dX7_prices_37 : decode cX7_prices 37 = .ok (.iload_n 3, 1) := by decide +kernel
theorem dX7_prices_38 : decode cX7_prices 38 = .ok (.putfield 114, 3) := by decide +kernel
theorem dX7_prices_41 : decode cX7_prices 41 = .ok (.aload 5, 2) := by decide +kernel
theorem dX7_prices_43 : decode cX7_prices 43 = .ok (.iload 4, 2) := by decide +kernel
theorem dX7_prices_45 : decode cX7_prices 45 = .ok (.putfield 117, 3) := by decide +kernel
theorem dX7_prices_48 : decode cX7_prices 48 = .ok (.return_, 1) := by decide +kernel
theorem dX7_lose_0 : decode cX7_lose 0 = .ok (.aload_n 0, 1) := by decide +kernel
theorem dX7_lose_1 : decode cX7_lose 1 = .ok (.iload_n 1, 1) := by decide +kernel
theorem dX7_lose_2 : decode cX7_lose 2 = .ok (.invokevirtual 66, 3) := by decide +kernel
theorem dX7_lose_5 : decode cX7_lose 5 = .ok (.astore_n 3, 1) := by decide +kernel
theorem dX7_lose_6 : decode cX7_lose 6 = .ok (.iload_n 2, 1) := by decide +kernel
theorem dX7_lose_7 : decode cX7_lose 7 = .ok (.iconst 0, 1) := by decide +kernel
theorem dX7_lose_8 : decode cX7_lose 8 = .ok (.bipush 9, 2) := by decide +kernel
theorem dX7_lose_10 : decode cX7_lose 10 = .ok (.invokestatic 44, 3) := by decide +kernel
theorem dX7_lose_13 : decode cX7_lose 13 = .ok (.aload_n 3, 1) := by decide +kernel
theorem dX7_lose_14 : decode cX7_lose 14 = .ok (.getfield 120, 3) := by decide +kernel
theorem dX7_lose_17 : decode cX7_lose 17 = .ok (.istore 4, 2) := by decide +kernel
theorem dX7_lose_19 : decode cX7_lose 19 = .ok (.aload_n 3, 1) := by decide +kernel
theorem dX7_lose_20 : decode cX7_lose 20 = .ok (.iload_n 2, 1) := by decide +kernel
theorem dX7_lose_21 : decode cX7_lose 21 = .ok (.putfield 120, 3) := by decide +kernel
theorem dX7_lose_24 : decode cX7_lose 24 = .ok (.iload 4, 2) := by decide +kernel
theorem dX7_lose_26 : decode cX7_lose 26 = .ok (.ireturn, 1) := by decide +kernel
theorem dX7_crash_0 : decode cX7_crash 0 = .ok (.aload_n 0, 1) := by decide +kernel
theorem dX7_crash_1 : decode cX7_crash 1 = .ok (.iload_n 1, 1) := by decide +kernel
theorem dX7_crash_2 : decode cX7_crash 2 = .ok (.invokevirtual 66, 3) := by decide +kernel
theorem dX7_crash_5 : decode cX7_crash 5 = .ok (.getfield 74, 3) := by decide +kernel
theorem dX7_crash_8 : decode cX7_crash 8 = .ok (.astore_n 2, 1) := by decide +kernel
theorem dX7_crash_9 : decode cX7_crash 9 = .ok (.aload_n 2, 1) := by decide +kernel
theorem dX7_crash_10 : decode cX7_crash 10 = .ok (.invokevirtual 123, 3) := by decide +kernel
theorem dX7_crash_13 : decode cX7_crash 13 = .ok (.istore_n 3, 1) := by decide +kernel
theorem dX7_crash_14 : decode cX7_crash 14 = .ok (.aload_n 2, 1) := by decide +kernel
theorem dX7_crash_15 : decode cX7_crash 15 = .ok (.invokevirtual 78, 3) := by decide +kernel
theorem dX7_crash_18 : decode cX7_crash 18 = .ok (.iload_n 3, 1) := by decide +kernel
theorem dX7_crash_19 : decode cX7_crash 19 = .ok (.ireturn, 1) := by decide +kernel
theorem dX7_subscriber_0 : decode cX7_subscriber 0 = .ok (.aload_n 0, 1) := by decide +kernel
theorem dX7_subscriber_1 : decode cX7_subscriber 1 = .ok (.iload_n 1, 1) := by decide +kernel
theorem dX7_subscriber_2 : decode cX7_subscriber 2 = .ok (.invokevirtual 87, 3) := by decide +kernel
theorem dX7_subscriber_5 : decode cX7_subscriber 5 = .ok (.aload_n 0, 1) := by decide +kernel
theorem dX7_subscriber_6 : decode cX7_subscriber 6 = .ok (.iload_n 2, 1) := by decide +kernel
theorem dX7_subscriber_7 : decode cX7_subscriber 7 = .ok (.invokevirtual 126, 3) := by decide +kernel
theorem dX7_subscriber_10 : decode cX7_subscriber 10 = .ok (.iload_n 3, 1) := by decide +kernel
theorem dX7_subscriber_11 : decode cX7_subscriber 11 = .ok (.iconst 0, 1) := by decide +kernel
theorem dX7_subscriber_12 : decode cX7_subscriber 12 = .ok (.bipush 63, 2) := by decide +kernel
theorem dX7_subscriber_14 : decode cX7_subscriber 14 = .ok (.invokestatic 44, 3) := by decide +kernel
theorem dX7_subscriber_17 : decode cX7_subscriber 17 = .ok (.aload_n 0, 1) := by decide +kernel
theorem dX7_subscriber_18 : decode cX7_subscriber 18 = .ok (.getfield 32, 3) := by decide +kernel
theorem dX7_subscriber_21 : decode cX7_subscriber 21 = .ok (.invokevirtual 48, 3) := by decide +kernel
theorem dX7_subscriber_24 : decode cX7_subscriber 24 = .ok (.bipush 10, 2) := by decide +kernel
theorem dX7_subscriber_26 : decode cX7_subscriber 26 = .ok (.invokestatic 96, 3) := by decide +kernel
theorem dX7_subscriber_29 : decode cX7_subscriber 29 = .ok (.new 56, 3) := by decide +kernel
theorem dX7_subscriber_32 : decode cX7_subscriber 32 = .ok (.dup, 1) := by decide +kernel
theorem dX7_subscriber_33 : decode cX7_subscriber 33 = .ok (.aload_n 0, 1) := by decide +kernel
theorem dX7_subscriber_34 : decode cX7_subscriber 34 = .ok (.getfield 32, 3) := by decide +kernel
theorem dX7_subscriber_37 : decode cX7_subscriber 37 = .ok (.invokevirtual 48, 3) := by decide +kernel
theorem dX7_subscriber_40 : decode cX7_subscriber 40 = .ok (.iload_n 1, 1) := by decide +kernel
theorem dX7_subscriber_41 : decode cX7_subscriber 41 = .ok (.iload_n 2, 1) := by decide +kernel
theorem dX7_subscriber_42 : decode cX7_subscriber 42 = .ok (.iload_n 3, 1) := by decide +kernel
theorem dX7_subscriber_43 : decode cX7_subscriber 43 = .ok (.invokespecial 129, 3) := by decide +kernel
theorem dX7_subscriber_46 : decode cX7_subscriber 46 = .ok (.astore 4, 2) := by decide +kernel
theorem dX7_subscriber_48 : decode cX7_subscriber 48 = .ok (.aload_n 0, 1) := by decide +kernel
theorem dX7_subscriber_49 : decode cX7_subscriber 49 = .ok (.getfield 32, 3) := by decide +kernel
theorem dX7_subscriber_52 : decode cX7_subscriber 52 = .ok (.aload 4, 2) := by decide +kernel
theorem dX7_subscriber_54 : decode cX7_subscriber 54 = .ok (.invokevirtual 104, 3) := by decide +kernel
theorem dX7_subscriber_57 : decode cX7_subscriber 57 = .ok (.pop, 1) := by decide +kernel
theorem dX7_subscriber_58 : decode cX7_subscriber 58 = .ok (.aload 4, 2) := by decide +kernel
theorem dX7_subscriber_60 : decode cX7_subscriber 60 = .ok (.getfield 132, 3) := by decide +kernel
theorem dX7_subscriber_63 : decode cX7_subscriber 63 = .ok (.ireturn, 1) := by decide +kernel
theorem dX7_move_0 : decode cX7_move 0 = .ok (.aload_n 0, 1) := by decide +kernel
theorem dX7_move_1 : decode cX7_move 1 = .ok (.iload_n 1, 1) := by decide +kernel
theorem dX7_move_2 : decode cX7_move 2 = .ok (.invokevirtual 135, 3) := by decide +kernel
theorem dX7_move_5 : decode cX7_move 5 = .ok (.astore_n 3, 1) := by decide +kernel
theorem dX7_move_6 : decode cX7_move 6 = .ok (.aload_n 0, 1) := by decide +kernel
theorem dX7_move_7 : decode cX7_move 7 = .ok (.iload_n 2, 1) := by decide +kernel
theorem dX7_move_8 : decode cX7_move 8 = .ok (.invokevirtual 126, 3) := by decide +kernel
theorem dX7_move_11 : decode cX7_move 11 = .ok (.aload_n 3, 1) := by decide +kernel
theorem dX7_move_12 : decode cX7_move 12 = .ok (.iload_n 2, 1) := by decide +kernel
theorem dX7_move_13 : decode cX7_move 13 = .ok (.putfield 58, 3) := by decide +kernel
theorem dX7_move_16 : decode cX7_move 16 = .ok (.aload_n 3, 1) := by decide +kernel
theorem dX7_move_17 : decode cX7_move 17 = .ok (.iconst 0, 1) := by decide +kernel
theorem dX7_move_18 : decode cX7_move 18 = .ok (.putfield 139, 3) := by decide +kernel
theorem dX7_move_21 : decode cX7_move 21 = .ok (.aload_n 0, 1) := by decide +kernel
theorem dX7_move_22 : decode cX7_move 22 = .ok (.aload_n 3, 1) := by decide +kernel
theorem dX7_move_23 : decode cX7_move 23 = .ok (.invokevirtual 62, 3) := by decide +kernel
theorem dX7_move_26 : decode cX7_move 26 = .ok (.aload_n 3, 1) := by decide +kernel
theorem dX7_move_27 : decode cX7_move 27 = .ok (.getfield 142, 3) := by decide +kernel
theorem dX7_move_30 : decode cX7_move 30 = .ok (.ireturn, 1) := by decide +kernel
theorem dX7_off_0 : decode cX7_off 0 = .ok (.aload_n 0, 1) := by decide +kernel
theorem dX7_off_1 : decode cX7_off 1 = .ok (.iload_n 1, 1) := by decide +kernel
theorem dX7_off_2 : decode cX7_off 2 = .ok (.invokevirtual 135, 3) := by decide +kernel
theorem dX7_off_5 : decode cX7_off 5 = .ok (.astore_n 2, 1) := by decide +kernel
theorem dX7_off_6 : decode cX7_off 6 = .ok (.aload_n 2, 1) := by decide +kernel
theorem dX7_off_7 : decode cX7_off 7 = .ok (.getfield 142, 3) := by decide +kernel
theorem dX7_off_10 : decode cX7_off 10 = .ok (.istore_n 3, 1) := by decide +kernel
theorem dX7_off_11 : decode cX7_off 11 = .ok (.aload_n 2, 1) := by decide +kernel
theorem dX7_off_12 : decode cX7_off 12 = .ok (.iconst (-1), 1) := by decide +kernel
theorem dX7_off_13 : decode cX7_off 13 = .ok (.putfield 142, 3) := by decide +kernel
theorem dX7_off_16 : decode cX7_off 16 = .ok (.iload_n 3, 1) := by decide +kernel
theorem dX7_off_17 : decode cX7_off 17 = .ok (.ireturn, 1) := by decide +kernel
theorem dX7_attach_0 : decode cX7_attach 0 = .ok (.aload_n 0, 1) := by decide +kernel
theorem dX7_attach_1 : decode cX7_attach 1 = .ok (.iload_n 1, 1) := by decide +kernel
theorem dX7_attach_2 : decode cX7_attach 2 = .ok (.invokevirtual 135, 3) := by decide +kernel
theorem dX7_attach_5 : decode cX7_attach 5 = .ok (.astore_n 3, 1) := by decide +kernel
theorem dX7_attach_6 : decode cX7_attach 6 = .ok (.aload_n 0, 1) := by decide +kernel
theorem dX7_attach_7 : decode cX7_attach 7 = .ok (.iload_n 2, 1) := by decide +kernel
theorem dX7_attach_8 : decode cX7_attach 8 = .ok (.invokevirtual 87, 3) := by decide +kernel
theorem dX7_attach_11 : decode cX7_attach 11 = .ok (.aload_n 3, 1) := by decide +kernel
theorem dX7_attach_12 : decode cX7_attach 12 = .ok (.getfield 142, 3) := by decide +kernel
theorem dX7_attach_15 : decode cX7_attach 15 = .ok (.iload_n 2, 1) := by decide +kernel
theorem dX7_attach_16 : decode cX7_attach 16 = .ok (.if_icmp .ne 13, 3) := by decide +kernel
theorem dX7_attach_19 : decode cX7_attach 19 = .ok (.new 145, 3) := by decide +kernel
theorem dX7_attach_22 : decode cX7_attach 22 = .ok (.dup, 1) := by decide +kernel
theorem dX7_attach_23 : decode cX7_attach 23 = .ok (.ldc 147, 2) := by decide +kernel
theorem dX7_attach_25 : decode cX7_attach 25 = .ok (.invokespecial 149, 3) := by decide +kernel
theorem dX7_attach_28 : decode cX7_attach 28 = .ok (.athrow, 1) := by decide +kernel
theorem dX7_attach_29 : decode cX7_attach 29 = .ok (.aload_n 0, 1) := by decide +kernel
theorem dX7_attach_30 : decode cX7_attach 30 = .ok (.aload_n 3, 1) := by decide +kernel
theorem dX7_attach_31 : decode cX7_attach 31 = .ok (.iload_n 2, 1) := by decide +kernel
theorem dX7_attach_32 : decode cX7_attach 32 = .ok (.invokevirtual 152, 3) := by decide +kernel
theorem dX7_attach_35 : decode cX7_attach 35 = .ok (.istore 4, 2) := by decide +kernel
theorem dX7_attach_37 : decode cX7_attach 37 = .ok (.iload 4, 2) := by decide +kernel
theorem dX7_attach_39 : decode cX7_attach 39 = .ok (.ifCond .eq 6, 3) := by decide +kernel
theorem dX7_attach_42 : decode cX7_attach 42 = .ok (.iload 4, 2) := by decide +kernel
theorem dX7_attach_44 : decode cX7_attach 44 = .ok (.ireturn, 1) := by decide +kernel
theorem dX7_attach_45 : decode cX7_attach 45 = .ok (.aload_n 0, 1) := by decide +kernel
theorem dX7_attach_46 : decode cX7_attach 46 = .ok (.aload_n 3, 1) := by decide +kernel
theorem dX7_attach_47 : decode cX7_attach 47 = .ok (.iload_n 2, 1) := by decide +kernel
theorem dX7_attach_48 : decode cX7_attach 48 = .ok (.invokevirtual 156, 3) := by decide +kernel
theorem dX7_attach_51 : decode cX7_attach 51 = .ok (.ifCond .eq 15, 3) := by decide +kernel
theorem dX7_attach_54 : decode cX7_attach 54 = .ok (.aload_n 3, 1) := by decide +kernel
theorem dX7_attach_55 : decode cX7_attach 55 = .ok (.dup, 1) := by decide +kernel
theorem dX7_attach_56 : decode cX7_attach 56 = .ok (.getfield 139, 3) := by decide +kernel
theorem dX7_attach_59 : decode cX7_attach 59 = .ok (.iconst 1, 1) := by decide +kernel
theorem dX7_attach_60 : decode cX7_attach 60 = .ok (.iadd, 1) := by decide +kernel
theorem dX7_attach_61 : decode cX7_attach 61 = .ok (.putfield 139, 3) := by decide +kernel
theorem dX7_attach_64 : decode cX7_attach 64 = .ok (.iconst 5, 1) := by decide +kernel
theorem dX7_attach_65 : decode cX7_attach 65 = .ok (.ireturn, 1) := by decide +kernel
theorem dX7_attach_66 : decode cX7_attach 66 = .ok (.aload_n 3, 1) := by decide +kernel
theorem dX7_attach_67 : decode cX7_attach 67 = .ok (.iload_n 2, 1) := by decide +kernel
theorem dX7_attach_68 : decode cX7_attach 68 = .ok (.putfield 142, 3) := by decide +kernel
theorem dX7_attach_71 : decode cX7_attach 71 = .ok (.aload_n 3, 1) := by decide +kernel
theorem dX7_attach_72 : decode cX7_attach 72 = .ok (.iconst 0, 1) := by decide +kernel
theorem dX7_attach_73 : decode cX7_attach 73 = .ok (.putfield 139, 3) := by decide +kernel
theorem dX7_attach_76 : decode cX7_attach 76 = .ok (.aload_n 0, 1) := by decide +kernel
theorem dX7_attach_77 : decode cX7_attach 77 = .ok (.aload_n 3, 1) := by decide +kernel
theorem dX7_attach_78 : decode cX7_attach 78 = .ok (.aload_n 0, 1) := by decide +kernel
theorem dX7_attach_79 : decode cX7_attach 79 = .ok (.getfield 160, 3) := by decide +kernel
theorem dX7_attach_82 : decode cX7_attach 82 = .ok (.invokevirtual 163, 3) := by decide +kernel
theorem dX7_attach_85 : decode cX7_attach 85 = .ok (.iconst 0, 1) := by decide +kernel
theorem dX7_attach_86 : decode cX7_attach 86 = .ok (.ireturn, 1) := by decide +kernel
theorem dX7_emergency_0 : decode cX7_emergency 0 = .ok (.aload_n 0, 1) := by decide +kernel
theorem dX7_emergency_1 : decode cX7_emergency 1 = .ok (.iload_n 1, 1) := by decide +kernel
theorem dX7_emergency_2 : decode cX7_emergency 2 = .ok (.invokevirtual 135, 3) := by decide +kernel
theorem dX7_emergency_5 : decode cX7_emergency 5 = .ok (.astore_n 2, 1) := by decide +kernel
theorem dX7_emergency_6 : decode cX7_emergency 6 = .ok (.aload_n 2, 1) := by decide +kernel
theorem dX7_emergency_7 : decode cX7_emergency 7 = .ok (.getfield 142, 3) := by decide +kernel
theorem dX7_emergency_10 : decode cX7_emergency 10 = .ok (.iconst (-1), 1) := by decide +kernel
theorem dX7_emergency_11 : decode cX7_emergency 11 = .ok (.if_icmp .eq 8, 3) := by decide +kernel
theorem dX7_emergency_14 : decode cX7_emergency 14 = .ok (.aload_n 2, 1) := by decide +kernel
theorem dX7_emergency_15 : decode cX7_emergency 15 = .ok (.getfield 142, 3) := by decide +kernel
theorem dX7_emergency_18 : decode cX7_emergency 18 = .ok (.ireturn, 1) := by decide +kernel
theorem dX7_emergency_19 : decode cX7_emergency 19 = .ok (.aload_n 0, 1) := by decide +kernel
theorem dX7_emergency_20 : decode cX7_emergency 20 = .ok (.aload_n 2, 1) := by decide +kernel
theorem dX7_emergency_21 : decode cX7_emergency 21 = .ok (.getfield 58, 3) := by decide +kernel
theorem dX7_emergency_24 : decode cX7_emergency 24 = .ok (.invokevirtual 40, 3) := by decide +kernel
theorem dX7_emergency_27 : decode cX7_emergency 27 = .ok (.istore_n 3, 1) := by decide +kernel
theorem dX7_emergency_28 : decode cX7_emergency 28 = .ok (.iconst 0, 1) := by decide +kernel
theorem dX7_emergency_29 : decode cX7_emergency 29 = .ok (.istore 4, 2) := by decide +kernel
theorem dX7_emergency_31 : decode cX7_emergency 31 = .ok (.iload 4, 2) := by decide +kernel
theorem dX7_emergency_33 : decode cX7_emergency 33 = .ok (.aload_n 0, 1) := by decide +kernel
theorem dX7_emergency_34 : decode cX7_emergency 34 = .ok (.getfield 15, 3) := by decide +kernel
theorem dX7_emergency_37 : decode cX7_emergency 37 = .ok (.arraylength, 1) := by decide +kernel
theorem dX7_emergency_38 : decode cX7_emergency 38 = .ok (.if_icmp .ge 34, 3) := by decide +kernel
theorem dX7_emergency_41 : decode cX7_emergency 41 = .ok (.iload_n 3, 1) := by decide +kernel
theorem dX7_emergency_42 : decode cX7_emergency 42 = .ok (.iload 4, 2) := by decide +kernel
theorem dX7_emergency_44 : decode cX7_emergency 44 = .ok (.invokestatic 167, 3) := by decide +kernel
theorem dX7_emergency_47 : decode cX7_emergency 47 = .ok (.ifCond .eq 19, 3) := by decide +kernel
theorem dX7_emergency_50 : decode cX7_emergency 50 = .ok (.aload_n 0, 1) := by decide +kernel
theorem dX7_emergency_51 : decode cX7_emergency 51 = .ok (.getfield 15, 3) := by decide +kernel
theorem dX7_emergency_54 : decode cX7_emergency 54 = .ok (.iload 4, 2) := by decide +kernel
theorem dX7_emergency_56 : decode cX7_emergency 56 = .ok (.aaload, 1) := by decide +kernel
theorem dX7_emergency_57 : decode cX7_emergency 57 = .ok (.getfield 70, 3) := by decide +kernel
theorem dX7_emergency_60 : decode cX7_emergency 60 = .ok (.ifCond .ne 6, 3) := by decide +kernel
theorem dX7_emergency_63 : decode cX7_emergency 63 = .ok (.iload 4, 2) := by decide +kernel
theorem dX7_emergency_65 : decode cX7_emergency 65 = .ok (.ireturn, 1) := by decide +kernel
theorem dX7_emergency_66 : decode cX7_emergency 66 = .ok (.iinc 4 1, 3) := by decide +kernel
theorem dX7_emergency_69 : decode cX7_emergency 69 = .ok (.goto (-38), 3) := by decide +kernel
theorem dX7_emergency_72 : decode cX7_emergency 72 = .ok (.iconst (-1), 1) := by decide +kernel
theorem dX7_emergency_73 : decode cX7_emergency 73 = .ok (.ireturn, 1) := by decide +kernel
theorem dX7_where_0 : decode cX7_where 0 = .ok (.aload_n 0, 1) := by decide +kernel
theorem dX7_where_1 : decode cX7_where 1 = .ok (.iload_n 1, 1) := by decide +kernel
theorem dX7_where_2 : decode cX7_where 2 = .ok (.invokevirtual 135, 3) := by decide +kernel
theorem dX7_where_5 : decode cX7_where 5 = .ok (.getfield 171, 3) := by decide +kernel
theorem dX7_where_8 : decode cX7_where 8 = .ok (.ireturn, 1) := by decide +kernel
theorem dX7_contact_0 : decode cX7_contact 0 = .ok (.aload_n 0, 1) := by decide +kernel
theorem dX7_contact_1 : decode cX7_contact 1 = .ok (.iload_n 1, 1) := by decide +kernel
theorem dX7_contact_2 : decode cX7_contact 2 = .ok (.invokevirtual 66, 3) := by decide +kernel
theorem dX7_contact_5 : decode cX7_contact 5 = .ok (.getfield 74, 3) := by decide +kernel
theorem dX7_contact_8 : decode cX7_contact 8 = .ok (.astore_n 3, 1) := by decide +kernel
theorem dX7_contact_9 : decode cX7_contact 9 = .ok (.aload_n 3, 1) := by decide +kernel
theorem dX7_contact_10 : decode cX7_contact 10 = .ok (.aload_n 0, 1) := by decide +kernel
theorem dX7_contact_11 : decode cX7_contact 11 = .ok (.iload_n 2, 1) := by decide +kernel
theorem dX7_contact_12 : decode cX7_contact 12 = .ok (.invokevirtual 135, 3) := by decide +kernel
theorem dX7_contact_15 : decode cX7_contact 15 = .ok (.getfield 132, 3) := by decide +kernel
theorem dX7_contact_18 : decode cX7_contact 18 = .ok (.invokevirtual 174, 3) := by decide +kernel
theorem dX7_contact_21 : decode cX7_contact 21 = .ok (.ireturn, 1) := by decide +kernel
theorem dX7_agrees_0 : decode cX7_agrees 0 = .ok (.aload_n 0, 1) := by decide +kernel
theorem dX7_agrees_1 : decode cX7_agrees 1 = .ok (.iload_n 1, 1) := by decide +kernel
theorem dX7_agrees_2 : decode cX7_agrees 2 = .ok (.invokevirtual 135, 3) := by decide +kernel
theorem dX7_agrees_5 : decode cX7_agrees 5 = .ok (.astore_n 2, 1) := by decide +kernel
theorem dX7_agrees_6 : decode cX7_agrees 6 = .ok (.iconst 0, 1) := by decide +kernel
theorem dX7_agrees_7 : decode cX7_agrees 7 = .ok (.istore_n 3, 1) := by decide +kernel
theorem dX7_agrees_8 : decode cX7_agrees 8 = .ok (.iload_n 3, 1) := by decide +kernel
theorem dX7_agrees_9 : decode cX7_agrees 9 = .ok (.aload_n 0, 1) := by decide +kernel
theorem dX7_agrees_10 : decode cX7_agrees 10 = .ok (.getfield 15, 3) := by decide +kernel
theorem dX7_agrees_13 : decode cX7_agrees 13 = .ok (.arraylength, 1) := by decide +kernel
theorem dX7_agrees_14 : decode cX7_agrees 14 = .ok (.if_icmp .ge 43, 3) := by decide +kernel
theorem dX7_agrees_17 : decode cX7_agrees 17 = .ok (.aload_n 0, 1) := by decide +kernel
theorem dX7_agrees_18 : decode cX7_agrees 18 = .ok (.getfield 15, 3) := by decide +kernel
theorem dX7_agrees_21 : decode cX7_agrees 21 = .ok (.iload_n 3, 1) := by decide +kernel
theorem dX7_agrees_22 : decode cX7_agrees 22 = .ok (.aaload, 1) := by decide +kernel
theorem dX7_agrees_23 : decode cX7_agrees 23 = .ok (.getfield 74, 3) := by decide +kernel
theorem dX7_agrees_26 : decode cX7_agrees 26 = .ok (.aload_n 2, 1) := by decide +kernel
theorem dX7_agrees_27 : decode cX7_agrees 27 = .ok (.getfield 132, 3) := by decide +kernel
theorem dX7_agrees_30 : decode cX7_agrees 30 = .ok (.invokevirtual 177, 3) := by decide +kernel
theorem dX7_agrees_33 : decode cX7_agrees 33 = .ok (.iload_n 3, 1) := by decide +kernel
theorem dX7_agrees_34 : decode cX7_agrees 34 = .ok (.aload_n 2, 1) := by decide +kernel
theorem dX7_agrees_35 : decode cX7_agrees 35 = .ok (.getfield 142, 3) := by decide +kernel
theorem dX7_agrees_38 : decode cX7_agrees 38 = .ok (.if_icmp .ne 7, 3) := by decide +kernel
theorem dX7_agrees_41 : decode cX7_agrees 41 = .ok (.iconst 1, 1) := by decide +kernel
theorem dX7_agrees_42 : decode cX7_agrees 42 = .ok (.goto 4, 3) := by decide +kernel
theorem dX7_agrees_45 : decode cX7_agrees 45 = .ok (.iconst 0, 1) := by decide +kernel
theorem dX7_agrees_46 : decode cX7_agrees 46 = .ok (.if_icmp .eq 5, 3) := by decide +kernel
theorem dX7_agrees_49 : decode cX7_agrees 49 = .ok (.iconst 0, 1) := by decide +kernel
theorem dX7_agrees_50 : decode cX7_agrees 50 = .ok (.ireturn, 1) := by decide +kernel
theorem dX7_agrees_51 : decode cX7_agrees 51 = .ok (.iinc 3 1, 3) := by decide +kernel
theorem dX7_agrees_54 : decode cX7_agrees 54 = .ok (.goto (-46), 3) := by decide +kernel
theorem dX7_agrees_57 : decode cX7_agrees 57 = .ok (.aload_n 2, 1) := by decide +kernel
theorem dX7_agrees_58 : decode cX7_agrees 58 = .ok (.getfield 142, 3) := by decide +kernel
theorem dX7_agrees_61 : decode cX7_agrees 61 = .ok (.iconst (-1), 1) := by decide +kernel
theorem dX7_agrees_62 : decode cX7_agrees 62 = .ok (.if_icmp .eq 14, 3) := by decide +kernel
theorem dX7_agrees_65 : decode cX7_agrees 65 = .ok (.aload_n 2, 1) := by decide +kernel
theorem dX7_agrees_66 : decode cX7_agrees 66 = .ok (.getfield 171, 3) := by decide +kernel
theorem dX7_agrees_69 : decode cX7_agrees 69 = .ok (.aload_n 2, 1) := by decide +kernel
theorem dX7_agrees_70 : decode cX7_agrees 70 = .ok (.getfield 142, 3) := by decide +kernel
theorem dX7_agrees_73 : decode cX7_agrees 73 = .ok (.if_icmp .ne 7, 3) := by decide +kernel
theorem dX7_agrees_76 : decode cX7_agrees 76 = .ok (.iconst 1, 1) := by decide +kernel
theorem dX7_agrees_77 : decode cX7_agrees 77 = .ok (.goto 4, 3) := by decide +kernel
theorem dX7_agrees_80 : decode cX7_agrees 80 = .ok (.iconst 0, 1) := by decide +kernel
theorem dX7_agrees_81 : decode cX7_agrees 81 = .ok (.ireturn, 1) := by decide +kernel
theorem dX7_subscriberIs_0 : decode cX7_subscriberIs 0 = .ok (.aload_n 0, 1) := by decide +kernel
theorem dX7_subscriberIs_1 : decode cX7_subscriberIs 1 = .ok (.iload_n 1, 1) := by decide +kernel
theorem dX7_subscriberIs_2 : decode cX7_subscriberIs 2 = .ok (.invokevirtual 135, 3) := by decide +kernel
theorem dX7_subscriberIs_5 : decode cX7_subscriberIs 5 = .ok (.astore_n 3, 1) := by decide +kernel
theorem dX7_subscriberIs_6 : decode cX7_subscriberIs 6 = .ok (.iload_n 2, 1) := by decide +kernel
theorem dX7_subscriberIs_7 : decode cX7_subscriberIs 7 = .ok (.tableswitch 84 0 6 #[41, 46, 51, 56, 61, 66, 79], 41) := by decide +kernel
theorem dX7_subscriberIs_48 : decode cX7_subscriberIs 48 = .ok (.aload_n 3, 1) := by decide +kernel
theorem dX7_subscriberIs_49 : decode cX7_subscriberIs 49 = .ok (.getfield 142, 3) := by decide +kernel
theorem dX7_subscriberIs_52 : decode cX7_subscriberIs 52 = .ok (.ireturn, 1) := by decide +kernel
theorem dX7_subscriberIs_53 : decode cX7_subscriberIs 53 = .ok (.aload_n 3, 1) := by decide +kernel
theorem dX7_subscriberIs_54 : decode cX7_subscriberIs 54 = .ok (.getfield 58, 3) := by decide +kernel
theorem dX7_subscriberIs_57 : decode cX7_subscriberIs 57 = .ok (.ireturn, 1) := by decide +kernel
theorem dX7_subscriberIs_58 : decode cX7_subscriberIs 58 = .ok (.aload_n 3, 1) := by decide +kernel
theorem dX7_subscriberIs_59 : decode cX7_subscriberIs 59 = .ok (.getfield 139, 3) := by decide +kernel
theorem dX7_subscriberIs_62 : decode cX7_subscriberIs 62 = .ok (.ireturn, 1) := by decide +kernel
theorem dX7_subscriberIs_63 : decode cX7_subscriberIs 63 = .ok (.aload_n 3, 1) := by decide +kernel
theorem dX7_subscriberIs_64 : decode cX7_subscriberIs 64 = .ok (.getfield 181, 3) := by decide +kernel
theorem dX7_subscriberIs_67 : decode cX7_subscriberIs 67 = .ok (.ireturn, 1) := by decide +kernel
theorem dX7_subscriberIs_68 : decode cX7_subscriberIs 68 = .ok (.aload_n 3, 1) := by decide +kernel
theorem dX7_subscriberIs_69 : decode cX7_subscriberIs 69 = .ok (.getfield 184, 3) := by decide +kernel
theorem dX7_subscriberIs_72 : decode cX7_subscriberIs 72 = .ok (.ireturn, 1) := by decide +kernel
theorem dX7_subscriberIs_73 : decode cX7_subscriberIs 73 = .ok (.aload_n 3, 1) := by decide +kernel
theorem dX7_subscriberIs_74 : decode cX7_subscriberIs 74 = .ok (.invokevirtual 187, 3) := by decide +kernel
theorem dX7_subscriberIs_77 : decode cX7_subscriberIs 77 = .ok (.ifCond .eq 7, 3) := by decide +kernel
theorem dX7_subscriberIs_80 : decode cX7_subscriberIs 80 = .ok (.iconst 1, 1) := by decide +kernel
theorem dX7_subscriberIs_81 : decode cX7_subscriberIs 81 = .ok (.goto 4, 3) := by decide +kernel
theorem dX7_subscriberIs_84 : decode cX7_subscriberIs 84 = .ok (.iconst 0, 1) := by decide +kernel
theorem dX7_subscriberIs_85 : decode cX7_subscriberIs 85 = .ok (.ireturn, 1) := by decide +kernel
theorem dX7_subscriberIs_86 : decode cX7_subscriberIs 86 = .ok (.aload_n 3, 1) := by decide +kernel
theorem dX7_subscriberIs_87 : decode cX7_subscriberIs 87 = .ok (.getfield 191, 3) := by decide +kernel
theorem dX7_subscriberIs_90 : decode cX7_subscriberIs 90 = .ok (.ireturn, 1) := by decide +kernel
theorem dX7_subscriberIs_91 : decode cX7_subscriberIs 91 = .ok (.new 194, 3) := by decide +kernel
theorem dX7_subscriberIs_94 : decode cX7_subscriberIs 94 = .ok (.dup, 1) := by decide +kernel
theorem dX7_subscriberIs_95 : decode cX7_subscriberIs 95 = .ok (.ldc 196, 2) := by decide +kernel
theorem dX7_subscriberIs_97 : decode cX7_subscriberIs 97 = .ok (.invokespecial 198, 3) := by decide +kernel
theorem dX7_subscriberIs_100 : decode cX7_subscriberIs 100 = .ok (.athrow, 1) := by decide +kernel
theorem dX7_cap_0 : decode cX7_cap 0 = .ok (.aload_n 0, 1) := by decide +kernel
theorem dX7_cap_1 : decode cX7_cap 1 = .ok (.iload_n 1, 1) := by decide +kernel
theorem dX7_cap_2 : decode cX7_cap 2 = .ok (.invokevirtual 135, 3) := by decide +kernel
theorem dX7_cap_5 : decode cX7_cap 5 = .ok (.astore 4, 2) := by decide +kernel
theorem dX7_cap_7 : decode cX7_cap 7 = .ok (.iload_n 2, 1) := by decide +kernel
theorem dX7_cap_8 : decode cX7_cap 8 = .ok (.iconst 0, 1) := by decide +kernel
theorem dX7_cap_9 : decode cX7_cap 9 = .ok (.ldc 199, 2) := by decide +kernel
theorem dX7_cap_11 : decode cX7_cap 11 = .ok (.invokestatic 44, 3) := by decide +kernel
theorem dX7_cap_14 : decode cX7_cap 14 = .ok (.aload 4, 2) := by decide +kernel
theorem dX7_cap_16 : decode cX7_cap 16 = .ok (.iload_n 2, 1) := by decide +kernel
theorem dX7_cap_17 : decode cX7_cap 17 = .ok (.putfield 191, 3) := by decide +kernel
theorem dX7_cap_20 : decode cX7_cap 20 = .ok (.aload 4, 2) := by decide +kernel
theorem dX7_cap_22 : decode cX7_cap 22 = .ok (.iload_n 3, 1) := by decide +kernel
theorem dX7_cap_23 : decode cX7_cap 23 = .ok (.putfield 200, 3) := by decide +kernel
theorem dX7_cap_26 : decode cX7_cap 26 = .ok (.return_, 1) := by decide +kernel
theorem dX7_call_0 : decode cX7_call 0 = .ok (.aload_n 0, 1) := by decide +kernel
theorem dX7_call_1 : decode cX7_call 1 = .ok (.iload_n 1, 1) := by decide +kernel
theorem dX7_call_2 : decode cX7_call 2 = .ok (.invokevirtual 135, 3) := by decide +kernel
theorem dX7_call_5 : decode cX7_call 5 = .ok (.astore 4, 2) := by decide +kernel
theorem dX7_call_7 : decode cX7_call 7 = .ok (.aload_n 0, 1) := by decide +kernel
theorem dX7_call_8 : decode cX7_call 8 = .ok (.iload_n 2, 1) := by decide +kernel
theorem dX7_call_9 : decode cX7_call 9 = .ok (.invokevirtual 135, 3) := by decide +kernel
theorem dX7_call_12 : decode cX7_call 12 = .ok (.astore 5, 2) := by decide +kernel
theorem dX7_call_14 : decode cX7_call 14 = .ok (.iload_n 1, 1) := by decide +kernel
theorem dX7_call_15 : decode cX7_call 15 = .ok (.iload_n 2, 1) := by decide +kernel
theorem dX7_call_16 : decode cX7_call 16 = .ok (.invokestatic 90, 3) := by decide +kernel
theorem dX7_call_19 : decode cX7_call 19 = .ok (.iload_n 3, 1) := by decide +kernel
theorem dX7_call_20 : decode cX7_call 20 = .ok (.iconst 1, 1) := by decide +kernel
theorem dX7_call_21 : decode cX7_call 21 = .ok (.ldc 203, 2) := by decide +kernel
theorem dX7_call_23 : decode cX7_call 23 = .ok (.invokestatic 44, 3) := by decide +kernel
theorem dX7_call_26 : decode cX7_call 26 = .ok (.aload_n 0, 1) := by decide +kernel
theorem dX7_call_27 : decode cX7_call 27 = .ok (.getfield 35, 3) := by decide +kernel
theorem dX7_call_30 : decode cX7_call 30 = .ok (.invokevirtual 48, 3) := by decide +kernel
theorem dX7_call_33 : decode cX7_call 33 = .ok (.sipush 200, 3) := by decide +kernel
theorem dX7_call_36 : decode cX7_call 36 = .ok (.invokestatic 96, 3) := by decide +kernel
theorem dX7_call_39 : decode cX7_call 39 = .ok (.aload_n 0, 1) := by decide +kernel
theorem dX7_call_40 : decode cX7_call 40 = .ok (.aload 4, 2) := by decide +kernel
theorem dX7_call_42 : decode cX7_call 42 = .ok (.aload 5, 2) := by decide +kernel
theorem dX7_call_44 : decode cX7_call 44 = .ok (.invokevirtual 204, 3) := by decide +kernel
theorem dX7_call_47 : decode cX7_call 47 = .ok (.istore 6, 2) := by decide +kernel
theorem dX7_call_49 : decode cX7_call 49 = .ok (.iload 6, 2) := by decide +kernel
theorem dX7_call_51 : decode cX7_call 51 = .ok (.ifCond .eq 6, 3) := by decide +kernel
theorem dX7_call_54 : decode cX7_call 54 = .ok (.iload 6, 2) := by decide +kernel
theorem dX7_call_56 : decode cX7_call 56 = .ok (.ireturn, 1) := by decide +kernel
theorem dX7_call_57 : decode cX7_call 57 = .ok (.iload_n 3, 1) := by decide +kernel
theorem dX7_call_58 : decode cX7_call 58 = .ok (.bipush 59, 2) := by decide +kernel
theorem dX7_call_60 : decode cX7_call 60 = .ok (.iadd, 1) := by decide +kernel
theorem dX7_call_61 : decode cX7_call 61 = .ok (.bipush 60, 2) := by decide +kernel
theorem dX7_call_63 : decode cX7_call 63 = .ok (.idiv, 1) := by decide +kernel
theorem dX7_call_64 : decode cX7_call 64 = .ok (.istore 7, 2) := by decide +kernel
theorem dX7_call_66 : decode cX7_call 66 = .ok (.iload 7, 2) := by decide +kernel
theorem dX7_call_68 : decode cX7_call 68 = .ok (.aload_n 0, 1) := by decide +kernel
theorem dX7_call_69 : decode cX7_call 69 = .ok (.aload 4, 2) := by decide +kernel
theorem dX7_call_71 : decode cX7_call 71 = .ok (.invokevirtual 208, 3) := by decide +kernel
theorem dX7_call_74 : decode cX7_call 74 = .ok (.imul, 1) := by decide +kernel
theorem dX7_call_75 : decode cX7_call 75 = .ok (.istore 8, 2) := by decide +kernel
theorem dX7_call_77 : decode cX7_call 77 = .ok (.iload 7, 2) := by decide +kernel
theorem dX7_call_79 : decode cX7_call 79 = .ok (.aload_n 0, 1) := by decide +kernel
theorem dX7_call_80 : decode cX7_call 80 = .ok (.aload 5, 2) := by decide +kernel
theorem dX7_call_82 : decode cX7_call 82 = .ok (.invokevirtual 212, 3) := by decide +kernel
theorem dX7_call_85 : decode cX7_call 85 = .ok (.imul, 1) := by decide +kernel
theorem dX7_call_86 : decode cX7_call 86 = .ok (.istore 9, 2) := by decide +kernel
theorem dX7_call_88 : decode cX7_call 88 = .ok (.aload 4, 2) := by decide +kernel
theorem dX7_call_90 : decode cX7_call 90 = .ok (.iload 8, 2) := by decide +kernel
theorem dX7_call_92 : decode cX7_call 92 = .ok (.invokevirtual 215, 3) := by decide +kernel
theorem dX7_call_95 : decode cX7_call 95 = .ok (.ifCond .eq 5, 3) := by decide +kernel
theorem dX7_call_98 : decode cX7_call 98 = .ok (.iconst 5, 1) := by decide +kernel
theorem dX7_call_99 : decode cX7_call 99 = .ok (.ireturn, 1) := by decide +kernel
theorem dX7_call_100 : decode cX7_call 100 = .ok (.aload 5, 2) := by decide +kernel
theorem dX7_call_102 : decode cX7_call 102 = .ok (.iload 9, 2) := by decide +kernel
theorem dX7_call_104 : decode cX7_call 104 = .ok (.invokevirtual 215, 3) := by decide +kernel
theorem dX7_call_107 : decode cX7_call 107 = .ok (.ifCond .eq 6, 3) := by decide +kernel
theorem dX7_call_110 : decode cX7_call 110 = .ok (.bipush 6, 2) := by decide +kernel
theorem dX7_call_112 : decode cX7_call 112 = .ok (.ireturn, 1) := by decide +kernel
theorem dX7_call_113 : decode cX7_call 113 = .ok (.aload_n 0, 1) := by decide +kernel
theorem dX7_call_114 : decode cX7_call 114 = .ok (.getfield 35, 3) := by decide +kernel
theorem dX7_call_117 : decode cX7_call 117 = .ok (.new 218, 3) := by decide +kernel
theorem dX7_call_120 : decode cX7_call 120 = .ok (.dup, 1) := by decide +kernel
theorem dX7_call_121 : decode cX7_call 121 = .ok (.iload_n 1, 1) := by decide +kernel
theorem dX7_call_122 : decode cX7_call 122 = .ok (.iload 8, 2) := by decide +kernel
theorem dX7_call_124 : decode cX7_call 124 = .ok (.iload_n 2, 1) := by decide +kernel
theorem dX7_call_125 : decode cX7_call 125 = .ok (.iload 9, 2) := by decide +kernel
theorem dX7_call_127 : decode cX7_call 127 = .ok (.invokespecial 220, 3) := by decide +kernel
theorem dX7_call_130 : decode cX7_call 130 = .ok (.invokevirtual 104, 3) := by decide +kernel
theorem dX7_call_133 : decode cX7_call 133 = .ok (.pop, 1) := by decide +kernel
theorem dX7_call_134 : decode cX7_call 134 = .ok (.aload_n 0, 1) := by decide +kernel
theorem dX7_call_135 : decode cX7_call 135 = .ok (.aload 4, 2) := by decide +kernel
theorem dX7_call_137 : decode cX7_call 137 = .ok (.iload 8, 2) := by decide +kernel
theorem dX7_call_139 : decode cX7_call 139 = .ok (.iload 7, 2) := by decide +kernel
theorem dX7_call_141 : decode cX7_call 141 = .ok (.invokevirtual 221, 3) := by decide +kernel
theorem dX7_call_144 : decode cX7_call 144 = .ok (.aload_n 0, 1) := by decide +kernel
theorem dX7_call_145 : decode cX7_call 145 = .ok (.aload 5, 2) := by decide +kernel
theorem dX7_call_147 : decode cX7_call 147 = .ok (.iload 9, 2) := by decide +kernel
theorem dX7_call_149 : decode cX7_call 149 = .ok (.iload 7, 2) := by decide +kernel
theorem dX7_call_151 : decode cX7_call 151 = .ok (.invokevirtual 221, 3) := by decide +kernel
theorem dX7_call_154 : decode cX7_call 154 = .ok (.iconst 0, 1) := by decide +kernel
theorem dX7_call_155 : decode cX7_call 155 = .ok (.ireturn, 1) := by decide +kernel
theorem dX7_paidAnew_0 : decode cX7_paidAnew 0 = .ok (.aload_n 0, 1) := by decide +kernel
theorem dX7_paidAnew_1 : decode cX7_paidAnew 1 = .ok (.iload_n 1, 1) := by decide +kernel
theorem dX7_paidAnew_2 : decode cX7_paidAnew 2 = .ok (.invokevirtual 135, 3) := by decide +kernel
theorem dX7_paidAnew_5 : decode cX7_paidAnew 5 = .ok (.getfield 132, 3) := by decide +kernel
theorem dX7_paidAnew_8 : decode cX7_paidAnew 8 = .ok (.istore_n 2, 1) := by decide +kernel
theorem dX7_paidAnew_9 : decode cX7_paidAnew 9 = .ok (.iconst 0, 1) := by decide +kernel
theorem dX7_paidAnew_10 : decode cX7_paidAnew 10 = .ok (.istore_n 3, 1) := by decide +kernel
theorem dX7_paidAnew_11 : decode cX7_paidAnew 11 = .ok (.iconst 0, 1) := by decide +kernel
theorem dX7_paidAnew_12 : decode cX7_paidAnew 12 = .ok (.istore 4, 2) := by decide +kernel
theorem dX7_paidAnew_14 : decode cX7_paidAnew 14 = .ok (.iload 4, 2) := by decide +kernel
theorem dX7_paidAnew_16 : decode cX7_paidAnew 16 = .ok (.aload_n 0, 1) := by decide +kernel
theorem dX7_paidAnew_17 : decode cX7_paidAnew 17 = .ok (.getfield 35, 3) := by decide +kernel
theorem dX7_paidAnew_20 : decode cX7_paidAnew 20 = .ok (.invokevirtual 48, 3) := by decide +kernel
theorem dX7_paidAnew_23 : decode cX7_paidAnew 23 = .ok (.if_icmp .ge 28, 3) := by decide +kernel
theorem dX7_paidAnew_26 : decode cX7_paidAnew 26 = .ok (.iload_n 3, 1) := by decide +kernel
theorem dX7_paidAnew_27 : decode cX7_paidAnew 27 = .ok (.aload_n 0, 1) := by decide +kernel
theorem dX7_paidAnew_28 : decode cX7_paidAnew 28 = .ok (.getfield 35, 3) := by decide +kernel
theorem dX7_paidAnew_31 : decode cX7_paidAnew 31 = .ok (.iload 4, 2) := by decide +kernel
theorem dX7_paidAnew_33 : decode cX7_paidAnew 33 = .ok (.invokevirtual 52, 3) := by decide +kernel
theorem dX7_paidAnew_36 : decode cX7_paidAnew 36 = .ok (.checkcast 218, 3) := by decide +kernel
theorem dX7_paidAnew_39 : decode cX7_paidAnew 39 = .ok (.iload_n 2, 1) := by decide +kernel
theorem dX7_paidAnew_40 : decode cX7_paidAnew 40 = .ok (.invokevirtual 225, 3) := by decide +kernel
theorem dX7_paidAnew_43 : decode cX7_paidAnew 43 = .ok (.iadd, 1) := by decide +kernel
theorem dX7_paidAnew_44 : decode cX7_paidAnew 44 = .ok (.istore_n 3, 1) := by decide +kernel
theorem dX7_paidAnew_45 : decode cX7_paidAnew 45 = .ok (.iinc 4 1, 3) := by decide +kernel
theorem dX7_paidAnew_48 : decode cX7_paidAnew 48 = .ok (.goto (-34), 3) := by decide +kernel
theorem dX7_paidAnew_51 : decode cX7_paidAnew 51 = .ok (.iload_n 3, 1) := by decide +kernel
theorem dX7_paidAnew_52 : decode cX7_paidAnew 52 = .ok (.ireturn, 1) := by decide +kernel
theorem dX7_file_0 : decode cX7_file 0 = .ok (.aload_n 0, 1) := by decide +kernel
theorem dX7_file_1 : decode cX7_file 1 = .ok (.iload_n 1, 1) := by decide +kernel
theorem dX7_file_2 : decode cX7_file 2 = .ok (.iload_n 2, 1) := by decide +kernel
theorem dX7_file_3 : decode cX7_file 3 = .ok (.invokevirtual 228, 3) := by decide +kernel
theorem dX7_file_6 : decode cX7_file 6 = .ok (.astore_n 3, 1) := by decide +kernel
theorem dX7_file_7 : decode cX7_file 7 = .ok (.aload_n 3, 1) := by decide +kernel
theorem dX7_file_8 : decode cX7_file 8 = .ok (.invokevirtual 232, 3) := by decide +kernel
theorem dX7_file_11 : decode cX7_file 11 = .ok (.ifCond .ne 13, 3) := by decide +kernel
theorem dX7_file_14 : decode cX7_file 14 = .ok (.new 145, 3) := by decide +kernel
theorem dX7_file_17 : decode cX7_file 17 = .ok (.dup, 1) := by decide +kernel
theorem dX7_file_18 : decode cX7_file 18 = .ok (.ldc 235, 2) := by decide +kernel
theorem dX7_file_20 : decode cX7_file 20 = .ok (.invokespecial 149, 3) := by decide +kernel
theorem dX7_file_23 : decode cX7_file 23 = .ok (.athrow, 1) := by decide +kernel
theorem dX7_file_24 : decode cX7_file 24 = .ok (.aload_n 3, 1) := by decide +kernel
theorem dX7_file_25 : decode cX7_file 25 = .ok (.getfield 237, 3) := by decide +kernel
theorem dX7_file_28 : decode cX7_file 28 = .ok (.bipush 20, 2) := by decide +kernel
theorem dX7_file_30 : decode cX7_file 30 = .ok (.invokestatic 96, 3) := by decide +kernel
theorem dX7_file_33 : decode cX7_file 33 = .ok (.aload_n 3, 1) := by decide +kernel
theorem dX7_file_34 : decode cX7_file 34 = .ok (.invokevirtual 240, 3) := by decide +kernel
theorem dX7_file_37 : decode cX7_file 37 = .ok (.ireturn, 1) := by decide +kernel
theorem dX7_deliver_0 : decode cX7_deliver 0 = .ok (.aload_n 0, 1) := by decide +kernel
theorem dX7_deliver_1 : decode cX7_deliver 1 = .ok (.iload_n 1, 1) := by decide +kernel
theorem dX7_deliver_2 : decode cX7_deliver 2 = .ok (.iload_n 2, 1) := by decide +kernel
theorem dX7_deliver_3 : decode cX7_deliver 3 = .ok (.invokevirtual 228, 3) := by decide +kernel
theorem dX7_deliver_6 : decode cX7_deliver 6 = .ok (.astore 4, 2) := by decide +kernel
theorem dX7_deliver_8 : decode cX7_deliver 8 = .ok (.iload_n 3, 1) := by decide +kernel
theorem dX7_deliver_9 : decode cX7_deliver 9 = .ok (.ifCond .lt 12, 3) := by decide +kernel
theorem dX7_deliver_12 : decode cX7_deliver 12 = .ok (.iload_n 3, 1) := by decide +kernel
theorem dX7_deliver_13 : decode cX7_deliver 13 = .ok (.aload 4, 2) := by decide +kernel
theorem dX7_deliver_15 : decode cX7_deliver 15 = .ok (.getfield 237, 3) := by decide +kernel
theorem dX7_deliver_18 : decode cX7_deliver 18 = .ok (.if_icmp .lt 13, 3) := by decide +kernel
theorem dX7_deliver_21 : decode cX7_deliver 21 = .ok (.new 243, 3) := by decide +kernel
theorem dX7_deliver_24 : decode cX7_deliver 24 = .ok (.dup, 1) := by decide +kernel
theorem dX7_deliver_25 : decode cX7_deliver 25 = .ok (.ldc 245, 2) := by decide +kernel
theorem dX7_deliver_27 : decode cX7_deliver 27 = .ok (.invokespecial 247, 3) := by decide +kernel
theorem dX7_deliver_30 : decode cX7_deliver 30 = .ok (.athrow, 1) := by decide +kernel
theorem dX7_deliver_31 : decode cX7_deliver 31 = .ok (.iload_n 3, 1) := by decide +kernel
theorem dX7_deliver_32 : decode cX7_deliver 32 = .ok (.aload 4, 2) := by decide +kernel
theorem dX7_deliver_34 : decode cX7_deliver 34 = .ok (.getfield 248, 3) := by decide +kernel
theorem dX7_deliver_37 : decode cX7_deliver 37 = .ok (.if_icmp .ge 5, 3) := by decide +kernel
theorem dX7_deliver_40 : decode cX7_deliver 40 = .ok (.iconst (-1), 1) := by decide +kernel
theorem dX7_deliver_41 : decode cX7_deliver 41 = .ok (.ireturn, 1) := by decide +kernel
theorem dX7_deliver_42 : decode cX7_deliver 42 = .ok (.iload_n 3, 1) := by decide +kernel
theorem dX7_deliver_43 : decode cX7_deliver 43 = .ok (.aload 4, 2) := by decide +kernel
theorem dX7_deliver_45 : decode cX7_deliver 45 = .ok (.getfield 248, 3) := by decide +kernel
theorem dX7_deliver_48 : decode cX7_deliver 48 = .ok (.if_icmp .le 6, 3) := by decide +kernel
theorem dX7_deliver_51 : decode cX7_deliver 51 = .ok (.bipush (-2), 2) := by decide +kernel
theorem dX7_deliver_53 : decode cX7_deliver 53 = .ok (.ireturn, 1) := by decide +kernel
theorem dX7_deliver_54 : decode cX7_deliver 54 = .ok (.aload 4, 2) := by decide +kernel
theorem dX7_deliver_56 : decode cX7_deliver 56 = .ok (.aload_n 0, 1) := by decide +kernel
theorem dX7_deliver_57 : decode cX7_deliver 57 = .ok (.getfield 160, 3) := by decide +kernel
theorem dX7_deliver_60 : decode cX7_deliver 60 = .ok (.invokevirtual 251, 3) := by decide +kernel
theorem dX7_deliver_63 : decode cX7_deliver 63 = .ok (.ireturn, 1) := by decide +kernel
theorem dX7_owes_0 : decode cX7_owes 0 = .ok (.aload_n 0, 1) := by decide +kernel
theorem dX7_owes_1 : decode cX7_owes 1 = .ok (.iload_n 2, 1) := by decide +kernel
theorem dX7_owes_2 : decode cX7_owes 2 = .ok (.iload_n 1, 1) := by decide +kernel
theorem dX7_owes_3 : decode cX7_owes 3 = .ok (.invokevirtual 228, 3) := by decide +kernel
theorem dX7_owes_6 : decode cX7_owes 6 = .ok (.invokevirtual 254, 3) := by decide +kernel
theorem dX7_owes_9 : decode cX7_owes 9 = .ok (.ireturn, 1) := by decide +kernel
theorem dX7_owesAnew_0 : decode cX7_owesAnew 0 = .ok (.aload_n 0, 1) := by decide +kernel
theorem dX7_owesAnew_1 : decode cX7_owesAnew 1 = .ok (.iload_n 2, 1) := by decide +kernel
theorem dX7_owesAnew_2 : decode cX7_owesAnew 2 = .ok (.iload_n 1, 1) := by decide +kernel
theorem dX7_owesAnew_3 : decode cX7_owesAnew 3 = .ok (.invokevirtual 228, 3) := by decide +kernel
theorem dX7_owesAnew_6 : decode cX7_owesAnew 6 = .ok (.invokevirtual 257, 3) := by decide +kernel
theorem dX7_owesAnew_9 : decode cX7_owesAnew 9 = .ok (.ireturn, 1) := by decide +kernel
theorem dX7_recorded_0 : decode cX7_recorded 0 = .ok (.aload_n 0, 1) := by decide +kernel
theorem dX7_recorded_1 : decode cX7_recorded 1 = .ok (.iload_n 1, 1) := by decide +kernel
theorem dX7_recorded_2 : decode cX7_recorded 2 = .ok (.iload_n 2, 1) := by decide +kernel
theorem dX7_recorded_3 : decode cX7_recorded 3 = .ok (.invokevirtual 228, 3) := by decide +kernel
theorem dX7_recorded_6 : decode cX7_recorded 6 = .ok (.astore 4, 2) := by decide +kernel
theorem dX7_recorded_8 : decode cX7_recorded 8 = .ok (.iload_n 3, 1) := by decide +kernel
theorem dX7_recorded_9 : decode cX7_recorded 9 = .ok (.iconst 0, 1) := by decide +kernel
theorem dX7_recorded_10 : decode cX7_recorded 10 = .ok (.iconst 3, 1) := by decide +kernel
theorem dX7_recorded_11 : decode cX7_recorded 11 = .ok (.invokestatic 44, 3) := by decide +kernel
theorem dX7_recorded_14 : decode cX7_recorded 14 = .ok (.aload 4, 2) := by decide +kernel
theorem dX7_recorded_16 : decode cX7_recorded 16 = .ok (.iload_n 3, 1) := by decide +kernel
theorem dX7_recorded_17 : decode cX7_recorded 17 = .ok (.invokevirtual 260, 3) := by decide +kernel
theorem dX7_recorded_20 : decode cX7_recorded 20 = .ok (.ireturn, 1) := by decide +kernel
theorem dX7_pass_0 : decode cX7_pass 0 = .ok (.iload_n 1, 1) := by decide +kernel
theorem dX7_pass_1 : decode cX7_pass 1 = .ok (.iconst 1, 1) := by decide +kernel
theorem dX7_pass_2 : decode cX7_pass 2 = .ok (.ldc_w 263, 3) := by decide +kernel
theorem dX7_pass_5 : decode cX7_pass 5 = .ok (.invokestatic 44, 3) := by decide +kernel
theorem dX7_pass_8 : decode cX7_pass 8 = .ok (.iload_n 1, 1) := by decide +kernel
theorem dX7_pass_9 : decode cX7_pass 9 = .ok (.ldc 94, 2) := by decide +kernel
theorem dX7_pass_11 : decode cX7_pass 11 = .ok (.aload_n 0, 1) := by decide +kernel
theorem dX7_pass_12 : decode cX7_pass 12 = .ok (.getfield 160, 3) := by decide +kernel
theorem dX7_pass_15 : decode cX7_pass 15 = .ok (.isub, 1) := by decide +kernel
theorem dX7_pass_16 : decode cX7_pass 16 = .ok (.if_icmp .le 14, 3) := by decide +kernel
theorem dX7_pass_19 : decode cX7_pass 19 = .ok (.new 145, 3) := by decide +kernel
theorem dX7_pass_22 : decode cX7_pass 22 = .ok (.dup, 1) := by decide +kernel
theorem dX7_pass_23 : decode cX7_pass 23 = .ok (.ldc_w 264, 3) := by decide +kernel
theorem dX7_pass_26 : decode cX7_pass 26 = .ok (.invokespecial 149, 3) := by decide +kernel
theorem dX7_pass_29 : decode cX7_pass 29 = .ok (.athrow, 1) := by decide +kernel
theorem dX7_pass_30 : decode cX7_pass 30 = .ok (.aload_n 0, 1) := by decide +kernel
theorem dX7_pass_31 : decode cX7_pass 31 = .ok (.getfield 160, 3) := by decide +kernel
theorem dX7_pass_34 : decode cX7_pass 34 = .ok (.iload_n 1, 1) := by decide +kernel
theorem dX7_pass_35 : decode cX7_pass 35 = .ok (.iadd, 1) := by decide +kernel
theorem dX7_pass_36 : decode cX7_pass 36 = .ok (.istore_n 2, 1) := by decide +kernel
theorem dX7_pass_37 : decode cX7_pass 37 = .ok (.aload_n 0, 1) := by decide +kernel
theorem dX7_pass_38 : decode cX7_pass 38 = .ok (.aload_n 0, 1) := by decide +kernel
theorem dX7_pass_39 : decode cX7_pass 39 = .ok (.getfield 160, 3) := by decide +kernel
theorem dX7_pass_42 : decode cX7_pass 42 = .ok (.bipush 60, 2) := by decide +kernel
theorem dX7_pass_44 : decode cX7_pass 44 = .ok (.idiv, 1) := by decide +kernel
theorem dX7_pass_45 : decode cX7_pass 45 = .ok (.iconst 1, 1) := by decide +kernel
theorem dX7_pass_46 : decode cX7_pass 46 = .ok (.iadd, 1) := by decide +kernel
theorem dX7_pass_47 : decode cX7_pass 47 = .ok (.iload_n 2, 1) := by decide +kernel
theorem dX7_pass_48 : decode cX7_pass 48 = .ok (.bipush 60, 2) := by decide +kernel
theorem dX7_pass_50 : decode cX7_pass 50 = .ok (.idiv, 1) := by decide +kernel
theorem dX7_pass_51 : decode cX7_pass 51 = .ok (.invokevirtual 266, 3) := by decide +kernel
theorem dX7_pass_54 : decode cX7_pass 54 = .ok (.iload_n 2, 1) := by decide +kernel
theorem dX7_pass_55 : decode cX7_pass 55 = .ok (.ldc_w 269, 3) := by decide +kernel
theorem dX7_pass_58 : decode cX7_pass 58 = .ok (.idiv, 1) := by decide +kernel
theorem dX7_pass_59 : decode cX7_pass 59 = .ok (.aload_n 0, 1) := by decide +kernel
theorem dX7_pass_60 : decode cX7_pass 60 = .ok (.getfield 160, 3) := by decide +kernel
theorem dX7_pass_63 : decode cX7_pass 63 = .ok (.ldc_w 269, 3) := by decide +kernel
theorem dX7_pass_66 : decode cX7_pass 66 = .ok (.idiv, 1) := by decide +kernel
theorem dX7_pass_67 : decode cX7_pass 67 = .ok (.if_icmp .eq 7, 3) := by decide +kernel
theorem dX7_pass_70 : decode cX7_pass 70 = .ok (.aload_n 0, 1) := by decide +kernel
theorem dX7_pass_71 : decode cX7_pass 71 = .ok (.invokevirtual 270, 3) := by decide +kernel
theorem dX7_pass_74 : decode cX7_pass 74 = .ok (.aload_n 0, 1) := by decide +kernel
theorem dX7_pass_75 : decode cX7_pass 75 = .ok (.iload_n 2, 1) := by decide +kernel
theorem dX7_pass_76 : decode cX7_pass 76 = .ok (.putfield 160, 3) := by decide +kernel
theorem dX7_pass_79 : decode cX7_pass 79 = .ok (.aload_n 0, 1) := by decide +kernel
theorem dX7_pass_80 : decode cX7_pass 80 = .ok (.getfield 160, 3) := by decide +kernel
theorem dX7_pass_83 : decode cX7_pass 83 = .ok (.ireturn, 1) := by decide +kernel
theorem dX7_requireRange_0 : decode cX7_requireRange 0 = .ok (.iload_n 0, 1) := by decide +kernel
theorem dX7_requireRange_1 : decode cX7_requireRange 1 = .ok (.iload_n 1, 1) := by decide +kernel
theorem dX7_requireRange_2 : decode cX7_requireRange 2 = .ok (.if_icmp .lt 8, 3) := by decide +kernel
theorem dX7_requireRange_5 : decode cX7_requireRange 5 = .ok (.iload_n 0, 1) := by decide +kernel
theorem dX7_requireRange_6 : decode cX7_requireRange 6 = .ok (.iload_n 2, 1) := by decide +kernel
theorem dX7_requireRange_7 : decode cX7_requireRange 7 = .ok (.if_icmp .le 14, 3) := by decide +kernel
theorem dX7_requireRange_10 : decode cX7_requireRange 10 = .ok (.new 194, 3) := by decide +kernel
theorem dX7_requireRange_13 : decode cX7_requireRange 13 = .ok (.dup, 1) := by decide +kernel
theorem dX7_requireRange_14 : decode cX7_requireRange 14 = .ok (.ldc_w 273, 3) := by decide +kernel
theorem dX7_requireRange_17 : decode cX7_requireRange 17 = .ok (.invokespecial 198, 3) := by decide +kernel
theorem dX7_requireRange_20 : decode cX7_requireRange 20 = .ok (.athrow, 1) := by decide +kernel
theorem dX7_requireRange_21 : decode cX7_requireRange 21 = .ok (.return_, 1) := by decide +kernel
theorem dX7_requireDifferent_0 : decode cX7_requireDifferent 0 = .ok (.iload_n 0, 1) := by decide +kernel
theorem dX7_requireDifferent_1 : decode cX7_requireDifferent 1 = .ok (.iload_n 1, 1) := by decide +kernel
theorem dX7_requireDifferent_2 : decode cX7_requireDifferent 2 = .ok (.if_icmp .ne 14, 3) := by decide +kernel
theorem dX7_requireDifferent_5 : decode cX7_requireDifferent 5 = .ok (.new 194, 3) := by decide +kernel
theorem dX7_requireDifferent_8 : decode cX7_requireDifferent 8 = .ok (.dup, 1) := by decide +kernel
theorem dX7_requireDifferent_9 : decode cX7_requireDifferent 9 = .ok (.ldc_w 275, 3) := by decide +kernel
theorem dX7_requireDifferent_12 : decode cX7_requireDifferent 12 = .ok (.invokespecial 198, 3) := by decide +kernel
theorem dX7_requireDifferent_15 : decode cX7_requireDifferent 15 = .ok (.athrow, 1) := by decide +kernel
theorem dX7_requireDifferent_16 : decode cX7_requireDifferent 16 = .ok (.return_, 1) := by decide +kernel
theorem dX7_requireRoom_0 : decode cX7_requireRoom 0 = .ok (.iload_n 0, 1) := by decide +kernel
theorem dX7_requireRoom_1 : decode cX7_requireRoom 1 = .ok (.iload_n 1, 1) := by decide +kernel
theorem dX7_requireRoom_2 : decode cX7_requireRoom 2 = .ok (.if_icmp .lt 14, 3) := by decide +kernel
theorem dX7_requireRoom_5 : decode cX7_requireRoom 5 = .ok (.new 145, 3) := by decide +kernel
theorem dX7_requireRoom_8 : decode cX7_requireRoom 8 = .ok (.dup, 1) := by decide +kernel
theorem dX7_requireRoom_9 : decode cX7_requireRoom 9 = .ok (.ldc_w 277, 3) := by decide +kernel
theorem dX7_requireRoom_12 : decode cX7_requireRoom 12 = .ok (.invokespecial 149, 3) := by decide +kernel
theorem dX7_requireRoom_15 : decode cX7_requireRoom 15 = .ok (.athrow, 1) := by decide +kernel
theorem dX7_requireRoom_16 : decode cX7_requireRoom 16 = .ok (.return_, 1) := by decide +kernel
theorem dX7_requireNetwork_0 : decode cX7_requireNetwork 0 = .ok (.iload_n 1, 1) := by decide +kernel
theorem dX7_requireNetwork_1 : decode cX7_requireNetwork 1 = .ok (.ifCond .lt 12, 3) := by decide +kernel
theorem dX7_requireNetwork_4 : decode cX7_requireNetwork 4 = .ok (.iload_n 1, 1) := by decide +kernel
theorem dX7_requireNetwork_5 : decode cX7_requireNetwork 5 = .ok (.aload_n 0, 1) := by decide +kernel
theorem dX7_requireNetwork_6 : decode cX7_requireNetwork 6 = .ok (.getfield 15, 3) := by decide +kernel
theorem dX7_requireNetwork_9 : decode cX7_requireNetwork 9 = .ok (.arraylength, 1) := by decide +kernel
theorem dX7_requireNetwork_10 : decode cX7_requireNetwork 10 = .ok (.if_icmp .lt 14, 3) := by decide +kernel
theorem dX7_requireNetwork_13 : decode cX7_requireNetwork 13 = .ok (.new 243, 3) := by decide +kernel
theorem dX7_requireNetwork_16 : decode cX7_requireNetwork 16 = .ok (.dup, 1) := by decide +kernel
theorem dX7_requireNetwork_17 : decode cX7_requireNetwork 17 = .ok (.ldc_w 279, 3) := by decide +kernel
theorem dX7_requireNetwork_20 : decode cX7_requireNetwork 20 = .ok (.invokespecial 247, 3) := by decide +kernel
theorem dX7_requireNetwork_23 : decode cX7_requireNetwork 23 = .ok (.athrow, 1) := by decide +kernel
theorem dX7_requireNetwork_24 : decode cX7_requireNetwork 24 = .ok (.return_, 1) := by decide +kernel
theorem dX7_requirePlace_0 : decode cX7_requirePlace 0 = .ok (.iload_n 1, 1) := by decide +kernel
theorem dX7_requirePlace_1 : decode cX7_requirePlace 1 = .ok (.ifCond .lt 12, 3) := by decide +kernel
theorem dX7_requirePlace_4 : decode cX7_requirePlace 4 = .ok (.iload_n 1, 1) := by decide +kernel
theorem dX7_requirePlace_5 : decode cX7_requirePlace 5 = .ok (.aload_n 0, 1) := by decide +kernel
theorem dX7_requirePlace_6 : decode cX7_requirePlace 6 = .ok (.getfield 9, 3) := by decide +kernel
theorem dX7_requirePlace_9 : decode cX7_requirePlace 9 = .ok (.arraylength, 1) := by decide +kernel
theorem dX7_requirePlace_10 : decode cX7_requirePlace 10 = .ok (.if_icmp .lt 14, 3) := by decide +kernel
theorem dX7_requirePlace_13 : decode cX7_requirePlace 13 = .ok (.new 243, 3) := by decide +kernel
theorem dX7_requirePlace_16 : decode cX7_requirePlace 16 = .ok (.dup, 1) := by decide +kernel
theorem dX7_requirePlace_17 : decode cX7_requirePlace 17 = .ok (.ldc_w 281, 3) := by decide +kernel
theorem dX7_requirePlace_20 : decode cX7_requirePlace 20 = .ok (.invokespecial 247, 3) := by decide +kernel
theorem dX7_requirePlace_23 : decode cX7_requirePlace 23 = .ok (.athrow, 1) := by decide +kernel
theorem dX7_requirePlace_24 : decode cX7_requirePlace 24 = .ok (.return_, 1) := by decide +kernel
theorem dX7_networkAt_0 : decode cX7_networkAt 0 = .ok (.aload_n 0, 1) := by decide +kernel
theorem dX7_networkAt_1 : decode cX7_networkAt 1 = .ok (.iload_n 1, 1) := by decide +kernel
theorem dX7_networkAt_2 : decode cX7_networkAt 2 = .ok (.invokevirtual 87, 3) := by decide +kernel
theorem dX7_networkAt_5 : decode cX7_networkAt 5 = .ok (.aload_n 0, 1) := by decide +kernel
theorem dX7_networkAt_6 : decode cX7_networkAt 6 = .ok (.getfield 15, 3) := by decide +kernel
theorem dX7_networkAt_9 : decode cX7_networkAt 9 = .ok (.iload_n 1, 1) := by decide +kernel
theorem dX7_networkAt_10 : decode cX7_networkAt 10 = .ok (.aaload, 1) := by decide +kernel
theorem dX7_networkAt_11 : decode cX7_networkAt 11 = .ok (.areturn, 1) := by decide +kernel
theorem dX7_receivedAt_0 : decode cX7_receivedAt 0 = .ok (.aload_n 0, 1) := by decide +kernel
theorem dX7_receivedAt_1 : decode cX7_receivedAt 1 = .ok (.iload_n 1, 1) := by decide +kernel
theorem dX7_receivedAt_2 : decode cX7_receivedAt 2 = .ok (.invokevirtual 126, 3) := by decide +kernel
theorem dX7_receivedAt_5 : decode cX7_receivedAt 5 = .ok (.aload_n 0, 1) := by decide +kernel
theorem dX7_receivedAt_6 : decode cX7_receivedAt 6 = .ok (.getfield 9, 3) := by decide +kernel
theorem dX7_receivedAt_9 : decode cX7_receivedAt 9 = .ok (.iload_n 1, 1) := by decide +kernel
theorem dX7_receivedAt_10 : decode cX7_receivedAt 10 = .ok (.iaload, 1) := by decide +kernel
theorem dX7_receivedAt_11 : decode cX7_receivedAt 11 = .ok (.ireturn, 1) := by decide +kernel
theorem dX7_subscriberAt_0 : decode cX7_subscriberAt 0 = .ok (.iload_n 1, 1) := by decide +kernel
theorem dX7_subscriberAt_1 : decode cX7_subscriberAt 1 = .ok (.ifCond .lt 14, 3) := by decide +kernel
theorem dX7_subscriberAt_4 : decode cX7_subscriberAt 4 = .ok (.iload_n 1, 1) := by decide +kernel
theorem dX7_subscriberAt_5 : decode cX7_subscriberAt 5 = .ok (.aload_n 0, 1) := by decide +kernel
theorem dX7_subscriberAt_6 : decode cX7_subscriberAt 6 = .ok (.getfield 32, 3) := by decide +kernel
theorem dX7_subscriberAt_9 : decode cX7_subscriberAt 9 = .ok (.invokevirtual 48, 3) := by decide +kernel
theorem dX7_subscriberAt_12 : decode cX7_subscriberAt 12 = .ok (.if_icmp .lt 14, 3) := by decide +kernel
theorem dX7_subscriberAt_15 : decode cX7_subscriberAt 15 = .ok (.new 243, 3) := by decide +kernel
theorem dX7_subscriberAt_18 : decode cX7_subscriberAt 18 = .ok (.dup, 1) := by decide +kernel
theorem dX7_subscriberAt_19 : decode cX7_subscriberAt 19 = .ok (.ldc_w 283, 3) := by decide +kernel
theorem dX7_subscriberAt_22 : decode cX7_subscriberAt 22 = .ok (.invokespecial 247, 3) := by decide +kernel
theorem dX7_subscriberAt_25 : decode cX7_subscriberAt 25 = .ok (.athrow, 1) := by decide +kernel
theorem dX7_subscriberAt_26 : decode cX7_subscriberAt 26 = .ok (.aload_n 0, 1) := by decide +kernel
theorem dX7_subscriberAt_27 : decode cX7_subscriberAt 27 = .ok (.getfield 32, 3) := by decide +kernel
theorem dX7_subscriberAt_30 : decode cX7_subscriberAt 30 = .ok (.iload_n 1, 1) := by decide +kernel
theorem dX7_subscriberAt_31 : decode cX7_subscriberAt 31 = .ok (.invokevirtual 52, 3) := by decide +kernel
theorem dX7_subscriberAt_34 : decode cX7_subscriberAt 34 = .ok (.checkcast 56, 3) := by decide +kernel
theorem dX7_subscriberAt_37 : decode cX7_subscriberAt 37 = .ok (.areturn, 1) := by decide +kernel
theorem dX7_accountOf_0 : decode cX7_accountOf 0 = .ok (.aload_n 0, 1) := by decide +kernel
theorem dX7_accountOf_1 : decode cX7_accountOf 1 = .ok (.iload_n 1, 1) := by decide +kernel
theorem dX7_accountOf_2 : decode cX7_accountOf 2 = .ok (.invokevirtual 87, 3) := by decide +kernel
theorem dX7_accountOf_5 : decode cX7_accountOf 5 = .ok (.aload_n 0, 1) := by decide +kernel
theorem dX7_accountOf_6 : decode cX7_accountOf 6 = .ok (.iload_n 2, 1) := by decide +kernel
theorem dX7_accountOf_7 : decode cX7_accountOf 7 = .ok (.invokevirtual 87, 3) := by decide +kernel
theorem dX7_accountOf_10 : decode cX7_accountOf 10 = .ok (.aload_n 0, 1) := by decide +kernel
theorem dX7_accountOf_11 : decode cX7_accountOf 11 = .ok (.getfield 21, 3) := by decide +kernel
theorem dX7_accountOf_14 : decode cX7_accountOf 14 = .ok (.iload_n 1, 1) := by decide +kernel
theorem dX7_accountOf_15 : decode cX7_accountOf 15 = .ok (.bipush 6, 2) := by decide +kernel
theorem dX7_accountOf_17 : decode cX7_accountOf 17 = .ok (.imul, 1) := by decide +kernel
theorem dX7_accountOf_18 : decode cX7_accountOf 18 = .ok (.iload_n 2, 1) := by decide +kernel
theorem dX7_accountOf_19 : decode cX7_accountOf 19 = .ok (.iadd, 1) := by decide +kernel
theorem dX7_accountOf_20 : decode cX7_accountOf 20 = .ok (.aaload, 1) := by decide +kernel
theorem dX7_accountOf_21 : decode cX7_accountOf 21 = .ok (.areturn, 1) := by decide +kernel
theorem dX7_isIn_0 : decode cX7_isIn 0 = .ok (.iload_n 0, 1) := by decide +kernel
theorem dX7_isIn_1 : decode cX7_isIn 1 = .ok (.iload_n 1, 1) := by decide +kernel
theorem dX7_isIn_2 : decode cX7_isIn 2 = .ok (.ishr, 1) := by decide +kernel
theorem dX7_isIn_3 : decode cX7_isIn 3 = .ok (.iconst 1, 1) := by decide +kernel
theorem dX7_isIn_4 : decode cX7_isIn 4 = .ok (.iand, 1) := by decide +kernel
theorem dX7_isIn_5 : decode cX7_isIn 5 = .ok (.iconst 1, 1) := by decide +kernel
theorem dX7_isIn_6 : decode cX7_isIn 6 = .ok (.if_icmp .ne 7, 3) := by decide +kernel
theorem dX7_isIn_9 : decode cX7_isIn 9 = .ok (.iconst 1, 1) := by decide +kernel
theorem dX7_isIn_10 : decode cX7_isIn 10 = .ok (.goto 4, 3) := by decide +kernel
theorem dX7_isIn_13 : decode cX7_isIn 13 = .ok (.iconst 0, 1) := by decide +kernel
theorem dX7_isIn_14 : decode cX7_isIn 14 = .ok (.ireturn, 1) := by decide +kernel
theorem dX7_detachIfNotReceived_0 : decode cX7_detachIfNotReceived 0 = .ok (.aload_n 1, 1) := by decide +kernel
theorem dX7_detachIfNotReceived_1 : decode cX7_detachIfNotReceived 1 = .ok (.getfield 142, 3) := by decide +kernel
theorem dX7_detachIfNotReceived_4 : decode cX7_detachIfNotReceived 4 = .ok (.iconst (-1), 1) := by decide +kernel
theorem dX7_detachIfNotReceived_5 : decode cX7_detachIfNotReceived 5 = .ok (.if_icmp .eq 26, 3) := by decide +kernel
theorem dX7_detachIfNotReceived_8 : decode cX7_detachIfNotReceived 8 = .ok (.aload_n 0, 1) := by decide +kernel
theorem dX7_detachIfNotReceived_9 : decode cX7_detachIfNotReceived 9 = .ok (.aload_n 1, 1) := by decide +kernel
theorem dX7_detachIfNotReceived_10 : decode cX7_detachIfNotReceived 10 = .ok (.getfield 58, 3) := by decide +kernel
theorem dX7_detachIfNotReceived_13 : decode cX7_detachIfNotReceived 13 = .ok (.invokevirtual 40, 3) := by decide +kernel
theorem dX7_detachIfNotReceived_16 : decode cX7_detachIfNotReceived 16 = .ok (.aload_n 1, 1) := by decide +kernel
theorem dX7_detachIfNotReceived_17 : decode cX7_detachIfNotReceived 17 = .ok (.getfield 142, 3) := by decide +kernel
theorem dX7_detachIfNotReceived_20 : decode cX7_detachIfNotReceived 20 = .ok (.invokestatic 167, 3) := by decide +kernel
theorem dX7_detachIfNotReceived_23 : decode cX7_detachIfNotReceived 23 = .ok (.ifCond .ne 8, 3) := by decide +kernel
theorem dX7_detachIfNotReceived_26 : decode cX7_detachIfNotReceived 26 = .ok (.aload_n 1, 1) := by decide +kernel
theorem dX7_detachIfNotReceived_27 : decode cX7_detachIfNotReceived 27 = .ok (.iconst (-1), 1) := by decide +kernel
theorem dX7_detachIfNotReceived_28 : decode cX7_detachIfNotReceived 28 = .ok (.putfield 142, 3) := by decide +kernel
theorem dX7_detachIfNotReceived_31 : decode cX7_detachIfNotReceived 31 = .ok (.return_, 1) := by decide +kernel
theorem dX7_detachAllFrom_0 : decode cX7_detachAllFrom 0 = .ok (.iconst 0, 1) := by decide +kernel
theorem dX7_detachAllFrom_1 : decode cX7_detachAllFrom 1 = .ok (.istore_n 2, 1) := by decide +kernel
theorem dX7_detachAllFrom_2 : decode cX7_detachAllFrom 2 = .ok (.iload_n 2, 1) := by decide +kernel
theorem dX7_detachAllFrom_3 : decode cX7_detachAllFrom 3 = .ok (.aload_n 0, 1) := by decide +kernel
theorem dX7_detachAllFrom_4 : decode cX7_detachAllFrom 4 = .ok (.getfield 32, 3) := by decide +kernel
theorem dX7_detachAllFrom_7 : decode cX7_detachAllFrom 7 = .ok (.invokevirtual 48, 3) := by decide +kernel
theorem dX7_detachAllFrom_10 : decode cX7_detachAllFrom 10 = .ok (.if_icmp .ge 34, 3) := by decide +kernel
theorem dX7_detachAllFrom_13 : decode cX7_detachAllFrom 13 = .ok (.aload_n 0, 1) := by decide +kernel
theorem dX7_detachAllFrom_14 : decode cX7_detachAllFrom 14 = .ok (.getfield 32, 3) := by decide +kernel
theorem dX7_detachAllFrom_17 : decode cX7_detachAllFrom 17 = .ok (.iload_n 2, 1) := by decide +kernel
theorem dX7_detachAllFrom_18 : decode cX7_detachAllFrom 18 = .ok (.invokevirtual 52, 3) := by decide +kernel
theorem dX7_detachAllFrom_21 : decode cX7_detachAllFrom 21 = .ok (.checkcast 56, 3) := by decide +kernel
theorem dX7_detachAllFrom_24 : decode cX7_detachAllFrom 24 = .ok (.astore_n 3, 1) := by decide +kernel
theorem dX7_detachAllFrom_25 : decode cX7_detachAllFrom 25 = .ok (.aload_n 3, 1) := by decide +kernel
theorem dX7_detachAllFrom_26 : decode cX7_detachAllFrom 26 = .ok (.getfield 142, 3) := by decide +kernel
theorem dX7_detachAllFrom_29 : decode cX7_detachAllFrom 29 = .ok (.iload_n 1, 1) := by decide +kernel
theorem dX7_detachAllFrom_30 : decode cX7_detachAllFrom 30 = .ok (.if_icmp .ne 8, 3) := by decide +kernel
theorem dX7_detachAllFrom_33 : decode cX7_detachAllFrom 33 = .ok (.aload_n 3, 1) := by decide +kernel
theorem dX7_detachAllFrom_34 : decode cX7_detachAllFrom 34 = .ok (.iconst (-1), 1) := by decide +kernel
theorem dX7_detachAllFrom_35 : decode cX7_detachAllFrom 35 = .ok (.putfield 142, 3) := by decide +kernel
theorem dX7_detachAllFrom_38 : decode cX7_detachAllFrom 38 = .ok (.iinc 2 1, 3) := by decide +kernel
theorem dX7_detachAllFrom_41 : decode cX7_detachAllFrom 41 = .ok (.goto (-39), 3) := by decide +kernel
theorem dX7_detachAllFrom_44 : decode cX7_detachAllFrom 44 = .ok (.return_, 1) := by decide +kernel
theorem dX7_agreementNow_0 : decode cX7_agreementNow 0 = .ok (.aload_n 0, 1) := by decide +kernel
theorem dX7_agreementNow_1 : decode cX7_agreementNow 1 = .ok (.getfield 28, 3) := by decide +kernel
theorem dX7_agreementNow_4 : decode cX7_agreementNow 4 = .ok (.invokevirtual 48, 3) := by decide +kernel
theorem dX7_agreementNow_7 : decode cX7_agreementNow 7 = .ok (.iconst 1, 1) := by decide +kernel
theorem dX7_agreementNow_8 : decode cX7_agreementNow 8 = .ok (.isub, 1) := by decide +kernel
theorem dX7_agreementNow_9 : decode cX7_agreementNow 9 = .ok (.istore_n 3, 1) := by decide +kernel
theorem dX7_agreementNow_10 : decode cX7_agreementNow 10 = .ok (.iload_n 3, 1) := by decide +kernel
theorem dX7_agreementNow_11 : decode cX7_agreementNow 11 = .ok (.ifCond .lt 39, 3) := by decide +kernel
theorem dX7_agreementNow_14 : decode cX7_agreementNow 14 = .ok (.aload_n 0, 1) := by decide +kernel
theorem dX7_agreementNow_15 : decode cX7_agreementNow 15 = .ok (.getfield 28, 3) := by decide +kernel
theorem dX7_agreementNow_18 : decode cX7_agreementNow 18 = .ok (.iload_n 3, 1) := by decide +kernel
theorem dX7_agreementNow_19 : decode cX7_agreementNow 19 = .ok (.invokevirtual 52, 3) := by decide +kernel
theorem dX7_agreementNow_22 : decode cX7_agreementNow 22 = .ok (.checkcast 99, 3) := by decide +kernel
theorem dX7_agreementNow_25 : decode cX7_agreementNow 25 = .ok (.astore 4, 2) := by decide +kernel
theorem dX7_agreementNow_27 : decode cX7_agreementNow 27 = .ok (.aload 4, 2) := by decide +kernel
theorem dX7_agreementNow_29 : decode cX7_agreementNow 29 = .ok (.iload_n 1, 1) := by decide +kernel
theorem dX7_agreementNow_30 : decode cX7_agreementNow 30 = .ok (.iload_n 2, 1) := by decide +kernel
theorem dX7_agreementNow_31 : decode cX7_agreementNow 31 = .ok (.aload_n 0, 1) := by decide +kernel
theorem dX7_agreementNow_32 : decode cX7_agreementNow 32 = .ok (.getfield 160, 3) := by decide +kernel
theorem dX7_agreementNow_35 : decode cX7_agreementNow 35 = .ok (.invokevirtual 285, 3) := by decide +kernel
theorem dX7_agreementNow_38 : decode cX7_agreementNow 38 = .ok (.ifCond .eq 6, 3) := by decide +kernel
theorem dX7_agreementNow_41 : decode cX7_agreementNow 41 = .ok (.aload 4, 2) := by decide +kernel
theorem dX7_agreementNow_43 : decode cX7_agreementNow 43 = .ok (.areturn, 1) := by decide +kernel
theorem dX7_agreementNow_44 : decode cX7_agreementNow 44 = .ok (.iinc 3 (-1), 3) := by decide +kernel
theorem dX7_agreementNow_47 : decode cX7_agreementNow 47 = .ok (.goto (-37), 3) := by decide +kernel
theorem dX7_agreementNow_50 : decode cX7_agreementNow 50 = .ok (.aconst_null, 1) := by decide +kernel
theorem dX7_agreementNow_51 : decode cX7_agreementNow 51 = .ok (.areturn, 1) := by decide +kernel
theorem dX7_whyNotUsable_0 : decode cX7_whyNotUsable 0 = .ok (.aload_n 0, 1) := by decide +kernel
theorem dX7_whyNotUsable_1 : decode cX7_whyNotUsable 1 = .ok (.aload_n 1, 1) := by decide +kernel
theorem dX7_whyNotUsable_2 : decode cX7_whyNotUsable 2 = .ok (.getfield 58, 3) := by decide +kernel
theorem dX7_whyNotUsable_5 : decode cX7_whyNotUsable 5 = .ok (.invokevirtual 40, 3) := by decide +kernel
theorem dX7_whyNotUsable_8 : decode cX7_whyNotUsable 8 = .ok (.iload_n 2, 1) := by decide +kernel
theorem dX7_whyNotUsable_9 : decode cX7_whyNotUsable 9 = .ok (.invokestatic 167, 3) := by decide +kernel
theorem dX7_whyNotUsable_12 : decode cX7_whyNotUsable 12 = .ok (.ifCond .ne 5, 3) := by decide +kernel
theorem dX7_whyNotUsable_15 : decode cX7_whyNotUsable 15 = .ok (.iconst 1, 1) := by decide +kernel
theorem dX7_whyNotUsable_16 : decode cX7_whyNotUsable 16 = .ok (.ireturn, 1) := by decide +kernel
theorem dX7_whyNotUsable_17 : decode cX7_whyNotUsable 17 = .ok (.aload_n 0, 1) := by decide +kernel
theorem dX7_whyNotUsable_18 : decode cX7_whyNotUsable 18 = .ok (.iload_n 2, 1) := by decide +kernel
theorem dX7_whyNotUsable_19 : decode cX7_whyNotUsable 19 = .ok (.invokevirtual 66, 3) := by decide +kernel
theorem dX7_whyNotUsable_22 : decode cX7_whyNotUsable 22 = .ok (.getfield 70, 3) := by decide +kernel
theorem dX7_whyNotUsable_25 : decode cX7_whyNotUsable 25 = .ok (.ifCond .eq 5, 3) := by decide +kernel
theorem dX7_whyNotUsable_28 : decode cX7_whyNotUsable 28 = .ok (.iconst 2, 1) := by decide +kernel
theorem dX7_whyNotUsable_29 : decode cX7_whyNotUsable 29 = .ok (.ireturn, 1) := by decide +kernel
theorem dX7_whyNotUsable_30 : decode cX7_whyNotUsable 30 = .ok (.aload_n 1, 1) := by decide +kernel
theorem dX7_whyNotUsable_31 : decode cX7_whyNotUsable 31 = .ok (.getfield 289, 3) := by decide +kernel
theorem dX7_whyNotUsable_34 : decode cX7_whyNotUsable 34 = .ok (.iload_n 2, 1) := by decide +kernel
theorem dX7_whyNotUsable_35 : decode cX7_whyNotUsable 35 = .ok (.invokestatic 167, 3) := by decide +kernel
theorem dX7_whyNotUsable_38 : decode cX7_whyNotUsable 38 = .ok (.ifCond .eq 5, 3) := by decide +kernel
theorem dX7_whyNotUsable_41 : decode cX7_whyNotUsable 41 = .ok (.iconst 3, 1) := by decide +kernel
theorem dX7_whyNotUsable_42 : decode cX7_whyNotUsable 42 = .ok (.ireturn, 1) := by decide +kernel
theorem dX7_whyNotUsable_43 : decode cX7_whyNotUsable 43 = .ok (.iload_n 2, 1) := by decide +kernel
theorem dX7_whyNotUsable_44 : decode cX7_whyNotUsable 44 = .ok (.aload_n 1, 1) := by decide +kernel
theorem dX7_whyNotUsable_45 : decode cX7_whyNotUsable 45 = .ok (.getfield 292, 3) := by decide +kernel
theorem dX7_whyNotUsable_48 : decode cX7_whyNotUsable 48 = .ok (.if_icmp .eq 17, 3) := by decide +kernel
theorem dX7_whyNotUsable_51 : decode cX7_whyNotUsable 51 = .ok (.aload_n 0, 1) := by decide +kernel
theorem dX7_whyNotUsable_52 : decode cX7_whyNotUsable 52 = .ok (.aload_n 1, 1) := by decide +kernel
theorem dX7_whyNotUsable_53 : decode cX7_whyNotUsable 53 = .ok (.getfield 292, 3) := by decide +kernel
theorem dX7_whyNotUsable_56 : decode cX7_whyNotUsable 56 = .ok (.iload_n 2, 1) := by decide +kernel
theorem dX7_whyNotUsable_57 : decode cX7_whyNotUsable 57 = .ok (.invokevirtual 295, 3) := by decide +kernel
theorem dX7_whyNotUsable_60 : decode cX7_whyNotUsable 60 = .ok (.ifnonnull 5, 3) := by decide +kernel
theorem dX7_whyNotUsable_63 : decode cX7_whyNotUsable 63 = .ok (.iconst 4, 1) := by decide +kernel
theorem dX7_whyNotUsable_64 : decode cX7_whyNotUsable 64 = .ok (.ireturn, 1) := by decide +kernel
theorem dX7_whyNotUsable_65 : decode cX7_whyNotUsable 65 = .ok (.iconst 0, 1) := by decide +kernel
theorem dX7_whyNotUsable_66 : decode cX7_whyNotUsable 66 = .ok (.ireturn, 1) := by decide +kernel
theorem dX7_isSteered_0 : decode cX7_isSteered 0 = .ok (.aload_n 0, 1) := by decide +kernel
theorem dX7_isSteered_1 : decode cX7_isSteered 1 = .ok (.aload_n 1, 1) := by decide +kernel
theorem dX7_isSteered_2 : decode cX7_isSteered 2 = .ok (.getfield 292, 3) := by decide +kernel
theorem dX7_isSteered_5 : decode cX7_isSteered 5 = .ok (.invokevirtual 66, 3) := by decide +kernel
theorem dX7_isSteered_8 : decode cX7_isSteered 8 = .ok (.getfield 108, 3) := by decide +kernel
theorem dX7_isSteered_11 : decode cX7_isSteered 11 = .ok (.istore_n 3, 1) := by decide +kernel
theorem dX7_isSteered_12 : decode cX7_isSteered 12 = .ok (.iload_n 3, 1) := by decide +kernel
theorem dX7_isSteered_13 : decode cX7_isSteered 13 = .ok (.iconst (-1), 1) := by decide +kernel
theorem dX7_isSteered_14 : decode cX7_isSteered 14 = .ok (.if_icmp .eq 29, 3) := by decide +kernel
theorem dX7_isSteered_17 : decode cX7_isSteered 17 = .ok (.iload_n 3, 1) := by decide +kernel
theorem dX7_isSteered_18 : decode cX7_isSteered 18 = .ok (.iload_n 2, 1) := by decide +kernel
theorem dX7_isSteered_19 : decode cX7_isSteered 19 = .ok (.if_icmp .eq 24, 3) := by decide +kernel
theorem dX7_isSteered_22 : decode cX7_isSteered 22 = .ok (.aload_n 1, 1) := by decide +kernel
theorem dX7_isSteered_23 : decode cX7_isSteered 23 = .ok (.getfield 139, 3) := by decide +kernel
theorem dX7_isSteered_26 : decode cX7_isSteered 26 = .ok (.iconst 2, 1) := by decide +kernel
theorem dX7_isSteered_27 : decode cX7_isSteered 27 = .ok (.if_icmp .ge 16, 3) := by decide +kernel
theorem dX7_isSteered_30 : decode cX7_isSteered 30 = .ok (.aload_n 0, 1) := by decide +kernel
theorem dX7_isSteered_31 : decode cX7_isSteered 31 = .ok (.aload_n 1, 1) := by decide +kernel
theorem dX7_isSteered_32 : decode cX7_isSteered 32 = .ok (.iload_n 3, 1) := by decide +kernel
theorem dX7_isSteered_33 : decode cX7_isSteered 33 = .ok (.invokevirtual 152, 3) := by decide +kernel
theorem dX7_isSteered_36 : decode cX7_isSteered 36 = .ok (.ifCond .ne 7, 3) := by decide +kernel
theorem dX7_isSteered_39 : decode cX7_isSteered 39 = .ok (.iconst 1, 1) := by decide +kernel
theorem dX7_isSteered_40 : decode cX7_isSteered 40 = .ok (.goto 4, 3) := by decide +kernel
theorem dX7_isSteered_43 : decode cX7_isSteered 43 = .ok (.iconst 0, 1) := by decide +kernel
theorem dX7_isSteered_44 : decode cX7_isSteered 44 = .ok (.ireturn, 1) := by decide +kernel
theorem dX7_makeContact_0 : decode cX7_makeContact 0 = .ok (.aload_n 0, 1) := by decide +kernel
theorem dX7_makeContact_1 : decode cX7_makeContact 1 = .ok (.aload_n 1, 1) := by decide +kernel
theorem dX7_makeContact_2 : decode cX7_makeContact 2 = .ok (.getfield 142, 3) := by decide +kernel
theorem dX7_makeContact_5 : decode cX7_makeContact 5 = .ok (.invokevirtual 66, 3) := by decide +kernel
theorem dX7_makeContact_8 : decode cX7_makeContact 8 = .ok (.astore_n 3, 1) := by decide +kernel
theorem dX7_makeContact_9 : decode cX7_makeContact 9 = .ok (.aload_n 3, 1) := by decide +kernel
theorem dX7_makeContact_10 : decode cX7_makeContact 10 = .ok (.getfield 74, 3) := by decide +kernel
theorem dX7_makeContact_13 : decode cX7_makeContact 13 = .ok (.aload_n 1, 1) := by decide +kernel
theorem dX7_makeContact_14 : decode cX7_makeContact 14 = .ok (.getfield 132, 3) := by decide +kernel
theorem dX7_makeContact_17 : decode cX7_makeContact 17 = .ok (.iload_n 2, 1) := by decide +kernel
theorem dX7_makeContact_18 : decode cX7_makeContact 18 = .ok (.invokevirtual 299, 3) := by decide +kernel
theorem dX7_makeContact_21 : decode cX7_makeContact 21 = .ok (.aload_n 3, 1) := by decide +kernel
theorem dX7_makeContact_22 : decode cX7_makeContact 22 = .ok (.getfield 120, 3) := by decide +kernel
theorem dX7_makeContact_25 : decode cX7_makeContact 25 = .ok (.ifCond .le 14, 3) := by decide +kernel
theorem dX7_makeContact_28 : decode cX7_makeContact 28 = .ok (.aload_n 3, 1) := by decide +kernel
theorem dX7_makeContact_29 : decode cX7_makeContact 29 = .ok (.dup, 1) := by decide +kernel
theorem dX7_makeContact_30 : decode cX7_makeContact 30 = .ok (.getfield 120, 3) := by decide +kernel
theorem dX7_makeContact_33 : decode cX7_makeContact 33 = .ok (.iconst 1, 1) := by decide +kernel
theorem dX7_makeContact_34 : decode cX7_makeContact 34 = .ok (.isub, 1) := by decide +kernel
theorem dX7_makeContact_35 : decode cX7_makeContact 35 = .ok (.putfield 120, 3) := by decide +kernel
theorem dX7_makeContact_38 : decode cX7_makeContact 38 = .ok (.return_, 1) := by decide +kernel
theorem dX7_makeContact_39 : decode cX7_makeContact 39 = .ok (.aload_n 1, 1) := by decide +kernel
theorem dX7_makeContact_40 : decode cX7_makeContact 40 = .ok (.getfield 171, 3) := by decide +kernel
theorem dX7_makeContact_43 : decode cX7_makeContact 43 = .ok (.iconst (-1), 1) := by decide +kernel
theorem dX7_makeContact_44 : decode cX7_makeContact 44 = .ok (.if_icmp .eq 32, 3) := by decide +kernel
theorem dX7_makeContact_47 : decode cX7_makeContact 47 = .ok (.aload_n 1, 1) := by decide +kernel
theorem dX7_makeContact_48 : decode cX7_makeContact 48 = .ok (.getfield 171, 3) := by decide +kernel
theorem dX7_makeContact_51 : decode cX7_makeContact 51 = .ok (.aload_n 1, 1) := by decide +kernel
theorem dX7_makeContact_52 : decode cX7_makeContact 52 = .ok (.getfield 142, 3) := by decide +kernel
theorem dX7_makeContact_55 : decode cX7_makeContact 55 = .ok (.if_icmp .eq 21, 3) := by decide +kernel
theorem dX7_makeContact_58 : decode cX7_makeContact 58 = .ok (.aload_n 0, 1) := by decide +kernel
theorem dX7_makeContact_59 : decode cX7_makeContact 59 = .ok (.aload_n 1, 1) := by decide +kernel
theorem dX7_makeContact_60 : decode cX7_makeContact 60 = .ok (.getfield 171, 3) := by decide +kernel
theorem dX7_makeContact_63 : decode cX7_makeContact 63 = .ok (.invokevirtual 66, 3) := by decide +kernel
theorem dX7_makeContact_66 : decode cX7_makeContact 66 = .ok (.getfield 74, 3) := by decide +kernel
theorem dX7_makeContact_69 : decode cX7_makeContact 69 = .ok (.aload_n 1, 1) := by decide +kernel
theorem dX7_makeContact_70 : decode cX7_makeContact 70 = .ok (.getfield 132, 3) := by decide +kernel
theorem dX7_makeContact_73 : decode cX7_makeContact 73 = .ok (.invokevirtual 302, 3) := by decide +kernel
theorem dX7_makeContact_76 : decode cX7_makeContact 76 = .ok (.aload_n 1, 1) := by decide +kernel
theorem dX7_makeContact_77 : decode cX7_makeContact 77 = .ok (.aload_n 1, 1) := by decide +kernel
theorem dX7_makeContact_78 : decode cX7_makeContact 78 = .ok (.getfield 142, 3) := by decide +kernel
theorem dX7_makeContact_81 : decode cX7_makeContact 81 = .ok (.putfield 171, 3) := by decide +kernel
theorem dX7_makeContact_84 : decode cX7_makeContact 84 = .ok (.return_, 1) := by decide +kernel
theorem dX7_beginHours_0 : decode cX7_beginHours 0 = .ok (.iload_n 2, 1) := by decide +kernel
theorem dX7_beginHours_1 : decode cX7_beginHours 1 = .ok (.iload_n 1, 1) := by decide +kernel
theorem dX7_beginHours_2 : decode cX7_beginHours 2 = .ok (.bipush 12, 2) := by decide +kernel
theorem dX7_beginHours_4 : decode cX7_beginHours 4 = .ok (.iadd, 1) := by decide +kernel
theorem dX7_beginHours_5 : decode cX7_beginHours 5 = .ok (.iconst 1, 1) := by decide +kernel
theorem dX7_beginHours_6 : decode cX7_beginHours 6 = .ok (.isub, 1) := by decide +kernel
theorem dX7_beginHours_7 : decode cX7_beginHours 7 = .ok (.invokestatic 305, 3) := by decide +kernel
theorem dX7_beginHours_10 : decode cX7_beginHours 10 = .ok (.istore_n 3, 1) := by decide +kernel
theorem dX7_beginHours_11 : decode cX7_beginHours 11 = .ok (.iload_n 1, 1) := by decide +kernel
theorem dX7_beginHours_12 : decode cX7_beginHours 12 = .ok (.istore 4, 2) := by decide +kernel
theorem dX7_beginHours_14 : decode cX7_beginHours 14 = .ok (.iload 4, 2) := by decide +kernel
theorem dX7_beginHours_16 : decode cX7_beginHours 16 = .ok (.iload_n 3, 1) := by decide +kernel
theorem dX7_beginHours_17 : decode cX7_beginHours 17 = .ok (.if_icmp .gt 18, 3) := by decide +kernel
theorem dX7_beginHours_20 : decode cX7_beginHours 20 = .ok (.aload_n 0, 1) := by decide +kernel
theorem dX7_beginHours_21 : decode cX7_beginHours 21 = .ok (.iload 4, 2) := by decide +kernel
theorem dX7_beginHours_23 : decode cX7_beginHours 23 = .ok (.bipush 60, 2) := by decide +kernel
theorem dX7_beginHours_25 : decode cX7_beginHours 25 = .ok (.imul, 1) := by decide +kernel
theorem dX7_beginHours_26 : decode cX7_beginHours 26 = .ok (.invokevirtual 311, 3) := by decide +kernel
theorem dX7_beginHours_29 : decode cX7_beginHours 29 = .ok (.iinc 4 1, 3) := by decide +kernel
theorem dX7_beginHours_32 : decode cX7_beginHours 32 = .ok (.goto (-18), 3) := by decide +kernel
theorem dX7_beginHours_35 : decode cX7_beginHours 35 = .ok (.iload_n 3, 1) := by decide +kernel
theorem dX7_beginHours_36 : decode cX7_beginHours 36 = .ok (.iload_n 2, 1) := by decide +kernel
theorem dX7_beginHours_37 : decode cX7_beginHours 37 = .ok (.if_icmp .ge 11, 3) := by decide +kernel
theorem dX7_beginHours_40 : decode cX7_beginHours 40 = .ok (.aload_n 0, 1) := by decide +kernel
theorem dX7_beginHours_41 : decode cX7_beginHours 41 = .ok (.iload_n 2, 1) := by decide +kernel
theorem dX7_beginHours_42 : decode cX7_beginHours 42 = .ok (.bipush 60, 2) := by decide +kernel
theorem dX7_beginHours_44 : decode cX7_beginHours 44 = .ok (.imul, 1) := by decide +kernel
theorem dX7_beginHours_45 : decode cX7_beginHours 45 = .ok (.invokevirtual 311, 3) := by decide +kernel
theorem dX7_beginHours_48 : decode cX7_beginHours 48 = .ok (.return_, 1) := by decide +kernel
theorem dX7_beginHour_0 : decode cX7_beginHour 0 = .ok (.iconst 0, 1) := by decide +kernel
theorem dX7_beginHour_1 : decode cX7_beginHour 1 = .ok (.istore_n 2, 1) := by decide +kernel
theorem dX7_beginHour_2 : decode cX7_beginHour 2 = .ok (.iload_n 2, 1) := by decide +kernel
theorem dX7_beginHour_3 : decode cX7_beginHour 3 = .ok (.aload_n 0, 1) := by decide +kernel
theorem dX7_beginHour_4 : decode cX7_beginHour 4 = .ok (.getfield 32, 3) := by decide +kernel
theorem dX7_beginHour_7 : decode cX7_beginHour 7 = .ok (.invokevirtual 48, 3) := by decide +kernel
theorem dX7_beginHour_10 : decode cX7_beginHour 10 = .ok (.if_icmp .ge 35, 3) := by decide +kernel
theorem dX7_beginHour_13 : decode cX7_beginHour 13 = .ok (.aload_n 0, 1) := by decide +kernel
theorem dX7_beginHour_14 : decode cX7_beginHour 14 = .ok (.getfield 32, 3) := by decide +kernel
theorem dX7_beginHour_17 : decode cX7_beginHour 17 = .ok (.iload_n 2, 1) := by decide +kernel
theorem dX7_beginHour_18 : decode cX7_beginHour 18 = .ok (.invokevirtual 52, 3) := by decide +kernel
theorem dX7_beginHour_21 : decode cX7_beginHour 21 = .ok (.checkcast 56, 3) := by decide +kernel
theorem dX7_beginHour_24 : decode cX7_beginHour 24 = .ok (.astore_n 3, 1) := by decide +kernel
theorem dX7_beginHour_25 : decode cX7_beginHour 25 = .ok (.aload_n 3, 1) := by decide +kernel
theorem dX7_beginHour_26 : decode cX7_beginHour 26 = .ok (.getfield 142, 3) := by decide +kernel
theorem dX7_beginHour_29 : decode cX7_beginHour 29 = .ok (.iconst (-1), 1) := by decide +kernel
theorem dX7_beginHour_30 : decode cX7_beginHour 30 = .ok (.if_icmp .eq 9, 3) := by decide +kernel
theorem dX7_beginHour_33 : decode cX7_beginHour 33 = .ok (.aload_n 0, 1) := by decide +kernel
theorem dX7_beginHour_34 : decode cX7_beginHour 34 = .ok (.aload_n 3, 1) := by decide +kernel
theorem dX7_beginHour_35 : decode cX7_beginHour 35 = .ok (.iload_n 1, 1) := by decide +kernel
theorem dX7_beginHour_36 : decode cX7_beginHour 36 = .ok (.invokevirtual 163, 3) := by decide +kernel
theorem dX7_beginHour_39 : decode cX7_beginHour 39 = .ok (.iinc 2 1, 3) := by decide +kernel
theorem dX7_beginHour_42 : decode cX7_beginHour 42 = .ok (.goto (-40), 3) := by decide +kernel
theorem dX7_beginHour_45 : decode cX7_beginHour 45 = .ok (.iconst 0, 1) := by decide +kernel
theorem dX7_beginHour_46 : decode cX7_beginHour 46 = .ok (.istore_n 2, 1) := by decide +kernel
theorem dX7_beginHour_47 : decode cX7_beginHour 47 = .ok (.iload_n 2, 1) := by decide +kernel
theorem dX7_beginHour_48 : decode cX7_beginHour 48 = .ok (.aload_n 0, 1) := by decide +kernel
theorem dX7_beginHour_49 : decode cX7_beginHour 49 = .ok (.getfield 15, 3) := by decide +kernel
theorem dX7_beginHour_52 : decode cX7_beginHour 52 = .ok (.arraylength, 1) := by decide +kernel
theorem dX7_beginHour_53 : decode cX7_beginHour 53 = .ok (.if_icmp .ge 26, 3) := by decide +kernel
theorem dX7_beginHour_56 : decode cX7_beginHour 56 = .ok (.aload_n 0, 1) := by decide +kernel
theorem dX7_beginHour_57 : decode cX7_beginHour 57 = .ok (.getfield 15, 3) := by decide +kernel
theorem dX7_beginHour_60 : decode cX7_beginHour 60 = .ok (.iload_n 2, 1) := by decide +kernel
theorem dX7_beginHour_61 : decode cX7_beginHour 61 = .ok (.aaload, 1) := by decide +kernel
theorem dX7_beginHour_62 : decode cX7_beginHour 62 = .ok (.getfield 74, 3) := by decide +kernel
theorem dX7_beginHour_65 : decode cX7_beginHour 65 = .ok (.iload_n 1, 1) := by decide +kernel
theorem dX7_beginHour_66 : decode cX7_beginHour 66 = .ok (.sipush 180, 3) := by decide +kernel
theorem dX7_beginHour_69 : decode cX7_beginHour 69 = .ok (.isub, 1) := by decide +kernel
theorem dX7_beginHour_70 : decode cX7_beginHour 70 = .ok (.invokevirtual 314, 3) := by decide +kernel
theorem dX7_beginHour_73 : decode cX7_beginHour 73 = .ok (.iinc 2 1, 3) := by decide +kernel
theorem dX7_beginHour_76 : decode cX7_beginHour 76 = .ok (.goto (-29), 3) := by decide +kernel
theorem dX7_beginHour_79 : decode cX7_beginHour 79 = .ok (.return_, 1) := by decide +kernel
theorem dX7_beginMonth_0 : decode cX7_beginMonth 0 = .ok (.iconst 0, 1) := by decide +kernel
theorem dX7_beginMonth_1 : decode cX7_beginMonth 1 = .ok (.istore_n 1, 1) := by decide +kernel
theorem dX7_beginMonth_2 : decode cX7_beginMonth 2 = .ok (.iload_n 1, 1) := by decide +kernel
theorem dX7_beginMonth_3 : decode cX7_beginMonth 3 = .ok (.aload_n 0, 1) := by decide +kernel
theorem dX7_beginMonth_4 : decode cX7_beginMonth 4 = .ok (.getfield 32, 3) := by decide +kernel
theorem dX7_beginMonth_7 : decode cX7_beginMonth 7 = .ok (.invokevirtual 48, 3) := by decide +kernel
theorem dX7_beginMonth_10 : decode cX7_beginMonth 10 = .ok (.if_icmp .ge 24, 3) := by decide +kernel
theorem dX7_beginMonth_13 : decode cX7_beginMonth 13 = .ok (.aload_n 0, 1) := by decide +kernel
theorem dX7_beginMonth_14 : decode cX7_beginMonth 14 = .ok (.getfield 32, 3) := by decide +kernel
theorem dX7_beginMonth_17 : decode cX7_beginMonth 17 = .ok (.iload_n 1, 1) := by decide +kernel
theorem dX7_beginMonth_18 : decode cX7_beginMonth 18 = .ok (.invokevirtual 52, 3) := by decide +kernel
theorem dX7_beginMonth_21 : decode cX7_beginMonth 21 = .ok (.checkcast 56, 3) := by decide +kernel
theorem dX7_beginMonth_24 : decode cX7_beginMonth 24 = .ok (.iconst 0, 1) := by decide +kernel
theorem dX7_beginMonth_25 : decode cX7_beginMonth 25 = .ok (.putfield 184, 3) := by decide +kernel
theorem dX7_beginMonth_28 : decode cX7_beginMonth 28 = .ok (.iinc 1 1, 3) := by decide +kernel
theorem dX7_beginMonth_31 : decode cX7_beginMonth 31 = .ok (.goto (-29), 3) := by decide +kernel
theorem dX7_beginMonth_34 : decode cX7_beginMonth 34 = .ok (.return_, 1) := by decide +kernel
theorem dX7_whyNotFound_0 : decode cX7_whyNotFound 0 = .ok (.aload_n 1, 1) := by decide +kernel
theorem dX7_whyNotFound_1 : decode cX7_whyNotFound 1 = .ok (.getfield 142, 3) := by decide +kernel
theorem dX7_whyNotFound_4 : decode cX7_whyNotFound 4 = .ok (.iconst (-1), 1) := by decide +kernel
theorem dX7_whyNotFound_5 : decode cX7_whyNotFound 5 = .ok (.if_icmp .ne 5, 3) := by decide +kernel
theorem dX7_whyNotFound_8 : decode cX7_whyNotFound 8 = .ok (.iconst 1, 1) := by decide +kernel
theorem dX7_whyNotFound_9 : decode cX7_whyNotFound 9 = .ok (.ireturn, 1) := by decide +kernel
theorem dX7_whyNotFound_10 : decode cX7_whyNotFound 10 = .ok (.aload_n 2, 1) := by decide +kernel
theorem dX7_whyNotFound_11 : decode cX7_whyNotFound 11 = .ok (.getfield 171, 3) := by decide +kernel
theorem dX7_whyNotFound_14 : decode cX7_whyNotFound 14 = .ok (.iconst (-1), 1) := by decide +kernel
theorem dX7_whyNotFound_15 : decode cX7_whyNotFound 15 = .ok (.if_icmp .ne 5, 3) := by decide +kernel
theorem dX7_whyNotFound_18 : decode cX7_whyNotFound 18 = .ok (.iconst 2, 1) := by decide +kernel
theorem dX7_whyNotFound_19 : decode cX7_whyNotFound 19 = .ok (.ireturn, 1) := by decide +kernel
theorem dX7_whyNotFound_20 : decode cX7_whyNotFound 20 = .ok (.aload_n 0, 1) := by decide +kernel
theorem dX7_whyNotFound_21 : decode cX7_whyNotFound 21 = .ok (.aload_n 2, 1) := by decide +kernel
theorem dX7_whyNotFound_22 : decode cX7_whyNotFound 22 = .ok (.getfield 171, 3) := by decide +kernel
theorem dX7_whyNotFound_25 : decode cX7_whyNotFound 25 = .ok (.invokevirtual 66, 3) := by decide +kernel
theorem dX7_whyNotFound_28 : decode cX7_whyNotFound 28 = .ok (.getfield 74, 3) := by decide +kernel
theorem dX7_whyNotFound_31 : decode cX7_whyNotFound 31 = .ok (.aload_n 2, 1) := by decide +kernel
theorem dX7_whyNotFound_32 : decode cX7_whyNotFound 32 = .ok (.getfield 132, 3) := by decide +kernel
theorem dX7_whyNotFound_35 : decode cX7_whyNotFound 35 = .ok (.invokevirtual 177, 3) := by decide +kernel
theorem dX7_whyNotFound_38 : decode cX7_whyNotFound 38 = .ok (.ifCond .ne 5, 3) := by decide +kernel
theorem dX7_whyNotFound_41 : decode cX7_whyNotFound 41 = .ok (.iconst 3, 1) := by decide +kernel
theorem dX7_whyNotFound_42 : decode cX7_whyNotFound 42 = .ok (.ireturn, 1) := by decide +kernel
theorem dX7_whyNotFound_43 : decode cX7_whyNotFound 43 = .ok (.aload_n 2, 1) := by decide +kernel
theorem dX7_whyNotFound_44 : decode cX7_whyNotFound 44 = .ok (.getfield 142, 3) := by decide +kernel
theorem dX7_whyNotFound_47 : decode cX7_whyNotFound 47 = .ok (.aload_n 2, 1) := by decide +kernel
theorem dX7_whyNotFound_48 : decode cX7_whyNotFound 48 = .ok (.getfield 171, 3) := by decide +kernel
theorem dX7_whyNotFound_51 : decode cX7_whyNotFound 51 = .ok (.if_icmp .ne 7, 3) := by decide +kernel
theorem dX7_whyNotFound_54 : decode cX7_whyNotFound 54 = .ok (.iconst 0, 1) := by decide +kernel
theorem dX7_whyNotFound_55 : decode cX7_whyNotFound 55 = .ok (.goto 4, 3) := by decide +kernel
theorem dX7_whyNotFound_58 : decode cX7_whyNotFound 58 = .ok (.iconst 4, 1) := by decide +kernel
theorem dX7_whyNotFound_59 : decode cX7_whyNotFound 59 = .ok (.ireturn, 1) := by decide +kernel
theorem dX7_priceOfCalling_0 : decode cX7_priceOfCalling 0 = .ok (.aload_n 0, 1) := by decide +kernel
theorem dX7_priceOfCalling_1 : decode cX7_priceOfCalling 1 = .ok (.aload_n 1, 1) := by decide +kernel
theorem dX7_priceOfCalling_2 : decode cX7_priceOfCalling 2 = .ok (.getfield 292, 3) := by decide +kernel
theorem dX7_priceOfCalling_5 : decode cX7_priceOfCalling 5 = .ok (.invokevirtual 66, 3) := by decide +kernel
theorem dX7_priceOfCalling_8 : decode cX7_priceOfCalling 8 = .ok (.astore_n 2, 1) := by decide +kernel
theorem dX7_priceOfCalling_9 : decode cX7_priceOfCalling 9 = .ok (.aload_n 1, 1) := by decide +kernel
theorem dX7_priceOfCalling_10 : decode cX7_priceOfCalling 10 = .ok (.invokevirtual 317, 3) := by decide +kernel
theorem dX7_priceOfCalling_13 : decode cX7_priceOfCalling 13 = .ok (.ifCond .eq 10, 3) := by decide +kernel
theorem dX7_priceOfCalling_16 : decode cX7_priceOfCalling 16 = .ok (.aload_n 2, 1) := by decide +kernel
theorem dX7_priceOfCalling_17 : decode cX7_priceOfCalling 17 = .ok (.getfield 114, 3) := by decide +kernel
theorem dX7_priceOfCalling_20 : decode cX7_priceOfCalling 20 = .ok (.goto 7, 3) := by decide +kernel
theorem dX7_priceOfCalling_23 : decode cX7_priceOfCalling 23 = .ok (.aload_n 2, 1) := by decide +kernel
theorem dX7_priceOfCalling_24 : decode cX7_priceOfCalling 24 = .ok (.getfield 111, 3) := by decide +kernel
theorem dX7_priceOfCalling_27 : decode cX7_priceOfCalling 27 = .ok (.ireturn, 1) := by decide +kernel
theorem dX7_priceOfBeingCalled_0 : decode cX7_priceOfBeingCalled 0 = .ok (.aload_n 1, 1) := by decide +kernel
theorem dX7_priceOfBeingCalled_1 : decode cX7_priceOfBeingCalled 1 = .ok (.invokevirtual 317, 3) := by decide +kernel
theorem dX7_priceOfBeingCalled_4 : decode cX7_priceOfBeingCalled 4 = .ok (.ifCond .eq 17, 3) := by decide +kernel
theorem dX7_priceOfBeingCalled_7 : decode cX7_priceOfBeingCalled 7 = .ok (.aload_n 0, 1) := by decide +kernel
theorem dX7_priceOfBeingCalled_8 : decode cX7_priceOfBeingCalled 8 = .ok (.aload_n 1, 1) := by decide +kernel
theorem dX7_priceOfBeingCalled_9 : decode cX7_priceOfBeingCalled 9 = .ok (.getfield 292, 3) := by decide +kernel
theorem dX7_priceOfBeingCalled_12 : decode cX7_priceOfBeingCalled 12 = .ok (.invokevirtual 66, 3) := by decide +kernel
theorem dX7_priceOfBeingCalled_15 : decode cX7_priceOfBeingCalled 15 = .ok (.getfield 117, 3) := by decide +kernel
theorem dX7_priceOfBeingCalled_18 : decode cX7_priceOfBeingCalled 18 = .ok (.goto 4, 3) := by decide +kernel
theorem dX7_priceOfBeingCalled_21 : decode cX7_priceOfBeingCalled 21 = .ok (.iconst 0, 1) := by decide +kernel
theorem dX7_priceOfBeingCalled_22 : decode cX7_priceOfBeingCalled 22 = .ok (.ireturn, 1) := by decide +kernel
theorem dX7_settle_0 : decode cX7_settle 0 = .ok (.aload_n 1, 1) := by decide +kernel
theorem dX7_settle_1 : decode cX7_settle 1 = .ok (.dup, 1) := by decide +kernel
theorem dX7_settle_2 : decode cX7_settle 2 = .ok (.getfield 181, 3) := by decide +kernel
theorem dX7_settle_5 : decode cX7_settle 5 = .ok (.iload_n 2, 1) := by decide +kernel
theorem dX7_settle_6 : decode cX7_settle 6 = .ok (.iadd, 1) := by decide +kernel
theorem dX7_settle_7 : decode cX7_settle 7 = .ok (.putfield 181, 3) := by decide +kernel
theorem dX7_settle_10 : decode cX7_settle 10 = .ok (.aload_n 1, 1) := by decide +kernel
theorem dX7_settle_11 : decode cX7_settle 11 = .ok (.invokevirtual 317, 3) := by decide +kernel
theorem dX7_settle_14 : decode cX7_settle 14 = .ok (.ifCond .eq 60, 3) := by decide +kernel
theorem dX7_settle_17 : decode cX7_settle 17 = .ok (.aload_n 1, 1) := by decide +kernel
theorem dX7_settle_18 : decode cX7_settle 18 = .ok (.dup, 1) := by decide +kernel
theorem dX7_settle_19 : decode cX7_settle 19 = .ok (.getfield 184, 3) := by decide +kernel
theorem dX7_settle_22 : decode cX7_settle 22 = .ok (.iload_n 2, 1) := by decide +kernel
theorem dX7_settle_23 : decode cX7_settle 23 = .ok (.iadd, 1) := by decide +kernel
theorem dX7_settle_24 : decode cX7_settle 24 = .ok (.putfield 184, 3) := by decide +kernel
theorem dX7_settle_27 : decode cX7_settle 27 = .ok (.aload_n 0, 1) := by decide +kernel
theorem dX7_settle_28 : decode cX7_settle 28 = .ok (.aload_n 1, 1) := by decide +kernel
theorem dX7_settle_29 : decode cX7_settle 29 = .ok (.getfield 292, 3) := by decide +kernel
theorem dX7_settle_32 : decode cX7_settle 32 = .ok (.aload_n 1, 1) := by decide +kernel
theorem dX7_settle_33 : decode cX7_settle 33 = .ok (.getfield 142, 3) := by decide +kernel
theorem dX7_settle_36 : decode cX7_settle 36 = .ok (.invokevirtual 295, 3) := by decide +kernel
theorem dX7_settle_39 : decode cX7_settle 39 = .ok (.astore 4, 2) := by decide +kernel
theorem dX7_settle_41 : decode cX7_settle 41 = .ok (.aload_n 0, 1) := by decide +kernel
theorem dX7_settle_42 : decode cX7_settle 42 = .ok (.aload_n 1, 1) := by decide +kernel
theorem dX7_settle_43 : decode cX7_settle 43 = .ok (.getfield 142, 3) := by decide +kernel
theorem dX7_settle_46 : decode cX7_settle 46 = .ok (.aload_n 1, 1) := by decide +kernel
theorem dX7_settle_47 : decode cX7_settle 47 = .ok (.getfield 292, 3) := by decide +kernel
theorem dX7_settle_50 : decode cX7_settle 50 = .ok (.invokevirtual 228, 3) := by decide +kernel
theorem dX7_settle_53 : decode cX7_settle 53 = .ok (.getfield 320, 3) := by decide +kernel
theorem dX7_settle_56 : decode cX7_settle 56 = .ok (.new 323, 3) := by decide +kernel
theorem dX7_settle_59 : decode cX7_settle 59 = .ok (.dup, 1) := by decide +kernel
theorem dX7_settle_60 : decode cX7_settle 60 = .ok (.iload_n 3, 1) := by decide +kernel
theorem dX7_settle_61 : decode cX7_settle 61 = .ok (.aload_n 0, 1) := by decide +kernel
theorem dX7_settle_62 : decode cX7_settle 62 = .ok (.getfield 160, 3) := by decide +kernel
theorem dX7_settle_65 : decode cX7_settle 65 = .ok (.aload 4, 2) := by decide +kernel
theorem dX7_settle_67 : decode cX7_settle 67 = .ok (.invokespecial 325, 3) := by decide +kernel
theorem dX7_settle_70 : decode cX7_settle 70 = .ok (.invokevirtual 104, 3) := by decide +kernel
theorem dX7_settle_73 : decode cX7_settle 73 = .ok (.pop, 1) := by decide +kernel
theorem dX7_settle_74 : decode cX7_settle 74 = .ok (.return_, 1) := by decide +kernel
theorem dJ9_max_7cf53_0 : decode cJ9_max_7cf53 0 = .ok (.iload_n 0, 1) := by decide +kernel
theorem dJ9_max_7cf53_1 : decode cJ9_max_7cf53 1 = .ok (.iload_n 1, 1) := by decide +kernel
theorem dJ9_max_7cf53_2 : decode cJ9_max_7cf53 2 = .ok (.if_icmp .lt 7, 3) := by decide +kernel
theorem dJ9_max_7cf53_5 : decode cJ9_max_7cf53 5 = .ok (.iload_n 0, 1) := by decide +kernel
theorem dJ9_max_7cf53_6 : decode cJ9_max_7cf53 6 = .ok (.goto 4, 3) := by decide +kernel
theorem dJ9_max_7cf53_9 : decode cJ9_max_7cf53 9 = .ok (.iload_n 1, 1) := by decide +kernel
theorem dJ9_max_7cf53_10 : decode cJ9_max_7cf53 10 = .ok (.ireturn, 1) := by decide +kernel
theorem dJ9_min_7cf53_0 : decode cJ9_min_7cf53 0 = .ok (.iload_n 0, 1) := by decide +kernel
theorem dJ9_min_7cf53_1 : decode cJ9_min_7cf53 1 = .ok (.iload_n 1, 1) := by decide +kernel
theorem dJ9_min_7cf53_2 : decode cJ9_min_7cf53 2 = .ok (.if_icmp .gt 7, 3) := by decide +kernel
theorem dJ9_min_7cf53_5 : decode cJ9_min_7cf53 5 = .ok (.iload_n 0, 1) := by decide +kernel
theorem dJ9_min_7cf53_6 : decode cJ9_min_7cf53 6 = .ok (.goto 4, 3) := by decide +kernel
theorem dJ9_min_7cf53_9 : decode cJ9_min_7cf53 9 = .ok (.iload_n 1, 1) := by decide +kernel
theorem dJ9_min_7cf53_10 : decode cJ9_min_7cf53 10 = .ok (.ireturn, 1) := by decide +kernel
theorem dJxa1e45_init_da8c8_0 : decode cJxa1e45_init_da8c8 0 = .ok (.aload_n 0, 1) := by decide +kernel
theorem dJxa1e45_init_da8c8_1 : decode cJxa1e45_init_da8c8 1 = .ok (.invokespecial 1, 3) := by decide +kernel
theorem dJxa1e45_init_da8c8_4 : decode cJxa1e45_init_da8c8 4 = .ok (.return_, 1) := by decide +kernel
theorem dJxc12de_init_da8c8_0 : decode cJxc12de_init_da8c8 0 = .ok (.aload_n 0, 1) := by decide +kernel
theorem dJxc12de_init_da8c8_1 : decode cJxc12de_init_da8c8 1 = .ok (.invokespecial 1, 3) := by decide +kernel
theorem dJxc12de_init_da8c8_4 : decode cJxc12de_init_da8c8 4 = .ok (.aload_n 0, 1) := by decide +kernel
theorem dJxc12de_init_da8c8_5 : decode cJxc12de_init_da8c8 5 = .ok (.iconst 0, 1) := by decide +kernel
theorem dJxc12de_init_da8c8_6 : decode cJxc12de_init_da8c8 6 = .ok (.putfield 7, 3) := by decide +kernel
theorem dJxc12de_init_da8c8_9 : decode cJxc12de_init_da8c8 9 = .ok (.return_, 1) := by decide +kernel
theorem dJx4a65c_init_da8c8_0 : decode cJx4a65c_init_da8c8 0 = .ok (.aload_n 0, 1) := by decide +kernel
theorem dJx4a65c_init_da8c8_1 : decode cJx4a65c_init_da8c8 1 = .ok (.invokespecial 1, 3) := by decide +kernel
theorem dJx4a65c_init_da8c8_4 : decode cJx4a65c_init_da8c8 4 = .ok (.aload_n 0, 1) := by decide +kernel
theorem dJx4a65c_init_da8c8_5 : decode cJx4a65c_init_da8c8 5 = .ok (.getstatic 39, 3) := by decide +kernel
theorem dJx4a65c_init_da8c8_8 : decode cJx4a65c_init_da8c8 8 = .ok (.putfield 9, 3) := by decide +kernel
theorem dJx4a65c_init_da8c8_11 : decode cJx4a65c_init_da8c8 11 = .ok (.return_, 1) := by decide +kernel
theorem dJx4a65c_grow_92f84_0 : decode cJx4a65c_grow_92f84 0 = .ok (.aload_n 0, 1) := by decide +kernel
theorem dJx4a65c_grow_92f84_1 : decode cJx4a65c_grow_92f84 1 = .ok (.getfield 9, 3) := by decide +kernel
theorem dJx4a65c_grow_92f84_4 : decode cJx4a65c_grow_92f84 4 = .ok (.arraylength, 1) := by decide +kernel
theorem dJx4a65c_grow_92f84_5 : decode cJx4a65c_grow_92f84 5 = .ok (.istore_n 2, 1) := by decide +kernel
theorem dJx4a65c_grow_92f84_6 : decode cJx4a65c_grow_92f84 6 = .ok (.iload_n 2, 1) := by decide +kernel
theorem dJx4a65c_grow_92f84_7 : decode cJx4a65c_grow_92f84 7 = .ok (.ifCond .gt 13, 3) := by decide +kernel
theorem dJx4a65c_grow_92f84_10 : decode cJx4a65c_grow_92f84 10 = .ok (.aload_n 0, 1) := by decide +kernel
theorem dJx4a65c_grow_92f84_11 : decode cJx4a65c_grow_92f84 11 = .ok (.getfield 9, 3) := by decide +kernel
theorem dJx4a65c_grow_92f84_14 : decode cJx4a65c_grow_92f84 14 = .ok (.getstatic 39, 3) := by decide +kernel
theorem dJx4a65c_grow_92f84_17 : decode cJx4a65c_grow_92f84 17 = .ok (.if_acmp .eq 28, 3) := by decide +kernel
theorem dJx4a65c_grow_92f84_20 : decode cJx4a65c_grow_92f84 20 = .ok (.iload_n 2, 1) := by decide +kernel
theorem dJx4a65c_grow_92f84_21 : decode cJx4a65c_grow_92f84 21 = .ok (.iload_n 1, 1) := by decide +kernel
theorem dJx4a65c_grow_92f84_22 : decode cJx4a65c_grow_92f84 22 = .ok (.iload_n 2, 1) := by decide +kernel
theorem dJx4a65c_grow_92f84_23 : decode cJx4a65c_grow_92f84 23 = .ok (.isub, 1) := by decide +kernel
theorem dJx4a65c_grow_92f84_24 : decode cJx4a65c_grow_92f84 24 = .ok (.iload_n 2, 1) := by decide +kernel
theorem dJx4a65c_grow_92f84_25 : decode cJx4a65c_grow_92f84 25 = .ok (.iconst 1, 1) := by decide +kernel
theorem dJx4a65c_grow_92f84_26 : decode cJx4a65c_grow_92f84 26 = .ok (.ishr, 1) := by decide +kernel
theorem dJx4a65c_grow_92f84_27 : decode cJx4a65c_grow_92f84 27 = .ok (.invokestatic 73, 3) := by decide +kernel
theorem dJx4a65c_grow_92f84_30 : decode cJx4a65c_grow_92f84 30 = .ok (.istore_n 3, 1) := by decide +kernel
theorem dJx4a65c_grow_92f84_31 : decode cJx4a65c_grow_92f84 31 = .ok (.aload_n 0, 1) := by decide +kernel
theorem dJx4a65c_grow_92f84_32 : decode cJx4a65c_grow_92f84 32 = .ok (.aload_n 0, 1) := by decide +kernel
theorem dJx4a65c_grow_92f84_33 : decode cJx4a65c_grow_92f84 33 = .ok (.getfield 9, 3) := by decide +kernel
theorem dJx4a65c_grow_92f84_36 : decode cJx4a65c_grow_92f84 36 = .ok (.iload_n 3, 1) := by decide +kernel
theorem dJx4a65c_grow_92f84_37 : decode cJx4a65c_grow_92f84 37 = .ok (.invokestatic 66, 3) := by decide +kernel
theorem dJx4a65c_grow_92f84_40 : decode cJx4a65c_grow_92f84 40 = .ok (.dup_x1, 1) := by decide +kernel
theorem dJx4a65c_grow_92f84_41 : decode cJx4a65c_grow_92f84 41 = .ok (.putfield 9, 3) := by decide +kernel
theorem dJx4a65c_grow_92f84_44 : decode cJx4a65c_grow_92f84 44 = .ok (.areturn, 1) := by decide +kernel
theorem dJx4a65c_grow_92f84_45 : decode cJx4a65c_grow_92f84 45 = .ok (.aload_n 0, 1) := by decide +kernel
theorem dJx4a65c_grow_92f84_46 : decode cJx4a65c_grow_92f84 46 = .ok (.bipush 10, 2) := by decide +kernel
theorem dJx4a65c_grow_92f84_48 : decode cJx4a65c_grow_92f84 48 = .ok (.iload_n 1, 1) := by decide +kernel
theorem dJx4a65c_grow_92f84_49 : decode cJx4a65c_grow_92f84 49 = .ok (.invokestatic 79, 3) := by decide +kernel
theorem dJx4a65c_grow_92f84_52 : decode cJx4a65c_grow_92f84 52 = .ok (.anewarray 7, 3) := by decide +kernel
theorem dJx4a65c_grow_92f84_55 : decode cJx4a65c_grow_92f84 55 = .ok (.dup_x1, 1) := by decide +kernel
theorem dJx4a65c_grow_92f84_56 : decode cJx4a65c_grow_92f84 56 = .ok (.putfield 9, 3) := by decide +kernel
theorem dJx4a65c_grow_92f84_59 : decode cJx4a65c_grow_92f84 59 = .ok (.areturn, 1) := by decide +kernel
theorem dJx4a65c_grow_d5877_0 : decode cJx4a65c_grow_d5877 0 = .ok (.aload_n 0, 1) := by decide +kernel
theorem dJx4a65c_grow_d5877_1 : decode cJx4a65c_grow_d5877 1 = .ok (.aload_n 0, 1) := by decide +kernel
theorem dJx4a65c_grow_d5877_2 : decode cJx4a65c_grow_d5877 2 = .ok (.getfield 48, 3) := by decide +kernel
theorem dJx4a65c_grow_d5877_5 : decode cJx4a65c_grow_d5877 5 = .ok (.iconst 1, 1) := by decide +kernel
theorem dJx4a65c_grow_d5877_6 : decode cJx4a65c_grow_d5877 6 = .ok (.iadd, 1) := by decide +kernel
theorem dJx4a65c_grow_d5877_7 : decode cJx4a65c_grow_d5877 7 = .ok (.invokevirtual 69, 3) := by decide +kernel
theorem dJx4a65c_grow_d5877_10 : decode cJx4a65c_grow_d5877 10 = .ok (.areturn, 1) := by decide +kernel
theorem dJx4a65c_size_8abf5_0 : decode cJx4a65c_size_8abf5 0 = .ok (.aload_n 0, 1) := by decide +kernel
theorem dJx4a65c_size_8abf5_1 : decode cJx4a65c_size_8abf5 1 = .ok (.getfield 48, 3) := by decide +kernel
theorem dJx4a65c_size_8abf5_4 : decode cJx4a65c_size_8abf5 4 = .ok (.ireturn, 1) := by decide +kernel
theorem dJx4a65c_elementData_915e3_0 : decode cJx4a65c_elementData_915e3 0 = .ok (.aload_n 0, 1) := by decide +kernel
theorem dJx4a65c_elementData_915e3_1 : decode cJx4a65c_elementData_915e3 1 = .ok (.getfield 9, 3) := by decide +kernel
theorem dJx4a65c_elementData_915e3_4 : decode cJx4a65c_elementData_915e3 4 = .ok (.iload_n 1, 1) := by decide +kernel
theorem dJx4a65c_elementData_915e3_5 : decode cJx4a65c_elementData_915e3 5 = .ok (.aaload, 1) := by decide +kernel
theorem dJx4a65c_elementData_915e3_6 : decode cJx4a65c_elementData_915e3 6 = .ok (.areturn, 1) := by decide +kernel
theorem dJx4a65c_get_915e3_0 : decode cJx4a65c_get_915e3 0 = .ok (.iload_n 1, 1) := by decide +kernel
theorem dJx4a65c_get_915e3_1 : decode cJx4a65c_get_915e3 1 = .ok (.aload_n 0, 1) := by decide +kernel
theorem dJx4a65c_get_915e3_2 : decode cJx4a65c_get_915e3 2 = .ok (.getfield 48, 3) := by decide +kernel
theorem dJx4a65c_get_915e3_5 : decode cJx4a65c_get_915e3 5 = .ok (.invokestatic 118, 3) := by decide +kernel
theorem dJx4a65c_get_915e3_8 : decode cJx4a65c_get_915e3 8 = .ok (.pop, 1) := by decide +kernel
theorem dJx4a65c_get_915e3_9 : decode cJx4a65c_get_915e3 9 = .ok (.aload_n 0, 1) := by decide +kernel
theorem dJx4a65c_get_915e3_10 : decode cJx4a65c_get_915e3 10 = .ok (.iload_n 1, 1) := by decide +kernel
theorem dJx4a65c_get_915e3_11 : decode cJx4a65c_get_915e3 11 = .ok (.invokevirtual 123, 3) := by decide +kernel
theorem dJx4a65c_get_915e3_14 : decode cJx4a65c_get_915e3 14 = .ok (.areturn, 1) := by decide +kernel
theorem dJx4a65c_add_72be8_0 : decode cJx4a65c_add_72be8 0 = .ok (.iload_n 3, 1) := by decide +kernel
theorem dJx4a65c_add_72be8_1 : decode cJx4a65c_add_72be8 1 = .ok (.aload_n 2, 1) := by decide +kernel
theorem dJx4a65c_add_72be8_2 : decode cJx4a65c_add_72be8 2 = .ok (.arraylength, 1) := by decide +kernel
theorem dJx4a65c_add_72be8_3 : decode cJx4a65c_add_72be8 3 = .ok (.if_icmp .ne 8, 3) := by decide +kernel
theorem dJx4a65c_add_72be8_6 : decode cJx4a65c_add_72be8 6 = .ok (.aload_n 0, 1) := by decide +kernel
theorem dJx4a65c_add_72be8_7 : decode cJx4a65c_add_72be8 7 = .ok (.invokevirtual 129, 3) := by decide +kernel
theorem dJx4a65c_add_72be8_10 : decode cJx4a65c_add_72be8 10 = .ok (.astore_n 2, 1) := by decide +kernel
theorem dJx4a65c_add_72be8_11 : decode cJx4a65c_add_72be8 11 = .ok (.aload_n 2, 1) := by decide +kernel
theorem dJx4a65c_add_72be8_12 : decode cJx4a65c_add_72be8 12 = .ok (.iload_n 3, 1) := by decide +kernel
theorem dJx4a65c_add_72be8_13 : decode cJx4a65c_add_72be8 13 = .ok (.aload_n 1, 1) := by decide +kernel
theorem dJx4a65c_add_72be8_14 : decode cJx4a65c_add_72be8 14 = .ok (.aastore, 1) := by decide +kernel
theorem dJx4a65c_add_72be8_15 : decode cJx4a65c_add_72be8 15 = .ok (.aload_n 0, 1) := by decide +kernel
theorem dJx4a65c_add_72be8_16 : decode cJx4a65c_add_72be8 16 = .ok (.iload_n 3, 1) := by decide +kernel
theorem dJx4a65c_add_72be8_17 : decode cJx4a65c_add_72be8 17 = .ok (.iconst 1, 1) := by decide +kernel
theorem dJx4a65c_add_72be8_18 : decode cJx4a65c_add_72be8 18 = .ok (.iadd, 1) := by decide +kernel
theorem dJx4a65c_add_72be8_19 : decode cJx4a65c_add_72be8 19 = .ok (.putfield 48, 3) := by decide +kernel
theorem dJx4a65c_add_72be8_22 : decode cJx4a65c_add_72be8 22 = .ok (.return_, 1) := by decide +kernel
theorem dJx4a65c_add_9ea2d_0 : decode cJx4a65c_add_9ea2d 0 = .ok (.aload_n 0, 1) := by decide +kernel
theorem dJx4a65c_add_9ea2d_1 : decode cJx4a65c_add_9ea2d 1 = .ok (.dup, 1) := by decide +kernel
theorem dJx4a65c_add_9ea2d_2 : decode cJx4a65c_add_9ea2d 2 = .ok (.getfield 63, 3) := by decide +kernel
theorem dJx4a65c_add_9ea2d_5 : decode cJx4a65c_add_9ea2d 5 = .ok (.iconst 1, 1) := by decide +kernel
theorem dJx4a65c_add_9ea2d_6 : decode cJx4a65c_add_9ea2d 6 = .ok (.iadd, 1) := by decide +kernel
theorem dJx4a65c_add_9ea2d_7 : decode cJx4a65c_add_9ea2d 7 = .ok (.putfield 63, 3) := by decide +kernel
theorem dJx4a65c_add_9ea2d_10 : decode cJx4a65c_add_9ea2d 10 = .ok (.aload_n 0, 1) := by decide +kernel
theorem dJx4a65c_add_9ea2d_11 : decode cJx4a65c_add_9ea2d 11 = .ok (.aload_n 1, 1) := by decide +kernel
theorem dJx4a65c_add_9ea2d_12 : decode cJx4a65c_add_9ea2d 12 = .ok (.aload_n 0, 1) := by decide +kernel
theorem dJx4a65c_add_9ea2d_13 : decode cJx4a65c_add_9ea2d 13 = .ok (.getfield 9, 3) := by decide +kernel
theorem dJx4a65c_add_9ea2d_16 : decode cJx4a65c_add_9ea2d 16 = .ok (.aload_n 0, 1) := by decide +kernel
theorem dJx4a65c_add_9ea2d_17 : decode cJx4a65c_add_9ea2d 17 = .ok (.getfield 48, 3) := by decide +kernel
theorem dJx4a65c_add_9ea2d_20 : decode cJx4a65c_add_9ea2d 20 = .ok (.invokevirtual 131, 3) := by decide +kernel
theorem dJx4a65c_add_9ea2d_23 : decode cJx4a65c_add_9ea2d 23 = .ok (.iconst 1, 1) := by decide +kernel
theorem dJx4a65c_add_9ea2d_24 : decode cJx4a65c_add_9ea2d 24 = .ok (.ireturn, 1) := by decide +kernel
theorem dJ7_fill_53178_0 : decode cJ7_fill_53178 0 = .ok (.iconst 0, 1) := by decide +kernel
theorem dJ7_fill_53178_1 : decode cJ7_fill_53178 1 = .ok (.istore_n 2, 1) := by decide +kernel
theorem dJ7_fill_53178_2 : decode cJ7_fill_53178 2 = .ok (.aload_n 0, 1) := by decide +kernel
theorem dJ7_fill_53178_3 : decode cJ7_fill_53178 3 = .ok (.arraylength, 1) := by decide +kernel
theorem dJ7_fill_53178_4 : decode cJ7_fill_53178 4 = .ok (.istore_n 3, 1) := by decide +kernel
theorem dJ7_fill_53178_5 : decode cJ7_fill_53178 5 = .ok (.iload_n 2, 1) := by decide +kernel
theorem dJ7_fill_53178_6 : decode cJ7_fill_53178 6 = .ok (.iload_n 3, 1) := by decide +kernel
theorem dJ7_fill_53178_7 : decode cJ7_fill_53178 7 = .ok (.if_icmp .ge 13, 3) := by decide +kernel
theorem dJ7_fill_53178_10 : decode cJ7_fill_53178 10 = .ok (.aload_n 0, 1) := by decide +kernel
theorem dJ7_fill_53178_11 : decode cJ7_fill_53178 11 = .ok (.iload_n 2, 1) := by decide +kernel
theorem dJ7_fill_53178_12 : decode cJ7_fill_53178 12 = .ok (.iload_n 1, 1) := by decide +kernel
theorem dJ7_fill_53178_13 : decode cJ7_fill_53178 13 = .ok (.iastore, 1) := by decide +kernel
theorem dJ7_fill_53178_14 : decode cJ7_fill_53178 14 = .ok (.iinc 2 1, 3) := by decide +kernel
theorem dJ7_fill_53178_17 : decode cJ7_fill_53178 17 = .ok (.goto (-12), 3) := by decide +kernel
theorem dJ7_fill_53178_20 : decode cJ7_fill_53178 20 = .ok (.return_, 1) := by decide +kernel
theorem dJ7_copyOf_1904c_0 : decode cJ7_copyOf_1904c 0 = .ok (.aload_n 0, 1) := by decide +kernel
theorem dJ7_copyOf_1904c_1 : decode cJ7_copyOf_1904c 1 = .ok (.iload_n 1, 1) := by decide +kernel
theorem dJ7_copyOf_1904c_2 : decode cJ7_copyOf_1904c 2 = .ok (.aload_n 0, 1) := by decide +kernel
theorem dJ7_copyOf_1904c_3 : decode cJ7_copyOf_1904c 3 = .ok (.invokevirtual 86, 3) := by decide +kernel
theorem dJ7_copyOf_1904c_6 : decode cJ7_copyOf_1904c 6 = .ok (.invokestatic 300, 3) := by decide +kernel
theorem dJ7_copyOf_1904c_9 : decode cJ7_copyOf_1904c 9 = .ok (.areturn, 1) := by decide +kernel
theorem dJ7_copyOf_6403c_0 : decode cJ7_copyOf_6403c 0 = .ok (.aload_n 2, 1) := by decide +kernel
theorem dJ7_copyOf_6403c_1 : decode cJ7_copyOf_6403c 1 = .ok (.ldc 110, 2) := by decide +kernel
theorem dJ7_copyOf_6403c_3 : decode cJ7_copyOf_6403c 3 = .ok (.if_acmp .ne 10, 3) := by decide +kernel
theorem dJ7_copyOf_6403c_6 : decode cJ7_copyOf_6403c 6 = .ok (.iload_n 1, 1) := by decide +kernel
theorem dJ7_copyOf_6403c_7 : decode cJ7_copyOf_6403c 7 = .ok (.anewarray 2, 3) := by decide +kernel
theorem dJ7_copyOf_6403c_10 : decode cJ7_copyOf_6403c 10 = .ok (.goto 14, 3) := by decide +kernel
theorem dJ7_copyOf_6403c_13 : decode cJ7_copyOf_6403c 13 = .ok (.aload_n 2, 1) := by decide +kernel
theorem dJ7_copyOf_6403c_14 : decode cJ7_copyOf_6403c 14 = .ok (.invokevirtual 90, 3) := by decide +kernel
theorem dJ7_copyOf_6403c_17 : decode cJ7_copyOf_6403c 17 = .ok (.iload_n 1, 1) := by decide +kernel
theorem dJ7_copyOf_6403c_18 : decode cJ7_copyOf_6403c 18 = .ok (.invokestatic 95, 3) := by decide +kernel
theorem dJ7_copyOf_6403c_21 : decode cJ7_copyOf_6403c 21 = .ok (.checkcast 110, 3) := by decide +kernel
theorem dJ7_copyOf_6403c_24 : decode cJ7_copyOf_6403c 24 = .ok (.astore_n 3, 1) := by decide +kernel
theorem dJ7_copyOf_6403c_25 : decode cJ7_copyOf_6403c 25 = .ok (.aload_n 0, 1) := by decide +kernel
theorem dJ7_copyOf_6403c_26 : decode cJ7_copyOf_6403c 26 = .ok (.iconst 0, 1) := by decide +kernel
theorem dJ7_copyOf_6403c_27 : decode cJ7_copyOf_6403c 27 = .ok (.aload_n 3, 1) := by decide +kernel
theorem dJ7_copyOf_6403c_28 : decode cJ7_copyOf_6403c 28 = .ok (.iconst 0, 1) := by decide +kernel
theorem dJ7_copyOf_6403c_29 : decode cJ7_copyOf_6403c 29 = .ok (.aload_n 0, 1) := by decide +kernel
theorem dJ7_copyOf_6403c_30 : decode cJ7_copyOf_6403c 30 = .ok (.arraylength, 1) := by decide +kernel
theorem dJ7_copyOf_6403c_31 : decode cJ7_copyOf_6403c 31 = .ok (.iload_n 1, 1) := by decide +kernel
theorem dJ7_copyOf_6403c_32 : decode cJ7_copyOf_6403c 32 = .ok (.invokestatic 304, 3) := by decide +kernel
theorem dJ7_copyOf_6403c_35 : decode cJ7_copyOf_6403c 35 = .ok (.invokestatic 150, 3) := by decide +kernel
theorem dJ7_copyOf_6403c_38 : decode cJ7_copyOf_6403c 38 = .ok (.aload_n 3, 1) := by decide +kernel
theorem dJ7_copyOf_6403c_39 : decode cJ7_copyOf_6403c 39 = .ok (.areturn, 1) := by decide +kernel
theorem dJ15_checkIndex_7cf53_0 : decode cJ15_checkIndex_7cf53 0 = .ok (.iload_n 0, 1) := by decide +kernel
theorem dJ15_checkIndex_7cf53_1 : decode cJ15_checkIndex_7cf53 1 = .ok (.iload_n 1, 1) := by decide +kernel
theorem dJ15_checkIndex_7cf53_2 : decode cJ15_checkIndex_7cf53 2 = .ok (.aconst_null, 1) := by decide +kernel
theorem dJ15_checkIndex_7cf53_3 : decode cJ15_checkIndex_7cf53 3 = .ok (.invokestatic 105, 3) := by decide +kernel
theorem dJ15_checkIndex_7cf53_6 : decode cJ15_checkIndex_7cf53 6 = .ok (.ireturn, 1) := by decide +kernel
theorem dJ8_newLength_cabcc_0 : decode cJ8_newLength_cabcc 0 = .ok (.iload_n 0, 1) := by decide +kernel
theorem dJ8_newLength_cabcc_1 : decode cJ8_newLength_cabcc 1 = .ok (.iload_n 1, 1) := by decide +kernel
theorem dJ8_newLength_cabcc_2 : decode cJ8_newLength_cabcc 2 = .ok (.iload_n 2, 1) := by decide +kernel
theorem dJ8_newLength_cabcc_3 : decode cJ8_newLength_cabcc 3 = .ok (.invokestatic 194, 3) := by decide +kernel
theorem dJ8_newLength_cabcc_6 : decode cJ8_newLength_cabcc 6 = .ok (.iadd, 1) := by decide +kernel
theorem dJ8_newLength_cabcc_7 : decode cJ8_newLength_cabcc 7 = .ok (.istore_n 3, 1) := by decide +kernel
theorem dJ8_newLength_cabcc_8 : decode cJ8_newLength_cabcc 8 = .ok (.iconst 0, 1) := by decide +kernel
theorem dJ8_newLength_cabcc_9 : decode cJ8_newLength_cabcc 9 = .ok (.iload_n 3, 1) := by decide +kernel
theorem dJ8_newLength_cabcc_10 : decode cJ8_newLength_cabcc 10 = .ok (.if_icmp .ge 11, 3) := by decide +kernel
theorem dJ8_newLength_cabcc_13 : decode cJ8_newLength_cabcc 13 = .ok (.iload_n 3, 1) := by decide +kernel
theorem dJ8_newLength_cabcc_14 : decode cJ8_newLength_cabcc 14 = .ok (.ldc 200, 2) := by decide +kernel
theorem dJ8_newLength_cabcc_16 : decode cJ8_newLength_cabcc 16 = .ok (.if_icmp .gt 5, 3) := by decide +kernel
theorem dJ8_newLength_cabcc_19 : decode cJ8_newLength_cabcc 19 = .ok (.iload_n 3, 1) := by decide +kernel
theorem dJ8_newLength_cabcc_20 : decode cJ8_newLength_cabcc 20 = .ok (.ireturn, 1) := by decide +kernel
theorem dJ8_newLength_cabcc_21 : decode cJ8_newLength_cabcc 21 = .ok (.iload_n 0, 1) := by decide +kernel
theorem dJ8_newLength_cabcc_22 : decode cJ8_newLength_cabcc 22 = .ok (.iload_n 1, 1) := by decide +kernel
theorem dJ8_newLength_cabcc_23 : decode cJ8_newLength_cabcc 23 = .ok (.invokestatic 201, 3) := by decide +kernel
theorem dJ8_newLength_cabcc_26 : decode cJ8_newLength_cabcc 26 = .ok (.ireturn, 1) := by decide +kernel
theorem dJ8_hugeLength_7cf53_0 : decode cJ8_hugeLength_7cf53 0 = .ok (.iload_n 0, 1) := by decide +kernel
theorem dJ8_hugeLength_7cf53_1 : decode cJ8_hugeLength_7cf53 1 = .ok (.iload_n 1, 1) := by decide +kernel
theorem dJ8_hugeLength_7cf53_2 : decode cJ8_hugeLength_7cf53 2 = .ok (.iadd, 1) := by decide +kernel
theorem dJ8_hugeLength_7cf53_3 : decode cJ8_hugeLength_7cf53 3 = .ok (.istore_n 2, 1) := by decide +kernel
theorem dJ8_hugeLength_7cf53_4 : decode cJ8_hugeLength_7cf53 4 = .ok (.iload_n 2, 1) := by decide +kernel
theorem dJ8_hugeLength_7cf53_5 : decode cJ8_hugeLength_7cf53 5 = .ok (.ifCond .ge 44, 3) := by decide +kernel
theorem dJ8_hugeLength_7cf53_8 : decode cJ8_hugeLength_7cf53 8 = .ok (.new 204, 3) := by decide +kernel
theorem dJ8_hugeLength_7cf53_11 : decode cJ8_hugeLength_7cf53 11 = .ok (.dup, 1) := by decide +kernel
theorem dJ8_hugeLength_7cf53_12 : decode cJ8_hugeLength_7cf53 12 = .ok (.new 89, 3) := by decide +kernel
theorem dJ8_hugeLength_7cf53_15 : decode cJ8_hugeLength_7cf53 15 = .ok (.dup, 1) := by decide +kernel
theorem dJ8_hugeLength_7cf53_16 : decode cJ8_hugeLength_7cf53 16 = .ok (.invokespecial 91, 3) := by decide +kernel
theorem dJ8_hugeLength_7cf53_19 : decode cJ8_hugeLength_7cf53 19 = .ok (.ldc 206, 2) := by decide +kernel
theorem dJ8_hugeLength_7cf53_21 : decode cJ8_hugeLength_7cf53 21 = .ok (.invokevirtual 94, 3) := by decide +kernel
theorem dJ8_hugeLength_7cf53_24 : decode cJ8_hugeLength_7cf53 24 = .ok (.iload_n 0, 1) := by decide +kernel
theorem dJ8_hugeLength_7cf53_25 : decode cJ8_hugeLength_7cf53 25 = .ok (.invokevirtual 98, 3) := by decide +kernel
theorem dJ8_hugeLength_7cf53_28 : decode cJ8_hugeLength_7cf53 28 = .ok (.ldc 208, 2) := by decide +kernel
theorem dJ8_hugeLength_7cf53_30 : decode cJ8_hugeLength_7cf53 30 = .ok (.invokevirtual 94, 3) := by decide +kernel
theorem dJ8_hugeLength_7cf53_33 : decode cJ8_hugeLength_7cf53 33 = .ok (.iload_n 1, 1) := by decide +kernel
theorem dJ8_hugeLength_7cf53_34 : decode cJ8_hugeLength_7cf53 34 = .ok (.invokevirtual 98, 3) := by decide +kernel
theorem dJ8_hugeLength_7cf53_37 : decode cJ8_hugeLength_7cf53 37 = .ok (.ldc 210, 2) := by decide +kernel
theorem dJ8_hugeLength_7cf53_39 : decode cJ8_hugeLength_7cf53 39 = .ok (.invokevirtual 94, 3) := by decide +kernel
theorem dJ8_hugeLength_7cf53_42 : decode cJ8_hugeLength_7cf53 42 = .ok (.invokevirtual 101, 3) := by decide +kernel
theorem dJ8_hugeLength_7cf53_45 : decode cJ8_hugeLength_7cf53 45 = .ok (.invokespecial 212, 3) := by decide +kernel
theorem dJ8_hugeLength_7cf53_48 : decode cJ8_hugeLength_7cf53 48 = .ok (.athrow, 1) := by decide +kernel
theorem dJ8_hugeLength_7cf53_49 : decode cJ8_hugeLength_7cf53 49 = .ok (.iload_n 2, 1) := by decide +kernel
theorem dJ8_hugeLength_7cf53_50 : decode cJ8_hugeLength_7cf53 50 = .ok (.ldc 200, 2) := by decide +kernel
theorem dJ8_hugeLength_7cf53_52 : decode cJ8_hugeLength_7cf53 52 = .ok (.if_icmp .gt 6, 3) := by decide +kernel
theorem dJ8_hugeLength_7cf53_55 : decode cJ8_hugeLength_7cf53 55 = .ok (.ldc 200, 2) := by decide +kernel
theorem dJ8_hugeLength_7cf53_57 : decode cJ8_hugeLength_7cf53 57 = .ok (.ireturn, 1) := by decide +kernel
theorem dJ8_hugeLength_7cf53_58 : decode cJ8_hugeLength_7cf53 58 = .ok (.iload_n 2, 1) := by decide +kernel
theorem dJ8_hugeLength_7cf53_59 : decode cJ8_hugeLength_7cf53 59 = .ok (.ireturn, 1) := by decide +kernel
theorem dJ3_checkIndex_8e157_0 : decode cJ3_checkIndex_8e157 0 = .ok (.iload_n 0, 1) := by decide +kernel
theorem dJ3_checkIndex_8e157_1 : decode cJ3_checkIndex_8e157 1 = .ok (.ifCond .lt 8, 3) := by decide +kernel
theorem dJ3_checkIndex_8e157_4 : decode cJ3_checkIndex_8e157 4 = .ok (.iload_n 0, 1) := by decide +kernel
theorem dJ3_checkIndex_8e157_5 : decode cJ3_checkIndex_8e157 5 = .ok (.iload_n 1, 1) := by decide +kernel
theorem dJ3_checkIndex_8e157_6 : decode cJ3_checkIndex_8e157 6 = .ok (.if_icmp .lt 10, 3) := by decide +kernel
theorem dJ3_checkIndex_8e157_9 : decode cJ3_checkIndex_8e157 9 = .ok (.aload_n 2, 1) := by decide +kernel
theorem dJ3_checkIndex_8e157_10 : decode cJ3_checkIndex_8e157 10 = .ok (.iload_n 0, 1) := by decide +kernel
theorem dJ3_checkIndex_8e157_11 : decode cJ3_checkIndex_8e157 11 = .ok (.iload_n 1, 1) := by decide +kernel
theorem dJ3_checkIndex_8e157_12 : decode cJ3_checkIndex_8e157 12 = .ok (.invokestatic 95, 3) := by decide +kernel
theorem dJ3_checkIndex_8e157_15 : decode cJ3_checkIndex_8e157 15 = .ok (.athrow, 1) := by decide +kernel
theorem dJ3_checkIndex_8e157_16 : decode cJ3_checkIndex_8e157 16 = .ok (.iload_n 0, 1) := by decide +kernel
theorem dJ3_checkIndex_8e157_17 : decode cJ3_checkIndex_8e157 17 = .ok (.ireturn, 1) := by decide +kernel
end
section
theorem dX8_init_0 : decode cX8_init 0 = .ok (.aload_n 0, 1) := by decide +kernel
theorem dX8_init_1 : decode cX8_init 1 = .ok (.invokespecial 1, 3) := by decide +kernel
theorem dX8_init_4 : decode cX8_init 4 = .ok (.aload_n 0, 1) := by decide +kernel
theorem dX8_init_5 : decode cX8_init 5 = .ok (.bipush 8, 2) := by decide +kernel
theorem dX8_init_7 : decode cX8_init 7 = .ok (.newarray .int, 2) := by decide +kernel
theorem dX8_init_9 : decode cX8_init 9 = .ok (.putfield 7, 3) := by decide +kernel
theorem dX8_init_12 : decode cX8_init 12 = .ok (.aload_n 0, 1) := by decide +kernel
theorem dX8_init_13 : decode cX8_init 13 = .ok (.bipush 6, 2) := by decide +kernel
theorem dX8_init_15 : decode cX8_init 15 = .ok (.newarray .boolean, 2) := by decide +kernel
theorem dX8_init_17 : decode cX8_init 17 = .ok (.putfield 13, 3) := by decide +kernel
theorem dX8_init_20 : decode cX8_init 20 = .ok (.aload_n 0, 1) := by decide +kernel
theorem dX8_init_21 : decode cX8_init 21 = .ok (.bipush 6, 2) := by decide +kernel
theorem dX8_init_23 : decode cX8_init 23 = .ok (.newarray .int, 2) := by decide +kernel
theorem dX8_init_25 : decode cX8_init 25 = .ok (.putfield 17, 3) := by decide +kernel
theorem dX8_init_28 : decode cX8_init 28 = .ok (.aload_n 0, 1) := by decide +kernel
theorem dX8_init_29 : decode cX8_init 29 = .ok (.bipush 18, 2) := by decide +kernel
theorem dX8_init_31 : decode cX8_init 31 = .ok (.newarray .int, 2) := by decide +kernel
theorem dX8_init_33 : decode cX8_init 33 = .ok (.putfield 20, 3) := by decide +kernel
theorem dX8_init_36 : decode cX8_init 36 = .ok (.aload_n 0, 1) := by decide +kernel
theorem dX8_init_37 : decode cX8_init 37 = .ok (.bipush 6, 2) := by decide +kernel
theorem dX8_init_39 : decode cX8_init 39 = .ok (.newarray .int, 2) := by decide +kernel
theorem dX8_init_41 : decode cX8_init 41 = .ok (.putfield 23, 3) := by decide +kernel
theorem dX8_init_44 : decode cX8_init 44 = .ok (.aload_n 0, 1) := by decide +kernel
theorem dX8_init_45 : decode cX8_init 45 = .ok (.bipush 30, 2) := by decide +kernel
theorem dX8_init_47 : decode cX8_init 47 = .ok (.newarray .int, 2) := by decide +kernel
theorem dX8_init_49 : decode cX8_init 49 = .ok (.putfield 26, 3) := by decide +kernel
theorem dX8_init_52 : decode cX8_init 52 = .ok (.aload_n 0, 1) := by decide +kernel
theorem dX8_init_53 : decode cX8_init 53 = .ok (.bipush 30, 2) := by decide +kernel
theorem dX8_init_55 : decode cX8_init 55 = .ok (.newarray .int, 2) := by decide +kernel
theorem dX8_init_57 : decode cX8_init 57 = .ok (.putfield 29, 3) := by decide +kernel
theorem dX8_init_60 : decode cX8_init 60 = .ok (.aload_n 0, 1) := by decide +kernel
theorem dX8_init_61 : decode cX8_init 61 = .ok (.bipush 30, 2) := by decide +kernel
theorem dX8_init_63 : decode cX8_init 63 = .ok (.newarray .int, 2) := by decide +kernel
theorem dX8_init_65 : decode cX8_init 65 = .ok (.putfield 32, 3) := by decide +kernel
theorem dX8_init_68 : decode cX8_init 68 = .ok (.aload_n 0, 1) := by decide +kernel
theorem dX8_init_69 : decode cX8_init 69 = .ok (.bipush 30, 2) := by decide +kernel
theorem dX8_init_71 : decode cX8_init 71 = .ok (.newarray .int, 2) := by decide +kernel
theorem dX8_init_73 : decode cX8_init 73 = .ok (.putfield 35, 3) := by decide +kernel
theorem dX8_init_76 : decode cX8_init 76 = .ok (.aload_n 0, 1) := by decide +kernel
theorem dX8_init_77 : decode cX8_init 77 = .ok (.bipush 30, 2) := by decide +kernel
theorem dX8_init_79 : decode cX8_init 79 = .ok (.newarray .int, 2) := by decide +kernel
theorem dX8_init_81 : decode cX8_init 81 = .ok (.putfield 38, 3) := by decide +kernel
theorem dX8_init_84 : decode cX8_init 84 = .ok (.aload_n 0, 1) := by decide +kernel
theorem dX8_init_85 : decode cX8_init 85 = .ok (.bipush 30, 2) := by decide +kernel
theorem dX8_init_87 : decode cX8_init 87 = .ok (.newarray .int, 2) := by decide +kernel
theorem dX8_init_89 : decode cX8_init 89 = .ok (.putfield 41, 3) := by decide +kernel
theorem dX8_init_92 : decode cX8_init 92 = .ok (.aload_n 0, 1) := by decide +kernel
theorem dX8_init_93 : decode cX8_init 93 = .ok (.bipush 30, 2) := by decide +kernel
theorem dX8_init_95 : decode cX8_init 95 = .ok (.newarray .int, 2) := by decide +kernel
theorem dX8_init_97 : decode cX8_init 97 = .ok (.putfield 44, 3) := by decide +kernel
theorem dX8_init_100 : decode cX8_init 100 = .ok (.aload_n 0, 1) := by decide +kernel
theorem dX8_init_101 : decode cX8_init 101 = .ok (.bipush 10, 2) := by decide +kernel
theorem dX8_init_103 : decode cX8_init 103 = .ok (.newarray .int, 2) := by decide +kernel
theorem dX8_init_105 : decode cX8_init 105 = .ok (.putfield 47, 3) := by decide +kernel
theorem dX8_init_108 : decode cX8_init 108 = .ok (.aload_n 0, 1) := by decide +kernel
theorem dX8_init_109 : decode cX8_init 109 = .ok (.bipush 10, 2) := by decide +kernel
theorem dX8_init_111 : decode cX8_init 111 = .ok (.newarray .int, 2) := by decide +kernel
theorem dX8_init_113 : decode cX8_init 113 = .ok (.putfield 50, 3) := by decide +kernel
theorem dX8_init_116 : decode cX8_init 116 = .ok (.aload_n 0, 1) := by decide +kernel
theorem dX8_init_117 : decode cX8_init 117 = .ok (.bipush 10, 2) := by decide +kernel
theorem dX8_init_119 : decode cX8_init 119 = .ok (.newarray .int, 2) := by decide +kernel
theorem dX8_init_121 : decode cX8_init 121 = .ok (.putfield 53, 3) := by decide +kernel
theorem dX8_init_124 : decode cX8_init 124 = .ok (.aload_n 0, 1) := by decide +kernel
theorem dX8_init_125 : decode cX8_init 125 = .ok (.bipush 10, 2) := by decide +kernel
theorem dX8_init_127 : decode cX8_init 127 = .ok (.newarray .int, 2) := by decide +kernel
theorem dX8_init_129 : decode cX8_init 129 = .ok (.putfield 56, 3) := by decide +kernel
theorem dX8_init_132 : decode cX8_init 132 = .ok (.aload_n 0, 1) := by decide +kernel
theorem dX8_init_133 : decode cX8_init 133 = .ok (.bipush 10, 2) := by decide +kernel
theorem dX8_init_135 : decode cX8_init 135 = .ok (.newarray .int, 2) := by decide +kernel
theorem dX8_init_137 : decode cX8_init 137 = .ok (.putfield 59, 3) := by decide +kernel
theorem dX8_init_140 : decode cX8_init 140 = .ok (.aload_n 0, 1) := by decide +kernel
theorem dX8_init_141 : decode cX8_init 141 = .ok (.bipush 10, 2) := by decide +kernel
theorem dX8_init_143 : decode cX8_init 143 = .ok (.newarray .int, 2) := by decide +kernel
theorem dX8_init_145 : decode cX8_init 145 = .ok (.putfield 62, 3) := by decide +kernel
theorem dX8_init_148 : decode cX8_init 148 = .ok (.aload_n 0, 1) := by decide +kernel
theorem dX8_init_149 : decode cX8_init 149 = .ok (.bipush 10, 2) := by decide +kernel
theorem dX8_init_151 : decode cX8_init 151 = .ok (.newarray .int, 2) := by decide +kernel
theorem dX8_init_153 : decode cX8_init 153 = .ok (.putfield 65, 3) := by decide +kernel
theorem dX8_init_156 : decode cX8_init 156 = .ok (.aload_n 0, 1) := by decide +kernel
theorem dX8_init_157 : decode cX8_init 157 = .ok (.bipush 10, 2) := by decide +kernel
theorem dX8_init_159 : decode cX8_init 159 = .ok (.newarray .boolean, 2) := by decide +kernel
theorem dX8_init_161 : decode cX8_init 161 = .ok (.putfield 68, 3) := by decide +kernel
theorem dX8_init_164 : decode cX8_init 164 = .ok (.aload_n 0, 1) := by decide +kernel
theorem dX8_init_165 : decode cX8_init 165 = .ok (.bipush 10, 2) := by decide +kernel
theorem dX8_init_167 : decode cX8_init 167 = .ok (.newarray .int, 2) := by decide +kernel
theorem dX8_init_169 : decode cX8_init 169 = .ok (.putfield 71, 3) := by decide +kernel
theorem dX8_init_172 : decode cX8_init 172 = .ok (.aload_n 0, 1) := by decide +kernel
theorem dX8_init_173 : decode cX8_init 173 = .ok (.bipush 10, 2) := by decide +kernel
theorem dX8_init_175 : decode cX8_init 175 = .ok (.newarray .int, 2) := by decide +kernel
theorem dX8_init_177 : decode cX8_init 177 = .ok (.putfield 74, 3) := by decide +kernel
theorem dX8_init_180 : decode cX8_init 180 = .ok (.aload_n 0, 1) := by decide +kernel
theorem dX8_init_181 : decode cX8_init 181 = .ok (.bipush 10, 2) := by decide +kernel
theorem dX8_init_183 : decode cX8_init 183 = .ok (.newarray .int, 2) := by decide +kernel
theorem dX8_init_185 : decode cX8_init 185 = .ok (.putfield 77, 3) := by decide +kernel
theorem dX8_init_188 : decode cX8_init 188 = .ok (.aload_n 0, 1) := by decide +kernel
theorem dX8_init_189 : decode cX8_init 189 = .ok (.bipush 60, 2) := by decide +kernel
theorem dX8_init_191 : decode cX8_init 191 = .ok (.newarray .int, 2) := by decide +kernel
theorem dX8_init_193 : decode cX8_init 193 = .ok (.putfield 80, 3) := by decide +kernel
theorem dX8_init_196 : decode cX8_init 196 = .ok (.aload_n 0, 1) := by decide +kernel
theorem dX8_init_197 : decode cX8_init 197 = .ok (.sipush 400, 3) := by decide +kernel
theorem dX8_init_200 : decode cX8_init 200 = .ok (.newarray .int, 2) := by decide +kernel
theorem dX8_init_202 : decode cX8_init 202 = .ok (.putfield 83, 3) := by decide +kernel
theorem dX8_init_205 : decode cX8_init 205 = .ok (.aload_n 0, 1) := by decide +kernel
theorem dX8_init_206 : decode cX8_init 206 = .ok (.sipush 400, 3) := by decide +kernel
theorem dX8_init_209 : decode cX8_init 209 = .ok (.newarray .int, 2) := by decide +kernel
theorem dX8_init_211 : decode cX8_init 211 = .ok (.putfield 86, 3) := by decide +kernel
theorem dX8_init_214 : decode cX8_init 214 = .ok (.aload_n 0, 1) := by decide +kernel
theorem dX8_init_215 : decode cX8_init 215 = .ok (.sipush 400, 3) := by decide +kernel
theorem dX8_init_218 : decode cX8_init 218 = .ok (.newarray .int, 2) := by decide +kernel
theorem dX8_init_220 : decode cX8_init 220 = .ok (.putfield 89, 3) := by decide +kernel
theorem dX8_init_223 : decode cX8_init 223 = .ok (.aload_n 0, 1) := by decide +kernel
theorem dX8_init_224 : decode cX8_init 224 = .ok (.sipush 400, 3) := by decide +kernel
theorem dX8_init_227 : decode cX8_init 227 = .ok (.newarray .int, 2) := by decide +kernel
theorem dX8_init_229 : decode cX8_init 229 = .ok (.putfield 92, 3) := by decide +kernel
theorem dX8_init_232 : decode cX8_init 232 = .ok (.aload_n 0, 1) := by decide +kernel
theorem dX8_init_233 : decode cX8_init 233 = .ok (.sipush 400, 3) := by decide +kernel
theorem dX8_init_236 : decode cX8_init 236 = .ok (.newarray .int, 2) := by decide +kernel
theorem dX8_init_238 : decode cX8_init 238 = .ok (.putfield 95, 3) := by decide +kernel
theorem dX8_init_241 : decode cX8_init 241 = .ok (.aload_n 0, 1) := by decide +kernel
theorem dX8_init_242 : decode cX8_init 242 = .ok (.sipush 400, 3) := by decide +kernel
theorem dX8_init_245 : decode cX8_init 245 = .ok (.newarray .int, 2) := by decide +kernel
theorem dX8_init_247 : decode cX8_init 247 = .ok (.putfield 98, 3) := by decide +kernel
theorem dX8_init_250 : decode cX8_init 250 = .ok (.aload_n 0, 1) := by decide +kernel
theorem dX8_init_251 : decode cX8_init 251 = .ok (.sipush 400, 3) := by decide +kernel
theorem dX8_init_254 : decode cX8_init 254 = .ok (.newarray .int, 2) := by decide +kernel
theorem dX8_init_256 : decode cX8_init 256 = .ok (.putfield 101, 3) := by decide +kernel
theorem dX8_init_259 : decode cX8_init 259 = .ok (.aload_n 0, 1) := by decide +kernel
theorem dX8_init_260 : decode cX8_init 260 = .ok (.bipush 36, 2) := by decide +kernel
theorem dX8_init_262 : decode cX8_init 262 = .ok (.newarray .int, 2) := by decide +kernel
theorem dX8_init_264 : decode cX8_init 264 = .ok (.putfield 104, 3) := by decide +kernel
theorem dX8_init_267 : decode cX8_init 267 = .ok (.aload_n 0, 1) := by decide +kernel
theorem dX8_init_268 : decode cX8_init 268 = .ok (.bipush 36, 2) := by decide +kernel
theorem dX8_init_270 : decode cX8_init 270 = .ok (.newarray .int, 2) := by decide +kernel
theorem dX8_init_272 : decode cX8_init 272 = .ok (.putfield 107, 3) := by decide +kernel
theorem dX8_init_275 : decode cX8_init 275 = .ok (.iconst 0, 1) := by decide +kernel
theorem dX8_init_276 : decode cX8_init 276 = .ok (.istore_n 1, 1) := by decide +kernel
theorem dX8_init_277 : decode cX8_init 277 = .ok (.iload_n 1, 1) := by decide +kernel
theorem dX8_init_278 : decode cX8_init 278 = .ok (.bipush 6, 2) := by decide +kernel
theorem dX8_init_280 : decode cX8_init 280 = .ok (.if_icmp .ge 52, 3) := by decide +kernel
theorem dX8_init_283 : decode cX8_init 283 = .ok (.aload_n 0, 1) := by decide +kernel
theorem dX8_init_284 : decode cX8_init 284 = .ok (.getfield 17, 3) := by decide +kernel
theorem dX8_init_287 : decode cX8_init 287 = .ok (.iload_n 1, 1) := by decide +kernel
theorem dX8_init_288 : decode cX8_init 288 = .ok (.iconst (-1), 1) := by decide +kernel
theorem dX8_init_289 : decode cX8_init 289 = .ok (.iastore, 1) := by decide +kernel
theorem dX8_init_290 : decode cX8_init 290 = .ok (.aload_n 0, 1) := by decide +kernel
theorem dX8_init_291 : decode cX8_init 291 = .ok (.getfield 20, 3) := by decide +kernel
theorem dX8_init_294 : decode cX8_init 294 = .ok (.iconst 3, 1) := by decide +kernel
theorem dX8_init_295 : decode cX8_init 295 = .ok (.iload_n 1, 1) := by decide +kernel
theorem dX8_init_296 : decode cX8_init 296 = .ok (.imul, 1) := by decide +kernel
theorem dX8_init_297 : decode cX8_init 297 = .ok (.iconst 0, 1) := by decide +kernel
theorem dX8_init_298 : decode cX8_init 298 = .ok (.iadd, 1) := by decide +kernel
theorem dX8_init_299 : decode cX8_init 299 = .ok (.bipush 10, 2) := by decide +kernel
theorem dX8_init_301 : decode cX8_init 301 = .ok (.iastore, 1) := by decide +kernel
theorem dX8_init_302 : decode cX8_init 302 = .ok (.aload_n 0, 1) := by decide +kernel
theorem dX8_init_303 : decode cX8_init 303 = .ok (.getfield 20, 3) := by decide +kernel
theorem dX8_init_306 : decode cX8_init 306 = .ok (.iconst 3, 1) := by decide +kernel
theorem dX8_init_307 : decode cX8_init 307 = .ok (.iload_n 1, 1) := by decide +kernel
theorem dX8_init_308 : decode cX8_init 308 = .ok (.imul, 1) := by decide +kernel
theorem dX8_init_309 : decode cX8_init 309 = .ok (.iconst 1, 1) := by decide +kernel
theorem dX8_init_310 : decode cX8_init 310 = .ok (.iadd, 1) := by decide +kernel
theorem dX8_init_311 : decode cX8_init 311 = .ok (.bipush 50, 2) := by decide +kernel
theorem dX8_init_313 : decode cX8_init 313 = .ok (.iastore, 1) := by decide +kernel
theorem dX8_init_314 : decode cX8_init 314 = .ok (.aload_n 0, 1) := by decide +kernel
theorem dX8_init_315 : decode cX8_init 315 = .ok (.getfield 20, 3) := by decide +kernel
theorem dX8_init_318 : decode cX8_init 318 = .ok (.iconst 3, 1) := by decide +kernel
theorem dX8_init_319 : decode cX8_init 319 = .ok (.iload_n 1, 1) := by decide +kernel
theorem dX8_init_320 : decode cX8_init 320 = .ok (.imul, 1) := by decide +kernel
theorem dX8_init_321 : decode cX8_init 321 = .ok (.iconst 2, 1) := by decide +kernel
theorem dX8_init_322 : decode cX8_init 322 = .ok (.iadd, 1) := by decide +kernel
theorem dX8_init_323 : decode cX8_init 323 = .ok (.bipush 20, 2) := by decide +kernel
theorem dX8_init_325 : decode cX8_init 325 = .ok (.iastore, 1) := by decide +kernel
theorem dX8_init_326 : decode cX8_init 326 = .ok (.iinc 1 1, 3) := by decide +kernel
theorem dX8_init_329 : decode cX8_init 329 = .ok (.goto (-52), 3) := by decide +kernel
theorem dX8_init_332 : decode cX8_init 332 = .ok (.iconst 0, 1) := by decide +kernel
theorem dX8_init_333 : decode cX8_init 333 = .ok (.istore_n 1, 1) := by decide +kernel
theorem dX8_init_334 : decode cX8_init 334 = .ok (.iload_n 1, 1) := by decide +kernel
theorem dX8_init_335 : decode cX8_init 335 = .ok (.bipush 60, 2) := by decide +kernel
theorem dX8_init_337 : decode cX8_init 337 = .ok (.if_icmp .ge 16, 3) := by decide +kernel
theorem dX8_init_340 : decode cX8_init 340 = .ok (.aload_n 0, 1) := by decide +kernel
theorem dX8_init_341 : decode cX8_init 341 = .ok (.getfield 80, 3) := by decide +kernel
theorem dX8_init_344 : decode cX8_init 344 = .ok (.iload_n 1, 1) := by decide +kernel
theorem dX8_init_345 : decode cX8_init 345 = .ok (.iconst (-1), 1) := by decide +kernel
theorem dX8_init_346 : decode cX8_init 346 = .ok (.iastore, 1) := by decide +kernel
theorem dX8_init_347 : decode cX8_init 347 = .ok (.iinc 1 1, 3) := by decide +kernel
theorem dX8_init_350 : decode cX8_init 350 = .ok (.goto (-16), 3) := by decide +kernel
theorem dX8_init_353 : decode cX8_init 353 = .ok (.return_, 1) := by decide +kernel
theorem dX8_thrown_0 : decode cX8_thrown 0 = .ok (.aload_n 0, 1) := by decide +kernel
theorem dX8_thrown_1 : decode cX8_thrown 1 = .ok (.getfield 110, 3) := by decide +kernel
theorem dX8_thrown_4 : decode cX8_thrown 4 = .ok (.ireturn, 1) := by decide +kernel
theorem dX8_in_0 : decode cX8_in 0 = .ok (.iload_n 0, 1) := by decide +kernel
theorem dX8_in_1 : decode cX8_in 1 = .ok (.iload_n 1, 1) := by decide +kernel
theorem dX8_in_2 : decode cX8_in 2 = .ok (.if_icmp .lt 12, 3) := by decide +kernel
theorem dX8_in_5 : decode cX8_in 5 = .ok (.iload_n 0, 1) := by decide +kernel
theorem dX8_in_6 : decode cX8_in 6 = .ok (.iload_n 2, 1) := by decide +kernel
theorem dX8_in_7 : decode cX8_in 7 = .ok (.if_icmp .gt 7, 3) := by decide +kernel
theorem dX8_in_10 : decode cX8_in 10 = .ok (.iconst 1, 1) := by decide +kernel
theorem dX8_in_11 : decode cX8_in 11 = .ok (.goto 4, 3) := by decide +kernel
theorem dX8_in_14 : decode cX8_in 14 = .ok (.iconst 0, 1) := by decide +kernel
theorem dX8_in_15 : decode cX8_in 15 = .ok (.ireturn, 1) := by decide +kernel
theorem dX8_isNetwork_0 : decode cX8_isNetwork 0 = .ok (.iload_n 0, 1) := by decide +kernel
theorem dX8_isNetwork_1 : decode cX8_isNetwork 1 = .ok (.iconst 0, 1) := by decide +kernel
theorem dX8_isNetwork_2 : decode cX8_isNetwork 2 = .ok (.iconst 5, 1) := by decide +kernel
theorem dX8_isNetwork_3 : decode cX8_isNetwork 3 = .ok (.invokestatic 114, 3) := by decide +kernel
theorem dX8_isNetwork_6 : decode cX8_isNetwork 6 = .ok (.ireturn, 1) := by decide +kernel
theorem dX8_isPlace_0 : decode cX8_isPlace 0 = .ok (.iload_n 0, 1) := by decide +kernel
theorem dX8_isPlace_1 : decode cX8_isPlace 1 = .ok (.iconst 0, 1) := by decide +kernel
theorem dX8_isPlace_2 : decode cX8_isPlace 2 = .ok (.bipush 7, 2) := by decide +kernel
theorem dX8_isPlace_4 : decode cX8_isPlace 4 = .ok (.invokestatic 114, 3) := by decide +kernel
theorem dX8_isPlace_7 : decode cX8_isPlace 7 = .ok (.ireturn, 1) := by decide +kernel
theorem dX8_isSubscriber_0 : decode cX8_isSubscriber 0 = .ok (.iload_n 1, 1) := by decide +kernel
theorem dX8_isSubscriber_1 : decode cX8_isSubscriber 1 = .ok (.iconst 0, 1) := by decide +kernel
theorem dX8_isSubscriber_2 : decode cX8_isSubscriber 2 = .ok (.aload_n 0, 1) := by decide +kernel
theorem dX8_isSubscriber_3 : decode cX8_isSubscriber 3 = .ok (.getfield 118, 3) := by decide +kernel
theorem dX8_isSubscriber_6 : decode cX8_isSubscriber 6 = .ok (.iconst 1, 1) := by decide +kernel
theorem dX8_isSubscriber_7 : decode cX8_isSubscriber 7 = .ok (.isub, 1) := by decide +kernel
theorem dX8_isSubscriber_8 : decode cX8_isSubscriber 8 = .ok (.invokestatic 114, 3) := by decide +kernel
theorem dX8_isSubscriber_11 : decode cX8_isSubscriber 11 = .ok (.ireturn, 1) := by decide +kernel
theorem dX8_isIn_0 : decode cX8_isIn 0 = .ok (.iload_n 0, 1) := by decide +kernel
theorem dX8_isIn_1 : decode cX8_isIn 1 = .ok (.iload_n 1, 1) := by decide +kernel
theorem dX8_isIn_2 : decode cX8_isIn 2 = .ok (.ishr, 1) := by decide +kernel
theorem dX8_isIn_3 : decode cX8_isIn 3 = .ok (.iconst 1, 1) := by decide +kernel
theorem dX8_isIn_4 : decode cX8_isIn 4 = .ok (.iand, 1) := by decide +kernel
theorem dX8_isIn_5 : decode cX8_isIn 5 = .ok (.iconst 1, 1) := by decide +kernel
theorem dX8_isIn_6 : decode cX8_isIn 6 = .ok (.if_icmp .ne 7, 3) := by decide +kernel
theorem dX8_isIn_9 : decode cX8_isIn 9 = .ok (.iconst 1, 1) := by decide +kernel
theorem dX8_isIn_10 : decode cX8_isIn 10 = .ok (.goto 4, 3) := by decide +kernel
theorem dX8_isIn_13 : decode cX8_isIn 13 = .ok (.iconst 0, 1) := by decide +kernel
theorem dX8_isIn_14 : decode cX8_isIn 14 = .ok (.ireturn, 1) := by decide +kernel
theorem dX8_reach_0 : decode cX8_reach 0 = .ok (.aload_n 0, 1) := by decide +kernel
theorem dX8_reach_1 : decode cX8_reach 1 = .ok (.iload_n 1, 1) := by decide +kernel
theorem dX8_reach_2 : decode cX8_reach 2 = .ok (.invokestatic 121, 3) := by decide +kernel
theorem dX8_reach_5 : decode cX8_reach 5 = .ok (.ifCond .ne 7, 3) := by decide +kernel
theorem dX8_reach_8 : decode cX8_reach 8 = .ok (.iconst 1, 1) := by decide +kernel
theorem dX8_reach_9 : decode cX8_reach 9 = .ok (.goto 18, 3) := by decide +kernel
theorem dX8_reach_12 : decode cX8_reach 12 = .ok (.iload_n 2, 1) := by decide +kernel
theorem dX8_reach_13 : decode cX8_reach 13 = .ok (.iconst 0, 1) := by decide +kernel
theorem dX8_reach_14 : decode cX8_reach 14 = .ok (.bipush 63, 2) := by decide +kernel
theorem dX8_reach_16 : decode cX8_reach 16 = .ok (.invokestatic 114, 3) := by decide +kernel
theorem dX8_reach_19 : decode cX8_reach 19 = .ok (.ifCond .eq 7, 3) := by decide +kernel
theorem dX8_reach_22 : decode cX8_reach 22 = .ok (.iconst 0, 1) := by decide +kernel
theorem dX8_reach_23 : decode cX8_reach 23 = .ok (.goto 4, 3) := by decide +kernel
theorem dX8_reach_26 : decode cX8_reach 26 = .ok (.iconst 2, 1) := by decide +kernel
theorem dX8_reach_27 : decode cX8_reach 27 = .ok (.putfield 110, 3) := by decide +kernel
theorem dX8_reach_30 : decode cX8_reach 30 = .ok (.aload_n 0, 1) := by decide +kernel
theorem dX8_reach_31 : decode cX8_reach 31 = .ok (.getfield 110, 3) := by decide +kernel
theorem dX8_reach_34 : decode cX8_reach 34 = .ok (.ifCond .le 5, 3) := by decide +kernel
theorem dX8_reach_37 : decode cX8_reach 37 = .ok (.iconst 0, 1) := by decide +kernel
theorem dX8_reach_38 : decode cX8_reach 38 = .ok (.ireturn, 1) := by decide +kernel
theorem dX8_reach_39 : decode cX8_reach 39 = .ok (.aload_n 0, 1) := by decide +kernel
theorem dX8_reach_40 : decode cX8_reach 40 = .ok (.getfield 7, 3) := by decide +kernel
theorem dX8_reach_43 : decode cX8_reach 43 = .ok (.iload_n 1, 1) := by decide +kernel
theorem dX8_reach_44 : decode cX8_reach 44 = .ok (.iaload, 1) := by decide +kernel
theorem dX8_reach_45 : decode cX8_reach 45 = .ok (.istore_n 3, 1) := by decide +kernel
theorem dX8_reach_46 : decode cX8_reach 46 = .ok (.aload_n 0, 1) := by decide +kernel
theorem dX8_reach_47 : decode cX8_reach 47 = .ok (.getfield 7, 3) := by decide +kernel
theorem dX8_reach_50 : decode cX8_reach 50 = .ok (.iload_n 1, 1) := by decide +kernel
theorem dX8_reach_51 : decode cX8_reach 51 = .ok (.iload_n 2, 1) := by decide +kernel
theorem dX8_reach_52 : decode cX8_reach 52 = .ok (.iastore, 1) := by decide +kernel
theorem dX8_reach_53 : decode cX8_reach 53 = .ok (.iconst 0, 1) := by decide +kernel
theorem dX8_reach_54 : decode cX8_reach 54 = .ok (.istore 4, 2) := by decide +kernel
theorem dX8_reach_56 : decode cX8_reach 56 = .ok (.iload 4, 2) := by decide +kernel
theorem dX8_reach_58 : decode cX8_reach 58 = .ok (.aload_n 0, 1) := by decide +kernel
theorem dX8_reach_59 : decode cX8_reach 59 = .ok (.getfield 118, 3) := by decide +kernel
theorem dX8_reach_62 : decode cX8_reach 62 = .ok (.if_icmp .ge 53, 3) := by decide +kernel
theorem dX8_reach_65 : decode cX8_reach 65 = .ok (.aload_n 0, 1) := by decide +kernel
theorem dX8_reach_66 : decode cX8_reach 66 = .ok (.getfield 50, 3) := by decide +kernel
theorem dX8_reach_69 : decode cX8_reach 69 = .ok (.iload 4, 2) := by decide +kernel
theorem dX8_reach_71 : decode cX8_reach 71 = .ok (.iaload, 1) := by decide +kernel
theorem dX8_reach_72 : decode cX8_reach 72 = .ok (.iload_n 1, 1) := by decide +kernel
theorem dX8_reach_73 : decode cX8_reach 73 = .ok (.if_icmp .ne 36, 3) := by decide +kernel
theorem dX8_reach_76 : decode cX8_reach 76 = .ok (.aload_n 0, 1) := by decide +kernel
theorem dX8_reach_77 : decode cX8_reach 77 = .ok (.getfield 56, 3) := by decide +kernel
theorem dX8_reach_80 : decode cX8_reach 80 = .ok (.iload 4, 2) := by decide +kernel
theorem dX8_reach_82 : decode cX8_reach 82 = .ok (.iaload, 1) := by decide +kernel
theorem dX8_reach_83 : decode cX8_reach 83 = .ok (.iconst (-1), 1) := by decide +kernel
theorem dX8_reach_84 : decode cX8_reach 84 = .ok (.if_icmp .eq 25, 3) := by decide +kernel
theorem dX8_reach_87 : decode cX8_reach 87 = .ok (.iload_n 2, 1) := by decide +kernel
theorem dX8_reach_88 : decode cX8_reach 88 = .ok (.aload_n 0, 1) := by decide +kernel
theorem dX8_reach_89 : decode cX8_reach 89 = .ok (.getfield 56, 3) := by decide +kernel
theorem dX8_reach_92 : decode cX8_reach 92 = .ok (.iload 4, 2) := by decide +kernel
theorem dX8_reach_94 : decode cX8_reach 94 = .ok (.iaload, 1) := by decide +kernel
theorem dX8_reach_95 : decode cX8_reach 95 = .ok (.invokestatic 125, 3) := by decide +kernel
theorem dX8_reach_98 : decode cX8_reach 98 = .ok (.ifCond .ne 11, 3) := by decide +kernel
theorem dX8_reach_101 : decode cX8_reach 101 = .ok (.aload_n 0, 1) := by decide +kernel
theorem dX8_reach_102 : decode cX8_reach 102 = .ok (.getfield 56, 3) := by decide +kernel
theorem dX8_reach_105 : decode cX8_reach 105 = .ok (.iload 4, 2) := by decide +kernel
theorem dX8_reach_107 : decode cX8_reach 107 = .ok (.iconst (-1), 1) := by decide +kernel
theorem dX8_reach_108 : decode cX8_reach 108 = .ok (.iastore, 1) := by decide +kernel
theorem dX8_reach_109 : decode cX8_reach 109 = .ok (.iinc 4 1, 3) := by decide +kernel
theorem dX8_reach_112 : decode cX8_reach 112 = .ok (.goto (-56), 3) := by decide +kernel
theorem dX8_reach_115 : decode cX8_reach 115 = .ok (.iload_n 3, 1) := by decide +kernel
theorem dX8_reach_116 : decode cX8_reach 116 = .ok (.ireturn, 1) := by decide +kernel
theorem dX8_empties_0 : decode cX8_empties 0 = .ok (.iconst 0, 1) := by decide +kernel
theorem dX8_empties_1 : decode cX8_empties 1 = .ok (.istore_n 2, 1) := by decide +kernel
theorem dX8_empties_2 : decode cX8_empties 2 = .ok (.iload_n 2, 1) := by decide +kernel
theorem dX8_empties_3 : decode cX8_empties 3 = .ok (.bipush 10, 2) := by decide +kernel
theorem dX8_empties_5 : decode cX8_empties 5 = .ok (.if_icmp .ge 21, 3) := by decide +kernel
theorem dX8_empties_8 : decode cX8_empties 8 = .ok (.aload_n 0, 1) := by decide +kernel
theorem dX8_empties_9 : decode cX8_empties 9 = .ok (.getfield 80, 3) := by decide +kernel
theorem dX8_empties_12 : decode cX8_empties 12 = .ok (.bipush 10, 2) := by decide +kernel
theorem dX8_empties_14 : decode cX8_empties 14 = .ok (.iload_n 1, 1) := by decide +kernel
theorem dX8_empties_15 : decode cX8_empties 15 = .ok (.imul, 1) := by decide +kernel
theorem dX8_empties_16 : decode cX8_empties 16 = .ok (.iload_n 2, 1) := by decide +kernel
theorem dX8_empties_17 : decode cX8_empties 17 = .ok (.iadd, 1) := by decide +kernel
theorem dX8_empties_18 : decode cX8_empties 18 = .ok (.iconst (-1), 1) := by decide +kernel
theorem dX8_empties_19 : decode cX8_empties 19 = .ok (.iastore, 1) := by decide +kernel
theorem dX8_empties_20 : decode cX8_empties 20 = .ok (.iinc 2 1, 3) := by decide +kernel
theorem dX8_empties_23 : decode cX8_empties 23 = .ok (.goto (-21), 3) := by decide +kernel
theorem dX8_empties_26 : decode cX8_empties 26 = .ok (.return_, 1) := by decide +kernel
theorem dX8_dead_0 : decode cX8_dead 0 = .ok (.aload_n 0, 1) := by decide +kernel
theorem dX8_dead_1 : decode cX8_dead 1 = .ok (.iload_n 1, 1) := by decide +kernel
theorem dX8_dead_2 : decode cX8_dead 2 = .ok (.invokestatic 129, 3) := by decide +kernel
theorem dX8_dead_5 : decode cX8_dead 5 = .ok (.ifCond .eq 7, 3) := by decide +kernel
theorem dX8_dead_8 : decode cX8_dead 8 = .ok (.iconst 0, 1) := by decide +kernel
theorem dX8_dead_9 : decode cX8_dead 9 = .ok (.goto 4, 3) := by decide +kernel
theorem dX8_dead_12 : decode cX8_dead 12 = .ok (.iconst 1, 1) := by decide +kernel
theorem dX8_dead_13 : decode cX8_dead 13 = .ok (.putfield 110, 3) := by decide +kernel
theorem dX8_dead_16 : decode cX8_dead 16 = .ok (.aload_n 0, 1) := by decide +kernel
theorem dX8_dead_17 : decode cX8_dead 17 = .ok (.getfield 110, 3) := by decide +kernel
theorem dX8_dead_20 : decode cX8_dead 20 = .ok (.ifCond .le 5, 3) := by decide +kernel
theorem dX8_dead_23 : decode cX8_dead 23 = .ok (.iconst 0, 1) := by decide +kernel
theorem dX8_dead_24 : decode cX8_dead 24 = .ok (.ireturn, 1) := by decide +kernel
theorem dX8_dead_25 : decode cX8_dead 25 = .ok (.aload_n 0, 1) := by decide +kernel
theorem dX8_dead_26 : decode cX8_dead 26 = .ok (.getfield 13, 3) := by decide +kernel
theorem dX8_dead_29 : decode cX8_dead 29 = .ok (.iload_n 1, 1) := by decide +kernel
theorem dX8_dead_30 : decode cX8_dead 30 = .ok (.baload, 1) := by decide +kernel
theorem dX8_dead_31 : decode cX8_dead 31 = .ok (.istore_n 3, 1) := by decide +kernel
theorem dX8_dead_32 : decode cX8_dead 32 = .ok (.aload_n 0, 1) := by decide +kernel
theorem dX8_dead_33 : decode cX8_dead 33 = .ok (.getfield 13, 3) := by decide +kernel
theorem dX8_dead_36 : decode cX8_dead 36 = .ok (.iload_n 1, 1) := by decide +kernel
theorem dX8_dead_37 : decode cX8_dead 37 = .ok (.iload_n 2, 1) := by decide +kernel
theorem dX8_dead_38 : decode cX8_dead 38 = .ok (.bastore, 1) := by decide +kernel
theorem dX8_dead_39 : decode cX8_dead 39 = .ok (.iload_n 2, 1) := by decide +kernel
theorem dX8_dead_40 : decode cX8_dead 40 = .ok (.ifCond .eq 55, 3) := by decide +kernel
theorem dX8_dead_43 : decode cX8_dead 43 = .ok (.aload_n 0, 1) := by decide +kernel
theorem dX8_dead_44 : decode cX8_dead 44 = .ok (.iload_n 1, 1) := by decide +kernel
theorem dX8_dead_45 : decode cX8_dead 45 = .ok (.invokevirtual 132, 3) := by decide +kernel
theorem dX8_dead_48 : decode cX8_dead 48 = .ok (.iconst 0, 1) := by decide +kernel
theorem dX8_dead_49 : decode cX8_dead 49 = .ok (.istore 4, 2) := by decide +kernel
theorem dX8_dead_51 : decode cX8_dead 51 = .ok (.iload 4, 2) := by decide +kernel
theorem dX8_dead_53 : decode cX8_dead 53 = .ok (.aload_n 0, 1) := by decide +kernel
theorem dX8_dead_54 : decode cX8_dead 54 = .ok (.getfield 118, 3) := by decide +kernel
theorem dX8_dead_57 : decode cX8_dead 57 = .ok (.if_icmp .ge 38, 3) := by decide +kernel
theorem dX8_dead_60 : decode cX8_dead 60 = .ok (.aload_n 0, 1) := by decide +kernel
theorem dX8_dead_61 : decode cX8_dead 61 = .ok (.getfield 56, 3) := by decide +kernel
theorem dX8_dead_64 : decode cX8_dead 64 = .ok (.iload 4, 2) := by decide +kernel
theorem dX8_dead_66 : decode cX8_dead 66 = .ok (.aload_n 0, 1) := by decide +kernel
theorem dX8_dead_67 : decode cX8_dead 67 = .ok (.getfield 56, 3) := by decide +kernel
theorem dX8_dead_70 : decode cX8_dead 70 = .ok (.iload 4, 2) := by decide +kernel
theorem dX8_dead_72 : decode cX8_dead 72 = .ok (.iaload, 1) := by decide +kernel
theorem dX8_dead_73 : decode cX8_dead 73 = .ok (.iload_n 1, 1) := by decide +kernel
theorem dX8_dead_74 : decode cX8_dead 74 = .ok (.if_icmp .ne 7, 3) := by decide +kernel
theorem dX8_dead_77 : decode cX8_dead 77 = .ok (.iconst (-1), 1) := by decide +kernel
theorem dX8_dead_78 : decode cX8_dead 78 = .ok (.goto 10, 3) := by decide +kernel
theorem dX8_dead_81 : decode cX8_dead 81 = .ok (.aload_n 0, 1) := by decide +kernel
theorem dX8_dead_82 : decode cX8_dead 82 = .ok (.getfield 56, 3) := by decide +kernel
theorem dX8_dead_85 : decode cX8_dead 85 = .ok (.iload 4, 2) := by decide +kernel
theorem dX8_dead_87 : decode cX8_dead 87 = .ok (.iaload, 1) := by decide +kernel
theorem dX8_dead_88 : decode cX8_dead 88 = .ok (.iastore, 1) := by decide +kernel
theorem dX8_dead_89 : decode cX8_dead 89 = .ok (.iinc 4 1, 3) := by decide +kernel
theorem dX8_dead_92 : decode cX8_dead 92 = .ok (.goto (-41), 3) := by decide +kernel
theorem dX8_dead_95 : decode cX8_dead 95 = .ok (.iload_n 3, 1) := by decide +kernel
theorem dX8_dead_96 : decode cX8_dead 96 = .ok (.ireturn, 1) := by decide +kernel
theorem dX8_agree_0 : decode cX8_agree 0 = .ok (.iload_n 1, 1) := by decide +kernel
theorem dX8_agree_1 : decode cX8_agree 1 = .ok (.invokestatic 129, 3) := by decide +kernel
theorem dX8_agree_4 : decode cX8_agree 4 = .ok (.ifCond .eq 14, 3) := by decide +kernel
theorem dX8_agree_7 : decode cX8_agree 7 = .ok (.iload_n 2, 1) := by decide +kernel
theorem dX8_agree_8 : decode cX8_agree 8 = .ok (.invokestatic 129, 3) := by decide +kernel
theorem dX8_agree_11 : decode cX8_agree 11 = .ok (.ifCond .eq 7, 3) := by decide +kernel
theorem dX8_agree_14 : decode cX8_agree 14 = .ok (.iconst 1, 1) := by decide +kernel
theorem dX8_agree_15 : decode cX8_agree 15 = .ok (.goto 4, 3) := by decide +kernel
theorem dX8_agree_18 : decode cX8_agree 18 = .ok (.iconst 0, 1) := by decide +kernel
theorem dX8_agree_19 : decode cX8_agree 19 = .ok (.istore 8, 2) := by decide +kernel
theorem dX8_agree_21 : decode cX8_agree 21 = .ok (.iload_n 1, 1) := by decide +kernel
theorem dX8_agree_22 : decode cX8_agree 22 = .ok (.iload_n 2, 1) := by decide +kernel
theorem dX8_agree_23 : decode cX8_agree 23 = .ok (.if_icmp .eq 64, 3) := by decide +kernel
theorem dX8_agree_26 : decode cX8_agree 26 = .ok (.iload_n 3, 1) := by decide +kernel
theorem dX8_agree_27 : decode cX8_agree 27 = .ok (.iconst 0, 1) := by decide +kernel
theorem dX8_agree_28 : decode cX8_agree 28 = .ok (.ldc 136, 2) := by decide +kernel
theorem dX8_agree_30 : decode cX8_agree 30 = .ok (.invokestatic 114, 3) := by decide +kernel
theorem dX8_agree_33 : decode cX8_agree 33 = .ok (.ifCond .eq 54, 3) := by decide +kernel
theorem dX8_agree_36 : decode cX8_agree 36 = .ok (.iload 4, 2) := by decide +kernel
theorem dX8_agree_38 : decode cX8_agree 38 = .ok (.iload_n 3, 1) := by decide +kernel
theorem dX8_agree_39 : decode cX8_agree 39 = .ok (.iconst 1, 1) := by decide +kernel
theorem dX8_agree_40 : decode cX8_agree 40 = .ok (.iadd, 1) := by decide +kernel
theorem dX8_agree_41 : decode cX8_agree 41 = .ok (.ldc 137, 2) := by decide +kernel
theorem dX8_agree_43 : decode cX8_agree 43 = .ok (.invokestatic 114, 3) := by decide +kernel
theorem dX8_agree_46 : decode cX8_agree 46 = .ok (.ifCond .eq 41, 3) := by decide +kernel
theorem dX8_agree_49 : decode cX8_agree 49 = .ok (.iload 5, 2) := by decide +kernel
theorem dX8_agree_51 : decode cX8_agree 51 = .ok (.iconst 0, 1) := by decide +kernel
theorem dX8_agree_52 : decode cX8_agree 52 = .ok (.bipush 99, 2) := by decide +kernel
theorem dX8_agree_54 : decode cX8_agree 54 = .ok (.invokestatic 114, 3) := by decide +kernel
theorem dX8_agree_57 : decode cX8_agree 57 = .ok (.ifCond .eq 30, 3) := by decide +kernel
theorem dX8_agree_60 : decode cX8_agree 60 = .ok (.iload 6, 2) := by decide +kernel
theorem dX8_agree_62 : decode cX8_agree 62 = .ok (.iconst 0, 1) := by decide +kernel
theorem dX8_agree_63 : decode cX8_agree 63 = .ok (.sipush 9999, 3) := by decide +kernel
theorem dX8_agree_66 : decode cX8_agree 66 = .ok (.invokestatic 114, 3) := by decide +kernel
theorem dX8_agree_69 : decode cX8_agree 69 = .ok (.ifCond .eq 18, 3) := by decide +kernel
theorem dX8_agree_72 : decode cX8_agree 72 = .ok (.iload 7, 2) := by decide +kernel
theorem dX8_agree_74 : decode cX8_agree 74 = .ok (.iconst 0, 1) := by decide +kernel
theorem dX8_agree_75 : decode cX8_agree 75 = .ok (.iload 5, 2) := by decide +kernel
theorem dX8_agree_77 : decode cX8_agree 77 = .ok (.invokestatic 114, 3) := by decide +kernel
theorem dX8_agree_80 : decode cX8_agree 80 = .ok (.ifCond .eq 7, 3) := by decide +kernel
theorem dX8_agree_83 : decode cX8_agree 83 = .ok (.iconst 1, 1) := by decide +kernel
theorem dX8_agree_84 : decode cX8_agree 84 = .ok (.goto 4, 3) := by decide +kernel
theorem dX8_agree_87 : decode cX8_agree 87 = .ok (.iconst 0, 1) := by decide +kernel
theorem dX8_agree_88 : decode cX8_agree 88 = .ok (.istore 9, 2) := by decide +kernel
theorem dX8_agree_90 : decode cX8_agree 90 = .ok (.aload_n 0, 1) := by decide +kernel
theorem dX8_agree_91 : decode cX8_agree 91 = .ok (.iload 8, 2) := by decide +kernel
theorem dX8_agree_93 : decode cX8_agree 93 = .ok (.ifCond .ne 7, 3) := by decide +kernel
theorem dX8_agree_96 : decode cX8_agree 96 = .ok (.iconst 1, 1) := by decide +kernel
theorem dX8_agree_97 : decode cX8_agree 97 = .ok (.goto 26, 3) := by decide +kernel
theorem dX8_agree_100 : decode cX8_agree 100 = .ok (.iload 9, 2) := by decide +kernel
theorem dX8_agree_102 : decode cX8_agree 102 = .ok (.ifCond .ne 7, 3) := by decide +kernel
theorem dX8_agree_105 : decode cX8_agree 105 = .ok (.iconst 2, 1) := by decide +kernel
theorem dX8_agree_106 : decode cX8_agree 106 = .ok (.goto 17, 3) := by decide +kernel
theorem dX8_agree_109 : decode cX8_agree 109 = .ok (.aload_n 0, 1) := by decide +kernel
theorem dX8_agree_110 : decode cX8_agree 110 = .ok (.getfield 138, 3) := by decide +kernel
theorem dX8_agree_113 : decode cX8_agree 113 = .ok (.bipush 30, 2) := by decide +kernel
theorem dX8_agree_115 : decode cX8_agree 115 = .ok (.if_icmp .ne 7, 3) := by decide +kernel
theorem dX8_agree_118 : decode cX8_agree 118 = .ok (.iconst 3, 1) := by decide +kernel
theorem dX8_agree_119 : decode cX8_agree 119 = .ok (.goto 4, 3) := by decide +kernel
theorem dX8_agree_122 : decode cX8_agree 122 = .ok (.iconst 0, 1) := by decide +kernel
theorem dX8_agree_123 : decode cX8_agree 123 = .ok (.putfield 110, 3) := by decide +kernel
theorem dX8_agree_126 : decode cX8_agree 126 = .ok (.aload_n 0, 1) := by decide +kernel
theorem dX8_agree_127 : decode cX8_agree 127 = .ok (.getfield 110, 3) := by decide +kernel
theorem dX8_agree_130 : decode cX8_agree 130 = .ok (.ifCond .le 5, 3) := by decide +kernel
theorem dX8_agree_133 : decode cX8_agree 133 = .ok (.iconst 0, 1) := by decide +kernel
theorem dX8_agree_134 : decode cX8_agree 134 = .ok (.ireturn, 1) := by decide +kernel
theorem dX8_agree_135 : decode cX8_agree 135 = .ok (.aload_n 0, 1) := by decide +kernel
theorem dX8_agree_136 : decode cX8_agree 136 = .ok (.getfield 26, 3) := by decide +kernel
theorem dX8_agree_139 : decode cX8_agree 139 = .ok (.aload_n 0, 1) := by decide +kernel
theorem dX8_agree_140 : decode cX8_agree 140 = .ok (.getfield 138, 3) := by decide +kernel
theorem dX8_agree_143 : decode cX8_agree 143 = .ok (.iload_n 1, 1) := by decide +kernel
theorem dX8_agree_144 : decode cX8_agree 144 = .ok (.iastore, 1) := by decide +kernel
theorem dX8_agree_145 : decode cX8_agree 145 = .ok (.aload_n 0, 1) := by decide +kernel
theorem dX8_agree_146 : decode cX8_agree 146 = .ok (.getfield 29, 3) := by decide +kernel
theorem dX8_agree_149 : decode cX8_agree 149 = .ok (.aload_n 0, 1) := by decide +kernel
theorem dX8_agree_150 : decode cX8_agree 150 = .ok (.getfield 138, 3) := by decide +kernel
theorem dX8_agree_153 : decode cX8_agree 153 = .ok (.iload_n 2, 1) := by decide +kernel
theorem dX8_agree_154 : decode cX8_agree 154 = .ok (.iastore, 1) := by decide +kernel
theorem dX8_agree_155 : decode cX8_agree 155 = .ok (.aload_n 0, 1) := by decide +kernel
theorem dX8_agree_156 : decode cX8_agree 156 = .ok (.getfield 32, 3) := by decide +kernel
theorem dX8_agree_159 : decode cX8_agree 159 = .ok (.aload_n 0, 1) := by decide +kernel
theorem dX8_agree_160 : decode cX8_agree 160 = .ok (.getfield 138, 3) := by decide +kernel
theorem dX8_agree_163 : decode cX8_agree 163 = .ok (.iload_n 3, 1) := by decide +kernel
theorem dX8_agree_164 : decode cX8_agree 164 = .ok (.iastore, 1) := by decide +kernel
theorem dX8_agree_165 : decode cX8_agree 165 = .ok (.aload_n 0, 1) := by decide +kernel
theorem dX8_agree_166 : decode cX8_agree 166 = .ok (.getfield 35, 3) := by decide +kernel
theorem dX8_agree_169 : decode cX8_agree 169 = .ok (.aload_n 0, 1) := by decide +kernel
theorem dX8_agree_170 : decode cX8_agree 170 = .ok (.getfield 138, 3) := by decide +kernel
theorem dX8_agree_173 : decode cX8_agree 173 = .ok (.iload 4, 2) := by decide +kernel
theorem dX8_agree_175 : decode cX8_agree 175 = .ok (.iastore, 1) := by decide +kernel
theorem dX8_agree_176 : decode cX8_agree 176 = .ok (.aload_n 0, 1) := by decide +kernel
theorem dX8_agree_177 : decode cX8_agree 177 = .ok (.getfield 38, 3) := by decide +kernel
theorem dX8_agree_180 : decode cX8_agree 180 = .ok (.aload_n 0, 1) := by decide +kernel
theorem dX8_agree_181 : decode cX8_agree 181 = .ok (.getfield 138, 3) := by decide +kernel
theorem dX8_agree_184 : decode cX8_agree 184 = .ok (.iload 5, 2) := by decide +kernel
theorem dX8_agree_186 : decode cX8_agree 186 = .ok (.iastore, 1) := by decide +kernel
theorem dX8_agree_187 : decode cX8_agree 187 = .ok (.aload_n 0, 1) := by decide +kernel
theorem dX8_agree_188 : decode cX8_agree 188 = .ok (.getfield 41, 3) := by decide +kernel
theorem dX8_agree_191 : decode cX8_agree 191 = .ok (.aload_n 0, 1) := by decide +kernel
theorem dX8_agree_192 : decode cX8_agree 192 = .ok (.getfield 138, 3) := by decide +kernel
theorem dX8_agree_195 : decode cX8_agree 195 = .ok (.iload 6, 2) := by decide +kernel
theorem dX8_agree_197 : decode cX8_agree 197 = .ok (.iastore, 1) := by decide +kernel
theorem dX8_agree_198 : decode cX8_agree 198 = .ok (.aload_n 0, 1) := by decide +kernel
theorem dX8_agree_199 : decode cX8_agree 199 = .ok (.getfield 44, 3) := by decide +kernel
theorem dX8_agree_202 : decode cX8_agree 202 = .ok (.aload_n 0, 1) := by decide +kernel
theorem dX8_agree_203 : decode cX8_agree 203 = .ok (.getfield 138, 3) := by decide +kernel
theorem dX8_agree_206 : decode cX8_agree 206 = .ok (.iload 7, 2) := by decide +kernel
theorem dX8_agree_208 : decode cX8_agree 208 = .ok (.iastore, 1) := by decide +kernel
theorem dX8_agree_209 : decode cX8_agree 209 = .ok (.aload_n 0, 1) := by decide +kernel
theorem dX8_agree_210 : decode cX8_agree 210 = .ok (.dup, 1) := by decide +kernel
theorem dX8_agree_211 : decode cX8_agree 211 = .ok (.getfield 138, 3) := by decide +kernel
theorem dX8_agree_214 : decode cX8_agree 214 = .ok (.iconst 1, 1) := by decide +kernel
theorem dX8_agree_215 : decode cX8_agree 215 = .ok (.iadd, 1) := by decide +kernel
theorem dX8_agree_216 : decode cX8_agree 216 = .ok (.putfield 138, 3) := by decide +kernel
theorem dX8_agree_219 : decode cX8_agree 219 = .ok (.aload_n 0, 1) := by decide +kernel
theorem dX8_agree_220 : decode cX8_agree 220 = .ok (.getfield 138, 3) := by decide +kernel
theorem dX8_agree_223 : decode cX8_agree 223 = .ok (.ireturn, 1) := by decide +kernel
theorem dX8_agreement_0 : decode cX8_agreement 0 = .ok (.iconst (-1), 1) := by decide +kernel
theorem dX8_agreement_1 : decode cX8_agreement 1 = .ok (.istore_n 3, 1) := by decide +kernel
theorem dX8_agreement_2 : decode cX8_agreement 2 = .ok (.iconst 0, 1) := by decide +kernel
theorem dX8_agreement_3 : decode cX8_agreement 3 = .ok (.istore 4, 2) := by decide +kernel
theorem dX8_agreement_5 : decode cX8_agreement 5 = .ok (.iload 4, 2) := by decide +kernel
theorem dX8_agreement_7 : decode cX8_agreement 7 = .ok (.aload_n 0, 1) := by decide +kernel
theorem dX8_agreement_8 : decode cX8_agreement 8 = .ok (.getfield 138, 3) := by decide +kernel
theorem dX8_agreement_11 : decode cX8_agreement 11 = .ok (.if_icmp .ge 78, 3) := by decide +kernel
theorem dX8_agreement_14 : decode cX8_agreement 14 = .ok (.aload_n 0, 1) := by decide +kernel
theorem dX8_agreement_15 : decode cX8_agreement 15 = .ok (.getfield 26, 3) := by decide +kernel
theorem dX8_agreement_18 : decode cX8_agreement 18 = .ok (.iload 4, 2) := by decide +kernel
theorem dX8_agreement_20 : decode cX8_agreement 20 = .ok (.iaload, 1) := by decide +kernel
theorem dX8_agreement_21 : decode cX8_agreement 21 = .ok (.iload_n 1, 1) := by decide +kernel
theorem dX8_agreement_22 : decode cX8_agreement 22 = .ok (.if_icmp .ne 18, 3) := by decide +kernel
theorem dX8_agreement_25 : decode cX8_agreement 25 = .ok (.aload_n 0, 1) := by decide +kernel
theorem dX8_agreement_26 : decode cX8_agreement 26 = .ok (.getfield 29, 3) := by decide +kernel
theorem dX8_agreement_29 : decode cX8_agreement 29 = .ok (.iload 4, 2) := by decide +kernel
theorem dX8_agreement_31 : decode cX8_agreement 31 = .ok (.iaload, 1) := by decide +kernel
theorem dX8_agreement_32 : decode cX8_agreement 32 = .ok (.iload_n 2, 1) := by decide +kernel
theorem dX8_agreement_33 : decode cX8_agreement 33 = .ok (.if_icmp .ne 7, 3) := by decide +kernel
theorem dX8_agreement_36 : decode cX8_agreement 36 = .ok (.iconst 1, 1) := by decide +kernel
theorem dX8_agreement_37 : decode cX8_agreement 37 = .ok (.goto 4, 3) := by decide +kernel
theorem dX8_agreement_40 : decode cX8_agreement 40 = .ok (.iconst 0, 1) := by decide +kernel
theorem dX8_agreement_41 : decode cX8_agreement 41 = .ok (.istore 5, 2) := by decide +kernel
theorem dX8_agreement_43 : decode cX8_agreement 43 = .ok (.iload 5, 2) := by decide +kernel
theorem dX8_agreement_45 : decode cX8_agreement 45 = .ok (.ifCond .eq 36, 3) := by decide +kernel
theorem dX8_agreement_48 : decode cX8_agreement 48 = .ok (.aload_n 0, 1) := by decide +kernel
theorem dX8_agreement_49 : decode cX8_agreement 49 = .ok (.getfield 141, 3) := by decide +kernel
theorem dX8_agreement_52 : decode cX8_agreement 52 = .ok (.aload_n 0, 1) := by decide +kernel
theorem dX8_agreement_53 : decode cX8_agreement 53 = .ok (.getfield 32, 3) := by decide +kernel
theorem dX8_agreement_56 : decode cX8_agreement 56 = .ok (.iload 4, 2) := by decide +kernel
theorem dX8_agreement_58 : decode cX8_agreement 58 = .ok (.iaload, 1) := by decide +kernel
theorem dX8_agreement_59 : decode cX8_agreement 59 = .ok (.if_icmp .lt 22, 3) := by decide +kernel
theorem dX8_agreement_62 : decode cX8_agreement 62 = .ok (.aload_n 0, 1) := by decide +kernel
theorem dX8_agreement_63 : decode cX8_agreement 63 = .ok (.getfield 141, 3) := by decide +kernel
theorem dX8_agreement_66 : decode cX8_agreement 66 = .ok (.aload_n 0, 1) := by decide +kernel
theorem dX8_agreement_67 : decode cX8_agreement 67 = .ok (.getfield 35, 3) := by decide +kernel
theorem dX8_agreement_70 : decode cX8_agreement 70 = .ok (.iload 4, 2) := by decide +kernel
theorem dX8_agreement_72 : decode cX8_agreement 72 = .ok (.iaload, 1) := by decide +kernel
theorem dX8_agreement_73 : decode cX8_agreement 73 = .ok (.if_icmp .ge 8, 3) := by decide +kernel
theorem dX8_agreement_76 : decode cX8_agreement 76 = .ok (.iload 4, 2) := by decide +kernel
theorem dX8_agreement_78 : decode cX8_agreement 78 = .ok (.goto 4, 3) := by decide +kernel
theorem dX8_agreement_81 : decode cX8_agreement 81 = .ok (.iload_n 3, 1) := by decide +kernel
theorem dX8_agreement_82 : decode cX8_agreement 82 = .ok (.istore_n 3, 1) := by decide +kernel
theorem dX8_agreement_83 : decode cX8_agreement 83 = .ok (.iinc 4 1, 3) := by decide +kernel
theorem dX8_agreement_86 : decode cX8_agreement 86 = .ok (.goto (-81), 3) := by decide +kernel
theorem dX8_agreement_89 : decode cX8_agreement 89 = .ok (.iload_n 3, 1) := by decide +kernel
theorem dX8_agreement_90 : decode cX8_agreement 90 = .ok (.ireturn, 1) := by decide +kernel
theorem dX8_steer_0 : decode cX8_steer 0 = .ok (.aload_n 0, 1) := by decide +kernel
theorem dX8_steer_1 : decode cX8_steer 1 = .ok (.iload_n 1, 1) := by decide +kernel
theorem dX8_steer_2 : decode cX8_steer 2 = .ok (.invokestatic 129, 3) := by decide +kernel
theorem dX8_steer_5 : decode cX8_steer 5 = .ok (.ifCond .eq 15, 3) := by decide +kernel
theorem dX8_steer_8 : decode cX8_steer 8 = .ok (.iload_n 2, 1) := by decide +kernel
theorem dX8_steer_9 : decode cX8_steer 9 = .ok (.iconst (-1), 1) := by decide +kernel
theorem dX8_steer_10 : decode cX8_steer 10 = .ok (.if_icmp .eq 14, 3) := by decide +kernel
theorem dX8_steer_13 : decode cX8_steer 13 = .ok (.iload_n 2, 1) := by decide +kernel
theorem dX8_steer_14 : decode cX8_steer 14 = .ok (.invokestatic 129, 3) := by decide +kernel
theorem dX8_steer_17 : decode cX8_steer 17 = .ok (.ifCond .ne 7, 3) := by decide +kernel
theorem dX8_steer_20 : decode cX8_steer 20 = .ok (.iconst 1, 1) := by decide +kernel
theorem dX8_steer_21 : decode cX8_steer 21 = .ok (.goto 13, 3) := by decide +kernel
theorem dX8_steer_24 : decode cX8_steer 24 = .ok (.iload_n 2, 1) := by decide +kernel
theorem dX8_steer_25 : decode cX8_steer 25 = .ok (.iload_n 1, 1) := by decide +kernel
theorem dX8_steer_26 : decode cX8_steer 26 = .ok (.if_icmp .ne 7, 3) := by decide +kernel
theorem dX8_steer_29 : decode cX8_steer 29 = .ok (.iconst 2, 1) := by decide +kernel
theorem dX8_steer_30 : decode cX8_steer 30 = .ok (.goto 4, 3) := by decide +kernel
theorem dX8_steer_33 : decode cX8_steer 33 = .ok (.iconst 0, 1) := by decide +kernel
theorem dX8_steer_34 : decode cX8_steer 34 = .ok (.putfield 110, 3) := by decide +kernel
theorem dX8_steer_37 : decode cX8_steer 37 = .ok (.aload_n 0, 1) := by decide +kernel
theorem dX8_steer_38 : decode cX8_steer 38 = .ok (.getfield 110, 3) := by decide +kernel
theorem dX8_steer_41 : decode cX8_steer 41 = .ok (.ifCond .le 5, 3) := by decide +kernel
theorem dX8_steer_44 : decode cX8_steer 44 = .ok (.iconst 0, 1) := by decide +kernel
theorem dX8_steer_45 : decode cX8_steer 45 = .ok (.ireturn, 1) := by decide +kernel
theorem dX8_steer_46 : decode cX8_steer 46 = .ok (.aload_n 0, 1) := by decide +kernel
theorem dX8_steer_47 : decode cX8_steer 47 = .ok (.getfield 17, 3) := by decide +kernel
theorem dX8_steer_50 : decode cX8_steer 50 = .ok (.iload_n 1, 1) := by decide +kernel
theorem dX8_steer_51 : decode cX8_steer 51 = .ok (.iaload, 1) := by decide +kernel
theorem dX8_steer_52 : decode cX8_steer 52 = .ok (.istore_n 3, 1) := by decide +kernel
theorem dX8_steer_53 : decode cX8_steer 53 = .ok (.aload_n 0, 1) := by decide +kernel
theorem dX8_steer_54 : decode cX8_steer 54 = .ok (.getfield 17, 3) := by decide +kernel
theorem dX8_steer_57 : decode cX8_steer 57 = .ok (.iload_n 1, 1) := by decide +kernel
theorem dX8_steer_58 : decode cX8_steer 58 = .ok (.iload_n 2, 1) := by decide +kernel
theorem dX8_steer_59 : decode cX8_steer 59 = .ok (.iastore, 1) := by decide +kernel
theorem dX8_steer_60 : decode cX8_steer 60 = .ok (.iload_n 3, 1) := by decide +kernel
theorem dX8_steer_61 : decode cX8_steer 61 = .ok (.ireturn, 1) := by decide +kernel
theorem dX8_prices_0 : decode cX8_prices 0 = .ok (.aload_n 0, 1) := by decide +kernel
theorem dX8_prices_1 : decode cX8_prices 1 = .ok (.iload_n 1, 1) := by decide +kernel
theorem dX8_prices_2 : decode cX8_prices 2 = .ok (.invokestatic 129, 3) := by decide +kernel
theorem dX8_prices_5 : decode cX8_prices 5 = .ok (.ifCond .ne 7, 3) := by decide +kernel
theorem dX8_prices_8 : decode cX8_prices 8 = .ok (.iconst 1, 1) := by decide +kernel
theorem dX8_prices_9 : decode cX8_prices 9 = .ok (.goto 39, 3) := by decide +kernel
theorem dX8_prices_12 : decode cX8_prices 12 = .ok (.iload_n 2, 1) := by decide +kernel
theorem dX8_prices_13 : decode cX8_prices 13 = .ok (.iconst 0, 1) := by decide +kernel
theorem dX8_prices_14 : decode cX8_prices 14 = .ok (.bipush 99, 2) := by decide +kernel
theorem dX8_prices_16 : decode cX8_prices 16 = .ok (.invokestatic 114, 3) := by decide +kernel
theorem dX8_prices_19 : decode cX8_prices 19 = .ok (.ifCond .eq 28, 3) := by decide +kernel
theorem dX8_prices_22 : decode cX8_prices 22 = .ok (.iload_n 3, 1) := by decide +kernel
theorem dX8_prices_23 : decode cX8_prices 23 = .ok (.iconst 0, 1) := by decide +kernel
theorem dX8_prices_24 : decode cX8_prices 24 = .ok (.bipush 99, 2) := by decide +kernel
theorem dX8_prices_26 : decode cX8_prices 26 = .ok (.invokestatic 114, 3) := by decide +kernel
theorem dX8_prices_29 : decode cX8_prices 29 = .ok (.ifCond .eq 18, 3) := by decide +kernel
theorem dX8_prices_32 : decode cX8_prices 32 = .ok (.iload 4, 2) := by decide +kernel
theorem dX8_prices_34 : decode cX8_prices 34 = .ok (.iconst 0, 1) := by decide +kernel
theorem dX8_prices_35 : decode cX8_prices 35 = .ok (.bipush 99, 2) := by decide +kernel
theorem dX8_prices_37 : decode cX8_prices 37 = .ok (.invokestatic 114, 3) := by decide +kernel
theorem dX8_prices_40 : decode cX8_prices 40 = .ok (.ifCond .eq 7, 3) := by decide +kernel
theorem dX8_prices_43 : decode cX8_prices 43 = .ok (.iconst 0, 1) := by decide +kernel
theorem dX8_prices_44 : decode cX8_prices 44 = .ok (.goto 4, 3) := by decide +kernel
theorem dX8_prices_47 : decode cX8_prices 47 = .ok (.iconst 2, 1) := by decide +kernel
theorem dX8_prices_48 : decode cX8_prices 48 = .ok (.putfield 110, 3) := by decide +kernel
theorem dX8_prices_51 : decode cX8_prices 51 = .ok (.aload_n 0, 1) := by decide +kernel
theorem dX8_prices_52 : decode cX8_prices 52 = .ok (.getfield 110, 3) := by decide +kernel
theorem dX8_prices_55 : decode cX8_prices 55 = .ok (.ifCond .ne 37, 3) := by decide +kernel
theorem dX8_prices_58 : decode cX8_prices 58 = .ok (.aload_n 0, 1) := by decide +kernel
theorem dX8_prices_59 : decode cX8_prices 59 = .ok (.getfield 20, 3) := by decide +kernel
theorem dX8_prices_62 : decode cX8_prices 62 = .ok (.iconst 3, 1) := by decide +kernel
theorem dX8_prices_63 : decode cX8_prices 63 = .ok (.iload_n 1, 1) := by decide +kernel
theorem dX8_prices_64 : decode cX8_prices 64 = .ok (.imul, 1) := by decide +kernel
theorem dX8_prices_65 : decode cX8_prices 65 = .ok (.iconst 0, 1) := by decide +kernel
theorem dX8_prices_66 : decode cX8_prices 66 = .ok (.iadd, 1) := by decide +kernel
theorem dX8_prices_67 : decode cX8_prices 67 = .ok (.iload_n 2, 1) := by decide +kernel
theorem dX8_prices_68 : decode cX8_prices 68 = .ok (.iastore, 1) := by decide +kernel
theorem dX8_prices_69 : decode cX8_prices 69 = .ok (.aload_n 0, 1) := by decide +kernel
theorem dX8_prices_70 : decode cX8_prices 70 = .ok (.getfield 20, 3) := by decide +kernel
theorem dX8_prices_73 : decode cX8_prices 73 = .ok (.iconst 3, 1) := by decide +kernel
theorem dX8_prices_74 : decode cX8_prices 74 = .ok (.iload_n 1, 1) := by decide +kernel
theorem dX8_prices_75 : decode cX8_prices 75 = .ok (.imul, 1) := by decide +kernel
theorem dX8_prices_76 : decode cX8_prices 76 = .ok (.iconst 1, 1) := by decide +kernel
theorem dX8_prices_77 : decode cX8_prices 77 = .ok (.iadd, 1) := by decide +kernel
theorem dX8_prices_78 : decode cX8_prices 78 = .ok (.iload_n 3, 1) := by decide +kernel
theorem dX8_prices_79 : decode cX8_prices 79 = .ok (.iastore, 1) := by decide +kernel
theorem dX8_prices_80 : decode cX8_prices 80 = .ok (.aload_n 0, 1) := by decide +kernel
theorem dX8_prices_81 : decode cX8_prices 81 = .ok (.getfield 20, 3) := by decide +kernel
theorem dX8_prices_84 : decode cX8_prices 84 = .ok (.iconst 3, 1) := by decide +kernel
theorem dX8_prices_85 : decode cX8_prices 85 = .ok (.iload_n 1, 1) := by decide +kernel
theorem dX8_prices_86 : decode cX8_prices 86 = .ok (.imul, 1) := by decide +kernel
theorem dX8_prices_87 : decode cX8_prices 87 = .ok (.iconst 2, 1) := by decide +kernel
theorem dX8_prices_88 : decode cX8_prices 88 = .ok (.iadd, 1) := by decide +kernel
theorem dX8_prices_89 : decode cX8_prices 89 = .ok (.iload 4, 2) := by decide +kernel
theorem dX8_prices_91 : decode cX8_prices 91 = .ok (.iastore, 1) := by decide +kernel
theorem dX8_prices_92 : decode cX8_prices 92 = .ok (.return_, 1) := by decide +kernel
theorem dX8_lose_0 : decode cX8_lose 0 = .ok (.aload_n 0, 1) := by decide +kernel
theorem dX8_lose_1 : decode cX8_lose 1 = .ok (.iload_n 1, 1) := by decide +kernel
theorem dX8_lose_2 : decode cX8_lose 2 = .ok (.invokestatic 129, 3) := by decide +kernel
theorem dX8_lose_5 : decode cX8_lose 5 = .ok (.ifCond .ne 7, 3) := by decide +kernel
theorem dX8_lose_8 : decode cX8_lose 8 = .ok (.iconst 1, 1) := by decide +kernel
theorem dX8_lose_9 : decode cX8_lose 9 = .ok (.goto 18, 3) := by decide +kernel
theorem dX8_lose_12 : decode cX8_lose 12 = .ok (.iload_n 2, 1) := by decide +kernel
theorem dX8_lose_13 : decode cX8_lose 13 = .ok (.iconst 0, 1) := by decide +kernel
theorem dX8_lose_14 : decode cX8_lose 14 = .ok (.bipush 9, 2) := by decide +kernel
theorem dX8_lose_16 : decode cX8_lose 16 = .ok (.invokestatic 114, 3) := by decide +kernel
theorem dX8_lose_19 : decode cX8_lose 19 = .ok (.ifCond .eq 7, 3) := by decide +kernel
theorem dX8_lose_22 : decode cX8_lose 22 = .ok (.iconst 0, 1) := by decide +kernel
theorem dX8_lose_23 : decode cX8_lose 23 = .ok (.goto 4, 3) := by decide +kernel
theorem dX8_lose_26 : decode cX8_lose 26 = .ok (.iconst 2, 1) := by decide +kernel
theorem dX8_lose_27 : decode cX8_lose 27 = .ok (.putfield 110, 3) := by decide +kernel
theorem dX8_lose_30 : decode cX8_lose 30 = .ok (.aload_n 0, 1) := by decide +kernel
theorem dX8_lose_31 : decode cX8_lose 31 = .ok (.getfield 110, 3) := by decide +kernel
theorem dX8_lose_34 : decode cX8_lose 34 = .ok (.ifCond .le 5, 3) := by decide +kernel
theorem dX8_lose_37 : decode cX8_lose 37 = .ok (.iconst 0, 1) := by decide +kernel
theorem dX8_lose_38 : decode cX8_lose 38 = .ok (.ireturn, 1) := by decide +kernel
theorem dX8_lose_39 : decode cX8_lose 39 = .ok (.aload_n 0, 1) := by decide +kernel
theorem dX8_lose_40 : decode cX8_lose 40 = .ok (.getfield 23, 3) := by decide +kernel
theorem dX8_lose_43 : decode cX8_lose 43 = .ok (.iload_n 1, 1) := by decide +kernel
theorem dX8_lose_44 : decode cX8_lose 44 = .ok (.iaload, 1) := by decide +kernel
theorem dX8_lose_45 : decode cX8_lose 45 = .ok (.istore_n 3, 1) := by decide +kernel
theorem dX8_lose_46 : decode cX8_lose 46 = .ok (.aload_n 0, 1) := by decide +kernel
theorem dX8_lose_47 : decode cX8_lose 47 = .ok (.getfield 23, 3) := by decide +kernel
theorem dX8_lose_50 : decode cX8_lose 50 = .ok (.iload_n 1, 1) := by decide +kernel
theorem dX8_lose_51 : decode cX8_lose 51 = .ok (.iload_n 2, 1) := by decide +kernel
theorem dX8_lose_52 : decode cX8_lose 52 = .ok (.iastore, 1) := by decide +kernel
theorem dX8_lose_53 : decode cX8_lose 53 = .ok (.iload_n 3, 1) := by decide +kernel
theorem dX8_lose_54 : decode cX8_lose 54 = .ok (.ireturn, 1) := by decide +kernel
theorem dX8_crash_0 : decode cX8_crash 0 = .ok (.aload_n 0, 1) := by decide +kernel
theorem dX8_crash_1 : decode cX8_crash 1 = .ok (.iload_n 1, 1) := by decide +kernel
theorem dX8_crash_2 : decode cX8_crash 2 = .ok (.invokestatic 129, 3) := by decide +kernel
theorem dX8_crash_5 : decode cX8_crash 5 = .ok (.ifCond .eq 7, 3) := by decide +kernel
theorem dX8_crash_8 : decode cX8_crash 8 = .ok (.iconst 0, 1) := by decide +kernel
theorem dX8_crash_9 : decode cX8_crash 9 = .ok (.goto 4, 3) := by decide +kernel
theorem dX8_crash_12 : decode cX8_crash 12 = .ok (.iconst 1, 1) := by decide +kernel
theorem dX8_crash_13 : decode cX8_crash 13 = .ok (.putfield 110, 3) := by decide +kernel
theorem dX8_crash_16 : decode cX8_crash 16 = .ok (.aload_n 0, 1) := by decide +kernel
theorem dX8_crash_17 : decode cX8_crash 17 = .ok (.getfield 110, 3) := by decide +kernel
theorem dX8_crash_20 : decode cX8_crash 20 = .ok (.ifCond .le 5, 3) := by decide +kernel
theorem dX8_crash_23 : decode cX8_crash 23 = .ok (.iconst 0, 1) := by decide +kernel
theorem dX8_crash_24 : decode cX8_crash 24 = .ok (.ireturn, 1) := by decide +kernel
theorem dX8_crash_25 : decode cX8_crash 25 = .ok (.iconst 0, 1) := by decide +kernel
theorem dX8_crash_26 : decode cX8_crash 26 = .ok (.istore_n 2, 1) := by decide +kernel
theorem dX8_crash_27 : decode cX8_crash 27 = .ok (.iconst 0, 1) := by decide +kernel
theorem dX8_crash_28 : decode cX8_crash 28 = .ok (.istore_n 3, 1) := by decide +kernel
theorem dX8_crash_29 : decode cX8_crash 29 = .ok (.iload_n 3, 1) := by decide +kernel
theorem dX8_crash_30 : decode cX8_crash 30 = .ok (.bipush 10, 2) := by decide +kernel
theorem dX8_crash_32 : decode cX8_crash 32 = .ok (.if_icmp .ge 32, 3) := by decide +kernel
theorem dX8_crash_35 : decode cX8_crash 35 = .ok (.iload_n 2, 1) := by decide +kernel
theorem dX8_crash_36 : decode cX8_crash 36 = .ok (.aload_n 0, 1) := by decide +kernel
theorem dX8_crash_37 : decode cX8_crash 37 = .ok (.getfield 80, 3) := by decide +kernel
theorem dX8_crash_40 : decode cX8_crash 40 = .ok (.bipush 10, 2) := by decide +kernel
theorem dX8_crash_42 : decode cX8_crash 42 = .ok (.iload_n 1, 1) := by decide +kernel
theorem dX8_crash_43 : decode cX8_crash 43 = .ok (.imul, 1) := by decide +kernel
theorem dX8_crash_44 : decode cX8_crash 44 = .ok (.iload_n 3, 1) := by decide +kernel
theorem dX8_crash_45 : decode cX8_crash 45 = .ok (.iadd, 1) := by decide +kernel
theorem dX8_crash_46 : decode cX8_crash 46 = .ok (.iaload, 1) := by decide +kernel
theorem dX8_crash_47 : decode cX8_crash 47 = .ok (.iconst (-1), 1) := by decide +kernel
theorem dX8_crash_48 : decode cX8_crash 48 = .ok (.if_icmp .ne 7, 3) := by decide +kernel
theorem dX8_crash_51 : decode cX8_crash 51 = .ok (.iconst 0, 1) := by decide +kernel
theorem dX8_crash_52 : decode cX8_crash 52 = .ok (.goto 4, 3) := by decide +kernel
theorem dX8_crash_55 : decode cX8_crash 55 = .ok (.iconst 1, 1) := by decide +kernel
theorem dX8_crash_56 : decode cX8_crash 56 = .ok (.iadd, 1) := by decide +kernel
theorem dX8_crash_57 : decode cX8_crash 57 = .ok (.istore_n 2, 1) := by decide +kernel
theorem dX8_crash_58 : decode cX8_crash 58 = .ok (.iinc 3 1, 3) := by decide +kernel
theorem dX8_crash_61 : decode cX8_crash 61 = .ok (.goto (-32), 3) := by decide +kernel
theorem dX8_crash_64 : decode cX8_crash 64 = .ok (.aload_n 0, 1) := by decide +kernel
theorem dX8_crash_65 : decode cX8_crash 65 = .ok (.iload_n 1, 1) := by decide +kernel
theorem dX8_crash_66 : decode cX8_crash 66 = .ok (.invokevirtual 132, 3) := by decide +kernel
theorem dX8_crash_69 : decode cX8_crash 69 = .ok (.iload_n 2, 1) := by decide +kernel
theorem dX8_crash_70 : decode cX8_crash 70 = .ok (.ireturn, 1) := by decide +kernel
theorem dX8_subscriber_0 : decode cX8_subscriber 0 = .ok (.aload_n 0, 1) := by decide +kernel
theorem dX8_subscriber_1 : decode cX8_subscriber 1 = .ok (.iload_n 1, 1) := by decide +kernel
theorem dX8_subscriber_2 : decode cX8_subscriber 2 = .ok (.invokestatic 129, 3) := by decide +kernel
theorem dX8_subscriber_5 : decode cX8_subscriber 5 = .ok (.ifCond .eq 10, 3) := by decide +kernel
theorem dX8_subscriber_8 : decode cX8_subscriber 8 = .ok (.iload_n 2, 1) := by decide +kernel
theorem dX8_subscriber_9 : decode cX8_subscriber 9 = .ok (.invokestatic 121, 3) := by decide +kernel
theorem dX8_subscriber_12 : decode cX8_subscriber 12 = .ok (.ifCond .ne 7, 3) := by decide +kernel
theorem dX8_subscriber_15 : decode cX8_subscriber 15 = .ok (.iconst 1, 1) := by decide +kernel
theorem dX8_subscriber_16 : decode cX8_subscriber 16 = .ok (.goto 31, 3) := by decide +kernel
theorem dX8_subscriber_19 : decode cX8_subscriber 19 = .ok (.iload_n 3, 1) := by decide +kernel
theorem dX8_subscriber_20 : decode cX8_subscriber 20 = .ok (.iconst 0, 1) := by decide +kernel
theorem dX8_subscriber_21 : decode cX8_subscriber 21 = .ok (.bipush 63, 2) := by decide +kernel
theorem dX8_subscriber_23 : decode cX8_subscriber 23 = .ok (.invokestatic 114, 3) := by decide +kernel
theorem dX8_subscriber_26 : decode cX8_subscriber 26 = .ok (.ifCond .ne 7, 3) := by decide +kernel
theorem dX8_subscriber_29 : decode cX8_subscriber 29 = .ok (.iconst 2, 1) := by decide +kernel
theorem dX8_subscriber_30 : decode cX8_subscriber 30 = .ok (.goto 17, 3) := by decide +kernel
theorem dX8_subscriber_33 : decode cX8_subscriber 33 = .ok (.aload_n 0, 1) := by decide +kernel
theorem dX8_subscriber_34 : decode cX8_subscriber 34 = .ok (.getfield 118, 3) := by decide +kernel
theorem dX8_subscriber_37 : decode cX8_subscriber 37 = .ok (.bipush 10, 2) := by decide +kernel
theorem dX8_subscriber_39 : decode cX8_subscriber 39 = .ok (.if_icmp .ne 7, 3) := by decide +kernel
theorem dX8_subscriber_42 : decode cX8_subscriber 42 = .ok (.iconst 3, 1) := by decide +kernel
theorem dX8_subscriber_43 : decode cX8_subscriber 43 = .ok (.goto 4, 3) := by decide +kernel
theorem dX8_subscriber_46 : decode cX8_subscriber 46 = .ok (.iconst 0, 1) := by decide +kernel
theorem dX8_subscriber_47 : decode cX8_subscriber 47 = .ok (.putfield 110, 3) := by decide +kernel
theorem dX8_subscriber_50 : decode cX8_subscriber 50 = .ok (.aload_n 0, 1) := by decide +kernel
theorem dX8_subscriber_51 : decode cX8_subscriber 51 = .ok (.getfield 110, 3) := by decide +kernel
theorem dX8_subscriber_54 : decode cX8_subscriber 54 = .ok (.ifCond .le 5, 3) := by decide +kernel
theorem dX8_subscriber_57 : decode cX8_subscriber 57 = .ok (.iconst 0, 1) := by decide +kernel
theorem dX8_subscriber_58 : decode cX8_subscriber 58 = .ok (.ireturn, 1) := by decide +kernel
theorem dX8_subscriber_59 : decode cX8_subscriber 59 = .ok (.aload_n 0, 1) := by decide +kernel
theorem dX8_subscriber_60 : decode cX8_subscriber 60 = .ok (.getfield 47, 3) := by decide +kernel
theorem dX8_subscriber_63 : decode cX8_subscriber 63 = .ok (.aload_n 0, 1) := by decide +kernel
theorem dX8_subscriber_64 : decode cX8_subscriber 64 = .ok (.getfield 118, 3) := by decide +kernel
theorem dX8_subscriber_67 : decode cX8_subscriber 67 = .ok (.iload_n 1, 1) := by decide +kernel
theorem dX8_subscriber_68 : decode cX8_subscriber 68 = .ok (.iastore, 1) := by decide +kernel
theorem dX8_subscriber_69 : decode cX8_subscriber 69 = .ok (.aload_n 0, 1) := by decide +kernel
theorem dX8_subscriber_70 : decode cX8_subscriber 70 = .ok (.getfield 50, 3) := by decide +kernel
theorem dX8_subscriber_73 : decode cX8_subscriber 73 = .ok (.aload_n 0, 1) := by decide +kernel
theorem dX8_subscriber_74 : decode cX8_subscriber 74 = .ok (.getfield 118, 3) := by decide +kernel
theorem dX8_subscriber_77 : decode cX8_subscriber 77 = .ok (.iload_n 2, 1) := by decide +kernel
theorem dX8_subscriber_78 : decode cX8_subscriber 78 = .ok (.iastore, 1) := by decide +kernel
theorem dX8_subscriber_79 : decode cX8_subscriber 79 = .ok (.aload_n 0, 1) := by decide +kernel
theorem dX8_subscriber_80 : decode cX8_subscriber 80 = .ok (.getfield 53, 3) := by decide +kernel
theorem dX8_subscriber_83 : decode cX8_subscriber 83 = .ok (.aload_n 0, 1) := by decide +kernel
theorem dX8_subscriber_84 : decode cX8_subscriber 84 = .ok (.getfield 118, 3) := by decide +kernel
theorem dX8_subscriber_87 : decode cX8_subscriber 87 = .ok (.iload_n 3, 1) := by decide +kernel
theorem dX8_subscriber_88 : decode cX8_subscriber 88 = .ok (.iastore, 1) := by decide +kernel
theorem dX8_subscriber_89 : decode cX8_subscriber 89 = .ok (.aload_n 0, 1) := by decide +kernel
theorem dX8_subscriber_90 : decode cX8_subscriber 90 = .ok (.getfield 56, 3) := by decide +kernel
theorem dX8_subscriber_93 : decode cX8_subscriber 93 = .ok (.aload_n 0, 1) := by decide +kernel
theorem dX8_subscriber_94 : decode cX8_subscriber 94 = .ok (.getfield 118, 3) := by decide +kernel
theorem dX8_subscriber_97 : decode cX8_subscriber 97 = .ok (.iconst (-1), 1) := by decide +kernel
theorem dX8_subscriber_98 : decode cX8_subscriber 98 = .ok (.iastore, 1) := by decide +kernel
theorem dX8_subscriber_99 : decode cX8_subscriber 99 = .ok (.aload_n 0, 1) := by decide +kernel
theorem dX8_subscriber_100 : decode cX8_subscriber 100 = .ok (.getfield 62, 3) := by decide +kernel
theorem dX8_subscriber_103 : decode cX8_subscriber 103 = .ok (.aload_n 0, 1) := by decide +kernel
theorem dX8_subscriber_104 : decode cX8_subscriber 104 = .ok (.getfield 118, 3) := by decide +kernel
theorem dX8_subscriber_107 : decode cX8_subscriber 107 = .ok (.iconst (-1), 1) := by decide +kernel
theorem dX8_subscriber_108 : decode cX8_subscriber 108 = .ok (.iastore, 1) := by decide +kernel
theorem dX8_subscriber_109 : decode cX8_subscriber 109 = .ok (.aload_n 0, 1) := by decide +kernel
theorem dX8_subscriber_110 : decode cX8_subscriber 110 = .ok (.getfield 65, 3) := by decide +kernel
theorem dX8_subscriber_113 : decode cX8_subscriber 113 = .ok (.aload_n 0, 1) := by decide +kernel
theorem dX8_subscriber_114 : decode cX8_subscriber 114 = .ok (.getfield 118, 3) := by decide +kernel
theorem dX8_subscriber_117 : decode cX8_subscriber 117 = .ok (.sipush 5000, 3) := by decide +kernel
theorem dX8_subscriber_120 : decode cX8_subscriber 120 = .ok (.iastore, 1) := by decide +kernel
theorem dX8_subscriber_121 : decode cX8_subscriber 121 = .ok (.aload_n 0, 1) := by decide +kernel
theorem dX8_subscriber_122 : decode cX8_subscriber 122 = .ok (.dup, 1) := by decide +kernel
theorem dX8_subscriber_123 : decode cX8_subscriber 123 = .ok (.getfield 118, 3) := by decide +kernel
theorem dX8_subscriber_126 : decode cX8_subscriber 126 = .ok (.iconst 1, 1) := by decide +kernel
theorem dX8_subscriber_127 : decode cX8_subscriber 127 = .ok (.iadd, 1) := by decide +kernel
theorem dX8_subscriber_128 : decode cX8_subscriber 128 = .ok (.putfield 118, 3) := by decide +kernel
theorem dX8_subscriber_131 : decode cX8_subscriber 131 = .ok (.aload_n 0, 1) := by decide +kernel
theorem dX8_subscriber_132 : decode cX8_subscriber 132 = .ok (.getfield 118, 3) := by decide +kernel
theorem dX8_subscriber_135 : decode cX8_subscriber 135 = .ok (.iconst 1, 1) := by decide +kernel
theorem dX8_subscriber_136 : decode cX8_subscriber 136 = .ok (.isub, 1) := by decide +kernel
theorem dX8_subscriber_137 : decode cX8_subscriber 137 = .ok (.ireturn, 1) := by decide +kernel
theorem dX8_move_0 : decode cX8_move 0 = .ok (.aload_n 0, 1) := by decide +kernel
theorem dX8_move_1 : decode cX8_move 1 = .ok (.aload_n 0, 1) := by decide +kernel
theorem dX8_move_2 : decode cX8_move 2 = .ok (.iload_n 1, 1) := by decide +kernel
theorem dX8_move_3 : decode cX8_move 3 = .ok (.invokevirtual 144, 3) := by decide +kernel
theorem dX8_move_6 : decode cX8_move 6 = .ok (.ifCond .eq 14, 3) := by decide +kernel
theorem dX8_move_9 : decode cX8_move 9 = .ok (.iload_n 2, 1) := by decide +kernel
theorem dX8_move_10 : decode cX8_move 10 = .ok (.invokestatic 121, 3) := by decide +kernel
theorem dX8_move_13 : decode cX8_move 13 = .ok (.ifCond .eq 7, 3) := by decide +kernel
theorem dX8_move_16 : decode cX8_move 16 = .ok (.iconst 0, 1) := by decide +kernel
theorem dX8_move_17 : decode cX8_move 17 = .ok (.goto 4, 3) := by decide +kernel
theorem dX8_move_20 : decode cX8_move 20 = .ok (.iconst 1, 1) := by decide +kernel
theorem dX8_move_21 : decode cX8_move 21 = .ok (.putfield 110, 3) := by decide +kernel
theorem dX8_move_24 : decode cX8_move 24 = .ok (.aload_n 0, 1) := by decide +kernel
theorem dX8_move_25 : decode cX8_move 25 = .ok (.getfield 110, 3) := by decide +kernel
theorem dX8_move_28 : decode cX8_move 28 = .ok (.ifCond .le 5, 3) := by decide +kernel
theorem dX8_move_31 : decode cX8_move 31 = .ok (.iconst 0, 1) := by decide +kernel
theorem dX8_move_32 : decode cX8_move 32 = .ok (.ireturn, 1) := by decide +kernel
theorem dX8_move_33 : decode cX8_move 33 = .ok (.aload_n 0, 1) := by decide +kernel
theorem dX8_move_34 : decode cX8_move 34 = .ok (.getfield 50, 3) := by decide +kernel
theorem dX8_move_37 : decode cX8_move 37 = .ok (.iload_n 1, 1) := by decide +kernel
theorem dX8_move_38 : decode cX8_move 38 = .ok (.iload_n 2, 1) := by decide +kernel
theorem dX8_move_39 : decode cX8_move 39 = .ok (.iastore, 1) := by decide +kernel
theorem dX8_move_40 : decode cX8_move 40 = .ok (.aload_n 0, 1) := by decide +kernel
theorem dX8_move_41 : decode cX8_move 41 = .ok (.getfield 59, 3) := by decide +kernel
theorem dX8_move_44 : decode cX8_move 44 = .ok (.iload_n 1, 1) := by decide +kernel
theorem dX8_move_45 : decode cX8_move 45 = .ok (.iconst 0, 1) := by decide +kernel
theorem dX8_move_46 : decode cX8_move 46 = .ok (.iastore, 1) := by decide +kernel
theorem dX8_move_47 : decode cX8_move 47 = .ok (.aload_n 0, 1) := by decide +kernel
theorem dX8_move_48 : decode cX8_move 48 = .ok (.getfield 56, 3) := by decide +kernel
theorem dX8_move_51 : decode cX8_move 51 = .ok (.iload_n 1, 1) := by decide +kernel
theorem dX8_move_52 : decode cX8_move 52 = .ok (.iaload, 1) := by decide +kernel
theorem dX8_move_53 : decode cX8_move 53 = .ok (.iconst (-1), 1) := by decide +kernel
theorem dX8_move_54 : decode cX8_move 54 = .ok (.if_icmp .eq 28, 3) := by decide +kernel
theorem dX8_move_57 : decode cX8_move 57 = .ok (.aload_n 0, 1) := by decide +kernel
theorem dX8_move_58 : decode cX8_move 58 = .ok (.getfield 7, 3) := by decide +kernel
theorem dX8_move_61 : decode cX8_move 61 = .ok (.iload_n 2, 1) := by decide +kernel
theorem dX8_move_62 : decode cX8_move 62 = .ok (.iaload, 1) := by decide +kernel
theorem dX8_move_63 : decode cX8_move 63 = .ok (.aload_n 0, 1) := by decide +kernel
theorem dX8_move_64 : decode cX8_move 64 = .ok (.getfield 56, 3) := by decide +kernel
theorem dX8_move_67 : decode cX8_move 67 = .ok (.iload_n 1, 1) := by decide +kernel
theorem dX8_move_68 : decode cX8_move 68 = .ok (.iaload, 1) := by decide +kernel
theorem dX8_move_69 : decode cX8_move 69 = .ok (.invokestatic 125, 3) := by decide +kernel
theorem dX8_move_72 : decode cX8_move 72 = .ok (.ifCond .ne 10, 3) := by decide +kernel
theorem dX8_move_75 : decode cX8_move 75 = .ok (.aload_n 0, 1) := by decide +kernel
theorem dX8_move_76 : decode cX8_move 76 = .ok (.getfield 56, 3) := by decide +kernel
theorem dX8_move_79 : decode cX8_move 79 = .ok (.iload_n 1, 1) := by decide +kernel
theorem dX8_move_80 : decode cX8_move 80 = .ok (.iconst (-1), 1) := by decide +kernel
theorem dX8_move_81 : decode cX8_move 81 = .ok (.iastore, 1) := by decide +kernel
theorem dX8_move_82 : decode cX8_move 82 = .ok (.aload_n 0, 1) := by decide +kernel
theorem dX8_move_83 : decode cX8_move 83 = .ok (.getfield 56, 3) := by decide +kernel
theorem dX8_move_86 : decode cX8_move 86 = .ok (.iload_n 1, 1) := by decide +kernel
theorem dX8_move_87 : decode cX8_move 87 = .ok (.iaload, 1) := by decide +kernel
theorem dX8_move_88 : decode cX8_move 88 = .ok (.ireturn, 1) := by decide +kernel
theorem dX8_off_0 : decode cX8_off 0 = .ok (.aload_n 0, 1) := by decide +kernel
theorem dX8_off_1 : decode cX8_off 1 = .ok (.aload_n 0, 1) := by decide +kernel
theorem dX8_off_2 : decode cX8_off 2 = .ok (.iload_n 1, 1) := by decide +kernel
theorem dX8_off_3 : decode cX8_off 3 = .ok (.invokevirtual 144, 3) := by decide +kernel
theorem dX8_off_6 : decode cX8_off 6 = .ok (.ifCond .eq 7, 3) := by decide +kernel
theorem dX8_off_9 : decode cX8_off 9 = .ok (.iconst 0, 1) := by decide +kernel
theorem dX8_off_10 : decode cX8_off 10 = .ok (.goto 4, 3) := by decide +kernel
theorem dX8_off_13 : decode cX8_off 13 = .ok (.iconst 1, 1) := by decide +kernel
theorem dX8_off_14 : decode cX8_off 14 = .ok (.putfield 110, 3) := by decide +kernel
theorem dX8_off_17 : decode cX8_off 17 = .ok (.aload_n 0, 1) := by decide +kernel
theorem dX8_off_18 : decode cX8_off 18 = .ok (.getfield 110, 3) := by decide +kernel
theorem dX8_off_21 : decode cX8_off 21 = .ok (.ifCond .le 5, 3) := by decide +kernel
theorem dX8_off_24 : decode cX8_off 24 = .ok (.iconst 0, 1) := by decide +kernel
theorem dX8_off_25 : decode cX8_off 25 = .ok (.ireturn, 1) := by decide +kernel
theorem dX8_off_26 : decode cX8_off 26 = .ok (.aload_n 0, 1) := by decide +kernel
theorem dX8_off_27 : decode cX8_off 27 = .ok (.getfield 56, 3) := by decide +kernel
theorem dX8_off_30 : decode cX8_off 30 = .ok (.iload_n 1, 1) := by decide +kernel
theorem dX8_off_31 : decode cX8_off 31 = .ok (.iaload, 1) := by decide +kernel
theorem dX8_off_32 : decode cX8_off 32 = .ok (.istore_n 2, 1) := by decide +kernel
theorem dX8_off_33 : decode cX8_off 33 = .ok (.aload_n 0, 1) := by decide +kernel
theorem dX8_off_34 : decode cX8_off 34 = .ok (.getfield 56, 3) := by decide +kernel
theorem dX8_off_37 : decode cX8_off 37 = .ok (.iload_n 1, 1) := by decide +kernel
theorem dX8_off_38 : decode cX8_off 38 = .ok (.iconst (-1), 1) := by decide +kernel
theorem dX8_off_39 : decode cX8_off 39 = .ok (.iastore, 1) := by decide +kernel
theorem dX8_off_40 : decode cX8_off 40 = .ok (.iload_n 2, 1) := by decide +kernel
theorem dX8_off_41 : decode cX8_off 41 = .ok (.ireturn, 1) := by decide +kernel
theorem dX8_reason_0 : decode cX8_reason 0 = .ok (.aload_n 0, 1) := by decide +kernel
theorem dX8_reason_1 : decode cX8_reason 1 = .ok (.getfield 7, 3) := by decide +kernel
theorem dX8_reason_4 : decode cX8_reason 4 = .ok (.aload_n 0, 1) := by decide +kernel
theorem dX8_reason_5 : decode cX8_reason 5 = .ok (.getfield 50, 3) := by decide +kernel
theorem dX8_reason_8 : decode cX8_reason 8 = .ok (.iload_n 1, 1) := by decide +kernel
theorem dX8_reason_9 : decode cX8_reason 9 = .ok (.iaload, 1) := by decide +kernel
theorem dX8_reason_10 : decode cX8_reason 10 = .ok (.iaload, 1) := by decide +kernel
theorem dX8_reason_11 : decode cX8_reason 11 = .ok (.iload_n 2, 1) := by decide +kernel
theorem dX8_reason_12 : decode cX8_reason 12 = .ok (.invokestatic 125, 3) := by decide +kernel
theorem dX8_reason_15 : decode cX8_reason 15 = .ok (.ifCond .ne 5, 3) := by decide +kernel
theorem dX8_reason_18 : decode cX8_reason 18 = .ok (.iconst 1, 1) := by decide +kernel
theorem dX8_reason_19 : decode cX8_reason 19 = .ok (.ireturn, 1) := by decide +kernel
theorem dX8_reason_20 : decode cX8_reason 20 = .ok (.aload_n 0, 1) := by decide +kernel
theorem dX8_reason_21 : decode cX8_reason 21 = .ok (.getfield 13, 3) := by decide +kernel
theorem dX8_reason_24 : decode cX8_reason 24 = .ok (.iload_n 2, 1) := by decide +kernel
theorem dX8_reason_25 : decode cX8_reason 25 = .ok (.baload, 1) := by decide +kernel
theorem dX8_reason_26 : decode cX8_reason 26 = .ok (.ifCond .eq 5, 3) := by decide +kernel
theorem dX8_reason_29 : decode cX8_reason 29 = .ok (.iconst 2, 1) := by decide +kernel
theorem dX8_reason_30 : decode cX8_reason 30 = .ok (.ireturn, 1) := by decide +kernel
theorem dX8_reason_31 : decode cX8_reason 31 = .ok (.aload_n 0, 1) := by decide +kernel
theorem dX8_reason_32 : decode cX8_reason 32 = .ok (.getfield 53, 3) := by decide +kernel
theorem dX8_reason_35 : decode cX8_reason 35 = .ok (.iload_n 1, 1) := by decide +kernel
theorem dX8_reason_36 : decode cX8_reason 36 = .ok (.iaload, 1) := by decide +kernel
theorem dX8_reason_37 : decode cX8_reason 37 = .ok (.iload_n 2, 1) := by decide +kernel
theorem dX8_reason_38 : decode cX8_reason 38 = .ok (.invokestatic 125, 3) := by decide +kernel
theorem dX8_reason_41 : decode cX8_reason 41 = .ok (.ifCond .eq 7, 3) := by decide +kernel
theorem dX8_reason_44 : decode cX8_reason 44 = .ok (.iconst 3, 1) := by decide +kernel
theorem dX8_reason_45 : decode cX8_reason 45 = .ok (.goto 33, 3) := by decide +kernel
theorem dX8_reason_48 : decode cX8_reason 48 = .ok (.iload_n 2, 1) := by decide +kernel
theorem dX8_reason_49 : decode cX8_reason 49 = .ok (.aload_n 0, 1) := by decide +kernel
theorem dX8_reason_50 : decode cX8_reason 50 = .ok (.getfield 47, 3) := by decide +kernel
theorem dX8_reason_53 : decode cX8_reason 53 = .ok (.iload_n 1, 1) := by decide +kernel
theorem dX8_reason_54 : decode cX8_reason 54 = .ok (.iaload, 1) := by decide +kernel
theorem dX8_reason_55 : decode cX8_reason 55 = .ok (.if_icmp .eq 22, 3) := by decide +kernel
theorem dX8_reason_58 : decode cX8_reason 58 = .ok (.aload_n 0, 1) := by decide +kernel
theorem dX8_reason_59 : decode cX8_reason 59 = .ok (.aload_n 0, 1) := by decide +kernel
theorem dX8_reason_60 : decode cX8_reason 60 = .ok (.getfield 47, 3) := by decide +kernel
theorem dX8_reason_63 : decode cX8_reason 63 = .ok (.iload_n 1, 1) := by decide +kernel
theorem dX8_reason_64 : decode cX8_reason 64 = .ok (.iaload, 1) := by decide +kernel
theorem dX8_reason_65 : decode cX8_reason 65 = .ok (.iload_n 2, 1) := by decide +kernel
theorem dX8_reason_66 : decode cX8_reason 66 = .ok (.invokevirtual 147, 3) := by decide +kernel
theorem dX8_reason_69 : decode cX8_reason 69 = .ok (.iconst (-1), 1) := by decide +kernel
theorem dX8_reason_70 : decode cX8_reason 70 = .ok (.if_icmp .ne 7, 3) := by decide +kernel
theorem dX8_reason_73 : decode cX8_reason 73 = .ok (.iconst 4, 1) := by decide +kernel
theorem dX8_reason_74 : decode cX8_reason 74 = .ok (.goto 4, 3) := by decide +kernel
theorem dX8_reason_77 : decode cX8_reason 77 = .ok (.iconst 0, 1) := by decide +kernel
theorem dX8_reason_78 : decode cX8_reason 78 = .ok (.ireturn, 1) := by decide +kernel
theorem dX8_isSteered_0 : decode cX8_isSteered 0 = .ok (.aload_n 0, 1) := by decide +kernel
theorem dX8_isSteered_1 : decode cX8_isSteered 1 = .ok (.getfield 17, 3) := by decide +kernel
theorem dX8_isSteered_4 : decode cX8_isSteered 4 = .ok (.aload_n 0, 1) := by decide +kernel
theorem dX8_isSteered_5 : decode cX8_isSteered 5 = .ok (.getfield 47, 3) := by decide +kernel
theorem dX8_isSteered_8 : decode cX8_isSteered 8 = .ok (.iload_n 1, 1) := by decide +kernel
theorem dX8_isSteered_9 : decode cX8_isSteered 9 = .ok (.iaload, 1) := by decide +kernel
theorem dX8_isSteered_10 : decode cX8_isSteered 10 = .ok (.iaload, 1) := by decide +kernel
theorem dX8_isSteered_11 : decode cX8_isSteered 11 = .ok (.istore_n 3, 1) := by decide +kernel
theorem dX8_isSteered_12 : decode cX8_isSteered 12 = .ok (.iload_n 3, 1) := by decide +kernel
theorem dX8_isSteered_13 : decode cX8_isSteered 13 = .ok (.iconst (-1), 1) := by decide +kernel
theorem dX8_isSteered_14 : decode cX8_isSteered 14 = .ok (.if_icmp .eq 31, 3) := by decide +kernel
theorem dX8_isSteered_17 : decode cX8_isSteered 17 = .ok (.iload_n 3, 1) := by decide +kernel
theorem dX8_isSteered_18 : decode cX8_isSteered 18 = .ok (.iload_n 2, 1) := by decide +kernel
theorem dX8_isSteered_19 : decode cX8_isSteered 19 = .ok (.if_icmp .eq 26, 3) := by decide +kernel
theorem dX8_isSteered_22 : decode cX8_isSteered 22 = .ok (.aload_n 0, 1) := by decide +kernel
theorem dX8_isSteered_23 : decode cX8_isSteered 23 = .ok (.iload_n 1, 1) := by decide +kernel
theorem dX8_isSteered_24 : decode cX8_isSteered 24 = .ok (.iload_n 3, 1) := by decide +kernel
theorem dX8_isSteered_25 : decode cX8_isSteered 25 = .ok (.invokevirtual 151, 3) := by decide +kernel
theorem dX8_isSteered_28 : decode cX8_isSteered 28 = .ok (.ifCond .ne 17, 3) := by decide +kernel
theorem dX8_isSteered_31 : decode cX8_isSteered 31 = .ok (.aload_n 0, 1) := by decide +kernel
theorem dX8_isSteered_32 : decode cX8_isSteered 32 = .ok (.getfield 59, 3) := by decide +kernel
theorem dX8_isSteered_35 : decode cX8_isSteered 35 = .ok (.iload_n 1, 1) := by decide +kernel
theorem dX8_isSteered_36 : decode cX8_isSteered 36 = .ok (.iaload, 1) := by decide +kernel
theorem dX8_isSteered_37 : decode cX8_isSteered 37 = .ok (.iconst 2, 1) := by decide +kernel
theorem dX8_isSteered_38 : decode cX8_isSteered 38 = .ok (.if_icmp .ge 7, 3) := by decide +kernel
theorem dX8_isSteered_41 : decode cX8_isSteered 41 = .ok (.iconst 1, 1) := by decide +kernel
theorem dX8_isSteered_42 : decode cX8_isSteered 42 = .ok (.goto 4, 3) := by decide +kernel
theorem dX8_isSteered_45 : decode cX8_isSteered 45 = .ok (.iconst 0, 1) := by decide +kernel
theorem dX8_isSteered_46 : decode cX8_isSteered 46 = .ok (.ireturn, 1) := by decide +kernel
theorem dX8_makesContact_0 : decode cX8_makesContact 0 = .ok (.aload_n 0, 1) := by decide +kernel
theorem dX8_makesContact_1 : decode cX8_makesContact 1 = .ok (.getfield 56, 3) := by decide +kernel
theorem dX8_makesContact_4 : decode cX8_makesContact 4 = .ok (.iload_n 1, 1) := by decide +kernel
theorem dX8_makesContact_5 : decode cX8_makesContact 5 = .ok (.iaload, 1) := by decide +kernel
theorem dX8_makesContact_6 : decode cX8_makesContact 6 = .ok (.istore_n 2, 1) := by decide +kernel
theorem dX8_makesContact_7 : decode cX8_makesContact 7 = .ok (.aload_n 0, 1) := by decide +kernel
theorem dX8_makesContact_8 : decode cX8_makesContact 8 = .ok (.getfield 80, 3) := by decide +kernel
theorem dX8_makesContact_11 : decode cX8_makesContact 11 = .ok (.bipush 10, 2) := by decide +kernel
theorem dX8_makesContact_13 : decode cX8_makesContact 13 = .ok (.iload_n 2, 1) := by decide +kernel
theorem dX8_makesContact_14 : decode cX8_makesContact 14 = .ok (.imul, 1) := by decide +kernel
theorem dX8_makesContact_15 : decode cX8_makesContact 15 = .ok (.iload_n 1, 1) := by decide +kernel
theorem dX8_makesContact_16 : decode cX8_makesContact 16 = .ok (.iadd, 1) := by decide +kernel
theorem dX8_makesContact_17 : decode cX8_makesContact 17 = .ok (.aload_n 0, 1) := by decide +kernel
theorem dX8_makesContact_18 : decode cX8_makesContact 18 = .ok (.getfield 141, 3) := by decide +kernel
theorem dX8_makesContact_21 : decode cX8_makesContact 21 = .ok (.iastore, 1) := by decide +kernel
theorem dX8_makesContact_22 : decode cX8_makesContact 22 = .ok (.aload_n 0, 1) := by decide +kernel
theorem dX8_makesContact_23 : decode cX8_makesContact 23 = .ok (.getfield 23, 3) := by decide +kernel
theorem dX8_makesContact_26 : decode cX8_makesContact 26 = .ok (.iload_n 2, 1) := by decide +kernel
theorem dX8_makesContact_27 : decode cX8_makesContact 27 = .ok (.iaload, 1) := by decide +kernel
theorem dX8_makesContact_28 : decode cX8_makesContact 28 = .ok (.ifCond .le 14, 3) := by decide +kernel
theorem dX8_makesContact_31 : decode cX8_makesContact 31 = .ok (.aload_n 0, 1) := by decide +kernel
theorem dX8_makesContact_32 : decode cX8_makesContact 32 = .ok (.getfield 23, 3) := by decide +kernel
theorem dX8_makesContact_35 : decode cX8_makesContact 35 = .ok (.iload_n 2, 1) := by decide +kernel
theorem dX8_makesContact_36 : decode cX8_makesContact 36 = .ok (.dup2, 1) := by decide +kernel
theorem dX8_makesContact_37 : decode cX8_makesContact 37 = .ok (.iaload, 1) := by decide +kernel
theorem dX8_makesContact_38 : decode cX8_makesContact 38 = .ok (.iconst 1, 1) := by decide +kernel
theorem dX8_makesContact_39 : decode cX8_makesContact 39 = .ok (.isub, 1) := by decide +kernel
theorem dX8_makesContact_40 : decode cX8_makesContact 40 = .ok (.iastore, 1) := by decide +kernel
theorem dX8_makesContact_41 : decode cX8_makesContact 41 = .ok (.return_, 1) := by decide +kernel
theorem dX8_makesContact_42 : decode cX8_makesContact 42 = .ok (.aload_n 0, 1) := by decide +kernel
theorem dX8_makesContact_43 : decode cX8_makesContact 43 = .ok (.getfield 62, 3) := by decide +kernel
theorem dX8_makesContact_46 : decode cX8_makesContact 46 = .ok (.iload_n 1, 1) := by decide +kernel
theorem dX8_makesContact_47 : decode cX8_makesContact 47 = .ok (.iaload, 1) := by decide +kernel
theorem dX8_makesContact_48 : decode cX8_makesContact 48 = .ok (.iconst (-1), 1) := by decide +kernel
theorem dX8_makesContact_49 : decode cX8_makesContact 49 = .ok (.if_icmp .eq 30, 3) := by decide +kernel
theorem dX8_makesContact_52 : decode cX8_makesContact 52 = .ok (.aload_n 0, 1) := by decide +kernel
theorem dX8_makesContact_53 : decode cX8_makesContact 53 = .ok (.getfield 62, 3) := by decide +kernel
theorem dX8_makesContact_56 : decode cX8_makesContact 56 = .ok (.iload_n 1, 1) := by decide +kernel
theorem dX8_makesContact_57 : decode cX8_makesContact 57 = .ok (.iaload, 1) := by decide +kernel
theorem dX8_makesContact_58 : decode cX8_makesContact 58 = .ok (.iload_n 2, 1) := by decide +kernel
theorem dX8_makesContact_59 : decode cX8_makesContact 59 = .ok (.if_icmp .eq 20, 3) := by decide +kernel
theorem dX8_makesContact_62 : decode cX8_makesContact 62 = .ok (.aload_n 0, 1) := by decide +kernel
theorem dX8_makesContact_63 : decode cX8_makesContact 63 = .ok (.getfield 80, 3) := by decide +kernel
theorem dX8_makesContact_66 : decode cX8_makesContact 66 = .ok (.bipush 10, 2) := by decide +kernel
theorem dX8_makesContact_68 : decode cX8_makesContact 68 = .ok (.aload_n 0, 1) := by decide +kernel
theorem dX8_makesContact_69 : decode cX8_makesContact 69 = .ok (.getfield 62, 3) := by decide +kernel
theorem dX8_makesContact_72 : decode cX8_makesContact 72 = .ok (.iload_n 1, 1) := by decide +kernel
theorem dX8_makesContact_73 : decode cX8_makesContact 73 = .ok (.iaload, 1) := by decide +kernel
theorem dX8_makesContact_74 : decode cX8_makesContact 74 = .ok (.imul, 1) := by decide +kernel
theorem dX8_makesContact_75 : decode cX8_makesContact 75 = .ok (.iload_n 1, 1) := by decide +kernel
theorem dX8_makesContact_76 : decode cX8_makesContact 76 = .ok (.iadd, 1) := by decide +kernel
theorem dX8_makesContact_77 : decode cX8_makesContact 77 = .ok (.iconst (-1), 1) := by decide +kernel
theorem dX8_makesContact_78 : decode cX8_makesContact 78 = .ok (.iastore, 1) := by decide +kernel
theorem dX8_makesContact_79 : decode cX8_makesContact 79 = .ok (.aload_n 0, 1) := by decide +kernel
theorem dX8_makesContact_80 : decode cX8_makesContact 80 = .ok (.getfield 62, 3) := by decide +kernel
theorem dX8_makesContact_83 : decode cX8_makesContact 83 = .ok (.iload_n 1, 1) := by decide +kernel
theorem dX8_makesContact_84 : decode cX8_makesContact 84 = .ok (.iload_n 2, 1) := by decide +kernel
theorem dX8_makesContact_85 : decode cX8_makesContact 85 = .ok (.iastore, 1) := by decide +kernel
theorem dX8_makesContact_86 : decode cX8_makesContact 86 = .ok (.return_, 1) := by decide +kernel
theorem dX8_attach_0 : decode cX8_attach 0 = .ok (.aload_n 0, 1) := by decide +kernel
theorem dX8_attach_1 : decode cX8_attach 1 = .ok (.aload_n 0, 1) := by decide +kernel
theorem dX8_attach_2 : decode cX8_attach 2 = .ok (.iload_n 1, 1) := by decide +kernel
theorem dX8_attach_3 : decode cX8_attach 3 = .ok (.invokevirtual 144, 3) := by decide +kernel
theorem dX8_attach_6 : decode cX8_attach 6 = .ok (.ifCond .eq 10, 3) := by decide +kernel
theorem dX8_attach_9 : decode cX8_attach 9 = .ok (.iload_n 2, 1) := by decide +kernel
theorem dX8_attach_10 : decode cX8_attach 10 = .ok (.invokestatic 129, 3) := by decide +kernel
theorem dX8_attach_13 : decode cX8_attach 13 = .ok (.ifCond .ne 7, 3) := by decide +kernel
theorem dX8_attach_16 : decode cX8_attach 16 = .ok (.iconst 1, 1) := by decide +kernel
theorem dX8_attach_17 : decode cX8_attach 17 = .ok (.goto 18, 3) := by decide +kernel
theorem dX8_attach_20 : decode cX8_attach 20 = .ok (.aload_n 0, 1) := by decide +kernel
theorem dX8_attach_21 : decode cX8_attach 21 = .ok (.getfield 56, 3) := by decide +kernel
theorem dX8_attach_24 : decode cX8_attach 24 = .ok (.iload_n 1, 1) := by decide +kernel
theorem dX8_attach_25 : decode cX8_attach 25 = .ok (.iaload, 1) := by decide +kernel
theorem dX8_attach_26 : decode cX8_attach 26 = .ok (.iload_n 2, 1) := by decide +kernel
theorem dX8_attach_27 : decode cX8_attach 27 = .ok (.if_icmp .ne 7, 3) := by decide +kernel
theorem dX8_attach_30 : decode cX8_attach 30 = .ok (.iconst 2, 1) := by decide +kernel
theorem dX8_attach_31 : decode cX8_attach 31 = .ok (.goto 4, 3) := by decide +kernel
theorem dX8_attach_34 : decode cX8_attach 34 = .ok (.iconst 0, 1) := by decide +kernel
theorem dX8_attach_35 : decode cX8_attach 35 = .ok (.putfield 110, 3) := by decide +kernel
theorem dX8_attach_38 : decode cX8_attach 38 = .ok (.aload_n 0, 1) := by decide +kernel
theorem dX8_attach_39 : decode cX8_attach 39 = .ok (.getfield 110, 3) := by decide +kernel
theorem dX8_attach_42 : decode cX8_attach 42 = .ok (.ifCond .le 5, 3) := by decide +kernel
theorem dX8_attach_45 : decode cX8_attach 45 = .ok (.iconst 0, 1) := by decide +kernel
theorem dX8_attach_46 : decode cX8_attach 46 = .ok (.ireturn, 1) := by decide +kernel
theorem dX8_attach_47 : decode cX8_attach 47 = .ok (.aload_n 0, 1) := by decide +kernel
theorem dX8_attach_48 : decode cX8_attach 48 = .ok (.iload_n 1, 1) := by decide +kernel
theorem dX8_attach_49 : decode cX8_attach 49 = .ok (.iload_n 2, 1) := by decide +kernel
theorem dX8_attach_50 : decode cX8_attach 50 = .ok (.invokevirtual 151, 3) := by decide +kernel
theorem dX8_attach_53 : decode cX8_attach 53 = .ok (.istore_n 3, 1) := by decide +kernel
theorem dX8_attach_54 : decode cX8_attach 54 = .ok (.iload_n 3, 1) := by decide +kernel
theorem dX8_attach_55 : decode cX8_attach 55 = .ok (.ifCond .ne 24, 3) := by decide +kernel
theorem dX8_attach_58 : decode cX8_attach 58 = .ok (.aload_n 0, 1) := by decide +kernel
theorem dX8_attach_59 : decode cX8_attach 59 = .ok (.iload_n 1, 1) := by decide +kernel
theorem dX8_attach_60 : decode cX8_attach 60 = .ok (.iload_n 2, 1) := by decide +kernel
theorem dX8_attach_61 : decode cX8_attach 61 = .ok (.invokevirtual 154, 3) := by decide +kernel
theorem dX8_attach_64 : decode cX8_attach 64 = .ok (.ifCond .eq 15, 3) := by decide +kernel
theorem dX8_attach_67 : decode cX8_attach 67 = .ok (.aload_n 0, 1) := by decide +kernel
theorem dX8_attach_68 : decode cX8_attach 68 = .ok (.getfield 59, 3) := by decide +kernel
theorem dX8_attach_71 : decode cX8_attach 71 = .ok (.iload_n 1, 1) := by decide +kernel
theorem dX8_attach_72 : decode cX8_attach 72 = .ok (.dup2, 1) := by decide +kernel
theorem dX8_attach_73 : decode cX8_attach 73 = .ok (.iaload, 1) := by decide +kernel
theorem dX8_attach_74 : decode cX8_attach 74 = .ok (.iconst 1, 1) := by decide +kernel
theorem dX8_attach_75 : decode cX8_attach 75 = .ok (.iadd, 1) := by decide +kernel
theorem dX8_attach_76 : decode cX8_attach 76 = .ok (.iastore, 1) := by decide +kernel
theorem dX8_attach_77 : decode cX8_attach 77 = .ok (.iconst 5, 1) := by decide +kernel
theorem dX8_attach_78 : decode cX8_attach 78 = .ok (.istore_n 3, 1) := by decide +kernel
theorem dX8_attach_79 : decode cX8_attach 79 = .ok (.iload_n 3, 1) := by decide +kernel
theorem dX8_attach_80 : decode cX8_attach 80 = .ok (.ifCond .ne 22, 3) := by decide +kernel
theorem dX8_attach_83 : decode cX8_attach 83 = .ok (.aload_n 0, 1) := by decide +kernel
theorem dX8_attach_84 : decode cX8_attach 84 = .ok (.getfield 56, 3) := by decide +kernel
theorem dX8_attach_87 : decode cX8_attach 87 = .ok (.iload_n 1, 1) := by decide +kernel
theorem dX8_attach_88 : decode cX8_attach 88 = .ok (.iload_n 2, 1) := by decide +kernel
theorem dX8_attach_89 : decode cX8_attach 89 = .ok (.iastore, 1) := by decide +kernel
theorem dX8_attach_90 : decode cX8_attach 90 = .ok (.aload_n 0, 1) := by decide +kernel
theorem dX8_attach_91 : decode cX8_attach 91 = .ok (.getfield 59, 3) := by decide +kernel
theorem dX8_attach_94 : decode cX8_attach 94 = .ok (.iload_n 1, 1) := by decide +kernel
theorem dX8_attach_95 : decode cX8_attach 95 = .ok (.iconst 0, 1) := by decide +kernel
theorem dX8_attach_96 : decode cX8_attach 96 = .ok (.iastore, 1) := by decide +kernel
theorem dX8_attach_97 : decode cX8_attach 97 = .ok (.aload_n 0, 1) := by decide +kernel
theorem dX8_attach_98 : decode cX8_attach 98 = .ok (.iload_n 1, 1) := by decide +kernel
theorem dX8_attach_99 : decode cX8_attach 99 = .ok (.invokevirtual 157, 3) := by decide +kernel
theorem dX8_attach_102 : decode cX8_attach 102 = .ok (.iload_n 3, 1) := by decide +kernel
theorem dX8_attach_103 : decode cX8_attach 103 = .ok (.ireturn, 1) := by decide +kernel
theorem dX8_emergency_0 : decode cX8_emergency 0 = .ok (.aload_n 0, 1) := by decide +kernel
theorem dX8_emergency_1 : decode cX8_emergency 1 = .ok (.aload_n 0, 1) := by decide +kernel
theorem dX8_emergency_2 : decode cX8_emergency 2 = .ok (.iload_n 1, 1) := by decide +kernel
theorem dX8_emergency_3 : decode cX8_emergency 3 = .ok (.invokevirtual 144, 3) := by decide +kernel
theorem dX8_emergency_6 : decode cX8_emergency 6 = .ok (.ifCond .eq 7, 3) := by decide +kernel
theorem dX8_emergency_9 : decode cX8_emergency 9 = .ok (.iconst 0, 1) := by decide +kernel
theorem dX8_emergency_10 : decode cX8_emergency 10 = .ok (.goto 4, 3) := by decide +kernel
theorem dX8_emergency_13 : decode cX8_emergency 13 = .ok (.iconst 1, 1) := by decide +kernel
theorem dX8_emergency_14 : decode cX8_emergency 14 = .ok (.putfield 110, 3) := by decide +kernel
theorem dX8_emergency_17 : decode cX8_emergency 17 = .ok (.aload_n 0, 1) := by decide +kernel
theorem dX8_emergency_18 : decode cX8_emergency 18 = .ok (.getfield 110, 3) := by decide +kernel
theorem dX8_emergency_21 : decode cX8_emergency 21 = .ok (.ifCond .le 5, 3) := by decide +kernel
theorem dX8_emergency_24 : decode cX8_emergency 24 = .ok (.iconst 0, 1) := by decide +kernel
theorem dX8_emergency_25 : decode cX8_emergency 25 = .ok (.ireturn, 1) := by decide +kernel
theorem dX8_emergency_26 : decode cX8_emergency 26 = .ok (.aload_n 0, 1) := by decide +kernel
theorem dX8_emergency_27 : decode cX8_emergency 27 = .ok (.getfield 56, 3) := by decide +kernel
theorem dX8_emergency_30 : decode cX8_emergency 30 = .ok (.iload_n 1, 1) := by decide +kernel
theorem dX8_emergency_31 : decode cX8_emergency 31 = .ok (.iaload, 1) := by decide +kernel
theorem dX8_emergency_32 : decode cX8_emergency 32 = .ok (.istore_n 2, 1) := by decide +kernel
theorem dX8_emergency_33 : decode cX8_emergency 33 = .ok (.iconst 0, 1) := by decide +kernel
theorem dX8_emergency_34 : decode cX8_emergency 34 = .ok (.istore_n 3, 1) := by decide +kernel
theorem dX8_emergency_35 : decode cX8_emergency 35 = .ok (.iload_n 3, 1) := by decide +kernel
theorem dX8_emergency_36 : decode cX8_emergency 36 = .ok (.bipush 6, 2) := by decide +kernel
theorem dX8_emergency_38 : decode cX8_emergency 38 = .ok (.if_icmp .ge 47, 3) := by decide +kernel
theorem dX8_emergency_41 : decode cX8_emergency 41 = .ok (.iload_n 2, 1) := by decide +kernel
theorem dX8_emergency_42 : decode cX8_emergency 42 = .ok (.iconst (-1), 1) := by decide +kernel
theorem dX8_emergency_43 : decode cX8_emergency 43 = .ok (.if_icmp .ne 34, 3) := by decide +kernel
theorem dX8_emergency_46 : decode cX8_emergency 46 = .ok (.aload_n 0, 1) := by decide +kernel
theorem dX8_emergency_47 : decode cX8_emergency 47 = .ok (.getfield 7, 3) := by decide +kernel
theorem dX8_emergency_50 : decode cX8_emergency 50 = .ok (.aload_n 0, 1) := by decide +kernel
theorem dX8_emergency_51 : decode cX8_emergency 51 = .ok (.getfield 50, 3) := by decide +kernel
theorem dX8_emergency_54 : decode cX8_emergency 54 = .ok (.iload_n 1, 1) := by decide +kernel
theorem dX8_emergency_55 : decode cX8_emergency 55 = .ok (.iaload, 1) := by decide +kernel
theorem dX8_emergency_56 : decode cX8_emergency 56 = .ok (.iaload, 1) := by decide +kernel
theorem dX8_emergency_57 : decode cX8_emergency 57 = .ok (.iload_n 3, 1) := by decide +kernel
theorem dX8_emergency_58 : decode cX8_emergency 58 = .ok (.invokestatic 125, 3) := by decide +kernel
theorem dX8_emergency_61 : decode cX8_emergency 61 = .ok (.ifCond .eq 16, 3) := by decide +kernel
theorem dX8_emergency_64 : decode cX8_emergency 64 = .ok (.aload_n 0, 1) := by decide +kernel
theorem dX8_emergency_65 : decode cX8_emergency 65 = .ok (.getfield 13, 3) := by decide +kernel
theorem dX8_emergency_68 : decode cX8_emergency 68 = .ok (.iload_n 3, 1) := by decide +kernel
theorem dX8_emergency_69 : decode cX8_emergency 69 = .ok (.baload, 1) := by decide +kernel
theorem dX8_emergency_70 : decode cX8_emergency 70 = .ok (.ifCond .ne 7, 3) := by decide +kernel
theorem dX8_emergency_73 : decode cX8_emergency 73 = .ok (.iload_n 3, 1) := by decide +kernel
theorem dX8_emergency_74 : decode cX8_emergency 74 = .ok (.goto 4, 3) := by decide +kernel
theorem dX8_emergency_77 : decode cX8_emergency 77 = .ok (.iload_n 2, 1) := by decide +kernel
theorem dX8_emergency_78 : decode cX8_emergency 78 = .ok (.istore_n 2, 1) := by decide +kernel
theorem dX8_emergency_79 : decode cX8_emergency 79 = .ok (.iinc 3 1, 3) := by decide +kernel
theorem dX8_emergency_82 : decode cX8_emergency 82 = .ok (.goto (-47), 3) := by decide +kernel
theorem dX8_emergency_85 : decode cX8_emergency 85 = .ok (.iload_n 2, 1) := by decide +kernel
theorem dX8_emergency_86 : decode cX8_emergency 86 = .ok (.ireturn, 1) := by decide +kernel
theorem dX8_where_0 : decode cX8_where 0 = .ok (.aload_n 0, 1) := by decide +kernel
theorem dX8_where_1 : decode cX8_where 1 = .ok (.aload_n 0, 1) := by decide +kernel
theorem dX8_where_2 : decode cX8_where 2 = .ok (.iload_n 1, 1) := by decide +kernel
theorem dX8_where_3 : decode cX8_where 3 = .ok (.invokevirtual 144, 3) := by decide +kernel
theorem dX8_where_6 : decode cX8_where 6 = .ok (.ifCond .eq 7, 3) := by decide +kernel
theorem dX8_where_9 : decode cX8_where 9 = .ok (.iconst 0, 1) := by decide +kernel
theorem dX8_where_10 : decode cX8_where 10 = .ok (.goto 4, 3) := by decide +kernel
theorem dX8_where_13 : decode cX8_where 13 = .ok (.iconst 1, 1) := by decide +kernel
theorem dX8_where_14 : decode cX8_where 14 = .ok (.putfield 110, 3) := by decide +kernel
theorem dX8_where_17 : decode cX8_where 17 = .ok (.aload_n 0, 1) := by decide +kernel
theorem dX8_where_18 : decode cX8_where 18 = .ok (.getfield 110, 3) := by decide +kernel
theorem dX8_where_21 : decode cX8_where 21 = .ok (.ifCond .le 7, 3) := by decide +kernel
theorem dX8_where_24 : decode cX8_where 24 = .ok (.iconst 0, 1) := by decide +kernel
theorem dX8_where_25 : decode cX8_where 25 = .ok (.goto 9, 3) := by decide +kernel
theorem dX8_where_28 : decode cX8_where 28 = .ok (.aload_n 0, 1) := by decide +kernel
theorem dX8_where_29 : decode cX8_where 29 = .ok (.getfield 62, 3) := by decide +kernel
theorem dX8_where_32 : decode cX8_where 32 = .ok (.iload_n 1, 1) := by decide +kernel
theorem dX8_where_33 : decode cX8_where 33 = .ok (.iaload, 1) := by decide +kernel
theorem dX8_where_34 : decode cX8_where 34 = .ok (.ireturn, 1) := by decide +kernel
theorem dX8_contact_0 : decode cX8_contact 0 = .ok (.aload_n 0, 1) := by decide +kernel
theorem dX8_contact_1 : decode cX8_contact 1 = .ok (.iload_n 1, 1) := by decide +kernel
theorem dX8_contact_2 : decode cX8_contact 2 = .ok (.invokestatic 129, 3) := by decide +kernel
theorem dX8_contact_5 : decode cX8_contact 5 = .ok (.ifCond .eq 15, 3) := by decide +kernel
theorem dX8_contact_8 : decode cX8_contact 8 = .ok (.aload_n 0, 1) := by decide +kernel
theorem dX8_contact_9 : decode cX8_contact 9 = .ok (.iload_n 2, 1) := by decide +kernel
theorem dX8_contact_10 : decode cX8_contact 10 = .ok (.invokevirtual 144, 3) := by decide +kernel
theorem dX8_contact_13 : decode cX8_contact 13 = .ok (.ifCond .eq 7, 3) := by decide +kernel
theorem dX8_contact_16 : decode cX8_contact 16 = .ok (.iconst 0, 1) := by decide +kernel
theorem dX8_contact_17 : decode cX8_contact 17 = .ok (.goto 4, 3) := by decide +kernel
theorem dX8_contact_20 : decode cX8_contact 20 = .ok (.iconst 1, 1) := by decide +kernel
theorem dX8_contact_21 : decode cX8_contact 21 = .ok (.putfield 110, 3) := by decide +kernel
theorem dX8_contact_24 : decode cX8_contact 24 = .ok (.aload_n 0, 1) := by decide +kernel
theorem dX8_contact_25 : decode cX8_contact 25 = .ok (.getfield 110, 3) := by decide +kernel
theorem dX8_contact_28 : decode cX8_contact 28 = .ok (.ifCond .le 7, 3) := by decide +kernel
theorem dX8_contact_31 : decode cX8_contact 31 = .ok (.iconst 0, 1) := by decide +kernel
theorem dX8_contact_32 : decode cX8_contact 32 = .ok (.goto 14, 3) := by decide +kernel
theorem dX8_contact_35 : decode cX8_contact 35 = .ok (.aload_n 0, 1) := by decide +kernel
theorem dX8_contact_36 : decode cX8_contact 36 = .ok (.getfield 80, 3) := by decide +kernel
theorem dX8_contact_39 : decode cX8_contact 39 = .ok (.bipush 10, 2) := by decide +kernel
theorem dX8_contact_41 : decode cX8_contact 41 = .ok (.iload_n 1, 1) := by decide +kernel
theorem dX8_contact_42 : decode cX8_contact 42 = .ok (.imul, 1) := by decide +kernel
theorem dX8_contact_43 : decode cX8_contact 43 = .ok (.iload_n 2, 1) := by decide +kernel
theorem dX8_contact_44 : decode cX8_contact 44 = .ok (.iadd, 1) := by decide +kernel
theorem dX8_contact_45 : decode cX8_contact 45 = .ok (.iaload, 1) := by decide +kernel
theorem dX8_contact_46 : decode cX8_contact 46 = .ok (.ireturn, 1) := by decide +kernel
theorem dX8_agrees_0 : decode cX8_agrees 0 = .ok (.aload_n 0, 1) := by decide +kernel
theorem dX8_agrees_1 : decode cX8_agrees 1 = .ok (.aload_n 0, 1) := by decide +kernel
theorem dX8_agrees_2 : decode cX8_agrees 2 = .ok (.iload_n 1, 1) := by decide +kernel
theorem dX8_agrees_3 : decode cX8_agrees 3 = .ok (.invokevirtual 144, 3) := by decide +kernel
theorem dX8_agrees_6 : decode cX8_agrees 6 = .ok (.ifCond .eq 7, 3) := by decide +kernel
theorem dX8_agrees_9 : decode cX8_agrees 9 = .ok (.iconst 0, 1) := by decide +kernel
theorem dX8_agrees_10 : decode cX8_agrees 10 = .ok (.goto 4, 3) := by decide +kernel
theorem dX8_agrees_13 : decode cX8_agrees 13 = .ok (.iconst 1, 1) := by decide +kernel
theorem dX8_agrees_14 : decode cX8_agrees 14 = .ok (.putfield 110, 3) := by decide +kernel
theorem dX8_agrees_17 : decode cX8_agrees 17 = .ok (.aload_n 0, 1) := by decide +kernel
theorem dX8_agrees_18 : decode cX8_agrees 18 = .ok (.getfield 110, 3) := by decide +kernel
theorem dX8_agrees_21 : decode cX8_agrees 21 = .ok (.ifCond .le 5, 3) := by decide +kernel
theorem dX8_agrees_24 : decode cX8_agrees 24 = .ok (.iconst 0, 1) := by decide +kernel
theorem dX8_agrees_25 : decode cX8_agrees 25 = .ok (.ireturn, 1) := by decide +kernel
theorem dX8_agrees_26 : decode cX8_agrees 26 = .ok (.aload_n 0, 1) := by decide +kernel
theorem dX8_agrees_27 : decode cX8_agrees 27 = .ok (.getfield 56, 3) := by decide +kernel
theorem dX8_agrees_30 : decode cX8_agrees 30 = .ok (.iload_n 1, 1) := by decide +kernel
theorem dX8_agrees_31 : decode cX8_agrees 31 = .ok (.iaload, 1) := by decide +kernel
theorem dX8_agrees_32 : decode cX8_agrees 32 = .ok (.istore_n 2, 1) := by decide +kernel
theorem dX8_agrees_33 : decode cX8_agrees 33 = .ok (.iload_n 2, 1) := by decide +kernel
theorem dX8_agrees_34 : decode cX8_agrees 34 = .ok (.iconst (-1), 1) := by decide +kernel
theorem dX8_agrees_35 : decode cX8_agrees 35 = .ok (.if_icmp .eq 13, 3) := by decide +kernel
theorem dX8_agrees_38 : decode cX8_agrees 38 = .ok (.aload_n 0, 1) := by decide +kernel
theorem dX8_agrees_39 : decode cX8_agrees 39 = .ok (.getfield 62, 3) := by decide +kernel
theorem dX8_agrees_42 : decode cX8_agrees 42 = .ok (.iload_n 1, 1) := by decide +kernel
theorem dX8_agrees_43 : decode cX8_agrees 43 = .ok (.iaload, 1) := by decide +kernel
theorem dX8_agrees_44 : decode cX8_agrees 44 = .ok (.iload_n 2, 1) := by decide +kernel
theorem dX8_agrees_45 : decode cX8_agrees 45 = .ok (.if_icmp .ne 7, 3) := by decide +kernel
theorem dX8_agrees_48 : decode cX8_agrees 48 = .ok (.iconst 1, 1) := by decide +kernel
theorem dX8_agrees_49 : decode cX8_agrees 49 = .ok (.goto 4, 3) := by decide +kernel
theorem dX8_agrees_52 : decode cX8_agrees 52 = .ok (.iconst 0, 1) := by decide +kernel
theorem dX8_agrees_53 : decode cX8_agrees 53 = .ok (.istore_n 3, 1) := by decide +kernel
theorem dX8_agrees_54 : decode cX8_agrees 54 = .ok (.iconst 0, 1) := by decide +kernel
theorem dX8_agrees_55 : decode cX8_agrees 55 = .ok (.istore 4, 2) := by decide +kernel
theorem dX8_agrees_57 : decode cX8_agrees 57 = .ok (.iload 4, 2) := by decide +kernel
theorem dX8_agrees_59 : decode cX8_agrees 59 = .ok (.bipush 6, 2) := by decide +kernel
theorem dX8_agrees_61 : decode cX8_agrees 61 = .ok (.if_icmp .ge 54, 3) := by decide +kernel
theorem dX8_agrees_64 : decode cX8_agrees 64 = .ok (.iload_n 3, 1) := by decide +kernel
theorem dX8_agrees_65 : decode cX8_agrees 65 = .ok (.ifCond .eq 42, 3) := by decide +kernel
theorem dX8_agrees_68 : decode cX8_agrees 68 = .ok (.aload_n 0, 1) := by decide +kernel
theorem dX8_agrees_69 : decode cX8_agrees 69 = .ok (.getfield 80, 3) := by decide +kernel
theorem dX8_agrees_72 : decode cX8_agrees 72 = .ok (.bipush 10, 2) := by decide +kernel
theorem dX8_agrees_74 : decode cX8_agrees 74 = .ok (.iload 4, 2) := by decide +kernel
theorem dX8_agrees_76 : decode cX8_agrees 76 = .ok (.imul, 1) := by decide +kernel
theorem dX8_agrees_77 : decode cX8_agrees 77 = .ok (.iload_n 1, 1) := by decide +kernel
theorem dX8_agrees_78 : decode cX8_agrees 78 = .ok (.iadd, 1) := by decide +kernel
theorem dX8_agrees_79 : decode cX8_agrees 79 = .ok (.iaload, 1) := by decide +kernel
theorem dX8_agrees_80 : decode cX8_agrees 80 = .ok (.iconst (-1), 1) := by decide +kernel
theorem dX8_agrees_81 : decode cX8_agrees 81 = .ok (.if_icmp .eq 7, 3) := by decide +kernel
theorem dX8_agrees_84 : decode cX8_agrees 84 = .ok (.iconst 1, 1) := by decide +kernel
theorem dX8_agrees_85 : decode cX8_agrees 85 = .ok (.goto 4, 3) := by decide +kernel
theorem dX8_agrees_88 : decode cX8_agrees 88 = .ok (.iconst 0, 1) := by decide +kernel
theorem dX8_agrees_89 : decode cX8_agrees 89 = .ok (.iload 4, 2) := by decide +kernel
theorem dX8_agrees_91 : decode cX8_agrees 91 = .ok (.iload_n 2, 1) := by decide +kernel
theorem dX8_agrees_92 : decode cX8_agrees 92 = .ok (.if_icmp .ne 7, 3) := by decide +kernel
theorem dX8_agrees_95 : decode cX8_agrees 95 = .ok (.iconst 1, 1) := by decide +kernel
theorem dX8_agrees_96 : decode cX8_agrees 96 = .ok (.goto 4, 3) := by decide +kernel
theorem dX8_agrees_99 : decode cX8_agrees 99 = .ok (.iconst 0, 1) := by decide +kernel
theorem dX8_agrees_100 : decode cX8_agrees 100 = .ok (.if_icmp .ne 7, 3) := by decide +kernel
theorem dX8_agrees_103 : decode cX8_agrees 103 = .ok (.iconst 1, 1) := by decide +kernel
theorem dX8_agrees_104 : decode cX8_agrees 104 = .ok (.goto 4, 3) := by decide +kernel
theorem dX8_agrees_107 : decode cX8_agrees 107 = .ok (.iconst 0, 1) := by decide +kernel
theorem dX8_agrees_108 : decode cX8_agrees 108 = .ok (.istore_n 3, 1) := by decide +kernel
theorem dX8_agrees_109 : decode cX8_agrees 109 = .ok (.iinc 4 1, 3) := by decide +kernel
theorem dX8_agrees_112 : decode cX8_agrees 112 = .ok (.goto (-55), 3) := by decide +kernel
theorem dX8_agrees_115 : decode cX8_agrees 115 = .ok (.iload_n 3, 1) := by decide +kernel
theorem dX8_agrees_116 : decode cX8_agrees 116 = .ok (.ireturn, 1) := by decide +kernel
theorem dX8_abroadOf_0 : decode cX8_abroadOf 0 = .ok (.aload_n 0, 1) := by decide +kernel
theorem dX8_abroadOf_1 : decode cX8_abroadOf 1 = .ok (.getfield 74, 3) := by decide +kernel
theorem dX8_abroadOf_4 : decode cX8_abroadOf 4 = .ok (.iload_n 1, 1) := by decide +kernel
theorem dX8_abroadOf_5 : decode cX8_abroadOf 5 = .ok (.iaload, 1) := by decide +kernel
theorem dX8_abroadOf_6 : decode cX8_abroadOf 6 = .ok (.aload_n 0, 1) := by decide +kernel
theorem dX8_abroadOf_7 : decode cX8_abroadOf 7 = .ok (.getfield 141, 3) := by decide +kernel
theorem dX8_abroadOf_10 : decode cX8_abroadOf 10 = .ok (.ldc 160, 2) := by decide +kernel
theorem dX8_abroadOf_12 : decode cX8_abroadOf 12 = .ok (.idiv, 1) := by decide +kernel
theorem dX8_abroadOf_13 : decode cX8_abroadOf 13 = .ok (.if_icmp .ne 12, 3) := by decide +kernel
theorem dX8_abroadOf_16 : decode cX8_abroadOf 16 = .ok (.aload_n 0, 1) := by decide +kernel
theorem dX8_abroadOf_17 : decode cX8_abroadOf 17 = .ok (.getfield 77, 3) := by decide +kernel
theorem dX8_abroadOf_20 : decode cX8_abroadOf 20 = .ok (.iload_n 1, 1) := by decide +kernel
theorem dX8_abroadOf_21 : decode cX8_abroadOf 21 = .ok (.iaload, 1) := by decide +kernel
theorem dX8_abroadOf_22 : decode cX8_abroadOf 22 = .ok (.goto 4, 3) := by decide +kernel
theorem dX8_abroadOf_25 : decode cX8_abroadOf 25 = .ok (.iconst 0, 1) := by decide +kernel
theorem dX8_abroadOf_26 : decode cX8_abroadOf 26 = .ok (.ireturn, 1) := by decide +kernel
theorem dX8_subscriberIs_0 : decode cX8_subscriberIs 0 = .ok (.aload_n 0, 1) := by decide +kernel
theorem dX8_subscriberIs_1 : decode cX8_subscriberIs 1 = .ok (.aload_n 0, 1) := by decide +kernel
theorem dX8_subscriberIs_2 : decode cX8_subscriberIs 2 = .ok (.iload_n 1, 1) := by decide +kernel
theorem dX8_subscriberIs_3 : decode cX8_subscriberIs 3 = .ok (.invokevirtual 144, 3) := by decide +kernel
theorem dX8_subscriberIs_6 : decode cX8_subscriberIs 6 = .ok (.ifCond .ne 7, 3) := by decide +kernel
theorem dX8_subscriberIs_9 : decode cX8_subscriberIs 9 = .ok (.iconst 1, 1) := by decide +kernel
theorem dX8_subscriberIs_10 : decode cX8_subscriberIs 10 = .ok (.goto 18, 3) := by decide +kernel
theorem dX8_subscriberIs_13 : decode cX8_subscriberIs 13 = .ok (.iload_n 2, 1) := by decide +kernel
theorem dX8_subscriberIs_14 : decode cX8_subscriberIs 14 = .ok (.iconst 0, 1) := by decide +kernel
theorem dX8_subscriberIs_15 : decode cX8_subscriberIs 15 = .ok (.bipush 6, 2) := by decide +kernel
theorem dX8_subscriberIs_17 : decode cX8_subscriberIs 17 = .ok (.invokestatic 114, 3) := by decide +kernel
theorem dX8_subscriberIs_20 : decode cX8_subscriberIs 20 = .ok (.ifCond .eq 7, 3) := by decide +kernel
theorem dX8_subscriberIs_23 : decode cX8_subscriberIs 23 = .ok (.iconst 0, 1) := by decide +kernel
theorem dX8_subscriberIs_24 : decode cX8_subscriberIs 24 = .ok (.goto 4, 3) := by decide +kernel
theorem dX8_subscriberIs_27 : decode cX8_subscriberIs 27 = .ok (.iconst 2, 1) := by decide +kernel
theorem dX8_subscriberIs_28 : decode cX8_subscriberIs 28 = .ok (.putfield 110, 3) := by decide +kernel
theorem dX8_subscriberIs_31 : decode cX8_subscriberIs 31 = .ok (.aload_n 0, 1) := by decide +kernel
theorem dX8_subscriberIs_32 : decode cX8_subscriberIs 32 = .ok (.getfield 110, 3) := by decide +kernel
theorem dX8_subscriberIs_35 : decode cX8_subscriberIs 35 = .ok (.ifCond .le 5, 3) := by decide +kernel
theorem dX8_subscriberIs_38 : decode cX8_subscriberIs 38 = .ok (.iconst 0, 1) := by decide +kernel
theorem dX8_subscriberIs_39 : decode cX8_subscriberIs 39 = .ok (.ireturn, 1) := by decide +kernel
theorem dX8_subscriberIs_40 : decode cX8_subscriberIs 40 = .ok (.iload_n 2, 1) := by decide +kernel
theorem dX8_subscriberIs_41 : decode cX8_subscriberIs 41 = .ok (.tableswitch 99 0 5 #[39, 46, 53, 60, 67, 73], 39) := by decide +kernel
theorem dX8_subscriberIs_80 : decode cX8_subscriberIs 80 = .ok (.aload_n 0, 1) := by decide +kernel
theorem dX8_subscriberIs_81 : decode cX8_subscriberIs 81 = .ok (.getfield 56, 3) := by decide +kernel
theorem dX8_subscriberIs_84 : decode cX8_subscriberIs 84 = .ok (.iload_n 1, 1) := by decide +kernel
theorem dX8_subscriberIs_85 : decode cX8_subscriberIs 85 = .ok (.iaload, 1) := by decide +kernel
theorem dX8_subscriberIs_86 : decode cX8_subscriberIs 86 = .ok (.ireturn, 1) := by decide +kernel
theorem dX8_subscriberIs_87 : decode cX8_subscriberIs 87 = .ok (.aload_n 0, 1) := by decide +kernel
theorem dX8_subscriberIs_88 : decode cX8_subscriberIs 88 = .ok (.getfield 50, 3) := by decide +kernel
theorem dX8_subscriberIs_91 : decode cX8_subscriberIs 91 = .ok (.iload_n 1, 1) := by decide +kernel
theorem dX8_subscriberIs_92 : decode cX8_subscriberIs 92 = .ok (.iaload, 1) := by decide +kernel
theorem dX8_subscriberIs_93 : decode cX8_subscriberIs 93 = .ok (.ireturn, 1) := by decide +kernel
theorem dX8_subscriberIs_94 : decode cX8_subscriberIs 94 = .ok (.aload_n 0, 1) := by decide +kernel
theorem dX8_subscriberIs_95 : decode cX8_subscriberIs 95 = .ok (.getfield 59, 3) := by decide +kernel
theorem dX8_subscriberIs_98 : decode cX8_subscriberIs 98 = .ok (.iload_n 1, 1) := by decide +kernel
theorem dX8_subscriberIs_99 : decode cX8_subscriberIs 99 = .ok (.iaload, 1) := by decide +kernel
theorem dX8_subscriberIs_100 : decode cX8_subscriberIs 100 = .ok (.ireturn, 1) := by decide +kernel
theorem dX8_subscriberIs_101 : decode cX8_subscriberIs 101 = .ok (.aload_n 0, 1) := by decide +kernel
theorem dX8_subscriberIs_102 : decode cX8_subscriberIs 102 = .ok (.getfield 71, 3) := by decide +kernel
theorem dX8_subscriberIs_105 : decode cX8_subscriberIs 105 = .ok (.iload_n 1, 1) := by decide +kernel
theorem dX8_subscriberIs_106 : decode cX8_subscriberIs 106 = .ok (.iaload, 1) := by decide +kernel
theorem dX8_subscriberIs_107 : decode cX8_subscriberIs 107 = .ok (.ireturn, 1) := by decide +kernel
theorem dX8_subscriberIs_108 : decode cX8_subscriberIs 108 = .ok (.aload_n 0, 1) := by decide +kernel
theorem dX8_subscriberIs_109 : decode cX8_subscriberIs 109 = .ok (.iload_n 1, 1) := by decide +kernel
theorem dX8_subscriberIs_110 : decode cX8_subscriberIs 110 = .ok (.invokevirtual 161, 3) := by decide +kernel
theorem dX8_subscriberIs_113 : decode cX8_subscriberIs 113 = .ok (.ireturn, 1) := by decide +kernel
theorem dX8_subscriberIs_114 : decode cX8_subscriberIs 114 = .ok (.bipush 100, 2) := by decide +kernel
theorem dX8_subscriberIs_116 : decode cX8_subscriberIs 116 = .ok (.aload_n 0, 1) := by decide +kernel
theorem dX8_subscriberIs_117 : decode cX8_subscriberIs 117 = .ok (.iload_n 1, 1) := by decide +kernel
theorem dX8_subscriberIs_118 : decode cX8_subscriberIs 118 = .ok (.invokevirtual 161, 3) := by decide +kernel
theorem dX8_subscriberIs_121 : decode cX8_subscriberIs 121 = .ok (.imul, 1) := by decide +kernel
theorem dX8_subscriberIs_122 : decode cX8_subscriberIs 122 = .ok (.bipush 80, 2) := by decide +kernel
theorem dX8_subscriberIs_124 : decode cX8_subscriberIs 124 = .ok (.aload_n 0, 1) := by decide +kernel
theorem dX8_subscriberIs_125 : decode cX8_subscriberIs 125 = .ok (.getfield 65, 3) := by decide +kernel
theorem dX8_subscriberIs_128 : decode cX8_subscriberIs 128 = .ok (.iload_n 1, 1) := by decide +kernel
theorem dX8_subscriberIs_129 : decode cX8_subscriberIs 129 = .ok (.iaload, 1) := by decide +kernel
theorem dX8_subscriberIs_130 : decode cX8_subscriberIs 130 = .ok (.imul, 1) := by decide +kernel
theorem dX8_subscriberIs_131 : decode cX8_subscriberIs 131 = .ok (.if_icmp .lt 7, 3) := by decide +kernel
theorem dX8_subscriberIs_134 : decode cX8_subscriberIs 134 = .ok (.iconst 1, 1) := by decide +kernel
theorem dX8_subscriberIs_135 : decode cX8_subscriberIs 135 = .ok (.goto 4, 3) := by decide +kernel
theorem dX8_subscriberIs_138 : decode cX8_subscriberIs 138 = .ok (.iconst 0, 1) := by decide +kernel
theorem dX8_subscriberIs_139 : decode cX8_subscriberIs 139 = .ok (.ireturn, 1) := by decide +kernel
theorem dX8_subscriberIs_140 : decode cX8_subscriberIs 140 = .ok (.aload_n 0, 1) := by decide +kernel
theorem dX8_subscriberIs_141 : decode cX8_subscriberIs 141 = .ok (.getfield 65, 3) := by decide +kernel
theorem dX8_subscriberIs_144 : decode cX8_subscriberIs 144 = .ok (.iload_n 1, 1) := by decide +kernel
theorem dX8_subscriberIs_145 : decode cX8_subscriberIs 145 = .ok (.iaload, 1) := by decide +kernel
theorem dX8_subscriberIs_146 : decode cX8_subscriberIs 146 = .ok (.ireturn, 1) := by decide +kernel
theorem dX8_cap_0 : decode cX8_cap 0 = .ok (.aload_n 0, 1) := by decide +kernel
theorem dX8_cap_1 : decode cX8_cap 1 = .ok (.aload_n 0, 1) := by decide +kernel
theorem dX8_cap_2 : decode cX8_cap 2 = .ok (.iload_n 1, 1) := by decide +kernel
theorem dX8_cap_3 : decode cX8_cap 3 = .ok (.invokevirtual 144, 3) := by decide +kernel
theorem dX8_cap_6 : decode cX8_cap 6 = .ok (.ifCond .ne 7, 3) := by decide +kernel
theorem dX8_cap_9 : decode cX8_cap 9 = .ok (.iconst 1, 1) := by decide +kernel
theorem dX8_cap_10 : decode cX8_cap 10 = .ok (.goto 18, 3) := by decide +kernel
theorem dX8_cap_13 : decode cX8_cap 13 = .ok (.iload_n 2, 1) := by decide +kernel
theorem dX8_cap_14 : decode cX8_cap 14 = .ok (.iconst 0, 1) := by decide +kernel
theorem dX8_cap_15 : decode cX8_cap 15 = .ok (.ldc 165, 2) := by decide +kernel
theorem dX8_cap_17 : decode cX8_cap 17 = .ok (.invokestatic 114, 3) := by decide +kernel
theorem dX8_cap_20 : decode cX8_cap 20 = .ok (.ifCond .eq 7, 3) := by decide +kernel
theorem dX8_cap_23 : decode cX8_cap 23 = .ok (.iconst 0, 1) := by decide +kernel
theorem dX8_cap_24 : decode cX8_cap 24 = .ok (.goto 4, 3) := by decide +kernel
theorem dX8_cap_27 : decode cX8_cap 27 = .ok (.iconst 2, 1) := by decide +kernel
theorem dX8_cap_28 : decode cX8_cap 28 = .ok (.putfield 110, 3) := by decide +kernel
theorem dX8_cap_31 : decode cX8_cap 31 = .ok (.aload_n 0, 1) := by decide +kernel
theorem dX8_cap_32 : decode cX8_cap 32 = .ok (.getfield 110, 3) := by decide +kernel
theorem dX8_cap_35 : decode cX8_cap 35 = .ok (.ifCond .ne 17, 3) := by decide +kernel
theorem dX8_cap_38 : decode cX8_cap 38 = .ok (.aload_n 0, 1) := by decide +kernel
theorem dX8_cap_39 : decode cX8_cap 39 = .ok (.getfield 65, 3) := by decide +kernel
theorem dX8_cap_42 : decode cX8_cap 42 = .ok (.iload_n 1, 1) := by decide +kernel
theorem dX8_cap_43 : decode cX8_cap 43 = .ok (.iload_n 2, 1) := by decide +kernel
theorem dX8_cap_44 : decode cX8_cap 44 = .ok (.iastore, 1) := by decide +kernel
theorem dX8_cap_45 : decode cX8_cap 45 = .ok (.aload_n 0, 1) := by decide +kernel
theorem dX8_cap_46 : decode cX8_cap 46 = .ok (.getfield 68, 3) := by decide +kernel
theorem dX8_cap_49 : decode cX8_cap 49 = .ok (.iload_n 1, 1) := by decide +kernel
theorem dX8_cap_50 : decode cX8_cap 50 = .ok (.iload_n 3, 1) := by decide +kernel
theorem dX8_cap_51 : decode cX8_cap 51 = .ok (.bastore, 1) := by decide +kernel
theorem dX8_cap_52 : decode cX8_cap 52 = .ok (.return_, 1) := by decide +kernel
theorem dX8_isAbroad_0 : decode cX8_isAbroad 0 = .ok (.aload_n 0, 1) := by decide +kernel
theorem dX8_isAbroad_1 : decode cX8_isAbroad 1 = .ok (.getfield 56, 3) := by decide +kernel
theorem dX8_isAbroad_4 : decode cX8_isAbroad 4 = .ok (.iload_n 1, 1) := by decide +kernel
theorem dX8_isAbroad_5 : decode cX8_isAbroad 5 = .ok (.iaload, 1) := by decide +kernel
theorem dX8_isAbroad_6 : decode cX8_isAbroad 6 = .ok (.aload_n 0, 1) := by decide +kernel
theorem dX8_isAbroad_7 : decode cX8_isAbroad 7 = .ok (.getfield 47, 3) := by decide +kernel
theorem dX8_isAbroad_10 : decode cX8_isAbroad 10 = .ok (.iload_n 1, 1) := by decide +kernel
theorem dX8_isAbroad_11 : decode cX8_isAbroad 11 = .ok (.iaload, 1) := by decide +kernel
theorem dX8_isAbroad_12 : decode cX8_isAbroad 12 = .ok (.if_icmp .eq 7, 3) := by decide +kernel
theorem dX8_isAbroad_15 : decode cX8_isAbroad 15 = .ok (.iconst 1, 1) := by decide +kernel
theorem dX8_isAbroad_16 : decode cX8_isAbroad 16 = .ok (.goto 4, 3) := by decide +kernel
theorem dX8_isAbroad_19 : decode cX8_isAbroad 19 = .ok (.iconst 0, 1) := by decide +kernel
theorem dX8_isAbroad_20 : decode cX8_isAbroad 20 = .ok (.ireturn, 1) := by decide +kernel
theorem dX8_isAbove_0 : decode cX8_isAbove 0 = .ok (.aload_n 0, 1) := by decide +kernel
theorem dX8_isAbove_1 : decode cX8_isAbove 1 = .ok (.iload_n 1, 1) := by decide +kernel
theorem dX8_isAbove_2 : decode cX8_isAbove 2 = .ok (.invokevirtual 166, 3) := by decide +kernel
theorem dX8_isAbove_5 : decode cX8_isAbove 5 = .ok (.ifCond .eq 32, 3) := by decide +kernel
theorem dX8_isAbove_8 : decode cX8_isAbove 8 = .ok (.aload_n 0, 1) := by decide +kernel
theorem dX8_isAbove_9 : decode cX8_isAbove 9 = .ok (.getfield 68, 3) := by decide +kernel
theorem dX8_isAbove_12 : decode cX8_isAbove 12 = .ok (.iload_n 1, 1) := by decide +kernel
theorem dX8_isAbove_13 : decode cX8_isAbove 13 = .ok (.baload, 1) := by decide +kernel
theorem dX8_isAbove_14 : decode cX8_isAbove 14 = .ok (.ifCond .ne 23, 3) := by decide +kernel
theorem dX8_isAbove_17 : decode cX8_isAbove 17 = .ok (.aload_n 0, 1) := by decide +kernel
theorem dX8_isAbove_18 : decode cX8_isAbove 18 = .ok (.iload_n 1, 1) := by decide +kernel
theorem dX8_isAbove_19 : decode cX8_isAbove 19 = .ok (.invokevirtual 161, 3) := by decide +kernel
theorem dX8_isAbove_22 : decode cX8_isAbove 22 = .ok (.iload_n 2, 1) := by decide +kernel
theorem dX8_isAbove_23 : decode cX8_isAbove 23 = .ok (.iadd, 1) := by decide +kernel
theorem dX8_isAbove_24 : decode cX8_isAbove 24 = .ok (.aload_n 0, 1) := by decide +kernel
theorem dX8_isAbove_25 : decode cX8_isAbove 25 = .ok (.getfield 65, 3) := by decide +kernel
theorem dX8_isAbove_28 : decode cX8_isAbove 28 = .ok (.iload_n 1, 1) := by decide +kernel
theorem dX8_isAbove_29 : decode cX8_isAbove 29 = .ok (.iaload, 1) := by decide +kernel
theorem dX8_isAbove_30 : decode cX8_isAbove 30 = .ok (.if_icmp .le 7, 3) := by decide +kernel
theorem dX8_isAbove_33 : decode cX8_isAbove 33 = .ok (.iconst 1, 1) := by decide +kernel
theorem dX8_isAbove_34 : decode cX8_isAbove 34 = .ok (.goto 4, 3) := by decide +kernel
theorem dX8_isAbove_37 : decode cX8_isAbove 37 = .ok (.iconst 0, 1) := by decide +kernel
theorem dX8_isAbove_38 : decode cX8_isAbove 38 = .ok (.ireturn, 1) := by decide +kernel
theorem dX8_pays_0 : decode cX8_pays 0 = .ok (.aload_n 0, 1) := by decide +kernel
theorem dX8_pays_1 : decode cX8_pays 1 = .ok (.getfield 71, 3) := by decide +kernel
theorem dX8_pays_4 : decode cX8_pays 4 = .ok (.iload_n 1, 1) := by decide +kernel
theorem dX8_pays_5 : decode cX8_pays 5 = .ok (.dup2, 1) := by decide +kernel
theorem dX8_pays_6 : decode cX8_pays 6 = .ok (.iaload, 1) := by decide +kernel
theorem dX8_pays_7 : decode cX8_pays 7 = .ok (.iload_n 2, 1) := by decide +kernel
theorem dX8_pays_8 : decode cX8_pays 8 = .ok (.iadd, 1) := by decide +kernel
theorem dX8_pays_9 : decode cX8_pays 9 = .ok (.iastore, 1) := by decide +kernel
theorem dX8_pays_10 : decode cX8_pays 10 = .ok (.aload_n 0, 1) := by decide +kernel
theorem dX8_pays_11 : decode cX8_pays 11 = .ok (.iload_n 1, 1) := by decide +kernel
theorem dX8_pays_12 : decode cX8_pays 12 = .ok (.invokevirtual 166, 3) := by decide +kernel
theorem dX8_pays_15 : decode cX8_pays 15 = .ok (.ifCond .eq 29, 3) := by decide +kernel
theorem dX8_pays_18 : decode cX8_pays 18 = .ok (.aload_n 0, 1) := by decide +kernel
theorem dX8_pays_19 : decode cX8_pays 19 = .ok (.getfield 77, 3) := by decide +kernel
theorem dX8_pays_22 : decode cX8_pays 22 = .ok (.iload_n 1, 1) := by decide +kernel
theorem dX8_pays_23 : decode cX8_pays 23 = .ok (.aload_n 0, 1) := by decide +kernel
theorem dX8_pays_24 : decode cX8_pays 24 = .ok (.iload_n 1, 1) := by decide +kernel
theorem dX8_pays_25 : decode cX8_pays 25 = .ok (.invokevirtual 161, 3) := by decide +kernel
theorem dX8_pays_28 : decode cX8_pays 28 = .ok (.iload_n 2, 1) := by decide +kernel
theorem dX8_pays_29 : decode cX8_pays 29 = .ok (.iadd, 1) := by decide +kernel
theorem dX8_pays_30 : decode cX8_pays 30 = .ok (.iastore, 1) := by decide +kernel
theorem dX8_pays_31 : decode cX8_pays 31 = .ok (.aload_n 0, 1) := by decide +kernel
theorem dX8_pays_32 : decode cX8_pays 32 = .ok (.getfield 74, 3) := by decide +kernel
theorem dX8_pays_35 : decode cX8_pays 35 = .ok (.iload_n 1, 1) := by decide +kernel
theorem dX8_pays_36 : decode cX8_pays 36 = .ok (.aload_n 0, 1) := by decide +kernel
theorem dX8_pays_37 : decode cX8_pays 37 = .ok (.getfield 141, 3) := by decide +kernel
theorem dX8_pays_40 : decode cX8_pays 40 = .ok (.ldc 160, 2) := by decide +kernel
theorem dX8_pays_42 : decode cX8_pays 42 = .ok (.idiv, 1) := by decide +kernel
theorem dX8_pays_43 : decode cX8_pays 43 = .ok (.iastore, 1) := by decide +kernel
theorem dX8_pays_44 : decode cX8_pays 44 = .ok (.return_, 1) := by decide +kernel
theorem dX8_records_0 : decode cX8_records 0 = .ok (.aload_n 0, 1) := by decide +kernel
theorem dX8_records_1 : decode cX8_records 1 = .ok (.iload_n 1, 1) := by decide +kernel
theorem dX8_records_2 : decode cX8_records 2 = .ok (.invokevirtual 166, 3) := by decide +kernel
theorem dX8_records_5 : decode cX8_records 5 = .ok (.ifCond .ne 4, 3) := by decide +kernel
theorem dX8_records_8 : decode cX8_records 8 = .ok (.return_, 1) := by decide +kernel
theorem dX8_records_9 : decode cX8_records 9 = .ok (.aload_n 0, 1) := by decide +kernel
theorem dX8_records_10 : decode cX8_records 10 = .ok (.getfield 83, 3) := by decide +kernel
theorem dX8_records_13 : decode cX8_records 13 = .ok (.aload_n 0, 1) := by decide +kernel
theorem dX8_records_14 : decode cX8_records 14 = .ok (.getfield 169, 3) := by decide +kernel
theorem dX8_records_17 : decode cX8_records 17 = .ok (.aload_n 0, 1) := by decide +kernel
theorem dX8_records_18 : decode cX8_records 18 = .ok (.getfield 47, 3) := by decide +kernel
theorem dX8_records_21 : decode cX8_records 21 = .ok (.iload_n 1, 1) := by decide +kernel
theorem dX8_records_22 : decode cX8_records 22 = .ok (.iaload, 1) := by decide +kernel
theorem dX8_records_23 : decode cX8_records 23 = .ok (.iastore, 1) := by decide +kernel
theorem dX8_records_24 : decode cX8_records 24 = .ok (.aload_n 0, 1) := by decide +kernel
theorem dX8_records_25 : decode cX8_records 25 = .ok (.getfield 86, 3) := by decide +kernel
theorem dX8_records_28 : decode cX8_records 28 = .ok (.aload_n 0, 1) := by decide +kernel
theorem dX8_records_29 : decode cX8_records 29 = .ok (.getfield 169, 3) := by decide +kernel
theorem dX8_records_32 : decode cX8_records 32 = .ok (.aload_n 0, 1) := by decide +kernel
theorem dX8_records_33 : decode cX8_records 33 = .ok (.getfield 56, 3) := by decide +kernel
theorem dX8_records_36 : decode cX8_records 36 = .ok (.iload_n 1, 1) := by decide +kernel
theorem dX8_records_37 : decode cX8_records 37 = .ok (.iaload, 1) := by decide +kernel
theorem dX8_records_38 : decode cX8_records 38 = .ok (.iastore, 1) := by decide +kernel
theorem dX8_records_39 : decode cX8_records 39 = .ok (.aload_n 0, 1) := by decide +kernel
theorem dX8_records_40 : decode cX8_records 40 = .ok (.getfield 89, 3) := by decide +kernel
theorem dX8_records_43 : decode cX8_records 43 = .ok (.aload_n 0, 1) := by decide +kernel
theorem dX8_records_44 : decode cX8_records 44 = .ok (.getfield 169, 3) := by decide +kernel
theorem dX8_records_47 : decode cX8_records 47 = .ok (.iload_n 2, 1) := by decide +kernel
theorem dX8_records_48 : decode cX8_records 48 = .ok (.iastore, 1) := by decide +kernel
theorem dX8_records_49 : decode cX8_records 49 = .ok (.aload_n 0, 1) := by decide +kernel
theorem dX8_records_50 : decode cX8_records 50 = .ok (.getfield 92, 3) := by decide +kernel
theorem dX8_records_53 : decode cX8_records 53 = .ok (.aload_n 0, 1) := by decide +kernel
theorem dX8_records_54 : decode cX8_records 54 = .ok (.getfield 169, 3) := by decide +kernel
theorem dX8_records_57 : decode cX8_records 57 = .ok (.aload_n 0, 1) := by decide +kernel
theorem dX8_records_58 : decode cX8_records 58 = .ok (.getfield 141, 3) := by decide +kernel
theorem dX8_records_61 : decode cX8_records 61 = .ok (.iastore, 1) := by decide +kernel
theorem dX8_records_62 : decode cX8_records 62 = .ok (.aload_n 0, 1) := by decide +kernel
theorem dX8_records_63 : decode cX8_records 63 = .ok (.getfield 95, 3) := by decide +kernel
theorem dX8_records_66 : decode cX8_records 66 = .ok (.aload_n 0, 1) := by decide +kernel
theorem dX8_records_67 : decode cX8_records 67 = .ok (.getfield 169, 3) := by decide +kernel
theorem dX8_records_70 : decode cX8_records 70 = .ok (.aload_n 0, 1) := by decide +kernel
theorem dX8_records_71 : decode cX8_records 71 = .ok (.aload_n 0, 1) := by decide +kernel
theorem dX8_records_72 : decode cX8_records 72 = .ok (.getfield 47, 3) := by decide +kernel
theorem dX8_records_75 : decode cX8_records 75 = .ok (.iload_n 1, 1) := by decide +kernel
theorem dX8_records_76 : decode cX8_records 76 = .ok (.iaload, 1) := by decide +kernel
theorem dX8_records_77 : decode cX8_records 77 = .ok (.aload_n 0, 1) := by decide +kernel
theorem dX8_records_78 : decode cX8_records 78 = .ok (.getfield 56, 3) := by decide +kernel
theorem dX8_records_81 : decode cX8_records 81 = .ok (.iload_n 1, 1) := by decide +kernel
theorem dX8_records_82 : decode cX8_records 82 = .ok (.iaload, 1) := by decide +kernel
theorem dX8_records_83 : decode cX8_records 83 = .ok (.invokevirtual 147, 3) := by decide +kernel
theorem dX8_records_86 : decode cX8_records 86 = .ok (.iastore, 1) := by decide +kernel
theorem dX8_records_87 : decode cX8_records 87 = .ok (.aload_n 0, 1) := by decide +kernel
theorem dX8_records_88 : decode cX8_records 88 = .ok (.getfield 98, 3) := by decide +kernel
theorem dX8_records_91 : decode cX8_records 91 = .ok (.aload_n 0, 1) := by decide +kernel
theorem dX8_records_92 : decode cX8_records 92 = .ok (.getfield 169, 3) := by decide +kernel
theorem dX8_records_95 : decode cX8_records 95 = .ok (.iconst 0, 1) := by decide +kernel
theorem dX8_records_96 : decode cX8_records 96 = .ok (.iastore, 1) := by decide +kernel
theorem dX8_records_97 : decode cX8_records 97 = .ok (.aload_n 0, 1) := by decide +kernel
theorem dX8_records_98 : decode cX8_records 98 = .ok (.dup, 1) := by decide +kernel
theorem dX8_records_99 : decode cX8_records 99 = .ok (.getfield 169, 3) := by decide +kernel
theorem dX8_records_102 : decode cX8_records 102 = .ok (.iconst 1, 1) := by decide +kernel
theorem dX8_records_103 : decode cX8_records 103 = .ok (.iadd, 1) := by decide +kernel
theorem dX8_records_104 : decode cX8_records 104 = .ok (.putfield 169, 3) := by decide +kernel
theorem dX8_records_107 : decode cX8_records 107 = .ok (.return_, 1) := by decide +kernel
theorem dX8_nobody_0 : decode cX8_nobody 0 = .ok (.aload_n 0, 1) := by decide +kernel
theorem dX8_nobody_1 : decode cX8_nobody 1 = .ok (.getfield 56, 3) := by decide +kernel
theorem dX8_nobody_4 : decode cX8_nobody 4 = .ok (.iload_n 1, 1) := by decide +kernel
theorem dX8_nobody_5 : decode cX8_nobody 5 = .ok (.iaload, 1) := by decide +kernel
theorem dX8_nobody_6 : decode cX8_nobody 6 = .ok (.iconst (-1), 1) := by decide +kernel
theorem dX8_nobody_7 : decode cX8_nobody 7 = .ok (.if_icmp .ne 5, 3) := by decide +kernel
theorem dX8_nobody_10 : decode cX8_nobody 10 = .ok (.iconst 1, 1) := by decide +kernel
theorem dX8_nobody_11 : decode cX8_nobody 11 = .ok (.ireturn, 1) := by decide +kernel
theorem dX8_nobody_12 : decode cX8_nobody 12 = .ok (.aload_n 0, 1) := by decide +kernel
theorem dX8_nobody_13 : decode cX8_nobody 13 = .ok (.getfield 62, 3) := by decide +kernel
theorem dX8_nobody_16 : decode cX8_nobody 16 = .ok (.iload_n 2, 1) := by decide +kernel
theorem dX8_nobody_17 : decode cX8_nobody 17 = .ok (.iaload, 1) := by decide +kernel
theorem dX8_nobody_18 : decode cX8_nobody 18 = .ok (.iconst (-1), 1) := by decide +kernel
theorem dX8_nobody_19 : decode cX8_nobody 19 = .ok (.if_icmp .ne 5, 3) := by decide +kernel
theorem dX8_nobody_22 : decode cX8_nobody 22 = .ok (.iconst 2, 1) := by decide +kernel
theorem dX8_nobody_23 : decode cX8_nobody 23 = .ok (.ireturn, 1) := by decide +kernel
theorem dX8_nobody_24 : decode cX8_nobody 24 = .ok (.aload_n 0, 1) := by decide +kernel
theorem dX8_nobody_25 : decode cX8_nobody 25 = .ok (.getfield 80, 3) := by decide +kernel
theorem dX8_nobody_28 : decode cX8_nobody 28 = .ok (.bipush 10, 2) := by decide +kernel
theorem dX8_nobody_30 : decode cX8_nobody 30 = .ok (.aload_n 0, 1) := by decide +kernel
theorem dX8_nobody_31 : decode cX8_nobody 31 = .ok (.getfield 62, 3) := by decide +kernel
theorem dX8_nobody_34 : decode cX8_nobody 34 = .ok (.iload_n 2, 1) := by decide +kernel
theorem dX8_nobody_35 : decode cX8_nobody 35 = .ok (.iaload, 1) := by decide +kernel
theorem dX8_nobody_36 : decode cX8_nobody 36 = .ok (.imul, 1) := by decide +kernel
theorem dX8_nobody_37 : decode cX8_nobody 37 = .ok (.iload_n 2, 1) := by decide +kernel
theorem dX8_nobody_38 : decode cX8_nobody 38 = .ok (.iadd, 1) := by decide +kernel
theorem dX8_nobody_39 : decode cX8_nobody 39 = .ok (.iaload, 1) := by decide +kernel
theorem dX8_nobody_40 : decode cX8_nobody 40 = .ok (.iconst (-1), 1) := by decide +kernel
theorem dX8_nobody_41 : decode cX8_nobody 41 = .ok (.if_icmp .ne 7, 3) := by decide +kernel
theorem dX8_nobody_44 : decode cX8_nobody 44 = .ok (.iconst 3, 1) := by decide +kernel
theorem dX8_nobody_45 : decode cX8_nobody 45 = .ok (.goto 23, 3) := by decide +kernel
theorem dX8_nobody_48 : decode cX8_nobody 48 = .ok (.aload_n 0, 1) := by decide +kernel
theorem dX8_nobody_49 : decode cX8_nobody 49 = .ok (.getfield 56, 3) := by decide +kernel
theorem dX8_nobody_52 : decode cX8_nobody 52 = .ok (.iload_n 2, 1) := by decide +kernel
theorem dX8_nobody_53 : decode cX8_nobody 53 = .ok (.iaload, 1) := by decide +kernel
theorem dX8_nobody_54 : decode cX8_nobody 54 = .ok (.aload_n 0, 1) := by decide +kernel
theorem dX8_nobody_55 : decode cX8_nobody 55 = .ok (.getfield 62, 3) := by decide +kernel
theorem dX8_nobody_58 : decode cX8_nobody 58 = .ok (.iload_n 2, 1) := by decide +kernel
theorem dX8_nobody_59 : decode cX8_nobody 59 = .ok (.iaload, 1) := by decide +kernel
theorem dX8_nobody_60 : decode cX8_nobody 60 = .ok (.if_icmp .eq 7, 3) := by decide +kernel
theorem dX8_nobody_63 : decode cX8_nobody 63 = .ok (.iconst 4, 1) := by decide +kernel
theorem dX8_nobody_64 : decode cX8_nobody 64 = .ok (.goto 4, 3) := by decide +kernel
theorem dX8_nobody_67 : decode cX8_nobody 67 = .ok (.iconst 0, 1) := by decide +kernel
theorem dX8_nobody_68 : decode cX8_nobody 68 = .ok (.ireturn, 1) := by decide +kernel
theorem dX8_call_0 : decode cX8_call 0 = .ok (.aload_n 0, 1) := by decide +kernel
theorem dX8_call_1 : decode cX8_call 1 = .ok (.iload_n 1, 1) := by decide +kernel
theorem dX8_call_2 : decode cX8_call 2 = .ok (.invokevirtual 144, 3) := by decide +kernel
theorem dX8_call_5 : decode cX8_call 5 = .ok (.ifCond .eq 15, 3) := by decide +kernel
theorem dX8_call_8 : decode cX8_call 8 = .ok (.aload_n 0, 1) := by decide +kernel
theorem dX8_call_9 : decode cX8_call 9 = .ok (.iload_n 2, 1) := by decide +kernel
theorem dX8_call_10 : decode cX8_call 10 = .ok (.invokevirtual 144, 3) := by decide +kernel
theorem dX8_call_13 : decode cX8_call 13 = .ok (.ifCond .eq 7, 3) := by decide +kernel
theorem dX8_call_16 : decode cX8_call 16 = .ok (.iconst 1, 1) := by decide +kernel
theorem dX8_call_17 : decode cX8_call 17 = .ok (.goto 4, 3) := by decide +kernel
theorem dX8_call_20 : decode cX8_call 20 = .ok (.iconst 0, 1) := by decide +kernel
theorem dX8_call_21 : decode cX8_call 21 = .ok (.istore 4, 2) := by decide +kernel
theorem dX8_call_23 : decode cX8_call 23 = .ok (.aload_n 0, 1) := by decide +kernel
theorem dX8_call_24 : decode cX8_call 24 = .ok (.iload 4, 2) := by decide +kernel
theorem dX8_call_26 : decode cX8_call 26 = .ok (.ifCond .ne 7, 3) := by decide +kernel
theorem dX8_call_29 : decode cX8_call 29 = .ok (.iconst 1, 1) := by decide +kernel
theorem dX8_call_30 : decode cX8_call 30 = .ok (.goto 37, 3) := by decide +kernel
theorem dX8_call_33 : decode cX8_call 33 = .ok (.iload_n 1, 1) := by decide +kernel
theorem dX8_call_34 : decode cX8_call 34 = .ok (.iload_n 2, 1) := by decide +kernel
theorem dX8_call_35 : decode cX8_call 35 = .ok (.if_icmp .eq 13, 3) := by decide +kernel
theorem dX8_call_38 : decode cX8_call 38 = .ok (.iload_n 3, 1) := by decide +kernel
theorem dX8_call_39 : decode cX8_call 39 = .ok (.iconst 1, 1) := by decide +kernel
theorem dX8_call_40 : decode cX8_call 40 = .ok (.ldc 172, 2) := by decide +kernel
theorem dX8_call_42 : decode cX8_call 42 = .ok (.invokestatic 114, 3) := by decide +kernel
theorem dX8_call_45 : decode cX8_call 45 = .ok (.ifCond .ne 7, 3) := by decide +kernel
theorem dX8_call_48 : decode cX8_call 48 = .ok (.iconst 2, 1) := by decide +kernel
theorem dX8_call_49 : decode cX8_call 49 = .ok (.goto 18, 3) := by decide +kernel
theorem dX8_call_52 : decode cX8_call 52 = .ok (.aload_n 0, 1) := by decide +kernel
theorem dX8_call_53 : decode cX8_call 53 = .ok (.getfield 173, 3) := by decide +kernel
theorem dX8_call_56 : decode cX8_call 56 = .ok (.sipush 200, 3) := by decide +kernel
theorem dX8_call_59 : decode cX8_call 59 = .ok (.if_icmp .ne 7, 3) := by decide +kernel
theorem dX8_call_62 : decode cX8_call 62 = .ok (.iconst 3, 1) := by decide +kernel
theorem dX8_call_63 : decode cX8_call 63 = .ok (.goto 4, 3) := by decide +kernel
theorem dX8_call_66 : decode cX8_call 66 = .ok (.iconst 0, 1) := by decide +kernel
theorem dX8_call_67 : decode cX8_call 67 = .ok (.putfield 110, 3) := by decide +kernel
theorem dX8_call_70 : decode cX8_call 70 = .ok (.aload_n 0, 1) := by decide +kernel
theorem dX8_call_71 : decode cX8_call 71 = .ok (.getfield 110, 3) := by decide +kernel
theorem dX8_call_74 : decode cX8_call 74 = .ok (.ifCond .le 5, 3) := by decide +kernel
theorem dX8_call_77 : decode cX8_call 77 = .ok (.iconst 0, 1) := by decide +kernel
theorem dX8_call_78 : decode cX8_call 78 = .ok (.ireturn, 1) := by decide +kernel
theorem dX8_call_79 : decode cX8_call 79 = .ok (.aload_n 0, 1) := by decide +kernel
theorem dX8_call_80 : decode cX8_call 80 = .ok (.iload_n 1, 1) := by decide +kernel
theorem dX8_call_81 : decode cX8_call 81 = .ok (.iload_n 2, 1) := by decide +kernel
theorem dX8_call_82 : decode cX8_call 82 = .ok (.invokevirtual 176, 3) := by decide +kernel
theorem dX8_call_85 : decode cX8_call 85 = .ok (.istore 5, 2) := by decide +kernel
theorem dX8_call_87 : decode cX8_call 87 = .ok (.iload 5, 2) := by decide +kernel
theorem dX8_call_89 : decode cX8_call 89 = .ok (.ifCond .le 6, 3) := by decide +kernel
theorem dX8_call_92 : decode cX8_call 92 = .ok (.iload 5, 2) := by decide +kernel
theorem dX8_call_94 : decode cX8_call 94 = .ok (.ireturn, 1) := by decide +kernel
theorem dX8_call_95 : decode cX8_call 95 = .ok (.iload_n 3, 1) := by decide +kernel
theorem dX8_call_96 : decode cX8_call 96 = .ok (.bipush 59, 2) := by decide +kernel
theorem dX8_call_98 : decode cX8_call 98 = .ok (.iadd, 1) := by decide +kernel
theorem dX8_call_99 : decode cX8_call 99 = .ok (.bipush 60, 2) := by decide +kernel
theorem dX8_call_101 : decode cX8_call 101 = .ok (.idiv, 1) := by decide +kernel
theorem dX8_call_102 : decode cX8_call 102 = .ok (.istore 6, 2) := by decide +kernel
theorem dX8_call_104 : decode cX8_call 104 = .ok (.iload 6, 2) := by decide +kernel
theorem dX8_call_106 : decode cX8_call 106 = .ok (.aload_n 0, 1) := by decide +kernel
theorem dX8_call_107 : decode cX8_call 107 = .ok (.getfield 20, 3) := by decide +kernel
theorem dX8_call_110 : decode cX8_call 110 = .ok (.iconst 3, 1) := by decide +kernel
theorem dX8_call_111 : decode cX8_call 111 = .ok (.aload_n 0, 1) := by decide +kernel
theorem dX8_call_112 : decode cX8_call 112 = .ok (.getfield 47, 3) := by decide +kernel
theorem dX8_call_115 : decode cX8_call 115 = .ok (.iload_n 1, 1) := by decide +kernel
theorem dX8_call_116 : decode cX8_call 116 = .ok (.iaload, 1) := by decide +kernel
theorem dX8_call_117 : decode cX8_call 117 = .ok (.imul, 1) := by decide +kernel
theorem dX8_call_118 : decode cX8_call 118 = .ok (.aload_n 0, 1) := by decide +kernel
theorem dX8_call_119 : decode cX8_call 119 = .ok (.iload_n 1, 1) := by decide +kernel
theorem dX8_call_120 : decode cX8_call 120 = .ok (.invokevirtual 166, 3) := by decide +kernel
theorem dX8_call_123 : decode cX8_call 123 = .ok (.ifCond .eq 7, 3) := by decide +kernel
theorem dX8_call_126 : decode cX8_call 126 = .ok (.iconst 1, 1) := by decide +kernel
theorem dX8_call_127 : decode cX8_call 127 = .ok (.goto 4, 3) := by decide +kernel
theorem dX8_call_130 : decode cX8_call 130 = .ok (.iconst 0, 1) := by decide +kernel
theorem dX8_call_131 : decode cX8_call 131 = .ok (.iadd, 1) := by decide +kernel
theorem dX8_call_132 : decode cX8_call 132 = .ok (.iaload, 1) := by decide +kernel
theorem dX8_call_133 : decode cX8_call 133 = .ok (.imul, 1) := by decide +kernel
theorem dX8_call_134 : decode cX8_call 134 = .ok (.istore 7, 2) := by decide +kernel
theorem dX8_call_136 : decode cX8_call 136 = .ok (.aload_n 0, 1) := by decide +kernel
theorem dX8_call_137 : decode cX8_call 137 = .ok (.iload_n 2, 1) := by decide +kernel
theorem dX8_call_138 : decode cX8_call 138 = .ok (.invokevirtual 166, 3) := by decide +kernel
theorem dX8_call_141 : decode cX8_call 141 = .ok (.ifCond .eq 24, 3) := by decide +kernel
theorem dX8_call_144 : decode cX8_call 144 = .ok (.iload 6, 2) := by decide +kernel
theorem dX8_call_146 : decode cX8_call 146 = .ok (.aload_n 0, 1) := by decide +kernel
theorem dX8_call_147 : decode cX8_call 147 = .ok (.getfield 20, 3) := by decide +kernel
theorem dX8_call_150 : decode cX8_call 150 = .ok (.iconst 3, 1) := by decide +kernel
theorem dX8_call_151 : decode cX8_call 151 = .ok (.aload_n 0, 1) := by decide +kernel
theorem dX8_call_152 : decode cX8_call 152 = .ok (.getfield 47, 3) := by decide +kernel
theorem dX8_call_155 : decode cX8_call 155 = .ok (.iload_n 2, 1) := by decide +kernel
theorem dX8_call_156 : decode cX8_call 156 = .ok (.iaload, 1) := by decide +kernel
theorem dX8_call_157 : decode cX8_call 157 = .ok (.imul, 1) := by decide +kernel
theorem dX8_call_158 : decode cX8_call 158 = .ok (.iconst 2, 1) := by decide +kernel
theorem dX8_call_159 : decode cX8_call 159 = .ok (.iadd, 1) := by decide +kernel
theorem dX8_call_160 : decode cX8_call 160 = .ok (.iaload, 1) := by decide +kernel
theorem dX8_call_161 : decode cX8_call 161 = .ok (.imul, 1) := by decide +kernel
theorem dX8_call_162 : decode cX8_call 162 = .ok (.goto 4, 3) := by decide +kernel
theorem dX8_call_165 : decode cX8_call 165 = .ok (.iconst 0, 1) := by decide +kernel
theorem dX8_call_166 : decode cX8_call 166 = .ok (.istore 8, 2) := by decide +kernel
theorem dX8_call_168 : decode cX8_call 168 = .ok (.aload_n 0, 1) := by decide +kernel
theorem dX8_call_169 : decode cX8_call 169 = .ok (.iload_n 1, 1) := by decide +kernel
theorem dX8_call_170 : decode cX8_call 170 = .ok (.iload 7, 2) := by decide +kernel
theorem dX8_call_172 : decode cX8_call 172 = .ok (.invokevirtual 179, 3) := by decide +kernel
theorem dX8_call_175 : decode cX8_call 175 = .ok (.ifCond .eq 5, 3) := by decide +kernel
theorem dX8_call_178 : decode cX8_call 178 = .ok (.iconst 5, 1) := by decide +kernel
theorem dX8_call_179 : decode cX8_call 179 = .ok (.ireturn, 1) := by decide +kernel
theorem dX8_call_180 : decode cX8_call 180 = .ok (.aload_n 0, 1) := by decide +kernel
theorem dX8_call_181 : decode cX8_call 181 = .ok (.iload_n 2, 1) := by decide +kernel
theorem dX8_call_182 : decode cX8_call 182 = .ok (.iload 8, 2) := by decide +kernel
theorem dX8_call_184 : decode cX8_call 184 = .ok (.invokevirtual 179, 3) := by decide +kernel
theorem dX8_call_187 : decode cX8_call 187 = .ok (.ifCond .eq 6, 3) := by decide +kernel
theorem dX8_call_190 : decode cX8_call 190 = .ok (.bipush 6, 2) := by decide +kernel
theorem dX8_call_192 : decode cX8_call 192 = .ok (.ireturn, 1) := by decide +kernel
theorem dX8_call_193 : decode cX8_call 193 = .ok (.aload_n 0, 1) := by decide +kernel
theorem dX8_call_194 : decode cX8_call 194 = .ok (.iload_n 1, 1) := by decide +kernel
theorem dX8_call_195 : decode cX8_call 195 = .ok (.iload 7, 2) := by decide +kernel
theorem dX8_call_197 : decode cX8_call 197 = .ok (.invokevirtual 182, 3) := by decide +kernel
theorem dX8_call_200 : decode cX8_call 200 = .ok (.aload_n 0, 1) := by decide +kernel
theorem dX8_call_201 : decode cX8_call 201 = .ok (.iload_n 2, 1) := by decide +kernel
theorem dX8_call_202 : decode cX8_call 202 = .ok (.iload 8, 2) := by decide +kernel
theorem dX8_call_204 : decode cX8_call 204 = .ok (.invokevirtual 182, 3) := by decide +kernel
theorem dX8_call_207 : decode cX8_call 207 = .ok (.aload_n 0, 1) := by decide +kernel
theorem dX8_call_208 : decode cX8_call 208 = .ok (.iload_n 1, 1) := by decide +kernel
theorem dX8_call_209 : decode cX8_call 209 = .ok (.iload 6, 2) := by decide +kernel
theorem dX8_call_211 : decode cX8_call 211 = .ok (.invokevirtual 186, 3) := by decide +kernel
theorem dX8_call_214 : decode cX8_call 214 = .ok (.aload_n 0, 1) := by decide +kernel
theorem dX8_call_215 : decode cX8_call 215 = .ok (.iload_n 2, 1) := by decide +kernel
theorem dX8_call_216 : decode cX8_call 216 = .ok (.iload 6, 2) := by decide +kernel
theorem dX8_call_218 : decode cX8_call 218 = .ok (.invokevirtual 186, 3) := by decide +kernel
theorem dX8_call_221 : decode cX8_call 221 = .ok (.aload_n 0, 1) := by decide +kernel
theorem dX8_call_222 : decode cX8_call 222 = .ok (.dup, 1) := by decide +kernel
theorem dX8_call_223 : decode cX8_call 223 = .ok (.getfield 173, 3) := by decide +kernel
theorem dX8_call_226 : decode cX8_call 226 = .ok (.iconst 1, 1) := by decide +kernel
theorem dX8_call_227 : decode cX8_call 227 = .ok (.iadd, 1) := by decide +kernel
theorem dX8_call_228 : decode cX8_call 228 = .ok (.putfield 173, 3) := by decide +kernel
theorem dX8_call_231 : decode cX8_call 231 = .ok (.iconst 0, 1) := by decide +kernel
theorem dX8_call_232 : decode cX8_call 232 = .ok (.ireturn, 1) := by decide +kernel
theorem dX8_paidAnew_0 : decode cX8_paidAnew 0 = .ok (.aload_n 0, 1) := by decide +kernel
theorem dX8_paidAnew_1 : decode cX8_paidAnew 1 = .ok (.aload_n 0, 1) := by decide +kernel
theorem dX8_paidAnew_2 : decode cX8_paidAnew 2 = .ok (.iload_n 1, 1) := by decide +kernel
theorem dX8_paidAnew_3 : decode cX8_paidAnew 3 = .ok (.invokevirtual 144, 3) := by decide +kernel
theorem dX8_paidAnew_6 : decode cX8_paidAnew 6 = .ok (.ifCond .eq 7, 3) := by decide +kernel
theorem dX8_paidAnew_9 : decode cX8_paidAnew 9 = .ok (.iconst 0, 1) := by decide +kernel
theorem dX8_paidAnew_10 : decode cX8_paidAnew 10 = .ok (.goto 4, 3) := by decide +kernel
theorem dX8_paidAnew_13 : decode cX8_paidAnew 13 = .ok (.iconst 1, 1) := by decide +kernel
theorem dX8_paidAnew_14 : decode cX8_paidAnew 14 = .ok (.putfield 110, 3) := by decide +kernel
theorem dX8_paidAnew_17 : decode cX8_paidAnew 17 = .ok (.aload_n 0, 1) := by decide +kernel
theorem dX8_paidAnew_18 : decode cX8_paidAnew 18 = .ok (.getfield 110, 3) := by decide +kernel
theorem dX8_paidAnew_21 : decode cX8_paidAnew 21 = .ok (.ifCond .le 7, 3) := by decide +kernel
theorem dX8_paidAnew_24 : decode cX8_paidAnew 24 = .ok (.iconst 0, 1) := by decide +kernel
theorem dX8_paidAnew_25 : decode cX8_paidAnew 25 = .ok (.goto 9, 3) := by decide +kernel
theorem dX8_paidAnew_28 : decode cX8_paidAnew 28 = .ok (.aload_n 0, 1) := by decide +kernel
theorem dX8_paidAnew_29 : decode cX8_paidAnew 29 = .ok (.getfield 71, 3) := by decide +kernel
theorem dX8_paidAnew_32 : decode cX8_paidAnew 32 = .ok (.iload_n 1, 1) := by decide +kernel
theorem dX8_paidAnew_33 : decode cX8_paidAnew 33 = .ok (.iaload, 1) := by decide +kernel
theorem dX8_paidAnew_34 : decode cX8_paidAnew 34 = .ok (.ireturn, 1) := by decide +kernel
theorem dX8_isOf_0 : decode cX8_isOf 0 = .ok (.aload_n 0, 1) := by decide +kernel
theorem dX8_isOf_1 : decode cX8_isOf 1 = .ok (.getfield 86, 3) := by decide +kernel
theorem dX8_isOf_4 : decode cX8_isOf 4 = .ok (.iload_n 1, 1) := by decide +kernel
theorem dX8_isOf_5 : decode cX8_isOf 5 = .ok (.iaload, 1) := by decide +kernel
theorem dX8_isOf_6 : decode cX8_isOf 6 = .ok (.iload_n 2, 1) := by decide +kernel
theorem dX8_isOf_7 : decode cX8_isOf 7 = .ok (.if_icmp .ne 17, 3) := by decide +kernel
theorem dX8_isOf_10 : decode cX8_isOf 10 = .ok (.aload_n 0, 1) := by decide +kernel
theorem dX8_isOf_11 : decode cX8_isOf 11 = .ok (.getfield 83, 3) := by decide +kernel
theorem dX8_isOf_14 : decode cX8_isOf 14 = .ok (.iload_n 1, 1) := by decide +kernel
theorem dX8_isOf_15 : decode cX8_isOf 15 = .ok (.iaload, 1) := by decide +kernel
theorem dX8_isOf_16 : decode cX8_isOf 16 = .ok (.iload_n 3, 1) := by decide +kernel
theorem dX8_isOf_17 : decode cX8_isOf 17 = .ok (.if_icmp .ne 7, 3) := by decide +kernel
theorem dX8_isOf_20 : decode cX8_isOf 20 = .ok (.iconst 1, 1) := by decide +kernel
theorem dX8_isOf_21 : decode cX8_isOf 21 = .ok (.goto 4, 3) := by decide +kernel
theorem dX8_isOf_24 : decode cX8_isOf 24 = .ok (.iconst 0, 1) := by decide +kernel
theorem dX8_isOf_25 : decode cX8_isOf 25 = .ok (.ireturn, 1) := by decide +kernel
theorem dX8_minutesOf_0 : decode cX8_minutesOf 0 = .ok (.iconst 0, 1) := by decide +kernel
theorem dX8_minutesOf_1 : decode cX8_minutesOf 1 = .ok (.istore 4, 2) := by decide +kernel
theorem dX8_minutesOf_3 : decode cX8_minutesOf 3 = .ok (.iconst 0, 1) := by decide +kernel
theorem dX8_minutesOf_4 : decode cX8_minutesOf 4 = .ok (.istore 5, 2) := by decide +kernel
theorem dX8_minutesOf_6 : decode cX8_minutesOf 6 = .ok (.iload 5, 2) := by decide +kernel
theorem dX8_minutesOf_8 : decode cX8_minutesOf 8 = .ok (.aload_n 0, 1) := by decide +kernel
theorem dX8_minutesOf_9 : decode cX8_minutesOf 9 = .ok (.getfield 169, 3) := by decide +kernel
theorem dX8_minutesOf_12 : decode cX8_minutesOf 12 = .ok (.if_icmp .ge 47, 3) := by decide +kernel
theorem dX8_minutesOf_15 : decode cX8_minutesOf 15 = .ok (.iload 4, 2) := by decide +kernel
theorem dX8_minutesOf_17 : decode cX8_minutesOf 17 = .ok (.aload_n 0, 1) := by decide +kernel
theorem dX8_minutesOf_18 : decode cX8_minutesOf 18 = .ok (.iload 5, 2) := by decide +kernel
theorem dX8_minutesOf_20 : decode cX8_minutesOf 20 = .ok (.iload_n 1, 1) := by decide +kernel
theorem dX8_minutesOf_21 : decode cX8_minutesOf 21 = .ok (.iload_n 2, 1) := by decide +kernel
theorem dX8_minutesOf_22 : decode cX8_minutesOf 22 = .ok (.invokevirtual 188, 3) := by decide +kernel
theorem dX8_minutesOf_25 : decode cX8_minutesOf 25 = .ok (.ifCond .eq 24, 3) := by decide +kernel
theorem dX8_minutesOf_28 : decode cX8_minutesOf 28 = .ok (.aload_n 0, 1) := by decide +kernel
theorem dX8_minutesOf_29 : decode cX8_minutesOf 29 = .ok (.getfield 98, 3) := by decide +kernel
theorem dX8_minutesOf_32 : decode cX8_minutesOf 32 = .ok (.iload 5, 2) := by decide +kernel
theorem dX8_minutesOf_34 : decode cX8_minutesOf 34 = .ok (.iaload, 1) := by decide +kernel
theorem dX8_minutesOf_35 : decode cX8_minutesOf 35 = .ok (.iload_n 3, 1) := by decide +kernel
theorem dX8_minutesOf_36 : decode cX8_minutesOf 36 = .ok (.if_icmp .ne 13, 3) := by decide +kernel
theorem dX8_minutesOf_39 : decode cX8_minutesOf 39 = .ok (.aload_n 0, 1) := by decide +kernel
theorem dX8_minutesOf_40 : decode cX8_minutesOf 40 = .ok (.getfield 89, 3) := by decide +kernel
theorem dX8_minutesOf_43 : decode cX8_minutesOf 43 = .ok (.iload 5, 2) := by decide +kernel
theorem dX8_minutesOf_45 : decode cX8_minutesOf 45 = .ok (.iaload, 1) := by decide +kernel
theorem dX8_minutesOf_46 : decode cX8_minutesOf 46 = .ok (.goto 4, 3) := by decide +kernel
theorem dX8_minutesOf_49 : decode cX8_minutesOf 49 = .ok (.iconst 0, 1) := by decide +kernel
theorem dX8_minutesOf_50 : decode cX8_minutesOf 50 = .ok (.iadd, 1) := by decide +kernel
theorem dX8_minutesOf_51 : decode cX8_minutesOf 51 = .ok (.istore 4, 2) := by decide +kernel
theorem dX8_minutesOf_53 : decode cX8_minutesOf 53 = .ok (.iinc 5 1, 3) := by decide +kernel
theorem dX8_minutesOf_56 : decode cX8_minutesOf 56 = .ok (.goto (-50), 3) := by decide +kernel
theorem dX8_minutesOf_59 : decode cX8_minutesOf 59 = .ok (.iload 4, 2) := by decide +kernel
theorem dX8_minutesOf_61 : decode cX8_minutesOf 61 = .ok (.ireturn, 1) := by decide +kernel
theorem dX8_file_0 : decode cX8_file 0 = .ok (.aload_n 0, 1) := by decide +kernel
theorem dX8_file_1 : decode cX8_file 1 = .ok (.iload_n 1, 1) := by decide +kernel
theorem dX8_file_2 : decode cX8_file 2 = .ok (.invokestatic 129, 3) := by decide +kernel
theorem dX8_file_5 : decode cX8_file 5 = .ok (.ifCond .eq 14, 3) := by decide +kernel
theorem dX8_file_8 : decode cX8_file 8 = .ok (.iload_n 2, 1) := by decide +kernel
theorem dX8_file_9 : decode cX8_file 9 = .ok (.invokestatic 129, 3) := by decide +kernel
theorem dX8_file_12 : decode cX8_file 12 = .ok (.ifCond .eq 7, 3) := by decide +kernel
theorem dX8_file_15 : decode cX8_file 15 = .ok (.iconst 0, 1) := by decide +kernel
theorem dX8_file_16 : decode cX8_file 16 = .ok (.goto 4, 3) := by decide +kernel
theorem dX8_file_19 : decode cX8_file 19 = .ok (.iconst 1, 1) := by decide +kernel
theorem dX8_file_20 : decode cX8_file 20 = .ok (.putfield 110, 3) := by decide +kernel
theorem dX8_file_23 : decode cX8_file 23 = .ok (.aload_n 0, 1) := by decide +kernel
theorem dX8_file_24 : decode cX8_file 24 = .ok (.getfield 110, 3) := by decide +kernel
theorem dX8_file_27 : decode cX8_file 27 = .ok (.ifCond .ne 38, 3) := by decide +kernel
theorem dX8_file_30 : decode cX8_file 30 = .ok (.aload_n 0, 1) := by decide +kernel
theorem dX8_file_31 : decode cX8_file 31 = .ok (.aload_n 0, 1) := by decide +kernel
theorem dX8_file_32 : decode cX8_file 32 = .ok (.iload_n 1, 1) := by decide +kernel
theorem dX8_file_33 : decode cX8_file 33 = .ok (.iload_n 2, 1) := by decide +kernel
theorem dX8_file_34 : decode cX8_file 34 = .ok (.iconst 0, 1) := by decide +kernel
theorem dX8_file_35 : decode cX8_file 35 = .ok (.invokevirtual 191, 3) := by decide +kernel
theorem dX8_file_38 : decode cX8_file 38 = .ok (.ifCond .eq 19, 3) := by decide +kernel
theorem dX8_file_41 : decode cX8_file 41 = .ok (.aload_n 0, 1) := by decide +kernel
theorem dX8_file_42 : decode cX8_file 42 = .ok (.getfield 104, 3) := by decide +kernel
theorem dX8_file_45 : decode cX8_file 45 = .ok (.bipush 6, 2) := by decide +kernel
theorem dX8_file_47 : decode cX8_file 47 = .ok (.iload_n 1, 1) := by decide +kernel
theorem dX8_file_48 : decode cX8_file 48 = .ok (.imul, 1) := by decide +kernel
theorem dX8_file_49 : decode cX8_file 49 = .ok (.iload_n 2, 1) := by decide +kernel
theorem dX8_file_50 : decode cX8_file 50 = .ok (.iadd, 1) := by decide +kernel
theorem dX8_file_51 : decode cX8_file 51 = .ok (.iaload, 1) := by decide +kernel
theorem dX8_file_52 : decode cX8_file 52 = .ok (.bipush 20, 2) := by decide +kernel
theorem dX8_file_54 : decode cX8_file 54 = .ok (.if_icmp .ne 7, 3) := by decide +kernel
theorem dX8_file_57 : decode cX8_file 57 = .ok (.iconst 2, 1) := by decide +kernel
theorem dX8_file_58 : decode cX8_file 58 = .ok (.goto 4, 3) := by decide +kernel
theorem dX8_file_61 : decode cX8_file 61 = .ok (.iconst 0, 1) := by decide +kernel
theorem dX8_file_62 : decode cX8_file 62 = .ok (.putfield 110, 3) := by decide +kernel
theorem dX8_file_65 : decode cX8_file 65 = .ok (.aload_n 0, 1) := by decide +kernel
theorem dX8_file_66 : decode cX8_file 66 = .ok (.getfield 110, 3) := by decide +kernel
theorem dX8_file_69 : decode cX8_file 69 = .ok (.ifCond .le 5, 3) := by decide +kernel
theorem dX8_file_72 : decode cX8_file 72 = .ok (.iconst 0, 1) := by decide +kernel
theorem dX8_file_73 : decode cX8_file 73 = .ok (.ireturn, 1) := by decide +kernel
theorem dX8_file_74 : decode cX8_file 74 = .ok (.aload_n 0, 1) := by decide +kernel
theorem dX8_file_75 : decode cX8_file 75 = .ok (.getfield 104, 3) := by decide +kernel
theorem dX8_file_78 : decode cX8_file 78 = .ok (.bipush 6, 2) := by decide +kernel
theorem dX8_file_80 : decode cX8_file 80 = .ok (.iload_n 1, 1) := by decide +kernel
theorem dX8_file_81 : decode cX8_file 81 = .ok (.imul, 1) := by decide +kernel
theorem dX8_file_82 : decode cX8_file 82 = .ok (.iload_n 2, 1) := by decide +kernel
theorem dX8_file_83 : decode cX8_file 83 = .ok (.iadd, 1) := by decide +kernel
theorem dX8_file_84 : decode cX8_file 84 = .ok (.iaload, 1) := by decide +kernel
theorem dX8_file_85 : decode cX8_file 85 = .ok (.istore_n 3, 1) := by decide +kernel
theorem dX8_file_86 : decode cX8_file 86 = .ok (.iconst 0, 1) := by decide +kernel
theorem dX8_file_87 : decode cX8_file 87 = .ok (.istore 4, 2) := by decide +kernel
theorem dX8_file_89 : decode cX8_file 89 = .ok (.iload 4, 2) := by decide +kernel
theorem dX8_file_91 : decode cX8_file 91 = .ok (.aload_n 0, 1) := by decide +kernel
theorem dX8_file_92 : decode cX8_file 92 = .ok (.getfield 169, 3) := by decide +kernel
theorem dX8_file_95 : decode cX8_file 95 = .ok (.if_icmp .ge 46, 3) := by decide +kernel
theorem dX8_file_98 : decode cX8_file 98 = .ok (.aload_n 0, 1) := by decide +kernel
theorem dX8_file_99 : decode cX8_file 99 = .ok (.iload 4, 2) := by decide +kernel
theorem dX8_file_101 : decode cX8_file 101 = .ok (.iload_n 1, 1) := by decide +kernel
theorem dX8_file_102 : decode cX8_file 102 = .ok (.iload_n 2, 1) := by decide +kernel
theorem dX8_file_103 : decode cX8_file 103 = .ok (.invokevirtual 188, 3) := by decide +kernel
theorem dX8_file_106 : decode cX8_file 106 = .ok (.ifCond .eq 29, 3) := by decide +kernel
theorem dX8_file_109 : decode cX8_file 109 = .ok (.aload_n 0, 1) := by decide +kernel
theorem dX8_file_110 : decode cX8_file 110 = .ok (.getfield 98, 3) := by decide +kernel
theorem dX8_file_113 : decode cX8_file 113 = .ok (.iload 4, 2) := by decide +kernel
theorem dX8_file_115 : decode cX8_file 115 = .ok (.iaload, 1) := by decide +kernel
theorem dX8_file_116 : decode cX8_file 116 = .ok (.ifCond .ne 19, 3) := by decide +kernel
theorem dX8_file_119 : decode cX8_file 119 = .ok (.aload_n 0, 1) := by decide +kernel
theorem dX8_file_120 : decode cX8_file 120 = .ok (.getfield 98, 3) := by decide +kernel
theorem dX8_file_123 : decode cX8_file 123 = .ok (.iload 4, 2) := by decide +kernel
theorem dX8_file_125 : decode cX8_file 125 = .ok (.iconst 1, 1) := by decide +kernel
theorem dX8_file_126 : decode cX8_file 126 = .ok (.iastore, 1) := by decide +kernel
theorem dX8_file_127 : decode cX8_file 127 = .ok (.aload_n 0, 1) := by decide +kernel
theorem dX8_file_128 : decode cX8_file 128 = .ok (.getfield 101, 3) := by decide +kernel
theorem dX8_file_131 : decode cX8_file 131 = .ok (.iload 4, 2) := by decide +kernel
theorem dX8_file_133 : decode cX8_file 133 = .ok (.iload_n 3, 1) := by decide +kernel
theorem dX8_file_134 : decode cX8_file 134 = .ok (.iastore, 1) := by decide +kernel
theorem dX8_file_135 : decode cX8_file 135 = .ok (.iinc 4 1, 3) := by decide +kernel
theorem dX8_file_138 : decode cX8_file 138 = .ok (.goto (-49), 3) := by decide +kernel
theorem dX8_file_141 : decode cX8_file 141 = .ok (.aload_n 0, 1) := by decide +kernel
theorem dX8_file_142 : decode cX8_file 142 = .ok (.getfield 104, 3) := by decide +kernel
theorem dX8_file_145 : decode cX8_file 145 = .ok (.bipush 6, 2) := by decide +kernel
theorem dX8_file_147 : decode cX8_file 147 = .ok (.iload_n 1, 1) := by decide +kernel
theorem dX8_file_148 : decode cX8_file 148 = .ok (.imul, 1) := by decide +kernel
theorem dX8_file_149 : decode cX8_file 149 = .ok (.iload_n 2, 1) := by decide +kernel
theorem dX8_file_150 : decode cX8_file 150 = .ok (.iadd, 1) := by decide +kernel
theorem dX8_file_151 : decode cX8_file 151 = .ok (.dup2, 1) := by decide +kernel
theorem dX8_file_152 : decode cX8_file 152 = .ok (.iaload, 1) := by decide +kernel
theorem dX8_file_153 : decode cX8_file 153 = .ok (.iconst 1, 1) := by decide +kernel
theorem dX8_file_154 : decode cX8_file 154 = .ok (.iadd, 1) := by decide +kernel
theorem dX8_file_155 : decode cX8_file 155 = .ok (.iastore, 1) := by decide +kernel
theorem dX8_file_156 : decode cX8_file 156 = .ok (.iload_n 3, 1) := by decide +kernel
theorem dX8_file_157 : decode cX8_file 157 = .ok (.ireturn, 1) := by decide +kernel
theorem dX8_deliver_0 : decode cX8_deliver 0 = .ok (.iload_n 1, 1) := by decide +kernel
theorem dX8_deliver_1 : decode cX8_deliver 1 = .ok (.invokestatic 129, 3) := by decide +kernel
theorem dX8_deliver_4 : decode cX8_deliver 4 = .ok (.ifCond .eq 14, 3) := by decide +kernel
theorem dX8_deliver_7 : decode cX8_deliver 7 = .ok (.iload_n 2, 1) := by decide +kernel
theorem dX8_deliver_8 : decode cX8_deliver 8 = .ok (.invokestatic 129, 3) := by decide +kernel
theorem dX8_deliver_11 : decode cX8_deliver 11 = .ok (.ifCond .eq 7, 3) := by decide +kernel
theorem dX8_deliver_14 : decode cX8_deliver 14 = .ok (.iconst 1, 1) := by decide +kernel
theorem dX8_deliver_15 : decode cX8_deliver 15 = .ok (.goto 4, 3) := by decide +kernel
theorem dX8_deliver_18 : decode cX8_deliver 18 = .ok (.iconst 0, 1) := by decide +kernel
theorem dX8_deliver_19 : decode cX8_deliver 19 = .ok (.istore 4, 2) := by decide +kernel
theorem dX8_deliver_21 : decode cX8_deliver 21 = .ok (.aload_n 0, 1) := by decide +kernel
theorem dX8_deliver_22 : decode cX8_deliver 22 = .ok (.iload 4, 2) := by decide +kernel
theorem dX8_deliver_24 : decode cX8_deliver 24 = .ok (.ifCond .eq 28, 3) := by decide +kernel
theorem dX8_deliver_27 : decode cX8_deliver 27 = .ok (.iload_n 3, 1) := by decide +kernel
theorem dX8_deliver_28 : decode cX8_deliver 28 = .ok (.iconst 0, 1) := by decide +kernel
theorem dX8_deliver_29 : decode cX8_deliver 29 = .ok (.aload_n 0, 1) := by decide +kernel
theorem dX8_deliver_30 : decode cX8_deliver 30 = .ok (.getfield 104, 3) := by decide +kernel
theorem dX8_deliver_33 : decode cX8_deliver 33 = .ok (.bipush 6, 2) := by decide +kernel
theorem dX8_deliver_35 : decode cX8_deliver 35 = .ok (.iload_n 1, 1) := by decide +kernel
theorem dX8_deliver_36 : decode cX8_deliver 36 = .ok (.imul, 1) := by decide +kernel
theorem dX8_deliver_37 : decode cX8_deliver 37 = .ok (.iload_n 2, 1) := by decide +kernel
theorem dX8_deliver_38 : decode cX8_deliver 38 = .ok (.iadd, 1) := by decide +kernel
theorem dX8_deliver_39 : decode cX8_deliver 39 = .ok (.iaload, 1) := by decide +kernel
theorem dX8_deliver_40 : decode cX8_deliver 40 = .ok (.iconst 1, 1) := by decide +kernel
theorem dX8_deliver_41 : decode cX8_deliver 41 = .ok (.isub, 1) := by decide +kernel
theorem dX8_deliver_42 : decode cX8_deliver 42 = .ok (.invokestatic 114, 3) := by decide +kernel
theorem dX8_deliver_45 : decode cX8_deliver 45 = .ok (.ifCond .eq 7, 3) := by decide +kernel
theorem dX8_deliver_48 : decode cX8_deliver 48 = .ok (.iconst 0, 1) := by decide +kernel
theorem dX8_deliver_49 : decode cX8_deliver 49 = .ok (.goto 4, 3) := by decide +kernel
theorem dX8_deliver_52 : decode cX8_deliver 52 = .ok (.iconst 1, 1) := by decide +kernel
theorem dX8_deliver_53 : decode cX8_deliver 53 = .ok (.putfield 110, 3) := by decide +kernel
theorem dX8_deliver_56 : decode cX8_deliver 56 = .ok (.aload_n 0, 1) := by decide +kernel
theorem dX8_deliver_57 : decode cX8_deliver 57 = .ok (.getfield 110, 3) := by decide +kernel
theorem dX8_deliver_60 : decode cX8_deliver 60 = .ok (.ifCond .le 5, 3) := by decide +kernel
theorem dX8_deliver_63 : decode cX8_deliver 63 = .ok (.iconst 0, 1) := by decide +kernel
theorem dX8_deliver_64 : decode cX8_deliver 64 = .ok (.ireturn, 1) := by decide +kernel
theorem dX8_deliver_65 : decode cX8_deliver 65 = .ok (.aload_n 0, 1) := by decide +kernel
theorem dX8_deliver_66 : decode cX8_deliver 66 = .ok (.getfield 107, 3) := by decide +kernel
theorem dX8_deliver_69 : decode cX8_deliver 69 = .ok (.bipush 6, 2) := by decide +kernel
theorem dX8_deliver_71 : decode cX8_deliver 71 = .ok (.iload_n 1, 1) := by decide +kernel
theorem dX8_deliver_72 : decode cX8_deliver 72 = .ok (.imul, 1) := by decide +kernel
theorem dX8_deliver_73 : decode cX8_deliver 73 = .ok (.iload_n 2, 1) := by decide +kernel
theorem dX8_deliver_74 : decode cX8_deliver 74 = .ok (.iadd, 1) := by decide +kernel
theorem dX8_deliver_75 : decode cX8_deliver 75 = .ok (.iaload, 1) := by decide +kernel
theorem dX8_deliver_76 : decode cX8_deliver 76 = .ok (.istore 5, 2) := by decide +kernel
theorem dX8_deliver_78 : decode cX8_deliver 78 = .ok (.iload_n 3, 1) := by decide +kernel
theorem dX8_deliver_79 : decode cX8_deliver 79 = .ok (.iload 5, 2) := by decide +kernel
theorem dX8_deliver_81 : decode cX8_deliver 81 = .ok (.if_icmp .eq 16, 3) := by decide +kernel
theorem dX8_deliver_84 : decode cX8_deliver 84 = .ok (.iload_n 3, 1) := by decide +kernel
theorem dX8_deliver_85 : decode cX8_deliver 85 = .ok (.iload 5, 2) := by decide +kernel
theorem dX8_deliver_87 : decode cX8_deliver 87 = .ok (.if_icmp .ge 7, 3) := by decide +kernel
theorem dX8_deliver_90 : decode cX8_deliver 90 = .ok (.iconst (-1), 1) := by decide +kernel
theorem dX8_deliver_91 : decode cX8_deliver 91 = .ok (.goto 5, 3) := by decide +kernel
theorem dX8_deliver_94 : decode cX8_deliver 94 = .ok (.bipush (-2), 2) := by decide +kernel
theorem dX8_deliver_96 : decode cX8_deliver 96 = .ok (.ireturn, 1) := by decide +kernel
theorem dX8_deliver_97 : decode cX8_deliver 97 = .ok (.aload_n 0, 1) := by decide +kernel
theorem dX8_deliver_98 : decode cX8_deliver 98 = .ok (.getfield 107, 3) := by decide +kernel
theorem dX8_deliver_101 : decode cX8_deliver 101 = .ok (.bipush 6, 2) := by decide +kernel
theorem dX8_deliver_103 : decode cX8_deliver 103 = .ok (.iload_n 1, 1) := by decide +kernel
theorem dX8_deliver_104 : decode cX8_deliver 104 = .ok (.imul, 1) := by decide +kernel
theorem dX8_deliver_105 : decode cX8_deliver 105 = .ok (.iload_n 2, 1) := by decide +kernel
theorem dX8_deliver_106 : decode cX8_deliver 106 = .ok (.iadd, 1) := by decide +kernel
theorem dX8_deliver_107 : decode cX8_deliver 107 = .ok (.dup2, 1) := by decide +kernel
theorem dX8_deliver_108 : decode cX8_deliver 108 = .ok (.iaload, 1) := by decide +kernel
theorem dX8_deliver_109 : decode cX8_deliver 109 = .ok (.iconst 1, 1) := by decide +kernel
theorem dX8_deliver_110 : decode cX8_deliver 110 = .ok (.iadd, 1) := by decide +kernel
theorem dX8_deliver_111 : decode cX8_deliver 111 = .ok (.iastore, 1) := by decide +kernel
theorem dX8_deliver_112 : decode cX8_deliver 112 = .ok (.iconst 0, 1) := by decide +kernel
theorem dX8_deliver_113 : decode cX8_deliver 113 = .ok (.istore 6, 2) := by decide +kernel
theorem dX8_deliver_115 : decode cX8_deliver 115 = .ok (.iconst 0, 1) := by decide +kernel
theorem dX8_deliver_116 : decode cX8_deliver 116 = .ok (.istore 7, 2) := by decide +kernel
theorem dX8_deliver_118 : decode cX8_deliver 118 = .ok (.iload 7, 2) := by decide +kernel
theorem dX8_deliver_120 : decode cX8_deliver 120 = .ok (.aload_n 0, 1) := by decide +kernel
theorem dX8_deliver_121 : decode cX8_deliver 121 = .ok (.getfield 169, 3) := by decide +kernel
theorem dX8_deliver_124 : decode cX8_deliver 124 = .ok (.if_icmp .ge 98, 3) := by decide +kernel
theorem dX8_deliver_127 : decode cX8_deliver 127 = .ok (.aload_n 0, 1) := by decide +kernel
theorem dX8_deliver_128 : decode cX8_deliver 128 = .ok (.iload 7, 2) := by decide +kernel
theorem dX8_deliver_130 : decode cX8_deliver 130 = .ok (.iload_n 1, 1) := by decide +kernel
theorem dX8_deliver_131 : decode cX8_deliver 131 = .ok (.iload_n 2, 1) := by decide +kernel
theorem dX8_deliver_132 : decode cX8_deliver 132 = .ok (.invokevirtual 188, 3) := by decide +kernel
theorem dX8_deliver_135 : decode cX8_deliver 135 = .ok (.ifCond .eq 81, 3) := by decide +kernel
theorem dX8_deliver_138 : decode cX8_deliver 138 = .ok (.aload_n 0, 1) := by decide +kernel
theorem dX8_deliver_139 : decode cX8_deliver 139 = .ok (.getfield 98, 3) := by decide +kernel
theorem dX8_deliver_142 : decode cX8_deliver 142 = .ok (.iload 7, 2) := by decide +kernel
theorem dX8_deliver_144 : decode cX8_deliver 144 = .ok (.iaload, 1) := by decide +kernel
theorem dX8_deliver_145 : decode cX8_deliver 145 = .ok (.iconst 1, 1) := by decide +kernel
theorem dX8_deliver_146 : decode cX8_deliver 146 = .ok (.if_icmp .ne 70, 3) := by decide +kernel
theorem dX8_deliver_149 : decode cX8_deliver 149 = .ok (.aload_n 0, 1) := by decide +kernel
theorem dX8_deliver_150 : decode cX8_deliver 150 = .ok (.getfield 101, 3) := by decide +kernel
theorem dX8_deliver_153 : decode cX8_deliver 153 = .ok (.iload 7, 2) := by decide +kernel
theorem dX8_deliver_155 : decode cX8_deliver 155 = .ok (.iaload, 1) := by decide +kernel
theorem dX8_deliver_156 : decode cX8_deliver 156 = .ok (.iload_n 3, 1) := by decide +kernel
theorem dX8_deliver_157 : decode cX8_deliver 157 = .ok (.if_icmp .ne 59, 3) := by decide +kernel
theorem dX8_deliver_160 : decode cX8_deliver 160 = .ok (.aload_n 0, 1) := by decide +kernel
theorem dX8_deliver_161 : decode cX8_deliver 161 = .ok (.getfield 141, 3) := by decide +kernel
theorem dX8_deliver_164 : decode cX8_deliver 164 = .ok (.aload_n 0, 1) := by decide +kernel
theorem dX8_deliver_165 : decode cX8_deliver 165 = .ok (.getfield 92, 3) := by decide +kernel
theorem dX8_deliver_168 : decode cX8_deliver 168 = .ok (.iload 7, 2) := by decide +kernel
theorem dX8_deliver_170 : decode cX8_deliver 170 = .ok (.iaload, 1) := by decide +kernel
theorem dX8_deliver_171 : decode cX8_deliver 171 = .ok (.isub, 1) := by decide +kernel
theorem dX8_deliver_172 : decode cX8_deliver 172 = .ok (.ldc 160, 2) := by decide +kernel
theorem dX8_deliver_174 : decode cX8_deliver 174 = .ok (.if_icmp .lt 7, 3) := by decide +kernel
theorem dX8_deliver_177 : decode cX8_deliver 177 = .ok (.iconst 1, 1) := by decide +kernel
theorem dX8_deliver_178 : decode cX8_deliver 178 = .ok (.goto 4, 3) := by decide +kernel
theorem dX8_deliver_181 : decode cX8_deliver 181 = .ok (.iconst 0, 1) := by decide +kernel
theorem dX8_deliver_182 : decode cX8_deliver 182 = .ok (.istore 8, 2) := by decide +kernel
theorem dX8_deliver_184 : decode cX8_deliver 184 = .ok (.aload_n 0, 1) := by decide +kernel
theorem dX8_deliver_185 : decode cX8_deliver 185 = .ok (.getfield 98, 3) := by decide +kernel
theorem dX8_deliver_188 : decode cX8_deliver 188 = .ok (.iload 7, 2) := by decide +kernel
theorem dX8_deliver_190 : decode cX8_deliver 190 = .ok (.iload 8, 2) := by decide +kernel
theorem dX8_deliver_192 : decode cX8_deliver 192 = .ok (.ifCond .eq 7, 3) := by decide +kernel
theorem dX8_deliver_195 : decode cX8_deliver 195 = .ok (.iconst 3, 1) := by decide +kernel
theorem dX8_deliver_196 : decode cX8_deliver 196 = .ok (.goto 4, 3) := by decide +kernel
theorem dX8_deliver_199 : decode cX8_deliver 199 = .ok (.iconst 2, 1) := by decide +kernel
theorem dX8_deliver_200 : decode cX8_deliver 200 = .ok (.iastore, 1) := by decide +kernel
theorem dX8_deliver_201 : decode cX8_deliver 201 = .ok (.iload 6, 2) := by decide +kernel
theorem dX8_deliver_203 : decode cX8_deliver 203 = .ok (.iload 8, 2) := by decide +kernel
theorem dX8_deliver_205 : decode cX8_deliver 205 = .ok (.ifCond .eq 7, 3) := by decide +kernel
theorem dX8_deliver_208 : decode cX8_deliver 208 = .ok (.iconst 1, 1) := by decide +kernel
theorem dX8_deliver_209 : decode cX8_deliver 209 = .ok (.goto 4, 3) := by decide +kernel
theorem dX8_deliver_212 : decode cX8_deliver 212 = .ok (.iconst 0, 1) := by decide +kernel
theorem dX8_deliver_213 : decode cX8_deliver 213 = .ok (.iadd, 1) := by decide +kernel
theorem dX8_deliver_214 : decode cX8_deliver 214 = .ok (.istore 6, 2) := by decide +kernel
theorem dX8_deliver_216 : decode cX8_deliver 216 = .ok (.iinc 7 1, 3) := by decide +kernel
theorem dX8_deliver_219 : decode cX8_deliver 219 = .ok (.goto (-101), 3) := by decide +kernel
theorem dX8_deliver_222 : decode cX8_deliver 222 = .ok (.iload 6, 2) := by decide +kernel
theorem dX8_deliver_224 : decode cX8_deliver 224 = .ok (.ireturn, 1) := by decide +kernel
theorem dX8_priceOf_0 : decode cX8_priceOf 0 = .ok (.iload_n 1, 1) := by decide +kernel
theorem dX8_priceOf_1 : decode cX8_priceOf 1 = .ok (.iconst (-1), 1) := by decide +kernel
theorem dX8_priceOf_2 : decode cX8_priceOf 2 = .ok (.if_icmp .ne 5, 3) := by decide +kernel
theorem dX8_priceOf_5 : decode cX8_priceOf 5 = .ok (.iconst 0, 1) := by decide +kernel
theorem dX8_priceOf_6 : decode cX8_priceOf 6 = .ok (.ireturn, 1) := by decide +kernel
theorem dX8_priceOf_7 : decode cX8_priceOf 7 = .ok (.aload_n 0, 1) := by decide +kernel
theorem dX8_priceOf_8 : decode cX8_priceOf 8 = .ok (.getfield 41, 3) := by decide +kernel
theorem dX8_priceOf_11 : decode cX8_priceOf 11 = .ok (.iload_n 1, 1) := by decide +kernel
theorem dX8_priceOf_12 : decode cX8_priceOf 12 = .ok (.iaload, 1) := by decide +kernel
theorem dX8_priceOf_13 : decode cX8_priceOf 13 = .ok (.ifCond .le 22, 3) := by decide +kernel
theorem dX8_priceOf_16 : decode cX8_priceOf 16 = .ok (.iload_n 2, 1) := by decide +kernel
theorem dX8_priceOf_17 : decode cX8_priceOf 17 = .ok (.aload_n 0, 1) := by decide +kernel
theorem dX8_priceOf_18 : decode cX8_priceOf 18 = .ok (.getfield 41, 3) := by decide +kernel
theorem dX8_priceOf_21 : decode cX8_priceOf 21 = .ok (.iload_n 1, 1) := by decide +kernel
theorem dX8_priceOf_22 : decode cX8_priceOf 22 = .ok (.iaload, 1) := by decide +kernel
theorem dX8_priceOf_23 : decode cX8_priceOf 23 = .ok (.if_icmp .lt 12, 3) := by decide +kernel
theorem dX8_priceOf_26 : decode cX8_priceOf 26 = .ok (.aload_n 0, 1) := by decide +kernel
theorem dX8_priceOf_27 : decode cX8_priceOf 27 = .ok (.getfield 44, 3) := by decide +kernel
theorem dX8_priceOf_30 : decode cX8_priceOf 30 = .ok (.iload_n 1, 1) := by decide +kernel
theorem dX8_priceOf_31 : decode cX8_priceOf 31 = .ok (.iaload, 1) := by decide +kernel
theorem dX8_priceOf_32 : decode cX8_priceOf 32 = .ok (.goto 9, 3) := by decide +kernel
theorem dX8_priceOf_35 : decode cX8_priceOf 35 = .ok (.aload_n 0, 1) := by decide +kernel
theorem dX8_priceOf_36 : decode cX8_priceOf 36 = .ok (.getfield 38, 3) := by decide +kernel
theorem dX8_priceOf_39 : decode cX8_priceOf 39 = .ok (.iload_n 1, 1) := by decide +kernel
theorem dX8_priceOf_40 : decode cX8_priceOf 40 = .ok (.iaload, 1) := by decide +kernel
theorem dX8_priceOf_41 : decode cX8_priceOf 41 = .ok (.ireturn, 1) := by decide +kernel
theorem dX8_owes_0 : decode cX8_owes 0 = .ok (.aload_n 0, 1) := by decide +kernel
theorem dX8_owes_1 : decode cX8_owes 1 = .ok (.iload_n 1, 1) := by decide +kernel
theorem dX8_owes_2 : decode cX8_owes 2 = .ok (.invokestatic 129, 3) := by decide +kernel
theorem dX8_owes_5 : decode cX8_owes 5 = .ok (.ifCond .eq 14, 3) := by decide +kernel
theorem dX8_owes_8 : decode cX8_owes 8 = .ok (.iload_n 2, 1) := by decide +kernel
theorem dX8_owes_9 : decode cX8_owes 9 = .ok (.invokestatic 129, 3) := by decide +kernel
theorem dX8_owes_12 : decode cX8_owes 12 = .ok (.ifCond .eq 7, 3) := by decide +kernel
theorem dX8_owes_15 : decode cX8_owes 15 = .ok (.iconst 0, 1) := by decide +kernel
theorem dX8_owes_16 : decode cX8_owes 16 = .ok (.goto 4, 3) := by decide +kernel
theorem dX8_owes_19 : decode cX8_owes 19 = .ok (.iconst 1, 1) := by decide +kernel
theorem dX8_owes_20 : decode cX8_owes 20 = .ok (.putfield 110, 3) := by decide +kernel
theorem dX8_owes_23 : decode cX8_owes 23 = .ok (.iconst 0, 1) := by decide +kernel
theorem dX8_owes_24 : decode cX8_owes 24 = .ok (.istore_n 3, 1) := by decide +kernel
theorem dX8_owes_25 : decode cX8_owes 25 = .ok (.aload_n 0, 1) := by decide +kernel
theorem dX8_owes_26 : decode cX8_owes 26 = .ok (.getfield 110, 3) := by decide +kernel
theorem dX8_owes_29 : decode cX8_owes 29 = .ok (.ifCond .le 7, 3) := by decide +kernel
theorem dX8_owes_32 : decode cX8_owes 32 = .ok (.iconst 0, 1) := by decide +kernel
theorem dX8_owes_33 : decode cX8_owes 33 = .ok (.goto 10, 3) := by decide +kernel
theorem dX8_owes_36 : decode cX8_owes 36 = .ok (.aload_n 0, 1) := by decide +kernel
theorem dX8_owes_37 : decode cX8_owes 37 = .ok (.iload_n 2, 1) := by decide +kernel
theorem dX8_owes_38 : decode cX8_owes 38 = .ok (.iload_n 1, 1) := by decide +kernel
theorem dX8_owes_39 : decode cX8_owes 39 = .ok (.iconst 2, 1) := by decide +kernel
theorem dX8_owes_40 : decode cX8_owes 40 = .ok (.invokevirtual 191, 3) := by decide +kernel
theorem dX8_owes_43 : decode cX8_owes 43 = .ok (.istore 4, 2) := by decide +kernel
theorem dX8_owes_45 : decode cX8_owes 45 = .ok (.iconst 0, 1) := by decide +kernel
theorem dX8_owes_46 : decode cX8_owes 46 = .ok (.istore 5, 2) := by decide +kernel
theorem dX8_owes_48 : decode cX8_owes 48 = .ok (.iload 5, 2) := by decide +kernel
theorem dX8_owes_50 : decode cX8_owes 50 = .ok (.aload_n 0, 1) := by decide +kernel
theorem dX8_owes_51 : decode cX8_owes 51 = .ok (.getfield 169, 3) := by decide +kernel
theorem dX8_owes_54 : decode cX8_owes 54 = .ok (.if_icmp .ge 66, 3) := by decide +kernel
theorem dX8_owes_57 : decode cX8_owes 57 = .ok (.aload_n 0, 1) := by decide +kernel
theorem dX8_owes_58 : decode cX8_owes 58 = .ok (.getfield 110, 3) := by decide +kernel
theorem dX8_owes_61 : decode cX8_owes 61 = .ok (.ifCond .ne 59, 3) := by decide +kernel
theorem dX8_owes_64 : decode cX8_owes 64 = .ok (.iload_n 3, 1) := by decide +kernel
theorem dX8_owes_65 : decode cX8_owes 65 = .ok (.aload_n 0, 1) := by decide +kernel
theorem dX8_owes_66 : decode cX8_owes 66 = .ok (.iload 5, 2) := by decide +kernel
theorem dX8_owes_68 : decode cX8_owes 68 = .ok (.iload_n 2, 1) := by decide +kernel
theorem dX8_owes_69 : decode cX8_owes 69 = .ok (.iload_n 1, 1) := by decide +kernel
theorem dX8_owes_70 : decode cX8_owes 70 = .ok (.invokevirtual 188, 3) := by decide +kernel
theorem dX8_owes_73 : decode cX8_owes 73 = .ok (.ifCond .eq 38, 3) := by decide +kernel
theorem dX8_owes_76 : decode cX8_owes 76 = .ok (.aload_n 0, 1) := by decide +kernel
theorem dX8_owes_77 : decode cX8_owes 77 = .ok (.getfield 98, 3) := by decide +kernel
theorem dX8_owes_80 : decode cX8_owes 80 = .ok (.iload 5, 2) := by decide +kernel
theorem dX8_owes_82 : decode cX8_owes 82 = .ok (.iaload, 1) := by decide +kernel
theorem dX8_owes_83 : decode cX8_owes 83 = .ok (.iconst 2, 1) := by decide +kernel
theorem dX8_owes_84 : decode cX8_owes 84 = .ok (.if_icmp .ne 27, 3) := by decide +kernel
theorem dX8_owes_87 : decode cX8_owes 87 = .ok (.aload_n 0, 1) := by decide +kernel
theorem dX8_owes_88 : decode cX8_owes 88 = .ok (.getfield 89, 3) := by decide +kernel
theorem dX8_owes_91 : decode cX8_owes 91 = .ok (.iload 5, 2) := by decide +kernel
theorem dX8_owes_93 : decode cX8_owes 93 = .ok (.iaload, 1) := by decide +kernel
theorem dX8_owes_94 : decode cX8_owes 94 = .ok (.aload_n 0, 1) := by decide +kernel
theorem dX8_owes_95 : decode cX8_owes 95 = .ok (.aload_n 0, 1) := by decide +kernel
theorem dX8_owes_96 : decode cX8_owes 96 = .ok (.getfield 95, 3) := by decide +kernel
theorem dX8_owes_99 : decode cX8_owes 99 = .ok (.iload 5, 2) := by decide +kernel
theorem dX8_owes_101 : decode cX8_owes 101 = .ok (.iaload, 1) := by decide +kernel
theorem dX8_owes_102 : decode cX8_owes 102 = .ok (.iload 4, 2) := by decide +kernel
theorem dX8_owes_104 : decode cX8_owes 104 = .ok (.invokevirtual 195, 3) := by decide +kernel
theorem dX8_owes_107 : decode cX8_owes 107 = .ok (.imul, 1) := by decide +kernel
theorem dX8_owes_108 : decode cX8_owes 108 = .ok (.goto 4, 3) := by decide +kernel
theorem dX8_owes_111 : decode cX8_owes 111 = .ok (.iconst 0, 1) := by decide +kernel
theorem dX8_owes_112 : decode cX8_owes 112 = .ok (.iadd, 1) := by decide +kernel
theorem dX8_owes_113 : decode cX8_owes 113 = .ok (.istore_n 3, 1) := by decide +kernel
theorem dX8_owes_114 : decode cX8_owes 114 = .ok (.iinc 5 1, 3) := by decide +kernel
theorem dX8_owes_117 : decode cX8_owes 117 = .ok (.goto (-69), 3) := by decide +kernel
theorem dX8_owes_120 : decode cX8_owes 120 = .ok (.iload_n 3, 1) := by decide +kernel
theorem dX8_owes_121 : decode cX8_owes 121 = .ok (.ireturn, 1) := by decide +kernel
theorem dX8_owesAnew_0 : decode cX8_owesAnew 0 = .ok (.aload_n 0, 1) := by decide +kernel
theorem dX8_owesAnew_1 : decode cX8_owesAnew 1 = .ok (.iload_n 1, 1) := by decide +kernel
theorem dX8_owesAnew_2 : decode cX8_owesAnew 2 = .ok (.iload_n 2, 1) := by decide +kernel
theorem dX8_owesAnew_3 : decode cX8_owesAnew 3 = .ok (.invokevirtual 198, 3) := by decide +kernel
theorem dX8_owesAnew_6 : decode cX8_owesAnew 6 = .ok (.ireturn, 1) := by decide +kernel
theorem dX8_recorded_0 : decode cX8_recorded 0 = .ok (.aload_n 0, 1) := by decide +kernel
theorem dX8_recorded_1 : decode cX8_recorded 1 = .ok (.iload_n 1, 1) := by decide +kernel
theorem dX8_recorded_2 : decode cX8_recorded 2 = .ok (.invokestatic 129, 3) := by decide +kernel
theorem dX8_recorded_5 : decode cX8_recorded 5 = .ok (.ifCond .eq 10, 3) := by decide +kernel
theorem dX8_recorded_8 : decode cX8_recorded 8 = .ok (.iload_n 2, 1) := by decide +kernel
theorem dX8_recorded_9 : decode cX8_recorded 9 = .ok (.invokestatic 129, 3) := by decide +kernel
theorem dX8_recorded_12 : decode cX8_recorded 12 = .ok (.ifCond .ne 7, 3) := by decide +kernel
theorem dX8_recorded_15 : decode cX8_recorded 15 = .ok (.iconst 1, 1) := by decide +kernel
theorem dX8_recorded_16 : decode cX8_recorded 16 = .ok (.goto 17, 3) := by decide +kernel
theorem dX8_recorded_19 : decode cX8_recorded 19 = .ok (.iload_n 3, 1) := by decide +kernel
theorem dX8_recorded_20 : decode cX8_recorded 20 = .ok (.iconst 0, 1) := by decide +kernel
theorem dX8_recorded_21 : decode cX8_recorded 21 = .ok (.iconst 3, 1) := by decide +kernel
theorem dX8_recorded_22 : decode cX8_recorded 22 = .ok (.invokestatic 114, 3) := by decide +kernel
theorem dX8_recorded_25 : decode cX8_recorded 25 = .ok (.ifCond .eq 7, 3) := by decide +kernel
theorem dX8_recorded_28 : decode cX8_recorded 28 = .ok (.iconst 0, 1) := by decide +kernel
theorem dX8_recorded_29 : decode cX8_recorded 29 = .ok (.goto 4, 3) := by decide +kernel
theorem dX8_recorded_32 : decode cX8_recorded 32 = .ok (.iconst 2, 1) := by decide +kernel
theorem dX8_recorded_33 : decode cX8_recorded 33 = .ok (.putfield 110, 3) := by decide +kernel
theorem dX8_recorded_36 : decode cX8_recorded 36 = .ok (.aload_n 0, 1) := by decide +kernel
theorem dX8_recorded_37 : decode cX8_recorded 37 = .ok (.getfield 110, 3) := by decide +kernel
theorem dX8_recorded_40 : decode cX8_recorded 40 = .ok (.ifCond .le 7, 3) := by decide +kernel
theorem dX8_recorded_43 : decode cX8_recorded 43 = .ok (.iconst 0, 1) := by decide +kernel
theorem dX8_recorded_44 : decode cX8_recorded 44 = .ok (.goto 10, 3) := by decide +kernel
theorem dX8_recorded_47 : decode cX8_recorded 47 = .ok (.aload_n 0, 1) := by decide +kernel
theorem dX8_recorded_48 : decode cX8_recorded 48 = .ok (.iload_n 1, 1) := by decide +kernel
theorem dX8_recorded_49 : decode cX8_recorded 49 = .ok (.iload_n 2, 1) := by decide +kernel
theorem dX8_recorded_50 : decode cX8_recorded 50 = .ok (.iload_n 3, 1) := by decide +kernel
theorem dX8_recorded_51 : decode cX8_recorded 51 = .ok (.invokevirtual 191, 3) := by decide +kernel
theorem dX8_recorded_54 : decode cX8_recorded 54 = .ok (.ireturn, 1) := by decide +kernel
theorem dX8_begins_0 : decode cX8_begins 0 = .ok (.iconst 0, 1) := by decide +kernel
theorem dX8_begins_1 : decode cX8_begins 1 = .ok (.istore_n 1, 1) := by decide +kernel
theorem dX8_begins_2 : decode cX8_begins 2 = .ok (.iload_n 1, 1) := by decide +kernel
theorem dX8_begins_3 : decode cX8_begins 3 = .ok (.aload_n 0, 1) := by decide +kernel
theorem dX8_begins_4 : decode cX8_begins 4 = .ok (.getfield 118, 3) := by decide +kernel
theorem dX8_begins_7 : decode cX8_begins 7 = .ok (.if_icmp .ge 24, 3) := by decide +kernel
theorem dX8_begins_10 : decode cX8_begins 10 = .ok (.aload_n 0, 1) := by decide +kernel
theorem dX8_begins_11 : decode cX8_begins 11 = .ok (.getfield 56, 3) := by decide +kernel
theorem dX8_begins_14 : decode cX8_begins 14 = .ok (.iload_n 1, 1) := by decide +kernel
theorem dX8_begins_15 : decode cX8_begins 15 = .ok (.iaload, 1) := by decide +kernel
theorem dX8_begins_16 : decode cX8_begins 16 = .ok (.iconst (-1), 1) := by decide +kernel
theorem dX8_begins_17 : decode cX8_begins 17 = .ok (.if_icmp .eq 8, 3) := by decide +kernel
theorem dX8_begins_20 : decode cX8_begins 20 = .ok (.aload_n 0, 1) := by decide +kernel
theorem dX8_begins_21 : decode cX8_begins 21 = .ok (.iload_n 1, 1) := by decide +kernel
theorem dX8_begins_22 : decode cX8_begins 22 = .ok (.invokevirtual 157, 3) := by decide +kernel
theorem dX8_begins_25 : decode cX8_begins 25 = .ok (.iinc 1 1, 3) := by decide +kernel
theorem dX8_begins_28 : decode cX8_begins 28 = .ok (.goto (-26), 3) := by decide +kernel
theorem dX8_begins_31 : decode cX8_begins 31 = .ok (.iconst 0, 1) := by decide +kernel
theorem dX8_begins_32 : decode cX8_begins 32 = .ok (.istore_n 1, 1) := by decide +kernel
theorem dX8_begins_33 : decode cX8_begins 33 = .ok (.iload_n 1, 1) := by decide +kernel
theorem dX8_begins_34 : decode cX8_begins 34 = .ok (.bipush 60, 2) := by decide +kernel
theorem dX8_begins_36 : decode cX8_begins 36 = .ok (.if_icmp .ge 52, 3) := by decide +kernel
theorem dX8_begins_39 : decode cX8_begins 39 = .ok (.aload_n 0, 1) := by decide +kernel
theorem dX8_begins_40 : decode cX8_begins 40 = .ok (.getfield 80, 3) := by decide +kernel
theorem dX8_begins_43 : decode cX8_begins 43 = .ok (.iload_n 1, 1) := by decide +kernel
theorem dX8_begins_44 : decode cX8_begins 44 = .ok (.aload_n 0, 1) := by decide +kernel
theorem dX8_begins_45 : decode cX8_begins 45 = .ok (.getfield 80, 3) := by decide +kernel
theorem dX8_begins_48 : decode cX8_begins 48 = .ok (.iload_n 1, 1) := by decide +kernel
theorem dX8_begins_49 : decode cX8_begins 49 = .ok (.iaload, 1) := by decide +kernel
theorem dX8_begins_50 : decode cX8_begins 50 = .ok (.iconst (-1), 1) := by decide +kernel
theorem dX8_begins_51 : decode cX8_begins 51 = .ok (.if_icmp .eq 24, 3) := by decide +kernel
theorem dX8_begins_54 : decode cX8_begins 54 = .ok (.aload_n 0, 1) := by decide +kernel
theorem dX8_begins_55 : decode cX8_begins 55 = .ok (.getfield 141, 3) := by decide +kernel
theorem dX8_begins_58 : decode cX8_begins 58 = .ok (.aload_n 0, 1) := by decide +kernel
theorem dX8_begins_59 : decode cX8_begins 59 = .ok (.getfield 80, 3) := by decide +kernel
theorem dX8_begins_62 : decode cX8_begins 62 = .ok (.iload_n 1, 1) := by decide +kernel
theorem dX8_begins_63 : decode cX8_begins 63 = .ok (.iaload, 1) := by decide +kernel
theorem dX8_begins_64 : decode cX8_begins 64 = .ok (.isub, 1) := by decide +kernel
theorem dX8_begins_65 : decode cX8_begins 65 = .ok (.sipush 180, 3) := by decide +kernel
theorem dX8_begins_68 : decode cX8_begins 68 = .ok (.if_icmp .lt 7, 3) := by decide +kernel
theorem dX8_begins_71 : decode cX8_begins 71 = .ok (.iconst (-1), 1) := by decide +kernel
theorem dX8_begins_72 : decode cX8_begins 72 = .ok (.goto 9, 3) := by decide +kernel
theorem dX8_begins_75 : decode cX8_begins 75 = .ok (.aload_n 0, 1) := by decide +kernel
theorem dX8_begins_76 : decode cX8_begins 76 = .ok (.getfield 80, 3) := by decide +kernel
theorem dX8_begins_79 : decode cX8_begins 79 = .ok (.iload_n 1, 1) := by decide +kernel
theorem dX8_begins_80 : decode cX8_begins 80 = .ok (.iaload, 1) := by decide +kernel
theorem dX8_begins_81 : decode cX8_begins 81 = .ok (.iastore, 1) := by decide +kernel
theorem dX8_begins_82 : decode cX8_begins 82 = .ok (.iinc 1 1, 3) := by decide +kernel
theorem dX8_begins_85 : decode cX8_begins 85 = .ok (.goto (-52), 3) := by decide +kernel
theorem dX8_begins_88 : decode cX8_begins 88 = .ok (.return_, 1) := by decide +kernel
theorem dX8_pass_0 : decode cX8_pass 0 = .ok (.aload_n 0, 1) := by decide +kernel
theorem dX8_pass_1 : decode cX8_pass 1 = .ok (.iload_n 1, 1) := by decide +kernel
theorem dX8_pass_2 : decode cX8_pass 2 = .ok (.iconst 1, 1) := by decide +kernel
theorem dX8_pass_3 : decode cX8_pass 3 = .ok (.ldc 201, 2) := by decide +kernel
theorem dX8_pass_5 : decode cX8_pass 5 = .ok (.invokestatic 114, 3) := by decide +kernel
theorem dX8_pass_8 : decode cX8_pass 8 = .ok (.ifCond .ne 7, 3) := by decide +kernel
theorem dX8_pass_11 : decode cX8_pass 11 = .ok (.iconst 1, 1) := by decide +kernel
theorem dX8_pass_12 : decode cX8_pass 12 = .ok (.goto 19, 3) := by decide +kernel
theorem dX8_pass_15 : decode cX8_pass 15 = .ok (.aload_n 0, 1) := by decide +kernel
theorem dX8_pass_16 : decode cX8_pass 16 = .ok (.getfield 141, 3) := by decide +kernel
theorem dX8_pass_19 : decode cX8_pass 19 = .ok (.iload_n 1, 1) := by decide +kernel
theorem dX8_pass_20 : decode cX8_pass 20 = .ok (.iadd, 1) := by decide +kernel
theorem dX8_pass_21 : decode cX8_pass 21 = .ok (.ldc 136, 2) := by decide +kernel
theorem dX8_pass_23 : decode cX8_pass 23 = .ok (.if_icmp .le 7, 3) := by decide +kernel
theorem dX8_pass_26 : decode cX8_pass 26 = .ok (.iconst 2, 1) := by decide +kernel
theorem dX8_pass_27 : decode cX8_pass 27 = .ok (.goto 4, 3) := by decide +kernel
theorem dX8_pass_30 : decode cX8_pass 30 = .ok (.iconst 0, 1) := by decide +kernel
theorem dX8_pass_31 : decode cX8_pass 31 = .ok (.putfield 110, 3) := by decide +kernel
theorem dX8_pass_34 : decode cX8_pass 34 = .ok (.iconst 0, 1) := by decide +kernel
theorem dX8_pass_35 : decode cX8_pass 35 = .ok (.istore_n 2, 1) := by decide +kernel
theorem dX8_pass_36 : decode cX8_pass 36 = .ok (.iload_n 2, 1) := by decide +kernel
theorem dX8_pass_37 : decode cX8_pass 37 = .ok (.iload_n 1, 1) := by decide +kernel
theorem dX8_pass_38 : decode cX8_pass 38 = .ok (.if_icmp .ge 40, 3) := by decide +kernel
theorem dX8_pass_41 : decode cX8_pass 41 = .ok (.aload_n 0, 1) := by decide +kernel
theorem dX8_pass_42 : decode cX8_pass 42 = .ok (.getfield 110, 3) := by decide +kernel
theorem dX8_pass_45 : decode cX8_pass 45 = .ok (.ifCond .ne 33, 3) := by decide +kernel
theorem dX8_pass_48 : decode cX8_pass 48 = .ok (.aload_n 0, 1) := by decide +kernel
theorem dX8_pass_49 : decode cX8_pass 49 = .ok (.dup, 1) := by decide +kernel
theorem dX8_pass_50 : decode cX8_pass 50 = .ok (.getfield 141, 3) := by decide +kernel
theorem dX8_pass_53 : decode cX8_pass 53 = .ok (.iconst 1, 1) := by decide +kernel
theorem dX8_pass_54 : decode cX8_pass 54 = .ok (.iadd, 1) := by decide +kernel
theorem dX8_pass_55 : decode cX8_pass 55 = .ok (.putfield 141, 3) := by decide +kernel
theorem dX8_pass_58 : decode cX8_pass 58 = .ok (.aload_n 0, 1) := by decide +kernel
theorem dX8_pass_59 : decode cX8_pass 59 = .ok (.getfield 141, 3) := by decide +kernel
theorem dX8_pass_62 : decode cX8_pass 62 = .ok (.bipush 60, 2) := by decide +kernel
theorem dX8_pass_64 : decode cX8_pass 64 = .ok (.irem, 1) := by decide +kernel
theorem dX8_pass_65 : decode cX8_pass 65 = .ok (.ifCond .ne 7, 3) := by decide +kernel
theorem dX8_pass_68 : decode cX8_pass 68 = .ok (.aload_n 0, 1) := by decide +kernel
theorem dX8_pass_69 : decode cX8_pass 69 = .ok (.invokevirtual 202, 3) := by decide +kernel
theorem dX8_pass_72 : decode cX8_pass 72 = .ok (.iinc 2 1, 3) := by decide +kernel
theorem dX8_pass_75 : decode cX8_pass 75 = .ok (.goto (-39), 3) := by decide +kernel
theorem dX8_pass_78 : decode cX8_pass 78 = .ok (.aload_n 0, 1) := by decide +kernel
theorem dX8_pass_79 : decode cX8_pass 79 = .ok (.getfield 110, 3) := by decide +kernel
theorem dX8_pass_82 : decode cX8_pass 82 = .ok (.ifCond .le 7, 3) := by decide +kernel
theorem dX8_pass_85 : decode cX8_pass 85 = .ok (.iconst 0, 1) := by decide +kernel
theorem dX8_pass_86 : decode cX8_pass 86 = .ok (.goto 7, 3) := by decide +kernel
theorem dX8_pass_89 : decode cX8_pass 89 = .ok (.aload_n 0, 1) := by decide +kernel
theorem dX8_pass_90 : decode cX8_pass 90 = .ok (.getfield 141, 3) := by decide +kernel
theorem dX8_pass_93 : decode cX8_pass 93 = .ok (.ireturn, 1) := by decide +kernel
end
section
theorem dL_reach_0 : decode cL_reach 0 = .ok (.aload_n 3, 1) := by decide +kernel
theorem dL_reach_1 : decode cL_reach 1 = .ok (.iconst 0, 1) := by decide +kernel
theorem dL_reach_2 : decode cL_reach 2 = .ok (.aload_n 0, 1) := by decide +kernel
theorem dL_reach_3 : decode cL_reach 3 = .ok (.iload_n 1, 1) := by decide +kernel
theorem dL_reach_4 : decode cL_reach 4 = .ok (.iload_n 2, 1) := by decide +kernel
theorem dL_reach_5 : decode cL_reach 5 = .ok (.invokevirtual 7, 3) := by decide +kernel
theorem dL_reach_8 : decode cL_reach 8 = .ok (.i2l, 1) := by decide +kernel
theorem dL_reach_9 : decode cL_reach 9 = .ok (.lastore, 1) := by decide +kernel
theorem dL_reach_10 : decode cL_reach 10 = .ok (.goto 11, 3) := by decide +kernel
theorem dL_reach_13 : decode cL_reach 13 = .ok (.astore 4, 2) := by decide +kernel
theorem dL_reach_15 : decode cL_reach 15 = .ok (.iconst 1, 1) := by decide +kernel
theorem dL_reach_16 : decode cL_reach 16 = .ok (.ireturn, 1) := by decide +kernel
theorem dL_reach_17 : decode cL_reach 17 = .ok (.astore 4, 2) := by decide +kernel
theorem dL_reach_19 : decode cL_reach 19 = .ok (.iconst 2, 1) := by decide +kernel
theorem dL_reach_20 : decode cL_reach 20 = .ok (.ireturn, 1) := by decide +kernel
theorem dL_reach_21 : decode cL_reach 21 = .ok (.iconst 0, 1) := by decide +kernel
theorem dL_reach_22 : decode cL_reach 22 = .ok (.ireturn, 1) := by decide +kernel
theorem dL_dead_0 : decode cL_dead 0 = .ok (.aload_n 3, 1) := by decide +kernel
theorem dL_dead_1 : decode cL_dead 1 = .ok (.iconst 0, 1) := by decide +kernel
theorem dL_dead_2 : decode cL_dead 2 = .ok (.aload_n 0, 1) := by decide +kernel
theorem dL_dead_3 : decode cL_dead 3 = .ok (.iload_n 1, 1) := by decide +kernel
theorem dL_dead_4 : decode cL_dead 4 = .ok (.iload_n 2, 1) := by decide +kernel
theorem dL_dead_5 : decode cL_dead 5 = .ok (.invokevirtual 17, 3) := by decide +kernel
theorem dL_dead_8 : decode cL_dead 8 = .ok (.ifCond .eq 7, 3) := by decide +kernel
theorem dL_dead_11 : decode cL_dead 11 = .ok (.lconst 1, 1) := by decide +kernel
theorem dL_dead_12 : decode cL_dead 12 = .ok (.goto 4, 3) := by decide +kernel
theorem dL_dead_15 : decode cL_dead 15 = .ok (.lconst 0, 1) := by decide +kernel
theorem dL_dead_16 : decode cL_dead 16 = .ok (.lastore, 1) := by decide +kernel
theorem dL_dead_17 : decode cL_dead 17 = .ok (.goto 7, 3) := by decide +kernel
theorem dL_dead_20 : decode cL_dead 20 = .ok (.astore 4, 2) := by decide +kernel
theorem dL_dead_22 : decode cL_dead 22 = .ok (.iconst 1, 1) := by decide +kernel
theorem dL_dead_23 : decode cL_dead 23 = .ok (.ireturn, 1) := by decide +kernel
theorem dL_dead_24 : decode cL_dead 24 = .ok (.iconst 0, 1) := by decide +kernel
theorem dL_dead_25 : decode cL_dead 25 = .ok (.ireturn, 1) := by decide +kernel
theorem dL_agree_0 : decode cL_agree 0 = .ok (.aload 8, 2) := by decide +kernel
theorem dL_agree_2 : decode cL_agree 2 = .ok (.iconst 0, 1) := by decide +kernel
theorem dL_agree_3 : decode cL_agree 3 = .ok (.aload_n 0, 1) := by decide +kernel
theorem dL_agree_4 : decode cL_agree 4 = .ok (.iload_n 1, 1) := by decide +kernel
theorem dL_agree_5 : decode cL_agree 5 = .ok (.iload_n 2, 1) := by decide +kernel
theorem dL_agree_6 : decode cL_agree 6 = .ok (.iload_n 3, 1) := by decide +kernel
theorem dL_agree_7 : decode cL_agree 7 = .ok (.iload 4, 2) := by decide +kernel
theorem dL_agree_9 : decode cL_agree 9 = .ok (.iload 5, 2) := by decide +kernel
theorem dL_agree_11 : decode cL_agree 11 = .ok (.iload 6, 2) := by decide +kernel
theorem dL_agree_13 : decode cL_agree 13 = .ok (.iload 7, 2) := by decide +kernel
theorem dL_agree_15 : decode cL_agree 15 = .ok (.invokevirtual 21, 3) := by decide +kernel
theorem dL_agree_18 : decode cL_agree 18 = .ok (.i2l, 1) := by decide +kernel
theorem dL_agree_19 : decode cL_agree 19 = .ok (.lastore, 1) := by decide +kernel
theorem dL_agree_20 : decode cL_agree 20 = .ok (.goto 15, 3) := by decide +kernel
theorem dL_agree_23 : decode cL_agree 23 = .ok (.astore 9, 2) := by decide +kernel
theorem dL_agree_25 : decode cL_agree 25 = .ok (.iconst 1, 1) := by decide +kernel
theorem dL_agree_26 : decode cL_agree 26 = .ok (.ireturn, 1) := by decide +kernel
theorem dL_agree_27 : decode cL_agree 27 = .ok (.astore 9, 2) := by decide +kernel
theorem dL_agree_29 : decode cL_agree 29 = .ok (.iconst 2, 1) := by decide +kernel
theorem dL_agree_30 : decode cL_agree 30 = .ok (.ireturn, 1) := by decide +kernel
theorem dL_agree_31 : decode cL_agree 31 = .ok (.astore 9, 2) := by decide +kernel
theorem dL_agree_33 : decode cL_agree 33 = .ok (.iconst 3, 1) := by decide +kernel
theorem dL_agree_34 : decode cL_agree 34 = .ok (.ireturn, 1) := by decide +kernel
theorem dL_agree_35 : decode cL_agree 35 = .ok (.iconst 0, 1) := by decide +kernel
theorem dL_agree_36 : decode cL_agree 36 = .ok (.ireturn, 1) := by decide +kernel
theorem dL_steer_0 : decode cL_steer 0 = .ok (.aload_n 3, 1) := by decide +kernel
theorem dL_steer_1 : decode cL_steer 1 = .ok (.iconst 0, 1) := by decide +kernel
theorem dL_steer_2 : decode cL_steer 2 = .ok (.aload_n 0, 1) := by decide +kernel
theorem dL_steer_3 : decode cL_steer 3 = .ok (.iload_n 1, 1) := by decide +kernel
theorem dL_steer_4 : decode cL_steer 4 = .ok (.iload_n 2, 1) := by decide +kernel
theorem dL_steer_5 : decode cL_steer 5 = .ok (.invokevirtual 27, 3) := by decide +kernel
theorem dL_steer_8 : decode cL_steer 8 = .ok (.i2l, 1) := by decide +kernel
theorem dL_steer_9 : decode cL_steer 9 = .ok (.lastore, 1) := by decide +kernel
theorem dL_steer_10 : decode cL_steer 10 = .ok (.goto 11, 3) := by decide +kernel
theorem dL_steer_13 : decode cL_steer 13 = .ok (.astore 4, 2) := by decide +kernel
theorem dL_steer_15 : decode cL_steer 15 = .ok (.iconst 1, 1) := by decide +kernel
theorem dL_steer_16 : decode cL_steer 16 = .ok (.ireturn, 1) := by decide +kernel
theorem dL_steer_17 : decode cL_steer 17 = .ok (.astore 4, 2) := by decide +kernel
theorem dL_steer_19 : decode cL_steer 19 = .ok (.iconst 2, 1) := by decide +kernel
theorem dL_steer_20 : decode cL_steer 20 = .ok (.ireturn, 1) := by decide +kernel
theorem dL_steer_21 : decode cL_steer 21 = .ok (.iconst 0, 1) := by decide +kernel
theorem dL_steer_22 : decode cL_steer 22 = .ok (.ireturn, 1) := by decide +kernel
theorem dL_prices_0 : decode cL_prices 0 = .ok (.aload_n 0, 1) := by decide +kernel
theorem dL_prices_1 : decode cL_prices 1 = .ok (.iload_n 1, 1) := by decide +kernel
theorem dL_prices_2 : decode cL_prices 2 = .ok (.iload_n 2, 1) := by decide +kernel
theorem dL_prices_3 : decode cL_prices 3 = .ok (.iload_n 3, 1) := by decide +kernel
theorem dL_prices_4 : decode cL_prices 4 = .ok (.iload 4, 2) := by decide +kernel
theorem dL_prices_6 : decode cL_prices 6 = .ok (.invokevirtual 30, 3) := by decide +kernel
theorem dL_prices_9 : decode cL_prices 9 = .ok (.goto 11, 3) := by decide +kernel
theorem dL_prices_12 : decode cL_prices 12 = .ok (.astore 5, 2) := by decide +kernel
theorem dL_prices_14 : decode cL_prices 14 = .ok (.iconst 1, 1) := by decide +kernel
theorem dL_prices_15 : decode cL_prices 15 = .ok (.ireturn, 1) := by decide +kernel
theorem dL_prices_16 : decode cL_prices 16 = .ok (.astore 5, 2) := by decide +kernel
theorem dL_prices_18 : decode cL_prices 18 = .ok (.iconst 2, 1) := by decide +kernel
theorem dL_prices_19 : decode cL_prices 19 = .ok (.ireturn, 1) := by decide +kernel
theorem dL_prices_20 : decode cL_prices 20 = .ok (.iconst 0, 1) := by decide +kernel
theorem dL_prices_21 : decode cL_prices 21 = .ok (.ireturn, 1) := by decide +kernel
theorem dL_lose_0 : decode cL_lose 0 = .ok (.aload_n 3, 1) := by decide +kernel
theorem dL_lose_1 : decode cL_lose 1 = .ok (.iconst 0, 1) := by decide +kernel
theorem dL_lose_2 : decode cL_lose 2 = .ok (.aload_n 0, 1) := by decide +kernel
theorem dL_lose_3 : decode cL_lose 3 = .ok (.iload_n 1, 1) := by decide +kernel
theorem dL_lose_4 : decode cL_lose 4 = .ok (.iload_n 2, 1) := by decide +kernel
theorem dL_lose_5 : decode cL_lose 5 = .ok (.invokevirtual 34, 3) := by decide +kernel
theorem dL_lose_8 : decode cL_lose 8 = .ok (.i2l, 1) := by decide +kernel
theorem dL_lose_9 : decode cL_lose 9 = .ok (.lastore, 1) := by decide +kernel
theorem dL_lose_10 : decode cL_lose 10 = .ok (.goto 11, 3) := by decide +kernel
theorem dL_lose_13 : decode cL_lose 13 = .ok (.astore 4, 2) := by decide +kernel
theorem dL_lose_15 : decode cL_lose 15 = .ok (.iconst 1, 1) := by decide +kernel
theorem dL_lose_16 : decode cL_lose 16 = .ok (.ireturn, 1) := by decide +kernel
theorem dL_lose_17 : decode cL_lose 17 = .ok (.astore 4, 2) := by decide +kernel
theorem dL_lose_19 : decode cL_lose 19 = .ok (.iconst 2, 1) := by decide +kernel
theorem dL_lose_20 : decode cL_lose 20 = .ok (.ireturn, 1) := by decide +kernel
theorem dL_lose_21 : decode cL_lose 21 = .ok (.iconst 0, 1) := by decide +kernel
theorem dL_lose_22 : decode cL_lose 22 = .ok (.ireturn, 1) := by decide +kernel
theorem dL_crash_0 : decode cL_crash 0 = .ok (.aload_n 2, 1) := by decide +kernel
theorem dL_crash_1 : decode cL_crash 1 = .ok (.iconst 0, 1) := by decide +kernel
theorem dL_crash_2 : decode cL_crash 2 = .ok (.aload_n 0, 1) := by decide +kernel
theorem dL_crash_3 : decode cL_crash 3 = .ok (.iload_n 1, 1) := by decide +kernel
theorem dL_crash_4 : decode cL_crash 4 = .ok (.invokevirtual 37, 3) := by decide +kernel
theorem dL_crash_7 : decode cL_crash 7 = .ok (.i2l, 1) := by decide +kernel
theorem dL_crash_8 : decode cL_crash 8 = .ok (.lastore, 1) := by decide +kernel
theorem dL_crash_9 : decode cL_crash 9 = .ok (.goto 6, 3) := by decide +kernel
theorem dL_crash_12 : decode cL_crash 12 = .ok (.astore_n 3, 1) := by decide +kernel
theorem dL_crash_13 : decode cL_crash 13 = .ok (.iconst 1, 1) := by decide +kernel
theorem dL_crash_14 : decode cL_crash 14 = .ok (.ireturn, 1) := by decide +kernel
theorem dL_crash_15 : decode cL_crash 15 = .ok (.iconst 0, 1) := by decide +kernel
theorem dL_crash_16 : decode cL_crash 16 = .ok (.ireturn, 1) := by decide +kernel
theorem dL_subscriber_0 : decode cL_subscriber 0 = .ok (.aload 4, 2) := by decide +kernel
theorem dL_subscriber_2 : decode cL_subscriber 2 = .ok (.iconst 0, 1) := by decide +kernel
theorem dL_subscriber_3 : decode cL_subscriber 3 = .ok (.aload_n 0, 1) := by decide +kernel
theorem dL_subscriber_4 : decode cL_subscriber 4 = .ok (.iload_n 1, 1) := by decide +kernel
theorem dL_subscriber_5 : decode cL_subscriber 5 = .ok (.iload_n 2, 1) := by decide +kernel
theorem dL_subscriber_6 : decode cL_subscriber 6 = .ok (.iload_n 3, 1) := by decide +kernel
theorem dL_subscriber_7 : decode cL_subscriber 7 = .ok (.invokevirtual 41, 3) := by decide +kernel
theorem dL_subscriber_10 : decode cL_subscriber 10 = .ok (.i2l, 1) := by decide +kernel
theorem dL_subscriber_11 : decode cL_subscriber 11 = .ok (.lastore, 1) := by decide +kernel
theorem dL_subscriber_12 : decode cL_subscriber 12 = .ok (.goto 15, 3) := by decide +kernel
theorem dL_subscriber_15 : decode cL_subscriber 15 = .ok (.astore 5, 2) := by decide +kernel
theorem dL_subscriber_17 : decode cL_subscriber 17 = .ok (.iconst 1, 1) := by decide +kernel
theorem dL_subscriber_18 : decode cL_subscriber 18 = .ok (.ireturn, 1) := by decide +kernel
theorem dL_subscriber_19 : decode cL_subscriber 19 = .ok (.astore 5, 2) := by decide +kernel
theorem dL_subscriber_21 : decode cL_subscriber 21 = .ok (.iconst 2, 1) := by decide +kernel
theorem dL_subscriber_22 : decode cL_subscriber 22 = .ok (.ireturn, 1) := by decide +kernel
theorem dL_subscriber_23 : decode cL_subscriber 23 = .ok (.astore 5, 2) := by decide +kernel
theorem dL_subscriber_25 : decode cL_subscriber 25 = .ok (.iconst 3, 1) := by decide +kernel
theorem dL_subscriber_26 : decode cL_subscriber 26 = .ok (.ireturn, 1) := by decide +kernel
theorem dL_subscriber_27 : decode cL_subscriber 27 = .ok (.iconst 0, 1) := by decide +kernel
theorem dL_subscriber_28 : decode cL_subscriber 28 = .ok (.ireturn, 1) := by decide +kernel
theorem dL_move_0 : decode cL_move 0 = .ok (.aload_n 3, 1) := by decide +kernel
theorem dL_move_1 : decode cL_move 1 = .ok (.iconst 0, 1) := by decide +kernel
theorem dL_move_2 : decode cL_move 2 = .ok (.aload_n 0, 1) := by decide +kernel
theorem dL_move_3 : decode cL_move 3 = .ok (.iload_n 1, 1) := by decide +kernel
theorem dL_move_4 : decode cL_move 4 = .ok (.iload_n 2, 1) := by decide +kernel
theorem dL_move_5 : decode cL_move 5 = .ok (.invokevirtual 45, 3) := by decide +kernel
theorem dL_move_8 : decode cL_move 8 = .ok (.i2l, 1) := by decide +kernel
theorem dL_move_9 : decode cL_move 9 = .ok (.lastore, 1) := by decide +kernel
theorem dL_move_10 : decode cL_move 10 = .ok (.goto 7, 3) := by decide +kernel
theorem dL_move_13 : decode cL_move 13 = .ok (.astore 4, 2) := by decide +kernel
theorem dL_move_15 : decode cL_move 15 = .ok (.iconst 1, 1) := by decide +kernel
theorem dL_move_16 : decode cL_move 16 = .ok (.ireturn, 1) := by decide +kernel
theorem dL_move_17 : decode cL_move 17 = .ok (.iconst 0, 1) := by decide +kernel
theorem dL_move_18 : decode cL_move 18 = .ok (.ireturn, 1) := by decide +kernel
theorem dL_off_0 : decode cL_off 0 = .ok (.aload_n 2, 1) := by decide +kernel
theorem dL_off_1 : decode cL_off 1 = .ok (.iconst 0, 1) := by decide +kernel
theorem dL_off_2 : decode cL_off 2 = .ok (.aload_n 0, 1) := by decide +kernel
theorem dL_off_3 : decode cL_off 3 = .ok (.iload_n 1, 1) := by decide +kernel
theorem dL_off_4 : decode cL_off 4 = .ok (.invokevirtual 48, 3) := by decide +kernel
theorem dL_off_7 : decode cL_off 7 = .ok (.i2l, 1) := by decide +kernel
theorem dL_off_8 : decode cL_off 8 = .ok (.lastore, 1) := by decide +kernel
theorem dL_off_9 : decode cL_off 9 = .ok (.goto 6, 3) := by decide +kernel
theorem dL_off_12 : decode cL_off 12 = .ok (.astore_n 3, 1) := by decide +kernel
theorem dL_off_13 : decode cL_off 13 = .ok (.iconst 1, 1) := by decide +kernel
theorem dL_off_14 : decode cL_off 14 = .ok (.ireturn, 1) := by decide +kernel
theorem dL_off_15 : decode cL_off 15 = .ok (.iconst 0, 1) := by decide +kernel
theorem dL_off_16 : decode cL_off 16 = .ok (.ireturn, 1) := by decide +kernel
theorem dL_attach_0 : decode cL_attach 0 = .ok (.aload_n 3, 1) := by decide +kernel
theorem dL_attach_1 : decode cL_attach 1 = .ok (.iconst 0, 1) := by decide +kernel
theorem dL_attach_2 : decode cL_attach 2 = .ok (.aload_n 0, 1) := by decide +kernel
theorem dL_attach_3 : decode cL_attach 3 = .ok (.iload_n 1, 1) := by decide +kernel
theorem dL_attach_4 : decode cL_attach 4 = .ok (.iload_n 2, 1) := by decide +kernel
theorem dL_attach_5 : decode cL_attach 5 = .ok (.invokevirtual 51, 3) := by decide +kernel
theorem dL_attach_8 : decode cL_attach 8 = .ok (.i2l, 1) := by decide +kernel
theorem dL_attach_9 : decode cL_attach 9 = .ok (.lastore, 1) := by decide +kernel
theorem dL_attach_10 : decode cL_attach 10 = .ok (.goto 11, 3) := by decide +kernel
theorem dL_attach_13 : decode cL_attach 13 = .ok (.astore 4, 2) := by decide +kernel
theorem dL_attach_15 : decode cL_attach 15 = .ok (.iconst 1, 1) := by decide +kernel
theorem dL_attach_16 : decode cL_attach 16 = .ok (.ireturn, 1) := by decide +kernel
theorem dL_attach_17 : decode cL_attach 17 = .ok (.astore 4, 2) := by decide +kernel
theorem dL_attach_19 : decode cL_attach 19 = .ok (.iconst 2, 1) := by decide +kernel
theorem dL_attach_20 : decode cL_attach 20 = .ok (.ireturn, 1) := by decide +kernel
theorem dL_attach_21 : decode cL_attach 21 = .ok (.iconst 0, 1) := by decide +kernel
theorem dL_attach_22 : decode cL_attach 22 = .ok (.ireturn, 1) := by decide +kernel
theorem dL_emergency_0 : decode cL_emergency 0 = .ok (.aload_n 2, 1) := by decide +kernel
theorem dL_emergency_1 : decode cL_emergency 1 = .ok (.iconst 0, 1) := by decide +kernel
theorem dL_emergency_2 : decode cL_emergency 2 = .ok (.aload_n 0, 1) := by decide +kernel
theorem dL_emergency_3 : decode cL_emergency 3 = .ok (.iload_n 1, 1) := by decide +kernel
theorem dL_emergency_4 : decode cL_emergency 4 = .ok (.invokevirtual 54, 3) := by decide +kernel
theorem dL_emergency_7 : decode cL_emergency 7 = .ok (.i2l, 1) := by decide +kernel
theorem dL_emergency_8 : decode cL_emergency 8 = .ok (.lastore, 1) := by decide +kernel
theorem dL_emergency_9 : decode cL_emergency 9 = .ok (.goto 6, 3) := by decide +kernel
theorem dL_emergency_12 : decode cL_emergency 12 = .ok (.astore_n 3, 1) := by decide +kernel
theorem dL_emergency_13 : decode cL_emergency 13 = .ok (.iconst 1, 1) := by decide +kernel
theorem dL_emergency_14 : decode cL_emergency 14 = .ok (.ireturn, 1) := by decide +kernel
theorem dL_emergency_15 : decode cL_emergency 15 = .ok (.iconst 0, 1) := by decide +kernel
theorem dL_emergency_16 : decode cL_emergency 16 = .ok (.ireturn, 1) := by decide +kernel
theorem dL_where_0 : decode cL_where 0 = .ok (.aload_n 2, 1) := by decide +kernel
theorem dL_where_1 : decode cL_where 1 = .ok (.iconst 0, 1) := by decide +kernel
theorem dL_where_2 : decode cL_where 2 = .ok (.aload_n 0, 1) := by decide +kernel
theorem dL_where_3 : decode cL_where 3 = .ok (.iload_n 1, 1) := by decide +kernel
theorem dL_where_4 : decode cL_where 4 = .ok (.invokevirtual 57, 3) := by decide +kernel
theorem dL_where_7 : decode cL_where 7 = .ok (.i2l, 1) := by decide +kernel
theorem dL_where_8 : decode cL_where 8 = .ok (.lastore, 1) := by decide +kernel
theorem dL_where_9 : decode cL_where 9 = .ok (.goto 6, 3) := by decide +kernel
theorem dL_where_12 : decode cL_where 12 = .ok (.astore_n 3, 1) := by decide +kernel
theorem dL_where_13 : decode cL_where 13 = .ok (.iconst 1, 1) := by decide +kernel
theorem dL_where_14 : decode cL_where 14 = .ok (.ireturn, 1) := by decide +kernel
theorem dL_where_15 : decode cL_where 15 = .ok (.iconst 0, 1) := by decide +kernel
theorem dL_where_16 : decode cL_where 16 = .ok (.ireturn, 1) := by decide +kernel
theorem dL_contact_0 : decode cL_contact 0 = .ok (.aload_n 3, 1) := by decide +kernel
theorem dL_contact_1 : decode cL_contact 1 = .ok (.iconst 0, 1) := by decide +kernel
theorem dL_contact_2 : decode cL_contact 2 = .ok (.aload_n 0, 1) := by decide +kernel
theorem dL_contact_3 : decode cL_contact 3 = .ok (.iload_n 1, 1) := by decide +kernel
theorem dL_contact_4 : decode cL_contact 4 = .ok (.iload_n 2, 1) := by decide +kernel
theorem dL_contact_5 : decode cL_contact 5 = .ok (.invokevirtual 60, 3) := by decide +kernel
theorem dL_contact_8 : decode cL_contact 8 = .ok (.i2l, 1) := by decide +kernel
theorem dL_contact_9 : decode cL_contact 9 = .ok (.lastore, 1) := by decide +kernel
theorem dL_contact_10 : decode cL_contact 10 = .ok (.goto 7, 3) := by decide +kernel
theorem dL_contact_13 : decode cL_contact 13 = .ok (.astore 4, 2) := by decide +kernel
theorem dL_contact_15 : decode cL_contact 15 = .ok (.iconst 1, 1) := by decide +kernel
theorem dL_contact_16 : decode cL_contact 16 = .ok (.ireturn, 1) := by decide +kernel
theorem dL_contact_17 : decode cL_contact 17 = .ok (.iconst 0, 1) := by decide +kernel
theorem dL_contact_18 : decode cL_contact 18 = .ok (.ireturn, 1) := by decide +kernel
theorem dL_agrees_0 : decode cL_agrees 0 = .ok (.aload_n 2, 1) := by decide +kernel
theorem dL_agrees_1 : decode cL_agrees 1 = .ok (.iconst 0, 1) := by decide +kernel
theorem dL_agrees_2 : decode cL_agrees 2 = .ok (.aload_n 0, 1) := by decide +kernel
theorem dL_agrees_3 : decode cL_agrees 3 = .ok (.iload_n 1, 1) := by decide +kernel
theorem dL_agrees_4 : decode cL_agrees 4 = .ok (.invokevirtual 63, 3) := by decide +kernel
theorem dL_agrees_7 : decode cL_agrees 7 = .ok (.ifCond .eq 7, 3) := by decide +kernel
theorem dL_agrees_10 : decode cL_agrees 10 = .ok (.lconst 1, 1) := by decide +kernel
theorem dL_agrees_11 : decode cL_agrees 11 = .ok (.goto 4, 3) := by decide +kernel
theorem dL_agrees_14 : decode cL_agrees 14 = .ok (.lconst 0, 1) := by decide +kernel
theorem dL_agrees_15 : decode cL_agrees 15 = .ok (.lastore, 1) := by decide +kernel
theorem dL_agrees_16 : decode cL_agrees 16 = .ok (.goto 6, 3) := by decide +kernel
theorem dL_agrees_19 : decode cL_agrees 19 = .ok (.astore_n 3, 1) := by decide +kernel
theorem dL_agrees_20 : decode cL_agrees 20 = .ok (.iconst 1, 1) := by decide +kernel
theorem dL_agrees_21 : decode cL_agrees 21 = .ok (.ireturn, 1) := by decide +kernel
theorem dL_agrees_22 : decode cL_agrees 22 = .ok (.iconst 0, 1) := by decide +kernel
theorem dL_agrees_23 : decode cL_agrees 23 = .ok (.ireturn, 1) := by decide +kernel
theorem dL_subscriberIs_0 : decode cL_subscriberIs 0 = .ok (.aload_n 3, 1) := by decide +kernel
theorem dL_subscriberIs_1 : decode cL_subscriberIs 1 = .ok (.iconst 0, 1) := by decide +kernel
theorem dL_subscriberIs_2 : decode cL_subscriberIs 2 = .ok (.aload_n 0, 1) := by decide +kernel
theorem dL_subscriberIs_3 : decode cL_subscriberIs 3 = .ok (.iload_n 1, 1) := by decide +kernel
theorem dL_subscriberIs_4 : decode cL_subscriberIs 4 = .ok (.iload_n 2, 1) := by decide +kernel
theorem dL_subscriberIs_5 : decode cL_subscriberIs 5 = .ok (.invokevirtual 67, 3) := by decide +kernel
theorem dL_subscriberIs_8 : decode cL_subscriberIs 8 = .ok (.i2l, 1) := by decide +kernel
theorem dL_subscriberIs_9 : decode cL_subscriberIs 9 = .ok (.lastore, 1) := by decide +kernel
theorem dL_subscriberIs_10 : decode cL_subscriberIs 10 = .ok (.goto 11, 3) := by decide +kernel
theorem dL_subscriberIs_13 : decode cL_subscriberIs 13 = .ok (.astore 4, 2) := by decide +kernel
theorem dL_subscriberIs_15 : decode cL_subscriberIs 15 = .ok (.iconst 1, 1) := by decide +kernel
theorem dL_subscriberIs_16 : decode cL_subscriberIs 16 = .ok (.ireturn, 1) := by decide +kernel
theorem dL_subscriberIs_17 : decode cL_subscriberIs 17 = .ok (.astore 4, 2) := by decide +kernel
theorem dL_subscriberIs_19 : decode cL_subscriberIs 19 = .ok (.iconst 2, 1) := by decide +kernel
theorem dL_subscriberIs_20 : decode cL_subscriberIs 20 = .ok (.ireturn, 1) := by decide +kernel
theorem dL_subscriberIs_21 : decode cL_subscriberIs 21 = .ok (.iconst 0, 1) := by decide +kernel
theorem dL_subscriberIs_22 : decode cL_subscriberIs 22 = .ok (.ireturn, 1) := by decide +kernel
theorem dL_cap_0 : decode cL_cap 0 = .ok (.aload_n 0, 1) := by decide +kernel
theorem dL_cap_1 : decode cL_cap 1 = .ok (.iload_n 1, 1) := by decide +kernel
theorem dL_cap_2 : decode cL_cap 2 = .ok (.iload_n 2, 1) := by decide +kernel
theorem dL_cap_3 : decode cL_cap 3 = .ok (.iload_n 3, 1) := by decide +kernel
theorem dL_cap_4 : decode cL_cap 4 = .ok (.invokevirtual 70, 3) := by decide +kernel
theorem dL_cap_7 : decode cL_cap 7 = .ok (.goto 11, 3) := by decide +kernel
theorem dL_cap_10 : decode cL_cap 10 = .ok (.astore 4, 2) := by decide +kernel
theorem dL_cap_12 : decode cL_cap 12 = .ok (.iconst 1, 1) := by decide +kernel
theorem dL_cap_13 : decode cL_cap 13 = .ok (.ireturn, 1) := by decide +kernel
theorem dL_cap_14 : decode cL_cap 14 = .ok (.astore 4, 2) := by decide +kernel
theorem dL_cap_16 : decode cL_cap 16 = .ok (.iconst 2, 1) := by decide +kernel
theorem dL_cap_17 : decode cL_cap 17 = .ok (.ireturn, 1) := by decide +kernel
theorem dL_cap_18 : decode cL_cap 18 = .ok (.iconst 0, 1) := by decide +kernel
theorem dL_cap_19 : decode cL_cap 19 = .ok (.ireturn, 1) := by decide +kernel
theorem dL_call_0 : decode cL_call 0 = .ok (.aload 4, 2) := by decide +kernel
theorem dL_call_2 : decode cL_call 2 = .ok (.iconst 0, 1) := by decide +kernel
theorem dL_call_3 : decode cL_call 3 = .ok (.aload_n 0, 1) := by decide +kernel
theorem dL_call_4 : decode cL_call 4 = .ok (.iload_n 1, 1) := by decide +kernel
theorem dL_call_5 : decode cL_call 5 = .ok (.iload_n 2, 1) := by decide +kernel
theorem dL_call_6 : decode cL_call 6 = .ok (.iload_n 3, 1) := by decide +kernel
theorem dL_call_7 : decode cL_call 7 = .ok (.invokevirtual 74, 3) := by decide +kernel
theorem dL_call_10 : decode cL_call 10 = .ok (.i2l, 1) := by decide +kernel
theorem dL_call_11 : decode cL_call 11 = .ok (.lastore, 1) := by decide +kernel
theorem dL_call_12 : decode cL_call 12 = .ok (.goto 15, 3) := by decide +kernel
theorem dL_call_15 : decode cL_call 15 = .ok (.astore 5, 2) := by decide +kernel
theorem dL_call_17 : decode cL_call 17 = .ok (.iconst 1, 1) := by decide +kernel
theorem dL_call_18 : decode cL_call 18 = .ok (.ireturn, 1) := by decide +kernel
theorem dL_call_19 : decode cL_call 19 = .ok (.astore 5, 2) := by decide +kernel
theorem dL_call_21 : decode cL_call 21 = .ok (.iconst 2, 1) := by decide +kernel
theorem dL_call_22 : decode cL_call 22 = .ok (.ireturn, 1) := by decide +kernel
theorem dL_call_23 : decode cL_call 23 = .ok (.astore 5, 2) := by decide +kernel
theorem dL_call_25 : decode cL_call 25 = .ok (.iconst 3, 1) := by decide +kernel
theorem dL_call_26 : decode cL_call 26 = .ok (.ireturn, 1) := by decide +kernel
theorem dL_call_27 : decode cL_call 27 = .ok (.iconst 0, 1) := by decide +kernel
theorem dL_call_28 : decode cL_call 28 = .ok (.ireturn, 1) := by decide +kernel
theorem dL_paidAnew_0 : decode cL_paidAnew 0 = .ok (.aload_n 2, 1) := by decide +kernel
theorem dL_paidAnew_1 : decode cL_paidAnew 1 = .ok (.iconst 0, 1) := by decide +kernel
theorem dL_paidAnew_2 : decode cL_paidAnew 2 = .ok (.aload_n 0, 1) := by decide +kernel
theorem dL_paidAnew_3 : decode cL_paidAnew 3 = .ok (.iload_n 1, 1) := by decide +kernel
theorem dL_paidAnew_4 : decode cL_paidAnew 4 = .ok (.invokevirtual 77, 3) := by decide +kernel
theorem dL_paidAnew_7 : decode cL_paidAnew 7 = .ok (.i2l, 1) := by decide +kernel
theorem dL_paidAnew_8 : decode cL_paidAnew 8 = .ok (.lastore, 1) := by decide +kernel
theorem dL_paidAnew_9 : decode cL_paidAnew 9 = .ok (.goto 6, 3) := by decide +kernel
theorem dL_paidAnew_12 : decode cL_paidAnew 12 = .ok (.astore_n 3, 1) := by decide +kernel
theorem dL_paidAnew_13 : decode cL_paidAnew 13 = .ok (.iconst 1, 1) := by decide +kernel
theorem dL_paidAnew_14 : decode cL_paidAnew 14 = .ok (.ireturn, 1) := by decide +kernel
theorem dL_paidAnew_15 : decode cL_paidAnew 15 = .ok (.iconst 0, 1) := by decide +kernel
theorem dL_paidAnew_16 : decode cL_paidAnew 16 = .ok (.ireturn, 1) := by decide +kernel
theorem dL_file_0 : decode cL_file 0 = .ok (.aload_n 3, 1) := by decide +kernel
theorem dL_file_1 : decode cL_file 1 = .ok (.iconst 0, 1) := by decide +kernel
theorem dL_file_2 : decode cL_file 2 = .ok (.aload_n 0, 1) := by decide +kernel
theorem dL_file_3 : decode cL_file 3 = .ok (.iload_n 1, 1) := by decide +kernel
theorem dL_file_4 : decode cL_file 4 = .ok (.iload_n 2, 1) := by decide +kernel
theorem dL_file_5 : decode cL_file 5 = .ok (.invokevirtual 80, 3) := by decide +kernel
theorem dL_file_8 : decode cL_file 8 = .ok (.i2l, 1) := by decide +kernel
theorem dL_file_9 : decode cL_file 9 = .ok (.lastore, 1) := by decide +kernel
theorem dL_file_10 : decode cL_file 10 = .ok (.goto 11, 3) := by decide +kernel
theorem dL_file_13 : decode cL_file 13 = .ok (.astore 4, 2) := by decide +kernel
theorem dL_file_15 : decode cL_file 15 = .ok (.iconst 1, 1) := by decide +kernel
theorem dL_file_16 : decode cL_file 16 = .ok (.ireturn, 1) := by decide +kernel
theorem dL_file_17 : decode cL_file 17 = .ok (.astore 4, 2) := by decide +kernel
theorem dL_file_19 : decode cL_file 19 = .ok (.iconst 2, 1) := by decide +kernel
theorem dL_file_20 : decode cL_file 20 = .ok (.ireturn, 1) := by decide +kernel
theorem dL_file_21 : decode cL_file 21 = .ok (.iconst 0, 1) := by decide +kernel
theorem dL_file_22 : decode cL_file 22 = .ok (.ireturn, 1) := by decide +kernel
theorem dL_deliver_0 : decode cL_deliver 0 = .ok (.aload 4, 2) := by decide +kernel
theorem dL_deliver_2 : decode cL_deliver 2 = .ok (.iconst 0, 1) := by decide +kernel
theorem dL_deliver_3 : decode cL_deliver 3 = .ok (.aload_n 0, 1) := by decide +kernel
theorem dL_deliver_4 : decode cL_deliver 4 = .ok (.iload_n 1, 1) := by decide +kernel
theorem dL_deliver_5 : decode cL_deliver 5 = .ok (.iload_n 2, 1) := by decide +kernel
theorem dL_deliver_6 : decode cL_deliver 6 = .ok (.iload_n 3, 1) := by decide +kernel
theorem dL_deliver_7 : decode cL_deliver 7 = .ok (.invokevirtual 83, 3) := by decide +kernel
theorem dL_deliver_10 : decode cL_deliver 10 = .ok (.i2l, 1) := by decide +kernel
theorem dL_deliver_11 : decode cL_deliver 11 = .ok (.lastore, 1) := by decide +kernel
theorem dL_deliver_12 : decode cL_deliver 12 = .ok (.goto 7, 3) := by decide +kernel
theorem dL_deliver_15 : decode cL_deliver 15 = .ok (.astore 5, 2) := by decide +kernel
theorem dL_deliver_17 : decode cL_deliver 17 = .ok (.iconst 1, 1) := by decide +kernel
theorem dL_deliver_18 : decode cL_deliver 18 = .ok (.ireturn, 1) := by decide +kernel
theorem dL_deliver_19 : decode cL_deliver 19 = .ok (.iconst 0, 1) := by decide +kernel
theorem dL_deliver_20 : decode cL_deliver 20 = .ok (.ireturn, 1) := by decide +kernel
theorem dL_owes_0 : decode cL_owes 0 = .ok (.aload_n 3, 1) := by decide +kernel
theorem dL_owes_1 : decode cL_owes 1 = .ok (.iconst 0, 1) := by decide +kernel
theorem dL_owes_2 : decode cL_owes 2 = .ok (.aload_n 0, 1) := by decide +kernel
theorem dL_owes_3 : decode cL_owes 3 = .ok (.iload_n 1, 1) := by decide +kernel
theorem dL_owes_4 : decode cL_owes 4 = .ok (.iload_n 2, 1) := by decide +kernel
theorem dL_owes_5 : decode cL_owes 5 = .ok (.invokevirtual 86, 3) := by decide +kernel
theorem dL_owes_8 : decode cL_owes 8 = .ok (.i2l, 1) := by decide +kernel
theorem dL_owes_9 : decode cL_owes 9 = .ok (.lastore, 1) := by decide +kernel
theorem dL_owes_10 : decode cL_owes 10 = .ok (.goto 7, 3) := by decide +kernel
theorem dL_owes_13 : decode cL_owes 13 = .ok (.astore 4, 2) := by decide +kernel
theorem dL_owes_15 : decode cL_owes 15 = .ok (.iconst 1, 1) := by decide +kernel
theorem dL_owes_16 : decode cL_owes 16 = .ok (.ireturn, 1) := by decide +kernel
theorem dL_owes_17 : decode cL_owes 17 = .ok (.iconst 0, 1) := by decide +kernel
theorem dL_owes_18 : decode cL_owes 18 = .ok (.ireturn, 1) := by decide +kernel
theorem dL_owesAnew_0 : decode cL_owesAnew 0 = .ok (.aload_n 3, 1) := by decide +kernel
theorem dL_owesAnew_1 : decode cL_owesAnew 1 = .ok (.iconst 0, 1) := by decide +kernel
theorem dL_owesAnew_2 : decode cL_owesAnew 2 = .ok (.aload_n 0, 1) := by decide +kernel
theorem dL_owesAnew_3 : decode cL_owesAnew 3 = .ok (.iload_n 1, 1) := by decide +kernel
theorem dL_owesAnew_4 : decode cL_owesAnew 4 = .ok (.iload_n 2, 1) := by decide +kernel
theorem dL_owesAnew_5 : decode cL_owesAnew 5 = .ok (.invokevirtual 89, 3) := by decide +kernel
theorem dL_owesAnew_8 : decode cL_owesAnew 8 = .ok (.i2l, 1) := by decide +kernel
theorem dL_owesAnew_9 : decode cL_owesAnew 9 = .ok (.lastore, 1) := by decide +kernel
theorem dL_owesAnew_10 : decode cL_owesAnew 10 = .ok (.goto 7, 3) := by decide +kernel
theorem dL_owesAnew_13 : decode cL_owesAnew 13 = .ok (.astore 4, 2) := by decide +kernel
theorem dL_owesAnew_15 : decode cL_owesAnew 15 = .ok (.iconst 1, 1) := by decide +kernel
theorem dL_owesAnew_16 : decode cL_owesAnew 16 = .ok (.ireturn, 1) := by decide +kernel
theorem dL_owesAnew_17 : decode cL_owesAnew 17 = .ok (.iconst 0, 1) := by decide +kernel
theorem dL_owesAnew_18 : decode cL_owesAnew 18 = .ok (.ireturn, 1) := by decide +kernel
theorem dL_recorded_0 : decode cL_recorded 0 = .ok (.aload 4, 2) := by decide +kernel
theorem dL_recorded_2 : decode cL_recorded 2 = .ok (.iconst 0, 1) := by decide +kernel
theorem dL_recorded_3 : decode cL_recorded 3 = .ok (.aload_n 0, 1) := by decide +kernel
theorem dL_recorded_4 : decode cL_recorded 4 = .ok (.iload_n 1, 1) := by decide +kernel
theorem dL_recorded_5 : decode cL_recorded 5 = .ok (.iload_n 2, 1) := by decide +kernel
theorem dL_recorded_6 : decode cL_recorded 6 = .ok (.iload_n 3, 1) := by decide +kernel
theorem dL_recorded_7 : decode cL_recorded 7 = .ok (.invokevirtual 92, 3) := by decide +kernel
theorem dL_recorded_10 : decode cL_recorded 10 = .ok (.i2l, 1) := by decide +kernel
theorem dL_recorded_11 : decode cL_recorded 11 = .ok (.lastore, 1) := by decide +kernel
theorem dL_recorded_12 : decode cL_recorded 12 = .ok (.goto 11, 3) := by decide +kernel
theorem dL_recorded_15 : decode cL_recorded 15 = .ok (.astore 5, 2) := by decide +kernel
theorem dL_recorded_17 : decode cL_recorded 17 = .ok (.iconst 1, 1) := by decide +kernel
theorem dL_recorded_18 : decode cL_recorded 18 = .ok (.ireturn, 1) := by decide +kernel
theorem dL_recorded_19 : decode cL_recorded 19 = .ok (.astore 5, 2) := by decide +kernel
theorem dL_recorded_21 : decode cL_recorded 21 = .ok (.iconst 2, 1) := by decide +kernel
theorem dL_recorded_22 : decode cL_recorded 22 = .ok (.ireturn, 1) := by decide +kernel
theorem dL_recorded_23 : decode cL_recorded 23 = .ok (.iconst 0, 1) := by decide +kernel
theorem dL_recorded_24 : decode cL_recorded 24 = .ok (.ireturn, 1) := by decide +kernel
theorem dL_pass_0 : decode cL_pass 0 = .ok (.aload_n 2, 1) := by decide +kernel
theorem dL_pass_1 : decode cL_pass 1 = .ok (.iconst 0, 1) := by decide +kernel
theorem dL_pass_2 : decode cL_pass 2 = .ok (.aload_n 0, 1) := by decide +kernel
theorem dL_pass_3 : decode cL_pass 3 = .ok (.iload_n 1, 1) := by decide +kernel
theorem dL_pass_4 : decode cL_pass 4 = .ok (.invokevirtual 95, 3) := by decide +kernel
theorem dL_pass_7 : decode cL_pass 7 = .ok (.i2l, 1) := by decide +kernel
theorem dL_pass_8 : decode cL_pass 8 = .ok (.lastore, 1) := by decide +kernel
theorem dL_pass_9 : decode cL_pass 9 = .ok (.goto 9, 3) := by decide +kernel
theorem dL_pass_12 : decode cL_pass 12 = .ok (.astore_n 3, 1) := by decide +kernel
theorem dL_pass_13 : decode cL_pass 13 = .ok (.iconst 1, 1) := by decide +kernel
theorem dL_pass_14 : decode cL_pass 14 = .ok (.ireturn, 1) := by decide +kernel
theorem dL_pass_15 : decode cL_pass 15 = .ok (.astore_n 3, 1) := by decide +kernel
theorem dL_pass_16 : decode cL_pass 16 = .ok (.iconst 2, 1) := by decide +kernel
theorem dL_pass_17 : decode cL_pass 17 = .ok (.ireturn, 1) := by decide +kernel
theorem dL_pass_18 : decode cL_pass 18 = .ok (.iconst 0, 1) := by decide +kernel
theorem dL_pass_19 : decode cL_pass 19 = .ok (.ireturn, 1) := by decide +kernel
theorem dL_law_0 : decode cL_law 0 = .ok (.new 8, 3) := by decide +kernel
theorem dL_law_3 : decode cL_law 3 = .ok (.dup, 1) := by decide +kernel
theorem dL_law_4 : decode cL_law 4 = .ok (.invokespecial 98, 3) := by decide +kernel
theorem dL_law_7 : decode cL_law 7 = .ok (.astore_n 1, 1) := by decide +kernel
theorem dL_law_8 : decode cL_law 8 = .ok (.new 99, 3) := by decide +kernel
theorem dL_law_11 : decode cL_law 11 = .ok (.dup, 1) := by decide +kernel
theorem dL_law_12 : decode cL_law 12 = .ok (.invokespecial 101, 3) := by decide +kernel
theorem dL_law_15 : decode cL_law 15 = .ok (.astore_n 2, 1) := by decide +kernel
theorem dL_law_16 : decode cL_law 16 = .ok (.iconst 1, 1) := by decide +kernel
theorem dL_law_17 : decode cL_law 17 = .ok (.newarray .long, 2) := by decide +kernel
theorem dL_law_19 : decode cL_law 19 = .ok (.astore_n 3, 1) := by decide +kernel
theorem dL_law_20 : decode cL_law 20 = .ok (.iconst 0, 1) := by decide +kernel
theorem dL_law_21 : decode cL_law 21 = .ok (.istore 4, 2) := by decide +kernel
theorem dL_law_23 : decode cL_law 23 = .ok (.iload 4, 2) := by decide +kernel
theorem dL_law_25 : decode cL_law 25 = .ok (.aload_n 0, 1) := by decide +kernel
theorem dL_law_26 : decode cL_law 26 = .ok (.arraylength, 1) := by decide +kernel
theorem dL_law_27 : decode cL_law 27 = .ok (.bipush 8, 2) := by decide +kernel
theorem dL_law_29 : decode cL_law 29 = .ok (.isub, 1) := by decide +kernel
theorem dL_law_30 : decode cL_law 30 = .ok (.if_icmp .gt 1902, 3) := by decide +kernel
theorem dL_law_33 : decode cL_law 33 = .ok (.aload_n 0, 1) := by decide +kernel
theorem dL_law_34 : decode cL_law 34 = .ok (.iload 4, 2) := by decide +kernel
theorem dL_law_36 : decode cL_law 36 = .ok (.iaload, 1) := by decide +kernel
theorem dL_law_37 : decode cL_law 37 = .ok (.bipush 31, 2) := by decide +kernel
theorem dL_law_39 : decode cL_law 39 = .ok (.iand, 1) := by decide +kernel
theorem dL_law_40 : decode cL_law 40 = .ok (.tableswitch 1886 0 24 #[116, 184, 275, 407, 475, 547, 615, 671, 751, 819, 875, 943, 999, 1055, 1123, 1186, 1254, 1330, 1410, 1466, 1534, 1614, 1682, 1750, 1830], 116) := by decide +kernel
theorem dL_law_156 : decode cL_law 156 = .ok (.aload_n 1, 1) := by decide +kernel
theorem dL_law_157 : decode cL_law 157 = .ok (.aload_n 0, 1) := by decide +kernel
theorem dL_law_158 : decode cL_law 158 = .ok (.iload 4, 2) := by decide +kernel
theorem dL_law_160 : decode cL_law 160 = .ok (.iconst 1, 1) := by decide +kernel
theorem dL_law_161 : decode cL_law 161 = .ok (.iadd, 1) := by decide +kernel
theorem dL_law_162 : decode cL_law 162 = .ok (.iaload, 1) := by decide +kernel
theorem dL_law_163 : decode cL_law 163 = .ok (.aload_n 0, 1) := by decide +kernel
theorem dL_law_164 : decode cL_law 164 = .ok (.iload 4, 2) := by decide +kernel
theorem dL_law_166 : decode cL_law 166 = .ok (.iconst 2, 1) := by decide +kernel
theorem dL_law_167 : decode cL_law 167 = .ok (.iadd, 1) := by decide +kernel
theorem dL_law_168 : decode cL_law 168 = .ok (.iaload, 1) := by decide +kernel
theorem dL_law_169 : decode cL_law 169 = .ok (.aload_n 3, 1) := by decide +kernel
theorem dL_law_170 : decode cL_law 170 = .ok (.invokestatic 102, 3) := by decide +kernel
theorem dL_law_173 : decode cL_law 173 = .ok (.istore 5, 2) := by decide +kernel
theorem dL_law_175 : decode cL_law 175 = .ok (.aload_n 2, 1) := by decide +kernel
theorem dL_law_176 : decode cL_law 176 = .ok (.aload_n 0, 1) := by decide +kernel
theorem dL_law_177 : decode cL_law 177 = .ok (.iload 4, 2) := by decide +kernel
theorem dL_law_179 : decode cL_law 179 = .ok (.iconst 1, 1) := by decide +kernel
theorem dL_law_180 : decode cL_law 180 = .ok (.iadd, 1) := by decide +kernel
theorem dL_law_181 : decode cL_law 181 = .ok (.iaload, 1) := by decide +kernel
theorem dL_law_182 : decode cL_law 182 = .ok (.aload_n 0, 1) := by decide +kernel
theorem dL_law_183 : decode cL_law 183 = .ok (.iload 4, 2) := by decide +kernel
theorem dL_law_185 : decode cL_law 185 = .ok (.iconst 2, 1) := by decide +kernel
theorem dL_law_186 : decode cL_law 186 = .ok (.iadd, 1) := by decide +kernel
theorem dL_law_187 : decode cL_law 187 = .ok (.iaload, 1) := by decide +kernel
theorem dL_law_188 : decode cL_law 188 = .ok (.invokevirtual 107, 3) := by decide +kernel
theorem dL_law_191 : decode cL_law 191 = .ok (.istore 6, 2) := by decide +kernel
theorem dL_law_193 : decode cL_law 193 = .ok (.aload_n 2, 1) := by decide +kernel
theorem dL_law_194 : decode cL_law 194 = .ok (.invokevirtual 108, 3) := by decide +kernel
theorem dL_law_197 : decode cL_law 197 = .ok (.iload 5, 2) := by decide +kernel
theorem dL_law_199 : decode cL_law 199 = .ok (.if_icmp .eq 5, 3) := by decide +kernel
theorem dL_law_202 : decode cL_law 202 = .ok (.iconst 0, 1) := by decide +kernel
theorem dL_law_203 : decode cL_law 203 = .ok (.ireturn, 1) := by decide +kernel
theorem dL_law_204 : decode cL_law 204 = .ok (.iload 5, 2) := by decide +kernel
theorem dL_law_206 : decode cL_law 206 = .ok (.ifCond .ne 15, 3) := by decide +kernel
theorem dL_law_209 : decode cL_law 209 = .ok (.aload_n 3, 1) := by decide +kernel
theorem dL_law_210 : decode cL_law 210 = .ok (.iconst 0, 1) := by decide +kernel
theorem dL_law_211 : decode cL_law 211 = .ok (.laload, 1) := by decide +kernel
theorem dL_law_212 : decode cL_law 212 = .ok (.iload 6, 2) := by decide +kernel
theorem dL_law_214 : decode cL_law 214 = .ok (.i2l, 1) := by decide +kernel
theorem dL_law_215 : decode cL_law 215 = .ok (.lcmp, 1) := by decide +kernel
theorem dL_law_216 : decode cL_law 216 = .ok (.ifCond .eq 5, 3) := by decide +kernel
theorem dL_law_219 : decode cL_law 219 = .ok (.iconst 0, 1) := by decide +kernel
theorem dL_law_220 : decode cL_law 220 = .ok (.ireturn, 1) := by decide +kernel
theorem dL_law_221 : decode cL_law 221 = .ok (.goto 1705, 3) := by decide +kernel
theorem dL_law_224 : decode cL_law 224 = .ok (.aload_n 1, 1) := by decide +kernel
theorem dL_law_225 : decode cL_law 225 = .ok (.aload_n 0, 1) := by decide +kernel
theorem dL_law_226 : decode cL_law 226 = .ok (.iload 4, 2) := by decide +kernel
theorem dL_law_228 : decode cL_law 228 = .ok (.iconst 1, 1) := by decide +kernel
theorem dL_law_229 : decode cL_law 229 = .ok (.iadd, 1) := by decide +kernel
theorem dL_law_230 : decode cL_law 230 = .ok (.iaload, 1) := by decide +kernel
theorem dL_law_231 : decode cL_law 231 = .ok (.aload_n 0, 1) := by decide +kernel
theorem dL_law_232 : decode cL_law 232 = .ok (.iload 4, 2) := by decide +kernel
theorem dL_law_234 : decode cL_law 234 = .ok (.iconst 2, 1) := by decide +kernel
theorem dL_law_235 : decode cL_law 235 = .ok (.iadd, 1) := by decide +kernel
theorem dL_law_236 : decode cL_law 236 = .ok (.iaload, 1) := by decide +kernel
theorem dL_law_237 : decode cL_law 237 = .ok (.ifCond .eq 7, 3) := by decide +kernel
theorem dL_law_240 : decode cL_law 240 = .ok (.iconst 1, 1) := by decide +kernel
theorem dL_law_241 : decode cL_law 241 = .ok (.goto 4, 3) := by decide +kernel
theorem dL_law_244 : decode cL_law 244 = .ok (.iconst 0, 1) := by decide +kernel
theorem dL_law_245 : decode cL_law 245 = .ok (.aload_n 3, 1) := by decide +kernel
theorem dL_law_246 : decode cL_law 246 = .ok (.invokestatic 112, 3) := by decide +kernel
theorem dL_law_249 : decode cL_law 249 = .ok (.istore 5, 2) := by decide +kernel
theorem dL_law_251 : decode cL_law 251 = .ok (.aload_n 2, 1) := by decide +kernel
theorem dL_law_252 : decode cL_law 252 = .ok (.aload_n 0, 1) := by decide +kernel
theorem dL_law_253 : decode cL_law 253 = .ok (.iload 4, 2) := by decide +kernel
theorem dL_law_255 : decode cL_law 255 = .ok (.iconst 1, 1) := by decide +kernel
theorem dL_law_256 : decode cL_law 256 = .ok (.iadd, 1) := by decide +kernel
theorem dL_law_257 : decode cL_law 257 = .ok (.iaload, 1) := by decide +kernel
theorem dL_law_258 : decode cL_law 258 = .ok (.aload_n 0, 1) := by decide +kernel
theorem dL_law_259 : decode cL_law 259 = .ok (.iload 4, 2) := by decide +kernel
theorem dL_law_261 : decode cL_law 261 = .ok (.iconst 2, 1) := by decide +kernel
theorem dL_law_262 : decode cL_law 262 = .ok (.iadd, 1) := by decide +kernel
theorem dL_law_263 : decode cL_law 263 = .ok (.iaload, 1) := by decide +kernel
theorem dL_law_264 : decode cL_law 264 = .ok (.ifCond .eq 7, 3) := by decide +kernel
theorem dL_law_267 : decode cL_law 267 = .ok (.iconst 1, 1) := by decide +kernel
theorem dL_law_268 : decode cL_law 268 = .ok (.goto 4, 3) := by decide +kernel
theorem dL_law_271 : decode cL_law 271 = .ok (.iconst 0, 1) := by decide +kernel
theorem dL_law_272 : decode cL_law 272 = .ok (.invokevirtual 115, 3) := by decide +kernel
theorem dL_law_275 : decode cL_law 275 = .ok (.istore 6, 2) := by decide +kernel
theorem dL_law_277 : decode cL_law 277 = .ok (.aload_n 2, 1) := by decide +kernel
theorem dL_law_278 : decode cL_law 278 = .ok (.invokevirtual 108, 3) := by decide +kernel
theorem dL_law_281 : decode cL_law 281 = .ok (.iload 5, 2) := by decide +kernel
theorem dL_law_283 : decode cL_law 283 = .ok (.if_icmp .eq 5, 3) := by decide +kernel
theorem dL_law_286 : decode cL_law 286 = .ok (.iconst 0, 1) := by decide +kernel
theorem dL_law_287 : decode cL_law 287 = .ok (.ireturn, 1) := by decide +kernel
theorem dL_law_288 : decode cL_law 288 = .ok (.iload 5, 2) := by decide +kernel
theorem dL_law_290 : decode cL_law 290 = .ok (.ifCond .ne 22, 3) := by decide +kernel
theorem dL_law_293 : decode cL_law 293 = .ok (.aload_n 3, 1) := by decide +kernel
theorem dL_law_294 : decode cL_law 294 = .ok (.iconst 0, 1) := by decide +kernel
theorem dL_law_295 : decode cL_law 295 = .ok (.laload, 1) := by decide +kernel
theorem dL_law_296 : decode cL_law 296 = .ok (.iload 6, 2) := by decide +kernel
theorem dL_law_298 : decode cL_law 298 = .ok (.ifCond .eq 7, 3) := by decide +kernel
theorem dL_law_301 : decode cL_law 301 = .ok (.lconst 1, 1) := by decide +kernel
theorem dL_law_302 : decode cL_law 302 = .ok (.goto 4, 3) := by decide +kernel
theorem dL_law_305 : decode cL_law 305 = .ok (.lconst 0, 1) := by decide +kernel
theorem dL_law_306 : decode cL_law 306 = .ok (.lcmp, 1) := by decide +kernel
theorem dL_law_307 : decode cL_law 307 = .ok (.ifCond .eq 5, 3) := by decide +kernel
theorem dL_law_310 : decode cL_law 310 = .ok (.iconst 0, 1) := by decide +kernel
theorem dL_law_311 : decode cL_law 311 = .ok (.ireturn, 1) := by decide +kernel
theorem dL_law_312 : decode cL_law 312 = .ok (.goto 1614, 3) := by decide +kernel
theorem dL_law_315 : decode cL_law 315 = .ok (.aload_n 1, 1) := by decide +kernel
theorem dL_law_316 : decode cL_law 316 = .ok (.aload_n 0, 1) := by decide +kernel
theorem dL_law_317 : decode cL_law 317 = .ok (.iload 4, 2) := by decide +kernel
theorem dL_law_319 : decode cL_law 319 = .ok (.iconst 1, 1) := by decide +kernel
theorem dL_law_320 : decode cL_law 320 = .ok (.iadd, 1) := by decide +kernel
theorem dL_law_321 : decode cL_law 321 = .ok (.iaload, 1) := by decide +kernel
theorem dL_law_322 : decode cL_law 322 = .ok (.aload_n 0, 1) := by decide +kernel
theorem dL_law_323 : decode cL_law 323 = .ok (.iload 4, 2) := by decide +kernel
theorem dL_law_325 : decode cL_law 325 = .ok (.iconst 2, 1) := by decide +kernel
theorem dL_law_326 : decode cL_law 326 = .ok (.iadd, 1) := by decide +kernel
theorem dL_law_327 : decode cL_law 327 = .ok (.iaload, 1) := by decide +kernel
theorem dL_law_328 : decode cL_law 328 = .ok (.aload_n 0, 1) := by decide +kernel
theorem dL_law_329 : decode cL_law 329 = .ok (.iload 4, 2) := by decide +kernel
theorem dL_law_331 : decode cL_law 331 = .ok (.iconst 3, 1) := by decide +kernel
theorem dL_law_332 : decode cL_law 332 = .ok (.iadd, 1) := by decide +kernel
theorem dL_law_333 : decode cL_law 333 = .ok (.iaload, 1) := by decide +kernel
theorem dL_law_334 : decode cL_law 334 = .ok (.aload_n 0, 1) := by decide +kernel
theorem dL_law_335 : decode cL_law 335 = .ok (.iload 4, 2) := by decide +kernel
theorem dL_law_337 : decode cL_law 337 = .ok (.iconst 4, 1) := by decide +kernel
theorem dL_law_338 : decode cL_law 338 = .ok (.iadd, 1) := by decide +kernel
theorem dL_law_339 : decode cL_law 339 = .ok (.iaload, 1) := by decide +kernel
theorem dL_law_340 : decode cL_law 340 = .ok (.aload_n 0, 1) := by decide +kernel
theorem dL_law_341 : decode cL_law 341 = .ok (.iload 4, 2) := by decide +kernel
theorem dL_law_343 : decode cL_law 343 = .ok (.iconst 5, 1) := by decide +kernel
theorem dL_law_344 : decode cL_law 344 = .ok (.iadd, 1) := by decide +kernel
theorem dL_law_345 : decode cL_law 345 = .ok (.iaload, 1) := by decide +kernel
theorem dL_law_346 : decode cL_law 346 = .ok (.aload_n 0, 1) := by decide +kernel
theorem dL_law_347 : decode cL_law 347 = .ok (.iload 4, 2) := by decide +kernel
theorem dL_law_349 : decode cL_law 349 = .ok (.bipush 6, 2) := by decide +kernel
theorem dL_law_351 : decode cL_law 351 = .ok (.iadd, 1) := by decide +kernel
theorem dL_law_352 : decode cL_law 352 = .ok (.iaload, 1) := by decide +kernel
theorem dL_law_353 : decode cL_law 353 = .ok (.aload_n 0, 1) := by decide +kernel
theorem dL_law_354 : decode cL_law 354 = .ok (.iload 4, 2) := by decide +kernel
theorem dL_law_356 : decode cL_law 356 = .ok (.bipush 7, 2) := by decide +kernel
theorem dL_law_358 : decode cL_law 358 = .ok (.iadd, 1) := by decide +kernel
theorem dL_law_359 : decode cL_law 359 = .ok (.iaload, 1) := by decide +kernel
theorem dL_law_360 : decode cL_law 360 = .ok (.aload_n 3, 1) := by decide +kernel
theorem dL_law_361 : decode cL_law 361 = .ok (.invokestatic 116, 3) := by decide +kernel
theorem dL_law_364 : decode cL_law 364 = .ok (.istore 5, 2) := by decide +kernel
theorem dL_law_366 : decode cL_law 366 = .ok (.aload_n 2, 1) := by decide +kernel
theorem dL_law_367 : decode cL_law 367 = .ok (.aload_n 0, 1) := by decide +kernel
theorem dL_law_368 : decode cL_law 368 = .ok (.iload 4, 2) := by decide +kernel
theorem dL_law_370 : decode cL_law 370 = .ok (.iconst 1, 1) := by decide +kernel
theorem dL_law_371 : decode cL_law 371 = .ok (.iadd, 1) := by decide +kernel
theorem dL_law_372 : decode cL_law 372 = .ok (.iaload, 1) := by decide +kernel
theorem dL_law_373 : decode cL_law 373 = .ok (.aload_n 0, 1) := by decide +kernel
theorem dL_law_374 : decode cL_law 374 = .ok (.iload 4, 2) := by decide +kernel
theorem dL_law_376 : decode cL_law 376 = .ok (.iconst 2, 1) := by decide +kernel
theorem dL_law_377 : decode cL_law 377 = .ok (.iadd, 1) := by decide +kernel
theorem dL_law_378 : decode cL_law 378 = .ok (.iaload, 1) := by decide +kernel
theorem dL_law_379 : decode cL_law 379 = .ok (.aload_n 0, 1) := by decide +kernel
theorem dL_law_380 : decode cL_law 380 = .ok (.iload 4, 2) := by decide +kernel
theorem dL_law_382 : decode cL_law 382 = .ok (.iconst 3, 1) := by decide +kernel
theorem dL_law_383 : decode cL_law 383 = .ok (.iadd, 1) := by decide +kernel
theorem dL_law_384 : decode cL_law 384 = .ok (.iaload, 1) := by decide +kernel
theorem dL_law_385 : decode cL_law 385 = .ok (.aload_n 0, 1) := by decide +kernel
theorem dL_law_386 : decode cL_law 386 = .ok (.iload 4, 2) := by decide +kernel
theorem dL_law_388 : decode cL_law 388 = .ok (.iconst 4, 1) := by decide +kernel
theorem dL_law_389 : decode cL_law 389 = .ok (.iadd, 1) := by decide +kernel
theorem dL_law_390 : decode cL_law 390 = .ok (.iaload, 1) := by decide +kernel
theorem dL_law_391 : decode cL_law 391 = .ok (.aload_n 0, 1) := by decide +kernel
theorem dL_law_392 : decode cL_law 392 = .ok (.iload 4, 2) := by decide +kernel
theorem dL_law_394 : decode cL_law 394 = .ok (.iconst 5, 1) := by decide +kernel
theorem dL_law_395 : decode cL_law 395 = .ok (.iadd, 1) := by decide +kernel
theorem dL_law_396 : decode cL_law 396 = .ok (.iaload, 1) := by decide +kernel
theorem dL_law_397 : decode cL_law 397 = .ok (.aload_n 0, 1) := by decide +kernel
theorem dL_law_398 : decode cL_law 398 = .ok (.iload 4, 2) := by decide +kernel
theorem dL_law_400 : decode cL_law 400 = .ok (.bipush 6, 2) := by decide +kernel
theorem dL_law_402 : decode cL_law 402 = .ok (.iadd, 1) := by decide +kernel
theorem dL_law_403 : decode cL_law 403 = .ok (.iaload, 1) := by decide +kernel
theorem dL_law_404 : decode cL_law 404 = .ok (.aload_n 0, 1) := by decide +kernel
theorem dL_law_405 : decode cL_law 405 = .ok (.iload 4, 2) := by decide +kernel
theorem dL_law_407 : decode cL_law 407 = .ok (.bipush 7, 2) := by decide +kernel
theorem dL_law_409 : decode cL_law 409 = .ok (.iadd, 1) := by decide +kernel
theorem dL_law_410 : decode cL_law 410 = .ok (.iaload, 1) := by decide +kernel
theorem dL_law_411 : decode cL_law 411 = .ok (.invokevirtual 119, 3) := by decide +kernel
theorem dL_law_414 : decode cL_law 414 = .ok (.istore 6, 2) := by decide +kernel
theorem dL_law_416 : decode cL_law 416 = .ok (.aload_n 2, 1) := by decide +kernel
theorem dL_law_417 : decode cL_law 417 = .ok (.invokevirtual 108, 3) := by decide +kernel
theorem dL_law_420 : decode cL_law 420 = .ok (.iload 5, 2) := by decide +kernel
theorem dL_law_422 : decode cL_law 422 = .ok (.if_icmp .eq 5, 3) := by decide +kernel
theorem dL_law_425 : decode cL_law 425 = .ok (.iconst 0, 1) := by decide +kernel
theorem dL_law_426 : decode cL_law 426 = .ok (.ireturn, 1) := by decide +kernel
theorem dL_law_427 : decode cL_law 427 = .ok (.iload 5, 2) := by decide +kernel
theorem dL_law_429 : decode cL_law 429 = .ok (.ifCond .ne 15, 3) := by decide +kernel
theorem dL_law_432 : decode cL_law 432 = .ok (.aload_n 3, 1) := by decide +kernel
theorem dL_law_433 : decode cL_law 433 = .ok (.iconst 0, 1) := by decide +kernel
theorem dL_law_434 : decode cL_law 434 = .ok (.laload, 1) := by decide +kernel
theorem dL_law_435 : decode cL_law 435 = .ok (.iload 6, 2) := by decide +kernel
theorem dL_law_437 : decode cL_law 437 = .ok (.i2l, 1) := by decide +kernel
theorem dL_law_438 : decode cL_law 438 = .ok (.lcmp, 1) := by decide +kernel
theorem dL_law_439 : decode cL_law 439 = .ok (.ifCond .eq 5, 3) := by decide +kernel
theorem dL_law_442 : decode cL_law 442 = .ok (.iconst 0, 1) := by decide +kernel
theorem dL_law_443 : decode cL_law 443 = .ok (.ireturn, 1) := by decide +kernel
theorem dL_law_444 : decode cL_law 444 = .ok (.goto 1482, 3) := by decide +kernel
theorem dL_law_447 : decode cL_law 447 = .ok (.aload_n 1, 1) := by decide +kernel
theorem dL_law_448 : decode cL_law 448 = .ok (.aload_n 0, 1) := by decide +kernel
theorem dL_law_449 : decode cL_law 449 = .ok (.iload 4, 2) := by decide +kernel
theorem dL_law_451 : decode cL_law 451 = .ok (.iconst 1, 1) := by decide +kernel
theorem dL_law_452 : decode cL_law 452 = .ok (.iadd, 1) := by decide +kernel
theorem dL_law_453 : decode cL_law 453 = .ok (.iaload, 1) := by decide +kernel
theorem dL_law_454 : decode cL_law 454 = .ok (.aload_n 0, 1) := by decide +kernel
theorem dL_law_455 : decode cL_law 455 = .ok (.iload 4, 2) := by decide +kernel
theorem dL_law_457 : decode cL_law 457 = .ok (.iconst 2, 1) := by decide +kernel
theorem dL_law_458 : decode cL_law 458 = .ok (.iadd, 1) := by decide +kernel
theorem dL_law_459 : decode cL_law 459 = .ok (.iaload, 1) := by decide +kernel
theorem dL_law_460 : decode cL_law 460 = .ok (.aload_n 3, 1) := by decide +kernel
theorem dL_law_461 : decode cL_law 461 = .ok (.invokestatic 120, 3) := by decide +kernel
theorem dL_law_464 : decode cL_law 464 = .ok (.istore 5, 2) := by decide +kernel
theorem dL_law_466 : decode cL_law 466 = .ok (.aload_n 2, 1) := by decide +kernel
theorem dL_law_467 : decode cL_law 467 = .ok (.aload_n 0, 1) := by decide +kernel
theorem dL_law_468 : decode cL_law 468 = .ok (.iload 4, 2) := by decide +kernel
theorem dL_law_470 : decode cL_law 470 = .ok (.iconst 1, 1) := by decide +kernel
theorem dL_law_471 : decode cL_law 471 = .ok (.iadd, 1) := by decide +kernel
theorem dL_law_472 : decode cL_law 472 = .ok (.iaload, 1) := by decide +kernel
theorem dL_law_473 : decode cL_law 473 = .ok (.aload_n 0, 1) := by decide +kernel
theorem dL_law_474 : decode cL_law 474 = .ok (.iload 4, 2) := by decide +kernel
theorem dL_law_476 : decode cL_law 476 = .ok (.iconst 2, 1) := by decide +kernel
theorem dL_law_477 : decode cL_law 477 = .ok (.iadd, 1) := by decide +kernel
theorem dL_law_478 : decode cL_law 478 = .ok (.iaload, 1) := by decide +kernel
theorem dL_law_479 : decode cL_law 479 = .ok (.invokevirtual 122, 3) := by decide +kernel
theorem dL_law_482 : decode cL_law 482 = .ok (.istore 6, 2) := by decide +kernel
theorem dL_law_484 : decode cL_law 484 = .ok (.aload_n 2, 1) := by decide +kernel
theorem dL_law_485 : decode cL_law 485 = .ok (.invokevirtual 108, 3) := by decide +kernel
theorem dL_law_488 : decode cL_law 488 = .ok (.iload 5, 2) := by decide +kernel
theorem dL_law_490 : decode cL_law 490 = .ok (.if_icmp .eq 5, 3) := by decide +kernel
theorem dL_law_493 : decode cL_law 493 = .ok (.iconst 0, 1) := by decide +kernel
theorem dL_law_494 : decode cL_law 494 = .ok (.ireturn, 1) := by decide +kernel
theorem dL_law_495 : decode cL_law 495 = .ok (.iload 5, 2) := by decide +kernel
theorem dL_law_497 : decode cL_law 497 = .ok (.ifCond .ne 15, 3) := by decide +kernel
theorem dL_law_500 : decode cL_law 500 = .ok (.aload_n 3, 1) := by decide +kernel
theorem dL_law_501 : decode cL_law 501 = .ok (.iconst 0, 1) := by decide +kernel
theorem dL_law_502 : decode cL_law 502 = .ok (.laload, 1) := by decide +kernel
theorem dL_law_503 : decode cL_law 503 = .ok (.iload 6, 2) := by decide +kernel
theorem dL_law_505 : decode cL_law 505 = .ok (.i2l, 1) := by decide +kernel
theorem dL_law_506 : decode cL_law 506 = .ok (.lcmp, 1) := by decide +kernel
theorem dL_law_507 : decode cL_law 507 = .ok (.ifCond .eq 5, 3) := by decide +kernel
theorem dL_law_510 : decode cL_law 510 = .ok (.iconst 0, 1) := by decide +kernel
theorem dL_law_511 : decode cL_law 511 = .ok (.ireturn, 1) := by decide +kernel
theorem dL_law_512 : decode cL_law 512 = .ok (.goto 1414, 3) := by decide +kernel
theorem dL_law_515 : decode cL_law 515 = .ok (.aload_n 1, 1) := by decide +kernel
theorem dL_law_516 : decode cL_law 516 = .ok (.aload_n 0, 1) := by decide +kernel
theorem dL_law_517 : decode cL_law 517 = .ok (.iload 4, 2) := by decide +kernel
theorem dL_law_519 : decode cL_law 519 = .ok (.iconst 1, 1) := by decide +kernel
theorem dL_law_520 : decode cL_law 520 = .ok (.iadd, 1) := by decide +kernel
theorem dL_law_521 : decode cL_law 521 = .ok (.iaload, 1) := by decide +kernel
theorem dL_law_522 : decode cL_law 522 = .ok (.aload_n 0, 1) := by decide +kernel
theorem dL_law_523 : decode cL_law 523 = .ok (.iload 4, 2) := by decide +kernel
theorem dL_law_525 : decode cL_law 525 = .ok (.iconst 2, 1) := by decide +kernel
theorem dL_law_526 : decode cL_law 526 = .ok (.iadd, 1) := by decide +kernel
theorem dL_law_527 : decode cL_law 527 = .ok (.iaload, 1) := by decide +kernel
theorem dL_law_528 : decode cL_law 528 = .ok (.aload_n 0, 1) := by decide +kernel
theorem dL_law_529 : decode cL_law 529 = .ok (.iload 4, 2) := by decide +kernel
theorem dL_law_531 : decode cL_law 531 = .ok (.iconst 3, 1) := by decide +kernel
theorem dL_law_532 : decode cL_law 532 = .ok (.iadd, 1) := by decide +kernel
theorem dL_law_533 : decode cL_law 533 = .ok (.iaload, 1) := by decide +kernel
theorem dL_law_534 : decode cL_law 534 = .ok (.aload_n 0, 1) := by decide +kernel
theorem dL_law_535 : decode cL_law 535 = .ok (.iload 4, 2) := by decide +kernel
theorem dL_law_537 : decode cL_law 537 = .ok (.iconst 4, 1) := by decide +kernel
theorem dL_law_538 : decode cL_law 538 = .ok (.iadd, 1) := by decide +kernel
theorem dL_law_539 : decode cL_law 539 = .ok (.iaload, 1) := by decide +kernel
theorem dL_law_540 : decode cL_law 540 = .ok (.invokestatic 123, 3) := by decide +kernel
theorem dL_law_543 : decode cL_law 543 = .ok (.istore 5, 2) := by decide +kernel
theorem dL_law_545 : decode cL_law 545 = .ok (.aload_n 2, 1) := by decide +kernel
theorem dL_law_546 : decode cL_law 546 = .ok (.aload_n 0, 1) := by decide +kernel
theorem dL_law_547 : decode cL_law 547 = .ok (.iload 4, 2) := by decide +kernel
theorem dL_law_549 : decode cL_law 549 = .ok (.iconst 1, 1) := by decide +kernel
theorem dL_law_550 : decode cL_law 550 = .ok (.iadd, 1) := by decide +kernel
theorem dL_law_551 : decode cL_law 551 = .ok (.iaload, 1) := by decide +kernel
theorem dL_law_552 : decode cL_law 552 = .ok (.aload_n 0, 1) := by decide +kernel
theorem dL_law_553 : decode cL_law 553 = .ok (.iload 4, 2) := by decide +kernel
theorem dL_law_555 : decode cL_law 555 = .ok (.iconst 2, 1) := by decide +kernel
theorem dL_law_556 : decode cL_law 556 = .ok (.iadd, 1) := by decide +kernel
theorem dL_law_557 : decode cL_law 557 = .ok (.iaload, 1) := by decide +kernel
theorem dL_law_558 : decode cL_law 558 = .ok (.aload_n 0, 1) := by decide +kernel
theorem dL_law_559 : decode cL_law 559 = .ok (.iload 4, 2) := by decide +kernel
theorem dL_law_561 : decode cL_law 561 = .ok (.iconst 3, 1) := by decide +kernel
theorem dL_law_562 : decode cL_law 562 = .ok (.iadd, 1) := by decide +kernel
theorem dL_law_563 : decode cL_law 563 = .ok (.iaload, 1) := by decide +kernel
theorem dL_law_564 : decode cL_law 564 = .ok (.aload_n 0, 1) := by decide +kernel
theorem dL_law_565 : decode cL_law 565 = .ok (.iload 4, 2) := by decide +kernel
theorem dL_law_567 : decode cL_law 567 = .ok (.iconst 4, 1) := by decide +kernel
theorem dL_law_568 : decode cL_law 568 = .ok (.iadd, 1) := by decide +kernel
theorem dL_law_569 : decode cL_law 569 = .ok (.iaload, 1) := by decide +kernel
theorem dL_law_570 : decode cL_law 570 = .ok (.invokevirtual 126, 3) := by decide +kernel
theorem dL_law_573 : decode cL_law 573 = .ok (.aload_n 2, 1) := by decide +kernel
theorem dL_law_574 : decode cL_law 574 = .ok (.invokevirtual 108, 3) := by decide +kernel
theorem dL_law_577 : decode cL_law 577 = .ok (.iload 5, 2) := by decide +kernel
theorem dL_law_579 : decode cL_law 579 = .ok (.if_icmp .eq 5, 3) := by decide +kernel
theorem dL_law_582 : decode cL_law 582 = .ok (.iconst 0, 1) := by decide +kernel
theorem dL_law_583 : decode cL_law 583 = .ok (.ireturn, 1) := by decide +kernel
theorem dL_law_584 : decode cL_law 584 = .ok (.goto 1342, 3) := by decide +kernel
theorem dL_law_587 : decode cL_law 587 = .ok (.aload_n 1, 1) := by decide +kernel
theorem dL_law_588 : decode cL_law 588 = .ok (.aload_n 0, 1) := by decide +kernel
theorem dL_law_589 : decode cL_law 589 = .ok (.iload 4, 2) := by decide +kernel
theorem dL_law_591 : decode cL_law 591 = .ok (.iconst 1, 1) := by decide +kernel
theorem dL_law_592 : decode cL_law 592 = .ok (.iadd, 1) := by decide +kernel
theorem dL_law_593 : decode cL_law 593 = .ok (.iaload, 1) := by decide +kernel
theorem dL_law_594 : decode cL_law 594 = .ok (.aload_n 0, 1) := by decide +kernel
theorem dL_law_595 : decode cL_law 595 = .ok (.iload 4, 2) := by decide +kernel
theorem dL_law_597 : decode cL_law 597 = .ok (.iconst 2, 1) := by decide +kernel
theorem dL_law_598 : decode cL_law 598 = .ok (.iadd, 1) := by decide +kernel
theorem dL_law_599 : decode cL_law 599 = .ok (.iaload, 1) := by decide +kernel
theorem dL_law_600 : decode cL_law 600 = .ok (.aload_n 3, 1) := by decide +kernel
theorem dL_law_601 : decode cL_law 601 = .ok (.invokestatic 127, 3) := by decide +kernel
theorem dL_law_604 : decode cL_law 604 = .ok (.istore 5, 2) := by decide +kernel
theorem dL_law_606 : decode cL_law 606 = .ok (.aload_n 2, 1) := by decide +kernel
theorem dL_law_607 : decode cL_law 607 = .ok (.aload_n 0, 1) := by decide +kernel
theorem dL_law_608 : decode cL_law 608 = .ok (.iload 4, 2) := by decide +kernel
theorem dL_law_610 : decode cL_law 610 = .ok (.iconst 1, 1) := by decide +kernel
theorem dL_law_611 : decode cL_law 611 = .ok (.iadd, 1) := by decide +kernel
theorem dL_law_612 : decode cL_law 612 = .ok (.iaload, 1) := by decide +kernel
theorem dL_law_613 : decode cL_law 613 = .ok (.aload_n 0, 1) := by decide +kernel
theorem dL_law_614 : decode cL_law 614 = .ok (.iload 4, 2) := by decide +kernel
theorem dL_law_616 : decode cL_law 616 = .ok (.iconst 2, 1) := by decide +kernel
theorem dL_law_617 : decode cL_law 617 = .ok (.iadd, 1) := by decide +kernel
theorem dL_law_618 : decode cL_law 618 = .ok (.iaload, 1) := by decide +kernel
theorem dL_law_619 : decode cL_law 619 = .ok (.invokevirtual 129, 3) := by decide +kernel
theorem dL_law_622 : decode cL_law 622 = .ok (.istore 6, 2) := by decide +kernel
theorem dL_law_624 : decode cL_law 624 = .ok (.aload_n 2, 1) := by decide +kernel
theorem dL_law_625 : decode cL_law 625 = .ok (.invokevirtual 108, 3) := by decide +kernel
theorem dL_law_628 : decode cL_law 628 = .ok (.iload 5, 2) := by decide +kernel
theorem dL_law_630 : decode cL_law 630 = .ok (.if_icmp .eq 5, 3) := by decide +kernel
theorem dL_law_633 : decode cL_law 633 = .ok (.iconst 0, 1) := by decide +kernel
theorem dL_law_634 : decode cL_law 634 = .ok (.ireturn, 1) := by decide +kernel
theorem dL_law_635 : decode cL_law 635 = .ok (.iload 5, 2) := by decide +kernel
theorem dL_law_637 : decode cL_law 637 = .ok (.ifCond .ne 15, 3) := by decide +kernel
theorem dL_law_640 : decode cL_law 640 = .ok (.aload_n 3, 1) := by decide +kernel
theorem dL_law_641 : decode cL_law 641 = .ok (.iconst 0, 1) := by decide +kernel
theorem dL_law_642 : decode cL_law 642 = .ok (.laload, 1) := by decide +kernel
theorem dL_law_643 : decode cL_law 643 = .ok (.iload 6, 2) := by decide +kernel
theorem dL_law_645 : decode cL_law 645 = .ok (.i2l, 1) := by decide +kernel
theorem dL_law_646 : decode cL_law 646 = .ok (.lcmp, 1) := by decide +kernel
theorem dL_law_647 : decode cL_law 647 = .ok (.ifCond .eq 5, 3) := by decide +kernel
theorem dL_law_650 : decode cL_law 650 = .ok (.iconst 0, 1) := by decide +kernel
theorem dL_law_651 : decode cL_law 651 = .ok (.ireturn, 1) := by decide +kernel
theorem dL_law_652 : decode cL_law 652 = .ok (.goto 1274, 3) := by decide +kernel
theorem dL_law_655 : decode cL_law 655 = .ok (.aload_n 1, 1) := by decide +kernel
theorem dL_law_656 : decode cL_law 656 = .ok (.aload_n 0, 1) := by decide +kernel
theorem dL_law_657 : decode cL_law 657 = .ok (.iload 4, 2) := by decide +kernel
theorem dL_law_659 : decode cL_law 659 = .ok (.iconst 1, 1) := by decide +kernel
theorem dL_law_660 : decode cL_law 660 = .ok (.iadd, 1) := by decide +kernel
theorem dL_law_661 : decode cL_law 661 = .ok (.iaload, 1) := by decide +kernel
theorem dL_law_662 : decode cL_law 662 = .ok (.aload_n 3, 1) := by decide +kernel
theorem dL_law_663 : decode cL_law 663 = .ok (.invokestatic 130, 3) := by decide +kernel
theorem dL_law_666 : decode cL_law 666 = .ok (.istore 5, 2) := by decide +kernel
theorem dL_law_668 : decode cL_law 668 = .ok (.aload_n 2, 1) := by decide +kernel
theorem dL_law_669 : decode cL_law 669 = .ok (.aload_n 0, 1) := by decide +kernel
theorem dL_law_670 : decode cL_law 670 = .ok (.iload 4, 2) := by decide +kernel
theorem dL_law_672 : decode cL_law 672 = .ok (.iconst 1, 1) := by decide +kernel
theorem dL_law_673 : decode cL_law 673 = .ok (.iadd, 1) := by decide +kernel
theorem dL_law_674 : decode cL_law 674 = .ok (.iaload, 1) := by decide +kernel
theorem dL_law_675 : decode cL_law 675 = .ok (.invokevirtual 133, 3) := by decide +kernel
theorem dL_law_678 : decode cL_law 678 = .ok (.istore 6, 2) := by decide +kernel
theorem dL_law_680 : decode cL_law 680 = .ok (.aload_n 2, 1) := by decide +kernel
theorem dL_law_681 : decode cL_law 681 = .ok (.invokevirtual 108, 3) := by decide +kernel
theorem dL_law_684 : decode cL_law 684 = .ok (.iload 5, 2) := by decide +kernel
theorem dL_law_686 : decode cL_law 686 = .ok (.if_icmp .eq 5, 3) := by decide +kernel
theorem dL_law_689 : decode cL_law 689 = .ok (.iconst 0, 1) := by decide +kernel
theorem dL_law_690 : decode cL_law 690 = .ok (.ireturn, 1) := by decide +kernel
theorem dL_law_691 : decode cL_law 691 = .ok (.iload 5, 2) := by decide +kernel
theorem dL_law_693 : decode cL_law 693 = .ok (.ifCond .ne 15, 3) := by decide +kernel
theorem dL_law_696 : decode cL_law 696 = .ok (.aload_n 3, 1) := by decide +kernel
theorem dL_law_697 : decode cL_law 697 = .ok (.iconst 0, 1) := by decide +kernel
theorem dL_law_698 : decode cL_law 698 = .ok (.laload, 1) := by decide +kernel
theorem dL_law_699 : decode cL_law 699 = .ok (.iload 6, 2) := by decide +kernel
theorem dL_law_701 : decode cL_law 701 = .ok (.i2l, 1) := by decide +kernel
theorem dL_law_702 : decode cL_law 702 = .ok (.lcmp, 1) := by decide +kernel
theorem dL_law_703 : decode cL_law 703 = .ok (.ifCond .eq 5, 3) := by decide +kernel
theorem dL_law_706 : decode cL_law 706 = .ok (.iconst 0, 1) := by decide +kernel
theorem dL_law_707 : decode cL_law 707 = .ok (.ireturn, 1) := by decide +kernel
theorem dL_law_708 : decode cL_law 708 = .ok (.goto 1218, 3) := by decide +kernel
theorem dL_law_711 : decode cL_law 711 = .ok (.aload_n 1, 1) := by decide +kernel
theorem dL_law_712 : decode cL_law 712 = .ok (.aload_n 0, 1) := by decide +kernel
theorem dL_law_713 : decode cL_law 713 = .ok (.iload 4, 2) := by decide +kernel
theorem dL_law_715 : decode cL_law 715 = .ok (.iconst 1, 1) := by decide +kernel
theorem dL_law_716 : decode cL_law 716 = .ok (.iadd, 1) := by decide +kernel
theorem dL_law_717 : decode cL_law 717 = .ok (.iaload, 1) := by decide +kernel
theorem dL_law_718 : decode cL_law 718 = .ok (.aload_n 0, 1) := by decide +kernel
theorem dL_law_719 : decode cL_law 719 = .ok (.iload 4, 2) := by decide +kernel
theorem dL_law_721 : decode cL_law 721 = .ok (.iconst 2, 1) := by decide +kernel
theorem dL_law_722 : decode cL_law 722 = .ok (.iadd, 1) := by decide +kernel
theorem dL_law_723 : decode cL_law 723 = .ok (.iaload, 1) := by decide +kernel
theorem dL_law_724 : decode cL_law 724 = .ok (.aload_n 0, 1) := by decide +kernel
theorem dL_law_725 : decode cL_law 725 = .ok (.iload 4, 2) := by decide +kernel
theorem dL_law_727 : decode cL_law 727 = .ok (.iconst 3, 1) := by decide +kernel
theorem dL_law_728 : decode cL_law 728 = .ok (.iadd, 1) := by decide +kernel
theorem dL_law_729 : decode cL_law 729 = .ok (.iaload, 1) := by decide +kernel
theorem dL_law_730 : decode cL_law 730 = .ok (.aload_n 3, 1) := by decide +kernel
theorem dL_law_731 : decode cL_law 731 = .ok (.invokestatic 134, 3) := by decide +kernel
theorem dL_law_734 : decode cL_law 734 = .ok (.istore 5, 2) := by decide +kernel
theorem dL_law_736 : decode cL_law 736 = .ok (.aload_n 2, 1) := by decide +kernel
theorem dL_law_737 : decode cL_law 737 = .ok (.aload_n 0, 1) := by decide +kernel
theorem dL_law_738 : decode cL_law 738 = .ok (.iload 4, 2) := by decide +kernel
theorem dL_law_740 : decode cL_law 740 = .ok (.iconst 1, 1) := by decide +kernel
theorem dL_law_741 : decode cL_law 741 = .ok (.iadd, 1) := by decide +kernel
theorem dL_law_742 : decode cL_law 742 = .ok (.iaload, 1) := by decide +kernel
theorem dL_law_743 : decode cL_law 743 = .ok (.aload_n 0, 1) := by decide +kernel
theorem dL_law_744 : decode cL_law 744 = .ok (.iload 4, 2) := by decide +kernel
theorem dL_law_746 : decode cL_law 746 = .ok (.iconst 2, 1) := by decide +kernel
theorem dL_law_747 : decode cL_law 747 = .ok (.iadd, 1) := by decide +kernel
theorem dL_law_748 : decode cL_law 748 = .ok (.iaload, 1) := by decide +kernel
theorem dL_law_749 : decode cL_law 749 = .ok (.aload_n 0, 1) := by decide +kernel
theorem dL_law_750 : decode cL_law 750 = .ok (.iload 4, 2) := by decide +kernel
theorem dL_law_752 : decode cL_law 752 = .ok (.iconst 3, 1) := by decide +kernel
theorem dL_law_753 : decode cL_law 753 = .ok (.iadd, 1) := by decide +kernel
theorem dL_law_754 : decode cL_law 754 = .ok (.iaload, 1) := by decide +kernel
theorem dL_law_755 : decode cL_law 755 = .ok (.invokevirtual 137, 3) := by decide +kernel
theorem dL_law_758 : decode cL_law 758 = .ok (.istore 6, 2) := by decide +kernel
theorem dL_law_760 : decode cL_law 760 = .ok (.aload_n 2, 1) := by decide +kernel
theorem dL_law_761 : decode cL_law 761 = .ok (.invokevirtual 108, 3) := by decide +kernel
theorem dL_law_764 : decode cL_law 764 = .ok (.iload 5, 2) := by decide +kernel
theorem dL_law_766 : decode cL_law 766 = .ok (.if_icmp .eq 5, 3) := by decide +kernel
theorem dL_law_769 : decode cL_law 769 = .ok (.iconst 0, 1) := by decide +kernel
theorem dL_law_770 : decode cL_law 770 = .ok (.ireturn, 1) := by decide +kernel
theorem dL_law_771 : decode cL_law 771 = .ok (.iload 5, 2) := by decide +kernel
theorem dL_law_773 : decode cL_law 773 = .ok (.ifCond .ne 15, 3) := by decide +kernel
theorem dL_law_776 : decode cL_law 776 = .ok (.aload_n 3, 1) := by decide +kernel
theorem dL_law_777 : decode cL_law 777 = .ok (.iconst 0, 1) := by decide +kernel
theorem dL_law_778 : decode cL_law 778 = .ok (.laload, 1) := by decide +kernel
theorem dL_law_779 : decode cL_law 779 = .ok (.iload 6, 2) := by decide +kernel
theorem dL_law_781 : decode cL_law 781 = .ok (.i2l, 1) := by decide +kernel
theorem dL_law_782 : decode cL_law 782 = .ok (.lcmp, 1) := by decide +kernel
theorem dL_law_783 : decode cL_law 783 = .ok (.ifCond .eq 5, 3) := by decide +kernel
theorem dL_law_786 : decode cL_law 786 = .ok (.iconst 0, 1) := by decide +kernel
theorem dL_law_787 : decode cL_law 787 = .ok (.ireturn, 1) := by decide +kernel
theorem dL_law_788 : decode cL_law 788 = .ok (.goto 1138, 3) := by decide +kernel
theorem dL_law_791 : decode cL_law 791 = .ok (.aload_n 1, 1) := by decide +kernel
theorem dL_law_792 : decode cL_law 792 = .ok (.aload_n 0, 1) := by decide +kernel
theorem dL_law_793 : decode cL_law 793 = .ok (.iload 4, 2) := by decide +kernel
theorem dL_law_795 : decode cL_law 795 = .ok (.iconst 1, 1) := by decide +kernel
theorem dL_law_796 : decode cL_law 796 = .ok (.iadd, 1) := by decide +kernel
theorem dL_law_797 : decode cL_law 797 = .ok (.iaload, 1) := by decide +kernel
theorem dL_law_798 : decode cL_law 798 = .ok (.aload_n 0, 1) := by decide +kernel
theorem dL_law_799 : decode cL_law 799 = .ok (.iload 4, 2) := by decide +kernel
theorem dL_law_801 : decode cL_law 801 = .ok (.iconst 2, 1) := by decide +kernel
theorem dL_law_802 : decode cL_law 802 = .ok (.iadd, 1) := by decide +kernel
theorem dL_law_803 : decode cL_law 803 = .ok (.iaload, 1) := by decide +kernel
theorem dL_law_804 : decode cL_law 804 = .ok (.aload_n 3, 1) := by decide +kernel
theorem dL_law_805 : decode cL_law 805 = .ok (.invokestatic 138, 3) := by decide +kernel
theorem dL_law_808 : decode cL_law 808 = .ok (.istore 5, 2) := by decide +kernel
theorem dL_law_810 : decode cL_law 810 = .ok (.aload_n 2, 1) := by decide +kernel
theorem dL_law_811 : decode cL_law 811 = .ok (.aload_n 0, 1) := by decide +kernel
theorem dL_law_812 : decode cL_law 812 = .ok (.iload 4, 2) := by decide +kernel
theorem dL_law_814 : decode cL_law 814 = .ok (.iconst 1, 1) := by decide +kernel
theorem dL_law_815 : decode cL_law 815 = .ok (.iadd, 1) := by decide +kernel
theorem dL_law_816 : decode cL_law 816 = .ok (.iaload, 1) := by decide +kernel
theorem dL_law_817 : decode cL_law 817 = .ok (.aload_n 0, 1) := by decide +kernel
theorem dL_law_818 : decode cL_law 818 = .ok (.iload 4, 2) := by decide +kernel
theorem dL_law_820 : decode cL_law 820 = .ok (.iconst 2, 1) := by decide +kernel
theorem dL_law_821 : decode cL_law 821 = .ok (.iadd, 1) := by decide +kernel
theorem dL_law_822 : decode cL_law 822 = .ok (.iaload, 1) := by decide +kernel
theorem dL_law_823 : decode cL_law 823 = .ok (.invokevirtual 140, 3) := by decide +kernel
theorem dL_law_826 : decode cL_law 826 = .ok (.istore 6, 2) := by decide +kernel
theorem dL_law_828 : decode cL_law 828 = .ok (.aload_n 2, 1) := by decide +kernel
theorem dL_law_829 : decode cL_law 829 = .ok (.invokevirtual 108, 3) := by decide +kernel
theorem dL_law_832 : decode cL_law 832 = .ok (.iload 5, 2) := by decide +kernel
theorem dL_law_834 : decode cL_law 834 = .ok (.if_icmp .eq 5, 3) := by decide +kernel
theorem dL_law_837 : decode cL_law 837 = .ok (.iconst 0, 1) := by decide +kernel
theorem dL_law_838 : decode cL_law 838 = .ok (.ireturn, 1) := by decide +kernel
theorem dL_law_839 : decode cL_law 839 = .ok (.iload 5, 2) := by decide +kernel
theorem dL_law_841 : decode cL_law 841 = .ok (.ifCond .ne 15, 3) := by decide +kernel
theorem dL_law_844 : decode cL_law 844 = .ok (.aload_n 3, 1) := by decide +kernel
theorem dL_law_845 : decode cL_law 845 = .ok (.iconst 0, 1) := by decide +kernel
theorem dL_law_846 : decode cL_law 846 = .ok (.laload, 1) := by decide +kernel
theorem dL_law_847 : decode cL_law 847 = .ok (.iload 6, 2) := by decide +kernel
theorem dL_law_849 : decode cL_law 849 = .ok (.i2l, 1) := by decide +kernel
theorem dL_law_850 : decode cL_law 850 = .ok (.lcmp, 1) := by decide +kernel
theorem dL_law_851 : decode cL_law 851 = .ok (.ifCond .eq 5, 3) := by decide +kernel
theorem dL_law_854 : decode cL_law 854 = .ok (.iconst 0, 1) := by decide +kernel
theorem dL_law_855 : decode cL_law 855 = .ok (.ireturn, 1) := by decide +kernel
theorem dL_law_856 : decode cL_law 856 = .ok (.goto 1070, 3) := by decide +kernel
theorem dL_law_859 : decode cL_law 859 = .ok (.aload_n 1, 1) := by decide +kernel
theorem dL_law_860 : decode cL_law 860 = .ok (.aload_n 0, 1) := by decide +kernel
theorem dL_law_861 : decode cL_law 861 = .ok (.iload 4, 2) := by decide +kernel
theorem dL_law_863 : decode cL_law 863 = .ok (.iconst 1, 1) := by decide +kernel
theorem dL_law_864 : decode cL_law 864 = .ok (.iadd, 1) := by decide +kernel
theorem dL_law_865 : decode cL_law 865 = .ok (.iaload, 1) := by decide +kernel
theorem dL_law_866 : decode cL_law 866 = .ok (.aload_n 3, 1) := by decide +kernel
theorem dL_law_867 : decode cL_law 867 = .ok (.invokestatic 141, 3) := by decide +kernel
theorem dL_law_870 : decode cL_law 870 = .ok (.istore 5, 2) := by decide +kernel
theorem dL_law_872 : decode cL_law 872 = .ok (.aload_n 2, 1) := by decide +kernel
theorem dL_law_873 : decode cL_law 873 = .ok (.aload_n 0, 1) := by decide +kernel
theorem dL_law_874 : decode cL_law 874 = .ok (.iload 4, 2) := by decide +kernel
theorem dL_law_876 : decode cL_law 876 = .ok (.iconst 1, 1) := by decide +kernel
theorem dL_law_877 : decode cL_law 877 = .ok (.iadd, 1) := by decide +kernel
theorem dL_law_878 : decode cL_law 878 = .ok (.iaload, 1) := by decide +kernel
theorem dL_law_879 : decode cL_law 879 = .ok (.invokevirtual 143, 3) := by decide +kernel
theorem dL_law_882 : decode cL_law 882 = .ok (.istore 6, 2) := by decide +kernel
theorem dL_law_884 : decode cL_law 884 = .ok (.aload_n 2, 1) := by decide +kernel
theorem dL_law_885 : decode cL_law 885 = .ok (.invokevirtual 108, 3) := by decide +kernel
theorem dL_law_888 : decode cL_law 888 = .ok (.iload 5, 2) := by decide +kernel
theorem dL_law_890 : decode cL_law 890 = .ok (.if_icmp .eq 5, 3) := by decide +kernel
theorem dL_law_893 : decode cL_law 893 = .ok (.iconst 0, 1) := by decide +kernel
theorem dL_law_894 : decode cL_law 894 = .ok (.ireturn, 1) := by decide +kernel
theorem dL_law_895 : decode cL_law 895 = .ok (.iload 5, 2) := by decide +kernel
theorem dL_law_897 : decode cL_law 897 = .ok (.ifCond .ne 15, 3) := by decide +kernel
theorem dL_law_900 : decode cL_law 900 = .ok (.aload_n 3, 1) := by decide +kernel
theorem dL_law_901 : decode cL_law 901 = .ok (.iconst 0, 1) := by decide +kernel
theorem dL_law_902 : decode cL_law 902 = .ok (.laload, 1) := by decide +kernel
theorem dL_law_903 : decode cL_law 903 = .ok (.iload 6, 2) := by decide +kernel
theorem dL_law_905 : decode cL_law 905 = .ok (.i2l, 1) := by decide +kernel
theorem dL_law_906 : decode cL_law 906 = .ok (.lcmp, 1) := by decide +kernel
theorem dL_law_907 : decode cL_law 907 = .ok (.ifCond .eq 5, 3) := by decide +kernel
theorem dL_law_910 : decode cL_law 910 = .ok (.iconst 0, 1) := by decide +kernel
theorem dL_law_911 : decode cL_law 911 = .ok (.ireturn, 1) := by decide +kernel
theorem dL_law_912 : decode cL_law 912 = .ok (.goto 1014, 3) := by decide +kernel
theorem dL_law_915 : decode cL_law 915 = .ok (.aload_n 1, 1) := by decide +kernel
theorem dL_law_916 : decode cL_law 916 = .ok (.aload_n 0, 1) := by decide +kernel
theorem dL_law_917 : decode cL_law 917 = .ok (.iload 4, 2) := by decide +kernel
theorem dL_law_919 : decode cL_law 919 = .ok (.iconst 1, 1) := by decide +kernel
theorem dL_law_920 : decode cL_law 920 = .ok (.iadd, 1) := by decide +kernel
theorem dL_law_921 : decode cL_law 921 = .ok (.iaload, 1) := by decide +kernel
theorem dL_law_922 : decode cL_law 922 = .ok (.aload_n 0, 1) := by decide +kernel
theorem dL_law_923 : decode cL_law 923 = .ok (.iload 4, 2) := by decide +kernel
theorem dL_law_925 : decode cL_law 925 = .ok (.iconst 2, 1) := by decide +kernel
theorem dL_law_926 : decode cL_law 926 = .ok (.iadd, 1) := by decide +kernel
theorem dL_law_927 : decode cL_law 927 = .ok (.iaload, 1) := by decide +kernel
theorem dL_law_928 : decode cL_law 928 = .ok (.aload_n 3, 1) := by decide +kernel
theorem dL_law_929 : decode cL_law 929 = .ok (.invokestatic 144, 3) := by decide +kernel
theorem dL_law_932 : decode cL_law 932 = .ok (.istore 5, 2) := by decide +kernel
theorem dL_law_934 : decode cL_law 934 = .ok (.aload_n 2, 1) := by decide +kernel
theorem dL_law_935 : decode cL_law 935 = .ok (.aload_n 0, 1) := by decide +kernel
theorem dL_law_936 : decode cL_law 936 = .ok (.iload 4, 2) := by decide +kernel
theorem dL_law_938 : decode cL_law 938 = .ok (.iconst 1, 1) := by decide +kernel
theorem dL_law_939 : decode cL_law 939 = .ok (.iadd, 1) := by decide +kernel
theorem dL_law_940 : decode cL_law 940 = .ok (.iaload, 1) := by decide +kernel
theorem dL_law_941 : decode cL_law 941 = .ok (.aload_n 0, 1) := by decide +kernel
theorem dL_law_942 : decode cL_law 942 = .ok (.iload 4, 2) := by decide +kernel
theorem dL_law_944 : decode cL_law 944 = .ok (.iconst 2, 1) := by decide +kernel
theorem dL_law_945 : decode cL_law 945 = .ok (.iadd, 1) := by decide +kernel
theorem dL_law_946 : decode cL_law 946 = .ok (.iaload, 1) := by decide +kernel
theorem dL_law_947 : decode cL_law 947 = .ok (.invokevirtual 146, 3) := by decide +kernel
theorem dL_law_950 : decode cL_law 950 = .ok (.istore 6, 2) := by decide +kernel
theorem dL_law_952 : decode cL_law 952 = .ok (.aload_n 2, 1) := by decide +kernel
theorem dL_law_953 : decode cL_law 953 = .ok (.invokevirtual 108, 3) := by decide +kernel
theorem dL_law_956 : decode cL_law 956 = .ok (.iload 5, 2) := by decide +kernel
theorem dL_law_958 : decode cL_law 958 = .ok (.if_icmp .eq 5, 3) := by decide +kernel
theorem dL_law_961 : decode cL_law 961 = .ok (.iconst 0, 1) := by decide +kernel
theorem dL_law_962 : decode cL_law 962 = .ok (.ireturn, 1) := by decide +kernel
theorem dL_law_963 : decode cL_law 963 = .ok (.iload 5, 2) := by decide +kernel
theorem dL_law_965 : decode cL_law 965 = .ok (.ifCond .ne 15, 3) := by decide +kernel
theorem dL_law_968 : decode cL_law 968 = .ok (.aload_n 3, 1) := by decide +kernel
theorem dL_law_969 : decode cL_law 969 = .ok (.iconst 0, 1) := by decide +kernel
theorem dL_law_970 : decode cL_law 970 = .ok (.laload, 1) := by decide +kernel
theorem dL_law_971 : decode cL_law 971 = .ok (.iload 6, 2) := by decide +kernel
theorem dL_law_973 : decode cL_law 973 = .ok (.i2l, 1) := by decide +kernel
theorem dL_law_974 : decode cL_law 974 = .ok (.lcmp, 1) := by decide +kernel
theorem dL_law_975 : decode cL_law 975 = .ok (.ifCond .eq 5, 3) := by decide +kernel
theorem dL_law_978 : decode cL_law 978 = .ok (.iconst 0, 1) := by decide +kernel
theorem dL_law_979 : decode cL_law 979 = .ok (.ireturn, 1) := by decide +kernel
theorem dL_law_980 : decode cL_law 980 = .ok (.goto 946, 3) := by decide +kernel
theorem dL_law_983 : decode cL_law 983 = .ok (.aload_n 1, 1) := by decide +kernel
theorem dL_law_984 : decode cL_law 984 = .ok (.aload_n 0, 1) := by decide +kernel
theorem dL_law_985 : decode cL_law 985 = .ok (.iload 4, 2) := by decide +kernel
theorem dL_law_987 : decode cL_law 987 = .ok (.iconst 1, 1) := by decide +kernel
theorem dL_law_988 : decode cL_law 988 = .ok (.iadd, 1) := by decide +kernel
theorem dL_law_989 : decode cL_law 989 = .ok (.iaload, 1) := by decide +kernel
theorem dL_law_990 : decode cL_law 990 = .ok (.aload_n 3, 1) := by decide +kernel
theorem dL_law_991 : decode cL_law 991 = .ok (.invokestatic 147, 3) := by decide +kernel
theorem dL_law_994 : decode cL_law 994 = .ok (.istore 5, 2) := by decide +kernel
theorem dL_law_996 : decode cL_law 996 = .ok (.aload_n 2, 1) := by decide +kernel
theorem dL_law_997 : decode cL_law 997 = .ok (.aload_n 0, 1) := by decide +kernel
theorem dL_law_998 : decode cL_law 998 = .ok (.iload 4, 2) := by decide +kernel
theorem dL_law_1000 : decode cL_law 1000 = .ok (.iconst 1, 1) := by decide +kernel
theorem dL_law_1001 : decode cL_law 1001 = .ok (.iadd, 1) := by decide +kernel
theorem dL_law_1002 : decode cL_law 1002 = .ok (.iaload, 1) := by decide +kernel
theorem dL_law_1003 : decode cL_law 1003 = .ok (.invokevirtual 149, 3) := by decide +kernel
theorem dL_law_1006 : decode cL_law 1006 = .ok (.istore 6, 2) := by decide +kernel
theorem dL_law_1008 : decode cL_law 1008 = .ok (.aload_n 2, 1) := by decide +kernel
theorem dL_law_1009 : decode cL_law 1009 = .ok (.invokevirtual 108, 3) := by decide +kernel
theorem dL_law_1012 : decode cL_law 1012 = .ok (.iload 5, 2) := by decide +kernel
theorem dL_law_1014 : decode cL_law 1014 = .ok (.if_icmp .eq 5, 3) := by decide +kernel
theorem dL_law_1017 : decode cL_law 1017 = .ok (.iconst 0, 1) := by decide +kernel
theorem dL_law_1018 : decode cL_law 1018 = .ok (.ireturn, 1) := by decide +kernel
theorem dL_law_1019 : decode cL_law 1019 = .ok (.iload 5, 2) := by decide +kernel
theorem dL_law_1021 : decode cL_law 1021 = .ok (.ifCond .ne 15, 3) := by decide +kernel
theorem dL_law_1024 : decode cL_law 1024 = .ok (.aload_n 3, 1) := by decide +kernel
theorem dL_law_1025 : decode cL_law 1025 = .ok (.iconst 0, 1) := by decide +kernel
theorem dL_law_1026 : decode cL_law 1026 = .ok (.laload, 1) := by decide +kernel
theorem dL_law_1027 : decode cL_law 1027 = .ok (.iload 6, 2) := by decide +kernel
theorem dL_law_1029 : decode cL_law 1029 = .ok (.i2l, 1) := by decide +kernel
theorem dL_law_1030 : decode cL_law 1030 = .ok (.lcmp, 1) := by decide +kernel
theorem dL_law_1031 : decode cL_law 1031 = .ok (.ifCond .eq 5, 3) := by decide +kernel
theorem dL_law_1034 : decode cL_law 1034 = .ok (.iconst 0, 1) := by decide +kernel
theorem dL_law_1035 : decode cL_law 1035 = .ok (.ireturn, 1) := by decide +kernel
theorem dL_law_1036 : decode cL_law 1036 = .ok (.goto 890, 3) := by decide +kernel
theorem dL_law_1039 : decode cL_law 1039 = .ok (.aload_n 1, 1) := by decide +kernel
theorem dL_law_1040 : decode cL_law 1040 = .ok (.aload_n 0, 1) := by decide +kernel
theorem dL_law_1041 : decode cL_law 1041 = .ok (.iload 4, 2) := by decide +kernel
theorem dL_law_1043 : decode cL_law 1043 = .ok (.iconst 1, 1) := by decide +kernel
theorem dL_law_1044 : decode cL_law 1044 = .ok (.iadd, 1) := by decide +kernel
theorem dL_law_1045 : decode cL_law 1045 = .ok (.iaload, 1) := by decide +kernel
theorem dL_law_1046 : decode cL_law 1046 = .ok (.aload_n 3, 1) := by decide +kernel
theorem dL_law_1047 : decode cL_law 1047 = .ok (.invokestatic 150, 3) := by decide +kernel
theorem dL_law_1050 : decode cL_law 1050 = .ok (.istore 5, 2) := by decide +kernel
theorem dL_law_1052 : decode cL_law 1052 = .ok (.aload_n 2, 1) := by decide +kernel
theorem dL_law_1053 : decode cL_law 1053 = .ok (.aload_n 0, 1) := by decide +kernel
theorem dL_law_1054 : decode cL_law 1054 = .ok (.iload 4, 2) := by decide +kernel
theorem dL_law_1056 : decode cL_law 1056 = .ok (.iconst 1, 1) := by decide +kernel
theorem dL_law_1057 : decode cL_law 1057 = .ok (.iadd, 1) := by decide +kernel
theorem dL_law_1058 : decode cL_law 1058 = .ok (.iaload, 1) := by decide +kernel
theorem dL_law_1059 : decode cL_law 1059 = .ok (.invokevirtual 152, 3) := by decide +kernel
theorem dL_law_1062 : decode cL_law 1062 = .ok (.istore 6, 2) := by decide +kernel
theorem dL_law_1064 : decode cL_law 1064 = .ok (.aload_n 2, 1) := by decide +kernel
theorem dL_law_1065 : decode cL_law 1065 = .ok (.invokevirtual 108, 3) := by decide +kernel
theorem dL_law_1068 : decode cL_law 1068 = .ok (.iload 5, 2) := by decide +kernel
theorem dL_law_1070 : decode cL_law 1070 = .ok (.if_icmp .eq 5, 3) := by decide +kernel
theorem dL_law_1073 : decode cL_law 1073 = .ok (.iconst 0, 1) := by decide +kernel
theorem dL_law_1074 : decode cL_law 1074 = .ok (.ireturn, 1) := by decide +kernel
theorem dL_law_1075 : decode cL_law 1075 = .ok (.iload 5, 2) := by decide +kernel
theorem dL_law_1077 : decode cL_law 1077 = .ok (.ifCond .ne 15, 3) := by decide +kernel
theorem dL_law_1080 : decode cL_law 1080 = .ok (.aload_n 3, 1) := by decide +kernel
theorem dL_law_1081 : decode cL_law 1081 = .ok (.iconst 0, 1) := by decide +kernel
theorem dL_law_1082 : decode cL_law 1082 = .ok (.laload, 1) := by decide +kernel
theorem dL_law_1083 : decode cL_law 1083 = .ok (.iload 6, 2) := by decide +kernel
theorem dL_law_1085 : decode cL_law 1085 = .ok (.i2l, 1) := by decide +kernel
theorem dL_law_1086 : decode cL_law 1086 = .ok (.lcmp, 1) := by decide +kernel
theorem dL_law_1087 : decode cL_law 1087 = .ok (.ifCond .eq 5, 3) := by decide +kernel
theorem dL_law_1090 : decode cL_law 1090 = .ok (.iconst 0, 1) := by decide +kernel
theorem dL_law_1091 : decode cL_law 1091 = .ok (.ireturn, 1) := by decide +kernel
theorem dL_law_1092 : decode cL_law 1092 = .ok (.goto 834, 3) := by decide +kernel
theorem dL_law_1095 : decode cL_law 1095 = .ok (.aload_n 1, 1) := by decide +kernel
theorem dL_law_1096 : decode cL_law 1096 = .ok (.aload_n 0, 1) := by decide +kernel
theorem dL_law_1097 : decode cL_law 1097 = .ok (.iload 4, 2) := by decide +kernel
theorem dL_law_1099 : decode cL_law 1099 = .ok (.iconst 1, 1) := by decide +kernel
theorem dL_law_1100 : decode cL_law 1100 = .ok (.iadd, 1) := by decide +kernel
theorem dL_law_1101 : decode cL_law 1101 = .ok (.iaload, 1) := by decide +kernel
theorem dL_law_1102 : decode cL_law 1102 = .ok (.aload_n 0, 1) := by decide +kernel
theorem dL_law_1103 : decode cL_law 1103 = .ok (.iload 4, 2) := by decide +kernel
theorem dL_law_1105 : decode cL_law 1105 = .ok (.iconst 2, 1) := by decide +kernel
theorem dL_law_1106 : decode cL_law 1106 = .ok (.iadd, 1) := by decide +kernel
theorem dL_law_1107 : decode cL_law 1107 = .ok (.iaload, 1) := by decide +kernel
theorem dL_law_1108 : decode cL_law 1108 = .ok (.aload_n 3, 1) := by decide +kernel
theorem dL_law_1109 : decode cL_law 1109 = .ok (.invokestatic 153, 3) := by decide +kernel
theorem dL_law_1112 : decode cL_law 1112 = .ok (.istore 5, 2) := by decide +kernel
theorem dL_law_1114 : decode cL_law 1114 = .ok (.aload_n 2, 1) := by decide +kernel
theorem dL_law_1115 : decode cL_law 1115 = .ok (.aload_n 0, 1) := by decide +kernel
theorem dL_law_1116 : decode cL_law 1116 = .ok (.iload 4, 2) := by decide +kernel
theorem dL_law_1118 : decode cL_law 1118 = .ok (.iconst 1, 1) := by decide +kernel
theorem dL_law_1119 : decode cL_law 1119 = .ok (.iadd, 1) := by decide +kernel
theorem dL_law_1120 : decode cL_law 1120 = .ok (.iaload, 1) := by decide +kernel
theorem dL_law_1121 : decode cL_law 1121 = .ok (.aload_n 0, 1) := by decide +kernel
theorem dL_law_1122 : decode cL_law 1122 = .ok (.iload 4, 2) := by decide +kernel
theorem dL_law_1124 : decode cL_law 1124 = .ok (.iconst 2, 1) := by decide +kernel
theorem dL_law_1125 : decode cL_law 1125 = .ok (.iadd, 1) := by decide +kernel
theorem dL_law_1126 : decode cL_law 1126 = .ok (.iaload, 1) := by decide +kernel
theorem dL_law_1127 : decode cL_law 1127 = .ok (.invokevirtual 155, 3) := by decide +kernel
theorem dL_law_1130 : decode cL_law 1130 = .ok (.istore 6, 2) := by decide +kernel
theorem dL_law_1132 : decode cL_law 1132 = .ok (.aload_n 2, 1) := by decide +kernel
theorem dL_law_1133 : decode cL_law 1133 = .ok (.invokevirtual 108, 3) := by decide +kernel
theorem dL_law_1136 : decode cL_law 1136 = .ok (.iload 5, 2) := by decide +kernel
theorem dL_law_1138 : decode cL_law 1138 = .ok (.if_icmp .eq 5, 3) := by decide +kernel
theorem dL_law_1141 : decode cL_law 1141 = .ok (.iconst 0, 1) := by decide +kernel
theorem dL_law_1142 : decode cL_law 1142 = .ok (.ireturn, 1) := by decide +kernel
theorem dL_law_1143 : decode cL_law 1143 = .ok (.iload 5, 2) := by decide +kernel
theorem dL_law_1145 : decode cL_law 1145 = .ok (.ifCond .ne 15, 3) := by decide +kernel
theorem dL_law_1148 : decode cL_law 1148 = .ok (.aload_n 3, 1) := by decide +kernel
theorem dL_law_1149 : decode cL_law 1149 = .ok (.iconst 0, 1) := by decide +kernel
theorem dL_law_1150 : decode cL_law 1150 = .ok (.laload, 1) := by decide +kernel
theorem dL_law_1151 : decode cL_law 1151 = .ok (.iload 6, 2) := by decide +kernel
theorem dL_law_1153 : decode cL_law 1153 = .ok (.i2l, 1) := by decide +kernel
theorem dL_law_1154 : decode cL_law 1154 = .ok (.lcmp, 1) := by decide +kernel
theorem dL_law_1155 : decode cL_law 1155 = .ok (.ifCond .eq 5, 3) := by decide +kernel
theorem dL_law_1158 : decode cL_law 1158 = .ok (.iconst 0, 1) := by decide +kernel
theorem dL_law_1159 : decode cL_law 1159 = .ok (.ireturn, 1) := by decide +kernel
theorem dL_law_1160 : decode cL_law 1160 = .ok (.goto 766, 3) := by decide +kernel
theorem dL_law_1163 : decode cL_law 1163 = .ok (.aload_n 1, 1) := by decide +kernel
theorem dL_law_1164 : decode cL_law 1164 = .ok (.aload_n 0, 1) := by decide +kernel
theorem dL_law_1165 : decode cL_law 1165 = .ok (.iload 4, 2) := by decide +kernel
theorem dL_law_1167 : decode cL_law 1167 = .ok (.iconst 1, 1) := by decide +kernel
theorem dL_law_1168 : decode cL_law 1168 = .ok (.iadd, 1) := by decide +kernel
theorem dL_law_1169 : decode cL_law 1169 = .ok (.iaload, 1) := by decide +kernel
theorem dL_law_1170 : decode cL_law 1170 = .ok (.aload_n 3, 1) := by decide +kernel
theorem dL_law_1171 : decode cL_law 1171 = .ok (.invokestatic 156, 3) := by decide +kernel
theorem dL_law_1174 : decode cL_law 1174 = .ok (.istore 5, 2) := by decide +kernel
theorem dL_law_1176 : decode cL_law 1176 = .ok (.aload_n 2, 1) := by decide +kernel
theorem dL_law_1177 : decode cL_law 1177 = .ok (.aload_n 0, 1) := by decide +kernel
theorem dL_law_1178 : decode cL_law 1178 = .ok (.iload 4, 2) := by decide +kernel
theorem dL_law_1180 : decode cL_law 1180 = .ok (.iconst 1, 1) := by decide +kernel
theorem dL_law_1181 : decode cL_law 1181 = .ok (.iadd, 1) := by decide +kernel
theorem dL_law_1182 : decode cL_law 1182 = .ok (.iaload, 1) := by decide +kernel
theorem dL_law_1183 : decode cL_law 1183 = .ok (.invokevirtual 158, 3) := by decide +kernel
theorem dL_law_1186 : decode cL_law 1186 = .ok (.istore 6, 2) := by decide +kernel
theorem dL_law_1188 : decode cL_law 1188 = .ok (.aload_n 2, 1) := by decide +kernel
theorem dL_law_1189 : decode cL_law 1189 = .ok (.invokevirtual 108, 3) := by decide +kernel
theorem dL_law_1192 : decode cL_law 1192 = .ok (.iload 5, 2) := by decide +kernel
theorem dL_law_1194 : decode cL_law 1194 = .ok (.if_icmp .eq 5, 3) := by decide +kernel
theorem dL_law_1197 : decode cL_law 1197 = .ok (.iconst 0, 1) := by decide +kernel
theorem dL_law_1198 : decode cL_law 1198 = .ok (.ireturn, 1) := by decide +kernel
theorem dL_law_1199 : decode cL_law 1199 = .ok (.iload 5, 2) := by decide +kernel
theorem dL_law_1201 : decode cL_law 1201 = .ok (.ifCond .ne 22, 3) := by decide +kernel
theorem dL_law_1204 : decode cL_law 1204 = .ok (.aload_n 3, 1) := by decide +kernel
theorem dL_law_1205 : decode cL_law 1205 = .ok (.iconst 0, 1) := by decide +kernel
theorem dL_law_1206 : decode cL_law 1206 = .ok (.laload, 1) := by decide +kernel
theorem dL_law_1207 : decode cL_law 1207 = .ok (.iload 6, 2) := by decide +kernel
theorem dL_law_1209 : decode cL_law 1209 = .ok (.ifCond .eq 7, 3) := by decide +kernel
theorem dL_law_1212 : decode cL_law 1212 = .ok (.lconst 1, 1) := by decide +kernel
theorem dL_law_1213 : decode cL_law 1213 = .ok (.goto 4, 3) := by decide +kernel
theorem dL_law_1216 : decode cL_law 1216 = .ok (.lconst 0, 1) := by decide +kernel
theorem dL_law_1217 : decode cL_law 1217 = .ok (.lcmp, 1) := by decide +kernel
theorem dL_law_1218 : decode cL_law 1218 = .ok (.ifCond .eq 5, 3) := by decide +kernel
theorem dL_law_1221 : decode cL_law 1221 = .ok (.iconst 0, 1) := by decide +kernel
theorem dL_law_1222 : decode cL_law 1222 = .ok (.ireturn, 1) := by decide +kernel
theorem dL_law_1223 : decode cL_law 1223 = .ok (.goto 703, 3) := by decide +kernel
theorem dL_law_1226 : decode cL_law 1226 = .ok (.aload_n 1, 1) := by decide +kernel
theorem dL_law_1227 : decode cL_law 1227 = .ok (.aload_n 0, 1) := by decide +kernel
theorem dL_law_1228 : decode cL_law 1228 = .ok (.iload 4, 2) := by decide +kernel
theorem dL_law_1230 : decode cL_law 1230 = .ok (.iconst 1, 1) := by decide +kernel
theorem dL_law_1231 : decode cL_law 1231 = .ok (.iadd, 1) := by decide +kernel
theorem dL_law_1232 : decode cL_law 1232 = .ok (.iaload, 1) := by decide +kernel
theorem dL_law_1233 : decode cL_law 1233 = .ok (.aload_n 0, 1) := by decide +kernel
theorem dL_law_1234 : decode cL_law 1234 = .ok (.iload 4, 2) := by decide +kernel
theorem dL_law_1236 : decode cL_law 1236 = .ok (.iconst 2, 1) := by decide +kernel
theorem dL_law_1237 : decode cL_law 1237 = .ok (.iadd, 1) := by decide +kernel
theorem dL_law_1238 : decode cL_law 1238 = .ok (.iaload, 1) := by decide +kernel
theorem dL_law_1239 : decode cL_law 1239 = .ok (.aload_n 3, 1) := by decide +kernel
theorem dL_law_1240 : decode cL_law 1240 = .ok (.invokestatic 159, 3) := by decide +kernel
theorem dL_law_1243 : decode cL_law 1243 = .ok (.istore 5, 2) := by decide +kernel
theorem dL_law_1245 : decode cL_law 1245 = .ok (.aload_n 2, 1) := by decide +kernel
theorem dL_law_1246 : decode cL_law 1246 = .ok (.aload_n 0, 1) := by decide +kernel
theorem dL_law_1247 : decode cL_law 1247 = .ok (.iload 4, 2) := by decide +kernel
theorem dL_law_1249 : decode cL_law 1249 = .ok (.iconst 1, 1) := by decide +kernel
theorem dL_law_1250 : decode cL_law 1250 = .ok (.iadd, 1) := by decide +kernel
theorem dL_law_1251 : decode cL_law 1251 = .ok (.iaload, 1) := by decide +kernel
theorem dL_law_1252 : decode cL_law 1252 = .ok (.aload_n 0, 1) := by decide +kernel
theorem dL_law_1253 : decode cL_law 1253 = .ok (.iload 4, 2) := by decide +kernel
theorem dL_law_1255 : decode cL_law 1255 = .ok (.iconst 2, 1) := by decide +kernel
theorem dL_law_1256 : decode cL_law 1256 = .ok (.iadd, 1) := by decide +kernel
theorem dL_law_1257 : decode cL_law 1257 = .ok (.iaload, 1) := by decide +kernel
theorem dL_law_1258 : decode cL_law 1258 = .ok (.invokevirtual 161, 3) := by decide +kernel
theorem dL_law_1261 : decode cL_law 1261 = .ok (.istore 6, 2) := by decide +kernel
theorem dL_law_1263 : decode cL_law 1263 = .ok (.aload_n 2, 1) := by decide +kernel
theorem dL_law_1264 : decode cL_law 1264 = .ok (.invokevirtual 108, 3) := by decide +kernel
theorem dL_law_1267 : decode cL_law 1267 = .ok (.iload 5, 2) := by decide +kernel
theorem dL_law_1269 : decode cL_law 1269 = .ok (.if_icmp .eq 5, 3) := by decide +kernel
theorem dL_law_1272 : decode cL_law 1272 = .ok (.iconst 0, 1) := by decide +kernel
theorem dL_law_1273 : decode cL_law 1273 = .ok (.ireturn, 1) := by decide +kernel
theorem dL_law_1274 : decode cL_law 1274 = .ok (.iload 5, 2) := by decide +kernel
theorem dL_law_1276 : decode cL_law 1276 = .ok (.ifCond .ne 15, 3) := by decide +kernel
theorem dL_law_1279 : decode cL_law 1279 = .ok (.aload_n 3, 1) := by decide +kernel
theorem dL_law_1280 : decode cL_law 1280 = .ok (.iconst 0, 1) := by decide +kernel
theorem dL_law_1281 : decode cL_law 1281 = .ok (.laload, 1) := by decide +kernel
theorem dL_law_1282 : decode cL_law 1282 = .ok (.iload 6, 2) := by decide +kernel
theorem dL_law_1284 : decode cL_law 1284 = .ok (.i2l, 1) := by decide +kernel
theorem dL_law_1285 : decode cL_law 1285 = .ok (.lcmp, 1) := by decide +kernel
theorem dL_law_1286 : decode cL_law 1286 = .ok (.ifCond .eq 5, 3) := by decide +kernel
theorem dL_law_1289 : decode cL_law 1289 = .ok (.iconst 0, 1) := by decide +kernel
theorem dL_law_1290 : decode cL_law 1290 = .ok (.ireturn, 1) := by decide +kernel
theorem dL_law_1291 : decode cL_law 1291 = .ok (.goto 635, 3) := by decide +kernel
theorem dL_law_1294 : decode cL_law 1294 = .ok (.aload_n 1, 1) := by decide +kernel
theorem dL_law_1295 : decode cL_law 1295 = .ok (.aload_n 0, 1) := by decide +kernel
theorem dL_law_1296 : decode cL_law 1296 = .ok (.iload 4, 2) := by decide +kernel
theorem dL_law_1298 : decode cL_law 1298 = .ok (.iconst 1, 1) := by decide +kernel
theorem dL_law_1299 : decode cL_law 1299 = .ok (.iadd, 1) := by decide +kernel
theorem dL_law_1300 : decode cL_law 1300 = .ok (.iaload, 1) := by decide +kernel
theorem dL_law_1301 : decode cL_law 1301 = .ok (.aload_n 0, 1) := by decide +kernel
theorem dL_law_1302 : decode cL_law 1302 = .ok (.iload 4, 2) := by decide +kernel
theorem dL_law_1304 : decode cL_law 1304 = .ok (.iconst 2, 1) := by decide +kernel
theorem dL_law_1305 : decode cL_law 1305 = .ok (.iadd, 1) := by decide +kernel
theorem dL_law_1306 : decode cL_law 1306 = .ok (.iaload, 1) := by decide +kernel
theorem dL_law_1307 : decode cL_law 1307 = .ok (.aload_n 0, 1) := by decide +kernel
theorem dL_law_1308 : decode cL_law 1308 = .ok (.iload 4, 2) := by decide +kernel
theorem dL_law_1310 : decode cL_law 1310 = .ok (.iconst 3, 1) := by decide +kernel
theorem dL_law_1311 : decode cL_law 1311 = .ok (.iadd, 1) := by decide +kernel
theorem dL_law_1312 : decode cL_law 1312 = .ok (.iaload, 1) := by decide +kernel
theorem dL_law_1313 : decode cL_law 1313 = .ok (.ifCond .eq 7, 3) := by decide +kernel
theorem dL_law_1316 : decode cL_law 1316 = .ok (.iconst 1, 1) := by decide +kernel
theorem dL_law_1317 : decode cL_law 1317 = .ok (.goto 4, 3) := by decide +kernel
theorem dL_law_1320 : decode cL_law 1320 = .ok (.iconst 0, 1) := by decide +kernel
theorem dL_law_1321 : decode cL_law 1321 = .ok (.invokestatic 162, 3) := by decide +kernel
theorem dL_law_1324 : decode cL_law 1324 = .ok (.istore 5, 2) := by decide +kernel
theorem dL_law_1326 : decode cL_law 1326 = .ok (.aload_n 2, 1) := by decide +kernel
theorem dL_law_1327 : decode cL_law 1327 = .ok (.aload_n 0, 1) := by decide +kernel
theorem dL_law_1328 : decode cL_law 1328 = .ok (.iload 4, 2) := by decide +kernel
theorem dL_law_1330 : decode cL_law 1330 = .ok (.iconst 1, 1) := by decide +kernel
theorem dL_law_1331 : decode cL_law 1331 = .ok (.iadd, 1) := by decide +kernel
theorem dL_law_1332 : decode cL_law 1332 = .ok (.iaload, 1) := by decide +kernel
theorem dL_law_1333 : decode cL_law 1333 = .ok (.aload_n 0, 1) := by decide +kernel
theorem dL_law_1334 : decode cL_law 1334 = .ok (.iload 4, 2) := by decide +kernel
theorem dL_law_1336 : decode cL_law 1336 = .ok (.iconst 2, 1) := by decide +kernel
theorem dL_law_1337 : decode cL_law 1337 = .ok (.iadd, 1) := by decide +kernel
theorem dL_law_1338 : decode cL_law 1338 = .ok (.iaload, 1) := by decide +kernel
theorem dL_law_1339 : decode cL_law 1339 = .ok (.aload_n 0, 1) := by decide +kernel
theorem dL_law_1340 : decode cL_law 1340 = .ok (.iload 4, 2) := by decide +kernel
theorem dL_law_1342 : decode cL_law 1342 = .ok (.iconst 3, 1) := by decide +kernel
theorem dL_law_1343 : decode cL_law 1343 = .ok (.iadd, 1) := by decide +kernel
theorem dL_law_1344 : decode cL_law 1344 = .ok (.iaload, 1) := by decide +kernel
theorem dL_law_1345 : decode cL_law 1345 = .ok (.ifCond .eq 7, 3) := by decide +kernel
theorem dL_law_1348 : decode cL_law 1348 = .ok (.iconst 1, 1) := by decide +kernel
theorem dL_law_1349 : decode cL_law 1349 = .ok (.goto 4, 3) := by decide +kernel
theorem dL_law_1352 : decode cL_law 1352 = .ok (.iconst 0, 1) := by decide +kernel
theorem dL_law_1353 : decode cL_law 1353 = .ok (.invokevirtual 165, 3) := by decide +kernel
theorem dL_law_1356 : decode cL_law 1356 = .ok (.aload_n 2, 1) := by decide +kernel
theorem dL_law_1357 : decode cL_law 1357 = .ok (.invokevirtual 108, 3) := by decide +kernel
theorem dL_law_1360 : decode cL_law 1360 = .ok (.iload 5, 2) := by decide +kernel
theorem dL_law_1362 : decode cL_law 1362 = .ok (.if_icmp .eq 5, 3) := by decide +kernel
theorem dL_law_1365 : decode cL_law 1365 = .ok (.iconst 0, 1) := by decide +kernel
theorem dL_law_1366 : decode cL_law 1366 = .ok (.ireturn, 1) := by decide +kernel
theorem dL_law_1367 : decode cL_law 1367 = .ok (.goto 559, 3) := by decide +kernel
theorem dL_law_1370 : decode cL_law 1370 = .ok (.aload_n 1, 1) := by decide +kernel
theorem dL_law_1371 : decode cL_law 1371 = .ok (.aload_n 0, 1) := by decide +kernel
theorem dL_law_1372 : decode cL_law 1372 = .ok (.iload 4, 2) := by decide +kernel
theorem dL_law_1374 : decode cL_law 1374 = .ok (.iconst 1, 1) := by decide +kernel
theorem dL_law_1375 : decode cL_law 1375 = .ok (.iadd, 1) := by decide +kernel
theorem dL_law_1376 : decode cL_law 1376 = .ok (.iaload, 1) := by decide +kernel
theorem dL_law_1377 : decode cL_law 1377 = .ok (.aload_n 0, 1) := by decide +kernel
theorem dL_law_1378 : decode cL_law 1378 = .ok (.iload 4, 2) := by decide +kernel
theorem dL_law_1380 : decode cL_law 1380 = .ok (.iconst 2, 1) := by decide +kernel
theorem dL_law_1381 : decode cL_law 1381 = .ok (.iadd, 1) := by decide +kernel
theorem dL_law_1382 : decode cL_law 1382 = .ok (.iaload, 1) := by decide +kernel
theorem dL_law_1383 : decode cL_law 1383 = .ok (.aload_n 0, 1) := by decide +kernel
theorem dL_law_1384 : decode cL_law 1384 = .ok (.iload 4, 2) := by decide +kernel
theorem dL_law_1386 : decode cL_law 1386 = .ok (.iconst 3, 1) := by decide +kernel
theorem dL_law_1387 : decode cL_law 1387 = .ok (.iadd, 1) := by decide +kernel
theorem dL_law_1388 : decode cL_law 1388 = .ok (.iaload, 1) := by decide +kernel
theorem dL_law_1389 : decode cL_law 1389 = .ok (.aload_n 3, 1) := by decide +kernel
theorem dL_law_1390 : decode cL_law 1390 = .ok (.invokestatic 166, 3) := by decide +kernel
theorem dL_law_1393 : decode cL_law 1393 = .ok (.istore 5, 2) := by decide +kernel
theorem dL_law_1395 : decode cL_law 1395 = .ok (.aload_n 2, 1) := by decide +kernel
theorem dL_law_1396 : decode cL_law 1396 = .ok (.aload_n 0, 1) := by decide +kernel
theorem dL_law_1397 : decode cL_law 1397 = .ok (.iload 4, 2) := by decide +kernel
theorem dL_law_1399 : decode cL_law 1399 = .ok (.iconst 1, 1) := by decide +kernel
theorem dL_law_1400 : decode cL_law 1400 = .ok (.iadd, 1) := by decide +kernel
theorem dL_law_1401 : decode cL_law 1401 = .ok (.iaload, 1) := by decide +kernel
theorem dL_law_1402 : decode cL_law 1402 = .ok (.aload_n 0, 1) := by decide +kernel
theorem dL_law_1403 : decode cL_law 1403 = .ok (.iload 4, 2) := by decide +kernel
theorem dL_law_1405 : decode cL_law 1405 = .ok (.iconst 2, 1) := by decide +kernel
theorem dL_law_1406 : decode cL_law 1406 = .ok (.iadd, 1) := by decide +kernel
theorem dL_law_1407 : decode cL_law 1407 = .ok (.iaload, 1) := by decide +kernel
theorem dL_law_1408 : decode cL_law 1408 = .ok (.aload_n 0, 1) := by decide +kernel
theorem dL_law_1409 : decode cL_law 1409 = .ok (.iload 4, 2) := by decide +kernel
theorem dL_law_1411 : decode cL_law 1411 = .ok (.iconst 3, 1) := by decide +kernel
theorem dL_law_1412 : decode cL_law 1412 = .ok (.iadd, 1) := by decide +kernel
theorem dL_law_1413 : decode cL_law 1413 = .ok (.iaload, 1) := by decide +kernel
theorem dL_law_1414 : decode cL_law 1414 = .ok (.invokevirtual 168, 3) := by decide +kernel
theorem dL_law_1417 : decode cL_law 1417 = .ok (.istore 6, 2) := by decide +kernel
theorem dL_law_1419 : decode cL_law 1419 = .ok (.aload_n 2, 1) := by decide +kernel
theorem dL_law_1420 : decode cL_law 1420 = .ok (.invokevirtual 108, 3) := by decide +kernel
theorem dL_law_1423 : decode cL_law 1423 = .ok (.iload 5, 2) := by decide +kernel
theorem dL_law_1425 : decode cL_law 1425 = .ok (.if_icmp .eq 5, 3) := by decide +kernel
theorem dL_law_1428 : decode cL_law 1428 = .ok (.iconst 0, 1) := by decide +kernel
theorem dL_law_1429 : decode cL_law 1429 = .ok (.ireturn, 1) := by decide +kernel
theorem dL_law_1430 : decode cL_law 1430 = .ok (.iload 5, 2) := by decide +kernel
theorem dL_law_1432 : decode cL_law 1432 = .ok (.ifCond .ne 15, 3) := by decide +kernel
theorem dL_law_1435 : decode cL_law 1435 = .ok (.aload_n 3, 1) := by decide +kernel
theorem dL_law_1436 : decode cL_law 1436 = .ok (.iconst 0, 1) := by decide +kernel
theorem dL_law_1437 : decode cL_law 1437 = .ok (.laload, 1) := by decide +kernel
theorem dL_law_1438 : decode cL_law 1438 = .ok (.iload 6, 2) := by decide +kernel
theorem dL_law_1440 : decode cL_law 1440 = .ok (.i2l, 1) := by decide +kernel
theorem dL_law_1441 : decode cL_law 1441 = .ok (.lcmp, 1) := by decide +kernel
theorem dL_law_1442 : decode cL_law 1442 = .ok (.ifCond .eq 5, 3) := by decide +kernel
theorem dL_law_1445 : decode cL_law 1445 = .ok (.iconst 0, 1) := by decide +kernel
theorem dL_law_1446 : decode cL_law 1446 = .ok (.ireturn, 1) := by decide +kernel
theorem dL_law_1447 : decode cL_law 1447 = .ok (.goto 479, 3) := by decide +kernel
theorem dL_law_1450 : decode cL_law 1450 = .ok (.aload_n 1, 1) := by decide +kernel
theorem dL_law_1451 : decode cL_law 1451 = .ok (.aload_n 0, 1) := by decide +kernel
theorem dL_law_1452 : decode cL_law 1452 = .ok (.iload 4, 2) := by decide +kernel
theorem dL_law_1454 : decode cL_law 1454 = .ok (.iconst 1, 1) := by decide +kernel
theorem dL_law_1455 : decode cL_law 1455 = .ok (.iadd, 1) := by decide +kernel
theorem dL_law_1456 : decode cL_law 1456 = .ok (.iaload, 1) := by decide +kernel
theorem dL_law_1457 : decode cL_law 1457 = .ok (.aload_n 3, 1) := by decide +kernel
theorem dL_law_1458 : decode cL_law 1458 = .ok (.invokestatic 169, 3) := by decide +kernel
theorem dL_law_1461 : decode cL_law 1461 = .ok (.istore 5, 2) := by decide +kernel
theorem dL_law_1463 : decode cL_law 1463 = .ok (.aload_n 2, 1) := by decide +kernel
theorem dL_law_1464 : decode cL_law 1464 = .ok (.aload_n 0, 1) := by decide +kernel
theorem dL_law_1465 : decode cL_law 1465 = .ok (.iload 4, 2) := by decide +kernel
theorem dL_law_1467 : decode cL_law 1467 = .ok (.iconst 1, 1) := by decide +kernel
theorem dL_law_1468 : decode cL_law 1468 = .ok (.iadd, 1) := by decide +kernel
theorem dL_law_1469 : decode cL_law 1469 = .ok (.iaload, 1) := by decide +kernel
theorem dL_law_1470 : decode cL_law 1470 = .ok (.invokevirtual 171, 3) := by decide +kernel
theorem dL_law_1473 : decode cL_law 1473 = .ok (.istore 6, 2) := by decide +kernel
theorem dL_law_1475 : decode cL_law 1475 = .ok (.aload_n 2, 1) := by decide +kernel
theorem dL_law_1476 : decode cL_law 1476 = .ok (.invokevirtual 108, 3) := by decide +kernel
theorem dL_law_1479 : decode cL_law 1479 = .ok (.iload 5, 2) := by decide +kernel
theorem dL_law_1481 : decode cL_law 1481 = .ok (.if_icmp .eq 5, 3) := by decide +kernel
theorem dL_law_1484 : decode cL_law 1484 = .ok (.iconst 0, 1) := by decide +kernel
theorem dL_law_1485 : decode cL_law 1485 = .ok (.ireturn, 1) := by decide +kernel
theorem dL_law_1486 : decode cL_law 1486 = .ok (.iload 5, 2) := by decide +kernel
theorem dL_law_1488 : decode cL_law 1488 = .ok (.ifCond .ne 15, 3) := by decide +kernel
theorem dL_law_1491 : decode cL_law 1491 = .ok (.aload_n 3, 1) := by decide +kernel
theorem dL_law_1492 : decode cL_law 1492 = .ok (.iconst 0, 1) := by decide +kernel
theorem dL_law_1493 : decode cL_law 1493 = .ok (.laload, 1) := by decide +kernel
theorem dL_law_1494 : decode cL_law 1494 = .ok (.iload 6, 2) := by decide +kernel
theorem dL_law_1496 : decode cL_law 1496 = .ok (.i2l, 1) := by decide +kernel
theorem dL_law_1497 : decode cL_law 1497 = .ok (.lcmp, 1) := by decide +kernel
theorem dL_law_1498 : decode cL_law 1498 = .ok (.ifCond .eq 5, 3) := by decide +kernel
theorem dL_law_1501 : decode cL_law 1501 = .ok (.iconst 0, 1) := by decide +kernel
theorem dL_law_1502 : decode cL_law 1502 = .ok (.ireturn, 1) := by decide +kernel
theorem dL_law_1503 : decode cL_law 1503 = .ok (.goto 423, 3) := by decide +kernel
theorem dL_law_1506 : decode cL_law 1506 = .ok (.aload_n 1, 1) := by decide +kernel
theorem dL_law_1507 : decode cL_law 1507 = .ok (.aload_n 0, 1) := by decide +kernel
theorem dL_law_1508 : decode cL_law 1508 = .ok (.iload 4, 2) := by decide +kernel
theorem dL_law_1510 : decode cL_law 1510 = .ok (.iconst 1, 1) := by decide +kernel
theorem dL_law_1511 : decode cL_law 1511 = .ok (.iadd, 1) := by decide +kernel
theorem dL_law_1512 : decode cL_law 1512 = .ok (.iaload, 1) := by decide +kernel
theorem dL_law_1513 : decode cL_law 1513 = .ok (.aload_n 0, 1) := by decide +kernel
theorem dL_law_1514 : decode cL_law 1514 = .ok (.iload 4, 2) := by decide +kernel
theorem dL_law_1516 : decode cL_law 1516 = .ok (.iconst 2, 1) := by decide +kernel
theorem dL_law_1517 : decode cL_law 1517 = .ok (.iadd, 1) := by decide +kernel
theorem dL_law_1518 : decode cL_law 1518 = .ok (.iaload, 1) := by decide +kernel
theorem dL_law_1519 : decode cL_law 1519 = .ok (.aload_n 3, 1) := by decide +kernel
theorem dL_law_1520 : decode cL_law 1520 = .ok (.invokestatic 172, 3) := by decide +kernel
theorem dL_law_1523 : decode cL_law 1523 = .ok (.istore 5, 2) := by decide +kernel
theorem dL_law_1525 : decode cL_law 1525 = .ok (.aload_n 2, 1) := by decide +kernel
theorem dL_law_1526 : decode cL_law 1526 = .ok (.aload_n 0, 1) := by decide +kernel
theorem dL_law_1527 : decode cL_law 1527 = .ok (.iload 4, 2) := by decide +kernel
theorem dL_law_1529 : decode cL_law 1529 = .ok (.iconst 1, 1) := by decide +kernel
theorem dL_law_1530 : decode cL_law 1530 = .ok (.iadd, 1) := by decide +kernel
theorem dL_law_1531 : decode cL_law 1531 = .ok (.iaload, 1) := by decide +kernel
theorem dL_law_1532 : decode cL_law 1532 = .ok (.aload_n 0, 1) := by decide +kernel
theorem dL_law_1533 : decode cL_law 1533 = .ok (.iload 4, 2) := by decide +kernel
theorem dL_law_1535 : decode cL_law 1535 = .ok (.iconst 2, 1) := by decide +kernel
theorem dL_law_1536 : decode cL_law 1536 = .ok (.iadd, 1) := by decide +kernel
theorem dL_law_1537 : decode cL_law 1537 = .ok (.iaload, 1) := by decide +kernel
theorem dL_law_1538 : decode cL_law 1538 = .ok (.invokevirtual 174, 3) := by decide +kernel
theorem dL_law_1541 : decode cL_law 1541 = .ok (.istore 6, 2) := by decide +kernel
theorem dL_law_1543 : decode cL_law 1543 = .ok (.aload_n 2, 1) := by decide +kernel
theorem dL_law_1544 : decode cL_law 1544 = .ok (.invokevirtual 108, 3) := by decide +kernel
theorem dL_law_1547 : decode cL_law 1547 = .ok (.iload 5, 2) := by decide +kernel
theorem dL_law_1549 : decode cL_law 1549 = .ok (.if_icmp .eq 5, 3) := by decide +kernel
theorem dL_law_1552 : decode cL_law 1552 = .ok (.iconst 0, 1) := by decide +kernel
theorem dL_law_1553 : decode cL_law 1553 = .ok (.ireturn, 1) := by decide +kernel
theorem dL_law_1554 : decode cL_law 1554 = .ok (.iload 5, 2) := by decide +kernel
theorem dL_law_1556 : decode cL_law 1556 = .ok (.ifCond .ne 15, 3) := by decide +kernel
theorem dL_law_1559 : decode cL_law 1559 = .ok (.aload_n 3, 1) := by decide +kernel
theorem dL_law_1560 : decode cL_law 1560 = .ok (.iconst 0, 1) := by decide +kernel
theorem dL_law_1561 : decode cL_law 1561 = .ok (.laload, 1) := by decide +kernel
theorem dL_law_1562 : decode cL_law 1562 = .ok (.iload 6, 2) := by decide +kernel
theorem dL_law_1564 : decode cL_law 1564 = .ok (.i2l, 1) := by decide +kernel
theorem dL_law_1565 : decode cL_law 1565 = .ok (.lcmp, 1) := by decide +kernel
theorem dL_law_1566 : decode cL_law 1566 = .ok (.ifCond .eq 5, 3) := by decide +kernel
theorem dL_law_1569 : decode cL_law 1569 = .ok (.iconst 0, 1) := by decide +kernel
theorem dL_law_1570 : decode cL_law 1570 = .ok (.ireturn, 1) := by decide +kernel
theorem dL_law_1571 : decode cL_law 1571 = .ok (.goto 355, 3) := by decide +kernel
theorem dL_law_1574 : decode cL_law 1574 = .ok (.aload_n 1, 1) := by decide +kernel
theorem dL_law_1575 : decode cL_law 1575 = .ok (.aload_n 0, 1) := by decide +kernel
theorem dL_law_1576 : decode cL_law 1576 = .ok (.iload 4, 2) := by decide +kernel
theorem dL_law_1578 : decode cL_law 1578 = .ok (.iconst 1, 1) := by decide +kernel
theorem dL_law_1579 : decode cL_law 1579 = .ok (.iadd, 1) := by decide +kernel
theorem dL_law_1580 : decode cL_law 1580 = .ok (.iaload, 1) := by decide +kernel
theorem dL_law_1581 : decode cL_law 1581 = .ok (.aload_n 0, 1) := by decide +kernel
theorem dL_law_1582 : decode cL_law 1582 = .ok (.iload 4, 2) := by decide +kernel
theorem dL_law_1584 : decode cL_law 1584 = .ok (.iconst 2, 1) := by decide +kernel
theorem dL_law_1585 : decode cL_law 1585 = .ok (.iadd, 1) := by decide +kernel
theorem dL_law_1586 : decode cL_law 1586 = .ok (.iaload, 1) := by decide +kernel
theorem dL_law_1587 : decode cL_law 1587 = .ok (.aload_n 0, 1) := by decide +kernel
theorem dL_law_1588 : decode cL_law 1588 = .ok (.iload 4, 2) := by decide +kernel
theorem dL_law_1590 : decode cL_law 1590 = .ok (.iconst 3, 1) := by decide +kernel
theorem dL_law_1591 : decode cL_law 1591 = .ok (.iadd, 1) := by decide +kernel
theorem dL_law_1592 : decode cL_law 1592 = .ok (.iaload, 1) := by decide +kernel
theorem dL_law_1593 : decode cL_law 1593 = .ok (.aload_n 3, 1) := by decide +kernel
theorem dL_law_1594 : decode cL_law 1594 = .ok (.invokestatic 175, 3) := by decide +kernel
theorem dL_law_1597 : decode cL_law 1597 = .ok (.istore 5, 2) := by decide +kernel
theorem dL_law_1599 : decode cL_law 1599 = .ok (.aload_n 2, 1) := by decide +kernel
theorem dL_law_1600 : decode cL_law 1600 = .ok (.aload_n 0, 1) := by decide +kernel
theorem dL_law_1601 : decode cL_law 1601 = .ok (.iload 4, 2) := by decide +kernel
theorem dL_law_1603 : decode cL_law 1603 = .ok (.iconst 1, 1) := by decide +kernel
theorem dL_law_1604 : decode cL_law 1604 = .ok (.iadd, 1) := by decide +kernel
theorem dL_law_1605 : decode cL_law 1605 = .ok (.iaload, 1) := by decide +kernel
theorem dL_law_1606 : decode cL_law 1606 = .ok (.aload_n 0, 1) := by decide +kernel
theorem dL_law_1607 : decode cL_law 1607 = .ok (.iload 4, 2) := by decide +kernel
theorem dL_law_1609 : decode cL_law 1609 = .ok (.iconst 2, 1) := by decide +kernel
theorem dL_law_1610 : decode cL_law 1610 = .ok (.iadd, 1) := by decide +kernel
theorem dL_law_1611 : decode cL_law 1611 = .ok (.iaload, 1) := by decide +kernel
theorem dL_law_1612 : decode cL_law 1612 = .ok (.aload_n 0, 1) := by decide +kernel
theorem dL_law_1613 : decode cL_law 1613 = .ok (.iload 4, 2) := by decide +kernel
theorem dL_law_1615 : decode cL_law 1615 = .ok (.iconst 3, 1) := by decide +kernel
theorem dL_law_1616 : decode cL_law 1616 = .ok (.iadd, 1) := by decide +kernel
theorem dL_law_1617 : decode cL_law 1617 = .ok (.iaload, 1) := by decide +kernel
theorem dL_law_1618 : decode cL_law 1618 = .ok (.invokevirtual 177, 3) := by decide +kernel
theorem dL_law_1621 : decode cL_law 1621 = .ok (.istore 6, 2) := by decide +kernel
theorem dL_law_1623 : decode cL_law 1623 = .ok (.aload_n 2, 1) := by decide +kernel
theorem dL_law_1624 : decode cL_law 1624 = .ok (.invokevirtual 108, 3) := by decide +kernel
theorem dL_law_1627 : decode cL_law 1627 = .ok (.iload 5, 2) := by decide +kernel
theorem dL_law_1629 : decode cL_law 1629 = .ok (.if_icmp .eq 5, 3) := by decide +kernel
theorem dL_law_1632 : decode cL_law 1632 = .ok (.iconst 0, 1) := by decide +kernel
theorem dL_law_1633 : decode cL_law 1633 = .ok (.ireturn, 1) := by decide +kernel
theorem dL_law_1634 : decode cL_law 1634 = .ok (.iload 5, 2) := by decide +kernel
theorem dL_law_1636 : decode cL_law 1636 = .ok (.ifCond .ne 15, 3) := by decide +kernel
theorem dL_law_1639 : decode cL_law 1639 = .ok (.aload_n 3, 1) := by decide +kernel
theorem dL_law_1640 : decode cL_law 1640 = .ok (.iconst 0, 1) := by decide +kernel
theorem dL_law_1641 : decode cL_law 1641 = .ok (.laload, 1) := by decide +kernel
theorem dL_law_1642 : decode cL_law 1642 = .ok (.iload 6, 2) := by decide +kernel
theorem dL_law_1644 : decode cL_law 1644 = .ok (.i2l, 1) := by decide +kernel
theorem dL_law_1645 : decode cL_law 1645 = .ok (.lcmp, 1) := by decide +kernel
theorem dL_law_1646 : decode cL_law 1646 = .ok (.ifCond .eq 5, 3) := by decide +kernel
theorem dL_law_1649 : decode cL_law 1649 = .ok (.iconst 0, 1) := by decide +kernel
theorem dL_law_1650 : decode cL_law 1650 = .ok (.ireturn, 1) := by decide +kernel
theorem dL_law_1651 : decode cL_law 1651 = .ok (.goto 275, 3) := by decide +kernel
theorem dL_law_1654 : decode cL_law 1654 = .ok (.aload_n 1, 1) := by decide +kernel
theorem dL_law_1655 : decode cL_law 1655 = .ok (.aload_n 0, 1) := by decide +kernel
theorem dL_law_1656 : decode cL_law 1656 = .ok (.iload 4, 2) := by decide +kernel
theorem dL_law_1658 : decode cL_law 1658 = .ok (.iconst 1, 1) := by decide +kernel
theorem dL_law_1659 : decode cL_law 1659 = .ok (.iadd, 1) := by decide +kernel
theorem dL_law_1660 : decode cL_law 1660 = .ok (.iaload, 1) := by decide +kernel
theorem dL_law_1661 : decode cL_law 1661 = .ok (.aload_n 0, 1) := by decide +kernel
theorem dL_law_1662 : decode cL_law 1662 = .ok (.iload 4, 2) := by decide +kernel
theorem dL_law_1664 : decode cL_law 1664 = .ok (.iconst 2, 1) := by decide +kernel
theorem dL_law_1665 : decode cL_law 1665 = .ok (.iadd, 1) := by decide +kernel
theorem dL_law_1666 : decode cL_law 1666 = .ok (.iaload, 1) := by decide +kernel
theorem dL_law_1667 : decode cL_law 1667 = .ok (.aload_n 3, 1) := by decide +kernel
theorem dL_law_1668 : decode cL_law 1668 = .ok (.invokestatic 178, 3) := by decide +kernel
theorem dL_law_1671 : decode cL_law 1671 = .ok (.istore 5, 2) := by decide +kernel
theorem dL_law_1673 : decode cL_law 1673 = .ok (.aload_n 2, 1) := by decide +kernel
theorem dL_law_1674 : decode cL_law 1674 = .ok (.aload_n 0, 1) := by decide +kernel
theorem dL_law_1675 : decode cL_law 1675 = .ok (.iload 4, 2) := by decide +kernel
theorem dL_law_1677 : decode cL_law 1677 = .ok (.iconst 1, 1) := by decide +kernel
theorem dL_law_1678 : decode cL_law 1678 = .ok (.iadd, 1) := by decide +kernel
theorem dL_law_1679 : decode cL_law 1679 = .ok (.iaload, 1) := by decide +kernel
theorem dL_law_1680 : decode cL_law 1680 = .ok (.aload_n 0, 1) := by decide +kernel
theorem dL_law_1681 : decode cL_law 1681 = .ok (.iload 4, 2) := by decide +kernel
theorem dL_law_1683 : decode cL_law 1683 = .ok (.iconst 2, 1) := by decide +kernel
theorem dL_law_1684 : decode cL_law 1684 = .ok (.iadd, 1) := by decide +kernel
theorem dL_law_1685 : decode cL_law 1685 = .ok (.iaload, 1) := by decide +kernel
theorem dL_law_1686 : decode cL_law 1686 = .ok (.invokevirtual 180, 3) := by decide +kernel
theorem dL_law_1689 : decode cL_law 1689 = .ok (.istore 6, 2) := by decide +kernel
theorem dL_law_1691 : decode cL_law 1691 = .ok (.aload_n 2, 1) := by decide +kernel
theorem dL_law_1692 : decode cL_law 1692 = .ok (.invokevirtual 108, 3) := by decide +kernel
theorem dL_law_1695 : decode cL_law 1695 = .ok (.iload 5, 2) := by decide +kernel
theorem dL_law_1697 : decode cL_law 1697 = .ok (.if_icmp .eq 5, 3) := by decide +kernel
theorem dL_law_1700 : decode cL_law 1700 = .ok (.iconst 0, 1) := by decide +kernel
theorem dL_law_1701 : decode cL_law 1701 = .ok (.ireturn, 1) := by decide +kernel
theorem dL_law_1702 : decode cL_law 1702 = .ok (.iload 5, 2) := by decide +kernel
theorem dL_law_1704 : decode cL_law 1704 = .ok (.ifCond .ne 15, 3) := by decide +kernel
theorem dL_law_1707 : decode cL_law 1707 = .ok (.aload_n 3, 1) := by decide +kernel
theorem dL_law_1708 : decode cL_law 1708 = .ok (.iconst 0, 1) := by decide +kernel
theorem dL_law_1709 : decode cL_law 1709 = .ok (.laload, 1) := by decide +kernel
theorem dL_law_1710 : decode cL_law 1710 = .ok (.iload 6, 2) := by decide +kernel
theorem dL_law_1712 : decode cL_law 1712 = .ok (.i2l, 1) := by decide +kernel
theorem dL_law_1713 : decode cL_law 1713 = .ok (.lcmp, 1) := by decide +kernel
theorem dL_law_1714 : decode cL_law 1714 = .ok (.ifCond .eq 5, 3) := by decide +kernel
theorem dL_law_1717 : decode cL_law 1717 = .ok (.iconst 0, 1) := by decide +kernel
theorem dL_law_1718 : decode cL_law 1718 = .ok (.ireturn, 1) := by decide +kernel
theorem dL_law_1719 : decode cL_law 1719 = .ok (.goto 207, 3) := by decide +kernel
theorem dL_law_1722 : decode cL_law 1722 = .ok (.aload_n 1, 1) := by decide +kernel
theorem dL_law_1723 : decode cL_law 1723 = .ok (.aload_n 0, 1) := by decide +kernel
theorem dL_law_1724 : decode cL_law 1724 = .ok (.iload 4, 2) := by decide +kernel
theorem dL_law_1726 : decode cL_law 1726 = .ok (.iconst 1, 1) := by decide +kernel
theorem dL_law_1727 : decode cL_law 1727 = .ok (.iadd, 1) := by decide +kernel
theorem dL_law_1728 : decode cL_law 1728 = .ok (.iaload, 1) := by decide +kernel
theorem dL_law_1729 : decode cL_law 1729 = .ok (.aload_n 0, 1) := by decide +kernel
theorem dL_law_1730 : decode cL_law 1730 = .ok (.iload 4, 2) := by decide +kernel
theorem dL_law_1732 : decode cL_law 1732 = .ok (.iconst 2, 1) := by decide +kernel
theorem dL_law_1733 : decode cL_law 1733 = .ok (.iadd, 1) := by decide +kernel
theorem dL_law_1734 : decode cL_law 1734 = .ok (.iaload, 1) := by decide +kernel
theorem dL_law_1735 : decode cL_law 1735 = .ok (.aload_n 3, 1) := by decide +kernel
theorem dL_law_1736 : decode cL_law 1736 = .ok (.invokestatic 181, 3) := by decide +kernel
theorem dL_law_1739 : decode cL_law 1739 = .ok (.istore 5, 2) := by decide +kernel
theorem dL_law_1741 : decode cL_law 1741 = .ok (.aload_n 2, 1) := by decide +kernel
theorem dL_law_1742 : decode cL_law 1742 = .ok (.aload_n 0, 1) := by decide +kernel
theorem dL_law_1743 : decode cL_law 1743 = .ok (.iload 4, 2) := by decide +kernel
theorem dL_law_1745 : decode cL_law 1745 = .ok (.iconst 1, 1) := by decide +kernel
theorem dL_law_1746 : decode cL_law 1746 = .ok (.iadd, 1) := by decide +kernel
theorem dL_law_1747 : decode cL_law 1747 = .ok (.iaload, 1) := by decide +kernel
theorem dL_law_1748 : decode cL_law 1748 = .ok (.aload_n 0, 1) := by decide +kernel
theorem dL_law_1749 : decode cL_law 1749 = .ok (.iload 4, 2) := by decide +kernel
theorem dL_law_1751 : decode cL_law 1751 = .ok (.iconst 2, 1) := by decide +kernel
theorem dL_law_1752 : decode cL_law 1752 = .ok (.iadd, 1) := by decide +kernel
theorem dL_law_1753 : decode cL_law 1753 = .ok (.iaload, 1) := by decide +kernel
theorem dL_law_1754 : decode cL_law 1754 = .ok (.invokevirtual 183, 3) := by decide +kernel
theorem dL_law_1757 : decode cL_law 1757 = .ok (.istore 6, 2) := by decide +kernel
theorem dL_law_1759 : decode cL_law 1759 = .ok (.aload_n 2, 1) := by decide +kernel
theorem dL_law_1760 : decode cL_law 1760 = .ok (.invokevirtual 108, 3) := by decide +kernel
theorem dL_law_1763 : decode cL_law 1763 = .ok (.iload 5, 2) := by decide +kernel
theorem dL_law_1765 : decode cL_law 1765 = .ok (.if_icmp .eq 5, 3) := by decide +kernel
theorem dL_law_1768 : decode cL_law 1768 = .ok (.iconst 0, 1) := by decide +kernel
theorem dL_law_1769 : decode cL_law 1769 = .ok (.ireturn, 1) := by decide +kernel
theorem dL_law_1770 : decode cL_law 1770 = .ok (.iload 5, 2) := by decide +kernel
theorem dL_law_1772 : decode cL_law 1772 = .ok (.ifCond .ne 15, 3) := by decide +kernel
theorem dL_law_1775 : decode cL_law 1775 = .ok (.aload_n 3, 1) := by decide +kernel
theorem dL_law_1776 : decode cL_law 1776 = .ok (.iconst 0, 1) := by decide +kernel
theorem dL_law_1777 : decode cL_law 1777 = .ok (.laload, 1) := by decide +kernel
theorem dL_law_1778 : decode cL_law 1778 = .ok (.iload 6, 2) := by decide +kernel
theorem dL_law_1780 : decode cL_law 1780 = .ok (.i2l, 1) := by decide +kernel
theorem dL_law_1781 : decode cL_law 1781 = .ok (.lcmp, 1) := by decide +kernel
theorem dL_law_1782 : decode cL_law 1782 = .ok (.ifCond .eq 5, 3) := by decide +kernel
theorem dL_law_1785 : decode cL_law 1785 = .ok (.iconst 0, 1) := by decide +kernel
theorem dL_law_1786 : decode cL_law 1786 = .ok (.ireturn, 1) := by decide +kernel
theorem dL_law_1787 : decode cL_law 1787 = .ok (.goto 139, 3) := by decide +kernel
theorem dL_law_1790 : decode cL_law 1790 = .ok (.aload_n 1, 1) := by decide +kernel
theorem dL_law_1791 : decode cL_law 1791 = .ok (.aload_n 0, 1) := by decide +kernel
theorem dL_law_1792 : decode cL_law 1792 = .ok (.iload 4, 2) := by decide +kernel
theorem dL_law_1794 : decode cL_law 1794 = .ok (.iconst 1, 1) := by decide +kernel
theorem dL_law_1795 : decode cL_law 1795 = .ok (.iadd, 1) := by decide +kernel
theorem dL_law_1796 : decode cL_law 1796 = .ok (.iaload, 1) := by decide +kernel
theorem dL_law_1797 : decode cL_law 1797 = .ok (.aload_n 0, 1) := by decide +kernel
theorem dL_law_1798 : decode cL_law 1798 = .ok (.iload 4, 2) := by decide +kernel
theorem dL_law_1800 : decode cL_law 1800 = .ok (.iconst 2, 1) := by decide +kernel
theorem dL_law_1801 : decode cL_law 1801 = .ok (.iadd, 1) := by decide +kernel
theorem dL_law_1802 : decode cL_law 1802 = .ok (.iaload, 1) := by decide +kernel
theorem dL_law_1803 : decode cL_law 1803 = .ok (.aload_n 0, 1) := by decide +kernel
theorem dL_law_1804 : decode cL_law 1804 = .ok (.iload 4, 2) := by decide +kernel
theorem dL_law_1806 : decode cL_law 1806 = .ok (.iconst 3, 1) := by decide +kernel
theorem dL_law_1807 : decode cL_law 1807 = .ok (.iadd, 1) := by decide +kernel
theorem dL_law_1808 : decode cL_law 1808 = .ok (.iaload, 1) := by decide +kernel
theorem dL_law_1809 : decode cL_law 1809 = .ok (.aload_n 3, 1) := by decide +kernel
theorem dL_law_1810 : decode cL_law 1810 = .ok (.invokestatic 184, 3) := by decide +kernel
theorem dL_law_1813 : decode cL_law 1813 = .ok (.istore 5, 2) := by decide +kernel
theorem dL_law_1815 : decode cL_law 1815 = .ok (.aload_n 2, 1) := by decide +kernel
theorem dL_law_1816 : decode cL_law 1816 = .ok (.aload_n 0, 1) := by decide +kernel
theorem dL_law_1817 : decode cL_law 1817 = .ok (.iload 4, 2) := by decide +kernel
theorem dL_law_1819 : decode cL_law 1819 = .ok (.iconst 1, 1) := by decide +kernel
theorem dL_law_1820 : decode cL_law 1820 = .ok (.iadd, 1) := by decide +kernel
theorem dL_law_1821 : decode cL_law 1821 = .ok (.iaload, 1) := by decide +kernel
theorem dL_law_1822 : decode cL_law 1822 = .ok (.aload_n 0, 1) := by decide +kernel
theorem dL_law_1823 : decode cL_law 1823 = .ok (.iload 4, 2) := by decide +kernel
theorem dL_law_1825 : decode cL_law 1825 = .ok (.iconst 2, 1) := by decide +kernel
theorem dL_law_1826 : decode cL_law 1826 = .ok (.iadd, 1) := by decide +kernel
theorem dL_law_1827 : decode cL_law 1827 = .ok (.iaload, 1) := by decide +kernel
theorem dL_law_1828 : decode cL_law 1828 = .ok (.aload_n 0, 1) := by decide +kernel
theorem dL_law_1829 : decode cL_law 1829 = .ok (.iload 4, 2) := by decide +kernel
theorem dL_law_1831 : decode cL_law 1831 = .ok (.iconst 3, 1) := by decide +kernel
theorem dL_law_1832 : decode cL_law 1832 = .ok (.iadd, 1) := by decide +kernel
theorem dL_law_1833 : decode cL_law 1833 = .ok (.iaload, 1) := by decide +kernel
theorem dL_law_1834 : decode cL_law 1834 = .ok (.invokevirtual 186, 3) := by decide +kernel
theorem dL_law_1837 : decode cL_law 1837 = .ok (.istore 6, 2) := by decide +kernel
theorem dL_law_1839 : decode cL_law 1839 = .ok (.aload_n 2, 1) := by decide +kernel
theorem dL_law_1840 : decode cL_law 1840 = .ok (.invokevirtual 108, 3) := by decide +kernel
theorem dL_law_1843 : decode cL_law 1843 = .ok (.iload 5, 2) := by decide +kernel
theorem dL_law_1845 : decode cL_law 1845 = .ok (.if_icmp .eq 5, 3) := by decide +kernel
theorem dL_law_1848 : decode cL_law 1848 = .ok (.iconst 0, 1) := by decide +kernel
theorem dL_law_1849 : decode cL_law 1849 = .ok (.ireturn, 1) := by decide +kernel
theorem dL_law_1850 : decode cL_law 1850 = .ok (.iload 5, 2) := by decide +kernel
theorem dL_law_1852 : decode cL_law 1852 = .ok (.ifCond .ne 15, 3) := by decide +kernel
theorem dL_law_1855 : decode cL_law 1855 = .ok (.aload_n 3, 1) := by decide +kernel
theorem dL_law_1856 : decode cL_law 1856 = .ok (.iconst 0, 1) := by decide +kernel
theorem dL_law_1857 : decode cL_law 1857 = .ok (.laload, 1) := by decide +kernel
theorem dL_law_1858 : decode cL_law 1858 = .ok (.iload 6, 2) := by decide +kernel
theorem dL_law_1860 : decode cL_law 1860 = .ok (.i2l, 1) := by decide +kernel
theorem dL_law_1861 : decode cL_law 1861 = .ok (.lcmp, 1) := by decide +kernel
theorem dL_law_1862 : decode cL_law 1862 = .ok (.ifCond .eq 5, 3) := by decide +kernel
theorem dL_law_1865 : decode cL_law 1865 = .ok (.iconst 0, 1) := by decide +kernel
theorem dL_law_1866 : decode cL_law 1866 = .ok (.ireturn, 1) := by decide +kernel
theorem dL_law_1867 : decode cL_law 1867 = .ok (.goto 59, 3) := by decide +kernel
theorem dL_law_1870 : decode cL_law 1870 = .ok (.aload_n 1, 1) := by decide +kernel
theorem dL_law_1871 : decode cL_law 1871 = .ok (.aload_n 0, 1) := by decide +kernel
theorem dL_law_1872 : decode cL_law 1872 = .ok (.iload 4, 2) := by decide +kernel
theorem dL_law_1874 : decode cL_law 1874 = .ok (.iconst 1, 1) := by decide +kernel
theorem dL_law_1875 : decode cL_law 1875 = .ok (.iadd, 1) := by decide +kernel
theorem dL_law_1876 : decode cL_law 1876 = .ok (.iaload, 1) := by decide +kernel
theorem dL_law_1877 : decode cL_law 1877 = .ok (.aload_n 3, 1) := by decide +kernel
theorem dL_law_1878 : decode cL_law 1878 = .ok (.invokestatic 187, 3) := by decide +kernel
theorem dL_law_1881 : decode cL_law 1881 = .ok (.istore 5, 2) := by decide +kernel
theorem dL_law_1883 : decode cL_law 1883 = .ok (.aload_n 2, 1) := by decide +kernel
theorem dL_law_1884 : decode cL_law 1884 = .ok (.aload_n 0, 1) := by decide +kernel
theorem dL_law_1885 : decode cL_law 1885 = .ok (.iload 4, 2) := by decide +kernel
theorem dL_law_1887 : decode cL_law 1887 = .ok (.iconst 1, 1) := by decide +kernel
theorem dL_law_1888 : decode cL_law 1888 = .ok (.iadd, 1) := by decide +kernel
theorem dL_law_1889 : decode cL_law 1889 = .ok (.iaload, 1) := by decide +kernel
theorem dL_law_1890 : decode cL_law 1890 = .ok (.invokevirtual 189, 3) := by decide +kernel
theorem dL_law_1893 : decode cL_law 1893 = .ok (.istore 6, 2) := by decide +kernel
theorem dL_law_1895 : decode cL_law 1895 = .ok (.aload_n 2, 1) := by decide +kernel
theorem dL_law_1896 : decode cL_law 1896 = .ok (.invokevirtual 108, 3) := by decide +kernel
theorem dL_law_1899 : decode cL_law 1899 = .ok (.iload 5, 2) := by decide +kernel
theorem dL_law_1901 : decode cL_law 1901 = .ok (.if_icmp .eq 5, 3) := by decide +kernel
theorem dL_law_1904 : decode cL_law 1904 = .ok (.iconst 0, 1) := by decide +kernel
theorem dL_law_1905 : decode cL_law 1905 = .ok (.ireturn, 1) := by decide +kernel
theorem dL_law_1906 : decode cL_law 1906 = .ok (.iload 5, 2) := by decide +kernel
theorem dL_law_1908 : decode cL_law 1908 = .ok (.ifCond .ne 15, 3) := by decide +kernel
theorem dL_law_1911 : decode cL_law 1911 = .ok (.aload_n 3, 1) := by decide +kernel
theorem dL_law_1912 : decode cL_law 1912 = .ok (.iconst 0, 1) := by decide +kernel
theorem dL_law_1913 : decode cL_law 1913 = .ok (.laload, 1) := by decide +kernel
theorem dL_law_1914 : decode cL_law 1914 = .ok (.iload 6, 2) := by decide +kernel
theorem dL_law_1916 : decode cL_law 1916 = .ok (.i2l, 1) := by decide +kernel
theorem dL_law_1917 : decode cL_law 1917 = .ok (.lcmp, 1) := by decide +kernel
theorem dL_law_1918 : decode cL_law 1918 = .ok (.ifCond .eq 5, 3) := by decide +kernel
theorem dL_law_1921 : decode cL_law 1921 = .ok (.iconst 0, 1) := by decide +kernel
theorem dL_law_1922 : decode cL_law 1922 = .ok (.ireturn, 1) := by decide +kernel
theorem dL_law_1923 : decode cL_law 1923 = .ok (.goto 3, 3) := by decide +kernel
theorem dL_law_1926 : decode cL_law 1926 = .ok (.iinc 4 8, 3) := by decide +kernel
theorem dL_law_1929 : decode cL_law 1929 = .ok (.goto (-1906), 3) := by decide +kernel
theorem dL_law_1932 : decode cL_law 1932 = .ok (.iconst 1, 1) := by decide +kernel
theorem dL_law_1933 : decode cL_law 1933 = .ok (.ireturn, 1) := by decide +kernel
end
section
/-! THE ENGINE: heaps by roles. A role (r : rb_R) names a cell; 'ad' says at which address it lies. A world G holds what the cells hold, in terms of roles. -/
abbrev rb_R : Type := Nat × Nat × Nat
abbrev rb_V : Type := Int32 ⊕ (Option rb_R ⊕ Int64)
abbrev rbI (x : Int32) : rb_V := .inl x
abbrev rbO (o : Option rb_R) : rb_V := .inr (.inl o)
abbrev rbR (r : rb_R) : rb_V := .inr (.inl (some r))
abbrev rbL (x : Int64) : rb_V := .inr (.inr x)
def rb_c (ad : rb_R → Nat) (v : rb_V) : Value := match v with
  | .inl x => .int x
  | .inr (.inl o) => va_rf (o.map ad)
  | .inr (.inr x) => .long x
def rb_cat (v : rb_V) : Nat := match v with
  | .inr (.inr _) => 2
  | _ => 1
theorem rb_cat_c (ad : rb_R → Nat) (v : rb_V) : (rb_c ad v).category = rb_cat v := by
  rcases v with x | o | x
  · rfl
  · cases o <;> rfl
  · rfl
/-- domain, lengths of arrays, ints, references, longs -/
abbrev rb_G : Type := (rb_R → Prop) × (rb_R → Nat) × (rb_R → Nat → Int32) × (rb_R → Nat → Option rb_R) × (rb_R → Nat → Int64)
def gD (G : rb_G) : rb_R → Prop := G.1
def gN (G : rb_G) : rb_R → Nat := G.2.1
def gI (G : rb_G) : rb_R → Nat → Int32 := G.2.2.1
def gP (G : rb_G) : rb_R → Nat → Option rb_R := G.2.2.2.1
def gJ (G : rb_G) : rb_R → Nat → Int64 := G.2.2.2.2
def up2 {α : Type} (f : rb_R → Nat → α) (r : rb_R) (k : Nat) (v : α) : rb_R → Nat → α := fun r' k' => if r' = r ∧ k' = k then v else f r' k'
def sI (G : rb_G) (r : rb_R) (k : Nat) (v : Int32) : rb_G := (gD G, gN G, up2 (gI G) r k v, gP G, gJ G)
def sP (G : rb_G) (r : rb_R) (k : Nat) (v : Option rb_R) : rb_G := (gD G, gN G, gI G, up2 (gP G) r k v, gJ G)
def sJ (G : rb_G) (r : rb_R) (k : Nat) (v : Int64) : rb_G := (gD G, gN G, gI G, gP G, up2 (gJ G) r k v)
/-- a new cell of length n, blank -/
def sN (G : rb_G) (r : rb_R) (n : Nat) : rb_G := (fun x => x = r ∨ gD G x, fun x => if x = r then n else gN G x, fun x k => if x = r then 0 else gI G x k, fun x k => if x = r then none else gP G x k, fun x k => if x = r then 0 else gJ G x k)
/-- a role whose cell is of no concern -/
def sO (G : rb_G) (r : rb_R) : rb_G := (fun x => x = r ∨ gD G x, gN G, gI G, gP G, gJ G)
theorem up2_s {α : Type} (f : rb_R → Nat → α) (r : rb_R) (k : Nat) (v : α) : up2 f r k v r k = v := by simp [up2]
theorem up2_n {α : Type} (f : rb_R → Nat → α) (r : rb_R) (k : Nat) (v : α) {r' : rb_R} {k' : Nat} (h : ¬ (r' = r ∧ k' = k)) : up2 f r k v r' k' = f r' k' := by simp [up2, h]
/-- the kind of a role by its family: a class of vwCl (below 10), 10 int[], 11 boolean[], 12 long[], 13 Object[], 14 Network[], 15 Account[], 20 no concern -/
def rb_k (f : Nat) : Nat := [8, 10, 14, 15, 0, 6, 3, 10, 1, 7, 2, 4, 5, 13, 10, 11, 9, 12].getD f 20
def rb_lay (k : Nat) : List Bool := [[false, true, false], [true, false, false], [false, false, false, false, false, false, false], [true], [false, false, false, false], [false, false, true, false, false], [true, false, false, false, false, false, false], [false, false, false, false, false, false, false, false, false, false, false], [true, true, true, true, true, true, false], [false, false, true, true, true, true, true, false, true, true, true, true, true, true, true, false, true, true, true, true, true, true, true, true, true, true, true, true, false, false, true, true, true, true, true, true, true, true, true]].getD k []
def rb_vals (cv : rb_V → Value) : List Bool → Nat → (Nat → Int32) → (Nat → Option rb_R) → List Value
  | [], _, _, _ => []
  | b :: t, k, I, P => (if b = true then cv (rbO (P k)) else cv (rbI (I k))) :: rb_vals cv t (k + 1) I P
theorem rb_vals_get (cv : rb_V → Value) (I : Nat → Int32) (P : Nat → Option rb_R) : ∀ (l : List Bool) (k0 k : Nat), (rb_vals cv l k0 I P)[k]? = (l[k]?).map (fun b => if b = true then cv (rbO (P (k0 + k))) else cv (rbI (I (k0 + k)))) := by
  intro l
  induction l with
  | nil => intro k0 k; simp [rb_vals]
  | cons b t ih =>
    intro k0 k
    cases k with
    | zero => simp [rb_vals]
    | succ k =>
      simp only [rb_vals, List.getElem?_cons_succ]
      rw [ih (k0 + 1) k, show k0 + 1 + k = k0 + (k + 1) by omega]
theorem rb_vals_len (cv : rb_V → Value) (I : Nat → Int32) (P : Nat → Option rb_R) : ∀ (l : List Bool) (k0 : Nat), (rb_vals cv l k0 I P).length = l.length := by
  intro l
  induction l with
  | nil => intro k0; rfl
  | cons b t ih => intro k0; simp [rb_vals, ih]
theorem rb_vals_setI (cv : rb_V → Value) (I I' : Nat → Int32) (P : Nat → Option rb_R) (l : List Bool) (k : Nat) (v : Int32) (hb : l[k]? = some false) (h1 : I' k = v) (h2 : ∀ j, j ≠ k → I' j = I j) : (rb_vals cv l 0 I P).set k (cv (rbI v)) = rb_vals cv l 0 I' P := by
  apply List.ext_getElem?
  intro j
  have hlt : k < (rb_vals cv l 0 I P).length := by rw [rb_vals_len]; exact (List.getElem?_eq_some_iff.mp hb).1
  by_cases hj : j = k
  · subst hj
    rw [List.getElem?_set_self hlt, rb_vals_get, hb]
    simp [h1]
  · rw [List.getElem?_set_ne (Ne.symm hj), rb_vals_get, rb_vals_get]
    simp only [Nat.zero_add]
    rw [h2 j hj]
theorem rb_vals_setP (cv : rb_V → Value) (I : Nat → Int32) (P P' : Nat → Option rb_R) (l : List Bool) (k : Nat) (v : Option rb_R) (hb : l[k]? = some true) (h1 : P' k = v) (h2 : ∀ j, j ≠ k → P' j = P j) : (rb_vals cv l 0 I P).set k (cv (rbO v)) = rb_vals cv l 0 I P' := by
  apply List.ext_getElem?
  intro j
  have hlt : k < (rb_vals cv l 0 I P).length := by rw [rb_vals_len]; exact (List.getElem?_eq_some_iff.mp hb).1
  by_cases hj : j = k
  · subst hj
    rw [List.getElem?_set_self hlt, rb_vals_get, hb]
    simp [h1]
  · rw [List.getElem?_set_ne (Ne.symm hj), rb_vals_get, rb_vals_get]
    simp only [Nat.zero_add]
    rw [h2 j hj]
/-- what lies at a role's address -/
def rb_e (ad : rb_R → Nat) (cA : Nat → ClassId) (G : rb_G) (r : rb_R) : va_E :=
  if rb_k r.1 < 10 then .inr (rb_k r.1, rb_vals (rb_c ad) (rb_lay (rb_k r.1)) 0 (gI G r) (gP G r))
  else if rb_k r.1 < 12 then .inl (cA (rb_k r.1), gN G r, .inl (gI G r))
  else if rb_k r.1 = 12 then .inl (cA 12, gN G r, .inr (.inl (gJ G r)))
  else .inl (cA (rb_k r.1), gN G r, .inr (.inr (.inr (.inr (fun j => (gP G r j).map ad)))))
/-- the classes' ids and slots, the arrays' classes, the address of ArrayList's empty row, the script's address, the address of Object[]'s class object -/
abbrev rb_X : Type := va_G × (Nat → ClassId) × Nat × Nat × Nat
def rb_tys (cA : Nat → ClassId) : List (ClassId × FieldType) := [(cA 10, .int), (cA 11, .boolean), (cA 12, .long), (cA 13, .object "java/lang/Object"), (cA 14, .object RX5), (cA 15, .object RX0)]
def rb_P (X : rb_X) (ad : rb_R → Nat) (A : Nat → Prop) (G : rb_G) (H : Heap) : Prop :=
  (∀ r, gD G r → rb_k r.1 < 20 → A (ad r) ∧ va_at X.1 vwCl (ad r, rb_e ad X.2.1 G r) H) ∧
  (∀ r r', gD G r → gD G r' → rb_k r.1 < 20 → rb_k r'.1 < 20 → ad r = ad r' → r = r') ∧
  (∀ r k r', gD G r → gP G r k = some r' → gD G r') ∧ ad (19, 0, 0) = X.2.2.1 ∧ ad (18, 0, 0) = X.2.2.2.1 ∧ ad (21, 0, 0) = X.2.2.2.2
def rb_nx (G : rb_G) (ad : rb_R → Nat) (G' : rb_G) (ad' : rb_R → Nat) : Prop := ∀ r, gD G r → gD G' r ∧ ad' r = ad r
theorem rb_nx.rf {G : rb_G} {ad : rb_R → Nat} : rb_nx G ad G ad := fun _ h => ⟨h, rfl⟩
theorem rb_nx.tr {G1 G2 G3 : rb_G} {a1 a2 a3 : rb_R → Nat} (h : rb_nx G1 a1 G2 a2) (h' : rb_nx G2 a2 G3 a3) : rb_nx G1 a1 G3 a3 := fun r hr => ⟨(h' r (h r hr).1).1, ((h' r (h r hr).1).2).trans (h r hr).2⟩
def rb_ok (G : rb_G) (v : rb_V) : Prop := ∀ r, v = rbR r → gD G r
theorem rb_ok_i (G : rb_G) (x : Int32) : rb_ok G (rbI x) := fun r h => by cases h
theorem rb_ok_l (G : rb_G) (x : Int64) : rb_ok G (rbL x) := fun r h => by cases h
theorem rb_ok_n (G : rb_G) : rb_ok G (rbO none) := fun r h => by cases h
theorem rb_ok_r {G : rb_G} {r : rb_R} (h : gD G r) : rb_ok G (rbR r) := fun r' h' => by cases h'; exact h
theorem rb_ok.mono {G G' : rb_G} {v : rb_V} (h : rb_ok G v) (hm : ∀ r, gD G r → gD G' r) : rb_ok G' v := fun r e => hm r (h r e)
theorem rb_c_nx {G G' : rb_G} {ad ad' : rb_R → Nat} (hn : rb_nx G ad G' ad') {v : rb_V} (h : rb_ok G v) : rb_c ad' v = rb_c ad v := by
  rcases v with x | o | x
  · rfl
  · cases o with
    | none => rfl
    | some r => show Value.ref (ad' r) = Value.ref (ad r); rw [(hn r (h r rfl)).2]
  · rfl
def rb_okL (G : rb_G) (st : List rb_V) : Prop := ∀ v ∈ st, rb_ok G v
def rb_okO (G : rb_G) (Lv : List (Option rb_V)) : Prop := ∀ v, some v ∈ Lv → rb_ok G v
theorem rb_okL.mono {G G' : rb_G} {st : List rb_V} (h : rb_okL G st) (hm : ∀ r, gD G r → gD G' r) : rb_okL G' st := fun v hv => (h v hv).mono hm
theorem rb_okO.mono {G G' : rb_G} {Lv : List (Option rb_V)} (h : rb_okO G Lv) (hm : ∀ r, gD G r → gD G' r) : rb_okO G' Lv := fun v hv => (h v hv).mono hm
theorem rb_okL.cons {G : rb_G} {v : rb_V} {st : List rb_V} (h : rb_okL G st) (hv : rb_ok G v) : rb_okL G (v :: st) := List.forall_mem_cons.mpr ⟨hv, h⟩
theorem rb_okL.tl {G : rb_G} {v : rb_V} {st : List rb_V} (h : rb_okL G (v :: st)) : rb_okL G st := (List.forall_mem_cons.mp h).2
theorem rb_okL.hd {G : rb_G} {v : rb_V} {st : List rb_V} (h : rb_okL G (v :: st)) : rb_ok G v := (List.forall_mem_cons.mp h).1
theorem rb_map_nx {G G' : rb_G} {ad ad' : rb_R → Nat} (hn : rb_nx G ad G' ad') {st : List rb_V} (h : rb_okL G st) : st.map (rb_c ad') = st.map (rb_c ad) := List.map_congr_left fun v hv => rb_c_nx hn (h v hv)
/-- the locals as an association list -/
def rb_al (ad : rb_R → Nat) : Nat → List (Option rb_V) → List (Nat × Value)
  | _, [] => []
  | i, none :: t => rb_al ad (i + 1) t
  | i, some v :: t => (i, rb_c ad v) :: rb_al ad (i + 1) t
theorem rb_al_mem (ad : rb_R → Nat) : ∀ (Lv : List (Option rb_V)) (i0 : Nat) (q : Nat × Value), q ∈ rb_al ad i0 Lv ↔ ∃ (k : Nat) (v : rb_V), Lv[k]? = some (some v) ∧ q = (i0 + k, rb_c ad v) := by
  intro Lv
  induction Lv with
  | nil => intro i0 q; simp [rb_al]
  | cons o t ih =>
    intro i0 q
    have ih' := ih (i0 + 1) q
    have key : (∃ (k : Nat) (v : rb_V), t[k]? = some (some v) ∧ q = (i0 + 1 + k, rb_c ad v)) ↔ ∃ (k : Nat) (v : rb_V), 0 < k ∧ (o :: t)[k]? = some (some v) ∧ q = (i0 + k, rb_c ad v) := by
      constructor
      · rintro ⟨k, v, h1, h2⟩
        exact ⟨k + 1, v, by omega, by simpa using h1, by rw [h2]; congr 1; omega⟩
      · rintro ⟨k, v, h0, h1, h2⟩
        obtain ⟨j, rfl⟩ : ∃ j, k = j + 1 := ⟨k - 1, by omega⟩
        exact ⟨j, v, by simpa using h1, by rw [h2]; congr 1; omega⟩
    cases o with
    | none =>
      simp only [rb_al]
      rw [ih', key]
      constructor
      · rintro ⟨k, v, -, h1, h2⟩; exact ⟨k, v, h1, h2⟩
      · rintro ⟨k, v, h1, h2⟩
        refine ⟨k, v, ?_, h1, h2⟩
        cases k with
        | zero => simp at h1
        | succ k => omega
    | some w =>
      simp only [rb_al, List.mem_cons]
      rw [ih', key]
      constructor
      · rintro (h | ⟨k, v, -, h1, h2⟩)
        · exact ⟨0, w, by simp, by rw [h]; simp⟩
        · exact ⟨k, v, h1, h2⟩
      · rintro ⟨k, v, h1, h2⟩
        cases k with
        | zero => simp at h1; subst h1; exact Or.inl (by rw [h2]; simp)
        | succ k => exact Or.inr ⟨k + 1, v, by omega, h1, h2⟩
def rb_ls (ad : rb_R → Nat) (ls : Array Slot) (Lv : List (Option rb_V)) : Prop := lv_has ls Lv.length (rb_al ad 0 Lv)
theorem rb_ls.get {ad : rb_R → Nat} {ls : Array Slot} {Lv : List (Option rb_V)} (h : rb_ls ad ls Lv) {i : Nat} {v : rb_V} (hi : Lv[i]? = some (some v)) : ls[i]? = some (.val (rb_c ad v)) := by
  have := h.2.2 (i, rb_c ad v) ((rb_al_mem ad Lv 0 _).mpr ⟨i, v, hi, by rw [Nat.zero_add]⟩)
  exact this
/-- fewer locals known -/
theorem rb_ls.weak {ad : rb_R → Nat} {ls : Array Slot} {Lv Lv' : List (Option rb_V)} (h : rb_ls ad ls Lv) (hl : Lv'.length = Lv.length) (hs : ∀ (i : Nat) (v : rb_V), Lv'[i]? = some (some v) → Lv[i]? = some (some v)) : rb_ls ad ls Lv' := by
  refine ⟨by rw [h.1, hl], h.2.1, fun q hq => ?_⟩
  obtain ⟨k, v, h1, rfl⟩ := (rb_al_mem ad Lv' 0 q).mp hq
  exact h.2.2 _ ((rb_al_mem ad Lv 0 _).mpr ⟨k, v, hs k v h1, rfl⟩)
/-- what a store leaves -/
theorem rb_ls.store {ad : rb_R → Nat} {ls' : Array Slot} {Lv : List (Option rb_V)} {i : Nat} {v : rb_V} (hi : i < Lv.length)
    (h : lv_has ls' Lv.length ((i, rb_c ad v) :: (rb_al ad 0 Lv).filter (fun q => !(q.1 == i) && !(q.1 + 1 == i && q.2.category == 2)))) (hc : ∀ w, some w ∈ Lv → rb_cat w = 1) : rb_ls ad ls' (Lv.set i (some v)) := by
  refine ⟨by rw [h.1, List.length_set], h.2.1, fun q hq => ?_⟩
  obtain ⟨k, w, h1, rfl⟩ := (rb_al_mem ad _ 0 q).mp hq
  apply h.2.2
  by_cases hk : k = i
  · subst hk
    rw [List.getElem?_set_self hi] at h1
    cases h1
    rw [Nat.zero_add]
    exact List.mem_cons_self
  · rw [List.getElem?_set_ne (Ne.symm hk)] at h1
    refine List.mem_cons_of_mem _ (List.mem_filter.mpr ⟨(rb_al_mem ad Lv 0 _).mpr ⟨k, w, h1, rfl⟩, ?_⟩)
    have hcw : (rb_c ad w).category = 1 := by rw [rb_cat_c]; exact hc w (List.mem_of_getElem? h1)
    simp [hcw, hk]
/-- the words of the tables that stay -/
def TS : List Cond := lw_tbl.filter goodWord
theorem ts_mem {w : Cond} (i : Nat) (h : lw_tbl[i]? = some w) (hg : goodWord w = true) : w ∈ TS := List.mem_filter.mpr ⟨List.mem_of_getElem? h, hg⟩
theorem ts_good : GoodIn TS TS := fun w hw => ⟨hw, good_of_word (List.mem_filter.mp hw).2⟩
theorem ts_code {c : Cond} (h : c ∈ TS) : GoodIn TS (c :: TS) := fun w hw => (List.mem_cons.mp hw).elim (fun e => by rw [e]; exact ts_good c h) (fun h => ts_good w h)
def rb_cst : List (String × String) := [("RoamBooks$Agreement", "java/lang/Object"), ("RoamBooks$Subscriber", "java/lang/Object"), ("RoamBooks$Call", "java/lang/Object"), ("RoamBooks$CallRecord", "java/lang/Object"), ("java/lang/IndexOutOfBoundsException", "java/lang/IndexOutOfBoundsException"), ("java/lang/IllegalArgumentException", "java/lang/IllegalArgumentException"), ("java/lang/IllegalStateException", "java/lang/IllegalStateException")]
def rb_ncs : List (String × String) := [("java/lang/IllegalArgumentException", "java/lang/IndexOutOfBoundsException"), ("java/lang/IllegalStateException", "java/lang/IndexOutOfBoundsException"), ("java/lang/IllegalStateException", "java/lang/IllegalArgumentException")]
def rb_strs : List (Nat × String) := [(281, "no such place"), (273, "an argument is out of range"), (279, "no such network"), (275, "both are the same"), (277, "there are as many as there may be"), (283, "no such subscriber"), (147, "it is attached to that network"), (196, "what is out of range"), (235, "no records are left to file"), (245, "no such file"), (264, "time ends before that")]
def rb_dcl : List MethodName := [⟨"java/lang/RuntimeException", "<init>", "(Ljava/lang/String;)V"⟩, ⟨"java/lang/Exception", "<init>", "(Ljava/lang/String;)V"⟩, ⟨"java/lang/Throwable", "<init>", "(Ljava/lang/String;)V"⟩]
/-- what the tables say, besides the words that stay -/
def rb_K1 (X : rb_X) (U : State) : Prop :=
  va_K X.1 vwCl (rb_tys X.2.1) U ∧ (∀ C ∈ ["java/lang/Object", RX5, RX0], va_AO C U) ∧ (∀ q ∈ rb_cst, va_Nw (.castable q.1 q.2) U) ∧ (∀ q ∈ rb_ncs, va_Nc q.1 q.2 U) ∧
  (∀ q ∈ rb_strs, ∃ a, vk_R RX7 q.1 q.2 a U) ∧ va_Nw (.methodLinkNest RX7 38 yX5_init RX7) U ∧ va_Nw (.methodLinkNest RX7 39 yX0_init RX7) U ∧ va_Mi "[Ljava/lang/Object;" X.2.2.2.2 U ∧ va_Dc U ∧ (∀ y ∈ rb_dcl, va_Nw (.declares y) U)
theorem rb_K1.warm {X : rb_X} {s U : State} (hW : s.WarmedH U.vm) (h : rb_K1 X s) : rb_K1 X U :=
  ⟨va_K.moved hW.alike h.1, fun C hC => va_AO.moved hW.alike (h.2.1 C hC), fun q hq => va_Nw.warmC hW (h.2.2.1 q hq), fun q hq => va_Nc.moved hW.alike (h.2.2.2.1 q hq), fun q hq => (h.2.2.2.2.1 q hq).imp fun _ h => vk_R.warm hW h,
   va_Nw.warmM hW h.2.2.2.2.2.1, va_Nw.warmM hW h.2.2.2.2.2.2.1, va_Mi.moved hW.alike h.2.2.2.2.2.2.2.1, va_Dc.moved hW.alike h.2.2.2.2.2.2.2.2.1, fun y hy => va_Nw.warmD hW (h.2.2.2.2.2.2.2.2.2 y hy)⟩
/-- what lies outside of the world -/
def rb_K2 (X : rb_X) (A : Nat → Prop) (U : State) (H : Heap) : Prop :=
  vx_Zq Bundle.tN "UNASSIGNED_STACK" Bundle.steD A U H ∧ vx_Zq Bundle.tN "SUPPRESSED_SENTINEL" Bundle.listD A U H ∧ va_Z "java/util/ArrayList" "DEFAULTCAPACITY_EMPTY_ELEMENTDATA" "[Ljava/lang/Object;" (.ref X.2.2.1) A U H ∧
  va_T (.object "java/lang/Object") X.2.2.1 0 (fun _ => .null) A U H
theorem rb_K2.moved {X : rb_X} {A : Nat → Prop} {u U : State} {H H1 : Heap} (hvm : u.vm.Alike U.vm) (h : rb_K2 X A u H) (hq : ∀ a : Nat, a < H.size → ¬ A a → H1[a]? = H[a]?) : rb_K2 X A U H1 :=
  ⟨vx_Zq.moved hvm (h.1.kept hq), vx_Zq.moved hvm (h.2.1.kept hq), va_Z.moved hvm (h.2.2.1.kept hq), va_T.moved hvm (h.2.2.2.kept hq)⟩
/-- the walk's constants -/
abbrev rb_F : Type := Program × Launch × Env × Room × State × MethodId × Array Value × List Frame × Method × Code × (State → Prop) × rb_X × (Nat → Prop) × (rb_R → Nat) × rb_G
def rb_W (Φ : rb_F) (cells slots : Nat) (pc : Nat) (Lv : List (Option rb_V)) (st : List rb_V) (G : rb_G) : Prop := match Φ with
  | (p, l, e, R, s, m, args, below, meth, c, Q, X, A, ad0, G0) => ∀ (ad : rb_R → Nat) (H : Heap) (locs : List Loc) (ls : Array Slot), rb_P X ad A G H → rb_nx G0 ad0 G ad → va_S A s.heap H locs → rb_ls ad ls Lv → rb_okL G st → rb_okO G Lv →
      W p l e R s m args below meth c H locs cells slots Q (F0 m pc ls (st.map (rb_c ad)))
/-- thrown over the method's frame: an exception of class E -/
def rb_Wx (Φ : rb_F) (cells slots : Nat) (pc : Nat) (Lv : List (Option rb_V)) (st : List rb_V) (G : rb_G) (E : String) : Prop := match Φ with
  | (p, l, e, R, s, m, args, below, meth, c, Q, X, A, ad0, G0) => ∀ (ad : rb_R → Nat) (H : Heap) (locs : List Loc) (ls : Array Slot) (q : Addr) (ce : Cell), rb_P X ad A G H → rb_nx G0 ad0 G ad → va_S A s.heap H locs → rb_ls ad ls Lv → rb_okL G st → rb_okO G Lv →
      H[q]? = some ce → ce.vm = .none → s.vm.findClass E = some ce.cls → vx_W p l e R s m args below meth c H locs cells slots Q (F0 m pc ls (st.map (rb_c ad))) q
/-- what holds in a body -/
def rb_C (Φ : rb_F) (own : String) (cc : ByteArray) (nL fr lo mc ms : Nat) : Prop := match Φ with
  | (p, l, _, R, s, m, args, _, meth, c, _, X, A, _, _) => p.tables.exec = Jvm.exec ∧ c.code = cc ∧ c.maxLocals = nL ∧ s.vm.findClass own = some m.cls ∧ (∀ w ∈ TS, w.before args s = true) ∧ meth.locks = false ∧
      R = { frames := fr, cells := mc, slots := ms, locals := lo } ∧ l.stackTraces = false ∧ rb_K1 X s ∧ rb_K2 X A s s.heap ∧ ∀ q, s.heap.size ≤ q → A q
/-- how a method may end -/
def rb_Q (X : rb_X) (A : Nat → Prop) (ad : rb_R → Nat) (G : rb_G) (Post : Option rb_V → rb_G → Prop) : Array Value → State → Outcome → State → Prop := fun _ st oc t =>
  (∃ (v : Option rb_V) (G' : rb_G) (ad' : rb_R → Nat), oc = .returned (v.map (rb_c ad')) ∧ Post v G' ∧ rb_nx G ad G' ad' ∧ (∀ w, v = some w → rb_ok G' w) ∧ rb_P X ad' A G' t.heap) ∧ va_F A st t
def rb_QX (X : rb_X) (A : Nat → Prop) (ad : rb_R → Nat) (G : rb_G) (PX : String → rb_G → Prop) : String → State → State → Prop := fun E st t =>
  (∃ (G' : rb_G) (ad' : rb_R → Nat), PX E G' ∧ rb_nx G ad G' ad' ∧ rb_P X ad' A G' t.heap) ∧ va_F A st t
def rb_In (X : rb_X) (A : Nat → Prop) (ad : rb_R → Nat) (av : List rb_V) (G : rb_G) (U : State) : Prop :=
  (∀ q, U.heap.size ≤ q → A q) ∧ rb_P X ad A G U.heap ∧ rb_K1 X U ∧ rb_K2 X A U U.heap ∧ rb_okL G av
/-- the contract of a method that may throw; of one that doesn't -/
def rb_M (l : Launch) (X : rb_X) (y : MethodName) (w : Cond) (fr lo mc ms : Nat) (av : List rb_V) (G : rb_G) (Post : Option rb_V → rb_G → Prop) (PX : String → rb_G → Prop) : Prop :=
  l.stackTraces = false → ∀ (A : Nat → Prop) (ad : rb_R → Nat), vx_Met l y (w :: TS) { frames := fr, cells := mc, slots := ms, locals := lo } (va_Pc (av.map (rb_c ad)) (rb_In X A ad av G)) (rb_Q X A ad G Post) (rb_QX X A ad G PX) mc ms A
def rb_N (l : Launch) (X : rb_X) (y : MethodName) (w : Cond) (fr lo mc ms : Nat) (av : List rb_V) (G : rb_G) (Post : Option rb_V → rb_G → Prop) : Prop :=
  l.stackTraces = false → ∀ (A : Nat → Prop) (ad : rb_R → Nat), Met l y (w :: TS) { frames := fr, cells := mc, slots := ms, locals := lo } (va_Pc (av.map (rb_c ad)) (rb_In X A ad av G)) (rb_Q X A ad G Post) mc ms A
theorem rb_N.m {l : Launch} {X : rb_X} {y : MethodName} {w : Cond} {fr lo mc ms : Nat} {av : List rb_V} {G : rb_G} {Post : Option rb_V → rb_G → Prop} (h : rb_N l X y w fr lo mc ms av G Post) : rb_M l X y w fr lo mc ms av G Post (fun _ _ => False) := by
  intro hl A ad p e h1 h2 h3 s m args below h4 h5 h6 h7
  obtain ⟨n, o, g1, g2, g3, g4, g5⟩ := h hl A ad p e h1 h2 h3 s m args below h4 h5 h6 h7
  exact ⟨n, o, g1, g2, g3, Or.inl ⟨g4, g5⟩⟩
/-- the walk's end, as the contract wants it -/
def rb_E (Φ : rb_F) (ret : Option FieldType) (Post : Option rb_V → rb_G → Prop) (mc ms : Nat) : Prop := match Φ with
  | (p, l, e, R, s, m, args, below, meth, c, Q, X, A, ad0, G0) => meth.sig.returnType = ret ∧ ∀ (H : Heap) (locs : List Loc) (g : JFrame), W p l e R s m args below meth c H locs mc ms (MQ below (rb_Q X A ad0 G0 Post) args s mc ms A) g → W p l e R s m args below meth c H locs mc ms Q g
def rb_EX (Φ : rb_F) (PX : String → rb_G → Prop) (mc ms : Nat) : Prop := match Φ with
  | (_, _, _, _, s, _, args, below, _, c, Q, X, A, ad0, G0) => (∀ x ∈ c.exceptionTable.toList, False) ∧ ∃ Qc, Q = vx_MQ below Qc (rb_QX X A ad0 G0 PX) args s mc ms A
theorem rb_blind {X : rb_X} {A : Nat → Prop} {ad : rb_R → Nat} {av : List rb_V} {vs : List Value} {G : rb_G} : FrameBlind (va_Pc vs (rb_In X A ad av G)) := by
  rintro a U g mk ⟨q0, q1, q2, q3, q4, q5⟩
  exact ⟨q0, q1, q2, rb_K1.warm (State.WarmedH.refl U) q3, rb_K2.moved (u := U) (U := U.calling g mk a) (Vm.Alike.refl U.vm) q4 (fun _ _ _ => rfl), q5⟩
def rb_c1 (Lv : List (Option rb_V)) : Bool := Lv.all fun o => match o with
  | none => true
  | some v => rb_cat v == 1
theorem rb_c1_use {Lv : List (Option rb_V)} (h : rb_c1 Lv = true) : ∀ w, some w ∈ Lv → rb_cat w = 1 := by
  intro w hw
  have := List.all_eq_true.mp h _ hw
  simpa using this
theorem rb_al_args (ad : rb_R → Nat) : ∀ (av : List rb_V) (i : Nat) (n : Nat), rb_c1 (av.map some) = true → rb_al ad i (av.map some ++ List.replicate n none) = lv_args i (av.map (rb_c ad)) := by
  intro av
  induction av with
  | nil =>
    intro i n _
    show rb_al ad i (List.replicate n none) = []
    induction n generalizing i with
    | zero => rfl
    | succ n ih => exact ih (i + 1)
  | cons v t ih =>
    intro i n h
    have hv : rb_cat v = 1 := rb_c1_use h v (by simp)
    have ht : rb_c1 (t.map some) = true := by simp only [rb_c1, List.map_cons, List.all_cons, Bool.and_eq_true] at h ⊢; exact h.2
    show (i, rb_c ad v) :: rb_al ad (i + 1) (t.map some ++ List.replicate n none) = (i, rb_c ad v) :: lv_args (if (rb_c ad v).category = 2 then i + 2 else i + 1) (t.map (rb_c ad))
    rw [ih (i + 1) n ht, rb_cat_c, hv, if_neg (by decide)]
theorem rb_sl_len (ad : rb_R → Nat) : ∀ (av : List rb_V), rb_c1 (av.map some) = true → (lg_sl (av.map (rb_c ad))).length = av.length := by
  intro av
  induction av with
  | nil => intro _; rfl
  | cons v t ih =>
    intro h
    have hv : rb_cat v = 1 := rb_c1_use h v (by simp)
    have ht : rb_c1 (t.map some) = true := by simp only [rb_c1, List.map_cons, List.all_cons, Bool.and_eq_true] at h ⊢; exact h.2
    have e : (rb_c ad v).category = 1 := by rw [rb_cat_c, hv]
    simp only [lg_sl, List.map_cons, List.flatMap_cons, e]
    simp only [lg_sl] at ih
    simp [ih ht]
theorem rb_entry (ad : rb_R → Nat) (av : List rb_V) {n : Nat} (h : rb_c1 (av.map some) = true) (hn : av.length ≤ n) : rb_ls ad ((lg_sl (av.map (rb_c ad)) ++ List.replicate (n - (lg_sl (av.map (rb_c ad))).length) Slot.unset).toArray) (av.map some ++ List.replicate (n - av.length) none) := by
  have h1 := lv_entry (av.map (rb_c ad)) (n := n) (by rw [rb_sl_len ad av h]; exact hn)
  unfold rb_ls
  rw [rb_al_args ad av 0 _ h]
  have : (av.map some ++ List.replicate (n - av.length) (none : Option rb_V)).length = n := by simp; omega
  rw [this]
  exact h1
/-- the method's name -/
def rb_nm (Φ : rb_F) (nm : String) : Prop := match Φ with
  | (_, _, _, _, _, _, _, _, meth, _, _, _, _, _, _) => meth.name = nm
theorem rb_startN {l : Launch} {X : rb_X} {y : MethodName} {cc : ByteArray} {maxL : Nat} {ret : Option FieldType} {fr lo mc ms : Nat} {av : List rb_V} {G : rb_G} {Post : Option rb_V → rb_G → Prop} (own : String) (hy : y.cls = own) (hpl : plainName own = true) (hc1 : rb_c1 (av.map some) = true) (hn : av.length ≤ maxL)
    (body : ∀ Φ, rb_C Φ own cc maxL fr lo mc ms → rb_E Φ ret Post mc ms → rb_nm Φ y.name → rb_W Φ 0 0 0 (av.map some ++ List.replicate (maxL - av.length) none) [] G) : rb_N l X y (.code y cc maxL ret) fr lo mc ms av G Post := by
  intro hl A ad
  refine Met.ofW (cc := cc) (maxL := maxL) (ret := ret) (by rw [hy]; exact hpl) rfl ?_
  intro p e s m args below meth c s₁ B hml hv
  obtain ⟨rfl, hA, hP, hK1, hK2, hok⟩ := hv
  have hts0 := atoms_spec (ws := .code y cc maxL ret :: TS) B.pre
  have K := body (p, l, e, (headSpec (.code y cc maxL ret :: TS) { frames := fr, cells := mc, slots := ms, locals := lo }).room, s, m, (av.map (rb_c ad)).toArray, below, meth, c, MQ below (rb_Q X A ad G Post) (av.map (rb_c ad)).toArray s mc ms A, X, A, ad, G)
    ⟨B.exec, B.bytes, hml, by rw [← hy]; exact findClass_of_methodNamed B.named, fun w hw => hts0 w (List.mem_cons_of_mem _ hw), B.notSynchronized, rfl, hl, hK1, hK2, hA⟩ ⟨B.returns, fun _ _ _ h => h⟩ (name_of_methodNamed B.named B.method).1
  rw [lg_entry_eq]
  exact K ad s.heap [] _ hP rb_nx.rf va_S.rf (rb_entry ad av hc1 hn) (fun v hv => by cases hv) (fun v hv => by
    rcases List.mem_append.mp hv with h | h
    · obtain ⟨w, hw, e⟩ := List.mem_map.mp h
      cases e
      exact hok v hw
    · cases (List.mem_replicate.mp h).2)
theorem rb_startM {l : Launch} {X : rb_X} {y : MethodName} {cc : ByteArray} {maxL : Nat} {ret : Option FieldType} {fr lo mc ms : Nat} {av : List rb_V} {G : rb_G} {Post : Option rb_V → rb_G → Prop} {PX : String → rb_G → Prop} (own : String) (hy : y.cls = own) (hpl : plainName own = true) (hc1 : rb_c1 (av.map some) = true) (hn : av.length ≤ maxL)
    (body : ∀ Φ, rb_C Φ own cc maxL fr lo mc ms → rb_E Φ ret Post mc ms → rb_EX Φ PX mc ms → rb_W Φ 0 0 0 (av.map some ++ List.replicate (maxL - av.length) none) [] G) : rb_M l X y (.code y cc maxL ret) fr lo mc ms av G Post PX := by
  intro hl A ad
  refine vx_ofW (cc := cc) (maxL := maxL) (ret := ret) (by rw [hy]; exact hpl) rfl ?_
  intro p e s m args below meth c s₁ B hml htab hv
  obtain ⟨rfl, hA, hP, hK1, hK2, hok⟩ := hv
  have hts0 := atoms_spec (ws := .code y cc maxL ret :: TS) B.pre
  have K := body (p, l, e, (headSpec (.code y cc maxL ret :: TS) { frames := fr, cells := mc, slots := ms, locals := lo }).room, s, m, (av.map (rb_c ad)).toArray, below, meth, c, vx_MQ below (rb_Q X A ad G Post) (rb_QX X A ad G PX) (av.map (rb_c ad)).toArray s mc ms A, X, A, ad, G)
    ⟨B.exec, B.bytes, hml, by rw [← hy]; exact findClass_of_methodNamed B.named, fun w hw => hts0 w (List.mem_cons_of_mem _ hw), B.notSynchronized, rfl, hl, hK1, hK2, hA⟩ ⟨B.returns, fun _ _ _ h => vx_ret h⟩ ⟨htab, _, rfl⟩
  rw [lg_entry_eq]
  exact K ad s.heap [] _ hP rb_nx.rf va_S.rf (rb_entry ad av hc1 hn) (fun v hv => by cases hv) (fun v hv => by
    rcases List.mem_append.mp hv with h | h
    · obtain ⟨w, hw, e⟩ := List.mem_map.mp h
      cases e
      exact hok v hw
    · cases (List.mem_replicate.mp h).2)
end
section
section
variable {Φ : rb_F} {own : String} {cc : ByteArray} {nL fr lo mc ms cells slots pc : Nat} {Lv Lv' : List (Option rb_V)} {st : List rb_V} {G : rb_G}
theorem rb_iconst (C : rb_C Φ own cc nL fr lo mc ms) {n : Int} {v : Int32} (hd : decode cc pc = .ok (.iconst n, 1)) (hc : Int32.ofInt n = v) (kk : rb_W Φ cells slots (pc + 1) Lv (rbI v :: st) G) : rb_W Φ cells slots pc Lv st G := by
  obtain ⟨p, l, e, R, s, m, args, below, meth, c, Q, X, A, ad0, G0⟩ := Φ
  intro ad H locs ls hP hn hS hl ho hv
  exact lv_iconst C.1 C.2.1 hd hc (kk ad H locs ls hP hn hS hl (ho.cons (rb_ok_i _ _)) hv)
theorem rb_bipush (C : rb_C Φ own cc nL fr lo mc ms) {n : Int} {v : Int32} (hd : decode cc pc = .ok (.bipush n, 2)) (hc : (Int8.ofInt n).toInt32 = v) (kk : rb_W Φ cells slots (pc + 2) Lv (rbI v :: st) G) : rb_W Φ cells slots pc Lv st G := by
  obtain ⟨p, l, e, R, s, m, args, below, meth, c, Q, X, A, ad0, G0⟩ := Φ
  intro ad H locs ls hP hn hS hl ho hv
  exact lv_bipush C.1 C.2.1 hd hc (kk ad H locs ls hP hn hS hl (ho.cons (rb_ok_i _ _)) hv)
theorem rb_sipush (C : rb_C Φ own cc nL fr lo mc ms) {n : Int} {v : Int32} (hd : decode cc pc = .ok (.sipush n, 3)) (hc : (Int16.ofInt n).toInt32 = v) (kk : rb_W Φ cells slots (pc + 3) Lv (rbI v :: st) G) : rb_W Φ cells slots pc Lv st G := by
  obtain ⟨p, l, e, R, s, m, args, below, meth, c, Q, X, A, ad0, G0⟩ := Φ
  intro ad H locs ls hP hn hS hl ho hv
  exact lv_sipush C.1 C.2.1 hd hc (kk ad H locs ls hP hn hS hl (ho.cons (rb_ok_i _ _)) hv)
theorem rb_lconst (C : rb_C Φ own cc nL fr lo mc ms) {n : Fin 2} {v : Int64} (hd : decode cc pc = .ok (.lconst n, 1)) (hc : Int64.ofNat (n : Nat) = v) (kk : rb_W Φ cells slots (pc + 1) Lv (rbL v :: st) G) : rb_W Φ cells slots pc Lv st G := by
  obtain ⟨p, l, e, R, s, m, args, below, meth, c, Q, X, A, ad0, G0⟩ := Φ
  intro ad H locs ls hP hn hS hl ho hv
  exact lv_lconst C.1 C.2.1 hd hc (kk ad H locs ls hP hn hS hl (ho.cons (rb_ok_l _ _)) hv)
theorem rb_null (C : rb_C Φ own cc nL fr lo mc ms) (hd : decode cc pc = .ok (.aconst_null, 1)) (kk : rb_W Φ cells slots (pc + 1) Lv (rbO none :: st) G) : rb_W Φ cells slots pc Lv st G := by
  obtain ⟨p, l, e, R, s, m, args, below, meth, c, Q, X, A, ad0, G0⟩ := Φ
  intro ad H locs ls hP hn hS hl ho hv
  exact lv_null C.1 C.2.1 hd (kk ad H locs ls hP hn hS hl (ho.cons (rb_ok_n _)) hv)
theorem rb_iload_n (C : rb_C Φ own cc nL fr lo mc ms) {k : Fin 4} {x : Int32} (hd : decode cc pc = .ok (.iload_n k, 1)) (hi : Lv[(k : Nat)]? = some (some (rbI x))) (kk : rb_W Φ cells slots (pc + 1) Lv (rbI x :: st) G) : rb_W Φ cells slots pc Lv st G := by
  obtain ⟨p, l, e, R, s, m, args, below, meth, c, Q, X, A, ad0, G0⟩ := Φ
  intro ad H locs ls hP hn hS hl ho hv
  exact lv_iload_n C.1 C.2.1 hd rfl (hl.get hi) (kk ad H locs ls hP hn hS hl (ho.cons (rb_ok_i _ _)) hv)
theorem rb_iload (C : rb_C Φ own cc nL fr lo mc ms) {i : Nat} {x : Int32} (hd : decode cc pc = .ok (.iload i, 2)) (hi : Lv[i]? = some (some (rbI x))) (kk : rb_W Φ cells slots (pc + 2) Lv (rbI x :: st) G) : rb_W Φ cells slots pc Lv st G := by
  obtain ⟨p, l, e, R, s, m, args, below, meth, c, Q, X, A, ad0, G0⟩ := Φ
  intro ad H locs ls hP hn hS hl ho hv
  exact lv_iload C.1 C.2.1 hd (hl.get hi) (kk ad H locs ls hP hn hS hl (ho.cons (rb_ok_i _ _)) hv)
theorem rb_aload_n (C : rb_C Φ own cc nL fr lo mc ms) {k : Fin 4} {o : Option rb_R} (hd : decode cc pc = .ok (.aload_n k, 1)) (hi : Lv[(k : Nat)]? = some (some (rbO o))) (kk : rb_W Φ cells slots (pc + 1) Lv (rbO o :: st) G) : rb_W Φ cells slots pc Lv st G := by
  obtain ⟨p, l, e, R, s, m, args, below, meth, c, Q, X, A, ad0, G0⟩ := Φ
  intro ad H locs ls hP hn hS hl ho hv
  have hg := hl.get hi
  have hk := kk ad H locs ls hP hn hS hl (ho.cons (hv _ (List.mem_of_getElem? hi))) hv
  cases o with
  | none => exact lv_aload_nN C.1 C.2.1 hd rfl hg hk
  | some r => exact lv_aload_n C.1 C.2.1 hd rfl hg hk
theorem rb_aload (C : rb_C Φ own cc nL fr lo mc ms) {i : Nat} {o : Option rb_R} (hd : decode cc pc = .ok (.aload i, 2)) (hi : Lv[i]? = some (some (rbO o))) (kk : rb_W Φ cells slots (pc + 2) Lv (rbO o :: st) G) : rb_W Φ cells slots pc Lv st G := by
  obtain ⟨p, l, e, R, s, m, args, below, meth, c, Q, X, A, ad0, G0⟩ := Φ
  intro ad H locs ls hP hn hS hl ho hv
  have hg := hl.get hi
  have hk := kk ad H locs ls hP hn hS hl (ho.cons (hv _ (List.mem_of_getElem? hi))) hv
  cases o with
  | none => exact lv_aloadN C.1 C.2.1 hd hg hk
  | some r => exact lv_aload C.1 C.2.1 hd hg hk
theorem rb_okO_set {v : rb_V} {i : Nat} (h : rb_okO G Lv) (hv : rb_ok G v) (hL : Lv.set i (some v) = Lv') : rb_okO G Lv' := by
  subst hL
  intro w hw
  rcases List.mem_or_eq_of_mem_set hw with h1 | h1
  · exact h w h1
  · cases h1; exact hv
theorem rb_istore_n (C : rb_C Φ own cc nL fr lo mc ms) {k : Fin 4} {x : Int32} (hd : decode cc pc = .ok (.istore_n k, 1)) (hi : (k : Nat) < Lv.length) (h1 : rb_c1 Lv = true) (hL : Lv.set (k : Nat) (some (rbI x)) = Lv') (kk : rb_W Φ cells slots (pc + 1) Lv' st G) : rb_W Φ cells slots pc Lv (rbI x :: st) G := by
  obtain ⟨p, l, e, R, s, m, args, below, meth, c, Q, X, A, ad0, G0⟩ := Φ
  intro ad H locs ls hP hn hS hl ho hv
  exact lv_istore_n C.1 C.2.1 hd rfl hl hi rfl (fun ls' hl' => kk ad H locs ls' hP hn hS (hL ▸ rb_ls.store hi hl' (rb_c1_use h1)) ho.tl (rb_okO_set hv (rb_ok_i _ _) hL))
theorem rb_istore (C : rb_C Φ own cc nL fr lo mc ms) {i : Nat} {x : Int32} (hd : decode cc pc = .ok (.istore i, 2)) (hi : i < Lv.length) (h1 : rb_c1 Lv = true) (hL : Lv.set i (some (rbI x)) = Lv') (kk : rb_W Φ cells slots (pc + 2) Lv' st G) : rb_W Φ cells slots pc Lv (rbI x :: st) G := by
  obtain ⟨p, l, e, R, s, m, args, below, meth, c, Q, X, A, ad0, G0⟩ := Φ
  intro ad H locs ls hP hn hS hl ho hv
  exact lv_istore C.1 C.2.1 hd hl hi rfl (fun ls' hl' => kk ad H locs ls' hP hn hS (hL ▸ rb_ls.store hi hl' (rb_c1_use h1)) ho.tl (rb_okO_set hv (rb_ok_i _ _) hL))
theorem rb_astore_n (C : rb_C Φ own cc nL fr lo mc ms) {k : Fin 4} {o : Option rb_R} (hd : decode cc pc = .ok (.astore_n k, 1)) (hi : (k : Nat) < Lv.length) (h1 : rb_c1 Lv = true) (hL : Lv.set (k : Nat) (some (rbO o)) = Lv') (kk : rb_W Φ cells slots (pc + 1) Lv' st G) : rb_W Φ cells slots pc Lv (rbO o :: st) G := by
  obtain ⟨p, l, e, R, s, m, args, below, meth, c, Q, X, A, ad0, G0⟩ := Φ
  intro ad H locs ls hP hn hS hl ho hv
  cases o with
  | none => exact lv_astore_nN C.1 C.2.1 hd rfl hl hi rfl (fun ls' hl' => kk ad H locs ls' hP hn hS (hL ▸ rb_ls.store (v := rbO none) hi hl' (rb_c1_use h1)) ho.tl (rb_okO_set hv ho.hd hL))
  | some r => exact lv_astore_n C.1 C.2.1 hd rfl hl hi rfl (fun ls' hl' => kk ad H locs ls' hP hn hS (hL ▸ rb_ls.store (v := rbO (some r)) hi hl' (rb_c1_use h1)) ho.tl (rb_okO_set hv ho.hd hL))
theorem rb_astore (C : rb_C Φ own cc nL fr lo mc ms) {i : Nat} {o : Option rb_R} (hd : decode cc pc = .ok (.astore i, 2)) (hi : i < Lv.length) (h1 : rb_c1 Lv = true) (hL : Lv.set i (some (rbO o)) = Lv') (kk : rb_W Φ cells slots (pc + 2) Lv' st G) : rb_W Φ cells slots pc Lv (rbO o :: st) G := by
  obtain ⟨p, l, e, R, s, m, args, below, meth, c, Q, X, A, ad0, G0⟩ := Φ
  intro ad H locs ls hP hn hS hl ho hv
  cases o with
  | none => exact lv_astoreN C.1 C.2.1 hd hl hi rfl (fun ls' hl' => kk ad H locs ls' hP hn hS (hL ▸ rb_ls.store (v := rbO none) hi hl' (rb_c1_use h1)) ho.tl (rb_okO_set hv ho.hd hL))
  | some r => exact lv_astore C.1 C.2.1 hd hl hi rfl (fun ls' hl' => kk ad H locs ls' hP hn hS (hL ▸ rb_ls.store (v := rbO (some r)) hi hl' (rb_c1_use h1)) ho.tl (rb_okO_set hv ho.hd hL))
theorem rb_iinc (C : rb_C Φ own cc nL fr lo mc ms) {i : Nat} {n : Int} {x v : Int32} (hd : decode cc pc = .ok (.iinc i n, 3)) (hg : Lv[i]? = some (some (rbI x))) (hx : x + Int32.ofInt n = v) (h1 : rb_c1 Lv = true) (hL : Lv.set i (some (rbI v)) = Lv') (kk : rb_W Φ cells slots (pc + 3) Lv' st G) : rb_W Φ cells slots pc Lv st G := by
  obtain ⟨p, l, e, R, s, m, args, below, meth, c, Q, X, A, ad0, G0⟩ := Φ
  intro ad H locs ls hP hn hS hl ho hv
  have hi : i < Lv.length := (List.getElem?_eq_some_iff.mp hg).1
  obtain ⟨j, hj⟩ : ∃ j : Nat, (rb_al ad 0 Lv)[j]? = some (i, .int x) := List.getElem?_of_mem ((rb_al_mem ad Lv 0 _).mpr ⟨i, rbI x, hg, by rw [Nat.zero_add]; rfl⟩)
  exact lv_iinc C.1 C.2.1 hd hl hj hx hi rfl (fun ls' hl' => kk ad H locs ls' hP hn hS (hL ▸ rb_ls.store (v := rbI v) hi hl' (rb_c1_use h1)) ho (rb_okO_set hv (rb_ok_i _ _) hL))
theorem rb_iadd (C : rb_C Φ own cc nL fr lo mc ms) {x y : Int32} (hd : decode cc pc = .ok (.iadd, 1)) (kk : rb_W Φ cells slots (pc + 1) Lv (rbI (x + y) :: st) G) : rb_W Φ cells slots pc Lv (rbI y :: rbI x :: st) G := by
  obtain ⟨p, l, e, R, s, m, args, below, meth, c, Q, X, A, ad0, G0⟩ := Φ
  intro ad H locs ls hP hn hS hl ho hv
  exact lv_iadd C.1 C.2.1 hd (kk ad H locs ls hP hn hS hl (ho.tl.tl.cons (rb_ok_i _ _)) hv)
theorem rb_isub (C : rb_C Φ own cc nL fr lo mc ms) {x y : Int32} (hd : decode cc pc = .ok (.isub, 1)) (kk : rb_W Φ cells slots (pc + 1) Lv (rbI (x - y) :: st) G) : rb_W Φ cells slots pc Lv (rbI y :: rbI x :: st) G := by
  obtain ⟨p, l, e, R, s, m, args, below, meth, c, Q, X, A, ad0, G0⟩ := Φ
  intro ad H locs ls hP hn hS hl ho hv
  exact lv_isub C.1 C.2.1 hd (kk ad H locs ls hP hn hS hl (ho.tl.tl.cons (rb_ok_i _ _)) hv)
theorem rb_imul (C : rb_C Φ own cc nL fr lo mc ms) {x y : Int32} (hd : decode cc pc = .ok (.imul, 1)) (kk : rb_W Φ cells slots (pc + 1) Lv (rbI (x * y) :: st) G) : rb_W Φ cells slots pc Lv (rbI y :: rbI x :: st) G := by
  obtain ⟨p, l, e, R, s, m, args, below, meth, c, Q, X, A, ad0, G0⟩ := Φ
  intro ad H locs ls hP hn hS hl ho hv
  exact lv_imul C.1 C.2.1 hd (kk ad H locs ls hP hn hS hl (ho.tl.tl.cons (rb_ok_i _ _)) hv)
theorem rb_iand (C : rb_C Φ own cc nL fr lo mc ms) {x y : Int32} (hd : decode cc pc = .ok (.iand, 1)) (kk : rb_W Φ cells slots (pc + 1) Lv (rbI (x &&& y) :: st) G) : rb_W Φ cells slots pc Lv (rbI y :: rbI x :: st) G := by
  obtain ⟨p, l, e, R, s, m, args, below, meth, c, Q, X, A, ad0, G0⟩ := Φ
  intro ad H locs ls hP hn hS hl ho hv
  exact lv_iand C.1 C.2.1 hd (kk ad H locs ls hP hn hS hl (ho.tl.tl.cons (rb_ok_i _ _)) hv)
theorem rb_ishr (C : rb_C Φ own cc nL fr lo mc ms) {x y : Int32} (hd : decode cc pc = .ok (.ishr, 1)) (kk : rb_W Φ cells slots (pc + 1) Lv (rbI (x >>> (y &&& 31)) :: st) G) : rb_W Φ cells slots pc Lv (rbI y :: rbI x :: st) G := by
  obtain ⟨p, l, e, R, s, m, args, below, meth, c, Q, X, A, ad0, G0⟩ := Φ
  intro ad H locs ls hP hn hS hl ho hv
  exact lv_ishr C.1 C.2.1 hd (kk ad H locs ls hP hn hS hl (ho.tl.tl.cons (rb_ok_i _ _)) hv)
theorem rb_idiv (C : rb_C Φ own cc nL fr lo mc ms) {x y : Int32} (hd : decode cc pc = .ok (.idiv, 1)) (hne : ¬ y = 0) (kk : rb_W Φ cells slots (pc + 1) Lv (rbI (x / y) :: st) G) : rb_W Φ cells slots pc Lv (rbI y :: rbI x :: st) G := by
  obtain ⟨p, l, e, R, s, m, args, below, meth, c, Q, X, A, ad0, G0⟩ := Φ
  intro ad H locs ls hP hn hS hl ho hv
  exact lv_idiv C.1 C.2.1 hd hne (kk ad H locs ls hP hn hS hl (ho.tl.tl.cons (rb_ok_i _ _)) hv)
theorem rb_irem (C : rb_C Φ own cc nL fr lo mc ms) {x y : Int32} (hd : decode cc pc = .ok (.irem, 1)) (hne : ¬ y = 0) (kk : rb_W Φ cells slots (pc + 1) Lv (rbI (x - x / y * y) :: st) G) : rb_W Φ cells slots pc Lv (rbI y :: rbI x :: st) G := by
  obtain ⟨p, l, e, R, s, m, args, below, meth, c, Q, X, A, ad0, G0⟩ := Φ
  intro ad H locs ls hP hn hS hl ho hv
  exact lv_irem C.1 C.2.1 hd hne (kk ad H locs ls hP hn hS hl (ho.tl.tl.cons (rb_ok_i _ _)) hv)
theorem rb_lmul (C : rb_C Φ own cc nL fr lo mc ms) {x y : Int64} (hd : decode cc pc = .ok (.lmul, 1)) (kk : rb_W Φ cells slots (pc + 1) Lv (rbL (x * y) :: st) G) : rb_W Φ cells slots pc Lv (rbL y :: rbL x :: st) G := by
  obtain ⟨p, l, e, R, s, m, args, below, meth, c, Q, X, A, ad0, G0⟩ := Φ
  intro ad H locs ls hP hn hS hl ho hv
  exact lv_lmul C.1 C.2.1 hd (kk ad H locs ls hP hn hS hl (ho.tl.tl.cons (rb_ok_l _ _)) hv)
theorem rb_lcmp (C : rb_C Φ own cc nL fr lo mc ms) {x y : Int64} (hd : decode cc pc = .ok (.lcmp, 1)) (kk : rb_W Φ cells slots (pc + 1) Lv (rbI (lg_cmp x y) :: st) G) : rb_W Φ cells slots pc Lv (rbL y :: rbL x :: st) G := by
  obtain ⟨p, l, e, R, s, m, args, below, meth, c, Q, X, A, ad0, G0⟩ := Φ
  intro ad H locs ls hP hn hS hl ho hv
  exact W.lcmp C.1 C.2.1 hd (kk ad H locs ls hP hn hS hl (ho.tl.tl.cons (rb_ok_i _ _)) hv)
theorem rb_i2l (C : rb_C Φ own cc nL fr lo mc ms) {x : Int32} (hd : decode cc pc = .ok (.i2l, 1)) (kk : rb_W Φ cells slots (pc + 1) Lv (rbL x.toInt64 :: st) G) : rb_W Φ cells slots pc Lv (rbI x :: st) G := by
  obtain ⟨p, l, e, R, s, m, args, below, meth, c, Q, X, A, ad0, G0⟩ := Φ
  intro ad H locs ls hP hn hS hl ho hv
  exact lv_i2l C.1 C.2.1 hd rfl (kk ad H locs ls hP hn hS hl (ho.tl.cons (rb_ok_l _ _)) hv)
theorem rb_dup (C : rb_C Φ own cc nL fr lo mc ms) {v : rb_V} (hd : decode cc pc = .ok (.dup, 1)) (hc : rb_cat v = 1) (kk : rb_W Φ cells slots (pc + 1) Lv (v :: v :: st) G) : rb_W Φ cells slots pc Lv (v :: st) G := by
  obtain ⟨p, l, e, R, s, m, args, below, meth, c, Q, X, A, ad0, G0⟩ := Φ
  intro ad H locs ls hP hn hS hl ho hv
  exact lv_dup C.1 C.2.1 hd (by rw [rb_cat_c, hc]) (kk ad H locs ls hP hn hS hl (ho.cons ho.hd) hv)
theorem rb_pop (C : rb_C Φ own cc nL fr lo mc ms) {v : rb_V} (hd : decode cc pc = .ok (.pop, 1)) (hc : rb_cat v = 1) (kk : rb_W Φ cells slots (pc + 1) Lv st G) : rb_W Φ cells slots pc Lv (v :: st) G := by
  obtain ⟨p, l, e, R, s, m, args, below, meth, c, Q, X, A, ad0, G0⟩ := Φ
  intro ad H locs ls hP hn hS hl ho hv
  exact lv_pop C.1 C.2.1 hd (by rw [rb_cat_c, hc]) (kk ad H locs ls hP hn hS hl ho.tl hv)
theorem rb_dup_x1 (C : rb_C Φ own cc nL fr lo mc ms) {v w : rb_V} (hd : decode cc pc = .ok (.dup_x1, 1)) (hc : rb_cat v = 1) (hw : rb_cat w = 1) (kk : rb_W Φ cells slots (pc + 1) Lv (v :: w :: v :: st) G) : rb_W Φ cells slots pc Lv (v :: w :: st) G := by
  obtain ⟨p, l, e, R, s, m, args, below, meth, c, Q, X, A, ad0, G0⟩ := Φ
  intro ad H locs ls hP hn hS hl ho hv
  exact lv_dup_x1 C.1 C.2.1 hd (by rw [rb_cat_c, hc]) (by rw [rb_cat_c, hw]) (kk ad H locs ls hP hn hS hl (((ho.tl.tl.cons ho.hd).cons ho.tl.hd).cons ho.hd) hv)
theorem rb_dup2 (C : rb_C Φ own cc nL fr lo mc ms) {v w : rb_V} (hd : decode cc pc = .ok (.dup2, 1)) (hc : rb_cat v = 1) (hw : rb_cat w = 1) (kk : rb_W Φ cells slots (pc + 1) Lv (v :: w :: v :: w :: st) G) : rb_W Φ cells slots pc Lv (v :: w :: st) G := by
  obtain ⟨p, l, e, R, s, m, args, below, meth, c, Q, X, A, ad0, G0⟩ := Φ
  intro ad H locs ls hP hn hS hl ho hv
  exact lv_dup2_11 C.1 C.2.1 hd (by rw [rb_cat_c, hc]) (by rw [rb_cat_c, hw]) (kk ad H locs ls hP hn hS hl ((ho.cons ho.tl.hd).cons ho.hd) hv)
theorem rb_if_eq (C : rb_C Φ own cc nL fr lo mc ms) {x : Int32} {off : Int} (tgt : Nat) (hd : decode cc pc = .ok (.ifCond .eq off, 3)) (ht : (pc : Int) + off = (tgt : Int)) (kt : x = 0 → rb_W Φ cells slots tgt Lv st G) (kf : ¬ x = 0 → rb_W Φ cells slots (pc + 3) Lv st G) : rb_W Φ cells slots pc Lv (rbI x :: st) G := by
  obtain ⟨p, l, e, R, s, m, args, below, meth, c, Q, X, A, ad0, G0⟩ := Φ
  intro ad H locs ls hP hn hS hl ho hv
  exact lv_if_eq C.1 C.2.1 hd ht (fun q => kt q ad H locs ls hP hn hS hl ho.tl hv) (fun q => kf q ad H locs ls hP hn hS hl ho.tl hv)
theorem rb_icmp_eq (C : rb_C Φ own cc nL fr lo mc ms) {x y : Int32} {off : Int} (tgt : Nat) (hd : decode cc pc = .ok (.if_icmp .eq off, 3)) (ht : (pc : Int) + off = (tgt : Int)) (kt : x = y → rb_W Φ cells slots tgt Lv st G) (kf : ¬ x = y → rb_W Φ cells slots (pc + 3) Lv st G) : rb_W Φ cells slots pc Lv (rbI y :: rbI x :: st) G := by
  obtain ⟨p, l, e, R, s, m, args, below, meth, c, Q, X, A, ad0, G0⟩ := Φ
  intro ad H locs ls hP hn hS hl ho hv
  exact lv_icmp_eq C.1 C.2.1 hd ht (fun q => kt q ad H locs ls hP hn hS hl ho.tl.tl hv) (fun q => kf q ad H locs ls hP hn hS hl ho.tl.tl hv)
theorem rb_if_ne (C : rb_C Φ own cc nL fr lo mc ms) {x : Int32} {off : Int} (tgt : Nat) (hd : decode cc pc = .ok (.ifCond .ne off, 3)) (ht : (pc : Int) + off = (tgt : Int)) (kt : ¬ x = 0 → rb_W Φ cells slots tgt Lv st G) (kf : x = 0 → rb_W Φ cells slots (pc + 3) Lv st G) : rb_W Φ cells slots pc Lv (rbI x :: st) G := by
  obtain ⟨p, l, e, R, s, m, args, below, meth, c, Q, X, A, ad0, G0⟩ := Φ
  intro ad H locs ls hP hn hS hl ho hv
  exact lv_if_ne C.1 C.2.1 hd ht (fun q => kt q ad H locs ls hP hn hS hl ho.tl hv) (fun q => kf q ad H locs ls hP hn hS hl ho.tl hv)
theorem rb_icmp_ne (C : rb_C Φ own cc nL fr lo mc ms) {x y : Int32} {off : Int} (tgt : Nat) (hd : decode cc pc = .ok (.if_icmp .ne off, 3)) (ht : (pc : Int) + off = (tgt : Int)) (kt : ¬ x = y → rb_W Φ cells slots tgt Lv st G) (kf : x = y → rb_W Φ cells slots (pc + 3) Lv st G) : rb_W Φ cells slots pc Lv (rbI y :: rbI x :: st) G := by
  obtain ⟨p, l, e, R, s, m, args, below, meth, c, Q, X, A, ad0, G0⟩ := Φ
  intro ad H locs ls hP hn hS hl ho hv
  exact lv_icmp_ne C.1 C.2.1 hd ht (fun q => kt q ad H locs ls hP hn hS hl ho.tl.tl hv) (fun q => kf q ad H locs ls hP hn hS hl ho.tl.tl hv)
theorem rb_if_lt (C : rb_C Φ own cc nL fr lo mc ms) {x : Int32} {off : Int} (tgt : Nat) (hd : decode cc pc = .ok (.ifCond .lt off, 3)) (ht : (pc : Int) + off = (tgt : Int)) (kt : x < 0 → rb_W Φ cells slots tgt Lv st G) (kf : ¬ x < 0 → rb_W Φ cells slots (pc + 3) Lv st G) : rb_W Φ cells slots pc Lv (rbI x :: st) G := by
  obtain ⟨p, l, e, R, s, m, args, below, meth, c, Q, X, A, ad0, G0⟩ := Φ
  intro ad H locs ls hP hn hS hl ho hv
  exact lv_if_lt C.1 C.2.1 hd ht (fun q => kt q ad H locs ls hP hn hS hl ho.tl hv) (fun q => kf q ad H locs ls hP hn hS hl ho.tl hv)
theorem rb_icmp_lt (C : rb_C Φ own cc nL fr lo mc ms) {x y : Int32} {off : Int} (tgt : Nat) (hd : decode cc pc = .ok (.if_icmp .lt off, 3)) (ht : (pc : Int) + off = (tgt : Int)) (kt : x < y → rb_W Φ cells slots tgt Lv st G) (kf : ¬ x < y → rb_W Φ cells slots (pc + 3) Lv st G) : rb_W Φ cells slots pc Lv (rbI y :: rbI x :: st) G := by
  obtain ⟨p, l, e, R, s, m, args, below, meth, c, Q, X, A, ad0, G0⟩ := Φ
  intro ad H locs ls hP hn hS hl ho hv
  exact lv_icmp_lt C.1 C.2.1 hd ht (fun q => kt q ad H locs ls hP hn hS hl ho.tl.tl hv) (fun q => kf q ad H locs ls hP hn hS hl ho.tl.tl hv)
theorem rb_if_ge (C : rb_C Φ own cc nL fr lo mc ms) {x : Int32} {off : Int} (tgt : Nat) (hd : decode cc pc = .ok (.ifCond .ge off, 3)) (ht : (pc : Int) + off = (tgt : Int)) (kt : 0 ≤ x → rb_W Φ cells slots tgt Lv st G) (kf : ¬ 0 ≤ x → rb_W Φ cells slots (pc + 3) Lv st G) : rb_W Φ cells slots pc Lv (rbI x :: st) G := by
  obtain ⟨p, l, e, R, s, m, args, below, meth, c, Q, X, A, ad0, G0⟩ := Φ
  intro ad H locs ls hP hn hS hl ho hv
  exact lv_if_ge C.1 C.2.1 hd ht (fun q => kt q ad H locs ls hP hn hS hl ho.tl hv) (fun q => kf q ad H locs ls hP hn hS hl ho.tl hv)
theorem rb_icmp_ge (C : rb_C Φ own cc nL fr lo mc ms) {x y : Int32} {off : Int} (tgt : Nat) (hd : decode cc pc = .ok (.if_icmp .ge off, 3)) (ht : (pc : Int) + off = (tgt : Int)) (kt : y ≤ x → rb_W Φ cells slots tgt Lv st G) (kf : ¬ y ≤ x → rb_W Φ cells slots (pc + 3) Lv st G) : rb_W Φ cells slots pc Lv (rbI y :: rbI x :: st) G := by
  obtain ⟨p, l, e, R, s, m, args, below, meth, c, Q, X, A, ad0, G0⟩ := Φ
  intro ad H locs ls hP hn hS hl ho hv
  exact lv_icmp_ge C.1 C.2.1 hd ht (fun q => kt q ad H locs ls hP hn hS hl ho.tl.tl hv) (fun q => kf q ad H locs ls hP hn hS hl ho.tl.tl hv)
theorem rb_if_gt (C : rb_C Φ own cc nL fr lo mc ms) {x : Int32} {off : Int} (tgt : Nat) (hd : decode cc pc = .ok (.ifCond .gt off, 3)) (ht : (pc : Int) + off = (tgt : Int)) (kt : 0 < x → rb_W Φ cells slots tgt Lv st G) (kf : ¬ 0 < x → rb_W Φ cells slots (pc + 3) Lv st G) : rb_W Φ cells slots pc Lv (rbI x :: st) G := by
  obtain ⟨p, l, e, R, s, m, args, below, meth, c, Q, X, A, ad0, G0⟩ := Φ
  intro ad H locs ls hP hn hS hl ho hv
  exact lv_if_gt C.1 C.2.1 hd ht (fun q => kt q ad H locs ls hP hn hS hl ho.tl hv) (fun q => kf q ad H locs ls hP hn hS hl ho.tl hv)
theorem rb_icmp_gt (C : rb_C Φ own cc nL fr lo mc ms) {x y : Int32} {off : Int} (tgt : Nat) (hd : decode cc pc = .ok (.if_icmp .gt off, 3)) (ht : (pc : Int) + off = (tgt : Int)) (kt : y < x → rb_W Φ cells slots tgt Lv st G) (kf : ¬ y < x → rb_W Φ cells slots (pc + 3) Lv st G) : rb_W Φ cells slots pc Lv (rbI y :: rbI x :: st) G := by
  obtain ⟨p, l, e, R, s, m, args, below, meth, c, Q, X, A, ad0, G0⟩ := Φ
  intro ad H locs ls hP hn hS hl ho hv
  exact lv_icmp_gt C.1 C.2.1 hd ht (fun q => kt q ad H locs ls hP hn hS hl ho.tl.tl hv) (fun q => kf q ad H locs ls hP hn hS hl ho.tl.tl hv)
theorem rb_if_le (C : rb_C Φ own cc nL fr lo mc ms) {x : Int32} {off : Int} (tgt : Nat) (hd : decode cc pc = .ok (.ifCond .le off, 3)) (ht : (pc : Int) + off = (tgt : Int)) (kt : x ≤ 0 → rb_W Φ cells slots tgt Lv st G) (kf : ¬ x ≤ 0 → rb_W Φ cells slots (pc + 3) Lv st G) : rb_W Φ cells slots pc Lv (rbI x :: st) G := by
  obtain ⟨p, l, e, R, s, m, args, below, meth, c, Q, X, A, ad0, G0⟩ := Φ
  intro ad H locs ls hP hn hS hl ho hv
  exact lv_if_le C.1 C.2.1 hd ht (fun q => kt q ad H locs ls hP hn hS hl ho.tl hv) (fun q => kf q ad H locs ls hP hn hS hl ho.tl hv)
theorem rb_icmp_le (C : rb_C Φ own cc nL fr lo mc ms) {x y : Int32} {off : Int} (tgt : Nat) (hd : decode cc pc = .ok (.if_icmp .le off, 3)) (ht : (pc : Int) + off = (tgt : Int)) (kt : x ≤ y → rb_W Φ cells slots tgt Lv st G) (kf : ¬ x ≤ y → rb_W Φ cells slots (pc + 3) Lv st G) : rb_W Φ cells slots pc Lv (rbI y :: rbI x :: st) G := by
  obtain ⟨p, l, e, R, s, m, args, below, meth, c, Q, X, A, ad0, G0⟩ := Φ
  intro ad H locs ls hP hn hS hl ho hv
  exact lv_icmp_le C.1 C.2.1 hd ht (fun q => kt q ad H locs ls hP hn hS hl ho.tl.tl hv) (fun q => kf q ad H locs ls hP hn hS hl ho.tl.tl hv)
theorem rb_goto (C : rb_C Φ own cc nL fr lo mc ms) {off : Int} (tgt : Nat) (hd : decode cc pc = .ok (.goto off, 3)) (ht : (pc : Int) + off = (tgt : Int)) (kk : rb_W Φ cells slots tgt Lv st G) : rb_W Φ cells slots pc Lv st G := by
  obtain ⟨p, l, e, R, s, m, args, below, meth, c, Q, X, A, ad0, G0⟩ := Φ
  intro ad H locs ls hP hn hS hl ho hv
  exact lv_goto C.1 C.2.1 hd ht (kk ad H locs ls hP hn hS hl ho hv)
theorem rb_ifnonnull (C : rb_C Φ own cc nL fr lo mc ms) {o : Option rb_R} {off : Int} (tgt : Nat) (hd : decode cc pc = .ok (.ifnonnull off, 3)) (ht : (pc : Int) + off = (tgt : Int)) (kt : ∀ r, o = some r → rb_W Φ cells slots tgt Lv st G) (kf : o = none → rb_W Φ cells slots (pc + 3) Lv st G) : rb_W Φ cells slots pc Lv (rbO o :: st) G := by
  obtain ⟨p, l, e, R, s, m, args, below, meth, c, Q, X, A, ad0, G0⟩ := Φ
  intro ad H locs ls hP hn hS hl ho hv
  cases o with
  | none => exact lv_ifnonnullN C.1 C.2.1 hd (kf rfl ad H locs ls hP hn hS hl ho.tl hv)
  | some r => exact lv_ifnonnull C.1 C.2.1 hd ht (kt r rfl ad H locs ls hP hn hS hl ho.tl hv)
theorem rb_ldc (C : rb_C Φ own cc nL fr lo mc ms) {index : Nat} {v : Int32} (hd : decode cc pc = .ok (.ldc index, 2)) (hw : Cond.constant own index v ∈ TS) (kk : rb_W Φ cells slots (pc + 2) Lv (rbI v :: st) G) : rb_W Φ cells slots pc Lv st G := by
  obtain ⟨p, l, e, R, s, m, args, below, meth, c, Q, X, A, ad0, G0⟩ := Φ
  intro ad H locs ls hP hn hS hl ho hv
  exact lv_ldc C.1 C.2.1 C.2.2.2.1 (C.2.2.2.2.1 _ hw) hd (kk ad H locs ls hP hn hS hl (ho.cons (rb_ok_i _ _)) hv)
theorem rb_ldcw (C : rb_C Φ own cc nL fr lo mc ms) {index : Nat} {v : Int32} (hd : decode cc pc = .ok (.ldc_w index, 3)) (hw : Cond.constant own index v ∈ TS) (kk : rb_W Φ cells slots (pc + 3) Lv (rbI v :: st) G) : rb_W Φ cells slots pc Lv st G := by
  obtain ⟨p, l, e, R, s, m, args, below, meth, c, Q, X, A, ad0, G0⟩ := Φ
  intro ad H locs ls hP hn hS hl ho hv
  exact lv_ldcw C.1 C.2.1 C.2.2.2.1 (C.2.2.2.2.1 _ hw) hd (kk ad H locs ls hP hn hS hl (ho.cons (rb_ok_i _ _)) hv)
theorem rb_ldc2 (C : rb_C Φ own cc nL fr lo mc ms) {index : Nat} {v : Int64} (hd : decode cc pc = .ok (.ldc2_w index, 3)) (hw : Cond.constantLong own index v ∈ TS) (kk : rb_W Φ cells slots (pc + 3) Lv (rbL v :: st) G) : rb_W Φ cells slots pc Lv st G := by
  obtain ⟨p, l, e, R, s, m, args, below, meth, c, Q, X, A, ad0, G0⟩ := Φ
  intro ad H locs ls hP hn hS hl ho hv
  exact lv_ldc2 C.1 C.2.1 C.2.2.2.1 (C.2.2.2.2.1 _ hw) hd (kk ad H locs ls hP hn hS hl (ho.cons (rb_ok_l _ _)) hv)
theorem rb_tableIn (C : rb_C Φ own cc nL fr lo mc ms) {dflt lo' hi : Int} {offs : Array Int} {len : Nat} {x : Int32} {off : Int} (tgt : Nat) (hd : decode cc pc = .ok (.tableswitch dflt lo' hi offs, len)) (h1 : ¬ x.toInt < lo') (h2 : ¬ hi < x.toInt) (hoff : offs[(x.toInt - lo').toNat]? = some off) (ht : (pc : Int) + off = (tgt : Int)) (kk : rb_W Φ cells slots tgt Lv st G) : rb_W Φ cells slots pc Lv (rbI x :: st) G := by
  obtain ⟨p, l, e, R, s, m, args, below, meth, c, Q, X, A, ad0, G0⟩ := Φ
  intro ad H locs ls hP hn hS hl ho hv
  exact lv_tableIn C.1 C.2.1 hd h1 h2 hoff ht (kk ad H locs ls hP hn hS hl ho.tl hv)
theorem rb_tableOut (C : rb_C Φ own cc nL fr lo mc ms) {dflt lo' hi : Int} {offs : Array Int} {len : Nat} {x : Int32} (tgt : Nat) (hd : decode cc pc = .ok (.tableswitch dflt lo' hi offs, len)) (h1 : x.toInt < lo' ∨ hi < x.toInt) (ht : (pc : Int) + dflt = (tgt : Int)) (kk : rb_W Φ cells slots tgt Lv st G) : rb_W Φ cells slots pc Lv (rbI x :: st) G := by
  obtain ⟨p, l, e, R, s, m, args, below, meth, c, Q, X, A, ad0, G0⟩ := Φ
  intro ad H locs ls hP hn hS hl ho hv
  exact lv_tableOut C.1 C.2.1 hd h1 ht (kk ad H locs ls hP hn hS hl ho.tl hv)
/-- fewer locals known, more room used -/
theorem rb_W.weak {cells' slots' : Nat} (kk : rb_W Φ cells' slots' pc Lv' st G) (hc : cells ≤ cells') (hs : slots ≤ slots') (hlen : Lv'.length = Lv.length) (hsub : ∀ (i : Nat) (v : rb_V), Lv'[i]? = some (some v) → Lv[i]? = some (some v)) : rb_W Φ cells slots pc Lv st G := by
  obtain ⟨p, l, e, R, s, m, args, below, meth, c, Q, X, A, ad0, G0⟩ := Φ
  intro ad H locs ls hP hn hS hl ho hv
  refine W.widen hc hs (kk ad H locs ls hP hn hS (hl.weak hlen hsub) ho fun v hv' => ?_)
  obtain ⟨i, hi⟩ := List.getElem?_of_mem hv'
  exact hv v (List.mem_of_getElem? (hsub i v hi))
theorem rb_W.room {cells' slots' : Nat} (kk : rb_W Φ cells' slots' pc Lv st G) (hc : cells ≤ cells') (hs : slots ≤ slots') : rb_W Φ cells slots pc Lv st G := rb_W.weak kk hc hs rfl (fun _ _ h => h)
/-- ends -/
theorem rb_iret (C : rb_C Φ own cc nL fr lo mc ms) {Post : Option rb_V → rb_G → Prop} (hE : rb_E Φ (some .int) Post mc ms) {v : Int32} (hd : decode cc pc = .ok (.ireturn, 1)) (hc : cells ≤ mc) (hs : slots ≤ ms) (hp : Post (some (rbI v)) G) : rb_W Φ cells slots pc Lv [rbI v] G := by
  obtain ⟨p, l, e, R, s, m, args, below, meth, c, Q, X, A, ad0, G0⟩ := Φ
  intro ad H locs ls hP hn hS hl ho hv
  have hlk : meth.locks = false := C.2.2.2.2.2.1
  exact W.widen hc hs (hE.2 H locs _ (W.iret C.1 C.2.1 hE.1 (fun t ht hW => ⟨⟨some (rbI v), G, ad, rfl, hp, hn, fun w h => by cases h; exact rb_ok_i _ _, by rw [ht]; exact hP⟩, hS.F ht⟩) hS.2.2 hd hlk))
theorem rb_zret (C : rb_C Φ own cc nL fr lo mc ms) {Post : Option rb_V → rb_G → Prop} (hE : rb_E Φ (some .boolean) Post mc ms) {v : Int32} (hd : decode cc pc = .ok (.ireturn, 1)) (hz : narrow .boolean (.int v) = .int v) (hc : cells ≤ mc) (hs : slots ≤ ms) (hp : Post (some (rbI v)) G) : rb_W Φ cells slots pc Lv [rbI v] G := by
  obtain ⟨p, l, e, R, s, m, args, below, meth, c, Q, X, A, ad0, G0⟩ := Φ
  intro ad H locs ls hP hn hS hl ho hv
  have hlk : meth.locks = false := C.2.2.2.2.2.1
  exact W.widen hc hs (hE.2 H locs _ (W.zret C.1 C.2.1 hE.1 hz (fun t ht hW => ⟨⟨some (rbI v), G, ad, rfl, hp, hn, fun w h => by cases h; exact rb_ok_i _ _, by rw [ht]; exact hP⟩, hS.F ht⟩) hS.2.2 hd hlk))
theorem rb_vret (C : rb_C Φ own cc nL fr lo mc ms) {Post : Option rb_V → rb_G → Prop} (hE : rb_E Φ none Post mc ms) (hd : decode cc pc = .ok (.return_, 1)) (hc : cells ≤ mc) (hs : slots ≤ ms) (hp : Post none G) : rb_W Φ cells slots pc Lv [] G := by
  obtain ⟨p, l, e, R, s, m, args, below, meth, c, Q, X, A, ad0, G0⟩ := Φ
  intro ad H locs ls hP hn hS hl ho hv
  have hlk : meth.locks = false := C.2.2.2.2.2.1
  exact W.widen hc hs (hE.2 H locs _ (W.vret C.1 C.2.1 hE.1 (fun t ht hW => ⟨⟨none, G, ad, rfl, hp, hn, (fun w h => nomatch h), by rw [ht]; exact hP⟩, hS.F ht⟩) hS.2.2 hd hlk))
theorem rb_aret (C : rb_C Φ own cc nL fr lo mc ms) {Post : Option rb_V → rb_G → Prop} {rt : FieldType} (hE : rb_E Φ (some rt) Post mc ms) (hrt : (∃ n, rt = .object n) ∨ ∃ t, rt = .array t) {o : Option rb_R} (hd : decode cc pc = .ok (.areturn, 1)) (hc : cells ≤ mc) (hs : slots ≤ ms) (hp : Post (some (rbO o)) G) : rb_W Φ cells slots pc Lv [rbO o] G := by
  obtain ⟨p, l, e, R, s, m, args, below, meth, c, Q, X, A, ad0, G0⟩ := Φ
  intro ad H locs ls hP hn hS hl ho hv
  have hlk : meth.locks = false := C.2.2.2.2.2.1
  exact W.widen hc hs (hE.2 H locs _ (W.aret C.1 C.2.1 hE.1 hrt (va_rf_or (o.map ad)) (fun t ht hW => ⟨⟨some (rbO o), G, ad, rfl, hp, hn, fun w h => by cases h; exact ho.hd, by rw [ht]; exact hP⟩, hS.F ht⟩) hS.2.2 hd hlk))
/-- an exception that goes through -/
theorem rb_out (C : rb_C Φ own cc nL fr lo mc ms) {PX : String → rb_G → Prop} (hE : rb_EX Φ PX mc ms) {E : String} (hc : cells ≤ mc) (hs : slots ≤ ms) (hp : PX E G) : rb_Wx Φ cells slots pc Lv st G E := by
  obtain ⟨p, l, e, R, s, m, args, below, meth, c, Q, X, A, ad0, G0⟩ := Φ
  intro ad H locs ls q ce hP hn hS hl ho hv h1 h2 h3
  obtain ⟨ht, Qc, hQ⟩ := hE
  subst hQ
  exact vx_out (fun x hx => (ht x hx).elim) C.2.2.2.2.2.1 h1 h2 h3 (fun t ht hvm => ⟨⟨G, ad, hp, hn, by rw [ht]; exact hP⟩, hS.F ht⟩) hS.2.2 hc hs
end
end
section
/-! heap rows -/
theorem rb_P.upd {X : rb_X} {ad : rb_R → Nat} {A : Nat → Prop} {G G' : rb_G} {H H1 : Heap} {r : rb_R} (hP : rb_P X ad A G H) (hr : gD G r) (hk : rb_k r.1 < 20) (he : va_at X.1 vwCl (ad r, rb_e ad X.2.1 G' r) H1) (oq : ∀ q : Nat, q ≠ ad r → H1[q]? = H[q]?) (hD : gD G' = gD G)
    (hs : ∀ r', r' ≠ r → rb_e ad X.2.1 G' r' = rb_e ad X.2.1 G r') (hcl : ∀ r1 k r2, gD G r1 → gP G' r1 k = some r2 → gD G r2) : rb_P X ad A G' H1 := by
  obtain ⟨h1, h2, h3, h4, h5⟩ := hP
  refine ⟨fun r' hr' hk' => ?_, fun r1 r2 a b => ?_, fun r1 k r2 a b => ?_, h4, h5⟩
  · rw [hD] at hr'
    obtain ⟨g1, g2⟩ := h1 r' hr' hk'
    refine ⟨g1, ?_⟩
    by_cases e : r' = r
    · subst e; exact he
    · rw [hs r' e]
      exact g2.kept (oq _ fun q => e (h2 r' r hr' hr hk' hk q))
  · rw [hD] at a b
    exact h2 r1 r2 a b
  · rw [hD] at a ⊢
    exact hcl r1 k r2 a b
theorem rb_e_sI {ad : rb_R → Nat} {cA : Nat → ClassId} {G : rb_G} {r : rb_R} {k : Nat} {v : Int32} {r' : rb_R} (h : r' ≠ r) : rb_e ad cA (sI G r k v) r' = rb_e ad cA G r' := by
  have e : gI (sI G r k v) r' = gI G r' := by funext j; exact up2_n _ _ _ _ (fun q => h q.1)
  unfold rb_e
  rw [e]
  rfl
theorem rb_e_sP {ad : rb_R → Nat} {cA : Nat → ClassId} {G : rb_G} {r : rb_R} {k : Nat} {v : Option rb_R} {r' : rb_R} (h : r' ≠ r) : rb_e ad cA (sP G r k v) r' = rb_e ad cA G r' := by
  have e : gP (sP G r k v) r' = gP G r' := by funext j; exact up2_n _ _ _ _ (fun q => h q.1)
  unfold rb_e
  rw [e]
  rfl
theorem rb_e_sJ {ad : rb_R → Nat} {cA : Nat → ClassId} {G : rb_G} {r : rb_R} {k : Nat} {v : Int64} {r' : rb_R} (h : r' ≠ r) : rb_e ad cA (sJ G r k v) r' = rb_e ad cA G r' := by
  have e : gJ (sJ G r k v) r' = gJ G r' := by funext j; exact up2_n _ _ _ _ (fun q => h q.1)
  unfold rb_e
  rw [e]
  rfl
theorem rb_cl_sP {G : rb_G} {r : rb_R} {k0 : Nat} {o : Option rb_R} (h3 : ∀ r1 k r2, gD G r1 → gP G r1 k = some r2 → gD G r2) (ho : ∀ r', o = some r' → gD G r') : ∀ r1 k r2, gD G r1 → gP (sP G r k0 o) r1 k = some r2 → gD G r2 := by
  intro r1 k r2 a b
  have b' : up2 (gP G) r k0 o r1 k = some r2 := b
  unfold up2 at b'
  split at b'
  · exact ho r2 b'
  · exact h3 r1 k r2 a b'
theorem rb_ok_o {G : rb_G} {o : Option rb_R} (h : rb_ok G (rbO o)) : ∀ r', o = some r' → gD G r' := fun r' e => h r' (by rw [e])
/-- a field: by its pool number, its class's number in vwCl, its place, whether a reference, whether final, its type -/
def rb_Fld (own : String) (idx ci k : Nat) (b fin : Bool) (ty : FieldType) : Prop := ∃ (RC : String) (TT : u_T) (N : Nat) (ty0 : Nat → FieldType), vwCl[ci]? = some (RC, TT, N) ∧ (∀ w ∈ u_ws RC TT N, w ∈ TS) ∧ k < N ∧ (rb_lay ci)[k]? = some b ∧ ci < 10 ∧
  Cond.fieldLink own idx (TT k).1 (TT k).2.1 (TT k).2.2.1 ∈ TS ∧ (∀ k, k < N → parseFieldDescriptor (TT k).2.2.1 = some (ty0 k)) ∧ (∀ a, a < N → ∀ b, b < N → a ≠ b → (TT a).2.1 ≠ (TT b).2.1) ∧ parseFieldDescriptor (TT k).2.2.1 = some ty ∧ (TT k).2.2.2 = fin ∧ (fin = true → (TT k).1 = own)
/-- .. to be read alone -/
def rb_FldR (own : String) (idx ci k : Nat) (b : Bool) : Prop := ∃ (RC : String) (TT : u_T) (N : Nat), vwCl[ci]? = some (RC, TT, N) ∧ (∀ w ∈ u_ws RC TT N, w ∈ TS) ∧ k < N ∧ (rb_lay ci)[k]? = some b ∧ ci < 10 ∧ Cond.fieldLink own idx (TT k).1 (TT k).2.1 (TT k).2.2.1 ∈ TS
theorem rb_Fld.r {own : String} {idx ci k : Nat} {b fin : Bool} {ty : FieldType} (h : rb_Fld own idx ci k b fin ty) : rb_FldR own idx ci k b := by
  obtain ⟨RC, TT, N, ty0, h1, h2, h3, h4, h5, h6, -⟩ := h
  exact ⟨RC, TT, N, h1, h2, h3, h4, h5, h6⟩
def rb_rt (ty : FieldType) : Bool := match ty with
  | .object _ => true
  | .array _ => true
  | _ => false
theorem rb_rt_fit {ty : FieldType} (h : rb_rt ty = true) (o : Option Nat) : narrow ty (va_rf o) = va_rf o ∧ fits ty (va_rf o) = true := by
  cases ty <;> first | (simp [rb_rt] at h; done) | (cases o <;> exact ⟨rfl, rfl⟩)
section
variable {Φ : rb_F} {own : String} {cc : ByteArray} {nL fr lo mc ms cells slots pc : Nat} {Lv Lv' : List (Option rb_V)} {st : List rb_V} {G : rb_G}
theorem rb_eo {ad : rb_R → Nat} {cA : Nat → ClassId} {G : rb_G} {r : rb_R} {ci : Nat} (hk : rb_k r.1 = ci) (h : ci < 10) : rb_e ad cA G r = .inr (ci, rb_vals (rb_c ad) (rb_lay ci) 0 (gI G r) (gP G r)) := by
  unfold rb_e
  rw [hk, if_pos h]
theorem rb_eI {ad : rb_R → Nat} {cA : Nat → ClassId} {G : rb_G} {r : rb_R} {ci : Nat} (hk : rb_k r.1 = ci) (h : ¬ ci < 10) (h2 : ci < 12) : rb_e ad cA G r = .inl (cA ci, gN G r, .inl (gI G r)) := by
  unfold rb_e
  rw [hk, if_neg h, if_pos h2]
theorem rb_eL {ad : rb_R → Nat} {cA : Nat → ClassId} {G : rb_G} {r : rb_R} (hk : rb_k r.1 = 12) : rb_e ad cA G r = .inl (cA 12, gN G r, .inr (.inl (gJ G r))) := by
  unfold rb_e
  rw [hk]
  rfl
theorem rb_eP {ad : rb_R → Nat} {cA : Nat → ClassId} {G : rb_G} {r : rb_R} {ci : Nat} (hk : rb_k r.1 = ci) (h : 12 < ci) : rb_e ad cA G r = .inl (cA ci, gN G r, .inr (.inr (.inr (.inr (fun j => (gP G r j).map ad))))) := by
  unfold rb_e
  rw [hk, if_neg (by omega), if_neg (by omega), if_neg (by omega)]
theorem rb_one {D : va_G} {cl : List vw_C} {q : Nat × va_E} {H : Heap} (h : va_at D cl q H) : va_P D cl [q] H := by
  intro k x hx
  cases k with
  | zero => cases hx; exact h
  | succ k => simp at hx
theorem rb_getI (C : rb_C Φ own cc nL fr lo mc ms) {r : rb_R} {idx ci k : Nat} (F : rb_FldR own idx ci k false) (hd : decode cc pc = .ok (.getfield idx, 3)) (hk : rb_k r.1 = ci) (kk : rb_W Φ cells slots (pc + 3) Lv (rbI (gI G r k) :: st) G) : rb_W Φ cells slots pc Lv (rbR r :: st) G := by
  obtain ⟨p, l, e, R, s, m, args, below, meth, c, Q, X, A, ad0, G0⟩ := Φ
  intro ad H locs ls hP hn hS hl ho hv
  obtain ⟨RC, TT, N, hc, hin, hkN, hb, hci, hlk⟩ := F
  have hr := ho.hd r rfl
  obtain ⟨-, hat⟩ := hP.1 r hr (by rw [hk]; omega)
  rw [rb_eo hk hci] at hat
  refine va_get (C := RC) (T := TT) (N := N) (ci := ci) C.1 C.2.1 C.2.2.2.2.1 hin C.2.2.2.1 C.2.2.2.2.2.2.2.2.1.1 (rb_one hat) 0 rfl hc k hkN (C.2.2.2.2.1 _ hlk) (fun _ h => h) (v := .int (gI G r k)) ?_ hd (kk ad H locs ls hP hn hS hl (ho.tl.cons (rb_ok_i _ _)) hv)
  rw [rb_vals_get, hb, Nat.zero_add]
  rfl
theorem rb_getP (C : rb_C Φ own cc nL fr lo mc ms) {r : rb_R} {idx ci k : Nat} (F : rb_FldR own idx ci k true) (hd : decode cc pc = .ok (.getfield idx, 3)) (hk : rb_k r.1 = ci) {o : Option rb_R} (hv0 : gP G r k = o) (kk : rb_W Φ cells slots (pc + 3) Lv (rbO o :: st) G) : rb_W Φ cells slots pc Lv (rbR r :: st) G := by
  subst hv0
  obtain ⟨p, l, e, R, s, m, args, below, meth, c, Q, X, A, ad0, G0⟩ := Φ
  intro ad H locs ls hP hn hS hl ho hv
  obtain ⟨RC, TT, N, hc, hin, hkN, hb, hci, hlk⟩ := F
  have hr := ho.hd r rfl
  obtain ⟨-, hat⟩ := hP.1 r hr (by rw [hk]; omega)
  rw [rb_eo hk hci] at hat
  refine va_get (C := RC) (T := TT) (N := N) (ci := ci) C.1 C.2.1 C.2.2.2.2.1 hin C.2.2.2.1 C.2.2.2.2.2.2.2.2.1.1 (rb_one hat) 0 rfl hc k hkN (C.2.2.2.2.1 _ hlk) (fun _ h => h) (v := rb_c ad (rbO (gP G r k))) ?_ hd (kk ad H locs ls hP hn hS hl (ho.tl.cons (fun r' e => hP.2.2.1 r k r' hr (by cases hq : gP G r k with | none => rw [hq] at e; cases e | some z => rw [hq] at e; cases e; rfl))) hv)
  rw [rb_vals_get, hb, Nat.zero_add]
  rfl
theorem rb_putI (C : rb_C Φ own cc nL fr lo mc ms) {r : rb_R} {v : Int32} {idx ci k : Nat} {ty : FieldType} (F : rb_Fld own idx ci k false false ty) (hd : decode cc pc = .ok (.putfield idx, 3)) (hk : rb_k r.1 = ci) (hnf : narrow ty (.int v) = .int v ∧ fits ty (.int v) = true) (kk : rb_W Φ cells slots (pc + 3) Lv st (sI G r k v)) : rb_W Φ cells slots pc Lv (rbI v :: rbR r :: st) G := by
  obtain ⟨p, l, e, R, s, m, args, below, meth, c, Q, X, A, ad0, G0⟩ := Φ
  intro ad H locs ls hP hn hS hl ho hv
  obtain ⟨RC, TT, N, ty0, hc, hin, hkN, hb, hci, hlk, hty, hnm, hd9, hf9, -⟩ := F
  have hr := ho.tl.hd r rfl
  have hk20 : rb_k r.1 < 20 := by rw [hk]; omega
  obtain ⟨hAr, hat⟩ := hP.1 r hr hk20
  rw [rb_eo hk hci] at hat
  obtain ⟨r9, h1, cell, q1, q2, q3, q4⟩ := hat
  cases Option.some.inj (h1.symm.trans hc)
  obtain ⟨hS9, hfc, kC, hkC, hkind⟩ := C.2.2.2.2.2.2.2.2.1.1.1 ci _ hc
  obtain ⟨cf, kf, fi, f, hi, hsl⟩ := hS9 k hkN
  have hap := va_apart (own := own) C.2.2.2.2.1 hin ty0 hty hnm C.2.2.2.2.2.2.2.2.1.1 hc
  have hlay := C.2.2.2.2.1 _ (hin _ (u_in_lay hkN))
  unfold u_lay at hlay
  rw [if_neg (by rw [hf9]; decide)] at hlay
  have hst := (u_facts hfc hkC (u_lays C.2.2.2.2.1 hin hkN) hi).1
  have h6 := u_store hfc hkC hkind hlay hi hd9 hnf.1 hnf.2
  refine W.putK C.1 C.2.1 (f := f) ⟨C.2.2.2.1, C.2.2.2.2.1 _ hlk, ⟨_, _, _, hi⟩, hst⟩ (by rw [q2]; exact h6) q1 q3 (by rw [hsl]; exact k2_hasslot (q4 k hkN)) rfl rfl hd fun H' e1 e2 e3 => ?_
  rw [hsl] at e1 ⊢
  have hlen : k < (rb_vals (rb_c ad) (rb_lay ci) 0 (gI G r) (gP G r)).length := by rw [rb_vals_len]; exact (List.getElem?_eq_some_iff.mp hb).1
  refine kk ad H' _ ls (hP.upd hr hk20 ?_ e3 rfl (fun r' h => rb_e_sI h) hP.2.2.1) hn (hS.put e2 e3 hAr) hl ho.tl.tl hv
  rw [rb_eo hk hci]
  refine ⟨_, hc, t_OB.to (V := updV (vp_V (rb_vals (rb_c ad) (rb_lay ci) 0 (gI G r) (gP G r))) k (.int v)) ⟨_, e1, q2, q3, t_set q4 hap hkN _⟩ (fun j _ => ?_)⟩
  rw [vp_updV_set hlen]
  exact congrArg (fun l => vp_V l j) (rb_vals_setI (rb_c ad) (gI G r) (gI (sI G r k v) r) (gP G r) (rb_lay ci) k v hb (up2_s _ _ _ _) (fun j hj => up2_n _ _ _ _ (fun q => hj q.2)))
theorem rb_putP (C : rb_C Φ own cc nL fr lo mc ms) {r : rb_R} {o : Option rb_R} {idx ci k : Nat} {ty : FieldType} (F : rb_Fld own idx ci k true false ty) (hd : decode cc pc = .ok (.putfield idx, 3)) (hk : rb_k r.1 = ci) (hrt : rb_rt ty = true) (kk : rb_W Φ cells slots (pc + 3) Lv st (sP G r k o)) : rb_W Φ cells slots pc Lv (rbO o :: rbR r :: st) G := by
  obtain ⟨p, l, e, R, s, m, args, below, meth, c, Q, X, A, ad0, G0⟩ := Φ
  intro ad H locs ls hP hn hS hl ho hv
  obtain ⟨RC, TT, N, ty0, hc, hin, hkN, hb, hci, hlk, hty, hnm, hd9, hf9, -⟩ := F
  have hr := ho.tl.hd r rfl
  have hk20 : rb_k r.1 < 20 := by rw [hk]; omega
  obtain ⟨hAr, hat⟩ := hP.1 r hr hk20
  rw [rb_eo hk hci] at hat
  obtain ⟨r9, h1, cell, q1, q2, q3, q4⟩ := hat
  cases Option.some.inj (h1.symm.trans hc)
  obtain ⟨hS9, hfc, kC, hkC, hkind⟩ := C.2.2.2.2.2.2.2.2.1.1.1 ci _ hc
  obtain ⟨cf, kf, fi, f, hi, hsl⟩ := hS9 k hkN
  have hap := va_apart (own := own) C.2.2.2.2.1 hin ty0 hty hnm C.2.2.2.2.2.2.2.2.1.1 hc
  have hlay := C.2.2.2.2.1 _ (hin _ (u_in_lay hkN))
  unfold u_lay at hlay
  rw [if_neg (by rw [hf9]; decide)] at hlay
  have hst := (u_facts hfc hkC (u_lays C.2.2.2.2.1 hin hkN) hi).1
  have hnf := rb_rt_fit hrt (o.map ad)
  have h6 := u_store hfc hkC hkind hlay hi hd9 hnf.1 hnf.2
  refine W.putK C.1 C.2.1 (f := f) (v := va_rf (o.map ad)) ⟨C.2.2.2.1, C.2.2.2.2.1 _ hlk, ⟨_, _, _, hi⟩, hst⟩ (by rw [q2]; exact h6) q1 q3 (by rw [hsl]; exact k2_hasslot (q4 k hkN)) rfl rfl hd fun H' e1 e2 e3 => ?_
  rw [hsl] at e1 ⊢
  have hlen : k < (rb_vals (rb_c ad) (rb_lay ci) 0 (gI G r) (gP G r)).length := by rw [rb_vals_len]; exact (List.getElem?_eq_some_iff.mp hb).1
  refine kk ad H' _ ls (hP.upd hr hk20 ?_ e3 rfl (fun r' h => rb_e_sP h) (rb_cl_sP hP.2.2.1 (rb_ok_o ho.hd))) hn (hS.put e2 e3 hAr) hl ho.tl.tl hv
  rw [rb_eo hk hci]
  refine ⟨_, hc, t_OB.to (V := updV (vp_V (rb_vals (rb_c ad) (rb_lay ci) 0 (gI G r) (gP G r))) k (va_rf (o.map ad))) ⟨_, e1, q2, q3, t_set q4 hap hkN _⟩ (fun j _ => ?_)⟩
  rw [vp_updV_set hlen]
  exact congrArg (fun l => vp_V l j) (rb_vals_setP (rb_c ad) (gI G r) (gP G r) (gP (sP G r k o) r) (rb_lay ci) k o hb (up2_s _ _ _ _) (fun j hj => up2_n _ _ _ _ (fun q => hj q.2)))
theorem rb_putFI (C : rb_C Φ own cc nL fr lo mc ms) (hin2 : rb_nm Φ "<init>") {r : rb_R} {v : Int32} {idx ci k : Nat} {ty : FieldType} (F : rb_Fld own idx ci k false true ty) (hd : decode cc pc = .ok (.putfield idx, 3)) (hk : rb_k r.1 = ci) (hnf : narrow ty (.int v) = .int v ∧ fits ty (.int v) = true) (kk : rb_W Φ cells slots (pc + 3) Lv st (sI G r k v)) : rb_W Φ cells slots pc Lv (rbI v :: rbR r :: st) G := by
  obtain ⟨p, l, e, R, s, m, args, below, meth, c, Q, X, A, ad0, G0⟩ := Φ
  intro ad H locs ls hP hn hS hl ho hv
  obtain ⟨RC, TT, N, ty0, hc, hin, hkN, hb, hci, hlk, hty, hnm, hd9, hf9, hdecl⟩ := F
  have hr := ho.tl.hd r rfl
  have hk20 : rb_k r.1 < 20 := by rw [hk]; omega
  obtain ⟨hAr, hat⟩ := hP.1 r hr hk20
  rw [rb_eo hk hci] at hat
  obtain ⟨r9, h1, cell, q1, q2, q3, q4⟩ := hat
  cases Option.some.inj (h1.symm.trans hc)
  obtain ⟨hS9, hfc, kC, hkC, hkind⟩ := C.2.2.2.2.2.2.2.2.1.1.1 ci _ hc
  obtain ⟨cf, kf, fi, f, hi, hsl⟩ := hS9 k hkN
  have hap := va_apart (own := own) C.2.2.2.2.1 hin ty0 hty hnm C.2.2.2.2.2.2.2.2.1.1 hc
  have hlay := C.2.2.2.2.1 _ (hin _ (u_in_lay hkN))
  unfold u_lay at hlay
  rw [if_pos hf9] at hlay
  have hst := (u_facts hfc hkC (u_lays C.2.2.2.2.1 hin hkN) hi).1
  have hcf : m.cls = cf := by
    obtain ⟨_, _, c', _, _, _, -, -, hf', -, -, -, hown2, -⟩ := Cond.laysFinal_spec hlay
    have e1 : c' = cf := by have := hi.symm.trans hf'; simp at this; exact this.1.symm
    rw [hdecl rfl] at hown2
    rw [← e1]; exact Option.some.inj (C.2.2.2.1.symm.trans hown2)
  have h6 := u_fits hfc hkC hkind (Or.inr hlay) hi hd9 hnf.1 hnf.2
  refine W.putFinK C.1 C.2.1 C.2.2.2.1 (C.2.2.2.2.1 _ hlk) hi hst hcf hin2 (by rw [q2]; exact h6) q1 q3 (by rw [hsl]; exact k2_hasslot (q4 k hkN)) rfl rfl hd fun H' e1 e2 e3 => ?_
  rw [hsl] at e1 ⊢
  have hlen : k < (rb_vals (rb_c ad) (rb_lay ci) 0 (gI G r) (gP G r)).length := by rw [rb_vals_len]; exact (List.getElem?_eq_some_iff.mp hb).1
  refine kk ad H' _ ls (hP.upd hr hk20 ?_ e3 rfl (fun r' h => rb_e_sI h) hP.2.2.1) hn (hS.put e2 e3 hAr) hl ho.tl.tl hv
  rw [rb_eo hk hci]
  refine ⟨_, hc, t_OB.to (V := updV (vp_V (rb_vals (rb_c ad) (rb_lay ci) 0 (gI G r) (gP G r))) k (.int v)) ⟨_, e1, q2, q3, t_set q4 hap hkN _⟩ (fun j _ => ?_)⟩
  rw [vp_updV_set hlen]
  exact congrArg (fun l => vp_V l j) (rb_vals_setI (rb_c ad) (gI G r) (gI (sI G r k v) r) (gP G r) (rb_lay ci) k v hb (up2_s _ _ _ _) (fun j hj => up2_n _ _ _ _ (fun q => hj q.2)))
theorem rb_putFP (C : rb_C Φ own cc nL fr lo mc ms) (hin2 : rb_nm Φ "<init>") {r : rb_R} {o : Option rb_R} {idx ci k : Nat} {ty : FieldType} (F : rb_Fld own idx ci k true true ty) (hd : decode cc pc = .ok (.putfield idx, 3)) (hk : rb_k r.1 = ci) (hrt : rb_rt ty = true) (kk : rb_W Φ cells slots (pc + 3) Lv st (sP G r k o)) : rb_W Φ cells slots pc Lv (rbO o :: rbR r :: st) G := by
  obtain ⟨p, l, e, R, s, m, args, below, meth, c, Q, X, A, ad0, G0⟩ := Φ
  intro ad H locs ls hP hn hS hl ho hv
  obtain ⟨RC, TT, N, ty0, hc, hin, hkN, hb, hci, hlk, hty, hnm, hd9, hf9, hdecl⟩ := F
  have hr := ho.tl.hd r rfl
  have hk20 : rb_k r.1 < 20 := by rw [hk]; omega
  obtain ⟨hAr, hat⟩ := hP.1 r hr hk20
  rw [rb_eo hk hci] at hat
  obtain ⟨r9, h1, cell, q1, q2, q3, q4⟩ := hat
  cases Option.some.inj (h1.symm.trans hc)
  obtain ⟨hS9, hfc, kC, hkC, hkind⟩ := C.2.2.2.2.2.2.2.2.1.1.1 ci _ hc
  obtain ⟨cf, kf, fi, f, hi, hsl⟩ := hS9 k hkN
  have hap := va_apart (own := own) C.2.2.2.2.1 hin ty0 hty hnm C.2.2.2.2.2.2.2.2.1.1 hc
  have hlay := C.2.2.2.2.1 _ (hin _ (u_in_lay hkN))
  unfold u_lay at hlay
  rw [if_pos hf9] at hlay
  have hst := (u_facts hfc hkC (u_lays C.2.2.2.2.1 hin hkN) hi).1
  have hcf : m.cls = cf := by
    obtain ⟨_, _, c', _, _, _, -, -, hf', -, -, -, hown2, -⟩ := Cond.laysFinal_spec hlay
    have e1 : c' = cf := by have := hi.symm.trans hf'; simp at this; exact this.1.symm
    rw [hdecl rfl] at hown2
    rw [← e1]; exact Option.some.inj (C.2.2.2.1.symm.trans hown2)
  have hnf := rb_rt_fit hrt (o.map ad)
  have h6 := u_fits hfc hkC hkind (Or.inr hlay) hi hd9 hnf.1 hnf.2
  refine W.putFinK C.1 C.2.1 (v := va_rf (o.map ad)) C.2.2.2.1 (C.2.2.2.2.1 _ hlk) hi hst hcf hin2 (by rw [q2]; exact h6) q1 q3 (by rw [hsl]; exact k2_hasslot (q4 k hkN)) rfl rfl hd fun H' e1 e2 e3 => ?_
  rw [hsl] at e1 ⊢
  have hlen : k < (rb_vals (rb_c ad) (rb_lay ci) 0 (gI G r) (gP G r)).length := by rw [rb_vals_len]; exact (List.getElem?_eq_some_iff.mp hb).1
  refine kk ad H' _ ls (hP.upd hr hk20 ?_ e3 rfl (fun r' h => rb_e_sP h) (rb_cl_sP hP.2.2.1 (rb_ok_o ho.hd))) hn (hS.put e2 e3 hAr) hl ho.tl.tl hv
  rw [rb_eo hk hci]
  refine ⟨_, hc, t_OB.to (V := updV (vp_V (rb_vals (rb_c ad) (rb_lay ci) 0 (gI G r) (gP G r))) k (va_rf (o.map ad))) ⟨_, e1, q2, q3, t_set q4 hap hkN _⟩ (fun j _ => ?_)⟩
  rw [vp_updV_set hlen]
  exact congrArg (fun l => vp_V l j) (rb_vals_setP (rb_c ad) (gI G r) (gP G r) (gP (sP G r k o) r) (rb_lay ci) k o hb (up2_s _ _ _ _) (fun j hj => up2_n _ _ _ _ (fun q => hj q.2)))
/-- arrays: reads -/
theorem rb_iald (C : rb_C Φ own cc nL fr lo mc ms) {r : rb_R} {i : Int32} (hd : decode cc pc = .ok (.iaload, 1)) (hk : rb_k r.1 = 10) (hi : vp_in i (gN G r)) (kk : rb_W Φ cells slots (pc + 1) Lv (rbI (gI G r i.toNatClampNeg) :: st) G) : rb_W Φ cells slots pc Lv (rbI i :: rbR r :: st) G := by
  obtain ⟨p, l, e, R, s, m, args, below, meth, c, Q, X, A, ad0, G0⟩ := Φ
  intro ad H locs ls hP hn hS hl ho hv
  obtain ⟨-, hat⟩ := hP.1 r (ho.tl.hd r rfl) (by rw [hk]; decide)
  rw [rb_eI hk (by decide) (by decide)] at hat
  exact va_iald C.1 C.2.1 C.2.2.2.2.2.2.2.2.1.1 (rb_one hat) 0 0 rfl rfl hi hd (kk ad H locs ls hP hn hS hl (ho.tl.tl.cons (rb_ok_i _ _)) hv)
theorem rb_zald (C : rb_C Φ own cc nL fr lo mc ms) {r : rb_R} {i : Int32} (hd : decode cc pc = .ok (.baload, 1)) (hk : rb_k r.1 = 11) (hi : vp_in i (gN G r)) (kk : rb_W Φ cells slots (pc + 1) Lv (rbI (gI G r i.toNatClampNeg) :: st) G) : rb_W Φ cells slots pc Lv (rbI i :: rbR r :: st) G := by
  obtain ⟨p, l, e, R, s, m, args, below, meth, c, Q, X, A, ad0, G0⟩ := Φ
  intro ad H locs ls hP hn hS hl ho hv
  obtain ⟨-, hat⟩ := hP.1 r (ho.tl.hd r rfl) (by rw [hk]; decide)
  rw [rb_eI hk (by decide) (by decide)] at hat
  exact va_zald C.1 C.2.1 C.2.2.2.2.2.2.2.2.1.1 (rb_one hat) 0 1 rfl rfl hi hd (kk ad H locs ls hP hn hS hl (ho.tl.tl.cons (rb_ok_i _ _)) hv)
theorem rb_lald (C : rb_C Φ own cc nL fr lo mc ms) {r : rb_R} {i : Int32} (hd : decode cc pc = .ok (.laload, 1)) (hk : rb_k r.1 = 12) (hi : vp_in i (gN G r)) (kk : rb_W Φ cells slots (pc + 1) Lv (rbL (gJ G r i.toNatClampNeg) :: st) G) : rb_W Φ cells slots pc Lv (rbI i :: rbR r :: st) G := by
  obtain ⟨p, l, e, R, s, m, args, below, meth, c, Q, X, A, ad0, G0⟩ := Φ
  intro ad H locs ls hP hn hS hl ho hv
  obtain ⟨-, hat⟩ := hP.1 r (ho.tl.hd r rfl) (by rw [hk]; decide)
  rw [rb_eL hk] at hat
  exact va_lald C.1 C.2.1 C.2.2.2.2.2.2.2.2.1.1 (rb_one hat) 0 2 rfl rfl hi hd (kk ad H locs ls hP hn hS hl (ho.tl.tl.cons (rb_ok_l _ _)) hv)
/-- the places of the rows of references: number in rb_tys, component -/
def rb_cp (k : Nat) : String := if k = 13 then "java/lang/Object" else if k = 14 then RX5 else RX0
theorem rb_tys_q (cA : Nat → ClassId) {k : Nat} (h1 : 12 < k) (h2 : k < 16) : (rb_tys cA)[k - 10]? = some (cA k, .object (rb_cp k)) := by
  rcases (by omega : k = 13 ∨ k = 14 ∨ k = 15) with rfl | rfl | rfl <;> rfl
theorem rb_aald (C : rb_C Φ own cc nL fr lo mc ms) {r : rb_R} {i : Int32} {k : Nat} (hd : decode cc pc = .ok (.aaload, 1)) (hk : rb_k r.1 = k) (h1 : 12 < k) (h2 : k < 16) (hi : vp_in i (gN G r)) {o : Option rb_R} (hv0 : gP G r i.toNatClampNeg = o) (kk : rb_W Φ cells slots (pc + 1) Lv (rbO o :: st) G) : rb_W Φ cells slots pc Lv (rbI i :: rbR r :: st) G := by
  subst hv0
  obtain ⟨p, l, e, R, s, m, args, below, meth, c, Q, X, A, ad0, G0⟩ := Φ
  intro ad H locs ls hP hn hS hl ho hv
  have hr := ho.tl.hd r rfl
  obtain ⟨-, hat⟩ := hP.1 r hr (by rw [hk]; omega)
  rw [rb_eP hk h1] at hat
  exact va_aldq C.1 C.2.1 C.2.2.2.2.2.2.2.2.1.1 (rb_one hat) 0 (k - 10) rfl (rb_tys_q _ h1 h2) hi hd (kk ad H locs ls hP hn hS hl (ho.tl.tl.cons (fun r' e => hP.2.2.1 r _ r' hr (by cases hq : gP G r i.toNatClampNeg with | none => rw [hq] at e; cases e | some z => rw [hq] at e; cases e; rfl))) hv)
theorem rb_alen (C : rb_C Φ own cc nL fr lo mc ms) {r : rb_R} {k : Nat} (hd : decode cc pc = .ok (.arraylength, 1)) (hk : rb_k r.1 = k) (h1 : 9 < k) (h2 : k < 16) (kk : rb_W Φ cells slots (pc + 1) Lv (rbI (nI (gN G r)) :: st) G) : rb_W Φ cells slots pc Lv (rbR r :: st) G := by
  obtain ⟨p, l, e, R, s, m, args, below, meth, c, Q, X, A, ad0, G0⟩ := Φ
  intro ad H locs ls hP hn hS hl ho hv
  have hr := ho.hd r rfl
  obtain ⟨-, hat⟩ := hP.1 r hr (by rw [hk]; omega)
  have hk9 := kk ad H locs ls hP hn hS hl (ho.tl.cons (rb_ok_i _ _)) hv
  rcases (by omega : k = 10 ∨ k = 11 ∨ k = 12 ∨ 12 < k) with rfl | rfl | rfl | h3
  · rw [rb_eI hk (by decide) (by decide)] at hat
    exact va_alen C.1 C.2.1 C.2.2.2.2.2.2.2.2.1.1 (rb_one hat) 0 0 rfl (ty := .int) rfl rfl hd hk9
  · rw [rb_eI hk (by decide) (by decide)] at hat
    exact va_alen C.1 C.2.1 C.2.2.2.2.2.2.2.2.1.1 (rb_one hat) 0 1 rfl (ty := .boolean) rfl rfl hd hk9
  · rw [rb_eL hk] at hat
    exact va_alen C.1 C.2.1 C.2.2.2.2.2.2.2.2.1.1 (rb_one hat) 0 2 rfl (ty := .long) rfl rfl hd hk9
  · rw [rb_eP hk h3] at hat
    exact va_alen C.1 C.2.1 C.2.2.2.2.2.2.2.2.1.1 (rb_one hat) 0 (k - 10) rfl (rb_tys_q _ h3 h2) rfl hd hk9
/-- the empty row of ArrayList -/
theorem rb_alenE (C : rb_C Φ own cc nL fr lo mc ms) (hd : decode cc pc = .ok (.arraylength, 1)) (kk : rb_W Φ cells slots (pc + 1) Lv (rbI 0 :: st) G) : rb_W Φ cells slots pc Lv (rbR (19, 0, 0) :: st) G := by
  obtain ⟨p, l, e, R, s, m, args, below, meth, c, Q, X, A, ad0, G0⟩ := Φ
  intro ad H locs ls hP hn hS hl ho hv
  have h := kk ad H locs ls hP hn hS hl (ho.tl.cons (rb_ok_i _ _)) hv
  show W p l e R s m args below meth c H locs cells slots Q (F0 m pc ls (Value.ref (ad (19, 0, 0)) :: st.map (rb_c ad)))
  rw [hP.2.2.2.1]
  exact va_tlen C.1 C.2.1 C.2.2.2.2.2.2.2.2.2.1.2.2.2 hS (v := 0) rfl hd h
/-- arrays: writes -/
theorem rb_iast (C : rb_C Φ own cc nL fr lo mc ms) {r : rb_R} {i x : Int32} (hd : decode cc pc = .ok (.iastore, 1)) (hk : rb_k r.1 = 10) (hi : vp_in i (gN G r)) (kk : rb_W Φ cells slots (pc + 1) Lv st (sI G r i.toNatClampNeg x)) : rb_W Φ cells slots pc Lv (rbI x :: rbI i :: rbR r :: st) G := by
  obtain ⟨p, l, e, R, s, m, args, below, meth, c, Q, X, A, ad0, G0⟩ := Φ
  intro ad H locs ls hP hn hS hl ho hv
  have hr := ho.tl.tl.hd r rfl
  have hk20 : rb_k r.1 < 20 := by rw [hk]; decide
  obtain ⟨hAr, hat⟩ := hP.1 r hr hk20
  rw [rb_eI hk (by decide) (by decide)] at hat
  refine W.iast C.1 C.2.1 hat ((C.2.2.2.2.2.2.2.2.1.1.2 0 _ rfl).1 (gN G r) (fun j => .int (gI G r j))) (fun q => by cases q) (by show ¬ (i < 0 ∨ (arrV _ _ _).slots.size ≤ _); rw [arrV_size]; exact hi) rfl rfl hd fun H1 e1 e2 e3 => ?_
  refine kk ad H1 _ ls (hP.upd hr hk20 ?_ e3 rfl (fun r' h => rb_e_sI h) hP.2.2.1) hn (hS.put e2 e3 hAr) hl ho.tl.tl.tl hv
  rw [rb_eI hk (by decide) (by decide)]
  show H1[ad r]? = some (vp_cell _ _)
  rw [e1, vp_cell_i, vp_cell_i, arrV_store]
  congr 2
  funext q
  by_cases hq : q = i.toNatClampNeg
  · subst hq
    simp [updV, sI, gI, up2]
  · simp [updV, sI, gI, up2, hq]
theorem rb_zast (C : rb_C Φ own cc nL fr lo mc ms) {r : rb_R} {i x : Int32} (hd : decode cc pc = .ok (.bastore, 1)) (hk : rb_k r.1 = 11) (hi : vp_in i (gN G r)) (hz : narrow .boolean (.int x) = .int x) (kk : rb_W Φ cells slots (pc + 1) Lv st (sI G r i.toNatClampNeg x)) : rb_W Φ cells slots pc Lv (rbI x :: rbI i :: rbR r :: st) G := by
  obtain ⟨p, l, e, R, s, m, args, below, meth, c, Q, X, A, ad0, G0⟩ := Φ
  intro ad H locs ls hP hn hS hl ho hv
  have hr := ho.tl.tl.hd r rfl
  have hk20 : rb_k r.1 < 20 := by rw [hk]; decide
  obtain ⟨hAr, hat⟩ := hP.1 r hr hk20
  rw [rb_eI hk (by decide) (by decide)] at hat
  refine W.zast C.1 C.2.1 hat ((C.2.2.2.2.2.2.2.2.1.1.2 1 _ rfl).1 (gN G r) (fun j => .int (gI G r j))) (fun q => by cases q) (by show ¬ (i < 0 ∨ (arrV _ _ _).slots.size ≤ _); rw [arrV_size]; exact hi) rfl rfl hd fun H1 e1 e2 e3 => ?_
  refine kk ad H1 _ ls (hP.upd hr hk20 ?_ e3 rfl (fun r' h => rb_e_sI h) hP.2.2.1) hn (hS.put e2 e3 hAr) hl ho.tl.tl.tl hv
  rw [rb_eI hk (by decide) (by decide)]
  show H1[ad r]? = some (vp_cell _ _)
  rw [e1, hz, vp_cell_i, vp_cell_i, arrV_store]
  congr 2
  funext q
  by_cases hq : q = i.toNatClampNeg
  · subst hq
    simp [updV, sI, gI, up2]
  · simp [updV, sI, gI, up2, hq]
theorem rb_last (C : rb_C Φ own cc nL fr lo mc ms) {r : rb_R} {i : Int32} {x : Int64} (hd : decode cc pc = .ok (.lastore, 1)) (hk : rb_k r.1 = 12) (hi : vp_in i (gN G r)) (kk : rb_W Φ cells slots (pc + 1) Lv st (sJ G r i.toNatClampNeg x)) : rb_W Φ cells slots pc Lv (rbL x :: rbI i :: rbR r :: st) G := by
  obtain ⟨p, l, e, R, s, m, args, below, meth, c, Q, X, A, ad0, G0⟩ := Φ
  intro ad H locs ls hP hn hS hl ho hv
  have hr := ho.tl.tl.hd r rfl
  have hk20 : rb_k r.1 < 20 := by rw [hk]; decide
  obtain ⟨hAr, hat⟩ := hP.1 r hr hk20
  rw [rb_eL hk] at hat
  refine W.last C.1 C.2.1 hat ((C.2.2.2.2.2.2.2.2.1.1.2 2 _ rfl).1 (gN G r) (fun j => .long (gJ G r j))) (fun q => by cases q) (by show ¬ (i < 0 ∨ (arrV _ _ _).slots.size ≤ _); rw [arrV_size]; exact hi) rfl rfl hd fun H1 e1 e2 e3 => ?_
  refine kk ad H1 _ ls (hP.upd hr hk20 ?_ e3 rfl (fun r' h => rb_e_sJ h) hP.2.2.1) hn (hS.put e2 e3 hAr) hl ho.tl.tl.tl hv
  rw [rb_eL hk]
  show H1[ad r]? = some (vp_cell _ _)
  rw [e1, vp_cell_l, vp_cell_l, arrV_store]
  congr 2
  funext q
  by_cases hq : q = i.toNatClampNeg
  · subst hq
    simp [updV, sJ, gJ, up2]
  · simp [updV, sJ, gJ, up2, hq]
/-- an object of class ci may lie in a row of kind k -/
def rb_fit2 (k ci : Nat) : Prop := (k = 14 ∧ ci = 6) ∨ (k = 15 ∧ ci = 1) ∨ (k = 13 ∧ (ci = 2 ∨ ci = 7 ∨ ci = 4 ∨ ci = 5))
theorem rb_aast (C : rb_C Φ own cc nL fr lo mc ms) {r v : rb_R} {i : Int32} {k ci : Nat} (hd : decode cc pc = .ok (.aastore, 1)) (hk : rb_k r.1 = k) (hkv : rb_k v.1 = ci) (hf : rb_fit2 k ci) (hi : vp_in i (gN G r)) (kk : rb_W Φ cells slots (pc + 1) Lv st (sP G r i.toNatClampNeg (some v))) : rb_W Φ cells slots pc Lv (rbR v :: rbI i :: rbR r :: st) G := by
  obtain ⟨p, l, e, R, s, m, args, below, meth, c, Q, X, A, ad0, G0⟩ := Φ
  intro ad H locs ls hP hn hS hl ho hv
  have hr := ho.tl.tl.hd r rfl
  have hrv := ho.hd v rfl
  have h12 : 12 < k ∧ k < 16 ∧ ci < 10 := by
    rcases hf with ⟨rfl, rfl⟩ | ⟨rfl, rfl⟩ | ⟨rfl, rfl | rfl | rfl | rfl⟩ <;> decide
  have hk20 : rb_k r.1 < 20 := by rw [hk]; omega
  obtain ⟨hAr, hat⟩ := hP.1 r hr hk20
  rw [rb_eP hk h12.1] at hat
  obtain ⟨-, hav⟩ := hP.1 v hrv (by rw [hkv]; omega)
  rw [rb_eo hkv h12.2.2] at hav
  have h0 : ¬ i < 0 := fun q => hi (Or.inl q)
  have hlt : i.toNatClampNeg < gN G r := Nat.not_le.mp fun q => hi (Or.inr q)
  have hK1 := C.2.2.2.2.2.2.2.2.1
  obtain ⟨r', hr', cellV, g1, g2, g3, -⟩ := hav
  obtain ⟨hArr, hRA⟩ := hK1.1.2 (k - 10) _ (rb_tys_q _ h12.1 h12.2.1)
  obtain ⟨kA, comp, k1, k2, k3, -⟩ := hRA
  have hcls := (hK1.1.1 ci r' hr').2
  obtain ⟨kC, hkC, hkind⟩ := hcls.2
  have hasg : s.vm.assignable (X.1.1 ci) comp = true := by
    have cst : ∀ nm : String, (nm, "java/lang/Object") ∈ rb_cst → s.vm.findClass nm = some (X.1.1 ci) → s.vm.findClass "java/lang/Object" = some comp → s.vm.assignable (X.1.1 ci) comp = true := by
      intro nm hm f1 f2
      obtain ⟨c0, t0, e1, e2, e3⟩ := Cond.castable_spec (va_Nw.use (A := #[]) rfl (hK1.2.2.1 _ hm))
      cases Option.some.inj (e1.symm.trans f1)
      cases Option.some.inj (e2.symm.trans f2)
      exact e3
    rcases hf with ⟨rfl, rfl⟩ | ⟨rfl, rfl⟩ | ⟨rfl, rfl | rfl | rfl | rfl⟩
    · cases Option.some.inj (hr'.symm.trans (rfl : vwCl[6]? = some (RX5, TX5, 7)))
      cases Option.some.inj (k3.symm.trans hcls.1)
      exact va_assign hcls
    · cases Option.some.inj (hr'.symm.trans (rfl : vwCl[1]? = some (RX0, TX0, 3)))
      cases Option.some.inj (k3.symm.trans hcls.1)
      exact va_assign hcls
    · cases Option.some.inj (hr'.symm.trans (rfl : vwCl[2]? = some (RX1, TX1, 7)))
      exact cst RX1 (by decide +kernel) hcls.1 k3
    · cases Option.some.inj (hr'.symm.trans (rfl : vwCl[7]? = some (RX6, TX6, 11)))
      exact cst RX6 (by decide +kernel) hcls.1 k3
    · cases Option.some.inj (hr'.symm.trans (rfl : vwCl[4]? = some (RX3, TX3, 4)))
      exact cst RX3 (by decide +kernel) hcls.1 k3
    · cases Option.some.inj (hr'.symm.trans (rfl : vwCl[5]? = some (RX4, TX4, 5)))
      exact cst RX4 (by decide +kernel) hcls.1 k3
  obtain ⟨kcomp, hkcomp, -⟩ := Vm.findClass_spec k3
  refine W.aast C.1 C.2.1 hat (fun q h => by cases h) (fun h => by cases h) k1 k2 rfl hkcomp ⟨h0, by show _ < (arrV _ _ _).slots.size; rw [arrV_size]; exact hlt⟩ g1 (fun q h => by rw [g3] at h; cases h) (by rw [g2]; exact hkC) (by rw [g2]; exact hasg) rfl rfl hd fun H1 e1 e2 e3 => ?_
  refine kk ad H1 _ ls (hP.upd hr hk20 ?_ e3 rfl (fun r' h => rb_e_sP h) (rb_cl_sP hP.2.2.1 (fun r2 e2 => by cases e2; exact hrv))) hn (hS.put e2 e3 hAr) hl ho.tl.tl.tl hv
  rw [rb_eP hk h12.1]
  show H1[ad r]? = some (vp_cell _ _)
  rw [e1, vp_cell_q, vp_cell_q, arrV_store]
  congr 2
  funext q
  by_cases hq : q = i.toNatClampNeg
  · subst hq
    simp [updV, sP, gP, up2, va_rf]
  · simp [updV, sP, gP, up2, hq]
end
end
section
/-! new cells -/
theorem rb_e_nx {ad ad' : rb_R → Nat} {cA : Nat → ClassId} {G G' : rb_G} {r : rb_R} (h : ∀ r', gD G r' → ad' r' = ad r') (hr : gD G r) (hcl : ∀ r1 k r2, gD G r1 → gP G r1 k = some r2 → gD G r2) (hN : gN G' r = gN G r) (hI : gI G' r = gI G r) (hP : gP G' r = gP G r) (hJ : gJ G' r = gJ G r) : rb_e ad' cA G' r = rb_e ad cA G r := by
  have e1 : ∀ k, rb_c ad' (rbO (gP G r k)) = rb_c ad (rbO (gP G r k)) := by
    intro k
    cases hq : gP G r k with
    | none => rfl
    | some z => show Value.ref (ad' z) = Value.ref (ad z); rw [h z (hcl r k z hr hq)]
  have e2 : ∀ l k0, rb_vals (rb_c ad') l k0 (gI G r) (gP G r) = rb_vals (rb_c ad) l k0 (gI G r) (gP G r) := by
    intro l k0
    apply List.ext_getElem?
    intro j
    rw [rb_vals_get, rb_vals_get, e1]
    rfl
  have e3 : (fun j => (gP G r j).map ad') = fun j => (gP G r j).map ad := by
    funext j
    cases hq : gP G r j with
    | none => rfl
    | some z => show some (ad' z) = some (ad z); rw [h z (hcl r j z hr hq)]
  unfold rb_e
  rw [hN, hI, hP, hJ, e2, e3]
theorem rb_ls.nx {G G' : rb_G} {ad ad' : rb_R → Nat} {ls : Array Slot} {Lv : List (Option rb_V)} (hn : rb_nx G ad G' ad') (hv : rb_okO G Lv) (h : rb_ls ad ls Lv) : rb_ls ad' ls Lv := by
  refine ⟨h.1, h.2.1, fun q hq => ?_⟩
  obtain ⟨k, v, h1, rfl⟩ := (rb_al_mem ad' Lv 0 q).mp hq
  refine h.2.2 _ ((rb_al_mem ad Lv 0 _).mpr ⟨k, v, h1, ?_⟩)
  rw [rb_c_nx hn (hv v (List.mem_of_getElem? h1))]
def rb_adN (ad : rb_R → Nat) (r : rb_R) (q : Nat) : rb_R → Nat := fun x => if x = r then q else ad x
theorem rb_nx.new {G : rb_G} {ad : rb_R → Nat} {r : rb_R} {n q : Nat} (hf : ¬ gD G r) : rb_nx G ad (sN G r n) (rb_adN ad r q) := fun x hx => ⟨Or.inr hx, by
  unfold rb_adN
  rw [if_neg (fun e => hf (by rw [← e]; exact hx))]⟩
theorem rb_P.new {X : rb_X} {ad : rb_R → Nat} {A : Nat → Prop} {G : rb_G} {H H1 : Heap} {r : rb_R} {n : Nat} (hP : rb_P X ad A G H) (hf : ¬ gD G r) (hk : rb_k r.1 < 20) (hA : A H.size) (ho : ∀ q : Nat, q < H.size → H1[q]? = H[q]?)
    (hat : va_at X.1 vwCl (H.size, rb_e (rb_adN ad r H.size) X.2.1 (sN G r n) r) H1) : rb_P X (rb_adN ad r H.size) A (sN G r n) H1 := by
  obtain ⟨h1, h2, h3, h4, h5⟩ := hP
  have hnx : ∀ r', gD G r' → rb_adN ad r H.size r' = ad r' := fun r' hr' => (rb_nx.new (n := n) (q := H.size) (ad := ad) hf r' hr').2
  have hself : rb_adN ad r H.size r = H.size := by unfold rb_adN; rw [if_pos rfl]
  refine ⟨fun r' hr' hk' => ?_, fun r1 r2 a b k1 k2 e => ?_, fun r1 k r2 a b => ?_, ?_, ?_⟩
  · by_cases e : r' = r
    · subst e
      rw [hself]
      exact ⟨hA, hat⟩
    · have hr0 : gD G r' := hr'.resolve_left e
      obtain ⟨g1, g2⟩ := h1 r' hr0 hk'
      rw [hnx r' hr0]
      refine ⟨g1, ?_⟩
      rw [rb_e_nx (ad := ad) (G := G) hnx hr0 h3 (by show (if r' = r then n else gN G r') = gN G r'; rw [if_neg e]) (by funext k; show (if r' = r then 0 else gI G r' k) = gI G r' k; rw [if_neg e]) (by funext k; show (if r' = r then none else gP G r' k) = gP G r' k; rw [if_neg e]) (by funext k; show (if r' = r then 0 else gJ G r' k) = gJ G r' k; rw [if_neg e])]
      exact g2.kept (ho _ g2.lt)
  · by_cases e1 : r1 = r
    · by_cases e2 : r2 = r
      · rw [e1, e2]
      · have hr0 : gD G r2 := b.resolve_left e2
        have := (h1 r2 hr0 k2).2.lt
        rw [e1, hself, hnx r2 hr0] at e
        have : ad r2 < H.size := this
        omega
    · have hr1 : gD G r1 := a.resolve_left e1
      by_cases e2 : r2 = r
      · have := (h1 r1 hr1 k1).2.lt
        rw [e2, hself, hnx r1 hr1] at e
        have : ad r1 < H.size := this
        omega
      · have hr2 : gD G r2 := b.resolve_left e2
        rw [hnx r1 hr1, hnx r2 hr2] at e
        exact h2 r1 r2 hr1 hr2 k1 k2 e
  · have b' : (if r1 = r then none else gP G r1 k) = some r2 := b
    split at b'
    · cases b'
    · exact Or.inr (h3 r1 k r2 (a.resolve_left (by assumption)) b')
  · unfold rb_adN
    rw [if_neg (fun e => by rw [← e] at hk; exact absurd hk (by decide))]
    exact h4
  · unfold rb_adN
    rw [if_neg (fun e => by rw [← e] at hk; exact absurd hk (by decide)), if_neg (fun e => by rw [← e] at hk; exact absurd hk (by decide))]
    exact h5
theorem va_S.new {A : Nat → Prop} {H0 H H1 : Heap} {locs : List Loc} (h : va_S A H0 H locs) (z : H1.size = H.size + 1) (o : ∀ q : Nat, q < H.size → H1[q]? = H[q]?) : va_S A H0 H1 locs :=
  ⟨Nat.le_trans h.1 (by omega), fun q h1 h2 => (o q (Nat.lt_of_lt_of_le h1 h.1)).trans (h.2.1 q h1 h2), h.2.2⟩
def rb_z : List Bool → List Value
  | [] => []
  | b :: t => (if b = true then Value.null else .int 0) :: rb_z t
theorem rb_vals_z (ad : rb_R → Nat) : ∀ (l : List Bool) (k0 : Nat), rb_vals (rb_c ad) l k0 (fun _ => 0) (fun _ => none) = rb_z l := by
  intro l
  induction l with
  | nil => intro k0; rfl
  | cons b t ih =>
    intro k0
    show (if b = true then Value.null else Value.int 0) :: rb_vals (rb_c ad) t (k0 + 1) (fun _ => 0) (fun _ => none) = _
    rw [ih]
    rfl
/-- a class that is made: by its pool number, its number in vwCl, its slots -/
def rb_Cls (own : String) (idx ci N : Nat) : Prop := ∃ (RC : String) (TT : u_T) (ty0 : Nat → FieldType), vwCl[ci]? = some (RC, TT, N) ∧ (∀ w ∈ u_ws RC TT N, w ∈ TS) ∧ ci < 10 ∧ Cond.classLink own idx RC ∈ TS ∧ Cond.instantiable RC N ∈ TS ∧ Cond.initialized RC ∈ TS ∧
  (∀ k, k < N → parseFieldDescriptor (TT k).2.2.1 = some (ty0 k)) ∧ ∀ j, j < N → defaultValue (ty0 j) = vp_V (rb_z (rb_lay ci)) j
section
variable {Φ : rb_F} {own : String} {cc : ByteArray} {nL fr lo mc ms cells slots pc : Nat} {Lv Lv' : List (Option rb_V)} {st rest As : List rb_V} {G : rb_G}
theorem sN_I {G : rb_G} {r : rb_R} {n : Nat} : gI (sN G r n) r = fun _ => 0 := by funext k; show (if r = r then 0 else _) = 0; rw [if_pos rfl]
theorem sN_P {G : rb_G} {r : rb_R} {n : Nat} : gP (sN G r n) r = fun _ => none := by funext k; show (if r = r then none else _) = none; rw [if_pos rfl]
theorem sN_J {G : rb_G} {r : rb_R} {n : Nat} : gJ (sN G r n) r = fun _ => 0 := by funext k; show (if r = r then 0 else _) = 0; rw [if_pos rfl]
theorem sN_N {G : rb_G} {r : rb_R} {n : Nat} : gN (sN G r n) r = n := by show (if r = r then n else _) = n; rw [if_pos rfl]
theorem rb_new (C : rb_C Φ own cc nL fr lo mc ms) (r : rb_R) {idx ci N : Nat} (F : rb_Cls own idx ci N) (hd : decode cc pc = .ok (.new idx, 3)) (hk : rb_k r.1 = ci) (hf : ¬ gD G r) (hc : cells + 1 ≤ mc) (hs : slots + N ≤ ms) (kk : rb_W Φ (cells + 1) (slots + N) (pc + 3) Lv (rbR r :: st) (sN G r 0)) : rb_W Φ cells slots pc Lv st G := by
  obtain ⟨p, l, e, R, s, m, args, below, meth, c, Q, X, A, ad0, G0⟩ := Φ
  intro ad H locs ls hP hn hS hl ho hv
  obtain ⟨RC, TT, ty0, hcl, hin, hci, hlk, hinst, hini, hty, hdef⟩ := F
  have hK1 := C.2.2.2.2.2.2.2.2.1
  have hR := C.2.2.2.2.2.2.1
  subst hR
  have hKn := hK1.1.1 ci _ hcl
  refine W.newcK C.1 C.2.1 C.2.2.2.1 (C.2.2.2.2.1 _ hlk) (C.2.2.2.2.1 _ hinst) (C.2.2.2.2.1 _ hini) rfl hd hc hs hKn.2.1 rfl fun H1 kC hkC e1 z1 o1 => ?_
  have hnx : rb_nx G ad (sN G r 0) (rb_adN ad r H.size) := rb_nx.new hf
  have hA : A H.size := C.2.2.2.2.2.2.2.2.2.2 _ hS.1
  have key : rb_P X (rb_adN ad r H.size) A (sN G r 0) H1 := by
    refine hP.new hf (by rw [hk]; omega) hA o1 ?_
    rw [rb_eo hk hci, sN_I, sN_P, rb_vals_z]
    exact ⟨_, hcl, (u_born ty0 C.2.2.2.2.1 hin hKn hkC e1 hty).to hdef⟩
  have hself : rb_adN ad r H.size r = H.size := by unfold rb_adN; rw [if_pos rfl]
  have h := kk (rb_adN ad r H.size) H1 locs ls key (hn.tr hnx) (hS.new z1 o1) (hl.nx hnx hv) ((ho.mono (fun x hx => (hnx x hx).1)).cons (rb_ok_r (Or.inl rfl))) (hv.mono (fun x hx => (hnx x hx).1))
  have e2 : (rbR r :: st).map (rb_c (rb_adN ad r H.size)) = Value.ref H.size :: st.map (rb_c ad) := by
    show Value.ref (rb_adN ad r H.size r) :: st.map (rb_c (rb_adN ad r H.size)) = _
    rw [hself, rb_map_nx hnx ho]
  rw [e2] at h
  exact h
theorem rb_newaG (C : rb_C Φ own cc nL fr lo mc ms) (r : rb_R) {at' : ArrayType} {k t0 : Nat} {n : Int32} {N : Nat} {ty : FieldType} (hw : Cond.arrayClass (newarray.typeOf at') ∈ TS) (hty : newarray.typeOf at' = ty) (ht0 : ∀ cA, (rb_tys cA)[t0]? = some (cA k, ty)) (hnr : ∀ U c, va_RA U c ty = (U.vm.findClass ("[" ++ ty.toString) = some c))
    (hd : decode cc pc = .ok (.newarray at', 2)) (hk : rb_k r.1 = k) (hk20 : k < 20) (he : ∀ (ad : rb_R → Nat) (cA : Nat → ClassId), rb_e ad cA (sN G r N) r = .inl (cA k, (rb_e ad cA (sN G r N) r).elim (fun x => x.2) (fun _ => (0, .inl fun _ => 0))) ∧ vp_cell (cA k) ((rb_e ad cA (sN G r N) r).elim (fun x => x.2) (fun _ => (0, .inl fun _ => 0))) = arrV (cA k) N (fun _ => defaultValue ty))
    (hf : ¬ gD G r) (hn : ¬ n < 0) (hN : n.toNatClampNeg = N) (hby : N * componentBytes ty ≤ 536870912) (hc : cells + 1 ≤ mc) (hs : slots + N ≤ ms) (kk : rb_W Φ (cells + 1) (slots + N) (pc + 2) Lv (rbR r :: st) (sN G r N)) : rb_W Φ cells slots pc Lv (rbI n :: st) G := by
  obtain ⟨p, l, e, R, s, m, args, below, meth, c, Q, X, A, ad0, G0⟩ := Φ
  intro ad H locs ls hP hn' hS hl ho hv
  have hK1 := C.2.2.2.2.2.2.2.2.1
  have hR := C.2.2.2.2.2.2.1
  subst hR
  subst hty
  refine va_newaK C.1 C.2.1 (C.2.2.2.2.1 _ hw) rfl hd rfl hn hN hby hc hs rfl fun H1 cA' e1 z1 o1 _ hnm => ?_
  have hnx : rb_nx G ad (sN G r N) (rb_adN ad r H.size) := rb_nx.new hf
  have hA : A H.size := C.2.2.2.2.2.2.2.2.2.2 _ hS.1
  have hcA : cA' = X.2.1 k := by
    have h2 := (hK1.1.2 t0 _ (ht0 X.2.1)).2
    rw [hnr] at h2
    exact Option.some.inj (hnm.symm.trans h2)
  subst hcA
  have key : rb_P X (rb_adN ad r H.size) A (sN G r N) H1 := by
    refine hP.new hf (by rw [hk]; exact hk20) hA o1 ?_
    obtain ⟨x1, x2⟩ := he (rb_adN ad r H.size) X.2.1
    rw [x1]
    show H1[H.size]? = some (vp_cell _ _)
    rw [x2]
    exact e1
  have hself : rb_adN ad r H.size r = H.size := by unfold rb_adN; rw [if_pos rfl]
  have h := kk (rb_adN ad r H.size) H1 locs ls key (hn'.tr hnx) (hS.new z1 o1) (hl.nx hnx hv) ((ho.tl.mono (fun x hx => (hnx x hx).1)).cons (rb_ok_r (Or.inl rfl))) (hv.mono (fun x hx => (hnx x hx).1))
  have e2 : (rbR r :: st).map (rb_c (rb_adN ad r H.size)) = Value.ref H.size :: st.map (rb_c ad) := by
    show Value.ref (rb_adN ad r H.size r) :: st.map (rb_c (rb_adN ad r H.size)) = _
    rw [hself, rb_map_nx hnx ho.tl]
  rw [e2] at h
  exact h
theorem rb_newaI (C : rb_C Φ own cc nL fr lo mc ms) (r : rb_R) {n : Int32} (N : Nat) (hw : Cond.arrayClass .int ∈ TS) (hd : decode cc pc = .ok (.newarray .int, 2)) (hk : rb_k r.1 = 10) (hf : ¬ gD G r) (hn : ¬ n < 0) (hN : n.toNatClampNeg = N) (hby : N * 4 ≤ 536870912) (hc : cells + 1 ≤ mc) (hs : slots + N ≤ ms) (kk : rb_W Φ (cells + 1) (slots + N) (pc + 2) Lv (rbR r :: st) (sN G r N)) : rb_W Φ cells slots pc Lv (rbI n :: st) G := by
  refine rb_newaG C r (at' := .int) (k := 10) (t0 := 0) (ty := .int) hw rfl (fun _ => rfl) (fun _ _ => rfl) hd hk (by decide) (fun ad cA => ?_) hf hn hN hby hc hs kk
  rw [rb_eI hk (by decide) (by decide)]
  refine ⟨rfl, ?_⟩
  show vp_cell _ (gN (sN G r N) r, .inl (gI (sN G r N) r)) = _
  rw [sN_N, sN_I]
  rfl
theorem rb_newaZ (C : rb_C Φ own cc nL fr lo mc ms) (r : rb_R) {n : Int32} (N : Nat) (hw : Cond.arrayClass .boolean ∈ TS) (hd : decode cc pc = .ok (.newarray .boolean, 2)) (hk : rb_k r.1 = 11) (hf : ¬ gD G r) (hn : ¬ n < 0) (hN : n.toNatClampNeg = N) (hby : N * componentBytes .boolean ≤ 536870912) (hc : cells + 1 ≤ mc) (hs : slots + N ≤ ms) (kk : rb_W Φ (cells + 1) (slots + N) (pc + 2) Lv (rbR r :: st) (sN G r N)) : rb_W Φ cells slots pc Lv (rbI n :: st) G := by
  refine rb_newaG C r (at' := .boolean) (k := 11) (t0 := 1) (ty := .boolean) hw rfl (fun _ => rfl) (fun _ _ => rfl) hd hk (by decide) (fun ad cA => ?_) hf hn hN hby hc hs kk
  rw [rb_eI hk (by decide) (by decide)]
  refine ⟨rfl, ?_⟩
  show vp_cell _ (gN (sN G r N) r, .inl (gI (sN G r N) r)) = _
  rw [sN_N, sN_I]
  rfl
theorem rb_newaL (C : rb_C Φ own cc nL fr lo mc ms) (r : rb_R) {n : Int32} (N : Nat) (hw : Cond.arrayClass .long ∈ TS) (hd : decode cc pc = .ok (.newarray .long, 2)) (hk : rb_k r.1 = 12) (hf : ¬ gD G r) (hn : ¬ n < 0) (hN : n.toNatClampNeg = N) (hby : N * componentBytes .long ≤ 536870912) (hc : cells + 1 ≤ mc) (hs : slots + N ≤ ms) (kk : rb_W Φ (cells + 1) (slots + N) (pc + 2) Lv (rbR r :: st) (sN G r N)) : rb_W Φ cells slots pc Lv (rbI n :: st) G := by
  refine rb_newaG C r (at' := .long) (k := 12) (t0 := 2) (ty := .long) hw rfl (fun _ => rfl) (fun _ _ => rfl) hd hk (by decide) (fun ad cA => ?_) hf hn hN hby hc hs kk
  rw [rb_eL hk]
  refine ⟨rfl, ?_⟩
  show vp_cell _ (gN (sN G r N) r, .inr (.inl (gJ (sN G r N) r))) = _
  rw [sN_N, sN_J]
  rfl
/-- anewarray -/
theorem rb_anew (C : rb_C Φ own cc nL fr lo mc ms) (r : rb_R) {idx k : Nat} {n : Int32} (N : Nat) (hw : Cond.classLink own idx (rb_cp k) ∈ TS) (h1 : 12 < k) (h2 : k < 16) (hd : decode cc pc = .ok (.anewarray idx, 3)) (hk : rb_k r.1 = k) (hf : ¬ gD G r) (hn : ¬ n < 0) (hN : n.toNatClampNeg = N) (hby : N * 4 ≤ 536870912) (hc : cells + 1 ≤ mc) (hs : slots + N ≤ ms) (kk : rb_W Φ (cells + 1) (slots + N) (pc + 3) Lv (rbR r :: st) (sN G r N)) : rb_W Φ cells slots pc Lv (rbI n :: st) G := by
  obtain ⟨p, l, e, R, s, m, args, below, meth, c, Q, X, A, ad0, G0⟩ := Φ
  intro ad H locs ls hP hn' hS hl ho hv
  have hK1 := C.2.2.2.2.2.2.2.2.1
  have hR := C.2.2.2.2.2.2.1
  subst hR
  subst hN
  have hAO : va_AO (rb_cp k) s := hK1.2.1 _ (by rcases (by omega : k = 13 ∨ k = 14 ∨ k = 15) with rfl | rfl | rfl <;> simp [rb_cp])
  refine W.anew C.1 C.2.1 C.2.2.2.1 (C.2.2.2.2.1 _ hw) (va_AO.use hAO) rfl hd rfl hn hby hc hs fun cA' kA comp f1 f2 f3 f4 => ?_
  generalize hH1 : H.push ({ cls := cA', slots := Array.replicate n.toNatClampNeg .null, vm := .none } : Cell) = H1
  have z1 : H1.size = H.size + 1 := by rw [← hH1, Array.size_push]
  have e1 : H1[H.size]? = some (arrV cA' n.toNatClampNeg (fun _ => .null)) := by rw [← hH1, Array.getElem?_push_size, ← arrV_new]
  have o1 : ∀ q : Nat, q < H.size → H1[q]? = H[q]? := fun q hq => by rw [← hH1, Array.getElem?_push, if_neg (Nat.ne_of_lt hq)]
  have hnx : rb_nx G ad (sN G r n.toNatClampNeg) (rb_adN ad r H.size) := rb_nx.new hf
  have hA : A H.size := C.2.2.2.2.2.2.2.2.2.2 _ hS.1
  have hcA : cA' = X.2.1 k := by
    obtain ⟨kA2, comp2, g1, g2, g3, g4⟩ := (hK1.1.2 (k - 10) _ (rb_tys_q X.2.1 h1 h2)).2
    exact Option.some.inj (f1.symm.trans g4)
  subst hcA
  have key : rb_P X (rb_adN ad r H.size) A (sN G r n.toNatClampNeg) H1 := by
    refine hP.new hf (by rw [hk]; omega) hA o1 ?_
    rw [rb_eP hk h1, sN_N, sN_P]
    exact e1
  have hself : rb_adN ad r H.size r = H.size := by unfold rb_adN; rw [if_pos rfl]
  have h := kk (rb_adN ad r H.size) H1 locs ls key (hn'.tr hnx) (hS.new z1 o1) (hl.nx hnx hv) ((ho.tl.mono (fun x hx => (hnx x hx).1)).cons (rb_ok_r (Or.inl rfl))) (hv.mono (fun x hx => (hnx x hx).1))
  have e2 : (rbR r :: st).map (rb_c (rb_adN ad r H.size)) = Value.ref H.size :: st.map (rb_c ad) := by
    show Value.ref (rb_adN ad r H.size r) :: st.map (rb_c (rb_adN ad r H.size)) = _
    rw [hself, rb_map_nx hnx ho.tl]
  rw [e2] at h
  exact h
/-- checkcast of an object of just that class -/
theorem rb_cast (C : rb_C Φ own cc nL fr lo mc ms) {r : rb_R} {idx ci N : Nat} {RC : String} {TT : u_T} (hw : Cond.classLink own idx RC ∈ TS) (hc : vwCl[ci]? = some (RC, TT, N)) (hci : ci < 10) (hd : decode cc pc = .ok (.checkcast idx, 3)) (hk : rb_k r.1 = ci) (kk : rb_W Φ cells slots (pc + 3) Lv (rbR r :: st) G) : rb_W Φ cells slots pc Lv (rbR r :: st) G := by
  obtain ⟨p, l, e, R, s, m, args, below, meth, c, Q, X, A, ad0, G0⟩ := Φ
  intro ad H locs ls hP hn hS hl ho hv
  have hK1 := C.2.2.2.2.2.2.2.2.1
  obtain ⟨-, hat⟩ := hP.1 r (ho.hd r rfl) (by rw [hk]; omega)
  rw [rb_eo hk hci] at hat
  exact va_castS C.1 C.2.1 C.2.2.2.1 (C.2.2.2.2.1 _ hw) (hK1.1.1 ci _ hc).2 (va_recv hK1.1 (rb_one hat) hc (q0 := 0) rfl) hd (kk ad H locs ls hP hn hS hl ho hv)
/-- the static that holds ArrayList's empty row -/
theorem rb_getE (C : rb_C Φ own cc nL fr lo mc ms) {idx : Nat} (hw : Cond.fieldLink own idx "java/util/ArrayList" "DEFAULTCAPACITY_EMPTY_ELEMENTDATA" "[Ljava/lang/Object;" ∈ TS) (hd : decode cc pc = .ok (.getstatic idx, 3)) (hD : gD G (19, 0, 0)) (kk : rb_W Φ cells slots (pc + 3) Lv (rbR (19, 0, 0) :: st) G) : rb_W Φ cells slots pc Lv st G := by
  obtain ⟨p, l, e, R, s, m, args, below, meth, c, Q, X, A, ad0, G0⟩ := Φ
  intro ad H locs ls hP hn hS hl ho hv
  have h := kk ad H locs ls hP hn hS hl (ho.cons (rb_ok_r hD)) hv
  have e1 : (rbR (19, 0, 0) :: st).map (rb_c ad) = Value.ref X.2.2.1 :: st.map (rb_c ad) := by
    show Value.ref (ad (19, 0, 0)) :: _ = _
    rw [hP.2.2.2.1]
  rw [e1] at h
  exact va_gets C.1 C.2.1 C.2.2.2.2.2.2.2.2.2.1.2.2.1 hS C.2.2.2.1 (C.2.2.2.2.1 _ hw) (fun _ h => h) hd h
/-! calls -/
theorem rb_run_x {p : Program} {l : Launch} {e : Env} {R : Room} {s : State} {m : MethodId} {args : Array Value} {below : List Frame} {meth : Method} {c : Code} {H : Heap} {locs : List Loc} {mc' ms' : Nat} {g : JFrame} {rs : List Value} {Qa : State → Outcome → State → Prop} {XC : String → State → State → Prop} {free : Addr → Prop}
    (h : va_Run p l e R s m args below meth c H locs cells slots mc' ms' g rs Qa free) : vx_Run p l e R s m args below meth c H locs cells slots mc' ms' g rs Qa XC free := by
  intro T hT X
  exact Or.inl (h T hT X)
theorem rb_after {p : Program} {l : Launch} {e : Env} {R : Room} {s : State} {m : MethodId} {args : Array Value} {below : List Frame} {meth : Method} {c : Code} {Q : State → Prop} {X : rb_X} {A : Nat → Prop} {ad0 ad : rb_R → Nat} {G0 : rb_G} {H : Heap} {locs : List Loc} {ls : Array Slot} {mc' ms' : Nat} {st0 : List Value} {a : Array Value} {Post : Option rb_V → rb_G → Prop} {PX : String → rb_G → Prop}
    (hr : vx_Run p l e R s m args below meth c H locs cells slots mc' ms' (F0 m pc ls st0) (rest.map (rb_c ad)) (rb_Q X A ad G Post a) (rb_QX X A ad G PX) A) (hn : rb_nx G0 ad0 G ad) (hS : va_S A s.heap H locs) (hl : rb_ls ad ls Lv) (ho : rb_okL G rest) (hv : rb_okO G Lv)
    (kk : ∀ v G', Post v G' → rb_W (p, l, e, R, s, m, args, below, meth, c, Q, X, A, ad0, G0) (cells + mc') (slots + ms') (pc + 3) Lv (v.toList ++ rest) G')
    (kx : ∀ E G', PX E G' → rb_Wx (p, l, e, R, s, m, args, below, meth, c, Q, X, A, ad0, G0) (cells + mc') (slots + ms') pc Lv rest G' E) : W p l e R s m args below meth c H locs cells slots Q (F0 m pc ls st0) := by
  intro T hT Xs
  rcases hr T hT Xs with ⟨v, st₀, t, T', L, h0, X', hL, e1, e2, ⟨⟨v', G', ad', hv', hp, hnx, hok, hP'⟩, hF⟩, stp⟩ | ⟨q, st₀, t, T', L, E, ce, h0, X', hL, e1, e2, ⟨⟨G', ad', hp, hnx, hP'⟩, hF⟩, hce, hcv, hcl, stp⟩
  · cases hv'
    obtain ⟨k1, k2, k3⟩ := vx_keep h0 e1 hS (fun _ _ h => h) (fun _ h => h) hL hF
    have hmono : ∀ r, gD G r → gD G' r := fun r hr => (hnx r hr).1
    have hok2 : rb_okL G' (v'.toList ++ rest) := by
      intro w hw
      rcases List.mem_append.mp hw with h | h
      · exact hok w (by simpa using h)
      · exact (ho w h).mono hmono
    obtain ⟨t2, a1, b1⟩ := kk v' G' hp ad' T'.heap (locs ++ L) ls (by rw [e1]; exact hP') (hn.tr hnx) k3 (hl.nx hnx hv) hok2 (hv.mono hmono) T' rfl X'
    refine ⟨t2, stp t2 ?_, b1⟩
    have e3 : (v'.toList ++ rest).map (rb_c ad') = (v'.map (rb_c ad')).toList ++ rest.map (rb_c ad) := by
      rw [List.map_append, rb_map_nx hnx ho]
      cases v' <;> rfl
    rw [e3] at a1
    exact a1
  · obtain ⟨k1, k2, k3⟩ := vx_keep h0 e1 hS (fun _ _ h => h) (fun _ h => h) hL hF
    have hmono : ∀ r, gD G r → gD G' r := fun r hr => (hnx r hr).1
    obtain ⟨t2, a1, b1⟩ := kx E G' hp ad' T'.heap (locs ++ L) ls q ce (by rw [e1]; exact hP') (hn.tr hnx) k3 (hl.nx hnx hv) (ho.mono hmono) (hv.mono hmono) (by rw [e1]; exact hce) hcv hcl T' rfl X'
    refine ⟨t2, stp.trans ?_, b1⟩
    rw [rb_map_nx hnx ho] at a1
    exact a1
/-- the words of a call -/
def rb_Vc (own : String) (idx : Nat) (D : String) (y : MethodName) (b : ByteArray) (n : Nat) (ret : Option FieldType) (k : Nat) : Prop := Cond.methodLink own idx y ∈ TS ∧ Cond.instanceMethod y ∈ TS ∧ Cond.selects D y y ∈ TS ∧ Cond.initialized D ∈ TS ∧ Cond.code y b n ret ∈ TS ∧
  (y.cls = D ∧ y.cls ≠ "java/lang/invoke/MethodHandle" ∧ y.cls ≠ "java/lang/invoke/VarHandle" ∧ (parseMethodDescriptor y.desc).map (fun d => d.parameters.length) = some k)
def rb_Sc (own : String) (idx : Nat) (y : MethodName) (b : ByteArray) (n : Nat) (ret : Option FieldType) (k : Nat) : Prop := Cond.methodLink own idx y ∈ TS ∧ Cond.static y ∈ TS ∧ Cond.initialized y.cls ∈ TS ∧ Cond.code y b n ret ∈ TS ∧
  (y.cls ≠ "java/lang/invoke/MethodHandle" ∧ y.cls ≠ "java/lang/invoke/VarHandle" ∧ (parseMethodDescriptor y.desc).map (fun d => d.parameters.length) = some k)
def rb_Ic (own : String) (idx : Nat) (y : MethodName) (b : ByteArray) (n : Nat) (k : Nat) : Prop := Cond.methodLink own idx y ∈ TS ∧ Cond.instanceMethod y ∈ TS ∧ Cond.initialized y.cls ∈ TS ∧ Cond.code y b n none ∈ TS ∧ y.name = "<init>" ∧
  (y.cls ≠ "java/lang/invoke/MethodHandle" ∧ y.cls ≠ "java/lang/invoke/VarHandle" ∧ (parseMethodDescriptor y.desc).map (fun d => d.parameters.length) = some k)
/-- a method called by a name, on an object of just that class -/
theorem rb_callV (C : rb_C Φ own cc nL fr lo mc ms) {r : rb_R} {idx n k ci N fr' lo' mc' ms' : Nat} {D : String} {TT : u_T} {y : MethodName} {b : ByteArray} {ret : Option FieldType} {Post : Option rb_V → rb_G → Prop} {PX : String → rb_G → Prop}
    (F : rb_Vc own idx D y b n ret k) (hM : ∀ l X, rb_M l X y (.code y b n ret) fr' lo' mc' ms' (rbR r :: As) G Post PX) (hc : vwCl[ci]? = some (D, TT, N)) (hci : ci < 10) (hk : rb_k r.1 = ci) (hd : decode cc pc = .ok (.invokevirtual idx, 3)) (hst : st = As.reverse ++ (rbR r :: rest)) (hk9 : As.length = k) (hlen : Lv.length = nL) (hcat : (rest.map rb_cat).sum ≤ 8)
    (hroom : fr' + 1 ≤ fr ∧ 8 + (n + 11) + lo' ≤ lo) (hc9 : cells + mc' ≤ mc) (hs9 : slots + ms' ≤ ms) (kk : ∀ v G', Post v G' → rb_W Φ (cells + mc') (slots + ms') (pc + 3) Lv (v.toList ++ rest) G') (kx : ∀ E G', PX E G' → rb_Wx Φ (cells + mc') (slots + ms') pc Lv rest G' E) : rb_W Φ cells slots pc Lv st G := by
  obtain ⟨p, l, e, R, s, m, args, below, meth, c, Q, X, A, ad0, G0⟩ := Φ
  intro ad H locs ls hP hn hS hl ho hv
  subst hst
  have hK1 := C.2.2.2.2.2.2.2.2.1
  have hR := C.2.2.2.2.2.2.1
  subst hR
  obtain ⟨w1, w2, w3, w4, w5, w6⟩ := F
  have hor : rb_okL G (rbR r :: rest) := fun v hv => ho v (List.mem_append_right _ hv)
  have hoa : rb_okL G (rbR r :: As) := fun v hv => (List.mem_cons.mp hv).elim (fun e => by rw [e]; exact hor.hd) (fun h => ho v (List.mem_append_left _ (List.mem_reverse.mpr h)))
  obtain ⟨-, hat⟩ := hP.1 r (hor.hd r rfl) (by rw [hk]; omega)
  rw [rb_eo hk hci] at hat
  have hG : GoodIn TS (wsV own idx D y (Cond.code y b n ret :: TS)) := fun w hw => by
    unfold wsV at hw
    rcases List.mem_append.mp hw with h | h
    · simp only [List.mem_cons, List.not_mem_nil, or_false] at h
      rcases h with rfl | rfl | rfl | rfl
      · exact ts_good _ w1
      · exact ts_good _ w2
      · exact ts_good _ w3
      · exact ts_good _ w4
    · exact ts_code w5 w h
  have hrun := vx_runV (R := ({ frames := fr, cells := mc, slots := ms, locals := lo } : Room)) (n := k) (ret := ret) (maxL := n) (bytes := b) (As := As.map (rb_c ad)) (rest := rest.map (rb_c ad)) (cells := cells) (slots := slots) (locs := locs) (b := ad r) (e := e) (p := p) (g := F0 m pc ls ((As.reverse ++ (rbR r :: rest)).map (rb_c ad)))
    (meth := meth) (below := below) ⟨C.1, C.2.1, C.2.2.1, C.2.2.2.1, C.2.2.2.2.1⟩ (hM l X C.2.2.2.2.2.2.2.1 A ad) (cwV (C := D) k C.2.2.2.2.1 hG rfl rfl rfl w6 hroom)
    ⟨rb_blind, va_recv hK1.1 (rb_one hat) hc (q0 := 0) rfl, fun U hU hW => ⟨rfl, fun q hq => C.2.2.2.2.2.2.2.2.2.2 q (Nat.le_trans hS.1 (by rw [← hU]; exact hq)), by rw [hU]; exact hP, hK1.warm hW, by rw [hU]; exact C.2.2.2.2.2.2.2.2.2.1.moved hW.alike hS.2.1, hoa⟩⟩
    rfl (by rw [List.length_map]; exact hk9) (by show ls.size = nL; rw [hl.1, hlen]) (by show (As.reverse ++ (rbR r :: rest)).map (rb_c ad) = _; rw [List.map_append, List.map_reverse]; rfl)
    (lv_room (by rw [List.map_map, show ((fun v => Value.category v) ∘ rb_c ad) = rb_cat from funext fun v => rb_cat_c ad v]; exact hcat)) hd ⟨hc9, hs9⟩
  exact rb_after hrun hn hS hl hor.tl hv kk kx
theorem rb_callS (C : rb_C Φ own cc nL fr lo mc ms) {idx n k fr' lo' mc' ms' : Nat} {y : MethodName} {b : ByteArray} {ret : Option FieldType} {Post : Option rb_V → rb_G → Prop} {PX : String → rb_G → Prop}
    (F : rb_Sc own idx y b n ret k) (hM : ∀ l X, rb_M l X y (.code y b n ret) fr' lo' mc' ms' As G Post PX) (hd : decode cc pc = .ok (.invokestatic idx, 3)) (hst : st = As.reverse ++ rest) (hk9 : As.length = k) (hlen : Lv.length = nL) (hcat : (rest.map rb_cat).sum ≤ 8)
    (hroom : fr' + 1 ≤ fr ∧ 8 + (n + 11) + lo' ≤ lo) (hc9 : cells + mc' ≤ mc) (hs9 : slots + ms' ≤ ms) (kk : ∀ v G', Post v G' → rb_W Φ (cells + mc') (slots + ms') (pc + 3) Lv (v.toList ++ rest) G') (kx : ∀ E G', PX E G' → rb_Wx Φ (cells + mc') (slots + ms') pc Lv rest G' E) : rb_W Φ cells slots pc Lv st G := by
  obtain ⟨p, l, e, R, s, m, args, below, meth, c, Q, X, A, ad0, G0⟩ := Φ
  intro ad H locs ls hP hn hS hl ho hv
  subst hst
  have hK1 := C.2.2.2.2.2.2.2.2.1
  have hR := C.2.2.2.2.2.2.1
  subst hR
  obtain ⟨w1, w2, w4, w5, w6⟩ := F
  have hor : rb_okL G rest := fun v hv => ho v (List.mem_append_right _ hv)
  have hoa : rb_okL G As := fun v h => ho v (List.mem_append_left _ (List.mem_reverse.mpr h))
  have hrun := vx_runS (R := ({ frames := fr, cells := mc, slots := ms, locals := lo } : Room)) (n := k) (ret := ret) (maxL := n) (bytes := b) (As := As.map (rb_c ad)) (rest := rest.map (rb_c ad)) (cells := cells) (slots := slots) (locs := locs) (e := e) (p := p) (H := H) (g := F0 m pc ls ((As.reverse ++ rest).map (rb_c ad)))
    (meth := meth) (below := below) ⟨C.1, C.2.1, C.2.2.1, C.2.2.2.1, C.2.2.2.2.1⟩ (hM l X C.2.2.2.2.2.2.2.1 A ad) ⟨callB_of k C.2.2.2.2.1 (ts_code w5) rfl rfl rfl (C.2.2.2.2.1 _ w4) (C.2.2.2.2.1 _ w1) w6 hroom, C.2.2.2.2.1 _ w2⟩
    ⟨rb_blind, fun U hU hW => ⟨rfl, fun q hq => C.2.2.2.2.2.2.2.2.2.2 q (Nat.le_trans hS.1 (by rw [← hU]; exact hq)), by rw [hU]; exact hP, hK1.warm hW, by rw [hU]; exact C.2.2.2.2.2.2.2.2.2.1.moved hW.alike hS.2.1, hoa⟩⟩
    rfl (by rw [List.length_map]; exact hk9) (by show ls.size = nL; rw [hl.1, hlen]) (by show (As.reverse ++ rest).map (rb_c ad) = _; rw [List.map_append, List.map_reverse])
    (lv_room (by rw [List.map_map, show ((fun v => Value.category v) ∘ rb_c ad) = rb_cat from funext fun v => rb_cat_c ad v]; exact hcat)) hd ⟨hc9, hs9⟩
  exact rb_after hrun hn hS hl hor hv kk kx
/-- a constructor -/
theorem rb_callI (C : rb_C Φ own cc nL fr lo mc ms) {r : rb_R} {idx n k fr' lo' mc' ms' : Nat} {y : MethodName} {b : ByteArray} {Post : Option rb_V → rb_G → Prop}
    (F : rb_Ic own idx y b n k) (hM : ∀ l X, rb_N l X y (.code y b n none) fr' lo' mc' ms' (rbR r :: As) G Post) (hd : decode cc pc = .ok (.invokespecial idx, 3)) (hst : st = As.reverse ++ (rbR r :: rest)) (hk9 : As.length = k) (hlen : Lv.length = nL) (hcat : (rest.map rb_cat).sum ≤ 8)
    (hroom : fr' + 1 ≤ fr ∧ 8 + (n + 11) + lo' ≤ lo) (hc9 : cells + mc' ≤ mc) (hs9 : slots + ms' ≤ ms) (kk : ∀ v G', Post v G' → rb_W Φ (cells + mc') (slots + ms') (pc + 3) Lv (v.toList ++ rest) G') : rb_W Φ cells slots pc Lv st G := by
  obtain ⟨p, l, e, R, s, m, args, below, meth, c, Q, X, A, ad0, G0⟩ := Φ
  intro ad H locs ls hP hn hS hl ho hv
  subst hst
  have hK1 := C.2.2.2.2.2.2.2.2.1
  have hR := C.2.2.2.2.2.2.1
  subst hR
  obtain ⟨w1, w2, w4, w5, w6, w7⟩ := F
  have hor : rb_okL G (rbR r :: rest) := fun v hv => ho v (List.mem_append_right _ hv)
  have hoa : rb_okL G (rbR r :: As) := fun v hv => (List.mem_cons.mp hv).elim (fun e => by rw [e]; exact hor.hd) (fun h => ho v (List.mem_append_left _ (List.mem_reverse.mpr h)))
  have hrun := va_runI (R := ({ frames := fr, cells := mc, slots := ms, locals := lo } : Room)) (n := k) (maxL := n) (bytes := b) (As := As.map (rb_c ad)) (rest := rest.map (rb_c ad)) (cells := cells) (slots := slots) (locs := locs) (b := ad r) (e := e) (p := p) (H := H) (g := F0 m pc ls ((As.reverse ++ (rbR r :: rest)).map (rb_c ad)))
    (meth := meth) (below := below) ⟨C.1, C.2.1, C.2.2.1, C.2.2.2.1, C.2.2.2.2.1⟩ (hM l X C.2.2.2.2.2.2.2.1 A ad) (cwI k C.2.2.2.2.1 (ts_code w5) rfl rfl rfl (C.2.2.2.2.1 _ w4) (C.2.2.2.2.1 _ w1) (C.2.2.2.2.1 _ w2) w6 w7 hroom)
    ⟨rb_blind, fun U hU hW => ⟨rfl, fun q hq => C.2.2.2.2.2.2.2.2.2.2 q (Nat.le_trans hS.1 (by rw [← hU]; exact hq)), by rw [hU]; exact hP, hK1.warm hW, by rw [hU]; exact C.2.2.2.2.2.2.2.2.2.1.moved hW.alike hS.2.1, hoa⟩⟩
    rfl (by rw [List.length_map]; exact hk9) (by show ls.size = nL; rw [hl.1, hlen]) (by show (As.reverse ++ (rbR r :: rest)).map (rb_c ad) = _; rw [List.map_append, List.map_reverse]; rfl)
    (lv_room (by rw [List.map_map, show ((fun v => Value.category v) ∘ rb_c ad) = rb_cat from funext fun v => rb_cat_c ad v]; exact hcat)) hd ⟨hc9, hs9⟩
  exact rb_after (PX := fun _ _ => False) (rb_run_x hrun) hn hS hl hor.tl hv kk (fun E G' h => h.elim)
/-- a private constructor of a nest mate -/
theorem rb_callIN (C : rb_C Φ own cc nL fr lo mc ms) {r : rb_R} {idx n k fr' lo' mc' ms' : Nat} {host : String} {y : MethodName} {b : ByteArray} {Post : Option rb_V → rb_G → Prop}
    (hlk : ∀ X s, rb_K1 X s → va_Nw (.methodLinkNest own idx y host) s) (w2 : Cond.instanceMethod y ∈ TS) (w4 : Cond.initialized y.cls ∈ TS) (w5 : Cond.code y b n none ∈ TS) (w6 : y.name = "<init>") (w7 : y.cls ≠ "java/lang/invoke/MethodHandle" ∧ y.cls ≠ "java/lang/invoke/VarHandle" ∧ (parseMethodDescriptor y.desc).map (fun d => d.parameters.length) = some k)
    (hM : ∀ l X, rb_N l X y (.code y b n none) fr' lo' mc' ms' (rbR r :: As) G Post) (hd : decode cc pc = .ok (.invokespecial idx, 3)) (hst : st = As.reverse ++ (rbR r :: rest)) (hk9 : As.length = k) (hlen : Lv.length = nL) (hcat : (rest.map rb_cat).sum ≤ 8)
    (hroom : fr' + 1 ≤ fr ∧ 8 + (n + 11) + lo' ≤ lo) (hc9 : cells + mc' ≤ mc) (hs9 : slots + ms' ≤ ms) (kk : ∀ v G', Post v G' → rb_W Φ (cells + mc') (slots + ms') (pc + 3) Lv (v.toList ++ rest) G') : rb_W Φ cells slots pc Lv st G := by
  obtain ⟨p, l, e, R, s, m, args, below, meth, c, Q, X, A, ad0, G0⟩ := Φ
  intro ad H locs ls hP hn hS hl ho hv
  subst hst
  have hK1 := C.2.2.2.2.2.2.2.2.1
  have hR := C.2.2.2.2.2.2.1
  subst hR
  have hor : rb_okL G (rbR r :: rest) := fun v hv => ho v (List.mem_append_right _ hv)
  have hoa : rb_okL G (rbR r :: As) := fun v hv => (List.mem_cons.mp hv).elim (fun e => by rw [e]; exact hor.hd) (fun h => ho v (List.mem_append_left _ (List.mem_reverse.mpr h)))
  have hrun := va_runIN (R := ({ frames := fr, cells := mc, slots := ms, locals := lo } : Room)) (n := k) (maxL := n) (bytes := b) (As := As.map (rb_c ad)) (rest := rest.map (rb_c ad)) (cells := cells) (slots := slots) (locs := locs) (b := ad r) (e := e) (p := p) (H := H) (g := F0 m pc ls ((As.reverse ++ (rbR r :: rest)).map (rb_c ad)))
    (meth := meth) (below := below) ⟨C.1, C.2.1, C.2.2.1, C.2.2.2.1, C.2.2.2.2.1⟩ (hM l X C.2.2.2.2.2.2.2.1 A ad) ⟨va_cnB k C.2.2.2.2.1 (ts_code w5) rfl rfl rfl (hlk X s hK1) (C.2.2.2.2.1 _ w4) w7 hroom, w6, C.2.2.2.2.1 _ w2⟩
    ⟨rb_blind, fun U hU hW => ⟨rfl, fun q hq => C.2.2.2.2.2.2.2.2.2.2 q (Nat.le_trans hS.1 (by rw [← hU]; exact hq)), by rw [hU]; exact hP, hK1.warm hW, by rw [hU]; exact C.2.2.2.2.2.2.2.2.2.1.moved hW.alike hS.2.1, hoa⟩⟩
    rfl (by rw [List.length_map]; exact hk9) (by show ls.size = nL; rw [hl.1, hlen]) (by show (As.reverse ++ (rbR r :: rest)).map (rb_c ad) = _; rw [List.map_append, List.map_reverse]; rfl)
    (lv_room (by rw [List.map_map, show ((fun v => Value.category v) ∘ rb_c ad) = rb_cat from funext fun v => rb_cat_c ad v]; exact hcat)) hd ⟨hc9, hs9⟩
  exact rb_after (PX := fun _ _ => False) (rb_run_x hrun) hn hS hl hor.tl hv kk (fun E G' h => h.elim)
/-- Object.<init> -/
theorem rb_objInit (C : rb_C Φ own cc nL fr lo mc ms) {r : rb_R} {idx : Nat} (w1 : Cond.methodLink own idx objectInit ∈ TS) (w2 : Cond.instanceMethod objectInit ∈ TS) (w3 : Cond.code objectInit ⟨#[0xb1]⟩ 1 none ∈ TS) (hd : decode cc pc = .ok (.invokespecial idx, 3)) (hlen : Lv.length = nL) (hcat : (st.map rb_cat).sum + 12 ≤ lo) (hfr : 1 ≤ fr) (kk : rb_W Φ cells slots (pc + 3) Lv st G) : rb_W Φ cells slots pc Lv (rbR r :: st) G := by
  obtain ⟨p, l, e, R, s, m, args, below, meth, c, Q, X, A, ad0, G0⟩ := Φ
  intro ad H locs ls hP hn hS hl ho hv
  have hR := C.2.2.2.2.2.2.1
  subst hR
  refine W.objInit C.1 C.2.1 C.2.2.2.1 (C.2.2.2.2.1 _ w1) (C.2.2.2.2.1 _ w2) (C.2.2.2.2.1 _ w3) (g := F0 m pc ls ((rbR r :: st).map (rb_c ad))) rfl (by show ls.size = _; rw [hl.1, hlen, C.2.2.1]) rfl hd hfr ?_ (kk ad H locs ls hP hn hS hl ho.tl hv)
  show 2 * 0 + ((st.map (rb_c ad)).map fun v => v.category).sum + 12 ≤ lo
  rw [List.map_map, show ((fun v => Value.category v) ∘ rb_c ad) = rb_cat from funext fun v => rb_cat_c ad v]
  omega
end
end
section
/-! exceptions -/
theorem rb_P.keep {X : rb_X} {ad : rb_R → Nat} {A : Nat → Prop} {G : rb_G} {H H1 : Heap} (hP : rb_P X ad A G H) (h : ∀ q : Nat, q < H.size → H1[q]? = H[q]?) : rb_P X ad A G H1 :=
  ⟨fun r hr hk => ⟨(hP.1 r hr hk).1, (hP.1 r hr hk).2.kept (h _ (hP.1 r hr hk).2.lt)⟩, hP.2⟩
def rb_sup : List String := ["java/lang/RuntimeException", "java/lang/Exception"]
def rb_Thr (ik ic : Nat) (cls : String) : Prop := Cond.classLink RX7 ik cls ∈ TS ∧ Cond.initialized cls ∈ TS ∧ Bundle.fit cls = true ∧ (∀ w ∈ (vx_atS RX7 ic cls rb_sup).filter goodWord, w ∈ TS) ∧ (∀ w ∈ (vx_atS RX7 ic cls rb_sup).filter (fun w => !goodWord w), w ∈ Cond.castable cls cls :: rb_dcl.map Cond.declares) ∧
  (cls, cls) ∈ rb_cst ∧ ∀ w ∈ Cond.classLink RX7 ik cls :: Cond.initialized cls :: vx_atS RX7 ic cls rb_sup, vx_ot w = true
section
variable {Φ : rb_F} {own : String} {cc : ByteArray} {nL fr lo mc ms cells slots pc : Nat} {Lv Lv' : List (Option rb_V)} {st rest As : List rb_V} {G : rb_G}
theorem rb_throw (C : rb_C Φ RX7 cc nL fr lo mc ms) {PX : String → rb_G → Prop} (hE : rb_EX Φ PX mc ms) {cls text : String} {ik is ic : Nat} (F : rb_Thr ik ic cls) (hst : (is, text) ∈ rb_strs) (d0 : decode cc pc = .ok (.new ik, 3)) (d3 : decode cc (pc + 3) = .ok (.dup, 1)) (d4 : decode cc (pc + 4) = .ok (.ldc is, 2)) (d6 : decode cc (pc + 6) = .ok (.invokespecial ic, 3)) (d9 : decode cc (pc + 9) = .ok (.athrow, 1))
    (hlen : Lv.length = nL) (hfr : 5 < fr) (hlo : (st.map rb_cat).sum + 82 ≤ lo) (hc : cells + 1 ≤ mc) (hs : slots + 6 ≤ ms) (hp : PX cls G) : rb_W Φ cells slots pc Lv st G := by
  obtain ⟨p, l, e, R, s, m, args, below, meth, c, Q, X, A, ad0, G0⟩ := Φ
  intro ad H locs ls hP hn hS hl ho hv
  have hR := C.2.2.2.2.2.2.1
  subst hR
  have hK1 := C.2.2.2.2.2.2.2.2.1
  have hK2 := C.2.2.2.2.2.2.2.2.2.1
  obtain ⟨ht, Qc, hQ⟩ := hE
  subst hQ
  obtain ⟨w1, w2, w3, w4, w5, w6, w7⟩ := F
  obtain ⟨sa, hsa⟩ := hK1.2.2.2.2.1 _ hst
  refine vx_throwS (names := rb_sup) (sa := sa) C.1 C.2.1 C.2.2.2.2.2.2.2.1 C.2.2.2.1 w3 (by decide +kernel) (C.2.2.2.2.1 _ w1) (C.2.2.2.2.1 _ w2) hsa
    (vx_hat (fun w hw => C.2.2.2.2.1 _ (w4 w hw)) w5 (vx_c (va_Nw.use rfl (hK1.2.2.1 _ w6)) (fun w hw => by obtain ⟨y, hy, e⟩ := List.mem_map.mp hw; rw [← e]; exact va_Nw.use rfl (hK1.2.2.2.2.2.2.2.2.2 y hy)))) w7 hK2.1 hK2.2.1 hS (by rw [hl.1, hlen, C.2.2.1]) d0 d3 d4 d6 d9 (fun x hx => (ht x hx).elim) hfr ?_ (Nat.le_trans hc (Nat.le_refl _)) (Nat.le_trans hs (Nat.le_refl _)) C.2.2.2.2.2.1
    (fun t hvm hz hk => ⟨⟨G, ad, hp, hn, hP.keep hk⟩, Nat.le_trans hS.1 hz, fun q h1 h2 => (hk q (Nat.lt_of_lt_of_le h1 hS.1)).trans (hS.2.1 q h1 h2)⟩) hS.2.2 hc hs
  show ((st.map (rb_c ad)).map fun v => v.category).sum + 82 ≤ lo
  rw [List.map_map, show ((fun v => Value.category v) ∘ rb_c ad) = rb_cat from funext fun v => rb_cat_c ad v]
  exact hlo
theorem rb_throwW (C : rb_C Φ RX7 cc nL fr lo mc ms) {PX : String → rb_G → Prop} (hE : rb_EX Φ PX mc ms) {cls text : String} {ik is ic : Nat} (F : rb_Thr ik ic cls) (hst : (is, text) ∈ rb_strs) (d0 : decode cc pc = .ok (.new ik, 3)) (d3 : decode cc (pc + 3) = .ok (.dup, 1)) (d4 : decode cc (pc + 4) = .ok (.ldc_w is, 3)) (d6 : decode cc (pc + 7) = .ok (.invokespecial ic, 3)) (d9 : decode cc (pc + 10) = .ok (.athrow, 1))
    (hlen : Lv.length = nL) (hfr : 5 < fr) (hlo : (st.map rb_cat).sum + 82 ≤ lo) (hc : cells + 1 ≤ mc) (hs : slots + 6 ≤ ms) (hp : PX cls G) : rb_W Φ cells slots pc Lv st G := by
  obtain ⟨p, l, e, R, s, m, args, below, meth, c, Q, X, A, ad0, G0⟩ := Φ
  intro ad H locs ls hP hn hS hl ho hv
  have hR := C.2.2.2.2.2.2.1
  subst hR
  have hK1 := C.2.2.2.2.2.2.2.2.1
  have hK2 := C.2.2.2.2.2.2.2.2.2.1
  obtain ⟨ht, Qc, hQ⟩ := hE
  subst hQ
  obtain ⟨w1, w2, w3, w4, w5, w6, w7⟩ := F
  obtain ⟨sa, hsa⟩ := hK1.2.2.2.2.1 _ hst
  refine vx_throwSW (names := rb_sup) (sa := sa) C.1 C.2.1 C.2.2.2.2.2.2.2.1 C.2.2.2.1 w3 (by decide +kernel) (C.2.2.2.2.1 _ w1) (C.2.2.2.2.1 _ w2) hsa
    (vx_hat (fun w hw => C.2.2.2.2.1 _ (w4 w hw)) w5 (vx_c (va_Nw.use rfl (hK1.2.2.1 _ w6)) (fun w hw => by obtain ⟨y, hy, e⟩ := List.mem_map.mp hw; rw [← e]; exact va_Nw.use rfl (hK1.2.2.2.2.2.2.2.2.2 y hy)))) w7 hK2.1 hK2.2.1 hS (by rw [hl.1, hlen, C.2.2.1]) d0 d3 d4 d6 d9 (fun x hx => (ht x hx).elim) hfr ?_ (Nat.le_trans hc (Nat.le_refl _)) (Nat.le_trans hs (Nat.le_refl _)) C.2.2.2.2.2.1
    (fun t hvm hz hk => ⟨⟨G, ad, hp, hn, hP.keep hk⟩, Nat.le_trans hS.1 hz, fun q h1 h2 => (hk q (Nat.lt_of_lt_of_le h1 hS.1)).trans (hS.2.1 q h1 h2)⟩) hS.2.2 hc hs
  show ((st.map (rb_c ad)).map fun v => v.category).sum + 82 ≤ lo
  rw [List.map_map, show ((fun v => Value.category v) ∘ rb_c ad) = rb_cat from funext fun v => rb_cat_c ad v]
  exact hlo
/-! methods with a table -/
def rb_T (Φ : rb_F) (hh : List (Nat × Nat × Nat × Nat)) : Prop := match Φ with
  | (_, _, _, _, _, _, _, _, _, c, _, _, _, _, _) => c.exceptionTable.toList = tableOf hh
theorem rb_startW {l : Launch} {X : rb_X} {y : MethodName} {cc : ByteArray} {maxL : Nat} {ret : Option FieldType} {hh : List (Nat × Nat × Nat × Nat)} {fr lo mc ms : Nat} {av : List rb_V} {G : rb_G} {Post : Option rb_V → rb_G → Prop} (own : String) (hy : y.cls = own) (hpl : plainName own = true) (hc1 : rb_c1 (av.map some) = true) (hn : av.length ≤ maxL)
    (body : ∀ Φ, rb_C Φ own cc maxL fr lo mc ms → rb_E Φ ret Post mc ms → rb_T Φ hh → rb_W Φ 0 0 0 (av.map some ++ List.replicate (maxL - av.length) none) [] G) : rb_N l X y (.codeWith y cc maxL ret hh) fr lo mc ms av G Post := by
  intro hl A ad
  refine va_MetW (cc := cc) (maxL := maxL) (ret := ret) (by rw [hy]; exact hpl) rfl ?_
  intro p e s m args below meth c s₁ B hml hv
  obtain ⟨rfl, hA, hP, hK1, hK2, hok⟩ := hv
  have hts0 := atoms_spec (ws := .codeWith y cc maxL ret hh :: TS) B.pre
  have K := body (p, l, e, (headSpec (.codeWith y cc maxL ret hh :: TS) { frames := fr, cells := mc, slots := ms, locals := lo }).room, s, m, (av.map (rb_c ad)).toArray, below, meth, c, MQ below (rb_Q X A ad G Post) (av.map (rb_c ad)).toArray s mc ms A, X, A, ad, G)
    ⟨B.exec, B.bytes, hml, by rw [← hy]; exact findClass_of_methodNamed B.named, fun w hw => hts0 w (List.mem_cons_of_mem _ hw), B.notSynchronized, rfl, hl, hK1, hK2, hA⟩ ⟨B.returns, fun _ _ _ h => h⟩ (vx_table (x := y) B (hts0 _ List.mem_cons_self))
  rw [lg_entry_eq]
  exact K ad s.heap [] _ hP rb_nx.rf va_S.rf (rb_entry ad av hc1 hn) (fun v hv => by cases hv) (fun v hv => by
    rcases List.mem_append.mp hv with h | h
    · obtain ⟨w, hw, e⟩ := List.mem_map.mp h
      cases e
      exact hok v hw
    · cases (List.mem_replicate.mp h).2)
/-- caught: astore; iconst; ireturn -/
theorem rb_catch (C : rb_C Φ own cc nL fr lo mc ms) {hh : List (Nat × Nat × Nat × Nat)} (T : rb_T Φ hh) {Post : Option rb_V → rb_G → Prop} (hE : rb_E Φ (some .int) Post mc ms) {E : String} (pre : List ExceptionTableEntry) (x : ExceptionTableEntry) (suf : List ExceptionTableEntry) (hsplit : tableOf hh = pre ++ x :: suf)
    (hpass : ∀ z ∈ pre, z.catchType ≠ 0 ∧ ∃ nm : String, Cond.classLink own z.catchType nm ∈ TS ∧ (E, nm) ∈ rb_ncs) (hx : covers x pc = true) (h0 : x.catchType ≠ 0) (hlk : Cond.classLink own x.catchType E ∈ TS) (hce : (E, E) ∈ rb_cst) {i pc1 pc2 : Nat} {n : Int} {v : Int32}
    (da : (decode cc x.handlerPc = .ok (.astore i, 2) ∧ pc1 = x.handlerPc + 2) ∨ (decode cc x.handlerPc = .ok (.astore_n 3, 1) ∧ i = 3 ∧ pc1 = x.handlerPc + 1)) (di : decode cc pc1 = .ok (.iconst n, 1)) (hp2 : pc2 = pc1 + 1) (dr : decode cc pc2 = .ok (.ireturn, 1)) (hv0 : Int32.ofInt n = v) (hi : i < Lv.length) (hc : cells ≤ mc) (hs : slots ≤ ms) (hp : Post (some (rbI v)) G) : rb_Wx Φ cells slots pc Lv st G E := by
  obtain ⟨p, l, e, R, s, m, args, below, meth, c, Q, X, A, ad0, G0⟩ := Φ
  intro ad H locs ls q ce hP hn hS hl ho hv h1 h2 h3
  have hK1 := C.2.2.2.2.2.2.2.2.1
  have hlk9 : meth.locks = false := C.2.2.2.2.2.1
  have hend : ∀ ls', W p l e R s m args below meth c H locs cells slots Q (F0 m pc1 ls' []) := by
    intro ls'
    refine lv_iconst C.1 C.2.1 di hv0 ?_
    rw [hp2] at dr
    exact W.widen hc hs (hE.2 H locs _ (W.iret C.1 C.2.1 hE.1 (fun t ht hW => ⟨⟨some (rbI v), G, ad, rfl, hp, hn, (fun w h => by cases h; exact rb_ok_i _ _), by rw [ht]; exact hP⟩, hS.F ht⟩) hS.2.2 dr hlk9))
  refine vx_catch (name := E) C.2.2.2.1 pre x suf (T.trans hsplit) (fun z hz => Or.inr ?_) hx h0 (C.2.2.2.2.1 _ hlk) (va_Nw.use rfl (hK1.2.2.1 _ hce)) h1 h2 h3 ?_
  · obtain ⟨z0, nm, z1, z2⟩ := hpass z hz
    exact ⟨z0, nm, C.2.2.2.2.1 _ z1, hK1.2.2.2.1 _ z2⟩
  · rcases da with ⟨da, e1⟩ | ⟨da, e0, e1⟩
    · rw [e1] at hend
      exact lv_astore C.1 C.2.1 da hl hi rfl (fun ls' _ => hend ls')
    · rw [e1] at hend
      exact lv_astore_n C.1 C.2.1 da rfl hl (by rw [e0] at hi; exact hi) rfl (fun ls' _ => hend ls')
def rb_SWc (own : String) (idx : Nat) (y : MethodName) (b : ByteArray) (n : Nat) (ret : Option FieldType) (hh : List (Nat × Nat × Nat × Nat)) (k : Nat) : Prop := Cond.methodLink own idx y ∈ TS ∧ Cond.static y ∈ TS ∧ Cond.initialized y.cls ∈ TS ∧ Cond.codeWith y b n ret hh ∈ TS ∧
  (y.cls ≠ "java/lang/invoke/MethodHandle" ∧ y.cls ≠ "java/lang/invoke/VarHandle" ∧ (parseMethodDescriptor y.desc).map (fun d => d.parameters.length) = some k)
theorem rb_callSW (C : rb_C Φ own cc nL fr lo mc ms) {idx n k fr' lo' mc' ms' : Nat} {y : MethodName} {b : ByteArray} {ret : Option FieldType} {hh : List (Nat × Nat × Nat × Nat)} {Post : Option rb_V → rb_G → Prop}
    (F : rb_SWc own idx y b n ret hh k) (hM : ∀ l X, rb_N l X y (.codeWith y b n ret hh) fr' lo' mc' ms' As G Post) (hd : decode cc pc = .ok (.invokestatic idx, 3)) (hst : st = As.reverse ++ rest) (hk9 : As.length = k) (hlen : Lv.length = nL) (hcat : (rest.map rb_cat).sum ≤ 8)
    (hroom : fr' + 1 ≤ fr ∧ 8 + (n + 11) + lo' ≤ lo) (hc9 : cells + mc' ≤ mc) (hs9 : slots + ms' ≤ ms) (kk : ∀ v G', Post v G' → rb_W Φ (cells + mc') (slots + ms') (pc + 3) Lv (v.toList ++ rest) G') : rb_W Φ cells slots pc Lv st G := by
  obtain ⟨p, l, e, R, s, m, args, below, meth, c, Q, X, A, ad0, G0⟩ := Φ
  intro ad H locs ls hP hn hS hl ho hv
  subst hst
  have hK1 := C.2.2.2.2.2.2.2.2.1
  have hR := C.2.2.2.2.2.2.1
  subst hR
  obtain ⟨w1, w2, w4, w5, w6⟩ := F
  have hor : rb_okL G rest := fun v hv => ho v (List.mem_append_right _ hv)
  have hoa : rb_okL G As := fun v h => ho v (List.mem_append_left _ (List.mem_reverse.mpr h))
  have hG : GoodIn TS (va_wsS own idx y (Cond.codeWith y b n ret hh :: TS)) := fun w hw => by
    unfold va_wsS at hw
    rcases List.mem_append.mp hw with h | h
    · simp only [List.mem_cons, List.not_mem_nil, or_false] at h
      rcases h with rfl | rfl | rfl
      · exact ts_good _ w1
      · exact ts_good _ w2
      · exact ts_good _ w4
    · exact ts_code w5 w h
  have hrun := vx_runSW (R := ({ frames := fr, cells := mc, slots := ms, locals := lo } : Room)) (n := k) (ret := ret) (maxL := n) (bytes := b) (hh := hh) (As := As.map (rb_c ad)) (rest := rest.map (rb_c ad)) (cells := cells) (slots := slots) (locs := locs) (e := e) (p := p) (H := H) (g := F0 m pc ls ((As.reverse ++ rest).map (rb_c ad)))
    (meth := meth) (below := below) ⟨C.1, C.2.1, C.2.2.1, C.2.2.2.1, C.2.2.2.2.1⟩ (hM l X C.2.2.2.2.2.2.2.1 A ad) (vx_cwSW k C.2.2.2.2.1 hG rfl rfl rfl w6 hroom)
    ⟨rb_blind, fun U hU hW => ⟨rfl, fun q hq => C.2.2.2.2.2.2.2.2.2.2 q (Nat.le_trans hS.1 (by rw [← hU]; exact hq)), by rw [hU]; exact hP, hK1.warm hW, by rw [hU]; exact C.2.2.2.2.2.2.2.2.2.1.moved hW.alike hS.2.1, hoa⟩⟩
    rfl (by rw [List.length_map]; exact hk9) (by show ls.size = nL; rw [hl.1, hlen]) (by show (As.reverse ++ rest).map (rb_c ad) = _; rw [List.map_append, List.map_reverse])
    (lv_room (by rw [List.map_map, show ((fun v => Value.category v) ∘ rb_c ad) = rb_cat from funext fun v => rb_cat_c ad v]; exact hcat)) hd ⟨hc9, hs9⟩
  exact rb_after (PX := fun _ _ => False) (rb_run_x hrun) hn hS hl hor hv kk (fun E G' h => h.elim)
end
end
section
/-! facts of the tables, by place (a program wrote them) -/
theorem ts_sub {ws : List Cond} (ps : List Nat) (hp : ws = ps.filterMap (fun i => lw_tbl[i]?)) (h : ws.all goodWord = true) : ∀ w ∈ ws, w ∈ TS := by
  intro w hw
  have h1 := List.all_eq_true.mp h w hw
  rw [hp] at hw
  obtain ⟨i, -, hi⟩ := List.mem_filterMap.mp hw
  exact ts_mem i hi h1
theorem inC_Jx4a65c : ∀ w ∈ u_ws RJx4a65c TJx4a65c 3, w ∈ TS := ts_sub [102, 98, 100] (by decide +kernel) (by decide +kernel)
theorem inC_X0 : ∀ w ∈ u_ws RX0 TX0 3, w ∈ TS := ts_sub [164, 166, 168] (by decide +kernel) (by decide +kernel)
theorem inC_X1 : ∀ w ∈ u_ws RX1 TX1 7, w ∈ TS := ts_sub [393, 395, 397, 399, 401, 403, 405] (by decide +kernel) (by decide +kernel)
theorem inC_X2 : ∀ w ∈ u_ws RX2 TX2 1, w ∈ TS := ts_sub [121] (by decide +kernel) (by decide +kernel)
theorem inC_X3 : ∀ w ∈ u_ws RX3 TX3 4, w ∈ TS := ts_sub [713, 715, 717, 719] (by decide +kernel) (by decide +kernel)
theorem inC_X4 : ∀ w ∈ u_ws RX4 TX4 5, w ∈ TS := ts_sub [745, 747, 749, 751, 753] (by decide +kernel) (by decide +kernel)
theorem inC_X5 : ∀ w ∈ u_ws RX5 TX5 7, w ∈ TS := ts_sub [136, 138, 140, 142, 144, 146, 148] (by decide +kernel) (by decide +kernel)
theorem inC_X6 : ∀ w ∈ u_ws RX6 TX6 11, w ∈ TS := ts_sub [532, 534, 536, 538, 540, 542, 544, 546, 548, 550, 552] (by decide +kernel) (by decide +kernel)
theorem inC_X7 : ∀ w ∈ u_ws RX7 TX7 7, w ∈ TS := ts_sub [178, 180, 182, 184, 186, 188, 190] (by decide +kernel) (by decide +kernel)
theorem inC_X8 : ∀ w ∈ u_ws RX8 TX8 39, w ∈ TS := ts_sub [921, 923, 925, 927, 929, 931, 933, 935, 937, 939, 941, 943, 945, 947, 949, 951, 953, 955, 957, 959, 961, 963, 965, 967, 969, 971, 973, 975, 977, 979, 981, 983, 985, 987, 989, 991, 993, 995, 997] (by decide +kernel) (by decide +kernel)
theorem F_Jx4a65c_9 : rb_Fld RJx4a65c 9 0 1 true false (.array (.object "java/lang/Object")) := ⟨RJx4a65c, TJx4a65c, 3, tyJx4a65c, rfl, inC_Jx4a65c, by decide, rfl, by decide, ts_mem 93 (by decide +kernel) rfl, tyJx4a65c_ok, nmJx4a65c, by decide +kernel, rfl, (fun h => nomatch h)⟩
theorem FR_Jx4a65c_9 : rb_FldR RJx4a65c 9 0 1 true := F_Jx4a65c_9.r
theorem F_Jx4a65c_48 : rb_Fld RJx4a65c 48 0 2 false false .int := ⟨RJx4a65c, TJx4a65c, 3, tyJx4a65c, rfl, inC_Jx4a65c, by decide, rfl, by decide, ts_mem 94 (by decide +kernel) rfl, tyJx4a65c_ok, nmJx4a65c, by decide +kernel, rfl, (fun h => nomatch h)⟩
theorem FR_Jx4a65c_48 : rb_FldR RJx4a65c 48 0 2 false := F_Jx4a65c_48.r
theorem F_Jxc12de_7 : rb_Fld RJxc12de 7 0 0 false false .int := ⟨RJx4a65c, TJx4a65c, 3, tyJx4a65c, rfl, inC_Jx4a65c, by decide, rfl, by decide, ts_mem 95 (by decide +kernel) rfl, tyJx4a65c_ok, nmJx4a65c, by decide +kernel, rfl, (fun h => nomatch h)⟩
theorem FR_Jxc12de_7 : rb_FldR RJxc12de 7 0 0 false := F_Jxc12de_7.r
theorem F_X2_9 : rb_Fld RX2 9 3 0 true true (.array .int) := ⟨RX2, TX2, 1, tyX2, rfl, inC_X2, by decide, rfl, by decide, ts_mem 120 (by decide +kernel) rfl, tyX2_ok, nmX2, by decide +kernel, rfl, (fun _ => rfl)⟩
theorem FR_X2_9 : rb_FldR RX2 9 3 0 true := F_X2_9.r
theorem F_X5_12 : rb_Fld RX5 12 6 0 true true (.object RX2) := ⟨RX5, TX5, 7, tyX5, rfl, inC_X5, by decide, rfl, by decide, ts_mem 124 (by decide +kernel) rfl, tyX5_ok, nmX5, by decide +kernel, rfl, (fun _ => rfl)⟩
theorem FR_X5_12 : rb_FldR RX5 12 6 0 true := F_X5_12.r
theorem FR_X7_74 : rb_FldR RX7 74 6 0 true := ⟨RX5, TX5, 7, rfl, inC_X5, by decide, rfl, by decide, ts_mem 125 (by decide +kernel) rfl⟩
theorem F_X7_70 : rb_Fld RX7 70 6 1 false false .boolean := ⟨RX5, TX5, 7, tyX5, rfl, inC_X5, by decide, rfl, by decide, ts_mem 126 (by decide +kernel) rfl, tyX5_ok, nmX5, by decide +kernel, rfl, (fun h => nomatch h)⟩
theorem FR_X7_70 : rb_FldR RX7 70 6 1 false := F_X7_70.r
theorem F_X5_18 : rb_Fld RX5 18 6 2 false false .int := ⟨RX5, TX5, 7, tyX5, rfl, inC_X5, by decide, rfl, by decide, ts_mem 127 (by decide +kernel) rfl, tyX5_ok, nmX5, by decide +kernel, rfl, (fun h => nomatch h)⟩
theorem FR_X5_18 : rb_FldR RX5 18 6 2 false := F_X5_18.r
theorem F_X7_108 : rb_Fld RX7 108 6 2 false false .int := ⟨RX5, TX5, 7, tyX5, rfl, inC_X5, by decide, rfl, by decide, ts_mem 128 (by decide +kernel) rfl, tyX5_ok, nmX5, by decide +kernel, rfl, (fun h => nomatch h)⟩
theorem FR_X7_108 : rb_FldR RX7 108 6 2 false := F_X7_108.r
theorem F_X5_22 : rb_Fld RX5 22 6 3 false false .int := ⟨RX5, TX5, 7, tyX5, rfl, inC_X5, by decide, rfl, by decide, ts_mem 129 (by decide +kernel) rfl, tyX5_ok, nmX5, by decide +kernel, rfl, (fun h => nomatch h)⟩
theorem FR_X5_22 : rb_FldR RX5 22 6 3 false := F_X5_22.r
theorem F_X7_111 : rb_Fld RX7 111 6 3 false false .int := ⟨RX5, TX5, 7, tyX5, rfl, inC_X5, by decide, rfl, by decide, ts_mem 130 (by decide +kernel) rfl, tyX5_ok, nmX5, by decide +kernel, rfl, (fun h => nomatch h)⟩
theorem FR_X7_111 : rb_FldR RX7 111 6 3 false := F_X7_111.r
theorem F_X5_25 : rb_Fld RX5 25 6 4 false false .int := ⟨RX5, TX5, 7, tyX5, rfl, inC_X5, by decide, rfl, by decide, ts_mem 131 (by decide +kernel) rfl, tyX5_ok, nmX5, by decide +kernel, rfl, (fun h => nomatch h)⟩
theorem FR_X5_25 : rb_FldR RX5 25 6 4 false := F_X5_25.r
theorem F_X7_114 : rb_Fld RX7 114 6 4 false false .int := ⟨RX5, TX5, 7, tyX5, rfl, inC_X5, by decide, rfl, by decide, ts_mem 132 (by decide +kernel) rfl, tyX5_ok, nmX5, by decide +kernel, rfl, (fun h => nomatch h)⟩
theorem FR_X7_114 : rb_FldR RX7 114 6 4 false := F_X7_114.r
theorem F_X5_28 : rb_Fld RX5 28 6 5 false false .int := ⟨RX5, TX5, 7, tyX5, rfl, inC_X5, by decide, rfl, by decide, ts_mem 133 (by decide +kernel) rfl, tyX5_ok, nmX5, by decide +kernel, rfl, (fun h => nomatch h)⟩
theorem FR_X5_28 : rb_FldR RX5 28 6 5 false := F_X5_28.r
theorem F_X7_117 : rb_Fld RX7 117 6 5 false false .int := ⟨RX5, TX5, 7, tyX5, rfl, inC_X5, by decide, rfl, by decide, ts_mem 134 (by decide +kernel) rfl, tyX5_ok, nmX5, by decide +kernel, rfl, (fun h => nomatch h)⟩
theorem FR_X7_117 : rb_FldR RX7 117 6 5 false := F_X7_117.r
theorem F_X7_120 : rb_Fld RX7 120 6 6 false false .int := ⟨RX5, TX5, 7, tyX5, rfl, inC_X5, by decide, rfl, by decide, ts_mem 135 (by decide +kernel) rfl, tyX5_ok, nmX5, by decide +kernel, rfl, (fun h => nomatch h)⟩
theorem FR_X7_120 : rb_FldR RX7 120 6 6 false := F_X7_120.r
theorem F_X0_12 : rb_Fld RX0 12 1 0 true true (.object RJx4a65c) := ⟨RX0, TX0, 3, tyX0, rfl, inC_X0, by decide, rfl, by decide, ts_mem 158 (by decide +kernel) rfl, tyX0_ok, nmX0, by decide +kernel, rfl, (fun _ => rfl)⟩
theorem FR_X0_12 : rb_FldR RX0 12 1 0 true := F_X0_12.r
theorem FR_X7_320 : rb_FldR RX7 320 1 0 true := ⟨RX0, TX0, 3, rfl, inC_X0, by decide, rfl, by decide, ts_mem 159 (by decide +kernel) rfl⟩
theorem F_X0_39 : rb_Fld RX0 39 1 1 false false .int := ⟨RX0, TX0, 3, tyX0, rfl, inC_X0, by decide, rfl, by decide, ts_mem 160 (by decide +kernel) rfl, tyX0_ok, nmX0, by decide +kernel, rfl, (fun h => nomatch h)⟩
theorem FR_X0_39 : rb_FldR RX0 39 1 1 false := F_X0_39.r
theorem F_X7_237 : rb_Fld RX7 237 1 1 false false .int := ⟨RX0, TX0, 3, tyX0, rfl, inC_X0, by decide, rfl, by decide, ts_mem 161 (by decide +kernel) rfl, tyX0_ok, nmX0, by decide +kernel, rfl, (fun h => nomatch h)⟩
theorem FR_X7_237 : rb_FldR RX7 237 1 1 false := F_X7_237.r
theorem F_X0_45 : rb_Fld RX0 45 1 2 false false .int := ⟨RX0, TX0, 3, tyX0, rfl, inC_X0, by decide, rfl, by decide, ts_mem 162 (by decide +kernel) rfl, tyX0_ok, nmX0, by decide +kernel, rfl, (fun h => nomatch h)⟩
theorem FR_X0_45 : rb_FldR RX0 45 1 2 false := F_X0_45.r
theorem F_X7_248 : rb_Fld RX7 248 1 2 false false .int := ⟨RX0, TX0, 3, tyX0, rfl, inC_X0, by decide, rfl, by decide, ts_mem 163 (by decide +kernel) rfl, tyX0_ok, nmX0, by decide +kernel, rfl, (fun h => nomatch h)⟩
theorem FR_X7_248 : rb_FldR RX7 248 1 2 false := F_X7_248.r
theorem F_X7_9 : rb_Fld RX7 9 8 0 true true (.array .int) := ⟨RX7, TX7, 7, tyX7, rfl, inC_X7, by decide, rfl, by decide, ts_mem 171 (by decide +kernel) rfl, tyX7_ok, nmX7, by decide +kernel, rfl, (fun _ => rfl)⟩
theorem FR_X7_9 : rb_FldR RX7 9 8 0 true := F_X7_9.r
theorem F_X7_15 : rb_Fld RX7 15 8 1 true true (.array (.object RX5)) := ⟨RX7, TX7, 7, tyX7, rfl, inC_X7, by decide, rfl, by decide, ts_mem 172 (by decide +kernel) rfl, tyX7_ok, nmX7, by decide +kernel, rfl, (fun _ => rfl)⟩
theorem FR_X7_15 : rb_FldR RX7 15 8 1 true := F_X7_15.r
theorem F_X7_21 : rb_Fld RX7 21 8 2 true true (.array (.object RX0)) := ⟨RX7, TX7, 7, tyX7, rfl, inC_X7, by decide, rfl, by decide, ts_mem 173 (by decide +kernel) rfl, tyX7_ok, nmX7, by decide +kernel, rfl, (fun _ => rfl)⟩
theorem FR_X7_21 : rb_FldR RX7 21 8 2 true := F_X7_21.r
theorem F_X7_28 : rb_Fld RX7 28 8 3 true true (.object RJx4a65c) := ⟨RX7, TX7, 7, tyX7, rfl, inC_X7, by decide, rfl, by decide, ts_mem 174 (by decide +kernel) rfl, tyX7_ok, nmX7, by decide +kernel, rfl, (fun _ => rfl)⟩
theorem FR_X7_28 : rb_FldR RX7 28 8 3 true := F_X7_28.r
theorem F_X7_32 : rb_Fld RX7 32 8 4 true true (.object RJx4a65c) := ⟨RX7, TX7, 7, tyX7, rfl, inC_X7, by decide, rfl, by decide, ts_mem 175 (by decide +kernel) rfl, tyX7_ok, nmX7, by decide +kernel, rfl, (fun _ => rfl)⟩
theorem FR_X7_32 : rb_FldR RX7 32 8 4 true := F_X7_32.r
theorem F_X7_35 : rb_Fld RX7 35 8 5 true true (.object RJx4a65c) := ⟨RX7, TX7, 7, tyX7, rfl, inC_X7, by decide, rfl, by decide, ts_mem 176 (by decide +kernel) rfl, tyX7_ok, nmX7, by decide +kernel, rfl, (fun _ => rfl)⟩
theorem FR_X7_35 : rb_FldR RX7 35 8 5 true := F_X7_35.r
theorem F_X7_160 : rb_Fld RX7 160 8 6 false false .int := ⟨RX7, TX7, 7, tyX7, rfl, inC_X7, by decide, rfl, by decide, ts_mem 177 (by decide +kernel) rfl, tyX7_ok, nmX7, by decide +kernel, rfl, (fun h => nomatch h)⟩
theorem FR_X7_160 : rb_FldR RX7 160 8 6 false := F_X7_160.r
theorem F_X1_7 : rb_Fld RX1 7 2 0 false true .int := ⟨RX1, TX1, 7, tyX1, rfl, inC_X1, by decide, rfl, by decide, ts_mem 386 (by decide +kernel) rfl, tyX1_ok, nmX1, by decide +kernel, rfl, (fun _ => rfl)⟩
theorem FR_X1_7 : rb_FldR RX1 7 2 0 false := F_X1_7.r
theorem F_X1_13 : rb_Fld RX1 13 2 1 false true .int := ⟨RX1, TX1, 7, tyX1, rfl, inC_X1, by decide, rfl, by decide, ts_mem 387 (by decide +kernel) rfl, tyX1_ok, nmX1, by decide +kernel, rfl, (fun _ => rfl)⟩
theorem FR_X1_13 : rb_FldR RX1 13 2 1 false := F_X1_13.r
theorem F_X1_16 : rb_Fld RX1 16 2 2 false true .int := ⟨RX1, TX1, 7, tyX1, rfl, inC_X1, by decide, rfl, by decide, ts_mem 388 (by decide +kernel) rfl, tyX1_ok, nmX1, by decide +kernel, rfl, (fun _ => rfl)⟩
theorem FR_X1_16 : rb_FldR RX1 16 2 2 false := F_X1_16.r
theorem F_X1_19 : rb_Fld RX1 19 2 3 false true .int := ⟨RX1, TX1, 7, tyX1, rfl, inC_X1, by decide, rfl, by decide, ts_mem 389 (by decide +kernel) rfl, tyX1_ok, nmX1, by decide +kernel, rfl, (fun _ => rfl)⟩
theorem FR_X1_19 : rb_FldR RX1 19 2 3 false := F_X1_19.r
theorem F_X1_22 : rb_Fld RX1 22 2 4 false true .int := ⟨RX1, TX1, 7, tyX1, rfl, inC_X1, by decide, rfl, by decide, ts_mem 390 (by decide +kernel) rfl, tyX1_ok, nmX1, by decide +kernel, rfl, (fun _ => rfl)⟩
theorem FR_X1_22 : rb_FldR RX1 22 2 4 false := F_X1_22.r
theorem F_X1_25 : rb_Fld RX1 25 2 5 false true .int := ⟨RX1, TX1, 7, tyX1, rfl, inC_X1, by decide, rfl, by decide, ts_mem 391 (by decide +kernel) rfl, tyX1_ok, nmX1, by decide +kernel, rfl, (fun _ => rfl)⟩
theorem FR_X1_25 : rb_FldR RX1 25 2 5 false := F_X1_25.r
theorem F_X1_28 : rb_Fld RX1 28 2 6 false true .int := ⟨RX1, TX1, 7, tyX1, rfl, inC_X1, by decide, rfl, by decide, ts_mem 392 (by decide +kernel) rfl, tyX1_ok, nmX1, by decide +kernel, rfl, (fun _ => rfl)⟩
theorem FR_X1_28 : rb_FldR RX1 28 2 6 false := F_X1_28.r
theorem F_X6_21 : rb_Fld RX6 21 7 0 false true .int := ⟨RX6, TX6, 11, tyX6, rfl, inC_X6, by decide, rfl, by decide, ts_mem 512 (by decide +kernel) rfl, tyX6_ok, nmX6, by decide +kernel, rfl, (fun _ => rfl)⟩
theorem FR_X6_21 : rb_FldR RX6 21 7 0 false := F_X6_21.r
theorem FR_X7_132 : rb_FldR RX7 132 7 0 false := ⟨RX6, TX6, 11, rfl, inC_X6, by decide, rfl, by decide, ts_mem 513 (by decide +kernel) rfl⟩
theorem F_X6_24 : rb_Fld RX6 24 7 1 false true .int := ⟨RX6, TX6, 11, tyX6, rfl, inC_X6, by decide, rfl, by decide, ts_mem 514 (by decide +kernel) rfl, tyX6_ok, nmX6, by decide +kernel, rfl, (fun _ => rfl)⟩
theorem FR_X6_24 : rb_FldR RX6 24 7 1 false := F_X6_24.r
theorem FR_X7_292 : rb_FldR RX7 292 7 1 false := ⟨RX6, TX6, 11, rfl, inC_X6, by decide, rfl, by decide, ts_mem 515 (by decide +kernel) rfl⟩
theorem F_X6_30 : rb_Fld RX6 30 7 2 false true .int := ⟨RX6, TX6, 11, tyX6, rfl, inC_X6, by decide, rfl, by decide, ts_mem 516 (by decide +kernel) rfl, tyX6_ok, nmX6, by decide +kernel, rfl, (fun _ => rfl)⟩
theorem FR_X6_30 : rb_FldR RX6 30 7 2 false := F_X6_30.r
theorem FR_X7_289 : rb_FldR RX7 289 7 2 false := ⟨RX6, TX6, 11, rfl, inC_X6, by decide, rfl, by decide, ts_mem 517 (by decide +kernel) rfl⟩
theorem F_X6_27 : rb_Fld RX6 27 7 3 false false .int := ⟨RX6, TX6, 11, tyX6, rfl, inC_X6, by decide, rfl, by decide, ts_mem 518 (by decide +kernel) rfl, tyX6_ok, nmX6, by decide +kernel, rfl, (fun h => nomatch h)⟩
theorem FR_X6_27 : rb_FldR RX6 27 7 3 false := F_X6_27.r
theorem F_X7_58 : rb_Fld RX7 58 7 3 false false .int := ⟨RX6, TX6, 11, tyX6, rfl, inC_X6, by decide, rfl, by decide, ts_mem 519 (by decide +kernel) rfl, tyX6_ok, nmX6, by decide +kernel, rfl, (fun h => nomatch h)⟩
theorem FR_X7_58 : rb_FldR RX7 58 7 3 false := F_X7_58.r
theorem F_X6_9 : rb_Fld RX6 9 7 4 false false .int := ⟨RX6, TX6, 11, tyX6, rfl, inC_X6, by decide, rfl, by decide, ts_mem 520 (by decide +kernel) rfl, tyX6_ok, nmX6, by decide +kernel, rfl, (fun h => nomatch h)⟩
theorem FR_X6_9 : rb_FldR RX6 9 7 4 false := F_X6_9.r
theorem F_X7_142 : rb_Fld RX7 142 7 4 false false .int := ⟨RX6, TX6, 11, tyX6, rfl, inC_X6, by decide, rfl, by decide, ts_mem 521 (by decide +kernel) rfl, tyX6_ok, nmX6, by decide +kernel, rfl, (fun h => nomatch h)⟩
theorem FR_X7_142 : rb_FldR RX7 142 7 4 false := F_X7_142.r
theorem F_X6_15 : rb_Fld RX6 15 7 5 false false .int := ⟨RX6, TX6, 11, tyX6, rfl, inC_X6, by decide, rfl, by decide, ts_mem 522 (by decide +kernel) rfl, tyX6_ok, nmX6, by decide +kernel, rfl, (fun h => nomatch h)⟩
theorem FR_X6_15 : rb_FldR RX6 15 7 5 false := F_X6_15.r
theorem F_X7_171 : rb_Fld RX7 171 7 5 false false .int := ⟨RX6, TX6, 11, tyX6, rfl, inC_X6, by decide, rfl, by decide, ts_mem 523 (by decide +kernel) rfl, tyX6_ok, nmX6, by decide +kernel, rfl, (fun h => nomatch h)⟩
theorem FR_X7_171 : rb_FldR RX7 171 7 5 false := F_X7_171.r
theorem F_X7_139 : rb_Fld RX7 139 7 6 false false .int := ⟨RX6, TX6, 11, tyX6, rfl, inC_X6, by decide, rfl, by decide, ts_mem 524 (by decide +kernel) rfl, tyX6_ok, nmX6, by decide +kernel, rfl, (fun h => nomatch h)⟩
theorem FR_X7_139 : rb_FldR RX7 139 7 6 false := F_X7_139.r
theorem F_X6_18 : rb_Fld RX6 18 7 7 false false .int := ⟨RX6, TX6, 11, tyX6, rfl, inC_X6, by decide, rfl, by decide, ts_mem 525 (by decide +kernel) rfl, tyX6_ok, nmX6, by decide +kernel, rfl, (fun h => nomatch h)⟩
theorem FR_X6_18 : rb_FldR RX6 18 7 7 false := F_X6_18.r
theorem F_X7_191 : rb_Fld RX7 191 7 7 false false .int := ⟨RX6, TX6, 11, tyX6, rfl, inC_X6, by decide, rfl, by decide, ts_mem 526 (by decide +kernel) rfl, tyX6_ok, nmX6, by decide +kernel, rfl, (fun h => nomatch h)⟩
theorem FR_X7_191 : rb_FldR RX7 191 7 7 false := F_X7_191.r
theorem F_X6_37 : rb_Fld RX6 37 7 8 false false .boolean := ⟨RX6, TX6, 11, tyX6, rfl, inC_X6, by decide, rfl, by decide, ts_mem 527 (by decide +kernel) rfl, tyX6_ok, nmX6, by decide +kernel, rfl, (fun h => nomatch h)⟩
theorem FR_X6_37 : rb_FldR RX6 37 7 8 false := F_X6_37.r
theorem F_X7_200 : rb_Fld RX7 200 7 8 false false .boolean := ⟨RX6, TX6, 11, tyX6, rfl, inC_X6, by decide, rfl, by decide, ts_mem 528 (by decide +kernel) rfl, tyX6_ok, nmX6, by decide +kernel, rfl, (fun h => nomatch h)⟩
theorem FR_X7_200 : rb_FldR RX7 200 7 8 false := F_X7_200.r
theorem F_X7_181 : rb_Fld RX7 181 7 9 false false .int := ⟨RX6, TX6, 11, tyX6, rfl, inC_X6, by decide, rfl, by decide, ts_mem 529 (by decide +kernel) rfl, tyX6_ok, nmX6, by decide +kernel, rfl, (fun h => nomatch h)⟩
theorem FR_X7_181 : rb_FldR RX7 181 7 9 false := F_X7_181.r
theorem F_X6_41 : rb_Fld RX6 41 7 10 false false .int := ⟨RX6, TX6, 11, tyX6, rfl, inC_X6, by decide, rfl, by decide, ts_mem 530 (by decide +kernel) rfl, tyX6_ok, nmX6, by decide +kernel, rfl, (fun h => nomatch h)⟩
theorem FR_X6_41 : rb_FldR RX6 41 7 10 false := F_X6_41.r
theorem F_X7_184 : rb_Fld RX7 184 7 10 false false .int := ⟨RX6, TX6, 11, tyX6, rfl, inC_X6, by decide, rfl, by decide, ts_mem 531 (by decide +kernel) rfl, tyX6_ok, nmX6, by decide +kernel, rfl, (fun h => nomatch h)⟩
theorem FR_X7_184 : rb_FldR RX7 184 7 10 false := F_X7_184.r
theorem F_X3_7 : rb_Fld RX3 7 4 0 false true .int := ⟨RX3, TX3, 4, tyX3, rfl, inC_X3, by decide, rfl, by decide, ts_mem 709 (by decide +kernel) rfl, tyX3_ok, nmX3, by decide +kernel, rfl, (fun _ => rfl)⟩
theorem FR_X3_7 : rb_FldR RX3 7 4 0 false := F_X3_7.r
theorem F_X3_13 : rb_Fld RX3 13 4 1 false true .int := ⟨RX3, TX3, 4, tyX3, rfl, inC_X3, by decide, rfl, by decide, ts_mem 710 (by decide +kernel) rfl, tyX3_ok, nmX3, by decide +kernel, rfl, (fun _ => rfl)⟩
theorem FR_X3_13 : rb_FldR RX3 13 4 1 false := F_X3_13.r
theorem F_X3_16 : rb_Fld RX3 16 4 2 false true .int := ⟨RX3, TX3, 4, tyX3, rfl, inC_X3, by decide, rfl, by decide, ts_mem 711 (by decide +kernel) rfl, tyX3_ok, nmX3, by decide +kernel, rfl, (fun _ => rfl)⟩
theorem FR_X3_16 : rb_FldR RX3 16 4 2 false := F_X3_16.r
theorem F_X3_19 : rb_Fld RX3 19 4 3 false true .int := ⟨RX3, TX3, 4, tyX3, rfl, inC_X3, by decide, rfl, by decide, ts_mem 712 (by decide +kernel) rfl, tyX3_ok, nmX3, by decide +kernel, rfl, (fun _ => rfl)⟩
theorem FR_X3_19 : rb_FldR RX3 19 4 3 false := F_X3_19.r
theorem F_X4_18 : rb_Fld RX4 18 5 0 false true .int := ⟨RX4, TX4, 5, tyX4, rfl, inC_X4, by decide, rfl, by decide, ts_mem 736 (by decide +kernel) rfl, tyX4_ok, nmX4, by decide +kernel, rfl, (fun _ => rfl)⟩
theorem FR_X4_18 : rb_FldR RX4 18 5 0 false := F_X4_18.r
theorem FR_X0_32 : rb_FldR RX0 32 5 0 false := ⟨RX4, TX4, 5, rfl, inC_X4, by decide, rfl, by decide, ts_mem 737 (by decide +kernel) rfl⟩
theorem F_X4_21 : rb_Fld RX4 21 5 1 false true .int := ⟨RX4, TX4, 5, tyX4, rfl, inC_X4, by decide, rfl, by decide, ts_mem 738 (by decide +kernel) rfl, tyX4_ok, nmX4, by decide +kernel, rfl, (fun _ => rfl)⟩
theorem FR_X4_21 : rb_FldR RX4 21 5 1 false := F_X4_21.r
theorem FR_X0_48 : rb_FldR RX0 48 5 1 false := ⟨RX4, TX4, 5, rfl, inC_X4, by decide, rfl, by decide, ts_mem 739 (by decide +kernel) rfl⟩
theorem F_X4_24 : rb_Fld RX4 24 5 2 true true (.object RX1) := ⟨RX4, TX4, 5, tyX4, rfl, inC_X4, by decide, rfl, by decide, ts_mem 740 (by decide +kernel) rfl, tyX4_ok, nmX4, by decide +kernel, rfl, (fun _ => rfl)⟩
theorem FR_X4_24 : rb_FldR RX4 24 5 2 true := F_X4_24.r
theorem F_X4_9 : rb_Fld RX4 9 5 3 false false .int := ⟨RX4, TX4, 5, tyX4, rfl, inC_X4, by decide, rfl, by decide, ts_mem 741 (by decide +kernel) rfl, tyX4_ok, nmX4, by decide +kernel, rfl, (fun h => nomatch h)⟩
theorem FR_X4_9 : rb_FldR RX4 9 5 3 false := F_X4_9.r
theorem F_X0_28 : rb_Fld RX0 28 5 3 false false .int := ⟨RX4, TX4, 5, tyX4, rfl, inC_X4, by decide, rfl, by decide, ts_mem 742 (by decide +kernel) rfl, tyX4_ok, nmX4, by decide +kernel, rfl, (fun h => nomatch h)⟩
theorem FR_X0_28 : rb_FldR RX0 28 5 3 false := F_X0_28.r
theorem F_X4_15 : rb_Fld RX4 15 5 4 false false .int := ⟨RX4, TX4, 5, tyX4, rfl, inC_X4, by decide, rfl, by decide, ts_mem 743 (by decide +kernel) rfl, tyX4_ok, nmX4, by decide +kernel, rfl, (fun h => nomatch h)⟩
theorem FR_X4_15 : rb_FldR RX4 15 5 4 false := F_X4_15.r
theorem F_X0_42 : rb_Fld RX0 42 5 4 false false .int := ⟨RX4, TX4, 5, tyX4, rfl, inC_X4, by decide, rfl, by decide, ts_mem 744 (by decide +kernel) rfl, tyX4_ok, nmX4, by decide +kernel, rfl, (fun h => nomatch h)⟩
theorem FR_X0_42 : rb_FldR RX0 42 5 4 false := F_X0_42.r
theorem F_X8_110 : rb_Fld RX8 110 9 0 false false .int := ⟨RX8, TX8, 39, tyX8, rfl, inC_X8, by decide, rfl, by decide, ts_mem 882 (by decide +kernel) rfl, tyX8_ok, nmX8, by decide +kernel, rfl, (fun h => nomatch h)⟩
theorem FR_X8_110 : rb_FldR RX8 110 9 0 false := F_X8_110.r
theorem F_X8_141 : rb_Fld RX8 141 9 1 false false .int := ⟨RX8, TX8, 39, tyX8, rfl, inC_X8, by decide, rfl, by decide, ts_mem 883 (by decide +kernel) rfl, tyX8_ok, nmX8, by decide +kernel, rfl, (fun h => nomatch h)⟩
theorem FR_X8_141 : rb_FldR RX8 141 9 1 false := F_X8_141.r
theorem F_X8_7 : rb_Fld RX8 7 9 2 true true (.array .int) := ⟨RX8, TX8, 39, tyX8, rfl, inC_X8, by decide, rfl, by decide, ts_mem 884 (by decide +kernel) rfl, tyX8_ok, nmX8, by decide +kernel, rfl, (fun _ => rfl)⟩
theorem FR_X8_7 : rb_FldR RX8 7 9 2 true := F_X8_7.r
theorem F_X8_13 : rb_Fld RX8 13 9 3 true true (.array .boolean) := ⟨RX8, TX8, 39, tyX8, rfl, inC_X8, by decide, rfl, by decide, ts_mem 885 (by decide +kernel) rfl, tyX8_ok, nmX8, by decide +kernel, rfl, (fun _ => rfl)⟩
theorem FR_X8_13 : rb_FldR RX8 13 9 3 true := F_X8_13.r
theorem F_X8_17 : rb_Fld RX8 17 9 4 true true (.array .int) := ⟨RX8, TX8, 39, tyX8, rfl, inC_X8, by decide, rfl, by decide, ts_mem 886 (by decide +kernel) rfl, tyX8_ok, nmX8, by decide +kernel, rfl, (fun _ => rfl)⟩
theorem FR_X8_17 : rb_FldR RX8 17 9 4 true := F_X8_17.r
theorem F_X8_20 : rb_Fld RX8 20 9 5 true true (.array .int) := ⟨RX8, TX8, 39, tyX8, rfl, inC_X8, by decide, rfl, by decide, ts_mem 887 (by decide +kernel) rfl, tyX8_ok, nmX8, by decide +kernel, rfl, (fun _ => rfl)⟩
theorem FR_X8_20 : rb_FldR RX8 20 9 5 true := F_X8_20.r
theorem F_X8_23 : rb_Fld RX8 23 9 6 true true (.array .int) := ⟨RX8, TX8, 39, tyX8, rfl, inC_X8, by decide, rfl, by decide, ts_mem 888 (by decide +kernel) rfl, tyX8_ok, nmX8, by decide +kernel, rfl, (fun _ => rfl)⟩
theorem FR_X8_23 : rb_FldR RX8 23 9 6 true := F_X8_23.r
theorem F_X8_138 : rb_Fld RX8 138 9 7 false false .int := ⟨RX8, TX8, 39, tyX8, rfl, inC_X8, by decide, rfl, by decide, ts_mem 889 (by decide +kernel) rfl, tyX8_ok, nmX8, by decide +kernel, rfl, (fun h => nomatch h)⟩
theorem FR_X8_138 : rb_FldR RX8 138 9 7 false := F_X8_138.r
theorem F_X8_26 : rb_Fld RX8 26 9 8 true true (.array .int) := ⟨RX8, TX8, 39, tyX8, rfl, inC_X8, by decide, rfl, by decide, ts_mem 890 (by decide +kernel) rfl, tyX8_ok, nmX8, by decide +kernel, rfl, (fun _ => rfl)⟩
theorem FR_X8_26 : rb_FldR RX8 26 9 8 true := F_X8_26.r
theorem F_X8_29 : rb_Fld RX8 29 9 9 true true (.array .int) := ⟨RX8, TX8, 39, tyX8, rfl, inC_X8, by decide, rfl, by decide, ts_mem 891 (by decide +kernel) rfl, tyX8_ok, nmX8, by decide +kernel, rfl, (fun _ => rfl)⟩
theorem FR_X8_29 : rb_FldR RX8 29 9 9 true := F_X8_29.r
theorem F_X8_32 : rb_Fld RX8 32 9 10 true true (.array .int) := ⟨RX8, TX8, 39, tyX8, rfl, inC_X8, by decide, rfl, by decide, ts_mem 892 (by decide +kernel) rfl, tyX8_ok, nmX8, by decide +kernel, rfl, (fun _ => rfl)⟩
theorem FR_X8_32 : rb_FldR RX8 32 9 10 true := F_X8_32.r
theorem F_X8_35 : rb_Fld RX8 35 9 11 true true (.array .int) := ⟨RX8, TX8, 39, tyX8, rfl, inC_X8, by decide, rfl, by decide, ts_mem 893 (by decide +kernel) rfl, tyX8_ok, nmX8, by decide +kernel, rfl, (fun _ => rfl)⟩
theorem FR_X8_35 : rb_FldR RX8 35 9 11 true := F_X8_35.r
theorem F_X8_38 : rb_Fld RX8 38 9 12 true true (.array .int) := ⟨RX8, TX8, 39, tyX8, rfl, inC_X8, by decide, rfl, by decide, ts_mem 894 (by decide +kernel) rfl, tyX8_ok, nmX8, by decide +kernel, rfl, (fun _ => rfl)⟩
theorem FR_X8_38 : rb_FldR RX8 38 9 12 true := F_X8_38.r
theorem F_X8_41 : rb_Fld RX8 41 9 13 true true (.array .int) := ⟨RX8, TX8, 39, tyX8, rfl, inC_X8, by decide, rfl, by decide, ts_mem 895 (by decide +kernel) rfl, tyX8_ok, nmX8, by decide +kernel, rfl, (fun _ => rfl)⟩
theorem FR_X8_41 : rb_FldR RX8 41 9 13 true := F_X8_41.r
theorem F_X8_44 : rb_Fld RX8 44 9 14 true true (.array .int) := ⟨RX8, TX8, 39, tyX8, rfl, inC_X8, by decide, rfl, by decide, ts_mem 896 (by decide +kernel) rfl, tyX8_ok, nmX8, by decide +kernel, rfl, (fun _ => rfl)⟩
theorem FR_X8_44 : rb_FldR RX8 44 9 14 true := F_X8_44.r
theorem F_X8_118 : rb_Fld RX8 118 9 15 false false .int := ⟨RX8, TX8, 39, tyX8, rfl, inC_X8, by decide, rfl, by decide, ts_mem 897 (by decide +kernel) rfl, tyX8_ok, nmX8, by decide +kernel, rfl, (fun h => nomatch h)⟩
theorem FR_X8_118 : rb_FldR RX8 118 9 15 false := F_X8_118.r
theorem F_X8_47 : rb_Fld RX8 47 9 16 true true (.array .int) := ⟨RX8, TX8, 39, tyX8, rfl, inC_X8, by decide, rfl, by decide, ts_mem 898 (by decide +kernel) rfl, tyX8_ok, nmX8, by decide +kernel, rfl, (fun _ => rfl)⟩
theorem FR_X8_47 : rb_FldR RX8 47 9 16 true := F_X8_47.r
theorem F_X8_50 : rb_Fld RX8 50 9 17 true true (.array .int) := ⟨RX8, TX8, 39, tyX8, rfl, inC_X8, by decide, rfl, by decide, ts_mem 899 (by decide +kernel) rfl, tyX8_ok, nmX8, by decide +kernel, rfl, (fun _ => rfl)⟩
theorem FR_X8_50 : rb_FldR RX8 50 9 17 true := F_X8_50.r
theorem F_X8_53 : rb_Fld RX8 53 9 18 true true (.array .int) := ⟨RX8, TX8, 39, tyX8, rfl, inC_X8, by decide, rfl, by decide, ts_mem 900 (by decide +kernel) rfl, tyX8_ok, nmX8, by decide +kernel, rfl, (fun _ => rfl)⟩
theorem FR_X8_53 : rb_FldR RX8 53 9 18 true := F_X8_53.r
theorem F_X8_56 : rb_Fld RX8 56 9 19 true true (.array .int) := ⟨RX8, TX8, 39, tyX8, rfl, inC_X8, by decide, rfl, by decide, ts_mem 901 (by decide +kernel) rfl, tyX8_ok, nmX8, by decide +kernel, rfl, (fun _ => rfl)⟩
theorem FR_X8_56 : rb_FldR RX8 56 9 19 true := F_X8_56.r
theorem F_X8_59 : rb_Fld RX8 59 9 20 true true (.array .int) := ⟨RX8, TX8, 39, tyX8, rfl, inC_X8, by decide, rfl, by decide, ts_mem 902 (by decide +kernel) rfl, tyX8_ok, nmX8, by decide +kernel, rfl, (fun _ => rfl)⟩
theorem FR_X8_59 : rb_FldR RX8 59 9 20 true := F_X8_59.r
theorem F_X8_62 : rb_Fld RX8 62 9 21 true true (.array .int) := ⟨RX8, TX8, 39, tyX8, rfl, inC_X8, by decide, rfl, by decide, ts_mem 903 (by decide +kernel) rfl, tyX8_ok, nmX8, by decide +kernel, rfl, (fun _ => rfl)⟩
theorem FR_X8_62 : rb_FldR RX8 62 9 21 true := F_X8_62.r
theorem F_X8_65 : rb_Fld RX8 65 9 22 true true (.array .int) := ⟨RX8, TX8, 39, tyX8, rfl, inC_X8, by decide, rfl, by decide, ts_mem 904 (by decide +kernel) rfl, tyX8_ok, nmX8, by decide +kernel, rfl, (fun _ => rfl)⟩
theorem FR_X8_65 : rb_FldR RX8 65 9 22 true := F_X8_65.r
theorem F_X8_68 : rb_Fld RX8 68 9 23 true true (.array .boolean) := ⟨RX8, TX8, 39, tyX8, rfl, inC_X8, by decide, rfl, by decide, ts_mem 905 (by decide +kernel) rfl, tyX8_ok, nmX8, by decide +kernel, rfl, (fun _ => rfl)⟩
theorem FR_X8_68 : rb_FldR RX8 68 9 23 true := F_X8_68.r
theorem F_X8_71 : rb_Fld RX8 71 9 24 true true (.array .int) := ⟨RX8, TX8, 39, tyX8, rfl, inC_X8, by decide, rfl, by decide, ts_mem 906 (by decide +kernel) rfl, tyX8_ok, nmX8, by decide +kernel, rfl, (fun _ => rfl)⟩
theorem FR_X8_71 : rb_FldR RX8 71 9 24 true := F_X8_71.r
theorem F_X8_74 : rb_Fld RX8 74 9 25 true true (.array .int) := ⟨RX8, TX8, 39, tyX8, rfl, inC_X8, by decide, rfl, by decide, ts_mem 907 (by decide +kernel) rfl, tyX8_ok, nmX8, by decide +kernel, rfl, (fun _ => rfl)⟩
theorem FR_X8_74 : rb_FldR RX8 74 9 25 true := F_X8_74.r
theorem F_X8_77 : rb_Fld RX8 77 9 26 true true (.array .int) := ⟨RX8, TX8, 39, tyX8, rfl, inC_X8, by decide, rfl, by decide, ts_mem 908 (by decide +kernel) rfl, tyX8_ok, nmX8, by decide +kernel, rfl, (fun _ => rfl)⟩
theorem FR_X8_77 : rb_FldR RX8 77 9 26 true := F_X8_77.r
theorem F_X8_80 : rb_Fld RX8 80 9 27 true true (.array .int) := ⟨RX8, TX8, 39, tyX8, rfl, inC_X8, by decide, rfl, by decide, ts_mem 909 (by decide +kernel) rfl, tyX8_ok, nmX8, by decide +kernel, rfl, (fun _ => rfl)⟩
theorem FR_X8_80 : rb_FldR RX8 80 9 27 true := F_X8_80.r
theorem F_X8_173 : rb_Fld RX8 173 9 28 false false .int := ⟨RX8, TX8, 39, tyX8, rfl, inC_X8, by decide, rfl, by decide, ts_mem 910 (by decide +kernel) rfl, tyX8_ok, nmX8, by decide +kernel, rfl, (fun h => nomatch h)⟩
theorem FR_X8_173 : rb_FldR RX8 173 9 28 false := F_X8_173.r
theorem F_X8_169 : rb_Fld RX8 169 9 29 false false .int := ⟨RX8, TX8, 39, tyX8, rfl, inC_X8, by decide, rfl, by decide, ts_mem 911 (by decide +kernel) rfl, tyX8_ok, nmX8, by decide +kernel, rfl, (fun h => nomatch h)⟩
theorem FR_X8_169 : rb_FldR RX8 169 9 29 false := F_X8_169.r
theorem F_X8_83 : rb_Fld RX8 83 9 30 true true (.array .int) := ⟨RX8, TX8, 39, tyX8, rfl, inC_X8, by decide, rfl, by decide, ts_mem 912 (by decide +kernel) rfl, tyX8_ok, nmX8, by decide +kernel, rfl, (fun _ => rfl)⟩
theorem FR_X8_83 : rb_FldR RX8 83 9 30 true := F_X8_83.r
theorem F_X8_86 : rb_Fld RX8 86 9 31 true true (.array .int) := ⟨RX8, TX8, 39, tyX8, rfl, inC_X8, by decide, rfl, by decide, ts_mem 913 (by decide +kernel) rfl, tyX8_ok, nmX8, by decide +kernel, rfl, (fun _ => rfl)⟩
theorem FR_X8_86 : rb_FldR RX8 86 9 31 true := F_X8_86.r
theorem F_X8_89 : rb_Fld RX8 89 9 32 true true (.array .int) := ⟨RX8, TX8, 39, tyX8, rfl, inC_X8, by decide, rfl, by decide, ts_mem 914 (by decide +kernel) rfl, tyX8_ok, nmX8, by decide +kernel, rfl, (fun _ => rfl)⟩
theorem FR_X8_89 : rb_FldR RX8 89 9 32 true := F_X8_89.r
theorem F_X8_92 : rb_Fld RX8 92 9 33 true true (.array .int) := ⟨RX8, TX8, 39, tyX8, rfl, inC_X8, by decide, rfl, by decide, ts_mem 915 (by decide +kernel) rfl, tyX8_ok, nmX8, by decide +kernel, rfl, (fun _ => rfl)⟩
theorem FR_X8_92 : rb_FldR RX8 92 9 33 true := F_X8_92.r
theorem F_X8_95 : rb_Fld RX8 95 9 34 true true (.array .int) := ⟨RX8, TX8, 39, tyX8, rfl, inC_X8, by decide, rfl, by decide, ts_mem 916 (by decide +kernel) rfl, tyX8_ok, nmX8, by decide +kernel, rfl, (fun _ => rfl)⟩
theorem FR_X8_95 : rb_FldR RX8 95 9 34 true := F_X8_95.r
theorem F_X8_98 : rb_Fld RX8 98 9 35 true true (.array .int) := ⟨RX8, TX8, 39, tyX8, rfl, inC_X8, by decide, rfl, by decide, ts_mem 917 (by decide +kernel) rfl, tyX8_ok, nmX8, by decide +kernel, rfl, (fun _ => rfl)⟩
theorem FR_X8_98 : rb_FldR RX8 98 9 35 true := F_X8_98.r
theorem F_X8_101 : rb_Fld RX8 101 9 36 true true (.array .int) := ⟨RX8, TX8, 39, tyX8, rfl, inC_X8, by decide, rfl, by decide, ts_mem 918 (by decide +kernel) rfl, tyX8_ok, nmX8, by decide +kernel, rfl, (fun _ => rfl)⟩
theorem FR_X8_101 : rb_FldR RX8 101 9 36 true := F_X8_101.r
theorem F_X8_104 : rb_Fld RX8 104 9 37 true true (.array .int) := ⟨RX8, TX8, 39, tyX8, rfl, inC_X8, by decide, rfl, by decide, ts_mem 919 (by decide +kernel) rfl, tyX8_ok, nmX8, by decide +kernel, rfl, (fun _ => rfl)⟩
theorem FR_X8_104 : rb_FldR RX8 104 9 37 true := F_X8_104.r
theorem F_X8_107 : rb_Fld RX8 107 9 38 true true (.array .int) := ⟨RX8, TX8, 39, tyX8, rfl, inC_X8, by decide, rfl, by decide, ts_mem 920 (by decide +kernel) rfl, tyX8_ok, nmX8, by decide +kernel, rfl, (fun _ => rfl)⟩
theorem FR_X8_107 : rb_FldR RX8 107 9 38 true := F_X8_107.r
theorem L_L_8 : Cond.classLink RL 8 RX7 ∈ TS := ts_mem 67 (by decide +kernel) rfl
theorem K_L_8 : rb_Cls RL 8 8 7 := ⟨RX7, TX7, tyX7, rfl, inC_X7, by decide, L_L_8, ts_mem 68 (by decide +kernel) rfl, ts_mem 43 (by decide +kernel) rfl, tyX7_ok, by decide +kernel⟩
theorem L_X7_13 : Cond.classLink RX7 13 RX5 ∈ TS := ts_mem 75 (by decide +kernel) rfl
theorem K_X7_13 : rb_Cls RX7 13 6 7 := ⟨RX5, TX5, tyX5, rfl, inC_X5, by decide, L_X7_13, ts_mem 106 (by decide +kernel) rfl, ts_mem 47 (by decide +kernel) rfl, tyX5_ok, by decide +kernel⟩
theorem L_X7_19 : Cond.classLink RX7 19 RX0 ∈ TS := ts_mem 77 (by decide +kernel) rfl
theorem K_X7_19 : rb_Cls RX7 19 1 3 := ⟨RX0, TX0, tyX0, rfl, inC_X0, by decide, L_X7_19, ts_mem 151 (by decide +kernel) rfl, ts_mem 50 (by decide +kernel) rfl, tyX0_ok, by decide +kernel⟩
theorem L_X7_25 : Cond.classLink RX7 25 RJx4a65c ∈ TS := ts_mem 79 (by decide +kernel) rfl
theorem K_X7_25 : rb_Cls RX7 25 0 3 := ⟨RJx4a65c, TJx4a65c, tyJx4a65c, rfl, inC_Jx4a65c, by decide, L_X7_25, ts_mem 80 (by decide +kernel) rfl, ts_mem 46 (by decide +kernel) rfl, tyJx4a65c_ok, by decide +kernel⟩
theorem L_X5_9 : Cond.classLink RX5 9 RX2 ∈ TS := ts_mem 111 (by decide +kernel) rfl
theorem K_X5_9 : rb_Cls RX5 9 3 1 := ⟨RX2, TX2, tyX2, rfl, inC_X2, by decide, L_X5_9, ts_mem 112 (by decide +kernel) rfl, ts_mem 48 (by decide +kernel) rfl, tyX2_ok, by decide +kernel⟩
theorem L_X0_9 : Cond.classLink RX0 9 RJx4a65c ∈ TS := ts_mem 156 (by decide +kernel) rfl
theorem K_X0_9 : rb_Cls RX0 9 0 3 := ⟨RJx4a65c, TJx4a65c, tyJx4a65c, rfl, inC_Jx4a65c, by decide, L_X0_9, ts_mem 80 (by decide +kernel) rfl, ts_mem 46 (by decide +kernel) rfl, tyJx4a65c_ok, by decide +kernel⟩
theorem L_L_13 : Cond.classLink RL 13 "java/lang/IndexOutOfBoundsException" ∈ TS := ts_mem 196 (by decide +kernel) rfl
theorem L_L_15 : Cond.classLink RL 15 "java/lang/IllegalArgumentException" ∈ TS := ts_mem 197 (by decide +kernel) rfl
theorem L_X7_243 : Cond.classLink RX7 243 "java/lang/IndexOutOfBoundsException" ∈ TS := ts_mem 210 (by decide +kernel) rfl
theorem L_X7_194 : Cond.classLink RX7 194 "java/lang/IllegalArgumentException" ∈ TS := ts_mem 281 (by decide +kernel) rfl
theorem L_X7_56 : Cond.classLink RX7 56 RX6 ∈ TS := ts_mem 315 (by decide +kernel) rfl
theorem K_X7_56 : rb_Cls RX7 56 7 11 := ⟨RX6, TX6, tyX6, rfl, inC_X6, by decide, L_X7_56, ts_mem 507 (by decide +kernel) rfl, ts_mem 64 (by decide +kernel) rfl, tyX6_ok, by decide +kernel⟩
theorem L_L_25 : Cond.classLink RL 25 "java/lang/IllegalStateException" ∈ TS := ts_mem 350 (by decide +kernel) rfl
theorem L_X7_145 : Cond.classLink RX7 145 "java/lang/IllegalStateException" ∈ TS := ts_mem 364 (by decide +kernel) rfl
theorem L_X7_99 : Cond.classLink RX7 99 RX1 ∈ TS := ts_mem 380 (by decide +kernel) rfl
theorem K_X7_99 : rb_Cls RX7 99 2 7 := ⟨RX1, TX1, tyX1, rfl, inC_X1, by decide, L_X7_99, ts_mem 381 (by decide +kernel) rfl, ts_mem 60 (by decide +kernel) rfl, tyX1_ok, by decide +kernel⟩
theorem L_J7_110 : Cond.classLink RJ7 110 "[Ljava/lang/Object;" ∈ TS := ts_mem 457 (by decide +kernel) rfl
theorem L_J7_2 : Cond.classLink RJ7 2 "java/lang/Object" ∈ TS := ts_mem 459 (by decide +kernel) rfl
theorem L_Jx4a65c_7 : Cond.classLink RJx4a65c 7 "java/lang/Object" ∈ TS := ts_mem 467 (by decide +kernel) rfl
theorem L_X7_218 : Cond.classLink RX7 218 RX3 ∈ TS := ts_mem 703 (by decide +kernel) rfl
theorem K_X7_218 : rb_Cls RX7 218 4 4 := ⟨RX3, TX3, tyX3, rfl, inC_X3, by decide, L_X7_218, ts_mem 704 (by decide +kernel) rfl, ts_mem 65 (by decide +kernel) rfl, tyX3_ok, by decide +kernel⟩
theorem L_X7_323 : Cond.classLink RX7 323 RX4 ∈ TS := ts_mem 730 (by decide +kernel) rfl
theorem K_X7_323 : rb_Cls RX7 323 5 5 := ⟨RX4, TX4, tyX4, rfl, inC_X4, by decide, L_X7_323, ts_mem 731 (by decide +kernel) rfl, ts_mem 66 (by decide +kernel) rfl, tyX4_ok, by decide +kernel⟩
theorem L_X0_26 : Cond.classLink RX0 26 RX4 ∈ TS := ts_mem 784 (by decide +kernel) rfl
theorem K_X0_26 : rb_Cls RX0 26 5 5 := ⟨RX4, TX4, tyX4, rfl, inC_X4, by decide, L_X0_26, ts_mem 731 (by decide +kernel) rfl, ts_mem 66 (by decide +kernel) rfl, tyX4_ok, by decide +kernel⟩
theorem L_L_99 : Cond.classLink RL 99 RX8 ∈ TS := ts_mem 876 (by decide +kernel) rfl
theorem K_L_99 : rb_Cls RL 99 9 39 := ⟨RX8, TX8, tyX8, rfl, inC_X8, by decide, L_L_99, ts_mem 877 (by decide +kernel) rfl, ts_mem 51 (by decide +kernel) rfl, tyX8_ok, by decide +kernel⟩
theorem M_L_98 : rb_Ic RL 98 yX7_init cX7_init 2 0 := ⟨ts_mem 69 (by decide +kernel) rfl, ts_mem 70 (by decide +kernel) rfl, ts_mem 43 (by decide +kernel) rfl, ts_mem 71 (by decide +kernel) rfl, rfl, by decide +kernel⟩
theorem M_X7_1 : Cond.methodLink RX7 1 objectInit ∈ TS := ts_mem 72 (by decide +kernel) rfl
theorem M_X7_27 : rb_Ic RX7 27 yJx4a65c_init_da8c8 cJx4a65c_init_da8c8 1 0 := ⟨ts_mem 81 (by decide +kernel) rfl, ts_mem 82 (by decide +kernel) rfl, ts_mem 46 (by decide +kernel) rfl, ts_mem 83 (by decide +kernel) rfl, rfl, by decide +kernel⟩
theorem M_Jx4a65c_1 : rb_Ic RJx4a65c 1 yJxc12de_init_da8c8 cJxc12de_init_da8c8 1 0 := ⟨ts_mem 84 (by decide +kernel) rfl, ts_mem 85 (by decide +kernel) rfl, ts_mem 45 (by decide +kernel) rfl, ts_mem 86 (by decide +kernel) rfl, rfl, by decide +kernel⟩
theorem M_Jxc12de_1 : rb_Ic RJxc12de 1 yJxa1e45_init_da8c8 cJxa1e45_init_da8c8 1 0 := ⟨ts_mem 87 (by decide +kernel) rfl, ts_mem 88 (by decide +kernel) rfl, ts_mem 44 (by decide +kernel) rfl, ts_mem 89 (by decide +kernel) rfl, rfl, by decide +kernel⟩
theorem M_Jxa1e45_1 : Cond.methodLink RJxa1e45 1 objectInit ∈ TS := ts_mem 90 (by decide +kernel) rfl
theorem M_X5_3 : Cond.methodLink RX5 3 objectInit ∈ TS := ts_mem 110 (by decide +kernel) rfl
theorem M_X5_11 : rb_Ic RX5 11 yX2_init cX2_init 1 0 := ⟨ts_mem 113 (by decide +kernel) rfl, ts_mem 114 (by decide +kernel) rfl, ts_mem 48 (by decide +kernel) rfl, ts_mem 115 (by decide +kernel) rfl, rfl, by decide +kernel⟩
theorem M_X2_3 : Cond.methodLink RX2 3 objectInit ∈ TS := ts_mem 116 (by decide +kernel) rfl
theorem M_X2_15 : rb_Sc RX2 15 yJ7_fill_53178 cJ7_fill_53178 4 none 2 := ⟨ts_mem 117 (by decide +kernel) rfl, ts_mem 118 (by decide +kernel) rfl, ts_mem 49 (by decide +kernel) rfl, ts_mem 119 (by decide +kernel) rfl, by decide +kernel⟩
theorem M_X0_3 : Cond.methodLink RX0 3 objectInit ∈ TS := ts_mem 155 (by decide +kernel) rfl
theorem M_X0_11 : rb_Ic RX0 11 yJx4a65c_init_da8c8 cJx4a65c_init_da8c8 1 0 := ⟨ts_mem 157 (by decide +kernel) rfl, ts_mem 82 (by decide +kernel) rfl, ts_mem 46 (by decide +kernel) rfl, ts_mem 83 (by decide +kernel) rfl, rfl, by decide +kernel⟩
theorem M_L_102 : rb_SWc RL 102 yL_reach cL_reach 5 (some .int) [(0, 10, 13, 13), (0, 10, 17, 15)] 4 := ⟨ts_mem 193 (by decide +kernel) rfl, ts_mem 194 (by decide +kernel) rfl, ts_mem 42 (by decide +kernel) rfl, ts_mem 195 (by decide +kernel) rfl, by decide +kernel⟩
theorem M_L_7 : rb_Vc RL 7 RX7 yX7_reach cX7_reach 6 (some .int) 2 := ⟨ts_mem 198 (by decide +kernel) rfl, ts_mem 199 (by decide +kernel) rfl, ts_mem 200 (by decide +kernel) rfl, ts_mem 43 (by decide +kernel) rfl, ts_mem 201 (by decide +kernel) rfl, by decide +kernel⟩
theorem M_X7_40 : rb_Vc RX7 40 RX7 yX7_receivedAt cX7_receivedAt 2 (some .int) 1 := ⟨ts_mem 202 (by decide +kernel) rfl, ts_mem 204 (by decide +kernel) rfl, ts_mem 0 (by decide +kernel) rfl, ts_mem 43 (by decide +kernel) rfl, ts_mem 205 (by decide +kernel) rfl, by decide +kernel⟩
theorem M_X7_126 : rb_Vc RX7 126 RX7 yX7_requirePlace cX7_requirePlace 2 none 1 := ⟨ts_mem 206 (by decide +kernel) rfl, ts_mem 208 (by decide +kernel) rfl, ts_mem 1 (by decide +kernel) rfl, ts_mem 43 (by decide +kernel) rfl, ts_mem 209 (by decide +kernel) rfl, by decide +kernel⟩
theorem M_X7_44 : rb_Sc RX7 44 yX7_requireRange cX7_requireRange 3 none 3 := ⟨ts_mem 278 (by decide +kernel) rfl, ts_mem 279 (by decide +kernel) rfl, ts_mem 43 (by decide +kernel) rfl, ts_mem 280 (by decide +kernel) rfl, by decide +kernel⟩
theorem M_X7_48 : rb_Vc RX7 48 RJx4a65c yJx4a65c_size_8abf5 cJx4a65c_size_8abf5 1 (some .int) 0 := ⟨ts_mem 297 (by decide +kernel) rfl, ts_mem 298 (by decide +kernel) rfl, ts_mem 299 (by decide +kernel) rfl, ts_mem 46 (by decide +kernel) rfl, ts_mem 300 (by decide +kernel) rfl, by decide +kernel⟩
theorem M_X7_52 : rb_Vc RX7 52 RJx4a65c yJx4a65c_get_915e3 cJx4a65c_get_915e3 2 (some (.object "java/lang/Object")) 1 := ⟨ts_mem 301 (by decide +kernel) rfl, ts_mem 302 (by decide +kernel) rfl, ts_mem 303 (by decide +kernel) rfl, ts_mem 46 (by decide +kernel) rfl, ts_mem 304 (by decide +kernel) rfl, by decide +kernel⟩
theorem M_Jx4a65c_118 : rb_Sc RJx4a65c 118 yJ15_checkIndex_7cf53 cJ15_checkIndex_7cf53 2 (some .int) 2 := ⟨ts_mem 305 (by decide +kernel) rfl, ts_mem 306 (by decide +kernel) rfl, ts_mem 57 (by decide +kernel) rfl, ts_mem 307 (by decide +kernel) rfl, by decide +kernel⟩
theorem M_J15_105 : rb_Sc RJ15 105 yJ3_checkIndex_8e157 cJ3_checkIndex_8e157 3 (some .int) 3 := ⟨ts_mem 308 (by decide +kernel) rfl, ts_mem 309 (by decide +kernel) rfl, ts_mem 58 (by decide +kernel) rfl, ts_mem 310 (by decide +kernel) rfl, by decide +kernel⟩
theorem M_Jx4a65c_123 : rb_Vc RJx4a65c 123 RJx4a65c yJx4a65c_elementData_915e3 cJx4a65c_elementData_915e3 2 (some (.object "java/lang/Object")) 1 := ⟨ts_mem 311 (by decide +kernel) rfl, ts_mem 312 (by decide +kernel) rfl, ts_mem 313 (by decide +kernel) rfl, ts_mem 46 (by decide +kernel) rfl, ts_mem 314 (by decide +kernel) rfl, by decide +kernel⟩
theorem M_X7_62 : rb_Vc RX7 62 RX7 yX7_detachIfNotReceived cX7_detachIfNotReceived 2 none 1 := ⟨ts_mem 316 (by decide +kernel) rfl, ts_mem 318 (by decide +kernel) rfl, ts_mem 3 (by decide +kernel) rfl, ts_mem 43 (by decide +kernel) rfl, ts_mem 319 (by decide +kernel) rfl, by decide +kernel⟩
theorem M_X7_167 : rb_Sc RX7 167 yX7_isIn cX7_isIn 2 (some .boolean) 2 := ⟨ts_mem 320 (by decide +kernel) rfl, ts_mem 321 (by decide +kernel) rfl, ts_mem 43 (by decide +kernel) rfl, ts_mem 322 (by decide +kernel) rfl, by decide +kernel⟩
theorem M_L_112 : rb_SWc RL 112 yL_dead cL_dead 5 (some .int) [(0, 17, 20, 13)] 4 := ⟨ts_mem 323 (by decide +kernel) rfl, ts_mem 324 (by decide +kernel) rfl, ts_mem 42 (by decide +kernel) rfl, ts_mem 325 (by decide +kernel) rfl, by decide +kernel⟩
theorem M_L_17 : rb_Vc RL 17 RX7 yX7_dead cX7_dead 5 (some .boolean) 2 := ⟨ts_mem 326 (by decide +kernel) rfl, ts_mem 327 (by decide +kernel) rfl, ts_mem 328 (by decide +kernel) rfl, ts_mem 43 (by decide +kernel) rfl, ts_mem 329 (by decide +kernel) rfl, by decide +kernel⟩
theorem M_X7_66 : rb_Vc RX7 66 RX7 yX7_networkAt cX7_networkAt 2 (some (.object "RoamBooks$Network")) 1 := ⟨ts_mem 330 (by decide +kernel) rfl, ts_mem 332 (by decide +kernel) rfl, ts_mem 4 (by decide +kernel) rfl, ts_mem 43 (by decide +kernel) rfl, ts_mem 333 (by decide +kernel) rfl, by decide +kernel⟩
theorem M_X7_87 : rb_Vc RX7 87 RX7 yX7_requireNetwork cX7_requireNetwork 2 none 1 := ⟨ts_mem 334 (by decide +kernel) rfl, ts_mem 336 (by decide +kernel) rfl, ts_mem 5 (by decide +kernel) rfl, ts_mem 43 (by decide +kernel) rfl, ts_mem 337 (by decide +kernel) rfl, by decide +kernel⟩
theorem M_X7_78 : rb_Vc RX7 78 RX2 yX2_clear cX2_clear 1 none 0 := ⟨ts_mem 339 (by decide +kernel) rfl, ts_mem 340 (by decide +kernel) rfl, ts_mem 341 (by decide +kernel) rfl, ts_mem 48 (by decide +kernel) rfl, ts_mem 342 (by decide +kernel) rfl, by decide +kernel⟩
theorem M_X7_83 : rb_Vc RX7 83 RX7 yX7_detachAllFrom cX7_detachAllFrom 4 none 1 := ⟨ts_mem 343 (by decide +kernel) rfl, ts_mem 345 (by decide +kernel) rfl, ts_mem 6 (by decide +kernel) rfl, ts_mem 43 (by decide +kernel) rfl, ts_mem 346 (by decide +kernel) rfl, by decide +kernel⟩
theorem M_L_116 : rb_SWc RL 116 yL_agree cL_agree 10 (some .int) [(0, 20, 23, 13), (0, 20, 27, 15), (0, 20, 31, 25)] 9 := ⟨ts_mem 347 (by decide +kernel) rfl, ts_mem 348 (by decide +kernel) rfl, ts_mem 42 (by decide +kernel) rfl, ts_mem 349 (by decide +kernel) rfl, by decide +kernel⟩
theorem M_L_21 : rb_Vc RL 21 RX7 yX7_agree cX7_agree 8 (some .int) 7 := ⟨ts_mem 351 (by decide +kernel) rfl, ts_mem 352 (by decide +kernel) rfl, ts_mem 353 (by decide +kernel) rfl, ts_mem 43 (by decide +kernel) rfl, ts_mem 354 (by decide +kernel) rfl, by decide +kernel⟩
theorem M_X7_90 : rb_Sc RX7 90 yX7_requireDifferent cX7_requireDifferent 2 none 2 := ⟨ts_mem 355 (by decide +kernel) rfl, ts_mem 356 (by decide +kernel) rfl, ts_mem 43 (by decide +kernel) rfl, ts_mem 357 (by decide +kernel) rfl, by decide +kernel⟩
theorem M_X7_96 : rb_Sc RX7 96 yX7_requireRoom cX7_requireRoom 2 none 2 := ⟨ts_mem 361 (by decide +kernel) rfl, ts_mem 362 (by decide +kernel) rfl, ts_mem 43 (by decide +kernel) rfl, ts_mem 363 (by decide +kernel) rfl, by decide +kernel⟩
theorem M_X7_101 : rb_Ic RX7 101 yX1_init cX1_init 8 7 := ⟨ts_mem 382 (by decide +kernel) rfl, ts_mem 383 (by decide +kernel) rfl, ts_mem 60 (by decide +kernel) rfl, ts_mem 384 (by decide +kernel) rfl, rfl, by decide +kernel⟩
theorem M_X1_1 : Cond.methodLink RX1 1 objectInit ∈ TS := ts_mem 385 (by decide +kernel) rfl
theorem M_X7_104 : rb_Vc RX7 104 RJx4a65c yJx4a65c_add_9ea2d cJx4a65c_add_9ea2d 2 (some .boolean) 1 := ⟨ts_mem 408 (by decide +kernel) rfl, ts_mem 409 (by decide +kernel) rfl, ts_mem 410 (by decide +kernel) rfl, ts_mem 46 (by decide +kernel) rfl, ts_mem 411 (by decide +kernel) rfl, by decide +kernel⟩
theorem M_Jx4a65c_131 : rb_Vc RJx4a65c 131 RJx4a65c yJx4a65c_add_72be8 cJx4a65c_add_72be8 4 none 3 := ⟨ts_mem 412 (by decide +kernel) rfl, ts_mem 414 (by decide +kernel) rfl, ts_mem 7 (by decide +kernel) rfl, ts_mem 46 (by decide +kernel) rfl, ts_mem 415 (by decide +kernel) rfl, by decide +kernel⟩
theorem M_Jx4a65c_129 : rb_Vc RJx4a65c 129 RJx4a65c yJx4a65c_grow_d5877 cJx4a65c_grow_d5877 1 (some (.array (.object "java/lang/Object"))) 0 := ⟨ts_mem 416 (by decide +kernel) rfl, ts_mem 418 (by decide +kernel) rfl, ts_mem 8 (by decide +kernel) rfl, ts_mem 46 (by decide +kernel) rfl, ts_mem 419 (by decide +kernel) rfl, by decide +kernel⟩
theorem M_Jx4a65c_69 : rb_Vc RJx4a65c 69 RJx4a65c yJx4a65c_grow_92f84 cJx4a65c_grow_92f84 4 (some (.array (.object "java/lang/Object"))) 1 := ⟨ts_mem 420 (by decide +kernel) rfl, ts_mem 422 (by decide +kernel) rfl, ts_mem 9 (by decide +kernel) rfl, ts_mem 46 (by decide +kernel) rfl, ts_mem 423 (by decide +kernel) rfl, by decide +kernel⟩
theorem M_Jx4a65c_73 : rb_Sc RJx4a65c 73 yJ8_newLength_cabcc cJ8_newLength_cabcc 4 (some .int) 3 := ⟨ts_mem 424 (by decide +kernel) rfl, ts_mem 425 (by decide +kernel) rfl, ts_mem 61 (by decide +kernel) rfl, ts_mem 426 (by decide +kernel) rfl, by decide +kernel⟩
theorem M_J8_194 : rb_Sc RJ8 194 yJ9_max_7cf53 cJ9_max_7cf53 2 (some .int) 2 := ⟨ts_mem 427 (by decide +kernel) rfl, ts_mem 428 (by decide +kernel) rfl, ts_mem 62 (by decide +kernel) rfl, ts_mem 429 (by decide +kernel) rfl, by decide +kernel⟩
theorem M_J8_201 : rb_Sc RJ8 201 yJ8_hugeLength_7cf53 cJ8_hugeLength_7cf53 3 (some .int) 2 := ⟨ts_mem 431 (by decide +kernel) rfl, ts_mem 432 (by decide +kernel) rfl, ts_mem 61 (by decide +kernel) rfl, ts_mem 433 (by decide +kernel) rfl, by decide +kernel⟩
theorem M_Jx4a65c_66 : rb_Sc RJx4a65c 66 yJ7_copyOf_1904c cJ7_copyOf_1904c 2 (some (.array (.object "java/lang/Object"))) 2 := ⟨ts_mem 434 (by decide +kernel) rfl, ts_mem 435 (by decide +kernel) rfl, ts_mem 49 (by decide +kernel) rfl, ts_mem 436 (by decide +kernel) rfl, by decide +kernel⟩
theorem M_J7_300 : rb_Sc RJ7 300 yJ7_copyOf_6403c cJ7_copyOf_6403c 4 (some (.array (.object "java/lang/Object"))) 3 := ⟨ts_mem 454 (by decide +kernel) rfl, ts_mem 455 (by decide +kernel) rfl, ts_mem 49 (by decide +kernel) rfl, ts_mem 456 (by decide +kernel) rfl, by decide +kernel⟩
theorem M_J7_304 : rb_Sc RJ7 304 yJ9_min_7cf53 cJ9_min_7cf53 2 (some .int) 2 := ⟨ts_mem 460 (by decide +kernel) rfl, ts_mem 461 (by decide +kernel) rfl, ts_mem 62 (by decide +kernel) rfl, ts_mem 462 (by decide +kernel) rfl, by decide +kernel⟩
theorem M_Jx4a65c_79 : rb_Sc RJx4a65c 79 yJ9_max_7cf53 cJ9_max_7cf53 2 (some .int) 2 := ⟨ts_mem 466 (by decide +kernel) rfl, ts_mem 428 (by decide +kernel) rfl, ts_mem 62 (by decide +kernel) rfl, ts_mem 429 (by decide +kernel) rfl, by decide +kernel⟩
theorem M_L_120 : rb_SWc RL 120 yL_steer cL_steer 5 (some .int) [(0, 10, 13, 13), (0, 10, 17, 15)] 4 := ⟨ts_mem 468 (by decide +kernel) rfl, ts_mem 469 (by decide +kernel) rfl, ts_mem 42 (by decide +kernel) rfl, ts_mem 470 (by decide +kernel) rfl, by decide +kernel⟩
theorem M_L_27 : rb_Vc RL 27 RX7 yX7_steer cX7_steer 5 (some .int) 2 := ⟨ts_mem 471 (by decide +kernel) rfl, ts_mem 472 (by decide +kernel) rfl, ts_mem 473 (by decide +kernel) rfl, ts_mem 43 (by decide +kernel) rfl, ts_mem 474 (by decide +kernel) rfl, by decide +kernel⟩
theorem M_L_123 : rb_SWc RL 123 yL_prices cL_prices 6 (some .int) [(0, 9, 12, 13), (0, 9, 16, 15)] 5 := ⟨ts_mem 475 (by decide +kernel) rfl, ts_mem 476 (by decide +kernel) rfl, ts_mem 42 (by decide +kernel) rfl, ts_mem 477 (by decide +kernel) rfl, by decide +kernel⟩
theorem M_L_30 : rb_Vc RL 30 RX7 yX7_prices cX7_prices 6 none 4 := ⟨ts_mem 478 (by decide +kernel) rfl, ts_mem 479 (by decide +kernel) rfl, ts_mem 480 (by decide +kernel) rfl, ts_mem 43 (by decide +kernel) rfl, ts_mem 481 (by decide +kernel) rfl, by decide +kernel⟩
theorem M_L_127 : rb_SWc RL 127 yL_lose cL_lose 5 (some .int) [(0, 10, 13, 13), (0, 10, 17, 15)] 4 := ⟨ts_mem 482 (by decide +kernel) rfl, ts_mem 483 (by decide +kernel) rfl, ts_mem 42 (by decide +kernel) rfl, ts_mem 484 (by decide +kernel) rfl, by decide +kernel⟩
theorem M_L_34 : rb_Vc RL 34 RX7 yX7_lose cX7_lose 5 (some .int) 2 := ⟨ts_mem 485 (by decide +kernel) rfl, ts_mem 486 (by decide +kernel) rfl, ts_mem 487 (by decide +kernel) rfl, ts_mem 43 (by decide +kernel) rfl, ts_mem 488 (by decide +kernel) rfl, by decide +kernel⟩
theorem M_L_130 : rb_SWc RL 130 yL_crash cL_crash 4 (some .int) [(0, 9, 12, 13)] 3 := ⟨ts_mem 489 (by decide +kernel) rfl, ts_mem 490 (by decide +kernel) rfl, ts_mem 42 (by decide +kernel) rfl, ts_mem 491 (by decide +kernel) rfl, by decide +kernel⟩
theorem M_L_37 : rb_Vc RL 37 RX7 yX7_crash cX7_crash 4 (some .int) 1 := ⟨ts_mem 492 (by decide +kernel) rfl, ts_mem 493 (by decide +kernel) rfl, ts_mem 494 (by decide +kernel) rfl, ts_mem 43 (by decide +kernel) rfl, ts_mem 495 (by decide +kernel) rfl, by decide +kernel⟩
theorem M_X7_123 : rb_Vc RX7 123 RX2 yX2_count cX2_count 3 (some .int) 0 := ⟨ts_mem 496 (by decide +kernel) rfl, ts_mem 497 (by decide +kernel) rfl, ts_mem 498 (by decide +kernel) rfl, ts_mem 48 (by decide +kernel) rfl, ts_mem 499 (by decide +kernel) rfl, by decide +kernel⟩
theorem M_L_134 : rb_SWc RL 134 yL_subscriber cL_subscriber 6 (some .int) [(0, 12, 15, 13), (0, 12, 19, 15), (0, 12, 23, 25)] 5 := ⟨ts_mem 500 (by decide +kernel) rfl, ts_mem 501 (by decide +kernel) rfl, ts_mem 42 (by decide +kernel) rfl, ts_mem 502 (by decide +kernel) rfl, by decide +kernel⟩
theorem M_L_41 : rb_Vc RL 41 RX7 yX7_subscriber cX7_subscriber 5 (some .int) 3 := ⟨ts_mem 503 (by decide +kernel) rfl, ts_mem 504 (by decide +kernel) rfl, ts_mem 505 (by decide +kernel) rfl, ts_mem 43 (by decide +kernel) rfl, ts_mem 506 (by decide +kernel) rfl, by decide +kernel⟩
theorem M_X7_129 : rb_Ic RX7 129 yX6_init cX6_init 5 4 := ⟨ts_mem 508 (by decide +kernel) rfl, ts_mem 509 (by decide +kernel) rfl, ts_mem 64 (by decide +kernel) rfl, ts_mem 510 (by decide +kernel) rfl, rfl, by decide +kernel⟩
theorem M_X6_3 : Cond.methodLink RX6 3 objectInit ∈ TS := ts_mem 511 (by decide +kernel) rfl
theorem M_L_138 : rb_SWc RL 138 yL_move cL_move 5 (some .int) [(0, 10, 13, 13)] 4 := ⟨ts_mem 555 (by decide +kernel) rfl, ts_mem 556 (by decide +kernel) rfl, ts_mem 42 (by decide +kernel) rfl, ts_mem 557 (by decide +kernel) rfl, by decide +kernel⟩
theorem M_L_45 : rb_Vc RL 45 RX7 yX7_move cX7_move 4 (some .int) 2 := ⟨ts_mem 558 (by decide +kernel) rfl, ts_mem 559 (by decide +kernel) rfl, ts_mem 560 (by decide +kernel) rfl, ts_mem 43 (by decide +kernel) rfl, ts_mem 561 (by decide +kernel) rfl, by decide +kernel⟩
theorem M_X7_135 : rb_Vc RX7 135 RX7 yX7_subscriberAt cX7_subscriberAt 2 (some (.object "RoamBooks$Subscriber")) 1 := ⟨ts_mem 562 (by decide +kernel) rfl, ts_mem 564 (by decide +kernel) rfl, ts_mem 10 (by decide +kernel) rfl, ts_mem 43 (by decide +kernel) rfl, ts_mem 565 (by decide +kernel) rfl, by decide +kernel⟩
theorem M_L_141 : rb_SWc RL 141 yL_off cL_off 4 (some .int) [(0, 9, 12, 13)] 3 := ⟨ts_mem 567 (by decide +kernel) rfl, ts_mem 568 (by decide +kernel) rfl, ts_mem 42 (by decide +kernel) rfl, ts_mem 569 (by decide +kernel) rfl, by decide +kernel⟩
theorem M_L_48 : rb_Vc RL 48 RX7 yX7_off cX7_off 4 (some .int) 1 := ⟨ts_mem 570 (by decide +kernel) rfl, ts_mem 571 (by decide +kernel) rfl, ts_mem 572 (by decide +kernel) rfl, ts_mem 43 (by decide +kernel) rfl, ts_mem 573 (by decide +kernel) rfl, by decide +kernel⟩
theorem M_L_144 : rb_SWc RL 144 yL_attach cL_attach 5 (some .int) [(0, 10, 13, 13), (0, 10, 17, 25)] 4 := ⟨ts_mem 574 (by decide +kernel) rfl, ts_mem 575 (by decide +kernel) rfl, ts_mem 42 (by decide +kernel) rfl, ts_mem 576 (by decide +kernel) rfl, by decide +kernel⟩
theorem M_L_51 : rb_Vc RL 51 RX7 yX7_attach cX7_attach 5 (some .int) 2 := ⟨ts_mem 577 (by decide +kernel) rfl, ts_mem 578 (by decide +kernel) rfl, ts_mem 579 (by decide +kernel) rfl, ts_mem 43 (by decide +kernel) rfl, ts_mem 580 (by decide +kernel) rfl, by decide +kernel⟩
theorem M_X7_152 : rb_Vc RX7 152 RX7 yX7_whyNotUsable cX7_whyNotUsable 3 (some .int) 2 := ⟨ts_mem 582 (by decide +kernel) rfl, ts_mem 584 (by decide +kernel) rfl, ts_mem 11 (by decide +kernel) rfl, ts_mem 43 (by decide +kernel) rfl, ts_mem 585 (by decide +kernel) rfl, by decide +kernel⟩
theorem M_X7_295 : rb_Vc RX7 295 RX7 yX7_agreementNow cX7_agreementNow 5 (some (.object "RoamBooks$Agreement")) 2 := ⟨ts_mem 586 (by decide +kernel) rfl, ts_mem 588 (by decide +kernel) rfl, ts_mem 12 (by decide +kernel) rfl, ts_mem 43 (by decide +kernel) rfl, ts_mem 589 (by decide +kernel) rfl, by decide +kernel⟩
theorem M_X7_285 : rb_Vc RX7 285 RX1 yX1_holds cX1_holds 4 (some .boolean) 3 := ⟨ts_mem 590 (by decide +kernel) rfl, ts_mem 591 (by decide +kernel) rfl, ts_mem 592 (by decide +kernel) rfl, ts_mem 60 (by decide +kernel) rfl, ts_mem 593 (by decide +kernel) rfl, by decide +kernel⟩
theorem M_X7_156 : rb_Vc RX7 156 RX7 yX7_isSteered cX7_isSteered 4 (some .boolean) 2 := ⟨ts_mem 594 (by decide +kernel) rfl, ts_mem 596 (by decide +kernel) rfl, ts_mem 13 (by decide +kernel) rfl, ts_mem 43 (by decide +kernel) rfl, ts_mem 597 (by decide +kernel) rfl, by decide +kernel⟩
theorem M_X7_163 : rb_Vc RX7 163 RX7 yX7_makeContact cX7_makeContact 4 none 2 := ⟨ts_mem 598 (by decide +kernel) rfl, ts_mem 600 (by decide +kernel) rfl, ts_mem 14 (by decide +kernel) rfl, ts_mem 43 (by decide +kernel) rfl, ts_mem 601 (by decide +kernel) rfl, by decide +kernel⟩
theorem M_X7_299 : rb_Vc RX7 299 RX2 yX2_put cX2_put 3 none 2 := ⟨ts_mem 602 (by decide +kernel) rfl, ts_mem 603 (by decide +kernel) rfl, ts_mem 604 (by decide +kernel) rfl, ts_mem 48 (by decide +kernel) rfl, ts_mem 605 (by decide +kernel) rfl, by decide +kernel⟩
theorem M_X2_21 : rb_Vc RX2 21 RX2 yX2_isLine cX2_isLine 2 (some .boolean) 1 := ⟨ts_mem 606 (by decide +kernel) rfl, ts_mem 608 (by decide +kernel) rfl, ts_mem 15 (by decide +kernel) rfl, ts_mem 48 (by decide +kernel) rfl, ts_mem 609 (by decide +kernel) rfl, by decide +kernel⟩
theorem M_X7_302 : rb_Vc RX7 302 RX2 yX2_takeOut cX2_takeOut 2 none 1 := ⟨ts_mem 610 (by decide +kernel) rfl, ts_mem 611 (by decide +kernel) rfl, ts_mem 612 (by decide +kernel) rfl, ts_mem 48 (by decide +kernel) rfl, ts_mem 613 (by decide +kernel) rfl, by decide +kernel⟩
theorem M_X2_29 : rb_Vc RX2 29 RX2 yX2_put cX2_put 3 none 2 := ⟨ts_mem 614 (by decide +kernel) rfl, ts_mem 603 (by decide +kernel) rfl, ts_mem 604 (by decide +kernel) rfl, ts_mem 48 (by decide +kernel) rfl, ts_mem 605 (by decide +kernel) rfl, by decide +kernel⟩
theorem M_L_147 : rb_SWc RL 147 yL_emergency cL_emergency 4 (some .int) [(0, 9, 12, 13)] 3 := ⟨ts_mem 615 (by decide +kernel) rfl, ts_mem 616 (by decide +kernel) rfl, ts_mem 42 (by decide +kernel) rfl, ts_mem 617 (by decide +kernel) rfl, by decide +kernel⟩
theorem M_L_54 : rb_Vc RL 54 RX7 yX7_emergency cX7_emergency 5 (some .int) 1 := ⟨ts_mem 618 (by decide +kernel) rfl, ts_mem 619 (by decide +kernel) rfl, ts_mem 620 (by decide +kernel) rfl, ts_mem 43 (by decide +kernel) rfl, ts_mem 621 (by decide +kernel) rfl, by decide +kernel⟩
theorem M_L_150 : rb_SWc RL 150 yL_where cL_where 4 (some .int) [(0, 9, 12, 13)] 3 := ⟨ts_mem 622 (by decide +kernel) rfl, ts_mem 623 (by decide +kernel) rfl, ts_mem 42 (by decide +kernel) rfl, ts_mem 624 (by decide +kernel) rfl, by decide +kernel⟩
theorem M_L_57 : rb_Vc RL 57 RX7 yX7_where cX7_where 2 (some .int) 1 := ⟨ts_mem 625 (by decide +kernel) rfl, ts_mem 626 (by decide +kernel) rfl, ts_mem 627 (by decide +kernel) rfl, ts_mem 43 (by decide +kernel) rfl, ts_mem 628 (by decide +kernel) rfl, by decide +kernel⟩
theorem M_L_153 : rb_SWc RL 153 yL_contact cL_contact 5 (some .int) [(0, 10, 13, 13)] 4 := ⟨ts_mem 629 (by decide +kernel) rfl, ts_mem 630 (by decide +kernel) rfl, ts_mem 42 (by decide +kernel) rfl, ts_mem 631 (by decide +kernel) rfl, by decide +kernel⟩
theorem M_L_60 : rb_Vc RL 60 RX7 yX7_contact cX7_contact 4 (some .int) 2 := ⟨ts_mem 632 (by decide +kernel) rfl, ts_mem 633 (by decide +kernel) rfl, ts_mem 634 (by decide +kernel) rfl, ts_mem 43 (by decide +kernel) rfl, ts_mem 635 (by decide +kernel) rfl, by decide +kernel⟩
theorem M_X7_174 : rb_Vc RX7 174 RX2 yX2_latest cX2_latest 2 (some .int) 1 := ⟨ts_mem 636 (by decide +kernel) rfl, ts_mem 637 (by decide +kernel) rfl, ts_mem 638 (by decide +kernel) rfl, ts_mem 48 (by decide +kernel) rfl, ts_mem 639 (by decide +kernel) rfl, by decide +kernel⟩
theorem M_L_156 : rb_SWc RL 156 yL_agrees cL_agrees 4 (some .int) [(0, 16, 19, 13)] 3 := ⟨ts_mem 640 (by decide +kernel) rfl, ts_mem 641 (by decide +kernel) rfl, ts_mem 42 (by decide +kernel) rfl, ts_mem 642 (by decide +kernel) rfl, by decide +kernel⟩
theorem M_L_63 : rb_Vc RL 63 RX7 yX7_agrees cX7_agrees 4 (some .boolean) 1 := ⟨ts_mem 643 (by decide +kernel) rfl, ts_mem 644 (by decide +kernel) rfl, ts_mem 645 (by decide +kernel) rfl, ts_mem 43 (by decide +kernel) rfl, ts_mem 646 (by decide +kernel) rfl, by decide +kernel⟩
theorem M_X7_177 : rb_Vc RX7 177 RX2 yX2_has cX2_has 2 (some .boolean) 1 := ⟨ts_mem 647 (by decide +kernel) rfl, ts_mem 648 (by decide +kernel) rfl, ts_mem 649 (by decide +kernel) rfl, ts_mem 48 (by decide +kernel) rfl, ts_mem 650 (by decide +kernel) rfl, by decide +kernel⟩
theorem M_X2_25 : rb_Vc RX2 25 RX2 yX2_latest cX2_latest 2 (some .int) 1 := ⟨ts_mem 651 (by decide +kernel) rfl, ts_mem 637 (by decide +kernel) rfl, ts_mem 638 (by decide +kernel) rfl, ts_mem 48 (by decide +kernel) rfl, ts_mem 639 (by decide +kernel) rfl, by decide +kernel⟩
theorem M_L_159 : rb_SWc RL 159 yL_subscriberIs cL_subscriberIs 5 (some .int) [(0, 10, 13, 13), (0, 10, 17, 15)] 4 := ⟨ts_mem 652 (by decide +kernel) rfl, ts_mem 653 (by decide +kernel) rfl, ts_mem 42 (by decide +kernel) rfl, ts_mem 654 (by decide +kernel) rfl, by decide +kernel⟩
theorem M_L_67 : rb_Vc RL 67 RX7 yX7_subscriberIs cX7_subscriberIs 4 (some .int) 2 := ⟨ts_mem 655 (by decide +kernel) rfl, ts_mem 656 (by decide +kernel) rfl, ts_mem 657 (by decide +kernel) rfl, ts_mem 43 (by decide +kernel) rfl, ts_mem 658 (by decide +kernel) rfl, by decide +kernel⟩
theorem M_X7_187 : rb_Vc RX7 187 RX6 yX6_isWarned cX6_isWarned 1 (some .boolean) 0 := ⟨ts_mem 659 (by decide +kernel) rfl, ts_mem 660 (by decide +kernel) rfl, ts_mem 661 (by decide +kernel) rfl, ts_mem 64 (by decide +kernel) rfl, ts_mem 662 (by decide +kernel) rfl, by decide +kernel⟩
theorem M_L_162 : rb_SWc RL 162 yL_cap cL_cap 5 (some .int) [(0, 7, 10, 13), (0, 7, 14, 15)] 4 := ⟨ts_mem 666 (by decide +kernel) rfl, ts_mem 667 (by decide +kernel) rfl, ts_mem 42 (by decide +kernel) rfl, ts_mem 668 (by decide +kernel) rfl, by decide +kernel⟩
theorem M_L_70 : rb_Vc RL 70 RX7 yX7_cap cX7_cap 5 none 3 := ⟨ts_mem 669 (by decide +kernel) rfl, ts_mem 670 (by decide +kernel) rfl, ts_mem 671 (by decide +kernel) rfl, ts_mem 43 (by decide +kernel) rfl, ts_mem 672 (by decide +kernel) rfl, by decide +kernel⟩
theorem M_L_166 : rb_SWc RL 166 yL_call cL_call 6 (some .int) [(0, 12, 15, 13), (0, 12, 19, 15), (0, 12, 23, 25)] 5 := ⟨ts_mem 674 (by decide +kernel) rfl, ts_mem 675 (by decide +kernel) rfl, ts_mem 42 (by decide +kernel) rfl, ts_mem 676 (by decide +kernel) rfl, by decide +kernel⟩
theorem M_L_74 : rb_Vc RL 74 RX7 yX7_call cX7_call 10 (some .int) 3 := ⟨ts_mem 677 (by decide +kernel) rfl, ts_mem 678 (by decide +kernel) rfl, ts_mem 679 (by decide +kernel) rfl, ts_mem 43 (by decide +kernel) rfl, ts_mem 680 (by decide +kernel) rfl, by decide +kernel⟩
theorem M_X7_204 : rb_Vc RX7 204 RX7 yX7_whyNotFound cX7_whyNotFound 3 (some .int) 2 := ⟨ts_mem 682 (by decide +kernel) rfl, ts_mem 684 (by decide +kernel) rfl, ts_mem 16 (by decide +kernel) rfl, ts_mem 43 (by decide +kernel) rfl, ts_mem 685 (by decide +kernel) rfl, by decide +kernel⟩
theorem M_X7_208 : rb_Vc RX7 208 RX7 yX7_priceOfCalling cX7_priceOfCalling 3 (some .int) 1 := ⟨ts_mem 686 (by decide +kernel) rfl, ts_mem 688 (by decide +kernel) rfl, ts_mem 17 (by decide +kernel) rfl, ts_mem 43 (by decide +kernel) rfl, ts_mem 689 (by decide +kernel) rfl, by decide +kernel⟩
theorem M_X7_317 : rb_Vc RX7 317 RX6 yX6_isAbroad cX6_isAbroad 1 (some .boolean) 0 := ⟨ts_mem 690 (by decide +kernel) rfl, ts_mem 691 (by decide +kernel) rfl, ts_mem 692 (by decide +kernel) rfl, ts_mem 64 (by decide +kernel) rfl, ts_mem 693 (by decide +kernel) rfl, by decide +kernel⟩
theorem M_X7_212 : rb_Vc RX7 212 RX7 yX7_priceOfBeingCalled cX7_priceOfBeingCalled 2 (some .int) 1 := ⟨ts_mem 694 (by decide +kernel) rfl, ts_mem 696 (by decide +kernel) rfl, ts_mem 18 (by decide +kernel) rfl, ts_mem 43 (by decide +kernel) rfl, ts_mem 697 (by decide +kernel) rfl, by decide +kernel⟩
theorem M_X7_215 : rb_Vc RX7 215 RX6 yX6_wouldComeAboveCap cX6_wouldComeAboveCap 2 (some .boolean) 1 := ⟨ts_mem 698 (by decide +kernel) rfl, ts_mem 699 (by decide +kernel) rfl, ts_mem 700 (by decide +kernel) rfl, ts_mem 64 (by decide +kernel) rfl, ts_mem 701 (by decide +kernel) rfl, by decide +kernel⟩
theorem M_X6_33 : rb_Vc RX6 33 RX6 yX6_isAbroad cX6_isAbroad 1 (some .boolean) 0 := ⟨ts_mem 702 (by decide +kernel) rfl, ts_mem 691 (by decide +kernel) rfl, ts_mem 692 (by decide +kernel) rfl, ts_mem 64 (by decide +kernel) rfl, ts_mem 693 (by decide +kernel) rfl, by decide +kernel⟩
theorem M_X7_220 : rb_Ic RX7 220 yX3_init cX3_init 5 4 := ⟨ts_mem 705 (by decide +kernel) rfl, ts_mem 706 (by decide +kernel) rfl, ts_mem 65 (by decide +kernel) rfl, ts_mem 707 (by decide +kernel) rfl, rfl, by decide +kernel⟩
theorem M_X3_1 : Cond.methodLink RX3 1 objectInit ∈ TS := ts_mem 708 (by decide +kernel) rfl
theorem M_X7_221 : rb_Vc RX7 221 RX7 yX7_settle cX7_settle 5 none 3 := ⟨ts_mem 722 (by decide +kernel) rfl, ts_mem 724 (by decide +kernel) rfl, ts_mem 19 (by decide +kernel) rfl, ts_mem 43 (by decide +kernel) rfl, ts_mem 725 (by decide +kernel) rfl, by decide +kernel⟩
theorem M_X7_228 : rb_Vc RX7 228 RX7 yX7_accountOf cX7_accountOf 3 (some (.object "RoamBooks$Account")) 2 := ⟨ts_mem 726 (by decide +kernel) rfl, ts_mem 728 (by decide +kernel) rfl, ts_mem 20 (by decide +kernel) rfl, ts_mem 43 (by decide +kernel) rfl, ts_mem 729 (by decide +kernel) rfl, by decide +kernel⟩
theorem M_X7_325 : rb_Ic RX7 325 yX4_init cX4_init 4 3 := ⟨ts_mem 732 (by decide +kernel) rfl, ts_mem 733 (by decide +kernel) rfl, ts_mem 66 (by decide +kernel) rfl, ts_mem 734 (by decide +kernel) rfl, rfl, by decide +kernel⟩
theorem M_X4_3 : Cond.methodLink RX4 3 objectInit ∈ TS := ts_mem 735 (by decide +kernel) rfl
theorem M_L_169 : rb_SWc RL 169 yL_paidAnew cL_paidAnew 4 (some .int) [(0, 9, 12, 13)] 3 := ⟨ts_mem 756 (by decide +kernel) rfl, ts_mem 757 (by decide +kernel) rfl, ts_mem 42 (by decide +kernel) rfl, ts_mem 758 (by decide +kernel) rfl, by decide +kernel⟩
theorem M_L_77 : rb_Vc RL 77 RX7 yX7_paidAnew cX7_paidAnew 5 (some .int) 1 := ⟨ts_mem 759 (by decide +kernel) rfl, ts_mem 760 (by decide +kernel) rfl, ts_mem 761 (by decide +kernel) rfl, ts_mem 43 (by decide +kernel) rfl, ts_mem 762 (by decide +kernel) rfl, by decide +kernel⟩
theorem M_X7_225 : rb_Vc RX7 225 RX3 yX3_paidBy cX3_paidBy 2 (some .int) 1 := ⟨ts_mem 763 (by decide +kernel) rfl, ts_mem 764 (by decide +kernel) rfl, ts_mem 765 (by decide +kernel) rfl, ts_mem 65 (by decide +kernel) rfl, ts_mem 766 (by decide +kernel) rfl, by decide +kernel⟩
theorem M_L_172 : rb_SWc RL 172 yL_file cL_file 5 (some .int) [(0, 10, 13, 13), (0, 10, 17, 25)] 4 := ⟨ts_mem 767 (by decide +kernel) rfl, ts_mem 768 (by decide +kernel) rfl, ts_mem 42 (by decide +kernel) rfl, ts_mem 769 (by decide +kernel) rfl, by decide +kernel⟩
theorem M_L_80 : rb_Vc RL 80 RX7 yX7_file cX7_file 4 (some .int) 2 := ⟨ts_mem 770 (by decide +kernel) rfl, ts_mem 771 (by decide +kernel) rfl, ts_mem 772 (by decide +kernel) rfl, ts_mem 43 (by decide +kernel) rfl, ts_mem 773 (by decide +kernel) rfl, by decide +kernel⟩
theorem M_X7_232 : rb_Vc RX7 232 RX0 yX0_hasUnfiled cX0_hasUnfiled 1 (some .boolean) 0 := ⟨ts_mem 774 (by decide +kernel) rfl, ts_mem 775 (by decide +kernel) rfl, ts_mem 776 (by decide +kernel) rfl, ts_mem 50 (by decide +kernel) rfl, ts_mem 777 (by decide +kernel) rfl, by decide +kernel⟩
theorem M_X0_35 : rb_Vc RX0 35 RX0 yX0_minutesThatAre cX0_minutesThatAre 5 (some .int) 1 := ⟨ts_mem 778 (by decide +kernel) rfl, ts_mem 779 (by decide +kernel) rfl, ts_mem 780 (by decide +kernel) rfl, ts_mem 50 (by decide +kernel) rfl, ts_mem 781 (by decide +kernel) rfl, by decide +kernel⟩
theorem M_X0_18 : rb_Vc RX0 18 RJx4a65c yJx4a65c_size_8abf5 cJx4a65c_size_8abf5 1 (some .int) 0 := ⟨ts_mem 782 (by decide +kernel) rfl, ts_mem 298 (by decide +kernel) rfl, ts_mem 299 (by decide +kernel) rfl, ts_mem 46 (by decide +kernel) rfl, ts_mem 300 (by decide +kernel) rfl, by decide +kernel⟩
theorem M_X0_22 : rb_Vc RX0 22 RJx4a65c yJx4a65c_get_915e3 cJx4a65c_get_915e3 2 (some (.object "java/lang/Object")) 1 := ⟨ts_mem 783 (by decide +kernel) rfl, ts_mem 302 (by decide +kernel) rfl, ts_mem 303 (by decide +kernel) rfl, ts_mem 46 (by decide +kernel) rfl, ts_mem 304 (by decide +kernel) rfl, by decide +kernel⟩
theorem M_X7_240 : rb_Vc RX7 240 RX0 yX0_fileTheRest cX0_fileTheRest 4 (some .int) 0 := ⟨ts_mem 786 (by decide +kernel) rfl, ts_mem 787 (by decide +kernel) rfl, ts_mem 788 (by decide +kernel) rfl, ts_mem 50 (by decide +kernel) rfl, ts_mem 789 (by decide +kernel) rfl, by decide +kernel⟩
theorem M_L_175 : rb_SWc RL 175 yL_deliver cL_deliver 6 (some .int) [(0, 12, 15, 13)] 5 := ⟨ts_mem 790 (by decide +kernel) rfl, ts_mem 791 (by decide +kernel) rfl, ts_mem 42 (by decide +kernel) rfl, ts_mem 792 (by decide +kernel) rfl, by decide +kernel⟩
theorem M_L_83 : rb_Vc RL 83 RX7 yX7_deliver cX7_deliver 5 (some .int) 3 := ⟨ts_mem 793 (by decide +kernel) rfl, ts_mem 794 (by decide +kernel) rfl, ts_mem 795 (by decide +kernel) rfl, ts_mem 43 (by decide +kernel) rfl, ts_mem 796 (by decide +kernel) rfl, by decide +kernel⟩
theorem M_X7_251 : rb_Vc RX7 251 RX0 yX0_takeNextFile cX0_takeNextFile 5 (some .int) 1 := ⟨ts_mem 798 (by decide +kernel) rfl, ts_mem 799 (by decide +kernel) rfl, ts_mem 800 (by decide +kernel) rfl, ts_mem 50 (by decide +kernel) rfl, ts_mem 801 (by decide +kernel) rfl, by decide +kernel⟩
theorem M_L_178 : rb_SWc RL 178 yL_owes cL_owes 5 (some .int) [(0, 10, 13, 13)] 4 := ⟨ts_mem 803 (by decide +kernel) rfl, ts_mem 804 (by decide +kernel) rfl, ts_mem 42 (by decide +kernel) rfl, ts_mem 805 (by decide +kernel) rfl, by decide +kernel⟩
theorem M_L_86 : rb_Vc RL 86 RX7 yX7_owes cX7_owes 3 (some .int) 2 := ⟨ts_mem 806 (by decide +kernel) rfl, ts_mem 807 (by decide +kernel) rfl, ts_mem 808 (by decide +kernel) rfl, ts_mem 43 (by decide +kernel) rfl, ts_mem 809 (by decide +kernel) rfl, by decide +kernel⟩
theorem M_X7_254 : rb_Vc RX7 254 RX0 yX0_owed cX0_owed 4 (some .int) 0 := ⟨ts_mem 810 (by decide +kernel) rfl, ts_mem 811 (by decide +kernel) rfl, ts_mem 812 (by decide +kernel) rfl, ts_mem 50 (by decide +kernel) rfl, ts_mem 813 (by decide +kernel) rfl, by decide +kernel⟩
theorem M_X0_52 : rb_Vc RX0 52 RX4 yX4_owed cX4_owed 2 (some .int) 1 := ⟨ts_mem 814 (by decide +kernel) rfl, ts_mem 815 (by decide +kernel) rfl, ts_mem 816 (by decide +kernel) rfl, ts_mem 66 (by decide +kernel) rfl, ts_mem 817 (by decide +kernel) rfl, by decide +kernel⟩
theorem M_X4_28 : rb_Vc RX4 28 RX1 yX1_priceAt cX1_priceAt 2 (some .int) 1 := ⟨ts_mem 818 (by decide +kernel) rfl, ts_mem 819 (by decide +kernel) rfl, ts_mem 820 (by decide +kernel) rfl, ts_mem 60 (by decide +kernel) rfl, ts_mem 821 (by decide +kernel) rfl, by decide +kernel⟩
theorem M_L_181 : rb_SWc RL 181 yL_owesAnew cL_owesAnew 5 (some .int) [(0, 10, 13, 13)] 4 := ⟨ts_mem 822 (by decide +kernel) rfl, ts_mem 823 (by decide +kernel) rfl, ts_mem 42 (by decide +kernel) rfl, ts_mem 824 (by decide +kernel) rfl, by decide +kernel⟩
theorem M_L_89 : rb_Vc RL 89 RX7 yX7_owesAnew cX7_owesAnew 3 (some .int) 2 := ⟨ts_mem 825 (by decide +kernel) rfl, ts_mem 826 (by decide +kernel) rfl, ts_mem 827 (by decide +kernel) rfl, ts_mem 43 (by decide +kernel) rfl, ts_mem 828 (by decide +kernel) rfl, by decide +kernel⟩
theorem M_X7_257 : rb_Vc RX7 257 RX0 yX0_owedFileByFile cX0_owedFileByFile 4 (some .int) 0 := ⟨ts_mem 829 (by decide +kernel) rfl, ts_mem 830 (by decide +kernel) rfl, ts_mem 831 (by decide +kernel) rfl, ts_mem 50 (by decide +kernel) rfl, ts_mem 832 (by decide +kernel) rfl, by decide +kernel⟩
theorem M_X0_55 : rb_Vc RX0 55 RX0 yX0_minutesTakenIn cX0_minutesTakenIn 5 (some .int) 1 := ⟨ts_mem 833 (by decide +kernel) rfl, ts_mem 835 (by decide +kernel) rfl, ts_mem 21 (by decide +kernel) rfl, ts_mem 50 (by decide +kernel) rfl, ts_mem 836 (by decide +kernel) rfl, by decide +kernel⟩
theorem M_X0_58 : rb_Vc RX0 58 RX0 yX0_owedIn cX0_owedIn 6 (some .int) 2 := ⟨ts_mem 837 (by decide +kernel) rfl, ts_mem 839 (by decide +kernel) rfl, ts_mem 22 (by decide +kernel) rfl, ts_mem 50 (by decide +kernel) rfl, ts_mem 840 (by decide +kernel) rfl, by decide +kernel⟩
theorem M_L_184 : rb_SWc RL 184 yL_recorded cL_recorded 6 (some .int) [(0, 12, 15, 13), (0, 12, 19, 15)] 5 := ⟨ts_mem 841 (by decide +kernel) rfl, ts_mem 842 (by decide +kernel) rfl, ts_mem 42 (by decide +kernel) rfl, ts_mem 843 (by decide +kernel) rfl, by decide +kernel⟩
theorem M_L_92 : rb_Vc RL 92 RX7 yX7_recorded cX7_recorded 5 (some .int) 3 := ⟨ts_mem 844 (by decide +kernel) rfl, ts_mem 845 (by decide +kernel) rfl, ts_mem 846 (by decide +kernel) rfl, ts_mem 43 (by decide +kernel) rfl, ts_mem 847 (by decide +kernel) rfl, by decide +kernel⟩
theorem M_X7_260 : rb_Vc RX7 260 RX0 yX0_minutesThatAre cX0_minutesThatAre 5 (some .int) 1 := ⟨ts_mem 848 (by decide +kernel) rfl, ts_mem 779 (by decide +kernel) rfl, ts_mem 780 (by decide +kernel) rfl, ts_mem 50 (by decide +kernel) rfl, ts_mem 781 (by decide +kernel) rfl, by decide +kernel⟩
theorem M_L_187 : rb_SWc RL 187 yL_pass cL_pass 4 (some .int) [(0, 9, 12, 15), (0, 9, 15, 25)] 3 := ⟨ts_mem 849 (by decide +kernel) rfl, ts_mem 850 (by decide +kernel) rfl, ts_mem 42 (by decide +kernel) rfl, ts_mem 851 (by decide +kernel) rfl, by decide +kernel⟩
theorem M_L_95 : rb_Vc RL 95 RX7 yX7_pass cX7_pass 3 (some .int) 1 := ⟨ts_mem 852 (by decide +kernel) rfl, ts_mem 853 (by decide +kernel) rfl, ts_mem 854 (by decide +kernel) rfl, ts_mem 43 (by decide +kernel) rfl, ts_mem 855 (by decide +kernel) rfl, by decide +kernel⟩
theorem M_X7_266 : rb_Vc RX7 266 RX7 yX7_beginHours cX7_beginHours 5 none 2 := ⟨ts_mem 858 (by decide +kernel) rfl, ts_mem 860 (by decide +kernel) rfl, ts_mem 23 (by decide +kernel) rfl, ts_mem 43 (by decide +kernel) rfl, ts_mem 861 (by decide +kernel) rfl, by decide +kernel⟩
theorem M_X7_305 : rb_Sc RX7 305 yJ9_min_7cf53 cJ9_min_7cf53 2 (some .int) 2 := ⟨ts_mem 862 (by decide +kernel) rfl, ts_mem 461 (by decide +kernel) rfl, ts_mem 62 (by decide +kernel) rfl, ts_mem 462 (by decide +kernel) rfl, by decide +kernel⟩
theorem M_X7_311 : rb_Vc RX7 311 RX7 yX7_beginHour cX7_beginHour 4 none 1 := ⟨ts_mem 863 (by decide +kernel) rfl, ts_mem 865 (by decide +kernel) rfl, ts_mem 24 (by decide +kernel) rfl, ts_mem 43 (by decide +kernel) rfl, ts_mem 866 (by decide +kernel) rfl, by decide +kernel⟩
theorem M_X7_314 : rb_Vc RX7 314 RX2 yX2_takeOutUpTo cX2_takeOutUpTo 3 none 1 := ⟨ts_mem 867 (by decide +kernel) rfl, ts_mem 868 (by decide +kernel) rfl, ts_mem 869 (by decide +kernel) rfl, ts_mem 48 (by decide +kernel) rfl, ts_mem 870 (by decide +kernel) rfl, by decide +kernel⟩
theorem M_X7_270 : rb_Vc RX7 270 RX7 yX7_beginMonth cX7_beginMonth 2 none 0 := ⟨ts_mem 872 (by decide +kernel) rfl, ts_mem 874 (by decide +kernel) rfl, ts_mem 25 (by decide +kernel) rfl, ts_mem 43 (by decide +kernel) rfl, ts_mem 875 (by decide +kernel) rfl, by decide +kernel⟩
theorem M_L_101 : rb_Ic RL 101 yX8_init cX8_init 2 0 := ⟨ts_mem 878 (by decide +kernel) rfl, ts_mem 879 (by decide +kernel) rfl, ts_mem 51 (by decide +kernel) rfl, ts_mem 880 (by decide +kernel) rfl, rfl, by decide +kernel⟩
theorem M_X8_1 : Cond.methodLink RX8 1 objectInit ∈ TS := ts_mem 881 (by decide +kernel) rfl
theorem M_L_108 : rb_Vc RL 108 RX8 yX8_thrown cX8_thrown 1 (some .int) 0 := ⟨ts_mem 1001 (by decide +kernel) rfl, ts_mem 1002 (by decide +kernel) rfl, ts_mem 1003 (by decide +kernel) rfl, ts_mem 51 (by decide +kernel) rfl, ts_mem 1004 (by decide +kernel) rfl, by decide +kernel⟩
theorem M_L_107 : rb_Vc RL 107 RX8 yX8_reach cX8_reach 5 (some .int) 2 := ⟨ts_mem 1005 (by decide +kernel) rfl, ts_mem 1006 (by decide +kernel) rfl, ts_mem 1007 (by decide +kernel) rfl, ts_mem 51 (by decide +kernel) rfl, ts_mem 1008 (by decide +kernel) rfl, by decide +kernel⟩
theorem M_X8_121 : rb_Sc RX8 121 yX8_isPlace cX8_isPlace 1 (some .boolean) 1 := ⟨ts_mem 1009 (by decide +kernel) rfl, ts_mem 1010 (by decide +kernel) rfl, ts_mem 51 (by decide +kernel) rfl, ts_mem 1011 (by decide +kernel) rfl, by decide +kernel⟩
theorem M_X8_114 : rb_Sc RX8 114 yX8_in cX8_in 3 (some .boolean) 3 := ⟨ts_mem 1012 (by decide +kernel) rfl, ts_mem 1013 (by decide +kernel) rfl, ts_mem 51 (by decide +kernel) rfl, ts_mem 1014 (by decide +kernel) rfl, by decide +kernel⟩
theorem M_X8_125 : rb_Sc RX8 125 yX8_isIn cX8_isIn 2 (some .boolean) 2 := ⟨ts_mem 1015 (by decide +kernel) rfl, ts_mem 1016 (by decide +kernel) rfl, ts_mem 51 (by decide +kernel) rfl, ts_mem 1017 (by decide +kernel) rfl, by decide +kernel⟩
theorem M_L_115 : rb_Vc RL 115 RX8 yX8_dead cX8_dead 5 (some .boolean) 2 := ⟨ts_mem 1018 (by decide +kernel) rfl, ts_mem 1019 (by decide +kernel) rfl, ts_mem 1020 (by decide +kernel) rfl, ts_mem 51 (by decide +kernel) rfl, ts_mem 1021 (by decide +kernel) rfl, by decide +kernel⟩
theorem M_X8_129 : rb_Sc RX8 129 yX8_isNetwork cX8_isNetwork 1 (some .boolean) 1 := ⟨ts_mem 1022 (by decide +kernel) rfl, ts_mem 1023 (by decide +kernel) rfl, ts_mem 51 (by decide +kernel) rfl, ts_mem 1024 (by decide +kernel) rfl, by decide +kernel⟩
theorem M_X8_132 : rb_Vc RX8 132 RX8 yX8_empties cX8_empties 3 none 1 := ⟨ts_mem 1025 (by decide +kernel) rfl, ts_mem 1027 (by decide +kernel) rfl, ts_mem 26 (by decide +kernel) rfl, ts_mem 51 (by decide +kernel) rfl, ts_mem 1028 (by decide +kernel) rfl, by decide +kernel⟩
theorem M_L_119 : rb_Vc RL 119 RX8 yX8_agree cX8_agree 10 (some .int) 7 := ⟨ts_mem 1029 (by decide +kernel) rfl, ts_mem 1030 (by decide +kernel) rfl, ts_mem 1031 (by decide +kernel) rfl, ts_mem 51 (by decide +kernel) rfl, ts_mem 1032 (by decide +kernel) rfl, by decide +kernel⟩
theorem M_L_122 : rb_Vc RL 122 RX8 yX8_steer cX8_steer 4 (some .int) 2 := ⟨ts_mem 1035 (by decide +kernel) rfl, ts_mem 1036 (by decide +kernel) rfl, ts_mem 1037 (by decide +kernel) rfl, ts_mem 51 (by decide +kernel) rfl, ts_mem 1038 (by decide +kernel) rfl, by decide +kernel⟩
theorem M_L_126 : rb_Vc RL 126 RX8 yX8_prices cX8_prices 5 none 4 := ⟨ts_mem 1039 (by decide +kernel) rfl, ts_mem 1040 (by decide +kernel) rfl, ts_mem 1041 (by decide +kernel) rfl, ts_mem 51 (by decide +kernel) rfl, ts_mem 1042 (by decide +kernel) rfl, by decide +kernel⟩
theorem M_L_129 : rb_Vc RL 129 RX8 yX8_lose cX8_lose 4 (some .int) 2 := ⟨ts_mem 1043 (by decide +kernel) rfl, ts_mem 1044 (by decide +kernel) rfl, ts_mem 1045 (by decide +kernel) rfl, ts_mem 51 (by decide +kernel) rfl, ts_mem 1046 (by decide +kernel) rfl, by decide +kernel⟩
theorem M_L_133 : rb_Vc RL 133 RX8 yX8_crash cX8_crash 4 (some .int) 1 := ⟨ts_mem 1047 (by decide +kernel) rfl, ts_mem 1048 (by decide +kernel) rfl, ts_mem 1049 (by decide +kernel) rfl, ts_mem 51 (by decide +kernel) rfl, ts_mem 1050 (by decide +kernel) rfl, by decide +kernel⟩
theorem M_L_137 : rb_Vc RL 137 RX8 yX8_subscriber cX8_subscriber 4 (some .int) 3 := ⟨ts_mem 1051 (by decide +kernel) rfl, ts_mem 1052 (by decide +kernel) rfl, ts_mem 1053 (by decide +kernel) rfl, ts_mem 51 (by decide +kernel) rfl, ts_mem 1054 (by decide +kernel) rfl, by decide +kernel⟩
theorem M_L_140 : rb_Vc RL 140 RX8 yX8_move cX8_move 3 (some .int) 2 := ⟨ts_mem 1055 (by decide +kernel) rfl, ts_mem 1056 (by decide +kernel) rfl, ts_mem 1057 (by decide +kernel) rfl, ts_mem 51 (by decide +kernel) rfl, ts_mem 1058 (by decide +kernel) rfl, by decide +kernel⟩
theorem M_X8_144 : rb_Vc RX8 144 RX8 yX8_isSubscriber cX8_isSubscriber 2 (some .boolean) 1 := ⟨ts_mem 1059 (by decide +kernel) rfl, ts_mem 1061 (by decide +kernel) rfl, ts_mem 27 (by decide +kernel) rfl, ts_mem 51 (by decide +kernel) rfl, ts_mem 1062 (by decide +kernel) rfl, by decide +kernel⟩
theorem M_L_143 : rb_Vc RL 143 RX8 yX8_off cX8_off 3 (some .int) 1 := ⟨ts_mem 1063 (by decide +kernel) rfl, ts_mem 1064 (by decide +kernel) rfl, ts_mem 1065 (by decide +kernel) rfl, ts_mem 51 (by decide +kernel) rfl, ts_mem 1066 (by decide +kernel) rfl, by decide +kernel⟩
theorem M_L_146 : rb_Vc RL 146 RX8 yX8_attach cX8_attach 4 (some .int) 2 := ⟨ts_mem 1067 (by decide +kernel) rfl, ts_mem 1068 (by decide +kernel) rfl, ts_mem 1069 (by decide +kernel) rfl, ts_mem 51 (by decide +kernel) rfl, ts_mem 1070 (by decide +kernel) rfl, by decide +kernel⟩
theorem M_X8_151 : rb_Vc RX8 151 RX8 yX8_reason cX8_reason 3 (some .int) 2 := ⟨ts_mem 1071 (by decide +kernel) rfl, ts_mem 1073 (by decide +kernel) rfl, ts_mem 28 (by decide +kernel) rfl, ts_mem 51 (by decide +kernel) rfl, ts_mem 1074 (by decide +kernel) rfl, by decide +kernel⟩
theorem M_X8_147 : rb_Vc RX8 147 RX8 yX8_agreement cX8_agreement 6 (some .int) 2 := ⟨ts_mem 1075 (by decide +kernel) rfl, ts_mem 1077 (by decide +kernel) rfl, ts_mem 29 (by decide +kernel) rfl, ts_mem 51 (by decide +kernel) rfl, ts_mem 1078 (by decide +kernel) rfl, by decide +kernel⟩
theorem M_X8_154 : rb_Vc RX8 154 RX8 yX8_isSteered cX8_isSteered 4 (some .boolean) 2 := ⟨ts_mem 1079 (by decide +kernel) rfl, ts_mem 1081 (by decide +kernel) rfl, ts_mem 30 (by decide +kernel) rfl, ts_mem 51 (by decide +kernel) rfl, ts_mem 1082 (by decide +kernel) rfl, by decide +kernel⟩
theorem M_X8_157 : rb_Vc RX8 157 RX8 yX8_makesContact cX8_makesContact 3 none 1 := ⟨ts_mem 1083 (by decide +kernel) rfl, ts_mem 1085 (by decide +kernel) rfl, ts_mem 31 (by decide +kernel) rfl, ts_mem 51 (by decide +kernel) rfl, ts_mem 1086 (by decide +kernel) rfl, by decide +kernel⟩
theorem M_L_149 : rb_Vc RL 149 RX8 yX8_emergency cX8_emergency 4 (some .int) 1 := ⟨ts_mem 1087 (by decide +kernel) rfl, ts_mem 1088 (by decide +kernel) rfl, ts_mem 1089 (by decide +kernel) rfl, ts_mem 51 (by decide +kernel) rfl, ts_mem 1090 (by decide +kernel) rfl, by decide +kernel⟩
theorem M_L_152 : rb_Vc RL 152 RX8 yX8_where cX8_where 2 (some .int) 1 := ⟨ts_mem 1091 (by decide +kernel) rfl, ts_mem 1092 (by decide +kernel) rfl, ts_mem 1093 (by decide +kernel) rfl, ts_mem 51 (by decide +kernel) rfl, ts_mem 1094 (by decide +kernel) rfl, by decide +kernel⟩
theorem M_L_155 : rb_Vc RL 155 RX8 yX8_contact cX8_contact 3 (some .int) 2 := ⟨ts_mem 1095 (by decide +kernel) rfl, ts_mem 1096 (by decide +kernel) rfl, ts_mem 1097 (by decide +kernel) rfl, ts_mem 51 (by decide +kernel) rfl, ts_mem 1098 (by decide +kernel) rfl, by decide +kernel⟩
theorem M_L_158 : rb_Vc RL 158 RX8 yX8_agrees cX8_agrees 5 (some .boolean) 1 := ⟨ts_mem 1099 (by decide +kernel) rfl, ts_mem 1100 (by decide +kernel) rfl, ts_mem 1101 (by decide +kernel) rfl, ts_mem 51 (by decide +kernel) rfl, ts_mem 1102 (by decide +kernel) rfl, by decide +kernel⟩
theorem M_L_161 : rb_Vc RL 161 RX8 yX8_subscriberIs cX8_subscriberIs 3 (some .int) 2 := ⟨ts_mem 1103 (by decide +kernel) rfl, ts_mem 1104 (by decide +kernel) rfl, ts_mem 1105 (by decide +kernel) rfl, ts_mem 51 (by decide +kernel) rfl, ts_mem 1106 (by decide +kernel) rfl, by decide +kernel⟩
theorem M_X8_161 : rb_Vc RX8 161 RX8 yX8_abroadOf cX8_abroadOf 2 (some .int) 1 := ⟨ts_mem 1107 (by decide +kernel) rfl, ts_mem 1109 (by decide +kernel) rfl, ts_mem 32 (by decide +kernel) rfl, ts_mem 51 (by decide +kernel) rfl, ts_mem 1110 (by decide +kernel) rfl, by decide +kernel⟩
theorem M_L_165 : rb_Vc RL 165 RX8 yX8_cap cX8_cap 4 none 3 := ⟨ts_mem 1112 (by decide +kernel) rfl, ts_mem 1113 (by decide +kernel) rfl, ts_mem 1114 (by decide +kernel) rfl, ts_mem 51 (by decide +kernel) rfl, ts_mem 1115 (by decide +kernel) rfl, by decide +kernel⟩
theorem M_L_168 : rb_Vc RL 168 RX8 yX8_call cX8_call 9 (some .int) 3 := ⟨ts_mem 1117 (by decide +kernel) rfl, ts_mem 1118 (by decide +kernel) rfl, ts_mem 1119 (by decide +kernel) rfl, ts_mem 51 (by decide +kernel) rfl, ts_mem 1120 (by decide +kernel) rfl, by decide +kernel⟩
theorem M_X8_176 : rb_Vc RX8 176 RX8 yX8_nobody cX8_nobody 3 (some .int) 2 := ⟨ts_mem 1122 (by decide +kernel) rfl, ts_mem 1124 (by decide +kernel) rfl, ts_mem 33 (by decide +kernel) rfl, ts_mem 51 (by decide +kernel) rfl, ts_mem 1125 (by decide +kernel) rfl, by decide +kernel⟩
theorem M_X8_166 : rb_Vc RX8 166 RX8 yX8_isAbroad cX8_isAbroad 2 (some .boolean) 1 := ⟨ts_mem 1126 (by decide +kernel) rfl, ts_mem 1128 (by decide +kernel) rfl, ts_mem 34 (by decide +kernel) rfl, ts_mem 51 (by decide +kernel) rfl, ts_mem 1129 (by decide +kernel) rfl, by decide +kernel⟩
theorem M_X8_179 : rb_Vc RX8 179 RX8 yX8_isAbove cX8_isAbove 3 (some .boolean) 2 := ⟨ts_mem 1130 (by decide +kernel) rfl, ts_mem 1132 (by decide +kernel) rfl, ts_mem 35 (by decide +kernel) rfl, ts_mem 51 (by decide +kernel) rfl, ts_mem 1133 (by decide +kernel) rfl, by decide +kernel⟩
theorem M_X8_182 : rb_Vc RX8 182 RX8 yX8_pays cX8_pays 3 none 2 := ⟨ts_mem 1134 (by decide +kernel) rfl, ts_mem 1136 (by decide +kernel) rfl, ts_mem 36 (by decide +kernel) rfl, ts_mem 51 (by decide +kernel) rfl, ts_mem 1137 (by decide +kernel) rfl, by decide +kernel⟩
theorem M_X8_186 : rb_Vc RX8 186 RX8 yX8_records cX8_records 3 none 2 := ⟨ts_mem 1138 (by decide +kernel) rfl, ts_mem 1140 (by decide +kernel) rfl, ts_mem 37 (by decide +kernel) rfl, ts_mem 51 (by decide +kernel) rfl, ts_mem 1141 (by decide +kernel) rfl, by decide +kernel⟩
theorem M_L_171 : rb_Vc RL 171 RX8 yX8_paidAnew cX8_paidAnew 2 (some .int) 1 := ⟨ts_mem 1142 (by decide +kernel) rfl, ts_mem 1143 (by decide +kernel) rfl, ts_mem 1144 (by decide +kernel) rfl, ts_mem 51 (by decide +kernel) rfl, ts_mem 1145 (by decide +kernel) rfl, by decide +kernel⟩
theorem M_L_174 : rb_Vc RL 174 RX8 yX8_file cX8_file 5 (some .int) 2 := ⟨ts_mem 1146 (by decide +kernel) rfl, ts_mem 1147 (by decide +kernel) rfl, ts_mem 1148 (by decide +kernel) rfl, ts_mem 51 (by decide +kernel) rfl, ts_mem 1149 (by decide +kernel) rfl, by decide +kernel⟩
theorem M_X8_191 : rb_Vc RX8 191 RX8 yX8_minutesOf cX8_minutesOf 6 (some .int) 3 := ⟨ts_mem 1150 (by decide +kernel) rfl, ts_mem 1152 (by decide +kernel) rfl, ts_mem 38 (by decide +kernel) rfl, ts_mem 51 (by decide +kernel) rfl, ts_mem 1153 (by decide +kernel) rfl, by decide +kernel⟩
theorem M_X8_188 : rb_Vc RX8 188 RX8 yX8_isOf cX8_isOf 4 (some .boolean) 3 := ⟨ts_mem 1154 (by decide +kernel) rfl, ts_mem 1156 (by decide +kernel) rfl, ts_mem 39 (by decide +kernel) rfl, ts_mem 51 (by decide +kernel) rfl, ts_mem 1157 (by decide +kernel) rfl, by decide +kernel⟩
theorem M_L_177 : rb_Vc RL 177 RX8 yX8_deliver cX8_deliver 9 (some .int) 3 := ⟨ts_mem 1158 (by decide +kernel) rfl, ts_mem 1159 (by decide +kernel) rfl, ts_mem 1160 (by decide +kernel) rfl, ts_mem 51 (by decide +kernel) rfl, ts_mem 1161 (by decide +kernel) rfl, by decide +kernel⟩
theorem M_L_180 : rb_Vc RL 180 RX8 yX8_owes cX8_owes 6 (some .int) 2 := ⟨ts_mem 1162 (by decide +kernel) rfl, ts_mem 1163 (by decide +kernel) rfl, ts_mem 1164 (by decide +kernel) rfl, ts_mem 51 (by decide +kernel) rfl, ts_mem 1165 (by decide +kernel) rfl, by decide +kernel⟩
theorem M_X8_195 : rb_Vc RX8 195 RX8 yX8_priceOf cX8_priceOf 3 (some .int) 2 := ⟨ts_mem 1166 (by decide +kernel) rfl, ts_mem 1168 (by decide +kernel) rfl, ts_mem 40 (by decide +kernel) rfl, ts_mem 51 (by decide +kernel) rfl, ts_mem 1169 (by decide +kernel) rfl, by decide +kernel⟩
theorem M_L_183 : rb_Vc RL 183 RX8 yX8_owesAnew cX8_owesAnew 3 (some .int) 2 := ⟨ts_mem 1170 (by decide +kernel) rfl, ts_mem 1171 (by decide +kernel) rfl, ts_mem 1172 (by decide +kernel) rfl, ts_mem 51 (by decide +kernel) rfl, ts_mem 1173 (by decide +kernel) rfl, by decide +kernel⟩
theorem M_X8_198 : rb_Vc RX8 198 RX8 yX8_owes cX8_owes 6 (some .int) 2 := ⟨ts_mem 1174 (by decide +kernel) rfl, ts_mem 1163 (by decide +kernel) rfl, ts_mem 1164 (by decide +kernel) rfl, ts_mem 51 (by decide +kernel) rfl, ts_mem 1165 (by decide +kernel) rfl, by decide +kernel⟩
theorem M_L_186 : rb_Vc RL 186 RX8 yX8_recorded cX8_recorded 4 (some .int) 3 := ⟨ts_mem 1175 (by decide +kernel) rfl, ts_mem 1176 (by decide +kernel) rfl, ts_mem 1177 (by decide +kernel) rfl, ts_mem 51 (by decide +kernel) rfl, ts_mem 1178 (by decide +kernel) rfl, by decide +kernel⟩
theorem M_L_189 : rb_Vc RL 189 RX8 yX8_pass cX8_pass 3 (some .int) 1 := ⟨ts_mem 1179 (by decide +kernel) rfl, ts_mem 1180 (by decide +kernel) rfl, ts_mem 1181 (by decide +kernel) rfl, ts_mem 51 (by decide +kernel) rfl, ts_mem 1182 (by decide +kernel) rfl, by decide +kernel⟩
theorem M_X8_202 : rb_Vc RX8 202 RX8 yX8_begins cX8_begins 2 none 0 := ⟨ts_mem 1184 (by decide +kernel) rfl, ts_mem 1186 (by decide +kernel) rfl, ts_mem 41 (by decide +kernel) rfl, ts_mem 51 (by decide +kernel) rfl, ts_mem 1187 (by decide +kernel) rfl, by decide +kernel⟩
theorem ts_oi : Cond.instanceMethod objectInit ∈ TS := ts_mem 73 (by decide +kernel) rfl
theorem ts_oc : Cond.code objectInit ⟨#[0xb1]⟩ 1 none ∈ TS := ts_mem 74 (by decide +kernel) rfl
theorem NI_X5 : Cond.instanceMethod yX5_init ∈ TS ∧ Cond.initialized yX5_init.cls ∈ TS ∧ Cond.code yX5_init cX5_init 1 none ∈ TS := ⟨ts_mem 108 (by decide +kernel) rfl, ts_mem 47 (by decide +kernel) rfl, ts_mem 109 (by decide +kernel) rfl⟩
theorem NI_X0 : Cond.instanceMethod yX0_init ∈ TS ∧ Cond.initialized yX0_init.cls ∈ TS ∧ Cond.code yX0_init cX0_init 1 none ∈ TS := ⟨ts_mem 153 (by decide +kernel) rfl, ts_mem 50 (by decide +kernel) rfl, ts_mem 154 (by decide +kernel) rfl⟩
theorem N_X7_94 : Cond.constant RX7 94 (999999) ∈ TS := ts_mem 359 (by decide +kernel) rfl
theorem N_X7_95 : Cond.constant RX7 95 (1000000) ∈ TS := ts_mem 360 (by decide +kernel) rfl
theorem N_J8_200 : Cond.constant RJ8 200 (2147483639) ∈ TS := ts_mem 430 (by decide +kernel) rfl
theorem N_X6_44 : Cond.constantLong RX6 44 (100) ∈ TS := ts_mem 663 (by decide +kernel) rfl
theorem N_X6_46 : Cond.constantLong RX6 46 (80) ∈ TS := ts_mem 664 (by decide +kernel) rfl
theorem N_X7_199 : Cond.constant RX7 199 (99999) ∈ TS := ts_mem 673 (by decide +kernel) rfl
theorem N_X7_203 : Cond.constant RX7 203 (36000) ∈ TS := ts_mem 681 (by decide +kernel) rfl
theorem N_X0_51 : Cond.constant RX0 51 (43200) ∈ TS := ts_mem 802 (by decide +kernel) rfl
theorem N_X7_263 : Cond.constant RX7 263 (50000) ∈ TS := ts_mem 856 (by decide +kernel) rfl
theorem N_X7_269 : Cond.constant RX7 269 (43200) ∈ TS := ts_mem 871 (by decide +kernel) rfl
theorem N_X8_136 : Cond.constant RX8 136 (999999) ∈ TS := ts_mem 1033 (by decide +kernel) rfl
theorem N_X8_137 : Cond.constant RX8 137 (1000000) ∈ TS := ts_mem 1034 (by decide +kernel) rfl
theorem N_X8_160 : Cond.constant RX8 160 (43200) ∈ TS := ts_mem 1111 (by decide +kernel) rfl
theorem N_X8_165 : Cond.constant RX8 165 (99999) ∈ TS := ts_mem 1116 (by decide +kernel) rfl
theorem N_X8_172 : Cond.constant RX8 172 (36000) ∈ TS := ts_mem 1121 (by decide +kernel) rfl
theorem N_X8_201 : Cond.constant RX8 201 (50000) ∈ TS := ts_mem 1183 (by decide +kernel) rfl
theorem ts_arr_int : Cond.arrayClass .int ∈ TS := ts_mem 105 (by decide +kernel) rfl
theorem ts_arr_boolean : Cond.arrayClass .boolean ∈ TS := ts_mem 1000 (by decide +kernel) rfl
theorem ts_arr_long : Cond.arrayClass .long ∈ TS := ts_mem 1188 (by decide +kernel) rfl
end
section
/-! rows that the JDK's methods want -/
theorem Thr_io : rb_Thr 243 247 "java/lang/IndexOutOfBoundsException" := ⟨L_X7_243, ts_mem 55 (by decide +kernel) rfl, by decide +kernel, fun w hw => List.mem_filter.mpr ⟨(show ∀ w ∈ (vx_atS RX7 247 "java/lang/IndexOutOfBoundsException" rb_sup).filter goodWord, w ∈ lw_tbl by decide +kernel) w hw, (List.mem_filter.mp hw).2⟩, by decide +kernel, by decide +kernel, by decide +kernel⟩
theorem Thr_ia : rb_Thr 194 198 "java/lang/IllegalArgumentException" := ⟨L_X7_194, ts_mem 56 (by decide +kernel) rfl, by decide +kernel, fun w hw => List.mem_filter.mpr ⟨(show ∀ w ∈ (vx_atS RX7 198 "java/lang/IllegalArgumentException" rb_sup).filter goodWord, w ∈ lw_tbl by decide +kernel) w hw, (List.mem_filter.mp hw).2⟩, by decide +kernel, by decide +kernel, by decide +kernel⟩
theorem Thr_is : rb_Thr 145 149 "java/lang/IllegalStateException" := ⟨L_X7_145, ts_mem 59 (by decide +kernel) rfl, by decide +kernel, fun w hw => List.mem_filter.mpr ⟨(show ∀ w ∈ (vx_atS RX7 149 "java/lang/IllegalStateException" rb_sup).filter goodWord, w ∈ lw_tbl by decide +kernel) w hw, (List.mem_filter.mp hw).2⟩, by decide +kernel, by decide +kernel, by decide +kernel⟩
/-- a whole row of references -/
def sQ (G : rb_G) (r : rb_R) (f : Nat → Option rb_R) : rb_G := (gD G, gN G, gI G, fun x k => if x = r then f k else gP G x k, gJ G)
section
variable {Φ : rb_F} {own : String} {cc : ByteArray} {nL fr lo mc ms cells slots pc : Nat} {Lv Lv' : List (Option rb_V)} {st rest As : List rb_V} {G : rb_G}
theorem rb_e_sQ {ad : rb_R → Nat} {cA : Nat → ClassId} {G : rb_G} {r : rb_R} {f : Nat → Option rb_R} {r' : rb_R} (h : r' ≠ r) : rb_e ad cA (sQ G r f) r' = rb_e ad cA G r' := by
  have e : gP (sQ G r f) r' = gP G r' := by funext j; show (if r' = r then f j else gP G r' j) = _; rw [if_neg h]
  unfold rb_e
  rw [e]
  rfl
theorem rb_acmp_ne (C : rb_C Φ own cc nL fr lo mc ms) {r r' : rb_R} {off : Int} (hd : decode cc pc = .ok (.if_acmp .ne off, 3)) {tgt : Nat} (ht : (pc : Int) + off = (tgt : Int)) (h : r = r') (kk : rb_W Φ cells slots (pc + 3) Lv st G) : rb_W Φ cells slots pc Lv (rbR r' :: rbR r :: st) G := by
  subst h
  obtain ⟨p, l, e, R, s, m, args, below, meth, c, Q, X, A, ad0, G0⟩ := Φ
  intro ad H locs ls hP hn hS hl ho hv
  exact lv_acmp_ne (rx := some (ad r)) (ry := some (ad r)) C.1 C.2.1 hd ht (fun q => absurd rfl q) (fun _ => kk ad H locs ls hP hn hS hl ho.tl.tl hv)
theorem rb_acmp_eqY (C : rb_C Φ own cc nL fr lo mc ms) {r r' : rb_R} {off : Int} (tgt : Nat) (hd : decode cc pc = .ok (.if_acmp .eq off, 3)) (ht : (pc : Int) + off = (tgt : Int)) (h : r = r') (kk : rb_W Φ cells slots tgt Lv st G) : rb_W Φ cells slots pc Lv (rbR r' :: rbR r :: st) G := by
  subst h
  obtain ⟨p, l, e, R, s, m, args, below, meth, c, Q, X, A, ad0, G0⟩ := Φ
  intro ad H locs ls hP hn hS hl ho hv
  exact lv_acmp_eq (rx := some (ad r)) (ry := some (ad r)) C.1 C.2.1 hd ht (fun _ => kk ad H locs ls hP hn hS hl ho.tl.tl hv) (fun q => absurd rfl q)
theorem rb_ldcM (C : rb_C Φ own cc nL fr lo mc ms) {idx : Nat} (hw : Cond.classLink own idx "[Ljava/lang/Object;" ∈ TS) (hd : decode cc pc = .ok (.ldc idx, 2)) (hD : gD G (21, 0, 0)) (kk : rb_W Φ cells slots (pc + 2) Lv (rbR (21, 0, 0) :: st) G) : rb_W Φ cells slots pc Lv st G := by
  obtain ⟨p, l, e, R, s, m, args, below, meth, c, Q, X, A, ad0, G0⟩ := Φ
  intro ad H locs ls hP hn hS hl ho hv
  have h := kk ad H locs ls hP hn hS hl (ho.cons (rb_ok_r hD)) hv
  have e1 : (rbR (21, 0, 0) :: st).map (rb_c ad) = Value.ref X.2.2.2.2 :: st.map (rb_c ad) := by
    show Value.ref (ad (21, 0, 0)) :: _ = _
    rw [hP.2.2.2.2.2]
  rw [e1] at h
  exact va_ldcM C.1 C.2.1 C.2.2.2.1 (C.2.2.2.2.1 _ hw) C.2.2.2.2.2.2.2.2.1.2.2.2.2.2.2.2.1 hd h
theorem rb_getC (C : rb_C Φ own cc nL fr lo mc ms) {r : rb_R} {idx : Nat} (hw : Cond.methodLink own idx ⟨"java/lang/Object", "getClass", "()Ljava/lang/Class;"⟩ ∈ TS) (hw2 : Cond.selects "[Ljava/lang/Object;" ⟨"java/lang/Object", "getClass", "()Ljava/lang/Class;"⟩ ⟨"java/lang/Object", "getClass", "()Ljava/lang/Class;"⟩ ∈ TS)
    (hw3 : Cond.instanceMethod ⟨"java/lang/Object", "getClass", "()Ljava/lang/Class;"⟩ ∈ TS) (hw4 : Cond.native ⟨"java/lang/Object", "getClass", "()Ljava/lang/Class;"⟩ ∈ TS) (hd : decode cc pc = .ok (.invokevirtual idx, 3)) (hk : rb_k r.1 = 13) (hD : gD G (21, 0, 0)) (hlen : Lv.length = nL) (hfr : 1 ≤ fr) (hcat : (st.map rb_cat).sum + 14 ≤ lo) (kk : rb_W Φ cells slots (pc + 3) Lv (rbR (21, 0, 0) :: st) G) : rb_W Φ cells slots pc Lv (rbR r :: st) G := by
  obtain ⟨p, l, e, R, s, m, args, below, meth, c, Q, X, A, ad0, G0⟩ := Φ
  intro ad H locs ls hP hn hS hl ho hv
  have hR := C.2.2.2.2.2.2.1
  subst hR
  have hK1 := C.2.2.2.2.2.2.2.2.1
  have h := kk ad H locs ls hP hn hS hl (ho.tl.cons (rb_ok_r hD)) hv
  have e1 : (rbR (21, 0, 0) :: st).map (rb_c ad) = Value.ref X.2.2.2.2 :: st.map (rb_c ad) := by
    show Value.ref (ad (21, 0, 0)) :: _ = _
    rw [hP.2.2.2.2.2]
  rw [e1] at h
  obtain ⟨-, hat⟩ := hP.1 r (ho.hd r rfl) (by rw [hk]; decide)
  rw [rb_eP hk (by decide)] at hat
  refine va_getC C.1 C.2.1 (by rw [C.2.2.1, hl.1, hlen]) C.2.2.2.1 (C.2.2.2.2.1 _ hw) hK1.2.2.2.2.2.2.2.2.1.use (C.2.2.2.2.1 _ hw2) (C.2.2.2.2.1 _ hw3) (C.2.2.2.2.1 _ hw4) hK1.2.2.2.2.2.2.2.1 ⟨_, hat, rfl, va_nmO (hK1.1.2 3 _ rfl).2 (by decide +kernel)⟩ hfr ?_ hd h
  show ((st.map (rb_c ad)).map fun v => v.category).sum + 14 ≤ lo
  rw [List.map_map, show ((fun v => Value.category v) ∘ rb_c ad) = rb_cat from funext fun v => rb_cat_c ad v]
  exact hcat
/-- an object of class ci may lie in a row of Object -/
theorem rb_asg {X : rb_X} {s : State} (hK1 : rb_K1 X s) {ci : Nat} {r' : vw_C} (hr' : vwCl[ci]? = some r') (hf : ci = 2 ∨ ci = 7 ∨ ci = 4 ∨ ci = 5) {comp : ClassId} (k3 : s.vm.findClass "java/lang/Object" = some comp) : s.vm.assignable (X.1.1 ci) comp = true := by
  have hcls := (hK1.1.1 ci r' hr').2
  have cst : ∀ nm : String, (nm, "java/lang/Object") ∈ rb_cst → s.vm.findClass nm = some (X.1.1 ci) → s.vm.assignable (X.1.1 ci) comp = true := by
    intro nm hm f1
    obtain ⟨c0, t0, e1, e2, e3⟩ := Cond.castable_spec (va_Nw.use (A := #[]) rfl (hK1.2.2.1 _ hm))
    cases Option.some.inj (e1.symm.trans f1)
    cases Option.some.inj (e2.symm.trans k3)
    exact e3
  rcases hf with rfl | rfl | rfl | rfl
  · cases Option.some.inj (hr'.symm.trans (rfl : vwCl[2]? = some (RX1, TX1, 7)))
    exact cst RX1 (by decide +kernel) hcls.1
  · cases Option.some.inj (hr'.symm.trans (rfl : vwCl[7]? = some (RX6, TX6, 11)))
    exact cst RX6 (by decide +kernel) hcls.1
  · cases Option.some.inj (hr'.symm.trans (rfl : vwCl[4]? = some (RX3, TX3, 4)))
    exact cst RX3 (by decide +kernel) hcls.1
  · cases Option.some.inj (hr'.symm.trans (rfl : vwCl[5]? = some (RX4, TX4, 5)))
    exact cst RX4 (by decide +kernel) hcls.1
/-- System.arraycopy from the first of two rows of Object, from place 0 to place 0 -/
theorem rb_copyq (C : rb_C Φ own cc nL fr lo mc ms) {r0 r1 : rb_R} {n : Int32} {idx N : Nat} (w1 : Cond.methodLink own idx arraycopyName ∈ TS) (w2 : Cond.native arraycopyName ∈ TS) (w3 : Cond.static arraycopyName ∈ TS) (w4 : Cond.initialized "java/lang/System" ∈ TS) (hd : decode cc pc = .ok (.invokestatic idx, 3)) (hk0 : rb_k r0.1 = 13) (hk1 : rb_k r1.1 = 13)
    (h3 : ¬ n < 0) (hN : n.toNatClampNeg = N) (h4 : N ≤ gN G r0) (h5 : N ≤ gN G r1) (hel : ∀ i, i < N → ∀ y, gP G r0 i = some y → rb_k y.1 = 2 ∨ rb_k y.1 = 7 ∨ rb_k y.1 = 4 ∨ rb_k y.1 = 5) (hlen : Lv.length = nL) (hfr : 1 ≤ fr) (hcat : (st.map rb_cat).sum + 18 ≤ lo)
    (kk : rb_W Φ cells slots (pc + 3) Lv st (sQ G r1 (fun j => if j < N then gP G r0 j else gP G r1 j))) : rb_W Φ cells slots pc Lv (rbI n :: rbI 0 :: rbR r1 :: rbI 0 :: rbR r0 :: st) G := by
  obtain ⟨p, l, e, R, s, m, args, below, meth, c, Q, X, A, ad0, G0⟩ := Φ
  intro ad H locs ls hP hn hS hl ho hv T hT XS
  have hR := C.2.2.2.2.2.2.1
  subst hR
  subst hN
  have hK1 := C.2.2.2.2.2.2.2.2.1
  have nn : n.toInt = (n.toNatClampNeg : Int) := by
    have hz0 : (0 : Int) ≤ n.toInt := by
      have := Int32.not_lt.mp h3
      simpa using Int32.le_iff_toInt_le.mp this
    show n.toInt = ((n.toInt.toNat : Nat) : Int)
    omega
  have hr1 : gD G r1 := ho.tl.tl.hd r1 rfl
  have hr0 : gD G r0 := ho.tl.tl.tl.tl.hd r0 rfl
  have hk120 : rb_k r1.1 < 20 := by rw [hk1]; decide
  obtain ⟨-, hat0⟩ := hP.1 r0 hr0 (by rw [hk0]; decide)
  obtain ⟨hA1, hat1⟩ := hP.1 r1 hr1 hk120
  rw [rb_eP hk0 (by decide)] at hat0
  rw [rb_eP hk1 (by decide)] at hat1
  have hc0 : H[ad r0]? = some (vp_cell (X.2.1 13) (gN G r0, .inr (.inr (.inr (.inr (fun j => (gP G r0 j).map ad)))))) := hat0
  have hc1 : H[ad r1]? = some (vp_cell (X.2.1 13) (gN G r1, .inr (.inr (.inr (.inr (fun j => (gP G r1 j).map ad)))))) := hat1
  obtain ⟨-, k0, hk0', cm0, hkk0⟩ := (hK1.1.2 3 _ rfl).1 (gN G r0) (fun j => va_rf ((gP G r0 j).map ad))
  obtain ⟨-, k1, hk1', cm1, hkk1⟩ := (hK1.1.2 3 _ rfl).1 (gN G r1) (fun j => va_rf ((gP G r1 j).map ad))
  obtain ⟨vm', X', step⟩ := XS.arraycopy C.1 C.2.2.2.1 (C.2.2.2.2.1 _ w1) (C.2.2.2.2.1 _ w2) (C.2.2.2.2.1 _ w3) (C.2.2.2.2.1 _ w4) (src := ad r0) (dst := ad r1) (cs := vp_cell (X.2.1 13) (gN G r0, .inr (.inr (.inr (.inr (fun j => (gP G r0 j).map ad)))))) (cd := vp_cell (X.2.1 13) (gN G r1, .inr (.inr (.inr (.inr (fun j => (gP G r1 j).map ad)))))) (srcPos := 0) (destPos := 0) (n := n) (by rw [hT]; exact hc0) (by rw [hT]; exact hc1)
    (fun _ h => by cases h) (fun _ h => by cases h) (fun h => by cases h) (fun h => by cases h) hk0' hk1' hkk0 hkk1 rfl (by decide) (by decide) h3
    (by rw [nn]; show ¬ (0 : Int32).toInt + _ > ((arrV (X.2.1 13) (gN G r0) (fun j => va_rf ((gP G r0 j).map ad))).slots.size : Int); rw [arrV_size, show (0 : Int32).toInt = 0 from rfl]; omega)
    (by rw [nn]; show ¬ (0 : Int32).toInt + _ > ((arrV (X.2.1 13) (gN G r1) (fun j => va_rf ((gP G r1 j).map ad))).slots.size : Int); rw [arrV_size, show (0 : Int32).toInt = 0 from rfl]; omega)
    (fun vm₁ hal i hi => by
      have e : (vp_cell (X.2.1 13) (gN G r0, .inr (.inr (.inr (.inr (fun j => (gP G r0 j).map ad)))))).slots.getD ((0 : Int32).toNatClampNeg + i) .null = va_rf ((gP G r0 i).map ad) := by
        show (arrV (X.2.1 13) (gN G r0) (fun j => va_rf ((gP G r0 j).map ad))).slots.getD _ _ = _
        rw [show (0 : Int32).toNatClampNeg = 0 from rfl, Nat.zero_add, Array.getD_eq_getD_getElem?, arrV_read _ _ (by omega)]
        rfl
      rw [e]
      cases hy : gP G r0 i with
      | none => exact ⟨rfl, trivial⟩
      | some y =>
        have hyk := hel i hi y hy
        have hyD := hP.2.2.1 r0 i y hr0 hy
        obtain ⟨-, haty⟩ := hP.1 y hyD (by omega)
        rw [rb_eo (ci := rb_k y.1) rfl (by omega)] at haty
        obtain ⟨r', hr', cellV, g1, g2, g3, -⟩ := haty
        obtain ⟨kA, comp, r1', r2', r3', -⟩ := (hK1.1.2 3 _ rfl).2
        cases hk1'.symm.trans r1'
        cases hkk1.symm.trans r2'
        have hcls := (hK1.1.1 _ r' hr').2
        obtain ⟨kC, hkC, -⟩ := hcls.2
        obtain ⟨kE, hkE, -⟩ := Vm.findClass_spec r3'
        obtain ⟨kC', hkC', -⟩ := hal.2.2 _ _ hkC
        obtain ⟨kE', hkE', -⟩ := hal.2.2 _ _ hkE
        refine ⟨rfl, cellV, (show T.heap[ad y]? = some cellV by rw [hT]; exact g1), (fun q h => by rw [g3] at h; cases h), ⟨kC', by rw [g2]; exact hkC'⟩, ?_, ?_⟩
        · exact ⟨kE', hkE'⟩
        · show vm₁.assignable _ _ = true
          rw [hal.assignable, g2]
          exact rb_asg hK1 hr' hyk r3')
    (g := F0 m pc ls ((rbI n :: rbI 0 :: rbR r1 :: rbI 0 :: rbR r0 :: st).map (rb_c ad))) rfl (by show ls.size = _; rw [C.2.2.1, hl.1, hlen]) (rest := st.map (rb_c ad)) rfl (by rw [C.2.1]; exact hd) hfr (by
      show 2 * 0 + ((st.map (rb_c ad)).map fun v => v.category).sum + (nativeFrameWords "java/lang/System" "arraycopy" 5 + 11) ≤ lo
      rw [List.map_map, show ((fun v => Value.category v) ∘ rb_c ad) = rb_cat from funext fun v => rb_cat_c ad v, show nativeFrameWords "java/lang/System" "arraycopy" 5 = 7 from by decide]
      omega)
  have e1 : copied (vp_cell (X.2.1 13) (gN G r0, .inr (.inr (.inr (.inr (fun j => (gP G r0 j).map ad)))))) (vp_cell (X.2.1 13) (gN G r1, .inr (.inr (.inr (.inr (fun j => (gP G r1 j).map ad)))))) 0 0 n = vp_cell (X.2.1 13) (gN G r1, .inr (.inr (.inr (.inr (fun j => (if j < n.toNatClampNeg then gP G r0 j else gP G r1 j).map ad))))) := by
    rw [vp_cell_q, vp_cell_q, vp_cell_q]
    refine (va_copied (fun z => va_rf z) (X.2.1 13) (X.2.1 13) (fun j => (gP G r0 j).map ad) (fun j => (gP G r1 j).map ad) (sp := 0) (dp := 0) (n := n.toNatClampNeg) (by omega)).trans ?_
    congr 1
    funext j
    simp only [va_cpy, Nat.zero_add, Nat.zero_le, true_and, Nat.sub_zero]
    by_cases hj : j < n.toNatClampNeg
    · rw [if_pos hj, if_pos hj]
    · rw [if_neg hj, if_neg hj]
  rw [e1] at X' step
  have hl9 : ad r1 < H.size := (Array.getElem?_eq_some_iff.mp hc1).1
  generalize hcell : vp_cell (X.2.1 13) (gN G r1, .inr (.inr (.inr (.inr (fun j => (if j < n.toNatClampNeg then gP G r0 j else gP G r1 j).map ad))))) = cellN at X' step
  have hheap : ((T.setVm vm').setCell (ad r1) cellN).heap = H.setIfInBounds (ad r1) cellN := by rw [← hT]; rfl
  have oq : ∀ q : Nat, q ≠ ad r1 → (H.setIfInBounds (ad r1) cellN)[q]? = H[q]? := fun q hq => by simp [Array.getElem?_setIfInBounds, Ne.symm hq]
  have hat2 : va_at X.1 vwCl (ad r1, rb_e ad X.2.1 (sQ G r1 (fun j => if j < n.toNatClampNeg then gP G r0 j else gP G r1 j)) r1) (H.setIfInBounds (ad r1) cellN) := by
    rw [rb_eP hk1 (by decide)]
    show (H.setIfInBounds (ad r1) cellN)[ad r1]? = some (vp_cell _ _)
    have e2 : (fun j => (gP (sQ G r1 (fun j => if j < n.toNatClampNeg then gP G r0 j else gP G r1 j)) r1 j).map ad) = fun j => (if j < n.toNatClampNeg then gP G r0 j else gP G r1 j).map ad := by
      funext j
      show Option.map ad (if r1 = r1 then _ else _) = _
      rw [if_pos rfl]
    rw [e2, show gN (sQ G r1 (fun j => if j < n.toNatClampNeg then gP G r0 j else gP G r1 j)) r1 = gN G r1 from rfl, hcell]
    simp [Array.getElem?_setIfInBounds, hl9]
  have hP2 : rb_P X ad A (sQ G r1 (fun j => if j < n.toNatClampNeg then gP G r0 j else gP G r1 j)) (H.setIfInBounds (ad r1) cellN) := by
    refine hP.upd hr1 hk120 hat2 oq rfl (fun r' h => rb_e_sQ h) (fun ra k rb ha hb => ?_)
    have hb' : (if ra = r1 then (if k < n.toNatClampNeg then gP G r0 k else gP G r1 k) else gP G ra k) = some rb := hb
    split at hb'
    · split at hb'
      · exact hP.2.2.1 r0 k rb hr0 hb'
      · exact hP.2.2.1 r1 k rb hr1 hb'
    · exact hP.2.2.1 ra k rb ha hb'
  obtain ⟨t, a1, b1⟩ := kk ad _ _ ls hP2 hn ⟨by simp; exact hS.1, fun q g1 g2 => by
      rw [oq q (fun e => g2 (by rw [e]; exact hA1))]
      exact hS.2.1 q g1 g2, fun q hq => by
      rcases List.mem_append.mp hq with h | h
      · exact hS.2.2 q h
      · obtain ⟨z, -, hz⟩ := List.mem_map.mp h
        rw [← hz]
        exact hA1⟩ hl ho.tl.tl.tl.tl.tl hv _ hheap X'
  exact ⟨t, step t a1, b1⟩
theorem rb_mmin (C : rb_C Φ own cc nL fr lo mc ms) {idx : Nat} {x y : Int32} (hw : Cond.methodLink own idx Lib.Math.min.name ∈ TS) (hd : decode cc pc = .ok (.invokestatic idx, 3)) (hlen : Lv.length = nL) (hfr : 1 ≤ fr) (hcat : (st.map rb_cat).sum + 13 ≤ lo) (hc : cells ≤ mc) (hs : slots ≤ ms) (kk : rb_W Φ cells slots (pc + 3) Lv (rbI (if y < x then y else x) :: st) G) : rb_W Φ cells slots pc Lv (rbI y :: rbI x :: st) G := by
  obtain ⟨p, l, e, R, s, m, args, below, meth, c, Q, X, A, ad0, G0⟩ := Φ
  intro ad H locs ls hP hn hS hl ho hv
  have hR := C.2.2.2.2.2.2.1
  subst hR
  have w2 : Cond.static Lib.Math.min.name ∈ TS := ts_mem 461 (by decide +kernel) rfl
  have w3 : Cond.initialized "java/lang/Math" ∈ TS := ts_mem 62 (by decide +kernel) rfl
  have w4 : Cond.code Lib.Math.min.name Lib.Math.min.code 2 (some .int) ∈ TS := ts_mem 462 (by decide +kernel) rfl
  refine va_mmin C.1 C.2.1 (by rw [C.2.2.1, hl.1, hlen]) C.2.2.2.1 (C.2.2.2.2.1 _ hw) (C.2.2.2.2.1 _ w2) (C.2.2.2.2.1 _ w3) (C.2.2.2.2.1 _ w4) hfr ?_ hc hs hd (kk ad H locs ls hP hn hS hl (ho.tl.tl.cons (rb_ok_i _ _)) hv)
  show ((st.map (rb_c ad)).map fun v => v.category).sum + 13 ≤ lo
  rw [List.map_map, show ((fun v => Value.category v) ∘ rb_c ad) = rb_cat from funext fun v => rb_cat_c ad v]
  exact hcat
theorem rb_mmax (C : rb_C Φ own cc nL fr lo mc ms) {idx : Nat} {x y : Int32} (hw : Cond.methodLink own idx Lib.Math.max.name ∈ TS) (hd : decode cc pc = .ok (.invokestatic idx, 3)) (hlen : Lv.length = nL) (hfr : 1 ≤ fr) (hcat : (st.map rb_cat).sum + 13 ≤ lo) (hc : cells ≤ mc) (hs : slots ≤ ms) (kk : rb_W Φ cells slots (pc + 3) Lv (rbI (if x < y then y else x) :: st) G) : rb_W Φ cells slots pc Lv (rbI y :: rbI x :: st) G := by
  obtain ⟨p, l, e, R, s, m, args, below, meth, c, Q, X, A, ad0, G0⟩ := Φ
  intro ad H locs ls hP hn hS hl ho hv
  have hR := C.2.2.2.2.2.2.1
  subst hR
  have w2 : Cond.static Lib.Math.max.name ∈ TS := ts_mem 428 (by decide +kernel) rfl
  have w3 : Cond.initialized "java/lang/Math" ∈ TS := ts_mem 62 (by decide +kernel) rfl
  have w4 : Cond.code Lib.Math.max.name Lib.Math.max.code 2 (some .int) ∈ TS := ts_mem 429 (by decide +kernel) rfl
  refine va_mmax C.1 C.2.1 (by rw [C.2.2.1, hl.1, hlen]) C.2.2.2.1 (C.2.2.2.2.1 _ hw) (C.2.2.2.2.1 _ w2) (C.2.2.2.2.1 _ w3) (C.2.2.2.2.1 _ w4) hfr ?_ hc hs hd (kk ad H locs ls hP hn hS hl (ho.tl.tl.cons (rb_ok_i _ _)) hv)
  show ((st.map (rb_c ad)).map fun v => v.category).sum + 13 ≤ lo
  rw [List.map_map, show ((fun v => Value.category v) ∘ rb_c ad) = rb_cat from funext fun v => rb_cat_c ad v]
  exact hcat
end
theorem MM_J8_194 : Cond.methodLink RJ8 194 Lib.Math.max.name ∈ TS := ts_mem 427 (by decide +kernel) rfl
theorem MM_J7_304 : Cond.methodLink RJ7 304 Lib.Math.min.name ∈ TS := ts_mem 460 (by decide +kernel) rfl
theorem MM_Jx4a65c_79 : Cond.methodLink RJx4a65c 79 Lib.Math.max.name ∈ TS := ts_mem 466 (by decide +kernel) rfl
theorem MM_X7_305 : Cond.methodLink RX7 305 Lib.Math.min.name ∈ TS := ts_mem 862 (by decide +kernel) rfl
theorem GC_1 : Cond.methodLink RJ7 86 ⟨"java/lang/Object", "getClass", "()Ljava/lang/Class;"⟩ ∈ TS := ts_mem 437 (by decide +kernel) rfl
theorem GC_2 : Cond.selects "[Ljava/lang/Object;" ⟨"java/lang/Object", "getClass", "()Ljava/lang/Class;"⟩ ⟨"java/lang/Object", "getClass", "()Ljava/lang/Class;"⟩ ∈ TS := ts_mem 1206 (by decide +kernel) rfl
theorem GC_3 : Cond.instanceMethod ⟨"java/lang/Object", "getClass", "()Ljava/lang/Class;"⟩ ∈ TS := ts_mem 438 (by decide +kernel) rfl
theorem GC_4 : Cond.native ⟨"java/lang/Object", "getClass", "()Ljava/lang/Class;"⟩ ∈ TS := ts_mem 453 (by decide +kernel) rfl
theorem AC_1 : Cond.methodLink RJ7 150 arraycopyName ∈ TS := ts_mem 463 (by decide +kernel) rfl
theorem AC_2 : Cond.native arraycopyName ∈ TS := ts_mem 465 (by decide +kernel) rfl
theorem AC_3 : Cond.static arraycopyName ∈ TS := ts_mem 464 (by decide +kernel) rfl
theorem AC_4 : Cond.initialized "java/lang/System" ∈ TS := ts_mem 63 (by decide +kernel) rfl
section
variable {Φ : rb_F} {cc : ByteArray} {nL fr lo mc ms cells slots pc : Nat} {Lv Lv' : List (Option rb_V)} {st rest As : List rb_V} {G : rb_G}
theorem MC_1 : Cond.fieldLink RJx4a65c 63 "java/util/ArrayList" "modCount" "I" ∈ TS := ts_mem 96 (by decide +kernel) rfl
theorem MC_2 : Cond.sameField "java/util/ArrayList" "java/util/AbstractList" "modCount" "I" ∈ TS := ts_mem 97 (by decide +kernel) rfl
theorem rb_getMC (C : rb_C Φ RJx4a65c cc nL fr lo mc ms) {r : rb_R} (hd : decode cc pc = .ok (.getfield 63, 3)) (hk : rb_k r.1 = 0) (kk : rb_W Φ cells slots (pc + 3) Lv (rbI (gI G r 0) :: st) G) : rb_W Φ cells slots pc Lv (rbR r :: st) G := by
  obtain ⟨p, l, e, R, s, m, args, below, meth, c, Q, X, A, ad0, G0⟩ := Φ
  intro ad H locs ls hP hn hS hl ho hv
  have hr := ho.hd r rfl
  obtain ⟨-, hat⟩ := hP.1 r hr (by rw [hk]; decide)
  rw [rb_eo hk (by decide)] at hat
  refine va_get (C := RJx4a65c) (T := TJx4a65c) (N := 3) (ci := 0) C.1 C.2.1 C.2.2.2.2.1 inC_Jx4a65c C.2.2.2.1 C.2.2.2.2.2.2.2.2.1.1 (rb_one hat) 0 rfl rfl 0 (by decide) (ref := "java/util/ArrayList") (C.2.2.2.2.1 _ MC_1) (fun x hx => u_same (C.2.2.2.2.1 _ MC_2) x hx) (v := .int (gI G r 0)) ?_ hd (kk ad H locs ls hP hn hS hl (ho.tl.cons (rb_ok_i _ _)) hv)
  rw [rb_vals_get]
  rfl
theorem rb_putMC (C : rb_C Φ RJx4a65c cc nL fr lo mc ms) {r : rb_R} {v : Int32} (hd : decode cc pc = .ok (.putfield 63, 3)) (hk : rb_k r.1 = 0) (kk : rb_W Φ cells slots (pc + 3) Lv st (sI G r 0 v)) : rb_W Φ cells slots pc Lv (rbI v :: rbR r :: st) G := by
  obtain ⟨p, l, e, R, s, m, args, below, meth, c, Q, X, A, ad0, G0⟩ := Φ
  intro ad H locs ls hP hn hS hl ho hv
  have hr := ho.tl.hd r rfl
  have hk20 : rb_k r.1 < 20 := by rw [hk]; decide
  obtain ⟨hAr, hat⟩ := hP.1 r hr hk20
  rw [rb_eo hk (by decide)] at hat
  obtain ⟨r9, h1, cell, q1, q2, q3, q4⟩ := hat
  cases Option.some.inj (h1.symm.trans (rfl : vwCl[0]? = some (RJx4a65c, TJx4a65c, 3)))
  have hkN : 0 < 3 := by decide
  obtain ⟨hS9, hfc, kC, hkC, hkind⟩ := C.2.2.2.2.2.2.2.2.1.1.1 0 (RJx4a65c, TJx4a65c, 3) rfl
  obtain ⟨cf, kf, fi, f, hi, hsl⟩ := hS9 0 hkN
  have hap := va_apart (own := RJx4a65c) C.2.2.2.2.1 inC_Jx4a65c tyJx4a65c tyJx4a65c_ok nmJx4a65c C.2.2.2.2.2.2.2.2.1.1 (ci := 0) (N := 3) rfl
  have hlay := C.2.2.2.2.1 _ (inC_Jx4a65c _ (u_in_lay hkN))
  unfold u_lay at hlay
  rw [if_neg (by decide)] at hlay
  have hst := (u_facts hfc hkC (u_lays C.2.2.2.2.1 inC_Jx4a65c hkN) hi).1
  have h6 := u_store hfc hkC hkind hlay hi (ty := .int) (v := .int v) (tyJx4a65c_ok 0 hkN) rfl rfl
  refine W.putK C.1 C.2.1 (f := f) ⟨C.2.2.2.1, C.2.2.2.2.1 _ MC_1, ⟨_, _, _, u_same (C.2.2.2.2.1 _ MC_2) _ hi⟩, hst⟩ (by rw [q2]; exact h6) q1 q3 (by rw [hsl]; exact k2_hasslot (q4 0 hkN)) rfl rfl hd fun H' e1 e2 e3 => ?_
  rw [hsl] at e1 ⊢
  have hlen : 0 < (rb_vals (rb_c ad) (rb_lay 0) 0 (gI G r) (gP G r)).length := by rw [rb_vals_len]; decide
  refine kk ad H' _ ls (hP.upd hr hk20 ?_ e3 rfl (fun r' h => rb_e_sI h) hP.2.2.1) hn (hS.put e2 e3 hAr) hl ho.tl.tl hv
  rw [rb_eo hk (by decide)]
  refine ⟨_, rfl, t_OB.to (V := updV (vp_V (rb_vals (rb_c ad) (rb_lay 0) 0 (gI G r) (gP G r))) 0 (.int v)) ⟨_, e1, q2, q3, t_set q4 hap hkN _⟩ (fun j _ => ?_)⟩
  rw [vp_updV_set hlen]
  exact congrArg (fun l => vp_V l j) (rb_vals_setI (rb_c ad) (gI G r) (gI (sI G r 0 v) r) (gP G r) (rb_lay 0) 0 v rfl (up2_s _ _ _ _) (fun j hj => up2_n _ _ _ _ (fun q => hj q.2)))
end
end
section
theorem W_DE : Cond.fieldLink RJx4a65c 39 "java/util/ArrayList" "DEFAULTCAPACITY_EMPTY_ELEMENTDATA" "[Ljava/lang/Object;" ∈ TS := ts_mem 91 (by decide +kernel) rfl
set_option maxRecDepth 100000 in
set_option maxHeartbeats 4000000 in
theorem c_pchk (l : Launch) (X : rb_X) (i n : Int32) (o : Option rb_R) (G : rb_G) (h0 : ¬ i < 0) (h1 : i < n) : rb_N l X yJ3_checkIndex_8e157 (.code yJ3_checkIndex_8e157 cJ3_checkIndex_8e157 3 (some .int)) 1 12 0 0 [rbI i, rbI n, rbO o] G (fun v G' => v = some (rbI (i)) ∧ G' = G) := by
  refine rb_startN RJ3 rfl (by decide +kernel) rfl (Nat.le_of_ble_eq_true rfl) ?_
  intro Φ C E nm
  show rb_W Φ 0 0 0 [some (rbI i), some (rbI n), some (rbO o)] [] G
  refine rb_iload_n C dJ3_checkIndex_8e157_0 rfl ?_
  refine rb_if_lt C 9 dJ3_checkIndex_8e157_1 (by decide) (fun h9 => absurd h9 (h0)) (fun _ => ?_)
  refine rb_iload_n C dJ3_checkIndex_8e157_4 rfl ?_
  refine rb_iload_n C dJ3_checkIndex_8e157_5 rfl ?_
  refine rb_icmp_lt C 16 dJ3_checkIndex_8e157_6 (by decide) (fun _ => ?_) (fun h9 => absurd (h1) h9)
  refine rb_iload_n C dJ3_checkIndex_8e157_16 rfl ?_
  exact rb_iret C E dJ3_checkIndex_8e157_17 (Nat.le_of_ble_eq_true rfl) (Nat.le_of_ble_eq_true rfl) (⟨rfl, rfl⟩)
set_option maxRecDepth 100000 in
set_option maxHeartbeats 4000000 in
theorem c_ochk (l : Launch) (X : rb_X) (i n : Int32) (G : rb_G) (h0 : ¬ i < 0) (h1 : i < n) : rb_N l X yJ15_checkIndex_7cf53 (.code yJ15_checkIndex_7cf53 cJ15_checkIndex_7cf53 2 (some .int)) 2 34 0 0 [rbI i, rbI n] G (fun v G' => v = some (rbI (i)) ∧ G' = G) := by
  refine rb_startN RJ15 rfl (by decide +kernel) rfl (Nat.le_of_ble_eq_true rfl) ?_
  intro Φ C E nm
  show rb_W Φ 0 0 0 [some (rbI i), some (rbI n)] [] G
  refine rb_iload_n C dJ15_checkIndex_7cf53_0 rfl ?_
  refine rb_iload_n C dJ15_checkIndex_7cf53_1 rfl ?_
  refine rb_null C dJ15_checkIndex_7cf53_2 ?_
  refine rb_callS C M_J15_105 (fun l X => (c_pchk l X _ _ _ _ h0 h1).m) dJ15_checkIndex_7cf53_3 rfl rfl rfl (Nat.le_of_ble_eq_true rfl) ⟨(Nat.le_of_ble_eq_true rfl), (Nat.le_of_ble_eq_true rfl)⟩ (Nat.le_of_ble_eq_true rfl) (Nat.le_of_ble_eq_true rfl) (fun v G' hp => ?_) (fun _ _ hp => hp.elim)
  obtain ⟨rfl, e9⟩ := hp
  rw [e9]
  clear e9 G'
  exact rb_iret C E dJ15_checkIndex_7cf53_6 (Nat.le_of_ble_eq_true rfl) (Nat.le_of_ble_eq_true rfl) (⟨rfl, rfl⟩)
set_option maxRecDepth 100000 in
set_option maxHeartbeats 4000000 in
theorem c_size (l : Launch) (X : rb_X) (r : rb_R) (G : rb_G) (hk : rb_k r.1 = 0) : rb_N l X yJx4a65c_size_8abf5 (.code yJx4a65c_size_8abf5 cJx4a65c_size_8abf5 1 (some .int)) 1 12 0 0 [rbR r] G (fun v G' => v = some (rbI (gI G r 2)) ∧ G' = G) := by
  refine rb_startN RJx4a65c rfl (by decide +kernel) rfl (Nat.le_of_ble_eq_true rfl) ?_
  intro Φ C E nm
  show rb_W Φ 0 0 0 [some (rbR r)] [] G
  refine rb_aload_n C dJx4a65c_size_8abf5_0 rfl ?_
  refine rb_getI C FR_Jx4a65c_48 dJx4a65c_size_8abf5_1 hk ?_
  exact rb_iret C E dJx4a65c_size_8abf5_4 (Nat.le_of_ble_eq_true rfl) (Nat.le_of_ble_eq_true rfl) (⟨rfl, rfl⟩)
set_option maxRecDepth 100000 in
set_option maxHeartbeats 4000000 in
theorem c_elem (l : Launch) (X : rb_X) (r e : rb_R) (i : Int32) (o : Option rb_R) (G : rb_G) (hk : rb_k r.1 = 0) (he : gP G r 1 = some e) (hke : rb_k e.1 = 13) (hi : vp_in i (gN G e)) (ho : gP G e i.toNatClampNeg = o) : rb_N l X yJx4a65c_elementData_915e3 (.code yJx4a65c_elementData_915e3 cJx4a65c_elementData_915e3 2 (some (.object "java/lang/Object"))) 1 12 0 0 [rbR r, rbI i] G (fun v G' => v = some (rbO o) ∧ G' = G) := by
  refine rb_startN RJx4a65c rfl (by decide +kernel) rfl (Nat.le_of_ble_eq_true rfl) ?_
  intro Φ C E nm
  show rb_W Φ 0 0 0 [some (rbR r), some (rbI i)] [] G
  refine rb_aload_n C dJx4a65c_elementData_915e3_0 rfl ?_
  refine rb_getP C FR_Jx4a65c_9 dJx4a65c_elementData_915e3_1 hk (o := some e) he ?_
  refine rb_iload_n C dJx4a65c_elementData_915e3_4 rfl ?_
  refine rb_aald C dJx4a65c_elementData_915e3_5 hke (by decide) (by decide) hi ho ?_
  exact rb_aret C E (Or.inl ⟨_, rfl⟩) dJx4a65c_elementData_915e3_6 (Nat.le_of_ble_eq_true rfl) (Nat.le_of_ble_eq_true rfl) (⟨rfl, rfl⟩)
set_option maxRecDepth 100000 in
set_option maxHeartbeats 4000000 in
theorem c_get (l : Launch) (X : rb_X) (r e : rb_R) (i : Int32) (o : Option rb_R) (G : rb_G) (hk : rb_k r.1 = 0) (h0 : ¬ i < 0) (h1 : i < gI G r 2) (he : gP G r 1 = some e) (hke : rb_k e.1 = 13) (hi : vp_in i (gN G e)) (ho : gP G e i.toNatClampNeg = o) : rb_N l X yJx4a65c_get_915e3 (.code yJx4a65c_get_915e3 cJx4a65c_get_915e3 2 (some (.object "java/lang/Object"))) 3 55 0 0 [rbR r, rbI i] G (fun v G' => v = some (rbO o) ∧ G' = G) := by
  refine rb_startN RJx4a65c rfl (by decide +kernel) rfl (Nat.le_of_ble_eq_true rfl) ?_
  intro Φ C E nm
  show rb_W Φ 0 0 0 [some (rbR r), some (rbI i)] [] G
  refine rb_iload_n C dJx4a65c_get_915e3_0 rfl ?_
  refine rb_aload_n C dJx4a65c_get_915e3_1 rfl ?_
  refine rb_getI C FR_Jx4a65c_48 dJx4a65c_get_915e3_2 hk ?_
  refine rb_callS C M_Jx4a65c_118 (fun l X => (c_ochk l X _ _ _ h0 h1).m) dJx4a65c_get_915e3_5 rfl rfl rfl (Nat.le_of_ble_eq_true rfl) ⟨(Nat.le_of_ble_eq_true rfl), (Nat.le_of_ble_eq_true rfl)⟩ (Nat.le_of_ble_eq_true rfl) (Nat.le_of_ble_eq_true rfl) (fun v G' hp => ?_) (fun _ _ hp => hp.elim)
  obtain ⟨rfl, e9⟩ := hp
  rw [e9]
  clear e9 G'
  refine rb_pop C dJx4a65c_get_915e3_8 rfl ?_
  refine rb_aload_n C dJx4a65c_get_915e3_9 rfl ?_
  refine rb_iload_n C dJx4a65c_get_915e3_10 rfl ?_
  refine rb_callV C M_Jx4a65c_123 (fun l X => (c_elem l X _ _ _ _ _ hk he hke hi ho).m) rfl (Nat.le_of_ble_eq_true rfl) hk dJx4a65c_get_915e3_11 rfl rfl rfl (Nat.le_of_ble_eq_true rfl) ⟨(Nat.le_of_ble_eq_true rfl), (Nat.le_of_ble_eq_true rfl)⟩ (Nat.le_of_ble_eq_true rfl) (Nat.le_of_ble_eq_true rfl) (fun v G' hp => ?_) (fun _ _ hp => hp.elim)
  obtain ⟨rfl, e9⟩ := hp
  rw [e9]
  clear e9 G'
  exact rb_aret C E (Or.inl ⟨_, rfl⟩) dJx4a65c_get_915e3_14 (Nat.le_of_ble_eq_true rfl) (Nat.le_of_ble_eq_true rfl) (⟨rfl, rfl⟩)
set_option maxRecDepth 100000 in
set_option maxHeartbeats 4000000 in
theorem c_acinit (l : Launch) (X : rb_X) (r : rb_R) (G : rb_G) : rb_N l X yJxa1e45_init_da8c8 (.code yJxa1e45_init_da8c8 cJxa1e45_init_da8c8 1 none) 1 12 0 0 [rbR r] G (fun v G' => v = none ∧ G' = G) := by
  refine rb_startN RJxa1e45 rfl (by decide +kernel) rfl (Nat.le_of_ble_eq_true rfl) ?_
  intro Φ C E nm
  show rb_W Φ 0 0 0 [some (rbR r)] [] G
  refine rb_aload_n C dJxa1e45_init_da8c8_0 rfl ?_
  refine rb_objInit C M_Jxa1e45_1 ts_oi ts_oc dJxa1e45_init_da8c8_1 rfl (Nat.le_of_ble_eq_true rfl) (Nat.le_of_ble_eq_true rfl) ?_
  exact rb_vret C E dJxa1e45_init_da8c8_4 (Nat.le_of_ble_eq_true rfl) (Nat.le_of_ble_eq_true rfl) (⟨rfl, rfl⟩)
set_option maxRecDepth 100000 in
set_option maxHeartbeats 4000000 in
theorem c_alinit (l : Launch) (X : rb_X) (r : rb_R) (G : rb_G) (hk : rb_k r.1 = 0) : rb_N l X yJxc12de_init_da8c8 (.code yJxc12de_init_da8c8 cJxc12de_init_da8c8 1 none) 2 32 0 0 [rbR r] G (fun v G' => v = none ∧ G' = sI G r 0 0) := by
  refine rb_startN RJxc12de rfl (by decide +kernel) rfl (Nat.le_of_ble_eq_true rfl) ?_
  intro Φ C E nm
  show rb_W Φ 0 0 0 [some (rbR r)] [] G
  refine rb_aload_n C dJxc12de_init_da8c8_0 rfl ?_
  refine rb_callI C M_Jxc12de_1 (fun l X => c_acinit l X _ _) dJxc12de_init_da8c8_1 rfl rfl rfl (Nat.le_of_ble_eq_true rfl) ⟨(Nat.le_of_ble_eq_true rfl), (Nat.le_of_ble_eq_true rfl)⟩ (Nat.le_of_ble_eq_true rfl) (Nat.le_of_ble_eq_true rfl) (fun v G' hp => ?_)
  obtain ⟨rfl, e9⟩ := hp
  rw [e9]
  clear e9 G'
  refine rb_aload_n C dJxc12de_init_da8c8_4 rfl ?_
  refine rb_iconst C dJxc12de_init_da8c8_5 (v := 0) (by decide) ?_
  refine rb_putI C F_Jxc12de_7 dJxc12de_init_da8c8_6 hk ⟨rfl, rfl⟩ ?_
  exact rb_vret C E dJxc12de_init_da8c8_9 (Nat.le_of_ble_eq_true rfl) (Nat.le_of_ble_eq_true rfl) (⟨rfl, rfl⟩)
set_option maxRecDepth 100000 in
set_option maxHeartbeats 4000000 in
theorem c_linit (l : Launch) (X : rb_X) (r : rb_R) (G : rb_G) (hk : rb_k r.1 = 0) (hE : gD G (19, 0, 0)) : rb_N l X yJx4a65c_init_da8c8 (.code yJx4a65c_init_da8c8 cJx4a65c_init_da8c8 1 none) 3 52 0 0 [rbR r] G (fun v G' => v = none ∧ G' = sP (sI G r 0 0) r 1 (some (19, 0, 0))) := by
  refine rb_startN RJx4a65c rfl (by decide +kernel) rfl (Nat.le_of_ble_eq_true rfl) ?_
  intro Φ C E nm
  show rb_W Φ 0 0 0 [some (rbR r)] [] G
  refine rb_aload_n C dJx4a65c_init_da8c8_0 rfl ?_
  refine rb_callI C M_Jx4a65c_1 (fun l X => c_alinit l X _ _ hk) dJx4a65c_init_da8c8_1 rfl rfl rfl (Nat.le_of_ble_eq_true rfl) ⟨(Nat.le_of_ble_eq_true rfl), (Nat.le_of_ble_eq_true rfl)⟩ (Nat.le_of_ble_eq_true rfl) (Nat.le_of_ble_eq_true rfl) (fun v G' hp => ?_)
  obtain ⟨rfl, e9⟩ := hp
  rw [e9]
  clear e9 G'
  refine rb_aload_n C dJx4a65c_init_da8c8_4 rfl ?_
  refine rb_getE C W_DE dJx4a65c_init_da8c8_5 hE ?_
  refine rb_putP C F_Jx4a65c_9 dJx4a65c_init_da8c8_8 hk rfl ?_
  exact rb_vret C E dJx4a65c_init_da8c8_11 (Nat.le_of_ble_eq_true rfl) (Nat.le_of_ble_eq_true rfl) (⟨rfl, rfl⟩)
end
section
set_option maxRecDepth 100000 in
set_option maxHeartbeats 4000000 in
theorem c_newLen (l : Launch) (X : rb_X) (a b c y : Int32) (G : rb_G) (hy : a + (if b < c then c else b) = y) (h1 : ¬ y ≤ 0) (h2 : ¬ 2147483639 < y) : rb_N l X yJ8_newLength_cabcc (.code yJ8_newLength_cabcc cJ8_newLength_cabcc 4 (some .int)) 1 20 0 0 [rbI a, rbI b, rbI c] G (fun v G' => v = some (rbI (y)) ∧ G' = G) := by
  refine rb_startN RJ8 rfl (by decide +kernel) rfl (Nat.le_of_ble_eq_true rfl) ?_
  intro Φ C E nm
  show rb_W Φ 0 0 0 [some (rbI a), some (rbI b), some (rbI c), none] [] G
  refine rb_iload_n C dJ8_newLength_cabcc_0 rfl ?_
  refine rb_iload_n C dJ8_newLength_cabcc_1 rfl ?_
  refine rb_iload_n C dJ8_newLength_cabcc_2 rfl ?_
  refine rb_mmax C MM_J8_194 dJ8_newLength_cabcc_3 rfl (Nat.le_of_ble_eq_true rfl) (Nat.le_of_ble_eq_true rfl) (Nat.le_of_ble_eq_true rfl) (Nat.le_of_ble_eq_true rfl) ?_
  refine rb_iadd C dJ8_newLength_cabcc_6 ?_
  rw [hy]
  refine rb_istore_n C dJ8_newLength_cabcc_7 (Nat.le_of_ble_eq_true rfl) rfl (Lv' := [_, _, _, _]) rfl ?_
  refine rb_iconst C dJ8_newLength_cabcc_8 (v := 0) (by decide) ?_
  refine rb_iload_n C dJ8_newLength_cabcc_9 rfl ?_
  refine rb_icmp_ge C 21 dJ8_newLength_cabcc_10 (by decide) (fun h9 => absurd h9 (h1)) (fun _ => ?_)
  refine rb_iload_n C dJ8_newLength_cabcc_13 rfl ?_
  refine rb_ldc C dJ8_newLength_cabcc_14 N_J8_200 ?_
  refine rb_icmp_gt C 21 dJ8_newLength_cabcc_16 (by decide) (fun h9 => absurd h9 (h2)) (fun _ => ?_)
  refine rb_iload_n C dJ8_newLength_cabcc_19 rfl ?_
  exact rb_iret C E dJ8_newLength_cabcc_20 (Nat.le_of_ble_eq_true rfl) (Nat.le_of_ble_eq_true rfl) (⟨rfl, rfl⟩)
set_option maxRecDepth 100000 in
set_option maxHeartbeats 4000000 in
theorem c_copy3 (l : Launch) (X : rb_X) (e e1 : rb_R) (L N M : Nat) (G : rb_G) (hke : rb_k e.1 = 13) (hke1 : rb_k e1.1 = 13) (hf : ¬ gD G e1) (he : gD G e) (hgN : gN G e = L) (hLN : L ≤ N) (hN : N < 100000) (hNM : N ≤ M) (hel : ∀ i, i < L → ∀ y, gP G e i = some y → rb_k y.1 = 2 ∨ rb_k y.1 = 7 ∨ rb_k y.1 = 4 ∨ rb_k y.1 = 5) (hD : gD G (21, 0, 0)) : rb_N l X yJ7_copyOf_6403c (.code yJ7_copyOf_6403c cJ7_copyOf_6403c 4 (some (.array (.object "java/lang/Object")))) 1 24 1 M [rbR e, rbI (nI N), rbR (21, 0, 0)] G (fun v G' => v = some (rbR e1) ∧ G' = sQ (sN G e1 N) e1 (fun j => if j < L then gP G e j else none)) := by
  have hne : e ≠ e1 := fun q => hf (by rw [← q]; exact he)
  have hL : L < 2 ^ 31 := by omega
  have hg1 : gN (sN G e1 N) e = gN G e := by show (if e = e1 then N else gN G e) = _; rw [if_neg hne]
  have hp1 : ∀ i, gP (sN G e1 N) e i = gP G e i := fun i => by show (if e = e1 then none else gP G e i) = _; rw [if_neg hne]
  have hq1 : (fun j => if j < L then gP (sN G e1 N) e j else gP (sN G e1 N) e1 j) = fun j => if j < L then gP G e j else none := by
    funext j
    rw [hp1, sN_P]
  refine rb_startN RJ7 rfl (by decide +kernel) rfl (Nat.le_of_ble_eq_true rfl) ?_
  intro Φ C E nm
  show rb_W Φ 0 0 0 [some (rbR e), some (rbI (nI N)), some (rbR (21, 0, 0)), none] [] G
  refine rb_aload_n C dJ7_copyOf_6403c_0 rfl ?_
  refine rb_ldcM C L_J7_110 dJ7_copyOf_6403c_1 hD ?_
  refine rb_acmp_ne C dJ7_copyOf_6403c_3 (tgt := 13) (by decide) rfl ?_
  refine rb_iload_n C dJ7_copyOf_6403c_6 rfl ?_
  refine rb_anew C e1 N (k := 13) L_J7_2 (by decide) (by decide) dJ7_copyOf_6403c_7 hke1 hf (nI_pos (by omega)) (nI_clamp (by omega)) (by omega) (Nat.le_of_ble_eq_true rfl) (by omega) ?_
  refine rb_goto C 24 dJ7_copyOf_6403c_10 (by decide) ?_
  refine rb_astore_n C dJ7_copyOf_6403c_24 (Nat.le_of_ble_eq_true rfl) rfl (Lv' := [_, _, _, _]) rfl ?_
  refine rb_aload_n C dJ7_copyOf_6403c_25 rfl ?_
  refine rb_iconst C dJ7_copyOf_6403c_26 (v := 0) (by decide) ?_
  refine rb_aload_n C dJ7_copyOf_6403c_27 rfl ?_
  refine rb_iconst C dJ7_copyOf_6403c_28 (v := 0) (by decide) ?_
  refine rb_aload_n C dJ7_copyOf_6403c_29 rfl ?_
  refine rb_alen C dJ7_copyOf_6403c_30 hke (by decide) (by decide) ?_
  rw [hg1, hgN]
  refine rb_iload_n C dJ7_copyOf_6403c_31 rfl ?_
  refine rb_mmin C MM_J7_304 dJ7_copyOf_6403c_32 rfl (Nat.le_of_ble_eq_true rfl) (Nat.le_of_ble_eq_true rfl) (Nat.le_of_ble_eq_true rfl) (by omega) ?_
  rw [if_neg (nI_nlt hLN (by omega))]
  refine rb_copyq C (N := L) AC_1 AC_2 AC_3 AC_4 dJ7_copyOf_6403c_35 hke hke1 (nI_pos hL) (nI_clamp hL) (by rw [hg1]; exact Nat.le_of_eq hgN.symm) (by rw [sN_N]; exact hLN) (fun i hi y hy => hel i hi y (by rw [hp1] at hy; exact hy)) rfl (Nat.le_of_ble_eq_true rfl) (Nat.le_of_ble_eq_true rfl) ?_
  refine rb_aload_n C dJ7_copyOf_6403c_38 rfl ?_
  exact rb_aret C E (Or.inr ⟨_, rfl⟩) dJ7_copyOf_6403c_39 (Nat.le_of_ble_eq_true rfl) (by omega) ⟨rfl, by rw [hq1]⟩
set_option maxRecDepth 100000 in
set_option maxHeartbeats 4000000 in
theorem c_copy2 (l : Launch) (X : rb_X) (e e1 : rb_R) (L N M : Nat) (G : rb_G) (hke : rb_k e.1 = 13) (hke1 : rb_k e1.1 = 13) (hf : ¬ gD G e1) (he : gD G e) (hgN : gN G e = L) (hLN : L ≤ N) (hN : N < 100000) (hNM : N ≤ M) (hel : ∀ i, i < L → ∀ y, gP G e i = some y → rb_k y.1 = 2 ∨ rb_k y.1 = 7 ∨ rb_k y.1 = 4 ∨ rb_k y.1 = 5) (hD : gD G (21, 0, 0)) : rb_N l X yJ7_copyOf_1904c (.code yJ7_copyOf_1904c cJ7_copyOf_1904c 2 (some (.array (.object "java/lang/Object")))) 2 47 1 M [rbR e, rbI (nI N)] G (fun v G' => v = some (rbR e1) ∧ G' = sQ (sN G e1 N) e1 (fun j => if j < L then gP G e j else none)) := by
  refine rb_startN RJ7 rfl (by decide +kernel) rfl (Nat.le_of_ble_eq_true rfl) ?_
  intro Φ C E nm
  show rb_W Φ 0 0 0 [some (rbR e), some (rbI (nI N))] [] G
  refine rb_aload_n C dJ7_copyOf_1904c_0 rfl ?_
  refine rb_iload_n C dJ7_copyOf_1904c_1 rfl ?_
  refine rb_aload_n C dJ7_copyOf_1904c_2 rfl ?_
  refine rb_getC C GC_1 GC_2 GC_3 GC_4 dJ7_copyOf_1904c_3 hke hD rfl (Nat.le_of_ble_eq_true rfl) (Nat.le_of_ble_eq_true rfl) ?_
  refine rb_callS C M_J7_300 (fun l X => (c_copy3 l X e e1 L N M G hke hke1 hf he hgN hLN hN hNM hel hD).m) dJ7_copyOf_1904c_6 rfl rfl rfl (Nat.le_of_ble_eq_true rfl) ⟨(Nat.le_of_ble_eq_true rfl), (Nat.le_of_ble_eq_true rfl)⟩ (Nat.le_of_ble_eq_true rfl) (by omega) (fun v G' hp => ?_) (fun _ _ hp => hp.elim)
  obtain ⟨rfl, e9⟩ := hp
  rw [e9]
  clear e9 G'
  exact rb_aret C E (Or.inr ⟨_, rfl⟩) dJ7_copyOf_1904c_9 (Nat.le_of_ble_eq_true rfl) (by omega) ⟨rfl, rfl⟩
end
section
set_option maxRecDepth 100000 in
set_option maxHeartbeats 4000000 in
theorem c_growA (l : Launch) (X : rb_X) (r e1 : rb_R) (G : rb_G) (hk : rb_k r.1 = 0) (hke1 : rb_k e1.1 = 13) (hf : ¬ gD G e1) (hp : gP G r 1 = some (19, 0, 0)) (hD : gD G (19, 0, 0)) : rb_N l X yJx4a65c_grow_92f84 (.code yJx4a65c_grow_92f84 cJx4a65c_grow_92f84 4 (some (.array (.object "java/lang/Object")))) 1 24 1 10 [rbR r, rbI 1] G (fun v G' => v = some (rbR e1) ∧ G' = sP (sN G e1 10) r 1 (some e1)) := by
  refine rb_startN RJx4a65c rfl (by decide +kernel) rfl (Nat.le_of_ble_eq_true rfl) ?_
  intro Φ C E nm
  show rb_W Φ 0 0 0 [some (rbR r), some (rbI 1), none, none] [] G
  refine rb_aload_n C dJx4a65c_grow_92f84_0 rfl ?_
  refine rb_getP C FR_Jx4a65c_9 dJx4a65c_grow_92f84_1 hk (o := some (19, 0, 0)) hp ?_
  refine rb_alenE C dJx4a65c_grow_92f84_4 ?_
  refine rb_istore_n C dJx4a65c_grow_92f84_5 (Nat.le_of_ble_eq_true rfl) rfl (Lv' := [_, _, _, _]) rfl ?_
  refine rb_iload_n C dJx4a65c_grow_92f84_6 rfl ?_
  refine rb_if_gt C 20 dJx4a65c_grow_92f84_7 (by decide) (fun h9 => absurd h9 (by decide)) (fun _ => ?_)
  refine rb_aload_n C dJx4a65c_grow_92f84_10 rfl ?_
  refine rb_getP C FR_Jx4a65c_9 dJx4a65c_grow_92f84_11 hk (o := some (19, 0, 0)) hp ?_
  refine rb_getE C W_DE dJx4a65c_grow_92f84_14 hD ?_
  refine rb_acmp_eqY C 45 dJx4a65c_grow_92f84_17 (by decide) rfl ?_
  refine rb_aload_n C dJx4a65c_grow_92f84_45 rfl ?_
  refine rb_bipush C dJx4a65c_grow_92f84_46 (v := 10) (by decide) ?_
  refine rb_iload_n C dJx4a65c_grow_92f84_48 rfl ?_
  refine rb_mmax C MM_Jx4a65c_79 dJx4a65c_grow_92f84_49 rfl (Nat.le_of_ble_eq_true rfl) (Nat.le_of_ble_eq_true rfl) (Nat.le_of_ble_eq_true rfl) (Nat.le_of_ble_eq_true rfl) ?_
  rw [if_neg (show ¬ (10 : Int32) < 1 by decide)]
  refine rb_anew C e1 10 (k := 13) L_Jx4a65c_7 (by decide) (by decide) dJx4a65c_grow_92f84_52 hke1 hf (by decide) (by decide) (by decide) (Nat.le_of_ble_eq_true rfl) (Nat.le_of_ble_eq_true rfl) ?_
  refine rb_dup_x1 C dJx4a65c_grow_92f84_55 rfl rfl ?_
  refine rb_putP C F_Jx4a65c_9 dJx4a65c_grow_92f84_56 hk rfl ?_
  exact rb_aret C E (Or.inr ⟨_, rfl⟩) dJx4a65c_grow_92f84_59 (Nat.le_of_ble_eq_true rfl) (Nat.le_of_ble_eq_true rfl) (⟨rfl, rfl⟩)
set_option maxRecDepth 100000 in
set_option maxHeartbeats 4000000 in
theorem c_growB (l : Launch) (X : rb_X) (r e e1 : rb_R) (L N M : Nat) (G : rb_G) (hk : rb_k r.1 = 0) (hke : rb_k e.1 = 13) (hke1 : rb_k e1.1 = 13) (hf : ¬ gD G e1) (he : gD G e) (hgN : gN G e = L) (hL0 : 0 < L) (hNe : N = L + (if 1 < L / 2 then L / 2 else 1)) (hN : N < 100000) (hNM : N ≤ M) (hel : ∀ i, i < L → ∀ y, gP G e i = some y → rb_k y.1 = 2 ∨ rb_k y.1 = 7 ∨ rb_k y.1 = 4 ∨ rb_k y.1 = 5) (hD : gD G (21, 0, 0)) (hp : gP G r 1 = some e) : rb_N l X yJx4a65c_grow_92f84 (.code yJx4a65c_grow_92f84 cJx4a65c_grow_92f84 4 (some (.array (.object "java/lang/Object")))) 3 68 1 M [rbR r, rbI (nI (L + 1))] G (fun v G' => v = some (rbR e1) ∧ G' = sP (sQ (sN G e1 N) e1 (fun j => if j < L then gP G e j else none)) r 1 (some e1)) := by
  have hLN : L ≤ N := by omega
  have nI_gt0 : (0 : Int32) < nI L := by rw [show (0 : Int32) = nI 0 from rfl]; exact nI_lt hL0 (by omega)
  have hs9 : nI (L + 1) - nI L = nI 1 := by rw [pk_sub (by omega)]; congr 1; omega
  have hsh9 : nI L >>> ((1 : Int32) &&& 31) = nI (L / 2) := by rw [pk_shrN (by omega) ((1 : Int32) &&& 31) 1 (by decide)]
  have hlen9 : nI L + (if nI (L + 1) - nI L < nI L >>> ((1 : Int32) &&& 31) then nI L >>> ((1 : Int32) &&& 31) else nI (L + 1) - nI L) = nI N := by
    rw [hs9, hsh9, hNe]
    by_cases h : 1 < L / 2
    · rw [if_pos h, if_pos (nI_lt h (by omega)), nI_add]
    · rw [if_neg h, if_neg (nI_nlt (by omega) (by omega)), nI_add]
  have hpos9 : ¬ nI N ≤ 0 := nI_nle (by omega) (by omega)
  have hbig9 : ¬ 2147483639 < nI N := by
    rw [Int32.lt_iff_toInt_lt, nI_toInt (by omega), show (2147483639 : Int32).toInt = 2147483639 from by decide +kernel]
    omega
  refine rb_startN RJx4a65c rfl (by decide +kernel) rfl (Nat.le_of_ble_eq_true rfl) ?_
  intro Φ C E nm
  show rb_W Φ 0 0 0 [some (rbR r), some (rbI (nI (L + 1))), none, none] [] G
  refine rb_aload_n C dJx4a65c_grow_92f84_0 rfl ?_
  refine rb_getP C FR_Jx4a65c_9 dJx4a65c_grow_92f84_1 hk (o := some e) hp ?_
  refine rb_alen C dJx4a65c_grow_92f84_4 hke (by decide) (by decide) ?_
  rw [hgN]
  refine rb_istore_n C dJx4a65c_grow_92f84_5 (Nat.le_of_ble_eq_true rfl) rfl (Lv' := [_, _, _, _]) rfl ?_
  refine rb_iload_n C dJx4a65c_grow_92f84_6 rfl ?_
  refine rb_if_gt C 20 dJx4a65c_grow_92f84_7 (by decide) (fun _ => ?_) (fun h9 => absurd (nI_gt0) h9)
  refine rb_iload_n C dJx4a65c_grow_92f84_20 rfl ?_
  refine rb_iload_n C dJx4a65c_grow_92f84_21 rfl ?_
  refine rb_iload_n C dJx4a65c_grow_92f84_22 rfl ?_
  refine rb_isub C dJx4a65c_grow_92f84_23 ?_
  refine rb_iload_n C dJx4a65c_grow_92f84_24 rfl ?_
  refine rb_iconst C dJx4a65c_grow_92f84_25 (v := 1) (by decide) ?_
  refine rb_ishr C dJx4a65c_grow_92f84_26 ?_
  refine rb_callS C M_Jx4a65c_73 (fun l X => (c_newLen l X (nI L) (nI (L + 1) - nI L) (nI L >>> ((1 : Int32) &&& 31)) (nI N) G hlen9 hpos9 hbig9).m) dJx4a65c_grow_92f84_27 rfl rfl rfl (Nat.le_of_ble_eq_true rfl) ⟨(Nat.le_of_ble_eq_true rfl), (Nat.le_of_ble_eq_true rfl)⟩ (Nat.le_of_ble_eq_true rfl) (by omega) (fun v G' hp => ?_) (fun _ _ hp => hp.elim)
  obtain ⟨rfl, e9⟩ := hp
  rw [e9]
  clear e9 G'
  refine rb_istore_n C dJx4a65c_grow_92f84_30 (Nat.le_of_ble_eq_true rfl) rfl (Lv' := [_, _, _, _]) rfl ?_
  refine rb_aload_n C dJx4a65c_grow_92f84_31 rfl ?_
  refine rb_aload_n C dJx4a65c_grow_92f84_32 rfl ?_
  refine rb_getP C FR_Jx4a65c_9 dJx4a65c_grow_92f84_33 hk (o := some e) hp ?_
  refine rb_iload_n C dJx4a65c_grow_92f84_36 rfl ?_
  refine rb_callS C M_Jx4a65c_66 (fun l X => (c_copy2 l X e e1 L N M G hke hke1 hf he hgN hLN hN hNM hel hD).m) dJx4a65c_grow_92f84_37 rfl rfl rfl (Nat.le_of_ble_eq_true rfl) ⟨(Nat.le_of_ble_eq_true rfl), (Nat.le_of_ble_eq_true rfl)⟩ (Nat.le_of_ble_eq_true rfl) (by omega) (fun v G' hp => ?_) (fun _ _ hp => hp.elim)
  obtain ⟨rfl, e9⟩ := hp
  rw [e9]
  clear e9 G'
  refine rb_dup_x1 C dJx4a65c_grow_92f84_40 rfl rfl ?_
  refine rb_putP C F_Jx4a65c_9 dJx4a65c_grow_92f84_41 hk rfl ?_
  exact rb_aret C E (Or.inr ⟨_, rfl⟩) dJx4a65c_grow_92f84_44 (Nat.le_of_ble_eq_true rfl) (by omega) ⟨rfl, rfl⟩
set_option maxRecDepth 100000 in
set_option maxHeartbeats 4000000 in
theorem c_grow0A (l : Launch) (X : rb_X) (r e1 : rb_R) (G : rb_G) (hk : rb_k r.1 = 0) (hke1 : rb_k e1.1 = 13) (hf : ¬ gD G e1) (hp : gP G r 1 = some (19, 0, 0)) (hsz : gI G r 2 = 0) (hD : gD G (19, 0, 0)) : rb_N l X yJx4a65c_grow_d5877 (.code yJx4a65c_grow_d5877 cJx4a65c_grow_d5877 1 (some (.array (.object "java/lang/Object")))) 2 47 1 10 [rbR r] G (fun v G' => v = some (rbR e1) ∧ G' = sP (sN G e1 10) r 1 (some e1)) := by
  refine rb_startN RJx4a65c rfl (by decide +kernel) rfl (Nat.le_of_ble_eq_true rfl) ?_
  intro Φ C E nm
  show rb_W Φ 0 0 0 [some (rbR r)] [] G
  refine rb_aload_n C dJx4a65c_grow_d5877_0 rfl ?_
  refine rb_aload_n C dJx4a65c_grow_d5877_1 rfl ?_
  refine rb_getI C FR_Jx4a65c_48 dJx4a65c_grow_d5877_2 hk ?_
  refine rb_iconst C dJx4a65c_grow_d5877_5 (v := 1) (by decide) ?_
  refine rb_iadd C dJx4a65c_grow_d5877_6 ?_
  rw [hsz, show (0 : Int32) + 1 = 1 from rfl]
  refine rb_callV C M_Jx4a65c_69 (fun l X => (c_growA l X r e1 G hk hke1 hf hp hD).m) rfl (Nat.le_of_ble_eq_true rfl) hk dJx4a65c_grow_d5877_7 rfl rfl rfl (Nat.le_of_ble_eq_true rfl) ⟨(Nat.le_of_ble_eq_true rfl), (Nat.le_of_ble_eq_true rfl)⟩ (Nat.le_of_ble_eq_true rfl) (Nat.le_of_ble_eq_true rfl) (fun v G' hp => ?_) (fun _ _ hp => hp.elim)
  obtain ⟨rfl, e9⟩ := hp
  rw [e9]
  clear e9 G'
  exact rb_aret C E (Or.inr ⟨_, rfl⟩) dJx4a65c_grow_d5877_10 (Nat.le_of_ble_eq_true rfl) (Nat.le_of_ble_eq_true rfl) (⟨rfl, rfl⟩)
set_option maxRecDepth 100000 in
set_option maxHeartbeats 4000000 in
theorem c_grow0B (l : Launch) (X : rb_X) (r e e1 : rb_R) (L N M : Nat) (G : rb_G) (hk : rb_k r.1 = 0) (hke : rb_k e.1 = 13) (hke1 : rb_k e1.1 = 13) (hf : ¬ gD G e1) (he : gD G e) (hgN : gN G e = L) (hL0 : 0 < L) (hsz : gI G r 2 = nI L) (hNe : N = L + (if 1 < L / 2 then L / 2 else 1)) (hN : N < 100000) (hNM : N ≤ M) (hel : ∀ i, i < L → ∀ y, gP G e i = some y → rb_k y.1 = 2 ∨ rb_k y.1 = 7 ∨ rb_k y.1 = 4 ∨ rb_k y.1 = 5) (hD : gD G (21, 0, 0)) (hp : gP G r 1 = some e) : rb_N l X yJx4a65c_grow_d5877 (.code yJx4a65c_grow_d5877 cJx4a65c_grow_d5877 1 (some (.array (.object "java/lang/Object")))) 4 91 1 M [rbR r] G (fun v G' => v = some (rbR e1) ∧ G' = sP (sQ (sN G e1 N) e1 (fun j => if j < L then gP G e j else none)) r 1 (some e1)) := by
  refine rb_startN RJx4a65c rfl (by decide +kernel) rfl (Nat.le_of_ble_eq_true rfl) ?_
  intro Φ C E nm
  show rb_W Φ 0 0 0 [some (rbR r)] [] G
  refine rb_aload_n C dJx4a65c_grow_d5877_0 rfl ?_
  refine rb_aload_n C dJx4a65c_grow_d5877_1 rfl ?_
  refine rb_getI C FR_Jx4a65c_48 dJx4a65c_grow_d5877_2 hk ?_
  refine rb_iconst C dJx4a65c_grow_d5877_5 (v := 1) (by decide) ?_
  refine rb_iadd C dJx4a65c_grow_d5877_6 ?_
  rw [hsz, nI_1]
  refine rb_callV C M_Jx4a65c_69 (fun l X => (c_growB l X r e e1 L N M G hk hke hke1 hf he hgN hL0 hNe hN hNM hel hD hp).m) rfl (Nat.le_of_ble_eq_true rfl) hk dJx4a65c_grow_d5877_7 rfl rfl rfl (Nat.le_of_ble_eq_true rfl) ⟨(Nat.le_of_ble_eq_true rfl), (Nat.le_of_ble_eq_true rfl)⟩ (Nat.le_of_ble_eq_true rfl) (by omega) (fun v G' hp => ?_) (fun _ _ hp => hp.elim)
  obtain ⟨rfl, e9⟩ := hp
  rw [e9]
  clear e9 G'
  exact rb_aret C E (Or.inr ⟨_, rfl⟩) dJx4a65c_grow_d5877_10 (Nat.le_of_ble_eq_true rfl) (by omega) ⟨rfl, rfl⟩
end
section
set_option maxRecDepth 100000 in
set_option maxHeartbeats 4000000 in
theorem c_add3a (l : Launch) (X : rb_X) (r v e : rb_R) (ci n L : Nat) (G : rb_G) (hk : rb_k r.1 = 0) (hke : rb_k e.1 = 13) (hkv : rb_k v.1 = ci) (hfit : rb_fit2 13 ci) (hgN : gN G e = L) (hn : n < L) (hL : L < 100000) : rb_N l X yJx4a65c_add_72be8 (.code yJx4a65c_add_72be8 cJx4a65c_add_72be8 4 none) 1 12 0 0 [rbR r, rbR v, rbR e, rbI (nI n)] G (fun v9 G' => v9 = none ∧ G' = sI (sP G e n (some v)) r 2 (nI (n + 1))) := by
  have hne9 : nI n ≠ nI L := fun q => by rw [nI_eq (by omega) (by omega)] at q; omega
  refine rb_startN RJx4a65c rfl (by decide +kernel) rfl (Nat.le_of_ble_eq_true rfl) ?_
  intro Φ C E nm
  show rb_W Φ 0 0 0 [some (rbR r), some (rbR v), some (rbR e), some (rbI (nI n))] [] G
  refine rb_iload_n C dJx4a65c_add_72be8_0 rfl ?_
  refine rb_aload_n C dJx4a65c_add_72be8_1 rfl ?_
  refine rb_alen C dJx4a65c_add_72be8_2 hke (by decide) (by decide) ?_
  rw [hgN]
  refine rb_icmp_ne C 11 dJx4a65c_add_72be8_3 (by decide) (fun _ => ?_) (fun h9 => absurd h9 (hne9))
  refine rb_aload_n C dJx4a65c_add_72be8_11 rfl ?_
  refine rb_iload_n C dJx4a65c_add_72be8_12 rfl ?_
  refine rb_aload_n C dJx4a65c_add_72be8_13 rfl ?_
  refine rb_aast C dJx4a65c_add_72be8_14 hke hkv hfit (by rw [hgN]; exact vp_in_nI hn (by omega)) ?_
  rw [nI_clamp (show n < 2 ^ 31 by omega)]
  refine rb_aload_n C dJx4a65c_add_72be8_15 rfl ?_
  refine rb_iload_n C dJx4a65c_add_72be8_16 rfl ?_
  refine rb_iconst C dJx4a65c_add_72be8_17 (v := 1) (by decide) ?_
  refine rb_iadd C dJx4a65c_add_72be8_18 ?_
  rw [nI_1]
  refine rb_putI C F_Jx4a65c_48 dJx4a65c_add_72be8_19 hk ⟨rfl, rfl⟩ ?_
  exact rb_vret C E dJx4a65c_add_72be8_22 (Nat.le_of_ble_eq_true rfl) (Nat.le_of_ble_eq_true rfl) ⟨rfl, rfl⟩
set_option maxRecDepth 100000 in
set_option maxHeartbeats 4000000 in
theorem c_add3A (l : Launch) (X : rb_X) (r v e1 : rb_R) (ci : Nat) (G : rb_G) (hk : rb_k r.1 = 0) (hke1 : rb_k e1.1 = 13) (hf : ¬ gD G e1) (hkv : rb_k v.1 = ci) (hfit : rb_fit2 13 ci) (hp : gP G r 1 = some (19, 0, 0)) (hsz : gI G r 2 = 0) (hD : gD G (19, 0, 0)) : rb_N l X yJx4a65c_add_72be8 (.code yJx4a65c_add_72be8 cJx4a65c_add_72be8 4 none) 3 67 1 10 [rbR r, rbR v, rbR (19, 0, 0), rbI 0] G (fun v9 G' => v9 = none ∧ G' = sI (sP (sP (sN G e1 10) r 1 (some e1)) e1 0 (some v)) r 2 1) := by
  refine rb_startN RJx4a65c rfl (by decide +kernel) rfl (Nat.le_of_ble_eq_true rfl) ?_
  intro Φ C E nm
  show rb_W Φ 0 0 0 [some (rbR r), some (rbR v), some (rbR (19, 0, 0)), some (rbI 0)] [] G
  refine rb_iload_n C dJx4a65c_add_72be8_0 rfl ?_
  refine rb_aload_n C dJx4a65c_add_72be8_1 rfl ?_
  refine rb_alenE C dJx4a65c_add_72be8_2 ?_
  refine rb_icmp_ne C 11 dJx4a65c_add_72be8_3 (by decide) (fun h9 => absurd (rfl) h9) (fun _ => ?_)
  refine rb_aload_n C dJx4a65c_add_72be8_6 rfl ?_
  refine rb_callV C M_Jx4a65c_129 (fun l X => (c_grow0A l X r e1 G hk hke1 hf hp hsz hD).m) rfl (Nat.le_of_ble_eq_true rfl) hk dJx4a65c_add_72be8_7 rfl rfl rfl (Nat.le_of_ble_eq_true rfl) ⟨(Nat.le_of_ble_eq_true rfl), (Nat.le_of_ble_eq_true rfl)⟩ (Nat.le_of_ble_eq_true rfl) (Nat.le_of_ble_eq_true rfl) (fun v G' hp => ?_) (fun _ _ hp => hp.elim)
  obtain ⟨rfl, e9⟩ := hp
  rw [e9]
  clear e9 G'
  refine rb_astore_n C dJx4a65c_add_72be8_10 (Nat.le_of_ble_eq_true rfl) rfl (Lv' := [_, _, _, _]) rfl ?_
  refine rb_aload_n C dJx4a65c_add_72be8_11 rfl ?_
  refine rb_iload_n C dJx4a65c_add_72be8_12 rfl ?_
  refine rb_aload_n C dJx4a65c_add_72be8_13 rfl ?_
  refine rb_aast C dJx4a65c_add_72be8_14 hke1 hkv hfit (show vp_in 0 (if e1 = e1 then 10 else gN G e1) by rw [if_pos rfl]; exact vp_in_nI (n := 0) (by decide) (by decide)) ?_
  rw [show (0 : Int32).toNatClampNeg = 0 from rfl]
  refine rb_aload_n C dJx4a65c_add_72be8_15 rfl ?_
  refine rb_iload_n C dJx4a65c_add_72be8_16 rfl ?_
  refine rb_iconst C dJx4a65c_add_72be8_17 (v := 1) (by decide) ?_
  refine rb_iadd C dJx4a65c_add_72be8_18 ?_
  rw [show (0 : Int32) + 1 = 1 from rfl]
  refine rb_putI C F_Jx4a65c_48 dJx4a65c_add_72be8_19 hk ⟨rfl, rfl⟩ ?_
  exact rb_vret C E dJx4a65c_add_72be8_22 (Nat.le_of_ble_eq_true rfl) (Nat.le_of_ble_eq_true rfl) ⟨rfl, rfl⟩
set_option maxRecDepth 100000 in
set_option maxHeartbeats 4000000 in
theorem c_add3B (l : Launch) (X : rb_X) (r v e e1 : rb_R) (ci L N M : Nat) (G : rb_G) (hk : rb_k r.1 = 0) (hke : rb_k e.1 = 13) (hke1 : rb_k e1.1 = 13) (hf : ¬ gD G e1) (he : gD G e) (hgN : gN G e = L) (hL0 : 0 < L) (hkv : rb_k v.1 = ci) (hfit : rb_fit2 13 ci) (hsz : gI G r 2 = nI L) (hNe : N = L + (if 1 < L / 2 then L / 2 else 1)) (hN : N < 100000) (hNM : N ≤ M) (hel : ∀ i, i < L → ∀ y, gP G e i = some y → rb_k y.1 = 2 ∨ rb_k y.1 = 7 ∨ rb_k y.1 = 4 ∨ rb_k y.1 = 5) (hD : gD G (21, 0, 0)) (hp : gP G r 1 = some e) : rb_N l X yJx4a65c_add_72be8 (.code yJx4a65c_add_72be8 cJx4a65c_add_72be8 4 none) 5 111 1 M [rbR r, rbR v, rbR e, rbI (nI L)] G (fun v9 G' => v9 = none ∧ G' = sI (sP (sP (sQ (sN G e1 N) e1 (fun j => if j < L then gP G e j else none)) r 1 (some e1)) e1 L (some v)) r 2 (nI (L + 1))) := by
  have hLN1 : L < N := by rw [hNe]; split <;> omega
  refine rb_startN RJx4a65c rfl (by decide +kernel) rfl (Nat.le_of_ble_eq_true rfl) ?_
  intro Φ C E nm
  show rb_W Φ 0 0 0 [some (rbR r), some (rbR v), some (rbR e), some (rbI (nI L))] [] G
  refine rb_iload_n C dJx4a65c_add_72be8_0 rfl ?_
  refine rb_aload_n C dJx4a65c_add_72be8_1 rfl ?_
  refine rb_alen C dJx4a65c_add_72be8_2 hke (by decide) (by decide) ?_
  rw [hgN]
  refine rb_icmp_ne C 11 dJx4a65c_add_72be8_3 (by decide) (fun h9 => absurd (rfl) h9) (fun _ => ?_)
  refine rb_aload_n C dJx4a65c_add_72be8_6 rfl ?_
  refine rb_callV C M_Jx4a65c_129 (fun l X => (c_grow0B l X r e e1 L N M G hk hke hke1 hf he hgN hL0 hsz hNe hN hNM hel hD hp).m) rfl (Nat.le_of_ble_eq_true rfl) hk dJx4a65c_add_72be8_7 rfl rfl rfl (Nat.le_of_ble_eq_true rfl) ⟨(Nat.le_of_ble_eq_true rfl), (Nat.le_of_ble_eq_true rfl)⟩ (Nat.le_of_ble_eq_true rfl) (by omega) (fun v G' hp => ?_) (fun _ _ hp => hp.elim)
  obtain ⟨rfl, e9⟩ := hp
  rw [e9]
  clear e9 G'
  refine rb_astore_n C dJx4a65c_add_72be8_10 (Nat.le_of_ble_eq_true rfl) rfl (Lv' := [_, _, _, _]) rfl ?_
  refine rb_aload_n C dJx4a65c_add_72be8_11 rfl ?_
  refine rb_iload_n C dJx4a65c_add_72be8_12 rfl ?_
  refine rb_aload_n C dJx4a65c_add_72be8_13 rfl ?_
  refine rb_aast C dJx4a65c_add_72be8_14 hke1 hkv hfit (show vp_in (nI L) (if e1 = e1 then N else gN G e1) by rw [if_pos rfl]; exact vp_in_nI hLN1 (by omega)) ?_
  rw [nI_clamp (show L < 2 ^ 31 by omega)]
  refine rb_aload_n C dJx4a65c_add_72be8_15 rfl ?_
  refine rb_iload_n C dJx4a65c_add_72be8_16 rfl ?_
  refine rb_iconst C dJx4a65c_add_72be8_17 (v := 1) (by decide) ?_
  refine rb_iadd C dJx4a65c_add_72be8_18 ?_
  rw [nI_1]
  refine rb_putI C F_Jx4a65c_48 dJx4a65c_add_72be8_19 hk ⟨rfl, rfl⟩ ?_
  exact rb_vret C E dJx4a65c_add_72be8_22 (Nat.le_of_ble_eq_true rfl) (by omega) ⟨rfl, rfl⟩
set_option maxRecDepth 100000 in
set_option maxHeartbeats 4000000 in
theorem c_add1a (l : Launch) (X : rb_X) (r v e : rb_R) (ci n L : Nat) (G : rb_G) (hp : gP G r 1 = some e) (hsz : gI G r 2 = nI n) (mc9 : Int32) (hmc : gI G r 0 + 1 = mc9) (hk : rb_k r.1 = 0) (hke : rb_k e.1 = 13) (hkv : rb_k v.1 = ci) (hfit : rb_fit2 13 ci) (hgN : gN G e = L) (hn : n < L) (hL : L < 100000) : rb_N l X yJx4a65c_add_9ea2d (.code yJx4a65c_add_9ea2d cJx4a65c_add_9ea2d 2 (some .boolean)) 2 35 0 0 [rbR r, rbR v] G (fun v9 G' => v9 = some (rbI 1) ∧ G' = sI (sP (sI G r 0 mc9) e n (some v)) r 2 (nI (n + 1))) := by
  refine rb_startN RJx4a65c rfl (by decide +kernel) rfl (Nat.le_of_ble_eq_true rfl) ?_
  intro Φ C E nm
  show rb_W Φ 0 0 0 [some (rbR r), some (rbR v)] [] G
  refine rb_aload_n C dJx4a65c_add_9ea2d_0 rfl ?_
  refine rb_dup C dJx4a65c_add_9ea2d_1 rfl ?_
  refine rb_getMC C dJx4a65c_add_9ea2d_2 hk ?_
  refine rb_iconst C dJx4a65c_add_9ea2d_5 (v := 1) (by decide) ?_
  refine rb_iadd C dJx4a65c_add_9ea2d_6 ?_
  rw [hmc]
  refine rb_putMC C dJx4a65c_add_9ea2d_7 hk ?_
  refine rb_aload_n C dJx4a65c_add_9ea2d_10 rfl ?_
  refine rb_aload_n C dJx4a65c_add_9ea2d_11 rfl ?_
  refine rb_aload_n C dJx4a65c_add_9ea2d_12 rfl ?_
  refine rb_getP C FR_Jx4a65c_9 dJx4a65c_add_9ea2d_13 hk (o := some e) hp ?_
  refine rb_aload_n C dJx4a65c_add_9ea2d_16 rfl ?_
  refine rb_getI C FR_Jx4a65c_48 dJx4a65c_add_9ea2d_17 hk ?_
  rw [show gI (sI G r 0 mc9) r 2 = gI G r 2 from up2_n _ _ _ _ (fun q => absurd q.2 (by decide)), hsz]
  refine rb_callV C M_Jx4a65c_131 (fun l X => (c_add3a l X r v e ci n L (sI G r 0 mc9) hk hke hkv hfit hgN hn hL).m) rfl (Nat.le_of_ble_eq_true rfl) hk dJx4a65c_add_9ea2d_20 rfl rfl rfl (Nat.le_of_ble_eq_true rfl) ⟨(Nat.le_of_ble_eq_true rfl), (Nat.le_of_ble_eq_true rfl)⟩ (Nat.le_of_ble_eq_true rfl) (Nat.le_of_ble_eq_true rfl) (fun v G' hp => ?_) (fun _ _ hp => hp.elim)
  obtain ⟨rfl, e9⟩ := hp
  rw [e9]
  clear e9 G'
  refine rb_iconst C dJx4a65c_add_9ea2d_23 (v := 1) (by decide) ?_
  exact rb_zret C E dJx4a65c_add_9ea2d_24 (rfl) (Nat.le_of_ble_eq_true rfl) (Nat.le_of_ble_eq_true rfl) (⟨rfl, rfl⟩)
set_option maxRecDepth 100000 in
set_option maxHeartbeats 4000000 in
theorem c_add1A (l : Launch) (X : rb_X) (r v e1 : rb_R) (ci : Nat) (G : rb_G) (mc9 : Int32) (hmc : gI G r 0 + 1 = mc9) (hk : rb_k r.1 = 0) (hke1 : rb_k e1.1 = 13) (hf : ¬ gD G e1) (hkv : rb_k v.1 = ci) (hfit : rb_fit2 13 ci) (hp : gP G r 1 = some (19, 0, 0)) (hsz : gI G r 2 = 0) (hD : gD G (19, 0, 0)) : rb_N l X yJx4a65c_add_9ea2d (.code yJx4a65c_add_9ea2d cJx4a65c_add_9ea2d 2 (some .boolean)) 4 90 1 10 [rbR r, rbR v] G (fun v9 G' => v9 = some (rbI 1) ∧ G' = sI (sP (sP (sN (sI G r 0 mc9) e1 10) r 1 (some e1)) e1 0 (some v)) r 2 1) := by
  refine rb_startN RJx4a65c rfl (by decide +kernel) rfl (Nat.le_of_ble_eq_true rfl) ?_
  intro Φ C E nm
  show rb_W Φ 0 0 0 [some (rbR r), some (rbR v)] [] G
  refine rb_aload_n C dJx4a65c_add_9ea2d_0 rfl ?_
  refine rb_dup C dJx4a65c_add_9ea2d_1 rfl ?_
  refine rb_getMC C dJx4a65c_add_9ea2d_2 hk ?_
  refine rb_iconst C dJx4a65c_add_9ea2d_5 (v := 1) (by decide) ?_
  refine rb_iadd C dJx4a65c_add_9ea2d_6 ?_
  rw [hmc]
  refine rb_putMC C dJx4a65c_add_9ea2d_7 hk ?_
  refine rb_aload_n C dJx4a65c_add_9ea2d_10 rfl ?_
  refine rb_aload_n C dJx4a65c_add_9ea2d_11 rfl ?_
  refine rb_aload_n C dJx4a65c_add_9ea2d_12 rfl ?_
  refine rb_getP C FR_Jx4a65c_9 dJx4a65c_add_9ea2d_13 hk (o := some (19, 0, 0)) hp ?_
  refine rb_aload_n C dJx4a65c_add_9ea2d_16 rfl ?_
  refine rb_getI C FR_Jx4a65c_48 dJx4a65c_add_9ea2d_17 hk ?_
  rw [show gI (sI G r 0 mc9) r 2 = gI G r 2 from up2_n _ _ _ _ (fun q => absurd q.2 (by decide)), hsz]
  refine rb_callV C M_Jx4a65c_131 (fun l X => (c_add3A l X r v e1 ci (sI G r 0 mc9) hk hke1 hf hkv hfit hp (by rw [show gI (sI G r 0 mc9) r 2 = gI G r 2 from up2_n _ _ _ _ (fun q => absurd q.2 (by decide)), hsz]) hD).m) rfl (Nat.le_of_ble_eq_true rfl) hk dJx4a65c_add_9ea2d_20 rfl rfl rfl (Nat.le_of_ble_eq_true rfl) ⟨(Nat.le_of_ble_eq_true rfl), (Nat.le_of_ble_eq_true rfl)⟩ (Nat.le_of_ble_eq_true rfl) (Nat.le_of_ble_eq_true rfl) (fun v G' hp => ?_) (fun _ _ hp => hp.elim)
  obtain ⟨rfl, e9⟩ := hp
  rw [e9]
  clear e9 G'
  refine rb_iconst C dJx4a65c_add_9ea2d_23 (v := 1) (by decide) ?_
  exact rb_zret C E dJx4a65c_add_9ea2d_24 (rfl) (Nat.le_of_ble_eq_true rfl) (Nat.le_of_ble_eq_true rfl) (⟨rfl, rfl⟩)
set_option maxRecDepth 100000 in
set_option maxHeartbeats 4000000 in
theorem c_add1B (l : Launch) (X : rb_X) (r v e e1 : rb_R) (ci L N M : Nat) (G : rb_G) (mc9 : Int32) (hmc : gI G r 0 + 1 = mc9) (hk : rb_k r.1 = 0) (hke : rb_k e.1 = 13) (hke1 : rb_k e1.1 = 13) (hf : ¬ gD G e1) (he : gD G e) (hgN : gN G e = L) (hL0 : 0 < L) (hkv : rb_k v.1 = ci) (hfit : rb_fit2 13 ci) (hsz : gI G r 2 = nI L) (hNe : N = L + (if 1 < L / 2 then L / 2 else 1)) (hN : N < 100000) (hNM : N ≤ M) (hel : ∀ i, i < L → ∀ y, gP G e i = some y → rb_k y.1 = 2 ∨ rb_k y.1 = 7 ∨ rb_k y.1 = 4 ∨ rb_k y.1 = 5) (hD : gD G (21, 0, 0)) (hp : gP G r 1 = some e) : rb_N l X yJx4a65c_add_9ea2d (.code yJx4a65c_add_9ea2d cJx4a65c_add_9ea2d 2 (some .boolean)) 6 134 1 M [rbR r, rbR v] G (fun v9 G' => v9 = some (rbI 1) ∧ G' = sI (sP (sP (sQ (sN (sI G r 0 mc9) e1 N) e1 (fun j => if j < L then gP G e j else none)) r 1 (some e1)) e1 L (some v)) r 2 (nI (L + 1))) := by
  refine rb_startN RJx4a65c rfl (by decide +kernel) rfl (Nat.le_of_ble_eq_true rfl) ?_
  intro Φ C E nm
  show rb_W Φ 0 0 0 [some (rbR r), some (rbR v)] [] G
  refine rb_aload_n C dJx4a65c_add_9ea2d_0 rfl ?_
  refine rb_dup C dJx4a65c_add_9ea2d_1 rfl ?_
  refine rb_getMC C dJx4a65c_add_9ea2d_2 hk ?_
  refine rb_iconst C dJx4a65c_add_9ea2d_5 (v := 1) (by decide) ?_
  refine rb_iadd C dJx4a65c_add_9ea2d_6 ?_
  rw [hmc]
  refine rb_putMC C dJx4a65c_add_9ea2d_7 hk ?_
  refine rb_aload_n C dJx4a65c_add_9ea2d_10 rfl ?_
  refine rb_aload_n C dJx4a65c_add_9ea2d_11 rfl ?_
  refine rb_aload_n C dJx4a65c_add_9ea2d_12 rfl ?_
  refine rb_getP C FR_Jx4a65c_9 dJx4a65c_add_9ea2d_13 hk (o := some e) hp ?_
  refine rb_aload_n C dJx4a65c_add_9ea2d_16 rfl ?_
  refine rb_getI C FR_Jx4a65c_48 dJx4a65c_add_9ea2d_17 hk ?_
  rw [show gI (sI G r 0 mc9) r 2 = gI G r 2 from up2_n _ _ _ _ (fun q => absurd q.2 (by decide)), hsz]
  refine rb_callV C M_Jx4a65c_131 (fun l X => (c_add3B l X r v e e1 ci L N M (sI G r 0 mc9) hk hke hke1 hf he hgN hL0 hkv hfit (by rw [show gI (sI G r 0 mc9) r 2 = gI G r 2 from up2_n _ _ _ _ (fun q => absurd q.2 (by decide)), hsz]) hNe hN hNM hel hD hp).m) rfl (Nat.le_of_ble_eq_true rfl) hk dJx4a65c_add_9ea2d_20 rfl rfl rfl (Nat.le_of_ble_eq_true rfl) ⟨(Nat.le_of_ble_eq_true rfl), (Nat.le_of_ble_eq_true rfl)⟩ (Nat.le_of_ble_eq_true rfl) (by omega) (fun v G' hp => ?_) (fun _ _ hp => hp.elim)
  obtain ⟨rfl, e9⟩ := hp
  rw [e9]
  clear e9 G'
  refine rb_iconst C dJx4a65c_add_9ea2d_23 (v := 1) (by decide) ?_
  exact rb_zret C E dJx4a65c_add_9ea2d_24 rfl (Nat.le_of_ble_eq_true rfl) (by omega) ⟨rfl, rfl⟩
end
section
/-! worlds by their ints alone -/
abbrev rb_I : Type := rb_R → Nat → Int32
def wI (G : rb_G) (W : rb_I) : rb_G := (gD G, gN G, W, gP G, gJ G)
theorem pv_ {f x : Int32} {G : rb_G} (h : f = x) : some (rbI x) = some (rbI f) ∧ G = G := by rw [h]; exact ⟨rfl, rfl⟩
theorem pw_ {f w : rb_I} {G : rb_G} (h : f = w) : (none : Option rb_V) = none ∧ wI G w = wI G f := by rw [h]; exact ⟨rfl, rfl⟩
theorem pp_ {f : Int32 × rb_I} {x : Int32} {w : rb_I} {G : rb_G} (h : f = (x, w)) : some (rbI x) = some (rbI f.1) ∧ wI G w = wI G f.2 := by rw [h]; exact ⟨rfl, rfl⟩
theorem pq_ {f : Int32 × rb_I} {x : Int32} {w : rb_I} (h : f = (x, w)) : f.1 = x ∧ f.2 = w := by rw [h]; exact ⟨rfl, rfl⟩
/-- n rounds of f, the first with 0 -/
def fo {α : Type} (f : Nat → α → α) : Nat → α → α
  | 0, a => a
  | n + 1, a => f n (fo f n a)
theorem fo_inv {α : Type} {f : Nat → α → α} {P : α → Prop} {a : α} (h0 : P a) (hs : ∀ i a, P a → P (f i a)) : ∀ n, P (fo f n a)
  | 0 => h0
  | n + 1 => hs n _ (fo_inv h0 hs n)
theorem fo_inv' {α : Type} {f : Nat → α → α} {P : Nat → α → Prop} {a : α} {N : Nat} (h0 : P 0 a) (hs : ∀ i, i < N → ∀ a, P i a → P (i + 1) (f i a)) : ∀ n, n ≤ N → P n (fo f n a)
  | 0, _ => h0
  | n + 1, h => hs n h _ (fo_inv' h0 hs n (Nat.le_of_succ_le h))
theorem vp_in_lt {x : Int32} {n : Nat} (h : vp_in x n) : x.toNatClampNeg < n := Nat.not_le.mp fun q => h (Or.inr q)
theorem vp_in_0 {x : Int32} {n : Nat} (h : vp_in x n) : ¬ x < 0 := fun q => h (Or.inl q)
theorem vp_in_e {x : Int32} {n : Nat} (h : vp_in x n) : x = nI x.toNatClampNeg := by
  obtain ⟨j, hj, e⟩ := nI_of (vp_in_0 h)
  rw [e, nI_clamp hj]
theorem vp_in_up {x : Int32} {n m : Nat} (h : vp_in x n) (hm : n ≤ m) : vp_in x m := fun q => h (q.elim Or.inl fun q => Or.inr (Nat.le_trans hm q))
theorem ix_lin {x y : Int32} {n m N : Nat} (k : Nat) (c : Int32) (hc : c = nI k) (hx : vp_in x n) (hy : vp_in y m) (hb : k * n + m ≤ N + k) (hN : N < 2 ^ 31) (hn : 0 < n) : vp_in (c * x + y) N ∧ (c * x + y).toNatClampNeg = k * x.toNatClampNeg + y.toNatClampNeg := by
  have h1 := vp_in_lt hx
  have h2 := vp_in_lt hy
  have h3 : k * x.toNatClampNeg + k ≤ k * n := by
    have := Nat.mul_le_mul_left k (show x.toNatClampNeg + 1 ≤ n from h1)
    rwa [Nat.mul_add, Nat.mul_one] at this
  have e : c * x + y = nI (k * x.toNatClampNeg + y.toNatClampNeg) := by
    conv => lhs; rw [hc, vp_in_e hx, vp_in_e hy]
    rw [pk_mul, nI_add]
  rw [e]
  exact ⟨vp_in_nI (by omega) hN, nI_clamp (by omega)⟩
section
variable {Φ : rb_F} {own : String} {cc : ByteArray} {nL fr lo mc ms cells slots pc : Nat} {Lv Lv' : List (Option rb_V)} {st : List rb_V} {G : rb_G} {W : rb_I}
theorem rw_getI (C : rb_C Φ own cc nL fr lo mc ms) {r : rb_R} {idx ci k : Nat} {x : Int32} (F : rb_FldR own idx ci k false) (hd : decode cc pc = .ok (.getfield idx, 3)) (hk : rb_k r.1 = ci) (hx : W r k = x) (kk : rb_W Φ cells slots (pc + 3) Lv (rbI x :: st) (wI G W)) : rb_W Φ cells slots pc Lv (rbR r :: st) (wI G W) := by
  subst hx
  exact rb_getI C F hd hk kk
theorem rw_getP (C : rb_C Φ own cc nL fr lo mc ms) {r : rb_R} {idx ci k : Nat} (F : rb_FldR own idx ci k true) (hd : decode cc pc = .ok (.getfield idx, 3)) (hk : rb_k r.1 = ci) {o : Option rb_R} (hv0 : gP G r k = o) (kk : rb_W Φ cells slots (pc + 3) Lv (rbO o :: st) (wI G W)) : rb_W Φ cells slots pc Lv (rbR r :: st) (wI G W) := rb_getP C F hd hk hv0 kk
theorem rw_putI (C : rb_C Φ own cc nL fr lo mc ms) {r : rb_R} {v : Int32} {idx ci k : Nat} {ty : FieldType} (F : rb_Fld own idx ci k false false ty) (hd : decode cc pc = .ok (.putfield idx, 3)) (hk : rb_k r.1 = ci) (hnf : narrow ty (.int v) = .int v ∧ fits ty (.int v) = true) (kk : rb_W Φ cells slots (pc + 3) Lv st (wI G (up2 W r k v))) : rb_W Φ cells slots pc Lv (rbI v :: rbR r :: st) (wI G W) := rb_putI C F hd hk hnf kk
theorem rw_iald (C : rb_C Φ own cc nL fr lo mc ms) {r : rb_R} {i x : Int32} (N j : Nat) (hd : decode cc pc = .ok (.iaload, 1)) (hk : rb_k r.1 = 10) (hN : gN G r = N) (hi : vp_in i N) (hj : i.toNatClampNeg = j) (hx : W r j = x) (kk : rb_W Φ cells slots (pc + 1) Lv (rbI x :: st) (wI G W)) : rb_W Φ cells slots pc Lv (rbI i :: rbR r :: st) (wI G W) := by
  subst hx
  subst hj
  subst hN
  exact rb_iald C hd hk hi kk
theorem rw_zald (C : rb_C Φ own cc nL fr lo mc ms) {r : rb_R} {i x : Int32} (N j : Nat) (hd : decode cc pc = .ok (.baload, 1)) (hk : rb_k r.1 = 11) (hN : gN G r = N) (hi : vp_in i N) (hj : i.toNatClampNeg = j) (hx : W r j = x) (kk : rb_W Φ cells slots (pc + 1) Lv (rbI x :: st) (wI G W)) : rb_W Φ cells slots pc Lv (rbI i :: rbR r :: st) (wI G W) := by
  subst hx
  subst hj
  subst hN
  exact rb_zald C hd hk hi kk
theorem rw_iast (C : rb_C Φ own cc nL fr lo mc ms) {r : rb_R} {i x : Int32} (N j : Nat) (hd : decode cc pc = .ok (.iastore, 1)) (hk : rb_k r.1 = 10) (hN : gN G r = N) (hi : vp_in i N) (hj : i.toNatClampNeg = j) (kk : rb_W Φ cells slots (pc + 1) Lv st (wI G (up2 W r j x))) : rb_W Φ cells slots pc Lv (rbI x :: rbI i :: rbR r :: st) (wI G W) := by
  subst hj
  subst hN
  exact rb_iast C hd hk hi kk
theorem rw_zast (C : rb_C Φ own cc nL fr lo mc ms) {r : rb_R} {i x : Int32} (N j : Nat) (hd : decode cc pc = .ok (.bastore, 1)) (hk : rb_k r.1 = 11) (hN : gN G r = N) (hi : vp_in i N) (hj : i.toNatClampNeg = j) (hz : narrow .boolean (.int x) = .int x) (kk : rb_W Φ cells slots (pc + 1) Lv st (wI G (up2 W r j x))) : rb_W Φ cells slots pc Lv (rbI x :: rbI i :: rbR r :: st) (wI G W) := by
  subst hj
  subst hN
  exact rb_zast C hd hk hi hz kk
theorem rw_alen (C : rb_C Φ own cc nL fr lo mc ms) {r : rb_R} {k : Nat} {x : Int32} (N : Nat) (hd : decode cc pc = .ok (.arraylength, 1)) (hk : rb_k r.1 = k) (h1 : 9 < k) (h2 : k < 16) (hN : gN G r = N) (hx : nI N = x) (kk : rb_W Φ cells slots (pc + 1) Lv (rbI x :: st) (wI G W)) : rb_W Φ cells slots pc Lv (rbR r :: st) (wI G W) := by
  subst hx
  subst hN
  exact rb_alen C hd hk h1 h2 kk
theorem rw_aald (C : rb_C Φ own cc nL fr lo mc ms) {r : rb_R} {i : Int32} {k : Nat} (N j : Nat) (hd : decode cc pc = .ok (.aaload, 1)) (hk : rb_k r.1 = k) (h1 : 12 < k) (h2 : k < 16) (hN : gN G r = N) (hi : vp_in i N) (hj : i.toNatClampNeg = j) {o : Option rb_R} (hv0 : gP G r j = o) (kk : rb_W Φ cells slots (pc + 1) Lv (rbO o :: st) (wI G W)) : rb_W Φ cells slots pc Lv (rbI i :: rbR r :: st) (wI G W) := by
  subst hj
  subst hN
  exact rb_aald C hd hk h1 h2 hi hv0 kk
end
/-- the model's rows -/
def mrl (f : Nat) : rb_R := (if f = 3 ∨ f = 23 then 15 else 14, f, 0)
def mlen (f : Nat) : Nat := [0, 0, 8, 6, 6, 18, 6, 0, 30, 30, 30, 30, 30, 30, 30, 0, 10, 10, 10, 10, 10, 10, 10, 10, 10, 10, 10, 60, 0, 0, 400, 400, 400, 400, 400, 400, 400, 36, 36].getD f 0
def MS (G : rb_G) : Prop := (∀ f, mlen f ≠ 0 → gP G (16, 0, 0) f = some (mrl f)) ∧ ∀ f, mlen f ≠ 0 → gN G (mrl f) = mlen f
theorem nz_ {x : Int32} (h : x = 0 ∨ x = 1) : narrow .boolean (.int x) = .int x := by
  rcases h with rfl | rfl <;> rfl
end
section
def m_in (v : Int32) (low : Int32) (high : Int32) : Int32 := (if v < low then (0 : Int32) else (if high < v then (0 : Int32) else (1 : Int32)))
theorem z_m_in (v : Int32) (low : Int32) (high : Int32) : m_in v low high = 0 ∨ m_in v low high = 1 := by
  unfold m_in
  repeat' split
  all_goals first | exact Or.inl rfl | exact Or.inr rfl
set_option maxRecDepth 100000 in
set_option maxHeartbeats 4000000 in
theorem k_X8_in (l : Launch) (X : rb_X) (G : rb_G) (W : rb_I) (v : Int32) (low : Int32) (high : Int32)  : rb_N l X yX8_in (.code yX8_in cX8_in 3 (some .boolean)) 1 12 0 0 [rbI v, rbI low, rbI high] (wI G W) (fun v9 G9 => v9 = some (rbI (m_in v low high)) ∧ G9 = wI G W) := by
  refine rb_startN RX8 rfl (by decide +kernel) rfl (Nat.le_of_ble_eq_true rfl) ?_
  intro Φ C E nm
  show rb_W Φ 0 0 0 [some (rbI v), some (rbI low), some (rbI high)] [] (wI G W)
  refine rb_iload_n C dX8_in_0 rfl ?_
  refine rb_iload_n C dX8_in_1 rfl ?_
  refine rb_icmp_lt C 14 dX8_in_2 (by decide) (fun h2 => ?_) (fun h2 => ?_)
  · refine rb_iconst C dX8_in_14 (v := 0) (by decide) ?_
    exact rb_zret C E dX8_in_15 (rfl) (Nat.le_of_ble_eq_true rfl) (Nat.le_of_ble_eq_true rfl) (pv_ ((if_pos h2).trans (rfl)))
  · refine rb_iload_n C dX8_in_5 rfl ?_
    refine rb_iload_n C dX8_in_6 rfl ?_
    refine rb_icmp_gt C 14 dX8_in_7 (by decide) (fun h7 => ?_) (fun h7 => ?_)
    · refine rb_iconst C dX8_in_14 (v := 0) (by decide) ?_
      exact rb_zret C E dX8_in_15 (rfl) (Nat.le_of_ble_eq_true rfl) (Nat.le_of_ble_eq_true rfl) (pv_ ((if_neg h2).trans ((if_pos h7).trans (rfl))))
    · refine rb_iconst C dX8_in_10 (v := 1) (by decide) ?_
      refine rb_goto C 15 dX8_in_11 (by decide) ?_
      exact rb_zret C E dX8_in_15 (rfl) (Nat.le_of_ble_eq_true rfl) (Nat.le_of_ble_eq_true rfl) (pv_ ((if_neg h2).trans ((if_neg h7).trans (rfl))))

def m_isNetwork (n : Int32) : Int32 := (m_in n (0 : Int32) (5 : Int32))
theorem z_m_isNetwork (n : Int32) : m_isNetwork n = 0 ∨ m_isNetwork n = 1 := by
  unfold m_isNetwork
  repeat' split
  all_goals first | exact Or.inl rfl | exact Or.inr rfl | exact z_m_in n (0 : Int32) (5 : Int32)
set_option maxRecDepth 100000 in
set_option maxHeartbeats 4000000 in
theorem k_X8_isNetwork (l : Launch) (X : rb_X) (G : rb_G) (W : rb_I) (n : Int32)  : rb_N l X yX8_isNetwork (.code yX8_isNetwork cX8_isNetwork 1 (some .boolean)) 2 34 0 0 [rbI n] (wI G W) (fun v9 G9 => v9 = some (rbI (m_isNetwork n)) ∧ G9 = wI G W) := by
  refine rb_startN RX8 rfl (by decide +kernel) rfl (Nat.le_of_ble_eq_true rfl) ?_
  intro Φ C E nm
  show rb_W Φ 0 0 0 [some (rbI n)] [] (wI G W)
  refine rb_iload_n C dX8_isNetwork_0 rfl ?_
  refine rb_iconst C dX8_isNetwork_1 (v := 0) (by decide) ?_
  refine rb_iconst C dX8_isNetwork_2 (v := 5) (by decide) ?_
  refine rb_callS C M_X8_114 (fun l X => (k_X8_in l X G W n (0 : Int32) (5 : Int32)).m) dX8_isNetwork_3 rfl rfl rfl (Nat.le_of_ble_eq_true rfl) ⟨(Nat.le_of_ble_eq_true rfl), (Nat.le_of_ble_eq_true rfl)⟩ (Nat.le_of_ble_eq_true rfl) (Nat.le_of_ble_eq_true rfl) (fun v G' hp => ?_) (fun _ _ hp => hp.elim)
  obtain ⟨rfl, e9⟩ := hp
  rw [e9]
  clear e9 G'
  exact rb_zret C E dX8_isNetwork_6 (nz_ (z_m_in n (0 : Int32) (5 : Int32))) (Nat.le_of_ble_eq_true rfl) (Nat.le_of_ble_eq_true rfl) (pv_ (rfl))

def m_isPlace (p : Int32) : Int32 := (m_in p (0 : Int32) (7 : Int32))
theorem z_m_isPlace (p : Int32) : m_isPlace p = 0 ∨ m_isPlace p = 1 := by
  unfold m_isPlace
  repeat' split
  all_goals first | exact Or.inl rfl | exact Or.inr rfl | exact z_m_in p (0 : Int32) (7 : Int32)
set_option maxRecDepth 100000 in
set_option maxHeartbeats 4000000 in
theorem k_X8_isPlace (l : Launch) (X : rb_X) (G : rb_G) (W : rb_I) (p : Int32)  : rb_N l X yX8_isPlace (.code yX8_isPlace cX8_isPlace 1 (some .boolean)) 2 34 0 0 [rbI p] (wI G W) (fun v9 G9 => v9 = some (rbI (m_isPlace p)) ∧ G9 = wI G W) := by
  refine rb_startN RX8 rfl (by decide +kernel) rfl (Nat.le_of_ble_eq_true rfl) ?_
  intro Φ C E nm
  show rb_W Φ 0 0 0 [some (rbI p)] [] (wI G W)
  refine rb_iload_n C dX8_isPlace_0 rfl ?_
  refine rb_iconst C dX8_isPlace_1 (v := 0) (by decide) ?_
  refine rb_bipush C dX8_isPlace_2 (v := 7) (by decide) ?_
  refine rb_callS C M_X8_114 (fun l X => (k_X8_in l X G W p (0 : Int32) (7 : Int32)).m) dX8_isPlace_4 rfl rfl rfl (Nat.le_of_ble_eq_true rfl) ⟨(Nat.le_of_ble_eq_true rfl), (Nat.le_of_ble_eq_true rfl)⟩ (Nat.le_of_ble_eq_true rfl) (Nat.le_of_ble_eq_true rfl) (fun v G' hp => ?_) (fun _ _ hp => hp.elim)
  obtain ⟨rfl, e9⟩ := hp
  rw [e9]
  clear e9 G'
  exact rb_zret C E dX8_isPlace_7 (nz_ (z_m_in p (0 : Int32) (7 : Int32))) (Nat.le_of_ble_eq_true rfl) (Nat.le_of_ble_eq_true rfl) (pv_ (rfl))

def m_isIn (a : Int32) (k : Int32) : Int32 := (if ((a >>> (k &&& 31)) &&& 1) = 1 then (1 : Int32) else (0 : Int32))
theorem z_m_isIn (a : Int32) (k : Int32) : m_isIn a k = 0 ∨ m_isIn a k = 1 := by
  unfold m_isIn
  repeat' split
  all_goals first | exact Or.inl rfl | exact Or.inr rfl
set_option maxRecDepth 100000 in
set_option maxHeartbeats 4000000 in
theorem k_X8_isIn (l : Launch) (X : rb_X) (G : rb_G) (W : rb_I) (a : Int32) (k : Int32)  : rb_N l X yX8_isIn (.code yX8_isIn cX8_isIn 2 (some .boolean)) 1 12 0 0 [rbI a, rbI k] (wI G W) (fun v9 G9 => v9 = some (rbI (m_isIn a k)) ∧ G9 = wI G W) := by
  refine rb_startN RX8 rfl (by decide +kernel) rfl (Nat.le_of_ble_eq_true rfl) ?_
  intro Φ C E nm
  show rb_W Φ 0 0 0 [some (rbI a), some (rbI k)] [] (wI G W)
  refine rb_iload_n C dX8_isIn_0 rfl ?_
  refine rb_iload_n C dX8_isIn_1 rfl ?_
  refine rb_ishr C dX8_isIn_2 ?_
  refine rb_iconst C dX8_isIn_3 (v := 1) (by decide) ?_
  refine rb_iand C dX8_isIn_4 ?_
  refine rb_iconst C dX8_isIn_5 (v := 1) (by decide) ?_
  refine rb_icmp_ne C 13 dX8_isIn_6 (by decide) (fun h6 => ?_) (fun h6 => ?_)
  · refine rb_iconst C dX8_isIn_13 (v := 0) (by decide) ?_
    exact rb_zret C E dX8_isIn_14 (rfl) (Nat.le_of_ble_eq_true rfl) (Nat.le_of_ble_eq_true rfl) (pv_ ((if_neg h6).trans (rfl)))
  · refine rb_iconst C dX8_isIn_9 (v := 1) (by decide) ?_
    refine rb_goto C 14 dX8_isIn_10 (by decide) ?_
    exact rb_zret C E dX8_isIn_14 (rfl) (Nat.le_of_ble_eq_true rfl) (Nat.le_of_ble_eq_true rfl) (pv_ ((if_pos h6).trans (rfl)))

def m_isSubscriber (W : rb_I) (s : Int32) : Int32 := (m_in s (0 : Int32) ((W (16, 0, 0) 15) - 1))
theorem z_m_isSubscriber (W : rb_I) (s : Int32) : m_isSubscriber W s = 0 ∨ m_isSubscriber W s = 1 := by
  unfold m_isSubscriber
  repeat' split
  all_goals first | exact Or.inl rfl | exact Or.inr rfl | exact z_m_in s (0 : Int32) ((W (16, 0, 0) 15) - 1)
set_option maxRecDepth 100000 in
set_option maxHeartbeats 4000000 in
theorem k_X8_isSubscriber (l : Launch) (X : rb_X) (G : rb_G) (W : rb_I) (s : Int32)  : rb_N l X yX8_isSubscriber (.code yX8_isSubscriber cX8_isSubscriber 2 (some .boolean)) 2 34 0 0 [rbR (16, 0, 0), rbI s] (wI G W) (fun v9 G9 => v9 = some (rbI (m_isSubscriber W s)) ∧ G9 = wI G W) := by
  refine rb_startN RX8 rfl (by decide +kernel) rfl (Nat.le_of_ble_eq_true rfl) ?_
  intro Φ C E nm
  show rb_W Φ 0 0 0 [some (rbR (16, 0, 0)), some (rbI s)] [] (wI G W)
  refine rb_iload_n C dX8_isSubscriber_0 rfl ?_
  refine rb_iconst C dX8_isSubscriber_1 (v := 0) (by decide) ?_
  refine rb_aload_n C dX8_isSubscriber_2 rfl ?_
  refine rw_getI C FR_X8_118 dX8_isSubscriber_3 rfl (x := (W (16, 0, 0) 15)) (rfl) ?_
  refine rb_iconst C dX8_isSubscriber_6 (v := 1) (by decide) ?_
  refine rb_isub C dX8_isSubscriber_7 ?_
  refine rb_callS C M_X8_114 (fun l X => (k_X8_in l X G W s (0 : Int32) ((W (16, 0, 0) 15) - 1)).m) dX8_isSubscriber_8 rfl rfl rfl (Nat.le_of_ble_eq_true rfl) ⟨(Nat.le_of_ble_eq_true rfl), (Nat.le_of_ble_eq_true rfl)⟩ (Nat.le_of_ble_eq_true rfl) (Nat.le_of_ble_eq_true rfl) (fun v G' hp => ?_) (fun _ _ hp => hp.elim)
  obtain ⟨rfl, e9⟩ := hp
  rw [e9]
  clear e9 G'
  exact rb_zret C E dX8_isSubscriber_11 (nz_ (z_m_in s (0 : Int32) ((W (16, 0, 0) 15) - 1))) (Nat.le_of_ble_eq_true rfl) (Nat.le_of_ble_eq_true rfl) (pv_ (rfl))

def m_thrown (W : rb_I)  : Int32 := (W (16, 0, 0) 0)
set_option maxRecDepth 100000 in
set_option maxHeartbeats 4000000 in
theorem k_X8_thrown (l : Launch) (X : rb_X) (G : rb_G) (W : rb_I)   : rb_N l X yX8_thrown (.code yX8_thrown cX8_thrown 1 (some .int)) 1 12 0 0 [rbR (16, 0, 0)] (wI G W) (fun v9 G9 => v9 = some (rbI (m_thrown W)) ∧ G9 = wI G W) := by
  refine rb_startN RX8 rfl (by decide +kernel) rfl (Nat.le_of_ble_eq_true rfl) ?_
  intro Φ C E nm
  show rb_W Φ 0 0 0 [some (rbR (16, 0, 0))] [] (wI G W)
  refine rb_aload_n C dX8_thrown_0 rfl ?_
  refine rw_getI C FR_X8_110 dX8_thrown_1 rfl (x := (W (16, 0, 0) 0)) (rfl) ?_
  exact rb_iret C E dX8_thrown_4 (Nat.le_of_ble_eq_true rfl) (Nat.le_of_ble_eq_true rfl) (pv_ (rfl))

theorem in_of {v low high : Int32} {n : Nat} (hh : high.toInt < n) (hl : low = 0) (h : ¬ m_in v low high = 0) : vp_in v n := by
  subst hl
  unfold m_in at h
  split at h
  · exact absurd rfl h
  · split at h
    · exact absurd rfl h
    · rename_i h1 h2
      obtain ⟨j, hj, e⟩ := nI_of h1
      subst e
      have h3 : ¬ high.toInt < (nI j).toInt := fun q => h2 (Int32.lt_iff_toInt_lt.mpr q)
      rw [nI_toInt hj] at h3
      intro q
      rcases q with q | q
      · exact h1 q
      · rw [nI_clamp hj] at q
        omega
theorem isNetwork_in {x : Int32} (h : ¬ m_isNetwork x = 0) : vp_in x 6 := in_of (by decide) rfl h
theorem isPlace_in {x : Int32} (h : ¬ m_isPlace x = 0) : vp_in x 8 := in_of (by decide) rfl h
def at6 (x : Int32) : Prop := x = -1 ∨ vp_in x 6
def MI (W : rb_I) : Prop := (∀ s, vp_in (W (14, 16, 0) s) 6) ∧ (∀ s, vp_in (W (14, 17, 0) s) 8) ∧ (∀ s, at6 (W (14, 19, 0) s)) ∧ (∀ s, at6 (W (14, 21, 0) s)) ∧ (∀ n, at6 (W (14, 4, 0) n)) ∧ (∀ r, W (14, 34, 0) r = -1 ∨ vp_in (W (14, 34, 0) r) 30) ∧ vp_in (W (16, 0, 0) 7) 31 ∧ vp_in (W (16, 0, 0) 15) 11 ∧ vp_in (W (16, 0, 0) 28) 201 ∧ vp_in (W (16, 0, 0) 29) 401
theorem isSub_in {W : rb_I} (hM : MI W) {s : Int32} (h : ¬ m_isSubscriber W s = 0) : vp_in s 10 := by
  have hv := hM.2.2.2.2.2.2.2.1
  refine in_of (high := W (16, 0, 0) 15 - 1) ?_ rfl h
  have h1 := vp_in_lt hv
  rw [vp_in_e hv]
  rw [show (1 : Int32) = nI 1 from rfl, pk_sub_toInt (by omega) (by decide)]
  omega
theorem cnt_le {x : Int32} {n : Nat} (h : vp_in x n) : x ≤ nI x.toNatClampNeg := by
  rw [← vp_in_e h]
  exact Int32.le_refl _
theorem cnt_nle {x : Int32} {n i : Nat} (h : vp_in x n) (hn : n < 2 ^ 31) (hi : i < x.toNatClampNeg) : ¬ x ≤ nI i := by
  have h1 := vp_in_lt h
  rw [vp_in_e h]
  exact nI_ge hi (by omega)
theorem mi_thr {W : rb_I} (v : Int32) (hM : MI W) : MI (up2 W (16, 0, 0) 0 v) := by
  unfold MI at *
  simpa [up2] using hM
def m_isAbroad (W : rb_I) (s : Int32) : Int32 := (if (W (14, 19, 0) s.toNatClampNeg) = (W (14, 16, 0) s.toNatClampNeg) then (0 : Int32) else (1 : Int32))
theorem z_m_isAbroad (W : rb_I) (s : Int32) : m_isAbroad W s = 0 ∨ m_isAbroad W s = 1 := by
  unfold m_isAbroad
  repeat' split
  all_goals first | exact Or.inl rfl | exact Or.inr rfl
set_option maxRecDepth 100000 in
set_option maxHeartbeats 4000000 in
theorem k_X8_isAbroad (l : Launch) (X : rb_X) (G : rb_G) (W : rb_I) (s : Int32) (hm : MS G) (hs : vp_in s 10) : rb_N l X yX8_isAbroad (.code yX8_isAbroad cX8_isAbroad 2 (some .boolean)) 1 12 0 0 [rbR (16, 0, 0), rbI s] (wI G W) (fun v9 G9 => v9 = some (rbI (m_isAbroad W s)) ∧ G9 = wI G W) := by
  refine rb_startN RX8 rfl (by decide +kernel) rfl (Nat.le_of_ble_eq_true rfl) ?_
  intro Φ C E nm
  show rb_W Φ 0 0 0 [some (rbR (16, 0, 0)), some (rbI s)] [] (wI G W)
  refine rb_aload_n C dX8_isAbroad_0 rfl ?_
  refine rw_getP C FR_X8_56 dX8_isAbroad_1 rfl (o := some (14, 19, 0)) (hm.1 19 (by decide)) ?_
  refine rb_iload_n C dX8_isAbroad_4 rfl ?_
  refine rw_iald C (x := (W (14, 19, 0) s.toNatClampNeg)) 10 s.toNatClampNeg dX8_isAbroad_5 rfl (hm.2 19 (by decide)) hs rfl (rfl) ?_
  refine rb_aload_n C dX8_isAbroad_6 rfl ?_
  refine rw_getP C FR_X8_47 dX8_isAbroad_7 rfl (o := some (14, 16, 0)) (hm.1 16 (by decide)) ?_
  refine rb_iload_n C dX8_isAbroad_10 rfl ?_
  refine rw_iald C (x := (W (14, 16, 0) s.toNatClampNeg)) 10 s.toNatClampNeg dX8_isAbroad_11 rfl (hm.2 16 (by decide)) hs rfl (rfl) ?_
  refine rb_icmp_eq C 19 dX8_isAbroad_12 (by decide) (fun h12 => ?_) (fun h12 => ?_)
  · refine rb_iconst C dX8_isAbroad_19 (v := 0) (by decide) ?_
    exact rb_zret C E dX8_isAbroad_20 (rfl) (Nat.le_of_ble_eq_true rfl) (Nat.le_of_ble_eq_true rfl) (pv_ ((if_pos h12).trans (rfl)))
  · refine rb_iconst C dX8_isAbroad_15 (v := 1) (by decide) ?_
    refine rb_goto C 20 dX8_isAbroad_16 (by decide) ?_
    exact rb_zret C E dX8_isAbroad_20 (rfl) (Nat.le_of_ble_eq_true rfl) (Nat.le_of_ble_eq_true rfl) (pv_ ((if_neg h12).trans (rfl)))

def m_abroadOf (W : rb_I) (s : Int32) : Int32 := (if (W (14, 25, 0) s.toNatClampNeg) = ((W (16, 0, 0) 1) / (43200)) then (W (14, 26, 0) s.toNatClampNeg) else (0 : Int32))
set_option maxRecDepth 100000 in
set_option maxHeartbeats 4000000 in
theorem k_X8_abroadOf (l : Launch) (X : rb_X) (G : rb_G) (W : rb_I) (s : Int32) (hm : MS G) (hs : vp_in s 10) : rb_N l X yX8_abroadOf (.code yX8_abroadOf cX8_abroadOf 2 (some .int)) 1 12 0 0 [rbR (16, 0, 0), rbI s] (wI G W) (fun v9 G9 => v9 = some (rbI (m_abroadOf W s)) ∧ G9 = wI G W) := by
  refine rb_startN RX8 rfl (by decide +kernel) rfl (Nat.le_of_ble_eq_true rfl) ?_
  intro Φ C E nm
  show rb_W Φ 0 0 0 [some (rbR (16, 0, 0)), some (rbI s)] [] (wI G W)
  refine rb_aload_n C dX8_abroadOf_0 rfl ?_
  refine rw_getP C FR_X8_74 dX8_abroadOf_1 rfl (o := some (14, 25, 0)) (hm.1 25 (by decide)) ?_
  refine rb_iload_n C dX8_abroadOf_4 rfl ?_
  refine rw_iald C (x := (W (14, 25, 0) s.toNatClampNeg)) 10 s.toNatClampNeg dX8_abroadOf_5 rfl (hm.2 25 (by decide)) hs rfl (rfl) ?_
  refine rb_aload_n C dX8_abroadOf_6 rfl ?_
  refine rw_getI C FR_X8_141 dX8_abroadOf_7 rfl (x := (W (16, 0, 0) 1)) (rfl) ?_
  refine rb_ldc C dX8_abroadOf_10 N_X8_160 ?_
  refine rb_idiv C dX8_abroadOf_12 (by decide) ?_
  refine rb_icmp_ne C 25 dX8_abroadOf_13 (by decide) (fun h13 => ?_) (fun h13 => ?_)
  · refine rb_iconst C dX8_abroadOf_25 (v := 0) (by decide) ?_
    exact rb_iret C E dX8_abroadOf_26 (Nat.le_of_ble_eq_true rfl) (Nat.le_of_ble_eq_true rfl) (pv_ ((if_neg h13).trans (rfl)))
  · refine rb_aload_n C dX8_abroadOf_16 rfl ?_
    refine rw_getP C FR_X8_77 dX8_abroadOf_17 rfl (o := some (14, 26, 0)) (hm.1 26 (by decide)) ?_
    refine rb_iload_n C dX8_abroadOf_20 rfl ?_
    refine rw_iald C (x := (W (14, 26, 0) s.toNatClampNeg)) 10 s.toNatClampNeg dX8_abroadOf_21 rfl (hm.2 26 (by decide)) hs rfl (rfl) ?_
    refine rb_goto C 26 dX8_abroadOf_22 (by decide) ?_
    exact rb_iret C E dX8_abroadOf_26 (Nat.le_of_ble_eq_true rfl) (Nat.le_of_ble_eq_true rfl) (pv_ ((if_pos h13).trans (rfl)))

def m_isAbove (W : rb_I) (s : Int32) (money : Int32) : Int32 := (if (m_isAbroad W s) = 0 then (0 : Int32) else (if (W (15, 23, 0) s.toNatClampNeg) = 0 then (if ((m_abroadOf W s) + money) ≤ (W (14, 22, 0) s.toNatClampNeg) then (0 : Int32) else (1 : Int32)) else (0 : Int32)))
theorem z_m_isAbove (W : rb_I) (s : Int32) (money : Int32) : m_isAbove W s money = 0 ∨ m_isAbove W s money = 1 := by
  unfold m_isAbove
  repeat' split
  all_goals first | exact Or.inl rfl | exact Or.inr rfl | exact z_m_isAbroad W s
set_option maxRecDepth 100000 in
set_option maxHeartbeats 4000000 in
theorem k_X8_isAbove (l : Launch) (X : rb_X) (G : rb_G) (W : rb_I) (s : Int32) (money : Int32) (hm : MS G) (hs : vp_in s 10) : rb_N l X yX8_isAbove (.code yX8_isAbove cX8_isAbove 3 (some .boolean)) 2 33 0 0 [rbR (16, 0, 0), rbI s, rbI money] (wI G W) (fun v9 G9 => v9 = some (rbI (m_isAbove W s money)) ∧ G9 = wI G W) := by
  refine rb_startN RX8 rfl (by decide +kernel) rfl (Nat.le_of_ble_eq_true rfl) ?_
  intro Φ C E nm
  show rb_W Φ 0 0 0 [some (rbR (16, 0, 0)), some (rbI s), some (rbI money)] [] (wI G W)
  refine rb_aload_n C dX8_isAbove_0 rfl ?_
  refine rb_iload_n C dX8_isAbove_1 rfl ?_
  refine rb_callV C M_X8_166 (fun l X => (k_X8_isAbroad l X G W s hm hs).m) rfl (Nat.le_of_ble_eq_true rfl) rfl dX8_isAbove_2 rfl rfl rfl (Nat.le_of_ble_eq_true rfl) ⟨(Nat.le_of_ble_eq_true rfl), (Nat.le_of_ble_eq_true rfl)⟩ (Nat.le_of_ble_eq_true rfl) (Nat.le_of_ble_eq_true rfl) (fun v G' hp => ?_) (fun _ _ hp => hp.elim)
  obtain ⟨rfl, e9⟩ := hp
  rw [e9]
  clear e9 G'
  refine rb_if_eq C 37 dX8_isAbove_5 (by decide) (fun h5 => ?_) (fun h5 => ?_)
  · refine rb_iconst C dX8_isAbove_37 (v := 0) (by decide) ?_
    exact rb_zret C E dX8_isAbove_38 (rfl) (Nat.le_of_ble_eq_true rfl) (Nat.le_of_ble_eq_true rfl) (pv_ ((if_pos h5).trans (rfl)))
  · refine rb_aload_n C dX8_isAbove_8 rfl ?_
    refine rw_getP C FR_X8_68 dX8_isAbove_9 rfl (o := some (15, 23, 0)) (hm.1 23 (by decide)) ?_
    refine rb_iload_n C dX8_isAbove_12 rfl ?_
    refine rw_zald C (x := (W (15, 23, 0) s.toNatClampNeg)) 10 s.toNatClampNeg dX8_isAbove_13 rfl (hm.2 23 (by decide)) hs rfl (rfl) ?_
    refine rb_if_ne C 37 dX8_isAbove_14 (by decide) (fun h14 => ?_) (fun h14 => ?_)
    · refine rb_iconst C dX8_isAbove_37 (v := 0) (by decide) ?_
      exact rb_zret C E dX8_isAbove_38 (rfl) (Nat.le_of_ble_eq_true rfl) (Nat.le_of_ble_eq_true rfl) (pv_ ((if_neg h5).trans ((if_neg h14).trans (rfl))))
    · refine rb_aload_n C dX8_isAbove_17 rfl ?_
      refine rb_iload_n C dX8_isAbove_18 rfl ?_
      refine rb_callV C M_X8_161 (fun l X => (k_X8_abroadOf l X G W s hm hs).m) rfl (Nat.le_of_ble_eq_true rfl) rfl dX8_isAbove_19 rfl rfl rfl (Nat.le_of_ble_eq_true rfl) ⟨(Nat.le_of_ble_eq_true rfl), (Nat.le_of_ble_eq_true rfl)⟩ (Nat.le_of_ble_eq_true rfl) (Nat.le_of_ble_eq_true rfl) (fun v G' hp => ?_) (fun _ _ hp => hp.elim)
      obtain ⟨rfl, e9⟩ := hp
      rw [e9]
      clear e9 G'
      refine rb_iload_n C dX8_isAbove_22 rfl ?_
      refine rb_iadd C dX8_isAbove_23 ?_
      refine rb_aload_n C dX8_isAbove_24 rfl ?_
      refine rw_getP C FR_X8_65 dX8_isAbove_25 rfl (o := some (14, 22, 0)) (hm.1 22 (by decide)) ?_
      refine rb_iload_n C dX8_isAbove_28 rfl ?_
      refine rw_iald C (x := (W (14, 22, 0) s.toNatClampNeg)) 10 s.toNatClampNeg dX8_isAbove_29 rfl (hm.2 22 (by decide)) hs rfl (rfl) ?_
      refine rb_icmp_le C 37 dX8_isAbove_30 (by decide) (fun h30 => ?_) (fun h30 => ?_)
      · refine rb_iconst C dX8_isAbove_37 (v := 0) (by decide) ?_
        exact rb_zret C E dX8_isAbove_38 (rfl) (Nat.le_of_ble_eq_true rfl) (Nat.le_of_ble_eq_true rfl) (pv_ ((if_neg h5).trans ((if_pos h14).trans ((if_pos h30).trans (rfl)))))
      · refine rb_iconst C dX8_isAbove_33 (v := 1) (by decide) ?_
        refine rb_goto C 38 dX8_isAbove_34 (by decide) ?_
        exact rb_zret C E dX8_isAbove_38 (rfl) (Nat.le_of_ble_eq_true rfl) (Nat.le_of_ble_eq_true rfl) (pv_ ((if_neg h5).trans ((if_pos h14).trans ((if_neg h30).trans (rfl)))))

def m_isOf (W : rb_I) (r : Int32) (visited : Int32) (its : Int32) : Int32 := (if (W (14, 31, 0) r.toNatClampNeg) = visited then (if (W (14, 30, 0) r.toNatClampNeg) = its then (1 : Int32) else (0 : Int32)) else (0 : Int32))
theorem z_m_isOf (W : rb_I) (r : Int32) (visited : Int32) (its : Int32) : m_isOf W r visited its = 0 ∨ m_isOf W r visited its = 1 := by
  unfold m_isOf
  repeat' split
  all_goals first | exact Or.inl rfl | exact Or.inr rfl
set_option maxRecDepth 100000 in
set_option maxHeartbeats 4000000 in
theorem k_X8_isOf (l : Launch) (X : rb_X) (G : rb_G) (W : rb_I) (r : Int32) (visited : Int32) (its : Int32) (hm : MS G) (hr : vp_in r 400) : rb_N l X yX8_isOf (.code yX8_isOf cX8_isOf 4 (some .boolean)) 1 12 0 0 [rbR (16, 0, 0), rbI r, rbI visited, rbI its] (wI G W) (fun v9 G9 => v9 = some (rbI (m_isOf W r visited its)) ∧ G9 = wI G W) := by
  refine rb_startN RX8 rfl (by decide +kernel) rfl (Nat.le_of_ble_eq_true rfl) ?_
  intro Φ C E nm
  show rb_W Φ 0 0 0 [some (rbR (16, 0, 0)), some (rbI r), some (rbI visited), some (rbI its)] [] (wI G W)
  refine rb_aload_n C dX8_isOf_0 rfl ?_
  refine rw_getP C FR_X8_86 dX8_isOf_1 rfl (o := some (14, 31, 0)) (hm.1 31 (by decide)) ?_
  refine rb_iload_n C dX8_isOf_4 rfl ?_
  refine rw_iald C (x := (W (14, 31, 0) r.toNatClampNeg)) 400 r.toNatClampNeg dX8_isOf_5 rfl (hm.2 31 (by decide)) hr rfl (rfl) ?_
  refine rb_iload_n C dX8_isOf_6 rfl ?_
  refine rb_icmp_ne C 24 dX8_isOf_7 (by decide) (fun h7 => ?_) (fun h7 => ?_)
  · refine rb_iconst C dX8_isOf_24 (v := 0) (by decide) ?_
    exact rb_zret C E dX8_isOf_25 (rfl) (Nat.le_of_ble_eq_true rfl) (Nat.le_of_ble_eq_true rfl) (pv_ ((if_neg h7).trans (rfl)))
  · refine rb_aload_n C dX8_isOf_10 rfl ?_
    refine rw_getP C FR_X8_83 dX8_isOf_11 rfl (o := some (14, 30, 0)) (hm.1 30 (by decide)) ?_
    refine rb_iload_n C dX8_isOf_14 rfl ?_
    refine rw_iald C (x := (W (14, 30, 0) r.toNatClampNeg)) 400 r.toNatClampNeg dX8_isOf_15 rfl (hm.2 30 (by decide)) hr rfl (rfl) ?_
    refine rb_iload_n C dX8_isOf_16 rfl ?_
    refine rb_icmp_ne C 24 dX8_isOf_17 (by decide) (fun h17 => ?_) (fun h17 => ?_)
    · refine rb_iconst C dX8_isOf_24 (v := 0) (by decide) ?_
      exact rb_zret C E dX8_isOf_25 (rfl) (Nat.le_of_ble_eq_true rfl) (Nat.le_of_ble_eq_true rfl) (pv_ ((if_pos h7).trans ((if_neg h17).trans (rfl))))
    · refine rb_iconst C dX8_isOf_20 (v := 1) (by decide) ?_
      refine rb_goto C 25 dX8_isOf_21 (by decide) ?_
      exact rb_zret C E dX8_isOf_25 (rfl) (Nat.le_of_ble_eq_true rfl) (Nat.le_of_ble_eq_true rfl) (pv_ ((if_pos h7).trans ((if_pos h17).trans (rfl))))

def m_nobody (W : rb_I) (s : Int32) (other : Int32) : Int32 := (if (W (14, 19, 0) s.toNatClampNeg) = (-1) then (1 : Int32) else (if (W (14, 21, 0) other.toNatClampNeg) = (-1) then (2 : Int32) else (if (W (14, 27, 0) (10 * (W (14, 21, 0) other.toNatClampNeg).toNatClampNeg + other.toNatClampNeg)) = (-1) then (3 : Int32) else (if (W (14, 19, 0) other.toNatClampNeg) = (W (14, 21, 0) other.toNatClampNeg) then (0 : Int32) else (4 : Int32)))))
set_option maxRecDepth 100000 in
set_option maxHeartbeats 4000000 in
theorem k_X8_nobody (l : Launch) (X : rb_X) (G : rb_G) (W : rb_I) (s : Int32) (other : Int32) (hm : MS G) (hM : MI W) (hs : vp_in s 10) (ho : vp_in other 10) : rb_N l X yX8_nobody (.code yX8_nobody cX8_nobody 3 (some .int)) 1 12 0 0 [rbR (16, 0, 0), rbI s, rbI other] (wI G W) (fun v9 G9 => v9 = some (rbI (m_nobody W s other)) ∧ G9 = wI G W) := by
  refine rb_startN RX8 rfl (by decide +kernel) rfl (Nat.le_of_ble_eq_true rfl) ?_
  intro Φ C E nm
  show rb_W Φ 0 0 0 [some (rbR (16, 0, 0)), some (rbI s), some (rbI other)] [] (wI G W)
  refine rb_aload_n C dX8_nobody_0 rfl ?_
  refine rw_getP C FR_X8_56 dX8_nobody_1 rfl (o := some (14, 19, 0)) (hm.1 19 (by decide)) ?_
  refine rb_iload_n C dX8_nobody_4 rfl ?_
  refine rw_iald C (x := (W (14, 19, 0) s.toNatClampNeg)) 10 s.toNatClampNeg dX8_nobody_5 rfl (hm.2 19 (by decide)) hs rfl (rfl) ?_
  refine rb_iconst C dX8_nobody_6 (v := (-1)) (by decide) ?_
  refine rb_icmp_ne C 12 dX8_nobody_7 (by decide) (fun h7 => ?_) (fun h7 => ?_)
  · refine rb_aload_n C dX8_nobody_12 rfl ?_
    refine rw_getP C FR_X8_62 dX8_nobody_13 rfl (o := some (14, 21, 0)) (hm.1 21 (by decide)) ?_
    refine rb_iload_n C dX8_nobody_16 rfl ?_
    refine rw_iald C (x := (W (14, 21, 0) other.toNatClampNeg)) 10 other.toNatClampNeg dX8_nobody_17 rfl (hm.2 21 (by decide)) ho rfl (rfl) ?_
    refine rb_iconst C dX8_nobody_18 (v := (-1)) (by decide) ?_
    refine rb_icmp_ne C 24 dX8_nobody_19 (by decide) (fun h19 => ?_) (fun h19 => ?_)
    · refine rb_aload_n C dX8_nobody_24 rfl ?_
      refine rw_getP C FR_X8_80 dX8_nobody_25 rfl (o := some (14, 27, 0)) (hm.1 27 (by decide)) ?_
      refine rb_bipush C dX8_nobody_28 (v := 10) (by decide) ?_
      refine rb_aload_n C dX8_nobody_30 rfl ?_
      refine rw_getP C FR_X8_62 dX8_nobody_31 rfl (o := some (14, 21, 0)) (hm.1 21 (by decide)) ?_
      refine rb_iload_n C dX8_nobody_34 rfl ?_
      refine rw_iald C (x := (W (14, 21, 0) other.toNatClampNeg)) 10 other.toNatClampNeg dX8_nobody_35 rfl (hm.2 21 (by decide)) ho rfl (rfl) ?_
      refine rb_imul C dX8_nobody_36 ?_
      refine rb_iload_n C dX8_nobody_37 rfl ?_
      refine rb_iadd C dX8_nobody_38 ?_
      refine rw_iald C (x := (W (14, 27, 0) (10 * (W (14, 21, 0) other.toNatClampNeg).toNatClampNeg + other.toNatClampNeg))) 60 (10 * (W (14, 21, 0) other.toNatClampNeg).toNatClampNeg + other.toNatClampNeg) dX8_nobody_39 rfl (hm.2 27 (by decide)) (ix_lin (N := 60) 10 10 rfl ((hM.2.2.2.1 other.toNatClampNeg).resolve_left h19) ho (by decide) (by decide) (by decide)).1 ((ix_lin (N := 60) 10 10 rfl ((hM.2.2.2.1 other.toNatClampNeg).resolve_left h19) ho (by decide) (by decide) (by decide)).2.trans (by rw [(show ((W (14, 21, 0) other.toNatClampNeg)).toNatClampNeg = (W (14, 21, 0) other.toNatClampNeg).toNatClampNeg from rfl), (show (other).toNatClampNeg = other.toNatClampNeg from rfl)])) (rfl) ?_
      refine rb_iconst C dX8_nobody_40 (v := (-1)) (by decide) ?_
      refine rb_icmp_ne C 48 dX8_nobody_41 (by decide) (fun h41 => ?_) (fun h41 => ?_)
      · refine rb_aload_n C dX8_nobody_48 rfl ?_
        refine rw_getP C FR_X8_56 dX8_nobody_49 rfl (o := some (14, 19, 0)) (hm.1 19 (by decide)) ?_
        refine rb_iload_n C dX8_nobody_52 rfl ?_
        refine rw_iald C (x := (W (14, 19, 0) other.toNatClampNeg)) 10 other.toNatClampNeg dX8_nobody_53 rfl (hm.2 19 (by decide)) ho rfl (rfl) ?_
        refine rb_aload_n C dX8_nobody_54 rfl ?_
        refine rw_getP C FR_X8_62 dX8_nobody_55 rfl (o := some (14, 21, 0)) (hm.1 21 (by decide)) ?_
        refine rb_iload_n C dX8_nobody_58 rfl ?_
        refine rw_iald C (x := (W (14, 21, 0) other.toNatClampNeg)) 10 other.toNatClampNeg dX8_nobody_59 rfl (hm.2 21 (by decide)) ho rfl (rfl) ?_
        refine rb_icmp_eq C 67 dX8_nobody_60 (by decide) (fun h60 => ?_) (fun h60 => ?_)
        · refine rb_iconst C dX8_nobody_67 (v := 0) (by decide) ?_
          exact rb_iret C E dX8_nobody_68 (Nat.le_of_ble_eq_true rfl) (Nat.le_of_ble_eq_true rfl) (pv_ ((if_neg h7).trans ((if_neg h19).trans ((if_neg h41).trans ((if_pos h60).trans (rfl))))))
        · refine rb_iconst C dX8_nobody_63 (v := 4) (by decide) ?_
          refine rb_goto C 68 dX8_nobody_64 (by decide) ?_
          exact rb_iret C E dX8_nobody_68 (Nat.le_of_ble_eq_true rfl) (Nat.le_of_ble_eq_true rfl) (pv_ ((if_neg h7).trans ((if_neg h19).trans ((if_neg h41).trans ((if_neg h60).trans (rfl))))))
      · refine rb_iconst C dX8_nobody_44 (v := 3) (by decide) ?_
        refine rb_goto C 68 dX8_nobody_45 (by decide) ?_
        exact rb_iret C E dX8_nobody_68 (Nat.le_of_ble_eq_true rfl) (Nat.le_of_ble_eq_true rfl) (pv_ ((if_neg h7).trans ((if_neg h19).trans ((if_pos h41).trans (rfl)))))
    · refine rb_iconst C dX8_nobody_22 (v := 2) (by decide) ?_
      exact rb_iret C E dX8_nobody_23 (Nat.le_of_ble_eq_true rfl) (Nat.le_of_ble_eq_true rfl) (pv_ ((if_neg h7).trans ((if_pos h19).trans (rfl))))
  · refine rb_iconst C dX8_nobody_10 (v := 1) (by decide) ?_
    exact rb_iret C E dX8_nobody_11 (Nat.le_of_ble_eq_true rfl) (Nat.le_of_ble_eq_true rfl) (pv_ ((if_pos h7).trans (rfl)))

def m_priceOf (W : rb_I) (a : Int32) (all : Int32) : Int32 := (if a = (-1) then (0 : Int32) else (if (W (14, 13, 0) a.toNatClampNeg) ≤ 0 then (W (14, 12, 0) a.toNatClampNeg) else (if all < (W (14, 13, 0) a.toNatClampNeg) then (W (14, 12, 0) a.toNatClampNeg) else (W (14, 14, 0) a.toNatClampNeg))))
set_option maxRecDepth 100000 in
set_option maxHeartbeats 4000000 in
theorem k_X8_priceOf (l : Launch) (X : rb_X) (G : rb_G) (W : rb_I) (a : Int32) (all : Int32) (hm : MS G) (ha : a = -1 ∨ vp_in a 30) : rb_N l X yX8_priceOf (.code yX8_priceOf cX8_priceOf 3 (some .int)) 1 12 0 0 [rbR (16, 0, 0), rbI a, rbI all] (wI G W) (fun v9 G9 => v9 = some (rbI (m_priceOf W a all)) ∧ G9 = wI G W) := by
  refine rb_startN RX8 rfl (by decide +kernel) rfl (Nat.le_of_ble_eq_true rfl) ?_
  intro Φ C E nm
  show rb_W Φ 0 0 0 [some (rbR (16, 0, 0)), some (rbI a), some (rbI all)] [] (wI G W)
  refine rb_iload_n C dX8_priceOf_0 rfl ?_
  refine rb_iconst C dX8_priceOf_1 (v := (-1)) (by decide) ?_
  refine rb_icmp_ne C 7 dX8_priceOf_2 (by decide) (fun h2 => ?_) (fun h2 => ?_)
  · refine rb_aload_n C dX8_priceOf_7 rfl ?_
    refine rw_getP C FR_X8_41 dX8_priceOf_8 rfl (o := some (14, 13, 0)) (hm.1 13 (by decide)) ?_
    refine rb_iload_n C dX8_priceOf_11 rfl ?_
    refine rw_iald C (x := (W (14, 13, 0) a.toNatClampNeg)) 30 a.toNatClampNeg dX8_priceOf_12 rfl (hm.2 13 (by decide)) (ha.resolve_left h2) rfl (rfl) ?_
    refine rb_if_le C 35 dX8_priceOf_13 (by decide) (fun h13 => ?_) (fun h13 => ?_)
    · refine rb_aload_n C dX8_priceOf_35 rfl ?_
      refine rw_getP C FR_X8_38 dX8_priceOf_36 rfl (o := some (14, 12, 0)) (hm.1 12 (by decide)) ?_
      refine rb_iload_n C dX8_priceOf_39 rfl ?_
      refine rw_iald C (x := (W (14, 12, 0) a.toNatClampNeg)) 30 a.toNatClampNeg dX8_priceOf_40 rfl (hm.2 12 (by decide)) (ha.resolve_left h2) rfl (rfl) ?_
      exact rb_iret C E dX8_priceOf_41 (Nat.le_of_ble_eq_true rfl) (Nat.le_of_ble_eq_true rfl) (pv_ ((if_neg h2).trans ((if_pos h13).trans (rfl))))
    · refine rb_iload_n C dX8_priceOf_16 rfl ?_
      refine rb_aload_n C dX8_priceOf_17 rfl ?_
      refine rw_getP C FR_X8_41 dX8_priceOf_18 rfl (o := some (14, 13, 0)) (hm.1 13 (by decide)) ?_
      refine rb_iload_n C dX8_priceOf_21 rfl ?_
      refine rw_iald C (x := (W (14, 13, 0) a.toNatClampNeg)) 30 a.toNatClampNeg dX8_priceOf_22 rfl (hm.2 13 (by decide)) (ha.resolve_left h2) rfl (rfl) ?_
      refine rb_icmp_lt C 35 dX8_priceOf_23 (by decide) (fun h23 => ?_) (fun h23 => ?_)
      · refine rb_aload_n C dX8_priceOf_35 rfl ?_
        refine rw_getP C FR_X8_38 dX8_priceOf_36 rfl (o := some (14, 12, 0)) (hm.1 12 (by decide)) ?_
        refine rb_iload_n C dX8_priceOf_39 rfl ?_
        refine rw_iald C (x := (W (14, 12, 0) a.toNatClampNeg)) 30 a.toNatClampNeg dX8_priceOf_40 rfl (hm.2 12 (by decide)) (ha.resolve_left h2) rfl (rfl) ?_
        exact rb_iret C E dX8_priceOf_41 (Nat.le_of_ble_eq_true rfl) (Nat.le_of_ble_eq_true rfl) (pv_ ((if_neg h2).trans ((if_neg h13).trans ((if_pos h23).trans (rfl)))))
      · refine rb_aload_n C dX8_priceOf_26 rfl ?_
        refine rw_getP C FR_X8_44 dX8_priceOf_27 rfl (o := some (14, 14, 0)) (hm.1 14 (by decide)) ?_
        refine rb_iload_n C dX8_priceOf_30 rfl ?_
        refine rw_iald C (x := (W (14, 14, 0) a.toNatClampNeg)) 30 a.toNatClampNeg dX8_priceOf_31 rfl (hm.2 14 (by decide)) (ha.resolve_left h2) rfl (rfl) ?_
        refine rb_goto C 41 dX8_priceOf_32 (by decide) ?_
        exact rb_iret C E dX8_priceOf_41 (Nat.le_of_ble_eq_true rfl) (Nat.le_of_ble_eq_true rfl) (pv_ ((if_neg h2).trans ((if_neg h13).trans ((if_neg h23).trans (rfl)))))
  · refine rb_iconst C dX8_priceOf_5 (v := 0) (by decide) ?_
    exact rb_iret C E dX8_priceOf_6 (Nat.le_of_ble_eq_true rfl) (Nat.le_of_ble_eq_true rfl) (pv_ ((if_pos h2).trans (rfl)))

def m_pays (W : rb_I) (s : Int32) (money : Int32) : rb_I := (if (m_isAbroad (up2 W (14, 24, 0) s.toNatClampNeg ((W (14, 24, 0) s.toNatClampNeg) + money)) s) = 0 then (up2 W (14, 24, 0) s.toNatClampNeg ((W (14, 24, 0) s.toNatClampNeg) + money)) else (up2 (up2 (up2 W (14, 24, 0) s.toNatClampNeg ((W (14, 24, 0) s.toNatClampNeg) + money)) (14, 26, 0) s.toNatClampNeg ((m_abroadOf (up2 W (14, 24, 0) s.toNatClampNeg ((W (14, 24, 0) s.toNatClampNeg) + money)) s) + money)) (14, 25, 0) s.toNatClampNeg ((W (16, 0, 0) 1) / (43200))))
set_option maxRecDepth 100000 in
set_option maxHeartbeats 4000000 in
theorem k_X8_pays (l : Launch) (X : rb_X) (G : rb_G) (W : rb_I) (s : Int32) (money : Int32) (hm : MS G) (hs : vp_in s 10) : rb_N l X yX8_pays (.code yX8_pays cX8_pays 3 none) 2 33 0 0 [rbR (16, 0, 0), rbI s, rbI money] (wI G W) (fun v9 G9 => v9 = none ∧ G9 = wI G (m_pays W s money)) := by
  refine rb_startN RX8 rfl (by decide +kernel) rfl (Nat.le_of_ble_eq_true rfl) ?_
  intro Φ C E nm
  show rb_W Φ 0 0 0 [some (rbR (16, 0, 0)), some (rbI s), some (rbI money)] [] (wI G W)
  refine rb_aload_n C dX8_pays_0 rfl ?_
  refine rw_getP C FR_X8_71 dX8_pays_1 rfl (o := some (14, 24, 0)) (hm.1 24 (by decide)) ?_
  refine rb_iload_n C dX8_pays_4 rfl ?_
  refine rb_dup2 C dX8_pays_5 rfl rfl ?_
  refine rw_iald C (x := (W (14, 24, 0) s.toNatClampNeg)) 10 s.toNatClampNeg dX8_pays_6 rfl (hm.2 24 (by decide)) hs rfl (rfl) ?_
  refine rb_iload_n C dX8_pays_7 rfl ?_
  refine rb_iadd C dX8_pays_8 ?_
  refine rw_iast C 10 s.toNatClampNeg dX8_pays_9 rfl (hm.2 24 (by decide)) hs rfl ?_
  refine rb_aload_n C dX8_pays_10 rfl ?_
  refine rb_iload_n C dX8_pays_11 rfl ?_
  refine rb_callV C M_X8_166 (fun l X => (k_X8_isAbroad l X G (up2 W (14, 24, 0) s.toNatClampNeg ((W (14, 24, 0) s.toNatClampNeg) + money)) s hm hs).m) rfl (Nat.le_of_ble_eq_true rfl) rfl dX8_pays_12 rfl rfl rfl (Nat.le_of_ble_eq_true rfl) ⟨(Nat.le_of_ble_eq_true rfl), (Nat.le_of_ble_eq_true rfl)⟩ (Nat.le_of_ble_eq_true rfl) (Nat.le_of_ble_eq_true rfl) (fun v G' hp => ?_) (fun _ _ hp => hp.elim)
  obtain ⟨rfl, e9⟩ := hp
  rw [e9]
  clear e9 G'
  refine rb_if_eq C 44 dX8_pays_15 (by decide) (fun h15 => ?_) (fun h15 => ?_)
  · exact rb_vret C E dX8_pays_44 (Nat.le_of_ble_eq_true rfl) (Nat.le_of_ble_eq_true rfl) (pw_ ((if_pos h15).trans (rfl)))
  · refine rb_aload_n C dX8_pays_18 rfl ?_
    refine rw_getP C FR_X8_77 dX8_pays_19 rfl (o := some (14, 26, 0)) (hm.1 26 (by decide)) ?_
    refine rb_iload_n C dX8_pays_22 rfl ?_
    refine rb_aload_n C dX8_pays_23 rfl ?_
    refine rb_iload_n C dX8_pays_24 rfl ?_
    refine rb_callV C M_X8_161 (fun l X => (k_X8_abroadOf l X G (up2 W (14, 24, 0) s.toNatClampNeg ((W (14, 24, 0) s.toNatClampNeg) + money)) s hm hs).m) rfl (Nat.le_of_ble_eq_true rfl) rfl dX8_pays_25 rfl rfl rfl (Nat.le_of_ble_eq_true rfl) ⟨(Nat.le_of_ble_eq_true rfl), (Nat.le_of_ble_eq_true rfl)⟩ (Nat.le_of_ble_eq_true rfl) (Nat.le_of_ble_eq_true rfl) (fun v G' hp => ?_) (fun _ _ hp => hp.elim)
    obtain ⟨rfl, e9⟩ := hp
    rw [e9]
    clear e9 G'
    refine rb_iload_n C dX8_pays_28 rfl ?_
    refine rb_iadd C dX8_pays_29 ?_
    refine rw_iast C 10 s.toNatClampNeg dX8_pays_30 rfl (hm.2 26 (by decide)) hs rfl ?_
    refine rb_aload_n C dX8_pays_31 rfl ?_
    refine rw_getP C FR_X8_74 dX8_pays_32 rfl (o := some (14, 25, 0)) (hm.1 25 (by decide)) ?_
    refine rb_iload_n C dX8_pays_35 rfl ?_
    refine rb_aload_n C dX8_pays_36 rfl ?_
    refine rw_getI C FR_X8_141 dX8_pays_37 rfl (x := (W (16, 0, 0) 1)) ((up2_n _ _ _ _ (fun q => absurd (congrArg Prod.fst q.1) (show ¬ ((16 : Nat) = 14) by decide))).trans ((up2_n _ _ _ _ (fun q => absurd (congrArg Prod.fst q.1) (show ¬ ((16 : Nat) = 14) by decide))).trans (rfl))) ?_
    refine rb_ldc C dX8_pays_40 N_X8_160 ?_
    refine rb_idiv C dX8_pays_42 (by decide) ?_
    refine rw_iast C 10 s.toNatClampNeg dX8_pays_43 rfl (hm.2 25 (by decide)) hs rfl ?_
    exact rb_vret C E dX8_pays_44 (Nat.le_of_ble_eq_true rfl) (Nat.le_of_ble_eq_true rfl) (pw_ ((if_neg h15).trans (rfl)))

def m_makesContact (W : rb_I) (s : Int32) : rb_I := (if (W (14, 6, 0) (W (14, 19, 0) s.toNatClampNeg).toNatClampNeg) ≤ 0 then (if (W (14, 21, 0) s.toNatClampNeg) = (-1) then (up2 (up2 W (14, 27, 0) (10 * (W (14, 19, 0) s.toNatClampNeg).toNatClampNeg + s.toNatClampNeg) (W (16, 0, 0) 1)) (14, 21, 0) s.toNatClampNeg (W (14, 19, 0) s.toNatClampNeg)) else (if (W (14, 21, 0) s.toNatClampNeg) = (W (14, 19, 0) s.toNatClampNeg) then (up2 (up2 W (14, 27, 0) (10 * (W (14, 19, 0) s.toNatClampNeg).toNatClampNeg + s.toNatClampNeg) (W (16, 0, 0) 1)) (14, 21, 0) s.toNatClampNeg (W (14, 19, 0) s.toNatClampNeg)) else (up2 (up2 (up2 W (14, 27, 0) (10 * (W (14, 19, 0) s.toNatClampNeg).toNatClampNeg + s.toNatClampNeg) (W (16, 0, 0) 1)) (14, 27, 0) (10 * (W (14, 21, 0) s.toNatClampNeg).toNatClampNeg + s.toNatClampNeg) (-1)) (14, 21, 0) s.toNatClampNeg (W (14, 19, 0) s.toNatClampNeg)))) else (up2 (up2 W (14, 27, 0) (10 * (W (14, 19, 0) s.toNatClampNeg).toNatClampNeg + s.toNatClampNeg) (W (16, 0, 0) 1)) (14, 6, 0) (W (14, 19, 0) s.toNatClampNeg).toNatClampNeg ((W (14, 6, 0) (W (14, 19, 0) s.toNatClampNeg).toNatClampNeg) - 1)))
set_option maxRecDepth 100000 in
set_option maxHeartbeats 4000000 in
theorem k_X8_makesContact (l : Launch) (X : rb_X) (G : rb_G) (W : rb_I) (s : Int32) (hm : MS G) (hM : MI W) (hs : vp_in s 10) (ha : ¬ W (14, 19, 0) s.toNatClampNeg = -1) : rb_N l X yX8_makesContact (.code yX8_makesContact cX8_makesContact 3 none) 1 12 0 0 [rbR (16, 0, 0), rbI s] (wI G W) (fun v9 G9 => v9 = none ∧ G9 = wI G (m_makesContact W s)) := by
  refine rb_startN RX8 rfl (by decide +kernel) rfl (Nat.le_of_ble_eq_true rfl) ?_
  intro Φ C E nm
  show rb_W Φ 0 0 0 [some (rbR (16, 0, 0)), some (rbI s), none] [] (wI G W)
  refine rb_aload_n C dX8_makesContact_0 rfl ?_
  refine rw_getP C FR_X8_56 dX8_makesContact_1 rfl (o := some (14, 19, 0)) (hm.1 19 (by decide)) ?_
  refine rb_iload_n C dX8_makesContact_4 rfl ?_
  refine rw_iald C (x := (W (14, 19, 0) s.toNatClampNeg)) 10 s.toNatClampNeg dX8_makesContact_5 rfl (hm.2 19 (by decide)) hs rfl (rfl) ?_
  refine rb_istore_n C dX8_makesContact_6 (Nat.le_of_ble_eq_true rfl) rfl (Lv' := [_, _, _]) rfl ?_
  refine rb_aload_n C dX8_makesContact_7 rfl ?_
  refine rw_getP C FR_X8_80 dX8_makesContact_8 rfl (o := some (14, 27, 0)) (hm.1 27 (by decide)) ?_
  refine rb_bipush C dX8_makesContact_11 (v := 10) (by decide) ?_
  refine rb_iload_n C dX8_makesContact_13 rfl ?_
  refine rb_imul C dX8_makesContact_14 ?_
  refine rb_iload_n C dX8_makesContact_15 rfl ?_
  refine rb_iadd C dX8_makesContact_16 ?_
  refine rb_aload_n C dX8_makesContact_17 rfl ?_
  refine rw_getI C FR_X8_141 dX8_makesContact_18 rfl (x := (W (16, 0, 0) 1)) (rfl) ?_
  refine rw_iast C 60 (10 * (W (14, 19, 0) s.toNatClampNeg).toNatClampNeg + s.toNatClampNeg) dX8_makesContact_21 rfl (hm.2 27 (by decide)) (ix_lin (N := 60) 10 10 rfl ((hM.2.2.1 s.toNatClampNeg).resolve_left ha) hs (by decide) (by decide) (by decide)).1 ((ix_lin (N := 60) 10 10 rfl ((hM.2.2.1 s.toNatClampNeg).resolve_left ha) hs (by decide) (by decide) (by decide)).2.trans (by rw [(show ((W (14, 19, 0) s.toNatClampNeg)).toNatClampNeg = (W (14, 19, 0) s.toNatClampNeg).toNatClampNeg from rfl), (show (s).toNatClampNeg = s.toNatClampNeg from rfl)])) ?_
  refine rb_aload_n C dX8_makesContact_22 rfl ?_
  refine rw_getP C FR_X8_23 dX8_makesContact_23 rfl (o := some (14, 6, 0)) (hm.1 6 (by decide)) ?_
  refine rb_iload_n C dX8_makesContact_26 rfl ?_
  refine rw_iald C (x := (W (14, 6, 0) (W (14, 19, 0) s.toNatClampNeg).toNatClampNeg)) 6 (W (14, 19, 0) s.toNatClampNeg).toNatClampNeg dX8_makesContact_27 rfl (hm.2 6 (by decide)) ((hM.2.2.1 s.toNatClampNeg).resolve_left ha) rfl ((up2_n _ _ _ _ (fun q => absurd (congrArg (fun r : rb_R => r.2.1) q.1) (show ¬ ((6 : Nat) = 27) by decide))).trans (rfl)) ?_
  refine rb_if_le C 42 dX8_makesContact_28 (by decide) (fun h28 => ?_) (fun h28 => ?_)
  · refine rb_aload_n C dX8_makesContact_42 rfl ?_
    refine rw_getP C FR_X8_62 dX8_makesContact_43 rfl (o := some (14, 21, 0)) (hm.1 21 (by decide)) ?_
    refine rb_iload_n C dX8_makesContact_46 rfl ?_
    refine rw_iald C (x := (W (14, 21, 0) s.toNatClampNeg)) 10 s.toNatClampNeg dX8_makesContact_47 rfl (hm.2 21 (by decide)) hs rfl ((up2_n _ _ _ _ (fun q => absurd (congrArg (fun r : rb_R => r.2.1) q.1) (show ¬ ((21 : Nat) = 27) by decide))).trans (rfl)) ?_
    refine rb_iconst C dX8_makesContact_48 (v := (-1)) (by decide) ?_
    refine rb_icmp_eq C 79 dX8_makesContact_49 (by decide) (fun h49 => ?_) (fun h49 => ?_)
    · refine rb_aload_n C dX8_makesContact_79 rfl ?_
      refine rw_getP C FR_X8_62 dX8_makesContact_80 rfl (o := some (14, 21, 0)) (hm.1 21 (by decide)) ?_
      refine rb_iload_n C dX8_makesContact_83 rfl ?_
      refine rb_iload_n C dX8_makesContact_84 rfl ?_
      refine rw_iast C 10 s.toNatClampNeg dX8_makesContact_85 rfl (hm.2 21 (by decide)) hs rfl ?_
      exact rb_vret C E dX8_makesContact_86 (Nat.le_of_ble_eq_true rfl) (Nat.le_of_ble_eq_true rfl) (pw_ ((if_pos h28).trans ((if_pos h49).trans (rfl))))
    · refine rb_aload_n C dX8_makesContact_52 rfl ?_
      refine rw_getP C FR_X8_62 dX8_makesContact_53 rfl (o := some (14, 21, 0)) (hm.1 21 (by decide)) ?_
      refine rb_iload_n C dX8_makesContact_56 rfl ?_
      refine rw_iald C (x := (W (14, 21, 0) s.toNatClampNeg)) 10 s.toNatClampNeg dX8_makesContact_57 rfl (hm.2 21 (by decide)) hs rfl ((up2_n _ _ _ _ (fun q => absurd (congrArg (fun r : rb_R => r.2.1) q.1) (show ¬ ((21 : Nat) = 27) by decide))).trans (rfl)) ?_
      refine rb_iload_n C dX8_makesContact_58 rfl ?_
      refine rb_icmp_eq C 79 dX8_makesContact_59 (by decide) (fun h59 => ?_) (fun h59 => ?_)
      · refine rb_aload_n C dX8_makesContact_79 rfl ?_
        refine rw_getP C FR_X8_62 dX8_makesContact_80 rfl (o := some (14, 21, 0)) (hm.1 21 (by decide)) ?_
        refine rb_iload_n C dX8_makesContact_83 rfl ?_
        refine rb_iload_n C dX8_makesContact_84 rfl ?_
        refine rw_iast C 10 s.toNatClampNeg dX8_makesContact_85 rfl (hm.2 21 (by decide)) hs rfl ?_
        exact rb_vret C E dX8_makesContact_86 (Nat.le_of_ble_eq_true rfl) (Nat.le_of_ble_eq_true rfl) (pw_ ((if_pos h28).trans ((if_neg h49).trans ((if_pos h59).trans (rfl)))))
      · refine rb_aload_n C dX8_makesContact_62 rfl ?_
        refine rw_getP C FR_X8_80 dX8_makesContact_63 rfl (o := some (14, 27, 0)) (hm.1 27 (by decide)) ?_
        refine rb_bipush C dX8_makesContact_66 (v := 10) (by decide) ?_
        refine rb_aload_n C dX8_makesContact_68 rfl ?_
        refine rw_getP C FR_X8_62 dX8_makesContact_69 rfl (o := some (14, 21, 0)) (hm.1 21 (by decide)) ?_
        refine rb_iload_n C dX8_makesContact_72 rfl ?_
        refine rw_iald C (x := (W (14, 21, 0) s.toNatClampNeg)) 10 s.toNatClampNeg dX8_makesContact_73 rfl (hm.2 21 (by decide)) hs rfl ((up2_n _ _ _ _ (fun q => absurd (congrArg (fun r : rb_R => r.2.1) q.1) (show ¬ ((21 : Nat) = 27) by decide))).trans (rfl)) ?_
        refine rb_imul C dX8_makesContact_74 ?_
        refine rb_iload_n C dX8_makesContact_75 rfl ?_
        refine rb_iadd C dX8_makesContact_76 ?_
        refine rb_iconst C dX8_makesContact_77 (v := (-1)) (by decide) ?_
        refine rw_iast C 60 (10 * (W (14, 21, 0) s.toNatClampNeg).toNatClampNeg + s.toNatClampNeg) dX8_makesContact_78 rfl (hm.2 27 (by decide)) (ix_lin (N := 60) 10 10 rfl ((hM.2.2.2.1 s.toNatClampNeg).resolve_left h49) hs (by decide) (by decide) (by decide)).1 ((ix_lin (N := 60) 10 10 rfl ((hM.2.2.2.1 s.toNatClampNeg).resolve_left h49) hs (by decide) (by decide) (by decide)).2.trans (by rw [(show ((W (14, 21, 0) s.toNatClampNeg)).toNatClampNeg = (W (14, 21, 0) s.toNatClampNeg).toNatClampNeg from rfl), (show (s).toNatClampNeg = s.toNatClampNeg from rfl)])) ?_
        refine rb_aload_n C dX8_makesContact_79 rfl ?_
        refine rw_getP C FR_X8_62 dX8_makesContact_80 rfl (o := some (14, 21, 0)) (hm.1 21 (by decide)) ?_
        refine rb_iload_n C dX8_makesContact_83 rfl ?_
        refine rb_iload_n C dX8_makesContact_84 rfl ?_
        refine rw_iast C 10 s.toNatClampNeg dX8_makesContact_85 rfl (hm.2 21 (by decide)) hs rfl ?_
        exact rb_vret C E dX8_makesContact_86 (Nat.le_of_ble_eq_true rfl) (Nat.le_of_ble_eq_true rfl) (pw_ ((if_pos h28).trans ((if_neg h49).trans ((if_neg h59).trans (rfl)))))
  · refine rb_aload_n C dX8_makesContact_31 rfl ?_
    refine rw_getP C FR_X8_23 dX8_makesContact_32 rfl (o := some (14, 6, 0)) (hm.1 6 (by decide)) ?_
    refine rb_iload_n C dX8_makesContact_35 rfl ?_
    refine rb_dup2 C dX8_makesContact_36 rfl rfl ?_
    refine rw_iald C (x := (W (14, 6, 0) (W (14, 19, 0) s.toNatClampNeg).toNatClampNeg)) 6 (W (14, 19, 0) s.toNatClampNeg).toNatClampNeg dX8_makesContact_37 rfl (hm.2 6 (by decide)) ((hM.2.2.1 s.toNatClampNeg).resolve_left ha) rfl ((up2_n _ _ _ _ (fun q => absurd (congrArg (fun r : rb_R => r.2.1) q.1) (show ¬ ((6 : Nat) = 27) by decide))).trans (rfl)) ?_
    refine rb_iconst C dX8_makesContact_38 (v := 1) (by decide) ?_
    refine rb_isub C dX8_makesContact_39 ?_
    refine rw_iast C 6 (W (14, 19, 0) s.toNatClampNeg).toNatClampNeg dX8_makesContact_40 rfl (hm.2 6 (by decide)) ((hM.2.2.1 s.toNatClampNeg).resolve_left ha) rfl ?_
    exact rb_vret C E dX8_makesContact_41 (Nat.le_of_ble_eq_true rfl) (Nat.le_of_ble_eq_true rfl) (pw_ ((if_neg h28).trans (rfl)))
end
